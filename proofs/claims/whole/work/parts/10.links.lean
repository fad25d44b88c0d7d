theorem tb_m1 {i : Nat} {w : Cond} (h : tables_1_1[i]? = some w) : w ∈ lw_tbl := List.mem_append_right _ (List.mem_append_left _ (List.mem_of_getElem? h))
theorem tb_s1 {q : MethodName × Nat} {i : Nat} (h : lw_privs_1[i]? = some q) : Cond.selects q.1.cls q.1 q.1 ∈ lw_tbl := List.mem_append_left _ (List.mem_map.mpr ⟨q, List.mem_append_left _ (List.mem_of_getElem? h), rfl⟩)
theorem tb_m2 {i : Nat} {w : Cond} (h : tables_1_2[i]? = some w) : w ∈ lw_tbl := List.mem_append_right _ (List.mem_append_right _ (List.mem_append_left _ (List.mem_of_getElem? h)))
theorem tb_s2 {q : MethodName × Nat} {i : Nat} (h : lw_privs_2[i]? = some q) : Cond.selects q.1.cls q.1 q.1 ∈ lw_tbl := List.mem_append_left _ (List.mem_map.mpr ⟨q, List.mem_append_right _ (List.mem_append_left _ (List.mem_of_getElem? h)), rfl⟩)
theorem tb_m3 {i : Nat} {w : Cond} (h : tables_1_3[i]? = some w) : w ∈ lw_tbl := List.mem_append_right _ (List.mem_append_right _ (List.mem_append_right _ (List.mem_append_left _ (List.mem_of_getElem? h))))
theorem tb_s3 {q : MethodName × Nat} {i : Nat} (h : lw_privs_3[i]? = some q) : Cond.selects q.1.cls q.1 q.1 ∈ lw_tbl := List.mem_append_left _ (List.mem_map.mpr ⟨q, List.mem_append_right _ (List.mem_append_right _ (List.mem_append_left _ (List.mem_of_getElem? h))), rfl⟩)
theorem tb_m4 {i : Nat} {w : Cond} (h : tables_1_4[i]? = some w) : w ∈ lw_tbl := List.mem_append_right _ (List.mem_append_right _ (List.mem_append_right _ (List.mem_append_right _ (List.mem_append_left _ (List.mem_of_getElem? h)))))
theorem tb_s4 {q : MethodName × Nat} {i : Nat} (h : lw_privs_4[i]? = some q) : Cond.selects q.1.cls q.1 q.1 ∈ lw_tbl := List.mem_append_left _ (List.mem_map.mpr ⟨q, List.mem_append_right _ (List.mem_append_right _ (List.mem_append_right _ (List.mem_append_left _ (List.mem_of_getElem? h)))), rfl⟩)
theorem tb_m5 {i : Nat} {w : Cond} (h : tables_1_5[i]? = some w) : w ∈ lw_tbl := List.mem_append_right _ (List.mem_append_right _ (List.mem_append_right _ (List.mem_append_right _ (List.mem_append_right _ (List.mem_append_left _ (List.mem_of_getElem? h))))))
theorem tb_s5 {q : MethodName × Nat} {i : Nat} (h : lw_privs_5[i]? = some q) : Cond.selects q.1.cls q.1 q.1 ∈ lw_tbl := List.mem_append_left _ (List.mem_map.mpr ⟨q, List.mem_append_right _ (List.mem_append_right _ (List.mem_append_right _ (List.mem_append_right _ (List.mem_append_left _ (List.mem_of_getElem? h))))), rfl⟩)
theorem tb_m6 {i : Nat} {w : Cond} (h : tables_1_6[i]? = some w) : w ∈ lw_tbl := List.mem_append_right _ (List.mem_append_right _ (List.mem_append_right _ (List.mem_append_right _ (List.mem_append_right _ (List.mem_append_right _ (List.mem_of_getElem? h))))))
theorem tb_s6 {q : MethodName × Nat} {i : Nat} (h : lw_privs_6[i]? = some q) : Cond.selects q.1.cls q.1 q.1 ∈ lw_tbl := List.mem_append_left _ (List.mem_map.mpr ⟨q, List.mem_append_right _ (List.mem_append_right _ (List.mem_append_right _ (List.mem_append_right _ (List.mem_append_right _ (List.mem_of_getElem? h))))), rfl⟩)
theorem inG {big : List Cond} (hb : ∀ {i : Nat} {w : Cond}, big[i]? = some w → w ∈ lw_tbl) {ws : List Cond} (ps : List Nat) (h : ps.map (fun i => big[i]?) = ws.map some) (hg : ws.all goodWord = true) : ∀ w ∈ ws, w ∈ gtb := by
  intro w hw
  refine gtb_of ?_ (List.all_eq_true.mp hg w hw)
  have h1 : some w ∈ ws.map some := List.mem_map.mpr ⟨w, hw, rfl⟩
  rw [← h] at h1
  obtain ⟨i, -, hi⟩ := List.mem_map.mp h1
  exact hb hi
theorem cl_0 : clsOK 0 RX0 TX0 8 := ⟨rfl, inG tb_m1 [204, 206, 208, 210, 212, 214, 216, 218] (by decide +kernel) (by decide +kernel), ⟨tyX0, tyX0_ok⟩, nmX0⟩
theorem cl_1 : clsOK 1 RX1 TX1 7 := ⟨rfl, inG tb_m1 [172, 174, 176, 178, 180, 182, 184] (by decide +kernel) (by decide +kernel), ⟨tyX1, tyX1_ok⟩, nmX1⟩
theorem cl_2 : clsOK 2 RX2 TX2 14 := ⟨rfl, inG tb_m2 [11, 13, 15, 17, 19, 21, 23, 25, 27, 29, 31, 33, 35, 37] (by decide +kernel) (by decide +kernel), ⟨tyX2, tyX2_ok⟩, nmX2⟩
theorem cl_3 : clsOK 3 RX3 TX3 7 := ⟨rfl, inG tb_m1 [99, 101, 103, 105, 107, 109, 111] (by decide +kernel) (by decide +kernel), ⟨tyX3, tyX3_ok⟩, nmX3⟩
theorem cl_4 : clsOK 4 RX4 TX4 11 := ⟨rfl, inG tb_m1 [131, 133, 135, 137, 139, 141, 143, 145, 147, 149, 151] (by decide +kernel) (by decide +kernel), ⟨tyX4, tyX4_ok⟩, nmX4⟩
theorem cl_5 : clsOK 5 RX5 TX5 6 := ⟨rfl, inG tb_m1 [45, 47, 49, 51, 53, 55] (by decide +kernel) (by decide +kernel), ⟨tyX5, tyX5_ok⟩, nmX5⟩
theorem cl_6 : clsOK 6 RX6 TX6 16 := ⟨rfl, inG tb_m2 [57, 59, 61, 63, 65, 67, 69, 71, 73, 75, 77, 79, 81, 83, 85, 87] (by decide +kernel) (by decide +kernel), ⟨tyX6, tyX6_ok⟩, nmX6⟩
theorem cl_7 : clsOK 7 RX7 TX7 30 := ⟨rfl, inG tb_m4 [122, 124, 126, 128, 130, 132, 134, 136, 138, 140, 142, 144, 146, 148, 150, 152, 154, 156, 158, 160, 162, 164, 166, 168, 170, 172, 174, 176, 178, 180] (by decide +kernel) (by decide +kernel), ⟨tyX7, tyX7_ok⟩, nmX7⟩
theorem fl_X5_27 : FLk RX5 27 5 0 RX5 TX5 6 := ⟨cl_5, by decide, rfl, Or.inl (gtb_of (tb_m1 (i := 29) rfl) rfl)⟩
theorem fl_X1_41 : FLk RX1 41 5 0 RX5 TX5 6 := ⟨cl_5, by decide, rfl, Or.inr ⟨"DropCapitals", tb_m1 (i := 30) rfl⟩⟩
theorem fl_X4_42 : FLk RX4 42 5 0 RX5 TX5 6 := ⟨cl_5, by decide, rfl, Or.inr ⟨"DropCapitals", tb_m1 (i := 31) rfl⟩⟩
theorem fl_X6_112 : FLk RX6 112 5 0 RX5 TX5 6 := ⟨cl_5, by decide, rfl, Or.inr ⟨"DropCapitals", tb_m1 (i := 32) rfl⟩⟩
theorem fl_X5_9 : FLk RX5 9 5 1 RX5 TX5 6 := ⟨cl_5, by decide, rfl, Or.inl (gtb_of (tb_m1 (i := 33) rfl) rfl)⟩
theorem fl_X6_143 : FLk RX6 143 5 1 RX5 TX5 6 := ⟨cl_5, by decide, rfl, Or.inr ⟨"DropCapitals", tb_m1 (i := 34) rfl⟩⟩
theorem fl_X5_15 : FLk RX5 15 5 2 RX5 TX5 6 := ⟨cl_5, by decide, rfl, Or.inl (gtb_of (tb_m1 (i := 35) rfl) rfl)⟩
theorem fl_X1_46 : FLk RX1 46 5 2 RX5 TX5 6 := ⟨cl_5, by decide, rfl, Or.inr ⟨"DropCapitals", tb_m1 (i := 36) rfl⟩⟩
theorem fl_X6_146 : FLk RX6 146 5 2 RX5 TX5 6 := ⟨cl_5, by decide, rfl, Or.inr ⟨"DropCapitals", tb_m1 (i := 37) rfl⟩⟩
theorem fl_X5_18 : FLk RX5 18 5 3 RX5 TX5 6 := ⟨cl_5, by decide, rfl, Or.inl (gtb_of (tb_m1 (i := 38) rfl) rfl)⟩
theorem fl_X1_55 : FLk RX1 55 5 3 RX5 TX5 6 := ⟨cl_5, by decide, rfl, Or.inr ⟨"DropCapitals", tb_m1 (i := 39) rfl⟩⟩
theorem fl_X6_149 : FLk RX6 149 5 3 RX5 TX5 6 := ⟨cl_5, by decide, rfl, Or.inr ⟨"DropCapitals", tb_m1 (i := 40) rfl⟩⟩
theorem fl_X5_21 : FLk RX5 21 5 4 RX5 TX5 6 := ⟨cl_5, by decide, rfl, Or.inl (gtb_of (tb_m1 (i := 41) rfl) rfl)⟩
theorem fl_X1_57 : FLk RX1 57 5 4 RX5 TX5 6 := ⟨cl_5, by decide, rfl, Or.inr ⟨"DropCapitals", tb_m1 (i := 42) rfl⟩⟩
theorem fl_X5_24 : FLk RX5 24 5 5 RX5 TX5 6 := ⟨cl_5, by decide, rfl, Or.inl (gtb_of (tb_m1 (i := 43) rfl) rfl)⟩
theorem fl_X1_60 : FLk RX1 60 5 5 RX5 TX5 6 := ⟨cl_5, by decide, rfl, Or.inr ⟨"DropCapitals", tb_m1 (i := 44) rfl⟩⟩
theorem sl_X3_24 : SLk RX3 24 2 := ⟨by decide, Or.inr ⟨"DropCapitals", tb_m1 (i := 66) rfl⟩⟩
theorem fl_X3_35 : FLk RX3 35 3 0 RX3 TX3 7 := ⟨cl_3, by decide, rfl, Or.inl (gtb_of (tb_m1 (i := 75) rfl) rfl)⟩
theorem fl_X2_65 : FLk RX2 65 3 0 RX3 TX3 7 := ⟨cl_3, by decide, rfl, Or.inr ⟨"DropCapitals", tb_m1 (i := 76) rfl⟩⟩
theorem fl_X4_85 : FLk RX4 85 3 0 RX3 TX3 7 := ⟨cl_3, by decide, rfl, Or.inr ⟨"DropCapitals", tb_m1 (i := 77) rfl⟩⟩
theorem fl_X6_115 : FLk RX6 115 3 0 RX3 TX3 7 := ⟨cl_3, by decide, rfl, Or.inr ⟨"DropCapitals", tb_m1 (i := 78) rfl⟩⟩
theorem fl_X0_27 : FLk RX0 27 3 1 RX3 TX3 7 := ⟨cl_3, by decide, rfl, Or.inr ⟨"DropCapitals", tb_m1 (i := 79) rfl⟩⟩
theorem fl_X3_39 : FLk RX3 39 3 1 RX3 TX3 7 := ⟨cl_3, by decide, rfl, Or.inl (gtb_of (tb_m1 (i := 80) rfl) rfl)⟩
theorem fl_X6_116 : FLk RX6 116 3 1 RX3 TX3 7 := ⟨cl_3, by decide, rfl, Or.inr ⟨"DropCapitals", tb_m1 (i := 81) rfl⟩⟩
theorem fl_X4_133 : FLk RX4 133 3 1 RX3 TX3 7 := ⟨cl_3, by decide, rfl, Or.inr ⟨"DropCapitals", tb_m1 (i := 82) rfl⟩⟩
theorem fl_X3_9 : FLk RX3 9 3 2 RX3 TX3 7 := ⟨cl_3, by decide, rfl, Or.inl (gtb_of (tb_m1 (i := 83) rfl) rfl)⟩
theorem fl_X0_33 : FLk RX0 33 3 2 RX3 TX3 7 := ⟨cl_3, by decide, rfl, Or.inr ⟨"DropCapitals", tb_m1 (i := 84) rfl⟩⟩
theorem fl_X3_15 : FLk RX3 15 3 3 RX3 TX3 7 := ⟨cl_3, by decide, rfl, Or.inl (gtb_of (tb_m1 (i := 85) rfl) rfl)⟩
theorem fl_X2_111 : FLk RX2 111 3 3 RX3 TX3 7 := ⟨cl_3, by decide, rfl, Or.inr ⟨"DropCapitals", tb_m1 (i := 86) rfl⟩⟩
theorem fl_X6_164 : FLk RX6 164 3 3 RX3 TX3 7 := ⟨cl_3, by decide, rfl, Or.inr ⟨"DropCapitals", tb_m1 (i := 87) rfl⟩⟩
theorem fl_X3_18 : FLk RX3 18 3 4 RX3 TX3 7 := ⟨cl_3, by decide, rfl, Or.inl (gtb_of (tb_m1 (i := 88) rfl) rfl)⟩
theorem fl_X1_29 : FLk RX1 29 3 4 RX3 TX3 7 := ⟨cl_3, by decide, rfl, Or.inr ⟨"DropCapitals", tb_m1 (i := 89) rfl⟩⟩
theorem fl_X6_167 : FLk RX6 167 3 4 RX3 TX3 7 := ⟨cl_3, by decide, rfl, Or.inr ⟨"DropCapitals", tb_m1 (i := 90) rfl⟩⟩
theorem fl_X3_21 : FLk RX3 21 3 5 RX3 TX3 7 := ⟨cl_3, by decide, rfl, Or.inl (gtb_of (tb_m1 (i := 91) rfl) rfl)⟩
theorem fl_X1_49 : FLk RX1 49 3 5 RX3 TX3 7 := ⟨cl_3, by decide, rfl, Or.inr ⟨"DropCapitals", tb_m1 (i := 92) rfl⟩⟩
theorem fl_X6_170 : FLk RX6 170 3 5 RX3 TX3 7 := ⟨cl_3, by decide, rfl, Or.inr ⟨"DropCapitals", tb_m1 (i := 93) rfl⟩⟩
theorem fl_X3_32 : FLk RX3 32 3 6 RX3 TX3 7 := ⟨cl_3, by decide, rfl, Or.inl (gtb_of (tb_m1 (i := 94) rfl) rfl)⟩
theorem fl_X1_52 : FLk RX1 52 3 6 RX3 TX3 7 := ⟨cl_3, by decide, rfl, Or.inr ⟨"DropCapitals", tb_m1 (i := 95) rfl⟩⟩
theorem fl_X2_80 : FLk RX2 80 3 6 RX3 TX3 7 := ⟨cl_3, by decide, rfl, Or.inr ⟨"DropCapitals", tb_m1 (i := 96) rfl⟩⟩
theorem fl_X4_104 : FLk RX4 104 3 6 RX3 TX3 7 := ⟨cl_3, by decide, rfl, Or.inr ⟨"DropCapitals", tb_m1 (i := 97) rfl⟩⟩
theorem fl_X6_108 : FLk RX6 108 3 6 RX3 TX3 7 := ⟨cl_3, by decide, rfl, Or.inr ⟨"DropCapitals", tb_m1 (i := 98) rfl⟩⟩
theorem fl_X4_9 : FLk RX4 9 4 0 RX4 TX4 11 := ⟨cl_4, by decide, rfl, Or.inl (gtb_of (tb_m1 (i := 120) rfl) rfl)⟩
theorem fl_X4_15 : FLk RX4 15 4 1 RX4 TX4 11 := ⟨cl_4, by decide, rfl, Or.inl (gtb_of (tb_m1 (i := 121) rfl) rfl)⟩
theorem fl_X4_19 : FLk RX4 19 4 2 RX4 TX4 11 := ⟨cl_4, by decide, rfl, Or.inl (gtb_of (tb_m1 (i := 122) rfl) rfl)⟩
theorem fl_X4_33 : FLk RX4 33 4 3 RX4 TX4 11 := ⟨cl_4, by decide, rfl, Or.inl (gtb_of (tb_m1 (i := 123) rfl) rfl)⟩
theorem fl_X4_36 : FLk RX4 36 4 4 RX4 TX4 11 := ⟨cl_4, by decide, rfl, Or.inl (gtb_of (tb_m1 (i := 124) rfl) rfl)⟩
theorem fl_X4_55 : FLk RX4 55 4 5 RX4 TX4 11 := ⟨cl_4, by decide, rfl, Or.inl (gtb_of (tb_m1 (i := 125) rfl) rfl)⟩
theorem fl_X4_62 : FLk RX4 62 4 6 RX4 TX4 11 := ⟨cl_4, by decide, rfl, Or.inl (gtb_of (tb_m1 (i := 126) rfl) rfl)⟩
theorem fl_X4_110 : FLk RX4 110 4 7 RX4 TX4 11 := ⟨cl_4, by decide, rfl, Or.inl (gtb_of (tb_m1 (i := 127) rfl) rfl)⟩
theorem fl_X4_107 : FLk RX4 107 4 8 RX4 TX4 11 := ⟨cl_4, by decide, rfl, Or.inl (gtb_of (tb_m1 (i := 128) rfl) rfl)⟩
theorem fl_X4_39 : FLk RX4 39 4 9 RX4 TX4 11 := ⟨cl_4, by decide, rfl, Or.inl (gtb_of (tb_m1 (i := 129) rfl) rfl)⟩
theorem fl_X4_23 : FLk RX4 23 4 10 RX4 TX4 11 := ⟨cl_4, by decide, rfl, Or.inl (gtb_of (tb_m1 (i := 130) rfl) rfl)⟩
theorem fl_X1_21 : FLk RX1 21 1 0 RX1 TX1 7 := ⟨cl_1, by decide, rfl, Or.inl (gtb_of (tb_m1 (i := 160) rfl) rfl)⟩
theorem fl_X1_25 : FLk RX1 25 1 1 RX1 TX1 7 := ⟨cl_1, by decide, rfl, Or.inl (gtb_of (tb_m1 (i := 161) rfl) rfl)⟩
theorem fl_X1_34 : FLk RX1 34 1 2 RX1 TX1 7 := ⟨cl_1, by decide, rfl, Or.inl (gtb_of (tb_m1 (i := 162) rfl) rfl)⟩
theorem fl_X6_282 : FLk RX6 282 1 2 RX1 TX1 7 := ⟨cl_1, by decide, rfl, Or.inr ⟨"DropCapitals", tb_m1 (i := 163) rfl⟩⟩
theorem fl_X1_38 : FLk RX1 38 1 3 RX1 TX1 7 := ⟨cl_1, by decide, rfl, Or.inl (gtb_of (tb_m1 (i := 164) rfl) rfl)⟩
theorem fl_X6_204 : FLk RX6 204 1 3 RX1 TX1 7 := ⟨cl_1, by decide, rfl, Or.inr ⟨"DropCapitals", tb_m1 (i := 165) rfl⟩⟩
theorem fl_X1_9 : FLk RX1 9 1 4 RX1 TX1 7 := ⟨cl_1, by decide, rfl, Or.inl (gtb_of (tb_m1 (i := 166) rfl) rfl)⟩
theorem fl_X6_206 : FLk RX6 206 1 4 RX1 TX1 7 := ⟨cl_1, by decide, rfl, Or.inr ⟨"DropCapitals", tb_m1 (i := 167) rfl⟩⟩
theorem fl_X1_15 : FLk RX1 15 1 5 RX1 TX1 7 := ⟨cl_1, by decide, rfl, Or.inl (gtb_of (tb_m1 (i := 168) rfl) rfl)⟩
theorem fl_X6_209 : FLk RX6 209 1 5 RX1 TX1 7 := ⟨cl_1, by decide, rfl, Or.inr ⟨"DropCapitals", tb_m1 (i := 169) rfl⟩⟩
theorem fl_X1_18 : FLk RX1 18 1 6 RX1 TX1 7 := ⟨cl_1, by decide, rfl, Or.inl (gtb_of (tb_m1 (i := 170) rfl) rfl)⟩
theorem fl_X6_212 : FLk RX6 212 1 6 RX1 TX1 7 := ⟨cl_1, by decide, rfl, Or.inr ⟨"DropCapitals", tb_m1 (i := 171) rfl⟩⟩
theorem fl_X0_9 : FLk RX0 9 0 0 RX0 TX0 8 := ⟨cl_0, by decide, rfl, Or.inl (gtb_of (tb_m1 (i := 193) rfl) rfl)⟩
theorem fl_X2_131 : FLk RX2 131 0 0 RX0 TX0 8 := ⟨cl_0, by decide, rfl, Or.inr ⟨"DropCapitals", tb_m1 (i := 194) rfl⟩⟩
theorem fl_X0_15 : FLk RX0 15 0 1 RX0 TX0 8 := ⟨cl_0, by decide, rfl, Or.inl (gtb_of (tb_m1 (i := 195) rfl) rfl)⟩
theorem fl_X2_117 : FLk RX2 117 0 1 RX0 TX0 8 := ⟨cl_0, by decide, rfl, Or.inr ⟨"DropCapitals", tb_m1 (i := 196) rfl⟩⟩
theorem fl_X0_18 : FLk RX0 18 0 2 RX0 TX0 8 := ⟨cl_0, by decide, rfl, Or.inl (gtb_of (tb_m1 (i := 197) rfl) rfl)⟩
theorem fl_X2_124 : FLk RX2 124 0 2 RX0 TX0 8 := ⟨cl_0, by decide, rfl, Or.inr ⟨"DropCapitals", tb_m1 (i := 198) rfl⟩⟩
theorem fl_X0_21 : FLk RX0 21 0 3 RX0 TX0 8 := ⟨cl_0, by decide, rfl, Or.inl (gtb_of (tb_m1 (i := 199) rfl) rfl)⟩
theorem fl_X0_24 : FLk RX0 24 0 4 RX0 TX0 8 := ⟨cl_0, by decide, rfl, Or.inl (gtb_of (tb_m1 (i := 200) rfl) rfl)⟩
theorem fl_X0_40 : FLk RX0 40 0 5 RX0 TX0 8 := ⟨cl_0, by decide, rfl, Or.inl (gtb_of (tb_m1 (i := 201) rfl) rfl)⟩
theorem fl_X0_43 : FLk RX0 43 0 6 RX0 TX0 8 := ⟨cl_0, by decide, rfl, Or.inl (gtb_of (tb_m1 (i := 202) rfl) rfl)⟩
theorem fl_X0_45 : FLk RX0 45 0 7 RX0 TX0 8 := ⟨cl_0, by decide, rfl, Or.inl (gtb_of (tb_m1 (i := 203) rfl) rfl)⟩
theorem fl_X2_43 : FLk RX2 43 2 0 RX2 TX2 14 := ⟨cl_2, by decide, rfl, Or.inl (gtb_of (tb_m1 (i := 227) rfl) rfl)⟩
theorem fl_X2_47 : FLk RX2 47 2 1 RX2 TX2 14 := ⟨cl_2, by decide, rfl, Or.inl (gtb_of (tb_m1 (i := 228) rfl) rfl)⟩
theorem fl_X2_51 : FLk RX2 51 2 2 RX2 TX2 14 := ⟨cl_2, by decide, rfl, Or.inl (gtb_of (tb_m1 (i := 229) rfl) rfl)⟩
theorem fl_X2_55 : FLk RX2 55 2 3 RX2 TX2 14 := ⟨cl_2, by decide, rfl, Or.inl (gtb_of (tb_m1 (i := 230) rfl) rfl)⟩
theorem fl_X6_126 : FLk RX6 126 2 3 RX2 TX2 14 := ⟨cl_2, by decide, rfl, Or.inr ⟨"DropCapitals", tb_m1 (i := 231) rfl⟩⟩
theorem fl_X2_9 : FLk RX2 9 2 4 RX2 TX2 14 := ⟨cl_2, by decide, rfl, Or.inl (gtb_of (tb_m1 (i := 232) rfl) rfl)⟩
theorem fl_X6_285 : FLk RX6 285 2 4 RX2 TX2 14 := ⟨cl_2, by decide, rfl, Or.inr ⟨"DropCapitals", tb_m1 (i := 233) rfl⟩⟩
theorem fl_X2_15 : FLk RX2 15 2 5 RX2 TX2 14 := ⟨cl_2, by decide, rfl, Or.inl (gtb_of (tb_m1 (i := 234) rfl) rfl)⟩
theorem fl_X6_286 : FLk RX6 286 2 5 RX2 TX2 14 := ⟨cl_2, by decide, rfl, Or.inr ⟨"DropCapitals", tb_m1 (i := 235) rfl⟩⟩
theorem fl_X2_18 : FLk RX2 18 2 6 RX2 TX2 14 := ⟨cl_2, by decide, rfl, Or.inl (gtb_of (tb_m1 (i := 236) rfl) rfl)⟩
theorem fl_X2_21 : FLk RX2 21 2 7 RX2 TX2 14 := ⟨cl_2, by decide, rfl, Or.inl (gtb_of (tb_m1 (i := 237) rfl) rfl)⟩
theorem fl_X6_221 : FLk RX6 221 2 7 RX2 TX2 14 := ⟨cl_2, by decide, rfl, Or.inr ⟨"DropCapitals", tb_m1 (i := 238) rfl⟩⟩
theorem fl_X2_24 : FLk RX2 24 2 8 RX2 TX2 14 := ⟨cl_2, by decide, rfl, Or.inl (gtb_of (tb_m1 (i := 239) rfl) rfl)⟩
theorem fl_X6_224 : FLk RX6 224 2 8 RX2 TX2 14 := ⟨cl_2, by decide, rfl, Or.inr ⟨"DropCapitals", tb_m2 (i := 0) rfl⟩⟩
theorem fl_X2_27 : FLk RX2 27 2 9 RX2 TX2 14 := ⟨cl_2, by decide, rfl, Or.inl (gtb_of (tb_m2 (i := 1) rfl) rfl)⟩
theorem fl_X6_227 : FLk RX6 227 2 9 RX2 TX2 14 := ⟨cl_2, by decide, rfl, Or.inr ⟨"DropCapitals", tb_m2 (i := 2) rfl⟩⟩
theorem fl_X2_30 : FLk RX2 30 2 10 RX2 TX2 14 := ⟨cl_2, by decide, rfl, Or.inl (gtb_of (tb_m2 (i := 3) rfl) rfl)⟩
theorem fl_X6_230 : FLk RX6 230 2 10 RX2 TX2 14 := ⟨cl_2, by decide, rfl, Or.inr ⟨"DropCapitals", tb_m2 (i := 4) rfl⟩⟩
theorem fl_X2_33 : FLk RX2 33 2 11 RX2 TX2 14 := ⟨cl_2, by decide, rfl, Or.inl (gtb_of (tb_m2 (i := 5) rfl) rfl)⟩
theorem fl_X6_233 : FLk RX6 233 2 11 RX2 TX2 14 := ⟨cl_2, by decide, rfl, Or.inr ⟨"DropCapitals", tb_m2 (i := 6) rfl⟩⟩
theorem fl_X2_36 : FLk RX2 36 2 12 RX2 TX2 14 := ⟨cl_2, by decide, rfl, Or.inl (gtb_of (tb_m2 (i := 7) rfl) rfl)⟩
theorem fl_X6_236 : FLk RX6 236 2 12 RX2 TX2 14 := ⟨cl_2, by decide, rfl, Or.inr ⟨"DropCapitals", tb_m2 (i := 8) rfl⟩⟩
theorem fl_X2_39 : FLk RX2 39 2 13 RX2 TX2 14 := ⟨cl_2, by decide, rfl, Or.inl (gtb_of (tb_m2 (i := 9) rfl) rfl)⟩
theorem fl_X6_242 : FLk RX6 242 2 13 RX2 TX2 14 := ⟨cl_2, by decide, rfl, Or.inr ⟨"DropCapitals", tb_m2 (i := 10) rfl⟩⟩
theorem fl_X6_9 : FLk RX6 9 6 0 RX6 TX6 16 := ⟨cl_6, by decide, rfl, Or.inl (gtb_of (tb_m2 (i := 41) rfl) rfl)⟩
theorem fl_X6_80 : FLk RX6 80 6 1 RX6 TX6 16 := ⟨cl_6, by decide, rfl, Or.inl (gtb_of (tb_m2 (i := 42) rfl) rfl)⟩
theorem fl_X6_16 : FLk RX6 16 6 2 RX6 TX6 16 := ⟨cl_6, by decide, rfl, Or.inl (gtb_of (tb_m2 (i := 43) rfl) rfl)⟩
theorem fl_X6_23 : FLk RX6 23 6 3 RX6 TX6 16 := ⟨cl_6, by decide, rfl, Or.inl (gtb_of (tb_m2 (i := 44) rfl) rfl)⟩
theorem fl_X6_27 : FLk RX6 27 6 4 RX6 TX6 16 := ⟨cl_6, by decide, rfl, Or.inl (gtb_of (tb_m2 (i := 45) rfl) rfl)⟩
theorem fl_X6_30 : FLk RX6 30 6 5 RX6 TX6 16 := ⟨cl_6, by decide, rfl, Or.inl (gtb_of (tb_m2 (i := 46) rfl) rfl)⟩
theorem fl_X6_38 : FLk RX6 38 6 6 RX6 TX6 16 := ⟨cl_6, by decide, rfl, Or.inl (gtb_of (tb_m2 (i := 47) rfl) rfl)⟩
theorem fl_X6_47 : FLk RX6 47 6 7 RX6 TX6 16 := ⟨cl_6, by decide, rfl, Or.inl (gtb_of (tb_m2 (i := 48) rfl) rfl)⟩
theorem fl_X6_54 : FLk RX6 54 6 8 RX6 TX6 16 := ⟨cl_6, by decide, rfl, Or.inl (gtb_of (tb_m2 (i := 49) rfl) rfl)⟩
theorem fl_X6_63 : FLk RX6 63 6 9 RX6 TX6 16 := ⟨cl_6, by decide, rfl, Or.inl (gtb_of (tb_m2 (i := 50) rfl) rfl)⟩
theorem fl_X6_67 : FLk RX6 67 6 10 RX6 TX6 16 := ⟨cl_6, by decide, rfl, Or.inl (gtb_of (tb_m2 (i := 51) rfl) rfl)⟩
theorem fl_X6_70 : FLk RX6 70 6 11 RX6 TX6 16 := ⟨cl_6, by decide, rfl, Or.inl (gtb_of (tb_m2 (i := 52) rfl) rfl)⟩
theorem fl_X6_74 : FLk RX6 74 6 12 RX6 TX6 16 := ⟨cl_6, by decide, rfl, Or.inl (gtb_of (tb_m2 (i := 53) rfl) rfl)⟩
theorem fl_X6_77 : FLk RX6 77 6 13 RX6 TX6 16 := ⟨cl_6, by decide, rfl, Or.inl (gtb_of (tb_m2 (i := 54) rfl) rfl)⟩
theorem fl_X6_102 : FLk RX6 102 6 14 RX6 TX6 16 := ⟨cl_6, by decide, rfl, Or.inl (gtb_of (tb_m2 (i := 55) rfl) rfl)⟩
theorem fl_X6_105 : FLk RX6 105 6 15 RX6 TX6 16 := ⟨cl_6, by decide, rfl, Or.inl (gtb_of (tb_m2 (i := 56) rfl) rfl)⟩
theorem cbX6_feed : CBk yX6_feed cX6_feed 2 (some .int) 1 := ⟨gtb_of (tb_m1 (i := 1) rfl) rfl, gtb_of (tb_m2 (i := 93) rfl) rfl, by decide +kernel, by decide +kernel, by decide +kernel, by decide⟩
theorem mv_L_13 : MVk RL 13 yX6_feed cX6_feed 2 (some .int) 1 6 := ⟨gtb_of (tb_m2 (i := 90) rfl) rfl, gtb_of (tb_m2 (i := 91) rfl) rfl, gtb_of (tb_m2 (i := 92) rfl) rfl, cbX6_feed, _, _, rfl⟩
theorem cbX6_end : CBk yX6_end cX6_end 3 (some .int) 1 := ⟨gtb_of (tb_m1 (i := 1) rfl) rfl, gtb_of (tb_m2 (i := 97) rfl) rfl, by decide +kernel, by decide +kernel, by decide +kernel, by decide⟩
theorem mv_L_18 : MVk RL 18 yX6_end cX6_end 3 (some .int) 1 6 := ⟨gtb_of (tb_m2 (i := 94) rfl) rfl, gtb_of (tb_m2 (i := 95) rfl) rfl, gtb_of (tb_m2 (i := 96) rfl) rfl, cbX6_end, _, _, rfl⟩
theorem cbX6_text : CBk yX6_text cX6_text 2 (some .int) 0 := ⟨gtb_of (tb_m1 (i := 1) rfl) rfl, gtb_of (tb_m2 (i := 101) rfl) rfl, by decide +kernel, by decide +kernel, by decide +kernel, by decide⟩
theorem mv_L_22 : MVk RL 22 yX6_text cX6_text 2 (some .int) 0 6 := ⟨gtb_of (tb_m2 (i := 98) rfl) rfl, gtb_of (tb_m2 (i := 99) rfl) rfl, gtb_of (tb_m2 (i := 100) rfl) rfl, cbX6_text, _, _, rfl⟩
theorem cbX3_takeSettings : CBk yX3_takeSettings cX3_takeSettings 2 none 1 := ⟨gtb_of (tb_m1 (i := 3) rfl) rfl, gtb_of (tb_m2 (i := 105) rfl) rfl, by decide +kernel, by decide +kernel, by decide +kernel, by decide⟩
theorem mv_X6_84 : MVk RX6 84 yX3_takeSettings cX3_takeSettings 2 none 1 3 := ⟨gtb_of (tb_m2 (i := 102) rfl) rfl, gtb_of (tb_m2 (i := 103) rfl) rfl, gtb_of (tb_m2 (i := 104) rfl) rfl, cbX3_takeSettings, _, _, rfl⟩
theorem cp_X3_42 : CPk RX3 42 := ⟨gtb_of (tb_m2 (i := 106) rfl) rfl, gtb_of (tb_m2 (i := 108) rfl) rfl, gtb_of (tb_m2 (i := 107) rfl) rfl, gtb_of (tb_m1 (i := 9) rfl) rfl⟩
theorem cbX4_readAll : CBk yX4_readAll cX4_readAll 3 (some .int) 1 := ⟨gtb_of (tb_m1 (i := 4) rfl) rfl, gtb_of (tb_m2 (i := 112) rfl) rfl, by decide +kernel, by decide +kernel, by decide +kernel, by decide⟩
theorem mv_X6_88 : MVk RX6 88 yX4_readAll cX4_readAll 3 (some .int) 1 4 := ⟨gtb_of (tb_m2 (i := 109) rfl) rfl, gtb_of (tb_m2 (i := 110) rfl) rfl, gtb_of (tb_m2 (i := 111) rfl) rfl, cbX4_readAll, _, _, rfl⟩
theorem mx_X4_27 : MXk RX4 27 false := ⟨gtb_of (tb_m2 (i := 113) rfl) rfl, gtb_of (tb_m2 (i := 114) rfl) rfl, gtb_of (tb_m1 (i := 10) rfl) rfl, gtb_of (tb_m2 (i := 115) rfl) rfl⟩
theorem cbX3_empty : CBk yX3_empty cX3_empty 1 none 0 := ⟨gtb_of (tb_m1 (i := 3) rfl) rfl, gtb_of (tb_m2 (i := 119) rfl) rfl, by decide +kernel, by decide +kernel, by decide +kernel, by decide⟩
theorem mv_X4_47 : MVk RX4 47 yX3_empty cX3_empty 1 none 0 3 := ⟨gtb_of (tb_m2 (i := 116) rfl) rfl, gtb_of (tb_m2 (i := 117) rfl) rfl, gtb_of (tb_m2 (i := 118) rfl) rfl, cbX3_empty, _, _, rfl⟩
theorem cbX4_advance : CBk yX4_advance cX4_advance 1 none 0 := ⟨gtb_of (tb_m1 (i := 4) rfl) rfl, gtb_of (tb_m2 (i := 123) rfl) rfl, by decide +kernel, by decide +kernel, by decide +kernel, by decide⟩
theorem mv_X4_52 : MVk RX4 52 yX4_advance cX4_advance 1 none 0 4 := ⟨gtb_of (tb_m2 (i := 120) rfl) rfl, gtb_of (tb_m2 (i := 122) rfl) rfl, gtb_of (tb_s1 (i := 0) (q := (yX4_advance, 11)) rfl) rfl, cbX4_advance, _, _, rfl⟩
theorem cbX4_isLetter : CBk yX4_isLetter cX4_isLetter 2 (some .boolean) 1 := ⟨gtb_of (tb_m1 (i := 4) rfl) rfl, gtb_of (tb_m2 (i := 127) rfl) rfl, by decide +kernel, by decide +kernel, by decide +kernel, by decide⟩
theorem mv_X4_143 : MVk RX4 143 yX4_isLetter cX4_isLetter 2 (some .boolean) 1 4 := ⟨gtb_of (tb_m2 (i := 124) rfl) rfl, gtb_of (tb_m2 (i := 126) rfl) rfl, gtb_of (tb_s1 (i := 1) (q := (yX4_isLetter, 11)) rfl) rfl, cbX4_isLetter, _, _, rfl⟩
theorem cbX4_takeFigures : CBk yX4_takeFigures cX4_takeFigures 1 none 0 := ⟨gtb_of (tb_m1 (i := 4) rfl) rfl, gtb_of (tb_m2 (i := 131) rfl) rfl, by decide +kernel, by decide +kernel, by decide +kernel, by decide⟩
theorem mv_X4_146 : MVk RX4 146 yX4_takeFigures cX4_takeFigures 1 none 0 4 := ⟨gtb_of (tb_m2 (i := 128) rfl) rfl, gtb_of (tb_m2 (i := 130) rfl) rfl, gtb_of (tb_s1 (i := 2) (q := (yX4_takeFigures, 11)) rfl) rfl, cbX4_takeFigures, _, _, rfl⟩
theorem cbX4_readLine : CBk yX4_readLine cX4_readLine 1 (some .boolean) 0 := ⟨gtb_of (tb_m1 (i := 4) rfl) rfl, gtb_of (tb_m2 (i := 135) rfl) rfl, by decide +kernel, by decide +kernel, by decide +kernel, by decide⟩
theorem mv_X4_58 : MVk RX4 58 yX4_readLine cX4_readLine 1 (some .boolean) 0 4 := ⟨gtb_of (tb_m2 (i := 132) rfl) rfl, gtb_of (tb_m2 (i := 134) rfl) rfl, gtb_of (tb_s1 (i := 3) (q := (yX4_readLine, 11)) rfl) rfl, cbX4_readLine, _, _, rfl⟩
theorem cbX4_refuse : CBk yX4_refuse cX4_refuse 2 (some .boolean) 1 := ⟨gtb_of (tb_m1 (i := 4) rfl) rfl, gtb_of (tb_m2 (i := 139) rfl) rfl, by decide +kernel, by decide +kernel, by decide +kernel, by decide⟩
theorem mv_X4_65 : MVk RX4 65 yX4_refuse cX4_refuse 2 (some .boolean) 1 4 := ⟨gtb_of (tb_m2 (i := 136) rfl) rfl, gtb_of (tb_m2 (i := 138) rfl) rfl, gtb_of (tb_s1 (i := 4) (q := (yX4_refuse, 11)) rfl) rfl, cbX4_refuse, _, _, rfl⟩
theorem cbX4_isNamed : CBk yX4_isNamed cX4_isNamed 3 (some .boolean) 1 := ⟨gtb_of (tb_m1 (i := 4) rfl) rfl, gtb_of (tb_m2 (i := 144) rfl) rfl, by decide +kernel, by decide +kernel, by decide +kernel, by decide⟩
theorem mv_X4_71 : MVk RX4 71 yX4_isNamed cX4_isNamed 3 (some .boolean) 1 4 := ⟨gtb_of (tb_m2 (i := 141) rfl) rfl, gtb_of (tb_m2 (i := 143) rfl) rfl, gtb_of (tb_s1 (i := 5) (q := (yX4_isNamed, 11)) rfl) rfl, cbX4_isNamed, _, _, rfl⟩
theorem cbJ0_length_8abf5 : CBk yJ0_length_8abf5 cJ0_length_8abf5 1 (some .int) 0 := ⟨gtb_of (tb_m1 (i := 11) rfl) rfl, gtb_of (tb_m2 (i := 148) rfl) rfl, by decide +kernel, by decide +kernel, by decide +kernel, by decide⟩
theorem cbJ0_charAt_5068e : CBk yJ0_charAt_5068e cJ0_charAt_5068e 2 (some .char) 1 := ⟨gtb_of (tb_m1 (i := 11) rfl) rfl, gtb_of (tb_m2 (i := 158) rfl) rfl, by decide +kernel, by decide +kernel, by decide +kernel, by decide⟩
theorem cbX4_readSetting : CBk yX4_readSetting cX4_readSetting 3 (some .boolean) 0 := ⟨gtb_of (tb_m1 (i := 4) rfl) rfl, gtb_of (tb_m2 (i := 196) rfl) rfl, by decide +kernel, by decide +kernel, by decide +kernel, by decide⟩
theorem mv_X4_75 : MVk RX4 75 yX4_readSetting cX4_readSetting 3 (some .boolean) 0 4 := ⟨gtb_of (tb_m2 (i := 193) rfl) rfl, gtb_of (tb_m2 (i := 195) rfl) rfl, gtb_of (tb_s1 (i := 6) (q := (yX4_readSetting, 11)) rfl) rfl, cbX4_readSetting, _, _, rfl⟩
theorem cbX4_settingNamed : CBk yX4_settingNamed cX4_settingNamed 1 (some .int) 0 := ⟨gtb_of (tb_m1 (i := 4) rfl) rfl, gtb_of (tb_m2 (i := 200) rfl) rfl, by decide +kernel, by decide +kernel, by decide +kernel, by decide⟩
theorem mv_X4_89 : MVk RX4 89 yX4_settingNamed cX4_settingNamed 1 (some .int) 0 4 := ⟨gtb_of (tb_m2 (i := 197) rfl) rfl, gtb_of (tb_m2 (i := 199) rfl) rfl, gtb_of (tb_s1 (i := 7) (q := (yX4_settingNamed, 11)) rfl) rfl, cbX4_settingNamed, _, _, rfl⟩
theorem sl_X4_93 : SLk RX4 93 0 := ⟨by decide, Or.inr ⟨"DropCapitals", tb_m2 (i := 207) rfl⟩⟩
theorem sl_X4_97 : SLk RX4 97 1 := ⟨by decide, Or.inr ⟨"DropCapitals", tb_m2 (i := 209) rfl⟩⟩
theorem cbX4_readNumber : CBk yX4_readNumber cX4_readNumber 3 (some .boolean) 2 := ⟨gtb_of (tb_m1 (i := 4) rfl) rfl, gtb_of (tb_m2 (i := 214) rfl) rfl, by decide +kernel, by decide +kernel, by decide +kernel, by decide⟩
theorem mv_X4_100 : MVk RX4 100 yX4_readNumber cX4_readNumber 3 (some .boolean) 2 4 := ⟨gtb_of (tb_m2 (i := 211) rfl) rfl, gtb_of (tb_m2 (i := 213) rfl) rfl, gtb_of (tb_s1 (i := 8) (q := (yX4_readNumber, 11)) rfl) rfl, cbX4_readNumber, _, _, rfl⟩
theorem cbX4_readShape : CBk yX4_readShape cX4_readShape 7 (some .boolean) 0 := ⟨gtb_of (tb_m1 (i := 4) rfl) rfl, gtb_of (tb_m2 (i := 219) rfl) rfl, by decide +kernel, by decide +kernel, by decide +kernel, by decide⟩
theorem mv_X4_80 : MVk RX4 80 yX4_readShape cX4_readShape 7 (some .boolean) 0 4 := ⟨gtb_of (tb_m2 (i := 216) rfl) rfl, gtb_of (tb_m2 (i := 218) rfl) rfl, gtb_of (tb_s1 (i := 9) (q := (yX4_readShape, 11)) rfl) rfl, cbX4_readShape, _, _, rfl⟩
theorem cbX4_letterAt : CBk yX4_letterAt cX4_letterAt 2 (some .int) 1 := ⟨gtb_of (tb_m1 (i := 4) rfl) rfl, gtb_of (tb_m2 (i := 223) rfl) rfl, by decide +kernel, by decide +kernel, by decide +kernel, by decide⟩
theorem mv_X4_113 : MVk RX4 113 yX4_letterAt cX4_letterAt 2 (some .int) 1 4 := ⟨gtb_of (tb_m2 (i := 220) rfl) rfl, gtb_of (tb_m2 (i := 222) rfl) rfl, gtb_of (tb_s1 (i := 10) (q := (yX4_letterAt, 11)) rfl) rfl, cbX4_letterAt, _, _, rfl⟩
theorem cbX5_withSign : CBk yX5_withSign cX5_withSign 3 (some .int) 1 := ⟨gtb_of (tb_m1 (i := 2) rfl) rfl, gtb_of (tb_m2 (i := 227) rfl) rfl, by decide +kernel, by decide +kernel, by decide +kernel, by decide⟩
theorem mv_X4_117 : MVk RX4 117 yX5_withSign cX5_withSign 3 (some .int) 1 5 := ⟨gtb_of (tb_m2 (i := 224) rfl) rfl, gtb_of (tb_m2 (i := 225) rfl) rfl, gtb_of (tb_m2 (i := 226) rfl) rfl, cbX5_withSign, _, _, rfl⟩
theorem cbX5_addShape : CBk yX5_addShape cX5_addShape 3 none 2 := ⟨gtb_of (tb_m1 (i := 2) rfl) rfl, gtb_of (tb_m2 (i := 231) rfl) rfl, by decide +kernel, by decide +kernel, by decide +kernel, by decide⟩
theorem mv_X4_120 : MVk RX4 120 yX5_addShape cX5_addShape 3 none 2 5 := ⟨gtb_of (tb_m2 (i := 228) rfl) rfl, gtb_of (tb_m2 (i := 229) rfl) rfl, gtb_of (tb_m2 (i := 230) rfl) rfl, cbX5_addShape, _, _, rfl⟩
theorem cbX5_addStep : CBk yX5_addStep cX5_addStep 5 none 2 := ⟨gtb_of (tb_m1 (i := 2) rfl) rfl, gtb_of (tb_m2 (i := 235) rfl) rfl, by decide +kernel, by decide +kernel, by decide +kernel, by decide⟩
theorem mv_X4_124 : MVk RX4 124 yX5_addStep cX5_addStep 5 none 2 5 := ⟨gtb_of (tb_m2 (i := 232) rfl) rfl, gtb_of (tb_m2 (i := 233) rfl) rfl, gtb_of (tb_m2 (i := 234) rfl) rfl, cbX5_addStep, _, _, rfl⟩
theorem cbX4_readPar : CBk yX4_readPar cX4_readPar 3 (some .boolean) 0 := ⟨gtb_of (tb_m1 (i := 4) rfl) rfl, gtb_of (tb_m3 (i := 0) rfl) rfl, by decide +kernel, by decide +kernel, by decide +kernel, by decide⟩
theorem mv_X4_86 : MVk RX4 86 yX4_readPar cX4_readPar 3 (some .boolean) 0 4 := ⟨gtb_of (tb_m2 (i := 237) rfl) rfl, gtb_of (tb_m2 (i := 239) rfl) rfl, gtb_of (tb_s1 (i := 11) (q := (yX4_readPar, 11)) rfl) rfl, cbX4_readPar, _, _, rfl⟩
theorem cbX3_addPar : CBk yX3_addPar cX3_addPar 3 none 2 := ⟨gtb_of (tb_m1 (i := 3) rfl) rfl, gtb_of (tb_m3 (i := 4) rfl) rfl, by decide +kernel, by decide +kernel, by decide +kernel, by decide⟩
theorem mv_X4_127 : MVk RX4 127 yX3_addPar cX3_addPar 3 none 2 3 := ⟨gtb_of (tb_m3 (i := 1) rfl) rfl, gtb_of (tb_m3 (i := 2) rfl) rfl, gtb_of (tb_m3 (i := 3) rfl) rfl, cbX3_addPar, _, _, rfl⟩
theorem cbX4_readWords : CBk yX4_readWords cX4_readWords 2 (some .boolean) 0 := ⟨gtb_of (tb_m1 (i := 4) rfl) rfl, gtb_of (tb_m3 (i := 8) rfl) rfl, by decide +kernel, by decide +kernel, by decide +kernel, by decide⟩
theorem mv_X4_130 : MVk RX4 130 yX4_readWords cX4_readWords 2 (some .boolean) 0 4 := ⟨gtb_of (tb_m3 (i := 5) rfl) rfl, gtb_of (tb_m3 (i := 7) rfl) rfl, gtb_of (tb_s1 (i := 12) (q := (yX4_readWords, 11)) rfl) rfl, cbX4_readWords, _, _, rfl⟩
theorem cbX4_wordAtHand : CBk yX4_wordAtHand cX4_wordAtHand 3 (some .int) 0 := ⟨gtb_of (tb_m1 (i := 4) rfl) rfl, gtb_of (tb_m3 (i := 12) rfl) rfl, by decide +kernel, by decide +kernel, by decide +kernel, by decide⟩
theorem mv_X4_136 : MVk RX4 136 yX4_wordAtHand cX4_wordAtHand 3 (some .int) 0 4 := ⟨gtb_of (tb_m3 (i := 9) rfl) rfl, gtb_of (tb_m3 (i := 11) rfl) rfl, gtb_of (tb_s1 (i := 13) (q := (yX4_wordAtHand, 11)) rfl) rfl, cbX4_wordAtHand, _, _, rfl⟩
theorem cbX3_addWord : CBk yX3_addWord cX3_addWord 2 none 1 := ⟨gtb_of (tb_m1 (i := 3) rfl) rfl, gtb_of (tb_m3 (i := 16) rfl) rfl, by decide +kernel, by decide +kernel, by decide +kernel, by decide⟩
theorem mv_X4_139 : MVk RX4 139 yX3_addWord cX3_addWord 2 none 1 3 := ⟨gtb_of (tb_m3 (i := 13) rfl) rfl, gtb_of (tb_m3 (i := 14) rfl) rfl, gtb_of (tb_m3 (i := 15) rfl) rfl, cbX3_addWord, _, _, rfl⟩
theorem cbX4_faultKind : CBk yX4_faultKind cX4_faultKind 1 (some .int) 0 := ⟨gtb_of (tb_m1 (i := 4) rfl) rfl, gtb_of (tb_m3 (i := 20) rfl) rfl, by decide +kernel, by decide +kernel, by decide +kernel, by decide⟩
theorem mv_X6_92 : MVk RX6 92 yX4_faultKind cX4_faultKind 1 (some .int) 0 4 := ⟨gtb_of (tb_m3 (i := 17) rfl) rfl, gtb_of (tb_m3 (i := 18) rfl) rfl, gtb_of (tb_m3 (i := 19) rfl) rfl, cbX4_faultKind, _, _, rfl⟩
theorem cbX5_copyFrom : CBk yX5_copyFrom cX5_copyFrom 2 none 1 := ⟨gtb_of (tb_m1 (i := 2) rfl) rfl, gtb_of (tb_m3 (i := 24) rfl) rfl, by decide +kernel, by decide +kernel, by decide +kernel, by decide⟩
theorem mv_X6_96 : MVk RX6 96 yX5_copyFrom cX5_copyFrom 2 none 1 5 := ⟨gtb_of (tb_m3 (i := 21) rfl) rfl, gtb_of (tb_m3 (i := 22) rfl) rfl, gtb_of (tb_m3 (i := 23) rfl) rfl, cbX5_copyFrom, _, _, rfl⟩
theorem cp_X5_31 : CPk RX5 31 := ⟨gtb_of (tb_m3 (i := 25) rfl) rfl, gtb_of (tb_m2 (i := 108) rfl) rfl, gtb_of (tb_m2 (i := 107) rfl) rfl, gtb_of (tb_m1 (i := 9) rfl) rfl⟩
theorem cbX3_copyFrom : CBk yX3_copyFrom cX3_copyFrom 2 none 1 := ⟨gtb_of (tb_m1 (i := 3) rfl) rfl, gtb_of (tb_m3 (i := 29) rfl) rfl, by decide +kernel, by decide +kernel, by decide +kernel, by decide⟩
theorem mv_X6_100 : MVk RX6 100 yX3_copyFrom cX3_copyFrom 2 none 1 3 := ⟨gtb_of (tb_m3 (i := 26) rfl) rfl, gtb_of (tb_m3 (i := 27) rfl) rfl, gtb_of (tb_m3 (i := 28) rfl) rfl, cbX3_copyFrom, _, _, rfl⟩
theorem mv_X3_48 : MVk RX3 48 yX3_takeSettings cX3_takeSettings 2 none 1 3 := ⟨gtb_of (tb_m3 (i := 30) rfl) rfl, gtb_of (tb_m2 (i := 103) rfl) rfl, gtb_of (tb_m2 (i := 104) rfl) rfl, cbX3_takeSettings, _, _, rfl⟩
theorem cbX6_fault : CBk yX6_fault cX6_fault 1 (some .int) 0 := ⟨gtb_of (tb_m1 (i := 1) rfl) rfl, gtb_of (tb_m3 (i := 34) rfl) rfl, by decide +kernel, by decide +kernel, by decide +kernel, by decide⟩
theorem mv_L_27 : MVk RL 27 yX6_fault cX6_fault 1 (some .int) 0 6 := ⟨gtb_of (tb_m3 (i := 31) rfl) rfl, gtb_of (tb_m3 (i := 32) rfl) rfl, gtb_of (tb_m3 (i := 33) rfl) rfl, cbX6_fault, _, _, rfl⟩
theorem cbX6_rule : CBk yX6_rule cX6_rule 2 (some .int) 1 := ⟨gtb_of (tb_m1 (i := 1) rfl) rfl, gtb_of (tb_m3 (i := 38) rfl) rfl, by decide +kernel, by decide +kernel, by decide +kernel, by decide⟩
theorem mv_L_31 : MVk RL 31 yX6_rule cX6_rule 2 (some .int) 1 6 := ⟨gtb_of (tb_m3 (i := 35) rfl) rfl, gtb_of (tb_m3 (i := 36) rfl) rfl, gtb_of (tb_m3 (i := 37) rfl) rfl, cbX6_rule, _, _, rfl⟩
theorem cbX3_unlikeWords : CBk yX3_unlikeWords cX3_unlikeWords 3 (some .int) 0 := ⟨gtb_of (tb_m1 (i := 3) rfl) rfl, gtb_of (tb_m3 (i := 42) rfl) rfl, by decide +kernel, by decide +kernel, by decide +kernel, by decide⟩
theorem mv_X6_119 : MVk RX6 119 yX3_unlikeWords cX3_unlikeWords 3 (some .int) 0 3 := ⟨gtb_of (tb_m3 (i := 39) rfl) rfl, gtb_of (tb_m3 (i := 40) rfl) rfl, gtb_of (tb_m3 (i := 41) rfl) rfl, cbX3_unlikeWords, _, _, rfl⟩
theorem cbX3_comesAhead : CBk yX3_comesAhead cX3_comesAhead 3 (some .boolean) 1 := ⟨gtb_of (tb_m1 (i := 3) rfl) rfl, gtb_of (tb_m3 (i := 46) rfl) rfl, by decide +kernel, by decide +kernel, by decide +kernel, by decide⟩
theorem mv_X3_56 : MVk RX3 56 yX3_comesAhead cX3_comesAhead 3 (some .boolean) 1 3 := ⟨gtb_of (tb_m3 (i := 43) rfl) rfl, gtb_of (tb_m3 (i := 45) rfl) rfl, gtb_of (tb_s1 (i := 14) (q := (yX3_comesAhead, 7)) rfl) rfl, cbX3_comesAhead, _, _, rfl⟩
theorem cbX6_laid : CBk yX6_laid cX6_laid 1 (some (.object "DropCapitals$Layout")) 0 := ⟨gtb_of (tb_m1 (i := 1) rfl) rfl, gtb_of (tb_m3 (i := 50) rfl) rfl, by decide +kernel, by decide +kernel, by decide +kernel, by decide⟩
theorem mv_X6_122 : MVk RX6 122 yX6_laid cX6_laid 1 (some (.object "DropCapitals$Layout")) 0 6 := ⟨gtb_of (tb_m3 (i := 47) rfl) rfl, gtb_of (tb_m3 (i := 49) rfl) rfl, gtb_of (tb_s1 (i := 15) (q := (yX6_laid, 16)) rfl) rfl, cbX6_laid, _, _, rfl⟩
theorem cbX2_layAll : CBk yX2_layAll cX2_layAll 2 none 0 := ⟨gtb_of (tb_m1 (i := 7) rfl) rfl, gtb_of (tb_m3 (i := 54) rfl) rfl, by decide +kernel, by decide +kernel, by decide +kernel, by decide⟩
theorem mv_X6_279 : MVk RX6 279 yX2_layAll cX2_layAll 2 none 0 2 := ⟨gtb_of (tb_m3 (i := 51) rfl) rfl, gtb_of (tb_m3 (i := 52) rfl) rfl, gtb_of (tb_m3 (i := 53) rfl) rfl, cbX2_layAll, _, _, rfl⟩
theorem cbX0_measureWords : CBk yX0_measureWords cX0_measureWords 3 none 1 := ⟨gtb_of (tb_m1 (i := 6) rfl) rfl, gtb_of (tb_m3 (i := 58) rfl) rfl, by decide +kernel, by decide +kernel, by decide +kernel, by decide⟩
theorem mv_X2_59 : MVk RX2 59 yX0_measureWords cX0_measureWords 3 none 1 0 := ⟨gtb_of (tb_m3 (i := 55) rfl) rfl, gtb_of (tb_m3 (i := 56) rfl) rfl, gtb_of (tb_m3 (i := 57) rfl) rfl, cbX0_measureWords, _, _, rfl⟩
theorem cbX6_widthOf : CBk yX6_widthOf cX6_widthOf 3 (some .int) 1 := ⟨gtb_of (tb_m1 (i := 1) rfl) rfl, gtb_of (tb_m3 (i := 61) rfl) rfl, by decide +kernel, by decide +kernel, by decide +kernel, by decide⟩
theorem ms_X0_36 : MSk RX0 36 yX6_widthOf cX6_widthOf 3 (some .int) 1 := ⟨gtb_of (tb_m3 (i := 60) rfl) rfl, cbX6_widthOf, Or.inr ⟨"DropCapitals", tb_m3 (i := 59) rfl⟩⟩
theorem cbX6_letterOf : CBk yX6_letterOf cX6_letterOf 2 (some .int) 2 := ⟨gtb_of (tb_m1 (i := 1) rfl) rfl, gtb_of (tb_m3 (i := 64) rfl) rfl, by decide +kernel, by decide +kernel, by decide +kernel, by decide⟩
theorem ms_X6_197 : MSk RX6 197 yX6_letterOf cX6_letterOf 2 (some .int) 2 := ⟨gtb_of (tb_m3 (i := 63) rfl) rfl, cbX6_letterOf, Or.inl (gtb_of (tb_m3 (i := 62) rfl) rfl)⟩
theorem cbX6_letterWidth : CBk yX6_letterWidth cX6_letterWidth 1 (some .int) 1 := ⟨gtb_of (tb_m1 (i := 1) rfl) rfl, gtb_of (tb_m3 (i := 67) rfl) rfl, by decide +kernel, by decide +kernel, by decide +kernel, by decide⟩
theorem ms_X6_296 : MSk RX6 296 yX6_letterWidth cX6_letterWidth 1 (some .int) 1 := ⟨gtb_of (tb_m3 (i := 66) rfl) rfl, cbX6_letterWidth, Or.inl (gtb_of (tb_m3 (i := 65) rfl) rfl)⟩
theorem cbX2_leaveEmpty : CBk yX2_leaveEmpty cX2_leaveEmpty 5 none 1 := ⟨gtb_of (tb_m1 (i := 7) rfl) rfl, gtb_of (tb_m3 (i := 71) rfl) rfl, by decide +kernel, by decide +kernel, by decide +kernel, by decide⟩
theorem mv_X2_70 : MVk RX2 70 yX2_leaveEmpty cX2_leaveEmpty 5 none 1 2 := ⟨gtb_of (tb_m3 (i := 68) rfl) rfl, gtb_of (tb_m3 (i := 70) rfl) rfl, gtb_of (tb_s2 (i := 0) (q := (yX2_leaveEmpty, 14)) rfl) rfl, cbX2_leaveEmpty, _, _, rfl⟩
theorem cbX3_hasShape : CBk yX3_hasShape cX3_hasShape 2 (some .boolean) 1 := ⟨gtb_of (tb_m1 (i := 3) rfl) rfl, gtb_of (tb_m3 (i := 75) rfl) rfl, by decide +kernel, by decide +kernel, by decide +kernel, by decide⟩
theorem mv_X2_83 : MVk RX2 83 yX3_hasShape cX3_hasShape 2 (some .boolean) 1 3 := ⟨gtb_of (tb_m3 (i := 72) rfl) rfl, gtb_of (tb_m3 (i := 73) rfl) rfl, gtb_of (tb_m3 (i := 74) rfl) rfl, cbX3_hasShape, _, _, rfl⟩
theorem cbX2_lastReachedAhead : CBk yX2_lastReachedAhead cX2_lastReachedAhead 5 (some .int) 1 := ⟨gtb_of (tb_m1 (i := 7) rfl) rfl, gtb_of (tb_m3 (i := 79) rfl) rfl, by decide +kernel, by decide +kernel, by decide +kernel, by decide⟩
theorem mv_X2_87 : MVk RX2 87 yX2_lastReachedAhead cX2_lastReachedAhead 5 (some .int) 1 2 := ⟨gtb_of (tb_m3 (i := 76) rfl) rfl, gtb_of (tb_m3 (i := 78) rfl) rfl, gtb_of (tb_s2 (i := 1) (q := (yX2_lastReachedAhead, 14)) rfl) rfl, cbX2_lastReachedAhead, _, _, rfl⟩
theorem mx_X2_97 : MXk RX2 97 true := ⟨gtb_of (tb_m3 (i := 80) rfl) rfl, gtb_of (tb_m3 (i := 81) rfl) rfl, gtb_of (tb_m1 (i := 10) rfl) rfl, gtb_of (tb_m3 (i := 82) rfl) rfl⟩
theorem mx_X2_91 : MXk RX2 91 false := ⟨gtb_of (tb_m3 (i := 83) rfl) rfl, gtb_of (tb_m2 (i := 114) rfl) rfl, gtb_of (tb_m1 (i := 10) rfl) rfl, gtb_of (tb_m2 (i := 115) rfl) rfl⟩
theorem cbX2_drawReaches : CBk yX2_drawReaches cX2_drawReaches 3 none 1 := ⟨gtb_of (tb_m1 (i := 7) rfl) rfl, gtb_of (tb_m3 (i := 87) rfl) rfl, by decide +kernel, by decide +kernel, by decide +kernel, by decide⟩
theorem mv_X2_74 : MVk RX2 74 yX2_drawReaches cX2_drawReaches 3 none 1 2 := ⟨gtb_of (tb_m3 (i := 84) rfl) rfl, gtb_of (tb_m3 (i := 86) rfl) rfl, gtb_of (tb_s2 (i := 2) (q := (yX2_drawReaches, 14)) rfl) rfl, cbX2_drawReaches, _, _, rfl⟩
theorem cbX1_draw : CBk yX1_draw cX1_draw 6 none 1 := ⟨gtb_of (tb_m1 (i := 5) rfl) rfl, gtb_of (tb_m3 (i := 91) rfl) rfl, by decide +kernel, by decide +kernel, by decide +kernel, by decide⟩
theorem mv_X2_100 : MVk RX2 100 yX1_draw cX1_draw 6 none 1 1 := ⟨gtb_of (tb_m3 (i := 88) rfl) rfl, gtb_of (tb_m3 (i := 89) rfl) rfl, gtb_of (tb_m3 (i := 90) rfl) rfl, cbX1_draw, _, _, rfl⟩
theorem cbX1_reachAt : CBk yX1_reachAt cX1_reachAt 7 (some .int) 1 := ⟨gtb_of (tb_m1 (i := 5) rfl) rfl, gtb_of (tb_m3 (i := 95) rfl) rfl, by decide +kernel, by decide +kernel, by decide +kernel, by decide⟩
theorem mv_X2_105 : MVk RX2 105 yX1_reachAt cX1_reachAt 7 (some .int) 1 1 := ⟨gtb_of (tb_m3 (i := 92) rfl) rfl, gtb_of (tb_m3 (i := 93) rfl) rfl, gtb_of (tb_m3 (i := 94) rfl) rfl, cbX1_reachAt, _, _, rfl⟩
theorem cbX2_layPar : CBk yX2_layPar cX2_layPar 7 none 1 := ⟨gtb_of (tb_m1 (i := 7) rfl) rfl, gtb_of (tb_m3 (i := 99) rfl) rfl, by decide +kernel, by decide +kernel, by decide +kernel, by decide⟩
theorem mv_X2_77 : MVk RX2 77 yX2_layPar cX2_layPar 7 none 1 2 := ⟨gtb_of (tb_m3 (i := 96) rfl) rfl, gtb_of (tb_m3 (i := 98) rfl) rfl, gtb_of (tb_s2 (i := 3) (q := (yX2_layPar, 14)) rfl) rfl, cbX2_layPar, _, _, rfl⟩
theorem cbX3_firstOf : CBk yX3_firstOf cX3_firstOf 4 (some .int) 1 := ⟨gtb_of (tb_m1 (i := 3) rfl) rfl, gtb_of (tb_m3 (i := 103) rfl) rfl, by decide +kernel, by decide +kernel, by decide +kernel, by decide⟩
theorem mv_X2_108 : MVk RX2 108 yX3_firstOf cX3_firstOf 4 (some .int) 1 3 := ⟨gtb_of (tb_m3 (i := 100) rfl) rfl, gtb_of (tb_m3 (i := 101) rfl) rfl, gtb_of (tb_m3 (i := 102) rfl) rfl, cbX3_firstOf, _, _, rfl⟩
theorem cbX2_indentAt : CBk yX2_indentAt cX2_indentAt 4 (some .int) 2 := ⟨gtb_of (tb_m1 (i := 7) rfl) rfl, gtb_of (tb_m3 (i := 107) rfl) rfl, by decide +kernel, by decide +kernel, by decide +kernel, by decide⟩
theorem mv_X2_114 : MVk RX2 114 yX2_indentAt cX2_indentAt 4 (some .int) 2 2 := ⟨gtb_of (tb_m3 (i := 104) rfl) rfl, gtb_of (tb_m3 (i := 106) rfl) rfl, gtb_of (tb_s2 (i := 4) (q := (yX2_indentAt, 14)) rfl) rfl, cbX2_indentAt, _, _, rfl⟩
theorem cbX2_reachAhead : CBk yX2_reachAhead cX2_reachAhead 6 (some .int) 2 := ⟨gtb_of (tb_m1 (i := 7) rfl) rfl, gtb_of (tb_m3 (i := 111) rfl) rfl, by decide +kernel, by decide +kernel, by decide +kernel, by decide⟩
theorem mv_X2_134 : MVk RX2 134 yX2_reachAhead cX2_reachAhead 6 (some .int) 2 2 := ⟨gtb_of (tb_m3 (i := 108) rfl) rfl, gtb_of (tb_m3 (i := 110) rfl) rfl, gtb_of (tb_s2 (i := 5) (q := (yX2_reachAhead, 14)) rfl) rfl, cbX2_reachAhead, _, _, rfl⟩
theorem cbX0_breakFirst : CBk yX0_breakFirst cX0_breakFirst 6 (some .int) 2 := ⟨gtb_of (tb_m1 (i := 6) rfl) rfl, gtb_of (tb_m3 (i := 115) rfl) rfl, by decide +kernel, by decide +kernel, by decide +kernel, by decide⟩
theorem mv_X2_118 : MVk RX2 118 yX0_breakFirst cX0_breakFirst 6 (some .int) 2 0 := ⟨gtb_of (tb_m3 (i := 112) rfl) rfl, gtb_of (tb_m3 (i := 113) rfl) rfl, gtb_of (tb_m3 (i := 114) rfl) rfl, cbX0_breakFirst, _, _, rfl⟩
theorem cbX0_breakEvenly : CBk yX0_breakEvenly cX0_breakEvenly 5 none 0 := ⟨gtb_of (tb_m1 (i := 6) rfl) rfl, gtb_of (tb_m3 (i := 119) rfl) rfl, by decide +kernel, by decide +kernel, by decide +kernel, by decide⟩
theorem mv_X2_121 : MVk RX2 121 yX0_breakEvenly cX0_breakEvenly 5 none 0 0 := ⟨gtb_of (tb_m3 (i := 116) rfl) rfl, gtb_of (tb_m3 (i := 117) rfl) rfl, gtb_of (tb_m3 (i := 118) rfl) rfl, cbX0_breakEvenly, _, _, rfl⟩
theorem cbX0_weigh : CBk yX0_weigh cX0_weigh 11 none 3 := ⟨gtb_of (tb_m1 (i := 6) rfl) rfl, gtb_of (tb_m3 (i := 123) rfl) rfl, by decide +kernel, by decide +kernel, by decide +kernel, by decide⟩
theorem mv_X0_48 : MVk RX0 48 yX0_weigh cX0_weigh 11 none 3 0 := ⟨gtb_of (tb_m3 (i := 120) rfl) rfl, gtb_of (tb_m3 (i := 122) rfl) rfl, gtb_of (tb_s2 (i := 6) (q := (yX0_weigh, 8)) rfl) rfl, cbX0_weigh, _, _, rfl⟩
theorem kc_X0_52 : Cond.constant RX0 52 1000000000 ∈ gtb := gtb_of (tb_m3 (i := 124) rfl) rfl
theorem kc_X0_53 : Cond.constant RX0 53 1000000 ∈ gtb := gtb_of (tb_m3 (i := 125) rfl) rfl
theorem cbX2_addLine : CBk yX2_addLine cX2_addLine 7 none 4 := ⟨gtb_of (tb_m1 (i := 7) rfl) rfl, gtb_of (tb_m3 (i := 129) rfl) rfl, by decide +kernel, by decide +kernel, by decide +kernel, by decide⟩
theorem mv_X2_127 : MVk RX2 127 yX2_addLine cX2_addLine 7 none 4 2 := ⟨gtb_of (tb_m3 (i := 126) rfl) rfl, gtb_of (tb_m3 (i := 128) rfl) rfl, gtb_of (tb_s2 (i := 7) (q := (yX2_addLine, 14)) rfl) rfl, cbX2_addLine, _, _, rfl⟩
theorem cbX2_emptyLines : CBk yX2_emptyLines cX2_emptyLines 3 (some .int) 0 := ⟨gtb_of (tb_m1 (i := 7) rfl) rfl, gtb_of (tb_m3 (i := 133) rfl) rfl, by decide +kernel, by decide +kernel, by decide +kernel, by decide⟩
theorem mv_X6_129 : MVk RX6 129 yX2_emptyLines cX2_emptyLines 3 (some .int) 0 2 := ⟨gtb_of (tb_m3 (i := 130) rfl) rfl, gtb_of (tb_m3 (i := 131) rfl) rfl, gtb_of (tb_m3 (i := 132) rfl) rfl, cbX2_emptyLines, _, _, rfl⟩
theorem cbX2_clashesWithin : CBk yX2_clashesWithin cX2_clashesWithin 5 (some .int) 2 := ⟨gtb_of (tb_m1 (i := 7) rfl) rfl, gtb_of (tb_m3 (i := 137) rfl) rfl, by decide +kernel, by decide +kernel, by decide +kernel, by decide⟩
theorem mv_X6_132 : MVk RX6 132 yX2_clashesWithin cX2_clashesWithin 5 (some .int) 2 2 := ⟨gtb_of (tb_m3 (i := 134) rfl) rfl, gtb_of (tb_m3 (i := 135) rfl) rfl, gtb_of (tb_m3 (i := 136) rfl) rfl, cbX2_clashesWithin, _, _, rfl⟩
theorem cbX2_oversWithin : CBk yX2_oversWithin cX2_oversWithin 5 (some .int) 2 := ⟨gtb_of (tb_m1 (i := 7) rfl) rfl, gtb_of (tb_m3 (i := 141) rfl) rfl, by decide +kernel, by decide +kernel, by decide +kernel, by decide⟩
theorem mv_X6_136 : MVk RX6 136 yX2_oversWithin cX2_oversWithin 5 (some .int) 2 2 := ⟨gtb_of (tb_m3 (i := 138) rfl) rfl, gtb_of (tb_m3 (i := 139) rfl) rfl, gtb_of (tb_m3 (i := 140) rfl) rfl, cbX2_oversWithin, _, _, rfl⟩
theorem cbX2_isOver : CBk yX2_isOver cX2_isOver 2 (some .boolean) 1 := ⟨gtb_of (tb_m1 (i := 7) rfl) rfl, gtb_of (tb_m3 (i := 145) rfl) rfl, by decide +kernel, by decide +kernel, by decide +kernel, by decide⟩
theorem mv_X2_137 : MVk RX2 137 yX2_isOver cX2_isOver 2 (some .boolean) 1 2 := ⟨gtb_of (tb_m3 (i := 142) rfl) rfl, gtb_of (tb_m3 (i := 143) rfl) rfl, gtb_of (tb_m3 (i := 144) rfl) rfl, cbX2_isOver, _, _, rfl⟩
theorem cbX6_shape : CBk yX6_shape cX6_shape 3 (some .int) 2 := ⟨gtb_of (tb_m1 (i := 1) rfl) rfl, gtb_of (tb_m3 (i := 149) rfl) rfl, by decide +kernel, by decide +kernel, by decide +kernel, by decide⟩
theorem mv_L_35 : MVk RL 35 yX6_shape cX6_shape 3 (some .int) 2 6 := ⟨gtb_of (tb_m3 (i := 146) rfl) rfl, gtb_of (tb_m3 (i := 147) rfl) rfl, gtb_of (tb_m3 (i := 148) rfl) rfl, cbX6_shape, _, _, rfl⟩
theorem cbX6_isShape : CBk yX6_isShape cX6_isShape 2 (some .boolean) 1 := ⟨gtb_of (tb_m1 (i := 1) rfl) rfl, gtb_of (tb_m3 (i := 153) rfl) rfl, by decide +kernel, by decide +kernel, by decide +kernel, by decide⟩
theorem mv_X6_139 : MVk RX6 139 yX6_isShape cX6_isShape 2 (some .boolean) 1 6 := ⟨gtb_of (tb_m3 (i := 150) rfl) rfl, gtb_of (tb_m3 (i := 152) rfl) rfl, gtb_of (tb_s2 (i := 8) (q := (yX6_isShape, 16)) rfl) rfl, cbX6_isShape, _, _, rfl⟩
theorem cbX5_greatestExtent : CBk yX5_greatestExtent cX5_greatestExtent 4 (some .int) 1 := ⟨gtb_of (tb_m1 (i := 2) rfl) rfl, gtb_of (tb_m3 (i := 157) rfl) rfl, by decide +kernel, by decide +kernel, by decide +kernel, by decide⟩
theorem mv_X6_152 : MVk RX6 152 yX5_greatestExtent cX5_greatestExtent 4 (some .int) 1 5 := ⟨gtb_of (tb_m3 (i := 154) rfl) rfl, gtb_of (tb_m3 (i := 155) rfl) rfl, gtb_of (tb_m3 (i := 156) rfl) rfl, cbX5_greatestExtent, _, _, rfl⟩
theorem cbX5_extentOf : CBk yX5_extentOf cX5_extentOf 3 (some .int) 2 := ⟨gtb_of (tb_m1 (i := 2) rfl) rfl, gtb_of (tb_m3 (i := 161) rfl) rfl, by decide +kernel, by decide +kernel, by decide +kernel, by decide⟩
theorem mv_X5_37 : MVk RX5 37 yX5_extentOf cX5_extentOf 3 (some .int) 2 5 := ⟨gtb_of (tb_m3 (i := 158) rfl) rfl, gtb_of (tb_m3 (i := 159) rfl) rfl, gtb_of (tb_m3 (i := 160) rfl) rfl, cbX5_extentOf, _, _, rfl⟩
theorem mx_X5_41 : MXk RX5 41 true := ⟨gtb_of (tb_m3 (i := 162) rfl) rfl, gtb_of (tb_m3 (i := 81) rfl) rfl, gtb_of (tb_m1 (i := 10) rfl) rfl, gtb_of (tb_m3 (i := 82) rfl) rfl⟩
theorem cbX6_step : CBk yX6_step cX6_step 4 (some .int) 3 := ⟨gtb_of (tb_m1 (i := 1) rfl) rfl, gtb_of (tb_m3 (i := 166) rfl) rfl, by decide +kernel, by decide +kernel, by decide +kernel, by decide⟩
theorem mv_L_40 : MVk RL 40 yX6_step cX6_step 4 (some .int) 3 6 := ⟨gtb_of (tb_m3 (i := 163) rfl) rfl, gtb_of (tb_m3 (i := 164) rfl) rfl, gtb_of (tb_m3 (i := 165) rfl) rfl, cbX6_step, _, _, rfl⟩
theorem cbX5_depthOf : CBk yX5_depthOf cX5_depthOf 3 (some .int) 2 := ⟨gtb_of (tb_m1 (i := 2) rfl) rfl, gtb_of (tb_m3 (i := 170) rfl) rfl, by decide +kernel, by decide +kernel, by decide +kernel, by decide⟩
theorem mv_X6_155 : MVk RX6 155 yX5_depthOf cX5_depthOf 3 (some .int) 2 5 := ⟨gtb_of (tb_m3 (i := 167) rfl) rfl, gtb_of (tb_m3 (i := 168) rfl) rfl, gtb_of (tb_m3 (i := 169) rfl) rfl, cbX5_depthOf, _, _, rfl⟩
theorem mv_X6_158 : MVk RX6 158 yX5_extentOf cX5_extentOf 3 (some .int) 2 5 := ⟨gtb_of (tb_m3 (i := 171) rfl) rfl, gtb_of (tb_m3 (i := 159) rfl) rfl, gtb_of (tb_m3 (i := 160) rfl) rfl, cbX5_extentOf, _, _, rfl⟩
theorem cbX6_par : CBk yX6_par cX6_par 3 (some .int) 2 := ⟨gtb_of (tb_m1 (i := 1) rfl) rfl, gtb_of (tb_m3 (i := 175) rfl) rfl, by decide +kernel, by decide +kernel, by decide +kernel, by decide⟩
theorem mv_L_45 : MVk RL 45 yX6_par cX6_par 3 (some .int) 2 6 := ⟨gtb_of (tb_m3 (i := 172) rfl) rfl, gtb_of (tb_m3 (i := 173) rfl) rfl, gtb_of (tb_m3 (i := 174) rfl) rfl, cbX6_par, _, _, rfl⟩
theorem cbX6_isPar : CBk yX6_isPar cX6_isPar 2 (some .boolean) 1 := ⟨gtb_of (tb_m1 (i := 1) rfl) rfl, gtb_of (tb_m3 (i := 179) rfl) rfl, by decide +kernel, by decide +kernel, by decide +kernel, by decide⟩
theorem mv_X6_161 : MVk RX6 161 yX6_isPar cX6_isPar 2 (some .boolean) 1 6 := ⟨gtb_of (tb_m3 (i := 176) rfl) rfl, gtb_of (tb_m3 (i := 178) rfl) rfl, gtb_of (tb_s2 (i := 9) (q := (yX6_isPar, 16)) rfl) rfl, cbX6_isPar, _, _, rfl⟩
theorem cbX6_drawnHeight : CBk yX6_drawnHeight cX6_drawnHeight 2 (some .int) 1 := ⟨gtb_of (tb_m1 (i := 1) rfl) rfl, gtb_of (tb_m3 (i := 183) rfl) rfl, by decide +kernel, by decide +kernel, by decide +kernel, by decide⟩
theorem mv_X6_173 : MVk RX6 173 yX6_drawnHeight cX6_drawnHeight 2 (some .int) 1 6 := ⟨gtb_of (tb_m3 (i := 180) rfl) rfl, gtb_of (tb_m3 (i := 182) rfl) rfl, gtb_of (tb_s2 (i := 10) (q := (yX6_drawnHeight, 16)) rfl) rfl, cbX6_drawnHeight, _, _, rfl⟩
theorem mv_X6_200 : MVk RX6 200 yX1_draw cX1_draw 6 none 1 1 := ⟨gtb_of (tb_m3 (i := 184) rfl) rfl, gtb_of (tb_m3 (i := 89) rfl) rfl, gtb_of (tb_m3 (i := 90) rfl) rfl, cbX1_draw, _, _, rfl⟩
theorem cbX6_parLies : CBk yX6_parLies cX6_parLies 6 (some .int) 2 := ⟨gtb_of (tb_m1 (i := 1) rfl) rfl, gtb_of (tb_m3 (i := 188) rfl) rfl, by decide +kernel, by decide +kernel, by decide +kernel, by decide⟩
theorem mv_X6_176 : MVk RX6 176 yX6_parLies cX6_parLies 6 (some .int) 2 6 := ⟨gtb_of (tb_m3 (i := 185) rfl) rfl, gtb_of (tb_m3 (i := 187) rfl) rfl, gtb_of (tb_s2 (i := 11) (q := (yX6_parLies, 16)) rfl) rfl, cbX6_parLies, _, _, rfl⟩
theorem cbX2_firstClashWithin : CBk yX2_firstClashWithin cX2_firstClashWithin 4 (some .int) 2 := ⟨gtb_of (tb_m1 (i := 7) rfl) rfl, gtb_of (tb_m3 (i := 192) rfl) rfl, by decide +kernel, by decide +kernel, by decide +kernel, by decide⟩
theorem mv_X6_289 : MVk RX6 289 yX2_firstClashWithin cX2_firstClashWithin 4 (some .int) 2 2 := ⟨gtb_of (tb_m3 (i := 189) rfl) rfl, gtb_of (tb_m3 (i := 190) rfl) rfl, gtb_of (tb_m3 (i := 191) rfl) rfl, cbX2_firstClashWithin, _, _, rfl⟩
theorem cbX2_slacksSquared : CBk yX2_slacksSquared cX2_slacksSquared 6 (some .int) 2 := ⟨gtb_of (tb_m1 (i := 7) rfl) rfl, gtb_of (tb_m3 (i := 196) rfl) rfl, by decide +kernel, by decide +kernel, by decide +kernel, by decide⟩
theorem mv_X6_292 : MVk RX6 292 yX2_slacksSquared cX2_slacksSquared 6 (some .int) 2 2 := ⟨gtb_of (tb_m3 (i := 193) rfl) rfl, gtb_of (tb_m3 (i := 194) rfl) rfl, gtb_of (tb_m3 (i := 195) rfl) rfl, cbX2_slacksSquared, _, _, rfl⟩
theorem cbX6_word : CBk yX6_word cX6_word 5 (some .int) 3 := ⟨gtb_of (tb_m1 (i := 1) rfl) rfl, gtb_of (tb_m3 (i := 200) rfl) rfl, by decide +kernel, by decide +kernel, by decide +kernel, by decide⟩
theorem mv_L_49 : MVk RL 49 yX6_word cX6_word 5 (some .int) 3 6 := ⟨gtb_of (tb_m3 (i := 197) rfl) rfl, gtb_of (tb_m3 (i := 198) rfl) rfl, gtb_of (tb_m3 (i := 199) rfl) rfl, cbX6_word, _, _, rfl⟩
theorem cbX3_wordOf : CBk yX3_wordOf cX3_wordOf 3 (some .int) 2 := ⟨gtb_of (tb_m1 (i := 3) rfl) rfl, gtb_of (tb_m3 (i := 204) rfl) rfl, by decide +kernel, by decide +kernel, by decide +kernel, by decide⟩
theorem mv_X6_179 : MVk RX6 179 yX3_wordOf cX3_wordOf 3 (some .int) 2 3 := ⟨gtb_of (tb_m3 (i := 201) rfl) rfl, gtb_of (tb_m3 (i := 202) rfl) rfl, gtb_of (tb_m3 (i := 203) rfl) rfl, cbX3_wordOf, _, _, rfl⟩
theorem mv_X3_52 : MVk RX3 52 yX3_firstOf cX3_firstOf 4 (some .int) 1 3 := ⟨gtb_of (tb_m3 (i := 205) rfl) rfl, gtb_of (tb_m3 (i := 101) rfl) rfl, gtb_of (tb_m3 (i := 102) rfl) rfl, cbX3_firstOf, _, _, rfl⟩
theorem cbX6_lettersIn : CBk yX6_lettersIn cX6_lettersIn 3 (some .int) 1 := ⟨gtb_of (tb_m1 (i := 1) rfl) rfl, gtb_of (tb_m3 (i := 208) rfl) rfl, by decide +kernel, by decide +kernel, by decide +kernel, by decide⟩
theorem ms_X6_182 : MSk RX6 182 yX6_lettersIn cX6_lettersIn 3 (some .int) 1 := ⟨gtb_of (tb_m3 (i := 207) rfl) rfl, cbX6_lettersIn, Or.inl (gtb_of (tb_m3 (i := 206) rfl) rfl)⟩
theorem ms_X6_185 : MSk RX6 185 yX6_widthOf cX6_widthOf 3 (some .int) 1 := ⟨gtb_of (tb_m3 (i := 60) rfl) rfl, cbX6_widthOf, Or.inl (gtb_of (tb_m3 (i := 209) rfl) rfl)⟩
theorem cbX3_likeWords : CBk yX3_likeWords cX3_likeWords 4 (some .int) 1 := ⟨gtb_of (tb_m1 (i := 3) rfl) rfl, gtb_of (tb_m3 (i := 213) rfl) rfl, by decide +kernel, by decide +kernel, by decide +kernel, by decide⟩
theorem mv_X6_188 : MVk RX6 188 yX3_likeWords cX3_likeWords 4 (some .int) 1 3 := ⟨gtb_of (tb_m3 (i := 210) rfl) rfl, gtb_of (tb_m3 (i := 211) rfl) rfl, gtb_of (tb_m3 (i := 212) rfl) rfl, cbX3_likeWords, _, _, rfl⟩
theorem cbX2_lineWith : CBk yX2_lineWith cX2_lineWith 4 (some .int) 2 := ⟨gtb_of (tb_m1 (i := 7) rfl) rfl, gtb_of (tb_m3 (i := 217) rfl) rfl, by decide +kernel, by decide +kernel, by decide +kernel, by decide⟩
theorem mv_X6_191 : MVk RX6 191 yX2_lineWith cX2_lineWith 4 (some .int) 2 2 := ⟨gtb_of (tb_m3 (i := 214) rfl) rfl, gtb_of (tb_m3 (i := 215) rfl) rfl, gtb_of (tb_m3 (i := 216) rfl) rfl, cbX2_lineWith, _, _, rfl⟩
theorem cbX2_placeOf : CBk yX2_placeOf cX2_placeOf 6 (some .int) 2 := ⟨gtb_of (tb_m1 (i := 7) rfl) rfl, gtb_of (tb_m3 (i := 221) rfl) rfl, by decide +kernel, by decide +kernel, by decide +kernel, by decide⟩
theorem mv_X6_194 : MVk RX6 194 yX2_placeOf cX2_placeOf 6 (some .int) 2 2 := ⟨gtb_of (tb_m3 (i := 218) rfl) rfl, gtb_of (tb_m3 (i := 219) rfl) rfl, gtb_of (tb_m3 (i := 220) rfl) rfl, cbX2_placeOf, _, _, rfl⟩
theorem mv_X2_140 : MVk RX2 140 yX2_lineWith cX2_lineWith 4 (some .int) 2 2 := ⟨gtb_of (tb_m3 (i := 222) rfl) rfl, gtb_of (tb_m3 (i := 215) rfl) rfl, gtb_of (tb_m3 (i := 216) rfl) rfl, cbX2_lineWith, _, _, rfl⟩
theorem mv_X2_143 : MVk RX2 143 yX3_wordOf cX3_wordOf 3 (some .int) 2 3 := ⟨gtb_of (tb_m3 (i := 223) rfl) rfl, gtb_of (tb_m3 (i := 202) rfl) rfl, gtb_of (tb_m3 (i := 203) rfl) rfl, cbX3_wordOf, _, _, rfl⟩
theorem ms_X2_146 : MSk RX2 146 yX6_widthOf cX6_widthOf 3 (some .int) 1 := ⟨gtb_of (tb_m3 (i := 60) rfl) rfl, cbX6_widthOf, Or.inr ⟨"DropCapitals", tb_m3 (i := 224) rfl⟩⟩
theorem cbX6_letter : CBk yX6_letter cX6_letter 5 (some .int) 3 := ⟨gtb_of (tb_m1 (i := 1) rfl) rfl, gtb_of (tb_m3 (i := 228) rfl) rfl, by decide +kernel, by decide +kernel, by decide +kernel, by decide⟩
theorem mv_L_53 : MVk RL 53 yX6_letter cX6_letter 5 (some .int) 3 6 := ⟨gtb_of (tb_m3 (i := 225) rfl) rfl, gtb_of (tb_m3 (i := 226) rfl) rfl, gtb_of (tb_m3 (i := 227) rfl) rfl, cbX6_letter, _, _, rfl⟩
theorem cbX6_drawn : CBk yX6_drawn cX6_drawn 4 (some .int) 3 := ⟨gtb_of (tb_m1 (i := 1) rfl) rfl, gtb_of (tb_m3 (i := 232) rfl) rfl, by decide +kernel, by decide +kernel, by decide +kernel, by decide⟩
theorem mv_L_57 : MVk RL 57 yX6_drawn cX6_drawn 4 (some .int) 3 6 := ⟨gtb_of (tb_m3 (i := 229) rfl) rfl, gtb_of (tb_m3 (i := 230) rfl) rfl, gtb_of (tb_m3 (i := 231) rfl) rfl, cbX6_drawn, _, _, rfl⟩
theorem cbX6_reach : CBk yX6_reach cX6_reach 3 (some .int) 2 := ⟨gtb_of (tb_m1 (i := 1) rfl) rfl, gtb_of (tb_m3 (i := 236) rfl) rfl, by decide +kernel, by decide +kernel, by decide +kernel, by decide⟩
theorem mv_L_61 : MVk RL 61 yX6_reach cX6_reach 3 (some .int) 2 6 := ⟨gtb_of (tb_m3 (i := 233) rfl) rfl, gtb_of (tb_m3 (i := 234) rfl) rfl, gtb_of (tb_m3 (i := 235) rfl) rfl, cbX6_reach, _, _, rfl⟩
theorem mv_X6_215 : MVk RX6 215 yX3_hasShape cX3_hasShape 2 (some .boolean) 1 3 := ⟨gtb_of (tb_m3 (i := 237) rfl) rfl, gtb_of (tb_m3 (i := 73) rfl) rfl, gtb_of (tb_m3 (i := 74) rfl) rfl, cbX3_hasShape, _, _, rfl⟩
theorem mv_X6_218 : MVk RX6 218 yX1_reachAt cX1_reachAt 7 (some .int) 1 1 := ⟨gtb_of (tb_m3 (i := 238) rfl) rfl, gtb_of (tb_m3 (i := 93) rfl) rfl, gtb_of (tb_m3 (i := 94) rfl) rfl, cbX1_reachAt, _, _, rfl⟩
theorem cbX6_line : CBk yX6_line cX6_line 4 (some .int) 2 := ⟨gtb_of (tb_m1 (i := 1) rfl) rfl, gtb_of (tb_m4 (i := 2) rfl) rfl, by decide +kernel, by decide +kernel, by decide +kernel, by decide⟩
theorem mv_L_65 : MVk RL 65 yX6_line cX6_line 4 (some .int) 2 6 := ⟨gtb_of (tb_m3 (i := 239) rfl) rfl, gtb_of (tb_m4 (i := 0) rfl) rfl, gtb_of (tb_m4 (i := 1) rfl) rfl, cbX6_line, _, _, rfl⟩
theorem mv_X6_239 : MVk RX6 239 yX2_isOver cX2_isOver 2 (some .boolean) 1 2 := ⟨gtb_of (tb_m4 (i := 3) rfl) rfl, gtb_of (tb_m3 (i := 143) rfl) rfl, gtb_of (tb_m3 (i := 144) rfl) rfl, cbX2_isOver, _, _, rfl⟩
theorem cbX6_sign : CBk yX6_sign cX6_sign 10 (some .int) 2 := ⟨gtb_of (tb_m1 (i := 1) rfl) rfl, gtb_of (tb_m4 (i := 7) rfl) rfl, by decide +kernel, by decide +kernel, by decide +kernel, by decide⟩
theorem mv_L_69 : MVk RL 69 yX6_sign cX6_sign 10 (some .int) 2 6 := ⟨gtb_of (tb_m4 (i := 4) rfl) rfl, gtb_of (tb_m4 (i := 5) rfl) rfl, gtb_of (tb_m4 (i := 6) rfl) rfl, cbX6_sign, _, _, rfl⟩
theorem cbX6_best : CBk yX6_best cX6_best 2 (some .int) 1 := ⟨gtb_of (tb_m1 (i := 1) rfl) rfl, gtb_of (tb_m4 (i := 11) rfl) rfl, by decide +kernel, by decide +kernel, by decide +kernel, by decide⟩
theorem mv_L_73 : MVk RL 73 yX6_best cX6_best 2 (some .int) 1 6 := ⟨gtb_of (tb_m4 (i := 8) rfl) rfl, gtb_of (tb_m4 (i := 9) rfl) rfl, gtb_of (tb_m4 (i := 10) rfl) rfl, cbX6_best, _, _, rfl⟩
theorem cbX6_bestDrop : CBk yX6_bestDrop cX6_bestDrop 6 (some .int) 1 := ⟨gtb_of (tb_m1 (i := 1) rfl) rfl, gtb_of (tb_m4 (i := 15) rfl) rfl, by decide +kernel, by decide +kernel, by decide +kernel, by decide⟩
theorem mv_X6_246 : MVk RX6 246 yX6_bestDrop cX6_bestDrop 6 (some .int) 1 6 := ⟨gtb_of (tb_m4 (i := 12) rfl) rfl, gtb_of (tb_m4 (i := 14) rfl) rfl, gtb_of (tb_s2 (i := 12) (q := (yX6_bestDrop, 16)) rfl) rfl, cbX6_bestDrop, _, _, rfl⟩
theorem cbX6_layTrial : CBk yX6_layTrial cX6_layTrial 4 none 2 := ⟨gtb_of (tb_m1 (i := 1) rfl) rfl, gtb_of (tb_m4 (i := 19) rfl) rfl, by decide +kernel, by decide +kernel, by decide +kernel, by decide⟩
theorem mv_X6_252 : MVk RX6 252 yX6_layTrial cX6_layTrial 4 none 2 6 := ⟨gtb_of (tb_m4 (i := 16) rfl) rfl, gtb_of (tb_m4 (i := 18) rfl) rfl, gtb_of (tb_s2 (i := 13) (q := (yX6_layTrial, 16)) rfl) rfl, cbX6_layTrial, _, _, rfl⟩
theorem kc_X6_295 : Cond.constant RX6 295 1000000 ∈ gtb := gtb_of (tb_m4 (i := 20) rfl) rfl
theorem cbX6_tried : CBk yX6_tried cX6_tried 3 (some .int) 2 := ⟨gtb_of (tb_m1 (i := 1) rfl) rfl, gtb_of (tb_m4 (i := 24) rfl) rfl, by decide +kernel, by decide +kernel, by decide +kernel, by decide⟩
theorem mv_L_77 : MVk RL 77 yX6_tried cX6_tried 3 (some .int) 2 6 := ⟨gtb_of (tb_m4 (i := 21) rfl) rfl, gtb_of (tb_m4 (i := 22) rfl) rfl, gtb_of (tb_m4 (i := 23) rfl) rfl, cbX6_tried, _, _, rfl⟩
theorem cbX6_isDrop : CBk yX6_isDrop cX6_isDrop 1 (some .boolean) 1 := ⟨gtb_of (tb_m1 (i := 1) rfl) rfl, gtb_of (tb_m4 (i := 27) rfl) rfl, by decide +kernel, by decide +kernel, by decide +kernel, by decide⟩
theorem ms_X6_249 : MSk RX6 249 yX6_isDrop cX6_isDrop 1 (some .boolean) 1 := ⟨gtb_of (tb_m4 (i := 26) rfl) rfl, cbX6_isDrop, Or.inl (gtb_of (tb_m4 (i := 25) rfl) rfl)⟩
theorem cbX6_set : CBk yX6_set cX6_set 5 (some .int) 2 := ⟨gtb_of (tb_m1 (i := 1) rfl) rfl, gtb_of (tb_m4 (i := 31) rfl) rfl, by decide +kernel, by decide +kernel, by decide +kernel, by decide⟩
theorem mv_L_81 : MVk RL 81 yX6_set cX6_set 5 (some .int) 2 6 := ⟨gtb_of (tb_m4 (i := 28) rfl) rfl, gtb_of (tb_m4 (i := 29) rfl) rfl, gtb_of (tb_m4 (i := 30) rfl) rfl, cbX6_set, _, _, rfl⟩
theorem sl_X6_256 : SLk RX6 256 0 := ⟨by decide, Or.inl (gtb_of (tb_m4 (i := 32) rfl) rfl)⟩
theorem sl_X6_259 : SLk RX6 259 1 := ⟨by decide, Or.inl (gtb_of (tb_m4 (i := 33) rfl) rfl)⟩
theorem cbX6_drop : CBk yX6_drop cX6_drop 6 (some .int) 3 := ⟨gtb_of (tb_m1 (i := 1) rfl) rfl, gtb_of (tb_m4 (i := 37) rfl) rfl, by decide +kernel, by decide +kernel, by decide +kernel, by decide⟩
theorem mv_L_85 : MVk RL 85 yX6_drop cX6_drop 6 (some .int) 3 6 := ⟨gtb_of (tb_m4 (i := 34) rfl) rfl, gtb_of (tb_m4 (i := 35) rfl) rfl, gtb_of (tb_m4 (i := 36) rfl) rfl, cbX6_drop, _, _, rfl⟩
theorem cbX6_fit : CBk yX6_fit cX6_fit 4 (some .int) 0 := ⟨gtb_of (tb_m1 (i := 1) rfl) rfl, gtb_of (tb_m4 (i := 41) rfl) rfl, by decide +kernel, by decide +kernel, by decide +kernel, by decide⟩
theorem mv_L_89 : MVk RL 89 yX6_fit cX6_fit 4 (some .int) 0 6 := ⟨gtb_of (tb_m4 (i := 38) rfl) rfl, gtb_of (tb_m4 (i := 39) rfl) rfl, gtb_of (tb_m4 (i := 40) rfl) rfl, cbX6_fit, _, _, rfl⟩
theorem cbX6_cut : CBk yX6_cut cX6_cut 3 (some .int) 2 := ⟨gtb_of (tb_m1 (i := 1) rfl) rfl, gtb_of (tb_m4 (i := 45) rfl) rfl, by decide +kernel, by decide +kernel, by decide +kernel, by decide⟩
theorem mv_L_93 : MVk RL 93 yX6_cut cX6_cut 3 (some .int) 2 6 := ⟨gtb_of (tb_m4 (i := 42) rfl) rfl, gtb_of (tb_m4 (i := 43) rfl) rfl, gtb_of (tb_m4 (i := 44) rfl) rfl, cbX6_cut, _, _, rfl⟩
theorem cbX3_split : CBk yX3_split cX3_split 4 none 2 := ⟨gtb_of (tb_m1 (i := 3) rfl) rfl, gtb_of (tb_m4 (i := 49) rfl) rfl, by decide +kernel, by decide +kernel, by decide +kernel, by decide⟩
theorem mv_X6_262 : MVk RX6 262 yX3_split cX3_split 4 none 2 3 := ⟨gtb_of (tb_m4 (i := 46) rfl) rfl, gtb_of (tb_m4 (i := 47) rfl) rfl, gtb_of (tb_m4 (i := 48) rfl) rfl, cbX3_split, _, _, rfl⟩
theorem cbX3_takePar : CBk yX3_takePar cX3_takePar 3 none 2 := ⟨gtb_of (tb_m1 (i := 3) rfl) rfl, gtb_of (tb_m4 (i := 53) rfl) rfl, by decide +kernel, by decide +kernel, by decide +kernel, by decide⟩
theorem mv_X3_60 : MVk RX3 60 yX3_takePar cX3_takePar 3 none 2 3 := ⟨gtb_of (tb_m4 (i := 50) rfl) rfl, gtb_of (tb_m4 (i := 52) rfl) rfl, gtb_of (tb_s2 (i := 14) (q := (yX3_takePar, 7)) rfl) rfl, cbX3_takePar, _, _, rfl⟩
theorem cbX6_join : CBk yX6_join cX6_join 2 (some .int) 1 := ⟨gtb_of (tb_m1 (i := 1) rfl) rfl, gtb_of (tb_m4 (i := 57) rfl) rfl, by decide +kernel, by decide +kernel, by decide +kernel, by decide⟩
theorem mv_L_97 : MVk RL 97 yX6_join cX6_join 2 (some .int) 1 6 := ⟨gtb_of (tb_m4 (i := 54) rfl) rfl, gtb_of (tb_m4 (i := 55) rfl) rfl, gtb_of (tb_m4 (i := 56) rfl) rfl, cbX6_join, _, _, rfl⟩
theorem cbX3_unite : CBk yX3_unite cX3_unite 3 none 1 := ⟨gtb_of (tb_m1 (i := 3) rfl) rfl, gtb_of (tb_m4 (i := 61) rfl) rfl, by decide +kernel, by decide +kernel, by decide +kernel, by decide⟩
theorem mv_X6_265 : MVk RX6 265 yX3_unite cX3_unite 3 none 1 3 := ⟨gtb_of (tb_m4 (i := 58) rfl) rfl, gtb_of (tb_m4 (i := 59) rfl) rfl, gtb_of (tb_m4 (i := 60) rfl) rfl, cbX3_unite, _, _, rfl⟩
theorem cbX6_move : CBk yX6_move cX6_move 5 (some .int) 4 := ⟨gtb_of (tb_m1 (i := 1) rfl) rfl, gtb_of (tb_m4 (i := 65) rfl) rfl, by decide +kernel, by decide +kernel, by decide +kernel, by decide⟩
theorem mv_L_101 : MVk RL 101 yX6_move cX6_move 5 (some .int) 4 6 := ⟨gtb_of (tb_m4 (i := 62) rfl) rfl, gtb_of (tb_m4 (i := 63) rfl) rfl, gtb_of (tb_m4 (i := 64) rfl) rfl, cbX6_move, _, _, rfl⟩
theorem cbX3_carry : CBk yX3_carry cX3_carry 9 none 4 := ⟨gtb_of (tb_m1 (i := 3) rfl) rfl, gtb_of (tb_m4 (i := 69) rfl) rfl, by decide +kernel, by decide +kernel, by decide +kernel, by decide⟩
theorem mv_X6_268 : MVk RX6 268 yX3_carry cX3_carry 9 none 4 3 := ⟨gtb_of (tb_m4 (i := 66) rfl) rfl, gtb_of (tb_m4 (i := 67) rfl) rfl, gtb_of (tb_m4 (i := 68) rfl) rfl, cbX3_carry, _, _, rfl⟩
theorem cbX6_keep : CBk yX6_keep cX6_keep 3 (some .int) 1 := ⟨gtb_of (tb_m1 (i := 1) rfl) rfl, gtb_of (tb_m4 (i := 73) rfl) rfl, by decide +kernel, by decide +kernel, by decide +kernel, by decide⟩
theorem mv_L_106 : MVk RL 106 yX6_keep cX6_keep 3 (some .int) 1 6 := ⟨gtb_of (tb_m4 (i := 70) rfl) rfl, gtb_of (tb_m4 (i := 71) rfl) rfl, gtb_of (tb_m4 (i := 72) rfl) rfl, cbX6_keep, _, _, rfl⟩
theorem cbX6_isKept : CBk yX6_isKept cX6_isKept 2 (some .boolean) 1 := ⟨gtb_of (tb_m1 (i := 1) rfl) rfl, gtb_of (tb_m4 (i := 77) rfl) rfl, by decide +kernel, by decide +kernel, by decide +kernel, by decide⟩
theorem mv_X6_272 : MVk RX6 272 yX6_isKept cX6_isKept 2 (some .boolean) 1 6 := ⟨gtb_of (tb_m4 (i := 74) rfl) rfl, gtb_of (tb_m4 (i := 76) rfl) rfl, gtb_of (tb_s2 (i := 15) (q := (yX6_isKept, 16)) rfl) rfl, cbX6_isKept, _, _, rfl⟩
theorem cbX6_imageOf : CBk yX6_imageOf cX6_imageOf 2 (some (.object "DropCapitals$Pages")) 1 := ⟨gtb_of (tb_m1 (i := 1) rfl) rfl, gtb_of (tb_m4 (i := 81) rfl) rfl, by decide +kernel, by decide +kernel, by decide +kernel, by decide⟩
theorem mv_X6_275 : MVk RX6 275 yX6_imageOf cX6_imageOf 2 (some (.object "DropCapitals$Pages")) 1 6 := ⟨gtb_of (tb_m4 (i := 78) rfl) rfl, gtb_of (tb_m4 (i := 80) rfl) rfl, gtb_of (tb_s3 (i := 0) (q := (yX6_imageOf, 16)) rfl) rfl, cbX6_imageOf, _, _, rfl⟩
theorem cbX6_back : CBk yX6_back cX6_back 2 (some .int) 1 := ⟨gtb_of (tb_m1 (i := 1) rfl) rfl, gtb_of (tb_m4 (i := 85) rfl) rfl, by decide +kernel, by decide +kernel, by decide +kernel, by decide⟩
theorem mv_L_110 : MVk RL 110 yX6_back cX6_back 2 (some .int) 1 6 := ⟨gtb_of (tb_m4 (i := 82) rfl) rfl, gtb_of (tb_m4 (i := 83) rfl) rfl, gtb_of (tb_m4 (i := 84) rfl) rfl, cbX6_back, _, _, rfl⟩
theorem fl_X7_7 : FLk RX7 7 7 0 RX7 TX7 30 := ⟨cl_7, by decide, rfl, Or.inl (gtb_of (tb_m4 (i := 92) rfl) rfl)⟩
theorem fl_X7_13 : FLk RX7 13 7 1 RX7 TX7 30 := ⟨cl_7, by decide, rfl, Or.inl (gtb_of (tb_m4 (i := 93) rfl) rfl)⟩
theorem fl_X7_16 : FLk RX7 16 7 2 RX7 TX7 30 := ⟨cl_7, by decide, rfl, Or.inl (gtb_of (tb_m4 (i := 94) rfl) rfl)⟩
theorem fl_X7_168 : FLk RX7 168 7 3 RX7 TX7 30 := ⟨cl_7, by decide, rfl, Or.inl (gtb_of (tb_m4 (i := 95) rfl) rfl)⟩
theorem fl_X7_19 : FLk RX7 19 7 4 RX7 TX7 30 := ⟨cl_7, by decide, rfl, Or.inl (gtb_of (tb_m4 (i := 96) rfl) rfl)⟩
theorem fl_X7_131 : FLk RX7 131 7 5 RX7 TX7 30 := ⟨cl_7, by decide, rfl, Or.inl (gtb_of (tb_m4 (i := 97) rfl) rfl)⟩
theorem fl_X7_22 : FLk RX7 22 7 6 RX7 TX7 30 := ⟨cl_7, by decide, rfl, Or.inl (gtb_of (tb_m4 (i := 98) rfl) rfl)⟩
theorem fl_X7_25 : FLk RX7 25 7 7 RX7 TX7 30 := ⟨cl_7, by decide, rfl, Or.inl (gtb_of (tb_m4 (i := 99) rfl) rfl)⟩
theorem fl_X7_29 : FLk RX7 29 7 8 RX7 TX7 30 := ⟨cl_7, by decide, rfl, Or.inl (gtb_of (tb_m4 (i := 100) rfl) rfl)⟩
theorem fl_X7_77 : FLk RX7 77 7 9 RX7 TX7 30 := ⟨cl_7, by decide, rfl, Or.inl (gtb_of (tb_m4 (i := 101) rfl) rfl)⟩
theorem fl_X7_81 : FLk RX7 81 7 10 RX7 TX7 30 := ⟨cl_7, by decide, rfl, Or.inl (gtb_of (tb_m4 (i := 102) rfl) rfl)⟩
theorem fl_X7_87 : FLk RX7 87 7 11 RX7 TX7 30 := ⟨cl_7, by decide, rfl, Or.inl (gtb_of (tb_m4 (i := 103) rfl) rfl)⟩
theorem fl_X7_90 : FLk RX7 90 7 12 RX7 TX7 30 := ⟨cl_7, by decide, rfl, Or.inl (gtb_of (tb_m4 (i := 104) rfl) rfl)⟩
theorem fl_X7_84 : FLk RX7 84 7 13 RX7 TX7 30 := ⟨cl_7, by decide, rfl, Or.inl (gtb_of (tb_m4 (i := 105) rfl) rfl)⟩
theorem fl_X7_100 : FLk RX7 100 7 14 RX7 TX7 30 := ⟨cl_7, by decide, rfl, Or.inl (gtb_of (tb_m4 (i := 106) rfl) rfl)⟩
theorem fl_X7_97 : FLk RX7 97 7 15 RX7 TX7 30 := ⟨cl_7, by decide, rfl, Or.inl (gtb_of (tb_m4 (i := 107) rfl) rfl)⟩
theorem fl_X7_32 : FLk RX7 32 7 16 RX7 TX7 30 := ⟨cl_7, by decide, rfl, Or.inl (gtb_of (tb_m4 (i := 108) rfl) rfl)⟩
theorem fl_X7_35 : FLk RX7 35 7 17 RX7 TX7 30 := ⟨cl_7, by decide, rfl, Or.inl (gtb_of (tb_m4 (i := 109) rfl) rfl)⟩
theorem fl_X7_38 : FLk RX7 38 7 18 RX7 TX7 30 := ⟨cl_7, by decide, rfl, Or.inl (gtb_of (tb_m4 (i := 110) rfl) rfl)⟩
theorem fl_X7_41 : FLk RX7 41 7 19 RX7 TX7 30 := ⟨cl_7, by decide, rfl, Or.inl (gtb_of (tb_m4 (i := 111) rfl) rfl)⟩
theorem fl_X7_44 : FLk RX7 44 7 20 RX7 TX7 30 := ⟨cl_7, by decide, rfl, Or.inl (gtb_of (tb_m4 (i := 112) rfl) rfl)⟩
theorem fl_X7_47 : FLk RX7 47 7 21 RX7 TX7 30 := ⟨cl_7, by decide, rfl, Or.inl (gtb_of (tb_m4 (i := 113) rfl) rfl)⟩
theorem fl_X7_50 : FLk RX7 50 7 22 RX7 TX7 30 := ⟨cl_7, by decide, rfl, Or.inl (gtb_of (tb_m4 (i := 114) rfl) rfl)⟩
theorem fl_X7_53 : FLk RX7 53 7 23 RX7 TX7 30 := ⟨cl_7, by decide, rfl, Or.inl (gtb_of (tb_m4 (i := 115) rfl) rfl)⟩
theorem fl_X7_56 : FLk RX7 56 7 24 RX7 TX7 30 := ⟨cl_7, by decide, rfl, Or.inl (gtb_of (tb_m4 (i := 116) rfl) rfl)⟩
theorem fl_X7_214 : FLk RX7 214 7 25 RX7 TX7 30 := ⟨cl_7, by decide, rfl, Or.inl (gtb_of (tb_m4 (i := 117) rfl) rfl)⟩
theorem fl_X7_59 : FLk RX7 59 7 26 RX7 TX7 30 := ⟨cl_7, by decide, rfl, Or.inl (gtb_of (tb_m4 (i := 118) rfl) rfl)⟩
theorem fl_X7_62 : FLk RX7 62 7 27 RX7 TX7 30 := ⟨cl_7, by decide, rfl, Or.inl (gtb_of (tb_m4 (i := 119) rfl) rfl)⟩
theorem fl_X7_65 : FLk RX7 65 7 28 RX7 TX7 30 := ⟨cl_7, by decide, rfl, Or.inl (gtb_of (tb_m4 (i := 120) rfl) rfl)⟩
theorem fl_X7_68 : FLk RX7 68 7 29 RX7 TX7 30 := ⟨cl_7, by decide, rfl, Or.inl (gtb_of (tb_m4 (i := 121) rfl) rfl)⟩
theorem cbX7_feed : CBk yX7_feed cX7_feed 2 (some .int) 1 := ⟨gtb_of (tb_m1 (i := 8) rfl) rfl, gtb_of (tb_m4 (i := 186) rfl) rfl, by decide +kernel, by decide +kernel, by decide +kernel, by decide⟩
theorem mv_L_17 : MVk RL 17 yX7_feed cX7_feed 2 (some .int) 1 7 := ⟨gtb_of (tb_m4 (i := 183) rfl) rfl, gtb_of (tb_m4 (i := 184) rfl) rfl, gtb_of (tb_m4 (i := 185) rfl) rfl, cbX7_feed, _, _, rfl⟩
theorem kc_X7_71 : Cond.constantLong RX7 71 127 ∈ gtb := gtb_of (tb_m4 (i := 187) rfl) rfl
theorem cbX7_in : CBk yX7_in cX7_in 6 (some .boolean) 3 := ⟨gtb_of (tb_m1 (i := 8) rfl) rfl, gtb_of (tb_m4 (i := 190) rfl) rfl, by decide +kernel, by decide +kernel, by decide +kernel, by decide⟩
theorem ms_X7_73 : MSk RX7 73 yX7_in cX7_in 6 (some .boolean) 3 := ⟨gtb_of (tb_m4 (i := 189) rfl) rfl, cbX7_in, Or.inl (gtb_of (tb_m4 (i := 188) rfl) rfl)⟩
theorem cbX7_end : CBk yX7_end cX7_end 3 (some .int) 1 := ⟨gtb_of (tb_m1 (i := 8) rfl) rfl, gtb_of (tb_m4 (i := 194) rfl) rfl, by decide +kernel, by decide +kernel, by decide +kernel, by decide⟩
theorem mv_L_21 : MVk RL 21 yX7_end cX7_end 3 (some .int) 1 7 := ⟨gtb_of (tb_m4 (i := 191) rfl) rfl, gtb_of (tb_m4 (i := 192) rfl) rfl, gtb_of (tb_m4 (i := 193) rfl) rfl, cbX7_end, _, _, rfl⟩
theorem cbX7_text : CBk yX7_text cX7_text 3 (some .int) 0 := ⟨gtb_of (tb_m1 (i := 8) rfl) rfl, gtb_of (tb_m4 (i := 198) rfl) rfl, by decide +kernel, by decide +kernel, by decide +kernel, by decide⟩
theorem mv_L_26 : MVk RL 26 yX7_text cX7_text 3 (some .int) 0 7 := ⟨gtb_of (tb_m4 (i := 195) rfl) rfl, gtb_of (tb_m4 (i := 196) rfl) rfl, gtb_of (tb_m4 (i := 197) rfl) rfl, cbX7_text, _, _, rfl⟩
theorem cbX7_reads : CBk yX7_reads cX7_reads 2 none 0 := ⟨gtb_of (tb_m1 (i := 8) rfl) rfl, gtb_of (tb_m4 (i := 202) rfl) rfl, by decide +kernel, by decide +kernel, by decide +kernel, by decide⟩
theorem mv_X7_115 : MVk RX7 115 yX7_reads cX7_reads 2 none 0 7 := ⟨gtb_of (tb_m4 (i := 199) rfl) rfl, gtb_of (tb_m4 (i := 201) rfl) rfl, gtb_of (tb_s3 (i := 1) (q := (yX7_reads, 30)) rfl) rfl, cbX7_reads, _, _, rfl⟩
theorem cbX7_byteAt : CBk yX7_byteAt cX7_byteAt 2 (some .int) 1 := ⟨gtb_of (tb_m1 (i := 8) rfl) rfl, gtb_of (tb_m4 (i := 206) rfl) rfl, by decide +kernel, by decide +kernel, by decide +kernel, by decide⟩
theorem mv_X7_93 : MVk RX7 93 yX7_byteAt cX7_byteAt 2 (some .int) 1 7 := ⟨gtb_of (tb_m4 (i := 203) rfl) rfl, gtb_of (tb_m4 (i := 205) rfl) rfl, gtb_of (tb_s3 (i := 2) (q := (yX7_byteAt, 30)) rfl) rfl, cbX7_byteAt, _, _, rfl⟩
theorem kc_X7_103 : Cond.constantLong RX7 103 97 ∈ gtb := gtb_of (tb_m4 (i := 207) rfl) rfl
theorem kc_X7_105 : Cond.constantLong RX7 105 122 ∈ gtb := gtb_of (tb_m4 (i := 208) rfl) rfl
theorem kc_X7_107 : Cond.constantLong RX7 107 48 ∈ gtb := gtb_of (tb_m4 (i := 209) rfl) rfl
theorem kc_X7_109 : Cond.constantLong RX7 109 57 ∈ gtb := gtb_of (tb_m4 (i := 210) rfl) rfl
theorem cbX7_must : CBk yX7_must cX7_must 3 none 2 := ⟨gtb_of (tb_m1 (i := 8) rfl) rfl, gtb_of (tb_m4 (i := 214) rfl) rfl, by decide +kernel, by decide +kernel, by decide +kernel, by decide⟩
theorem mv_X7_111 : MVk RX7 111 yX7_must cX7_must 3 none 2 7 := ⟨gtb_of (tb_m4 (i := 211) rfl) rfl, gtb_of (tb_m4 (i := 213) rfl) rfl, gtb_of (tb_s3 (i := 3) (q := (yX7_must, 30)) rfl) rfl, cbX7_must, _, _, rfl⟩
theorem cbX7_readsLine : CBk yX7_readsLine cX7_readsLine 2 none 0 := ⟨gtb_of (tb_m1 (i := 8) rfl) rfl, gtb_of (tb_m4 (i := 218) rfl) rfl, by decide +kernel, by decide +kernel, by decide +kernel, by decide⟩
theorem mv_X7_165 : MVk RX7 165 yX7_readsLine cX7_readsLine 2 none 0 7 := ⟨gtb_of (tb_m4 (i := 215) rfl) rfl, gtb_of (tb_m4 (i := 217) rfl) rfl, gtb_of (tb_s3 (i := 4) (q := (yX7_readsLine, 30)) rfl) rfl, cbX7_readsLine, _, _, rfl⟩
theorem cbX7_nameNow : CBk yX7_nameNow cX7_nameNow 6 (some .int) 2 := ⟨gtb_of (tb_m1 (i := 8) rfl) rfl, gtb_of (tb_m4 (i := 222) rfl) rfl, by decide +kernel, by decide +kernel, by decide +kernel, by decide⟩
theorem mv_X7_118 : MVk RX7 118 yX7_nameNow cX7_nameNow 6 (some .int) 2 7 := ⟨gtb_of (tb_m4 (i := 219) rfl) rfl, gtb_of (tb_m4 (i := 221) rfl) rfl, gtb_of (tb_s3 (i := 5) (q := (yX7_nameNow, 30)) rfl) rfl, cbX7_nameNow, _, _, rfl⟩
theorem cbX7_readsSetting : CBk yX7_readsSetting cX7_readsSetting 3 none 0 := ⟨gtb_of (tb_m1 (i := 8) rfl) rfl, gtb_of (tb_m4 (i := 226) rfl) rfl, by decide +kernel, by decide +kernel, by decide +kernel, by decide⟩
theorem mv_X7_156 : MVk RX7 156 yX7_readsSetting cX7_readsSetting 3 none 0 7 := ⟨gtb_of (tb_m4 (i := 223) rfl) rfl, gtb_of (tb_m4 (i := 225) rfl) rfl, gtb_of (tb_s3 (i := 6) (q := (yX7_readsSetting, 30)) rfl) rfl, cbX7_readsSetting, _, _, rfl⟩
theorem cbX7_leastOf : CBk yX7_leastOf cX7_leastOf 1 (some .int) 1 := ⟨gtb_of (tb_m1 (i := 8) rfl) rfl, gtb_of (tb_m4 (i := 229) rfl) rfl, by decide +kernel, by decide +kernel, by decide +kernel, by decide⟩
theorem ms_X7_122 : MSk RX7 122 yX7_leastOf cX7_leastOf 1 (some .int) 1 := ⟨gtb_of (tb_m4 (i := 228) rfl) rfl, cbX7_leastOf, Or.inl (gtb_of (tb_m4 (i := 227) rfl) rfl)⟩
theorem cbX7_mostOf : CBk yX7_mostOf cX7_mostOf 1 (some .int) 1 := ⟨gtb_of (tb_m1 (i := 8) rfl) rfl, gtb_of (tb_m4 (i := 232) rfl) rfl, by decide +kernel, by decide +kernel, by decide +kernel, by decide⟩
theorem ms_X7_125 : MSk RX7 125 yX7_mostOf cX7_mostOf 1 (some .int) 1 := ⟨gtb_of (tb_m4 (i := 231) rfl) rfl, cbX7_mostOf, Or.inl (gtb_of (tb_m4 (i := 230) rfl) rfl)⟩
theorem cbX7_number : CBk yX7_number cX7_number 4 (some .int) 2 := ⟨gtb_of (tb_m1 (i := 8) rfl) rfl, gtb_of (tb_m4 (i := 236) rfl) rfl, by decide +kernel, by decide +kernel, by decide +kernel, by decide⟩
theorem mv_X7_128 : MVk RX7 128 yX7_number cX7_number 4 (some .int) 2 7 := ⟨gtb_of (tb_m4 (i := 233) rfl) rfl, gtb_of (tb_m4 (i := 235) rfl) rfl, gtb_of (tb_s3 (i := 7) (q := (yX7_number, 30)) rfl) rfl, cbX7_number, _, _, rfl⟩
theorem cbX7_readsShape : CBk yX7_readsShape cX7_readsShape 3 none 0 := ⟨gtb_of (tb_m1 (i := 8) rfl) rfl, gtb_of (tb_m5 (i := 0) rfl) rfl, by decide +kernel, by decide +kernel, by decide +kernel, by decide⟩
theorem mv_X7_159 : MVk RX7 159 yX7_readsShape cX7_readsShape 3 none 0 7 := ⟨gtb_of (tb_m4 (i := 237) rfl) rfl, gtb_of (tb_m4 (i := 239) rfl) rfl, gtb_of (tb_s3 (i := 8) (q := (yX7_readsShape, 30)) rfl) rfl, cbX7_readsShape, _, _, rfl⟩
theorem cbX7_isLetterNow : CBk yX7_isLetterNow cX7_isLetterNow 1 (some .boolean) 0 := ⟨gtb_of (tb_m1 (i := 8) rfl) rfl, gtb_of (tb_m5 (i := 4) rfl) rfl, by decide +kernel, by decide +kernel, by decide +kernel, by decide⟩
theorem mv_X7_134 : MVk RX7 134 yX7_isLetterNow cX7_isLetterNow 1 (some .boolean) 0 7 := ⟨gtb_of (tb_m5 (i := 1) rfl) rfl, gtb_of (tb_m5 (i := 3) rfl) rfl, gtb_of (tb_s3 (i := 9) (q := (yX7_isLetterNow, 30)) rfl) rfl, cbX7_isLetterNow, _, _, rfl⟩
theorem cbX7_shapeOf : CBk yX7_shapeOf cX7_shapeOf 3 (some .int) 1 := ⟨gtb_of (tb_m1 (i := 8) rfl) rfl, gtb_of (tb_m5 (i := 8) rfl) rfl, by decide +kernel, by decide +kernel, by decide +kernel, by decide⟩
theorem mv_X7_138 : MVk RX7 138 yX7_shapeOf cX7_shapeOf 3 (some .int) 1 7 := ⟨gtb_of (tb_m5 (i := 5) rfl) rfl, gtb_of (tb_m5 (i := 7) rfl) rfl, gtb_of (tb_s3 (i := 10) (q := (yX7_shapeOf, 30)) rfl) rfl, cbX7_shapeOf, _, _, rfl⟩
theorem cbX7_readsStep : CBk yX7_readsStep cX7_readsStep 7 none 1 := ⟨gtb_of (tb_m1 (i := 8) rfl) rfl, gtb_of (tb_m5 (i := 12) rfl) rfl, by decide +kernel, by decide +kernel, by decide +kernel, by decide⟩
theorem mv_X7_141 : MVk RX7 141 yX7_readsStep cX7_readsStep 7 none 1 7 := ⟨gtb_of (tb_m5 (i := 9) rfl) rfl, gtb_of (tb_m5 (i := 11) rfl) rfl, gtb_of (tb_s3 (i := 11) (q := (yX7_readsStep, 30)) rfl) rfl, cbX7_readsStep, _, _, rfl⟩
theorem cbX7_readsPar : CBk yX7_readsPar cX7_readsPar 3 none 0 := ⟨gtb_of (tb_m1 (i := 8) rfl) rfl, gtb_of (tb_m5 (i := 16) rfl) rfl, by decide +kernel, by decide +kernel, by decide +kernel, by decide⟩
theorem mv_X7_162 : MVk RX7 162 yX7_readsPar cX7_readsPar 3 none 0 7 := ⟨gtb_of (tb_m5 (i := 13) rfl) rfl, gtb_of (tb_m5 (i := 15) rfl) rfl, gtb_of (tb_s3 (i := 12) (q := (yX7_readsPar, 30)) rfl) rfl, cbX7_readsPar, _, _, rfl⟩
theorem cbX7_isSign : CBk yX7_isSign cX7_isSign 2 (some .boolean) 1 := ⟨gtb_of (tb_m1 (i := 8) rfl) rfl, gtb_of (tb_m5 (i := 20) rfl) rfl, by decide +kernel, by decide +kernel, by decide +kernel, by decide⟩
theorem mv_X7_149 : MVk RX7 149 yX7_isSign cX7_isSign 2 (some .boolean) 1 7 := ⟨gtb_of (tb_m5 (i := 17) rfl) rfl, gtb_of (tb_m5 (i := 19) rfl) rfl, gtb_of (tb_s3 (i := 13) (q := (yX7_isSign, 30)) rfl) rfl, cbX7_isSign, _, _, rfl⟩
theorem cbX7_readsWord : CBk yX7_readsWord cX7_readsWord 4 none 1 := ⟨gtb_of (tb_m1 (i := 8) rfl) rfl, gtb_of (tb_m5 (i := 24) rfl) rfl, by decide +kernel, by decide +kernel, by decide +kernel, by decide⟩
theorem mv_X7_153 : MVk RX7 153 yX7_readsWord cX7_readsWord 4 none 1 7 := ⟨gtb_of (tb_m5 (i := 21) rfl) rfl, gtb_of (tb_m5 (i := 23) rfl) rfl, gtb_of (tb_s3 (i := 14) (q := (yX7_readsWord, 30)) rfl) rfl, cbX7_readsWord, _, _, rfl⟩
theorem cbX7_wordsOfDraft : CBk yX7_wordsOfDraft cX7_wordsOfDraft 3 (some .int) 0 := ⟨gtb_of (tb_m1 (i := 8) rfl) rfl, gtb_of (tb_m5 (i := 28) rfl) rfl, by decide +kernel, by decide +kernel, by decide +kernel, by decide⟩
theorem mv_X7_145 : MVk RX7 145 yX7_wordsOfDraft cX7_wordsOfDraft 3 (some .int) 0 7 := ⟨gtb_of (tb_m5 (i := 25) rfl) rfl, gtb_of (tb_m5 (i := 27) rfl) rfl, gtb_of (tb_s3 (i := 15) (q := (yX7_wordsOfDraft, 30)) rfl) rfl, cbX7_wordsOfDraft, _, _, rfl⟩
theorem cbX7_fault : CBk yX7_fault cX7_fault 1 (some .int) 0 := ⟨gtb_of (tb_m1 (i := 8) rfl) rfl, gtb_of (tb_m5 (i := 32) rfl) rfl, by decide +kernel, by decide +kernel, by decide +kernel, by decide⟩
theorem mv_L_30 : MVk RL 30 yX7_fault cX7_fault 1 (some .int) 0 7 := ⟨gtb_of (tb_m5 (i := 29) rfl) rfl, gtb_of (tb_m5 (i := 30) rfl) rfl, gtb_of (tb_m5 (i := 31) rfl) rfl, cbX7_fault, _, _, rfl⟩
theorem cbX7_rule : CBk yX7_rule cX7_rule 2 (some .int) 1 := ⟨gtb_of (tb_m1 (i := 8) rfl) rfl, gtb_of (tb_m5 (i := 36) rfl) rfl, by decide +kernel, by decide +kernel, by decide +kernel, by decide⟩
theorem mv_L_34 : MVk RL 34 yX7_rule cX7_rule 2 (some .int) 1 7 := ⟨gtb_of (tb_m5 (i := 33) rfl) rfl, gtb_of (tb_m5 (i := 34) rfl) rfl, gtb_of (tb_m5 (i := 35) rfl) rfl, cbX7_rule, _, _, rfl⟩
theorem kc_X7_243 : Cond.constantLong RX7 243 15 ∈ gtb := gtb_of (tb_m5 (i := 37) rfl) rfl
theorem kc_X7_245 : Cond.constantLong RX7 245 8 ∈ gtb := gtb_of (tb_m5 (i := 38) rfl) rfl
theorem kc_X7_247 : Cond.constantLong RX7 247 13 ∈ gtb := gtb_of (tb_m5 (i := 39) rfl) rfl
theorem cbX7_allWords : CBk yX7_allWords cX7_allWords 1 (some .int) 0 := ⟨gtb_of (tb_m1 (i := 8) rfl) rfl, gtb_of (tb_m5 (i := 43) rfl) rfl, by decide +kernel, by decide +kernel, by decide +kernel, by decide⟩
theorem mv_X7_237 : MVk RX7 237 yX7_allWords cX7_allWords 1 (some .int) 0 7 := ⟨gtb_of (tb_m5 (i := 40) rfl) rfl, gtb_of (tb_m5 (i := 42) rfl) rfl, gtb_of (tb_s4 (i := 0) (q := (yX7_allWords, 30)) rfl) rfl, cbX7_allWords, _, _, rfl⟩
theorem cbX7_firstWord : CBk yX7_firstWord cX7_firstWord 4 (some .int) 1 := ⟨gtb_of (tb_m1 (i := 8) rfl) rfl, gtb_of (tb_m5 (i := 47) rfl) rfl, by decide +kernel, by decide +kernel, by decide +kernel, by decide⟩
theorem mv_X7_201 : MVk RX7 201 yX7_firstWord cX7_firstWord 4 (some .int) 1 7 := ⟨gtb_of (tb_m5 (i := 44) rfl) rfl, gtb_of (tb_m5 (i := 46) rfl) rfl, gtb_of (tb_s4 (i := 1) (q := (yX7_firstWord, 30)) rfl) rfl, cbX7_firstWord, _, _, rfl⟩
theorem cbX7_parWords : CBk yX7_parWords cX7_parWords 2 (some .int) 1 := ⟨gtb_of (tb_m1 (i := 8) rfl) rfl, gtb_of (tb_m5 (i := 51) rfl) rfl, by decide +kernel, by decide +kernel, by decide +kernel, by decide⟩
theorem mv_X7_171 : MVk RX7 171 yX7_parWords cX7_parWords 2 (some .int) 1 7 := ⟨gtb_of (tb_m5 (i := 48) rfl) rfl, gtb_of (tb_m5 (i := 50) rfl) rfl, gtb_of (tb_s4 (i := 2) (q := (yX7_parWords, 30)) rfl) rfl, cbX7_parWords, _, _, rfl⟩
theorem cbX7_unlike : CBk yX7_unlike cX7_unlike 3 (some .int) 0 := ⟨gtb_of (tb_m1 (i := 8) rfl) rfl, gtb_of (tb_m5 (i := 55) rfl) rfl, by decide +kernel, by decide +kernel, by decide +kernel, by decide⟩
theorem mv_X7_249 : MVk RX7 249 yX7_unlike cX7_unlike 3 (some .int) 0 7 := ⟨gtb_of (tb_m5 (i := 52) rfl) rfl, gtb_of (tb_m5 (i := 54) rfl) rfl, gtb_of (tb_s4 (i := 3) (q := (yX7_unlike, 30)) rfl) rfl, cbX7_unlike, _, _, rfl⟩
theorem cbX7_likes : CBk yX7_likes cX7_likes 5 (some .int) 2 := ⟨gtb_of (tb_m1 (i := 8) rfl) rfl, gtb_of (tb_m5 (i := 59) rfl) rfl, by decide +kernel, by decide +kernel, by decide +kernel, by decide⟩
theorem mv_X7_240 : MVk RX7 240 yX7_likes cX7_likes 5 (some .int) 2 7 := ⟨gtb_of (tb_m5 (i := 56) rfl) rfl, gtb_of (tb_m5 (i := 58) rfl) rfl, gtb_of (tb_s4 (i := 4) (q := (yX7_likes, 30)) rfl) rfl, cbX7_likes, _, _, rfl⟩
theorem cbX7_isLikeWord : CBk yX7_isLikeWord cX7_isLikeWord 5 (some .boolean) 2 := ⟨gtb_of (tb_m1 (i := 8) rfl) rfl, gtb_of (tb_m5 (i := 63) rfl) rfl, by decide +kernel, by decide +kernel, by decide +kernel, by decide⟩
theorem mv_X7_233 : MVk RX7 233 yX7_isLikeWord cX7_isLikeWord 5 (some .boolean) 2 7 := ⟨gtb_of (tb_m5 (i := 60) rfl) rfl, gtb_of (tb_m5 (i := 62) rfl) rfl, gtb_of (tb_s4 (i := 5) (q := (yX7_isLikeWord, 30)) rfl) rfl, cbX7_isLikeWord, _, _, rfl⟩
theorem cbX7_lays : CBk yX7_lays cX7_lays 4 none 0 := ⟨gtb_of (tb_m1 (i := 8) rfl) rfl, gtb_of (tb_m5 (i := 67) rfl) rfl, by decide +kernel, by decide +kernel, by decide +kernel, by decide⟩
theorem mv_X7_252 : MVk RX7 252 yX7_lays cX7_lays 4 none 0 7 := ⟨gtb_of (tb_m5 (i := 64) rfl) rfl, gtb_of (tb_m5 (i := 66) rfl) rfl, gtb_of (tb_s4 (i := 6) (q := (yX7_lays, 30)) rfl) rfl, cbX7_lays, _, _, rfl⟩
theorem cbX7_parShape : CBk yX7_parShape cX7_parShape 2 (some .int) 1 := ⟨gtb_of (tb_m1 (i := 8) rfl) rfl, gtb_of (tb_m5 (i := 71) rfl) rfl, by decide +kernel, by decide +kernel, by decide +kernel, by decide⟩
theorem mv_X7_174 : MVk RX7 174 yX7_parShape cX7_parShape 2 (some .int) 1 7 := ⟨gtb_of (tb_m5 (i := 68) rfl) rfl, gtb_of (tb_m5 (i := 70) rfl) rfl, gtb_of (tb_s4 (i := 7) (q := (yX7_parShape, 30)) rfl) rfl, cbX7_parShape, _, _, rfl⟩
theorem cbX7_reachedBy : CBk yX7_reachedBy cX7_reachedBy 4 (some .int) 1 := ⟨gtb_of (tb_m1 (i := 8) rfl) rfl, gtb_of (tb_m5 (i := 75) rfl) rfl, by decide +kernel, by decide +kernel, by decide +kernel, by decide⟩
theorem mv_X7_217 : MVk RX7 217 yX7_reachedBy cX7_reachedBy 4 (some .int) 1 7 := ⟨gtb_of (tb_m5 (i := 72) rfl) rfl, gtb_of (tb_m5 (i := 74) rfl) rfl, gtb_of (tb_s4 (i := 8) (q := (yX7_reachedBy, 30)) rfl) rfl, cbX7_reachedBy, _, _, rfl⟩
theorem cbX7_heightOf : CBk yX7_heightOf cX7_heightOf 2 (some .int) 1 := ⟨gtb_of (tb_m1 (i := 8) rfl) rfl, gtb_of (tb_m5 (i := 79) rfl) rfl, by decide +kernel, by decide +kernel, by decide +kernel, by decide⟩
theorem mv_X7_183 : MVk RX7 183 yX7_heightOf cX7_heightOf 2 (some .int) 1 7 := ⟨gtb_of (tb_m5 (i := 76) rfl) rfl, gtb_of (tb_m5 (i := 78) rfl) rfl, gtb_of (tb_s4 (i := 9) (q := (yX7_heightOf, 30)) rfl) rfl, cbX7_heightOf, _, _, rfl⟩
theorem cbX7_parDrop : CBk yX7_parDrop cX7_parDrop 2 (some .int) 1 := ⟨gtb_of (tb_m1 (i := 8) rfl) rfl, gtb_of (tb_m5 (i := 83) rfl) rfl, by decide +kernel, by decide +kernel, by decide +kernel, by decide⟩
theorem mv_X7_177 : MVk RX7 177 yX7_parDrop cX7_parDrop 2 (some .int) 1 7 := ⟨gtb_of (tb_m5 (i := 80) rfl) rfl, gtb_of (tb_m5 (i := 82) rfl) rfl, gtb_of (tb_s4 (i := 10) (q := (yX7_parDrop, 30)) rfl) rfl, cbX7_parDrop, _, _, rfl⟩
theorem cbX7_reachOf : CBk yX7_reachOf cX7_reachOf 9 (some .int) 2 := ⟨gtb_of (tb_m1 (i := 8) rfl) rfl, gtb_of (tb_m5 (i := 87) rfl) rfl, by decide +kernel, by decide +kernel, by decide +kernel, by decide⟩
theorem mv_X7_192 : MVk RX7 192 yX7_reachOf cX7_reachOf 9 (some .int) 2 7 := ⟨gtb_of (tb_m5 (i := 84) rfl) rfl, gtb_of (tb_m5 (i := 86) rfl) rfl, gtb_of (tb_s4 (i := 11) (q := (yX7_reachOf, 30)) rfl) rfl, cbX7_reachOf, _, _, rfl⟩
theorem cbX7_ofShape : CBk yX7_ofShape cX7_ofShape 3 (some .int) 2 := ⟨gtb_of (tb_m1 (i := 8) rfl) rfl, gtb_of (tb_m5 (i := 91) rfl) rfl, by decide +kernel, by decide +kernel, by decide +kernel, by decide⟩
theorem mv_X7_180 : MVk RX7 180 yX7_ofShape cX7_ofShape 3 (some .int) 2 7 := ⟨gtb_of (tb_m5 (i := 88) rfl) rfl, gtb_of (tb_m5 (i := 90) rfl) rfl, gtb_of (tb_s4 (i := 12) (q := (yX7_ofShape, 30)) rfl) rfl, cbX7_ofShape, _, _, rfl⟩
theorem cbX7_drawnBegin : CBk yX7_drawnBegin cX7_drawnBegin 3 (some .int) 2 := ⟨gtb_of (tb_m1 (i := 8) rfl) rfl, gtb_of (tb_m5 (i := 95) rfl) rfl, by decide +kernel, by decide +kernel, by decide +kernel, by decide⟩
theorem mv_X7_186 : MVk RX7 186 yX7_drawnBegin cX7_drawnBegin 3 (some .int) 2 7 := ⟨gtb_of (tb_m5 (i := 92) rfl) rfl, gtb_of (tb_m5 (i := 94) rfl) rfl, gtb_of (tb_s4 (i := 13) (q := (yX7_drawnBegin, 30)) rfl) rfl, cbX7_drawnBegin, _, _, rfl⟩
theorem cbX7_drawnExtent : CBk yX7_drawnExtent cX7_drawnExtent 3 (some .int) 2 := ⟨gtb_of (tb_m1 (i := 8) rfl) rfl, gtb_of (tb_m5 (i := 99) rfl) rfl, by decide +kernel, by decide +kernel, by decide +kernel, by decide⟩
theorem mv_X7_189 : MVk RX7 189 yX7_drawnExtent cX7_drawnExtent 3 (some .int) 2 7 := ⟨gtb_of (tb_m5 (i := 96) rfl) rfl, gtb_of (tb_m5 (i := 98) rfl) rfl, gtb_of (tb_s4 (i := 14) (q := (yX7_drawnExtent, 30)) rfl) rfl, cbX7_drawnExtent, _, _, rfl⟩
theorem cbX7_laysFirst : CBk yX7_laysFirst cX7_laysFirst 7 (some .int) 1 := ⟨gtb_of (tb_m1 (i := 8) rfl) rfl, gtb_of (tb_m5 (i := 103) rfl) rfl, by decide +kernel, by decide +kernel, by decide +kernel, by decide⟩
theorem mv_X7_220 : MVk RX7 220 yX7_laysFirst cX7_laysFirst 7 (some .int) 1 7 := ⟨gtb_of (tb_m5 (i := 100) rfl) rfl, gtb_of (tb_m5 (i := 102) rfl) rfl, gtb_of (tb_s4 (i := 15) (q := (yX7_laysFirst, 30)) rfl) rfl, cbX7_laysFirst, _, _, rfl⟩
theorem cbX7_roomAt : CBk yX7_roomAt cX7_roomAt 4 (some .int) 2 := ⟨gtb_of (tb_m1 (i := 8) rfl) rfl, gtb_of (tb_m5 (i := 107) rfl) rfl, by decide +kernel, by decide +kernel, by decide +kernel, by decide⟩
theorem mv_X7_204 : MVk RX7 204 yX7_roomAt cX7_roomAt 4 (some .int) 2 7 := ⟨gtb_of (tb_m5 (i := 104) rfl) rfl, gtb_of (tb_m5 (i := 106) rfl) rfl, gtb_of (tb_s5 (i := 0) (q := (yX7_roomAt, 30)) rfl) rfl, cbX7_roomAt, _, _, rfl⟩
theorem cbX7_indentAt : CBk yX7_indentAt cX7_indentAt 6 (some .int) 2 := ⟨gtb_of (tb_m1 (i := 8) rfl) rfl, gtb_of (tb_m5 (i := 111) rfl) rfl, by decide +kernel, by decide +kernel, by decide +kernel, by decide⟩
theorem mv_X7_198 : MVk RX7 198 yX7_indentAt cX7_indentAt 6 (some .int) 2 7 := ⟨gtb_of (tb_m5 (i := 108) rfl) rfl, gtb_of (tb_m5 (i := 110) rfl) rfl, gtb_of (tb_s5 (i := 1) (q := (yX7_indentAt, 30)) rfl) rfl, cbX7_indentAt, _, _, rfl⟩
theorem cbX7_usedBy : CBk yX7_usedBy cX7_usedBy 5 (some .int) 2 := ⟨gtb_of (tb_m1 (i := 8) rfl) rfl, gtb_of (tb_m5 (i := 115) rfl) rfl, by decide +kernel, by decide +kernel, by decide +kernel, by decide⟩
theorem mv_X7_207 : MVk RX7 207 yX7_usedBy cX7_usedBy 5 (some .int) 2 7 := ⟨gtb_of (tb_m5 (i := 112) rfl) rfl, gtb_of (tb_m5 (i := 114) rfl) rfl, gtb_of (tb_s5 (i := 2) (q := (yX7_usedBy, 30)) rfl) rfl, cbX7_usedBy, _, _, rfl⟩
theorem cbX7_widthOf : CBk yX7_widthOf cX7_widthOf 5 (some .int) 1 := ⟨gtb_of (tb_m1 (i := 8) rfl) rfl, gtb_of (tb_m5 (i := 119) rfl) rfl, by decide +kernel, by decide +kernel, by decide +kernel, by decide⟩
theorem mv_X7_195 : MVk RX7 195 yX7_widthOf cX7_widthOf 5 (some .int) 1 7 := ⟨gtb_of (tb_m5 (i := 116) rfl) rfl, gtb_of (tb_m5 (i := 118) rfl) rfl, gtb_of (tb_s5 (i := 3) (q := (yX7_widthOf, 30)) rfl) rfl, cbX7_widthOf, _, _, rfl⟩
theorem cbX7_laysEven : CBk yX7_laysEven cX7_laysEven 8 none 2 := ⟨gtb_of (tb_m1 (i := 8) rfl) rfl, gtb_of (tb_m5 (i := 123) rfl) rfl, by decide +kernel, by decide +kernel, by decide +kernel, by decide⟩
theorem mv_X7_223 : MVk RX7 223 yX7_laysEven cX7_laysEven 8 none 2 7 := ⟨gtb_of (tb_m5 (i := 120) rfl) rfl, gtb_of (tb_m5 (i := 122) rfl) rfl, gtb_of (tb_s5 (i := 4) (q := (yX7_laysEven, 30)) rfl) rfl, cbX7_laysEven, _, _, rfl⟩
theorem cbX7_choosesAt : CBk yX7_choosesAt cX7_choosesAt 12 none 5 := ⟨gtb_of (tb_m1 (i := 8) rfl) rfl, gtb_of (tb_m5 (i := 127) rfl) rfl, by decide +kernel, by decide +kernel, by decide +kernel, by decide⟩
theorem mv_X7_210 : MVk RX7 210 yX7_choosesAt cX7_choosesAt 12 none 5 7 := ⟨gtb_of (tb_m5 (i := 124) rfl) rfl, gtb_of (tb_m5 (i := 126) rfl) rfl, gtb_of (tb_s5 (i := 5) (q := (yX7_choosesAt, 30)) rfl) rfl, cbX7_choosesAt, _, _, rfl⟩
theorem cbX7_counted : CBk yX7_counted cX7_counted 5 (some .int) 1 := ⟨gtb_of (tb_m1 (i := 8) rfl) rfl, gtb_of (tb_m5 (i := 131) rfl) rfl, by decide +kernel, by decide +kernel, by decide +kernel, by decide⟩
theorem mv_X7_255 : MVk RX7 255 yX7_counted cX7_counted 5 (some .int) 1 7 := ⟨gtb_of (tb_m5 (i := 128) rfl) rfl, gtb_of (tb_m5 (i := 130) rfl) rfl, gtb_of (tb_s5 (i := 6) (q := (yX7_counted, 30)) rfl) rfl, cbX7_counted, _, _, rfl⟩
theorem cbX7_isClash : CBk yX7_isClash cX7_isClash 4 (some .boolean) 1 := ⟨gtb_of (tb_m1 (i := 8) rfl) rfl, gtb_of (tb_m5 (i := 135) rfl) rfl, by decide +kernel, by decide +kernel, by decide +kernel, by decide⟩
theorem mv_X7_227 : MVk RX7 227 yX7_isClash cX7_isClash 4 (some .boolean) 1 7 := ⟨gtb_of (tb_m5 (i := 132) rfl) rfl, gtb_of (tb_m5 (i := 134) rfl) rfl, gtb_of (tb_s5 (i := 7) (q := (yX7_isClash, 30)) rfl) rfl, cbX7_isClash, _, _, rfl⟩
theorem cbX7_isOver : CBk yX7_isOver cX7_isOver 2 (some .boolean) 1 := ⟨gtb_of (tb_m1 (i := 8) rfl) rfl, gtb_of (tb_m5 (i := 139) rfl) rfl, by decide +kernel, by decide +kernel, by decide +kernel, by decide⟩
theorem mv_X7_230 : MVk RX7 230 yX7_isOver cX7_isOver 2 (some .boolean) 1 7 := ⟨gtb_of (tb_m5 (i := 136) rfl) rfl, gtb_of (tb_m5 (i := 138) rfl) rfl, gtb_of (tb_s5 (i := 8) (q := (yX7_isOver, 30)) rfl) rfl, cbX7_isOver, _, _, rfl⟩
theorem cbX7_shape : CBk yX7_shape cX7_shape 6 (some .int) 2 := ⟨gtb_of (tb_m1 (i := 8) rfl) rfl, gtb_of (tb_m5 (i := 143) rfl) rfl, by decide +kernel, by decide +kernel, by decide +kernel, by decide⟩
theorem mv_L_39 : MVk RL 39 yX7_shape cX7_shape 6 (some .int) 2 7 := ⟨gtb_of (tb_m5 (i := 140) rfl) rfl, gtb_of (tb_m5 (i := 141) rfl) rfl, gtb_of (tb_m5 (i := 142) rfl) rfl, cbX7_shape, _, _, rfl⟩
theorem cbX7_isShape : CBk yX7_isShape cX7_isShape 2 (some .boolean) 1 := ⟨gtb_of (tb_m1 (i := 8) rfl) rfl, gtb_of (tb_m5 (i := 147) rfl) rfl, by decide +kernel, by decide +kernel, by decide +kernel, by decide⟩
theorem mv_X7_258 : MVk RX7 258 yX7_isShape cX7_isShape 2 (some .boolean) 1 7 := ⟨gtb_of (tb_m5 (i := 144) rfl) rfl, gtb_of (tb_m5 (i := 146) rfl) rfl, gtb_of (tb_s5 (i := 9) (q := (yX7_isShape, 30)) rfl) rfl, cbX7_isShape, _, _, rfl⟩
theorem kc_X7_261 : Cond.constantLong RX7 261 3 ∈ gtb := gtb_of (tb_m5 (i := 148) rfl) rfl
theorem cbX7_step : CBk yX7_step cX7_step 4 (some .int) 3 := ⟨gtb_of (tb_m1 (i := 8) rfl) rfl, gtb_of (tb_m5 (i := 152) rfl) rfl, by decide +kernel, by decide +kernel, by decide +kernel, by decide⟩
theorem mv_L_44 : MVk RL 44 yX7_step cX7_step 4 (some .int) 3 7 := ⟨gtb_of (tb_m5 (i := 149) rfl) rfl, gtb_of (tb_m5 (i := 150) rfl) rfl, gtb_of (tb_m5 (i := 151) rfl) rfl, cbX7_step, _, _, rfl⟩
theorem cbX7_par : CBk yX7_par cX7_par 3 (some .int) 2 := ⟨gtb_of (tb_m1 (i := 8) rfl) rfl, gtb_of (tb_m5 (i := 156) rfl) rfl, by decide +kernel, by decide +kernel, by decide +kernel, by decide⟩
theorem mv_L_48 : MVk RL 48 yX7_par cX7_par 3 (some .int) 2 7 := ⟨gtb_of (tb_m5 (i := 153) rfl) rfl, gtb_of (tb_m5 (i := 154) rfl) rfl, gtb_of (tb_m5 (i := 155) rfl) rfl, cbX7_par, _, _, rfl⟩
theorem cbX7_isPar : CBk yX7_isPar cX7_isPar 2 (some .boolean) 1 := ⟨gtb_of (tb_m1 (i := 8) rfl) rfl, gtb_of (tb_m5 (i := 160) rfl) rfl, by decide +kernel, by decide +kernel, by decide +kernel, by decide⟩
theorem mv_X7_263 : MVk RX7 263 yX7_isPar cX7_isPar 2 (some .boolean) 1 7 := ⟨gtb_of (tb_m5 (i := 157) rfl) rfl, gtb_of (tb_m5 (i := 159) rfl) rfl, gtb_of (tb_s5 (i := 10) (q := (yX7_isPar, 30)) rfl) rfl, cbX7_isPar, _, _, rfl⟩
theorem kc_X7_266 : Cond.constantLong RX7 266 9 ∈ gtb := gtb_of (tb_m5 (i := 161) rfl) rfl
theorem cbX7_slacksOf : CBk yX7_slacksOf cX7_slacksOf 5 (some .int) 1 := ⟨gtb_of (tb_m1 (i := 8) rfl) rfl, gtb_of (tb_m5 (i := 165) rfl) rfl, by decide +kernel, by decide +kernel, by decide +kernel, by decide⟩
theorem mv_X7_268 : MVk RX7 268 yX7_slacksOf cX7_slacksOf 5 (some .int) 1 7 := ⟨gtb_of (tb_m5 (i := 162) rfl) rfl, gtb_of (tb_m5 (i := 164) rfl) rfl, gtb_of (tb_s5 (i := 11) (q := (yX7_slacksOf, 30)) rfl) rfl, cbX7_slacksOf, _, _, rfl⟩
theorem cbX7_ofLines : CBk yX7_ofLines cX7_ofLines 5 (some .int) 2 := ⟨gtb_of (tb_m1 (i := 8) rfl) rfl, gtb_of (tb_m5 (i := 169) rfl) rfl, by decide +kernel, by decide +kernel, by decide +kernel, by decide⟩
theorem mv_X7_271 : MVk RX7 271 yX7_ofLines cX7_ofLines 5 (some .int) 2 7 := ⟨gtb_of (tb_m5 (i := 166) rfl) rfl, gtb_of (tb_m5 (i := 168) rfl) rfl, gtb_of (tb_s5 (i := 12) (q := (yX7_ofLines, 30)) rfl) rfl, cbX7_ofLines, _, _, rfl⟩
theorem cbX7_word : CBk yX7_word cX7_word 5 (some .int) 3 := ⟨gtb_of (tb_m1 (i := 8) rfl) rfl, gtb_of (tb_m5 (i := 173) rfl) rfl, by decide +kernel, by decide +kernel, by decide +kernel, by decide⟩
theorem mv_L_52 : MVk RL 52 yX7_word cX7_word 5 (some .int) 3 7 := ⟨gtb_of (tb_m5 (i := 170) rfl) rfl, gtb_of (tb_m5 (i := 171) rfl) rfl, gtb_of (tb_m5 (i := 172) rfl) rfl, cbX7_word, _, _, rfl⟩
theorem kc_X7_277 : Cond.constantLong RX7 277 4 ∈ gtb := gtb_of (tb_m5 (i := 174) rfl) rfl
theorem cbX7_lineOfWord : CBk yX7_lineOfWord cX7_lineOfWord 3 (some .int) 1 := ⟨gtb_of (tb_m1 (i := 8) rfl) rfl, gtb_of (tb_m5 (i := 178) rfl) rfl, by decide +kernel, by decide +kernel, by decide +kernel, by decide⟩
theorem mv_X7_274 : MVk RX7 274 yX7_lineOfWord cX7_lineOfWord 3 (some .int) 1 7 := ⟨gtb_of (tb_m5 (i := 175) rfl) rfl, gtb_of (tb_m5 (i := 177) rfl) rfl, gtb_of (tb_s5 (i := 13) (q := (yX7_lineOfWord, 30)) rfl) rfl, cbX7_lineOfWord, _, _, rfl⟩
theorem cbX7_beginOf : CBk yX7_beginOf cX7_beginOf 4 (some .int) 1 := ⟨gtb_of (tb_m1 (i := 8) rfl) rfl, gtb_of (tb_m5 (i := 182) rfl) rfl, by decide +kernel, by decide +kernel, by decide +kernel, by decide⟩
theorem mv_X7_279 : MVk RX7 279 yX7_beginOf cX7_beginOf 4 (some .int) 1 7 := ⟨gtb_of (tb_m5 (i := 179) rfl) rfl, gtb_of (tb_m5 (i := 181) rfl) rfl, gtb_of (tb_s5 (i := 14) (q := (yX7_beginOf, 30)) rfl) rfl, cbX7_beginOf, _, _, rfl⟩
theorem cbX7_letter : CBk yX7_letter cX7_letter 5 (some .int) 3 := ⟨gtb_of (tb_m1 (i := 8) rfl) rfl, gtb_of (tb_m5 (i := 186) rfl) rfl, by decide +kernel, by decide +kernel, by decide +kernel, by decide⟩
theorem mv_L_56 : MVk RL 56 yX7_letter cX7_letter 5 (some .int) 3 7 := ⟨gtb_of (tb_m5 (i := 183) rfl) rfl, gtb_of (tb_m5 (i := 184) rfl) rfl, gtb_of (tb_m5 (i := 185) rfl) rfl, cbX7_letter, _, _, rfl⟩
theorem cbX7_drawn : CBk yX7_drawn cX7_drawn 4 (some .int) 3 := ⟨gtb_of (tb_m1 (i := 8) rfl) rfl, gtb_of (tb_m5 (i := 190) rfl) rfl, by decide +kernel, by decide +kernel, by decide +kernel, by decide⟩
theorem mv_L_60 : MVk RL 60 yX7_drawn cX7_drawn 4 (some .int) 3 7 := ⟨gtb_of (tb_m5 (i := 187) rfl) rfl, gtb_of (tb_m5 (i := 188) rfl) rfl, gtb_of (tb_m5 (i := 189) rfl) rfl, cbX7_drawn, _, _, rfl⟩
theorem kc_X7_282 : Cond.constantLong RX7 282 2 ∈ gtb := gtb_of (tb_m5 (i := 191) rfl) rfl
theorem cbX7_reach : CBk yX7_reach cX7_reach 3 (some .int) 2 := ⟨gtb_of (tb_m1 (i := 8) rfl) rfl, gtb_of (tb_m5 (i := 195) rfl) rfl, by decide +kernel, by decide +kernel, by decide +kernel, by decide⟩
theorem mv_L_64 : MVk RL 64 yX7_reach cX7_reach 3 (some .int) 2 7 := ⟨gtb_of (tb_m5 (i := 192) rfl) rfl, gtb_of (tb_m5 (i := 193) rfl) rfl, gtb_of (tb_m5 (i := 194) rfl) rfl, cbX7_reach, _, _, rfl⟩
theorem cbX7_line : CBk yX7_line cX7_line 3 (some .int) 2 := ⟨gtb_of (tb_m1 (i := 8) rfl) rfl, gtb_of (tb_m5 (i := 199) rfl) rfl, by decide +kernel, by decide +kernel, by decide +kernel, by decide⟩
theorem mv_L_68 : MVk RL 68 yX7_line cX7_line 3 (some .int) 2 7 := ⟨gtb_of (tb_m5 (i := 196) rfl) rfl, gtb_of (tb_m5 (i := 197) rfl) rfl, gtb_of (tb_m5 (i := 198) rfl) rfl, cbX7_line, _, _, rfl⟩
theorem kc_X7_284 : Cond.constantLong RX7 284 7 ∈ gtb := gtb_of (tb_m5 (i := 200) rfl) rfl
theorem cbX7_sign : CBk yX7_sign cX7_sign 6 (some .int) 2 := ⟨gtb_of (tb_m1 (i := 8) rfl) rfl, gtb_of (tb_m5 (i := 204) rfl) rfl, by decide +kernel, by decide +kernel, by decide +kernel, by decide⟩
theorem mv_L_72 : MVk RL 72 yX7_sign cX7_sign 6 (some .int) 2 7 := ⟨gtb_of (tb_m5 (i := 201) rfl) rfl, gtb_of (tb_m5 (i := 202) rfl) rfl, gtb_of (tb_m5 (i := 203) rfl) rfl, cbX7_sign, _, _, rfl⟩
theorem cbX7_best : CBk yX7_best cX7_best 2 (some .int) 1 := ⟨gtb_of (tb_m1 (i := 8) rfl) rfl, gtb_of (tb_m5 (i := 208) rfl) rfl, by decide +kernel, by decide +kernel, by decide +kernel, by decide⟩
theorem mv_L_76 : MVk RL 76 yX7_best cX7_best 2 (some .int) 1 7 := ⟨gtb_of (tb_m5 (i := 205) rfl) rfl, gtb_of (tb_m5 (i := 206) rfl) rfl, gtb_of (tb_m5 (i := 207) rfl) rfl, cbX7_best, _, _, rfl⟩
theorem cbX7_bestOf : CBk yX7_bestOf cX7_bestOf 7 (some .int) 1 := ⟨gtb_of (tb_m1 (i := 8) rfl) rfl, gtb_of (tb_m5 (i := 212) rfl) rfl, by decide +kernel, by decide +kernel, by decide +kernel, by decide⟩
theorem mv_X7_290 : MVk RX7 290 yX7_bestOf cX7_bestOf 7 (some .int) 1 7 := ⟨gtb_of (tb_m5 (i := 209) rfl) rfl, gtb_of (tb_m5 (i := 211) rfl) rfl, gtb_of (tb_s5 (i := 15) (q := (yX7_bestOf, 30)) rfl) rfl, cbX7_bestOf, _, _, rfl⟩
theorem cbX7_triedAt : CBk yX7_triedAt cX7_triedAt 6 (some .int) 3 := ⟨gtb_of (tb_m1 (i := 8) rfl) rfl, gtb_of (tb_m5 (i := 216) rfl) rfl, by decide +kernel, by decide +kernel, by decide +kernel, by decide⟩
theorem mv_X7_286 : MVk RX7 286 yX7_triedAt cX7_triedAt 6 (some .int) 3 7 := ⟨gtb_of (tb_m5 (i := 213) rfl) rfl, gtb_of (tb_m5 (i := 215) rfl) rfl, gtb_of (tb_s6 (i := 0) (q := (yX7_triedAt, 30)) rfl) rfl, cbX7_triedAt, _, _, rfl⟩
theorem cbX7_tried : CBk yX7_tried cX7_tried 3 (some .int) 2 := ⟨gtb_of (tb_m1 (i := 8) rfl) rfl, gtb_of (tb_m5 (i := 220) rfl) rfl, by decide +kernel, by decide +kernel, by decide +kernel, by decide⟩
theorem mv_L_80 : MVk RL 80 yX7_tried cX7_tried 3 (some .int) 2 7 := ⟨gtb_of (tb_m5 (i := 217) rfl) rfl, gtb_of (tb_m5 (i := 218) rfl) rfl, gtb_of (tb_m5 (i := 219) rfl) rfl, cbX7_tried, _, _, rfl⟩
theorem kc_X7_293 : Cond.constantLong RX7 293 5 ∈ gtb := gtb_of (tb_m5 (i := 221) rfl) rfl
theorem cbX7_set : CBk yX7_set cX7_set 4 (some .int) 2 := ⟨gtb_of (tb_m1 (i := 8) rfl) rfl, gtb_of (tb_m5 (i := 225) rfl) rfl, by decide +kernel, by decide +kernel, by decide +kernel, by decide⟩
theorem mv_L_84 : MVk RL 84 yX7_set cX7_set 4 (some .int) 2 7 := ⟨gtb_of (tb_m5 (i := 222) rfl) rfl, gtb_of (tb_m5 (i := 223) rfl) rfl, gtb_of (tb_m5 (i := 224) rfl) rfl, cbX7_set, _, _, rfl⟩
theorem cbX7_drop : CBk yX7_drop cX7_drop 5 (some .int) 3 := ⟨gtb_of (tb_m1 (i := 8) rfl) rfl, gtb_of (tb_m5 (i := 229) rfl) rfl, by decide +kernel, by decide +kernel, by decide +kernel, by decide⟩
theorem mv_L_88 : MVk RL 88 yX7_drop cX7_drop 5 (some .int) 3 7 := ⟨gtb_of (tb_m5 (i := 226) rfl) rfl, gtb_of (tb_m5 (i := 227) rfl) rfl, gtb_of (tb_m5 (i := 228) rfl) rfl, cbX7_drop, _, _, rfl⟩
theorem cbX7_fit : CBk yX7_fit cX7_fit 4 (some .int) 0 := ⟨gtb_of (tb_m1 (i := 8) rfl) rfl, gtb_of (tb_m5 (i := 233) rfl) rfl, by decide +kernel, by decide +kernel, by decide +kernel, by decide⟩
theorem mv_L_92 : MVk RL 92 yX7_fit cX7_fit 4 (some .int) 0 7 := ⟨gtb_of (tb_m5 (i := 230) rfl) rfl, gtb_of (tb_m5 (i := 231) rfl) rfl, gtb_of (tb_m5 (i := 232) rfl) rfl, cbX7_fit, _, _, rfl⟩
theorem cbX7_cut : CBk yX7_cut cX7_cut 4 (some .int) 2 := ⟨gtb_of (tb_m1 (i := 8) rfl) rfl, gtb_of (tb_m5 (i := 237) rfl) rfl, by decide +kernel, by decide +kernel, by decide +kernel, by decide⟩
theorem mv_L_96 : MVk RL 96 yX7_cut cX7_cut 4 (some .int) 2 7 := ⟨gtb_of (tb_m5 (i := 234) rfl) rfl, gtb_of (tb_m5 (i := 235) rfl) rfl, gtb_of (tb_m5 (i := 236) rfl) rfl, cbX7_cut, _, _, rfl⟩
theorem cbX7_join : CBk yX7_join cX7_join 3 (some .int) 1 := ⟨gtb_of (tb_m1 (i := 8) rfl) rfl, gtb_of (tb_m6 (i := 1) rfl) rfl, by decide +kernel, by decide +kernel, by decide +kernel, by decide⟩
theorem mv_L_100 : MVk RL 100 yX7_join cX7_join 3 (some .int) 1 7 := ⟨gtb_of (tb_m5 (i := 238) rfl) rfl, gtb_of (tb_m5 (i := 239) rfl) rfl, gtb_of (tb_m6 (i := 0) rfl) rfl, cbX7_join, _, _, rfl⟩
theorem cbX7_move : CBk yX7_move cX7_move 7 (some .int) 4 := ⟨gtb_of (tb_m1 (i := 8) rfl) rfl, gtb_of (tb_m6 (i := 5) rfl) rfl, by decide +kernel, by decide +kernel, by decide +kernel, by decide⟩
theorem mv_L_105 : MVk RL 105 yX7_move cX7_move 7 (some .int) 4 7 := ⟨gtb_of (tb_m6 (i := 2) rfl) rfl, gtb_of (tb_m6 (i := 3) rfl) rfl, gtb_of (tb_m6 (i := 4) rfl) rfl, cbX7_move, _, _, rfl⟩
theorem cbX7_moves : CBk yX7_moves cX7_moves 6 none 2 := ⟨gtb_of (tb_m1 (i := 8) rfl) rfl, gtb_of (tb_m6 (i := 9) rfl) rfl, by decide +kernel, by decide +kernel, by decide +kernel, by decide⟩
theorem mv_X7_295 : MVk RX7 295 yX7_moves cX7_moves 6 none 2 7 := ⟨gtb_of (tb_m6 (i := 6) rfl) rfl, gtb_of (tb_m6 (i := 8) rfl) rfl, gtb_of (tb_s6 (i := 1) (q := (yX7_moves, 30)) rfl) rfl, cbX7_moves, _, _, rfl⟩
theorem cbX7_keep : CBk yX7_keep cX7_keep 4 (some .int) 1 := ⟨gtb_of (tb_m1 (i := 8) rfl) rfl, gtb_of (tb_m6 (i := 13) rfl) rfl, by decide +kernel, by decide +kernel, by decide +kernel, by decide⟩
theorem mv_L_109 : MVk RL 109 yX7_keep cX7_keep 4 (some .int) 1 7 := ⟨gtb_of (tb_m6 (i := 10) rfl) rfl, gtb_of (tb_m6 (i := 11) rfl) rfl, gtb_of (tb_m6 (i := 12) rfl) rfl, cbX7_keep, _, _, rfl⟩
theorem cbX7_back : CBk yX7_back cX7_back 3 (some .int) 1 := ⟨gtb_of (tb_m1 (i := 8) rfl) rfl, gtb_of (tb_m6 (i := 17) rfl) rfl, by decide +kernel, by decide +kernel, by decide +kernel, by decide⟩
theorem mv_L_113 : MVk RL 113 yX7_back cX7_back 3 (some .int) 1 7 := ⟨gtb_of (tb_m6 (i := 14) rfl) rfl, gtb_of (tb_m6 (i := 15) rfl) rfl, gtb_of (tb_m6 (i := 16) rfl) rfl, cbX7_back, _, _, rfl⟩
