
theorem cbS_coder : CBk yJ0_coder_7d493 cJ0_coder_7d493 1 (some .byte) 0 := ⟨gtb_of (tb_m1 (i := 11) rfl) rfl, gtb_of (tb_m2 (i := 152) rfl) rfl, by decide +kernel, by decide +kernel, by decide +kernel, by decide⟩
theorem cbS_lat : CBk yJ0_isLatin1_aae02 cJ0_isLatin1_aae02 1 (some .boolean) 0 := ⟨gtb_of (tb_m1 (i := 11) rfl) rfl, gtb_of (tb_m2 (i := 162) rfl) rfl, by decide +kernel, by decide +kernel, by decide +kernel, by decide⟩
theorem cbS_chk : CBk yJ0_checkIndex_df160 cJ0_checkIndex_df160 2 none 2 := ⟨gtb_of (tb_m1 (i := 11) rfl) rfl, gtb_of (tb_m2 (i := 168) rfl) rfl, by decide +kernel, by decide +kernel, by decide +kernel, by decide⟩
theorem cbS_c1 : CBk yJ1_charAt_3b067 cJ1_charAt_3b067 2 (some .char) 2 := ⟨gtb_of (tb_m1 (i := 12) rfl) rfl, gtb_of (tb_m2 (i := 165) rfl) rfl, by decide +kernel, by decide +kernel, by decide +kernel, by decide⟩
theorem ms_J1_9 : MSk RJ1 9 yJ0_checkIndex_df160 cJ0_checkIndex_df160 2 none 2 := ⟨gtb_of (tb_m2 (i := 167) rfl) rfl, cbS_chk, Or.inl (gtb_of (tb_m2 (i := 166) rfl) rfl)⟩
theorem ms_J0_495 : MSk RJ0 495 yJ1_charAt_3b067 cJ1_charAt_3b067 2 (some .char) 2 := ⟨gtb_of (tb_m2 (i := 164) rfl) rfl, cbS_c1, Or.inl (gtb_of (tb_m2 (i := 163) rfl) rfl)⟩
theorem strLn_bd {k : Nat} (hk : k < 9) : 3 ≤ ((strLn.getD k 0 : Nat) : Int) ∧ ((strLn.getD k 0 : Nat) : Int) ≤ 7 := by
  have : ∀ k : Fin 9, 3 ≤ strLn.getD (k : Nat) 0 ∧ strLn.getD (k : Nat) 0 ≤ 7 := by decide
  have := this ⟨k, hk⟩
  simp only at this
  omega
theorem strC_bd {k : Nat} (hk : k < 9) {i : Int} (h0 : 0 ≤ i) (h1 : i < ((strLn.getD k 0 : Nat) : Int)) : 97 ≤ strC k i ∧ strC k i ≤ 122 := by
  have h7 := strLn_bd hk
  have : ∀ (k : Fin 9) (j : Fin 7), (j : Nat) < strLn.getD (k : Nat) 0 → 97 ≤ ((strB.getD (k : Nat) []).getD (j : Nat) 0).toInt ∧ ((strB.getD (k : Nat) []).getD (j : Nat) 0).toInt ≤ 122 := by decide +kernel
  exact this ⟨k, hk⟩ ⟨i.toNat, by omega⟩ (by show i.toNat < strLn.getD k 0; omega)
theorem c_scoder {k : Nat} (hk : k < 9) {σ : Sto} : CtI yJ0_coder_7d493 cJ0_coder_7d493 1 (some .byte) 0 [mR (2000 + k)] σ (fun z σ' => z = 0 ∧ σ' = σ) := by
  refine ct_of rfl [some (mR (2000 + k))] (Nat.le_of_ble_eq_true rfl) rfl (fun hσ => ?_)
  show Wp cJ0_coder_7d493 RJ0 (some .byte) 0 0 [some (mR (2000 + k))] [] _ _
  refine wp_getsC (pc := 0) rfl dJ0_coder_7d493_0 ?_
  refine wp_if_eq (pc := 3) 13 dJ0_coder_7d493_3 (by decide) (fun c_3 => absurd c_3 (by decide)) (fun c_3 => ?_)
  refine wp_aload_n (pc := 6) dJ0_coder_7d493_6 rfl rfl ?_
  refine wp_getSC (pc := 7) hk rfl dJ0_coder_7d493_7 ?_
  refine wp_goto (pc := 10) 14 dJ0_coder_7d493_10 (by decide) ?_
  exact wp_breturn (pc := 14) dJ0_coder_7d493_14 rfl rfl ⟨_, rfl, rfl, rfl⟩
theorem c_slat {k : Nat} (hk : k < 9) {σ : Sto} : CtI yJ0_isLatin1_aae02 cJ0_isLatin1_aae02 1 (some .boolean) 0 [mR (2000 + k)] σ (fun z σ' => z = 1 ∧ σ' = σ) := by
  refine ct_of rfl [some (mR (2000 + k))] (Nat.le_of_ble_eq_true rfl) rfl (fun hσ => ?_)
  show Wp cJ0_isLatin1_aae02 RJ0 (some .boolean) 0 0 [some (mR (2000 + k))] [] _ _
  refine wp_getsC (pc := 0) rfl dJ0_isLatin1_aae02_0 ?_
  refine wp_if_eq (pc := 3) 17 dJ0_isLatin1_aae02_3 (by decide) (fun c_3 => absurd c_3 (by decide)) (fun c_3 => ?_)
  refine wp_aload_n (pc := 6) dJ0_isLatin1_aae02_6 rfl rfl ?_
  refine wp_getSC (pc := 7) hk rfl dJ0_isLatin1_aae02_7 ?_
  refine wp_if_ne (pc := 10) 17 dJ0_isLatin1_aae02_10 (by decide) (fun c_3 => absurd rfl c_3) (fun c_3 => ?_)
  refine wp_iconst (pc := 13) dJ0_isLatin1_aae02_13 (by decide) ?_
  refine wp_goto (pc := 14) 18 dJ0_isLatin1_aae02_14 (by decide) ?_
  exact wp_zreturn (pc := 18) dJ0_isLatin1_aae02_18 rfl (Or.inr rfl) ⟨_, rfl, rfl, rfl⟩
theorem c_slen {k : Nat} (hk : k < 9) {σ : Sto} : CtI yJ0_length_8abf5 cJ0_length_8abf5 1 (some .int) 1 [mR (2000 + k)] σ (fun z σ' => z = ((strLn.getD k 0 : Nat) : Int) ∧ σ' = σ) := by
  have hb := strLn_bd hk
  refine ct_of rfl [some (mR (2000 + k))] (Nat.le_of_ble_eq_true rfl) rfl (fun hσ => ?_)
  show Wp cJ0_length_8abf5 RJ0 (some .int) 1 0 [some (mR (2000 + k))] [] _ _
  refine wp_aload_n (pc := 0) dJ0_length_8abf5_0 rfl rfl ?_
  refine wp_getSV (pc := 1) hk rfl dJ0_length_8abf5_1 ?_
  refine wp_slen (pc := 4) hk dJ0_length_8abf5_4 (by constructor <;> omega) ?_
  refine wp_aload_n (pc := 5) dJ0_length_8abf5_5 rfl rfl ?_
  refine wp_cvS (pc := 6) (as := []) hk rfl dJ0_length_8abf5_6 (gtb_of (tb_m2 (i := 149) rfl) rfl) (gtb_of (tb_m2 (i := 150) rfl) rfl) (gtb_of (tb_m2 (i := 151) rfl) rfl) cbS_coder (c_scoder hk) (Nat.le_of_ble_eq_true rfl) rfl rfl (Nat.le_of_ble_eq_true rfl) (fun v σ' h => ?_)
  obtain ⟨z, rfl, rfl, rfl⟩ := h
  refine wp_ishr (pc := 9) dJ0_length_8abf5_9 ⟨by omega, by decide, by decide⟩ ?_
  refine wp_ireturn (pc := 10) dJ0_length_8abf5_10 rfl ⟨_, rfl, ?_, rfl⟩
  show ((strLn.getD k 0 : Nat) : Int) / 2 ^ (0 : Int).toNat = _
  rw [show (2 : Int) ^ (0 : Int).toNat = 1 from rfl, Int.ediv_one]
theorem c_schk {i n : Int} (hi : 0 ≤ i ∧ i < n) {σ : Sto} : CtV yJ0_checkIndex_df160 cJ0_checkIndex_df160 2 none 1 [mI i, mI n] σ (fun σ' => σ' = σ) := by
  refine ct_of rfl [some (mI i), some (mI n)] (Nat.le_of_ble_eq_true rfl) rfl (fun hσ => ?_)
  show Wp cJ0_checkIndex_df160 RJ0 none 1 0 [some (mI i), some (mI n)] [] _ _
  refine wp_iload_n (pc := 0) dJ0_checkIndex_df160_0 rfl rfl ?_
  refine wp_iload_n (pc := 1) dJ0_checkIndex_df160_1 rfl rfl ?_
  refine wp_fmt (pc := 2) rfl dJ0_checkIndex_df160_2 dJ0_checkIndex_df160_5 hi (Nat.le_refl _) (Nat.le_of_ble_eq_true rfl) ?_
  refine wp_pop (pc := 8) dJ0_checkIndex_df160_8 (fun z h => by cases h) ?_
  exact wp_return (pc := 9) dJ0_checkIndex_df160_9 rfl ⟨rfl, rfl⟩
theorem c_schar1 {k : Nat} (hk : k < 9) {i : Int} (hi : 0 ≤ i ∧ i < ((strLn.getD k 0 : Nat) : Int)) {σ : Sto} : CtI yJ1_charAt_3b067 cJ1_charAt_3b067 2 (some .char) 2 [mR (3000 + k), mI i] σ (fun z σ' => z = strC k i ∧ σ' = σ) := by
  have hb := strLn_bd hk
  have hc := strC_bd hk hi.1 hi.2
  refine ct_of rfl [some (mR (3000 + k)), some (mI i)] (Nat.le_of_ble_eq_true rfl) rfl (fun hσ => ?_)
  show Wp cJ1_charAt_3b067 RJ1 (some .char) 2 0 [some (mR (3000 + k)), some (mI i)] [] _ _
  refine wp_iload_n (pc := 0) dJ1_charAt_3b067_0 rfl rfl ?_
  refine wp_aload_n (pc := 1) dJ1_charAt_3b067_1 rfl rfl ?_
  refine wp_slen (pc := 2) hk dJ1_charAt_3b067_2 (by constructor <;> omega) ?_
  refine wp_cs (pc := 3) (as := [mI i, mI ((strLn.getD k 0 : Nat) : Int)]) dJ1_charAt_3b067_3 ms_J1_9 (c_schk hi) (Nat.le_refl _) rfl rfl (Nat.le_of_ble_eq_true rfl) (fun v σ' h => ?_)
  obtain ⟨rfl, rfl⟩ := h
  refine wp_aload_n (pc := 6) dJ1_charAt_3b067_6 rfl rfl ?_
  refine wp_iload_n (pc := 7) dJ1_charAt_3b067_7 rfl rfl ?_
  refine wp_sbald (pc := 8) hk dJ1_charAt_3b067_8 hi ?_
  refine wp_sipush (pc := 9) dJ1_charAt_3b067_9 (by decide) (by decide) ?_
  refine wp_iand255 (pc := 12) dJ1_charAt_3b067_12 (by omega) ?_
  refine wp_i2c (pc := 13) dJ1_charAt_3b067_13 (by omega) ?_
  exact wp_creturn (pc := 14) dJ1_charAt_3b067_14 rfl (by omega) ⟨_, rfl, rfl, rfl⟩
theorem c_schar {k : Nat} (hk : k < 9) {i : Int} (hi : 0 ≤ i ∧ i < ((strLn.getD k 0 : Nat) : Int)) {σ : Sto} : CtI yJ0_charAt_5068e cJ0_charAt_5068e 2 (some .char) 4 [mR (2000 + k), mI i] σ (fun z σ' => z = strC k i ∧ σ' = σ) := by
  have hc := strC_bd hk hi.1 hi.2
  refine ct_of rfl [some (mR (2000 + k)), some (mI i)] (Nat.le_of_ble_eq_true rfl) rfl (fun hσ => ?_)
  show Wp cJ0_charAt_5068e RJ0 (some .char) 4 0 [some (mR (2000 + k)), some (mI i)] [] _ _
  refine wp_aload_n (pc := 0) dJ0_charAt_5068e_0 rfl rfl ?_
  refine wp_cvS (pc := 1) (as := []) hk rfl dJ0_charAt_5068e_1 (gtb_of (tb_m2 (i := 159) rfl) rfl) (gtb_of (tb_m2 (i := 160) rfl) rfl) (gtb_of (tb_m2 (i := 161) rfl) rfl) cbS_lat (c_slat hk) (Nat.le_of_ble_eq_true rfl) rfl rfl (Nat.le_of_ble_eq_true rfl) (fun v σ' h => ?_)
  obtain ⟨z, rfl, rfl, rfl⟩ := h
  refine wp_if_eq (pc := 4) 16 dJ0_charAt_5068e_4 (by decide) (fun c_3 => absurd c_3 (by decide)) (fun c_3 => ?_)
  refine wp_aload_n (pc := 7) dJ0_charAt_5068e_7 rfl rfl ?_
  refine wp_getSV (pc := 8) hk rfl dJ0_charAt_5068e_8 ?_
  refine wp_iload_n (pc := 11) dJ0_charAt_5068e_11 rfl rfl ?_
  refine wp_cs (pc := 12) (as := [mR (3000 + k), mI i]) dJ0_charAt_5068e_12 ms_J0_495 (c_schar1 hk hi) (Nat.le_of_ble_eq_true rfl) rfl rfl (Nat.le_of_ble_eq_true rfl) (fun v σ' h => ?_)
  obtain ⟨z, rfl, rfl, rfl⟩ := h
  exact wp_creturn (pc := 15) dJ0_charAt_5068e_15 rfl (by omega) ⟨_, rfl, rfl, rfl⟩
section STRU
variable {cc : ByteArray} {own : String} {rt : Option FieldType} {d pc : Nat} {loc : List (Option MV)} {st : List MV} {σ : Sto} {Q : Option MV → Sto → Prop}
theorem wp_strlength {k : Nat} (hk : k < 9) (hw : own = RX4) (hd : decode cc pc = .ok (.invokevirtual 149, 3)) (hdep : 2 ≤ d) (hcat : catS st ≤ 8) (kk : Wp cc own rt d (pc + 3) loc (mI ((strLn.getD k 0 : Nat) : Int) :: st) σ Q) : Wp cc own rt d pc loc (mR (2000 + k) :: st) σ Q := by
  subst hw
  refine wp_cvS (as := []) hk rfl hd (gtb_of (tb_m2 (i := 145) rfl) rfl) (gtb_of (tb_m2 (i := 146) rfl) rfl) (gtb_of (tb_m2 (i := 147) rfl) rfl) cbJ0_length_8abf5 (c_slen hk) hdep rfl rfl hcat (fun v σ' h => ?_)
  obtain ⟨z, rfl, rfl, rfl⟩ := h
  exact kk
theorem wp_strcharAt {k : Nat} {i : Int} (hk : k < 9) (hw : own = RX4) (hd : decode cc pc = .ok (.invokevirtual 153, 3)) (hi : 0 ≤ i ∧ i < ((strLn.getD k 0 : Nat) : Int)) (hdep : 5 ≤ d) (hcat : catS st ≤ 8) (kk : Wp cc own rt d (pc + 3) loc (mI (strC k i) :: st) σ Q) : Wp cc own rt d pc loc (mI i :: mR (2000 + k) :: st) σ Q := by
  subst hw
  refine wp_cvS (as := [mI i]) hk rfl hd (gtb_of (tb_m2 (i := 155) rfl) rfl) (gtb_of (tb_m2 (i := 156) rfl) rfl) (gtb_of (tb_m2 (i := 157) rfl) rfl) cbJ0_charAt_5068e (c_schar hk hi) hdep rfl rfl hcat (fun v σ' h => ?_)
  obtain ⟨z, rfl, rfl, rfl⟩ := h
  exact kk
end STRU
