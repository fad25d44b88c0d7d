
section STRT
variable {cc : ByteArray} {own : String} {rt : Option FieldType} {d pc : Nat} {loc : List (Option MV)} {st : List MV} {σ : Sto} {Q : Option MV → Sto → Prop}
theorem d128 : ∀ n : Fin 128, ((Int32.ofInt ((n : Nat) : Int)).toUInt32 % 65536).toInt32 = Int32.ofInt ((n : Nat) : Int) := by decide +kernel
theorem wp_i2c {a : Int} (hd : decode cc pc = .ok (.i2c, 1)) (h0 : 0 ≤ a ∧ a < 128) (k : Wp cc own rt d (pc + 1) loc (mI a :: st) σ Q) : Wp cc own rt d pc loc (mI a :: st) σ Q := by
  intro g p l e s m args below meth c H locs ls C hP hS hσ hl hst
  have e1 := d128 ⟨a.toNat, by omega⟩
  rw [show ((((⟨a.toNat, by omega⟩ : Fin 128) : Nat) : Int)) = a from by show ((a.toNat : Nat) : Int) = a; omega] at e1
  exact lv_i2c C.1 C.2.1 hd e1 (k g p l e s m args below meth c H locs ls C hP hS hσ hl hst)
def PcF (g : GG) (i n : Int) (v : Value) (σ : Sto) : Array Value → State → Prop := va_Pc [.int (Int32.ofInt i), .int (Int32.ofInt n), v] (fun U => va_P (gD g) vwCl (wsO g σ) U.heap ∧ va_K (gD g) vwCl (tyO g) U ∧ gInj g ∧ Fx g U U.heap ∧ okS σ ∧ okI i ∧ okI n)
theorem PcF_blind {g : GG} {i n : Int} {v : Value} {σ : Sto} : FrameBlind (PcF g i n v σ) := by
  intro a U f mk h
  obtain ⟨h1, h2, h3, h4, h5, h6, h7⟩ := h
  exact ⟨h1, h2, va_K.moved (u := U) (U := U.calling f mk a) (Vm.Alike.refl U.vm) h3, h4, Fx_same (u := U) (U := U.calling f mk a) rfl h5, h6, h7⟩
theorem w_J3 {i n : Int} {σ : Sto} (hi : 0 ≤ i ∧ i < n) : Wp cJ3_checkIndex_8e157 RJ3 (some .int) 0 0 [some (mI i), some (mI n), none] [] σ (fun v σ' => v = some (mI i) ∧ σ' = σ) := by
  refine wp_iload_n (pc := 0) dJ3_checkIndex_8e157_0 rfl rfl ?_
  refine wp_if_lt (pc := 1) 9 dJ3_checkIndex_8e157_1 (by decide) (fun c_1 => ?_) (fun c_1 => ?_)
  · exfalso; omega
  · refine wp_iload_n (pc := 4) dJ3_checkIndex_8e157_4 rfl rfl ?_
    refine wp_iload_n (pc := 5) dJ3_checkIndex_8e157_5 rfl rfl ?_
    refine wp_icmp_lt (pc := 6) 16 dJ3_checkIndex_8e157_6 (by decide) (fun c_6 => ?_) (fun c_6 => ?_)
    · refine wp_iload_n (pc := 16) dJ3_checkIndex_8e157_16 rfl rfl ?_
      exact wp_ireturn (pc := 17) dJ3_checkIndex_8e157_17 rfl ⟨rfl, rfl⟩
    · exfalso; omega
theorem metF {i n : Int} {v : Value} {σ : Sto} (hv : v = .null ∨ ∃ t, v = .ref t) (hi : 0 ≤ i ∧ i < n) (l : Launch) (g : GG) : Met l yJ3_checkIndex_8e157 (.code yJ3_checkIndex_8e157 cJ3_checkIndex_8e157 3 (some .int) :: gtb) (rmd 0) (PcF g i n v σ) (QcO g (fun v σ' => v = some (mI i) ∧ σ' = σ)) 0 0 (gAr g) := by
  refine Met.ofW (cc := cJ3_checkIndex_8e157) (maxL := 3) (ret := some .int) rfl rfl ?_
  intro p e s m args below meth c s₁ B hml hv9
  obtain ⟨rfl, hP, hK, hI, hF, hσ, ho1, ho2⟩ := hv9
  have hts := atoms_spec (ws := .code yJ3_checkIndex_8e157 cJ3_checkIndex_8e157 3 (some .int) :: gtb) B.pre
  have hown : s.vm.findClass yJ3_checkIndex_8e157.cls = some m.cls := findClass_of_methodNamed B.named
  have hc1 : v.category = 1 := by rcases hv with rfl | ⟨t, rfl⟩ <;> rfl
  have hl := lv_entry [.int (Int32.ofInt i), .int (Int32.ofInt n), v] (n := 3) (by rcases hv with rfl | ⟨t, rfl⟩ <;> exact Nat.le_refl _)
  rw [lg_entry_eq]
  refine w_J3 hi g p l e s m _ below meth c s.heap [] _ ⟨B.exec, B.bytes, B.returns, hml, hown, fun w hw => hts w (List.mem_cons_of_mem _ hw), B.notSynchronized, hK, hF, hI⟩ hP va_S.rf hσ ⟨⟨hl.1, hl.2.1, fun q hq => hl.2.2 q ?_⟩, ?_⟩ trivial
  · have hq2 : q = (0, .int (Int32.ofInt i)) ∨ q = (1, .int (Int32.ofInt n)) := by
      rcases List.mem_cons.mp hq with h | h
      · exact Or.inl h
      · rcases List.mem_cons.mp h with h | h
        · exact Or.inr h
        · cases h
    rcases hq2 with rfl | rfl
    · exact List.mem_cons_self
    · exact List.mem_cons_of_mem _ List.mem_cons_self
  · intro u hu
    rcases List.mem_cons.mp hu with h | h
    · cases h; exact ho1
    · rcases List.mem_cons.mp h with h | h
      · cases h; exact ho2
      · rcases List.mem_cons.mp h with h | h
        · cases h
        · cases h
theorem cbF : CBk yJ3_checkIndex_8e157 cJ3_checkIndex_8e157 3 (some .int) 3 := ⟨gtb_of (tb_m1 (i := 13) rfl) rfl, gtb_of (tb_m2 (i := 173) rfl) rfl, by decide +kernel, by decide +kernel, by decide +kernel, by decide⟩
theorem wp_fmt {i n : Int} (hw : own = RJ0) (hd1 : decode cc pc = .ok (.getstatic 1053, 3)) (hd2 : decode cc (pc + 3) = .ok (.invokestatic 1059, 3)) (hi : 0 ≤ i ∧ i < n) (hdep : 1 ≤ d) (hcat : catS st ≤ 8) (kk : Wp cc own rt d (pc + 3 + 3) loc (mI i :: st) σ Q) : Wp cc own rt d pc loc (mI n :: mI i :: st) σ Q := by
  intro g p l e s m args below meth c H locs ls Cx hP hS hσ hlo hst
  have Cx' := Cx
  obtain ⟨c1, c2, c3, c4, c5, c6, c7, c8, c9, c10⟩ := Cx
  have hn : okI n := hst.1
  have hio : okI i := hst.2.1
  subst hw
  have hZ : ∃ v, (v = .null ∨ ∃ t, v = .ref t) ∧ va_Z "jdk/internal/util/Preconditions" "SIOOBE_FORMATTER" "Ljava/util/function/BiFunction;" v (gAr g) s s.heap := by
    rcases c9.2.2.2.2.2.2 with h | ⟨t, h⟩
    · exact ⟨_, Or.inl rfl, h⟩
    · exact ⟨_, Or.inr ⟨t, rfl⟩, h⟩
  obtain ⟨v, hv, hZ⟩ := hZ
  refine va_gets c1 c2 hZ hS c5 (c6 _ (gtb_of (tb_m2 (i := 169) rfl) rfl)) (fun x hx => hx) hd1 ?_
  obtain ⟨i1, i2, i3, i4, i5, i6⟩ := cbF
  have hR : 8 + (3 + 11) + (rmd 0).locals ≤ (rmd d).locals := by show 8 + (3 + 11) + 40 * 0 ≤ 40 * d; omega
  have hpre : PreS s H (PcF g i n v σ) [.int (Int32.ofInt i), .int (Int32.ofInt n), v] := ⟨PcF_blind, fun U hU hW => ⟨rfl, by rw [hU]; exact hP, va_K.moved hW.alike c8, c10, Fx_moved hW (fun a ha hna => by rw [hU]; exact hS.2.1 a ha hna) c9, hσ, hio, hn⟩⟩
  exact call_fin Cx' hS hlo hst.2.2 (va_runS (As := [.int (Int32.ofInt i), .int (Int32.ofInt n), v]) (n := 3) ⟨c1, c2, c4, c5, c6⟩ (metF hv hi l g) ⟨callB_of 3 c6 (goodC i2) rfl rfl rfl (c6 _ i1) (c6 _ (gtb_of (tb_m2 (i := 171) rfl) rfl)) ⟨i3, i4, i5⟩ ⟨hdep, hR⟩, c6 _ (gtb_of (tb_m2 (i := 172) rfl) rfl)⟩ hpre rfl rfl hlo.1.1 rfl (lv_room (by rw [catS_eq]; exact hcat)) hd2 ⟨Nat.le_refl _, Nat.le_refl _⟩) (fun v9 σ9 h9 => by obtain ⟨rfl, rfl⟩ := h9; exact kk)
end STRT
