
section STRS
variable {cc : ByteArray} {own : String} {rt : Option FieldType} {d pc : Nat} {loc : List (Option MV)} {st : List MV} {σ : Sto} {Q : Option MV → Sto → Prop}
theorem wp_getSV {k : Nat} (hk : k < 9) (hw : own = RJ0) (hd : decode cc pc = .ok (.getfield 9, 3)) (kk : Wp cc own rt d (pc + 3) loc (mR (3000 + k) :: st) σ Q) : Wp cc own rt d pc loc (mR (2000 + k) :: st) σ Q := by
  intro g p l e s m args below meth c H locs ls Cx hP hS hσ hlo hst
  have kk' := kk g p l e s m args below meth c H locs ls Cx hP hS hσ hlo ⟨trivial, hst.2⟩
  obtain ⟨c1, c2, c3, c4, c5, c6, c7, c8, c9, c10⟩ := Cx
  subst hw
  exact vk_getf c1 c2 (c9.2.2.2.2.1.1 k hk).2.2.1 hS c5 (c6 _ (gtb_of (tb_m6 (i := 18) rfl) rfl)) (fun x hx => hx) hd kk'
theorem wp_getSC {k : Nat} (hk : k < 9) (hw : own = RJ0) (hd : decode cc pc = .ok (.getfield 15, 3)) (kk : Wp cc own rt d (pc + 3) loc (mI 0 :: st) σ Q) : Wp cc own rt d pc loc (mR (2000 + k) :: st) σ Q := by
  intro g p l e s m args below meth c H locs ls Cx hP hS hσ hlo hst
  have kk' := kk g p l e s m args below meth c H locs ls Cx hP hS hσ hlo ⟨(show okI 0 by decide), hst.2⟩
  obtain ⟨c1, c2, c3, c4, c5, c6, c7, c8, c9, c10⟩ := Cx
  subst hw
  exact vk_getf c1 c2 (c9.2.2.2.2.1.1 k hk).2.1 hS c5 (c6 _ (gtb_of (tb_m6 (i := 19) rfl) rfl)) (fun x hx => hx) hd kk'
theorem wp_getsC (hw : own = RJ0) (hd : decode cc pc = .ok (.getstatic 38, 3)) (kk : Wp cc own rt d (pc + 3) loc (mI 1 :: st) σ Q) : Wp cc own rt d pc loc st σ Q := by
  intro g p l e s m args below meth c H locs ls Cx hP hS hσ hlo hst
  have kk' := kk g p l e s m args below meth c H locs ls Cx hP hS hσ hlo ⟨(show okI 1 by decide), hst⟩
  obtain ⟨c1, c2, c3, c4, c5, c6, c7, c8, c9, c10⟩ := Cx
  subst hw
  exact va_gets c1 c2 c9.2.2.2.2.2.1 hS c5 (c6 _ (gtb_of (tb_m2 (i := 153) rfl) rfl)) (fun x hx => hx) hd kk'
theorem wp_slen {k : Nat} (hk : k < 9) (hd : decode cc pc = .ok (.arraylength, 1)) (hok : okI ((strLn.getD k 0 : Nat) : Int)) (kk : Wp cc own rt d (pc + 1) loc (mI ((strLn.getD k 0 : Nat) : Int) :: st) σ Q) : Wp cc own rt d pc loc (mR (3000 + k) :: st) σ Q := by
  intro g p l e s m args below meth c H locs ls Cx hP hS hσ hlo hst
  have kk' := kk g p l e s m args below meth c H locs ls Cx hP hS hσ hlo ⟨hok, hst.2⟩
  obtain ⟨c1, c2, c3, c4, c5, c6, c7, c8, c9, c10⟩ := Cx
  exact va_tlen c1 c2 (c9.2.2.2.2.1.1 k hk).2.2.2 hS (v := Int32.ofInt ((strLn.getD k 0 : Nat) : Int)) rfl hd kk'
theorem wp_sbald {k : Nat} {i : Int} (hk : k < 9) (hd : decode cc pc = .ok (.baload, 1)) (hi : 0 ≤ i ∧ i < ((strLn.getD k 0 : Nat) : Int)) (kk : Wp cc own rt d (pc + 1) loc (mI (strC k i) :: st) σ Q) : Wp cc own rt d pc loc (mI i :: mR (3000 + k) :: st) σ Q := by
  intro g p l e s m args below meth c H locs ls Cx hP hS hσ hlo hst
  have hoi : okI i := hst.1
  have hov : okI (strC k i) := ⟨Int32.le_toInt _, Int32.toInt_lt _⟩
  have kk' := kk g p l e s m args below meth c H locs ls Cx hP hS hσ hlo ⟨hov, hst.2.2⟩
  obtain ⟨c1, c2, c3, c4, c5, c6, c7, c8, c9, c10⟩ := Cx
  refine va_tb c1 c2 (c9.2.2.2.2.1.1 k hk).2.2.2 hS (oI_in hoi hi.1 hi.2) (v := .int (Int32.ofInt (strC k i))) ?_ hd kk'
  have e1 : (Int32.ofInt i).toNatClampNeg = i.toNat := by rw [oI_clamp hoi hi.1]
  rw [e1]
  unfold strC
  rw [Int32.ofInt_toInt]
theorem wp_breturn {z : Int} (hd : decode cc pc = .ok (.ireturn, 1)) (hr : rt = some .byte) (hz : z = 0) (hq : Q (some (mI z)) σ) : Wp cc own rt d pc loc [mI z] σ Q := by
  intro g p l e s m args below meth c H locs ls C hP hS hσ hl hst
  exact W.zret C.1 C.2.1 (ty := .byte) (by rw [C.2.2.1, hr]) (by rw [hz]; rfl) (fun t ht hW => ⟨⟨some (mI z), σ, rfl, hq, hσ, fun v hv => by cases hv; exact hst.1, by rw [ht]; exact hP⟩, hS.F ht⟩) hS.2.2 hd C.2.2.2.2.2.2.1
theorem b128 : ∀ n : Fin 128, Int32.ofInt ((n : Nat) : Int) &&& Int32.ofInt 255 = Int32.ofInt ((n : Nat) : Int) ∧ vp_nar .char (Int32.ofInt ((n : Nat) : Int)) = Int32.ofInt ((n : Nat) : Int) := by decide +kernel
theorem c128 {z : Int} (h : 0 ≤ z ∧ z < 128) : Int32.ofInt z &&& Int32.ofInt 255 = Int32.ofInt z ∧ vp_nar .char (Int32.ofInt z) = Int32.ofInt z := by
  have := b128 ⟨z.toNat, by omega⟩
  rw [show ((((⟨z.toNat, by omega⟩ : Fin 128) : Nat) : Int)) = z from by show ((z.toNat : Nat) : Int) = z; omega] at this
  exact this
theorem wp_creturn {z : Int} (hd : decode cc pc = .ok (.ireturn, 1)) (hr : rt = some .char) (hz : 0 ≤ z ∧ z < 128) (hq : Q (some (mI z)) σ) : Wp cc own rt d pc loc [mI z] σ Q := by
  intro g p l e s m args below meth c H locs ls C hP hS hσ hl hst
  exact W.zret C.1 C.2.1 (ty := .char) (by rw [C.2.2.1, hr]) (show narrow FieldType.char (Value.int (Int32.ofInt z)) = Value.int (Int32.ofInt z) from congrArg Value.int (c128 hz).2) (fun t ht hW => ⟨⟨some (mI z), σ, rfl, hq, hσ, fun v hv => by cases hv; exact hst.1, by rw [ht]; exact hP⟩, hS.F ht⟩) hS.2.2 hd C.2.2.2.2.2.2.1
theorem wp_iand255 {a : Int} (hd : decode cc pc = .ok (.iand, 1)) (h0 : 0 ≤ a ∧ a < 128) (k : Wp cc own rt d (pc + 1) loc (mI a :: st) σ Q) : Wp cc own rt d pc loc (mI 255 :: mI a :: st) σ Q := by
  intro g p l e s m args below meth c H locs ls C hP hS hσ hl hst
  refine lv_iand C.1 C.2.1 hd ?_
  rw [(c128 h0).1]
  exact k g p l e s m args below meth c H locs ls C hP hS hσ hl ⟨hst.2.1, hst.2.2⟩
theorem wp_cvS {y : MethodName} {bc : ByteArray} {nL : Nat} {rty : Option FieldType} {d' n idx k : Nat} {as stk : List MV} {Q' : Option MV → Sto → Prop} (hk : k < 9) (hcl : y.cls = "java/lang/String") (hd : decode cc pc = .ok (.invokevirtual idx, 3)) (h1 : Cond.methodLink own idx y ∈ gtb) (h2 : Cond.instanceMethod y ∈ gtb) (h3 : Cond.selects y.cls y y ∈ gtb) (hcb : CBk y bc nL rty n) (hM : Ct y bc nL rty d' (mR (2000 + k) :: as) σ Q') (hdep : d' + 1 ≤ d) (hstk : stk = as.reverse ++ mR (2000 + k) :: st) (hn : as.length = n) (hcat : catS st ≤ 8) (kk : ∀ v σ', Q' v σ' → Wp cc own rt d (pc + 3) loc (v.toList ++ st) σ' Q) : Wp cc own rt d pc loc stk σ Q := by
  intro g p l e s m args below meth c H locs ls Cx hP hS hσ hlo hst
  subst hstk
  obtain ⟨ho1, ho2⟩ := oks_rev hst
  obtain ⟨i1, i2, i3, i4, i5, i6⟩ := hcb
  have Cx' := Cx
  obtain ⟨c1, c2, c3, c4, c5, c6, c7, c8, c9, c10⟩ := Cx
  have hrec := vk_recv c9.2.2.2.2.1 hk hS
  rw [← hcl] at hrec
  refine call_fin Cx' hS hlo ho2.2 (va_runV (As := as.map (tv g)) (C := y.cls) (n := n) ⟨c1, c2, c4, c5, c6⟩ (hM l g) ⟨callB_of n c6 (goodC i2) rfl rfl rfl (c6 _ i1) (c6 _ h1) ⟨i3, i4, i5⟩ ⟨hdep, ?_⟩, c6 _ h2, c6 _ h3⟩ ⟨PcO_blind, hrec, fun U hU hW => ⟨rfl, by rw [hU]; exact hP, va_K.moved hW.alike c8, c10, Fx_moved hW (fun a ha hna => by rw [hU]; exact hS.2.1 a ha hna) c9, hσ, trivial, ho1⟩⟩ rfl (by rw [List.length_map]; exact hn) hlo.1.1 ?_ (lv_room (by rw [catS_eq]; exact hcat)) hd ⟨Nat.le_refl _, Nat.le_refl _⟩) kk
  · show 8 + (nL + 11) + 40 * d' ≤ 40 * d
    omega
  · show (as.reverse ++ mR (2000 + k) :: st).map (tv g) = _
    rw [List.map_append, List.map_reverse]; rfl
end STRS
