def clsOK (ci : Nat) (C : String) (T : u_T) (N : Nat) : Prop := vwCl[ci]? = some (C, T, N) ∧ (∀ w ∈ u_ws C T N, w ∈ gtb) ∧ (∃ ty0 : Nat → FieldType, ∀ k, k < N → parseFieldDescriptor (T k).2.2.1 = some (ty0 k)) ∧ (∀ a, a < N → ∀ b, b < N → a ≠ b → (T a).2.1 ≠ (T b).2.1)
def FLk (own : String) (idx ci k : Nat) (C : String) (T : u_T) (N : Nat) : Prop := clsOK ci C T N ∧ k < N ∧ (T k).1 = C ∧ (Cond.fieldLink own idx C (T k).2.1 (T k).2.2.1 ∈ gtb ∨ ∃ host, Cond.fieldLinkNest own idx C (T k).2.1 (T k).2.2.1 host ∈ lw_tbl)
def fOk (r ci k : Nat) (x : Option Nat) : Bool := decide (r < NC) && (kd r == ci) && decide (ci < 100) && decide (k < fdn r) && (fld r k == x)
theorem fOk_at {r ci k : Nat} {x : Option Nat} (h : fOk r ci k x = true) : r < NC ∧ kd r = ci ∧ ci < 100 ∧ k < fdn r ∧ fld r k = x := by
  simp only [fOk, Bool.and_eq_true, decide_eq_true_eq, beq_iff_eq] at h
  exact ⟨h.1.1.1.1, h.1.1.1.2, h.1.1.2, h.1.2, h.2⟩
def aOk (r kk n : Nat) : Bool := decide (r < NC) && (kd r == kk) && (ln r == n)
theorem aOk_at {r kk n : Nat} (h : aOk r kk n = true) : r < NC ∧ kd r = kk ∧ ln r = n := by
  simp only [aOk, Bool.and_eq_true, decide_eq_true_eq, beq_iff_eq] at h
  exact ⟨h.1.1, h.1.2, h.2⟩
def oOk (r ci : Nat) : Bool := decide (r < NC) && (kd r == ci) && decide (ci < 100)
theorem oOk_at {r ci : Nat} (h : oOk r ci = true) : r < NC ∧ kd r = ci ∧ ci < 100 := by
  simp only [oOk, Bool.and_eq_true, decide_eq_true_eq, beq_iff_eq] at h
  exact ⟨h.1.1, h.1.2, h.2⟩
theorem fsO_at {g : GG} {σ : Sto} {r k : Nat} (h : k < fdn r) : (fsO g σ r)[k]? = some (fvO g σ r k) := by
  simp [fsO, List.getElem?_map, List.getElem?_range h]
theorem okS_upd {σ : Sto} {r : Nat} {k v : Int} (h : okS σ) (hv : okI v) : okS (upd2 σ r k v) := by
  intro q j
  simp only [upd2]
  split
  · exact hv
  · exact h q j
section FLD
variable {cc : ByteArray} {own : String} {rt : Option FieldType} {d pc : Nat} {loc : List (Option MV)} {st : List MV} {σ : Sto} {Q : Option MV → Sto → Prop}
theorem wp_get {idx ci k : Nat} {C : String} {T : u_T} {N r : Nat} {x : Option Nat} {v : MV} (hd : decode cc pc = .ok (.getfield idx, 3)) (hl : FLk own idx ci k C T N) (hf : fOk r ci k x = true) (hv : ∀ g, fvO g σ r k = tv g v) (hov : okS σ → okv v) (kk : Wp cc own rt d (pc + 3) loc (v :: st) σ Q) : Wp cc own rt d pc loc (mR r :: st) σ Q := by
  intro g p l e s m args below meth c H locs ls Cx hP hS hσ hlo hst
  obtain ⟨hr, hk, hc, hkn, -⟩ := fOk_at hf
  obtain ⟨⟨h1, h2, -, -⟩, h5, h6, h7⟩ := hl
  have hat : (wsO g σ)[r]? = some (gad g r, .inr (ci, fsO g σ r)) := wsO_obj hr hk hc
  have hfv : (fsO g σ r)[k]? = some (tv g v) := by rw [fsO_at hkn, hv g]
  have kk' := kk g p l e s m args below meth c H locs ls Cx hP hS hσ hlo ⟨hov hσ, hst.2⟩
  obtain ⟨c1, c2, c3, c4, c5, c6, c7, c8, c9, c10⟩ := Cx
  rcases h7 with h7 | ⟨host, h7⟩
  · exact va_get (ref := C) (C := C) (T := T) (N := N) c1 c2 c6 h2 c5 c8 hP r hat h1 k h5 (c6 _ h7) (fun x hx => by rw [h6] at hx; exact hx) hfv hd kk'
  · exact va_getN (ref := C) (C := C) (T := T) (N := N) (host := host) c1 c2 c6 h2 c5 c8 hP r hat h1 k h5 (va_Nw.use rfl (c9.1 _ h7 rfl)) (fun x hx => by rw [h6] at hx; exact hx) hfv hd kk'
theorem wp_getI {idx ci k : Nat} {C : String} {T : u_T} {N r : Nat} (kz : Int) (hd : decode cc pc = .ok (.getfield idx, 3)) (hl : FLk own idx ci k C T N) (hf : fOk r ci k none = true) (hk : (k : Int) = kz) (kk : Wp cc own rt d (pc + 3) loc (mI (σ r kz) :: st) σ Q) : Wp cc own rt d pc loc (mR r :: st) σ Q :=
  wp_get (v := mI (σ r kz)) hd hl hf (fun g => by rw [fvO, (fOk_at hf).2.2.2.2, hk]; rfl) (fun h => h r kz) kk
theorem wp_getR {idx ci k : Nat} {C : String} {T : u_T} {N r q : Nat} (hd : decode cc pc = .ok (.getfield idx, 3)) (hl : FLk own idx ci k C T N) (hf : fOk r ci k (some q) = true) (kk : Wp cc own rt d (pc + 3) loc (mR q :: st) σ Q) : Wp cc own rt d pc loc (mR r :: st) σ Q :=
  wp_get (v := mR q) hd hl hf (fun g => by rw [fvO, (fOk_at hf).2.2.2.2]; rfl) (fun _ => trivial) kk
theorem wp_put {idx ci k : Nat} {C : String} {T : u_T} {N r : Nat} {ty : FieldType} {z : Int} (kz : Int) (hd : decode cc pc = .ok (.putfield idx, 3)) (hl : FLk own idx ci k C T N) (hp : (T k).2.2.2 = false ∧ parseFieldDescriptor (T k).2.2.1 = some ty) (hf : fOk r ci k none = true) (hk : (k : Int) = kz) (hn : narrow ty (.int (Int32.ofInt z)) = .int (Int32.ofInt z)) (hfit : fits ty (.int (Int32.ofInt z)) = true) (kk : Wp cc own rt d (pc + 3) loc st (upd2 σ r kz z) Q) : Wp cc own rt d pc loc (mI z :: mR r :: st) σ Q := by
  intro g p l e s m args below meth c H locs ls Cx hP hS hσ hlo hst
  obtain ⟨hr, hk1, hc, hkn, hfn⟩ := fOk_at hf
  obtain ⟨⟨h1, h2, ⟨ty0, h3⟩, h4⟩, h5, h6, h7⟩ := hl
  have hat : (wsO g σ)[r]? = some (gad g r, .inr (ci, fsO g σ r)) := wsO_obj hr hk1 hc
  have hD := wsO_D σ Cx.2.2.2.2.2.2.2.2.2
  have hlen : k < (fsO g σ r).length := by simpa [fsO] using hkn
  have heq : (wsO g σ).set r (gad g r, .inr (ci, (fsO g σ r).set k (.int (Int32.ofInt z)))) = wsO g (upd2 σ r kz z) := by
    refine wsO_set hr ?_ (fun q hq => upd2_out hq)
    rw [← hk, ← hk1]
    exact cel_upd_obj (by rw [hk1]; exact hc) hfn hkn
  have fin : ∀ (H1 : Heap) (locs1 : List Loc), va_P (gD g) vwCl ((wsO g σ).set r (gad g r, .inr (ci, (fsO g σ r).set k (.int (Int32.ofInt z))))) H1 → va_D (gAr g) ((wsO g σ).set r (gad g r, .inr (ci, (fsO g σ r).set k (.int (Int32.ofInt z))))) → va_S (gAr g) s.heap H1 locs1 → W p l e (rmd d) s m args below meth c H1 locs1 0 0 (MQ below (QcO g Q) args s 0 0 (gAr g)) (F0 m (pc + 3) ls (st.map (tv g))) := by
    intro H1 locs1 q1 _ q3
    rw [heq] at q1
    exact kk g p l e s m args below meth c H1 locs1 ls Cx q1 q3 (okS_upd hσ hst.1) hlo hst.2.2
  obtain ⟨c1, c2, c3, c4, c5, c6, c7, c8, c9, c10⟩ := Cx
  rcases h7 with h7 | ⟨host, h7⟩
  · exact va_put (ref := C) (C := C) (T := T) (N := N) c1 c2 c6 h2 ty0 h3 h4 c5 c8 hP hD hS r hat h1 k h5 (c6 _ h7) (fun x hx => by rw [h6] at hx; exact hx) hp.1 hp.2 hn hfit hlen hd fin
  · exact va_putN (ref := C) (C := C) (T := T) (N := N) (host := host) c1 c2 c6 h2 ty0 h3 h4 c5 c8 hP hD hS r hat h1 k h5 (va_Nw.use rfl (c9.1 _ h7 rfl)) (fun x hx => by rw [h6] at hx; exact hx) hp.1 hp.2 hn hfit hlen hd fin
theorem wp_putI {idx ci k : Nat} {C : String} {T : u_T} {N r : Nat} {z : Int} (kz : Int) (hd : decode cc pc = .ok (.putfield idx, 3)) (hl : FLk own idx ci k C T N) (hp : (T k).2.2.2 = false ∧ parseFieldDescriptor (T k).2.2.1 = some .int) (hf : fOk r ci k none = true) (hk : (k : Int) = kz) (kk : Wp cc own rt d (pc + 3) loc st (upd2 σ r kz z) Q) : Wp cc own rt d pc loc (mI z :: mR r :: st) σ Q :=
  wp_put kz hd hl hp hf hk (vp_nar_int _) rfl kk
theorem wp_putZ {idx ci k : Nat} {C : String} {T : u_T} {N r : Nat} {z : Int} (kz : Int) (hd : decode cc pc = .ok (.putfield idx, 3)) (hl : FLk own idx ci k C T N) (hp : (T k).2.2.2 = false ∧ parseFieldDescriptor (T k).2.2.1 = some .boolean) (hf : fOk r ci k none = true) (hk : (k : Int) = kz) (hz : z = 0 ∨ z = 1) (kk : Wp cc own rt d (pc + 3) loc st (upd2 σ r kz z) Q) : Wp cc own rt d pc loc (mI z :: mR r :: st) σ Q :=
  wp_put kz hd hl hp hf hk (by rcases hz with rfl | rfl <;> rfl) (by rcases hz with rfl | rfl <;> rfl) kk
theorem wp_iald {r : Nat} {i : Int} (n : Nat) (hd : decode cc pc = .ok (.iaload, 1)) (ha : aOk r 100 n = true) (hi : 0 ≤ i ∧ i < (n : Int)) (kk : Wp cc own rt d (pc + 1) loc (mI (σ r i) :: st) σ Q) : Wp cc own rt d pc loc (mI i :: mR r :: st) σ Q := by
  intro g p l e s m args below meth c H locs ls Cx hP hS hσ hlo hst
  obtain ⟨hr, hk, hn⟩ := aOk_at ha
  have hoi : okI i := hst.1
  have hat := wsO_arr (g := g) (σ := σ) hr hk (by decide)
  refine va_iald (n := ln r) Cx.1 Cx.2.1 Cx.2.2.2.2.2.2.2.1 hP r 0 hat rfl (oI_in hoi hi.1 (by rw [hn]; exact hi.2)) hd ?_
  have e1 : (((Int32.ofInt i).toNatClampNeg : Nat) : Int) = i := by rw [oI_clamp hoi hi.1]; omega
  rw [e1]
  exact kk g p l e s m args below meth c H locs ls Cx hP hS hσ hlo ⟨hσ r i, hst.2.2⟩
theorem wp_bald {r : Nat} {i : Int} (n : Nat) (hd : decode cc pc = .ok (.baload, 1)) (ha : aOk r 101 n = true) (hi : 0 ≤ i ∧ i < (n : Int)) (kk : Wp cc own rt d (pc + 1) loc (mI (σ r i) :: st) σ Q) : Wp cc own rt d pc loc (mI i :: mR r :: st) σ Q := by
  intro g p l e s m args below meth c H locs ls Cx hP hS hσ hlo hst
  obtain ⟨hr, hk, hn⟩ := aOk_at ha
  have hoi : okI i := hst.1
  have hat := wsO_arr (g := g) (σ := σ) hr hk (by decide)
  refine va_bald (n := ln r) Cx.1 Cx.2.1 Cx.2.2.2.2.2.2.2.1 hP r 1 hat rfl (oI_in hoi hi.1 (by rw [hn]; exact hi.2)) hd ?_
  have e1 : (((Int32.ofInt i).toNatClampNeg : Nat) : Int) = i := by rw [oI_clamp hoi hi.1]; omega
  rw [e1]
  exact kk g p l e s m args below meth c H locs ls Cx hP hS hσ hlo ⟨hσ r i, hst.2.2⟩
theorem wp_zald {r : Nat} {i : Int} (n : Nat) (hd : decode cc pc = .ok (.baload, 1)) (ha : aOk r 102 n = true) (hi : 0 ≤ i ∧ i < (n : Int)) (kk : Wp cc own rt d (pc + 1) loc (mI (σ r i) :: st) σ Q) : Wp cc own rt d pc loc (mI i :: mR r :: st) σ Q := by
  intro g p l e s m args below meth c H locs ls Cx hP hS hσ hlo hst
  obtain ⟨hr, hk, hn⟩ := aOk_at ha
  have hoi : okI i := hst.1
  have hat := wsO_arr (g := g) (σ := σ) hr hk (by decide)
  refine va_zald (n := ln r) Cx.1 Cx.2.1 Cx.2.2.2.2.2.2.2.1 hP r 2 hat rfl (oI_in hoi hi.1 (by rw [hn]; exact hi.2)) hd ?_
  have e1 : (((Int32.ofInt i).toNatClampNeg : Nat) : Int) = i := by rw [oI_clamp hoi hi.1]; omega
  rw [e1]
  exact kk g p l e s m args below meth c H locs ls Cx hP hS hσ hlo ⟨hσ r i, hst.2.2⟩
theorem wp_iast {r : Nat} {i z : Int} (n : Nat) (hd : decode cc pc = .ok (.iastore, 1)) (ha : aOk r 100 n = true) (hi : 0 ≤ i ∧ i < (n : Int)) (kk : Wp cc own rt d (pc + 1) loc st (upd2 σ r i z) Q) : Wp cc own rt d pc loc (mI z :: mI i :: mR r :: st) σ Q := by
  intro g p l e s m args below meth c H locs ls Cx hP hS hσ hlo hst
  obtain ⟨hr, hk, hn⟩ := aOk_at ha
  have hoi : okI i := hst.2.1
  have hat := wsO_arr (g := g) (σ := σ) hr hk (by decide)
  have hD := wsO_D σ Cx.2.2.2.2.2.2.2.2.2
  refine va_iast (n := ln r) Cx.1 Cx.2.1 Cx.2.2.2.2.2.2.2.1 hP hD hS r 0 hat rfl (oI_in hoi hi.1 (by rw [hn]; exact hi.2)) hd (fun H1 locs1 q1 _ q3 => ?_)
  rw [oI_clamp hoi hi.1, wsO_set (σ' := upd2 σ r i z) hr (cel_upd_arr hk (by decide) hi.1) (fun q hq => upd2_out hq)] at q1
  exact kk g p l e s m args below meth c H1 locs1 ls Cx q1 q3 (okS_upd hσ hst.1) hlo hst.2.2.2
theorem wp_bast {r : Nat} {i z : Int} (n : Nat) (hd : decode cc pc = .ok (.bastore, 1)) (ha : aOk r 101 n = true) (hi : 0 ≤ i ∧ i < (n : Int)) (hz : -128 ≤ z ∧ z < 128) (kk : Wp cc own rt d (pc + 1) loc st (upd2 σ r i z) Q) : Wp cc own rt d pc loc (mI z :: mI i :: mR r :: st) σ Q := by
  intro g p l e s m args below meth c H locs ls Cx hP hS hσ hlo hst
  obtain ⟨hr, hk, hn⟩ := aOk_at ha
  have hoi : okI i := hst.2.1
  have hat := wsO_arr (g := g) (σ := σ) hr hk (by decide)
  have hD := wsO_D σ Cx.2.2.2.2.2.2.2.2.2
  have en : vp_nar .byte (Int32.ofInt z) = Int32.ofInt z := by rw [vp_nar_byte]; exact i8_id hz.1 hz.2
  refine va_bast (n := ln r) Cx.1 Cx.2.1 Cx.2.2.2.2.2.2.2.1 hP hD hS r 1 hat rfl (oI_in hoi hi.1 (by rw [hn]; exact hi.2)) hd (fun H1 locs1 q1 _ q3 => ?_)
  rw [en] at q1
  rw [oI_clamp hoi hi.1, wsO_set (σ' := upd2 σ r i z) hr (cel_upd_arr hk (by decide) hi.1) (fun q hq => upd2_out hq)] at q1
  exact kk g p l e s m args below meth c H1 locs1 ls Cx q1 q3 (okS_upd hσ hst.1) hlo hst.2.2.2
theorem wp_zast {r : Nat} {i z : Int} (n : Nat) (hd : decode cc pc = .ok (.bastore, 1)) (ha : aOk r 102 n = true) (hi : 0 ≤ i ∧ i < (n : Int)) (hz : z = 0 ∨ z = 1) (kk : Wp cc own rt d (pc + 1) loc st (upd2 σ r i z) Q) : Wp cc own rt d pc loc (mI z :: mI i :: mR r :: st) σ Q := by
  intro g p l e s m args below meth c H locs ls Cx hP hS hσ hlo hst
  obtain ⟨hr, hk, hn⟩ := aOk_at ha
  have hoi : okI i := hst.2.1
  have hat := wsO_arr (g := g) (σ := σ) hr hk (by decide)
  have hD := wsO_D σ Cx.2.2.2.2.2.2.2.2.2
  have en : vp_nar .boolean (Int32.ofInt z) = Int32.ofInt z := by rcases hz with rfl | rfl <;> rfl
  refine va_zast (n := ln r) Cx.1 Cx.2.1 Cx.2.2.2.2.2.2.2.1 hP hD hS r 2 hat rfl (oI_in hoi hi.1 (by rw [hn]; exact hi.2)) hd (fun H1 locs1 q1 _ q3 => ?_)
  rw [en] at q1
  rw [oI_clamp hoi hi.1, wsO_set (σ' := upd2 σ r i z) hr (cel_upd_arr hk (by decide) hi.1) (fun q hq => upd2_out hq)] at q1
  exact kk g p l e s m args below meth c H1 locs1 ls Cx q1 q3 (okS_upd hσ hst.1) hlo hst.2.2.2
theorem wp_alen {r : Nat} (kk0 n : Nat) (hd : decode cc pc = .ok (.arraylength, 1)) (ha : aOk r kk0 n = true) (h3 : kk0 = 100 ∨ kk0 = 101 ∨ kk0 = 102) (hno : okI (n : Int)) (kk : Wp cc own rt d (pc + 1) loc (mI (n : Int) :: st) σ Q) : Wp cc own rt d pc loc (mR r :: st) σ Q := by
  intro g p l e s m args below meth c H locs ls Cx hP hS hσ hlo hst
  obtain ⟨hr, hk, hn⟩ := aOk_at ha
  have hat := wsO_arr (g := g) (σ := σ) hr hk (by omega)
  have hv : Int32.ofNat (ln r) = Int32.ofInt (n : Int) := by rw [hn]; rfl
  have kk' := kk g p l e s m args below meth c H locs ls Cx hP hS hσ hlo ⟨hno, hst.2⟩
  rcases h3 with rfl | rfl | rfl
  · exact va_alen Cx.1 Cx.2.1 Cx.2.2.2.2.2.2.2.1 hP r 0 hat (ty := .int) rfl hv hd kk'
  · exact va_alen Cx.1 Cx.2.1 Cx.2.2.2.2.2.2.2.1 hP r 1 hat (ty := .byte) rfl hv hd kk'
  · exact va_alen Cx.1 Cx.2.1 Cx.2.2.2.2.2.2.2.1 hP r 2 hat (ty := .boolean) rfl hv hd kk'
/-- static tables -/
def SLk (own : String) (idx k : Nat) : Prop := k < 3 ∧ (Cond.fieldLink own idx RX6 (stN k) "[I" ∈ gtb ∨ ∃ host, Cond.fieldLinkNest own idx RX6 (stN k) "[I" host ∈ lw_tbl)
theorem wp_gets {idx : Nat} (k : Nat) (hd : decode cc pc = .ok (.getstatic idx, 3)) (hl : SLk own idx k) (kk : Wp cc own rt d (pc + 3) loc (mR (1000 + k) :: st) σ Q) : Wp cc own rt d pc loc st σ Q := by
  intro g p l e s m args below meth c H locs ls Cx hP hS hσ hlo hst
  have kk' := kk g p l e s m args below meth c H locs ls Cx hP hS hσ hlo ⟨trivial, hst⟩
  obtain ⟨c1, c2, c3, c4, c5, c6, c7, c8, c9, c10⟩ := Cx
  have hZ := (c9.2.2.1 k hl.1).1
  rcases hl.2 with h7 | ⟨host, h7⟩
  · exact va_gets c1 c2 hZ hS c5 (c6 _ h7) (fun x hx => hx) hd kk'
  · exact va_getsN c1 c2 hZ hS c5 (va_Nw.use rfl (c9.1 _ h7 rfl)) (fun x hx => hx) hd kk'
theorem wp_tald {i : Int} (k : Nat) (hk : k < 3) (hd : decode cc pc = .ok (.iaload, 1)) (hi : 0 ≤ i ∧ i < 6) (hov : okI (stV k i)) (kk : Wp cc own rt d (pc + 1) loc (mI (stV k i) :: st) σ Q) : Wp cc own rt d pc loc (mI i :: mR (1000 + k) :: st) σ Q := by
  intro g p l e s m args below meth c H locs ls Cx hP hS hσ hlo hst
  have hoi : okI i := hst.1
  refine va_ti Cx.1 Cx.2.1 (Cx.2.2.2.2.2.2.2.2.1.2.2.1 k hk).2 hS (oI_in hoi hi.1 hi.2) (v := .int (Int32.ofInt (stV k i))) ?_ hd (kk g p l e s m args below meth c H locs ls Cx hP hS hσ hlo ⟨hov, hst.2.2⟩)
  have e1 : (((Int32.ofInt i).toNatClampNeg : Nat) : Int) = i := by rw [oI_clamp hoi hi.1]; omega
  rw [e1]
theorem wp_ldcS {idx : Nat} (k : Nat) (hd : decode cc pc = .ok (.ldc idx, 2)) (ho : own = RX4) (hk : k < 9) (hi : (strI.getD k (0, "")).1 = idx) (kk : Wp cc own rt d (pc + 2) loc (mR (2000 + k) :: st) σ Q) : Wp cc own rt d pc loc st σ Q := by
  intro g p l e s m args below meth c H locs ls Cx hP hS hσ hlo hst
  have hR := Cx.2.2.2.2.2.2.2.2.1.2.2.2.1 k hk
  rw [hi, ← ho] at hR
  exact va_ldcS Cx.1 Cx.2.1 Cx.2.2.2.2.1 hR hd (kk g p l e s m args below meth c H locs ls Cx hP hS hσ hlo ⟨trivial, hst⟩)
end FLD
def cpy2 (σ : Sto) (src dst : Nat) (sp dp n : Int) : Sto := fun r k => if r = dst ∧ dp ≤ k ∧ k < dp + n then σ src (sp + (k - dp)) else σ r k
theorem okS_cpy {σ : Sto} {a b : Nat} {x y n : Int} (h : okS σ) : okS (cpy2 σ a b x y n) := by
  intro q j
  simp only [cpy2]
  split
  · exact h _ _
  · exact h q j
def CPk (own : String) (idx : Nat) : Prop := Cond.methodLink own idx arraycopyName ∈ gtb ∧ Cond.native arraycopyName ∈ gtb ∧ Cond.static arraycopyName ∈ gtb ∧ Cond.initialized "java/lang/System" ∈ gtb
def catS : List MV → Nat
  | [] => 0
  | .inr (.inl _) :: t => 2 + catS t
  | _ :: t => 1 + catS t
theorem catS_eq {g : GG} : ∀ (st : List MV), ((st.map (tv g)).map fun v => v.category).sum = catS st
  | [] => rfl
  | .inl z :: t => by
    have := catS_eq (g := g) t
    simp only [List.map_cons, List.sum_cons, catS, this]; rfl
  | .inr (.inl z) :: t => by
    have := catS_eq (g := g) t
    simp only [List.map_cons, List.sum_cons, catS, this]; rfl
  | .inr (.inr z) :: t => by
    have := catS_eq (g := g) t
    simp only [List.map_cons, List.sum_cons, catS, this]; rfl
section CALL
variable {cc : ByteArray} {own : String} {rt : Option FieldType} {d pc : Nat} {loc : List (Option MV)} {st : List MV} {σ : Sto} {Q : Option MV → Sto → Prop}
theorem wp_copy {idx a b : Nat} {n sp dp : Int} (na nb : Nat) (hd : decode cc pc = .ok (.invokestatic idx, 3)) (hl : CPk own idx) (ha : aOk a 100 na = true) (hb : aOk b 100 nb = true) (h1 : 0 ≤ sp) (h2 : 0 ≤ dp) (h3 : 0 ≤ n) (h4 : sp + n ≤ (na : Int)) (h5 : dp + n ≤ (nb : Int)) (hdd : 1 ≤ d) (hcat : catS st ≤ 8) (kk : Wp cc own rt d (pc + 3) loc st (cpy2 σ a b sp dp n) Q) : Wp cc own rt d pc loc (mI n :: mI dp :: mR b :: mI sp :: mR a :: st) σ Q := by
  intro g p l e s m args below meth c H locs ls Cx hP hS hσ hlo hst
  obtain ⟨ra, ka, na'⟩ := aOk_at ha
  obtain ⟨rb, kb, nb'⟩ := aOk_at hb
  have on : okI n := hst.1
  have odp : okI dp := hst.2.1
  have osp : okI sp := hst.2.2.2.1
  have hata := wsO_arr (g := g) (σ := σ) ra ka (by decide)
  have hatb := wsO_arr (g := g) (σ := σ) rb kb (by decide)
  have hD := wsO_D σ Cx.2.2.2.2.2.2.2.2.2
  have nn : ∀ z : Int, okI z → 0 ≤ z → ¬ Int32.ofInt z < 0 := fun z hz h0 q => by rw [← oI_0, oI_lt hz ok0] at q; omega
  refine va_copyi (n0 := ln a) (n1 := ln b) (ty := .int) Cx.1 Cx.2.1 (by rw [Cx.2.2.2.1]; exact hlo.1.1.symm) Cx.2.2.2.2.1 (Cx.2.2.2.2.2.1 _ hl.1) (Cx.2.2.2.2.2.1 _ hl.2.1) (Cx.2.2.2.2.2.1 _ hl.2.2.1) (Cx.2.2.2.2.2.1 _ hl.2.2.2) Cx.2.2.2.2.2.2.2.1 hP hD hS a b 0 0 hata hatb rfl rfl rfl (nn sp osp h1) (nn dp odp h2) (nn n on h3) ?_ ?_ (fun _ _ => rfl) hdd ?_ hd (fun H1 locs1 q1 _ q3 => ?_)
  · rw [oI_clamp osp h1, oI_clamp on h3]; omega
  · rw [oI_clamp odp h2, oI_clamp on h3]; omega
  · rw [catS_eq]
    have : nativeFrameWords "java/lang/System" "arraycopy" 5 + 11 ≤ 32 := by decide
    show _ ≤ 40 * d
    omega
  · rw [wsO_set (σ' := cpy2 σ a b sp dp n) rb ?_ (fun q hq => ?_)] at q1
    · exact kk g p l e s m args below meth c H1 locs1 ls Cx q1 q3 (okS_cpy hσ) hlo hst.2.2.2.2.2
    · rw [oI_clamp osp h1, oI_clamp odp h2, oI_clamp on h3, cel, kb, if_neg (by decide)]
      congr 4
      funext j
      simp only [va_cpy, cpy2]
      by_cases hj : dp.toNat ≤ j ∧ j < dp.toNat + n.toNat
      · rw [if_pos hj, if_pos ⟨trivial, by omega, by omega⟩]
        congr 2; omega
      · rw [if_neg hj, if_neg (fun q => hj ⟨by omega, by omega⟩)]
    · funext j
      simp [cpy2, hq]
def MXk (own : String) (idx : Nat) (mx : Bool) : Prop := Cond.methodLink own idx (if mx then Lib.Math.max.name else Lib.Math.min.name) ∈ gtb ∧ Cond.static (if mx then Lib.Math.max.name else Lib.Math.min.name) ∈ gtb ∧ Cond.initialized "java/lang/Math" ∈ gtb ∧ Cond.code (if mx then Lib.Math.max.name else Lib.Math.min.name) (if mx then Lib.Math.max.code else Lib.Math.min.code) 2 (some .int) ∈ gtb
theorem wp_max {idx : Nat} {a b : Int} (hd : decode cc pc = .ok (.invokestatic idx, 3)) (hl : MXk own idx true) (hdd : 1 ≤ d) (hcat : catS st ≤ 8) (kk : Wp cc own rt d (pc + 3) loc (mI (max a b) :: st) σ Q) : Wp cc own rt d pc loc (mI b :: mI a :: st) σ Q := by
  intro g p l e s m args below meth c H locs ls Cx hP hS hσ hlo hst
  have oa : okI a := hst.2.1
  have ob : okI b := hst.1
  have om : okI (max a b) := ⟨by have := oa.1; omega, by have := oa.2; have := ob.2; omega⟩
  refine va_mmax Cx.1 Cx.2.1 (by rw [Cx.2.2.2.1]; exact hlo.1.1.symm) Cx.2.2.2.2.1 (Cx.2.2.2.2.2.1 _ hl.1) (Cx.2.2.2.2.2.1 _ hl.2.1) (Cx.2.2.2.2.2.1 _ hl.2.2.1) (Cx.2.2.2.2.2.1 _ hl.2.2.2) hdd (by rw [catS_eq]; show _ ≤ 40 * d; omega) (Nat.le_refl _) (Nat.le_refl _) hd ?_
  have e1 : (if Int32.ofInt a < Int32.ofInt b then Int32.ofInt b else Int32.ofInt a) = Int32.ofInt (max a b) := by
    by_cases h : a < b
    · rw [if_pos ((oI_lt oa ob).mpr h)]; congr 1; omega
    · rw [if_neg (fun q => h ((oI_lt oa ob).mp q))]; congr 1; omega
  rw [e1]
  exact kk g p l e s m args below meth c H locs ls Cx hP hS hσ hlo ⟨om, hst.2.2⟩
theorem wp_min {idx : Nat} {a b : Int} (hd : decode cc pc = .ok (.invokestatic idx, 3)) (hl : MXk own idx false) (hdd : 1 ≤ d) (hcat : catS st ≤ 8) (kk : Wp cc own rt d (pc + 3) loc (mI (min a b) :: st) σ Q) : Wp cc own rt d pc loc (mI b :: mI a :: st) σ Q := by
  intro g p l e s m args below meth c H locs ls Cx hP hS hσ hlo hst
  have oa : okI a := hst.2.1
  have ob : okI b := hst.1
  have om : okI (min a b) := ⟨by have := oa.1; have := ob.1; omega, by have := oa.2; omega⟩
  refine va_mmin Cx.1 Cx.2.1 (by rw [Cx.2.2.2.1]; exact hlo.1.1.symm) Cx.2.2.2.2.1 (Cx.2.2.2.2.2.1 _ hl.1) (Cx.2.2.2.2.2.1 _ hl.2.1) (Cx.2.2.2.2.2.1 _ hl.2.2.1) (Cx.2.2.2.2.2.1 _ hl.2.2.2) hdd (by rw [catS_eq]; show _ ≤ 40 * d; omega) (Nat.le_refl _) (Nat.le_refl _) hd ?_
  have e1 : (if Int32.ofInt b < Int32.ofInt a then Int32.ofInt b else Int32.ofInt a) = Int32.ofInt (min a b) := by
    by_cases h : b < a
    · rw [if_pos ((oI_lt ob oa).mpr h)]; congr 1; omega
    · rw [if_neg (fun q => h ((oI_lt ob oa).mp q))]; congr 1; omega
  rw [e1]
  exact kk g p l e s m args below meth c H locs ls Cx hP hS hσ hlo ⟨om, hst.2.2⟩
/-- a call's words: a method of an object, a static one, a static one of a nest mate -/
def CBk (y : MethodName) (bc : ByteArray) (nL : Nat) (rty : Option FieldType) (n : Nat) : Prop := Cond.initialized y.cls ∈ gtb ∧ Cond.code y bc nL rty ∈ gtb ∧ y.cls ≠ "java/lang/invoke/MethodHandle" ∧ y.cls ≠ "java/lang/invoke/VarHandle" ∧ (parseMethodDescriptor y.desc).map (fun d => d.parameters.length) = some n ∧ nL ≤ 21
def MVk (own : String) (idx : Nat) (y : MethodName) (bc : ByteArray) (nL : Nat) (rty : Option FieldType) (n ci : Nat) : Prop := Cond.methodLink own idx y ∈ gtb ∧ Cond.instanceMethod y ∈ gtb ∧ Cond.selects y.cls y y ∈ gtb ∧ CBk y bc nL rty n ∧ ∃ (T : u_T) (N : Nat), vwCl[ci]? = some (y.cls, T, N)
def MSk (own : String) (idx : Nat) (y : MethodName) (bc : ByteArray) (nL : Nat) (rty : Option FieldType) (n : Nat) : Prop := Cond.static y ∈ gtb ∧ CBk y bc nL rty n ∧ (Cond.methodLink own idx y ∈ gtb ∨ ∃ host, Cond.methodLinkNest own idx y host ∈ lw_tbl)
theorem goodC {y : MethodName} {bc : ByteArray} {nL : Nat} {rty : Option FieldType} (h : Cond.code y bc nL rty ∈ gtb) : GoodIn gtb (.code y bc nL rty :: gtb) := by
  intro w hw
  rcases List.mem_cons.mp hw with rfl | hw
  · exact ⟨h, good_of_word (List.mem_filter.mp h).2⟩
  · exact ⟨hw, good_of_word (List.mem_filter.mp hw).2⟩
theorem oks_rev : ∀ {as st : List MV}, oks (as.reverse ++ st) → oks as ∧ oks st := by
  intro as
  induction as with
  | nil => intro st h; exact ⟨trivial, h⟩
  | cons a t ih =>
    intro st h
    rw [List.reverse_cons, List.append_assoc] at h
    obtain ⟨h1, h2⟩ := ih h
    exact ⟨⟨h2.1, h1⟩, h2.2⟩
theorem call_fin {g : GG} {p : Program} {l : Launch} {e : Env} {s : State} {m : MethodId} {args a : Array Value} {below : List Frame} {meth : Method} {c : Code} {H : Heap} {locs : List Loc} {ls : Array Slot} {stk : List Value} {Q' : Option MV → Sto → Prop}
    (Cx : Ctx g cc own rt loc.length p s m args meth c) (hS : va_S (gAr g) s.heap H locs) (hlo : lok g ls loc) (hst : oks st)
    (hr : va_Run p l e (rmd d) s m args below meth c H locs 0 0 0 0 (F0 m pc ls stk) (st.map (tv g)) (QcO g Q' a) (gAr g))
    (k : ∀ v σ', Q' v σ' → Wp cc own rt d (pc + 3) loc (v.toList ++ st) σ' Q) : W p l e (rmd d) s m args below meth c H locs 0 0 (MQ below (QcO g Q) args s 0 0 (gAr g)) (F0 m pc ls stk) := by
  intro T hT X
  obtain ⟨v, st₀, t, T', L, h0, X', hL, e1, e2, ⟨⟨r, σ', hv, hq, hσ', hrv, hP'⟩, hz, hk⟩, stp⟩ := hr T hT X
  have hv' : v = r.map (tv g) := by cases hv; rfl
  subst hv'
  rw [h0] at hz hk
  have hS' : va_S (gAr g) s.heap T'.heap (locs ++ L) := by
    refine ⟨Nat.le_trans hS.1 (by rw [e1]; exact hz), fun q h1 h2 => ?_, fun q hq => ?_⟩
    · rw [e1, hk q (Nat.lt_of_lt_of_le h1 hS.1) h2]
      exact hS.2.1 q h1 h2
    · rcases List.mem_append.mp hq with h | h
      · exact hS.2.2 q h
      · exact hL q h
  have hok : oks (r.toList ++ st) := by
    cases r with
    | none => exact hst
    | some u => exact ⟨hrv u rfl, hst⟩
  have hmap : (r.toList ++ st).map (tv g) = (r.map (tv g)).toList ++ st.map (tv g) := by cases r <;> rfl
  obtain ⟨t2, a1, b1⟩ := k r σ' hq g p l e s m args below meth c T'.heap (locs ++ L) ls Cx (by rw [e1]; exact hP') hS' hσ' hlo hok T' rfl X'
  rw [hmap] at a1
  exact ⟨t2, stp t2 a1, b1⟩
theorem wp_cv {y : MethodName} {bc : ByteArray} {nL : Nat} {rty : Option FieldType} {d' n idx ci r : Nat} {as stk : List MV} {Q' : Option MV → Sto → Prop} (hd : decode cc pc = .ok (.invokevirtual idx, 3)) (hl : MVk own idx y bc nL rty n ci) (hM : Ct y bc nL rty d' (mR r :: as) σ Q') (hdep : d' + 1 ≤ d) (hr : oOk r ci = true) (hstk : stk = as.reverse ++ mR r :: st) (hn : as.length = n) (hcat : catS st ≤ 8) (k : ∀ v σ', Q' v σ' → Wp cc own rt d (pc + 3) loc (v.toList ++ st) σ' Q) : Wp cc own rt d pc loc stk σ Q := by
  intro g p l e s m args below meth c H locs ls Cx hP hS hσ hlo hst
  subst hstk
  obtain ⟨ho1, ho2⟩ := oks_rev hst
  obtain ⟨h1, h2, h3, ⟨i1, i2, i3, i4, i5, i6⟩, T, N, h5⟩ := hl
  obtain ⟨r1, r2, r3⟩ := oOk_at hr
  have hat := wsO_obj (g := g) (σ := σ) r1 r2 r3
  have Cx' := Cx
  obtain ⟨c1, c2, c3, c4, c5, c6, c7, c8, c9, c10⟩ := Cx
  refine call_fin Cx' hS hlo ho2.2 (va_runV (As := as.map (tv g)) (C := y.cls) (n := n) ⟨c1, c2, c4, c5, c6⟩ (hM l g) ⟨callB_of n c6 (goodC i2) rfl rfl rfl (c6 _ i1) (c6 _ h1) ⟨i3, i4, i5⟩ ⟨hdep, ?_⟩, c6 _ h2, c6 _ h3⟩ ⟨PcO_blind, va_recv c8 hP h5 hat, fun U hU hW => ⟨rfl, by rw [hU]; exact hP, va_K.moved hW.alike c8, c10, Fx_moved hW (fun a ha hna => by rw [hU]; exact hS.2.1 a ha hna) c9, hσ, trivial, ho1⟩⟩ rfl (by rw [List.length_map]; exact hn) hlo.1.1 ?_ (lv_room (by rw [catS_eq]; exact hcat)) hd ⟨Nat.le_refl _, Nat.le_refl _⟩) k
  · show 8 + (nL + 11) + 40 * d' ≤ 40 * d
    omega
  · show (as.reverse ++ mR r :: st).map (tv g) = _
    rw [List.map_append, List.map_reverse]; rfl
theorem wp_cs {y : MethodName} {bc : ByteArray} {nL : Nat} {rty : Option FieldType} {d' n idx : Nat} {as stk : List MV} {Q' : Option MV → Sto → Prop} (hd : decode cc pc = .ok (.invokestatic idx, 3)) (hl : MSk own idx y bc nL rty n) (hM : Ct y bc nL rty d' as σ Q') (hdep : d' + 1 ≤ d) (hstk : stk = as.reverse ++ st) (hn : as.length = n) (hcat : catS st ≤ 8) (k : ∀ v σ', Q' v σ' → Wp cc own rt d (pc + 3) loc (v.toList ++ st) σ' Q) : Wp cc own rt d pc loc stk σ Q := by
  intro g p l e s m args below meth c H locs ls Cx hP hS hσ hlo hst
  subst hstk
  obtain ⟨ho1, ho2⟩ := oks_rev hst
  obtain ⟨h1, ⟨i1, i2, i3, i4, i5, i6⟩, h7⟩ := hl
  have Cx' := Cx
  obtain ⟨c1, c2, c3, c4, c5, c6, c7, c8, c9, c10⟩ := Cx
  have hR : 8 + (nL + 11) + (rmd d').locals ≤ (rmd d).locals := by show 8 + (nL + 11) + 40 * d' ≤ 40 * d; omega
  have hstm : (as.reverse ++ st).map (tv g) = (as.map (tv g)).reverse ++ st.map (tv g) := by rw [List.map_append, List.map_reverse]
  have hpre : PreS s H (PcO g as σ) (as.map (tv g)) := ⟨PcO_blind, fun U hU hW => ⟨rfl, by rw [hU]; exact hP, va_K.moved hW.alike c8, c10, Fx_moved hW (fun a ha hna => by rw [hU]; exact hS.2.1 a ha hna) c9, hσ, ho1⟩⟩
  rcases h7 with h7 | ⟨host, h7⟩
  · exact call_fin Cx' hS hlo ho2 (va_runS (As := as.map (tv g)) (n := n) ⟨c1, c2, c4, c5, c6⟩ (hM l g) ⟨callB_of n c6 (goodC i2) rfl rfl rfl (c6 _ i1) (c6 _ h7) ⟨i3, i4, i5⟩ ⟨hdep, hR⟩, c6 _ h1⟩ hpre rfl (by rw [List.length_map]; exact hn) hlo.1.1 hstm (lv_room (by rw [catS_eq]; exact hcat)) hd ⟨Nat.le_refl _, Nat.le_refl _⟩) k
  · exact call_fin Cx' hS hlo ho2 (va_runSN (As := as.map (tv g)) (n := n) ⟨c1, c2, c4, c5, c6⟩ (hM l g) ⟨va_cnB n c6 (goodC i2) rfl rfl rfl (c9.2.1 _ h7 rfl) (c6 _ i1) ⟨i3, i4, i5⟩ ⟨hdep, hR⟩, c6 _ h1, trivial⟩ hpre rfl (by rw [List.length_map]; exact hn) hlo.1.1 hstm (lv_room (by rw [catS_eq]; exact hcat)) hd ⟨Nat.le_refl _, Nat.le_refl _⟩) k
abbrev CtI (y : MethodName) (bc : ByteArray) (nL : Nat) (rty : Option FieldType) (d : Nat) (as : List MV) (σ : Sto) (Q : Int → Sto → Prop) : Prop := Ct y bc nL rty d as σ (fun v σ' => ∃ z, v = some (mI z) ∧ Q z σ')
abbrev CtV (y : MethodName) (bc : ByteArray) (nL : Nat) (rty : Option FieldType) (d : Nat) (as : List MV) (σ : Sto) (Q : Sto → Prop) : Prop := Ct y bc nL rty d as σ (fun v σ' => v = none ∧ Q σ')
abbrev CtR (y : MethodName) (bc : ByteArray) (nL : Nat) (rty : Option FieldType) (d : Nat) (as : List MV) (σ : Sto) (Q : Nat → Sto → Prop) : Prop := Ct y bc nL rty d as σ (fun v σ' => ∃ z, v = some (mR z) ∧ Q z σ')
theorem wp_cvI0 {y : MethodName} {bc : ByteArray} {nL : Nat} {rty : Option FieldType} {d' idx ci r : Nat} {Q' : Int → Sto → Prop} (hd : decode cc pc = .ok (.invokevirtual idx, 3)) (hl : MVk own idx y bc nL rty 0 ci) (hM : CtI y bc nL rty d' [mR r] σ Q') (hdep : d' + 1 ≤ d) (hr : oOk r ci = true) (hcat : catS st ≤ 8) (k : ∀ z σ', Q' z σ' → Wp cc own rt d (pc + 3) loc (mI z :: st) σ' Q) : Wp cc own rt d pc loc (mR r :: st) σ Q :=
  wp_cv (as := []) hd hl hM hdep hr rfl rfl hcat (fun v σ' h => by obtain ⟨z, rfl, h⟩ := h; exact k z σ' h)
theorem wp_cvI1 {y : MethodName} {bc : ByteArray} {nL : Nat} {rty : Option FieldType} {d' idx ci r : Nat} {a1 : MV} {Q' : Int → Sto → Prop} (hd : decode cc pc = .ok (.invokevirtual idx, 3)) (hl : MVk own idx y bc nL rty 1 ci) (hM : CtI y bc nL rty d' [mR r, a1] σ Q') (hdep : d' + 1 ≤ d) (hr : oOk r ci = true) (hcat : catS st ≤ 8) (k : ∀ z σ', Q' z σ' → Wp cc own rt d (pc + 3) loc (mI z :: st) σ' Q) : Wp cc own rt d pc loc (a1 :: mR r :: st) σ Q :=
  wp_cv (as := [a1]) hd hl hM hdep hr rfl rfl hcat (fun v σ' h => by obtain ⟨z, rfl, h⟩ := h; exact k z σ' h)
theorem wp_csI1 {y : MethodName} {bc : ByteArray} {nL : Nat} {rty : Option FieldType} {d' idx : Nat} {a1 : MV} {Q' : Int → Sto → Prop} (hd : decode cc pc = .ok (.invokestatic idx, 3)) (hl : MSk own idx y bc nL rty 1) (hM : CtI y bc nL rty d' [a1] σ Q') (hdep : d' + 1 ≤ d) (hcat : catS st ≤ 8) (k : ∀ z σ', Q' z σ' → Wp cc own rt d (pc + 3) loc (mI z :: st) σ' Q) : Wp cc own rt d pc loc (a1 :: st) σ Q :=
  wp_cs (as := [a1]) hd hl hM hdep rfl rfl hcat (fun v σ' h => by obtain ⟨z, rfl, h⟩ := h; exact k z σ' h)
theorem wp_cvI2 {y : MethodName} {bc : ByteArray} {nL : Nat} {rty : Option FieldType} {d' idx ci r : Nat} {a1 a2 : MV} {Q' : Int → Sto → Prop} (hd : decode cc pc = .ok (.invokevirtual idx, 3)) (hl : MVk own idx y bc nL rty 2 ci) (hM : CtI y bc nL rty d' [mR r, a1, a2] σ Q') (hdep : d' + 1 ≤ d) (hr : oOk r ci = true) (hcat : catS st ≤ 8) (k : ∀ z σ', Q' z σ' → Wp cc own rt d (pc + 3) loc (mI z :: st) σ' Q) : Wp cc own rt d pc loc (a2 :: a1 :: mR r :: st) σ Q :=
  wp_cv (as := [a1, a2]) hd hl hM hdep hr rfl rfl hcat (fun v σ' h => by obtain ⟨z, rfl, h⟩ := h; exact k z σ' h)
theorem wp_csI2 {y : MethodName} {bc : ByteArray} {nL : Nat} {rty : Option FieldType} {d' idx : Nat} {a1 a2 : MV} {Q' : Int → Sto → Prop} (hd : decode cc pc = .ok (.invokestatic idx, 3)) (hl : MSk own idx y bc nL rty 2) (hM : CtI y bc nL rty d' [a1, a2] σ Q') (hdep : d' + 1 ≤ d) (hcat : catS st ≤ 8) (k : ∀ z σ', Q' z σ' → Wp cc own rt d (pc + 3) loc (mI z :: st) σ' Q) : Wp cc own rt d pc loc (a2 :: a1 :: st) σ Q :=
  wp_cs (as := [a1, a2]) hd hl hM hdep rfl rfl hcat (fun v σ' h => by obtain ⟨z, rfl, h⟩ := h; exact k z σ' h)
theorem wp_cvI3 {y : MethodName} {bc : ByteArray} {nL : Nat} {rty : Option FieldType} {d' idx ci r : Nat} {a1 a2 a3 : MV} {Q' : Int → Sto → Prop} (hd : decode cc pc = .ok (.invokevirtual idx, 3)) (hl : MVk own idx y bc nL rty 3 ci) (hM : CtI y bc nL rty d' [mR r, a1, a2, a3] σ Q') (hdep : d' + 1 ≤ d) (hr : oOk r ci = true) (hcat : catS st ≤ 8) (k : ∀ z σ', Q' z σ' → Wp cc own rt d (pc + 3) loc (mI z :: st) σ' Q) : Wp cc own rt d pc loc (a3 :: a2 :: a1 :: mR r :: st) σ Q :=
  wp_cv (as := [a1, a2, a3]) hd hl hM hdep hr rfl rfl hcat (fun v σ' h => by obtain ⟨z, rfl, h⟩ := h; exact k z σ' h)
theorem wp_csI3 {y : MethodName} {bc : ByteArray} {nL : Nat} {rty : Option FieldType} {d' idx : Nat} {a1 a2 a3 : MV} {Q' : Int → Sto → Prop} (hd : decode cc pc = .ok (.invokestatic idx, 3)) (hl : MSk own idx y bc nL rty 3) (hM : CtI y bc nL rty d' [a1, a2, a3] σ Q') (hdep : d' + 1 ≤ d) (hcat : catS st ≤ 8) (k : ∀ z σ', Q' z σ' → Wp cc own rt d (pc + 3) loc (mI z :: st) σ' Q) : Wp cc own rt d pc loc (a3 :: a2 :: a1 :: st) σ Q :=
  wp_cs (as := [a1, a2, a3]) hd hl hM hdep rfl rfl hcat (fun v σ' h => by obtain ⟨z, rfl, h⟩ := h; exact k z σ' h)
theorem wp_cvI4 {y : MethodName} {bc : ByteArray} {nL : Nat} {rty : Option FieldType} {d' idx ci r : Nat} {a1 a2 a3 a4 : MV} {Q' : Int → Sto → Prop} (hd : decode cc pc = .ok (.invokevirtual idx, 3)) (hl : MVk own idx y bc nL rty 4 ci) (hM : CtI y bc nL rty d' [mR r, a1, a2, a3, a4] σ Q') (hdep : d' + 1 ≤ d) (hr : oOk r ci = true) (hcat : catS st ≤ 8) (k : ∀ z σ', Q' z σ' → Wp cc own rt d (pc + 3) loc (mI z :: st) σ' Q) : Wp cc own rt d pc loc (a4 :: a3 :: a2 :: a1 :: mR r :: st) σ Q :=
  wp_cv (as := [a1, a2, a3, a4]) hd hl hM hdep hr rfl rfl hcat (fun v σ' h => by obtain ⟨z, rfl, h⟩ := h; exact k z σ' h)
theorem wp_csI4 {y : MethodName} {bc : ByteArray} {nL : Nat} {rty : Option FieldType} {d' idx : Nat} {a1 a2 a3 a4 : MV} {Q' : Int → Sto → Prop} (hd : decode cc pc = .ok (.invokestatic idx, 3)) (hl : MSk own idx y bc nL rty 4) (hM : CtI y bc nL rty d' [a1, a2, a3, a4] σ Q') (hdep : d' + 1 ≤ d) (hcat : catS st ≤ 8) (k : ∀ z σ', Q' z σ' → Wp cc own rt d (pc + 3) loc (mI z :: st) σ' Q) : Wp cc own rt d pc loc (a4 :: a3 :: a2 :: a1 :: st) σ Q :=
  wp_cs (as := [a1, a2, a3, a4]) hd hl hM hdep rfl rfl hcat (fun v σ' h => by obtain ⟨z, rfl, h⟩ := h; exact k z σ' h)
theorem wp_cvI5 {y : MethodName} {bc : ByteArray} {nL : Nat} {rty : Option FieldType} {d' idx ci r : Nat} {a1 a2 a3 a4 a5 : MV} {Q' : Int → Sto → Prop} (hd : decode cc pc = .ok (.invokevirtual idx, 3)) (hl : MVk own idx y bc nL rty 5 ci) (hM : CtI y bc nL rty d' [mR r, a1, a2, a3, a4, a5] σ Q') (hdep : d' + 1 ≤ d) (hr : oOk r ci = true) (hcat : catS st ≤ 8) (k : ∀ z σ', Q' z σ' → Wp cc own rt d (pc + 3) loc (mI z :: st) σ' Q) : Wp cc own rt d pc loc (a5 :: a4 :: a3 :: a2 :: a1 :: mR r :: st) σ Q :=
  wp_cv (as := [a1, a2, a3, a4, a5]) hd hl hM hdep hr rfl rfl hcat (fun v σ' h => by obtain ⟨z, rfl, h⟩ := h; exact k z σ' h)
theorem wp_csI5 {y : MethodName} {bc : ByteArray} {nL : Nat} {rty : Option FieldType} {d' idx : Nat} {a1 a2 a3 a4 a5 : MV} {Q' : Int → Sto → Prop} (hd : decode cc pc = .ok (.invokestatic idx, 3)) (hl : MSk own idx y bc nL rty 5) (hM : CtI y bc nL rty d' [a1, a2, a3, a4, a5] σ Q') (hdep : d' + 1 ≤ d) (hcat : catS st ≤ 8) (k : ∀ z σ', Q' z σ' → Wp cc own rt d (pc + 3) loc (mI z :: st) σ' Q) : Wp cc own rt d pc loc (a5 :: a4 :: a3 :: a2 :: a1 :: st) σ Q :=
  wp_cs (as := [a1, a2, a3, a4, a5]) hd hl hM hdep rfl rfl hcat (fun v σ' h => by obtain ⟨z, rfl, h⟩ := h; exact k z σ' h)
theorem wp_cvI6 {y : MethodName} {bc : ByteArray} {nL : Nat} {rty : Option FieldType} {d' idx ci r : Nat} {a1 a2 a3 a4 a5 a6 : MV} {Q' : Int → Sto → Prop} (hd : decode cc pc = .ok (.invokevirtual idx, 3)) (hl : MVk own idx y bc nL rty 6 ci) (hM : CtI y bc nL rty d' [mR r, a1, a2, a3, a4, a5, a6] σ Q') (hdep : d' + 1 ≤ d) (hr : oOk r ci = true) (hcat : catS st ≤ 8) (k : ∀ z σ', Q' z σ' → Wp cc own rt d (pc + 3) loc (mI z :: st) σ' Q) : Wp cc own rt d pc loc (a6 :: a5 :: a4 :: a3 :: a2 :: a1 :: mR r :: st) σ Q :=
  wp_cv (as := [a1, a2, a3, a4, a5, a6]) hd hl hM hdep hr rfl rfl hcat (fun v σ' h => by obtain ⟨z, rfl, h⟩ := h; exact k z σ' h)
theorem wp_csI6 {y : MethodName} {bc : ByteArray} {nL : Nat} {rty : Option FieldType} {d' idx : Nat} {a1 a2 a3 a4 a5 a6 : MV} {Q' : Int → Sto → Prop} (hd : decode cc pc = .ok (.invokestatic idx, 3)) (hl : MSk own idx y bc nL rty 6) (hM : CtI y bc nL rty d' [a1, a2, a3, a4, a5, a6] σ Q') (hdep : d' + 1 ≤ d) (hcat : catS st ≤ 8) (k : ∀ z σ', Q' z σ' → Wp cc own rt d (pc + 3) loc (mI z :: st) σ' Q) : Wp cc own rt d pc loc (a6 :: a5 :: a4 :: a3 :: a2 :: a1 :: st) σ Q :=
  wp_cs (as := [a1, a2, a3, a4, a5, a6]) hd hl hM hdep rfl rfl hcat (fun v σ' h => by obtain ⟨z, rfl, h⟩ := h; exact k z σ' h)
theorem wp_cvV0 {y : MethodName} {bc : ByteArray} {nL : Nat} {rty : Option FieldType} {d' idx ci r : Nat} {Q' : Sto → Prop} (hd : decode cc pc = .ok (.invokevirtual idx, 3)) (hl : MVk own idx y bc nL rty 0 ci) (hM : CtV y bc nL rty d' [mR r] σ Q') (hdep : d' + 1 ≤ d) (hr : oOk r ci = true) (hcat : catS st ≤ 8) (k : ∀ σ', Q' σ' → Wp cc own rt d (pc + 3) loc (st) σ' Q) : Wp cc own rt d pc loc (mR r :: st) σ Q :=
  wp_cv (as := []) hd hl hM hdep hr rfl rfl hcat (fun v σ' h => by obtain ⟨rfl, h⟩ := h; exact k σ' h)
theorem wp_cvV1 {y : MethodName} {bc : ByteArray} {nL : Nat} {rty : Option FieldType} {d' idx ci r : Nat} {a1 : MV} {Q' : Sto → Prop} (hd : decode cc pc = .ok (.invokevirtual idx, 3)) (hl : MVk own idx y bc nL rty 1 ci) (hM : CtV y bc nL rty d' [mR r, a1] σ Q') (hdep : d' + 1 ≤ d) (hr : oOk r ci = true) (hcat : catS st ≤ 8) (k : ∀ σ', Q' σ' → Wp cc own rt d (pc + 3) loc (st) σ' Q) : Wp cc own rt d pc loc (a1 :: mR r :: st) σ Q :=
  wp_cv (as := [a1]) hd hl hM hdep hr rfl rfl hcat (fun v σ' h => by obtain ⟨rfl, h⟩ := h; exact k σ' h)
theorem wp_csV1 {y : MethodName} {bc : ByteArray} {nL : Nat} {rty : Option FieldType} {d' idx : Nat} {a1 : MV} {Q' : Sto → Prop} (hd : decode cc pc = .ok (.invokestatic idx, 3)) (hl : MSk own idx y bc nL rty 1) (hM : CtV y bc nL rty d' [a1] σ Q') (hdep : d' + 1 ≤ d) (hcat : catS st ≤ 8) (k : ∀ σ', Q' σ' → Wp cc own rt d (pc + 3) loc (st) σ' Q) : Wp cc own rt d pc loc (a1 :: st) σ Q :=
  wp_cs (as := [a1]) hd hl hM hdep rfl rfl hcat (fun v σ' h => by obtain ⟨rfl, h⟩ := h; exact k σ' h)
theorem wp_cvV2 {y : MethodName} {bc : ByteArray} {nL : Nat} {rty : Option FieldType} {d' idx ci r : Nat} {a1 a2 : MV} {Q' : Sto → Prop} (hd : decode cc pc = .ok (.invokevirtual idx, 3)) (hl : MVk own idx y bc nL rty 2 ci) (hM : CtV y bc nL rty d' [mR r, a1, a2] σ Q') (hdep : d' + 1 ≤ d) (hr : oOk r ci = true) (hcat : catS st ≤ 8) (k : ∀ σ', Q' σ' → Wp cc own rt d (pc + 3) loc (st) σ' Q) : Wp cc own rt d pc loc (a2 :: a1 :: mR r :: st) σ Q :=
  wp_cv (as := [a1, a2]) hd hl hM hdep hr rfl rfl hcat (fun v σ' h => by obtain ⟨rfl, h⟩ := h; exact k σ' h)
theorem wp_csV2 {y : MethodName} {bc : ByteArray} {nL : Nat} {rty : Option FieldType} {d' idx : Nat} {a1 a2 : MV} {Q' : Sto → Prop} (hd : decode cc pc = .ok (.invokestatic idx, 3)) (hl : MSk own idx y bc nL rty 2) (hM : CtV y bc nL rty d' [a1, a2] σ Q') (hdep : d' + 1 ≤ d) (hcat : catS st ≤ 8) (k : ∀ σ', Q' σ' → Wp cc own rt d (pc + 3) loc (st) σ' Q) : Wp cc own rt d pc loc (a2 :: a1 :: st) σ Q :=
  wp_cs (as := [a1, a2]) hd hl hM hdep rfl rfl hcat (fun v σ' h => by obtain ⟨rfl, h⟩ := h; exact k σ' h)
theorem wp_cvV3 {y : MethodName} {bc : ByteArray} {nL : Nat} {rty : Option FieldType} {d' idx ci r : Nat} {a1 a2 a3 : MV} {Q' : Sto → Prop} (hd : decode cc pc = .ok (.invokevirtual idx, 3)) (hl : MVk own idx y bc nL rty 3 ci) (hM : CtV y bc nL rty d' [mR r, a1, a2, a3] σ Q') (hdep : d' + 1 ≤ d) (hr : oOk r ci = true) (hcat : catS st ≤ 8) (k : ∀ σ', Q' σ' → Wp cc own rt d (pc + 3) loc (st) σ' Q) : Wp cc own rt d pc loc (a3 :: a2 :: a1 :: mR r :: st) σ Q :=
  wp_cv (as := [a1, a2, a3]) hd hl hM hdep hr rfl rfl hcat (fun v σ' h => by obtain ⟨rfl, h⟩ := h; exact k σ' h)
theorem wp_csV3 {y : MethodName} {bc : ByteArray} {nL : Nat} {rty : Option FieldType} {d' idx : Nat} {a1 a2 a3 : MV} {Q' : Sto → Prop} (hd : decode cc pc = .ok (.invokestatic idx, 3)) (hl : MSk own idx y bc nL rty 3) (hM : CtV y bc nL rty d' [a1, a2, a3] σ Q') (hdep : d' + 1 ≤ d) (hcat : catS st ≤ 8) (k : ∀ σ', Q' σ' → Wp cc own rt d (pc + 3) loc (st) σ' Q) : Wp cc own rt d pc loc (a3 :: a2 :: a1 :: st) σ Q :=
  wp_cs (as := [a1, a2, a3]) hd hl hM hdep rfl rfl hcat (fun v σ' h => by obtain ⟨rfl, h⟩ := h; exact k σ' h)
theorem wp_cvV4 {y : MethodName} {bc : ByteArray} {nL : Nat} {rty : Option FieldType} {d' idx ci r : Nat} {a1 a2 a3 a4 : MV} {Q' : Sto → Prop} (hd : decode cc pc = .ok (.invokevirtual idx, 3)) (hl : MVk own idx y bc nL rty 4 ci) (hM : CtV y bc nL rty d' [mR r, a1, a2, a3, a4] σ Q') (hdep : d' + 1 ≤ d) (hr : oOk r ci = true) (hcat : catS st ≤ 8) (k : ∀ σ', Q' σ' → Wp cc own rt d (pc + 3) loc (st) σ' Q) : Wp cc own rt d pc loc (a4 :: a3 :: a2 :: a1 :: mR r :: st) σ Q :=
  wp_cv (as := [a1, a2, a3, a4]) hd hl hM hdep hr rfl rfl hcat (fun v σ' h => by obtain ⟨rfl, h⟩ := h; exact k σ' h)
theorem wp_csV4 {y : MethodName} {bc : ByteArray} {nL : Nat} {rty : Option FieldType} {d' idx : Nat} {a1 a2 a3 a4 : MV} {Q' : Sto → Prop} (hd : decode cc pc = .ok (.invokestatic idx, 3)) (hl : MSk own idx y bc nL rty 4) (hM : CtV y bc nL rty d' [a1, a2, a3, a4] σ Q') (hdep : d' + 1 ≤ d) (hcat : catS st ≤ 8) (k : ∀ σ', Q' σ' → Wp cc own rt d (pc + 3) loc (st) σ' Q) : Wp cc own rt d pc loc (a4 :: a3 :: a2 :: a1 :: st) σ Q :=
  wp_cs (as := [a1, a2, a3, a4]) hd hl hM hdep rfl rfl hcat (fun v σ' h => by obtain ⟨rfl, h⟩ := h; exact k σ' h)
theorem wp_cvV5 {y : MethodName} {bc : ByteArray} {nL : Nat} {rty : Option FieldType} {d' idx ci r : Nat} {a1 a2 a3 a4 a5 : MV} {Q' : Sto → Prop} (hd : decode cc pc = .ok (.invokevirtual idx, 3)) (hl : MVk own idx y bc nL rty 5 ci) (hM : CtV y bc nL rty d' [mR r, a1, a2, a3, a4, a5] σ Q') (hdep : d' + 1 ≤ d) (hr : oOk r ci = true) (hcat : catS st ≤ 8) (k : ∀ σ', Q' σ' → Wp cc own rt d (pc + 3) loc (st) σ' Q) : Wp cc own rt d pc loc (a5 :: a4 :: a3 :: a2 :: a1 :: mR r :: st) σ Q :=
  wp_cv (as := [a1, a2, a3, a4, a5]) hd hl hM hdep hr rfl rfl hcat (fun v σ' h => by obtain ⟨rfl, h⟩ := h; exact k σ' h)
theorem wp_csV5 {y : MethodName} {bc : ByteArray} {nL : Nat} {rty : Option FieldType} {d' idx : Nat} {a1 a2 a3 a4 a5 : MV} {Q' : Sto → Prop} (hd : decode cc pc = .ok (.invokestatic idx, 3)) (hl : MSk own idx y bc nL rty 5) (hM : CtV y bc nL rty d' [a1, a2, a3, a4, a5] σ Q') (hdep : d' + 1 ≤ d) (hcat : catS st ≤ 8) (k : ∀ σ', Q' σ' → Wp cc own rt d (pc + 3) loc (st) σ' Q) : Wp cc own rt d pc loc (a5 :: a4 :: a3 :: a2 :: a1 :: st) σ Q :=
  wp_cs (as := [a1, a2, a3, a4, a5]) hd hl hM hdep rfl rfl hcat (fun v σ' h => by obtain ⟨rfl, h⟩ := h; exact k σ' h)
theorem wp_cvV6 {y : MethodName} {bc : ByteArray} {nL : Nat} {rty : Option FieldType} {d' idx ci r : Nat} {a1 a2 a3 a4 a5 a6 : MV} {Q' : Sto → Prop} (hd : decode cc pc = .ok (.invokevirtual idx, 3)) (hl : MVk own idx y bc nL rty 6 ci) (hM : CtV y bc nL rty d' [mR r, a1, a2, a3, a4, a5, a6] σ Q') (hdep : d' + 1 ≤ d) (hr : oOk r ci = true) (hcat : catS st ≤ 8) (k : ∀ σ', Q' σ' → Wp cc own rt d (pc + 3) loc (st) σ' Q) : Wp cc own rt d pc loc (a6 :: a5 :: a4 :: a3 :: a2 :: a1 :: mR r :: st) σ Q :=
  wp_cv (as := [a1, a2, a3, a4, a5, a6]) hd hl hM hdep hr rfl rfl hcat (fun v σ' h => by obtain ⟨rfl, h⟩ := h; exact k σ' h)
theorem wp_csV6 {y : MethodName} {bc : ByteArray} {nL : Nat} {rty : Option FieldType} {d' idx : Nat} {a1 a2 a3 a4 a5 a6 : MV} {Q' : Sto → Prop} (hd : decode cc pc = .ok (.invokestatic idx, 3)) (hl : MSk own idx y bc nL rty 6) (hM : CtV y bc nL rty d' [a1, a2, a3, a4, a5, a6] σ Q') (hdep : d' + 1 ≤ d) (hcat : catS st ≤ 8) (k : ∀ σ', Q' σ' → Wp cc own rt d (pc + 3) loc (st) σ' Q) : Wp cc own rt d pc loc (a6 :: a5 :: a4 :: a3 :: a2 :: a1 :: st) σ Q :=
  wp_cs (as := [a1, a2, a3, a4, a5, a6]) hd hl hM hdep rfl rfl hcat (fun v σ' h => by obtain ⟨rfl, h⟩ := h; exact k σ' h)
theorem wp_cvR0 {y : MethodName} {bc : ByteArray} {nL : Nat} {rty : Option FieldType} {d' idx ci r : Nat} {Q' : Nat → Sto → Prop} (hd : decode cc pc = .ok (.invokevirtual idx, 3)) (hl : MVk own idx y bc nL rty 0 ci) (hM : CtR y bc nL rty d' [mR r] σ Q') (hdep : d' + 1 ≤ d) (hr : oOk r ci = true) (hcat : catS st ≤ 8) (k : ∀ z σ', Q' z σ' → Wp cc own rt d (pc + 3) loc (mR z :: st) σ' Q) : Wp cc own rt d pc loc (mR r :: st) σ Q :=
  wp_cv (as := []) hd hl hM hdep hr rfl rfl hcat (fun v σ' h => by obtain ⟨z, rfl, h⟩ := h; exact k z σ' h)
theorem wp_cvR1 {y : MethodName} {bc : ByteArray} {nL : Nat} {rty : Option FieldType} {d' idx ci r : Nat} {a1 : MV} {Q' : Nat → Sto → Prop} (hd : decode cc pc = .ok (.invokevirtual idx, 3)) (hl : MVk own idx y bc nL rty 1 ci) (hM : CtR y bc nL rty d' [mR r, a1] σ Q') (hdep : d' + 1 ≤ d) (hr : oOk r ci = true) (hcat : catS st ≤ 8) (k : ∀ z σ', Q' z σ' → Wp cc own rt d (pc + 3) loc (mR z :: st) σ' Q) : Wp cc own rt d pc loc (a1 :: mR r :: st) σ Q :=
  wp_cv (as := [a1]) hd hl hM hdep hr rfl rfl hcat (fun v σ' h => by obtain ⟨z, rfl, h⟩ := h; exact k z σ' h)
theorem wp_cvR2 {y : MethodName} {bc : ByteArray} {nL : Nat} {rty : Option FieldType} {d' idx ci r : Nat} {a1 a2 : MV} {Q' : Nat → Sto → Prop} (hd : decode cc pc = .ok (.invokevirtual idx, 3)) (hl : MVk own idx y bc nL rty 2 ci) (hM : CtR y bc nL rty d' [mR r, a1, a2] σ Q') (hdep : d' + 1 ≤ d) (hr : oOk r ci = true) (hcat : catS st ≤ 8) (k : ∀ z σ', Q' z σ' → Wp cc own rt d (pc + 3) loc (mR z :: st) σ' Q) : Wp cc own rt d pc loc (a2 :: a1 :: mR r :: st) σ Q :=
  wp_cv (as := [a1, a2]) hd hl hM hdep hr rfl rfl hcat (fun v σ' h => by obtain ⟨z, rfl, h⟩ := h; exact k z σ' h)
theorem wp_cvR3 {y : MethodName} {bc : ByteArray} {nL : Nat} {rty : Option FieldType} {d' idx ci r : Nat} {a1 a2 a3 : MV} {Q' : Nat → Sto → Prop} (hd : decode cc pc = .ok (.invokevirtual idx, 3)) (hl : MVk own idx y bc nL rty 3 ci) (hM : CtR y bc nL rty d' [mR r, a1, a2, a3] σ Q') (hdep : d' + 1 ≤ d) (hr : oOk r ci = true) (hcat : catS st ≤ 8) (k : ∀ z σ', Q' z σ' → Wp cc own rt d (pc + 3) loc (mR z :: st) σ' Q) : Wp cc own rt d pc loc (a3 :: a2 :: a1 :: mR r :: st) σ Q :=
  wp_cv (as := [a1, a2, a3]) hd hl hM hdep hr rfl rfl hcat (fun v σ' h => by obtain ⟨z, rfl, h⟩ := h; exact k z σ' h)
theorem wp_cvR4 {y : MethodName} {bc : ByteArray} {nL : Nat} {rty : Option FieldType} {d' idx ci r : Nat} {a1 a2 a3 a4 : MV} {Q' : Nat → Sto → Prop} (hd : decode cc pc = .ok (.invokevirtual idx, 3)) (hl : MVk own idx y bc nL rty 4 ci) (hM : CtR y bc nL rty d' [mR r, a1, a2, a3, a4] σ Q') (hdep : d' + 1 ≤ d) (hr : oOk r ci = true) (hcat : catS st ≤ 8) (k : ∀ z σ', Q' z σ' → Wp cc own rt d (pc + 3) loc (mR z :: st) σ' Q) : Wp cc own rt d pc loc (a4 :: a3 :: a2 :: a1 :: mR r :: st) σ Q :=
  wp_cv (as := [a1, a2, a3, a4]) hd hl hM hdep hr rfl rfl hcat (fun v σ' h => by obtain ⟨z, rfl, h⟩ := h; exact k z σ' h)
theorem wp_cvR5 {y : MethodName} {bc : ByteArray} {nL : Nat} {rty : Option FieldType} {d' idx ci r : Nat} {a1 a2 a3 a4 a5 : MV} {Q' : Nat → Sto → Prop} (hd : decode cc pc = .ok (.invokevirtual idx, 3)) (hl : MVk own idx y bc nL rty 5 ci) (hM : CtR y bc nL rty d' [mR r, a1, a2, a3, a4, a5] σ Q') (hdep : d' + 1 ≤ d) (hr : oOk r ci = true) (hcat : catS st ≤ 8) (k : ∀ z σ', Q' z σ' → Wp cc own rt d (pc + 3) loc (mR z :: st) σ' Q) : Wp cc own rt d pc loc (a5 :: a4 :: a3 :: a2 :: a1 :: mR r :: st) σ Q :=
  wp_cv (as := [a1, a2, a3, a4, a5]) hd hl hM hdep hr rfl rfl hcat (fun v σ' h => by obtain ⟨z, rfl, h⟩ := h; exact k z σ' h)
theorem wp_cvR6 {y : MethodName} {bc : ByteArray} {nL : Nat} {rty : Option FieldType} {d' idx ci r : Nat} {a1 a2 a3 a4 a5 a6 : MV} {Q' : Nat → Sto → Prop} (hd : decode cc pc = .ok (.invokevirtual idx, 3)) (hl : MVk own idx y bc nL rty 6 ci) (hM : CtR y bc nL rty d' [mR r, a1, a2, a3, a4, a5, a6] σ Q') (hdep : d' + 1 ≤ d) (hr : oOk r ci = true) (hcat : catS st ≤ 8) (k : ∀ z σ', Q' z σ' → Wp cc own rt d (pc + 3) loc (mR z :: st) σ' Q) : Wp cc own rt d pc loc (a6 :: a5 :: a4 :: a3 :: a2 :: a1 :: mR r :: st) σ Q :=
  wp_cv (as := [a1, a2, a3, a4, a5, a6]) hd hl hM hdep hr rfl rfl hcat (fun v σ' h => by obtain ⟨z, rfl, h⟩ := h; exact k z σ' h)
theorem wp_tabIn {dflt lo hi : Int} {offs : Array Int} {len : Nat} {x : Int} (off : Int) (tgt : Nat) (hd : decode cc pc = .ok (.tableswitch dflt lo hi offs, len)) (h1 : lo ≤ x) (h2 : x ≤ hi) (ho : offs[(x - lo).toNat]? = some off) (ht : (pc : Int) + off = (tgt : Int)) (k : Wp cc own rt d tgt loc st σ Q) : Wp cc own rt d pc loc (mI x :: st) σ Q := by
  intro g p l e s m args below meth c H locs ls Cx hP hS hσ hlo hst
  have ox : okI x := hst.1
  exact lv_tableIn (tgt := tgt) (off := off) Cx.1 Cx.2.1 hd (by rw [oI_toInt ox]; omega) (by rw [oI_toInt ox]; omega) (by rw [oI_toInt ox]; exact ho) ht (k g p l e s m args below meth c H locs ls Cx hP hS hσ hlo hst.2)
theorem wp_tabOut {dflt lo hi : Int} {offs : Array Int} {len : Nat} {x : Int} (tgt : Nat) (hd : decode cc pc = .ok (.tableswitch dflt lo hi offs, len)) (h : x < lo ∨ hi < x) (ht : (pc : Int) + dflt = (tgt : Int)) (k : Wp cc own rt d tgt loc st σ Q) : Wp cc own rt d pc loc (mI x :: st) σ Q := by
  intro g p l e s m args below meth c H locs ls Cx hP hS hσ hlo hst
  have ox : okI x := hst.1
  exact lv_tableOut (tgt := tgt) Cx.1 Cx.2.1 hd (by rw [oI_toInt ox]; exact h) ht (k g p l e s m args below meth c H locs ls Cx hP hS hσ hlo hst.2)
theorem wp_look {dflt : Int} {ps : Array (Int × Int)} {len : Nat} {x : Int} (off : Int) (tgt : Nat) (hd : decode cc pc = .ok (.lookupswitch dflt ps, len)) (hp : (ps.toList.zip (ps.toList.drop 1)).all (fun (a, next) => a.1 < next.1) = true) (ho : Op.lookupswitch.offset ps.toList dflt x = off) (ht : (pc : Int) + off = (tgt : Int)) (k : Wp cc own rt d tgt loc st σ Q) : Wp cc own rt d pc loc (mI x :: st) σ Q := by
  intro g p l e s m args below meth c H locs ls Cx hP hS hσ hlo hst
  have ox : okI x := hst.1
  exact lv_lookup (tgt := tgt) (off := off) Cx.1 Cx.2.1 hd hp (by rw [oI_toInt ox]; exact ho) ht (k g p l e s m args below meth c H locs ls Cx hP hS hσ hlo hst.2)
/-- what a proof may know of every number: its bound -/
theorem wp_ok {stk : List MV} (k : okS σ → Wp cc own rt d pc loc stk σ Q) : Wp cc own rt d pc loc stk σ Q := by
  intro g p l e s m args below meth c H locs ls Cx hP hS hσ hlo hst
  exact k hσ g p l e s m args below meth c H locs ls Cx hP hS hσ hlo hst
theorem wp_okl {stk : List MV} (k : (∀ v, some v ∈ loc → okv v) → Wp cc own rt d pc loc stk σ Q) : Wp cc own rt d pc loc stk σ Q := by
  intro g p l e s m args below meth c H locs ls Cx hP hS hσ hlo hst
  exact k hlo.2 g p l e s m args below meth c H locs ls Cx hP hS hσ hlo hst
theorem wp_okt {stk : List MV} (k : oks stk → Wp cc own rt d pc loc stk σ Q) : Wp cc own rt d pc loc stk σ Q := by
  intro g p l e s m args below meth c H locs ls Cx hP hS hσ hlo hst
  exact k hst g p l e s m args below meth c H locs ls Cx hP hS hσ hlo hst
theorem wp_top {z : Int} (k : ∀ y, y = z → Wp cc own rt d pc loc (mI y :: st) σ Q) : Wp cc own rt d pc loc (mI z :: st) σ Q := k z rfl
theorem wp_sto (k : ∀ σ', σ' = σ → Wp cc own rt d pc loc st σ' Q) : Wp cc own rt d pc loc st σ Q := k σ rfl
end CALL
