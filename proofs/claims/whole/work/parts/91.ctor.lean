/-! THE CONSTRUCTORS: worlds are lists, the own object first -/
abbrev az (cA : ClassId) (n : Nat) : va_E := .inl (cA, n, .inl (fun _ => 0))
abbrev KG : Type := va_G × ClassId × ClassId × ClassId × Nat × Nat
abbrev kD (k : KG) : va_G := k.1
abbrev kI (k : KG) : ClassId := k.2.1
abbrev kB (k : KG) : ClassId := k.2.2.1
abbrev kZ (k : KG) : ClassId := k.2.2.2.1
abbrev kt (k : KG) : Nat := k.2.2.2.2.1
abbrev kz (k : KG) : Nat := k.2.2.2.2.2
abbrev ty3 (k : KG) : List (ClassId × FieldType) := [(kI k, .int), (kB k, .byte), (kZ k, .boolean)]
abbrev kA (k : KG) : Nat → Prop := fun q => kz k ≤ q
abbrev stF : Nat → Int32 := fun j => Int32.ofInt (stV 2 (j : Int))
def Sx (k : KG) (H : Heap) : Prop := ∃ cell : Cell, H[kt k]? = some cell ∧ cell.cls = kI k ∧ (∀ j, cell.vm ≠ .statics j) ∧ cell.vm ≠ .unknown ∧ cell.slots = (vp_cell (kI k) (6, .inl stF)).slots ∧ ¬ kA k (kt k)
def FyK (k : KG) (U : State) (H : Heap) : Prop :=
  (∀ w ∈ lw_tbl, isNF w = true → va_Nw w U) ∧ (∀ w ∈ lw_tbl, isNM w = true → va_Nw w U) ∧ va_Z RX6 (stN 2) "[I" (.ref (kt k)) (kA k) U H ∧ va_Nw (.castable "[I" "java/lang/Cloneable") U ∧ Sx k H
set_option maxHeartbeats 4000000 in
set_option maxRecDepth 100000 in
theorem FyK_moved {k : KG} {s U : State} {H : Heap} (hW : s.WarmedH U.vm) (hk : ∀ a : Nat, a < s.heap.size → ¬ kA k a → H[a]? = s.heap[a]?) (h : FyK k s s.heap) : FyK k U H := by
  obtain ⟨h1, h2, h3, hc, cell, h4, h5⟩ := h
  refine ⟨fun w hw hn => ?_, fun w hw hn => ?_, (h3.moved hW.alike).kept hk, va_Nw.warmC hW hc, cell, ?_, h5⟩
  · cases w <;> first | exact absurd hn (by decide) | exact va_Nw.warmF hW (h1 _ hw hn) | (exfalso; simp [isNF] at hn)
  · cases w <;> first | exact absurd hn (by decide) | exact va_Nw.warmM hW (h2 _ hw hn) | (exfalso; simp [isNM] at hn)
  · rw [hk _ (Array.getElem?_eq_some_iff.mp h4).1 h5.2.2.2.2]; exact h4
set_option maxHeartbeats 4000000 in
set_option maxRecDepth 100000 in
theorem FyK_same {k : KG} {u U : State} {H : Heap} (hv : U.vm = u.vm) (h : FyK k u H) : FyK k U H := by
  obtain ⟨h1, h2, h3, hc, h4⟩ := h
  have ha : u.vm.Alike U.vm := by rw [hv]; exact Vm.Alike.refl _
  refine ⟨fun w hw hn => ?_, fun w hw hn => ?_, h3.moved ha, va_Nw.same rfl hv.symm hc, h4⟩
  · cases w <;> first | exact va_Nw.same rfl hv.symm (h1 _ hw hn) | (exfalso; simp [isNF] at hn)
  · cases w <;> first | exact va_Nw.same rfl hv.symm (h2 _ hw hn) | (exfalso; simp [isNM] at hn)
def CxK (k : KG) (A : Nat → Prop) (cc : ByteArray) (own : String) (nL : Nat) (p : Program) (s : State) (m : MethodId) (args : Array Value) (c : Code) : Prop :=
  p.tables.exec = Jvm.exec ∧ c.code = cc ∧ c.maxLocals = nL ∧ s.vm.findClass own = some m.cls ∧ (∀ w ∈ gtb, w.before args s = true) ∧ va_K (kD k) vwCl (ty3 k) s ∧ FyK k s s.heap ∧ (∀ q, s.heap.size ≤ q → A q) ∧ (∀ q, A q → kz k ≤ q)
def KW (k : KG) (A : Nat → Prop) (s : State) (ws : va_W) (H : Heap) (locs : List Loc) : Prop := va_P (kD k) vwCl ws H ∧ va_D A ws ∧ va_S A s.heap H locs
def KPre (k : KG) (h0 : Nat) (e0 : va_E) (sz : Nat) (U : State) : Prop := U.heap.size = sz ∧ kz k ≤ h0 ∧ kz k ≤ sz ∧ va_P (kD k) vwCl [(h0, e0)] U.heap ∧ va_K (kD k) vwCl (ty3 k) U ∧ FyK k U U.heap
def CtK (y : MethodName) (cc : ByteArray) (nL : Nat) (R : Room) (k : KG) (as : List Value) (h0 : Nat) (e0 : va_E) (Q : va_W → Prop) : Prop :=
  ∀ (l : Launch) (sz : Nat), Met l y (.code y cc nL none :: gtb) R (va_Pc (.ref h0 :: as) (KPre k h0 e0 sz)) (va_Qv Q (fun ws' t => va_P (kD k) vwCl ws' t.heap ∧ va_D (va_A [(h0, e0)] sz) ws') (va_A [(h0, e0)] sz)) R.cells R.slots (va_A [(h0, e0)] sz)
set_option maxHeartbeats 4000000 in
set_option maxRecDepth 100000 in
theorem kp_app {D : va_G} {cl : List vw_C} {a b : va_W} {H : Heap} : va_P D cl (a ++ b) H ↔ va_P D cl a H ∧ va_P D cl b H := by
  constructor
  · intro h
    refine ⟨fun i q hq => h i q ?_, fun i q hq => h (a.length + i) q ?_⟩
    · rw [List.getElem?_append_left (List.getElem?_eq_some_iff.mp hq).1]; exact hq
    · rw [List.getElem?_append_right (by omega), Nat.add_sub_cancel_left]; exact hq
  · intro h; exact h.1.app h.2
set_option maxHeartbeats 4000000 in
set_option maxRecDepth 100000 in
theorem kd_nd {A : Nat → Prop} {ws : va_W} : va_D A ws ↔ (ws.map Prod.fst).Nodup ∧ ∀ q ∈ ws, A q.1 := by
  constructor
  · intro h
    refine ⟨?_, fun q hq => ?_⟩
    · refine List.pairwise_iff_getElem.mpr (fun i j hi hj hij he => ?_)
      rw [List.length_map] at hi hj
      rw [List.getElem_map, List.getElem_map] at he
      have := h.1 i j _ _ (List.getElem?_eq_getElem hi) (List.getElem?_eq_getElem hj) he
      omega
    · obtain ⟨i, hi⟩ := List.mem_iff_getElem?.mp hq
      exact h.2 i q hi
  · intro h
    refine ⟨fun i j p q hp hq e => ?_, fun i q hq => h.2 q (List.mem_of_getElem? hq)⟩
    have hi := (List.getElem?_eq_some_iff.mp hp).1
    have hj := (List.getElem?_eq_some_iff.mp hq).1
    have h1 := List.pairwise_iff_getElem.mp h.1
    have ep : ws[i] = p := Option.some.inj ((List.getElem?_eq_getElem hi).symm.trans hp)
    have eq : ws[j] = q := Option.some.inj ((List.getElem?_eq_getElem hj).symm.trans hq)
    by_cases hl : i < j
    · exact absurd (by rw [List.getElem_map, List.getElem_map, ep, eq]; exact e) (h1 i j (by rw [List.length_map]; exact hi) (by rw [List.length_map]; exact hj) hl)
    · by_cases hg : j < i
      · exact absurd (by rw [List.getElem_map, List.getElem_map, ep, eq]; exact e.symm) (h1 j i (by rw [List.length_map]; exact hj) (by rw [List.length_map]; exact hi) hg)
      · omega
set_option maxHeartbeats 4000000 in
set_option maxRecDepth 100000 in
theorem k_join {D : va_G} {cl : List vw_C} {A0 : Nat → Prop} {ws w1 : va_W} {q : Nat} {e0 : va_E} {H H1 : Heap} (hP : va_P D cl (ws ++ [(q, e0)]) H) (hD : va_D A0 (ws ++ [(q, e0)])) (hk : ∀ a : Nat, a < H.size → ¬ va_A [(q, e0)] H.size a → H1[a]? = H[a]?) (hF : ∀ a, va_A [(q, e0)] H.size a → A0 a) (hP1 : va_P D cl w1 H1) (hD1 : va_D (va_A [(q, e0)] H.size) w1) : va_P D cl (ws ++ w1) H1 ∧ va_D A0 (ws ++ w1) := by
  obtain ⟨hPa, -⟩ := kp_app.mp hP
  have hn := kd_nd.mp hD
  rw [List.map_append, List.nodup_append] at hn
  have hout : ∀ (i : Nat) (y : Nat × va_E), ws[i]? = some y → ¬ va_A [(q, e0)] H.size y.1 := by
    intro i y hy hc
    have hm : y ∈ ws := List.mem_of_getElem? hy
    rcases hc with ⟨j, e, hj⟩ | hc
    · have hj0 : j = 0 := by
        have := (List.getElem?_eq_some_iff.mp hj).1
        simpa using this
      subst hj0
      have e1 : q = y.1 := by
        have := Option.some.inj hj
        exact (Prod.mk.inj this).1
      exact hn.1.2.2 y.1 (List.mem_map.mpr ⟨y, hm, rfl⟩) q (by simp) e1.symm
    · have := (hPa i y hy).lt
      omega
  refine ⟨kp_app.mpr ⟨hPa.kept (fun i y hy => hk _ (hPa i y hy).lt (hout i y hy)), hP1⟩, kd_nd.mpr ⟨?_, fun y hy => ?_⟩⟩
  · rw [List.map_append, List.nodup_append]
    refine ⟨hn.1.1, (kd_nd.mp hD1).1, fun a ha b hb e => ?_⟩
    obtain ⟨y, hy, rfl⟩ := List.mem_map.mp ha
    obtain ⟨z, hz, rfl⟩ := List.mem_map.mp hb
    obtain ⟨i, hi⟩ := List.mem_iff_getElem?.mp hy
    have := (kd_nd.mp hD1).2 z hz
    rw [← e] at this
    exact hout i y hi this
  · rcases List.mem_append.mp hy with h | h
    · exact hn.2 y (List.mem_append_left _ h)
    · exact hF _ ((kd_nd.mp hD1).2 y h)
section KROW
variable {k : KG} {A : Nat → Prop} {cc : ByteArray} {own : String} {nL : Nat} {p : Program} {l : Launch} {e : Env} {R : Room} {s : State} {m : MethodId} {args : Array Value} {below : List Frame} {meth : Method} {c : Code} {H : Heap} {locs : List Loc} {cells slots : Nat} {Q : State → Prop} {pc : Nat} {ls : Array Slot} {st : List Value} {ws pl : va_W}
set_option maxHeartbeats 4000000 in
set_option maxRecDepth 100000 in
theorem k_arrU (C : CxK k A cc own nL p s m args c) {ty : FieldType} {cA cB : ClassId} (h1 : ArrOfT s cA ty ∧ va_RA s cA ty) (h2 : va_RA s cB ty) (hp : ∀ C, ty ≠ .object C) : cA = cB := by
  have a1 := h1.2
  cases ty <;> first | exact absurd rfl (hp _) | exact Option.some.inj (Eq.trans (Eq.symm a1) h2)
set_option maxHeartbeats 4000000 in
set_option maxRecDepth 100000 in
theorem k_newa (C : CxK k A cc own nL p s m args c) (hw : KW k A s ws H locs) (t0 : Nat) {cA : ClassId} {atype : ArrayType} {ty : FieldType} (hty : newarray.typeOf atype = ty) (ht : (ty3 k)[t0]? = some (cA, ty)) (harr : Cond.arrayClass ty ∈ gtb) {n : Int32} (N : Nat) (h0 : ∀ cA : ClassId, vp_cell cA (N, .inl (fun _ => 0)) = arrV cA N (fun _ => defaultValue ty)) (hp : ∀ C, ty ≠ .object C) (hn : ¬ n < 0) (hN : n.toNatClampNeg = N) (hbytes : N * componentBytes ty ≤ 536870912) (hcells : cells + 1 ≤ R.cells) (hslots : slots + N ≤ R.slots) (hd : decode cc pc = .ok (.newarray atype, 2))
    (kk : ∀ (q : Nat) (H1 : Heap), KW k A s (ws ++ [(q, az cA N)]) H1 locs → W p l e R s m args below meth c H1 locs (cells + 1) (slots + N) Q (F0 m (pc + 2) ls (.ref q :: st))) : W p l e R s m args below meth c H locs cells slots Q (F0 m pc ls (.int n :: st)) := by
  refine va_newa (a0 := (N, .inl (fun _ => 0))) C.1 C.2.1 (by rw [hty]; exact C.2.2.2.2.1 _ harr) hty C.2.2.2.2.2.1 hw.1 hw.2.1 hw.2.2 C.2.2.2.2.2.2.2.1 h0 hn hN hbytes hcells hslots hd (fun q cA' H1 hK hP hD hS => ?_)
  have e1 : cA' = cA := by
    have a1 := (hK.2 3 (cA', ty) rfl)
    exact k_arrU C a1 (C.2.2.2.2.2.1.2 t0 _ ht).2 hp
  subst e1
  exact kk q H1 ⟨hP, hD, hS⟩
set_option maxHeartbeats 4000000 in
set_option maxRecDepth 100000 in
theorem k_put {a : Nat} {ci : Nat} {fs : List Value} (C : CxK k A cc own nL p s m args c) (hw : KW k A s ((a, .inr (ci, fs)) :: pl) H locs) {idx kf : Nat} {Cn : String} {T : u_T} {N : Nat} {ty : FieldType} {v : Value} (hl : FLk own idx ci kf Cn T N) (h7 : Cond.fieldLink own idx Cn (T kf).2.1 (T kf).2.2.1 ∈ gtb) (hin : meth.name = "<init>") (hdecl : (T kf).2.2.2 = true → (T kf).1 = own) (hd0 : parseFieldDescriptor (T kf).2.2.1 = some ty) (hn : narrow ty v = v) (hfit : fits ty v = true) (hlen : kf < fs.length) (hd : decode cc pc = .ok (.putfield idx, 3))
    (kk : ∀ (H1 : Heap) (locs1 : List Loc), KW k A s ((a, .inr (ci, fs.set kf v)) :: pl) H1 locs1 → W p l e R s m args below meth c H1 locs1 cells slots Q (F0 m (pc + 3) ls st)) : W p l e R s m args below meth c H locs cells slots Q (F0 m pc ls (v :: .ref a :: st)) := by
  obtain ⟨c1, c2, c3, c4, c5, c6, c7, c8, c9⟩ := C
  obtain ⟨⟨h1, h2, ⟨ty0, h3⟩, h4⟩, h5, h6, -⟩ := hl
  have fin : ∀ (H1 : Heap) (locs1 : List Loc), va_P (kD k) vwCl (((a, .inr (ci, fs)) :: pl).set 0 (a, .inr (ci, fs.set kf v))) H1 → va_D A (((a, .inr (ci, fs)) :: pl).set 0 (a, .inr (ci, fs.set kf v))) → va_S A s.heap H1 locs1 → W p l e R s m args below meth c H1 locs1 cells slots Q (F0 m (pc + 3) ls st) := fun H1 locs1 q1 q2 q3 => kk H1 locs1 ⟨q1, q2, q3⟩
  cases hf : (T kf).2.2.2 with
  | true => exact va_putF (ref := Cn) (C := Cn) (T := T) (N := N) c1 c2 c5 h2 ty0 h3 h4 c4 c6 hw.1 hw.2.1 hw.2.2 0 rfl h1 kf h5 (c5 _ h7) (fun x hx => by rw [h6] at hx; exact hx) hf hin (hdecl hf) hd0 hn hfit hlen hd fin
  | false => exact va_put (ref := Cn) (C := Cn) (T := T) (N := N) c1 c2 c5 h2 ty0 h3 h4 c4 c6 hw.1 hw.2.1 hw.2.2 0 rfl h1 kf h5 (c5 _ h7) (fun x hx => by rw [h6] at hx; exact hx) hf hd0 hn hfit hlen hd fin
set_option maxHeartbeats 4000000 in
set_option maxRecDepth 100000 in
theorem k_get {a : Nat} {ci : Nat} {fs : List Value} (C : CxK k A cc own nL p s m args c) (hw : KW k A s ((a, .inr (ci, fs)) :: pl) H locs) {idx kf : Nat} {Cn : String} {T : u_T} {N : Nat} {v : Value} (hl : FLk own idx ci kf Cn T N) (hv : fs[kf]? = some v) (hd : decode cc pc = .ok (.getfield idx, 3))
    (kk : W p l e R s m args below meth c H locs cells slots Q (F0 m (pc + 3) ls (v :: st))) : W p l e R s m args below meth c H locs cells slots Q (F0 m pc ls (.ref a :: st)) := by
  obtain ⟨c1, c2, c3, c4, c5, c6, c7, c8, c9⟩ := C
  obtain ⟨⟨h1, h2, -, -⟩, h5, h6, h7⟩ := hl
  rcases h7 with h7 | ⟨host, h7⟩
  · exact va_get (ref := Cn) (C := Cn) (T := T) (N := N) c1 c2 c5 h2 c4 c6 hw.1 0 rfl h1 kf h5 (c5 _ h7) (fun x hx => by rw [h6] at hx; exact hx) hv hd kk
  · exact va_getN (ref := Cn) (C := Cn) (T := T) (N := N) (host := host) c1 c2 c5 h2 c4 c6 hw.1 0 rfl h1 kf h5 (va_Nw.use rfl (c7.1 _ h7 rfl)) (fun x hx => by rw [h6] at hx; exact hx) hv hd kk
set_option maxHeartbeats 4000000 in
set_option maxRecDepth 100000 in
theorem k_iast (C : CxK k A cc own nL p s m args c) (hw : KW k A s ws H locs) (q0 : Nat) {a n : Nat} {f : Nat → Int32} {i x : Int32} (ha : ws[q0]? = some (a, .inl (kI k, n, .inl f))) (hi : vp_in i n) (hd : decode cc pc = .ok (.iastore, 1))
    (kk : ∀ (H1 : Heap) (locs1 : List Loc), KW k A s (ws.set q0 (a, .inl (kI k, n, .inl (upd f i.toNatClampNeg x)))) H1 locs1 → W p l e R s m args below meth c H1 locs1 cells slots Q (F0 m (pc + 1) ls st)) : W p l e R s m args below meth c H locs cells slots Q (F0 m pc ls (.int x :: .int i :: .ref a :: st)) :=
  va_iast C.1 C.2.1 C.2.2.2.2.2.1 hw.1 hw.2.1 hw.2.2 q0 0 ha rfl hi hd (fun H1 locs1 q1 q2 q3 => kk H1 locs1 ⟨q1, q2, q3⟩)
set_option maxHeartbeats 4000000 in
set_option maxRecDepth 100000 in
theorem k_new (C : CxK k A cc own nL p s m args c) (hw : KW k A s ws H locs) {idx ci : Nat} {Cn : String} {T : u_T} {N : Nat} (fs : List Value) (hc : clsOK ci Cn T N) (hcl : Cond.classLink own idx Cn ∈ gtb) (hin : Cond.instantiable Cn N ∈ gtb) (hii : Cond.initialized Cn ∈ gtb) (ty : Nat → FieldType) (hty : ∀ k, k < N → parseFieldDescriptor (T k).2.2.1 = some (ty k)) (hfs : ∀ j, j < N → defaultValue (ty j) = vp_V fs j) (hcells : cells + 1 ≤ R.cells) (hslots : slots + N ≤ R.slots) (hd : decode cc pc = .ok (.new idx, 3))
    (kk : ∀ (q : Nat) (H1 : Heap), KW k A s (ws ++ [(q, .inr (ci, fs))]) H1 locs → W p l e R s m args below meth c H1 locs (cells + 1) (slots + N) Q (F0 m (pc + 3) ls (.ref q :: st))) : W p l e R s m args below meth c H locs cells slots Q (F0 m pc ls st) := by
  obtain ⟨c1, c2, c3, c4, c5, c6, c7, c8, c9⟩ := C
  exact va_new (C := Cn) (T := T) (N := N) c1 c2 c5 hc.2.1 ty hty c4 (c5 _ hcl) (c5 _ hin) (c5 _ hii) c6 hw.1 hw.2.1 hw.2.2 c8 hc.1 hfs hcells hslots hd (fun q H1 q1 q2 q3 => kk q H1 ⟨q1, q2, q3⟩)
set_option maxHeartbeats 4000000 in
set_option maxRecDepth 100000 in
theorem k_init (C : CxK k A cc own nL p s m args c) {q : Nat} {e0 : va_E} (hw : KW k A s (ws ++ [(q, e0)]) H locs) {loc : List (Nat × Value)} (hl : lv_has ls nL loc) {y : MethodName} {bc : ByteArray} {nL' n idx : Nat} {R' : Room} {as stk : List Value} {Q' : va_W → Prop} (hM : CtK y bc nL' R' k as q e0 Q') (hb : CBk y bc nL' none n) (hi : Cond.instanceMethod y ∈ gtb) (hlk : Cond.methodLink own idx y ∈ gtb ∨ ∃ host, Cond.methodLinkNest own idx y host ∈ lw_tbl) (hy : y.name = "<init>") (hR : R'.frames + 1 ≤ R.frames ∧ 8 + (nL' + 11) + R'.locals ≤ R.locals) (hroom : cells + R'.cells ≤ R.cells ∧ slots + R'.slots ≤ R.slots) (hstk : stk = as.reverse ++ .ref q :: st) (hn : as.length = n) (hcat : (st.map fun v => v.category).sum ≤ 8) (hd : decode cc pc = .ok (.invokespecial idx, 3))
    (kk : ∀ (ws' : va_W) (H1 : Heap) (locs1 : List Loc), Q' ws' → KW k A s (ws ++ ws') H1 locs1 → W p l e R s m args below meth c H1 locs1 (cells + R'.cells) (slots + R'.slots) Q (F0 m (pc + 3) ls st)) : W p l e R s m args below meth c H locs cells slots Q (F0 m pc ls stk) := by
  obtain ⟨c1, c2, c3, c4, c5, c6, c7, c8, c9⟩ := C
  obtain ⟨i1, i2, i3, i4, i5, i6⟩ := hb
  obtain ⟨hP, hD, hS⟩ := hw
  have hq0 : (ws ++ [(q, e0)])[ws.length]? = some (q, e0) := by rw [List.getElem?_append_right (Nat.le_refl _), Nat.sub_self]; rfl
  have hFc : ∀ a, va_A [(q, e0)] H.size a → A a := va_free hD hS c8 [ws.length] (by simp)
  have hpre : PreS s H (va_Pc (.ref q :: as) (KPre k q e0 H.size)) (.ref q :: as) := by
    refine ⟨fun a U f mk h => ?_, fun U hU hW => ⟨rfl, by rw [hU], c9 _ (hFc _ (Or.inl ⟨0, e0, rfl⟩)), c9 _ (hFc _ (Or.inr (Nat.le_refl _))), ?_, va_K.moved hW.alike c6, FyK_moved hW (fun a ha hna => ?_) c7⟩⟩
    · obtain ⟨h1, h2, h3, h4, h5, h6, h7⟩ := h
      exact ⟨h1, h2, h3, h4, h5, va_K.moved (u := U) (U := U.calling f mk a) (Vm.Alike.refl U.vm) h6, FyK_same (u := U) (U := U.calling f mk a) rfl h7⟩
    · rw [hU]; exact (kp_app.mp hP).2
    · rw [hU]; exact hS.2.1 a ha (fun z => hna (c9 _ z))
  have fin : va_Run p l e R s m args below meth c H locs cells slots R'.cells R'.slots (F0 m pc ls stk) st (va_Qv Q' (fun ws' t => va_P (kD k) vwCl ws' t.heap ∧ va_D (va_A [(q, e0)] H.size) ws') (va_A [(q, e0)] H.size) (Value.ref q :: as).toArray) (va_A [(q, e0)] H.size) := by
    rcases hlk with h7 | ⟨host, h7⟩
    · exact va_runI (As := as) (n := n) ⟨c1, c2, c3, c4, c5⟩ (hM l H.size) ⟨callB_of n c5 (goodC i2) rfl rfl rfl (c5 _ i1) (c5 _ h7) ⟨i3, i4, i5⟩ hR, hy, c5 _ hi⟩ hpre rfl hn hl.1 hstk (lv_room hcat) hd hroom
    · exact va_runIN (As := as) (n := n) ⟨c1, c2, c3, c4, c5⟩ (hM l H.size) ⟨va_cnB n c5 (goodC i2) rfl rfl rfl (c7.2.1 _ h7 rfl) (c5 _ i1) ⟨i3, i4, i5⟩ hR, hy, c5 _ hi⟩ hpre rfl hn hl.1 hstk (lv_room hcat) hd hroom
  refine va_callv fin hS (fun a _ h => hFc a h) hFc (fun u t H1 locs1 ht hvm hu hB hz1 hk1 hS1 => ?_)
  obtain ⟨hP1, hD1⟩ := hB
  rw [ht] at hP1
  obtain ⟨j1, j2⟩ := k_join hP hD hk1 hFc hP1 hD1
  exact kk u H1 locs1 hu ⟨j1, j2, hS1⟩
set_option maxHeartbeats 4000000 in
set_option maxRecDepth 100000 in
theorem k_obj (C : CxK k A cc own nL p s m args c) {loc : List (Nat × Value)} (hl : lv_has ls nL loc) {idx a : Nat} (hlk : Cond.methodLink own idx Lib.objectInit ∈ gtb) (h1 : Cond.instanceMethod Lib.objectInit ∈ gtb) (h2 : Cond.code Lib.objectInit ⟨#[0xb1]⟩ 1 none ∈ gtb) (hf : 1 ≤ R.frames) (hlo : 2 * (F0 m pc ls (.ref a :: st)).monitorRoom + (st.map fun v => v.category).sum + 12 ≤ R.locals) (hd : decode cc pc = .ok (.invokespecial idx, 3))
    (kk : W p l e R s m args below meth c H locs cells slots Q (F0 m (pc + 3) ls st)) : W p l e R s m args below meth c H locs cells slots Q (F0 m pc ls (.ref a :: st)) := by
  obtain ⟨c1, c2, c3, c4, c5, -⟩ := C
  exact W.objInit c1 c2 c4 (c5 _ hlk) (c5 _ h1) (c5 _ h2) rfl (by rw [c3]; exact hl.1) rfl hd hf hlo kk
set_option maxHeartbeats 4000000 in
set_option maxRecDepth 100000 in
theorem k_clone (C : CxK k A cc own nL p s m args c) (hw : KW k A s ws H locs) {loc : List (Nat × Value)} (hl : lv_has ls nL loc) {i1 i2 i3 : Nat} (hd1 : decode cc pc = .ok (.getstatic i1, 3)) (hd2 : decode cc (pc + 3) = .ok (.invokevirtual i2, 3)) (hd3 : decode cc (pc + 6) = .ok (.checkcast i3, 3)) (hs : SLk own i1 2) (w1 : Cond.methodLink own i2 ⟨"[I", "clone", "()Ljava/lang/Object;"⟩ ∈ gtb) (w2 : Cond.sameMethod "[I" "java/lang/Object" "clone" "()Ljava/lang/Object;" ∈ gtb) (w3 : Cond.native ⟨"java/lang/Object", "clone", "()Ljava/lang/Object;"⟩ ∈ gtb) (w4 : Cond.instanceMethod ⟨"java/lang/Object", "clone", "()Ljava/lang/Object;"⟩ ∈ gtb) (w5 : Cond.selects "[I" ⟨"[I", "clone", "()Ljava/lang/Object;"⟩ ⟨"java/lang/Object", "clone", "()Ljava/lang/Object;"⟩ ∈ gtb) (w7 : Cond.classLink own i3 "[I" ∈ gtb) (hf : 1 ≤ R.frames) (hlo : (st.map fun v => v.category).sum + 14 ≤ R.locals) (hcells : cells + 1 ≤ R.cells) (hslots : slots + 6 ≤ R.slots)
    (kk : ∀ (q : Nat) (H1 : Heap), KW k A s (ws ++ [(q, .inl (kI k, 6, .inl stF))]) H1 locs → W p l e R s m args below meth c H1 locs (cells + 1) (slots + 6) Q (F0 m (pc + 9) ls (.ref q :: st))) : W p l e R s m args below meth c H locs cells slots Q (F0 m pc ls st) := by
  obtain ⟨c1, c2, c3, c4, c5, c6, c7, c8, c9⟩ := C
  obtain ⟨hP, hD, hS⟩ := hw
  obtain ⟨hF, hN, hZ, w6, cell, x1, x2, x3, x4, x5, x6⟩ := c7
  have hnm : s.vm.findClass "[I" = some (kI k) := va_nm_int (c6.2 0 _ rfl).2
  have hxA : ¬ A (kt k) := fun z => x6 (c9 _ z)
  have hxl : kt k < s.heap.size := (Array.getElem?_eq_some_iff.mp x1).1
  have hS' : va_S (kA k) s.heap H locs := ⟨hS.1, fun q h1 h2 => hS.2.1 q h1 (fun z => h2 (c9 _ z)), fun q hq => c9 _ (hS.2.2 q hq)⟩
  have key : W p l e R s m args below meth c H locs cells slots Q (F0 m (pc + 3) ls (.ref (kt k) :: st)) := by
    obtain ⟨c0, t0', f1, f2, f3⟩ := Cond.castable_spec (va_Nw.use (A := args) rfl w6)
    cases hnm.symm.trans f1
    intro T hT X
    have hcellT : T.heap[kt k]? = some cell := by rw [hT, hS.2.1 _ hxl hxA]; exact x1
    obtain ⟨-, kA', hkA, comp, hkind⟩ := State.isArrayOf_alike X.warmed.alike ((c6.2 0 _ rfl).1 0 (fun _ => .null))
    obtain ⟨-, kS, hkS, compS, hkindS⟩ := (c6.2 0 _ rfl).1 0 (fun _ => .null)
    have hsz : cell.slots.size = 6 := by rw [x5]; exact arrV_size _ _ _
    obtain ⟨vm', X', stp⟩ := X.cloneArray c1 c4 (c5 _ w1) (c5 _ w2) (c5 _ w3) (c5 _ w4) (c5 _ w5) (a := kt k) (cell := cell) hcellT x3 x4 (by rw [x2]; exact hnm) f2 (by rw [x2]; exact f3)
      (fun i v hv => by
        rw [x2]
        have hk' : T.vm.classes[kI k]? = some kA' := hkA
        rw [x5] at hv
        have hv2 : fits .int v = true := by
          by_cases hi : i < 6
          · rw [vp_cell_i, arrV_read _ _ hi] at hv
            cases hv; rfl
          · rw [Array.getElem?_eq_none (by rw [vp_cell_i, arrV_size]; omega)] at hv
            cases hv
        simpa [State.fitsSlot, State.slotType?, hk', hkind] using hv2)
      (g := F0 m (pc + 3) ls (.ref (kt k) :: st)) rfl (by rw [c3]; exact hl.1) rfl (by rw [c2]; exact hd2) hf (by show 2 * 0 + _ + 14 ≤ _; omega) hcells (by rw [hsz]; exact hslots) (hloader := by rw [x2]; exact Vm.clonesLoader_of_array hkS hkindS)
    have hcellE : ({ cls := cell.cls, slots := cell.slots } : Cell) = vp_cell (kI k) (6, .inl stF) := by rw [x2, x5]; rfl
    rw [hcellE, hsz] at X'
    generalize hH1 : H.push (vp_cell (kI k) (6, .inl stF)) = H1
    have z1 : H1.size = H.size + 1 := by rw [← hH1, Array.size_push]
    have e1 : H1[H.size]? = some (vp_cell (kI k) (6, .inl stF)) := by rw [← hH1, Array.getElem?_push_size]
    have o1 : ∀ q : Nat, q < H.size → H1[q]? = H[q]? := fun q hq => by rw [← hH1, Array.getElem?_push, if_neg (Nat.ne_of_lt hq)]
    have hPn : va_P (kD k) vwCl (ws ++ [(H.size, .inl (kI k, 6, .inl stF))]) H1 := (hP.kept (fun j y hy => o1 y.1 ((hP j y hy).lt))).app (fun j y hy => by
      have hz : j < 1 := (List.getElem?_eq_some_iff.mp hy).1
      rw [show j = 0 by omega] at hy
      cases hy
      exact e1)
    have hk2 := va_castA (D := kD k) (cl := vwCl) (ws := ws ++ [(H.size, .inl (kI k, 6, .inl stF))]) c1 c2 c4 (c5 _ w7) hPn ws.length (a := H.size) (by rw [List.getElem?_append_right (Nat.le_refl _), Nat.sub_self]; rfl) hnm hd3
      (kk H.size H1 ⟨hPn, hD.push hP rfl (c8 _ hS.1), Nat.le_trans hS.1 (by omega), fun y h1 h2 => (o1 y (Nat.lt_of_lt_of_le h1 hS.1)).trans (hS.2.1 y h1 h2), hS.2.2⟩)
    obtain ⟨t, b1, b2⟩ := hk2 ((T.setVm vm').pushCell (vp_cell (kI k) (6, .inl stF))) (by rw [← hH1, ← hT]; rfl) X'
    refine ⟨t, stp t ?_, b2⟩
    rw [hcellE, hT]
    exact b1
  rcases hs.2 with h7 | ⟨host, h7⟩
  · exact va_gets c1 c2 hZ hS' c4 (c5 _ h7) (fun x hx => hx) hd1 key
  · exact va_getsN c1 c2 hZ hS' c4 (va_Nw.use rfl (hF _ h7 rfl)) (fun x hx => hx) hd1 key
end KROW
def KRet (k : KG) (A : Nat → Prop) (cc : ByteArray) (R : Room) (p : Program) (l : Launch) (e : Env) (s : State) (m : MethodId) (args : Array Value) (below : List Frame) (meth : Method) (c : Code) (QQ : State → Prop) (Q : va_W → Prop) : Prop :=
  ∀ (ws : va_W) (H : Heap) (locs : List Loc) (pc : Nat) (ls : Array Slot) (cells slots : Nat), decode cc pc = .ok (.return_, 1) → cells ≤ R.cells → slots ≤ R.slots → KW k A s ws H locs → Q ws → W p l e R s m args below meth c H locs cells slots QQ (F0 m pc ls [])
set_option maxHeartbeats 4000000 in
set_option maxRecDepth 100000 in
theorem ctk_of {y : MethodName} {cc : ByteArray} {nL : Nat} {R : Room} {k : KG} {as : List Value} {h0 : Nat} {e0 : va_E} {Q : va_W → Prop} (hy : plainName y.cls = true) (hini : y.name = "<init>") (loc : List (Nat × Value)) (hloc : lv_args 0 (.ref h0 :: as) = loc) (hlen : (lg_sl (.ref h0 :: as)).length ≤ nL)
    (body : ∀ (p : Program) (l : Launch) (e : Env) (s : State) (m : MethodId) (args : Array Value) (below : List Frame) (meth : Method) (c : Code) (ls : Array Slot) (A : Nat → Prop) (QQ : State → Prop), CxK k A cc y.cls nL p s m args c → KW k A s [(h0, e0)] s.heap [] → lv_has ls nL loc → meth.name = "<init>" → KRet k A cc R p l e s m args below meth c QQ Q → W p l e R s m args below meth c s.heap [] 0 0 QQ (F0 m 0 ls [])) : CtK y cc nL R k as h0 e0 Q := by
  intro l sz
  refine Met.ofW (cc := cc) (maxL := nL) (ret := none) hy rfl ?_
  intro p e s m args below meth c s₁ B hml hv
  obtain ⟨rfl, hsz, hz1, hz2, hP, hK, hF⟩ := hv
  have hts := atoms_spec (ws := .code y cc nL none :: gtb) B.pre
  have hown : s.vm.findClass y.cls = some m.cls := findClass_of_methodNamed B.named
  have hl := lv_entry (.ref h0 :: as) (n := nL) hlen
  rw [lg_entry_eq]
  subst hsz
  have hlocks := B.notSynchronized
  have hD : va_D (va_A [(h0, e0)] s.heap.size) [(h0, e0)] := by
    refine ⟨fun i j a b ha hb _ => ?_, fun i q hq => Or.inl ⟨i, q.2, hq⟩⟩
    have h1 := (List.getElem?_eq_some_iff.mp ha).1
    have h2 := (List.getElem?_eq_some_iff.mp hb).1
    simp at h1 h2
    omega
  refine body p l e s m _ below meth c _ (va_A [(h0, e0)] s.heap.size) _ ⟨B.exec, B.bytes, hml, hown, fun w hw => hts w (List.mem_cons_of_mem _ hw), hK, hF, fun q hq => Or.inr hq, fun q hq => ?_⟩ ⟨hP, hD, va_S.rf⟩ (by rw [← hloc]; exact hl) (by rw [← hini]; exact (name_of_methodNamed B.named B.method).1) ?_
  · rcases hq with ⟨i, e, hi⟩ | hq
    · have h1 := (List.getElem?_eq_some_iff.mp hi).1
      have h2 : i = 0 := by simpa using h1
      subst h2
      have := (Prod.mk.inj (Option.some.inj hi)).1
      omega
    · omega
  · intro ws H locs pc ls cells slots hd hc hs hw hQ
    refine W.widen (k := R.cells) (n := R.slots) hc hs ?_
    exact W.vret B.exec B.bytes B.returns (fun t ht hW => ⟨⟨ws, rfl, hQ, by rw [ht]; exact hw.1, hw.2.1⟩, hw.2.2.F ht⟩) hw.2.2.2.2 hd
