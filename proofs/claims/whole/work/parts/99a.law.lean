/-! THE LAW'S OWN WALK -/
def LwC (g : GG) (p : Program) (s : State) (m : MethodId) (args : Array Value) (c : Code) (b L : Nat) (xs : Nat → Int32) : Prop :=
  p.tables.exec = Jvm.exec ∧ c.code = code ∧ c.maxLocals = 4 ∧ s.vm.findClass "DropCapitalsLaw" = some m.cls ∧ (∀ w ∈ gtb, w.before args s = true) ∧ va_K (gD g) vwCl (tyO g) s ∧ Fx g s s.heap ∧ gInj g ∧ (∀ q, gAr g q → s.heap.size ≤ q) ∧ va_X b L xs s s.heap ∧ b < s.heap.size
abbrev lA (s : State) : Nat → Prop := fun q => s.heap.size ≤ q
abbrev lLoc (g : GG) (b : Nat) (i : Int) : List (Nat × Value) := [(0, .ref b), (1, .ref (gad g 0)), (2, .ref (gad g 71)), (3, .int (Int32.ofInt i))]
section LAW
variable {g : GG} {p : Program} {l : Launch} {e : Env} {s : State} {m : MethodId} {args : Array Value} {below : List Frame} {meth : Method} {c : Code} {H : Heap} {locs : List Loc} {cells slots : Nat} {Q : State → Prop} {pc : Nat} {ls : Array Slot} {st : List Value} {σ : Sto} {b L : Nat} {xs : Nat → Int32} {R : Room}
set_option maxHeartbeats 4000000 in
set_option maxRecDepth 100000 in
theorem l_call (C : LwC g p s m args c b L xs) (hP : va_P (gD g) vwCl (wsO g σ) H) (hS : va_S (lA s) s.heap H locs) (hσ : okS σ) {loc : List (Nat × Value)} (hlo : lv_has ls 4 loc) {y : MethodName} {bc : ByteArray} {nL n idx ci r d : Nat} {as : List MV} {stk : List Value} {Q' : Int → Sto → Prop} (hd : decode code pc = .ok (.invokevirtual idx, 3)) (hl : MVk "DropCapitalsLaw" idx y bc nL (some .int) n ci) (hM : CtI y bc nL (some .int) d (mR r :: as) σ Q') (ho : oks as) (hr : oOk r ci = true) (hstk : stk = (as.map (tv g)).reverse ++ .ref (gad g r) :: st) (hn : as.length = n) (hcat : (st.map fun v => v.category).sum ≤ 8) (hR : d + 1 ≤ R.frames ∧ 8 + (nL + 11) + 40 * d ≤ R.locals) (hroom : cells ≤ R.cells ∧ slots ≤ R.slots)
    (kk : ∀ (z : Int) (σ' : Sto) (H1 : Heap) (locs1 : List Loc), Q' z σ' → okI z → okS σ' → va_P (gD g) vwCl (wsO g σ') H1 → va_S (lA s) s.heap H1 locs1 → W p l e R s m args below meth c H1 locs1 cells slots Q (F0 m (pc + 3) ls (.int (Int32.ofInt z) :: st))) : W p l e R s m args below meth c H locs cells slots Q (F0 m pc ls stk) := by
  obtain ⟨c1, c2, c3, c4, c5, c6, c7, c8, c9, c10, c11⟩ := C
  obtain ⟨h1, h2, h3, ⟨i1, i2, i3, i4, i5, i6⟩, T, N, h5⟩ := hl
  obtain ⟨r1, r2, r3⟩ := oOk_at hr
  have hat := wsO_obj (g := g) (σ := σ) r1 r2 r3
  have hrun := va_runV (l := l) (e := e) (R := R) (below := below) (meth := meth) (locs := locs) (cells := cells) (slots := slots) (As := as.map (tv g)) (C := y.cls) (n := n) (rest := st) (g := F0 m pc ls stk) ⟨c1, c2, c3, c4, c5⟩ (hM l g) ⟨callB_of n c5 (goodC i2) rfl rfl rfl (c5 _ i1) (c5 _ h1) ⟨i3, i4, i5⟩ hR, c5 _ h2, c5 _ h3⟩ ⟨PcO_blind, va_recv c6 hP h5 hat, fun U hU hW => ⟨rfl, by rw [hU]; exact hP, va_K.moved hW.alike c6, c8, Fx_moved hW (fun a ha hna => by rw [hU]; exact hS.2.1 a ha (by show ¬ s.heap.size ≤ a; omega)) c7, hσ, trivial, ho⟩⟩ rfl (by rw [List.length_map]; exact hn) hlo.1 hstk (lv_room hcat) hd ⟨hroom.1, hroom.2⟩
  intro T0 hT X
  obtain ⟨v, st₀, t, T', LL, h0, X', hL, e1, e2, ⟨⟨rv, σ', hv, hq, hσ', hrv, hP'⟩, hz, hk⟩, stp⟩ := hrun T0 hT X
  obtain ⟨z, rfl, hq⟩ := hq
  have hv' : v = some (.int (Int32.ofInt z)) := by cases hv; rfl
  subst hv'
  rw [h0] at hz hk
  have hS' : va_S (lA s) s.heap T'.heap (locs ++ LL) := by
    refine ⟨Nat.le_trans hS.1 (by rw [e1]; exact hz), fun q h1 h2 => ?_, fun q hq => ?_⟩
    · rw [e1, hk q (Nat.lt_of_lt_of_le h1 hS.1) (fun w => h2 (c9 _ w))]
      exact hS.2.1 q h1 h2
    · rcases List.mem_append.mp hq with h | h
      · exact hS.2.2 q h
      · exact c9 _ (hL q h)
  obtain ⟨t2, a1, b1⟩ := kk z σ' T'.heap (locs ++ LL) hq (hrv _ rfl) hσ' (by rw [e1]; exact hP') hS' T' rfl X'
  exact ⟨t2, stp t2 a1, b1⟩
set_option maxHeartbeats 4000000 in
set_option maxRecDepth 100000 in
theorem l_arg (C : LwC g p s m args c b L xs) (hS : va_S (lA s) s.heap H locs) {i : Nat} (hlo : lv_has ls 4 (lLoc g b i)) {k : Int} (j : Nat) (hk : k = (j : Int)) (hi : i + j < L) (hL : L ≤ 2560) (h0 : decode code pc = .ok (.aload_n 0, 1)) (h1 : decode code (pc + 1) = .ok (.iload_n 3, 1)) (h2 : decode code (pc + 2) = .ok (.iconst k, 1)) (h3 : decode code (pc + 3) = .ok (.iadd, 1)) (h4 : decode code (pc + 4) = .ok (.iaload, 1))
    (kk : W p l e R s m args below meth c H locs cells slots Q (F0 m (pc + 5) ls (.int (Int32.ofInt (xs (i + j)).toInt) :: st))) : W p l e R s m args below meth c H locs cells slots Q (F0 m pc ls st) := by
  obtain ⟨c1, c2, c3, c4, c5, c6, c7, c8, c9, c10, c11⟩ := C
  refine lv_aload_n c1 c2 h0 rfl (lv_at hlo 0 rfl) ?_
  refine lv_iload_n c1 c2 h1 rfl (lv_at hlo 3 rfl) ?_
  refine lv_iconst c1 c2 h2 rfl ?_
  refine lv_iadd c1 c2 h3 ?_
  have e1 : Int32.ofInt (i : Int) + Int32.ofInt k = Int32.ofInt ((i : Int) + k) := oI_add _ _
  have ok1 : okI ((i : Int) + k) := by unfold okI; omega
  rw [e1]
  refine va_sld c1 c2 c10 c11 (show ¬ s.heap.size ≤ b by omega) hS (oI_in ok1 (by omega) (by omega)) h4 ?_
  rw [oI_clamp ok1 (by omega), show ((i : Int) + k).toNat = i + j by omega]
  have e2 : xs (i + j) = Int32.ofInt (xs (i + j)).toInt := (Int32.ofInt_toInt _).symm
  rw [e2]
  simpa using kk
set_option maxHeartbeats 4000000 in
set_option maxRecDepth 100000 in
theorem xs_ok (x : Int32) : okI x.toInt := by
  have h1 := Int32.le_toInt x
  have h2 := Int32.toInt_lt x
  unfold okI
  omega
end LAW
