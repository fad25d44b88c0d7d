def gtb : List Cond := lw_tbl.filter goodWord
theorem gtb_of {w : Cond} (h : w ∈ lw_tbl) (hg : goodWord w = true) : w ∈ gtb := List.mem_filter.mpr ⟨h, hg⟩
theorem tb_mem {i : Nat} {w : Cond} (h : tables_1[i]? = some w) : w ∈ lw_tbl := List.mem_append_right _ (List.mem_of_getElem? h)
theorem tb_sel {q : MethodName × Nat} {i : Nat} (h : lw_privs[i]? = some q) : Cond.selects q.1.cls q.1 q.1 ∈ lw_tbl := List.mem_append_left _ (List.mem_map.mpr ⟨q, List.mem_of_getElem? h, rfl⟩)
def isNF : Cond → Bool
  | .fieldLinkNest .. => true
  | _ => false
def isNM : Cond → Bool
  | .methodLinkNest .. => true
  | _ => false
def stN (k : Nat) : String := if k = 0 then "SETTING_LEAST" else if k = 1 then "SETTING_MOST" else "SETTING_AT_FIRST"
def stL (k : Nat) : List Int := if k = 0 then [20, 4, 2, 0, 0, 0] else if k = 1 then [99, 20, 20, 9, 1, 2] else [40, 8, 5, 1, 0, 0]
def stV (k : Nat) (j : Int) : Int := (stL k).getD j.toNat 0
def strI : List (Nat × String) := [(69, "set"), (78, "shape"), (83, "par"), (157, "measure"), (159, "leading"), (161, "cap"), (163, "gap"), (165, "mode"), (167, "policy")]
def strB : List (List Int32) := [[115, 101, 116], [115, 104, 97, 112, 101], [112, 97, 114], [109, 101, 97, 115, 117, 114, 101], [108, 101, 97, 100, 105, 110, 103], [99, 97, 112], [103, 97, 112], [109, 111, 100, 101], [112, 111, 108, 105, 99, 121]]
def strLn : List Nat := [3, 5, 3, 7, 7, 3, 3, 4, 6]
def strC (k : Nat) (j : Int) : Int := ((strB.getD k []).getD j.toNat 0).toInt
/-- what stays: links among nest mates, statics, constants of text -/
def Fx (g : GG) (U : State) (H : Heap) : Prop :=
  (∀ w ∈ lw_tbl, isNF w = true → va_Nw w U) ∧ (∀ w ∈ lw_tbl, isNM w = true → va_Nw w U) ∧
  (∀ k, k < 3 → va_Z RX6 (stN k) "[I" (.ref (gad g (1000 + k))) (gAr g) U H ∧ va_T .int (gad g (1000 + k)) 6 (fun j => .int (Int32.ofInt (stV k (j : Int)))) (gAr g) U H) ∧
  (∀ k, k < 9 → vk_R RX4 (strI.getD k (0, "")).1 (strI.getD k (0, "")).2 (gad g (2000 + k)) U) ∧ vk_S 9 strLn strB (fun i => gad g (2000 + i)) (fun i => gad g (3000 + i)) (gAr g) U H ∧
  va_Z "java/lang/String" "COMPACT_STRINGS" "Z" (.int 1) (gAr g) U H ∧ va_Zq "jdk/internal/util/Preconditions" "SIOOBE_FORMATTER" "Ljava/util/function/BiFunction;" (gAr g) U H
theorem Fx_moved {g : GG} {s U : State} {H : Heap} (hW : s.WarmedH U.vm) (hk : ∀ a : Nat, a < s.heap.size → ¬ gAr g a → H[a]? = s.heap[a]?) (h : Fx g s s.heap) : Fx g U H := by
  obtain ⟨h1, h2, h3, h4, h5, h6, h7⟩ := h
  refine ⟨fun w hw hn => ?_, fun w hw hn => ?_, fun k hk3 => ⟨((h3 k hk3).1.moved hW.alike).kept hk, ((h3 k hk3).2.moved hW.alike).kept hk⟩, fun k hk9 => (h4 k hk9).warm hW, (h5.moved hW.alike).kept hk, (h6.moved hW.alike).kept hk, (h7.moved hW.alike).kept hk⟩
  · cases w <;> first | exact absurd hn (by decide) | exact va_Nw.warmF hW (h1 _ hw hn) | (exfalso; simp [isNF] at hn)
  · cases w <;> first | exact absurd hn (by decide) | exact va_Nw.warmM hW (h2 _ hw hn) | (exfalso; simp [isNM] at hn)
theorem Fx_same {g : GG} {u U : State} {H : Heap} (hv : U.vm = u.vm) (h : Fx g u H) : Fx g U H := by
  obtain ⟨h1, h2, h3, h4, h5, h6, h7⟩ := h
  have ha : u.vm.Alike U.vm := by rw [hv]; exact Vm.Alike.refl _
  refine ⟨fun w hw hn => ?_, fun w hw hn => ?_, fun k hk3 => ⟨(h3 k hk3).1.moved ha, (h3 k hk3).2.moved ha⟩, fun k hk9 => (h4 k hk9).same hv, h5.moved ha, h6.moved ha, h7.moved ha⟩
  · cases w <;> first | exact va_Nw.same rfl hv.symm (h1 _ hw hn) | (exfalso; simp [isNF] at hn)
  · cases w <;> first | exact va_Nw.same rfl hv.symm (h2 _ hw hn) | (exfalso; simp [isNM] at hn)
def Ctx (g : GG) (cc : ByteArray) (own : String) (rt : Option FieldType) (nL : Nat) (p : Program) (s : State) (m : MethodId) (args : Array Value) (meth : Method) (c : Code) : Prop :=
  p.tables.exec = Jvm.exec ∧ c.code = cc ∧ meth.sig.returnType = rt ∧ c.maxLocals = nL ∧ s.vm.findClass own = some m.cls ∧ (∀ w ∈ gtb, w.before args s = true) ∧ meth.locks = false ∧ va_K (gD g) vwCl (tyO g) s ∧ Fx g s s.heap ∧ gInj g
def als (g : GG) : Nat → List (Option MV) → List (Nat × Value)
  | _, [] => []
  | n, none :: t => als g (n + 1) t
  | n, some v :: t => (n, tv g v) :: als g (n + 1) t
theorem als_mem {g : GG} {v : MV} : ∀ (loc : List (Option MV)) (n k : Nat), loc[k]? = some (some v) → (n + k, tv g v) ∈ als g n loc
  | [], n, k, h => by simp at h
  | none :: t, n, 0, h => by simp at h
  | none :: t, n, k + 1, h => by
    have := als_mem (g := g) t (n + 1) k (by simpa using h)
    rw [show n + (k + 1) = n + 1 + k by omega]
    exact this
  | some u :: t, n, 0, h => by
    have e : u = v := by simpa using h
    subst e
    exact List.mem_cons_self
  | some u :: t, n, k + 1, h => by
    have := als_mem (g := g) t (n + 1) k (by simpa using h)
    rw [show n + (k + 1) = n + 1 + k by omega]
    exact List.mem_cons_of_mem _ this
theorem als_inv {g : GG} {q : Nat × Value} : ∀ (loc : List (Option MV)) (n : Nat), q ∈ als g n loc → ∃ (k : Nat) (v : MV), loc[k]? = some (some v) ∧ q = (n + k, tv g v)
  | [], n, h => by simp [als] at h
  | none :: t, n, h => by
    obtain ⟨k, v, h1, h2⟩ := als_inv t (n + 1) h
    exact ⟨k + 1, v, by simpa using h1, by rw [h2]; congr 1; omega⟩
  | some u :: t, n, h => by
    rcases List.mem_cons.mp h with h | h
    · exact ⟨0, u, by simp, by rw [h]; rfl⟩
    · obtain ⟨k, v, h1, h2⟩ := als_inv t (n + 1) h
      exact ⟨k + 1, v, by simpa using h1, by rw [h2]; congr 1; omega⟩
def lok (g : GG) (ls : Array Slot) (loc : List (Option MV)) : Prop := lv_has ls loc.length (als g 0 loc) ∧ ∀ v, some v ∈ loc → okv v
theorem lok_at {g : GG} {ls : Array Slot} {loc : List (Option MV)} (h : lok g ls loc) {k : Nat} {v : MV} (hk : loc[k]? = some (some v)) : ls[k]? = some (.val (tv g v)) ∧ okv v := by
  refine ⟨?_, h.2 v (List.mem_of_getElem? hk)⟩
  have := h.1.2.2 _ (als_mem (g := g) loc 0 k hk)
  simpa using this
def noL (loc : List (Option MV)) (k : Nat) : Bool := match k with
  | 0 => true
  | j + 1 => match loc[j]? with
    | some (some (.inr (.inl _))) => false
    | _ => true
theorem tv_cat {g : GG} {v : MV} (h : (tv g v).category = 2) : ∃ z, v = .inr (.inl z) := by
  rcases v with z | z | z
  · exact absurd h (by decide : ¬ (1 : Nat) = 2)
  · exact ⟨z, rfl⟩
  · exact absurd h (by decide : ¬ (1 : Nat) = 2)
theorem lok_set {g : GG} {ls : Array Slot} {loc : List (Option MV)} {k : Nat} {v : MV} (h : lv_has ls loc.length ((k, tv g v) :: (als g 0 loc).filter (fun q => !(q.1 == k) && !(q.1 + 1 == k && q.2.category == 2)))) (hn : noL loc k = true) (ho : ∀ u, some u ∈ loc → okv u) (hv : okv v) : lok g ls (loc.set k (some v)) := by
  refine ⟨⟨by rw [List.length_set]; exact h.1, h.2.1, fun q hq => ?_⟩, fun u hu => ?_⟩
  · obtain ⟨j, u, h1, h2⟩ := als_inv _ _ hq
    rw [List.getElem?_set] at h1
    by_cases hj : k = j
    · subst hj
      rw [if_pos rfl] at h1
      by_cases hl : k < loc.length
      · rw [if_pos hl] at h1
        have e : v = u := by simpa using h1
        subst e
        refine h.2.2 q (List.mem_cons.mpr (Or.inl ?_))
        rw [h2]; simp
      · rw [if_neg hl] at h1
        cases h1
    · rw [if_neg hj] at h1
      refine h.2.2 q (List.mem_cons.mpr (Or.inr (List.mem_filter.mpr ⟨?_, ?_⟩)))
      · rw [h2]; exact als_mem loc 0 j h1
      · have e1 : (q.1 == k) = false := by rw [h2]; simp; omega
        rw [e1]
        simp only [Bool.not_false, Bool.true_and, Bool.not_eq_true', Bool.and_eq_false_iff]
        by_cases hk : q.1 + 1 = k
        · right
          have hjk : k = j + 1 := by rw [h2] at hk; simp at hk; omega
          rw [hjk] at hn
          simp only [noL, h1] at hn
          by_cases hc : (tv g u).category = 2
          · obtain ⟨z, rfl⟩ := tv_cat hc
            simp at hn
          · rw [h2]; simpa using hc
        · left
          simpa using hk
  · rcases List.mem_or_eq_of_mem_set hu with h1 | h1
    · exact ho u h1
    · cases h1; exact hv
def oks : List MV → Prop
  | [] => True
  | v :: t => okv v ∧ oks t
def QcO (g : GG) (Q : Option MV → Sto → Prop) : Array Value → State → Outcome → State → Prop := fun _ st oc t => (∃ (r : Option MV) (σ' : Sto), oc = .returned (r.map (tv g)) ∧ Q r σ' ∧ okS σ' ∧ (∀ v, r = some v → okv v) ∧ va_P (gD g) vwCl (wsO g σ') t.heap) ∧ va_F (gAr g) st t
abbrev rmd (d : Nat) : Room := { frames := d, cells := 0, slots := 0, locals := 40 * d }
def Wp (cc : ByteArray) (own : String) (rt : Option FieldType) (d pc : Nat) (loc : List (Option MV)) (stk : List MV) (σ : Sto) (Q : Option MV → Sto → Prop) : Prop :=
  ∀ (g : GG) (p : Program) (l : Launch) (e : Env) (s : State) (m : MethodId) (args : Array Value) (below : List Frame) (meth : Method) (c : Code) (H : Heap) (locs : List Loc) (ls : Array Slot),
    Ctx g cc own rt loc.length p s m args meth c → va_P (gD g) vwCl (wsO g σ) H → va_S (gAr g) s.heap H locs → okS σ → lok g ls loc → oks stk →
    W p l e (rmd d) s m args below meth c H locs 0 0 (MQ below (QcO g Q) args s 0 0 (gAr g)) (F0 m pc ls (stk.map (tv g)))
def PcO (g : GG) (as : List MV) (σ : Sto) : Array Value → State → Prop := va_Pc (as.map (tv g)) (fun U => va_P (gD g) vwCl (wsO g σ) U.heap ∧ va_K (gD g) vwCl (tyO g) U ∧ gInj g ∧ Fx g U U.heap ∧ okS σ ∧ oks as)
def Ct (y : MethodName) (cc : ByteArray) (nL : Nat) (rt : Option FieldType) (d : Nat) (as : List MV) (σ : Sto) (Q : Option MV → Sto → Prop) : Prop :=
  ∀ (l : Launch) (g : GG), Met l y (.code y cc nL rt :: gtb) (rmd d) (PcO g as σ) (QcO g Q) 0 0 (gAr g)
def locO : List MV → List (Option MV)
  | [] => []
  | .inl z :: t => some (.inl z) :: locO t
  | .inr (.inl z) :: t => some (.inr (.inl z)) :: none :: locO t
  | .inr (.inr r) :: t => some (.inr (.inr r)) :: locO t
theorem locO_ok : ∀ {as : List MV}, oks as → ∀ v, some v ∈ locO as → okv v
  | [], _, v, h => by simp [locO] at h
  | .inl z :: t, ho, v, h => by
    rcases List.mem_cons.mp h with h | h
    · cases h; exact ho.1
    · exact locO_ok ho.2 v h
  | .inr (.inl z) :: t, ho, v, h => by
    rcases List.mem_cons.mp h with h | h
    · cases h; exact ho.1
    · rcases List.mem_cons.mp h with h | h
      · cases h
      · exact locO_ok ho.2 v h
  | .inr (.inr z) :: t, ho, v, h => by
    rcases List.mem_cons.mp h with h | h
    · cases h; exact ho.1
    · exact locO_ok ho.2 v h
theorem locO_als {g : GG} : ∀ (as : List MV) (n : Nat), als g n (locO as) = lv_args n (as.map (tv g))
  | [], n => rfl
  | .inl z :: t, n => by
    show (n, _) :: als g (n + 1) (locO t) = _
    rw [locO_als t (n + 1)]; rfl
  | .inr (.inl z) :: t, n => by
    show (n, _) :: als g (n + 1 + 1) (locO t) = _
    rw [locO_als t (n + 1 + 1)]; rfl
  | .inr (.inr z) :: t, n => by
    show (n, _) :: als g (n + 1) (locO t) = _
    rw [locO_als t (n + 1)]; rfl
theorem als_pad {g : GG} : ∀ (l : List (Option MV)) (n k : Nat), als g n (l ++ List.replicate k none) = als g n l
  | [], n, 0 => rfl
  | [], n, k + 1 => by
    show als g (n + 1) (List.replicate k none) = []
    exact als_pad [] (n + 1) k
  | none :: t, n, k => als_pad t (n + 1) k
  | some v :: t, n, k => by
    show (n, _) :: als g (n + 1) (t ++ List.replicate k none) = (n, _) :: _
    rw [als_pad t (n + 1) k]
theorem locO_len {g : GG} : ∀ (as : List MV), (lg_sl (as.map (tv g))).length = (locO as).length
  | [] => rfl
  | .inl z :: t => by
    have := locO_len (g := g) t
    simpa [lg_sl, locO, tv, Value.category] using this
  | .inr (.inl z) :: t => by
    have := locO_len (g := g) t
    simpa [lg_sl, locO, tv, Value.category] using this
  | .inr (.inr z) :: t => by
    have := locO_len (g := g) t
    simpa [lg_sl, locO, tv, Value.category] using this
theorem PcO_blind {g : GG} {as : List MV} {σ : Sto} : FrameBlind (PcO g as σ) := by
  intro a U f mk h
  obtain ⟨h1, h2, h3, h4, h5, h6, h7⟩ := h
  exact ⟨h1, h2, va_K.moved (u := U) (U := U.calling f mk a) (Vm.Alike.refl U.vm) h3, h4, Fx_same (u := U) (U := U.calling f mk a) rfl h5, h6, h7⟩
/-- a method's contract out of its body -/
theorem ct_of {y : MethodName} {cc : ByteArray} {nL : Nat} {rt : Option FieldType} {d : Nat} {as : List MV} {σ : Sto} {Q : Option MV → Sto → Prop} (hy : plainName y.cls = true) (loc : List (Option MV)) (hlen : ((locO as).length ≤ nL)) (hloc : locO as ++ List.replicate (nL - (locO as).length) none = loc) (h : okS σ → Wp cc y.cls rt d 0 loc [] σ Q) : Ct y cc nL rt d as σ Q := by
  intro l g
  refine Met.ofW (cc := cc) (maxL := nL) (ret := rt) hy rfl ?_
  intro p e s m args below meth c s₁ B hml hv
  obtain ⟨rfl, hP, hK, hI, hF, hσ, ho⟩ := hv
  have hts := atoms_spec (ws := .code y cc nL rt :: gtb) B.pre
  have hown : s.vm.findClass y.cls = some m.cls := findClass_of_methodNamed B.named
  have hl := lv_entry (as.map (tv g)) (n := nL) (by rw [locO_len]; exact hlen)
  rw [lg_entry_eq]
  have hloclen : loc.length = nL := by rw [← hloc, List.length_append, List.length_replicate]; omega
  refine h hσ g p l e s m _ below meth c s.heap [] _ ⟨B.exec, B.bytes, B.returns, by rw [hml, hloclen], hown, fun w hw => hts w (List.mem_cons_of_mem _ hw), B.notSynchronized, hK, hF, hI⟩ hP va_S.rf hσ ⟨?_, ?_⟩ trivial
  · rw [hloclen, ← hloc, als_pad, locO_als]
    exact hl
  · intro v hv
    rw [← hloc] at hv
    rcases List.mem_append.mp hv with hv | hv
    · exact locO_ok ho v hv
    · rw [List.mem_replicate] at hv
      cases hv.2
