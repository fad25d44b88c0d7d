/-! THE CLAIM OUT OF ONE WALK OF THE LAW'S BODY. Your part is whole_start (and what it stands on); all else here is the same for every law, but numbers. -/
def R_law : String := "DropCapitalsLaw"
def lw_P (b : Addr) (xs : List Int32) (args : Array Value) (s : State) : Prop := args = #[.ref b] ∧ s.IntsAt b xs ∧ xs.length ≤ 2560 ∧ (Jvm.Cond.and given_1 narrow_1).before args s = true
def lw_Q (_ : Array Value) (s : State) (o : Outcome) (t : State) : Prop := o = .returned (some (.int 1)) ∧ Framed s o t [] 600000 7302250
def lw_Z (below : List Frame) (a : Array Value) (s : State) : State → Prop := fun t => ∃ o, t.status = .running ∧ Ended t below o ∧ lw_Q a s o t
-- the law's own end, with 1 on the stack, nothing written that was there before, its room as the claim has it
set_option maxHeartbeats 4000000 in
set_option maxRecDepth 100000 in
theorem lw_ret {p : Program} {l : Launch} {e : Env} {s : State} {m : MethodId} {below : List Frame} {meth : Method} {c : Code} {b : Nat} (hx : p.tables.exec = Jvm.exec) (hb : c.code = code) (hr : meth.sig.returnType = ret) (hlocks : meth.locks = false) {pc : Nat} {H : Heap} {ls : Array Slot} (hdg : decode code pc = .ok (.ireturn, 1)) : W p l e room_1 s m #[Value.ref b] below meth c H [] 600000 7302250 (lw_Z below #[Value.ref b] s) (F0 m pc ls [.int 1]) := by
  intro T hT X
  obtain ⟨fs, hret, hrun, hended, hW, hframe⟩ := X.leave (v := some (.int 1)) (hlocks := hlocks) (fun h => by rw [hr] at h; cases h)
  have hmeth' : T.vm.method? m = some meth := X.method'
  refine ⟨T.setFrames fs, ?_, .returned (some (.int 1)), hrun, hended, rfl, ⟨_, rfl⟩, hW, hframe⟩
  jvm_step X.here [X.here.top, hx, hb, hdg, hmeth', hr, ret, narrow_b1]
  (try refine ⟨rfl, ?_⟩); (try refine ⟨rfl, ?_⟩)
  first | (intro acts; rw [hret _ acts rfl rfl rfl]) | rw [hret _ _ rfl rfl rfl]
  exact Steps.refl _
-- what holds at the law's entry: the machine, the code, the tables' words (any of lw_tbl by 'hts w (by decide +kernel)'), the script of L ints xs at the cell b, what the Statement gives of the start (any of its parts by flat_of_before)
def lw_At (p : Program) (s : State) (m : MethodId) (meth : Method) (c : Code) (b L : Nat) (xs : Nat → Int32) : Prop :=
  p.tables.exec = Jvm.exec ∧ c.code = code ∧ meth.sig.returnType = ret ∧ c.maxLocals = 4 ∧ s.vm.findClass R_law = some m.cls ∧ (∀ w ∈ lw_tbl, w.before #[Value.ref b] s = true) ∧ va_X b L xs s s.heap ∧ b < s.heap.size ∧ meth.locks = false ∧ (Jvm.Cond.and given_1 narrow_1).before #[Value.ref b] s = true
set_option maxHeartbeats 4000000 in
set_option maxRecDepth 100000 in
theorem whole_body {p : Program} {e : Env} {s : State} {m : MethodId} {below : List Frame} {meth : Method} {c : Code} {l : Launch} {b L : Nat} {xs : Nat → Int32} {ls : Array Slot} (hL : L ≤ 2560) (C0 : lw_At p s m meth c b L xs) (hl : lv_has ls 4 [(0, .ref b)]) : W p l e room_1 s m #[Value.ref b] below meth c s.heap [] 0 0 (lw_Z below #[Value.ref b] s) (F0 m 0 ls []) := by
  obtain ⟨hx, hb, hr, hml, hown, hts, hX, hbl, hlocks, hgv⟩ := C0
  obtain ⟨d1, d2, cI, cB, cZ, ts, adK, adV, hK, hF, hFx⟩ := en_all hts hgv
  have hg : ∀ w ∈ gtb, w.before #[Value.ref b] s = true := fun w hw => hts w (List.mem_filter.mp hw).1
  generalize hkk : (((d1, d2), cI, cB, cZ, ts 2, s.heap.size) : KG) = k at hF
  have C : CxK k (lA s) code R_law 4 p s m #[Value.ref b] c := by
    subst hkk
    exact ⟨hx, hb, hml, hown, hg, hK, hF, fun q h => h, fun q h => h⟩
  have hw : KW k (lA s) s [] s.heap [] := ⟨fun i q h => by simp at h, ⟨fun i j p q hp _ _ => by simp at hp, fun i q h => by simp at h⟩, va_S.rf⟩
  refine k_new C hw nf6 cl_6 (gtb_of (tb_m1 (i := 15) rfl) rfl) (gtb_of (tb_m1 (i := 16) rfl) rfl) (gtb_of (tb_m1 (i := 1) rfl) rfl) tyX6 tyX6_ok (fun j hj => match j, hj with | 0, _ => rfl | 1, _ => rfl | 2, _ => rfl | 3, _ => rfl | 4, _ => rfl | 5, _ => rfl | 6, _ => rfl | 7, _ => rfl | 8, _ => rfl | 9, _ => rfl | 10, _ => rfl | 11, _ => rfl | 12, _ => rfl | 13, _ => rfl | 14, _ => rfl | 15, _ => rfl | (_ + 16), h => absurd h (by omega)) (by decide +kernel) (by decide +kernel) dL_law_0 (fun v0 H hw => ?_)
  refine lv_dup hx hb dL_law_3 rfl ?_
  refine k_init (n := 0) C hw hl (kX6_init k v0) ⟨gtb_of (tb_m1 (i := 1) rfl) rfl, gtb_of (tb_m1 (i := 19) rfl) rfl, by decide +kernel, by decide +kernel, by decide +kernel, by decide⟩ (gtb_of (tb_m1 (i := 18) rfl) rfl) (Or.inl (gtb_of (tb_m1 (i := 17) rfl) rfl)) rfl ⟨by decide +kernel, by decide +kernel⟩ ⟨by decide +kernel, by decide +kernel⟩ rfl rfl (Nat.le_of_ble_eq_true rfl) dL_law_4 (fun ws1 H locs hQ hw => ?_)
  obtain ⟨v1, v2, v3, v4, v5, v6, v7, v8, v9, v10, v11, v12, v13, v14, v15, v16, v17, v18, v19, v20, v21, v22, v23, v24, v25, v26, v27, v28, v29, v30, v31, v32, v33, v34, v35, v36, v37, v38, v39, v40, v41, v42, v43, v44, v45, v46, v47, v48, v49, v50, v51, v52, v53, v54, v55, v56, v57, v58, v59, v60, v61, v62, v63, v64, v65, v66, v67, v68, v69, v70, rfl⟩ := hQ
  refine lv_astore_n (lv' := [(1, .ref v0), (0, .ref b)]) hx hb dL_law_7 rfl hl (by decide) rfl (fun ls hl => ?_)
  refine k_new C hw nf7 cl_7 (gtb_of (tb_m4 (i := 86) rfl) rfl) (gtb_of (tb_m4 (i := 87) rfl) rfl) (gtb_of (tb_m1 (i := 8) rfl) rfl) tyX7 tyX7_ok (fun j hj => match j, hj with | 0, _ => rfl | 1, _ => rfl | 2, _ => rfl | 3, _ => rfl | 4, _ => rfl | 5, _ => rfl | 6, _ => rfl | 7, _ => rfl | 8, _ => rfl | 9, _ => rfl | 10, _ => rfl | 11, _ => rfl | 12, _ => rfl | 13, _ => rfl | 14, _ => rfl | 15, _ => rfl | 16, _ => rfl | 17, _ => rfl | 18, _ => rfl | 19, _ => rfl | 20, _ => rfl | 21, _ => rfl | 22, _ => rfl | 23, _ => rfl | 24, _ => rfl | 25, _ => rfl | 26, _ => rfl | 27, _ => rfl | 28, _ => rfl | 29, _ => rfl | (_ + 30), h => absurd h (by omega)) (by decide +kernel) (by decide +kernel) dL_law_8 (fun v71 H hw => ?_)
  refine lv_dup hx hb dL_law_11 rfl ?_
  refine k_init (n := 0) C hw hl (kX7_init k v71) ⟨gtb_of (tb_m1 (i := 8) rfl) rfl, gtb_of (tb_m4 (i := 90) rfl) rfl, by decide +kernel, by decide +kernel, by decide +kernel, by decide⟩ (gtb_of (tb_m4 (i := 89) rfl) rfl) (Or.inl (gtb_of (tb_m4 (i := 88) rfl) rfl)) rfl ⟨by decide +kernel, by decide +kernel⟩ ⟨by decide +kernel, by decide +kernel⟩ rfl rfl (Nat.le_of_ble_eq_true rfl) dL_law_12 (fun ws1 H locs hQ hw => ?_)
  obtain ⟨v72, v73, v74, v75, v76, v77, v78, v79, v80, v81, v82, v83, v84, v85, v86, v87, v88, v89, v90, v91, rfl⟩ := hQ
  refine lv_astore_n (lv' := [(2, .ref v71), (1, .ref v0), (0, .ref b)]) hx hb dL_law_15 rfl hl (by decide) rfl (fun ls hl => ?_)
  refine lv_iconst (v := 0) hx hb dL_law_16 (by decide) ?_
  refine lv_istore_n (lv' := [(3, .int 0), (2, .ref v71), (1, .ref v0), (0, .ref b)]) hx hb dL_law_17 rfl hl (by decide) rfl (fun ls hl => ?_)
  refine W.widen (k := 600000) (n := 7302250) (by decide +kernel) (by decide +kernel) ?_
  generalize hgg : mkG d1 d2 cI cB cZ [v0, v1, v2, v3, v4, v5, v6, v7, v14, v15, v16, v17, v18, v19, v8, v9, v10, v11, v12, v13, v20, v21, v22, v23, v24, v25, v59, v60, v61, v62, v63, v64, v65, v66, v67, v68, v69, v70, v26, v27, v28, v29, v30, v31, v32, v33, v34, v35, v36, v37, v38, v39, v40, v41, v42, v43, v44, v45, v46, v47, v48, v49, v50, v51, v52, v53, v54, v55, v56, v57, v58, v71, v72, v73, v74, v75, v76, v77, v78, v79, v80, v81, v82, v83, v84, v85, v86, v87, v88, v89, v90, v91] ts adK adV = g
  have hw2 : va_P (gD g) vwCl (W0 g (gD g, gI g, gB g, gZ g, ts 2, s.heap.size)) H ∧ va_D (lA s) (W0 g (gD g, gI g, gB g, gZ g, ts 2, s.heap.size)) := by
    subst hgg hkk
    exact ⟨hw.1, hw.2.1⟩
  obtain ⟨hinj, har⟩ := w0_inj hw2.2
  have hFg : Fx g s s.heap := by
    subst hgg
    exact hFx _ har
  have hKg : va_K (gD g) vwCl (tyO g) s := by
    subst hgg
    exact hK
  have hl0 : lv_has ls 4 (lLoc g b ((0 : Nat) : Int)) := by
    subst hgg
    exact lv_sub hl [3, 2, 1, 0] rfl
  refine l_loop ⟨hx, hb, hml, hown, hg, hKg, hFg, hinj, har, hX, hbl⟩ hL ⟨Nat.le_refl _, Nat.le_refl _⟩ (fun H locs ls hS => ?_) L 0 (by omega) sg0 H locs ls inv0 okS_sg0 (w0_P hw2.1) hw.2.2 hl0 (by omega)
  refine lv_iconst (v := 1) hx hb dL_law_882 (by decide) ?_
  refine va_forget hS.2.2 ?_
  exact lw_ret hx hb hr hlocks dL_law_883
