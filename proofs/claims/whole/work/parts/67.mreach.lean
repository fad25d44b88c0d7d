set_option maxHeartbeats 4000000 in
set_option maxRecDepth 100000 in
theorem lok_setL {g : GG} {ls : Array Slot} {loc : List (Option MV)} {k : Nat} {z : Int} (h : lv_has ls loc.length ((k, tv g (mL z)) :: (als g 0 loc).filter (fun q => !(q.1 == k) && (!(q.1 == k + 1) && !(q.1 + 1 == k && q.2.category == 2))))) (hn : noL loc k = true) (ho : ∀ u, some u ∈ loc → okv u) (hv : okL z) : lok g ls ((loc.set (k + 1) none).set k (some (mL z))) := by
  refine ⟨⟨by rw [List.length_set, List.length_set]; exact h.1, h.2.1, fun q hq => ?_⟩, fun u hu => ?_⟩
  · obtain ⟨j, u, h1, h2⟩ := als_inv _ _ hq
    rw [List.getElem?_set] at h1
    by_cases hj : k = j
    · subst hj
      rw [if_pos rfl] at h1
      split at h1
      · have e : mL z = u := by simpa using h1
        subst e
        refine h.2.2 q (List.mem_cons.mpr (Or.inl ?_))
        rw [h2]; simp
      · cases h1
    · rw [if_neg hj, List.getElem?_set] at h1
      by_cases hj2 : k + 1 = j
      · rw [if_pos hj2] at h1
        split at h1 <;> cases h1
      · rw [if_neg hj2] at h1
        refine h.2.2 q (List.mem_cons.mpr (Or.inr (List.mem_filter.mpr ⟨?_, ?_⟩)))
        · rw [h2]; exact als_mem loc 0 j h1
        · have e1 : (q.1 == k) = false := by rw [h2]; simp; omega
          have e2 : (q.1 == k + 1) = false := by rw [h2]; simp; omega
          rw [e1, e2]
          simp only [Bool.not_false, Bool.true_and, Bool.not_eq_true', Bool.and_eq_false_iff]
          by_cases hk : q.1 + 1 = k
          · right
            have hjk : k = j + 1 := by rw [h2] at hk; simp at hk; omega
            rw [hjk] at hn
            simp only [noL, h1] at hn
            by_cases hc : (tv g u).category = 2
            · obtain ⟨z, rfl⟩ := tv_cat hc
              simp at hn
            · rw [h2]; simpa using hc
          · left
            simpa using hk
  · rcases List.mem_or_eq_of_mem_set hu with h1 | h1
    · rcases List.mem_or_eq_of_mem_set h1 with h1 | h1
      · exact ho u h1
      · cases h1
    · cases h1; exact hv
set_option maxHeartbeats 4000000 in
set_option maxRecDepth 100000 in
theorem wp_lstore_n {cc : ByteArray} {own : String} {rt : Option FieldType} {d pc : Nat} {loc : List (Option MV)} {st : List MV} {σ : Sto} {Q : Option MV → Sto → Prop} {k : Fin 4} {i : Nat} {z : Int} (hd : decode cc pc = .ok (.lstore_n k, 1)) (hi : (k : Nat) = i) (hlt : i + 1 < loc.length) (hn : noL loc i = true) (k : Wp cc own rt d (pc + 1) ((loc.set (i + 1) none).set i (some (mL z))) st σ Q) : Wp cc own rt d pc loc (mL z :: st) σ Q := by
  intro g p l e s m args below meth c H locs ls C hP hS hσ hl hst
  exact lv_lstore_n C.1 C.2.1 hd hi hl.1 hlt rfl (fun ls2 h2 => k g p l e s m args below meth c H locs ls2 (by rw [List.length_set, List.length_set]; exact C) hP hS hσ (lok_setL h2 hn hl.2 hst.1) hst.2)
set_option maxHeartbeats 4000000 in
set_option maxRecDepth 100000 in
theorem m_reachOf {σ D S : Sto} {p j : Int} (h : RM σ D S) (hp : 0 ≤ p ∧ p < D 0 0) : CtI yX7_reachOf cX7_reachOf 9 (some .int) 3 [mR 71, mI p, mI j] σ (fun z σ' => z = rch D S p j ∧ σ' = σ) := by
  refine ct_of rfl [some (mR 71), some (mI p), some (mI j), none, none, none, none, none, none] (Nat.le_of_ble_eq_true rfl) rfl (fun hσ => ?_)
  show Wp cX7_reachOf RX7 (some .int) 3 0 [some (mR 71), some (mI p), some (mI j), none, none, none, none, none, none] [] _ _
  refine wp_okl (fun hlv => ?_)
  have hj : okI j := hlv (mI j) (by simp)
  have q := h.p hp.1 hp.2
  have t := h.st
  have hlp : 0 ≤ j → 0 ≤ D 2 p → Wp cX7_reachOf RX7 (some .int) 3 36 [some (mR 71), some (mI p), some (mI j), some (mL (j * D 5 1)), none, some (mI (-4)), some (mI 0), none, none] [] σ (fun v σ' => ∃ z, v = some (mI z) ∧ (fun z σ' => z = rch D S p j ∧ σ' = σ) z σ') := by
    intro hj0 hs
    obtain ⟨g1, g2, g3, g4, g5⟩ := h.g hp.1 hp.2 hs
    have hb := rbs_bd h.2.2.2.1 h.2.2.2.2 j hp.1 hp.2 hs
    have er : rch D S p j = if rbs D S p j < 0 then 0 else rbs D S p j + D 5 3 := by unfold rch; rw [if_neg (by omega)]
    have hm := mulb (a := j) (b := D 5 1) (A := 2147483648) (B := 20) hj0 (by have := hj.2; omega) (by omega) (by omega)
    have lp : ∀ i, i ≤ S 3 (D 2 p) → 0 ≤ i → Wp cX7_reachOf RX7 (some .int) 3 36 [some (mR 71), some (mI p), some (mI j), some (mL (j * D 5 1)), none, some (mI (rbI (dbg D S p) (den D S p) (dex D S p) (j * D 5 1) (D 5 1) i)), some (mI i), none, none] [] σ (fun v σ' => ∃ z, v = some (mI z) ∧ (fun z σ' => z = rch D S p j ∧ σ' = σ) z σ') := by
      refine up_ind _ (fun i hi ih i0 => ?_)
      have w121 : ∀ b, b = rbI (dbg D S p) (den D S p) (dex D S p) (j * D 5 1) (D 5 1) (i + 1) → i < S 3 (D 2 p) → Wp cX7_reachOf RX7 (some .int) 3 121 [some (mR 71), some (mI p), some (mI j), some (mL (j * D 5 1)), none, some (mI b), some (mI i), none, none] [] σ (fun v σ' => ∃ z, v = some (mI z) ∧ (fun z σ' => z = rch D S p j ∧ σ' = σ) z σ') := by
        intro b hbe hi3
        rw [hbe]
        refine wp_iinc (pc := 121) dX7_reachOf_121 rfl rfl (by omega) ?_
        refine wp_goto (pc := 124) 36 dX7_reachOf_124 (by decide) ?_
        exact ih hi3 (by omega)
      refine wp_iload (pc := 36) dX7_reachOf_36 rfl ?_
      refine wp_aload_n (pc := 38) dX7_reachOf_38 rfl rfl ?_
      refine wp_iload_n (pc := 39) dX7_reachOf_39 rfl rfl ?_
      refine wp_iconst (pc := 40) dX7_reachOf_40 (by decide) ?_
      refine wp_cvI2 (pc := 41) dX7_reachOf_41 mv_X7_180 (m_ofShape h hp hs (by omega)) (Nat.le_of_ble_eq_true rfl) rfl (Nat.le_of_ble_eq_true rfl) (fun z_41 σ_41 h_41 => ?_)
      obtain ⟨rfl, e_41⟩ := h_41; have e2_41 := e_41.symm; subst e2_41
      refine wp_icmp_ge (pc := 44) 127 dX7_reachOf_44 (by decide) (fun c_44 => ?_) (fun c_44 => ?_)
      · have ei : i = S 3 (D 2 p) := by omega
        have eb : rbI (dbg D S p) (den D S p) (dex D S p) (j * D 5 1) (D 5 1) i = rbs D S p j := by rw [ei]; rfl
        rw [eb]
        refine wp_iload (pc := 127) dX7_reachOf_127 rfl ?_
        refine wp_bipush (pc := 129) dX7_reachOf_129 (by decide) (by decide) ?_
        refine wp_icmp_ne (pc := 131) 138 dX7_reachOf_131 (by decide) (fun c_131 => ?_) (fun c_131 => ?_)
        · refine wp_iload (pc := 138) dX7_reachOf_138 rfl ?_
          refine wp_aload_n (pc := 140) dX7_reachOf_140 rfl rfl ?_
          refine wp_getR (pc := 141) (q := 72) dX7_reachOf_141 fl_X7_7 rfl ?_
          refine wp_sipush (pc := 144) dX7_reachOf_144 (by decide) (by decide) ?_
          refine wp_iald (pc := 147) 591 dX7_reachOf_147 rfl (by omega) ?_
          refine wp_iadd (pc := 148) dX7_reachOf_148 (by omega) ?_
          refine wp_ireturn (pc := 149) dX7_reachOf_149 rfl ?_
          first
            | exact ⟨_, rfl, by rw [er, if_pos (by omega)], rfl⟩
            | exact ⟨_, rfl, by rw [er, if_neg (by omega)]; omega, rfl⟩
        · refine wp_iconst (pc := 134) dX7_reachOf_134 (by decide) ?_
          refine wp_goto (pc := 135) 149 dX7_reachOf_135 (by decide) ?_
          refine wp_ireturn (pc := 149) dX7_reachOf_149 rfl ?_
          first
            | exact ⟨_, rfl, by rw [er, if_pos (by omega)], rfl⟩
            | exact ⟨_, rfl, by rw [er, if_neg (by omega)]; omega, rfl⟩
      · have hi3 : i < S 3 (D 2 p) := by omega
        have hd1 := dbg_bd h.2.2.2.1 h.2.2.2.2 hp.1 hp.2 hs i0 hi3
        have hd2 := den_bd h.2.2.2.1 h.2.2.2.2 hp.1 hp.2 hs i0 hi3
        have hd3 := dex_bd h.2.2.2.1 h.2.2.2.2 hp.1 hp.2 hs i0 hi3
        have hh := hgt_bd h.2.2.2.1 hp.1 hp.2 hs
        have ed : (if i + 1 = S 3 (D 2 p) then hgt D p else dbg D S p (i + 1)) = den D S p i := by
          unfold den
          by_cases c : i + 1 = S 3 (D 2 p)
          · rw [if_pos c, if_pos (by omega)]
          · rw [if_neg c, if_neg (by omega)]
        refine wp_aload_n (pc := 47) dX7_reachOf_47 rfl rfl ?_
        refine wp_iload_n (pc := 48) dX7_reachOf_48 rfl rfl ?_
        refine wp_iload (pc := 49) dX7_reachOf_49 rfl ?_
        refine wp_cvI2 (pc := 51) dX7_reachOf_51 mv_X7_186 (m_drawnBegin h hp hs (by omega)) (Nat.le_of_ble_eq_true rfl) rfl (Nat.le_of_ble_eq_true rfl) (fun z_51 σ_51 h_51 => ?_)
        obtain ⟨rfl, e_51⟩ := h_51; have e2_51 := e_51.symm; subst e2_51
        rw [if_neg (show ¬ i = S 3 (D 2 p) by omega)]
        refine wp_istore (pc := 54) dX7_reachOf_54 (Nat.le_of_ble_eq_true rfl) rfl ?_
        refine wp_aload_n (pc := 56) dX7_reachOf_56 rfl rfl ?_
        refine wp_iload_n (pc := 57) dX7_reachOf_57 rfl rfl ?_
        refine wp_iload (pc := 58) dX7_reachOf_58 rfl ?_
        refine wp_iconst (pc := 60) dX7_reachOf_60 (by decide) ?_
        refine wp_iadd (pc := 61) dX7_reachOf_61 (by omega) ?_
        refine wp_cvI2 (pc := 62) dX7_reachOf_62 mv_X7_186 (m_drawnBegin h hp hs (by omega)) (Nat.le_of_ble_eq_true rfl) rfl (Nat.le_of_ble_eq_true rfl) (fun z_62 σ_62 h_62 => ?_)
        obtain ⟨rfl, e_62⟩ := h_62; have e2_62 := e_62.symm; subst e2_62
        rw [ed]
        refine wp_istore (pc := 65) dX7_reachOf_65 (Nat.le_of_ble_eq_true rfl) rfl ?_
        refine wp_iload (pc := 67) dX7_reachOf_67 rfl ?_
        refine wp_iload (pc := 69) dX7_reachOf_69 rfl ?_
        refine wp_icmp_ge (pc := 71) 121 dX7_reachOf_71 (by decide) (fun c_71 => ?_) (fun c_71 => ?_)
        · refine wp_fgt [7, 8] ?_
          first
            | exact w121 _ (by rw [rbI_s i0, if_pos (by omega)]) hi3
            | exact w121 _ (by rw [rbI_s i0, if_neg (by omega)]) hi3
        · refine wp_iload (pc := 74) dX7_reachOf_74 rfl ?_
          refine wp_i2l (pc := 76) dX7_reachOf_76 ?_
          refine wp_lload_n (pc := 77) dX7_reachOf_77 rfl rfl ?_
          refine wp_aload_n (pc := 78) dX7_reachOf_78 rfl rfl ?_
          refine wp_getR (pc := 79) (q := 72) dX7_reachOf_79 fl_X7_7 rfl ?_
          refine wp_sipush (pc := 82) dX7_reachOf_82 (by decide) (by decide) ?_
          refine wp_iald (pc := 85) 591 dX7_reachOf_85 rfl (by omega) ?_
          rw [t.1.2.1]
          refine wp_i2l (pc := 86) dX7_reachOf_86 ?_
          refine wp_ladd (pc := 87) dX7_reachOf_87 (by exact ⟨by omega, by omega⟩) ?_
          refine wp_lcmp_ge (pc := 88) 121 dX7_reachOf_88 dX7_reachOf_89 (by decide) (fun c_88 => ?_) (fun c_88 => ?_)
          · refine wp_fgt [7, 8] ?_
            first
              | exact w121 _ (by rw [rbI_s i0, if_pos (by omega)]) hi3
              | exact w121 _ (by rw [rbI_s i0, if_neg (by omega)]) hi3
          · refine wp_iload (pc := 92) dX7_reachOf_92 rfl ?_
            refine wp_i2l (pc := 94) dX7_reachOf_94 ?_
            refine wp_lload_n (pc := 95) dX7_reachOf_95 rfl rfl ?_
            refine wp_lcmp_le (pc := 96) 121 dX7_reachOf_96 dX7_reachOf_97 (by decide) (fun c_96 => ?_) (fun c_96 => ?_)
            · refine wp_fgt [7, 8] ?_
              first
                | exact w121 _ (by rw [rbI_s i0, if_pos (by omega)]) hi3
                | exact w121 _ (by rw [rbI_s i0, if_neg (by omega)]) hi3
            · refine wp_aload_n (pc := 100) dX7_reachOf_100 rfl rfl ?_
              refine wp_iload_n (pc := 101) dX7_reachOf_101 rfl rfl ?_
              refine wp_iload (pc := 102) dX7_reachOf_102 rfl ?_
              refine wp_cvI2 (pc := 104) dX7_reachOf_104 mv_X7_189 (m_drawnExtent h hp hs ⟨i0, hi3⟩) (Nat.le_of_ble_eq_true rfl) rfl (Nat.le_of_ble_eq_true rfl) (fun z_104 σ_104 h_104 => ?_)
              obtain ⟨rfl, e_104⟩ := h_104; have e2_104 := e_104.symm; subst e2_104
              refine wp_iload (pc := 107) dX7_reachOf_107 rfl ?_
              refine wp_icmp_le (pc := 109) 121 dX7_reachOf_109 (by decide) (fun c_109 => ?_) (fun c_109 => ?_)
              · refine wp_fgt [7, 8] ?_
                first
                  | exact w121 _ (by rw [rbI_s i0, if_pos (by omega)]) hi3
                  | exact w121 _ (by rw [rbI_s i0, if_neg (by omega)]) hi3
              · refine wp_aload_n (pc := 112) dX7_reachOf_112 rfl rfl ?_
                refine wp_iload_n (pc := 113) dX7_reachOf_113 rfl rfl ?_
                refine wp_iload (pc := 114) dX7_reachOf_114 rfl ?_
                refine wp_cvI2 (pc := 116) dX7_reachOf_116 mv_X7_189 (m_drawnExtent h hp hs ⟨i0, hi3⟩) (Nat.le_of_ble_eq_true rfl) rfl (Nat.le_of_ble_eq_true rfl) (fun z_116 σ_116 h_116 => ?_)
                obtain ⟨rfl, e_116⟩ := h_116; have e2_116 := e_116.symm; subst e2_116
                refine wp_istore (pc := 119) dX7_reachOf_119 (Nat.le_of_ble_eq_true rfl) rfl ?_
                refine wp_fgt [7, 8] ?_
                first
                  | exact w121 _ (by rw [rbI_s i0, if_pos (by omega)]) hi3
                  | exact w121 _ (by rw [rbI_s i0, if_neg (by omega)]) hi3
    exact lp 0 (by omega) (by decide)
  refine wp_aload_n (pc := 0) dX7_reachOf_0 rfl rfl ?_
  refine wp_iload_n (pc := 1) dX7_reachOf_1 rfl rfl ?_
  refine wp_cvI1 (pc := 2) dX7_reachOf_2 mv_X7_174 (m_parShape h (by omega)) (Nat.le_of_ble_eq_true rfl) rfl (Nat.le_of_ble_eq_true rfl) (fun z_2 σ_2 h_2 => ?_)
  obtain ⟨rfl, e_2⟩ := h_2; have e2_2 := e_2.symm; subst e2_2
  refine wp_bipush (pc := 5) dX7_reachOf_5 (by decide) (by decide) ?_
  refine wp_icmp_eq (pc := 7) 14 dX7_reachOf_7 (by decide) (fun c_7 => ?_) (fun c_7 => ?_)
  · refine wp_iconst (pc := 14) dX7_reachOf_14 (by decide) ?_
    refine wp_ireturn (pc := 15) dX7_reachOf_15 rfl ?_
    refine ⟨_, rfl, ?_, rfl⟩
    unfold rch
    rw [if_pos (by omega)]
  · refine wp_iload_n (pc := 10) dX7_reachOf_10 rfl rfl ?_
    refine wp_if_ge (pc := 11) 16 dX7_reachOf_11 (by decide) (fun c_11 => ?_) (fun c_11 => ?_)
    · refine wp_iload_n (pc := 16) dX7_reachOf_16 rfl rfl ?_
      refine wp_i2l (pc := 17) dX7_reachOf_17 ?_
      refine wp_aload_n (pc := 18) dX7_reachOf_18 rfl rfl ?_
      refine wp_getR (pc := 19) (q := 72) dX7_reachOf_19 fl_X7_7 rfl ?_
      refine wp_sipush (pc := 22) dX7_reachOf_22 (by decide) (by decide) ?_
      refine wp_iald (pc := 25) 591 dX7_reachOf_25 rfl (by omega) ?_
      rw [t.1.2.1]
      refine wp_i2l (pc := 26) dX7_reachOf_26 ?_
      refine wp_lmul (pc := 27) dX7_reachOf_27 (by have hm := mulb (a := j) (b := D 5 1) (A := 2147483648) (B := 20) (by omega) (by have := hj.2; omega) (by omega) (by omega); exact ⟨by omega, by omega⟩) ?_
      refine wp_lstore_n (pc := 28) dX7_reachOf_28 rfl (Nat.le_of_ble_eq_true rfl) rfl ?_
      refine wp_bipush (pc := 29) dX7_reachOf_29 (by decide) (by decide) ?_
      refine wp_istore (pc := 31) dX7_reachOf_31 (Nat.le_of_ble_eq_true rfl) rfl ?_
      refine wp_iconst (pc := 33) dX7_reachOf_33 (by decide) ?_
      refine wp_istore (pc := 34) dX7_reachOf_34 (Nat.le_of_ble_eq_true rfl) rfl ?_
      exact hlp (by omega) (by omega)
    · refine wp_iconst (pc := 14) dX7_reachOf_14 (by decide) ?_
      refine wp_ireturn (pc := 15) dX7_reachOf_15 rfl ?_
      refine ⟨_, rfl, ?_, rfl⟩
      unfold rch
      rw [if_pos (by omega)]
set_option maxHeartbeats 4000000 in
set_option maxRecDepth 100000 in
theorem mxI_nn (f : Int → Int) (n : Int) : 0 ≤ mxI f n := by
  unfold mxI
  generalize n.toNat = k
  induction k with
  | zero => exact Int.le_refl _
  | succ k ih => simp only [mxN]; omega
set_option maxHeartbeats 4000000 in
set_option maxRecDepth 100000 in
theorem mxI_ext {f : Int → Int} {a b : Int} (h0 : 0 ≤ a) (hab : a ≤ b) (h : ∀ k, a ≤ k → k < b → f k ≤ 0) : mxI f b = mxI f a := by
  have key : ∀ d : Nat, a + d ≤ b → mxI f (a + d) = mxI f a := by
    intro d
    induction d with
    | zero => intro _; simp
    | succ d ih =>
      intro hd
      have e : a + ((d + 1 : Nat) : Int) = (a + d) + 1 := by omega
      rw [e, mxI_s (by omega), ih (by omega)]
      have h1 := h (a + d) (by omega) (by omega)
      have h2 : 0 ≤ mxI f a := mxI_nn _ _
      omega
  have := key (b - a).toNat (by omega)
  rw [show a + (((b - a).toNat : Nat) : Int) = b by omega] at this
  exact this
set_option maxHeartbeats 4000000 in
set_option maxRecDepth 100000 in
theorem rch_out {D S : Sto} (h : OKD D S) (hS : OKS S) {p j : Int} (h0 : 0 ≤ p) (hp : p < D 0 0) (hs : 0 ≤ D 2 p) (hj : hgt D p ≤ j * D 5 1) : rch D S p j = 0 := by
  unfold rch
  split
  · rfl
  · have e : rbs D S p j = -4 := rbI_out (fun k a b => by have := den_bd h hS h0 hp (by omega) a b; omega)
    rw [e, if_pos (by omega)]
set_option maxHeartbeats 4000000 in
set_option maxRecDepth 100000 in
theorem m_reachedBy {σ D S : Sto} {p : Int} (h : RM σ D S) (hp : 0 ≤ p ∧ p < D 0 0) (hB : σ 82 p = LB D S p) : CtI yX7_reachedBy cX7_reachedBy 4 (some .int) 4 [mR 71, mI p] σ (fun z σ' => z = mxI (pshJ D S (LB D S) p) 9 ∧ σ' = σ) := by
  refine ct_of rfl [some (mR 71), some (mI p), none, none] (Nat.le_of_ble_eq_true rfl) rfl (fun hσ => ?_)
  show Wp cX7_reachedBy RX7 (some .int) 4 0 [some (mR 71), some (mI p), none, none] [] _ _
  have q := h.p hp.1 hp.2
  have t := h.st
  have n := h.n
  have lb := LBb h.2.2.2.1 hp.1 hp.2
  have lp : ∀ j, j ≤ 9 → 0 ≤ j → Wp cX7_reachedBy RX7 (some .int) 4 4 [some (mR 71), some (mI p), some (mI (mxI (pshJ D S (LB D S) p) j)), some (mI j)] [] σ (fun v σ' => ∃ z, v = some (mI z) ∧ (fun z σ' => z = mxI (pshJ D S (LB D S) p) 9 ∧ σ' = σ) z σ') := by
    refine up_ind 9 (fun j hj ih j0 => ?_)
    have hm := mulb (a := j) (b := D 5 1) (A := 9) (B := 20) j0 hj (by omega) (by omega)
    have hx := mxI_bd (f := pshJ D S (LB D S) p) (n := j) (c := LB D S p + j) (by omega) (fun k k0 k1 => by unfold pshJ; split <;> omega)
    have hs := mxI_s (f := pshJ D S (LB D S) p) j0
    have e9 : D 2 p < 0 ∨ hgt D p ≤ j * D 5 1 → mxI (pshJ D S (LB D S) p) 9 = mxI (pshJ D S (LB D S) p) j := fun c => by
      refine mxI_ext j0 hj (fun k k0 k1 => ?_)
      have e0 : rch D S p k = 0 := by
        rcases Classical.em (D 2 p < 0) with c2 | c2
        · unfold rch; rw [if_pos (Or.inl c2)]
        · refine rch_out h.2.2.2.1 h.2.2.2.2 hp.1 hp.2 (by omega) ?_
          have := Int.mul_le_mul_of_nonneg_right k0 (show 0 ≤ D 5 1 by omega)
          omega
      unfold pshJ
      rw [e0, if_neg (by omega)]
      exact Int.le_refl _
    have h9 : ¬ D 2 p < 0 → j = 9 → hgt D p ≤ j * D 5 1 := fun c e => by
      have := hgt_bd h.2.2.2.1 hp.1 hp.2 (show 0 ≤ D 2 p by omega)
      rw [e]; omega
    refine wp_iload_n (pc := 4) dX7_reachedBy_4 rfl rfl ?_
    refine wp_aload_n (pc := 5) dX7_reachedBy_5 rfl rfl ?_
    refine wp_getR (pc := 6) (q := 72) dX7_reachedBy_6 fl_X7_7 rfl ?_
    refine wp_sipush (pc := 9) dX7_reachedBy_9 (by decide) (by decide) ?_
    refine wp_iald (pc := 12) 591 dX7_reachedBy_12 rfl (by omega) ?_
    rw [t.1.2.1]
    refine wp_imul (pc := 13) dX7_reachedBy_13 (by omega) ?_
    refine wp_aload_n (pc := 14) dX7_reachedBy_14 rfl rfl ?_
    refine wp_iload_n (pc := 15) dX7_reachedBy_15 rfl rfl ?_
    refine wp_cvI1 (pc := 16) dX7_reachedBy_16 mv_X7_183 (m_heightOf h (by omega)) (Nat.le_of_ble_eq_true rfl) rfl (Nat.le_of_ble_eq_true rfl) (fun z_16 σ_16 h_16 => ?_)
    obtain ⟨rfl, e_16⟩ := h_16; have e2_16 := e_16.symm; subst e2_16
    have hc : ∀ z, (z = if D 2 p < 0 then 0 else hgt D p) → (D 2 p < 0 ∧ z = 0) ∨ (¬ D 2 p < 0 ∧ z = hgt D p) := fun z hz => by
      split at hz <;> omega
    have hc2 := hc _ rfl
    generalize (if D 2 p < 0 then 0 else hgt D p) = hz at *
    refine wp_icmp_ge (pc := 19) 52 dX7_reachedBy_19 (by decide) (fun c_19 => ?_) (fun c_19 => ?_)
    · refine wp_iload_n (pc := 52) dX7_reachedBy_52 rfl rfl ?_
      refine wp_ireturn (pc := 53) dX7_reachedBy_53 rfl ?_
      exact ⟨_, rfl, (e9 (by omega)).symm, rfl⟩
    · have hj9 : j < 9 := by omega
      refine wp_aload_n (pc := 22) dX7_reachedBy_22 rfl rfl ?_
      refine wp_iload_n (pc := 23) dX7_reachedBy_23 rfl rfl ?_
      refine wp_iload_n (pc := 24) dX7_reachedBy_24 rfl rfl ?_
      refine wp_cvI2 (pc := 25) dX7_reachedBy_25 mv_X7_192 (m_reachOf h (by omega)) (Nat.le_of_ble_eq_true rfl) rfl (Nat.le_of_ble_eq_true rfl) (fun z_25 σ_25 h_25 => ?_)
      obtain ⟨rfl, e_25⟩ := h_25; have e2_25 := e_25.symm; subst e2_25
      refine wp_if_le (pc := 28) 44 dX7_reachedBy_28 (by decide) (fun c_28 => ?_) (fun c_28 => ?_)
      · refine wp_iload_n (pc := 44) dX7_reachedBy_44 rfl rfl ?_
        refine wp_istore_n (pc := 45) dX7_reachedBy_45 rfl (Nat.le_of_ble_eq_true rfl) rfl ?_
        refine wp_iinc (pc := 46) dX7_reachedBy_46 rfl rfl (by omega) ?_
        refine wp_goto (pc := 49) 4 dX7_reachedBy_49 (by decide) ?_
        first
          | (have e1 : LB D S p + j + 1 = mxI (pshJ D S (LB D S) p) (j + 1) := by
               rw [hs]; unfold pshJ at *; rw [if_pos (by omega)]; omega
             rw [e1]
             exact ih hj9 (by omega))
          | (have e1 : mxI (pshJ D S (LB D S) p) j = mxI (pshJ D S (LB D S) p) (j + 1) := by
               rw [hs, show pshJ D S (LB D S) p j = 0 by unfold pshJ; rw [if_neg (by omega)]]; omega
             rw [e1]
             exact ih hj9 (by omega))
      · refine wp_aload_n (pc := 31) dX7_reachedBy_31 rfl rfl ?_
        refine wp_getR (pc := 32) (q := 82) dX7_reachedBy_32 fl_X7_41 rfl ?_
        refine wp_iload_n (pc := 35) dX7_reachedBy_35 rfl rfl ?_
        refine wp_iald (pc := 36) 9 dX7_reachedBy_36 rfl (by omega) ?_
        rw [hB]
        refine wp_iload_n (pc := 37) dX7_reachedBy_37 rfl rfl ?_
        refine wp_iadd (pc := 38) dX7_reachedBy_38 (by omega) ?_
        refine wp_iconst (pc := 39) dX7_reachedBy_39 (by decide) ?_
        refine wp_iadd (pc := 40) dX7_reachedBy_40 (by omega) ?_
        refine wp_goto (pc := 41) 45 dX7_reachedBy_41 (by decide) ?_
        refine wp_istore_n (pc := 45) dX7_reachedBy_45 rfl (Nat.le_of_ble_eq_true rfl) rfl ?_
        refine wp_iinc (pc := 46) dX7_reachedBy_46 rfl rfl (by omega) ?_
        refine wp_goto (pc := 49) 4 dX7_reachedBy_49 (by decide) ?_
        first
          | (have e1 : LB D S p + j + 1 = mxI (pshJ D S (LB D S) p) (j + 1) := by
               rw [hs]; unfold pshJ at *; rw [if_pos (by omega)]; omega
             rw [e1]
             exact ih hj9 (by omega))
          | (have e1 : mxI (pshJ D S (LB D S) p) j = mxI (pshJ D S (LB D S) p) (j + 1) := by
               rw [hs, show pshJ D S (LB D S) p j = 0 by unfold pshJ; rw [if_neg (by omega)]]; omega
             rw [e1]
             exact ih hj9 (by omega))
  refine wp_iconst (pc := 0) dX7_reachedBy_0 (by decide) ?_
  refine wp_istore_n (pc := 1) dX7_reachedBy_1 rfl (Nat.le_of_ble_eq_true rfl) rfl ?_
  refine wp_iconst (pc := 2) dX7_reachedBy_2 (by decide) ?_
  refine wp_istore_n (pc := 3) dX7_reachedBy_3 rfl (Nat.le_of_ble_eq_true rfl) rfl ?_
  exact lp 0 (by decide) (by decide)
set_option maxHeartbeats 4000000 in
set_option maxRecDepth 100000 in
theorem wid_n {c : Int} (h : okC c) : sumI (fun k => lwd (ltr c k)) (nlt c) = wid c ∧ nlt c ≤ 6 := by
  have h6 : nlt c ≤ 6 := by
    have := sumI_bd (f := fun k => if ltr c k = 0 then 0 else 1) (n := 6) (c := 1) (by decide) (fun k _ _ => by split <;> omega)
    unfold nlt
    omega
  refine ⟨?_, h6⟩
  have h1 := h.2.2.1
  have key : ∀ d : Nat, nlt c + d ≤ 6 → sumI (fun k => lwd (ltr c k)) (nlt c + d) = sumI (fun k => lwd (ltr c k)) (nlt c) := by
    intro d
    induction d with
    | zero => intro _; simp
    | succ d ih =>
      intro hd
      rw [show nlt c + ((d + 1 : Nat) : Int) = (nlt c + d) + 1 by omega, sumI_s (by omega), ih (by omega), (h.2.2.2 (nlt c + d) (by omega) (by omega)).2 (by omega)]
      show _ + lwd 0 = _
      rw [show lwd 0 = 0 from rfl]
      omega
  have := key (6 - nlt c).toNat (by omega)
  rw [show nlt c + (((6 - nlt c).toNat : Nat) : Int) = 6 by omega] at this
  exact this.symm
set_option maxHeartbeats 4000000 in
set_option maxRecDepth 100000 in
theorem RM.w {σ D S : Sto} (h : RM σ D S) {w : Int} (w0 : 0 ≤ w) (hw : w < tot D) : σ 72 (25 + 7 * w) = nlt (D 4 w) ∧ (∀ k, 0 ≤ k → k < 6 → σ 72 (25 + 7 * w + 1 + k) = ltr (D 4 w) k) ∧ okC (D 4 w) ∧ 1 ≤ nlt (D 4 w) ∧ nlt (D 4 w) ≤ 6 := by
  obtain ⟨a, b⟩ := h.1.2.2.1 w w0 hw
  have c := h.2.2.2.1.2.2.2.2.1 w w0 hw
  exact ⟨a, b, c, c.2.2.1, (wid_n c).2⟩
set_option maxHeartbeats 4000000 in
set_option maxRecDepth 100000 in
theorem m_widthOf {σ D S : Sto} {w : Int} (h : RM σ D S) (hw : 0 ≤ w ∧ w < tot D) : CtI yX7_widthOf cX7_widthOf 5 (some .int) 0 [mR 71, mI w] σ (fun z σ' => z = wid (D 4 w) ∧ σ' = σ) := by
  refine ct_of rfl [some (mR 71), some (mI w), none, none, none] (Nat.le_of_ble_eq_true rfl) rfl (fun hσ => ?_)
  show Wp cX7_widthOf RX7 (some .int) 0 0 [some (mR 71), some (mI w), none, none, none] [] _ _
  have n := h.n
  obtain ⟨a, b, c, d1, d6⟩ := h.w hw.1 hw.2
  have lp : ∀ k, k ≤ nlt (D 4 w) → 0 ≤ k → Wp cX7_widthOf RX7 (some .int) 0 4 [some (mR 71), some (mI w), some (mI (sumI (fun k => lwd (ltr (D 4 w) k)) k)), some (mI k), none] [] σ (fun v σ' => ∃ z, v = some (mI z) ∧ (fun z σ' => z = wid (D 4 w) ∧ σ' = σ) z σ') := by
    refine up_ind _ (fun k hk ih k0 => ?_)
    have hb := sumI_bd (f := fun k => lwd (ltr (D 4 w) k)) (n := k) (c := 3) k0 (fun k _ _ => lwd_bd _)
    have hs := sumI_s (f := fun k => lwd (ltr (D 4 w) k)) k0
    have w95 : ∀ v, v = lwd (ltr (D 4 w) k) → k < nlt (D 4 w) → Wp cX7_widthOf RX7 (some .int) 0 95 [some (mR 71), some (mI w), some (mI (sumI (fun k => lwd (ltr (D 4 w) k)) k)), some (mI k), none] [mI v, mI (sumI (fun k => lwd (ltr (D 4 w) k)) k)] σ (fun v σ' => ∃ z, v = some (mI z) ∧ (fun z σ' => z = wid (D 4 w) ∧ σ' = σ) z σ') := by
      intro v hv hk2
      have hl := lwd_bd (ltr (D 4 w) k)
      have e : sumI (fun k => lwd (ltr (D 4 w) k)) k + v = sumI (fun k => lwd (ltr (D 4 w) k)) (k + 1) := by rw [hs, hv]
      refine wp_iadd (pc := 95) dX7_widthOf_95 (by omega) ?_
      refine wp_istore_n (pc := 96) dX7_widthOf_96 rfl (Nat.le_of_ble_eq_true rfl) rfl ?_
      refine wp_iinc (pc := 97) dX7_widthOf_97 rfl rfl (by omega) ?_
      refine wp_goto (pc := 100) 4 dX7_widthOf_100 (by decide) ?_
      rw [e]
      exact ih hk2 (by omega)
    refine wp_iload_n (pc := 4) dX7_widthOf_4 rfl rfl ?_
    refine wp_aload_n (pc := 5) dX7_widthOf_5 rfl rfl ?_
    refine wp_getR (pc := 6) (q := 72) dX7_widthOf_6 fl_X7_7 rfl ?_
    refine wp_bipush (pc := 9) dX7_widthOf_9 (by decide) (by decide) ?_
    refine wp_bipush (pc := 11) dX7_widthOf_11 (by decide) (by decide) ?_
    refine wp_iload_n (pc := 13) dX7_widthOf_13 rfl rfl ?_
    refine wp_imul (pc := 14) dX7_widthOf_14 (by omega) ?_
    refine wp_iadd (pc := 15) dX7_widthOf_15 (by omega) ?_
    refine wp_iald (pc := 16) 591 dX7_widthOf_16 rfl (by omega) ?_
    refine wp_icmp_ge (pc := 17) 103 dX7_widthOf_17 (by decide) (fun c_17 => ?_) (fun c_17 => ?_)
    · refine wp_iload_n (pc := 103) dX7_widthOf_103 rfl rfl ?_
      refine wp_ireturn (pc := 104) dX7_widthOf_104 rfl ?_
      rw [show k = nlt (D 4 w) by omega, (wid_n c).1]
      exact ⟨_, rfl, rfl, rfl⟩
    · have hk2 : k < nlt (D 4 w) := by omega
      have hl := (c.2.2.2 k k0 (by omega)).1 hk2
      have hbk := b k k0 (by omega)
      refine wp_aload_n (pc := 20) dX7_widthOf_20 rfl rfl ?_
      refine wp_getR (pc := 21) (q := 72) dX7_widthOf_21 fl_X7_7 rfl ?_
      refine wp_bipush (pc := 24) dX7_widthOf_24 (by decide) (by decide) ?_
      refine wp_bipush (pc := 26) dX7_widthOf_26 (by decide) (by decide) ?_
      refine wp_iload_n (pc := 28) dX7_widthOf_28 rfl rfl ?_
      refine wp_imul (pc := 29) dX7_widthOf_29 (by omega) ?_
      refine wp_iadd (pc := 30) dX7_widthOf_30 (by omega) ?_
      refine wp_iconst (pc := 31) dX7_widthOf_31 (by decide) ?_
      refine wp_iadd (pc := 32) dX7_widthOf_32 (by omega) ?_
      refine wp_iload_n (pc := 33) dX7_widthOf_33 rfl rfl ?_
      refine wp_iadd (pc := 34) dX7_widthOf_34 (by omega) ?_
      refine wp_iald (pc := 35) 591 dX7_widthOf_35 rfl (by omega) ?_
      rw [hbk]
      refine wp_bipush (pc := 36) dX7_widthOf_36 (by decide) (by decide) ?_
      refine wp_iadd (pc := 38) dX7_widthOf_38 (by omega) ?_
      refine wp_iconst (pc := 39) dX7_widthOf_39 (by decide) ?_
      refine wp_isub (pc := 40) dX7_widthOf_40 (by omega) ?_
      refine wp_istore (pc := 41) dX7_widthOf_41 (Nat.le_of_ble_eq_true rfl) rfl ?_
      refine wp_iload_n (pc := 43) dX7_widthOf_43 rfl rfl ?_
      refine wp_iload (pc := 44) dX7_widthOf_44 rfl ?_
      refine wp_bipush (pc := 46) dX7_widthOf_46 (by decide) (by decide) ?_
      refine wp_icmp_eq (pc := 48) 72 dX7_widthOf_48 (by decide) (fun c_48 => ?_) (fun c_48 => ?_)
      · refine wp_iconst (pc := 72) dX7_widthOf_72 (by decide) ?_
        refine wp_goto (pc := 73) 95 dX7_widthOf_73 (by decide) ?_
        refine wp_fgt [4] (w95 _ ?_ hk2)
        unfold lwd
        first
          | rw [if_neg (by omega), if_pos (by omega)]
          | rw [if_neg (by omega), if_neg (by omega), if_pos (by omega)]
          | rw [if_neg (by omega), if_neg (by omega), if_neg (by omega)]
      · refine wp_iload (pc := 51) dX7_widthOf_51 rfl ?_
        refine wp_bipush (pc := 53) dX7_widthOf_53 (by decide) (by decide) ?_
        refine wp_icmp_eq (pc := 55) 72 dX7_widthOf_55 (by decide) (fun c_55 => ?_) (fun c_55 => ?_)
        · refine wp_iconst (pc := 72) dX7_widthOf_72 (by decide) ?_
          refine wp_goto (pc := 73) 95 dX7_widthOf_73 (by decide) ?_
          refine wp_fgt [4] (w95 _ ?_ hk2)
          unfold lwd
          first
            | rw [if_neg (by omega), if_pos (by omega)]
            | rw [if_neg (by omega), if_neg (by omega), if_pos (by omega)]
            | rw [if_neg (by omega), if_neg (by omega), if_neg (by omega)]
        · refine wp_iload (pc := 58) dX7_widthOf_58 rfl ?_
          refine wp_bipush (pc := 60) dX7_widthOf_60 (by decide) (by decide) ?_
          refine wp_icmp_eq (pc := 62) 72 dX7_widthOf_62 (by decide) (fun c_62 => ?_) (fun c_62 => ?_)
          · refine wp_iconst (pc := 72) dX7_widthOf_72 (by decide) ?_
            refine wp_goto (pc := 73) 95 dX7_widthOf_73 (by decide) ?_
            refine wp_fgt [4] (w95 _ ?_ hk2)
            unfold lwd
            first
              | rw [if_neg (by omega), if_pos (by omega)]
              | rw [if_neg (by omega), if_neg (by omega), if_pos (by omega)]
              | rw [if_neg (by omega), if_neg (by omega), if_neg (by omega)]
          · refine wp_iload (pc := 65) dX7_widthOf_65 rfl ?_
            refine wp_bipush (pc := 67) dX7_widthOf_67 (by decide) (by decide) ?_
            refine wp_icmp_ne (pc := 69) 76 dX7_widthOf_69 (by decide) (fun c_69 => ?_) (fun c_69 => ?_)
            · refine wp_iload (pc := 76) dX7_widthOf_76 rfl ?_
              refine wp_bipush (pc := 78) dX7_widthOf_78 (by decide) (by decide) ?_
              refine wp_icmp_eq (pc := 80) 90 dX7_widthOf_80 (by decide) (fun c_80 => ?_) (fun c_80 => ?_)
              · refine wp_iconst (pc := 90) dX7_widthOf_90 (by decide) ?_
                refine wp_goto (pc := 91) 95 dX7_widthOf_91 (by decide) ?_
                refine wp_fgt [4] (w95 _ ?_ hk2)
                unfold lwd
                first
                  | rw [if_neg (by omega), if_pos (by omega)]
                  | rw [if_neg (by omega), if_neg (by omega), if_pos (by omega)]
                  | rw [if_neg (by omega), if_neg (by omega), if_neg (by omega)]
              · refine wp_iload (pc := 83) dX7_widthOf_83 rfl ?_
                refine wp_bipush (pc := 85) dX7_widthOf_85 (by decide) (by decide) ?_
                refine wp_icmp_ne (pc := 87) 94 dX7_widthOf_87 (by decide) (fun c_87 => ?_) (fun c_87 => ?_)
                · refine wp_iconst (pc := 94) dX7_widthOf_94 (by decide) ?_
                  refine wp_fgt [4] (w95 _ ?_ hk2)
                  unfold lwd
                  first
                    | rw [if_neg (by omega), if_pos (by omega)]
                    | rw [if_neg (by omega), if_neg (by omega), if_pos (by omega)]
                    | rw [if_neg (by omega), if_neg (by omega), if_neg (by omega)]
                · refine wp_iconst (pc := 90) dX7_widthOf_90 (by decide) ?_
                  refine wp_goto (pc := 91) 95 dX7_widthOf_91 (by decide) ?_
                  refine wp_fgt [4] (w95 _ ?_ hk2)
                  unfold lwd
                  first
                    | rw [if_neg (by omega), if_pos (by omega)]
                    | rw [if_neg (by omega), if_neg (by omega), if_pos (by omega)]
                    | rw [if_neg (by omega), if_neg (by omega), if_neg (by omega)]
            · refine wp_iconst (pc := 72) dX7_widthOf_72 (by decide) ?_
              refine wp_goto (pc := 73) 95 dX7_widthOf_73 (by decide) ?_
              refine wp_fgt [4] (w95 _ ?_ hk2)
              unfold lwd
              first
                | rw [if_neg (by omega), if_pos (by omega)]
                | rw [if_neg (by omega), if_neg (by omega), if_pos (by omega)]
                | rw [if_neg (by omega), if_neg (by omega), if_neg (by omega)]
  refine wp_iconst (pc := 0) dX7_widthOf_0 (by decide) ?_
  refine wp_istore_n (pc := 1) dX7_widthOf_1 rfl (Nat.le_of_ble_eq_true rfl) rfl ?_
  refine wp_iconst (pc := 2) dX7_widthOf_2 (by decide) ?_
  refine wp_istore_n (pc := 3) dX7_widthOf_3 rfl (Nat.le_of_ble_eq_true rfl) rfl ?_
  exact lp 0 (by omega) (by decide)
abbrev wdA (D : Sto) : Int → Int := fun k => wid (D 4 k)
set_option maxHeartbeats 4000000 in
set_option maxRecDepth 100000 in
theorem m_usedBy {σ D S : Sto} {f c : Int} (h : RM σ D S) (hf : 0 ≤ f ∧ 1 ≤ c ∧ f + c ≤ tot D) : CtI yX7_usedBy cX7_usedBy 5 (some .int) 1 [mR 71, mI f, mI c] σ (fun z σ' => z = us (wdA D) f c ∧ σ' = σ) := by
  refine ct_of rfl [some (mR 71), some (mI f), some (mI c), none, none] (Nat.le_of_ble_eq_true rfl) rfl (fun hσ => ?_)
  show Wp cX7_usedBy RX7 (some .int) 1 0 [some (mR 71), some (mI f), some (mI c), none, none] [] _ _
  have n := h.n
  have lp : ∀ k, k ≤ c → 0 ≤ k → Wp cX7_usedBy RX7 (some .int) 1 7 [some (mR 71), some (mI f), some (mI c), some (mI (sumI (fun k => wdA D (f + k)) k + (c - 1))), some (mI k)] [] σ (fun v σ' => ∃ z, v = some (mI z) ∧ (fun z σ' => z = us (wdA D) f c ∧ σ' = σ) z σ') := by
    refine up_ind _ (fun k hk ih k0 => ?_)
    have hb := sumI_bd (f := fun k => wdA D (f + k)) (n := k) (c := 18) k0 (fun k _ _ => wid_bd _)
    have hs : sumI (fun k => wdA D (f + k)) (k + 1) = sumI (fun k => wdA D (f + k)) k + wid (D 4 (f + k)) := sumI_s k0
    have hw := wid_bd (D 4 (f + k))
    have e : sumI (fun k => wdA D (f + k)) k + (c - 1) + wid (D 4 (f + k)) = sumI (fun k => wdA D (f + k)) (k + 1) + (c - 1) := by rw [hs]; omega
    refine wp_iload (pc := 7) dX7_usedBy_7 rfl ?_
    refine wp_iload_n (pc := 9) dX7_usedBy_9 rfl rfl ?_
    refine wp_icmp_ge (pc := 10) 30 dX7_usedBy_10 (by decide) (fun c_10 => ?_) (fun c_10 => ?_)
    · refine wp_iload_n (pc := 30) dX7_usedBy_30 rfl rfl ?_
      refine wp_ireturn (pc := 31) dX7_usedBy_31 rfl ?_
      rw [show k = c by omega]
      exact ⟨_, rfl, rfl, rfl⟩
    · refine wp_iload_n (pc := 13) dX7_usedBy_13 rfl rfl ?_
      refine wp_aload_n (pc := 14) dX7_usedBy_14 rfl rfl ?_
      refine wp_iload_n (pc := 15) dX7_usedBy_15 rfl rfl ?_
      refine wp_iload (pc := 16) dX7_usedBy_16 rfl ?_
      refine wp_iadd (pc := 18) dX7_usedBy_18 (by omega) ?_
      refine wp_cvI1 (pc := 19) dX7_usedBy_19 mv_X7_195 (m_widthOf h (by omega)) (Nat.le_of_ble_eq_true rfl) rfl (Nat.le_of_ble_eq_true rfl) (fun z_19 σ_19 h_19 => ?_)
      obtain ⟨rfl, e_19⟩ := h_19; have e2_19 := e_19.symm; subst e2_19
      refine wp_iadd (pc := 22) dX7_usedBy_22 (by omega) ?_
      refine wp_istore_n (pc := 23) dX7_usedBy_23 rfl (Nat.le_of_ble_eq_true rfl) rfl ?_
      refine wp_iinc (pc := 24) dX7_usedBy_24 rfl rfl (by omega) ?_
      refine wp_goto (pc := 27) 7 dX7_usedBy_27 (by decide) ?_
      rw [e]
      exact ih (by omega) (by omega)
  have e0 : (c - 1) = sumI (fun k => wdA D (f + k)) 0 + (c - 1) := by rw [sumI_0]; omega
  refine wp_iload_n (pc := 0) dX7_usedBy_0 rfl rfl ?_
  refine wp_iconst (pc := 1) dX7_usedBy_1 (by decide) ?_
  refine wp_isub (pc := 2) dX7_usedBy_2 (by omega) ?_
  refine wp_istore_n (pc := 3) dX7_usedBy_3 rfl (Nat.le_of_ble_eq_true rfl) rfl ?_
  refine wp_iconst (pc := 4) dX7_usedBy_4 (by decide) ?_
  refine wp_istore (pc := 5) dX7_usedBy_5 (Nat.le_of_ble_eq_true rfl) rfl ?_
  rw [e0]
  exact lp 0 (by omega) (by decide)
set_option maxHeartbeats 4000000 in
set_option maxRecDepth 100000 in
theorem us_sh {D : Sto} {p i c : Int} : us (wdS D p) i c = us (wdA D) (fstS D p + i) c := by
  unfold us
  rw [sumI_cong (fun k k0 k1 => show wdS D p (i + k) = wdA D (fstS D p + i + k) by unfold wdS; rw [Int.add_assoc])]
set_option maxHeartbeats 4000000 in
set_option maxRecDepth 100000 in
theorem m_indentAt {σ D S : Sto} {p l : Int} (h : RM σ D S) (hp : 0 ≤ p ∧ p < D 0 0) (hB : ∀ q, 0 ≤ q → q ≤ p → σ 82 q = LB D S q) (hl : 0 ≤ l ∧ l ≤ 1000) : CtI yX7_indentAt cX7_indentAt 6 (some .int) 4 [mR 71, mI p, mI l] σ (fun z σ' => z = indS D S (LB D S) p l ∧ σ' = σ) := by
  refine ct_of rfl [some (mR 71), some (mI p), some (mI l), none, none, none] (Nat.le_of_ble_eq_true rfl) rfl (fun hσ => ?_)
  show Wp cX7_indentAt RX7 (some .int) 4 0 [some (mR 71), some (mI p), some (mI l), none, none, none] [] _ _
  have n := h.n
  have t := h.st
  have q := h.p hp.1 hp.2
  have lb := LBb h.2.2.2.1 hp.1 hp.2
  have lp : D 2 p < 0 → ∀ k, k ≤ p → 0 ≤ k → (D 5 5 = 2 ∨ k = 0) → Wp cX7_indentAt RX7 (some .int) 4 29 [some (mR 71), some (mI p), some (mI l), some (mI (mxI (fun q => rch D S q (l - LB D S q)) k)), some (mI k), none] [] σ (fun v σ' => ∃ z, v = some (mI z) ∧ (fun z σ' => z = indS D S (LB D S) p l ∧ σ' = σ) z σ') := by
    intro hs
    refine up_ind _ (fun k hk ih k0 hc => ?_)
    have hb := hB k k0 (by omega)
    have hms := mxI_s (f := fun q => rch D S q (l - LB D S q)) k0
    have hlk := fun c => LBb h.2.2.2.1 k0 (show k < D 0 0 from c)
    refine wp_iload (pc := 29) dX7_indentAt_29 rfl ?_
    refine wp_iload_n (pc := 31) dX7_indentAt_31 rfl rfl ?_
    refine wp_icmp_ge (pc := 32) 83 dX7_indentAt_32 (by decide) (fun c_32 => ?_) (fun c_32 => ?_)
    · refine wp_iload_n (pc := 83) dX7_indentAt_83 rfl rfl ?_
      refine wp_ireturn (pc := 84) dX7_indentAt_84 rfl ?_
      refine ⟨_, rfl, ?_, rfl⟩
      unfold indS
      rw [if_neg (by omega)]
      by_cases c5 : D 5 5 = 2
      · rw [if_pos c5, show k = p by omega]; rfl
      · rw [if_neg c5, show k = 0 by omega]; rfl
    · have hlk2 := hlk (by omega)
      refine wp_aload_n (pc := 35) dX7_indentAt_35 rfl rfl ?_
      refine wp_getR (pc := 36) (q := 72) dX7_indentAt_36 fl_X7_7 rfl ?_
      refine wp_sipush (pc := 39) dX7_indentAt_39 (by decide) (by decide) ?_
      refine wp_iald (pc := 42) 591 dX7_indentAt_42 rfl (by omega) ?_
      refine wp_iconst (pc := 43) dX7_indentAt_43 (by decide) ?_
      refine wp_icmp_ne (pc := 44) 83 dX7_indentAt_44 (by decide) (fun c_44 => ?_) (fun c_44 => ?_)
      · refine wp_iload_n (pc := 83) dX7_indentAt_83 rfl rfl ?_
        refine wp_ireturn (pc := 84) dX7_indentAt_84 rfl ?_
        refine ⟨_, rfl, ?_, rfl⟩
        unfold indS
        rw [if_neg (by omega)]
        by_cases c5 : D 5 5 = 2
        · rw [if_pos c5, show k = p by omega]; rfl
        · rw [if_neg c5, show k = 0 by omega]; rfl
      · refine wp_aload_n (pc := 47) dX7_indentAt_47 rfl rfl ?_
        refine wp_iload (pc := 48) dX7_indentAt_48 rfl ?_
        refine wp_iload_n (pc := 50) dX7_indentAt_50 rfl rfl ?_
        refine wp_aload_n (pc := 51) dX7_indentAt_51 rfl rfl ?_
        refine wp_getR (pc := 52) (q := 82) dX7_indentAt_52 fl_X7_41 rfl ?_
        refine wp_iload (pc := 55) dX7_indentAt_55 rfl ?_
        refine wp_iald (pc := 57) 9 dX7_indentAt_57 rfl (by omega) ?_
        rw [hb]
        refine wp_isub (pc := 58) dX7_indentAt_58 (by omega) ?_
        refine wp_cvI2 (pc := 59) dX7_indentAt_59 mv_X7_192 (m_reachOf h (by omega)) (Nat.le_of_ble_eq_true rfl) rfl (Nat.le_of_ble_eq_true rfl) (fun z_59 σ_59 h_59 => ?_)
        obtain ⟨rfl, e_59⟩ := h_59; have e2_59 := e_59.symm; subst e2_59
        refine wp_istore (pc := 62) dX7_indentAt_62 (Nat.le_of_ble_eq_true rfl) rfl ?_
        refine wp_iload (pc := 64) dX7_indentAt_64 rfl ?_
        refine wp_iload_n (pc := 66) dX7_indentAt_66 rfl rfl ?_
        refine wp_icmp_le (pc := 67) 75 dX7_indentAt_67 (by decide) (fun c_67 => ?_) (fun c_67 => ?_)
        · refine wp_iload_n (pc := 75) dX7_indentAt_75 rfl rfl ?_
          refine wp_istore_n (pc := 76) dX7_indentAt_76 rfl (Nat.le_of_ble_eq_true rfl) rfl ?_
          refine wp_iinc (pc := 77) dX7_indentAt_77 rfl rfl (by omega) ?_
          refine wp_goto (pc := 80) 29 dX7_indentAt_80 (by decide) ?_
          refine wp_fgt [5] ?_
          first
            | (have e : rch D S k (l - LB D S k) = mxI (fun q => rch D S q (l - LB D S q)) (k + 1) := by rw [hms]; omega
               rw [e]
               exact ih (by omega) (by omega) (by omega))
            | (have e : mxI (fun q => rch D S q (l - LB D S q)) k = mxI (fun q => rch D S q (l - LB D S q)) (k + 1) := by rw [hms]; omega
               rw [e]
               exact ih (by omega) (by omega) (by omega))
        · refine wp_iload (pc := 70) dX7_indentAt_70 rfl ?_
          refine wp_goto (pc := 72) 76 dX7_indentAt_72 (by decide) ?_
          refine wp_istore_n (pc := 76) dX7_indentAt_76 rfl (Nat.le_of_ble_eq_true rfl) rfl ?_
          refine wp_iinc (pc := 77) dX7_indentAt_77 rfl rfl (by omega) ?_
          refine wp_goto (pc := 80) 29 dX7_indentAt_80 (by decide) ?_
          refine wp_fgt [5] ?_
          first
            | (have e : rch D S k (l - LB D S k) = mxI (fun q => rch D S q (l - LB D S q)) (k + 1) := by rw [hms]; omega
               rw [e]
               exact ih (by omega) (by omega) (by omega))
            | (have e : mxI (fun q => rch D S q (l - LB D S q)) k = mxI (fun q => rch D S q (l - LB D S q)) (k + 1) := by rw [hms]; omega
               rw [e]
               exact ih (by omega) (by omega) (by omega))
  refine wp_aload_n (pc := 0) dX7_indentAt_0 rfl rfl ?_
  refine wp_iload_n (pc := 1) dX7_indentAt_1 rfl rfl ?_
  refine wp_cvI1 (pc := 2) dX7_indentAt_2 mv_X7_174 (m_parShape h (by omega)) (Nat.le_of_ble_eq_true rfl) rfl (Nat.le_of_ble_eq_true rfl) (fun z_2 σ_2 h_2 => ?_)
  obtain ⟨rfl, e_2⟩ := h_2; have e2_2 := e_2.symm; subst e2_2
  refine wp_bipush (pc := 5) dX7_indentAt_5 (by decide) (by decide) ?_
  refine wp_icmp_eq (pc := 7) 24 dX7_indentAt_7 (by decide) (fun c_7 => ?_) (fun c_7 => ?_)
  · refine wp_iconst (pc := 24) dX7_indentAt_24 (by decide) ?_
    refine wp_istore_n (pc := 25) dX7_indentAt_25 rfl (Nat.le_of_ble_eq_true rfl) rfl ?_
    refine wp_iconst (pc := 26) dX7_indentAt_26 (by decide) ?_
    refine wp_istore (pc := 27) dX7_indentAt_27 (Nat.le_of_ble_eq_true rfl) rfl ?_
    exact lp (by omega) 0 (by omega) (by decide) (Or.inr rfl)
  · refine wp_aload_n (pc := 10) dX7_indentAt_10 rfl rfl ?_
    refine wp_iload_n (pc := 11) dX7_indentAt_11 rfl rfl ?_
    refine wp_iload_n (pc := 12) dX7_indentAt_12 rfl rfl ?_
    refine wp_aload_n (pc := 13) dX7_indentAt_13 rfl rfl ?_
    refine wp_getR (pc := 14) (q := 82) dX7_indentAt_14 fl_X7_41 rfl ?_
    refine wp_iload_n (pc := 17) dX7_indentAt_17 rfl rfl ?_
    refine wp_iald (pc := 18) 9 dX7_indentAt_18 rfl (by omega) ?_
    rw [hB p hp.1 (Int.le_refl _)]
    refine wp_isub (pc := 19) dX7_indentAt_19 (by omega) ?_
    refine wp_cvI2 (pc := 20) dX7_indentAt_20 mv_X7_192 (m_reachOf h (by omega)) (Nat.le_of_ble_eq_true rfl) rfl (Nat.le_of_ble_eq_true rfl) (fun z_20 σ_20 h_20 => ?_)
    obtain ⟨rfl, e_20⟩ := h_20; have e2_20 := e_20.symm; subst e2_20
    refine wp_ireturn (pc := 23) dX7_indentAt_23 rfl ?_
    refine ⟨_, rfl, ?_, rfl⟩
    unfold indS
    rw [if_pos (by omega)]
set_option maxHeartbeats 4000000 in
set_option maxRecDepth 100000 in
theorem m_roomAt {σ D S : Sto} {p l : Int} (h : RM σ D S) (hp : 0 ≤ p ∧ p < D 0 0) (hB : ∀ q, 0 ≤ q → q ≤ p → σ 82 q = LB D S q) (hl : 0 ≤ l ∧ l ≤ 1000) : CtI yX7_roomAt cX7_roomAt 4 (some .int) 5 [mR 71, mI p, mI l] σ (fun z σ' => z = roomS D S (LB D S) p l ∧ σ' = σ) := by
  refine ct_of rfl [some (mR 71), some (mI p), some (mI l), none] (Nat.le_of_ble_eq_true rfl) rfl (fun hσ => ?_)
  show Wp cX7_roomAt RX7 (some .int) 5 0 [some (mR 71), some (mI p), some (mI l), none] [] _ _
  have t := h.st
  have hi := indS_bd h.2.2.2.1 h.2.2.2.2 (LB D S) l hp.1 hp.2
  refine wp_aload_n (pc := 0) dX7_roomAt_0 rfl rfl ?_
  refine wp_getR (pc := 1) (q := 72) dX7_roomAt_1 fl_X7_7 rfl ?_
  refine wp_sipush (pc := 4) dX7_roomAt_4 (by decide) (by decide) ?_
  refine wp_iald (pc := 7) 591 dX7_roomAt_7 rfl (by omega) ?_
  rw [t.1.1]
  refine wp_aload_n (pc := 8) dX7_roomAt_8 rfl rfl ?_
  refine wp_iload_n (pc := 9) dX7_roomAt_9 rfl rfl ?_
  refine wp_iload_n (pc := 10) dX7_roomAt_10 rfl rfl ?_
  refine wp_cvI2 (pc := 11) dX7_roomAt_11 mv_X7_198 (m_indentAt h hp hB hl) (Nat.le_of_ble_eq_true rfl) rfl (Nat.le_of_ble_eq_true rfl) (fun z_11 σ_11 h_11 => ?_)
  obtain ⟨rfl, e_11⟩ := h_11; have e2_11 := e_11.symm; subst e2_11
  refine wp_isub (pc := 14) dX7_roomAt_14 (by omega) ?_
  refine wp_istore_n (pc := 15) dX7_roomAt_15 rfl (Nat.le_of_ble_eq_true rfl) rfl ?_
  refine wp_iload_n (pc := 16) dX7_roomAt_16 rfl rfl ?_
  refine wp_if_ge (pc := 17) 24 dX7_roomAt_17 (by decide) (fun c_17 => ?_) (fun c_17 => ?_)
  · refine wp_iload_n (pc := 24) dX7_roomAt_24 rfl rfl ?_
    refine wp_ireturn (pc := 25) dX7_roomAt_25 rfl ?_
    exact ⟨_, rfl, by unfold roomS; omega, rfl⟩
  · refine wp_iconst (pc := 20) dX7_roomAt_20 (by decide) ?_
    refine wp_goto (pc := 21) 25 dX7_roomAt_21 (by decide) ?_
    refine wp_ireturn (pc := 25) dX7_roomAt_25 rfl ?_
    exact ⟨_, rfl, by unfold roomS; omega, rfl⟩
