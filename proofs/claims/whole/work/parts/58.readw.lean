def fgt : List Nat → List (Option MV) → List (Option MV)
  | [], l => l
  | k :: ks, l => fgt ks (l.set k none)
set_option maxHeartbeats 4000000 in
set_option maxRecDepth 100000 in
theorem lok_fgt1 {g : GG} {ls : Array Slot} {loc : List (Option MV)} (k : Nat) (h : lok g ls loc) : lok g ls (loc.set k none) := by
  refine ⟨⟨by rw [List.length_set]; exact h.1.1, h.1.2.1, fun q hq => ?_⟩, fun v hv => ?_⟩
  · obtain ⟨j, u, h1, h2⟩ := als_inv _ _ hq
    rw [List.getElem?_set] at h1
    by_cases hj : k = j
    · rw [if_pos hj] at h1
      split at h1 <;> cases h1
    · rw [if_neg hj] at h1
      rw [h2]
      exact h.1.2.2 _ (als_mem loc 0 j h1)
  · rcases List.mem_or_eq_of_mem_set hv with h1 | h1
    · exact h.2 v h1
    · cases h1
set_option maxHeartbeats 4000000 in
set_option maxRecDepth 100000 in
theorem wp_fgt1 {cc : ByteArray} {own : String} {rt : Option FieldType} {d pc : Nat} {loc : List (Option MV)} {st : List MV} {σ : Sto} {Q : Option MV → Sto → Prop} (k : Nat) (h : Wp cc own rt d pc (loc.set k none) st σ Q) : Wp cc own rt d pc loc st σ Q := by
  intro g p l e s m args below meth c H locs ls C hP hS hσ hl hst
  exact h g p l e s m args below meth c H locs ls (by rw [List.length_set]; exact C) hP hS hσ (lok_fgt1 k hl) hst
-- locals that nobody asks for any more
set_option maxHeartbeats 4000000 in
set_option maxRecDepth 100000 in
theorem wp_fgt {cc : ByteArray} {own : String} {rt : Option FieldType} {d pc : Nat} {st : List MV} {σ : Sto} {Q : Option MV → Sto → Prop} : ∀ (ks : List Nat) {loc : List (Option MV)}, Wp cc own rt d pc (fgt ks loc) st σ Q → Wp cc own rt d pc loc st σ Q
  | [], _, h => h
  | k :: ks, loc, h => wp_fgt1 k (wp_fgt ks (loc := loc.set k none) h)
set_option maxHeartbeats 4000000 in
set_option maxRecDepth 100000 in
theorem c_adv {σ : Sto} {x : Int} (hR : RdI σ) (hx : σ 38 4 = x) : CtV yX4_advance cX4_advance 1 none 1 [mR 38] σ (fun σ' => advP σ σ' x) := c_advance hR hx
set_option maxHeartbeats 4000000 in
set_option maxRecDepth 100000 in
theorem pWds_s {t : Int → Int} {n : Int} {k : Nat} {i : Int} {s : PS} : pWds t n (k + 1) i s = if tkK t n s.x = 4 ∧ 0 < i then s.nx t n else if ¬ tkK t n s.x = 1 then s.bad t n 2 else if 6 < tkE t n s.x - tkS t n s.x then s.bad t n 3 else if 80 ≤ tot s.D then s.bad t n 5 else pWds t n k (i + 1) ((s.nx t n).wD (adW s.D (wcd t (tkS t n s.x) (tkE t n s.x - tkS t n s.x)))) := rfl
set_option maxHeartbeats 4000000 in
set_option maxRecDepth 100000 in
theorem c_readWordsP {t : Int → Int} {n : Int} {σ : Sto} {s P : PS} (h : RP t n σ s) (hD : DW s.D s.S) (h1 : 1 ≤ s.D 0 0) (hP : P = pWds t n 81 0 s) : CtI yX4_readWords cX4_readWords 2 (some .boolean) 2 [mR 38] σ (fun z σ' => RQ t n σ σ' P z) := by
  refine ct_of rfl [some (mR 38), none] (Nat.le_of_ble_eq_true rfl) rfl (fun hσ => ?_)
  show Wp cX4_readWords RX4 (some .boolean) 2 0 [some (mR 38), none] [] _ _
  have lp : ∀ i, i ≤ 80 → 0 ≤ i → ∀ (τ : Sto) (q : PS), RP t n τ q → DW q.D q.S → 1 ≤ q.D 0 0 → i ≤ q.D 1 (q.D 0 0 - 1) → Frm [8, 9, 10, 11, 12, 13, 20, 21, 22, 23, 24, 25, 38] σ τ → P = pWds t n ((80 - i).toNat + 1) i q → Wp cX4_readWords RX4 (some .boolean) 2 2 [some (mR 38), some (mI i)] [] τ (fun v σ' => ∃ z, v = some (mI z) ∧ (fun z σ' => RQ t n σ σ' P z) z σ') := by
    refine up_ind 80 (fun i hi ih i0 τ q hq hW hc1 hic hF he => ?_)
    have hl := hW.last hc1
    have hW0 := hW.1
    have hx := hq.1.2.1
    have hx3 := hq.2.2.1
    have hx4 := hq.2.2.2.1
    rw [pWds_s] at he
    refine wp_iload_n (pc := 2) dX4_readWords_2 rfl rfl ?_
    refine wp_bipush (pc := 3) dX4_readWords_3 (by decide) (by decide) ?_
    refine wp_icmp_gt (pc := 5) 90 dX4_readWords_5 (by decide) (fun c_5 => ?_) (fun c_5 => ?_)
    · omega
    · refine wp_aload_n (pc := 8) dX4_readWords_8 rfl rfl ?_
      refine wp_cvV0 (pc := 9) dX4_readWords_9 mv_X4_52 (c_adv hq.1 hq.2.2.2.1) (Nat.le_of_ble_eq_true rfl) rfl (Nat.le_of_ble_eq_true rfl) (fun σ_9 h_9 => ?_)
      obtain ⟨hr, a5, a6, a7, a8, a9, a10⟩ := hq.adv h_9
      have e20 : σ_9 20 0 = q.D 0 0 := congrFun (congrFun hr.2.2.2.2.2.2.1 0) 0
      have e22 : ∀ k, σ_9 22 k = q.D 1 k := fun k => congrFun (congrFun hr.2.2.2.2.2.2.1 1) k
      have et : σ_9 20 1 = tot q.D := hr.2.2.2.2.2.2.2.2.1
      refine wp_aload_n (pc := 12) dX4_readWords_12 rfl rfl ?_
      refine wp_getI (pc := 13) 5 dX4_readWords_13 fl_X4_55 rfl rfl ?_
      refine wp_iconst (pc := 16) dX4_readWords_16 (by decide) ?_
      refine wp_icmp_ne (pc := 17) 26 dX4_readWords_17 (by decide) (fun c_17 => ?_) (fun c_17 => ?_)
      · refine wp_aload_n (pc := 26) dX4_readWords_26 rfl rfl ?_
        refine wp_getI (pc := 27) 5 dX4_readWords_27 fl_X4_55 rfl rfl ?_
        refine wp_iconst (pc := 30) dX4_readWords_30 (by decide) ?_
        refine wp_icmp_eq (pc := 31) 40 dX4_readWords_31 (by decide) (fun c_31 => ?_) (fun c_31 => ?_)
        · refine wp_aload_n (pc := 40) dX4_readWords_40 rfl rfl ?_
          refine wp_getI (pc := 41) 7 dX4_readWords_41 fl_X4_110 rfl rfl ?_
          refine wp_bipush (pc := 44) dX4_readWords_44 (by decide) (by decide) ?_
          refine wp_icmp_le (pc := 46) 55 dX4_readWords_46 (by decide) (fun c_46 => ?_) (fun c_46 => ?_)
          · refine wp_aload_n (pc := 55) dX4_readWords_55 rfl rfl ?_
            refine wp_getR (pc := 56) (q := 20) dX4_readWords_56 fl_X4_19 rfl ?_
            refine wp_getI (pc := 59) 1 dX4_readWords_59 fl_X4_133 rfl rfl ?_
            refine wp_bipush (pc := 62) dX4_readWords_62 (by decide) (by decide) ?_
            refine wp_icmp_lt (pc := 64) 73 dX4_readWords_64 (by decide) (fun c_64 => ?_) (fun c_64 => ?_)
            · have hL := tkL (t := t) (n := n) (x := q.x) (by omega) (by omega) (by omega)
              have hlet : ∀ x, σ_9 38 6 ≤ x → x < σ_9 38 6 + σ_9 38 7 → 97 ≤ σ_9 1 x ∧ σ_9 1 x ≤ 122 := fun x x0 x1 => by rw [hr.2.1]; exact hL.2 x (by omega) (by omega)
              refine wp_aload_n (pc := 73) dX4_readWords_73 rfl rfl ?_
              refine wp_getR (pc := 74) (q := 20) dX4_readWords_74 fl_X4_19 rfl ?_
              refine wp_aload_n (pc := 77) dX4_readWords_77 rfl rfl ?_
              refine wp_cvI0 (pc := 78) dX4_readWords_78 mv_X4_136 (c_wordAtHand hr.1 (by omega) (by omega) (by have := hr.1.2.1; omega) hlet) (Nat.le_of_ble_eq_true rfl) rfl (Nat.le_of_ble_eq_true rfl) (fun z_78 σ_78 h_78 => ?_)
              obtain ⟨⟨-, -, -, -, zz_78⟩, e_78⟩ := h_78; have e2_78 := e_78.symm; subst e2_78
              rw [hr.2.1, a6, a7] at zz_78
              have hok := (wcd_ok (t := t) (s := tkS t n q.x) (m := tkE t n q.x - tkS t n q.x) (by omega) (by omega) (fun k k0 k1 => hL.2 _ (by omega) (by omega))).1
              refine wp_cvV1 (pc := 81) dX4_readWords_81 mv_X4_139 (c_addWord (by omega) (by omega) (by rw [e20, e22]; omega)) (Nat.le_of_ble_eq_true rfl) rfl (Nat.le_of_ble_eq_true rfl) (fun σ_81 h_81 => ?_)
              subst h_81
              refine wp_iinc (pc := 84) dX4_readWords_84 rfl rfl (by omega) ?_
              refine wp_goto (pc := 87) 2 dX4_readWords_87 (by decide) ?_
              have hr2 := hr.addW hW hc1 z_78
              rw [zz_78] at hr2 ⊢
              refine ih (by omega) (by omega) _ _ hr2 (adW_DW (D := q.D) hW hc1 (by omega) hok) ?_ ?_ ?_ ?_
              · show 1 ≤ adW q.D (wcd t (tkS t n q.x) (tkE t n q.x - tkS t n q.x)) 0 0
                simp [adW, updD]; omega
              · show i + 1 ≤ adW q.D (wcd t (tkS t n q.x) (tkE t n q.x - tkS t n q.x)) 1 (adW q.D (wcd t (tkS t n q.x) (tkE t n q.x - tkS t n q.x)) 0 0 - 1)
                simp [adW, updD]; omega
              · exact (((hF.tr h_9.frm).up (by decide)).up (by decide)).up (by decide)
              · rw [he, if_neg (by omega), if_neg (by omega), if_neg (by omega), if_neg (by omega), show (80 - i).toNat = (80 - (i + 1)).toNat + 1 by omega]
                rfl
            · refine wp_aload_n (pc := 67) dX4_readWords_67 rfl rfl ?_
              refine wp_iconst (pc := 68) dX4_readWords_68 (by decide) ?_
              refine wp_cvI1 (pc := 69) dX4_readWords_69 mv_X4_65 (c_refuse (w := 5)) (Nat.le_of_ble_eq_true rfl) rfl (Nat.le_of_ble_eq_true rfl) (fun z_69 σ_69 h_69 => ?_)
              obtain ⟨rfl, rfl⟩ := h_69
              refine wp_zreturn (pc := 72) dX4_readWords_72 rfl (by omega) ?_
              have eP : P = q.bad t n 5 := by rw [he, if_neg (by omega), if_neg (by omega), if_neg (by omega), if_pos (by omega)]
              rw [eP]
              exact ⟨_, rfl, RQ.tr hF (RQ.no2 hq h_9 (by decide))⟩
          · refine wp_aload_n (pc := 49) dX4_readWords_49 rfl rfl ?_
            refine wp_iconst (pc := 50) dX4_readWords_50 (by decide) ?_
            refine wp_cvI1 (pc := 51) dX4_readWords_51 mv_X4_65 (c_refuse (w := 3)) (Nat.le_of_ble_eq_true rfl) rfl (Nat.le_of_ble_eq_true rfl) (fun z_51 σ_51 h_51 => ?_)
            obtain ⟨rfl, rfl⟩ := h_51
            refine wp_zreturn (pc := 54) dX4_readWords_54 rfl (by omega) ?_
            have eP : P = q.bad t n 3 := by rw [he, if_neg (by omega), if_neg (by omega), if_pos (by omega)]
            rw [eP]
            exact ⟨_, rfl, RQ.tr hF (RQ.no2 hq h_9 (by decide))⟩
        · refine wp_aload_n (pc := 34) dX4_readWords_34 rfl rfl ?_
          refine wp_iconst (pc := 35) dX4_readWords_35 (by decide) ?_
          refine wp_cvI1 (pc := 36) dX4_readWords_36 mv_X4_65 (c_refuse (w := 2)) (Nat.le_of_ble_eq_true rfl) rfl (Nat.le_of_ble_eq_true rfl) (fun z_36 σ_36 h_36 => ?_)
          obtain ⟨rfl, rfl⟩ := h_36
          refine wp_zreturn (pc := 39) dX4_readWords_39 rfl (by omega) ?_
          have eP : P = q.bad t n 2 := by rw [he, if_neg (by omega), if_pos (by omega)]
          rw [eP]
          exact ⟨_, rfl, RQ.tr hF (RQ.no2 hq h_9 (by decide))⟩
      · refine wp_iload_n (pc := 20) dX4_readWords_20 rfl rfl ?_
        refine wp_if_le (pc := 21) 26 dX4_readWords_21 (by decide) (fun c_21 => ?_) (fun c_21 => ?_)
        · refine wp_aload_n (pc := 26) dX4_readWords_26 rfl rfl ?_
          refine wp_getI (pc := 27) 5 dX4_readWords_27 fl_X4_55 rfl rfl ?_
          refine wp_iconst (pc := 30) dX4_readWords_30 (by decide) ?_
          refine wp_icmp_eq (pc := 31) 40 dX4_readWords_31 (by decide) (fun c_31 => ?_) (fun c_31 => ?_)
          · refine wp_aload_n (pc := 40) dX4_readWords_40 rfl rfl ?_
            refine wp_getI (pc := 41) 7 dX4_readWords_41 fl_X4_110 rfl rfl ?_
            refine wp_bipush (pc := 44) dX4_readWords_44 (by decide) (by decide) ?_
            refine wp_icmp_le (pc := 46) 55 dX4_readWords_46 (by decide) (fun c_46 => ?_) (fun c_46 => ?_)
            · refine wp_aload_n (pc := 55) dX4_readWords_55 rfl rfl ?_
              refine wp_getR (pc := 56) (q := 20) dX4_readWords_56 fl_X4_19 rfl ?_
              refine wp_getI (pc := 59) 1 dX4_readWords_59 fl_X4_133 rfl rfl ?_
              refine wp_bipush (pc := 62) dX4_readWords_62 (by decide) (by decide) ?_
              refine wp_icmp_lt (pc := 64) 73 dX4_readWords_64 (by decide) (fun c_64 => ?_) (fun c_64 => ?_)
              · have hL := tkL (t := t) (n := n) (x := q.x) (by omega) (by omega) (by omega)
                have hlet : ∀ x, σ_9 38 6 ≤ x → x < σ_9 38 6 + σ_9 38 7 → 97 ≤ σ_9 1 x ∧ σ_9 1 x ≤ 122 := fun x x0 x1 => by rw [hr.2.1]; exact hL.2 x (by omega) (by omega)
                refine wp_aload_n (pc := 73) dX4_readWords_73 rfl rfl ?_
                refine wp_getR (pc := 74) (q := 20) dX4_readWords_74 fl_X4_19 rfl ?_
                refine wp_aload_n (pc := 77) dX4_readWords_77 rfl rfl ?_
                refine wp_cvI0 (pc := 78) dX4_readWords_78 mv_X4_136 (c_wordAtHand hr.1 (by omega) (by omega) (by have := hr.1.2.1; omega) hlet) (Nat.le_of_ble_eq_true rfl) rfl (Nat.le_of_ble_eq_true rfl) (fun z_78 σ_78 h_78 => ?_)
                obtain ⟨⟨-, -, -, -, zz_78⟩, e_78⟩ := h_78; have e2_78 := e_78.symm; subst e2_78
                rw [hr.2.1, a6, a7] at zz_78
                have hok := (wcd_ok (t := t) (s := tkS t n q.x) (m := tkE t n q.x - tkS t n q.x) (by omega) (by omega) (fun k k0 k1 => hL.2 _ (by omega) (by omega))).1
                refine wp_cvV1 (pc := 81) dX4_readWords_81 mv_X4_139 (c_addWord (by omega) (by omega) (by rw [e20, e22]; omega)) (Nat.le_of_ble_eq_true rfl) rfl (Nat.le_of_ble_eq_true rfl) (fun σ_81 h_81 => ?_)
                subst h_81
                refine wp_iinc (pc := 84) dX4_readWords_84 rfl rfl (by omega) ?_
                refine wp_goto (pc := 87) 2 dX4_readWords_87 (by decide) ?_
                have hr2 := hr.addW hW hc1 z_78
                rw [zz_78] at hr2 ⊢
                refine ih (by omega) (by omega) _ _ hr2 (adW_DW (D := q.D) hW hc1 (by omega) hok) ?_ ?_ ?_ ?_
                · show 1 ≤ adW q.D (wcd t (tkS t n q.x) (tkE t n q.x - tkS t n q.x)) 0 0
                  simp [adW, updD]; omega
                · show i + 1 ≤ adW q.D (wcd t (tkS t n q.x) (tkE t n q.x - tkS t n q.x)) 1 (adW q.D (wcd t (tkS t n q.x) (tkE t n q.x - tkS t n q.x)) 0 0 - 1)
                  simp [adW, updD]; omega
                · exact (((hF.tr h_9.frm).up (by decide)).up (by decide)).up (by decide)
                · rw [he, if_neg (by omega), if_neg (by omega), if_neg (by omega), if_neg (by omega), show (80 - i).toNat = (80 - (i + 1)).toNat + 1 by omega]
                  rfl
              · refine wp_aload_n (pc := 67) dX4_readWords_67 rfl rfl ?_
                refine wp_iconst (pc := 68) dX4_readWords_68 (by decide) ?_
                refine wp_cvI1 (pc := 69) dX4_readWords_69 mv_X4_65 (c_refuse (w := 5)) (Nat.le_of_ble_eq_true rfl) rfl (Nat.le_of_ble_eq_true rfl) (fun z_69 σ_69 h_69 => ?_)
                obtain ⟨rfl, rfl⟩ := h_69
                refine wp_zreturn (pc := 72) dX4_readWords_72 rfl (by omega) ?_
                have eP : P = q.bad t n 5 := by rw [he, if_neg (by omega), if_neg (by omega), if_neg (by omega), if_pos (by omega)]
                rw [eP]
                exact ⟨_, rfl, RQ.tr hF (RQ.no2 hq h_9 (by decide))⟩
            · refine wp_aload_n (pc := 49) dX4_readWords_49 rfl rfl ?_
              refine wp_iconst (pc := 50) dX4_readWords_50 (by decide) ?_
              refine wp_cvI1 (pc := 51) dX4_readWords_51 mv_X4_65 (c_refuse (w := 3)) (Nat.le_of_ble_eq_true rfl) rfl (Nat.le_of_ble_eq_true rfl) (fun z_51 σ_51 h_51 => ?_)
              obtain ⟨rfl, rfl⟩ := h_51
              refine wp_zreturn (pc := 54) dX4_readWords_54 rfl (by omega) ?_
              have eP : P = q.bad t n 3 := by rw [he, if_neg (by omega), if_neg (by omega), if_pos (by omega)]
              rw [eP]
              exact ⟨_, rfl, RQ.tr hF (RQ.no2 hq h_9 (by decide))⟩
          · refine wp_aload_n (pc := 34) dX4_readWords_34 rfl rfl ?_
            refine wp_iconst (pc := 35) dX4_readWords_35 (by decide) ?_
            refine wp_cvI1 (pc := 36) dX4_readWords_36 mv_X4_65 (c_refuse (w := 2)) (Nat.le_of_ble_eq_true rfl) rfl (Nat.le_of_ble_eq_true rfl) (fun z_36 σ_36 h_36 => ?_)
            obtain ⟨rfl, rfl⟩ := h_36
            refine wp_zreturn (pc := 39) dX4_readWords_39 rfl (by omega) ?_
            have eP : P = q.bad t n 2 := by rw [he, if_neg (by omega), if_pos (by omega)]
            rw [eP]
            exact ⟨_, rfl, RQ.tr hF (RQ.no2 hq h_9 (by decide))⟩
        · refine wp_iconst (pc := 24) dX4_readWords_24 (by decide) ?_
          refine wp_zreturn (pc := 25) dX4_readWords_25 rfl (by omega) ?_
          have eP : P = q.nx t n := by rw [he, if_pos ⟨by omega, by omega⟩]
          rw [eP]
          exact ⟨_, rfl, hF.tr h_9.frm, Or.inl ⟨hq.2.2.2.2.1, rfl, hr⟩⟩
  have hb := hD.last h1
  refine wp_iconst (pc := 0) dX4_readWords_0 (by decide) ?_
  refine wp_istore_n (pc := 1) dX4_readWords_1 rfl (Nat.le_of_ble_eq_true rfl) rfl ?_
  exact lp 0 (by decide) (by decide) σ s h hD h1 (by omega) Frm.rf hP
