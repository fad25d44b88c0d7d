-- an entry of the model's table
def rpM (σ : Sto) (x : Int) (e : Int × Int × Int) : Prop := σ 90 x = e.1 ∧ (0 < e.1 → σ 88 x = e.2.1 ∧ σ 89 x = e.2.2)
set_option maxHeartbeats 4000000 in
set_option maxRecDepth 100000 in
theorem eCan_iff {wd : Int → Int} {R n w : Int} {r : Nat} {nx : Int → Int × Int × Int} {c : Int} (h1 : c = 1 ∨ us wd w c ≤ R) : eCan wd R n w r nx c ↔ (r = 0 ∧ w + c = n) ∨ (0 < r ∧ w + c < n ∧ 0 < (nx (w + c)).1) := by
  unfold eCan
  by_cases hr : r = 0
  · rw [if_pos hr]
    exact ⟨fun q => Or.inl ⟨hr, q.2⟩, fun q => ⟨h1, by rcases q with q | q; exact q.2; omega⟩⟩
  · rw [if_neg hr]
    exact ⟨fun q => Or.inr ⟨by omega, q.2⟩, fun q => ⟨h1, by rcases q with q | q; exact absurd q.1 hr; exact q.2⟩⟩
set_option maxHeartbeats 4000000 in
set_option maxRecDepth 100000 in
theorem m_choosesAt {σ D S : Sto} {p a f lf il R n w : Int} {r : Nat} {nx : Int → Int × Int × Int} (h : RM σ D S) (hp : 0 ≤ p ∧ p < D 0 0) (hn : n = D 1 p) (hw : 0 ≤ w ∧ w < n) (ha : 0 ≤ a ∧ a + 81 + (n - w) ≤ 6642) (hR : 0 ≤ R ∧ R ≤ 99) (hil : (il = 1 ∧ r = 0) ∨ (il = 0 ∧ 0 < r)) (hnx : 0 < r → ∀ c, 1 ≤ c → w + c < n → rpM σ (a + 81 + c) (nx (w + c))) (hbd : ∀ v, w < v → v < n → 0 < (nx v).1 → (0 ≤ (nx v).2.1 ∧ (nx v).2.1 ≤ 100) ∧ 0 ≤ (nx v).2.2 ∧ (nx v).2.2 ≤ 1000000) (hf : f = fstS D p + w) (hlf : lf = n - w) : CtV yX7_choosesAt cX7_choosesAt 12 none 1 [mR 71, mI a, mI f, mI lf, mI il, mI R] σ (fun σ' => Frm [88, 89, 90] σ σ' ∧ (∀ x, x ≠ a → σ' 88 x = σ 88 x ∧ σ' 89 x = σ 89 x ∧ σ' 90 x = σ 90 x) ∧ rpM σ' a (evB (wdS D p) R n w r nx (n - w).toNat)) := by
  refine ct_of rfl [some (mR 71), some (mI a), some (mI f), some (mI lf), some (mI il), some (mI R), none, none, none, none, none, none] (Nat.le_of_ble_eq_true rfl) rfl (fun hσ => ?_)
  show Wp cX7_choosesAt RX7 none 1 0 [some (mR 71), some (mI a), some (mI f), some (mI lf), some (mI il), some (mI R), none, none, none, none, none, none] [] _ _
  have nn := h.n
  have q := h.p hp.1 hp.2
  have lp : ∀ K : Int, K ≤ n - w → 0 ≤ K → ∀ τ : Sto, Frm [88, 89, 90] σ τ → (∀ x, x ≠ a → τ 88 x = σ 88 x ∧ τ 89 x = σ 89 x ∧ τ 90 x = σ 90 x) → rpM τ a (evB (wdS D p) R n w r nx K.toNat) → Wp cX7_choosesAt RX7 none 1 13 [some (mR 71), some (mI a), some (mI f), some (mI lf), some (mI il), some (mI R), some (mI (us (wdS D p) w K)), some (mI (K + 1)), none, none, none, none] [] τ (fun v σ' => v = none ∧ (fun σ' => Frm [88, 89, 90] σ σ' ∧ (∀ x, x ≠ a → σ' 88 x = σ 88 x ∧ σ' 89 x = σ 89 x ∧ σ' 90 x = σ 90 x) ∧ rpM σ' a (evB (wdS D p) R n w r nx (n - w).toNat)) σ') := by
    refine up_ind (n - w) (fun K hK ih K0 τ hF ho hrp => ?_)
    have hRM : RM τ D S := h.kp (hF 72 (by decide)) (hF 74 (by decide)) (by rw [hF 71 (by decide)])
    have us1 := us_s (wd := wdS D p) (s := w) (c := K) K0
    have hwb := wdS_bd D p (w + K)
    have hub : -1 ≤ us (wdS D p) w K ∧ us (wdS D p) w K ≤ 19 * 80 := by
      have := sumI_bd (f := fun k => wdS D p (w + k)) (n := K) (c := 18) K0 (fun k _ _ => wdS_bd D p _)
      unfold us
      omega
    have ewd : wid (D 4 (f + (K + 1) - 1)) = wdS D p (w + K) := by
      show _ = wid (D 4 (fstS D p + (w + K)))
      rw [show f + (K + 1) - 1 = fstS D p + (w + K) by omega]
    have eK : ((K.toNat : Nat) : Int) = K := by omega
    have eK1 : (K + 1).toNat = K.toNat + 1 := by omega
    -- behind a choice
    have w263 : ∀ τ' : Sto, K < n - w → Frm [88, 89, 90] σ τ' → (∀ x, x ≠ a → τ' 88 x = σ 88 x ∧ τ' 89 x = σ 89 x ∧ τ' 90 x = σ 90 x) → rpM τ' a (evB (wdS D p) R n w r nx (K + 1).toNat) → Wp cX7_choosesAt RX7 none 1 263 [some (mR 71), some (mI a), some (mI f), some (mI lf), some (mI il), some (mI R), some (mI (us (wdS D p) w (K + 1))), some (mI (K + 1)), none, none, none, none] [] τ' (fun v σ' => v = none ∧ (fun σ' => Frm [88, 89, 90] σ σ' ∧ (∀ x, x ≠ a → σ' 88 x = σ 88 x ∧ σ' 89 x = σ 89 x ∧ σ' 90 x = σ 90 x) ∧ rpM σ' a (evB (wdS D p) R n w r nx (n - w).toNat)) σ') := by
      intro τ' hK1 hF' ho' hr'
      refine wp_iinc (pc := 263) dX7_choosesAt_263 rfl rfl (by omega) ?_
      refine wp_goto (pc := 266) 13 dX7_choosesAt_266 (by decide) ?_
      exact ih hK1 (by omega) τ' hF' ho' hr'
    have w192 : ∀ ov sl can : Int, K < n - w → ((can = 1 ∧ eCan (wdS D p) R n w r nx (K + 1) ∧ ov = eO (wdS D p) R w r nx (K + 1) ∧ sl = eL (wdS D p) R w r nx (K + 1)) ∨ (can = 0 ∧ ¬ eCan (wdS D p) R n w r nx (K + 1))) → Wp cX7_choosesAt RX7 none 1 192 [some (mR 71), some (mI a), some (mI f), some (mI lf), some (mI il), some (mI R), some (mI (us (wdS D p) w (K + 1))), some (mI (K + 1)), none, some (mI ov), some (mI sl), some (mI can)] [] τ (fun v σ' => v = none ∧ (fun σ' => Frm [88, 89, 90] σ σ' ∧ (∀ x, x ≠ a → σ' 88 x = σ 88 x ∧ σ' 89 x = σ 89 x ∧ σ' 90 x = σ 90 x) ∧ rpM σ' a (evB (wdS D p) R n w r nx (n - w).toNat)) σ') := by
      intro ov sl can hK1 hc
      have no : ¬ (eCan (wdS D p) R n w r nx (K + 1) ∧ eBet (evB (wdS D p) R n w r nx K.toNat) (eO (wdS D p) R w r nx (K + 1)) (eL (wdS D p) R w r nx (K + 1))) → Wp cX7_choosesAt RX7 none 1 263 [some (mR 71), some (mI a), some (mI f), some (mI lf), some (mI il), some (mI R), some (mI (us (wdS D p) w (K + 1))), some (mI (K + 1)), none, some (mI ov), some (mI sl), some (mI can)] [] τ (fun v σ' => v = none ∧ (fun σ' => Frm [88, 89, 90] σ σ' ∧ (∀ x, x ≠ a → σ' 88 x = σ 88 x ∧ σ' 89 x = σ 89 x ∧ σ' 90 x = σ 90 x) ∧ rpM σ' a (evB (wdS D p) R n w r nx (n - w).toNat)) σ') := fun hno => by
        refine wp_fgt [9, 10, 11] (w263 τ hK1 hF ho ?_)
        rw [eK1, evB_no (by rw [eK]; exact hno)]
        exact hrp
      have yes : eCan (wdS D p) R n w r nx (K + 1) → ov = eO (wdS D p) R w r nx (K + 1) → sl = eL (wdS D p) R w r nx (K + 1) → eBet (evB (wdS D p) R n w r nx K.toNat) (eO (wdS D p) R w r nx (K + 1)) (eL (wdS D p) R w r nx (K + 1)) → Wp cX7_choosesAt RX7 none 1 239 [some (mR 71), some (mI a), some (mI f), some (mI lf), some (mI il), some (mI R), some (mI (us (wdS D p) w (K + 1))), some (mI (K + 1)), none, some (mI ov), some (mI sl), some (mI can)] [] τ (fun v σ' => v = none ∧ (fun σ' => Frm [88, 89, 90] σ σ' ∧ (∀ x, x ≠ a → σ' 88 x = σ 88 x ∧ σ' 89 x = σ 89 x ∧ σ' 90 x = σ 90 x) ∧ rpM σ' a (evB (wdS D p) R n w r nx (n - w).toNat)) σ') := fun h1 h2 h3 h4 => by
        refine wp_aload_n (pc := 239) dX7_choosesAt_239 rfl rfl ?_
        refine wp_getR (pc := 240) (q := 90) dX7_choosesAt_240 fl_X7_65 rfl ?_
        refine wp_iload_n (pc := 243) dX7_choosesAt_243 rfl rfl ?_
        refine wp_iload (pc := 244) dX7_choosesAt_244 rfl ?_
        refine wp_iast (pc := 246) 6642 dX7_choosesAt_246 rfl (by omega) ?_
        refine wp_aload_n (pc := 247) dX7_choosesAt_247 rfl rfl ?_
        refine wp_getR (pc := 248) (q := 88) dX7_choosesAt_248 fl_X7_59 rfl ?_
        refine wp_iload_n (pc := 251) dX7_choosesAt_251 rfl rfl ?_
        refine wp_iload (pc := 252) dX7_choosesAt_252 rfl ?_
        refine wp_iast (pc := 254) 6642 dX7_choosesAt_254 rfl (by omega) ?_
        refine wp_aload_n (pc := 255) dX7_choosesAt_255 rfl rfl ?_
        refine wp_getR (pc := 256) (q := 89) dX7_choosesAt_256 fl_X7_62 rfl ?_
        refine wp_iload_n (pc := 259) dX7_choosesAt_259 rfl rfl ?_
        refine wp_iload (pc := 260) dX7_choosesAt_260 rfl ?_
        refine wp_iast (pc := 262) 6642 dX7_choosesAt_262 rfl (by omega) ?_
        refine wp_fgt [9, 10, 11] (w263 _ hK1 (((hF.up (by decide)).up (by decide)).up (by decide)) (fun x hx => ?_) ?_)
        · have h0 := ho x hx
          refine ⟨?_, ?_, ?_⟩
          · rw [upd2_r (by decide), upd2_k hx, upd2_r (by decide)]; exact h0.1
          · rw [upd2_k hx, upd2_r (by decide), upd2_r (by decide)]; exact h0.2.1
          · rw [upd2_r (by decide), upd2_r (by decide), upd2_k hx]; exact h0.2.2
        · rw [eK1, evB_yes (by rw [eK]; exact h1) (by rw [eK]; exact h4), eK]
          refine ⟨?_, fun _ => ⟨?_, ?_⟩⟩
          · rw [upd2_r (by decide), upd2_r (by decide), upd2_eq]
          · rw [upd2_r (by decide), upd2_eq]; exact h2
          · rw [upd2_eq]; exact h3
      have hp0 : ¬ τ 90 a = 0 → 0 < (evB (wdS D p) R n w r nx K.toNat).1 := fun hz => by
        rw [hrp.1] at hz
        rcases evB_can (wd := wdS D p) (R := R) (n := n) (w := w) (r := r) (nx := nx) K.toNat with c | c
        · exact absurd c hz
        · omega
      refine wp_iload (pc := 192) dX7_choosesAt_192 rfl ?_
      refine wp_if_eq (pc := 194) 263 dX7_choosesAt_194 (by decide) (fun c_194 => ?_) (fun c_194 => ?_)
      · first
          | exact no (fun z => by rcases hc with c | c; (exact absurd c.1 (by omega)); (exact c.2 z.1))
          | (obtain ⟨-, c1, c2, c3⟩ : can = 1 ∧ eCan (wdS D p) R n w r nx (K + 1) ∧ ov = eO (wdS D p) R w r nx (K + 1) ∧ sl = eL (wdS D p) R w r nx (K + 1) := by
               rcases hc with c | c
               · exact c
               · exact absurd c.1 c_194
             obtain ⟨o1, o2⟩ := hrp.2 (hp0 c_203)
             have o0 := hrp.1
             refine no (fun z => ?_)
             unfold eBet at z
             rw [← c2, ← c3, ← o1, ← o2, ← o0] at z
             omega)
      · refine wp_aload_n (pc := 197) dX7_choosesAt_197 rfl rfl ?_
        refine wp_getR (pc := 198) (q := 90) dX7_choosesAt_198 fl_X7_65 rfl ?_
        refine wp_iload_n (pc := 201) dX7_choosesAt_201 rfl rfl ?_
        refine wp_iald (pc := 202) 6642 dX7_choosesAt_202 rfl (by omega) ?_
        refine wp_if_eq (pc := 203) 239 dX7_choosesAt_203 (by decide) (fun c_203 => ?_) (fun c_203 => ?_)
        · obtain ⟨-, c1, c2, c3⟩ : can = 1 ∧ eCan (wdS D p) R n w r nx (K + 1) ∧ ov = eO (wdS D p) R w r nx (K + 1) ∧ sl = eL (wdS D p) R w r nx (K + 1) := by
            rcases hc with c | c
            · exact c
            · exact absurd c.1 c_194
          refine yes c1 c2 c3 ?_
          unfold eBet
          rw [← c2, ← c3]
          first
            | exact Or.inl (hrp.1.symm.trans c_203)
            | (obtain ⟨o1, o2⟩ := hrp.2 (hp0 c_203)
               rw [← o1, ← o2]
               right
               omega)
        · refine wp_iload (pc := 206) dX7_choosesAt_206 rfl ?_
          refine wp_aload_n (pc := 208) dX7_choosesAt_208 rfl rfl ?_
          refine wp_getR (pc := 209) (q := 88) dX7_choosesAt_209 fl_X7_59 rfl ?_
          refine wp_iload_n (pc := 212) dX7_choosesAt_212 rfl rfl ?_
          refine wp_iald (pc := 213) 6642 dX7_choosesAt_213 rfl (by omega) ?_
          refine wp_icmp_lt (pc := 214) 239 dX7_choosesAt_214 (by decide) (fun c_214 => ?_) (fun c_214 => ?_)
          · obtain ⟨-, c1, c2, c3⟩ : can = 1 ∧ eCan (wdS D p) R n w r nx (K + 1) ∧ ov = eO (wdS D p) R w r nx (K + 1) ∧ sl = eL (wdS D p) R w r nx (K + 1) := by
              rcases hc with c | c
              · exact c
              · exact absurd c.1 c_194
            refine yes c1 c2 c3 ?_
            unfold eBet
            rw [← c2, ← c3]
            first
              | exact Or.inl (hrp.1.symm.trans c_203)
              | (obtain ⟨o1, o2⟩ := hrp.2 (hp0 c_203)
                 rw [← o1, ← o2]
                 right
                 omega)
          · refine wp_iload (pc := 217) dX7_choosesAt_217 rfl ?_
            refine wp_aload_n (pc := 219) dX7_choosesAt_219 rfl rfl ?_
            refine wp_getR (pc := 220) (q := 88) dX7_choosesAt_220 fl_X7_59 rfl ?_
            refine wp_iload_n (pc := 223) dX7_choosesAt_223 rfl rfl ?_
            refine wp_iald (pc := 224) 6642 dX7_choosesAt_224 rfl (by omega) ?_
            refine wp_icmp_ne (pc := 225) 263 dX7_choosesAt_225 (by decide) (fun c_225 => ?_) (fun c_225 => ?_)
            · first
                | exact no (fun z => by rcases hc with c | c; (exact absurd c.1 (by omega)); (exact c.2 z.1))
                | (obtain ⟨-, c1, c2, c3⟩ : can = 1 ∧ eCan (wdS D p) R n w r nx (K + 1) ∧ ov = eO (wdS D p) R w r nx (K + 1) ∧ sl = eL (wdS D p) R w r nx (K + 1) := by
                     rcases hc with c | c
                     · exact c
                     · exact absurd c.1 c_194
                   obtain ⟨o1, o2⟩ := hrp.2 (hp0 c_203)
                   have o0 := hrp.1
                   refine no (fun z => ?_)
                   unfold eBet at z
                   rw [← c2, ← c3, ← o1, ← o2, ← o0] at z
                   omega)
            · refine wp_iload (pc := 228) dX7_choosesAt_228 rfl ?_
              refine wp_aload_n (pc := 230) dX7_choosesAt_230 rfl rfl ?_
              refine wp_getR (pc := 231) (q := 89) dX7_choosesAt_231 fl_X7_62 rfl ?_
              refine wp_iload_n (pc := 234) dX7_choosesAt_234 rfl rfl ?_
              refine wp_iald (pc := 235) 6642 dX7_choosesAt_235 rfl (by omega) ?_
              refine wp_icmp_gt (pc := 236) 263 dX7_choosesAt_236 (by decide) (fun c_236 => ?_) (fun c_236 => ?_)
              · first
                  | exact no (fun z => by rcases hc with c | c; (exact absurd c.1 (by omega)); (exact c.2 z.1))
                  | (obtain ⟨-, c1, c2, c3⟩ : can = 1 ∧ eCan (wdS D p) R n w r nx (K + 1) ∧ ov = eO (wdS D p) R w r nx (K + 1) ∧ sl = eL (wdS D p) R w r nx (K + 1) := by
                       rcases hc with c | c
                       · exact c
                       · exact absurd c.1 c_194
                     obtain ⟨o1, o2⟩ := hrp.2 (hp0 c_203)
                     have o0 := hrp.1
                     refine no (fun z => ?_)
                     unfold eBet at z
                     rw [← c2, ← c3, ← o1, ← o2, ← o0] at z
                     omega)
              · obtain ⟨-, c1, c2, c3⟩ : can = 1 ∧ eCan (wdS D p) R n w r nx (K + 1) ∧ ov = eO (wdS D p) R w r nx (K + 1) ∧ sl = eL (wdS D p) R w r nx (K + 1) := by
                  rcases hc with c | c
                  · exact c
                  · exact absurd c.1 c_194
                refine yes c1 c2 c3 ?_
                unfold eBet
                rw [← c2, ← c3]
                first
                  | exact Or.inl (hrp.1.symm.trans c_203)
                  | (obtain ⟨o1, o2⟩ := hrp.2 (hp0 c_203)
                     rw [← o1, ← o2]
                     right
                     omega)
    have w146 : ∀ can : Int, K < n - w → (K + 1 = 1 ∨ us (wdS D p) w (K + 1) ≤ R) → ((can = 1 ∧ eCan (wdS D p) R n w r nx (K + 1)) ∨ (can = 0 ∧ ¬ eCan (wdS D p) R n w r nx (K + 1))) → Wp cX7_choosesAt RX7 none 1 146 [some (mR 71), some (mI a), some (mI f), some (mI lf), some (mI il), some (mI R), some (mI (us (wdS D p) w (K + 1))), some (mI (K + 1)), none, some (mI (fov (wdS D p) R w (K + 1))), some (mI (fsl (wdS D p) R w (K + 1) r)), none] [mI can] τ (fun v σ' => v = none ∧ (fun σ' => Frm [88, 89, 90] σ σ' ∧ (∀ x, x ≠ a → σ' 88 x = σ 88 x ∧ σ' 89 x = σ 89 x ∧ σ' 90 x = σ 90 x) ∧ rpM σ' a (evB (wdS D p) R n w r nx (n - w).toNat)) σ') := by
      intro can hK1 hfit hc
      have hfo : 0 ≤ fov (wdS D p) R w (K + 1) ∧ fov (wdS D p) R w (K + 1) ≤ 1 := by unfold fov; split <;> omega
      have hfs := fsl_bd (wd := wdS D p) (R := R) (w := w) (c := K + 1) (r := r) hR.2 (by omega)
      refine wp_istore (pc := 146) dX7_choosesAt_146 (Nat.le_of_ble_eq_true rfl) rfl ?_
      refine wp_iload (pc := 148) dX7_choosesAt_148 rfl ?_
      refine wp_if_eq (pc := 150) 192 dX7_choosesAt_150 (by decide) (fun c_150 => ?_) (fun c_150 => ?_)
      · first
          | exact w192 _ _ _ hK1 (Or.inl ⟨by omega, hcan, rfl, rfl⟩)
          | (refine w192 _ _ _ hK1 (Or.inr ⟨c_150, ?_⟩)
             rcases hc with c | c
             · exact absurd c.1 (by omega)
             · exact c.2)
          | (have hr0 : r = 0 := by omega
             refine w192 _ _ _ hK1 ?_
             rcases hc with c | c
             · exact Or.inl ⟨c.1, c.2, by unfold eO; rw [if_pos hr0]; omega, by unfold eL; rw [if_pos hr0]; omega⟩
             · exact Or.inr c)
      · refine wp_iload (pc := 153) dX7_choosesAt_153 rfl ?_
        refine wp_if_ne (pc := 155) 192 dX7_choosesAt_155 (by decide) (fun c_155 => ?_) (fun c_155 => ?_)
        · first
            | exact w192 _ _ _ hK1 (Or.inl ⟨by omega, hcan, rfl, rfl⟩)
            | (refine w192 _ _ _ hK1 (Or.inr ⟨c_150, ?_⟩)
               rcases hc with c | c
               · exact absurd c.1 (by omega)
               · exact c.2)
            | (have hr0 : r = 0 := by omega
               refine w192 _ _ _ hK1 ?_
               rcases hc with c | c
               · exact Or.inl ⟨c.1, c.2, by unfold eO; rw [if_pos hr0]; omega, by unfold eL; rw [if_pos hr0]; omega⟩
               · exact Or.inr c)
        · have hr0 : 0 < r := by omega
          have hcan : eCan (wdS D p) R n w r nx (K + 1) := by
            rcases hc with c | c
            · exact c.2
            · exact absurd c.1 c_150
          have hci := (eCan_iff hfit).mp hcan
          have hrx := hnx hr0 (K + 1) (by omega) (by omega)
          have hry : rpM τ (a + 81 + (K + 1)) (nx (w + (K + 1))) := by
            have hox := ho (a + 81 + (K + 1)) (by omega)
            unfold rpM at *
            rw [hox.1, hox.2.1, hox.2.2]; exact hrx
          have hb1 := hbd (w + (K + 1)) (by omega) (by omega) (by omega)
          obtain ⟨o1, o2⟩ := hry.2 (by omega)
          have eO1 : eO (wdS D p) R w r nx (K + 1) = fov (wdS D p) R w (K + 1) + (nx (w + (K + 1))).2.1 := by unfold eO; rw [if_neg (by omega)]
          have eL1 : eL (wdS D p) R w r nx (K + 1) = fsl (wdS D p) R w (K + 1) r + (nx (w + (K + 1))).2.2 := by unfold eL; rw [if_neg (by omega)]
          refine wp_iload (pc := 158) dX7_choosesAt_158 rfl ?_
          refine wp_aload_n (pc := 160) dX7_choosesAt_160 rfl rfl ?_
          refine wp_getR (pc := 161) (q := 88) dX7_choosesAt_161 fl_X7_59 rfl ?_
          refine wp_iload_n (pc := 164) dX7_choosesAt_164 rfl rfl ?_
          refine wp_bipush (pc := 165) dX7_choosesAt_165 (by decide) (by decide) ?_
          refine wp_iadd (pc := 167) dX7_choosesAt_167 (by omega) ?_
          refine wp_iload (pc := 168) dX7_choosesAt_168 rfl ?_
          refine wp_iadd (pc := 170) dX7_choosesAt_170 (by omega) ?_
          refine wp_iald (pc := 171) 6642 dX7_choosesAt_171 rfl (by omega) ?_
          rw [o1]
          refine wp_iadd (pc := 172) dX7_choosesAt_172 (by omega) ?_
          rw [← eO1]
          refine wp_istore (pc := 173) dX7_choosesAt_173 (Nat.le_of_ble_eq_true rfl) rfl ?_
          refine wp_iload (pc := 175) dX7_choosesAt_175 rfl ?_
          refine wp_aload_n (pc := 177) dX7_choosesAt_177 rfl rfl ?_
          refine wp_getR (pc := 178) (q := 89) dX7_choosesAt_178 fl_X7_62 rfl ?_
          refine wp_iload_n (pc := 181) dX7_choosesAt_181 rfl rfl ?_
          refine wp_bipush (pc := 182) dX7_choosesAt_182 (by decide) (by decide) ?_
          refine wp_iadd (pc := 184) dX7_choosesAt_184 (by omega) ?_
          refine wp_iload (pc := 185) dX7_choosesAt_185 rfl ?_
          refine wp_iadd (pc := 187) dX7_choosesAt_187 (by omega) ?_
          refine wp_iald (pc := 188) 6642 dX7_choosesAt_188 rfl (by omega) ?_
          rw [o2]
          refine wp_iadd (pc := 189) dX7_choosesAt_189 (by omega) ?_
          rw [← eL1]
          refine wp_istore (pc := 190) dX7_choosesAt_190 (Nat.le_of_ble_eq_true rfl) rfl ?_
          first
            | exact w192 _ _ _ hK1 (Or.inl ⟨by omega, hcan, rfl, rfl⟩)
            | (refine w192 _ _ _ hK1 (Or.inr ⟨c_150, ?_⟩)
               rcases hc with c | c
               · exact absurd c.1 (by omega)
               · exact c.2)
            | (have hr0 : r = 0 := by omega
               refine w192 _ _ _ hK1 ?_
               rcases hc with c | c
               · exact Or.inl ⟨c.1, c.2, by unfold eO; rw [if_pos hr0]; omega, by unfold eL; rw [if_pos hr0]; omega⟩
               · exact Or.inr c)
    have w99 : ∀ sl : Int, K < n - w → (K + 1 = 1 ∨ us (wdS D p) w (K + 1) ≤ R) → sl = fsl (wdS D p) R w (K + 1) r → Wp cX7_choosesAt RX7 none 1 99 [some (mR 71), some (mI a), some (mI f), some (mI lf), some (mI il), some (mI R), some (mI (us (wdS D p) w (K + 1))), some (mI (K + 1)), none, some (mI (fov (wdS D p) R w (K + 1))), none, none] [mI sl] τ (fun v σ' => v = none ∧ (fun σ' => Frm [88, 89, 90] σ σ' ∧ (∀ x, x ≠ a → σ' 88 x = σ 88 x ∧ σ' 89 x = σ 89 x ∧ σ' 90 x = σ 90 x) ∧ rpM σ' a (evB (wdS D p) R n w r nx (n - w).toNat)) σ') := by
      intro sl hK1 hfit hsl
      rw [hsl]
      have hci := eCan_iff (wd := wdS D p) (R := R) (n := n) (w := w) (r := r) (nx := nx) hfit
      have hrx : 0 < r → K + 1 < lf → τ 90 (a + 81 + (K + 1)) = (nx (w + (K + 1))).1 := fun c1 c2 => by
        rw [(ho (a + 81 + (K + 1)) (by omega)).2.2]
        exact (hnx c1 (K + 1) (by omega) (by omega)).1
      refine wp_istore (pc := 99) dX7_choosesAt_99 (Nat.le_of_ble_eq_true rfl) rfl ?_
      refine wp_iload (pc := 101) dX7_choosesAt_101 rfl ?_
      refine wp_if_eq (pc := 103) 120 dX7_choosesAt_103 (by decide) (fun c_103 => ?_) (fun c_103 => ?_)
      · refine wp_iload (pc := 120) dX7_choosesAt_120 rfl ?_
        refine wp_iload_n (pc := 122) dX7_choosesAt_122 rfl rfl ?_
        refine wp_icmp_ge (pc := 123) 145 dX7_choosesAt_123 (by decide) (fun c_123 => ?_) (fun c_123 => ?_)
        · refine wp_iconst (pc := 145) dX7_choosesAt_145 (by decide) ?_
          refine w146 _ hK1 hfit ?_
          first
            | exact Or.inl ⟨rfl, hci.mpr (by omega)⟩
            | exact Or.inl ⟨rfl, hci.mpr (by have := hrx (by omega) (by omega); omega)⟩
            | exact Or.inr ⟨rfl, fun z => by have := hci.mp z; omega⟩
            | exact Or.inr ⟨rfl, fun z => by have := hci.mp z; have := hrx (by omega) (by omega); omega⟩
        · refine wp_aload_n (pc := 126) dX7_choosesAt_126 rfl rfl ?_
          refine wp_getR (pc := 127) (q := 90) dX7_choosesAt_127 fl_X7_65 rfl ?_
          refine wp_iload_n (pc := 130) dX7_choosesAt_130 rfl rfl ?_
          refine wp_bipush (pc := 131) dX7_choosesAt_131 (by decide) (by decide) ?_
          refine wp_iadd (pc := 133) dX7_choosesAt_133 (by omega) ?_
          refine wp_iload (pc := 134) dX7_choosesAt_134 rfl ?_
          refine wp_iadd (pc := 136) dX7_choosesAt_136 (by omega) ?_
          refine wp_iald (pc := 137) 6642 dX7_choosesAt_137 rfl (by omega) ?_
          refine wp_if_le (pc := 138) 145 dX7_choosesAt_138 (by decide) (fun c_138 => ?_) (fun c_138 => ?_)
          · refine wp_iconst (pc := 145) dX7_choosesAt_145 (by decide) ?_
            refine w146 _ hK1 hfit ?_
            first
              | exact Or.inl ⟨rfl, hci.mpr (by omega)⟩
              | exact Or.inl ⟨rfl, hci.mpr (by have := hrx (by omega) (by omega); omega)⟩
              | exact Or.inr ⟨rfl, fun z => by have := hci.mp z; omega⟩
              | exact Or.inr ⟨rfl, fun z => by have := hci.mp z; have := hrx (by omega) (by omega); omega⟩
          · refine wp_iconst (pc := 141) dX7_choosesAt_141 (by decide) ?_
            refine wp_goto (pc := 142) 146 dX7_choosesAt_142 (by decide) ?_
            refine w146 _ hK1 hfit ?_
            first
              | exact Or.inl ⟨rfl, hci.mpr (by omega)⟩
              | exact Or.inl ⟨rfl, hci.mpr (by have := hrx (by omega) (by omega); omega)⟩
              | exact Or.inr ⟨rfl, fun z => by have := hci.mp z; omega⟩
              | exact Or.inr ⟨rfl, fun z => by have := hci.mp z; have := hrx (by omega) (by omega); omega⟩
      · refine wp_iload (pc := 106) dX7_choosesAt_106 rfl ?_
        refine wp_iload_n (pc := 108) dX7_choosesAt_108 rfl rfl ?_
        refine wp_icmp_ne (pc := 109) 116 dX7_choosesAt_109 (by decide) (fun c_109 => ?_) (fun c_109 => ?_)
        · refine wp_iconst (pc := 116) dX7_choosesAt_116 (by decide) ?_
          refine wp_goto (pc := 117) 146 dX7_choosesAt_117 (by decide) ?_
          refine w146 _ hK1 hfit ?_
          first
            | exact Or.inl ⟨rfl, hci.mpr (by omega)⟩
            | exact Or.inl ⟨rfl, hci.mpr (by have := hrx (by omega) (by omega); omega)⟩
            | exact Or.inr ⟨rfl, fun z => by have := hci.mp z; omega⟩
            | exact Or.inr ⟨rfl, fun z => by have := hci.mp z; have := hrx (by omega) (by omega); omega⟩
        · refine wp_iconst (pc := 112) dX7_choosesAt_112 (by decide) ?_
          refine wp_goto (pc := 113) 146 dX7_choosesAt_113 (by decide) ?_
          refine w146 _ hK1 hfit ?_
          first
            | exact Or.inl ⟨rfl, hci.mpr (by omega)⟩
            | exact Or.inl ⟨rfl, hci.mpr (by have := hrx (by omega) (by omega); omega)⟩
            | exact Or.inr ⟨rfl, fun z => by have := hci.mp z; omega⟩
            | exact Or.inr ⟨rfl, fun z => by have := hci.mp z; have := hrx (by omega) (by omega); omega⟩
    have w48 : ∀ fi : Int, K < n - w → ((fi = 1 ∧ us (wdS D p) w (K + 1) ≤ R) ∨ (fi = 0 ∧ ¬ us (wdS D p) w (K + 1) ≤ R)) → Wp cX7_choosesAt RX7 none 1 48 [some (mR 71), some (mI a), some (mI f), some (mI lf), some (mI il), some (mI R), some (mI (us (wdS D p) w (K + 1))), some (mI (K + 1)), none, none, none, none] [mI fi] τ (fun v σ' => v = none ∧ (fun σ' => Frm [88, 89, 90] σ σ' ∧ (∀ x, x ≠ a → σ' 88 x = σ 88 x ∧ σ' 89 x = σ 89 x ∧ σ' 90 x = σ 90 x) ∧ rpM σ' a (evB (wdS D p) R n w r nx (n - w).toNat)) σ') := by
      intro fi hK1 hfi
      have hfs := fsl_bd (wd := wdS D p) (R := R) (w := w) (c := K + 1) (r := r) hR.2 (by omega)
      have efs : us (wdS D p) w (K + 1) ≤ R → 0 < r → fsl (wdS D p) R w (K + 1) r = (R - us (wdS D p) w (K + 1)) * (R - us (wdS D p) w (K + 1)) := fun c1 c2 => by unfold fsl; rw [if_neg (by omega)]
      have efo : ∀ z : Int, ((z = 0 ∧ us (wdS D p) w (K + 1) ≤ R) ∨ (z = 1 ∧ ¬ us (wdS D p) w (K + 1) ≤ R)) → z = fov (wdS D p) R w (K + 1) := fun z hz => by
        unfold fov
        rcases hz with c | c
        · rw [if_pos c.2]; exact c.1
        · rw [if_neg c.2]; exact c.1
      have efz : r = 0 ∨ ¬ us (wdS D p) w (K + 1) ≤ R → (0 : Int) = fsl (wdS D p) R w (K + 1) r := fun c => by unfold fsl; rw [if_pos c]
      have w72 : ∀ ov : Int, (K + 1 = 1 ∨ us (wdS D p) w (K + 1) ≤ R) → ov = fov (wdS D p) R w (K + 1) → Wp cX7_choosesAt RX7 none 1 72 [some (mR 71), some (mI a), some (mI f), some (mI lf), some (mI il), some (mI R), some (mI (us (wdS D p) w (K + 1))), some (mI (K + 1)), some (mI fi), none, none, none] [mI ov] τ (fun v σ' => v = none ∧ (fun σ' => Frm [88, 89, 90] σ σ' ∧ (∀ x, x ≠ a → σ' 88 x = σ 88 x ∧ σ' 89 x = σ 89 x ∧ σ' 90 x = σ 90 x) ∧ rpM σ' a (evB (wdS D p) R n w r nx (n - w).toNat)) σ') := by
        intro ov hfit hov
        rw [hov]
        refine wp_istore (pc := 72) dX7_choosesAt_72 (Nat.le_of_ble_eq_true rfl) rfl ?_
        refine wp_iload (pc := 74) dX7_choosesAt_74 rfl ?_
        refine wp_if_ne (pc := 76) 84 dX7_choosesAt_76 (by decide) (fun c_76 => ?_) (fun c_76 => ?_)
        · refine wp_iconst (pc := 84) dX7_choosesAt_84 (by decide) ?_
          refine wp_goto (pc := 85) 99 dX7_choosesAt_85 (by decide) ?_
          refine wp_fgt [8] ?_
          first
            | exact w99 _ hK1 hfit (efz (by omega))
            | exact w99 _ hK1 hfit (efs (by omega) (by omega)).symm
        · refine wp_iload (pc := 79) dX7_choosesAt_79 rfl ?_
          refine wp_if_ne (pc := 81) 88 dX7_choosesAt_81 (by decide) (fun c_81 => ?_) (fun c_81 => ?_)
          · refine wp_iload (pc := 88) dX7_choosesAt_88 rfl ?_
            refine wp_iload (pc := 90) dX7_choosesAt_90 rfl ?_
            refine wp_isub (pc := 92) dX7_choosesAt_92 (by omega) ?_
            refine wp_iload (pc := 93) dX7_choosesAt_93 rfl ?_
            refine wp_iload (pc := 95) dX7_choosesAt_95 rfl ?_
            refine wp_isub (pc := 97) dX7_choosesAt_97 (by omega) ?_
            have e98 := efs (by omega) (by omega)
            refine wp_imul (pc := 98) dX7_choosesAt_98 (by rw [← e98]; exact ⟨by omega, by omega⟩) ?_
            refine wp_fgt [8] ?_
            first
              | exact w99 _ hK1 hfit (efz (by omega))
              | exact w99 _ hK1 hfit (efs (by omega) (by omega)).symm
          · refine wp_iconst (pc := 84) dX7_choosesAt_84 (by decide) ?_
            refine wp_goto (pc := 85) 99 dX7_choosesAt_85 (by decide) ?_
            refine wp_fgt [8] ?_
            first
              | exact w99 _ hK1 hfit (efz (by omega))
              | exact w99 _ hK1 hfit (efs (by omega) (by omega)).symm
      refine wp_istore (pc := 48) dX7_choosesAt_48 (Nat.le_of_ble_eq_true rfl) rfl ?_
      refine wp_iload (pc := 50) dX7_choosesAt_50 rfl ?_
      refine wp_iconst (pc := 52) dX7_choosesAt_52 (by decide) ?_
      refine wp_icmp_le (pc := 53) 62 dX7_choosesAt_53 (by decide) (fun c_53 => ?_) (fun c_53 => ?_)
      · refine wp_iload (pc := 62) dX7_choosesAt_62 rfl ?_
        refine wp_if_eq (pc := 64) 71 dX7_choosesAt_64 (by decide) (fun c_64 => ?_) (fun c_64 => ?_)
        · refine wp_iconst (pc := 71) dX7_choosesAt_71 (by decide) ?_
          first
            | exact w72 _ (by omega) (efo _ (Or.inl ⟨rfl, by omega⟩))
            | exact w72 _ (by omega) (efo _ (Or.inr ⟨rfl, by omega⟩))
        · refine wp_iconst (pc := 67) dX7_choosesAt_67 (by decide) ?_
          refine wp_goto (pc := 68) 72 dX7_choosesAt_68 (by decide) ?_
          first
            | exact w72 _ (by omega) (efo _ (Or.inl ⟨rfl, by omega⟩))
            | exact w72 _ (by omega) (efo _ (Or.inr ⟨rfl, by omega⟩))
      · refine wp_iload (pc := 56) dX7_choosesAt_56 rfl ?_
        refine wp_if_ne (pc := 58) 62 dX7_choosesAt_58 (by decide) (fun c_58 => ?_) (fun c_58 => ?_)
        · refine wp_iload (pc := 62) dX7_choosesAt_62 rfl ?_
          refine wp_if_eq (pc := 64) 71 dX7_choosesAt_64 (by decide) (fun c_64 => ?_) (fun c_64 => ?_)
          · refine wp_iconst (pc := 71) dX7_choosesAt_71 (by decide) ?_
            first
              | exact w72 _ (by omega) (efo _ (Or.inl ⟨rfl, by omega⟩))
              | exact w72 _ (by omega) (efo _ (Or.inr ⟨rfl, by omega⟩))
          · refine wp_iconst (pc := 67) dX7_choosesAt_67 (by decide) ?_
            refine wp_goto (pc := 68) 72 dX7_choosesAt_68 (by decide) ?_
            first
              | exact w72 _ (by omega) (efo _ (Or.inl ⟨rfl, by omega⟩))
              | exact w72 _ (by omega) (efo _ (Or.inr ⟨rfl, by omega⟩))
        · refine wp_return (pc := 61) dX7_choosesAt_61 rfl ?_
          refine ⟨rfl, hF, ho, ?_⟩
          have := evB_stop (wd := wdS D p) (R := R) (n := n) (w := w) (r := r) (nx := nx) (a := K.toNat) (fun c hc hcan => by
            have hm := us_mono (wd := wdS D p) (s := w) (a := K + 1) (b := (c : Int) + 1) (by omega) (by omega) (fun k _ _ => (wdS_bd D p _).1)
            have := hcan.1
            omega) ((n - w).toNat - K.toNat)
          rw [show K.toNat + ((n - w).toNat - K.toNat) = (n - w).toNat by omega] at this
          rw [this]
          exact hrp
    refine wp_iload (pc := 13) dX7_choosesAt_13 rfl ?_
    refine wp_iload_n (pc := 15) dX7_choosesAt_15 rfl rfl ?_
    refine wp_icmp_gt (pc := 16) 269 dX7_choosesAt_16 (by decide) (fun c_16 => ?_) (fun c_16 => ?_)
    · refine wp_return (pc := 269) dX7_choosesAt_269 rfl ?_
      rw [show K = n - w by omega] at hrp
      exact ⟨rfl, hF, ho, hrp⟩
    · refine wp_iload (pc := 19) dX7_choosesAt_19 rfl ?_
      refine wp_iconst (pc := 21) dX7_choosesAt_21 (by decide) ?_
      refine wp_aload_n (pc := 22) dX7_choosesAt_22 rfl rfl ?_
      refine wp_iload_n (pc := 23) dX7_choosesAt_23 rfl rfl ?_
      refine wp_iload (pc := 24) dX7_choosesAt_24 rfl ?_
      refine wp_iadd (pc := 26) dX7_choosesAt_26 (by omega) ?_
      refine wp_iconst (pc := 27) dX7_choosesAt_27 (by decide) ?_
      refine wp_isub (pc := 28) dX7_choosesAt_28 (by omega) ?_
      refine wp_cvI1 (pc := 29) dX7_choosesAt_29 mv_X7_195 (m_widthOf hRM (by omega)) (Nat.le_of_ble_eq_true rfl) rfl (Nat.le_of_ble_eq_true rfl) (fun z_29 σ_29 h_29 => ?_)
      obtain ⟨rfl, e_29⟩ := h_29; have e2_29 := e_29.symm; subst e2_29
      rw [ewd]
      refine wp_iadd (pc := 32) dX7_choosesAt_32 (by omega) ?_
      refine wp_iadd (pc := 33) dX7_choosesAt_33 (by omega) ?_
      rw [show us (wdS D p) w K + (1 + wdS D p (w + K)) = us (wdS D p) w (K + 1) by omega]
      refine wp_istore (pc := 34) dX7_choosesAt_34 (Nat.le_of_ble_eq_true rfl) rfl ?_
      refine wp_iload (pc := 36) dX7_choosesAt_36 rfl ?_
      refine wp_iload (pc := 38) dX7_choosesAt_38 rfl ?_
      refine wp_icmp_gt (pc := 40) 47 dX7_choosesAt_40 (by decide) (fun c_40 => ?_) (fun c_40 => ?_)
      · refine wp_iconst (pc := 47) dX7_choosesAt_47 (by decide) ?_
        first
          | exact w48 _ (by omega) (Or.inl ⟨rfl, by omega⟩)
          | exact w48 _ (by omega) (Or.inr ⟨rfl, by omega⟩)
      · refine wp_iconst (pc := 43) dX7_choosesAt_43 (by decide) ?_
        refine wp_goto (pc := 44) 48 dX7_choosesAt_44 (by decide) ?_
        first
          | exact w48 _ (by omega) (Or.inl ⟨rfl, by omega⟩)
          | exact w48 _ (by omega) (Or.inr ⟨rfl, by omega⟩)
  refine wp_aload_n (pc := 0) dX7_choosesAt_0 rfl rfl ?_
  refine wp_getR (pc := 1) (q := 90) dX7_choosesAt_1 fl_X7_65 rfl ?_
  refine wp_iload_n (pc := 4) dX7_choosesAt_4 rfl rfl ?_
  refine wp_iconst (pc := 5) dX7_choosesAt_5 (by decide) ?_
  refine wp_iast (pc := 6) 6642 dX7_choosesAt_6 rfl (by omega) ?_
  refine wp_iconst (pc := 7) dX7_choosesAt_7 (by decide) ?_
  refine wp_istore (pc := 8) dX7_choosesAt_8 (Nat.le_of_ble_eq_true rfl) rfl ?_
  refine wp_iconst (pc := 10) dX7_choosesAt_10 (by decide) ?_
  refine wp_istore (pc := 11) dX7_choosesAt_11 (Nat.le_of_ble_eq_true rfl) rfl ?_
  have := lp 0 (by omega) (by decide) (upd2 σ 90 a 0) (Frm.rf.up (by decide)) (fun x hx => ?_) ?_
  · exact this
  · rw [upd2_r (by decide), upd2_r (by decide), upd2_k hx]; exact ⟨rfl, rfl, rfl⟩
  · exact ⟨upd2_eq, fun z => absurd (show (0 : Int) < 0 from z) (by decide)⟩
