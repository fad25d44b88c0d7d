section CASES
variable {g : GG} {p : Program} {l : Launch} {e : Env} {s : State} {m : MethodId} {args : Array Value} {below : List Frame} {meth : Method} {c : Code} {H : Heap} {locs : List Loc} {cells slots : Nat} {Q : State → Prop} {ls : Array Slot} {σ : Sto} {b L : Nat} {xs : Nat → Int32}
set_option maxHeartbeats 4000000 in
set_option maxRecDepth 100000 in
theorem lc_0 (C : LwC g p s m args c b L xs) (hP : va_P (gD g) vwCl (wsO g σ) H) (hS : va_S (lA s) s.heap H locs) (hσ : okS σ) {i : Nat} (hlo : lv_has ls 4 (lLoc g b i)) (hI : INV σ) (hi : i + 5 ≤ L) (hL : L ≤ 2560) (hroom : cells ≤ room_1.cells ∧ slots ≤ room_1.slots)
    (kk : ∀ (σ' : Sto) (H1 : Heap) (locs1 : List Loc), INV σ' → okS σ' → va_P (gD g) vwCl (wsO g σ') H1 → va_S (lA s) s.heap H1 locs1 → W p l e room_1 s m args below meth c H1 locs1 cells slots Q (F0 m 876 ls [])) : W p l e room_1 s m args below meth c H locs cells slots Q (F0 m 144 ls []) := by
  refine lv_aload_n C.1 C.2.1 dL_law_144 rfl (lv_at hlo 1 rfl) ?_
  refine l_arg C hS hlo 1 rfl (by omega) hL dL_law_145 dL_law_146 dL_law_147 dL_law_148 dL_law_149 ?_
  obtain ⟨Qc, hM, hk⟩ := p_feed (c := (xs (i + 1)).toInt) hI
  refine l_call C hP hS hσ hlo (as := [mI (xs (i + 1)).toInt]) dL_law_150 mv_L_13 hM ⟨xs_ok _, trivial⟩ rfl rfl rfl (Nat.le_of_ble_eq_true rfl) ⟨by decide, by decide⟩ hroom (fun z σ1 H1 locs1 hq hz hσ1 hP1 hS1 => ?_)
  obtain ⟨Qm, hM2, hk2⟩ := hk z σ1 hq
  refine lv_aload_n C.1 C.2.1 dL_law_153 rfl (lv_at hlo 2 rfl) ?_
  refine l_arg C hS1 hlo 1 rfl (by omega) hL dL_law_154 dL_law_155 dL_law_156 dL_law_157 dL_law_158 ?_
  refine l_call C hP1 hS1 hσ1 hlo (as := [mI (xs (i + 1)).toInt]) dL_law_159 mv_L_17 hM2 ⟨xs_ok _, trivial⟩ rfl rfl rfl (Nat.le_of_ble_eq_true rfl) ⟨by decide, by decide⟩ hroom (fun z2 σ2 H2 locs2 hq2 hz2 hσ2 hP2 hS2 => ?_)
  obtain ⟨rfl, hI2⟩ := hk2 z2 σ2 hq2
  exact lv_icmp_eq (tgt := 876) C.1 C.2.1 dL_law_162 rfl (fun _ => kk σ2 H2 locs2 hI2 hσ2 hP2 hS2) (fun h => absurd rfl h)
set_option maxHeartbeats 4000000 in
set_option maxRecDepth 100000 in
theorem lc_1 (C : LwC g p s m args c b L xs) (hP : va_P (gD g) vwCl (wsO g σ) H) (hS : va_S (lA s) s.heap H locs) (hσ : okS σ) {i : Nat} (hlo : lv_has ls 4 (lLoc g b i)) (hI : INV σ) (hi : i + 5 ≤ L) (hL : L ≤ 2560) (hroom : cells ≤ room_1.cells ∧ slots ≤ room_1.slots)
    (kk : ∀ (σ' : Sto) (H1 : Heap) (locs1 : List Loc), INV σ' → okS σ' → va_P (gD g) vwCl (wsO g σ') H1 → va_S (lA s) s.heap H1 locs1 → W p l e room_1 s m args below meth c H1 locs1 cells slots Q (F0 m 876 ls [])) : W p l e room_1 s m args below meth c H locs cells slots Q (F0 m 167 ls []) := by
  refine lv_aload_n C.1 C.2.1 dL_law_167 rfl (lv_at hlo 1 rfl) ?_
  refine l_arg C hS hlo 1 rfl (by omega) hL dL_law_168 dL_law_169 dL_law_170 dL_law_171 dL_law_172 ?_
  obtain ⟨Qc, hM, hk⟩ := p_end (n := (xs (i + 1)).toInt) hI
  refine l_call C hP hS hσ hlo (as := [mI (xs (i + 1)).toInt]) dL_law_173 mv_L_18 hM ⟨xs_ok _, trivial⟩ rfl rfl rfl (Nat.le_of_ble_eq_true rfl) ⟨by decide, by decide⟩ hroom (fun z σ1 H1 locs1 hq hz hσ1 hP1 hS1 => ?_)
  obtain ⟨Qm, hM2, hk2⟩ := hk z σ1 hq
  refine lv_aload_n C.1 C.2.1 dL_law_176 rfl (lv_at hlo 2 rfl) ?_
  refine l_arg C hS1 hlo 1 rfl (by omega) hL dL_law_177 dL_law_178 dL_law_179 dL_law_180 dL_law_181 ?_
  refine l_call C hP1 hS1 hσ1 hlo (as := [mI (xs (i + 1)).toInt]) dL_law_182 mv_L_21 hM2 ⟨xs_ok _, trivial⟩ rfl rfl rfl (Nat.le_of_ble_eq_true rfl) ⟨by decide, by decide⟩ hroom (fun z2 σ2 H2 locs2 hq2 hz2 hσ2 hP2 hS2 => ?_)
  obtain ⟨rfl, hI2⟩ := hk2 z2 σ2 hq2
  exact lv_icmp_eq (tgt := 876) C.1 C.2.1 dL_law_185 rfl (fun _ => kk σ2 H2 locs2 hI2 hσ2 hP2 hS2) (fun h => absurd rfl h)
set_option maxHeartbeats 4000000 in
set_option maxRecDepth 100000 in
theorem lc_2 (C : LwC g p s m args c b L xs) (hP : va_P (gD g) vwCl (wsO g σ) H) (hS : va_S (lA s) s.heap H locs) (hσ : okS σ) {i : Nat} (hlo : lv_has ls 4 (lLoc g b i)) (hI : INV σ) (hi : i + 5 ≤ L) (hL : L ≤ 2560) (hroom : cells ≤ room_1.cells ∧ slots ≤ room_1.slots)
    (kk : ∀ (σ' : Sto) (H1 : Heap) (locs1 : List Loc), INV σ' → okS σ' → va_P (gD g) vwCl (wsO g σ') H1 → va_S (lA s) s.heap H1 locs1 → W p l e room_1 s m args below meth c H1 locs1 cells slots Q (F0 m 876 ls [])) : W p l e room_1 s m args below meth c H locs cells slots Q (F0 m 190 ls []) := by
  refine lv_aload_n C.1 C.2.1 dL_law_190 rfl (lv_at hlo 1 rfl) ?_
  obtain ⟨Qc, hM, hk⟩ := p_text  hI
  refine l_call C hP hS hσ hlo (as := []) dL_law_191 mv_L_22 hM trivial rfl rfl rfl (Nat.le_of_ble_eq_true rfl) ⟨by decide, by decide⟩ hroom (fun z σ1 H1 locs1 hq hz hσ1 hP1 hS1 => ?_)
  obtain ⟨Qm, hM2, hk2⟩ := hk z σ1 hq
  refine lv_aload_n C.1 C.2.1 dL_law_194 rfl (lv_at hlo 2 rfl) ?_
  refine l_call C hP1 hS1 hσ1 hlo (as := []) dL_law_195 mv_L_26 hM2 trivial rfl rfl rfl (Nat.le_of_ble_eq_true rfl) ⟨by decide, by decide⟩ hroom (fun z2 σ2 H2 locs2 hq2 hz2 hσ2 hP2 hS2 => ?_)
  obtain ⟨rfl, hI2⟩ := hk2 z2 σ2 hq2
  exact lv_icmp_eq (tgt := 876) C.1 C.2.1 dL_law_198 rfl (fun _ => kk σ2 H2 locs2 hI2 hσ2 hP2 hS2) (fun h => absurd rfl h)
set_option maxHeartbeats 4000000 in
set_option maxRecDepth 100000 in
theorem lc_3 (C : LwC g p s m args c b L xs) (hP : va_P (gD g) vwCl (wsO g σ) H) (hS : va_S (lA s) s.heap H locs) (hσ : okS σ) {i : Nat} (hlo : lv_has ls 4 (lLoc g b i)) (hI : INV σ) (hi : i + 5 ≤ L) (hL : L ≤ 2560) (hroom : cells ≤ room_1.cells ∧ slots ≤ room_1.slots)
    (kk : ∀ (σ' : Sto) (H1 : Heap) (locs1 : List Loc), INV σ' → okS σ' → va_P (gD g) vwCl (wsO g σ') H1 → va_S (lA s) s.heap H1 locs1 → W p l e room_1 s m args below meth c H1 locs1 cells slots Q (F0 m 876 ls [])) : W p l e room_1 s m args below meth c H locs cells slots Q (F0 m 203 ls []) := by
  refine lv_aload_n C.1 C.2.1 dL_law_203 rfl (lv_at hlo 1 rfl) ?_
  obtain ⟨Qc, hM, hk⟩ := p_fault  hI
  refine l_call C hP hS hσ hlo (as := []) dL_law_204 mv_L_27 hM trivial rfl rfl rfl (Nat.le_of_ble_eq_true rfl) ⟨by decide, by decide⟩ hroom (fun z σ1 H1 locs1 hq hz hσ1 hP1 hS1 => ?_)
  obtain ⟨Qm, hM2, hk2⟩ := hk z σ1 hq
  refine lv_aload_n C.1 C.2.1 dL_law_207 rfl (lv_at hlo 2 rfl) ?_
  refine l_call C hP1 hS1 hσ1 hlo (as := []) dL_law_208 mv_L_30 hM2 trivial rfl rfl rfl (Nat.le_of_ble_eq_true rfl) ⟨by decide, by decide⟩ hroom (fun z2 σ2 H2 locs2 hq2 hz2 hσ2 hP2 hS2 => ?_)
  obtain ⟨rfl, hI2⟩ := hk2 z2 σ2 hq2
  exact lv_icmp_eq (tgt := 876) C.1 C.2.1 dL_law_211 rfl (fun _ => kk σ2 H2 locs2 hI2 hσ2 hP2 hS2) (fun h => absurd rfl h)
set_option maxHeartbeats 4000000 in
set_option maxRecDepth 100000 in
theorem lc_4 (C : LwC g p s m args c b L xs) (hP : va_P (gD g) vwCl (wsO g σ) H) (hS : va_S (lA s) s.heap H locs) (hσ : okS σ) {i : Nat} (hlo : lv_has ls 4 (lLoc g b i)) (hI : INV σ) (hi : i + 5 ≤ L) (hL : L ≤ 2560) (hroom : cells ≤ room_1.cells ∧ slots ≤ room_1.slots)
    (kk : ∀ (σ' : Sto) (H1 : Heap) (locs1 : List Loc), INV σ' → okS σ' → va_P (gD g) vwCl (wsO g σ') H1 → va_S (lA s) s.heap H1 locs1 → W p l e room_1 s m args below meth c H1 locs1 cells slots Q (F0 m 876 ls [])) : W p l e room_1 s m args below meth c H locs cells slots Q (F0 m 216 ls []) := by
  refine lv_aload_n C.1 C.2.1 dL_law_216 rfl (lv_at hlo 1 rfl) ?_
  refine l_arg C hS hlo 1 rfl (by omega) hL dL_law_217 dL_law_218 dL_law_219 dL_law_220 dL_law_221 ?_
  obtain ⟨Qc, hM, hk⟩ := p_rule (w := (xs (i + 1)).toInt) hI
  refine l_call C hP hS hσ hlo (as := [mI (xs (i + 1)).toInt]) dL_law_222 mv_L_31 hM ⟨xs_ok _, trivial⟩ rfl rfl rfl (Nat.le_of_ble_eq_true rfl) ⟨by decide, by decide⟩ hroom (fun z σ1 H1 locs1 hq hz hσ1 hP1 hS1 => ?_)
  obtain ⟨Qm, hM2, hk2⟩ := hk z σ1 hq
  refine lv_aload_n C.1 C.2.1 dL_law_225 rfl (lv_at hlo 2 rfl) ?_
  refine l_arg C hS1 hlo 1 rfl (by omega) hL dL_law_226 dL_law_227 dL_law_228 dL_law_229 dL_law_230 ?_
  refine l_call C hP1 hS1 hσ1 hlo (as := [mI (xs (i + 1)).toInt]) dL_law_231 mv_L_34 hM2 ⟨xs_ok _, trivial⟩ rfl rfl rfl (Nat.le_of_ble_eq_true rfl) ⟨by decide, by decide⟩ hroom (fun z2 σ2 H2 locs2 hq2 hz2 hσ2 hP2 hS2 => ?_)
  obtain ⟨rfl, hI2⟩ := hk2 z2 σ2 hq2
  exact lv_icmp_eq (tgt := 876) C.1 C.2.1 dL_law_234 rfl (fun _ => kk σ2 H2 locs2 hI2 hσ2 hP2 hS2) (fun h => absurd rfl h)
set_option maxHeartbeats 4000000 in
set_option maxRecDepth 100000 in
theorem lc_5 (C : LwC g p s m args c b L xs) (hP : va_P (gD g) vwCl (wsO g σ) H) (hS : va_S (lA s) s.heap H locs) (hσ : okS σ) {i : Nat} (hlo : lv_has ls 4 (lLoc g b i)) (hI : INV σ) (hi : i + 5 ≤ L) (hL : L ≤ 2560) (hroom : cells ≤ room_1.cells ∧ slots ≤ room_1.slots)
    (kk : ∀ (σ' : Sto) (H1 : Heap) (locs1 : List Loc), INV σ' → okS σ' → va_P (gD g) vwCl (wsO g σ') H1 → va_S (lA s) s.heap H1 locs1 → W p l e room_1 s m args below meth c H1 locs1 cells slots Q (F0 m 876 ls [])) : W p l e room_1 s m args below meth c H locs cells slots Q (F0 m 239 ls []) := by
  refine lv_aload_n C.1 C.2.1 dL_law_239 rfl (lv_at hlo 1 rfl) ?_
  refine l_arg C hS hlo 1 rfl (by omega) hL dL_law_240 dL_law_241 dL_law_242 dL_law_243 dL_law_244 ?_
  refine l_arg C hS hlo 2 rfl (by omega) hL dL_law_245 dL_law_246 dL_law_247 dL_law_248 dL_law_249 ?_
  obtain ⟨Qc, hM, hk⟩ := p_shape (g := (xs (i + 1)).toInt) (w := (xs (i + 2)).toInt) hI
  refine l_call C hP hS hσ hlo (as := [mI (xs (i + 1)).toInt, mI (xs (i + 2)).toInt]) dL_law_250 mv_L_35 hM ⟨xs_ok _, xs_ok _, trivial⟩ rfl rfl rfl (Nat.le_of_ble_eq_true rfl) ⟨by decide, by decide⟩ hroom (fun z σ1 H1 locs1 hq hz hσ1 hP1 hS1 => ?_)
  obtain ⟨Qm, hM2, hk2⟩ := hk z σ1 hq
  refine lv_aload_n C.1 C.2.1 dL_law_253 rfl (lv_at hlo 2 rfl) ?_
  refine l_arg C hS1 hlo 1 rfl (by omega) hL dL_law_254 dL_law_255 dL_law_256 dL_law_257 dL_law_258 ?_
  refine l_arg C hS1 hlo 2 rfl (by omega) hL dL_law_259 dL_law_260 dL_law_261 dL_law_262 dL_law_263 ?_
  refine l_call C hP1 hS1 hσ1 hlo (as := [mI (xs (i + 1)).toInt, mI (xs (i + 2)).toInt]) dL_law_264 mv_L_39 hM2 ⟨xs_ok _, xs_ok _, trivial⟩ rfl rfl rfl (Nat.le_of_ble_eq_true rfl) ⟨by decide, by decide⟩ hroom (fun z2 σ2 H2 locs2 hq2 hz2 hσ2 hP2 hS2 => ?_)
  obtain ⟨rfl, hI2⟩ := hk2 z2 σ2 hq2
  exact lv_icmp_eq (tgt := 876) C.1 C.2.1 dL_law_267 rfl (fun _ => kk σ2 H2 locs2 hI2 hσ2 hP2 hS2) (fun h => absurd rfl h)
set_option maxHeartbeats 4000000 in
set_option maxRecDepth 100000 in
theorem lc_6 (C : LwC g p s m args c b L xs) (hP : va_P (gD g) vwCl (wsO g σ) H) (hS : va_S (lA s) s.heap H locs) (hσ : okS σ) {i : Nat} (hlo : lv_has ls 4 (lLoc g b i)) (hI : INV σ) (hi : i + 5 ≤ L) (hL : L ≤ 2560) (hroom : cells ≤ room_1.cells ∧ slots ≤ room_1.slots)
    (kk : ∀ (σ' : Sto) (H1 : Heap) (locs1 : List Loc), INV σ' → okS σ' → va_P (gD g) vwCl (wsO g σ') H1 → va_S (lA s) s.heap H1 locs1 → W p l e room_1 s m args below meth c H1 locs1 cells slots Q (F0 m 876 ls [])) : W p l e room_1 s m args below meth c H locs cells slots Q (F0 m 272 ls []) := by
  refine lv_aload_n C.1 C.2.1 dL_law_272 rfl (lv_at hlo 1 rfl) ?_
  refine l_arg C hS hlo 1 rfl (by omega) hL dL_law_273 dL_law_274 dL_law_275 dL_law_276 dL_law_277 ?_
  refine l_arg C hS hlo 2 rfl (by omega) hL dL_law_278 dL_law_279 dL_law_280 dL_law_281 dL_law_282 ?_
  refine l_arg C hS hlo 3 rfl (by omega) hL dL_law_283 dL_law_284 dL_law_285 dL_law_286 dL_law_287 ?_
  obtain ⟨Qc, hM, hk⟩ := p_step (g := (xs (i + 1)).toInt) (i := (xs (i + 2)).toInt) (w := (xs (i + 3)).toInt) hI
  refine l_call C hP hS hσ hlo (as := [mI (xs (i + 1)).toInt, mI (xs (i + 2)).toInt, mI (xs (i + 3)).toInt]) dL_law_288 mv_L_40 hM ⟨xs_ok _, xs_ok _, xs_ok _, trivial⟩ rfl rfl rfl (Nat.le_of_ble_eq_true rfl) ⟨by decide, by decide⟩ hroom (fun z σ1 H1 locs1 hq hz hσ1 hP1 hS1 => ?_)
  obtain ⟨Qm, hM2, hk2⟩ := hk z σ1 hq
  refine lv_aload_n C.1 C.2.1 dL_law_291 rfl (lv_at hlo 2 rfl) ?_
  refine l_arg C hS1 hlo 1 rfl (by omega) hL dL_law_292 dL_law_293 dL_law_294 dL_law_295 dL_law_296 ?_
  refine l_arg C hS1 hlo 2 rfl (by omega) hL dL_law_297 dL_law_298 dL_law_299 dL_law_300 dL_law_301 ?_
  refine l_arg C hS1 hlo 3 rfl (by omega) hL dL_law_302 dL_law_303 dL_law_304 dL_law_305 dL_law_306 ?_
  refine l_call C hP1 hS1 hσ1 hlo (as := [mI (xs (i + 1)).toInt, mI (xs (i + 2)).toInt, mI (xs (i + 3)).toInt]) dL_law_307 mv_L_44 hM2 ⟨xs_ok _, xs_ok _, xs_ok _, trivial⟩ rfl rfl rfl (Nat.le_of_ble_eq_true rfl) ⟨by decide, by decide⟩ hroom (fun z2 σ2 H2 locs2 hq2 hz2 hσ2 hP2 hS2 => ?_)
  obtain ⟨rfl, hI2⟩ := hk2 z2 σ2 hq2
  exact lv_icmp_eq (tgt := 876) C.1 C.2.1 dL_law_310 rfl (fun _ => kk σ2 H2 locs2 hI2 hσ2 hP2 hS2) (fun h => absurd rfl h)
set_option maxHeartbeats 4000000 in
set_option maxRecDepth 100000 in
theorem lc_7 (C : LwC g p s m args c b L xs) (hP : va_P (gD g) vwCl (wsO g σ) H) (hS : va_S (lA s) s.heap H locs) (hσ : okS σ) {i : Nat} (hlo : lv_has ls 4 (lLoc g b i)) (hI : INV σ) (hi : i + 5 ≤ L) (hL : L ≤ 2560) (hroom : cells ≤ room_1.cells ∧ slots ≤ room_1.slots)
    (kk : ∀ (σ' : Sto) (H1 : Heap) (locs1 : List Loc), INV σ' → okS σ' → va_P (gD g) vwCl (wsO g σ') H1 → va_S (lA s) s.heap H1 locs1 → W p l e room_1 s m args below meth c H1 locs1 cells slots Q (F0 m 876 ls [])) : W p l e room_1 s m args below meth c H locs cells slots Q (F0 m 315 ls []) := by
  refine lv_aload_n C.1 C.2.1 dL_law_315 rfl (lv_at hlo 1 rfl) ?_
  refine l_arg C hS hlo 1 rfl (by omega) hL dL_law_316 dL_law_317 dL_law_318 dL_law_319 dL_law_320 ?_
  refine l_arg C hS hlo 2 rfl (by omega) hL dL_law_321 dL_law_322 dL_law_323 dL_law_324 dL_law_325 ?_
  obtain ⟨Qc, hM, hk⟩ := p_par (p := (xs (i + 1)).toInt) (w := (xs (i + 2)).toInt) hI
  refine l_call C hP hS hσ hlo (as := [mI (xs (i + 1)).toInt, mI (xs (i + 2)).toInt]) dL_law_326 mv_L_45 hM ⟨xs_ok _, xs_ok _, trivial⟩ rfl rfl rfl (Nat.le_of_ble_eq_true rfl) ⟨by decide, by decide⟩ hroom (fun z σ1 H1 locs1 hq hz hσ1 hP1 hS1 => ?_)
  obtain ⟨Qm, hM2, hk2⟩ := hk z σ1 hq
  refine lv_aload_n C.1 C.2.1 dL_law_329 rfl (lv_at hlo 2 rfl) ?_
  refine l_arg C hS1 hlo 1 rfl (by omega) hL dL_law_330 dL_law_331 dL_law_332 dL_law_333 dL_law_334 ?_
  refine l_arg C hS1 hlo 2 rfl (by omega) hL dL_law_335 dL_law_336 dL_law_337 dL_law_338 dL_law_339 ?_
  refine l_call C hP1 hS1 hσ1 hlo (as := [mI (xs (i + 1)).toInt, mI (xs (i + 2)).toInt]) dL_law_340 mv_L_48 hM2 ⟨xs_ok _, xs_ok _, trivial⟩ rfl rfl rfl (Nat.le_of_ble_eq_true rfl) ⟨by decide, by decide⟩ hroom (fun z2 σ2 H2 locs2 hq2 hz2 hσ2 hP2 hS2 => ?_)
  obtain ⟨rfl, hI2⟩ := hk2 z2 σ2 hq2
  exact lv_icmp_eq (tgt := 876) C.1 C.2.1 dL_law_343 rfl (fun _ => kk σ2 H2 locs2 hI2 hσ2 hP2 hS2) (fun h => absurd rfl h)
set_option maxHeartbeats 4000000 in
set_option maxRecDepth 100000 in
theorem lc_8 (C : LwC g p s m args c b L xs) (hP : va_P (gD g) vwCl (wsO g σ) H) (hS : va_S (lA s) s.heap H locs) (hσ : okS σ) {i : Nat} (hlo : lv_has ls 4 (lLoc g b i)) (hI : INV σ) (hi : i + 5 ≤ L) (hL : L ≤ 2560) (hroom : cells ≤ room_1.cells ∧ slots ≤ room_1.slots)
    (kk : ∀ (σ' : Sto) (H1 : Heap) (locs1 : List Loc), INV σ' → okS σ' → va_P (gD g) vwCl (wsO g σ') H1 → va_S (lA s) s.heap H1 locs1 → W p l e room_1 s m args below meth c H1 locs1 cells slots Q (F0 m 876 ls [])) : W p l e room_1 s m args below meth c H locs cells slots Q (F0 m 348 ls []) := by
  refine lv_aload_n C.1 C.2.1 dL_law_348 rfl (lv_at hlo 1 rfl) ?_
  refine l_arg C hS hlo 1 rfl (by omega) hL dL_law_349 dL_law_350 dL_law_351 dL_law_352 dL_law_353 ?_
  refine l_arg C hS hlo 2 rfl (by omega) hL dL_law_354 dL_law_355 dL_law_356 dL_law_357 dL_law_358 ?_
  refine l_arg C hS hlo 3 rfl (by omega) hL dL_law_359 dL_law_360 dL_law_361 dL_law_362 dL_law_363 ?_
  obtain ⟨Qc, hM, hk⟩ := p_word (p := (xs (i + 1)).toInt) (i := (xs (i + 2)).toInt) (w := (xs (i + 3)).toInt) hI
  refine l_call C hP hS hσ hlo (as := [mI (xs (i + 1)).toInt, mI (xs (i + 2)).toInt, mI (xs (i + 3)).toInt]) dL_law_364 mv_L_49 hM ⟨xs_ok _, xs_ok _, xs_ok _, trivial⟩ rfl rfl rfl (Nat.le_of_ble_eq_true rfl) ⟨by decide, by decide⟩ hroom (fun z σ1 H1 locs1 hq hz hσ1 hP1 hS1 => ?_)
  obtain ⟨Qm, hM2, hk2⟩ := hk z σ1 hq
  refine lv_aload_n C.1 C.2.1 dL_law_367 rfl (lv_at hlo 2 rfl) ?_
  refine l_arg C hS1 hlo 1 rfl (by omega) hL dL_law_368 dL_law_369 dL_law_370 dL_law_371 dL_law_372 ?_
  refine l_arg C hS1 hlo 2 rfl (by omega) hL dL_law_373 dL_law_374 dL_law_375 dL_law_376 dL_law_377 ?_
  refine l_arg C hS1 hlo 3 rfl (by omega) hL dL_law_378 dL_law_379 dL_law_380 dL_law_381 dL_law_382 ?_
  refine l_call C hP1 hS1 hσ1 hlo (as := [mI (xs (i + 1)).toInt, mI (xs (i + 2)).toInt, mI (xs (i + 3)).toInt]) dL_law_383 mv_L_52 hM2 ⟨xs_ok _, xs_ok _, xs_ok _, trivial⟩ rfl rfl rfl (Nat.le_of_ble_eq_true rfl) ⟨by decide, by decide⟩ hroom (fun z2 σ2 H2 locs2 hq2 hz2 hσ2 hP2 hS2 => ?_)
  obtain ⟨rfl, hI2⟩ := hk2 z2 σ2 hq2
  exact lv_icmp_eq (tgt := 876) C.1 C.2.1 dL_law_386 rfl (fun _ => kk σ2 H2 locs2 hI2 hσ2 hP2 hS2) (fun h => absurd rfl h)
set_option maxHeartbeats 4000000 in
set_option maxRecDepth 100000 in
theorem lc_9 (C : LwC g p s m args c b L xs) (hP : va_P (gD g) vwCl (wsO g σ) H) (hS : va_S (lA s) s.heap H locs) (hσ : okS σ) {i : Nat} (hlo : lv_has ls 4 (lLoc g b i)) (hI : INV σ) (hi : i + 5 ≤ L) (hL : L ≤ 2560) (hroom : cells ≤ room_1.cells ∧ slots ≤ room_1.slots)
    (kk : ∀ (σ' : Sto) (H1 : Heap) (locs1 : List Loc), INV σ' → okS σ' → va_P (gD g) vwCl (wsO g σ') H1 → va_S (lA s) s.heap H1 locs1 → W p l e room_1 s m args below meth c H1 locs1 cells slots Q (F0 m 876 ls [])) : W p l e room_1 s m args below meth c H locs cells slots Q (F0 m 391 ls []) := by
  refine lv_aload_n C.1 C.2.1 dL_law_391 rfl (lv_at hlo 1 rfl) ?_
  refine l_arg C hS hlo 1 rfl (by omega) hL dL_law_392 dL_law_393 dL_law_394 dL_law_395 dL_law_396 ?_
  refine l_arg C hS hlo 2 rfl (by omega) hL dL_law_397 dL_law_398 dL_law_399 dL_law_400 dL_law_401 ?_
  refine l_arg C hS hlo 3 rfl (by omega) hL dL_law_402 dL_law_403 dL_law_404 dL_law_405 dL_law_406 ?_
  obtain ⟨Qc, hM, hk⟩ := p_letter (p := (xs (i + 1)).toInt) (i := (xs (i + 2)).toInt) (k := (xs (i + 3)).toInt) hI
  refine l_call C hP hS hσ hlo (as := [mI (xs (i + 1)).toInt, mI (xs (i + 2)).toInt, mI (xs (i + 3)).toInt]) dL_law_407 mv_L_53 hM ⟨xs_ok _, xs_ok _, xs_ok _, trivial⟩ rfl rfl rfl (Nat.le_of_ble_eq_true rfl) ⟨by decide, by decide⟩ hroom (fun z σ1 H1 locs1 hq hz hσ1 hP1 hS1 => ?_)
  obtain ⟨Qm, hM2, hk2⟩ := hk z σ1 hq
  refine lv_aload_n C.1 C.2.1 dL_law_410 rfl (lv_at hlo 2 rfl) ?_
  refine l_arg C hS1 hlo 1 rfl (by omega) hL dL_law_411 dL_law_412 dL_law_413 dL_law_414 dL_law_415 ?_
  refine l_arg C hS1 hlo 2 rfl (by omega) hL dL_law_416 dL_law_417 dL_law_418 dL_law_419 dL_law_420 ?_
  refine l_arg C hS1 hlo 3 rfl (by omega) hL dL_law_421 dL_law_422 dL_law_423 dL_law_424 dL_law_425 ?_
  refine l_call C hP1 hS1 hσ1 hlo (as := [mI (xs (i + 1)).toInt, mI (xs (i + 2)).toInt, mI (xs (i + 3)).toInt]) dL_law_426 mv_L_56 hM2 ⟨xs_ok _, xs_ok _, xs_ok _, trivial⟩ rfl rfl rfl (Nat.le_of_ble_eq_true rfl) ⟨by decide, by decide⟩ hroom (fun z2 σ2 H2 locs2 hq2 hz2 hσ2 hP2 hS2 => ?_)
  obtain ⟨rfl, hI2⟩ := hk2 z2 σ2 hq2
  exact lv_icmp_eq (tgt := 876) C.1 C.2.1 dL_law_429 rfl (fun _ => kk σ2 H2 locs2 hI2 hσ2 hP2 hS2) (fun h => absurd rfl h)
set_option maxHeartbeats 4000000 in
set_option maxRecDepth 100000 in
theorem lc_10 (C : LwC g p s m args c b L xs) (hP : va_P (gD g) vwCl (wsO g σ) H) (hS : va_S (lA s) s.heap H locs) (hσ : okS σ) {i : Nat} (hlo : lv_has ls 4 (lLoc g b i)) (hI : INV σ) (hi : i + 5 ≤ L) (hL : L ≤ 2560) (hroom : cells ≤ room_1.cells ∧ slots ≤ room_1.slots)
    (kk : ∀ (σ' : Sto) (H1 : Heap) (locs1 : List Loc), INV σ' → okS σ' → va_P (gD g) vwCl (wsO g σ') H1 → va_S (lA s) s.heap H1 locs1 → W p l e room_1 s m args below meth c H1 locs1 cells slots Q (F0 m 876 ls [])) : W p l e room_1 s m args below meth c H locs cells slots Q (F0 m 434 ls []) := by
  refine lv_aload_n C.1 C.2.1 dL_law_434 rfl (lv_at hlo 1 rfl) ?_
  refine l_arg C hS hlo 1 rfl (by omega) hL dL_law_435 dL_law_436 dL_law_437 dL_law_438 dL_law_439 ?_
  refine l_arg C hS hlo 2 rfl (by omega) hL dL_law_440 dL_law_441 dL_law_442 dL_law_443 dL_law_444 ?_
  refine l_arg C hS hlo 3 rfl (by omega) hL dL_law_445 dL_law_446 dL_law_447 dL_law_448 dL_law_449 ?_
  obtain ⟨Qc, hM, hk⟩ := p_drawn (p := (xs (i + 1)).toInt) (i := (xs (i + 2)).toInt) (w := (xs (i + 3)).toInt) hI
  refine l_call C hP hS hσ hlo (as := [mI (xs (i + 1)).toInt, mI (xs (i + 2)).toInt, mI (xs (i + 3)).toInt]) dL_law_450 mv_L_57 hM ⟨xs_ok _, xs_ok _, xs_ok _, trivial⟩ rfl rfl rfl (Nat.le_of_ble_eq_true rfl) ⟨by decide, by decide⟩ hroom (fun z σ1 H1 locs1 hq hz hσ1 hP1 hS1 => ?_)
  obtain ⟨Qm, hM2, hk2⟩ := hk z σ1 hq
  refine lv_aload_n C.1 C.2.1 dL_law_453 rfl (lv_at hlo 2 rfl) ?_
  refine l_arg C hS1 hlo 1 rfl (by omega) hL dL_law_454 dL_law_455 dL_law_456 dL_law_457 dL_law_458 ?_
  refine l_arg C hS1 hlo 2 rfl (by omega) hL dL_law_459 dL_law_460 dL_law_461 dL_law_462 dL_law_463 ?_
  refine l_arg C hS1 hlo 3 rfl (by omega) hL dL_law_464 dL_law_465 dL_law_466 dL_law_467 dL_law_468 ?_
  refine l_call C hP1 hS1 hσ1 hlo (as := [mI (xs (i + 1)).toInt, mI (xs (i + 2)).toInt, mI (xs (i + 3)).toInt]) dL_law_469 mv_L_60 hM2 ⟨xs_ok _, xs_ok _, xs_ok _, trivial⟩ rfl rfl rfl (Nat.le_of_ble_eq_true rfl) ⟨by decide, by decide⟩ hroom (fun z2 σ2 H2 locs2 hq2 hz2 hσ2 hP2 hS2 => ?_)
  obtain ⟨rfl, hI2⟩ := hk2 z2 σ2 hq2
  exact lv_icmp_eq (tgt := 876) C.1 C.2.1 dL_law_472 rfl (fun _ => kk σ2 H2 locs2 hI2 hσ2 hP2 hS2) (fun h => absurd rfl h)
set_option maxHeartbeats 4000000 in
set_option maxRecDepth 100000 in
theorem lc_11 (C : LwC g p s m args c b L xs) (hP : va_P (gD g) vwCl (wsO g σ) H) (hS : va_S (lA s) s.heap H locs) (hσ : okS σ) {i : Nat} (hlo : lv_has ls 4 (lLoc g b i)) (hI : INV σ) (hi : i + 5 ≤ L) (hL : L ≤ 2560) (hroom : cells ≤ room_1.cells ∧ slots ≤ room_1.slots)
    (kk : ∀ (σ' : Sto) (H1 : Heap) (locs1 : List Loc), INV σ' → okS σ' → va_P (gD g) vwCl (wsO g σ') H1 → va_S (lA s) s.heap H1 locs1 → W p l e room_1 s m args below meth c H1 locs1 cells slots Q (F0 m 876 ls [])) : W p l e room_1 s m args below meth c H locs cells slots Q (F0 m 477 ls []) := by
  refine lv_aload_n C.1 C.2.1 dL_law_477 rfl (lv_at hlo 1 rfl) ?_
  refine l_arg C hS hlo 1 rfl (by omega) hL dL_law_478 dL_law_479 dL_law_480 dL_law_481 dL_law_482 ?_
  refine l_arg C hS hlo 2 rfl (by omega) hL dL_law_483 dL_law_484 dL_law_485 dL_law_486 dL_law_487 ?_
  obtain ⟨Qc, hM, hk⟩ := p_reach (p := (xs (i + 1)).toInt) (j := (xs (i + 2)).toInt) hI
  refine l_call C hP hS hσ hlo (as := [mI (xs (i + 1)).toInt, mI (xs (i + 2)).toInt]) dL_law_488 mv_L_61 hM ⟨xs_ok _, xs_ok _, trivial⟩ rfl rfl rfl (Nat.le_of_ble_eq_true rfl) ⟨by decide, by decide⟩ hroom (fun z σ1 H1 locs1 hq hz hσ1 hP1 hS1 => ?_)
  obtain ⟨Qm, hM2, hk2⟩ := hk z σ1 hq
  refine lv_aload_n C.1 C.2.1 dL_law_491 rfl (lv_at hlo 2 rfl) ?_
  refine l_arg C hS1 hlo 1 rfl (by omega) hL dL_law_492 dL_law_493 dL_law_494 dL_law_495 dL_law_496 ?_
  refine l_arg C hS1 hlo 2 rfl (by omega) hL dL_law_497 dL_law_498 dL_law_499 dL_law_500 dL_law_501 ?_
  refine l_call C hP1 hS1 hσ1 hlo (as := [mI (xs (i + 1)).toInt, mI (xs (i + 2)).toInt]) dL_law_502 mv_L_64 hM2 ⟨xs_ok _, xs_ok _, trivial⟩ rfl rfl rfl (Nat.le_of_ble_eq_true rfl) ⟨by decide, by decide⟩ hroom (fun z2 σ2 H2 locs2 hq2 hz2 hσ2 hP2 hS2 => ?_)
  obtain ⟨rfl, hI2⟩ := hk2 z2 σ2 hq2
  exact lv_icmp_eq (tgt := 876) C.1 C.2.1 dL_law_505 rfl (fun _ => kk σ2 H2 locs2 hI2 hσ2 hP2 hS2) (fun h => absurd rfl h)
set_option maxHeartbeats 4000000 in
set_option maxRecDepth 100000 in
theorem lc_12 (C : LwC g p s m args c b L xs) (hP : va_P (gD g) vwCl (wsO g σ) H) (hS : va_S (lA s) s.heap H locs) (hσ : okS σ) {i : Nat} (hlo : lv_has ls 4 (lLoc g b i)) (hI : INV σ) (hi : i + 5 ≤ L) (hL : L ≤ 2560) (hroom : cells ≤ room_1.cells ∧ slots ≤ room_1.slots)
    (kk : ∀ (σ' : Sto) (H1 : Heap) (locs1 : List Loc), INV σ' → okS σ' → va_P (gD g) vwCl (wsO g σ') H1 → va_S (lA s) s.heap H1 locs1 → W p l e room_1 s m args below meth c H1 locs1 cells slots Q (F0 m 876 ls [])) : W p l e room_1 s m args below meth c H locs cells slots Q (F0 m 510 ls []) := by
  refine lv_aload_n C.1 C.2.1 dL_law_510 rfl (lv_at hlo 1 rfl) ?_
  refine l_arg C hS hlo 1 rfl (by omega) hL dL_law_511 dL_law_512 dL_law_513 dL_law_514 dL_law_515 ?_
  refine l_arg C hS hlo 2 rfl (by omega) hL dL_law_516 dL_law_517 dL_law_518 dL_law_519 dL_law_520 ?_
  obtain ⟨Qc, hM, hk⟩ := p_line (l := (xs (i + 1)).toInt) (w := (xs (i + 2)).toInt) hI
  refine l_call C hP hS hσ hlo (as := [mI (xs (i + 1)).toInt, mI (xs (i + 2)).toInt]) dL_law_521 mv_L_65 hM ⟨xs_ok _, xs_ok _, trivial⟩ rfl rfl rfl (Nat.le_of_ble_eq_true rfl) ⟨by decide, by decide⟩ hroom (fun z σ1 H1 locs1 hq hz hσ1 hP1 hS1 => ?_)
  obtain ⟨Qm, hM2, hk2⟩ := hk z σ1 hq
  refine lv_aload_n C.1 C.2.1 dL_law_524 rfl (lv_at hlo 2 rfl) ?_
  refine l_arg C hS1 hlo 1 rfl (by omega) hL dL_law_525 dL_law_526 dL_law_527 dL_law_528 dL_law_529 ?_
  refine l_arg C hS1 hlo 2 rfl (by omega) hL dL_law_530 dL_law_531 dL_law_532 dL_law_533 dL_law_534 ?_
  refine l_call C hP1 hS1 hσ1 hlo (as := [mI (xs (i + 1)).toInt, mI (xs (i + 2)).toInt]) dL_law_535 mv_L_68 hM2 ⟨xs_ok _, xs_ok _, trivial⟩ rfl rfl rfl (Nat.le_of_ble_eq_true rfl) ⟨by decide, by decide⟩ hroom (fun z2 σ2 H2 locs2 hq2 hz2 hσ2 hP2 hS2 => ?_)
  obtain ⟨rfl, hI2⟩ := hk2 z2 σ2 hq2
  exact lv_icmp_eq (tgt := 876) C.1 C.2.1 dL_law_538 rfl (fun _ => kk σ2 H2 locs2 hI2 hσ2 hP2 hS2) (fun h => absurd rfl h)
set_option maxHeartbeats 4000000 in
set_option maxRecDepth 100000 in
theorem lc_13 (C : LwC g p s m args c b L xs) (hP : va_P (gD g) vwCl (wsO g σ) H) (hS : va_S (lA s) s.heap H locs) (hσ : okS σ) {i : Nat} (hlo : lv_has ls 4 (lLoc g b i)) (hI : INV σ) (hi : i + 5 ≤ L) (hL : L ≤ 2560) (hroom : cells ≤ room_1.cells ∧ slots ≤ room_1.slots)
    (kk : ∀ (σ' : Sto) (H1 : Heap) (locs1 : List Loc), INV σ' → okS σ' → va_P (gD g) vwCl (wsO g σ') H1 → va_S (lA s) s.heap H1 locs1 → W p l e room_1 s m args below meth c H1 locs1 cells slots Q (F0 m 876 ls [])) : W p l e room_1 s m args below meth c H locs cells slots Q (F0 m 543 ls []) := by
  refine lv_aload_n C.1 C.2.1 dL_law_543 rfl (lv_at hlo 1 rfl) ?_
  refine l_arg C hS hlo 1 rfl (by omega) hL dL_law_544 dL_law_545 dL_law_546 dL_law_547 dL_law_548 ?_
  refine l_arg C hS hlo 2 rfl (by omega) hL dL_law_549 dL_law_550 dL_law_551 dL_law_552 dL_law_553 ?_
  obtain ⟨Qc, hM, hk⟩ := p_sign (l := (xs (i + 1)).toInt) (k := (xs (i + 2)).toInt) hI
  refine l_call C hP hS hσ hlo (as := [mI (xs (i + 1)).toInt, mI (xs (i + 2)).toInt]) dL_law_554 mv_L_69 hM ⟨xs_ok _, xs_ok _, trivial⟩ rfl rfl rfl (Nat.le_of_ble_eq_true rfl) ⟨by decide, by decide⟩ hroom (fun z σ1 H1 locs1 hq hz hσ1 hP1 hS1 => ?_)
  obtain ⟨Qm, hM2, hk2⟩ := hk z σ1 hq
  refine lv_aload_n C.1 C.2.1 dL_law_557 rfl (lv_at hlo 2 rfl) ?_
  refine l_arg C hS1 hlo 1 rfl (by omega) hL dL_law_558 dL_law_559 dL_law_560 dL_law_561 dL_law_562 ?_
  refine l_arg C hS1 hlo 2 rfl (by omega) hL dL_law_563 dL_law_564 dL_law_565 dL_law_566 dL_law_567 ?_
  refine l_call C hP1 hS1 hσ1 hlo (as := [mI (xs (i + 1)).toInt, mI (xs (i + 2)).toInt]) dL_law_568 mv_L_72 hM2 ⟨xs_ok _, xs_ok _, trivial⟩ rfl rfl rfl (Nat.le_of_ble_eq_true rfl) ⟨by decide, by decide⟩ hroom (fun z2 σ2 H2 locs2 hq2 hz2 hσ2 hP2 hS2 => ?_)
  obtain ⟨rfl, hI2⟩ := hk2 z2 σ2 hq2
  exact lv_icmp_eq (tgt := 876) C.1 C.2.1 dL_law_571 rfl (fun _ => kk σ2 H2 locs2 hI2 hσ2 hP2 hS2) (fun h => absurd rfl h)
set_option maxHeartbeats 4000000 in
set_option maxRecDepth 100000 in
theorem lc_14 (C : LwC g p s m args c b L xs) (hP : va_P (gD g) vwCl (wsO g σ) H) (hS : va_S (lA s) s.heap H locs) (hσ : okS σ) {i : Nat} (hlo : lv_has ls 4 (lLoc g b i)) (hI : INV σ) (hi : i + 5 ≤ L) (hL : L ≤ 2560) (hroom : cells ≤ room_1.cells ∧ slots ≤ room_1.slots)
    (kk : ∀ (σ' : Sto) (H1 : Heap) (locs1 : List Loc), INV σ' → okS σ' → va_P (gD g) vwCl (wsO g σ') H1 → va_S (lA s) s.heap H1 locs1 → W p l e room_1 s m args below meth c H1 locs1 cells slots Q (F0 m 876 ls [])) : W p l e room_1 s m args below meth c H locs cells slots Q (F0 m 576 ls []) := by
  refine lv_aload_n C.1 C.2.1 dL_law_576 rfl (lv_at hlo 1 rfl) ?_
  refine l_arg C hS hlo 1 rfl (by omega) hL dL_law_577 dL_law_578 dL_law_579 dL_law_580 dL_law_581 ?_
  obtain ⟨Qc, hM, hk⟩ := p_best (p := (xs (i + 1)).toInt) hI
  refine l_call C hP hS hσ hlo (as := [mI (xs (i + 1)).toInt]) dL_law_582 mv_L_73 hM ⟨xs_ok _, trivial⟩ rfl rfl rfl (Nat.le_of_ble_eq_true rfl) ⟨by decide, by decide⟩ hroom (fun z σ1 H1 locs1 hq hz hσ1 hP1 hS1 => ?_)
  obtain ⟨Qm, hM2, hk2⟩ := hk z σ1 hq
  refine lv_aload_n C.1 C.2.1 dL_law_585 rfl (lv_at hlo 2 rfl) ?_
  refine l_arg C hS1 hlo 1 rfl (by omega) hL dL_law_586 dL_law_587 dL_law_588 dL_law_589 dL_law_590 ?_
  refine l_call C hP1 hS1 hσ1 hlo (as := [mI (xs (i + 1)).toInt]) dL_law_591 mv_L_76 hM2 ⟨xs_ok _, trivial⟩ rfl rfl rfl (Nat.le_of_ble_eq_true rfl) ⟨by decide, by decide⟩ hroom (fun z2 σ2 H2 locs2 hq2 hz2 hσ2 hP2 hS2 => ?_)
  obtain ⟨rfl, hI2⟩ := hk2 z2 σ2 hq2
  exact lv_icmp_eq (tgt := 876) C.1 C.2.1 dL_law_594 rfl (fun _ => kk σ2 H2 locs2 hI2 hσ2 hP2 hS2) (fun h => absurd rfl h)
set_option maxHeartbeats 4000000 in
set_option maxRecDepth 100000 in
theorem lc_15 (C : LwC g p s m args c b L xs) (hP : va_P (gD g) vwCl (wsO g σ) H) (hS : va_S (lA s) s.heap H locs) (hσ : okS σ) {i : Nat} (hlo : lv_has ls 4 (lLoc g b i)) (hI : INV σ) (hi : i + 5 ≤ L) (hL : L ≤ 2560) (hroom : cells ≤ room_1.cells ∧ slots ≤ room_1.slots)
    (kk : ∀ (σ' : Sto) (H1 : Heap) (locs1 : List Loc), INV σ' → okS σ' → va_P (gD g) vwCl (wsO g σ') H1 → va_S (lA s) s.heap H1 locs1 → W p l e room_1 s m args below meth c H1 locs1 cells slots Q (F0 m 876 ls [])) : W p l e room_1 s m args below meth c H locs cells slots Q (F0 m 599 ls []) := by
  refine lv_aload_n C.1 C.2.1 dL_law_599 rfl (lv_at hlo 1 rfl) ?_
  refine l_arg C hS hlo 1 rfl (by omega) hL dL_law_600 dL_law_601 dL_law_602 dL_law_603 dL_law_604 ?_
  refine l_arg C hS hlo 2 rfl (by omega) hL dL_law_605 dL_law_606 dL_law_607 dL_law_608 dL_law_609 ?_
  obtain ⟨Qc, hM, hk⟩ := p_tried (p := (xs (i + 1)).toInt) (n := (xs (i + 2)).toInt) hI
  refine l_call C hP hS hσ hlo (as := [mI (xs (i + 1)).toInt, mI (xs (i + 2)).toInt]) dL_law_610 mv_L_77 hM ⟨xs_ok _, xs_ok _, trivial⟩ rfl rfl rfl (Nat.le_of_ble_eq_true rfl) ⟨by decide, by decide⟩ hroom (fun z σ1 H1 locs1 hq hz hσ1 hP1 hS1 => ?_)
  obtain ⟨Qm, hM2, hk2⟩ := hk z σ1 hq
  refine lv_aload_n C.1 C.2.1 dL_law_613 rfl (lv_at hlo 2 rfl) ?_
  refine l_arg C hS1 hlo 1 rfl (by omega) hL dL_law_614 dL_law_615 dL_law_616 dL_law_617 dL_law_618 ?_
  refine l_arg C hS1 hlo 2 rfl (by omega) hL dL_law_619 dL_law_620 dL_law_621 dL_law_622 dL_law_623 ?_
  refine l_call C hP1 hS1 hσ1 hlo (as := [mI (xs (i + 1)).toInt, mI (xs (i + 2)).toInt]) dL_law_624 mv_L_80 hM2 ⟨xs_ok _, xs_ok _, trivial⟩ rfl rfl rfl (Nat.le_of_ble_eq_true rfl) ⟨by decide, by decide⟩ hroom (fun z2 σ2 H2 locs2 hq2 hz2 hσ2 hP2 hS2 => ?_)
  obtain ⟨rfl, hI2⟩ := hk2 z2 σ2 hq2
  exact lv_icmp_eq (tgt := 876) C.1 C.2.1 dL_law_627 rfl (fun _ => kk σ2 H2 locs2 hI2 hσ2 hP2 hS2) (fun h => absurd rfl h)
set_option maxHeartbeats 4000000 in
set_option maxRecDepth 100000 in
theorem lc_16 (C : LwC g p s m args c b L xs) (hP : va_P (gD g) vwCl (wsO g σ) H) (hS : va_S (lA s) s.heap H locs) (hσ : okS σ) {i : Nat} (hlo : lv_has ls 4 (lLoc g b i)) (hI : INV σ) (hi : i + 5 ≤ L) (hL : L ≤ 2560) (hroom : cells ≤ room_1.cells ∧ slots ≤ room_1.slots)
    (kk : ∀ (σ' : Sto) (H1 : Heap) (locs1 : List Loc), INV σ' → okS σ' → va_P (gD g) vwCl (wsO g σ') H1 → va_S (lA s) s.heap H1 locs1 → W p l e room_1 s m args below meth c H1 locs1 cells slots Q (F0 m 876 ls [])) : W p l e room_1 s m args below meth c H locs cells slots Q (F0 m 632 ls []) := by
  refine lv_aload_n C.1 C.2.1 dL_law_632 rfl (lv_at hlo 1 rfl) ?_
  refine l_arg C hS hlo 1 rfl (by omega) hL dL_law_633 dL_law_634 dL_law_635 dL_law_636 dL_law_637 ?_
  refine l_arg C hS hlo 2 rfl (by omega) hL dL_law_638 dL_law_639 dL_law_640 dL_law_641 dL_law_642 ?_
  obtain ⟨Qc, hM, hk⟩ := p_set (w := (xs (i + 1)).toInt) (v := (xs (i + 2)).toInt) hI
  refine l_call C hP hS hσ hlo (as := [mI (xs (i + 1)).toInt, mI (xs (i + 2)).toInt]) dL_law_643 mv_L_81 hM ⟨xs_ok _, xs_ok _, trivial⟩ rfl rfl rfl (Nat.le_of_ble_eq_true rfl) ⟨by decide, by decide⟩ hroom (fun z σ1 H1 locs1 hq hz hσ1 hP1 hS1 => ?_)
  obtain ⟨Qm, hM2, hk2⟩ := hk z σ1 hq
  refine lv_aload_n C.1 C.2.1 dL_law_646 rfl (lv_at hlo 2 rfl) ?_
  refine l_arg C hS1 hlo 1 rfl (by omega) hL dL_law_647 dL_law_648 dL_law_649 dL_law_650 dL_law_651 ?_
  refine l_arg C hS1 hlo 2 rfl (by omega) hL dL_law_652 dL_law_653 dL_law_654 dL_law_655 dL_law_656 ?_
  refine l_call C hP1 hS1 hσ1 hlo (as := [mI (xs (i + 1)).toInt, mI (xs (i + 2)).toInt]) dL_law_657 mv_L_84 hM2 ⟨xs_ok _, xs_ok _, trivial⟩ rfl rfl rfl (Nat.le_of_ble_eq_true rfl) ⟨by decide, by decide⟩ hroom (fun z2 σ2 H2 locs2 hq2 hz2 hσ2 hP2 hS2 => ?_)
  obtain ⟨rfl, hI2⟩ := hk2 z2 σ2 hq2
  exact lv_icmp_eq (tgt := 876) C.1 C.2.1 dL_law_660 rfl (fun _ => kk σ2 H2 locs2 hI2 hσ2 hP2 hS2) (fun h => absurd rfl h)
set_option maxHeartbeats 4000000 in
set_option maxRecDepth 100000 in
theorem lc_17 (C : LwC g p s m args c b L xs) (hP : va_P (gD g) vwCl (wsO g σ) H) (hS : va_S (lA s) s.heap H locs) (hσ : okS σ) {i : Nat} (hlo : lv_has ls 4 (lLoc g b i)) (hI : INV σ) (hi : i + 5 ≤ L) (hL : L ≤ 2560) (hroom : cells ≤ room_1.cells ∧ slots ≤ room_1.slots)
    (kk : ∀ (σ' : Sto) (H1 : Heap) (locs1 : List Loc), INV σ' → okS σ' → va_P (gD g) vwCl (wsO g σ') H1 → va_S (lA s) s.heap H1 locs1 → W p l e room_1 s m args below meth c H1 locs1 cells slots Q (F0 m 876 ls [])) : W p l e room_1 s m args below meth c H locs cells slots Q (F0 m 665 ls []) := by
  refine lv_aload_n C.1 C.2.1 dL_law_665 rfl (lv_at hlo 1 rfl) ?_
  refine l_arg C hS hlo 1 rfl (by omega) hL dL_law_666 dL_law_667 dL_law_668 dL_law_669 dL_law_670 ?_
  refine l_arg C hS hlo 2 rfl (by omega) hL dL_law_671 dL_law_672 dL_law_673 dL_law_674 dL_law_675 ?_
  refine l_arg C hS hlo 3 rfl (by omega) hL dL_law_676 dL_law_677 dL_law_678 dL_law_679 dL_law_680 ?_
  obtain ⟨Qc, hM, hk⟩ := p_drop (p := (xs (i + 1)).toInt) (g := (xs (i + 2)).toInt) (n := (xs (i + 3)).toInt) hI
  refine l_call C hP hS hσ hlo (as := [mI (xs (i + 1)).toInt, mI (xs (i + 2)).toInt, mI (xs (i + 3)).toInt]) dL_law_681 mv_L_85 hM ⟨xs_ok _, xs_ok _, xs_ok _, trivial⟩ rfl rfl rfl (Nat.le_of_ble_eq_true rfl) ⟨by decide, by decide⟩ hroom (fun z σ1 H1 locs1 hq hz hσ1 hP1 hS1 => ?_)
  obtain ⟨Qm, hM2, hk2⟩ := hk z σ1 hq
  refine lv_aload_n C.1 C.2.1 dL_law_684 rfl (lv_at hlo 2 rfl) ?_
  refine l_arg C hS1 hlo 1 rfl (by omega) hL dL_law_685 dL_law_686 dL_law_687 dL_law_688 dL_law_689 ?_
  refine l_arg C hS1 hlo 2 rfl (by omega) hL dL_law_690 dL_law_691 dL_law_692 dL_law_693 dL_law_694 ?_
  refine l_arg C hS1 hlo 3 rfl (by omega) hL dL_law_695 dL_law_696 dL_law_697 dL_law_698 dL_law_699 ?_
  refine l_call C hP1 hS1 hσ1 hlo (as := [mI (xs (i + 1)).toInt, mI (xs (i + 2)).toInt, mI (xs (i + 3)).toInt]) dL_law_700 mv_L_88 hM2 ⟨xs_ok _, xs_ok _, xs_ok _, trivial⟩ rfl rfl rfl (Nat.le_of_ble_eq_true rfl) ⟨by decide, by decide⟩ hroom (fun z2 σ2 H2 locs2 hq2 hz2 hσ2 hP2 hS2 => ?_)
  obtain ⟨rfl, hI2⟩ := hk2 z2 σ2 hq2
  exact lv_icmp_eq (tgt := 876) C.1 C.2.1 dL_law_703 rfl (fun _ => kk σ2 H2 locs2 hI2 hσ2 hP2 hS2) (fun h => absurd rfl h)
set_option maxHeartbeats 4000000 in
set_option maxRecDepth 100000 in
theorem lc_18 (C : LwC g p s m args c b L xs) (hP : va_P (gD g) vwCl (wsO g σ) H) (hS : va_S (lA s) s.heap H locs) (hσ : okS σ) {i : Nat} (hlo : lv_has ls 4 (lLoc g b i)) (hI : INV σ) (hi : i + 5 ≤ L) (hL : L ≤ 2560) (hroom : cells ≤ room_1.cells ∧ slots ≤ room_1.slots)
    (kk : ∀ (σ' : Sto) (H1 : Heap) (locs1 : List Loc), INV σ' → okS σ' → va_P (gD g) vwCl (wsO g σ') H1 → va_S (lA s) s.heap H1 locs1 → W p l e room_1 s m args below meth c H1 locs1 cells slots Q (F0 m 876 ls [])) : W p l e room_1 s m args below meth c H locs cells slots Q (F0 m 708 ls []) := by
  refine lv_aload_n C.1 C.2.1 dL_law_708 rfl (lv_at hlo 1 rfl) ?_
  obtain ⟨Qc, hM, hk⟩ := p_fit  hI
  refine l_call C hP hS hσ hlo (as := []) dL_law_709 mv_L_89 hM trivial rfl rfl rfl (Nat.le_of_ble_eq_true rfl) ⟨by decide, by decide⟩ hroom (fun z σ1 H1 locs1 hq hz hσ1 hP1 hS1 => ?_)
  obtain ⟨Qm, hM2, hk2⟩ := hk z σ1 hq
  refine lv_aload_n C.1 C.2.1 dL_law_712 rfl (lv_at hlo 2 rfl) ?_
  refine l_call C hP1 hS1 hσ1 hlo (as := []) dL_law_713 mv_L_92 hM2 trivial rfl rfl rfl (Nat.le_of_ble_eq_true rfl) ⟨by decide, by decide⟩ hroom (fun z2 σ2 H2 locs2 hq2 hz2 hσ2 hP2 hS2 => ?_)
  obtain ⟨rfl, hI2⟩ := hk2 z2 σ2 hq2
  exact lv_icmp_eq (tgt := 876) C.1 C.2.1 dL_law_716 rfl (fun _ => kk σ2 H2 locs2 hI2 hσ2 hP2 hS2) (fun h => absurd rfl h)
set_option maxHeartbeats 4000000 in
set_option maxRecDepth 100000 in
theorem lc_19 (C : LwC g p s m args c b L xs) (hP : va_P (gD g) vwCl (wsO g σ) H) (hS : va_S (lA s) s.heap H locs) (hσ : okS σ) {i : Nat} (hlo : lv_has ls 4 (lLoc g b i)) (hI : INV σ) (hi : i + 5 ≤ L) (hL : L ≤ 2560) (hroom : cells ≤ room_1.cells ∧ slots ≤ room_1.slots)
    (kk : ∀ (σ' : Sto) (H1 : Heap) (locs1 : List Loc), INV σ' → okS σ' → va_P (gD g) vwCl (wsO g σ') H1 → va_S (lA s) s.heap H1 locs1 → W p l e room_1 s m args below meth c H1 locs1 cells slots Q (F0 m 876 ls [])) : W p l e room_1 s m args below meth c H locs cells slots Q (F0 m 721 ls []) := by
  refine lv_aload_n C.1 C.2.1 dL_law_721 rfl (lv_at hlo 1 rfl) ?_
  refine l_arg C hS hlo 1 rfl (by omega) hL dL_law_722 dL_law_723 dL_law_724 dL_law_725 dL_law_726 ?_
  refine l_arg C hS hlo 2 rfl (by omega) hL dL_law_727 dL_law_728 dL_law_729 dL_law_730 dL_law_731 ?_
  obtain ⟨Qc, hM, hk⟩ := p_cut (p := (xs (i + 1)).toInt) (i := (xs (i + 2)).toInt) hI
  refine l_call C hP hS hσ hlo (as := [mI (xs (i + 1)).toInt, mI (xs (i + 2)).toInt]) dL_law_732 mv_L_93 hM ⟨xs_ok _, xs_ok _, trivial⟩ rfl rfl rfl (Nat.le_of_ble_eq_true rfl) ⟨by decide, by decide⟩ hroom (fun z σ1 H1 locs1 hq hz hσ1 hP1 hS1 => ?_)
  obtain ⟨Qm, hM2, hk2⟩ := hk z σ1 hq
  refine lv_aload_n C.1 C.2.1 dL_law_735 rfl (lv_at hlo 2 rfl) ?_
  refine l_arg C hS1 hlo 1 rfl (by omega) hL dL_law_736 dL_law_737 dL_law_738 dL_law_739 dL_law_740 ?_
  refine l_arg C hS1 hlo 2 rfl (by omega) hL dL_law_741 dL_law_742 dL_law_743 dL_law_744 dL_law_745 ?_
  refine l_call C hP1 hS1 hσ1 hlo (as := [mI (xs (i + 1)).toInt, mI (xs (i + 2)).toInt]) dL_law_746 mv_L_96 hM2 ⟨xs_ok _, xs_ok _, trivial⟩ rfl rfl rfl (Nat.le_of_ble_eq_true rfl) ⟨by decide, by decide⟩ hroom (fun z2 σ2 H2 locs2 hq2 hz2 hσ2 hP2 hS2 => ?_)
  obtain ⟨rfl, hI2⟩ := hk2 z2 σ2 hq2
  exact lv_icmp_eq (tgt := 876) C.1 C.2.1 dL_law_749 rfl (fun _ => kk σ2 H2 locs2 hI2 hσ2 hP2 hS2) (fun h => absurd rfl h)
set_option maxHeartbeats 4000000 in
set_option maxRecDepth 100000 in
theorem lc_20 (C : LwC g p s m args c b L xs) (hP : va_P (gD g) vwCl (wsO g σ) H) (hS : va_S (lA s) s.heap H locs) (hσ : okS σ) {i : Nat} (hlo : lv_has ls 4 (lLoc g b i)) (hI : INV σ) (hi : i + 5 ≤ L) (hL : L ≤ 2560) (hroom : cells ≤ room_1.cells ∧ slots ≤ room_1.slots)
    (kk : ∀ (σ' : Sto) (H1 : Heap) (locs1 : List Loc), INV σ' → okS σ' → va_P (gD g) vwCl (wsO g σ') H1 → va_S (lA s) s.heap H1 locs1 → W p l e room_1 s m args below meth c H1 locs1 cells slots Q (F0 m 876 ls [])) : W p l e room_1 s m args below meth c H locs cells slots Q (F0 m 754 ls []) := by
  refine lv_aload_n C.1 C.2.1 dL_law_754 rfl (lv_at hlo 1 rfl) ?_
  refine l_arg C hS hlo 1 rfl (by omega) hL dL_law_755 dL_law_756 dL_law_757 dL_law_758 dL_law_759 ?_
  obtain ⟨Qc, hM, hk⟩ := p_join (p := (xs (i + 1)).toInt) hI
  refine l_call C hP hS hσ hlo (as := [mI (xs (i + 1)).toInt]) dL_law_760 mv_L_97 hM ⟨xs_ok _, trivial⟩ rfl rfl rfl (Nat.le_of_ble_eq_true rfl) ⟨by decide, by decide⟩ hroom (fun z σ1 H1 locs1 hq hz hσ1 hP1 hS1 => ?_)
  obtain ⟨Qm, hM2, hk2⟩ := hk z σ1 hq
  refine lv_aload_n C.1 C.2.1 dL_law_763 rfl (lv_at hlo 2 rfl) ?_
  refine l_arg C hS1 hlo 1 rfl (by omega) hL dL_law_764 dL_law_765 dL_law_766 dL_law_767 dL_law_768 ?_
  refine l_call C hP1 hS1 hσ1 hlo (as := [mI (xs (i + 1)).toInt]) dL_law_769 mv_L_100 hM2 ⟨xs_ok _, trivial⟩ rfl rfl rfl (Nat.le_of_ble_eq_true rfl) ⟨by decide, by decide⟩ hroom (fun z2 σ2 H2 locs2 hq2 hz2 hσ2 hP2 hS2 => ?_)
  obtain ⟨rfl, hI2⟩ := hk2 z2 σ2 hq2
  exact lv_icmp_eq (tgt := 876) C.1 C.2.1 dL_law_772 rfl (fun _ => kk σ2 H2 locs2 hI2 hσ2 hP2 hS2) (fun h => absurd rfl h)
set_option maxHeartbeats 4000000 in
set_option maxRecDepth 100000 in
theorem lc_21 (C : LwC g p s m args c b L xs) (hP : va_P (gD g) vwCl (wsO g σ) H) (hS : va_S (lA s) s.heap H locs) (hσ : okS σ) {i : Nat} (hlo : lv_has ls 4 (lLoc g b i)) (hI : INV σ) (hi : i + 5 ≤ L) (hL : L ≤ 2560) (hroom : cells ≤ room_1.cells ∧ slots ≤ room_1.slots)
    (kk : ∀ (σ' : Sto) (H1 : Heap) (locs1 : List Loc), INV σ' → okS σ' → va_P (gD g) vwCl (wsO g σ') H1 → va_S (lA s) s.heap H1 locs1 → W p l e room_1 s m args below meth c H1 locs1 cells slots Q (F0 m 876 ls [])) : W p l e room_1 s m args below meth c H locs cells slots Q (F0 m 777 ls []) := by
  refine lv_aload_n C.1 C.2.1 dL_law_777 rfl (lv_at hlo 1 rfl) ?_
  refine l_arg C hS hlo 1 rfl (by omega) hL dL_law_778 dL_law_779 dL_law_780 dL_law_781 dL_law_782 ?_
  refine l_arg C hS hlo 2 rfl (by omega) hL dL_law_783 dL_law_784 dL_law_785 dL_law_786 dL_law_787 ?_
  refine l_arg C hS hlo 3 rfl (by omega) hL dL_law_788 dL_law_789 dL_law_790 dL_law_791 dL_law_792 ?_
  refine l_arg C hS hlo 4 rfl (by omega) hL dL_law_793 dL_law_794 dL_law_795 dL_law_796 dL_law_797 ?_
  obtain ⟨Qc, hM, hk⟩ := p_move (p := (xs (i + 1)).toInt) (i := (xs (i + 2)).toInt) (q := (xs (i + 3)).toInt) (k := (xs (i + 4)).toInt) hI
  refine l_call C hP hS hσ hlo (as := [mI (xs (i + 1)).toInt, mI (xs (i + 2)).toInt, mI (xs (i + 3)).toInt, mI (xs (i + 4)).toInt]) dL_law_798 mv_L_101 hM ⟨xs_ok _, xs_ok _, xs_ok _, xs_ok _, trivial⟩ rfl rfl rfl (Nat.le_of_ble_eq_true rfl) ⟨by decide, by decide⟩ hroom (fun z σ1 H1 locs1 hq hz hσ1 hP1 hS1 => ?_)
  obtain ⟨Qm, hM2, hk2⟩ := hk z σ1 hq
  refine lv_aload_n C.1 C.2.1 dL_law_801 rfl (lv_at hlo 2 rfl) ?_
  refine l_arg C hS1 hlo 1 rfl (by omega) hL dL_law_802 dL_law_803 dL_law_804 dL_law_805 dL_law_806 ?_
  refine l_arg C hS1 hlo 2 rfl (by omega) hL dL_law_807 dL_law_808 dL_law_809 dL_law_810 dL_law_811 ?_
  refine l_arg C hS1 hlo 3 rfl (by omega) hL dL_law_812 dL_law_813 dL_law_814 dL_law_815 dL_law_816 ?_
  refine l_arg C hS1 hlo 4 rfl (by omega) hL dL_law_817 dL_law_818 dL_law_819 dL_law_820 dL_law_821 ?_
  refine l_call C hP1 hS1 hσ1 hlo (as := [mI (xs (i + 1)).toInt, mI (xs (i + 2)).toInt, mI (xs (i + 3)).toInt, mI (xs (i + 4)).toInt]) dL_law_822 mv_L_105 hM2 ⟨xs_ok _, xs_ok _, xs_ok _, xs_ok _, trivial⟩ rfl rfl rfl (Nat.le_of_ble_eq_true rfl) ⟨by decide, by decide⟩ hroom (fun z2 σ2 H2 locs2 hq2 hz2 hσ2 hP2 hS2 => ?_)
  obtain ⟨rfl, hI2⟩ := hk2 z2 σ2 hq2
  exact lv_icmp_eq (tgt := 876) C.1 C.2.1 dL_law_825 rfl (fun _ => kk σ2 H2 locs2 hI2 hσ2 hP2 hS2) (fun h => absurd rfl h)
set_option maxHeartbeats 4000000 in
set_option maxRecDepth 100000 in
theorem lc_22 (C : LwC g p s m args c b L xs) (hP : va_P (gD g) vwCl (wsO g σ) H) (hS : va_S (lA s) s.heap H locs) (hσ : okS σ) {i : Nat} (hlo : lv_has ls 4 (lLoc g b i)) (hI : INV σ) (hi : i + 5 ≤ L) (hL : L ≤ 2560) (hroom : cells ≤ room_1.cells ∧ slots ≤ room_1.slots)
    (kk : ∀ (σ' : Sto) (H1 : Heap) (locs1 : List Loc), INV σ' → okS σ' → va_P (gD g) vwCl (wsO g σ') H1 → va_S (lA s) s.heap H1 locs1 → W p l e room_1 s m args below meth c H1 locs1 cells slots Q (F0 m 876 ls [])) : W p l e room_1 s m args below meth c H locs cells slots Q (F0 m 830 ls []) := by
  refine lv_aload_n C.1 C.2.1 dL_law_830 rfl (lv_at hlo 1 rfl) ?_
  refine l_arg C hS hlo 1 rfl (by omega) hL dL_law_831 dL_law_832 dL_law_833 dL_law_834 dL_law_835 ?_
  obtain ⟨Qc, hM, hk⟩ := p_keep (k := (xs (i + 1)).toInt) hI
  refine l_call C hP hS hσ hlo (as := [mI (xs (i + 1)).toInt]) dL_law_836 mv_L_106 hM ⟨xs_ok _, trivial⟩ rfl rfl rfl (Nat.le_of_ble_eq_true rfl) ⟨by decide, by decide⟩ hroom (fun z σ1 H1 locs1 hq hz hσ1 hP1 hS1 => ?_)
  obtain ⟨Qm, hM2, hk2⟩ := hk z σ1 hq
  refine lv_aload_n C.1 C.2.1 dL_law_839 rfl (lv_at hlo 2 rfl) ?_
  refine l_arg C hS1 hlo 1 rfl (by omega) hL dL_law_840 dL_law_841 dL_law_842 dL_law_843 dL_law_844 ?_
  refine l_call C hP1 hS1 hσ1 hlo (as := [mI (xs (i + 1)).toInt]) dL_law_845 mv_L_109 hM2 ⟨xs_ok _, trivial⟩ rfl rfl rfl (Nat.le_of_ble_eq_true rfl) ⟨by decide, by decide⟩ hroom (fun z2 σ2 H2 locs2 hq2 hz2 hσ2 hP2 hS2 => ?_)
  obtain ⟨rfl, hI2⟩ := hk2 z2 σ2 hq2
  exact lv_icmp_eq (tgt := 876) C.1 C.2.1 dL_law_848 rfl (fun _ => kk σ2 H2 locs2 hI2 hσ2 hP2 hS2) (fun h => absurd rfl h)
set_option maxHeartbeats 4000000 in
set_option maxRecDepth 100000 in
theorem lc_23 (C : LwC g p s m args c b L xs) (hP : va_P (gD g) vwCl (wsO g σ) H) (hS : va_S (lA s) s.heap H locs) (hσ : okS σ) {i : Nat} (hlo : lv_has ls 4 (lLoc g b i)) (hI : INV σ) (hi : i + 5 ≤ L) (hL : L ≤ 2560) (hroom : cells ≤ room_1.cells ∧ slots ≤ room_1.slots)
    (kk : ∀ (σ' : Sto) (H1 : Heap) (locs1 : List Loc), INV σ' → okS σ' → va_P (gD g) vwCl (wsO g σ') H1 → va_S (lA s) s.heap H1 locs1 → W p l e room_1 s m args below meth c H1 locs1 cells slots Q (F0 m 876 ls [])) : W p l e room_1 s m args below meth c H locs cells slots Q (F0 m 853 ls []) := by
  refine lv_aload_n C.1 C.2.1 dL_law_853 rfl (lv_at hlo 1 rfl) ?_
  refine l_arg C hS hlo 1 rfl (by omega) hL dL_law_854 dL_law_855 dL_law_856 dL_law_857 dL_law_858 ?_
  obtain ⟨Qc, hM, hk⟩ := p_back (k := (xs (i + 1)).toInt) hI
  refine l_call C hP hS hσ hlo (as := [mI (xs (i + 1)).toInt]) dL_law_859 mv_L_110 hM ⟨xs_ok _, trivial⟩ rfl rfl rfl (Nat.le_of_ble_eq_true rfl) ⟨by decide, by decide⟩ hroom (fun z σ1 H1 locs1 hq hz hσ1 hP1 hS1 => ?_)
  obtain ⟨Qm, hM2, hk2⟩ := hk z σ1 hq
  refine lv_aload_n C.1 C.2.1 dL_law_862 rfl (lv_at hlo 2 rfl) ?_
  refine l_arg C hS1 hlo 1 rfl (by omega) hL dL_law_863 dL_law_864 dL_law_865 dL_law_866 dL_law_867 ?_
  refine l_call C hP1 hS1 hσ1 hlo (as := [mI (xs (i + 1)).toInt]) dL_law_868 mv_L_113 hM2 ⟨xs_ok _, trivial⟩ rfl rfl rfl (Nat.le_of_ble_eq_true rfl) ⟨by decide, by decide⟩ hroom (fun z2 σ2 H2 locs2 hq2 hz2 hσ2 hP2 hS2 => ?_)
  obtain ⟨rfl, hI2⟩ := hk2 z2 σ2 hq2
  exact lv_icmp_eq (tgt := 876) C.1 C.2.1 dL_law_871 rfl (fun _ => kk σ2 H2 locs2 hI2 hσ2 hP2 hS2) (fun h => absurd rfl h)
end CASES
