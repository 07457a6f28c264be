/-! THE LAW: its cases and its loop, over an invariant that the steps keep -/
theorem jcmp_self (x : Int64) : lg_cmp x x = 0 := by
  unfold lg_cmp
  simp
theorem jixs {Y : jY} {L I c : Nat} {i k : Int32} (hY : Y 0 = (20, L)) (hI : i.toInt = I) (h : I + c < L) (hL : L ≤ 3072) (hk : k.toInt = c) : jix (i + k) (Y 0).2 = some (I + c) := by
  have e : (i + k).toInt = (I + c : Nat) := by
    rw [Int32.toInt_add, hI, hk]
    have : ((I : Int) + c).bmod (2 ^ 32) = (I : Int) + c := Int.bmod_eq_of_le (by omega) (by omega)
    rw [this]; omega
  unfold jix
  rw [hY, e]
  show (if 0 ≤ ((I + c : Nat) : Int) ∧ ((I + c : Nat) : Int) < (L : Int) then some ((I + c : Nat) : Int).toNat else none) = _
  rw [if_pos (by omega)]
  rfl
def so_feed (Inv : Nat → jY → jM → Prop) (n : Nat) (Y : jY) (μ : jM) : Prop := ∀ (a1 : Int32) (a2 : Int32) (a3 : Int32) (a4 : Int32) (a5 : Int32), ∃ (z1 z2 : Int32 × jM), f_X11_feed Y 1 a1 a2 a3 a4 a5 μ = some z1 ∧ (∀ j, z1.2 0 j = μ 0 j) ∧ f_X12_feed Y 95 a1 a2 a3 a4 a5 z1.2 = some z2 ∧ z1.1 = z2.1 ∧ Inv n Y z2.2
set_option maxRecDepth 10000 in
theorem lc_feed {X : jX} {l : Launch} {Q : State → Prop} {nc ns n : Nat} {Y : jY} {μ : jM} {L I : Nat} {xs : Nat → Int32} {i : Int32} {Inv : Nat → jY → jM → Prop} (K : jOK X RL cL_law 4 (some .boolean) 1000) (hl : X.2.1 = l) (hY : Y 0 = (20, L)) (hxs : ∀ j, j < L → μ 0 j = .int (xs j)) (hL : L ≤ 3072) (hI : i.toInt = I) (hIL : I + 6 ≤ L) (hrm : nc + 17 ≤ X.2.2.2.1.cells ∧ ns + 64 ≤ X.2.2.2.1.slots) (hO1 : (Y 1).1 = 11) (hO2 : (Y 95).1 = 12) (S : so_feed Inv n Y μ) (kk : ∀ nc2 ns2 n2 Y2 μ2, Inv n2 Y2 μ2 → nc2 + n = nc + n2 → ns2 + 64 * n ≤ ns + 64 * n2 → JW X Q nc2 ns2 n2 Y2 2112 [(0, .ref 0), (1, .ref 1), (2, .ref 95), (3, .int i)] [] μ2) : JW X Q nc ns n Y 244 [(0, .ref 0), (1, .ref 1), (2, .ref 95), (3, .int i)] [] μ := by
  have hY2 := hY
  have hO22 := hO2
  obtain ⟨z1, z2, e1, h0, e2, heq, hInv⟩ := S (xs (I + 1)) (xs (I + 2)) (xs (I + 3)) (xs (I + 4)) (xs (I + 5))
  refine r_aload_n K 1 dL_law_244 rfl rfl ?_
  refine r_aload_n K 0 dL_law_245 rfl rfl ?_
  refine r_iload_n K 3 dL_law_246 rfl rfl ?_
  refine r_iconst (v := 1) K dL_law_247 (by decide) ?_
  refine r_iadd K dL_law_248 ?_
  refine r_iald K (k := I + 1) (by rw [hY]) (jixs hY hI (c := 1) (by omega) hL rfl) (hxs (I + 1) (by omega)) dL_law_249 ?_
  refine r_aload_n K 0 dL_law_250 rfl rfl ?_
  refine r_iload_n K 3 dL_law_251 rfl rfl ?_
  refine r_iconst (v := 2) K dL_law_252 (by decide) ?_
  refine r_iadd K dL_law_253 ?_
  refine r_iald K (k := I + 2) (by rw [hY]) (jixs hY hI (c := 2) (by omega) hL rfl) (hxs (I + 2) (by omega)) dL_law_254 ?_
  refine r_aload_n K 0 dL_law_255 rfl rfl ?_
  refine r_iload_n K 3 dL_law_256 rfl rfl ?_
  refine r_iconst (v := 3) K dL_law_257 (by decide) ?_
  refine r_iadd K dL_law_258 ?_
  refine r_iald K (k := I + 3) (by rw [hY]) (jixs hY hI (c := 3) (by omega) hL rfl) (hxs (I + 3) (by omega)) dL_law_259 ?_
  refine r_aload_n K 0 dL_law_260 rfl rfl ?_
  refine r_iload_n K 3 dL_law_261 rfl rfl ?_
  refine r_iconst (v := 4) K dL_law_262 (by decide) ?_
  refine r_iadd K dL_law_263 ?_
  refine r_iald K (k := I + 4) (by rw [hY]) (jixs hY hI (c := 4) (by omega) hL rfl) (hxs (I + 4) (by omega)) dL_law_264 ?_
  refine r_aload_n K 0 dL_law_265 rfl rfl ?_
  refine r_iload_n K 3 dL_law_266 rfl rfl ?_
  refine r_iconst (v := 5) K dL_law_267 (by decide) ?_
  refine r_iadd K dL_law_268 ?_
  refine r_iald K (k := I + 5) (by rw [hY]) (jixs hY hI (c := 5) (by omega) hL rfl) (hxs (I + 5) (by omega)) dL_law_269 ?_
  refine r_callV K hl (c_X11_feed l e1) mC_yX11_feed mM_RL_13 mI_yX11_feed mS_yX11_feed mZ_RX11 vc11 hO1 (Nat.le_of_ble_eq_true rfl) (Nat.le_of_ble_eq_true rfl) np_yX11_feed rfl (Nat.le_of_ble_eq_true rfl) dL_law_270 ⟨Nat.le_trans (Nat.le_add_right _ 17) hrm.1, Nat.le_trans (Nat.le_add_right _ 64) hrm.2⟩ ?_
  refine r_aload_n K 2 dL_law_273 rfl rfl ?_
  refine r_aload_n K 0 dL_law_274 rfl rfl ?_
  refine r_iload_n K 3 dL_law_275 rfl rfl ?_
  refine r_iconst (v := 1) K dL_law_276 (by decide) ?_
  refine r_iadd K dL_law_277 ?_
  refine r_iald K (k := I + 1) (by rw [hY2]) (jixs hY2 hI (c := 1) (by omega) hL rfl) ((h0 (I + 1)).trans (hxs (I + 1) (by omega))) dL_law_278 ?_
  refine r_aload_n K 0 dL_law_279 rfl rfl ?_
  refine r_iload_n K 3 dL_law_280 rfl rfl ?_
  refine r_iconst (v := 2) K dL_law_281 (by decide) ?_
  refine r_iadd K dL_law_282 ?_
  refine r_iald K (k := I + 2) (by rw [hY2]) (jixs hY2 hI (c := 2) (by omega) hL rfl) ((h0 (I + 2)).trans (hxs (I + 2) (by omega))) dL_law_283 ?_
  refine r_aload_n K 0 dL_law_284 rfl rfl ?_
  refine r_iload_n K 3 dL_law_285 rfl rfl ?_
  refine r_iconst (v := 3) K dL_law_286 (by decide) ?_
  refine r_iadd K dL_law_287 ?_
  refine r_iald K (k := I + 3) (by rw [hY2]) (jixs hY2 hI (c := 3) (by omega) hL rfl) ((h0 (I + 3)).trans (hxs (I + 3) (by omega))) dL_law_288 ?_
  refine r_aload_n K 0 dL_law_289 rfl rfl ?_
  refine r_iload_n K 3 dL_law_290 rfl rfl ?_
  refine r_iconst (v := 4) K dL_law_291 (by decide) ?_
  refine r_iadd K dL_law_292 ?_
  refine r_iald K (k := I + 4) (by rw [hY2]) (jixs hY2 hI (c := 4) (by omega) hL rfl) ((h0 (I + 4)).trans (hxs (I + 4) (by omega))) dL_law_293 ?_
  refine r_aload_n K 0 dL_law_294 rfl rfl ?_
  refine r_iload_n K 3 dL_law_295 rfl rfl ?_
  refine r_iconst (v := 5) K dL_law_296 (by decide) ?_
  refine r_iadd K dL_law_297 ?_
  refine r_iald K (k := I + 5) (by rw [hY2]) (jixs hY2 hI (c := 5) (by omega) hL rfl) ((h0 (I + 5)).trans (hxs (I + 5) (by omega))) dL_law_298 ?_
  refine r_callV K hl (c_X12_feed l e2) mC_yX12_feed mM_RL_17 mI_yX12_feed mS_yX12_feed mZ_RX12 vc12 hO22 (Nat.le_of_ble_eq_true rfl) (Nat.le_of_ble_eq_true rfl) np_yX12_feed rfl (Nat.le_of_ble_eq_true rfl) dL_law_299 ⟨Nat.le_trans (Nat.le_add_right _ 17) hrm.1, Nat.le_trans (Nat.le_add_right _ 64) hrm.2⟩ ?_
  refine r_icmp_eq K 2112 dL_law_302 (by decide) (fun _ => ?_) (fun h => absurd heq h)
  exact kk _ _ _ _ _ hInv rfl (Nat.le_refl _)
def so_tones (Inv : Nat → jY → jM → Prop) (n : Nat) (Y : jY) (μ : jM) : Prop := ∀ (a1 : Int32), ∃ (z1 z2 : Int32 × jM), f_X11_tones Y 1 a1 μ = some z1 ∧ (∀ j, z1.2 0 j = μ 0 j) ∧ f_X12_tones Y 95 a1 z1.2 = some z2 ∧ z1.1 = z2.1 ∧ Inv n Y z2.2
set_option maxRecDepth 10000 in
theorem lc_tones {X : jX} {l : Launch} {Q : State → Prop} {nc ns n : Nat} {Y : jY} {μ : jM} {L I : Nat} {xs : Nat → Int32} {i : Int32} {Inv : Nat → jY → jM → Prop} (K : jOK X RL cL_law 4 (some .boolean) 1000) (hl : X.2.1 = l) (hY : Y 0 = (20, L)) (hxs : ∀ j, j < L → μ 0 j = .int (xs j)) (hL : L ≤ 3072) (hI : i.toInt = I) (hIL : I + 6 ≤ L) (hrm : nc + 17 ≤ X.2.2.2.1.cells ∧ ns + 64 ≤ X.2.2.2.1.slots) (hO1 : (Y 1).1 = 11) (hO2 : (Y 95).1 = 12) (S : so_tones Inv n Y μ) (kk : ∀ nc2 ns2 n2 Y2 μ2, Inv n2 Y2 μ2 → nc2 + n = nc + n2 → ns2 + 64 * n ≤ ns + 64 * n2 → JW X Q nc2 ns2 n2 Y2 2112 [(0, .ref 0), (1, .ref 1), (2, .ref 95), (3, .int i)] [] μ2) : JW X Q nc ns n Y 307 [(0, .ref 0), (1, .ref 1), (2, .ref 95), (3, .int i)] [] μ := by
  have hY2 := hY
  have hO22 := hO2
  obtain ⟨z1, z2, e1, h0, e2, heq, hInv⟩ := S (xs (I + 1))
  refine r_aload_n K 1 dL_law_307 rfl rfl ?_
  refine r_aload_n K 0 dL_law_308 rfl rfl ?_
  refine r_iload_n K 3 dL_law_309 rfl rfl ?_
  refine r_iconst (v := 1) K dL_law_310 (by decide) ?_
  refine r_iadd K dL_law_311 ?_
  refine r_iald K (k := I + 1) (by rw [hY]) (jixs hY hI (c := 1) (by omega) hL rfl) (hxs (I + 1) (by omega)) dL_law_312 ?_
  refine r_callV K hl (c_X11_tones l e1) mC_yX11_tones mM_RL_18 mI_yX11_tones mS_yX11_tones mZ_RX11 vc11 hO1 (Nat.le_of_ble_eq_true rfl) (Nat.le_of_ble_eq_true rfl) np_yX11_tones rfl (Nat.le_of_ble_eq_true rfl) dL_law_313 ⟨Nat.le_trans (Nat.le_add_right _ 17) hrm.1, Nat.le_trans (Nat.le_add_right _ 64) hrm.2⟩ ?_
  refine r_aload_n K 2 dL_law_316 rfl rfl ?_
  refine r_aload_n K 0 dL_law_317 rfl rfl ?_
  refine r_iload_n K 3 dL_law_318 rfl rfl ?_
  refine r_iconst (v := 1) K dL_law_319 (by decide) ?_
  refine r_iadd K dL_law_320 ?_
  refine r_iald K (k := I + 1) (by rw [hY2]) (jixs hY2 hI (c := 1) (by omega) hL rfl) ((h0 (I + 1)).trans (hxs (I + 1) (by omega))) dL_law_321 ?_
  refine r_callV K hl (c_X12_tones l e2) mC_yX12_tones mM_RL_22 mI_yX12_tones mS_yX12_tones mZ_RX12 vc12 hO22 (Nat.le_of_ble_eq_true rfl) (Nat.le_of_ble_eq_true rfl) np_yX12_tones rfl (Nat.le_of_ble_eq_true rfl) dL_law_322 ⟨Nat.le_trans (Nat.le_add_right _ 17) hrm.1, Nat.le_trans (Nat.le_add_right _ 64) hrm.2⟩ ?_
  refine r_icmp_eq K 2112 dL_law_325 (by decide) (fun _ => ?_) (fun h => absurd heq h)
  exact kk _ _ _ _ _ hInv rfl (Nat.le_refl _)
def so_count (Inv : Nat → jY → jM → Prop) (n : Nat) (Y : jY) (μ : jM) : Prop := ∀ (a1 : Int32), ∃ (z1 z2 : Int32 × jM), f_X11_count Y 1 a1 μ = some z1 ∧ (∀ j, z1.2 0 j = μ 0 j) ∧ f_X12_count Y 95 a1 z1.2 = some z2 ∧ z1.1 = z2.1 ∧ Inv n Y z2.2
set_option maxRecDepth 10000 in
theorem lc_count {X : jX} {l : Launch} {Q : State → Prop} {nc ns n : Nat} {Y : jY} {μ : jM} {L I : Nat} {xs : Nat → Int32} {i : Int32} {Inv : Nat → jY → jM → Prop} (K : jOK X RL cL_law 4 (some .boolean) 1000) (hl : X.2.1 = l) (hY : Y 0 = (20, L)) (hxs : ∀ j, j < L → μ 0 j = .int (xs j)) (hL : L ≤ 3072) (hI : i.toInt = I) (hIL : I + 6 ≤ L) (hrm : nc + 17 ≤ X.2.2.2.1.cells ∧ ns + 64 ≤ X.2.2.2.1.slots) (hO1 : (Y 1).1 = 11) (hO2 : (Y 95).1 = 12) (S : so_count Inv n Y μ) (kk : ∀ nc2 ns2 n2 Y2 μ2, Inv n2 Y2 μ2 → nc2 + n = nc + n2 → ns2 + 64 * n ≤ ns + 64 * n2 → JW X Q nc2 ns2 n2 Y2 2112 [(0, .ref 0), (1, .ref 1), (2, .ref 95), (3, .int i)] [] μ2) : JW X Q nc ns n Y 330 [(0, .ref 0), (1, .ref 1), (2, .ref 95), (3, .int i)] [] μ := by
  have hY2 := hY
  have hO22 := hO2
  obtain ⟨z1, z2, e1, h0, e2, heq, hInv⟩ := S (xs (I + 1))
  refine r_aload_n K 1 dL_law_330 rfl rfl ?_
  refine r_aload_n K 0 dL_law_331 rfl rfl ?_
  refine r_iload_n K 3 dL_law_332 rfl rfl ?_
  refine r_iconst (v := 1) K dL_law_333 (by decide) ?_
  refine r_iadd K dL_law_334 ?_
  refine r_iald K (k := I + 1) (by rw [hY]) (jixs hY hI (c := 1) (by omega) hL rfl) (hxs (I + 1) (by omega)) dL_law_335 ?_
  refine r_callV K hl (c_X11_count l e1) mC_yX11_count mM_RL_23 mI_yX11_count mS_yX11_count mZ_RX11 vc11 hO1 (Nat.le_of_ble_eq_true rfl) (Nat.le_of_ble_eq_true rfl) np_yX11_count rfl (Nat.le_of_ble_eq_true rfl) dL_law_336 ⟨Nat.le_trans (Nat.le_add_right _ 17) hrm.1, Nat.le_trans (Nat.le_add_right _ 64) hrm.2⟩ ?_
  refine r_aload_n K 2 dL_law_339 rfl rfl ?_
  refine r_aload_n K 0 dL_law_340 rfl rfl ?_
  refine r_iload_n K 3 dL_law_341 rfl rfl ?_
  refine r_iconst (v := 1) K dL_law_342 (by decide) ?_
  refine r_iadd K dL_law_343 ?_
  refine r_iald K (k := I + 1) (by rw [hY2]) (jixs hY2 hI (c := 1) (by omega) hL rfl) ((h0 (I + 1)).trans (hxs (I + 1) (by omega))) dL_law_344 ?_
  refine r_callV K hl (c_X12_count l e2) mC_yX12_count mM_RL_26 mI_yX12_count mS_yX12_count mZ_RX12 vc12 hO22 (Nat.le_of_ble_eq_true rfl) (Nat.le_of_ble_eq_true rfl) np_yX12_count rfl (Nat.le_of_ble_eq_true rfl) dL_law_345 ⟨Nat.le_trans (Nat.le_add_right _ 17) hrm.1, Nat.le_trans (Nat.le_add_right _ 64) hrm.2⟩ ?_
  refine r_icmp_eq K 2112 dL_law_348 (by decide) (fun _ => ?_) (fun h => absurd heq h)
  exact kk _ _ _ _ _ hInv rfl (Nat.le_refl _)
def so_polynomial (Inv : Nat → jY → jM → Prop) (n : Nat) (Y : jY) (μ : jM) : Prop := ∀ (a1 : Int32) (a2 : Int32), (a1 = 0 ∨ a1 = 1) → ∃ (z1 z2 : Int64 × jM), f_X11_polynomial Y 1 a1 a2 μ = some z1 ∧ (∀ j, z1.2 0 j = μ 0 j) ∧ f_X12_polynomial Y 95 a1 a2 z1.2 = some z2 ∧ z1.1 = z2.1 ∧ Inv n Y z2.2
set_option maxRecDepth 10000 in
theorem lc_polynomial {X : jX} {l : Launch} {Q : State → Prop} {nc ns n : Nat} {Y : jY} {μ : jM} {L I : Nat} {xs : Nat → Int32} {i : Int32} {Inv : Nat → jY → jM → Prop} (K : jOK X RL cL_law 4 (some .boolean) 1000) (hl : X.2.1 = l) (hY : Y 0 = (20, L)) (hxs : ∀ j, j < L → μ 0 j = .int (xs j)) (hL : L ≤ 3072) (hI : i.toInt = I) (hIL : I + 6 ≤ L) (hrm : nc + 17 ≤ X.2.2.2.1.cells ∧ ns + 64 ≤ X.2.2.2.1.slots) (hO1 : (Y 1).1 = 11) (hO2 : (Y 95).1 = 12) (S : so_polynomial Inv n Y μ) (kk : ∀ nc2 ns2 n2 Y2 μ2, Inv n2 Y2 μ2 → nc2 + n = nc + n2 → ns2 + 64 * n ≤ ns + 64 * n2 → JW X Q nc2 ns2 n2 Y2 2112 [(0, .ref 0), (1, .ref 1), (2, .ref 95), (3, .int i)] [] μ2) : JW X Q nc ns n Y 353 [(0, .ref 0), (1, .ref 1), (2, .ref 95), (3, .int i)] [] μ := by
  have hY2 := hY
  have hO22 := hO2
  by_cases hb : xs (I + 1) = 0
  · obtain ⟨z1, z2, e1, h0, e2, heq, hInv⟩ := S (0 : Int32) (xs (I + 2)) (Or.inl rfl)
    refine r_aload_n K 1 dL_law_353 rfl rfl ?_
    refine r_aload_n K 0 dL_law_354 rfl rfl ?_
    refine r_iload_n K 3 dL_law_355 rfl rfl ?_
    refine r_iconst (v := 1) K dL_law_356 (by decide) ?_
    refine r_iadd K dL_law_357 ?_
    refine r_iald K (k := I + 1) (by rw [hY]) (jixs hY hI (c := 1) (by omega) hL rfl) (hxs (I + 1) (by omega)) dL_law_358 ?_
    refine r_if_eq K 366 dL_law_359 (by decide) (fun _ => ?_) (fun h => absurd hb h)
    refine r_iconst (v := 0) K dL_law_366 (by decide) ?_
    refine r_aload_n K 0 dL_law_367 rfl rfl ?_
    refine r_iload_n K 3 dL_law_368 rfl rfl ?_
    refine r_iconst (v := 2) K dL_law_369 (by decide) ?_
    refine r_iadd K dL_law_370 ?_
    refine r_iald K (k := I + 2) (by rw [hY]) (jixs hY hI (c := 2) (by omega) hL rfl) (hxs (I + 2) (by omega)) dL_law_371 ?_
    refine r_callV K hl (c_X11_polynomial l e1) mC_yX11_polynomial mM_RL_27 mI_yX11_polynomial mS_yX11_polynomial mZ_RX11 vc11 hO1 (Nat.le_of_ble_eq_true rfl) (Nat.le_of_ble_eq_true rfl) np_yX11_polynomial rfl (Nat.le_of_ble_eq_true rfl) dL_law_372 ⟨Nat.le_trans (Nat.le_add_right _ 17) hrm.1, Nat.le_trans (Nat.le_add_right _ 64) hrm.2⟩ ?_
    refine r_aload_n K 2 dL_law_375 rfl rfl ?_
    refine r_aload_n K 0 dL_law_376 rfl rfl ?_
    refine r_iload_n K 3 dL_law_377 rfl rfl ?_
    refine r_iconst (v := 1) K dL_law_378 (by decide) ?_
    refine r_iadd K dL_law_379 ?_
    refine r_iald K (k := I + 1) (by rw [hY2]) (jixs hY2 hI (c := 1) (by omega) hL rfl) ((h0 (I + 1)).trans (hxs (I + 1) (by omega))) dL_law_380 ?_
    refine r_if_eq K 388 dL_law_381 (by decide) (fun _ => ?_) (fun h => absurd hb h)
    refine r_iconst (v := 0) K dL_law_388 (by decide) ?_
    refine r_aload_n K 0 dL_law_389 rfl rfl ?_
    refine r_iload_n K 3 dL_law_390 rfl rfl ?_
    refine r_iconst (v := 2) K dL_law_391 (by decide) ?_
    refine r_iadd K dL_law_392 ?_
    refine r_iald K (k := I + 2) (by rw [hY2]) (jixs hY2 hI (c := 2) (by omega) hL rfl) ((h0 (I + 2)).trans (hxs (I + 2) (by omega))) dL_law_393 ?_
    refine r_callV K hl (c_X12_polynomial l e2) mC_yX12_polynomial mM_RL_31 mI_yX12_polynomial mS_yX12_polynomial mZ_RX12 vc12 hO22 (Nat.le_of_ble_eq_true rfl) (Nat.le_of_ble_eq_true rfl) np_yX12_polynomial rfl (Nat.le_of_ble_eq_true rfl) dL_law_394 ⟨Nat.le_trans (Nat.le_add_right _ 17) hrm.1, Nat.le_trans (Nat.le_add_right _ 64) hrm.2⟩ ?_
    refine r_lcmp K dL_law_397 ?_
    refine r_if_eq K 2112 dL_law_398 (by decide) (fun _ => ?_) (fun h => absurd (by rw [heq]; exact jcmp_self _) h)
    exact kk _ _ _ _ _ hInv rfl (Nat.le_refl _)
  · obtain ⟨z1, z2, e1, h0, e2, heq, hInv⟩ := S (1 : Int32) (xs (I + 2)) (Or.inr rfl)
    refine r_aload_n K 1 dL_law_353 rfl rfl ?_
    refine r_aload_n K 0 dL_law_354 rfl rfl ?_
    refine r_iload_n K 3 dL_law_355 rfl rfl ?_
    refine r_iconst (v := 1) K dL_law_356 (by decide) ?_
    refine r_iadd K dL_law_357 ?_
    refine r_iald K (k := I + 1) (by rw [hY]) (jixs hY hI (c := 1) (by omega) hL rfl) (hxs (I + 1) (by omega)) dL_law_358 ?_
    refine r_if_eq K 366 dL_law_359 (by decide) (fun h => absurd h hb) (fun _ => ?_)
    refine r_iconst (v := 1) K dL_law_362 (by decide) ?_
    refine r_goto K 367 dL_law_363 (by decide) ?_
    refine r_aload_n K 0 dL_law_367 rfl rfl ?_
    refine r_iload_n K 3 dL_law_368 rfl rfl ?_
    refine r_iconst (v := 2) K dL_law_369 (by decide) ?_
    refine r_iadd K dL_law_370 ?_
    refine r_iald K (k := I + 2) (by rw [hY]) (jixs hY hI (c := 2) (by omega) hL rfl) (hxs (I + 2) (by omega)) dL_law_371 ?_
    refine r_callV K hl (c_X11_polynomial l e1) mC_yX11_polynomial mM_RL_27 mI_yX11_polynomial mS_yX11_polynomial mZ_RX11 vc11 hO1 (Nat.le_of_ble_eq_true rfl) (Nat.le_of_ble_eq_true rfl) np_yX11_polynomial rfl (Nat.le_of_ble_eq_true rfl) dL_law_372 ⟨Nat.le_trans (Nat.le_add_right _ 17) hrm.1, Nat.le_trans (Nat.le_add_right _ 64) hrm.2⟩ ?_
    refine r_aload_n K 2 dL_law_375 rfl rfl ?_
    refine r_aload_n K 0 dL_law_376 rfl rfl ?_
    refine r_iload_n K 3 dL_law_377 rfl rfl ?_
    refine r_iconst (v := 1) K dL_law_378 (by decide) ?_
    refine r_iadd K dL_law_379 ?_
    refine r_iald K (k := I + 1) (by rw [hY2]) (jixs hY2 hI (c := 1) (by omega) hL rfl) ((h0 (I + 1)).trans (hxs (I + 1) (by omega))) dL_law_380 ?_
    refine r_if_eq K 388 dL_law_381 (by decide) (fun h => absurd h hb) (fun _ => ?_)
    refine r_iconst (v := 1) K dL_law_384 (by decide) ?_
    refine r_goto K 389 dL_law_385 (by decide) ?_
    refine r_aload_n K 0 dL_law_389 rfl rfl ?_
    refine r_iload_n K 3 dL_law_390 rfl rfl ?_
    refine r_iconst (v := 2) K dL_law_391 (by decide) ?_
    refine r_iadd K dL_law_392 ?_
    refine r_iald K (k := I + 2) (by rw [hY2]) (jixs hY2 hI (c := 2) (by omega) hL rfl) ((h0 (I + 2)).trans (hxs (I + 2) (by omega))) dL_law_393 ?_
    refine r_callV K hl (c_X12_polynomial l e2) mC_yX12_polynomial mM_RL_31 mI_yX12_polynomial mS_yX12_polynomial mZ_RX12 vc12 hO22 (Nat.le_of_ble_eq_true rfl) (Nat.le_of_ble_eq_true rfl) np_yX12_polynomial rfl (Nat.le_of_ble_eq_true rfl) dL_law_394 ⟨Nat.le_trans (Nat.le_add_right _ 17) hrm.1, Nat.le_trans (Nat.le_add_right _ 64) hrm.2⟩ ?_
    refine r_lcmp K dL_law_397 ?_
    refine r_if_eq K 2112 dL_law_398 (by decide) (fun _ => ?_) (fun h => absurd (by rw [heq]; exact jcmp_self _) h)
    exact kk _ _ _ _ _ hInv rfl (Nat.le_refl _)
def so_moment (Inv : Nat → jY → jM → Prop) (n : Nat) (Y : jY) (μ : jM) : Prop := ∀ (a1 : Int32), ∃ (z1 z2 : Int64 × jM), f_X11_moment Y 1 a1 μ = some z1 ∧ (∀ j, z1.2 0 j = μ 0 j) ∧ f_X12_moment Y 95 a1 z1.2 = some z2 ∧ z1.1 = z2.1 ∧ Inv n Y z2.2
set_option maxRecDepth 10000 in
theorem lc_moment {X : jX} {l : Launch} {Q : State → Prop} {nc ns n : Nat} {Y : jY} {μ : jM} {L I : Nat} {xs : Nat → Int32} {i : Int32} {Inv : Nat → jY → jM → Prop} (K : jOK X RL cL_law 4 (some .boolean) 1000) (hl : X.2.1 = l) (hY : Y 0 = (20, L)) (hxs : ∀ j, j < L → μ 0 j = .int (xs j)) (hL : L ≤ 3072) (hI : i.toInt = I) (hIL : I + 6 ≤ L) (hrm : nc + 17 ≤ X.2.2.2.1.cells ∧ ns + 64 ≤ X.2.2.2.1.slots) (hO1 : (Y 1).1 = 11) (hO2 : (Y 95).1 = 12) (S : so_moment Inv n Y μ) (kk : ∀ nc2 ns2 n2 Y2 μ2, Inv n2 Y2 μ2 → nc2 + n = nc + n2 → ns2 + 64 * n ≤ ns + 64 * n2 → JW X Q nc2 ns2 n2 Y2 2112 [(0, .ref 0), (1, .ref 1), (2, .ref 95), (3, .int i)] [] μ2) : JW X Q nc ns n Y 403 [(0, .ref 0), (1, .ref 1), (2, .ref 95), (3, .int i)] [] μ := by
  have hY2 := hY
  have hO22 := hO2
  obtain ⟨z1, z2, e1, h0, e2, heq, hInv⟩ := S (xs (I + 1))
  refine r_aload_n K 1 dL_law_403 rfl rfl ?_
  refine r_aload_n K 0 dL_law_404 rfl rfl ?_
  refine r_iload_n K 3 dL_law_405 rfl rfl ?_
  refine r_iconst (v := 1) K dL_law_406 (by decide) ?_
  refine r_iadd K dL_law_407 ?_
  refine r_iald K (k := I + 1) (by rw [hY]) (jixs hY hI (c := 1) (by omega) hL rfl) (hxs (I + 1) (by omega)) dL_law_408 ?_
  refine r_callV K hl (c_X11_moment l e1) mC_yX11_moment mM_RL_32 mI_yX11_moment mS_yX11_moment mZ_RX11 vc11 hO1 (Nat.le_of_ble_eq_true rfl) (Nat.le_of_ble_eq_true rfl) np_yX11_moment rfl (Nat.le_of_ble_eq_true rfl) dL_law_409 ⟨Nat.le_trans (Nat.le_add_right _ 17) hrm.1, Nat.le_trans (Nat.le_add_right _ 64) hrm.2⟩ ?_
  refine r_aload_n K 2 dL_law_412 rfl rfl ?_
  refine r_aload_n K 0 dL_law_413 rfl rfl ?_
  refine r_iload_n K 3 dL_law_414 rfl rfl ?_
  refine r_iconst (v := 1) K dL_law_415 (by decide) ?_
  refine r_iadd K dL_law_416 ?_
  refine r_iald K (k := I + 1) (by rw [hY2]) (jixs hY2 hI (c := 1) (by omega) hL rfl) ((h0 (I + 1)).trans (hxs (I + 1) (by omega))) dL_law_417 ?_
  refine r_callV K hl (c_X12_moment l e2) mC_yX12_moment mM_RL_36 mI_yX12_moment mS_yX12_moment mZ_RX12 vc12 hO22 (Nat.le_of_ble_eq_true rfl) (Nat.le_of_ble_eq_true rfl) np_yX12_moment rfl (Nat.le_of_ble_eq_true rfl) dL_law_418 ⟨Nat.le_trans (Nat.le_add_right _ 17) hrm.1, Nat.le_trans (Nat.le_add_right _ 64) hrm.2⟩ ?_
  refine r_lcmp K dL_law_421 ?_
  refine r_if_eq K 2112 dL_law_422 (by decide) (fun _ => ?_) (fun h => absurd (by rw [heq]; exact jcmp_self _) h)
  exact kk _ _ _ _ _ hInv rfl (Nat.le_refl _)
def so_weight (Inv : Nat → jY → jM → Prop) (n : Nat) (Y : jY) (μ : jM) : Prop := ∀ (a1 : Int32) (a2 : Int32), ∃ (z1 z2 : Int64 × jM), f_X11_weight Y 1 a1 a2 μ = some z1 ∧ (∀ j, z1.2 0 j = μ 0 j) ∧ f_X12_weight Y 95 a1 a2 z1.2 = some z2 ∧ z1.1 = z2.1 ∧ Inv n Y z2.2
set_option maxRecDepth 10000 in
theorem lc_weight {X : jX} {l : Launch} {Q : State → Prop} {nc ns n : Nat} {Y : jY} {μ : jM} {L I : Nat} {xs : Nat → Int32} {i : Int32} {Inv : Nat → jY → jM → Prop} (K : jOK X RL cL_law 4 (some .boolean) 1000) (hl : X.2.1 = l) (hY : Y 0 = (20, L)) (hxs : ∀ j, j < L → μ 0 j = .int (xs j)) (hL : L ≤ 3072) (hI : i.toInt = I) (hIL : I + 6 ≤ L) (hrm : nc + 17 ≤ X.2.2.2.1.cells ∧ ns + 64 ≤ X.2.2.2.1.slots) (hO1 : (Y 1).1 = 11) (hO2 : (Y 95).1 = 12) (S : so_weight Inv n Y μ) (kk : ∀ nc2 ns2 n2 Y2 μ2, Inv n2 Y2 μ2 → nc2 + n = nc + n2 → ns2 + 64 * n ≤ ns + 64 * n2 → JW X Q nc2 ns2 n2 Y2 2112 [(0, .ref 0), (1, .ref 1), (2, .ref 95), (3, .int i)] [] μ2) : JW X Q nc ns n Y 427 [(0, .ref 0), (1, .ref 1), (2, .ref 95), (3, .int i)] [] μ := by
  have hY2 := hY
  have hO22 := hO2
  obtain ⟨z1, z2, e1, h0, e2, heq, hInv⟩ := S (xs (I + 1)) (xs (I + 2))
  refine r_aload_n K 1 dL_law_427 rfl rfl ?_
  refine r_aload_n K 0 dL_law_428 rfl rfl ?_
  refine r_iload_n K 3 dL_law_429 rfl rfl ?_
  refine r_iconst (v := 1) K dL_law_430 (by decide) ?_
  refine r_iadd K dL_law_431 ?_
  refine r_iald K (k := I + 1) (by rw [hY]) (jixs hY hI (c := 1) (by omega) hL rfl) (hxs (I + 1) (by omega)) dL_law_432 ?_
  refine r_aload_n K 0 dL_law_433 rfl rfl ?_
  refine r_iload_n K 3 dL_law_434 rfl rfl ?_
  refine r_iconst (v := 2) K dL_law_435 (by decide) ?_
  refine r_iadd K dL_law_436 ?_
  refine r_iald K (k := I + 2) (by rw [hY]) (jixs hY hI (c := 2) (by omega) hL rfl) (hxs (I + 2) (by omega)) dL_law_437 ?_
  refine r_callV K hl (c_X11_weight l e1) mC_yX11_weight mM_RL_37 mI_yX11_weight mS_yX11_weight mZ_RX11 vc11 hO1 (Nat.le_of_ble_eq_true rfl) (Nat.le_of_ble_eq_true rfl) np_yX11_weight rfl (Nat.le_of_ble_eq_true rfl) dL_law_438 ⟨Nat.le_trans (Nat.le_add_right _ 17) hrm.1, Nat.le_trans (Nat.le_add_right _ 64) hrm.2⟩ ?_
  refine r_aload_n K 2 dL_law_441 rfl rfl ?_
  refine r_aload_n K 0 dL_law_442 rfl rfl ?_
  refine r_iload_n K 3 dL_law_443 rfl rfl ?_
  refine r_iconst (v := 1) K dL_law_444 (by decide) ?_
  refine r_iadd K dL_law_445 ?_
  refine r_iald K (k := I + 1) (by rw [hY2]) (jixs hY2 hI (c := 1) (by omega) hL rfl) ((h0 (I + 1)).trans (hxs (I + 1) (by omega))) dL_law_446 ?_
  refine r_aload_n K 0 dL_law_447 rfl rfl ?_
  refine r_iload_n K 3 dL_law_448 rfl rfl ?_
  refine r_iconst (v := 2) K dL_law_449 (by decide) ?_
  refine r_iadd K dL_law_450 ?_
  refine r_iald K (k := I + 2) (by rw [hY2]) (jixs hY2 hI (c := 2) (by omega) hL rfl) ((h0 (I + 2)).trans (hxs (I + 2) (by omega))) dL_law_451 ?_
  refine r_callV K hl (c_X12_weight l e2) mC_yX12_weight mM_RL_41 mI_yX12_weight mS_yX12_weight mZ_RX12 vc12 hO22 (Nat.le_of_ble_eq_true rfl) (Nat.le_of_ble_eq_true rfl) np_yX12_weight rfl (Nat.le_of_ble_eq_true rfl) dL_law_452 ⟨Nat.le_trans (Nat.le_add_right _ 17) hrm.1, Nat.le_trans (Nat.le_add_right _ 64) hrm.2⟩ ?_
  refine r_lcmp K dL_law_455 ?_
  refine r_if_eq K 2112 dL_law_456 (by decide) (fun _ => ?_) (fun h => absurd (by rw [heq]; exact jcmp_self _) h)
  exact kk _ _ _ _ _ hInv rfl (Nat.le_refl _)
def so_determinant (Inv : Nat → jY → jM → Prop) (n : Nat) (Y : jY) (μ : jM) : Prop := ∀ (a1 : Int32) (a2 : Int32), ∃ (z1 z2 : Int64 × jM), f_X11_determinant Y 1 a1 a2 μ = some z1 ∧ (∀ j, z1.2 0 j = μ 0 j) ∧ f_X12_determinant Y 95 a1 a2 z1.2 = some z2 ∧ z1.1 = z2.1 ∧ Inv n Y z2.2
set_option maxRecDepth 10000 in
theorem lc_determinant {X : jX} {l : Launch} {Q : State → Prop} {nc ns n : Nat} {Y : jY} {μ : jM} {L I : Nat} {xs : Nat → Int32} {i : Int32} {Inv : Nat → jY → jM → Prop} (K : jOK X RL cL_law 4 (some .boolean) 1000) (hl : X.2.1 = l) (hY : Y 0 = (20, L)) (hxs : ∀ j, j < L → μ 0 j = .int (xs j)) (hL : L ≤ 3072) (hI : i.toInt = I) (hIL : I + 6 ≤ L) (hrm : nc + 17 ≤ X.2.2.2.1.cells ∧ ns + 64 ≤ X.2.2.2.1.slots) (hO1 : (Y 1).1 = 11) (hO2 : (Y 95).1 = 12) (S : so_determinant Inv n Y μ) (kk : ∀ nc2 ns2 n2 Y2 μ2, Inv n2 Y2 μ2 → nc2 + n = nc + n2 → ns2 + 64 * n ≤ ns + 64 * n2 → JW X Q nc2 ns2 n2 Y2 2112 [(0, .ref 0), (1, .ref 1), (2, .ref 95), (3, .int i)] [] μ2) : JW X Q nc ns n Y 461 [(0, .ref 0), (1, .ref 1), (2, .ref 95), (3, .int i)] [] μ := by
  have hY2 := hY
  have hO22 := hO2
  obtain ⟨z1, z2, e1, h0, e2, heq, hInv⟩ := S (xs (I + 1)) (xs (I + 2))
  refine r_aload_n K 1 dL_law_461 rfl rfl ?_
  refine r_aload_n K 0 dL_law_462 rfl rfl ?_
  refine r_iload_n K 3 dL_law_463 rfl rfl ?_
  refine r_iconst (v := 1) K dL_law_464 (by decide) ?_
  refine r_iadd K dL_law_465 ?_
  refine r_iald K (k := I + 1) (by rw [hY]) (jixs hY hI (c := 1) (by omega) hL rfl) (hxs (I + 1) (by omega)) dL_law_466 ?_
  refine r_aload_n K 0 dL_law_467 rfl rfl ?_
  refine r_iload_n K 3 dL_law_468 rfl rfl ?_
  refine r_iconst (v := 2) K dL_law_469 (by decide) ?_
  refine r_iadd K dL_law_470 ?_
  refine r_iald K (k := I + 2) (by rw [hY]) (jixs hY hI (c := 2) (by omega) hL rfl) (hxs (I + 2) (by omega)) dL_law_471 ?_
  refine r_callV K hl (c_X11_determinant l e1) mC_yX11_determinant mM_RL_42 mI_yX11_determinant mS_yX11_determinant mZ_RX11 vc11 hO1 (Nat.le_of_ble_eq_true rfl) (Nat.le_of_ble_eq_true rfl) np_yX11_determinant rfl (Nat.le_of_ble_eq_true rfl) dL_law_472 ⟨Nat.le_trans (Nat.le_add_right _ 17) hrm.1, Nat.le_trans (Nat.le_add_right _ 64) hrm.2⟩ ?_
  refine r_aload_n K 2 dL_law_475 rfl rfl ?_
  refine r_aload_n K 0 dL_law_476 rfl rfl ?_
  refine r_iload_n K 3 dL_law_477 rfl rfl ?_
  refine r_iconst (v := 1) K dL_law_478 (by decide) ?_
  refine r_iadd K dL_law_479 ?_
  refine r_iald K (k := I + 1) (by rw [hY2]) (jixs hY2 hI (c := 1) (by omega) hL rfl) ((h0 (I + 1)).trans (hxs (I + 1) (by omega))) dL_law_480 ?_
  refine r_aload_n K 0 dL_law_481 rfl rfl ?_
  refine r_iload_n K 3 dL_law_482 rfl rfl ?_
  refine r_iconst (v := 2) K dL_law_483 (by decide) ?_
  refine r_iadd K dL_law_484 ?_
  refine r_iald K (k := I + 2) (by rw [hY2]) (jixs hY2 hI (c := 2) (by omega) hL rfl) ((h0 (I + 2)).trans (hxs (I + 2) (by omega))) dL_law_485 ?_
  refine r_callV K hl (c_X12_determinant l e2) mC_yX12_determinant mM_RL_45 mI_yX12_determinant mS_yX12_determinant mZ_RX12 vc12 hO22 (Nat.le_of_ble_eq_true rfl) (Nat.le_of_ble_eq_true rfl) np_yX12_determinant rfl (Nat.le_of_ble_eq_true rfl) dL_law_486 ⟨Nat.le_trans (Nat.le_add_right _ 17) hrm.1, Nat.le_trans (Nat.le_add_right _ 64) hrm.2⟩ ?_
  refine r_lcmp K dL_law_489 ?_
  refine r_if_eq K 2112 dL_law_490 (by decide) (fun _ => ?_) (fun h => absurd (by rw [heq]; exact jcmp_self _) h)
  exact kk _ _ _ _ _ hInv rfl (Nat.le_refl _)
def so_entry (Inv : Nat → jY → jM → Prop) (n : Nat) (Y : jY) (μ : jM) : Prop := ∀ (a1 : Int32) (a2 : Int32) (a3 : Int32), (a1 = 0 ∨ a1 = 1) → ∃ (z1 z2 : Int64 × jM), f_X11_entry Y 1 a1 a2 a3 μ = some z1 ∧ (∀ j, z1.2 0 j = μ 0 j) ∧ f_X12_entry Y 95 a1 a2 a3 z1.2 = some z2 ∧ z1.1 = z2.1 ∧ Inv n Y z2.2
set_option maxRecDepth 10000 in
theorem lc_entry {X : jX} {l : Launch} {Q : State → Prop} {nc ns n : Nat} {Y : jY} {μ : jM} {L I : Nat} {xs : Nat → Int32} {i : Int32} {Inv : Nat → jY → jM → Prop} (K : jOK X RL cL_law 4 (some .boolean) 1000) (hl : X.2.1 = l) (hY : Y 0 = (20, L)) (hxs : ∀ j, j < L → μ 0 j = .int (xs j)) (hL : L ≤ 3072) (hI : i.toInt = I) (hIL : I + 6 ≤ L) (hrm : nc + 17 ≤ X.2.2.2.1.cells ∧ ns + 64 ≤ X.2.2.2.1.slots) (hO1 : (Y 1).1 = 11) (hO2 : (Y 95).1 = 12) (S : so_entry Inv n Y μ) (kk : ∀ nc2 ns2 n2 Y2 μ2, Inv n2 Y2 μ2 → nc2 + n = nc + n2 → ns2 + 64 * n ≤ ns + 64 * n2 → JW X Q nc2 ns2 n2 Y2 2112 [(0, .ref 0), (1, .ref 1), (2, .ref 95), (3, .int i)] [] μ2) : JW X Q nc ns n Y 495 [(0, .ref 0), (1, .ref 1), (2, .ref 95), (3, .int i)] [] μ := by
  have hY2 := hY
  have hO22 := hO2
  by_cases hb : xs (I + 1) = 0
  · obtain ⟨z1, z2, e1, h0, e2, heq, hInv⟩ := S (0 : Int32) (xs (I + 2)) (xs (I + 3)) (Or.inl rfl)
    refine r_aload_n K 1 dL_law_495 rfl rfl ?_
    refine r_aload_n K 0 dL_law_496 rfl rfl ?_
    refine r_iload_n K 3 dL_law_497 rfl rfl ?_
    refine r_iconst (v := 1) K dL_law_498 (by decide) ?_
    refine r_iadd K dL_law_499 ?_
    refine r_iald K (k := I + 1) (by rw [hY]) (jixs hY hI (c := 1) (by omega) hL rfl) (hxs (I + 1) (by omega)) dL_law_500 ?_
    refine r_if_eq K 508 dL_law_501 (by decide) (fun _ => ?_) (fun h => absurd hb h)
    refine r_iconst (v := 0) K dL_law_508 (by decide) ?_
    refine r_aload_n K 0 dL_law_509 rfl rfl ?_
    refine r_iload_n K 3 dL_law_510 rfl rfl ?_
    refine r_iconst (v := 2) K dL_law_511 (by decide) ?_
    refine r_iadd K dL_law_512 ?_
    refine r_iald K (k := I + 2) (by rw [hY]) (jixs hY hI (c := 2) (by omega) hL rfl) (hxs (I + 2) (by omega)) dL_law_513 ?_
    refine r_aload_n K 0 dL_law_514 rfl rfl ?_
    refine r_iload_n K 3 dL_law_515 rfl rfl ?_
    refine r_iconst (v := 3) K dL_law_516 (by decide) ?_
    refine r_iadd K dL_law_517 ?_
    refine r_iald K (k := I + 3) (by rw [hY]) (jixs hY hI (c := 3) (by omega) hL rfl) (hxs (I + 3) (by omega)) dL_law_518 ?_
    refine r_callV K hl (c_X11_entry l e1) mC_yX11_entry mM_RL_46 mI_yX11_entry mS_yX11_entry mZ_RX11 vc11 hO1 (Nat.le_of_ble_eq_true rfl) (Nat.le_of_ble_eq_true rfl) np_yX11_entry rfl (Nat.le_of_ble_eq_true rfl) dL_law_519 ⟨Nat.le_trans (Nat.le_add_right _ 17) hrm.1, Nat.le_trans (Nat.le_add_right _ 64) hrm.2⟩ ?_
    refine r_aload_n K 2 dL_law_522 rfl rfl ?_
    refine r_aload_n K 0 dL_law_523 rfl rfl ?_
    refine r_iload_n K 3 dL_law_524 rfl rfl ?_
    refine r_iconst (v := 1) K dL_law_525 (by decide) ?_
    refine r_iadd K dL_law_526 ?_
    refine r_iald K (k := I + 1) (by rw [hY2]) (jixs hY2 hI (c := 1) (by omega) hL rfl) ((h0 (I + 1)).trans (hxs (I + 1) (by omega))) dL_law_527 ?_
    refine r_if_eq K 535 dL_law_528 (by decide) (fun _ => ?_) (fun h => absurd hb h)
    refine r_iconst (v := 0) K dL_law_535 (by decide) ?_
    refine r_aload_n K 0 dL_law_536 rfl rfl ?_
    refine r_iload_n K 3 dL_law_537 rfl rfl ?_
    refine r_iconst (v := 2) K dL_law_538 (by decide) ?_
    refine r_iadd K dL_law_539 ?_
    refine r_iald K (k := I + 2) (by rw [hY2]) (jixs hY2 hI (c := 2) (by omega) hL rfl) ((h0 (I + 2)).trans (hxs (I + 2) (by omega))) dL_law_540 ?_
    refine r_aload_n K 0 dL_law_541 rfl rfl ?_
    refine r_iload_n K 3 dL_law_542 rfl rfl ?_
    refine r_iconst (v := 3) K dL_law_543 (by decide) ?_
    refine r_iadd K dL_law_544 ?_
    refine r_iald K (k := I + 3) (by rw [hY2]) (jixs hY2 hI (c := 3) (by omega) hL rfl) ((h0 (I + 3)).trans (hxs (I + 3) (by omega))) dL_law_545 ?_
    refine r_callV K hl (c_X12_entry l e2) mC_yX12_entry mM_RL_50 mI_yX12_entry mS_yX12_entry mZ_RX12 vc12 hO22 (Nat.le_of_ble_eq_true rfl) (Nat.le_of_ble_eq_true rfl) np_yX12_entry rfl (Nat.le_of_ble_eq_true rfl) dL_law_546 ⟨Nat.le_trans (Nat.le_add_right _ 17) hrm.1, Nat.le_trans (Nat.le_add_right _ 64) hrm.2⟩ ?_
    refine r_lcmp K dL_law_549 ?_
    refine r_if_eq K 2112 dL_law_550 (by decide) (fun _ => ?_) (fun h => absurd (by rw [heq]; exact jcmp_self _) h)
    exact kk _ _ _ _ _ hInv rfl (Nat.le_refl _)
  · obtain ⟨z1, z2, e1, h0, e2, heq, hInv⟩ := S (1 : Int32) (xs (I + 2)) (xs (I + 3)) (Or.inr rfl)
    refine r_aload_n K 1 dL_law_495 rfl rfl ?_
    refine r_aload_n K 0 dL_law_496 rfl rfl ?_
    refine r_iload_n K 3 dL_law_497 rfl rfl ?_
    refine r_iconst (v := 1) K dL_law_498 (by decide) ?_
    refine r_iadd K dL_law_499 ?_
    refine r_iald K (k := I + 1) (by rw [hY]) (jixs hY hI (c := 1) (by omega) hL rfl) (hxs (I + 1) (by omega)) dL_law_500 ?_
    refine r_if_eq K 508 dL_law_501 (by decide) (fun h => absurd h hb) (fun _ => ?_)
    refine r_iconst (v := 1) K dL_law_504 (by decide) ?_
    refine r_goto K 509 dL_law_505 (by decide) ?_
    refine r_aload_n K 0 dL_law_509 rfl rfl ?_
    refine r_iload_n K 3 dL_law_510 rfl rfl ?_
    refine r_iconst (v := 2) K dL_law_511 (by decide) ?_
    refine r_iadd K dL_law_512 ?_
    refine r_iald K (k := I + 2) (by rw [hY]) (jixs hY hI (c := 2) (by omega) hL rfl) (hxs (I + 2) (by omega)) dL_law_513 ?_
    refine r_aload_n K 0 dL_law_514 rfl rfl ?_
    refine r_iload_n K 3 dL_law_515 rfl rfl ?_
    refine r_iconst (v := 3) K dL_law_516 (by decide) ?_
    refine r_iadd K dL_law_517 ?_
    refine r_iald K (k := I + 3) (by rw [hY]) (jixs hY hI (c := 3) (by omega) hL rfl) (hxs (I + 3) (by omega)) dL_law_518 ?_
    refine r_callV K hl (c_X11_entry l e1) mC_yX11_entry mM_RL_46 mI_yX11_entry mS_yX11_entry mZ_RX11 vc11 hO1 (Nat.le_of_ble_eq_true rfl) (Nat.le_of_ble_eq_true rfl) np_yX11_entry rfl (Nat.le_of_ble_eq_true rfl) dL_law_519 ⟨Nat.le_trans (Nat.le_add_right _ 17) hrm.1, Nat.le_trans (Nat.le_add_right _ 64) hrm.2⟩ ?_
    refine r_aload_n K 2 dL_law_522 rfl rfl ?_
    refine r_aload_n K 0 dL_law_523 rfl rfl ?_
    refine r_iload_n K 3 dL_law_524 rfl rfl ?_
    refine r_iconst (v := 1) K dL_law_525 (by decide) ?_
    refine r_iadd K dL_law_526 ?_
    refine r_iald K (k := I + 1) (by rw [hY2]) (jixs hY2 hI (c := 1) (by omega) hL rfl) ((h0 (I + 1)).trans (hxs (I + 1) (by omega))) dL_law_527 ?_
    refine r_if_eq K 535 dL_law_528 (by decide) (fun h => absurd h hb) (fun _ => ?_)
    refine r_iconst (v := 1) K dL_law_531 (by decide) ?_
    refine r_goto K 536 dL_law_532 (by decide) ?_
    refine r_aload_n K 0 dL_law_536 rfl rfl ?_
    refine r_iload_n K 3 dL_law_537 rfl rfl ?_
    refine r_iconst (v := 2) K dL_law_538 (by decide) ?_
    refine r_iadd K dL_law_539 ?_
    refine r_iald K (k := I + 2) (by rw [hY2]) (jixs hY2 hI (c := 2) (by omega) hL rfl) ((h0 (I + 2)).trans (hxs (I + 2) (by omega))) dL_law_540 ?_
    refine r_aload_n K 0 dL_law_541 rfl rfl ?_
    refine r_iload_n K 3 dL_law_542 rfl rfl ?_
    refine r_iconst (v := 3) K dL_law_543 (by decide) ?_
    refine r_iadd K dL_law_544 ?_
    refine r_iald K (k := I + 3) (by rw [hY2]) (jixs hY2 hI (c := 3) (by omega) hL rfl) ((h0 (I + 3)).trans (hxs (I + 3) (by omega))) dL_law_545 ?_
    refine r_callV K hl (c_X12_entry l e2) mC_yX12_entry mM_RL_50 mI_yX12_entry mS_yX12_entry mZ_RX12 vc12 hO22 (Nat.le_of_ble_eq_true rfl) (Nat.le_of_ble_eq_true rfl) np_yX12_entry rfl (Nat.le_of_ble_eq_true rfl) dL_law_546 ⟨Nat.le_trans (Nat.le_add_right _ 17) hrm.1, Nat.le_trans (Nat.le_add_right _ 64) hrm.2⟩ ?_
    refine r_lcmp K dL_law_549 ?_
    refine r_if_eq K 2112 dL_law_550 (by decide) (fun _ => ?_) (fun h => absurd (by rw [heq]; exact jcmp_self _) h)
    exact kk _ _ _ _ _ hInv rfl (Nat.le_refl _)
def so_ortho (Inv : Nat → jY → jM → Prop) (n : Nat) (Y : jY) (μ : jM) : Prop := ∀ (a1 : Int32) (a2 : Int32) (a3 : Int32), ∃ (z1 z2 : Int64 × jM), f_X11_ortho Y 1 a1 a2 a3 μ = some z1 ∧ (∀ j, z1.2 0 j = μ 0 j) ∧ f_X12_ortho Y 95 a1 a2 a3 z1.2 = some z2 ∧ z1.1 = z2.1 ∧ Inv n Y z2.2
set_option maxRecDepth 10000 in
theorem lc_ortho {X : jX} {l : Launch} {Q : State → Prop} {nc ns n : Nat} {Y : jY} {μ : jM} {L I : Nat} {xs : Nat → Int32} {i : Int32} {Inv : Nat → jY → jM → Prop} (K : jOK X RL cL_law 4 (some .boolean) 1000) (hl : X.2.1 = l) (hY : Y 0 = (20, L)) (hxs : ∀ j, j < L → μ 0 j = .int (xs j)) (hL : L ≤ 3072) (hI : i.toInt = I) (hIL : I + 6 ≤ L) (hrm : nc + 17 ≤ X.2.2.2.1.cells ∧ ns + 64 ≤ X.2.2.2.1.slots) (hO1 : (Y 1).1 = 11) (hO2 : (Y 95).1 = 12) (S : so_ortho Inv n Y μ) (kk : ∀ nc2 ns2 n2 Y2 μ2, Inv n2 Y2 μ2 → nc2 + n = nc + n2 → ns2 + 64 * n ≤ ns + 64 * n2 → JW X Q nc2 ns2 n2 Y2 2112 [(0, .ref 0), (1, .ref 1), (2, .ref 95), (3, .int i)] [] μ2) : JW X Q nc ns n Y 555 [(0, .ref 0), (1, .ref 1), (2, .ref 95), (3, .int i)] [] μ := by
  have hY2 := hY
  have hO22 := hO2
  obtain ⟨z1, z2, e1, h0, e2, heq, hInv⟩ := S (xs (I + 1)) (xs (I + 2)) (xs (I + 3))
  refine r_aload_n K 1 dL_law_555 rfl rfl ?_
  refine r_aload_n K 0 dL_law_556 rfl rfl ?_
  refine r_iload_n K 3 dL_law_557 rfl rfl ?_
  refine r_iconst (v := 1) K dL_law_558 (by decide) ?_
  refine r_iadd K dL_law_559 ?_
  refine r_iald K (k := I + 1) (by rw [hY]) (jixs hY hI (c := 1) (by omega) hL rfl) (hxs (I + 1) (by omega)) dL_law_560 ?_
  refine r_aload_n K 0 dL_law_561 rfl rfl ?_
  refine r_iload_n K 3 dL_law_562 rfl rfl ?_
  refine r_iconst (v := 2) K dL_law_563 (by decide) ?_
  refine r_iadd K dL_law_564 ?_
  refine r_iald K (k := I + 2) (by rw [hY]) (jixs hY hI (c := 2) (by omega) hL rfl) (hxs (I + 2) (by omega)) dL_law_565 ?_
  refine r_aload_n K 0 dL_law_566 rfl rfl ?_
  refine r_iload_n K 3 dL_law_567 rfl rfl ?_
  refine r_iconst (v := 3) K dL_law_568 (by decide) ?_
  refine r_iadd K dL_law_569 ?_
  refine r_iald K (k := I + 3) (by rw [hY]) (jixs hY hI (c := 3) (by omega) hL rfl) (hxs (I + 3) (by omega)) dL_law_570 ?_
  refine r_callV K hl (c_X11_ortho l e1) mC_yX11_ortho mM_RL_51 mI_yX11_ortho mS_yX11_ortho mZ_RX11 vc11 hO1 (Nat.le_of_ble_eq_true rfl) (Nat.le_of_ble_eq_true rfl) np_yX11_ortho rfl (Nat.le_of_ble_eq_true rfl) dL_law_571 ⟨Nat.le_trans (Nat.le_add_right _ 17) hrm.1, Nat.le_trans (Nat.le_add_right _ 64) hrm.2⟩ ?_
  refine r_aload_n K 2 dL_law_574 rfl rfl ?_
  refine r_aload_n K 0 dL_law_575 rfl rfl ?_
  refine r_iload_n K 3 dL_law_576 rfl rfl ?_
  refine r_iconst (v := 1) K dL_law_577 (by decide) ?_
  refine r_iadd K dL_law_578 ?_
  refine r_iald K (k := I + 1) (by rw [hY2]) (jixs hY2 hI (c := 1) (by omega) hL rfl) ((h0 (I + 1)).trans (hxs (I + 1) (by omega))) dL_law_579 ?_
  refine r_aload_n K 0 dL_law_580 rfl rfl ?_
  refine r_iload_n K 3 dL_law_581 rfl rfl ?_
  refine r_iconst (v := 2) K dL_law_582 (by decide) ?_
  refine r_iadd K dL_law_583 ?_
  refine r_iald K (k := I + 2) (by rw [hY2]) (jixs hY2 hI (c := 2) (by omega) hL rfl) ((h0 (I + 2)).trans (hxs (I + 2) (by omega))) dL_law_584 ?_
  refine r_aload_n K 0 dL_law_585 rfl rfl ?_
  refine r_iload_n K 3 dL_law_586 rfl rfl ?_
  refine r_iconst (v := 3) K dL_law_587 (by decide) ?_
  refine r_iadd K dL_law_588 ?_
  refine r_iald K (k := I + 3) (by rw [hY2]) (jixs hY2 hI (c := 3) (by omega) hL rfl) ((h0 (I + 3)).trans (hxs (I + 3) (by omega))) dL_law_589 ?_
  refine r_callV K hl (c_X12_ortho l e2) mC_yX12_ortho mM_RL_55 mI_yX12_ortho mS_yX12_ortho mZ_RX12 vc12 hO22 (Nat.le_of_ble_eq_true rfl) (Nat.le_of_ble_eq_true rfl) np_yX12_ortho rfl (Nat.le_of_ble_eq_true rfl) dL_law_590 ⟨Nat.le_trans (Nat.le_add_right _ 17) hrm.1, Nat.le_trans (Nat.le_add_right _ 64) hrm.2⟩ ?_
  refine r_lcmp K dL_law_593 ?_
  refine r_if_eq K 2112 dL_law_594 (by decide) (fun _ => ?_) (fun h => absurd (by rw [heq]; exact jcmp_self _) h)
  exact kk _ _ _ _ _ hInv rfl (Nat.le_refl _)
def so_fraction (Inv : Nat → jY → jM → Prop) (n : Nat) (Y : jY) (μ : jM) : Prop := ∀ (a1 : Int32) (a2 : Int32) (a3 : Int32), ∃ (z1 z2 : Int64 × jM), f_X11_fraction Y 1 a1 a2 a3 μ = some z1 ∧ (∀ j, z1.2 0 j = μ 0 j) ∧ f_X12_fraction Y 95 a1 a2 a3 z1.2 = some z2 ∧ z1.1 = z2.1 ∧ Inv n Y z2.2
set_option maxRecDepth 10000 in
theorem lc_fraction {X : jX} {l : Launch} {Q : State → Prop} {nc ns n : Nat} {Y : jY} {μ : jM} {L I : Nat} {xs : Nat → Int32} {i : Int32} {Inv : Nat → jY → jM → Prop} (K : jOK X RL cL_law 4 (some .boolean) 1000) (hl : X.2.1 = l) (hY : Y 0 = (20, L)) (hxs : ∀ j, j < L → μ 0 j = .int (xs j)) (hL : L ≤ 3072) (hI : i.toInt = I) (hIL : I + 6 ≤ L) (hrm : nc + 17 ≤ X.2.2.2.1.cells ∧ ns + 64 ≤ X.2.2.2.1.slots) (hO1 : (Y 1).1 = 11) (hO2 : (Y 95).1 = 12) (S : so_fraction Inv n Y μ) (kk : ∀ nc2 ns2 n2 Y2 μ2, Inv n2 Y2 μ2 → nc2 + n = nc + n2 → ns2 + 64 * n ≤ ns + 64 * n2 → JW X Q nc2 ns2 n2 Y2 2112 [(0, .ref 0), (1, .ref 1), (2, .ref 95), (3, .int i)] [] μ2) : JW X Q nc ns n Y 599 [(0, .ref 0), (1, .ref 1), (2, .ref 95), (3, .int i)] [] μ := by
  have hY2 := hY
  have hO22 := hO2
  obtain ⟨z1, z2, e1, h0, e2, heq, hInv⟩ := S (xs (I + 1)) (xs (I + 2)) (xs (I + 3))
  refine r_aload_n K 1 dL_law_599 rfl rfl ?_
  refine r_aload_n K 0 dL_law_600 rfl rfl ?_
  refine r_iload_n K 3 dL_law_601 rfl rfl ?_
  refine r_iconst (v := 1) K dL_law_602 (by decide) ?_
  refine r_iadd K dL_law_603 ?_
  refine r_iald K (k := I + 1) (by rw [hY]) (jixs hY hI (c := 1) (by omega) hL rfl) (hxs (I + 1) (by omega)) dL_law_604 ?_
  refine r_aload_n K 0 dL_law_605 rfl rfl ?_
  refine r_iload_n K 3 dL_law_606 rfl rfl ?_
  refine r_iconst (v := 2) K dL_law_607 (by decide) ?_
  refine r_iadd K dL_law_608 ?_
  refine r_iald K (k := I + 2) (by rw [hY]) (jixs hY hI (c := 2) (by omega) hL rfl) (hxs (I + 2) (by omega)) dL_law_609 ?_
  refine r_aload_n K 0 dL_law_610 rfl rfl ?_
  refine r_iload_n K 3 dL_law_611 rfl rfl ?_
  refine r_iconst (v := 3) K dL_law_612 (by decide) ?_
  refine r_iadd K dL_law_613 ?_
  refine r_iald K (k := I + 3) (by rw [hY]) (jixs hY hI (c := 3) (by omega) hL rfl) (hxs (I + 3) (by omega)) dL_law_614 ?_
  refine r_callV K hl (c_X11_fraction l e1) mC_yX11_fraction mM_RL_56 mI_yX11_fraction mS_yX11_fraction mZ_RX11 vc11 hO1 (Nat.le_of_ble_eq_true rfl) (Nat.le_of_ble_eq_true rfl) np_yX11_fraction rfl (Nat.le_of_ble_eq_true rfl) dL_law_615 ⟨Nat.le_trans (Nat.le_add_right _ 17) hrm.1, Nat.le_trans (Nat.le_add_right _ 64) hrm.2⟩ ?_
  refine r_aload_n K 2 dL_law_618 rfl rfl ?_
  refine r_aload_n K 0 dL_law_619 rfl rfl ?_
  refine r_iload_n K 3 dL_law_620 rfl rfl ?_
  refine r_iconst (v := 1) K dL_law_621 (by decide) ?_
  refine r_iadd K dL_law_622 ?_
  refine r_iald K (k := I + 1) (by rw [hY2]) (jixs hY2 hI (c := 1) (by omega) hL rfl) ((h0 (I + 1)).trans (hxs (I + 1) (by omega))) dL_law_623 ?_
  refine r_aload_n K 0 dL_law_624 rfl rfl ?_
  refine r_iload_n K 3 dL_law_625 rfl rfl ?_
  refine r_iconst (v := 2) K dL_law_626 (by decide) ?_
  refine r_iadd K dL_law_627 ?_
  refine r_iald K (k := I + 2) (by rw [hY2]) (jixs hY2 hI (c := 2) (by omega) hL rfl) ((h0 (I + 2)).trans (hxs (I + 2) (by omega))) dL_law_628 ?_
  refine r_aload_n K 0 dL_law_629 rfl rfl ?_
  refine r_iload_n K 3 dL_law_630 rfl rfl ?_
  refine r_iconst (v := 3) K dL_law_631 (by decide) ?_
  refine r_iadd K dL_law_632 ?_
  refine r_iald K (k := I + 3) (by rw [hY2]) (jixs hY2 hI (c := 3) (by omega) hL rfl) ((h0 (I + 3)).trans (hxs (I + 3) (by omega))) dL_law_633 ?_
  refine r_callV K hl (c_X12_fraction l e2) mC_yX12_fraction mM_RL_59 mI_yX12_fraction mS_yX12_fraction mZ_RX12 vc12 hO22 (Nat.le_of_ble_eq_true rfl) (Nat.le_of_ble_eq_true rfl) np_yX12_fraction rfl (Nat.le_of_ble_eq_true rfl) dL_law_634 ⟨Nat.le_trans (Nat.le_add_right _ 17) hrm.1, Nat.le_trans (Nat.le_add_right _ 64) hrm.2⟩ ?_
  refine r_lcmp K dL_law_637 ?_
  refine r_if_eq K 2112 dL_law_638 (by decide) (fun _ => ?_) (fun h => absurd (by rw [heq]; exact jcmp_self _) h)
  exact kk _ _ _ _ _ hInv rfl (Nat.le_refl _)
def so_chain (Inv : Nat → jY → jM → Prop) (n : Nat) (Y : jY) (μ : jM) : Prop := ∀ (a1 : Int32) (a2 : Int32) (a3 : Int32), ∃ (z1 z2 : Int64 × jM), f_X11_chain Y 1 a1 a2 a3 μ = some z1 ∧ (∀ j, z1.2 0 j = μ 0 j) ∧ f_X12_chain Y 95 a1 a2 a3 z1.2 = some z2 ∧ z1.1 = z2.1 ∧ Inv n Y z2.2
set_option maxRecDepth 10000 in
theorem lc_chain {X : jX} {l : Launch} {Q : State → Prop} {nc ns n : Nat} {Y : jY} {μ : jM} {L I : Nat} {xs : Nat → Int32} {i : Int32} {Inv : Nat → jY → jM → Prop} (K : jOK X RL cL_law 4 (some .boolean) 1000) (hl : X.2.1 = l) (hY : Y 0 = (20, L)) (hxs : ∀ j, j < L → μ 0 j = .int (xs j)) (hL : L ≤ 3072) (hI : i.toInt = I) (hIL : I + 6 ≤ L) (hrm : nc + 17 ≤ X.2.2.2.1.cells ∧ ns + 64 ≤ X.2.2.2.1.slots) (hO1 : (Y 1).1 = 11) (hO2 : (Y 95).1 = 12) (S : so_chain Inv n Y μ) (kk : ∀ nc2 ns2 n2 Y2 μ2, Inv n2 Y2 μ2 → nc2 + n = nc + n2 → ns2 + 64 * n ≤ ns + 64 * n2 → JW X Q nc2 ns2 n2 Y2 2112 [(0, .ref 0), (1, .ref 1), (2, .ref 95), (3, .int i)] [] μ2) : JW X Q nc ns n Y 643 [(0, .ref 0), (1, .ref 1), (2, .ref 95), (3, .int i)] [] μ := by
  have hY2 := hY
  have hO22 := hO2
  obtain ⟨z1, z2, e1, h0, e2, heq, hInv⟩ := S (xs (I + 1)) (xs (I + 2)) (xs (I + 3))
  refine r_aload_n K 1 dL_law_643 rfl rfl ?_
  refine r_aload_n K 0 dL_law_644 rfl rfl ?_
  refine r_iload_n K 3 dL_law_645 rfl rfl ?_
  refine r_iconst (v := 1) K dL_law_646 (by decide) ?_
  refine r_iadd K dL_law_647 ?_
  refine r_iald K (k := I + 1) (by rw [hY]) (jixs hY hI (c := 1) (by omega) hL rfl) (hxs (I + 1) (by omega)) dL_law_648 ?_
  refine r_aload_n K 0 dL_law_649 rfl rfl ?_
  refine r_iload_n K 3 dL_law_650 rfl rfl ?_
  refine r_iconst (v := 2) K dL_law_651 (by decide) ?_
  refine r_iadd K dL_law_652 ?_
  refine r_iald K (k := I + 2) (by rw [hY]) (jixs hY hI (c := 2) (by omega) hL rfl) (hxs (I + 2) (by omega)) dL_law_653 ?_
  refine r_aload_n K 0 dL_law_654 rfl rfl ?_
  refine r_iload_n K 3 dL_law_655 rfl rfl ?_
  refine r_iconst (v := 3) K dL_law_656 (by decide) ?_
  refine r_iadd K dL_law_657 ?_
  refine r_iald K (k := I + 3) (by rw [hY]) (jixs hY hI (c := 3) (by omega) hL rfl) (hxs (I + 3) (by omega)) dL_law_658 ?_
  refine r_callV K hl (c_X11_chain l e1) mC_yX11_chain mM_RL_60 mI_yX11_chain mS_yX11_chain mZ_RX11 vc11 hO1 (Nat.le_of_ble_eq_true rfl) (Nat.le_of_ble_eq_true rfl) np_yX11_chain rfl (Nat.le_of_ble_eq_true rfl) dL_law_659 ⟨Nat.le_trans (Nat.le_add_right _ 17) hrm.1, Nat.le_trans (Nat.le_add_right _ 64) hrm.2⟩ ?_
  refine r_aload_n K 2 dL_law_662 rfl rfl ?_
  refine r_aload_n K 0 dL_law_663 rfl rfl ?_
  refine r_iload_n K 3 dL_law_664 rfl rfl ?_
  refine r_iconst (v := 1) K dL_law_665 (by decide) ?_
  refine r_iadd K dL_law_666 ?_
  refine r_iald K (k := I + 1) (by rw [hY2]) (jixs hY2 hI (c := 1) (by omega) hL rfl) ((h0 (I + 1)).trans (hxs (I + 1) (by omega))) dL_law_667 ?_
  refine r_aload_n K 0 dL_law_668 rfl rfl ?_
  refine r_iload_n K 3 dL_law_669 rfl rfl ?_
  refine r_iconst (v := 2) K dL_law_670 (by decide) ?_
  refine r_iadd K dL_law_671 ?_
  refine r_iald K (k := I + 2) (by rw [hY2]) (jixs hY2 hI (c := 2) (by omega) hL rfl) ((h0 (I + 2)).trans (hxs (I + 2) (by omega))) dL_law_672 ?_
  refine r_aload_n K 0 dL_law_673 rfl rfl ?_
  refine r_iload_n K 3 dL_law_674 rfl rfl ?_
  refine r_iconst (v := 3) K dL_law_675 (by decide) ?_
  refine r_iadd K dL_law_676 ?_
  refine r_iald K (k := I + 3) (by rw [hY2]) (jixs hY2 hI (c := 3) (by omega) hL rfl) ((h0 (I + 3)).trans (hxs (I + 3) (by omega))) dL_law_677 ?_
  refine r_callV K hl (c_X12_chain l e2) mC_yX12_chain mM_RL_63 mI_yX12_chain mS_yX12_chain mZ_RX12 vc12 hO22 (Nat.le_of_ble_eq_true rfl) (Nat.le_of_ble_eq_true rfl) np_yX12_chain rfl (Nat.le_of_ble_eq_true rfl) dL_law_678 ⟨Nat.le_trans (Nat.le_add_right _ 17) hrm.1, Nat.le_trans (Nat.le_add_right _ 64) hrm.2⟩ ?_
  refine r_lcmp K dL_law_681 ?_
  refine r_if_eq K 2112 dL_law_682 (by decide) (fun _ => ?_) (fun h => absurd (by rw [heq]; exact jcmp_self _) h)
  exact kk _ _ _ _ _ hInv rfl (Nat.le_refl _)
def so_mass (Inv : Nat → jY → jM → Prop) (n : Nat) (Y : jY) (μ : jM) : Prop := ∀ (a1 : Int32), ∃ (z1 z2 : Int64 × jM), f_X11_mass Y 1 a1 μ = some z1 ∧ (∀ j, z1.2 0 j = μ 0 j) ∧ f_X12_mass Y 95 a1 z1.2 = some z2 ∧ z1.1 = z2.1 ∧ Inv n Y z2.2
set_option maxRecDepth 10000 in
theorem lc_mass {X : jX} {l : Launch} {Q : State → Prop} {nc ns n : Nat} {Y : jY} {μ : jM} {L I : Nat} {xs : Nat → Int32} {i : Int32} {Inv : Nat → jY → jM → Prop} (K : jOK X RL cL_law 4 (some .boolean) 1000) (hl : X.2.1 = l) (hY : Y 0 = (20, L)) (hxs : ∀ j, j < L → μ 0 j = .int (xs j)) (hL : L ≤ 3072) (hI : i.toInt = I) (hIL : I + 6 ≤ L) (hrm : nc + 17 ≤ X.2.2.2.1.cells ∧ ns + 64 ≤ X.2.2.2.1.slots) (hO1 : (Y 1).1 = 11) (hO2 : (Y 95).1 = 12) (S : so_mass Inv n Y μ) (kk : ∀ nc2 ns2 n2 Y2 μ2, Inv n2 Y2 μ2 → nc2 + n = nc + n2 → ns2 + 64 * n ≤ ns + 64 * n2 → JW X Q nc2 ns2 n2 Y2 2112 [(0, .ref 0), (1, .ref 1), (2, .ref 95), (3, .int i)] [] μ2) : JW X Q nc ns n Y 687 [(0, .ref 0), (1, .ref 1), (2, .ref 95), (3, .int i)] [] μ := by
  have hY2 := hY
  have hO22 := hO2
  obtain ⟨z1, z2, e1, h0, e2, heq, hInv⟩ := S (xs (I + 1))
  refine r_aload_n K 1 dL_law_687 rfl rfl ?_
  refine r_aload_n K 0 dL_law_688 rfl rfl ?_
  refine r_iload_n K 3 dL_law_689 rfl rfl ?_
  refine r_iconst (v := 1) K dL_law_690 (by decide) ?_
  refine r_iadd K dL_law_691 ?_
  refine r_iald K (k := I + 1) (by rw [hY]) (jixs hY hI (c := 1) (by omega) hL rfl) (hxs (I + 1) (by omega)) dL_law_692 ?_
  refine r_callV K hl (c_X11_mass l e1) mC_yX11_mass mM_RL_64 mI_yX11_mass mS_yX11_mass mZ_RX11 vc11 hO1 (Nat.le_of_ble_eq_true rfl) (Nat.le_of_ble_eq_true rfl) np_yX11_mass rfl (Nat.le_of_ble_eq_true rfl) dL_law_693 ⟨Nat.le_trans (Nat.le_add_right _ 17) hrm.1, Nat.le_trans (Nat.le_add_right _ 64) hrm.2⟩ ?_
  refine r_aload_n K 2 dL_law_696 rfl rfl ?_
  refine r_aload_n K 0 dL_law_697 rfl rfl ?_
  refine r_iload_n K 3 dL_law_698 rfl rfl ?_
  refine r_iconst (v := 1) K dL_law_699 (by decide) ?_
  refine r_iadd K dL_law_700 ?_
  refine r_iald K (k := I + 1) (by rw [hY2]) (jixs hY2 hI (c := 1) (by omega) hL rfl) ((h0 (I + 1)).trans (hxs (I + 1) (by omega))) dL_law_701 ?_
  refine r_callV K hl (c_X12_mass l e2) mC_yX12_mass mM_RL_67 mI_yX12_mass mS_yX12_mass mZ_RX12 vc12 hO22 (Nat.le_of_ble_eq_true rfl) (Nat.le_of_ble_eq_true rfl) np_yX12_mass rfl (Nat.le_of_ble_eq_true rfl) dL_law_702 ⟨Nat.le_trans (Nat.le_add_right _ 17) hrm.1, Nat.le_trans (Nat.le_add_right _ 64) hrm.2⟩ ?_
  refine r_lcmp K dL_law_705 ?_
  refine r_if_eq K 2112 dL_law_706 (by decide) (fun _ => ?_) (fun h => absurd (by rw [heq]; exact jcmp_self _) h)
  exact kk _ _ _ _ _ hInv rfl (Nat.le_refl _)
def so_weighed (Inv : Nat → jY → jM → Prop) (n : Nat) (Y : jY) (μ : jM) : Prop := ∀ (a1 : Int32) (a2 : Int32), ∃ (z1 z2 : Int64 × jM), f_X11_weighed Y 1 a1 a2 μ = some z1 ∧ (∀ j, z1.2 0 j = μ 0 j) ∧ f_X12_weighed Y 95 a1 a2 z1.2 = some z2 ∧ z1.1 = z2.1 ∧ Inv n Y z2.2
set_option maxRecDepth 10000 in
theorem lc_weighed {X : jX} {l : Launch} {Q : State → Prop} {nc ns n : Nat} {Y : jY} {μ : jM} {L I : Nat} {xs : Nat → Int32} {i : Int32} {Inv : Nat → jY → jM → Prop} (K : jOK X RL cL_law 4 (some .boolean) 1000) (hl : X.2.1 = l) (hY : Y 0 = (20, L)) (hxs : ∀ j, j < L → μ 0 j = .int (xs j)) (hL : L ≤ 3072) (hI : i.toInt = I) (hIL : I + 6 ≤ L) (hrm : nc + 17 ≤ X.2.2.2.1.cells ∧ ns + 64 ≤ X.2.2.2.1.slots) (hO1 : (Y 1).1 = 11) (hO2 : (Y 95).1 = 12) (S : so_weighed Inv n Y μ) (kk : ∀ nc2 ns2 n2 Y2 μ2, Inv n2 Y2 μ2 → nc2 + n = nc + n2 → ns2 + 64 * n ≤ ns + 64 * n2 → JW X Q nc2 ns2 n2 Y2 2112 [(0, .ref 0), (1, .ref 1), (2, .ref 95), (3, .int i)] [] μ2) : JW X Q nc ns n Y 711 [(0, .ref 0), (1, .ref 1), (2, .ref 95), (3, .int i)] [] μ := by
  have hY2 := hY
  have hO22 := hO2
  obtain ⟨z1, z2, e1, h0, e2, heq, hInv⟩ := S (xs (I + 1)) (xs (I + 2))
  refine r_aload_n K 1 dL_law_711 rfl rfl ?_
  refine r_aload_n K 0 dL_law_712 rfl rfl ?_
  refine r_iload_n K 3 dL_law_713 rfl rfl ?_
  refine r_iconst (v := 1) K dL_law_714 (by decide) ?_
  refine r_iadd K dL_law_715 ?_
  refine r_iald K (k := I + 1) (by rw [hY]) (jixs hY hI (c := 1) (by omega) hL rfl) (hxs (I + 1) (by omega)) dL_law_716 ?_
  refine r_aload_n K 0 dL_law_717 rfl rfl ?_
  refine r_iload_n K 3 dL_law_718 rfl rfl ?_
  refine r_iconst (v := 2) K dL_law_719 (by decide) ?_
  refine r_iadd K dL_law_720 ?_
  refine r_iald K (k := I + 2) (by rw [hY]) (jixs hY hI (c := 2) (by omega) hL rfl) (hxs (I + 2) (by omega)) dL_law_721 ?_
  refine r_callV K hl (c_X11_weighed l e1) mC_yX11_weighed mM_RL_68 mI_yX11_weighed mS_yX11_weighed mZ_RX11 vc11 hO1 (Nat.le_of_ble_eq_true rfl) (Nat.le_of_ble_eq_true rfl) np_yX11_weighed rfl (Nat.le_of_ble_eq_true rfl) dL_law_722 ⟨Nat.le_trans (Nat.le_add_right _ 17) hrm.1, Nat.le_trans (Nat.le_add_right _ 64) hrm.2⟩ ?_
  refine r_aload_n K 2 dL_law_725 rfl rfl ?_
  refine r_aload_n K 0 dL_law_726 rfl rfl ?_
  refine r_iload_n K 3 dL_law_727 rfl rfl ?_
  refine r_iconst (v := 1) K dL_law_728 (by decide) ?_
  refine r_iadd K dL_law_729 ?_
  refine r_iald K (k := I + 1) (by rw [hY2]) (jixs hY2 hI (c := 1) (by omega) hL rfl) ((h0 (I + 1)).trans (hxs (I + 1) (by omega))) dL_law_730 ?_
  refine r_aload_n K 0 dL_law_731 rfl rfl ?_
  refine r_iload_n K 3 dL_law_732 rfl rfl ?_
  refine r_iconst (v := 2) K dL_law_733 (by decide) ?_
  refine r_iadd K dL_law_734 ?_
  refine r_iald K (k := I + 2) (by rw [hY2]) (jixs hY2 hI (c := 2) (by omega) hL rfl) ((h0 (I + 2)).trans (hxs (I + 2) (by omega))) dL_law_735 ?_
  refine r_callV K hl (c_X12_weighed l e2) mC_yX12_weighed mM_RL_71 mI_yX12_weighed mS_yX12_weighed mZ_RX12 vc12 hO22 (Nat.le_of_ble_eq_true rfl) (Nat.le_of_ble_eq_true rfl) np_yX12_weighed rfl (Nat.le_of_ble_eq_true rfl) dL_law_736 ⟨Nat.le_trans (Nat.le_add_right _ 17) hrm.1, Nat.le_trans (Nat.le_add_right _ 64) hrm.2⟩ ?_
  refine r_lcmp K dL_law_739 ?_
  refine r_if_eq K 2112 dL_law_740 (by decide) (fun _ => ?_) (fun h => absurd (by rw [heq]; exact jcmp_self _) h)
  exact kk _ _ _ _ _ hInv rfl (Nat.le_refl _)
def so_kernel (Inv : Nat → jY → jM → Prop) (n : Nat) (Y : jY) (μ : jM) : Prop := ∀ (a1 : Int32) (a2 : Int32), ∃ (z1 z2 : Int64 × jM), f_X11_kernel Y 1 a1 a2 μ = some z1 ∧ (∀ j, z1.2 0 j = μ 0 j) ∧ f_X12_kernel Y 95 a1 a2 z1.2 = some z2 ∧ z1.1 = z2.1 ∧ Inv n Y z2.2
set_option maxRecDepth 10000 in
theorem lc_kernel {X : jX} {l : Launch} {Q : State → Prop} {nc ns n : Nat} {Y : jY} {μ : jM} {L I : Nat} {xs : Nat → Int32} {i : Int32} {Inv : Nat → jY → jM → Prop} (K : jOK X RL cL_law 4 (some .boolean) 1000) (hl : X.2.1 = l) (hY : Y 0 = (20, L)) (hxs : ∀ j, j < L → μ 0 j = .int (xs j)) (hL : L ≤ 3072) (hI : i.toInt = I) (hIL : I + 6 ≤ L) (hrm : nc + 17 ≤ X.2.2.2.1.cells ∧ ns + 64 ≤ X.2.2.2.1.slots) (hO1 : (Y 1).1 = 11) (hO2 : (Y 95).1 = 12) (S : so_kernel Inv n Y μ) (kk : ∀ nc2 ns2 n2 Y2 μ2, Inv n2 Y2 μ2 → nc2 + n = nc + n2 → ns2 + 64 * n ≤ ns + 64 * n2 → JW X Q nc2 ns2 n2 Y2 2112 [(0, .ref 0), (1, .ref 1), (2, .ref 95), (3, .int i)] [] μ2) : JW X Q nc ns n Y 745 [(0, .ref 0), (1, .ref 1), (2, .ref 95), (3, .int i)] [] μ := by
  have hY2 := hY
  have hO22 := hO2
  obtain ⟨z1, z2, e1, h0, e2, heq, hInv⟩ := S (xs (I + 1)) (xs (I + 2))
  refine r_aload_n K 1 dL_law_745 rfl rfl ?_
  refine r_aload_n K 0 dL_law_746 rfl rfl ?_
  refine r_iload_n K 3 dL_law_747 rfl rfl ?_
  refine r_iconst (v := 1) K dL_law_748 (by decide) ?_
  refine r_iadd K dL_law_749 ?_
  refine r_iald K (k := I + 1) (by rw [hY]) (jixs hY hI (c := 1) (by omega) hL rfl) (hxs (I + 1) (by omega)) dL_law_750 ?_
  refine r_aload_n K 0 dL_law_751 rfl rfl ?_
  refine r_iload_n K 3 dL_law_752 rfl rfl ?_
  refine r_iconst (v := 2) K dL_law_753 (by decide) ?_
  refine r_iadd K dL_law_754 ?_
  refine r_iald K (k := I + 2) (by rw [hY]) (jixs hY hI (c := 2) (by omega) hL rfl) (hxs (I + 2) (by omega)) dL_law_755 ?_
  refine r_callV K hl (c_X11_kernel l e1) mC_yX11_kernel mM_RL_72 mI_yX11_kernel mS_yX11_kernel mZ_RX11 vc11 hO1 (Nat.le_of_ble_eq_true rfl) (Nat.le_of_ble_eq_true rfl) np_yX11_kernel rfl (Nat.le_of_ble_eq_true rfl) dL_law_756 ⟨Nat.le_trans (Nat.le_add_right _ 17) hrm.1, Nat.le_trans (Nat.le_add_right _ 64) hrm.2⟩ ?_
  refine r_aload_n K 2 dL_law_759 rfl rfl ?_
  refine r_aload_n K 0 dL_law_760 rfl rfl ?_
  refine r_iload_n K 3 dL_law_761 rfl rfl ?_
  refine r_iconst (v := 1) K dL_law_762 (by decide) ?_
  refine r_iadd K dL_law_763 ?_
  refine r_iald K (k := I + 1) (by rw [hY2]) (jixs hY2 hI (c := 1) (by omega) hL rfl) ((h0 (I + 1)).trans (hxs (I + 1) (by omega))) dL_law_764 ?_
  refine r_aload_n K 0 dL_law_765 rfl rfl ?_
  refine r_iload_n K 3 dL_law_766 rfl rfl ?_
  refine r_iconst (v := 2) K dL_law_767 (by decide) ?_
  refine r_iadd K dL_law_768 ?_
  refine r_iald K (k := I + 2) (by rw [hY2]) (jixs hY2 hI (c := 2) (by omega) hL rfl) ((h0 (I + 2)).trans (hxs (I + 2) (by omega))) dL_law_769 ?_
  refine r_callV K hl (c_X12_kernel l e2) mC_yX12_kernel mM_RL_75 mI_yX12_kernel mS_yX12_kernel mZ_RX12 vc12 hO22 (Nat.le_of_ble_eq_true rfl) (Nat.le_of_ble_eq_true rfl) np_yX12_kernel rfl (Nat.le_of_ble_eq_true rfl) dL_law_770 ⟨Nat.le_trans (Nat.le_add_right _ 17) hrm.1, Nat.le_trans (Nat.le_add_right _ 64) hrm.2⟩ ?_
  refine r_lcmp K dL_law_773 ?_
  refine r_if_eq K 2112 dL_law_774 (by decide) (fun _ => ?_) (fun h => absurd (by rw [heq]; exact jcmp_self _) h)
  exact kk _ _ _ _ _ hInv rfl (Nat.le_refl _)
def so_apart (Inv : Nat → jY → jM → Prop) (n : Nat) (Y : jY) (μ : jM) : Prop := ∃ (z1 z2 : Int64 × jM), f_X11_apart Y 1 μ = some z1 ∧ (∀ j, z1.2 0 j = μ 0 j) ∧ f_X12_apart Y 95 z1.2 = some z2 ∧ z1.1 = z2.1 ∧ Inv n Y z2.2
set_option maxRecDepth 10000 in
theorem lc_apart {X : jX} {l : Launch} {Q : State → Prop} {nc ns n : Nat} {Y : jY} {μ : jM} {L I : Nat} {xs : Nat → Int32} {i : Int32} {Inv : Nat → jY → jM → Prop} (K : jOK X RL cL_law 4 (some .boolean) 1000) (hl : X.2.1 = l) (hY : Y 0 = (20, L)) (hxs : ∀ j, j < L → μ 0 j = .int (xs j)) (hL : L ≤ 3072) (hI : i.toInt = I) (hIL : I + 6 ≤ L) (hrm : nc + 17 ≤ X.2.2.2.1.cells ∧ ns + 64 ≤ X.2.2.2.1.slots) (hO1 : (Y 1).1 = 11) (hO2 : (Y 95).1 = 12) (S : so_apart Inv n Y μ) (kk : ∀ nc2 ns2 n2 Y2 μ2, Inv n2 Y2 μ2 → nc2 + n = nc + n2 → ns2 + 64 * n ≤ ns + 64 * n2 → JW X Q nc2 ns2 n2 Y2 2112 [(0, .ref 0), (1, .ref 1), (2, .ref 95), (3, .int i)] [] μ2) : JW X Q nc ns n Y 779 [(0, .ref 0), (1, .ref 1), (2, .ref 95), (3, .int i)] [] μ := by
  have hY2 := hY
  have hO22 := hO2
  obtain ⟨z1, z2, e1, h0, e2, heq, hInv⟩ := S
  refine r_aload_n K 1 dL_law_779 rfl rfl ?_
  refine r_callV K hl (c_X11_apart l e1) mC_yX11_apart mM_RL_76 mI_yX11_apart mS_yX11_apart mZ_RX11 vc11 hO1 (Nat.le_of_ble_eq_true rfl) (Nat.le_of_ble_eq_true rfl) np_yX11_apart rfl (Nat.le_of_ble_eq_true rfl) dL_law_780 ⟨Nat.le_trans (Nat.le_add_right _ 17) hrm.1, Nat.le_trans (Nat.le_add_right _ 64) hrm.2⟩ ?_
  refine r_aload_n K 2 dL_law_783 rfl rfl ?_
  refine r_callV K hl (c_X12_apart l e2) mC_yX12_apart mM_RL_80 mI_yX12_apart mS_yX12_apart mZ_RX12 vc12 hO22 (Nat.le_of_ble_eq_true rfl) (Nat.le_of_ble_eq_true rfl) np_yX12_apart rfl (Nat.le_of_ble_eq_true rfl) dL_law_784 ⟨Nat.le_trans (Nat.le_add_right _ 17) hrm.1, Nat.le_trans (Nat.le_add_right _ 64) hrm.2⟩ ?_
  refine r_lcmp K dL_law_787 ?_
  refine r_if_eq K 2112 dL_law_788 (by decide) (fun _ => ?_) (fun h => absurd (by rw [heq]; exact jcmp_self _) h)
  exact kk _ _ _ _ _ hInv rfl (Nat.le_refl _)
def so_letter (Inv : Nat → jY → jM → Prop) (n : Nat) (Y : jY) (μ : jM) : Prop := ∀ (a1 : Int32), ∃ (z1 z2 : Int32 × jM), f_X11_letter Y 1 a1 μ = some z1 ∧ (∀ j, z1.2 0 j = μ 0 j) ∧ f_X12_letter Y 95 a1 z1.2 = some z2 ∧ z1.1 = z2.1 ∧ Inv n Y z2.2
set_option maxRecDepth 10000 in
theorem lc_letter {X : jX} {l : Launch} {Q : State → Prop} {nc ns n : Nat} {Y : jY} {μ : jM} {L I : Nat} {xs : Nat → Int32} {i : Int32} {Inv : Nat → jY → jM → Prop} (K : jOK X RL cL_law 4 (some .boolean) 1000) (hl : X.2.1 = l) (hY : Y 0 = (20, L)) (hxs : ∀ j, j < L → μ 0 j = .int (xs j)) (hL : L ≤ 3072) (hI : i.toInt = I) (hIL : I + 6 ≤ L) (hrm : nc + 17 ≤ X.2.2.2.1.cells ∧ ns + 64 ≤ X.2.2.2.1.slots) (hO1 : (Y 1).1 = 11) (hO2 : (Y 95).1 = 12) (S : so_letter Inv n Y μ) (kk : ∀ nc2 ns2 n2 Y2 μ2, Inv n2 Y2 μ2 → nc2 + n = nc + n2 → ns2 + 64 * n ≤ ns + 64 * n2 → JW X Q nc2 ns2 n2 Y2 2112 [(0, .ref 0), (1, .ref 1), (2, .ref 95), (3, .int i)] [] μ2) : JW X Q nc ns n Y 793 [(0, .ref 0), (1, .ref 1), (2, .ref 95), (3, .int i)] [] μ := by
  have hY2 := hY
  have hO22 := hO2
  obtain ⟨z1, z2, e1, h0, e2, heq, hInv⟩ := S (xs (I + 1))
  refine r_aload_n K 1 dL_law_793 rfl rfl ?_
  refine r_aload_n K 0 dL_law_794 rfl rfl ?_
  refine r_iload_n K 3 dL_law_795 rfl rfl ?_
  refine r_iconst (v := 1) K dL_law_796 (by decide) ?_
  refine r_iadd K dL_law_797 ?_
  refine r_iald K (k := I + 1) (by rw [hY]) (jixs hY hI (c := 1) (by omega) hL rfl) (hxs (I + 1) (by omega)) dL_law_798 ?_
  refine r_callV K hl (c_X11_letter l e1) mC_yX11_letter mM_RL_81 mI_yX11_letter mS_yX11_letter mZ_RX11 vc11 hO1 (Nat.le_of_ble_eq_true rfl) (Nat.le_of_ble_eq_true rfl) np_yX11_letter rfl (Nat.le_of_ble_eq_true rfl) dL_law_799 ⟨Nat.le_trans (Nat.le_add_right _ 17) hrm.1, Nat.le_trans (Nat.le_add_right _ 64) hrm.2⟩ ?_
  refine r_aload_n K 2 dL_law_802 rfl rfl ?_
  refine r_aload_n K 0 dL_law_803 rfl rfl ?_
  refine r_iload_n K 3 dL_law_804 rfl rfl ?_
  refine r_iconst (v := 1) K dL_law_805 (by decide) ?_
  refine r_iadd K dL_law_806 ?_
  refine r_iald K (k := I + 1) (by rw [hY2]) (jixs hY2 hI (c := 1) (by omega) hL rfl) ((h0 (I + 1)).trans (hxs (I + 1) (by omega))) dL_law_807 ?_
  refine r_callV K hl (c_X12_letter l e2) mC_yX12_letter mM_RL_84 mI_yX12_letter mS_yX12_letter mZ_RX12 vc12 hO22 (Nat.le_of_ble_eq_true rfl) (Nat.le_of_ble_eq_true rfl) np_yX12_letter rfl (Nat.le_of_ble_eq_true rfl) dL_law_808 ⟨Nat.le_trans (Nat.le_add_right _ 17) hrm.1, Nat.le_trans (Nat.le_add_right _ 64) hrm.2⟩ ?_
  refine r_icmp_eq K 2112 dL_law_811 (by decide) (fun _ => ?_) (fun h => absurd heq h)
  exact kk _ _ _ _ _ hInv rfl (Nat.le_refl _)
def so_mirror (Inv : Nat → jY → jM → Prop) (n : Nat) (Y : jY) (μ : jM) : Prop := ∃ (z1 z2 : Int32 × jM), f_X11_mirror Y 1 μ = some z1 ∧ (∀ j, z1.2 0 j = μ 0 j) ∧ f_X12_mirror Y 95 z1.2 = some z2 ∧ z1.1 = z2.1 ∧ Inv n Y z2.2
set_option maxRecDepth 10000 in
theorem lc_mirror {X : jX} {l : Launch} {Q : State → Prop} {nc ns n : Nat} {Y : jY} {μ : jM} {L I : Nat} {xs : Nat → Int32} {i : Int32} {Inv : Nat → jY → jM → Prop} (K : jOK X RL cL_law 4 (some .boolean) 1000) (hl : X.2.1 = l) (hY : Y 0 = (20, L)) (hxs : ∀ j, j < L → μ 0 j = .int (xs j)) (hL : L ≤ 3072) (hI : i.toInt = I) (hIL : I + 6 ≤ L) (hrm : nc + 17 ≤ X.2.2.2.1.cells ∧ ns + 64 ≤ X.2.2.2.1.slots) (hO1 : (Y 1).1 = 11) (hO2 : (Y 95).1 = 12) (S : so_mirror Inv n Y μ) (kk : ∀ nc2 ns2 n2 Y2 μ2, Inv n2 Y2 μ2 → nc2 + n = nc + n2 → ns2 + 64 * n ≤ ns + 64 * n2 → JW X Q nc2 ns2 n2 Y2 2112 [(0, .ref 0), (1, .ref 1), (2, .ref 95), (3, .int i)] [] μ2) : JW X Q nc ns n Y 816 [(0, .ref 0), (1, .ref 1), (2, .ref 95), (3, .int i)] [] μ := by
  have hY2 := hY
  have hO22 := hO2
  obtain ⟨z1, z2, e1, h0, e2, heq, hInv⟩ := S
  refine r_aload_n K 1 dL_law_816 rfl rfl ?_
  refine r_callV K hl (c_X11_mirror l e1) mC_yX11_mirror mM_RL_85 mI_yX11_mirror mS_yX11_mirror mZ_RX11 vc11 hO1 (Nat.le_of_ble_eq_true rfl) (Nat.le_of_ble_eq_true rfl) np_yX11_mirror rfl (Nat.le_of_ble_eq_true rfl) dL_law_817 ⟨Nat.le_trans (Nat.le_add_right _ 17) hrm.1, Nat.le_trans (Nat.le_add_right _ 64) hrm.2⟩ ?_
  refine r_aload_n K 2 dL_law_820 rfl rfl ?_
  refine r_callV K hl (c_X12_mirror l e2) mC_yX12_mirror mM_RL_89 mI_yX12_mirror mS_yX12_mirror mZ_RX12 vc12 hO22 (Nat.le_of_ble_eq_true rfl) (Nat.le_of_ble_eq_true rfl) np_yX12_mirror rfl (Nat.le_of_ble_eq_true rfl) dL_law_821 ⟨Nat.le_trans (Nat.le_add_right _ 17) hrm.1, Nat.le_trans (Nat.le_add_right _ 64) hrm.2⟩ ?_
  refine r_icmp_eq K 2112 dL_law_824 (by decide) (fun _ => ?_) (fun h => absurd heq h)
  exact kk _ _ _ _ _ hInv rfl (Nat.le_refl _)
def so_shift (Inv : Nat → jY → jM → Prop) (n : Nat) (Y : jY) (μ : jM) : Prop := ∀ (a1 : Int32), ∃ (z1 z2 : Int32 × jM), f_X11_shift Y 1 a1 μ = some z1 ∧ (∀ j, z1.2 0 j = μ 0 j) ∧ f_X12_shift Y 95 a1 z1.2 = some z2 ∧ z1.1 = z2.1 ∧ Inv n Y z2.2
set_option maxRecDepth 10000 in
theorem lc_shift {X : jX} {l : Launch} {Q : State → Prop} {nc ns n : Nat} {Y : jY} {μ : jM} {L I : Nat} {xs : Nat → Int32} {i : Int32} {Inv : Nat → jY → jM → Prop} (K : jOK X RL cL_law 4 (some .boolean) 1000) (hl : X.2.1 = l) (hY : Y 0 = (20, L)) (hxs : ∀ j, j < L → μ 0 j = .int (xs j)) (hL : L ≤ 3072) (hI : i.toInt = I) (hIL : I + 6 ≤ L) (hrm : nc + 17 ≤ X.2.2.2.1.cells ∧ ns + 64 ≤ X.2.2.2.1.slots) (hO1 : (Y 1).1 = 11) (hO2 : (Y 95).1 = 12) (S : so_shift Inv n Y μ) (kk : ∀ nc2 ns2 n2 Y2 μ2, Inv n2 Y2 μ2 → nc2 + n = nc + n2 → ns2 + 64 * n ≤ ns + 64 * n2 → JW X Q nc2 ns2 n2 Y2 2112 [(0, .ref 0), (1, .ref 1), (2, .ref 95), (3, .int i)] [] μ2) : JW X Q nc ns n Y 829 [(0, .ref 0), (1, .ref 1), (2, .ref 95), (3, .int i)] [] μ := by
  have hY2 := hY
  have hO22 := hO2
  obtain ⟨z1, z2, e1, h0, e2, heq, hInv⟩ := S (xs (I + 1))
  refine r_aload_n K 1 dL_law_829 rfl rfl ?_
  refine r_aload_n K 0 dL_law_830 rfl rfl ?_
  refine r_iload_n K 3 dL_law_831 rfl rfl ?_
  refine r_iconst (v := 1) K dL_law_832 (by decide) ?_
  refine r_iadd K dL_law_833 ?_
  refine r_iald K (k := I + 1) (by rw [hY]) (jixs hY hI (c := 1) (by omega) hL rfl) (hxs (I + 1) (by omega)) dL_law_834 ?_
  refine r_callV K hl (c_X11_shift l e1) mC_yX11_shift mM_RL_90 mI_yX11_shift mS_yX11_shift mZ_RX11 vc11 hO1 (Nat.le_of_ble_eq_true rfl) (Nat.le_of_ble_eq_true rfl) np_yX11_shift rfl (Nat.le_of_ble_eq_true rfl) dL_law_835 ⟨Nat.le_trans (Nat.le_add_right _ 17) hrm.1, Nat.le_trans (Nat.le_add_right _ 64) hrm.2⟩ ?_
  refine r_aload_n K 2 dL_law_838 rfl rfl ?_
  refine r_aload_n K 0 dL_law_839 rfl rfl ?_
  refine r_iload_n K 3 dL_law_840 rfl rfl ?_
  refine r_iconst (v := 1) K dL_law_841 (by decide) ?_
  refine r_iadd K dL_law_842 ?_
  refine r_iald K (k := I + 1) (by rw [hY2]) (jixs hY2 hI (c := 1) (by omega) hL rfl) ((h0 (I + 1)).trans (hxs (I + 1) (by omega))) dL_law_843 ?_
  refine r_callV K hl (c_X12_shift l e2) mC_yX12_shift mM_RL_93 mI_yX12_shift mS_yX12_shift mZ_RX12 vc12 hO22 (Nat.le_of_ble_eq_true rfl) (Nat.le_of_ble_eq_true rfl) np_yX12_shift rfl (Nat.le_of_ble_eq_true rfl) dL_law_844 ⟨Nat.le_trans (Nat.le_add_right _ 17) hrm.1, Nat.le_trans (Nat.le_add_right _ 64) hrm.2⟩ ?_
  refine r_icmp_eq K 2112 dL_law_847 (by decide) (fun _ => ?_) (fun h => absurd heq h)
  exact kk _ _ _ _ _ hInv rfl (Nat.le_refl _)
def so_tune (Inv : Nat → jY → jM → Prop) (n : Nat) (Y : jY) (μ : jM) : Prop := ∀ (a1 : Int32) (a2 : Int32) (a3 : Int32), (a1 = 0 ∨ a1 = 1) → ∃ (z1 z2 : Int32 × jM), f_X11_tune Y 1 a1 a2 a3 μ = some z1 ∧ (∀ j, z1.2 0 j = μ 0 j) ∧ f_X12_tune Y 95 a1 a2 a3 z1.2 = some z2 ∧ z1.1 = z2.1 ∧ Inv n Y z2.2
set_option maxRecDepth 10000 in
theorem lc_tune {X : jX} {l : Launch} {Q : State → Prop} {nc ns n : Nat} {Y : jY} {μ : jM} {L I : Nat} {xs : Nat → Int32} {i : Int32} {Inv : Nat → jY → jM → Prop} (K : jOK X RL cL_law 4 (some .boolean) 1000) (hl : X.2.1 = l) (hY : Y 0 = (20, L)) (hxs : ∀ j, j < L → μ 0 j = .int (xs j)) (hL : L ≤ 3072) (hI : i.toInt = I) (hIL : I + 6 ≤ L) (hrm : nc + 17 ≤ X.2.2.2.1.cells ∧ ns + 64 ≤ X.2.2.2.1.slots) (hO1 : (Y 1).1 = 11) (hO2 : (Y 95).1 = 12) (S : so_tune Inv n Y μ) (kk : ∀ nc2 ns2 n2 Y2 μ2, Inv n2 Y2 μ2 → nc2 + n = nc + n2 → ns2 + 64 * n ≤ ns + 64 * n2 → JW X Q nc2 ns2 n2 Y2 2112 [(0, .ref 0), (1, .ref 1), (2, .ref 95), (3, .int i)] [] μ2) : JW X Q nc ns n Y 852 [(0, .ref 0), (1, .ref 1), (2, .ref 95), (3, .int i)] [] μ := by
  have hY2 := hY
  have hO22 := hO2
  by_cases hb : xs (I + 1) = 0
  · obtain ⟨z1, z2, e1, h0, e2, heq, hInv⟩ := S (0 : Int32) (xs (I + 2)) (xs (I + 3)) (Or.inl rfl)
    refine r_aload_n K 1 dL_law_852 rfl rfl ?_
    refine r_aload_n K 0 dL_law_853 rfl rfl ?_
    refine r_iload_n K 3 dL_law_854 rfl rfl ?_
    refine r_iconst (v := 1) K dL_law_855 (by decide) ?_
    refine r_iadd K dL_law_856 ?_
    refine r_iald K (k := I + 1) (by rw [hY]) (jixs hY hI (c := 1) (by omega) hL rfl) (hxs (I + 1) (by omega)) dL_law_857 ?_
    refine r_if_eq K 865 dL_law_858 (by decide) (fun _ => ?_) (fun h => absurd hb h)
    refine r_iconst (v := 0) K dL_law_865 (by decide) ?_
    refine r_aload_n K 0 dL_law_866 rfl rfl ?_
    refine r_iload_n K 3 dL_law_867 rfl rfl ?_
    refine r_iconst (v := 2) K dL_law_868 (by decide) ?_
    refine r_iadd K dL_law_869 ?_
    refine r_iald K (k := I + 2) (by rw [hY]) (jixs hY hI (c := 2) (by omega) hL rfl) (hxs (I + 2) (by omega)) dL_law_870 ?_
    refine r_aload_n K 0 dL_law_871 rfl rfl ?_
    refine r_iload_n K 3 dL_law_872 rfl rfl ?_
    refine r_iconst (v := 3) K dL_law_873 (by decide) ?_
    refine r_iadd K dL_law_874 ?_
    refine r_iald K (k := I + 3) (by rw [hY]) (jixs hY hI (c := 3) (by omega) hL rfl) (hxs (I + 3) (by omega)) dL_law_875 ?_
    refine r_callV K hl (c_X11_tune l e1) mC_yX11_tune mM_RL_94 mI_yX11_tune mS_yX11_tune mZ_RX11 vc11 hO1 (Nat.le_of_ble_eq_true rfl) (Nat.le_of_ble_eq_true rfl) np_yX11_tune rfl (Nat.le_of_ble_eq_true rfl) dL_law_876 ⟨Nat.le_trans (Nat.le_add_right _ 17) hrm.1, Nat.le_trans (Nat.le_add_right _ 64) hrm.2⟩ ?_
    refine r_aload_n K 2 dL_law_879 rfl rfl ?_
    refine r_aload_n K 0 dL_law_880 rfl rfl ?_
    refine r_iload_n K 3 dL_law_881 rfl rfl ?_
    refine r_iconst (v := 1) K dL_law_882 (by decide) ?_
    refine r_iadd K dL_law_883 ?_
    refine r_iald K (k := I + 1) (by rw [hY2]) (jixs hY2 hI (c := 1) (by omega) hL rfl) ((h0 (I + 1)).trans (hxs (I + 1) (by omega))) dL_law_884 ?_
    refine r_if_eq K 892 dL_law_885 (by decide) (fun _ => ?_) (fun h => absurd hb h)
    refine r_iconst (v := 0) K dL_law_892 (by decide) ?_
    refine r_aload_n K 0 dL_law_893 rfl rfl ?_
    refine r_iload_n K 3 dL_law_894 rfl rfl ?_
    refine r_iconst (v := 2) K dL_law_895 (by decide) ?_
    refine r_iadd K dL_law_896 ?_
    refine r_iald K (k := I + 2) (by rw [hY2]) (jixs hY2 hI (c := 2) (by omega) hL rfl) ((h0 (I + 2)).trans (hxs (I + 2) (by omega))) dL_law_897 ?_
    refine r_aload_n K 0 dL_law_898 rfl rfl ?_
    refine r_iload_n K 3 dL_law_899 rfl rfl ?_
    refine r_iconst (v := 3) K dL_law_900 (by decide) ?_
    refine r_iadd K dL_law_901 ?_
    refine r_iald K (k := I + 3) (by rw [hY2]) (jixs hY2 hI (c := 3) (by omega) hL rfl) ((h0 (I + 3)).trans (hxs (I + 3) (by omega))) dL_law_902 ?_
    refine r_callV K hl (c_X12_tune l e2) mC_yX12_tune mM_RL_98 mI_yX12_tune mS_yX12_tune mZ_RX12 vc12 hO22 (Nat.le_of_ble_eq_true rfl) (Nat.le_of_ble_eq_true rfl) np_yX12_tune rfl (Nat.le_of_ble_eq_true rfl) dL_law_903 ⟨Nat.le_trans (Nat.le_add_right _ 17) hrm.1, Nat.le_trans (Nat.le_add_right _ 64) hrm.2⟩ ?_
    refine r_icmp_eq K 2112 dL_law_906 (by decide) (fun _ => ?_) (fun h => absurd heq h)
    exact kk _ _ _ _ _ hInv rfl (Nat.le_refl _)
  · obtain ⟨z1, z2, e1, h0, e2, heq, hInv⟩ := S (1 : Int32) (xs (I + 2)) (xs (I + 3)) (Or.inr rfl)
    refine r_aload_n K 1 dL_law_852 rfl rfl ?_
    refine r_aload_n K 0 dL_law_853 rfl rfl ?_
    refine r_iload_n K 3 dL_law_854 rfl rfl ?_
    refine r_iconst (v := 1) K dL_law_855 (by decide) ?_
    refine r_iadd K dL_law_856 ?_
    refine r_iald K (k := I + 1) (by rw [hY]) (jixs hY hI (c := 1) (by omega) hL rfl) (hxs (I + 1) (by omega)) dL_law_857 ?_
    refine r_if_eq K 865 dL_law_858 (by decide) (fun h => absurd h hb) (fun _ => ?_)
    refine r_iconst (v := 1) K dL_law_861 (by decide) ?_
    refine r_goto K 866 dL_law_862 (by decide) ?_
    refine r_aload_n K 0 dL_law_866 rfl rfl ?_
    refine r_iload_n K 3 dL_law_867 rfl rfl ?_
    refine r_iconst (v := 2) K dL_law_868 (by decide) ?_
    refine r_iadd K dL_law_869 ?_
    refine r_iald K (k := I + 2) (by rw [hY]) (jixs hY hI (c := 2) (by omega) hL rfl) (hxs (I + 2) (by omega)) dL_law_870 ?_
    refine r_aload_n K 0 dL_law_871 rfl rfl ?_
    refine r_iload_n K 3 dL_law_872 rfl rfl ?_
    refine r_iconst (v := 3) K dL_law_873 (by decide) ?_
    refine r_iadd K dL_law_874 ?_
    refine r_iald K (k := I + 3) (by rw [hY]) (jixs hY hI (c := 3) (by omega) hL rfl) (hxs (I + 3) (by omega)) dL_law_875 ?_
    refine r_callV K hl (c_X11_tune l e1) mC_yX11_tune mM_RL_94 mI_yX11_tune mS_yX11_tune mZ_RX11 vc11 hO1 (Nat.le_of_ble_eq_true rfl) (Nat.le_of_ble_eq_true rfl) np_yX11_tune rfl (Nat.le_of_ble_eq_true rfl) dL_law_876 ⟨Nat.le_trans (Nat.le_add_right _ 17) hrm.1, Nat.le_trans (Nat.le_add_right _ 64) hrm.2⟩ ?_
    refine r_aload_n K 2 dL_law_879 rfl rfl ?_
    refine r_aload_n K 0 dL_law_880 rfl rfl ?_
    refine r_iload_n K 3 dL_law_881 rfl rfl ?_
    refine r_iconst (v := 1) K dL_law_882 (by decide) ?_
    refine r_iadd K dL_law_883 ?_
    refine r_iald K (k := I + 1) (by rw [hY2]) (jixs hY2 hI (c := 1) (by omega) hL rfl) ((h0 (I + 1)).trans (hxs (I + 1) (by omega))) dL_law_884 ?_
    refine r_if_eq K 892 dL_law_885 (by decide) (fun h => absurd h hb) (fun _ => ?_)
    refine r_iconst (v := 1) K dL_law_888 (by decide) ?_
    refine r_goto K 893 dL_law_889 (by decide) ?_
    refine r_aload_n K 0 dL_law_893 rfl rfl ?_
    refine r_iload_n K 3 dL_law_894 rfl rfl ?_
    refine r_iconst (v := 2) K dL_law_895 (by decide) ?_
    refine r_iadd K dL_law_896 ?_
    refine r_iald K (k := I + 2) (by rw [hY2]) (jixs hY2 hI (c := 2) (by omega) hL rfl) ((h0 (I + 2)).trans (hxs (I + 2) (by omega))) dL_law_897 ?_
    refine r_aload_n K 0 dL_law_898 rfl rfl ?_
    refine r_iload_n K 3 dL_law_899 rfl rfl ?_
    refine r_iconst (v := 3) K dL_law_900 (by decide) ?_
    refine r_iadd K dL_law_901 ?_
    refine r_iald K (k := I + 3) (by rw [hY2]) (jixs hY2 hI (c := 3) (by omega) hL rfl) ((h0 (I + 3)).trans (hxs (I + 3) (by omega))) dL_law_902 ?_
    refine r_callV K hl (c_X12_tune l e2) mC_yX12_tune mM_RL_98 mI_yX12_tune mS_yX12_tune mZ_RX12 vc12 hO22 (Nat.le_of_ble_eq_true rfl) (Nat.le_of_ble_eq_true rfl) np_yX12_tune rfl (Nat.le_of_ble_eq_true rfl) dL_law_903 ⟨Nat.le_trans (Nat.le_add_right _ 17) hrm.1, Nat.le_trans (Nat.le_add_right _ 64) hrm.2⟩ ?_
    refine r_icmp_eq K 2112 dL_law_906 (by decide) (fun _ => ?_) (fun h => absurd heq h)
    exact kk _ _ _ _ _ hInv rfl (Nat.le_refl _)
def so_table (Inv : Nat → jY → jM → Prop) (n : Nat) (Y : jY) (μ : jM) : Prop := ∀ (a1 : Int32) (a2 : Int32), ∃ (z1 z2 : Int32 × jM), f_X11_table Y 1 a1 a2 μ = some z1 ∧ (∀ j, z1.2 0 j = μ 0 j) ∧ f_X12_table Y 95 a1 a2 z1.2 = some z2 ∧ z1.1 = z2.1 ∧ Inv n Y z2.2
set_option maxRecDepth 10000 in
theorem lc_table {X : jX} {l : Launch} {Q : State → Prop} {nc ns n : Nat} {Y : jY} {μ : jM} {L I : Nat} {xs : Nat → Int32} {i : Int32} {Inv : Nat → jY → jM → Prop} (K : jOK X RL cL_law 4 (some .boolean) 1000) (hl : X.2.1 = l) (hY : Y 0 = (20, L)) (hxs : ∀ j, j < L → μ 0 j = .int (xs j)) (hL : L ≤ 3072) (hI : i.toInt = I) (hIL : I + 6 ≤ L) (hrm : nc + 17 ≤ X.2.2.2.1.cells ∧ ns + 64 ≤ X.2.2.2.1.slots) (hO1 : (Y 1).1 = 11) (hO2 : (Y 95).1 = 12) (S : so_table Inv n Y μ) (kk : ∀ nc2 ns2 n2 Y2 μ2, Inv n2 Y2 μ2 → nc2 + n = nc + n2 → ns2 + 64 * n ≤ ns + 64 * n2 → JW X Q nc2 ns2 n2 Y2 2112 [(0, .ref 0), (1, .ref 1), (2, .ref 95), (3, .int i)] [] μ2) : JW X Q nc ns n Y 911 [(0, .ref 0), (1, .ref 1), (2, .ref 95), (3, .int i)] [] μ := by
  have hY2 := hY
  have hO22 := hO2
  obtain ⟨z1, z2, e1, h0, e2, heq, hInv⟩ := S (xs (I + 1)) (xs (I + 2))
  refine r_aload_n K 1 dL_law_911 rfl rfl ?_
  refine r_aload_n K 0 dL_law_912 rfl rfl ?_
  refine r_iload_n K 3 dL_law_913 rfl rfl ?_
  refine r_iconst (v := 1) K dL_law_914 (by decide) ?_
  refine r_iadd K dL_law_915 ?_
  refine r_iald K (k := I + 1) (by rw [hY]) (jixs hY hI (c := 1) (by omega) hL rfl) (hxs (I + 1) (by omega)) dL_law_916 ?_
  refine r_aload_n K 0 dL_law_917 rfl rfl ?_
  refine r_iload_n K 3 dL_law_918 rfl rfl ?_
  refine r_iconst (v := 2) K dL_law_919 (by decide) ?_
  refine r_iadd K dL_law_920 ?_
  refine r_iald K (k := I + 2) (by rw [hY]) (jixs hY hI (c := 2) (by omega) hL rfl) (hxs (I + 2) (by omega)) dL_law_921 ?_
  refine r_callV K hl (c_X11_table l e1) mC_yX11_table mM_RL_99 mI_yX11_table mS_yX11_table mZ_RX11 vc11 hO1 (Nat.le_of_ble_eq_true rfl) (Nat.le_of_ble_eq_true rfl) np_yX11_table rfl (Nat.le_of_ble_eq_true rfl) dL_law_922 ⟨Nat.le_trans (Nat.le_add_right _ 17) hrm.1, Nat.le_trans (Nat.le_add_right _ 64) hrm.2⟩ ?_
  refine r_aload_n K 2 dL_law_925 rfl rfl ?_
  refine r_aload_n K 0 dL_law_926 rfl rfl ?_
  refine r_iload_n K 3 dL_law_927 rfl rfl ?_
  refine r_iconst (v := 1) K dL_law_928 (by decide) ?_
  refine r_iadd K dL_law_929 ?_
  refine r_iald K (k := I + 1) (by rw [hY2]) (jixs hY2 hI (c := 1) (by omega) hL rfl) ((h0 (I + 1)).trans (hxs (I + 1) (by omega))) dL_law_930 ?_
  refine r_aload_n K 0 dL_law_931 rfl rfl ?_
  refine r_iload_n K 3 dL_law_932 rfl rfl ?_
  refine r_iconst (v := 2) K dL_law_933 (by decide) ?_
  refine r_iadd K dL_law_934 ?_
  refine r_iald K (k := I + 2) (by rw [hY2]) (jixs hY2 hI (c := 2) (by omega) hL rfl) ((h0 (I + 2)).trans (hxs (I + 2) (by omega))) dL_law_935 ?_
  refine r_callV K hl (c_X12_table l e2) mC_yX12_table mM_RL_103 mI_yX12_table mS_yX12_table mZ_RX12 vc12 hO22 (Nat.le_of_ble_eq_true rfl) (Nat.le_of_ble_eq_true rfl) np_yX12_table rfl (Nat.le_of_ble_eq_true rfl) dL_law_936 ⟨Nat.le_trans (Nat.le_add_right _ 17) hrm.1, Nat.le_trans (Nat.le_add_right _ 64) hrm.2⟩ ?_
  refine r_icmp_eq K 2112 dL_law_939 (by decide) (fun _ => ?_) (fun h => absurd heq h)
  exact kk _ _ _ _ _ hInv rfl (Nat.le_refl _)
def so_write (Inv : Nat → jY → jM → Prop) (n : Nat) (Y : jY) (μ : jM) : Prop := ∀ (a1 : Int32) (a2 : Int32), ∃ (z1 z2 : Int32 × jM), f_X11_write Y 1 a1 a2 μ = some z1 ∧ (∀ j, z1.2 0 j = μ 0 j) ∧ f_X12_write Y 95 a1 a2 z1.2 = some z2 ∧ z1.1 = z2.1 ∧ Inv n Y z2.2
set_option maxRecDepth 10000 in
theorem lc_write {X : jX} {l : Launch} {Q : State → Prop} {nc ns n : Nat} {Y : jY} {μ : jM} {L I : Nat} {xs : Nat → Int32} {i : Int32} {Inv : Nat → jY → jM → Prop} (K : jOK X RL cL_law 4 (some .boolean) 1000) (hl : X.2.1 = l) (hY : Y 0 = (20, L)) (hxs : ∀ j, j < L → μ 0 j = .int (xs j)) (hL : L ≤ 3072) (hI : i.toInt = I) (hIL : I + 6 ≤ L) (hrm : nc + 17 ≤ X.2.2.2.1.cells ∧ ns + 64 ≤ X.2.2.2.1.slots) (hO1 : (Y 1).1 = 11) (hO2 : (Y 95).1 = 12) (S : so_write Inv n Y μ) (kk : ∀ nc2 ns2 n2 Y2 μ2, Inv n2 Y2 μ2 → nc2 + n = nc + n2 → ns2 + 64 * n ≤ ns + 64 * n2 → JW X Q nc2 ns2 n2 Y2 2112 [(0, .ref 0), (1, .ref 1), (2, .ref 95), (3, .int i)] [] μ2) : JW X Q nc ns n Y 944 [(0, .ref 0), (1, .ref 1), (2, .ref 95), (3, .int i)] [] μ := by
  have hY2 := hY
  have hO22 := hO2
  obtain ⟨z1, z2, e1, h0, e2, heq, hInv⟩ := S (xs (I + 1)) (xs (I + 2))
  refine r_aload_n K 1 dL_law_944 rfl rfl ?_
  refine r_aload_n K 0 dL_law_945 rfl rfl ?_
  refine r_iload_n K 3 dL_law_946 rfl rfl ?_
  refine r_iconst (v := 1) K dL_law_947 (by decide) ?_
  refine r_iadd K dL_law_948 ?_
  refine r_iald K (k := I + 1) (by rw [hY]) (jixs hY hI (c := 1) (by omega) hL rfl) (hxs (I + 1) (by omega)) dL_law_949 ?_
  refine r_aload_n K 0 dL_law_950 rfl rfl ?_
  refine r_iload_n K 3 dL_law_951 rfl rfl ?_
  refine r_iconst (v := 2) K dL_law_952 (by decide) ?_
  refine r_iadd K dL_law_953 ?_
  refine r_iald K (k := I + 2) (by rw [hY]) (jixs hY hI (c := 2) (by omega) hL rfl) (hxs (I + 2) (by omega)) dL_law_954 ?_
  refine r_callV K hl (c_X11_write l e1) mC_yX11_write mM_RL_104 mI_yX11_write mS_yX11_write mZ_RX11 vc11 hO1 (Nat.le_of_ble_eq_true rfl) (Nat.le_of_ble_eq_true rfl) np_yX11_write rfl (Nat.le_of_ble_eq_true rfl) dL_law_955 ⟨Nat.le_trans (Nat.le_add_right _ 17) hrm.1, Nat.le_trans (Nat.le_add_right _ 64) hrm.2⟩ ?_
  refine r_aload_n K 2 dL_law_958 rfl rfl ?_
  refine r_aload_n K 0 dL_law_959 rfl rfl ?_
  refine r_iload_n K 3 dL_law_960 rfl rfl ?_
  refine r_iconst (v := 1) K dL_law_961 (by decide) ?_
  refine r_iadd K dL_law_962 ?_
  refine r_iald K (k := I + 1) (by rw [hY2]) (jixs hY2 hI (c := 1) (by omega) hL rfl) ((h0 (I + 1)).trans (hxs (I + 1) (by omega))) dL_law_963 ?_
  refine r_aload_n K 0 dL_law_964 rfl rfl ?_
  refine r_iload_n K 3 dL_law_965 rfl rfl ?_
  refine r_iconst (v := 2) K dL_law_966 (by decide) ?_
  refine r_iadd K dL_law_967 ?_
  refine r_iald K (k := I + 2) (by rw [hY2]) (jixs hY2 hI (c := 2) (by omega) hL rfl) ((h0 (I + 2)).trans (hxs (I + 2) (by omega))) dL_law_968 ?_
  refine r_callV K hl (c_X12_write l e2) mC_yX12_write mM_RL_108 mI_yX12_write mS_yX12_write mZ_RX12 vc12 hO22 (Nat.le_of_ble_eq_true rfl) (Nat.le_of_ble_eq_true rfl) np_yX12_write rfl (Nat.le_of_ble_eq_true rfl) dL_law_969 ⟨Nat.le_trans (Nat.le_add_right _ 17) hrm.1, Nat.le_trans (Nat.le_add_right _ 64) hrm.2⟩ ?_
  refine r_icmp_eq K 2112 dL_law_972 (by decide) (fun _ => ?_) (fun h => absurd heq h)
  exact kk _ _ _ _ _ hInv rfl (Nat.le_refl _)
def so_read (Inv : Nat → jY → jM → Prop) (n : Nat) (Y : jY) (μ : jM) : Prop := ∀ (a1 : Int32) (a2 : Int32), ∃ (z1 z2 : Int32 × jM), f_X11_read Y 1 a1 a2 μ = some z1 ∧ (∀ j, z1.2 0 j = μ 0 j) ∧ f_X12_read Y 95 a1 a2 z1.2 = some z2 ∧ z1.1 = z2.1 ∧ Inv n Y z2.2
set_option maxRecDepth 10000 in
theorem lc_read {X : jX} {l : Launch} {Q : State → Prop} {nc ns n : Nat} {Y : jY} {μ : jM} {L I : Nat} {xs : Nat → Int32} {i : Int32} {Inv : Nat → jY → jM → Prop} (K : jOK X RL cL_law 4 (some .boolean) 1000) (hl : X.2.1 = l) (hY : Y 0 = (20, L)) (hxs : ∀ j, j < L → μ 0 j = .int (xs j)) (hL : L ≤ 3072) (hI : i.toInt = I) (hIL : I + 6 ≤ L) (hrm : nc + 17 ≤ X.2.2.2.1.cells ∧ ns + 64 ≤ X.2.2.2.1.slots) (hO1 : (Y 1).1 = 11) (hO2 : (Y 95).1 = 12) (S : so_read Inv n Y μ) (kk : ∀ nc2 ns2 n2 Y2 μ2, Inv n2 Y2 μ2 → nc2 + n = nc + n2 → ns2 + 64 * n ≤ ns + 64 * n2 → JW X Q nc2 ns2 n2 Y2 2112 [(0, .ref 0), (1, .ref 1), (2, .ref 95), (3, .int i)] [] μ2) : JW X Q nc ns n Y 977 [(0, .ref 0), (1, .ref 1), (2, .ref 95), (3, .int i)] [] μ := by
  have hY2 := hY
  have hO22 := hO2
  obtain ⟨z1, z2, e1, h0, e2, heq, hInv⟩ := S (xs (I + 1)) (xs (I + 2))
  refine r_aload_n K 1 dL_law_977 rfl rfl ?_
  refine r_aload_n K 0 dL_law_978 rfl rfl ?_
  refine r_iload_n K 3 dL_law_979 rfl rfl ?_
  refine r_iconst (v := 1) K dL_law_980 (by decide) ?_
  refine r_iadd K dL_law_981 ?_
  refine r_iald K (k := I + 1) (by rw [hY]) (jixs hY hI (c := 1) (by omega) hL rfl) (hxs (I + 1) (by omega)) dL_law_982 ?_
  refine r_aload_n K 0 dL_law_983 rfl rfl ?_
  refine r_iload_n K 3 dL_law_984 rfl rfl ?_
  refine r_iconst (v := 2) K dL_law_985 (by decide) ?_
  refine r_iadd K dL_law_986 ?_
  refine r_iald K (k := I + 2) (by rw [hY]) (jixs hY hI (c := 2) (by omega) hL rfl) (hxs (I + 2) (by omega)) dL_law_987 ?_
  refine r_callV K hl (c_X11_read l e1) mC_yX11_read mM_RL_109 mI_yX11_read mS_yX11_read mZ_RX11 vc11 hO1 (Nat.le_of_ble_eq_true rfl) (Nat.le_of_ble_eq_true rfl) np_yX11_read rfl (Nat.le_of_ble_eq_true rfl) dL_law_988 ⟨Nat.le_trans (Nat.le_add_right _ 17) hrm.1, Nat.le_trans (Nat.le_add_right _ 64) hrm.2⟩ ?_
  refine r_aload_n K 2 dL_law_991 rfl rfl ?_
  refine r_aload_n K 0 dL_law_992 rfl rfl ?_
  refine r_iload_n K 3 dL_law_993 rfl rfl ?_
  refine r_iconst (v := 1) K dL_law_994 (by decide) ?_
  refine r_iadd K dL_law_995 ?_
  refine r_iald K (k := I + 1) (by rw [hY2]) (jixs hY2 hI (c := 1) (by omega) hL rfl) ((h0 (I + 1)).trans (hxs (I + 1) (by omega))) dL_law_996 ?_
  refine r_aload_n K 0 dL_law_997 rfl rfl ?_
  refine r_iload_n K 3 dL_law_998 rfl rfl ?_
  refine r_iconst (v := 2) K dL_law_999 (by decide) ?_
  refine r_iadd K dL_law_1000 ?_
  refine r_iald K (k := I + 2) (by rw [hY2]) (jixs hY2 hI (c := 2) (by omega) hL rfl) ((h0 (I + 2)).trans (hxs (I + 2) (by omega))) dL_law_1001 ?_
  refine r_callV K hl (c_X12_read l e2) mC_yX12_read mM_RL_112 mI_yX12_read mS_yX12_read mZ_RX12 vc12 hO22 (Nat.le_of_ble_eq_true rfl) (Nat.le_of_ble_eq_true rfl) np_yX12_read rfl (Nat.le_of_ble_eq_true rfl) dL_law_1002 ⟨Nat.le_trans (Nat.le_add_right _ 17) hrm.1, Nat.le_trans (Nat.le_add_right _ 64) hrm.2⟩ ?_
  refine r_icmp_eq K 2112 dL_law_1005 (by decide) (fun _ => ?_) (fun h => absurd heq h)
  exact kk _ _ _ _ _ hInv rfl (Nat.le_refl _)
def so_put (Inv : Nat → jY → jM → Prop) (n : Nat) (Y : jY) (μ : jM) : Prop := ∀ (a1 : Int32) (a2 : Int32) (a3 : Int32) (a4 : Int32), (a2 = 0 ∨ a2 = 1) → ∃ (z1 z2 : Int32 × jM), f_X11_put Y 1 a1 a2 a3 a4 μ = some z1 ∧ (∀ j, z1.2 0 j = μ 0 j) ∧ f_X12_put Y 95 a1 a2 a3 a4 z1.2 = some z2 ∧ z1.1 = z2.1 ∧ Inv n Y z2.2
set_option maxRecDepth 10000 in
theorem lc_put {X : jX} {l : Launch} {Q : State → Prop} {nc ns n : Nat} {Y : jY} {μ : jM} {L I : Nat} {xs : Nat → Int32} {i : Int32} {Inv : Nat → jY → jM → Prop} (K : jOK X RL cL_law 4 (some .boolean) 1000) (hl : X.2.1 = l) (hY : Y 0 = (20, L)) (hxs : ∀ j, j < L → μ 0 j = .int (xs j)) (hL : L ≤ 3072) (hI : i.toInt = I) (hIL : I + 6 ≤ L) (hrm : nc + 17 ≤ X.2.2.2.1.cells ∧ ns + 64 ≤ X.2.2.2.1.slots) (hO1 : (Y 1).1 = 11) (hO2 : (Y 95).1 = 12) (S : so_put Inv n Y μ) (kk : ∀ nc2 ns2 n2 Y2 μ2, Inv n2 Y2 μ2 → nc2 + n = nc + n2 → ns2 + 64 * n ≤ ns + 64 * n2 → JW X Q nc2 ns2 n2 Y2 2112 [(0, .ref 0), (1, .ref 1), (2, .ref 95), (3, .int i)] [] μ2) : JW X Q nc ns n Y 1010 [(0, .ref 0), (1, .ref 1), (2, .ref 95), (3, .int i)] [] μ := by
  have hY2 := hY
  have hO22 := hO2
  by_cases hb : xs (I + 2) = 0
  · obtain ⟨z1, z2, e1, h0, e2, heq, hInv⟩ := S (xs (I + 1)) (0 : Int32) (xs (I + 3)) (xs (I + 4)) (Or.inl rfl)
    refine r_aload_n K 1 dL_law_1010 rfl rfl ?_
    refine r_aload_n K 0 dL_law_1011 rfl rfl ?_
    refine r_iload_n K 3 dL_law_1012 rfl rfl ?_
    refine r_iconst (v := 1) K dL_law_1013 (by decide) ?_
    refine r_iadd K dL_law_1014 ?_
    refine r_iald K (k := I + 1) (by rw [hY]) (jixs hY hI (c := 1) (by omega) hL rfl) (hxs (I + 1) (by omega)) dL_law_1015 ?_
    refine r_aload_n K 0 dL_law_1016 rfl rfl ?_
    refine r_iload_n K 3 dL_law_1017 rfl rfl ?_
    refine r_iconst (v := 2) K dL_law_1018 (by decide) ?_
    refine r_iadd K dL_law_1019 ?_
    refine r_iald K (k := I + 2) (by rw [hY]) (jixs hY hI (c := 2) (by omega) hL rfl) (hxs (I + 2) (by omega)) dL_law_1020 ?_
    refine r_if_eq K 1028 dL_law_1021 (by decide) (fun _ => ?_) (fun h => absurd hb h)
    refine r_iconst (v := 0) K dL_law_1028 (by decide) ?_
    refine r_aload_n K 0 dL_law_1029 rfl rfl ?_
    refine r_iload_n K 3 dL_law_1030 rfl rfl ?_
    refine r_iconst (v := 3) K dL_law_1031 (by decide) ?_
    refine r_iadd K dL_law_1032 ?_
    refine r_iald K (k := I + 3) (by rw [hY]) (jixs hY hI (c := 3) (by omega) hL rfl) (hxs (I + 3) (by omega)) dL_law_1033 ?_
    refine r_aload_n K 0 dL_law_1034 rfl rfl ?_
    refine r_iload_n K 3 dL_law_1035 rfl rfl ?_
    refine r_iconst (v := 4) K dL_law_1036 (by decide) ?_
    refine r_iadd K dL_law_1037 ?_
    refine r_iald K (k := I + 4) (by rw [hY]) (jixs hY hI (c := 4) (by omega) hL rfl) (hxs (I + 4) (by omega)) dL_law_1038 ?_
    refine r_callV K hl (c_X11_put l e1) mC_yX11_put mM_RL_113 mI_yX11_put mS_yX11_put mZ_RX11 vc11 hO1 (Nat.le_of_ble_eq_true rfl) (Nat.le_of_ble_eq_true rfl) np_yX11_put rfl (Nat.le_of_ble_eq_true rfl) dL_law_1039 ⟨Nat.le_trans (Nat.le_add_right _ 17) hrm.1, Nat.le_trans (Nat.le_add_right _ 64) hrm.2⟩ ?_
    refine r_aload_n K 2 dL_law_1042 rfl rfl ?_
    refine r_aload_n K 0 dL_law_1043 rfl rfl ?_
    refine r_iload_n K 3 dL_law_1044 rfl rfl ?_
    refine r_iconst (v := 1) K dL_law_1045 (by decide) ?_
    refine r_iadd K dL_law_1046 ?_
    refine r_iald K (k := I + 1) (by rw [hY2]) (jixs hY2 hI (c := 1) (by omega) hL rfl) ((h0 (I + 1)).trans (hxs (I + 1) (by omega))) dL_law_1047 ?_
    refine r_aload_n K 0 dL_law_1048 rfl rfl ?_
    refine r_iload_n K 3 dL_law_1049 rfl rfl ?_
    refine r_iconst (v := 2) K dL_law_1050 (by decide) ?_
    refine r_iadd K dL_law_1051 ?_
    refine r_iald K (k := I + 2) (by rw [hY2]) (jixs hY2 hI (c := 2) (by omega) hL rfl) ((h0 (I + 2)).trans (hxs (I + 2) (by omega))) dL_law_1052 ?_
    refine r_if_eq K 1060 dL_law_1053 (by decide) (fun _ => ?_) (fun h => absurd hb h)
    refine r_iconst (v := 0) K dL_law_1060 (by decide) ?_
    refine r_aload_n K 0 dL_law_1061 rfl rfl ?_
    refine r_iload_n K 3 dL_law_1062 rfl rfl ?_
    refine r_iconst (v := 3) K dL_law_1063 (by decide) ?_
    refine r_iadd K dL_law_1064 ?_
    refine r_iald K (k := I + 3) (by rw [hY2]) (jixs hY2 hI (c := 3) (by omega) hL rfl) ((h0 (I + 3)).trans (hxs (I + 3) (by omega))) dL_law_1065 ?_
    refine r_aload_n K 0 dL_law_1066 rfl rfl ?_
    refine r_iload_n K 3 dL_law_1067 rfl rfl ?_
    refine r_iconst (v := 4) K dL_law_1068 (by decide) ?_
    refine r_iadd K dL_law_1069 ?_
    refine r_iald K (k := I + 4) (by rw [hY2]) (jixs hY2 hI (c := 4) (by omega) hL rfl) ((h0 (I + 4)).trans (hxs (I + 4) (by omega))) dL_law_1070 ?_
    refine r_callV K hl (c_X12_put l e2) mC_yX12_put mM_RL_117 mI_yX12_put mS_yX12_put mZ_RX12 vc12 hO22 (Nat.le_of_ble_eq_true rfl) (Nat.le_of_ble_eq_true rfl) np_yX12_put rfl (Nat.le_of_ble_eq_true rfl) dL_law_1071 ⟨Nat.le_trans (Nat.le_add_right _ 17) hrm.1, Nat.le_trans (Nat.le_add_right _ 64) hrm.2⟩ ?_
    refine r_icmp_eq K 2112 dL_law_1074 (by decide) (fun _ => ?_) (fun h => absurd heq h)
    exact kk _ _ _ _ _ hInv rfl (Nat.le_refl _)
  · obtain ⟨z1, z2, e1, h0, e2, heq, hInv⟩ := S (xs (I + 1)) (1 : Int32) (xs (I + 3)) (xs (I + 4)) (Or.inr rfl)
    refine r_aload_n K 1 dL_law_1010 rfl rfl ?_
    refine r_aload_n K 0 dL_law_1011 rfl rfl ?_
    refine r_iload_n K 3 dL_law_1012 rfl rfl ?_
    refine r_iconst (v := 1) K dL_law_1013 (by decide) ?_
    refine r_iadd K dL_law_1014 ?_
    refine r_iald K (k := I + 1) (by rw [hY]) (jixs hY hI (c := 1) (by omega) hL rfl) (hxs (I + 1) (by omega)) dL_law_1015 ?_
    refine r_aload_n K 0 dL_law_1016 rfl rfl ?_
    refine r_iload_n K 3 dL_law_1017 rfl rfl ?_
    refine r_iconst (v := 2) K dL_law_1018 (by decide) ?_
    refine r_iadd K dL_law_1019 ?_
    refine r_iald K (k := I + 2) (by rw [hY]) (jixs hY hI (c := 2) (by omega) hL rfl) (hxs (I + 2) (by omega)) dL_law_1020 ?_
    refine r_if_eq K 1028 dL_law_1021 (by decide) (fun h => absurd h hb) (fun _ => ?_)
    refine r_iconst (v := 1) K dL_law_1024 (by decide) ?_
    refine r_goto K 1029 dL_law_1025 (by decide) ?_
    refine r_aload_n K 0 dL_law_1029 rfl rfl ?_
    refine r_iload_n K 3 dL_law_1030 rfl rfl ?_
    refine r_iconst (v := 3) K dL_law_1031 (by decide) ?_
    refine r_iadd K dL_law_1032 ?_
    refine r_iald K (k := I + 3) (by rw [hY]) (jixs hY hI (c := 3) (by omega) hL rfl) (hxs (I + 3) (by omega)) dL_law_1033 ?_
    refine r_aload_n K 0 dL_law_1034 rfl rfl ?_
    refine r_iload_n K 3 dL_law_1035 rfl rfl ?_
    refine r_iconst (v := 4) K dL_law_1036 (by decide) ?_
    refine r_iadd K dL_law_1037 ?_
    refine r_iald K (k := I + 4) (by rw [hY]) (jixs hY hI (c := 4) (by omega) hL rfl) (hxs (I + 4) (by omega)) dL_law_1038 ?_
    refine r_callV K hl (c_X11_put l e1) mC_yX11_put mM_RL_113 mI_yX11_put mS_yX11_put mZ_RX11 vc11 hO1 (Nat.le_of_ble_eq_true rfl) (Nat.le_of_ble_eq_true rfl) np_yX11_put rfl (Nat.le_of_ble_eq_true rfl) dL_law_1039 ⟨Nat.le_trans (Nat.le_add_right _ 17) hrm.1, Nat.le_trans (Nat.le_add_right _ 64) hrm.2⟩ ?_
    refine r_aload_n K 2 dL_law_1042 rfl rfl ?_
    refine r_aload_n K 0 dL_law_1043 rfl rfl ?_
    refine r_iload_n K 3 dL_law_1044 rfl rfl ?_
    refine r_iconst (v := 1) K dL_law_1045 (by decide) ?_
    refine r_iadd K dL_law_1046 ?_
    refine r_iald K (k := I + 1) (by rw [hY2]) (jixs hY2 hI (c := 1) (by omega) hL rfl) ((h0 (I + 1)).trans (hxs (I + 1) (by omega))) dL_law_1047 ?_
    refine r_aload_n K 0 dL_law_1048 rfl rfl ?_
    refine r_iload_n K 3 dL_law_1049 rfl rfl ?_
    refine r_iconst (v := 2) K dL_law_1050 (by decide) ?_
    refine r_iadd K dL_law_1051 ?_
    refine r_iald K (k := I + 2) (by rw [hY2]) (jixs hY2 hI (c := 2) (by omega) hL rfl) ((h0 (I + 2)).trans (hxs (I + 2) (by omega))) dL_law_1052 ?_
    refine r_if_eq K 1060 dL_law_1053 (by decide) (fun h => absurd h hb) (fun _ => ?_)
    refine r_iconst (v := 1) K dL_law_1056 (by decide) ?_
    refine r_goto K 1061 dL_law_1057 (by decide) ?_
    refine r_aload_n K 0 dL_law_1061 rfl rfl ?_
    refine r_iload_n K 3 dL_law_1062 rfl rfl ?_
    refine r_iconst (v := 3) K dL_law_1063 (by decide) ?_
    refine r_iadd K dL_law_1064 ?_
    refine r_iald K (k := I + 3) (by rw [hY2]) (jixs hY2 hI (c := 3) (by omega) hL rfl) ((h0 (I + 3)).trans (hxs (I + 3) (by omega))) dL_law_1065 ?_
    refine r_aload_n K 0 dL_law_1066 rfl rfl ?_
    refine r_iload_n K 3 dL_law_1067 rfl rfl ?_
    refine r_iconst (v := 4) K dL_law_1068 (by decide) ?_
    refine r_iadd K dL_law_1069 ?_
    refine r_iald K (k := I + 4) (by rw [hY2]) (jixs hY2 hI (c := 4) (by omega) hL rfl) ((h0 (I + 4)).trans (hxs (I + 4) (by omega))) dL_law_1070 ?_
    refine r_callV K hl (c_X12_put l e2) mC_yX12_put mM_RL_117 mI_yX12_put mS_yX12_put mZ_RX12 vc12 hO22 (Nat.le_of_ble_eq_true rfl) (Nat.le_of_ble_eq_true rfl) np_yX12_put rfl (Nat.le_of_ble_eq_true rfl) dL_law_1071 ⟨Nat.le_trans (Nat.le_add_right _ 17) hrm.1, Nat.le_trans (Nat.le_add_right _ 64) hrm.2⟩ ?_
    refine r_icmp_eq K 2112 dL_law_1074 (by decide) (fun _ => ?_) (fun h => absurd heq h)
    exact kk _ _ _ _ _ hInv rfl (Nat.le_refl _)
def so_told (Inv : Nat → jY → jM → Prop) (n : Nat) (Y : jY) (μ : jM) : Prop := ∀ (a1 : Int32) (a2 : Int32) (a3 : Int32), (a2 = 0 ∨ a2 = 1) → ∃ (z1 z2 : Int32 × jM), f_X11_told Y 1 a1 a2 a3 μ = some z1 ∧ (∀ j, z1.2 0 j = μ 0 j) ∧ f_X12_told_ Y 95 a1 a2 a3 z1.2 = some z2 ∧ z1.1 = z2.1 ∧ Inv n Y z2.2
set_option maxRecDepth 10000 in
theorem lc_told {X : jX} {l : Launch} {Q : State → Prop} {nc ns n : Nat} {Y : jY} {μ : jM} {L I : Nat} {xs : Nat → Int32} {i : Int32} {Inv : Nat → jY → jM → Prop} (K : jOK X RL cL_law 4 (some .boolean) 1000) (hl : X.2.1 = l) (hY : Y 0 = (20, L)) (hxs : ∀ j, j < L → μ 0 j = .int (xs j)) (hL : L ≤ 3072) (hI : i.toInt = I) (hIL : I + 6 ≤ L) (hrm : nc + 17 ≤ X.2.2.2.1.cells ∧ ns + 64 ≤ X.2.2.2.1.slots) (hO1 : (Y 1).1 = 11) (hO2 : (Y 95).1 = 12) (S : so_told Inv n Y μ) (kk : ∀ nc2 ns2 n2 Y2 μ2, Inv n2 Y2 μ2 → nc2 + n = nc + n2 → ns2 + 64 * n ≤ ns + 64 * n2 → JW X Q nc2 ns2 n2 Y2 2112 [(0, .ref 0), (1, .ref 1), (2, .ref 95), (3, .int i)] [] μ2) : JW X Q nc ns n Y 1079 [(0, .ref 0), (1, .ref 1), (2, .ref 95), (3, .int i)] [] μ := by
  have hY2 := hY
  have hO22 := hO2
  by_cases hb : xs (I + 2) = 0
  · obtain ⟨z1, z2, e1, h0, e2, heq, hInv⟩ := S (xs (I + 1)) (0 : Int32) (xs (I + 3)) (Or.inl rfl)
    refine r_aload_n K 1 dL_law_1079 rfl rfl ?_
    refine r_aload_n K 0 dL_law_1080 rfl rfl ?_
    refine r_iload_n K 3 dL_law_1081 rfl rfl ?_
    refine r_iconst (v := 1) K dL_law_1082 (by decide) ?_
    refine r_iadd K dL_law_1083 ?_
    refine r_iald K (k := I + 1) (by rw [hY]) (jixs hY hI (c := 1) (by omega) hL rfl) (hxs (I + 1) (by omega)) dL_law_1084 ?_
    refine r_aload_n K 0 dL_law_1085 rfl rfl ?_
    refine r_iload_n K 3 dL_law_1086 rfl rfl ?_
    refine r_iconst (v := 2) K dL_law_1087 (by decide) ?_
    refine r_iadd K dL_law_1088 ?_
    refine r_iald K (k := I + 2) (by rw [hY]) (jixs hY hI (c := 2) (by omega) hL rfl) (hxs (I + 2) (by omega)) dL_law_1089 ?_
    refine r_if_eq K 1097 dL_law_1090 (by decide) (fun _ => ?_) (fun h => absurd hb h)
    refine r_iconst (v := 0) K dL_law_1097 (by decide) ?_
    refine r_aload_n K 0 dL_law_1098 rfl rfl ?_
    refine r_iload_n K 3 dL_law_1099 rfl rfl ?_
    refine r_iconst (v := 3) K dL_law_1100 (by decide) ?_
    refine r_iadd K dL_law_1101 ?_
    refine r_iald K (k := I + 3) (by rw [hY]) (jixs hY hI (c := 3) (by omega) hL rfl) (hxs (I + 3) (by omega)) dL_law_1102 ?_
    refine r_callV K hl (c_X11_told l e1) mC_yX11_told mM_RL_118 mI_yX11_told mS_yX11_told mZ_RX11 vc11 hO1 (Nat.le_of_ble_eq_true rfl) (Nat.le_of_ble_eq_true rfl) np_yX11_told rfl (Nat.le_of_ble_eq_true rfl) dL_law_1103 ⟨Nat.le_trans (Nat.le_add_right _ 17) hrm.1, Nat.le_trans (Nat.le_add_right _ 64) hrm.2⟩ ?_
    refine r_aload_n K 2 dL_law_1106 rfl rfl ?_
    refine r_aload_n K 0 dL_law_1107 rfl rfl ?_
    refine r_iload_n K 3 dL_law_1108 rfl rfl ?_
    refine r_iconst (v := 1) K dL_law_1109 (by decide) ?_
    refine r_iadd K dL_law_1110 ?_
    refine r_iald K (k := I + 1) (by rw [hY2]) (jixs hY2 hI (c := 1) (by omega) hL rfl) ((h0 (I + 1)).trans (hxs (I + 1) (by omega))) dL_law_1111 ?_
    refine r_aload_n K 0 dL_law_1112 rfl rfl ?_
    refine r_iload_n K 3 dL_law_1113 rfl rfl ?_
    refine r_iconst (v := 2) K dL_law_1114 (by decide) ?_
    refine r_iadd K dL_law_1115 ?_
    refine r_iald K (k := I + 2) (by rw [hY2]) (jixs hY2 hI (c := 2) (by omega) hL rfl) ((h0 (I + 2)).trans (hxs (I + 2) (by omega))) dL_law_1116 ?_
    refine r_if_eq K 1124 dL_law_1117 (by decide) (fun _ => ?_) (fun h => absurd hb h)
    refine r_iconst (v := 0) K dL_law_1124 (by decide) ?_
    refine r_aload_n K 0 dL_law_1125 rfl rfl ?_
    refine r_iload_n K 3 dL_law_1126 rfl rfl ?_
    refine r_iconst (v := 3) K dL_law_1127 (by decide) ?_
    refine r_iadd K dL_law_1128 ?_
    refine r_iald K (k := I + 3) (by rw [hY2]) (jixs hY2 hI (c := 3) (by omega) hL rfl) ((h0 (I + 3)).trans (hxs (I + 3) (by omega))) dL_law_1129 ?_
    refine r_callV K hl (c_X12_told_ l e2) mC_yX12_told_ mM_RL_122 mI_yX12_told_ mS_yX12_told_ mZ_RX12 vc12 hO22 (Nat.le_of_ble_eq_true rfl) (Nat.le_of_ble_eq_true rfl) np_yX12_told_ rfl (Nat.le_of_ble_eq_true rfl) dL_law_1130 ⟨Nat.le_trans (Nat.le_add_right _ 17) hrm.1, Nat.le_trans (Nat.le_add_right _ 64) hrm.2⟩ ?_
    refine r_icmp_eq K 2112 dL_law_1133 (by decide) (fun _ => ?_) (fun h => absurd heq h)
    exact kk _ _ _ _ _ hInv rfl (Nat.le_refl _)
  · obtain ⟨z1, z2, e1, h0, e2, heq, hInv⟩ := S (xs (I + 1)) (1 : Int32) (xs (I + 3)) (Or.inr rfl)
    refine r_aload_n K 1 dL_law_1079 rfl rfl ?_
    refine r_aload_n K 0 dL_law_1080 rfl rfl ?_
    refine r_iload_n K 3 dL_law_1081 rfl rfl ?_
    refine r_iconst (v := 1) K dL_law_1082 (by decide) ?_
    refine r_iadd K dL_law_1083 ?_
    refine r_iald K (k := I + 1) (by rw [hY]) (jixs hY hI (c := 1) (by omega) hL rfl) (hxs (I + 1) (by omega)) dL_law_1084 ?_
    refine r_aload_n K 0 dL_law_1085 rfl rfl ?_
    refine r_iload_n K 3 dL_law_1086 rfl rfl ?_
    refine r_iconst (v := 2) K dL_law_1087 (by decide) ?_
    refine r_iadd K dL_law_1088 ?_
    refine r_iald K (k := I + 2) (by rw [hY]) (jixs hY hI (c := 2) (by omega) hL rfl) (hxs (I + 2) (by omega)) dL_law_1089 ?_
    refine r_if_eq K 1097 dL_law_1090 (by decide) (fun h => absurd h hb) (fun _ => ?_)
    refine r_iconst (v := 1) K dL_law_1093 (by decide) ?_
    refine r_goto K 1098 dL_law_1094 (by decide) ?_
    refine r_aload_n K 0 dL_law_1098 rfl rfl ?_
    refine r_iload_n K 3 dL_law_1099 rfl rfl ?_
    refine r_iconst (v := 3) K dL_law_1100 (by decide) ?_
    refine r_iadd K dL_law_1101 ?_
    refine r_iald K (k := I + 3) (by rw [hY]) (jixs hY hI (c := 3) (by omega) hL rfl) (hxs (I + 3) (by omega)) dL_law_1102 ?_
    refine r_callV K hl (c_X11_told l e1) mC_yX11_told mM_RL_118 mI_yX11_told mS_yX11_told mZ_RX11 vc11 hO1 (Nat.le_of_ble_eq_true rfl) (Nat.le_of_ble_eq_true rfl) np_yX11_told rfl (Nat.le_of_ble_eq_true rfl) dL_law_1103 ⟨Nat.le_trans (Nat.le_add_right _ 17) hrm.1, Nat.le_trans (Nat.le_add_right _ 64) hrm.2⟩ ?_
    refine r_aload_n K 2 dL_law_1106 rfl rfl ?_
    refine r_aload_n K 0 dL_law_1107 rfl rfl ?_
    refine r_iload_n K 3 dL_law_1108 rfl rfl ?_
    refine r_iconst (v := 1) K dL_law_1109 (by decide) ?_
    refine r_iadd K dL_law_1110 ?_
    refine r_iald K (k := I + 1) (by rw [hY2]) (jixs hY2 hI (c := 1) (by omega) hL rfl) ((h0 (I + 1)).trans (hxs (I + 1) (by omega))) dL_law_1111 ?_
    refine r_aload_n K 0 dL_law_1112 rfl rfl ?_
    refine r_iload_n K 3 dL_law_1113 rfl rfl ?_
    refine r_iconst (v := 2) K dL_law_1114 (by decide) ?_
    refine r_iadd K dL_law_1115 ?_
    refine r_iald K (k := I + 2) (by rw [hY2]) (jixs hY2 hI (c := 2) (by omega) hL rfl) ((h0 (I + 2)).trans (hxs (I + 2) (by omega))) dL_law_1116 ?_
    refine r_if_eq K 1124 dL_law_1117 (by decide) (fun h => absurd h hb) (fun _ => ?_)
    refine r_iconst (v := 1) K dL_law_1120 (by decide) ?_
    refine r_goto K 1125 dL_law_1121 (by decide) ?_
    refine r_aload_n K 0 dL_law_1125 rfl rfl ?_
    refine r_iload_n K 3 dL_law_1126 rfl rfl ?_
    refine r_iconst (v := 3) K dL_law_1127 (by decide) ?_
    refine r_iadd K dL_law_1128 ?_
    refine r_iald K (k := I + 3) (by rw [hY2]) (jixs hY2 hI (c := 3) (by omega) hL rfl) ((h0 (I + 3)).trans (hxs (I + 3) (by omega))) dL_law_1129 ?_
    refine r_callV K hl (c_X12_told_ l e2) mC_yX12_told_ mM_RL_122 mI_yX12_told_ mS_yX12_told_ mZ_RX12 vc12 hO22 (Nat.le_of_ble_eq_true rfl) (Nat.le_of_ble_eq_true rfl) np_yX12_told_ rfl (Nat.le_of_ble_eq_true rfl) dL_law_1130 ⟨Nat.le_trans (Nat.le_add_right _ 17) hrm.1, Nat.le_trans (Nat.le_add_right _ 64) hrm.2⟩ ?_
    refine r_icmp_eq K 2112 dL_law_1133 (by decide) (fun _ => ?_) (fun h => absurd heq h)
    exact kk _ _ _ _ _ hInv rfl (Nat.le_refl _)
def so_number (Inv : Nat → jY → jM → Prop) (n : Nat) (Y : jY) (μ : jM) : Prop := ∀ (a1 : Int32) (a2 : Int32) (a3 : Int32), ∃ (z1 z2 : Int64 × jM), f_X11_number Y 1 a1 a2 a3 μ = some z1 ∧ (∀ j, z1.2 0 j = μ 0 j) ∧ f_X12_number Y 95 a1 a2 a3 z1.2 = some z2 ∧ z1.1 = z2.1 ∧ Inv n Y z2.2
set_option maxRecDepth 10000 in
theorem lc_number {X : jX} {l : Launch} {Q : State → Prop} {nc ns n : Nat} {Y : jY} {μ : jM} {L I : Nat} {xs : Nat → Int32} {i : Int32} {Inv : Nat → jY → jM → Prop} (K : jOK X RL cL_law 4 (some .boolean) 1000) (hl : X.2.1 = l) (hY : Y 0 = (20, L)) (hxs : ∀ j, j < L → μ 0 j = .int (xs j)) (hL : L ≤ 3072) (hI : i.toInt = I) (hIL : I + 6 ≤ L) (hrm : nc + 17 ≤ X.2.2.2.1.cells ∧ ns + 64 ≤ X.2.2.2.1.slots) (hO1 : (Y 1).1 = 11) (hO2 : (Y 95).1 = 12) (S : so_number Inv n Y μ) (kk : ∀ nc2 ns2 n2 Y2 μ2, Inv n2 Y2 μ2 → nc2 + n = nc + n2 → ns2 + 64 * n ≤ ns + 64 * n2 → JW X Q nc2 ns2 n2 Y2 2112 [(0, .ref 0), (1, .ref 1), (2, .ref 95), (3, .int i)] [] μ2) : JW X Q nc ns n Y 1138 [(0, .ref 0), (1, .ref 1), (2, .ref 95), (3, .int i)] [] μ := by
  have hY2 := hY
  have hO22 := hO2
  obtain ⟨z1, z2, e1, h0, e2, heq, hInv⟩ := S (xs (I + 1)) (xs (I + 2)) (xs (I + 3))
  refine r_aload_n K 1 dL_law_1138 rfl rfl ?_
  refine r_aload_n K 0 dL_law_1139 rfl rfl ?_
  refine r_iload_n K 3 dL_law_1140 rfl rfl ?_
  refine r_iconst (v := 1) K dL_law_1141 (by decide) ?_
  refine r_iadd K dL_law_1142 ?_
  refine r_iald K (k := I + 1) (by rw [hY]) (jixs hY hI (c := 1) (by omega) hL rfl) (hxs (I + 1) (by omega)) dL_law_1143 ?_
  refine r_aload_n K 0 dL_law_1144 rfl rfl ?_
  refine r_iload_n K 3 dL_law_1145 rfl rfl ?_
  refine r_iconst (v := 2) K dL_law_1146 (by decide) ?_
  refine r_iadd K dL_law_1147 ?_
  refine r_iald K (k := I + 2) (by rw [hY]) (jixs hY hI (c := 2) (by omega) hL rfl) (hxs (I + 2) (by omega)) dL_law_1148 ?_
  refine r_aload_n K 0 dL_law_1149 rfl rfl ?_
  refine r_iload_n K 3 dL_law_1150 rfl rfl ?_
  refine r_iconst (v := 3) K dL_law_1151 (by decide) ?_
  refine r_iadd K dL_law_1152 ?_
  refine r_iald K (k := I + 3) (by rw [hY]) (jixs hY hI (c := 3) (by omega) hL rfl) (hxs (I + 3) (by omega)) dL_law_1153 ?_
  refine r_callV K hl (c_X11_number l e1) mC_yX11_number mM_RL_123 mI_yX11_number mS_yX11_number mZ_RX11 vc11 hO1 (Nat.le_of_ble_eq_true rfl) (Nat.le_of_ble_eq_true rfl) np_yX11_number rfl (Nat.le_of_ble_eq_true rfl) dL_law_1154 ⟨Nat.le_trans (Nat.le_add_right _ 17) hrm.1, Nat.le_trans (Nat.le_add_right _ 64) hrm.2⟩ ?_
  refine r_aload_n K 2 dL_law_1157 rfl rfl ?_
  refine r_aload_n K 0 dL_law_1158 rfl rfl ?_
  refine r_iload_n K 3 dL_law_1159 rfl rfl ?_
  refine r_iconst (v := 1) K dL_law_1160 (by decide) ?_
  refine r_iadd K dL_law_1161 ?_
  refine r_iald K (k := I + 1) (by rw [hY2]) (jixs hY2 hI (c := 1) (by omega) hL rfl) ((h0 (I + 1)).trans (hxs (I + 1) (by omega))) dL_law_1162 ?_
  refine r_aload_n K 0 dL_law_1163 rfl rfl ?_
  refine r_iload_n K 3 dL_law_1164 rfl rfl ?_
  refine r_iconst (v := 2) K dL_law_1165 (by decide) ?_
  refine r_iadd K dL_law_1166 ?_
  refine r_iald K (k := I + 2) (by rw [hY2]) (jixs hY2 hI (c := 2) (by omega) hL rfl) ((h0 (I + 2)).trans (hxs (I + 2) (by omega))) dL_law_1167 ?_
  refine r_aload_n K 0 dL_law_1168 rfl rfl ?_
  refine r_iload_n K 3 dL_law_1169 rfl rfl ?_
  refine r_iconst (v := 3) K dL_law_1170 (by decide) ?_
  refine r_iadd K dL_law_1171 ?_
  refine r_iald K (k := I + 3) (by rw [hY2]) (jixs hY2 hI (c := 3) (by omega) hL rfl) ((h0 (I + 3)).trans (hxs (I + 3) (by omega))) dL_law_1172 ?_
  refine r_callV K hl (c_X12_number l e2) mC_yX12_number mM_RL_126 mI_yX12_number mS_yX12_number mZ_RX12 vc12 hO22 (Nat.le_of_ble_eq_true rfl) (Nat.le_of_ble_eq_true rfl) np_yX12_number rfl (Nat.le_of_ble_eq_true rfl) dL_law_1173 ⟨Nat.le_trans (Nat.le_add_right _ 17) hrm.1, Nat.le_trans (Nat.le_add_right _ 64) hrm.2⟩ ?_
  refine r_lcmp K dL_law_1176 ?_
  refine r_if_eq K 2112 dL_law_1177 (by decide) (fun _ => ?_) (fun h => absurd (by rw [heq]; exact jcmp_self _) h)
  exact kk _ _ _ _ _ hInv rfl (Nat.le_refl _)
def so_value (Inv : Nat → jY → jM → Prop) (n : Nat) (Y : jY) (μ : jM) : Prop := ∀ (a1 : Int32) (a2 : Int32) (a3 : Int32), ∃ (z1 z2 : Int64 × jM), f_X11_value Y 1 a1 a2 a3 μ = some z1 ∧ (∀ j, z1.2 0 j = μ 0 j) ∧ f_X12_value Y 95 a1 a2 a3 z1.2 = some z2 ∧ z1.1 = z2.1 ∧ Inv n Y z2.2
set_option maxRecDepth 10000 in
theorem lc_value {X : jX} {l : Launch} {Q : State → Prop} {nc ns n : Nat} {Y : jY} {μ : jM} {L I : Nat} {xs : Nat → Int32} {i : Int32} {Inv : Nat → jY → jM → Prop} (K : jOK X RL cL_law 4 (some .boolean) 1000) (hl : X.2.1 = l) (hY : Y 0 = (20, L)) (hxs : ∀ j, j < L → μ 0 j = .int (xs j)) (hL : L ≤ 3072) (hI : i.toInt = I) (hIL : I + 6 ≤ L) (hrm : nc + 17 ≤ X.2.2.2.1.cells ∧ ns + 64 ≤ X.2.2.2.1.slots) (hO1 : (Y 1).1 = 11) (hO2 : (Y 95).1 = 12) (S : so_value Inv n Y μ) (kk : ∀ nc2 ns2 n2 Y2 μ2, Inv n2 Y2 μ2 → nc2 + n = nc + n2 → ns2 + 64 * n ≤ ns + 64 * n2 → JW X Q nc2 ns2 n2 Y2 2112 [(0, .ref 0), (1, .ref 1), (2, .ref 95), (3, .int i)] [] μ2) : JW X Q nc ns n Y 1182 [(0, .ref 0), (1, .ref 1), (2, .ref 95), (3, .int i)] [] μ := by
  have hY2 := hY
  have hO22 := hO2
  obtain ⟨z1, z2, e1, h0, e2, heq, hInv⟩ := S (xs (I + 1)) (xs (I + 2)) (xs (I + 3))
  refine r_aload_n K 1 dL_law_1182 rfl rfl ?_
  refine r_aload_n K 0 dL_law_1183 rfl rfl ?_
  refine r_iload_n K 3 dL_law_1184 rfl rfl ?_
  refine r_iconst (v := 1) K dL_law_1185 (by decide) ?_
  refine r_iadd K dL_law_1186 ?_
  refine r_iald K (k := I + 1) (by rw [hY]) (jixs hY hI (c := 1) (by omega) hL rfl) (hxs (I + 1) (by omega)) dL_law_1187 ?_
  refine r_aload_n K 0 dL_law_1188 rfl rfl ?_
  refine r_iload_n K 3 dL_law_1189 rfl rfl ?_
  refine r_iconst (v := 2) K dL_law_1190 (by decide) ?_
  refine r_iadd K dL_law_1191 ?_
  refine r_iald K (k := I + 2) (by rw [hY]) (jixs hY hI (c := 2) (by omega) hL rfl) (hxs (I + 2) (by omega)) dL_law_1192 ?_
  refine r_aload_n K 0 dL_law_1193 rfl rfl ?_
  refine r_iload_n K 3 dL_law_1194 rfl rfl ?_
  refine r_iconst (v := 3) K dL_law_1195 (by decide) ?_
  refine r_iadd K dL_law_1196 ?_
  refine r_iald K (k := I + 3) (by rw [hY]) (jixs hY hI (c := 3) (by omega) hL rfl) (hxs (I + 3) (by omega)) dL_law_1197 ?_
  refine r_callV K hl (c_X11_value l e1) mC_yX11_value mM_RL_127 mI_yX11_value mS_yX11_value mZ_RX11 vc11 hO1 (Nat.le_of_ble_eq_true rfl) (Nat.le_of_ble_eq_true rfl) np_yX11_value rfl (Nat.le_of_ble_eq_true rfl) dL_law_1198 ⟨Nat.le_trans (Nat.le_add_right _ 17) hrm.1, Nat.le_trans (Nat.le_add_right _ 64) hrm.2⟩ ?_
  refine r_aload_n K 2 dL_law_1201 rfl rfl ?_
  refine r_aload_n K 0 dL_law_1202 rfl rfl ?_
  refine r_iload_n K 3 dL_law_1203 rfl rfl ?_
  refine r_iconst (v := 1) K dL_law_1204 (by decide) ?_
  refine r_iadd K dL_law_1205 ?_
  refine r_iald K (k := I + 1) (by rw [hY2]) (jixs hY2 hI (c := 1) (by omega) hL rfl) ((h0 (I + 1)).trans (hxs (I + 1) (by omega))) dL_law_1206 ?_
  refine r_aload_n K 0 dL_law_1207 rfl rfl ?_
  refine r_iload_n K 3 dL_law_1208 rfl rfl ?_
  refine r_iconst (v := 2) K dL_law_1209 (by decide) ?_
  refine r_iadd K dL_law_1210 ?_
  refine r_iald K (k := I + 2) (by rw [hY2]) (jixs hY2 hI (c := 2) (by omega) hL rfl) ((h0 (I + 2)).trans (hxs (I + 2) (by omega))) dL_law_1211 ?_
  refine r_aload_n K 0 dL_law_1212 rfl rfl ?_
  refine r_iload_n K 3 dL_law_1213 rfl rfl ?_
  refine r_iconst (v := 3) K dL_law_1214 (by decide) ?_
  refine r_iadd K dL_law_1215 ?_
  refine r_iald K (k := I + 3) (by rw [hY2]) (jixs hY2 hI (c := 3) (by omega) hL rfl) ((h0 (I + 3)).trans (hxs (I + 3) (by omega))) dL_law_1216 ?_
  refine r_callV K hl (c_X12_value l e2) mC_yX12_value mM_RL_130 mI_yX12_value mS_yX12_value mZ_RX12 vc12 hO22 (Nat.le_of_ble_eq_true rfl) (Nat.le_of_ble_eq_true rfl) np_yX12_value rfl (Nat.le_of_ble_eq_true rfl) dL_law_1217 ⟨Nat.le_trans (Nat.le_add_right _ 17) hrm.1, Nat.le_trans (Nat.le_add_right _ 64) hrm.2⟩ ?_
  refine r_lcmp K dL_law_1220 ?_
  refine r_if_eq K 2112 dL_law_1221 (by decide) (fun _ => ?_) (fun h => absurd (by rw [heq]; exact jcmp_self _) h)
  exact kk _ _ _ _ _ hInv rfl (Nat.le_refl _)
def so_below (Inv : Nat → jY → jM → Prop) (n : Nat) (Y : jY) (μ : jM) : Prop := ∀ (a1 : Int32) (a2 : Int32) (a3 : Int32) (a4 : Int32), ∃ (z1 z2 : Int32 × jM), f_X11_below Y 1 a1 a2 a3 a4 μ = some z1 ∧ (∀ j, z1.2 0 j = μ 0 j) ∧ f_X12_below Y 95 a1 a2 a3 a4 z1.2 = some z2 ∧ z1.1 = z2.1 ∧ Inv n Y z2.2
set_option maxRecDepth 10000 in
theorem lc_below {X : jX} {l : Launch} {Q : State → Prop} {nc ns n : Nat} {Y : jY} {μ : jM} {L I : Nat} {xs : Nat → Int32} {i : Int32} {Inv : Nat → jY → jM → Prop} (K : jOK X RL cL_law 4 (some .boolean) 1000) (hl : X.2.1 = l) (hY : Y 0 = (20, L)) (hxs : ∀ j, j < L → μ 0 j = .int (xs j)) (hL : L ≤ 3072) (hI : i.toInt = I) (hIL : I + 6 ≤ L) (hrm : nc + 17 ≤ X.2.2.2.1.cells ∧ ns + 64 ≤ X.2.2.2.1.slots) (hO1 : (Y 1).1 = 11) (hO2 : (Y 95).1 = 12) (S : so_below Inv n Y μ) (kk : ∀ nc2 ns2 n2 Y2 μ2, Inv n2 Y2 μ2 → nc2 + n = nc + n2 → ns2 + 64 * n ≤ ns + 64 * n2 → JW X Q nc2 ns2 n2 Y2 2112 [(0, .ref 0), (1, .ref 1), (2, .ref 95), (3, .int i)] [] μ2) : JW X Q nc ns n Y 1226 [(0, .ref 0), (1, .ref 1), (2, .ref 95), (3, .int i)] [] μ := by
  have hY2 := hY
  have hO22 := hO2
  obtain ⟨z1, z2, e1, h0, e2, heq, hInv⟩ := S (xs (I + 1)) (xs (I + 2)) (xs (I + 3)) (xs (I + 4))
  refine r_aload_n K 1 dL_law_1226 rfl rfl ?_
  refine r_aload_n K 0 dL_law_1227 rfl rfl ?_
  refine r_iload_n K 3 dL_law_1228 rfl rfl ?_
  refine r_iconst (v := 1) K dL_law_1229 (by decide) ?_
  refine r_iadd K dL_law_1230 ?_
  refine r_iald K (k := I + 1) (by rw [hY]) (jixs hY hI (c := 1) (by omega) hL rfl) (hxs (I + 1) (by omega)) dL_law_1231 ?_
  refine r_aload_n K 0 dL_law_1232 rfl rfl ?_
  refine r_iload_n K 3 dL_law_1233 rfl rfl ?_
  refine r_iconst (v := 2) K dL_law_1234 (by decide) ?_
  refine r_iadd K dL_law_1235 ?_
  refine r_iald K (k := I + 2) (by rw [hY]) (jixs hY hI (c := 2) (by omega) hL rfl) (hxs (I + 2) (by omega)) dL_law_1236 ?_
  refine r_aload_n K 0 dL_law_1237 rfl rfl ?_
  refine r_iload_n K 3 dL_law_1238 rfl rfl ?_
  refine r_iconst (v := 3) K dL_law_1239 (by decide) ?_
  refine r_iadd K dL_law_1240 ?_
  refine r_iald K (k := I + 3) (by rw [hY]) (jixs hY hI (c := 3) (by omega) hL rfl) (hxs (I + 3) (by omega)) dL_law_1241 ?_
  refine r_aload_n K 0 dL_law_1242 rfl rfl ?_
  refine r_iload_n K 3 dL_law_1243 rfl rfl ?_
  refine r_iconst (v := 4) K dL_law_1244 (by decide) ?_
  refine r_iadd K dL_law_1245 ?_
  refine r_iald K (k := I + 4) (by rw [hY]) (jixs hY hI (c := 4) (by omega) hL rfl) (hxs (I + 4) (by omega)) dL_law_1246 ?_
  refine r_callV K hl (c_X11_below l e1) mC_yX11_below mM_RL_131 mI_yX11_below mS_yX11_below mZ_RX11 vc11 hO1 (Nat.le_of_ble_eq_true rfl) (Nat.le_of_ble_eq_true rfl) np_yX11_below rfl (Nat.le_of_ble_eq_true rfl) dL_law_1247 ⟨Nat.le_trans (Nat.le_add_right _ 17) hrm.1, Nat.le_trans (Nat.le_add_right _ 64) hrm.2⟩ ?_
  refine r_aload_n K 2 dL_law_1250 rfl rfl ?_
  refine r_aload_n K 0 dL_law_1251 rfl rfl ?_
  refine r_iload_n K 3 dL_law_1252 rfl rfl ?_
  refine r_iconst (v := 1) K dL_law_1253 (by decide) ?_
  refine r_iadd K dL_law_1254 ?_
  refine r_iald K (k := I + 1) (by rw [hY2]) (jixs hY2 hI (c := 1) (by omega) hL rfl) ((h0 (I + 1)).trans (hxs (I + 1) (by omega))) dL_law_1255 ?_
  refine r_aload_n K 0 dL_law_1256 rfl rfl ?_
  refine r_iload_n K 3 dL_law_1257 rfl rfl ?_
  refine r_iconst (v := 2) K dL_law_1258 (by decide) ?_
  refine r_iadd K dL_law_1259 ?_
  refine r_iald K (k := I + 2) (by rw [hY2]) (jixs hY2 hI (c := 2) (by omega) hL rfl) ((h0 (I + 2)).trans (hxs (I + 2) (by omega))) dL_law_1260 ?_
  refine r_aload_n K 0 dL_law_1261 rfl rfl ?_
  refine r_iload_n K 3 dL_law_1262 rfl rfl ?_
  refine r_iconst (v := 3) K dL_law_1263 (by decide) ?_
  refine r_iadd K dL_law_1264 ?_
  refine r_iald K (k := I + 3) (by rw [hY2]) (jixs hY2 hI (c := 3) (by omega) hL rfl) ((h0 (I + 3)).trans (hxs (I + 3) (by omega))) dL_law_1265 ?_
  refine r_aload_n K 0 dL_law_1266 rfl rfl ?_
  refine r_iload_n K 3 dL_law_1267 rfl rfl ?_
  refine r_iconst (v := 4) K dL_law_1268 (by decide) ?_
  refine r_iadd K dL_law_1269 ?_
  refine r_iald K (k := I + 4) (by rw [hY2]) (jixs hY2 hI (c := 4) (by omega) hL rfl) ((h0 (I + 4)).trans (hxs (I + 4) (by omega))) dL_law_1270 ?_
  refine r_callV K hl (c_X12_below l e2) mC_yX12_below mM_RL_135 mI_yX12_below mS_yX12_below mZ_RX12 vc12 hO22 (Nat.le_of_ble_eq_true rfl) (Nat.le_of_ble_eq_true rfl) np_yX12_below rfl (Nat.le_of_ble_eq_true rfl) dL_law_1271 ⟨Nat.le_trans (Nat.le_add_right _ 17) hrm.1, Nat.le_trans (Nat.le_add_right _ 64) hrm.2⟩ ?_
  refine r_icmp_eq K 2112 dL_law_1274 (by decide) (fun _ => ?_) (fun h => absurd heq h)
  exact kk _ _ _ _ _ hInv rfl (Nat.le_refl _)
def so_root (Inv : Nat → jY → jM → Prop) (n : Nat) (Y : jY) (μ : jM) : Prop := ∀ (a1 : Int32) (a2 : Int32) (a3 : Int32) (a4 : Int32), ∃ (z1 z2 : Int32 × jM), f_X11_root Y 1 a1 a2 a3 a4 μ = some z1 ∧ (∀ j, z1.2 0 j = μ 0 j) ∧ f_X12_root Y 95 a1 a2 a3 a4 z1.2 = some z2 ∧ z1.1 = z2.1 ∧ Inv n Y z2.2
set_option maxRecDepth 10000 in
theorem lc_root {X : jX} {l : Launch} {Q : State → Prop} {nc ns n : Nat} {Y : jY} {μ : jM} {L I : Nat} {xs : Nat → Int32} {i : Int32} {Inv : Nat → jY → jM → Prop} (K : jOK X RL cL_law 4 (some .boolean) 1000) (hl : X.2.1 = l) (hY : Y 0 = (20, L)) (hxs : ∀ j, j < L → μ 0 j = .int (xs j)) (hL : L ≤ 3072) (hI : i.toInt = I) (hIL : I + 6 ≤ L) (hrm : nc + 17 ≤ X.2.2.2.1.cells ∧ ns + 64 ≤ X.2.2.2.1.slots) (hO1 : (Y 1).1 = 11) (hO2 : (Y 95).1 = 12) (S : so_root Inv n Y μ) (kk : ∀ nc2 ns2 n2 Y2 μ2, Inv n2 Y2 μ2 → nc2 + n = nc + n2 → ns2 + 64 * n ≤ ns + 64 * n2 → JW X Q nc2 ns2 n2 Y2 2112 [(0, .ref 0), (1, .ref 1), (2, .ref 95), (3, .int i)] [] μ2) : JW X Q nc ns n Y 1279 [(0, .ref 0), (1, .ref 1), (2, .ref 95), (3, .int i)] [] μ := by
  have hY2 := hY
  have hO22 := hO2
  obtain ⟨z1, z2, e1, h0, e2, heq, hInv⟩ := S (xs (I + 1)) (xs (I + 2)) (xs (I + 3)) (xs (I + 4))
  refine r_aload_n K 1 dL_law_1279 rfl rfl ?_
  refine r_aload_n K 0 dL_law_1280 rfl rfl ?_
  refine r_iload_n K 3 dL_law_1281 rfl rfl ?_
  refine r_iconst (v := 1) K dL_law_1282 (by decide) ?_
  refine r_iadd K dL_law_1283 ?_
  refine r_iald K (k := I + 1) (by rw [hY]) (jixs hY hI (c := 1) (by omega) hL rfl) (hxs (I + 1) (by omega)) dL_law_1284 ?_
  refine r_aload_n K 0 dL_law_1285 rfl rfl ?_
  refine r_iload_n K 3 dL_law_1286 rfl rfl ?_
  refine r_iconst (v := 2) K dL_law_1287 (by decide) ?_
  refine r_iadd K dL_law_1288 ?_
  refine r_iald K (k := I + 2) (by rw [hY]) (jixs hY hI (c := 2) (by omega) hL rfl) (hxs (I + 2) (by omega)) dL_law_1289 ?_
  refine r_aload_n K 0 dL_law_1290 rfl rfl ?_
  refine r_iload_n K 3 dL_law_1291 rfl rfl ?_
  refine r_iconst (v := 3) K dL_law_1292 (by decide) ?_
  refine r_iadd K dL_law_1293 ?_
  refine r_iald K (k := I + 3) (by rw [hY]) (jixs hY hI (c := 3) (by omega) hL rfl) (hxs (I + 3) (by omega)) dL_law_1294 ?_
  refine r_aload_n K 0 dL_law_1295 rfl rfl ?_
  refine r_iload_n K 3 dL_law_1296 rfl rfl ?_
  refine r_iconst (v := 4) K dL_law_1297 (by decide) ?_
  refine r_iadd K dL_law_1298 ?_
  refine r_iald K (k := I + 4) (by rw [hY]) (jixs hY hI (c := 4) (by omega) hL rfl) (hxs (I + 4) (by omega)) dL_law_1299 ?_
  refine r_callV K hl (c_X11_root l e1) mC_yX11_root mM_RL_136 mI_yX11_root mS_yX11_root mZ_RX11 vc11 hO1 (Nat.le_of_ble_eq_true rfl) (Nat.le_of_ble_eq_true rfl) np_yX11_root rfl (Nat.le_of_ble_eq_true rfl) dL_law_1300 ⟨Nat.le_trans (Nat.le_add_right _ 17) hrm.1, Nat.le_trans (Nat.le_add_right _ 64) hrm.2⟩ ?_
  refine r_aload_n K 2 dL_law_1303 rfl rfl ?_
  refine r_aload_n K 0 dL_law_1304 rfl rfl ?_
  refine r_iload_n K 3 dL_law_1305 rfl rfl ?_
  refine r_iconst (v := 1) K dL_law_1306 (by decide) ?_
  refine r_iadd K dL_law_1307 ?_
  refine r_iald K (k := I + 1) (by rw [hY2]) (jixs hY2 hI (c := 1) (by omega) hL rfl) ((h0 (I + 1)).trans (hxs (I + 1) (by omega))) dL_law_1308 ?_
  refine r_aload_n K 0 dL_law_1309 rfl rfl ?_
  refine r_iload_n K 3 dL_law_1310 rfl rfl ?_
  refine r_iconst (v := 2) K dL_law_1311 (by decide) ?_
  refine r_iadd K dL_law_1312 ?_
  refine r_iald K (k := I + 2) (by rw [hY2]) (jixs hY2 hI (c := 2) (by omega) hL rfl) ((h0 (I + 2)).trans (hxs (I + 2) (by omega))) dL_law_1313 ?_
  refine r_aload_n K 0 dL_law_1314 rfl rfl ?_
  refine r_iload_n K 3 dL_law_1315 rfl rfl ?_
  refine r_iconst (v := 3) K dL_law_1316 (by decide) ?_
  refine r_iadd K dL_law_1317 ?_
  refine r_iald K (k := I + 3) (by rw [hY2]) (jixs hY2 hI (c := 3) (by omega) hL rfl) ((h0 (I + 3)).trans (hxs (I + 3) (by omega))) dL_law_1318 ?_
  refine r_aload_n K 0 dL_law_1319 rfl rfl ?_
  refine r_iload_n K 3 dL_law_1320 rfl rfl ?_
  refine r_iconst (v := 4) K dL_law_1321 (by decide) ?_
  refine r_iadd K dL_law_1322 ?_
  refine r_iald K (k := I + 4) (by rw [hY2]) (jixs hY2 hI (c := 4) (by omega) hL rfl) ((h0 (I + 4)).trans (hxs (I + 4) (by omega))) dL_law_1323 ?_
  refine r_callV K hl (c_X12_root l e2) mC_yX12_root mM_RL_139 mI_yX12_root mS_yX12_root mZ_RX12 vc12 hO22 (Nat.le_of_ble_eq_true rfl) (Nat.le_of_ble_eq_true rfl) np_yX12_root rfl (Nat.le_of_ble_eq_true rfl) dL_law_1324 ⟨Nat.le_trans (Nat.le_add_right _ 17) hrm.1, Nat.le_trans (Nat.le_add_right _ 64) hrm.2⟩ ?_
  refine r_icmp_eq K 2112 dL_law_1327 (by decide) (fun _ => ?_) (fun h => absurd heq h)
  exact kk _ _ _ _ _ hInv rfl (Nat.le_refl _)
def so_whole (Inv : Nat → jY → jM → Prop) (n : Nat) (Y : jY) (μ : jM) : Prop := ∀ (a1 : Int32) (a2 : Int32), ∃ (z1 z2 : Int32 × jM), f_X11_whole Y 1 a1 a2 μ = some z1 ∧ (∀ j, z1.2 0 j = μ 0 j) ∧ f_X12_whole Y 95 a1 a2 z1.2 = some z2 ∧ z1.1 = z2.1 ∧ Inv n Y z2.2
set_option maxRecDepth 10000 in
theorem lc_whole {X : jX} {l : Launch} {Q : State → Prop} {nc ns n : Nat} {Y : jY} {μ : jM} {L I : Nat} {xs : Nat → Int32} {i : Int32} {Inv : Nat → jY → jM → Prop} (K : jOK X RL cL_law 4 (some .boolean) 1000) (hl : X.2.1 = l) (hY : Y 0 = (20, L)) (hxs : ∀ j, j < L → μ 0 j = .int (xs j)) (hL : L ≤ 3072) (hI : i.toInt = I) (hIL : I + 6 ≤ L) (hrm : nc + 17 ≤ X.2.2.2.1.cells ∧ ns + 64 ≤ X.2.2.2.1.slots) (hO1 : (Y 1).1 = 11) (hO2 : (Y 95).1 = 12) (S : so_whole Inv n Y μ) (kk : ∀ nc2 ns2 n2 Y2 μ2, Inv n2 Y2 μ2 → nc2 + n = nc + n2 → ns2 + 64 * n ≤ ns + 64 * n2 → JW X Q nc2 ns2 n2 Y2 2112 [(0, .ref 0), (1, .ref 1), (2, .ref 95), (3, .int i)] [] μ2) : JW X Q nc ns n Y 1332 [(0, .ref 0), (1, .ref 1), (2, .ref 95), (3, .int i)] [] μ := by
  have hY2 := hY
  have hO22 := hO2
  obtain ⟨z1, z2, e1, h0, e2, heq, hInv⟩ := S (xs (I + 1)) (xs (I + 2))
  refine r_aload_n K 1 dL_law_1332 rfl rfl ?_
  refine r_aload_n K 0 dL_law_1333 rfl rfl ?_
  refine r_iload_n K 3 dL_law_1334 rfl rfl ?_
  refine r_iconst (v := 1) K dL_law_1335 (by decide) ?_
  refine r_iadd K dL_law_1336 ?_
  refine r_iald K (k := I + 1) (by rw [hY]) (jixs hY hI (c := 1) (by omega) hL rfl) (hxs (I + 1) (by omega)) dL_law_1337 ?_
  refine r_aload_n K 0 dL_law_1338 rfl rfl ?_
  refine r_iload_n K 3 dL_law_1339 rfl rfl ?_
  refine r_iconst (v := 2) K dL_law_1340 (by decide) ?_
  refine r_iadd K dL_law_1341 ?_
  refine r_iald K (k := I + 2) (by rw [hY]) (jixs hY hI (c := 2) (by omega) hL rfl) (hxs (I + 2) (by omega)) dL_law_1342 ?_
  refine r_callV K hl (c_X11_whole l e1) mC_yX11_whole mM_RL_140 mI_yX11_whole mS_yX11_whole mZ_RX11 vc11 hO1 (Nat.le_of_ble_eq_true rfl) (Nat.le_of_ble_eq_true rfl) np_yX11_whole rfl (Nat.le_of_ble_eq_true rfl) dL_law_1343 ⟨Nat.le_trans (Nat.le_add_right _ 17) hrm.1, Nat.le_trans (Nat.le_add_right _ 64) hrm.2⟩ ?_
  refine r_aload_n K 2 dL_law_1346 rfl rfl ?_
  refine r_aload_n K 0 dL_law_1347 rfl rfl ?_
  refine r_iload_n K 3 dL_law_1348 rfl rfl ?_
  refine r_iconst (v := 1) K dL_law_1349 (by decide) ?_
  refine r_iadd K dL_law_1350 ?_
  refine r_iald K (k := I + 1) (by rw [hY2]) (jixs hY2 hI (c := 1) (by omega) hL rfl) ((h0 (I + 1)).trans (hxs (I + 1) (by omega))) dL_law_1351 ?_
  refine r_aload_n K 0 dL_law_1352 rfl rfl ?_
  refine r_iload_n K 3 dL_law_1353 rfl rfl ?_
  refine r_iconst (v := 2) K dL_law_1354 (by decide) ?_
  refine r_iadd K dL_law_1355 ?_
  refine r_iald K (k := I + 2) (by rw [hY2]) (jixs hY2 hI (c := 2) (by omega) hL rfl) ((h0 (I + 2)).trans (hxs (I + 2) (by omega))) dL_law_1356 ?_
  refine r_callV K hl (c_X12_whole l e2) mC_yX12_whole mM_RL_143 mI_yX12_whole mS_yX12_whole mZ_RX12 vc12 hO22 (Nat.le_of_ble_eq_true rfl) (Nat.le_of_ble_eq_true rfl) np_yX12_whole rfl (Nat.le_of_ble_eq_true rfl) dL_law_1357 ⟨Nat.le_trans (Nat.le_add_right _ 17) hrm.1, Nat.le_trans (Nat.le_add_right _ 64) hrm.2⟩ ?_
  refine r_icmp_eq K 2112 dL_law_1360 (by decide) (fun _ => ?_) (fun h => absurd heq h)
  exact kk _ _ _ _ _ hInv rfl (Nat.le_refl _)
def so_inverse (Inv : Nat → jY → jM → Prop) (n : Nat) (Y : jY) (μ : jM) : Prop := ∀ (a1 : Int32) (a2 : Int32) (a3 : Int32) (a4 : Int32), ∃ (z1 z2 : Int64 × jM), f_X11_inverse Y 1 a1 a2 a3 a4 μ = some z1 ∧ (∀ j, z1.2 0 j = μ 0 j) ∧ f_X12_inverse Y 95 a1 a2 a3 a4 z1.2 = some z2 ∧ z1.1 = z2.1 ∧ Inv n Y z2.2
set_option maxRecDepth 10000 in
theorem lc_inverse {X : jX} {l : Launch} {Q : State → Prop} {nc ns n : Nat} {Y : jY} {μ : jM} {L I : Nat} {xs : Nat → Int32} {i : Int32} {Inv : Nat → jY → jM → Prop} (K : jOK X RL cL_law 4 (some .boolean) 1000) (hl : X.2.1 = l) (hY : Y 0 = (20, L)) (hxs : ∀ j, j < L → μ 0 j = .int (xs j)) (hL : L ≤ 3072) (hI : i.toInt = I) (hIL : I + 6 ≤ L) (hrm : nc + 17 ≤ X.2.2.2.1.cells ∧ ns + 64 ≤ X.2.2.2.1.slots) (hO1 : (Y 1).1 = 11) (hO2 : (Y 95).1 = 12) (S : so_inverse Inv n Y μ) (kk : ∀ nc2 ns2 n2 Y2 μ2, Inv n2 Y2 μ2 → nc2 + n = nc + n2 → ns2 + 64 * n ≤ ns + 64 * n2 → JW X Q nc2 ns2 n2 Y2 2112 [(0, .ref 0), (1, .ref 1), (2, .ref 95), (3, .int i)] [] μ2) : JW X Q nc ns n Y 1365 [(0, .ref 0), (1, .ref 1), (2, .ref 95), (3, .int i)] [] μ := by
  have hY2 := hY
  have hO22 := hO2
  obtain ⟨z1, z2, e1, h0, e2, heq, hInv⟩ := S (xs (I + 1)) (xs (I + 2)) (xs (I + 3)) (xs (I + 4))
  refine r_aload_n K 1 dL_law_1365 rfl rfl ?_
  refine r_aload_n K 0 dL_law_1366 rfl rfl ?_
  refine r_iload_n K 3 dL_law_1367 rfl rfl ?_
  refine r_iconst (v := 1) K dL_law_1368 (by decide) ?_
  refine r_iadd K dL_law_1369 ?_
  refine r_iald K (k := I + 1) (by rw [hY]) (jixs hY hI (c := 1) (by omega) hL rfl) (hxs (I + 1) (by omega)) dL_law_1370 ?_
  refine r_aload_n K 0 dL_law_1371 rfl rfl ?_
  refine r_iload_n K 3 dL_law_1372 rfl rfl ?_
  refine r_iconst (v := 2) K dL_law_1373 (by decide) ?_
  refine r_iadd K dL_law_1374 ?_
  refine r_iald K (k := I + 2) (by rw [hY]) (jixs hY hI (c := 2) (by omega) hL rfl) (hxs (I + 2) (by omega)) dL_law_1375 ?_
  refine r_aload_n K 0 dL_law_1376 rfl rfl ?_
  refine r_iload_n K 3 dL_law_1377 rfl rfl ?_
  refine r_iconst (v := 3) K dL_law_1378 (by decide) ?_
  refine r_iadd K dL_law_1379 ?_
  refine r_iald K (k := I + 3) (by rw [hY]) (jixs hY hI (c := 3) (by omega) hL rfl) (hxs (I + 3) (by omega)) dL_law_1380 ?_
  refine r_aload_n K 0 dL_law_1381 rfl rfl ?_
  refine r_iload_n K 3 dL_law_1382 rfl rfl ?_
  refine r_iconst (v := 4) K dL_law_1383 (by decide) ?_
  refine r_iadd K dL_law_1384 ?_
  refine r_iald K (k := I + 4) (by rw [hY]) (jixs hY hI (c := 4) (by omega) hL rfl) (hxs (I + 4) (by omega)) dL_law_1385 ?_
  refine r_callV K hl (c_X11_inverse l e1) mC_yX11_inverse mM_RL_144 mI_yX11_inverse mS_yX11_inverse mZ_RX11 vc11 hO1 (Nat.le_of_ble_eq_true rfl) (Nat.le_of_ble_eq_true rfl) np_yX11_inverse rfl (Nat.le_of_ble_eq_true rfl) dL_law_1386 ⟨Nat.le_trans (Nat.le_add_right _ 17) hrm.1, Nat.le_trans (Nat.le_add_right _ 64) hrm.2⟩ ?_
  refine r_aload_n K 2 dL_law_1389 rfl rfl ?_
  refine r_aload_n K 0 dL_law_1390 rfl rfl ?_
  refine r_iload_n K 3 dL_law_1391 rfl rfl ?_
  refine r_iconst (v := 1) K dL_law_1392 (by decide) ?_
  refine r_iadd K dL_law_1393 ?_
  refine r_iald K (k := I + 1) (by rw [hY2]) (jixs hY2 hI (c := 1) (by omega) hL rfl) ((h0 (I + 1)).trans (hxs (I + 1) (by omega))) dL_law_1394 ?_
  refine r_aload_n K 0 dL_law_1395 rfl rfl ?_
  refine r_iload_n K 3 dL_law_1396 rfl rfl ?_
  refine r_iconst (v := 2) K dL_law_1397 (by decide) ?_
  refine r_iadd K dL_law_1398 ?_
  refine r_iald K (k := I + 2) (by rw [hY2]) (jixs hY2 hI (c := 2) (by omega) hL rfl) ((h0 (I + 2)).trans (hxs (I + 2) (by omega))) dL_law_1399 ?_
  refine r_aload_n K 0 dL_law_1400 rfl rfl ?_
  refine r_iload_n K 3 dL_law_1401 rfl rfl ?_
  refine r_iconst (v := 3) K dL_law_1402 (by decide) ?_
  refine r_iadd K dL_law_1403 ?_
  refine r_iald K (k := I + 3) (by rw [hY2]) (jixs hY2 hI (c := 3) (by omega) hL rfl) ((h0 (I + 3)).trans (hxs (I + 3) (by omega))) dL_law_1404 ?_
  refine r_aload_n K 0 dL_law_1405 rfl rfl ?_
  refine r_iload_n K 3 dL_law_1406 rfl rfl ?_
  refine r_iconst (v := 4) K dL_law_1407 (by decide) ?_
  refine r_iadd K dL_law_1408 ?_
  refine r_iald K (k := I + 4) (by rw [hY2]) (jixs hY2 hI (c := 4) (by omega) hL rfl) ((h0 (I + 4)).trans (hxs (I + 4) (by omega))) dL_law_1409 ?_
  refine r_callV K hl (c_X12_inverse l e2) mC_yX12_inverse mM_RL_148 mI_yX12_inverse mS_yX12_inverse mZ_RX12 vc12 hO22 (Nat.le_of_ble_eq_true rfl) (Nat.le_of_ble_eq_true rfl) np_yX12_inverse rfl (Nat.le_of_ble_eq_true rfl) dL_law_1410 ⟨Nat.le_trans (Nat.le_add_right _ 17) hrm.1, Nat.le_trans (Nat.le_add_right _ 64) hrm.2⟩ ?_
  refine r_lcmp K dL_law_1413 ?_
  refine r_if_eq K 2112 dL_law_1414 (by decide) (fun _ => ?_) (fun h => absurd (by rw [heq]; exact jcmp_self _) h)
  exact kk _ _ _ _ _ hInv rfl (Nat.le_refl _)
def so_alike (Inv : Nat → jY → jM → Prop) (n : Nat) (Y : jY) (μ : jM) : Prop := ∀ (a1 : Int32) (a2 : Int32) (a3 : Int32), ∃ (z1 z2 : Int32 × jM), f_X11_alike Y 1 a1 a2 a3 μ = some z1 ∧ (∀ j, z1.2 0 j = μ 0 j) ∧ f_X12_alike Y 95 a1 a2 a3 z1.2 = some z2 ∧ z1.1 = z2.1 ∧ Inv n Y z2.2
set_option maxRecDepth 10000 in
theorem lc_alike {X : jX} {l : Launch} {Q : State → Prop} {nc ns n : Nat} {Y : jY} {μ : jM} {L I : Nat} {xs : Nat → Int32} {i : Int32} {Inv : Nat → jY → jM → Prop} (K : jOK X RL cL_law 4 (some .boolean) 1000) (hl : X.2.1 = l) (hY : Y 0 = (20, L)) (hxs : ∀ j, j < L → μ 0 j = .int (xs j)) (hL : L ≤ 3072) (hI : i.toInt = I) (hIL : I + 6 ≤ L) (hrm : nc + 17 ≤ X.2.2.2.1.cells ∧ ns + 64 ≤ X.2.2.2.1.slots) (hO1 : (Y 1).1 = 11) (hO2 : (Y 95).1 = 12) (S : so_alike Inv n Y μ) (kk : ∀ nc2 ns2 n2 Y2 μ2, Inv n2 Y2 μ2 → nc2 + n = nc + n2 → ns2 + 64 * n ≤ ns + 64 * n2 → JW X Q nc2 ns2 n2 Y2 2112 [(0, .ref 0), (1, .ref 1), (2, .ref 95), (3, .int i)] [] μ2) : JW X Q nc ns n Y 1419 [(0, .ref 0), (1, .ref 1), (2, .ref 95), (3, .int i)] [] μ := by
  have hY2 := hY
  have hO22 := hO2
  obtain ⟨z1, z2, e1, h0, e2, heq, hInv⟩ := S (xs (I + 1)) (xs (I + 2)) (xs (I + 3))
  refine r_aload_n K 1 dL_law_1419 rfl rfl ?_
  refine r_aload_n K 0 dL_law_1420 rfl rfl ?_
  refine r_iload_n K 3 dL_law_1421 rfl rfl ?_
  refine r_iconst (v := 1) K dL_law_1422 (by decide) ?_
  refine r_iadd K dL_law_1423 ?_
  refine r_iald K (k := I + 1) (by rw [hY]) (jixs hY hI (c := 1) (by omega) hL rfl) (hxs (I + 1) (by omega)) dL_law_1424 ?_
  refine r_aload_n K 0 dL_law_1425 rfl rfl ?_
  refine r_iload_n K 3 dL_law_1426 rfl rfl ?_
  refine r_iconst (v := 2) K dL_law_1427 (by decide) ?_
  refine r_iadd K dL_law_1428 ?_
  refine r_iald K (k := I + 2) (by rw [hY]) (jixs hY hI (c := 2) (by omega) hL rfl) (hxs (I + 2) (by omega)) dL_law_1429 ?_
  refine r_aload_n K 0 dL_law_1430 rfl rfl ?_
  refine r_iload_n K 3 dL_law_1431 rfl rfl ?_
  refine r_iconst (v := 3) K dL_law_1432 (by decide) ?_
  refine r_iadd K dL_law_1433 ?_
  refine r_iald K (k := I + 3) (by rw [hY]) (jixs hY hI (c := 3) (by omega) hL rfl) (hxs (I + 3) (by omega)) dL_law_1434 ?_
  refine r_callV K hl (c_X11_alike l e1) mC_yX11_alike mM_RL_149 mI_yX11_alike mS_yX11_alike mZ_RX11 vc11 hO1 (Nat.le_of_ble_eq_true rfl) (Nat.le_of_ble_eq_true rfl) np_yX11_alike rfl (Nat.le_of_ble_eq_true rfl) dL_law_1435 ⟨Nat.le_trans (Nat.le_add_right _ 17) hrm.1, Nat.le_trans (Nat.le_add_right _ 64) hrm.2⟩ ?_
  refine r_aload_n K 2 dL_law_1438 rfl rfl ?_
  refine r_aload_n K 0 dL_law_1439 rfl rfl ?_
  refine r_iload_n K 3 dL_law_1440 rfl rfl ?_
  refine r_iconst (v := 1) K dL_law_1441 (by decide) ?_
  refine r_iadd K dL_law_1442 ?_
  refine r_iald K (k := I + 1) (by rw [hY2]) (jixs hY2 hI (c := 1) (by omega) hL rfl) ((h0 (I + 1)).trans (hxs (I + 1) (by omega))) dL_law_1443 ?_
  refine r_aload_n K 0 dL_law_1444 rfl rfl ?_
  refine r_iload_n K 3 dL_law_1445 rfl rfl ?_
  refine r_iconst (v := 2) K dL_law_1446 (by decide) ?_
  refine r_iadd K dL_law_1447 ?_
  refine r_iald K (k := I + 2) (by rw [hY2]) (jixs hY2 hI (c := 2) (by omega) hL rfl) ((h0 (I + 2)).trans (hxs (I + 2) (by omega))) dL_law_1448 ?_
  refine r_aload_n K 0 dL_law_1449 rfl rfl ?_
  refine r_iload_n K 3 dL_law_1450 rfl rfl ?_
  refine r_iconst (v := 3) K dL_law_1451 (by decide) ?_
  refine r_iadd K dL_law_1452 ?_
  refine r_iald K (k := I + 3) (by rw [hY2]) (jixs hY2 hI (c := 3) (by omega) hL rfl) ((h0 (I + 3)).trans (hxs (I + 3) (by omega))) dL_law_1453 ?_
  refine r_callV K hl (c_X12_alike l e2) mC_yX12_alike mM_RL_153 mI_yX12_alike mS_yX12_alike mZ_RX12 vc12 hO22 (Nat.le_of_ble_eq_true rfl) (Nat.le_of_ble_eq_true rfl) np_yX12_alike rfl (Nat.le_of_ble_eq_true rfl) dL_law_1454 ⟨Nat.le_trans (Nat.le_add_right _ 17) hrm.1, Nat.le_trans (Nat.le_add_right _ 64) hrm.2⟩ ?_
  refine r_icmp_eq K 2112 dL_law_1457 (by decide) (fun _ => ?_) (fun h => absurd heq h)
  exact kk _ _ _ _ _ hInv rfl (Nat.le_refl _)
def so_between (Inv : Nat → jY → jM → Prop) (n : Nat) (Y : jY) (μ : jM) : Prop := ∀ (a1 : Int32) (a2 : Int32) (a3 : Int32), ∃ (z1 z2 : Int32 × jM), f_X11_between Y 1 a1 a2 a3 μ = some z1 ∧ (∀ j, z1.2 0 j = μ 0 j) ∧ f_X12_between Y 95 a1 a2 a3 z1.2 = some z2 ∧ z1.1 = z2.1 ∧ Inv n Y z2.2
set_option maxRecDepth 10000 in
theorem lc_between {X : jX} {l : Launch} {Q : State → Prop} {nc ns n : Nat} {Y : jY} {μ : jM} {L I : Nat} {xs : Nat → Int32} {i : Int32} {Inv : Nat → jY → jM → Prop} (K : jOK X RL cL_law 4 (some .boolean) 1000) (hl : X.2.1 = l) (hY : Y 0 = (20, L)) (hxs : ∀ j, j < L → μ 0 j = .int (xs j)) (hL : L ≤ 3072) (hI : i.toInt = I) (hIL : I + 6 ≤ L) (hrm : nc + 17 ≤ X.2.2.2.1.cells ∧ ns + 64 ≤ X.2.2.2.1.slots) (hO1 : (Y 1).1 = 11) (hO2 : (Y 95).1 = 12) (S : so_between Inv n Y μ) (kk : ∀ nc2 ns2 n2 Y2 μ2, Inv n2 Y2 μ2 → nc2 + n = nc + n2 → ns2 + 64 * n ≤ ns + 64 * n2 → JW X Q nc2 ns2 n2 Y2 2112 [(0, .ref 0), (1, .ref 1), (2, .ref 95), (3, .int i)] [] μ2) : JW X Q nc ns n Y 1462 [(0, .ref 0), (1, .ref 1), (2, .ref 95), (3, .int i)] [] μ := by
  have hY2 := hY
  have hO22 := hO2
  obtain ⟨z1, z2, e1, h0, e2, heq, hInv⟩ := S (xs (I + 1)) (xs (I + 2)) (xs (I + 3))
  refine r_aload_n K 1 dL_law_1462 rfl rfl ?_
  refine r_aload_n K 0 dL_law_1463 rfl rfl ?_
  refine r_iload_n K 3 dL_law_1464 rfl rfl ?_
  refine r_iconst (v := 1) K dL_law_1465 (by decide) ?_
  refine r_iadd K dL_law_1466 ?_
  refine r_iald K (k := I + 1) (by rw [hY]) (jixs hY hI (c := 1) (by omega) hL rfl) (hxs (I + 1) (by omega)) dL_law_1467 ?_
  refine r_aload_n K 0 dL_law_1468 rfl rfl ?_
  refine r_iload_n K 3 dL_law_1469 rfl rfl ?_
  refine r_iconst (v := 2) K dL_law_1470 (by decide) ?_
  refine r_iadd K dL_law_1471 ?_
  refine r_iald K (k := I + 2) (by rw [hY]) (jixs hY hI (c := 2) (by omega) hL rfl) (hxs (I + 2) (by omega)) dL_law_1472 ?_
  refine r_aload_n K 0 dL_law_1473 rfl rfl ?_
  refine r_iload_n K 3 dL_law_1474 rfl rfl ?_
  refine r_iconst (v := 3) K dL_law_1475 (by decide) ?_
  refine r_iadd K dL_law_1476 ?_
  refine r_iald K (k := I + 3) (by rw [hY]) (jixs hY hI (c := 3) (by omega) hL rfl) (hxs (I + 3) (by omega)) dL_law_1477 ?_
  refine r_callV K hl (c_X11_between l e1) mC_yX11_between mM_RL_154 mI_yX11_between mS_yX11_between mZ_RX11 vc11 hO1 (Nat.le_of_ble_eq_true rfl) (Nat.le_of_ble_eq_true rfl) np_yX11_between rfl (Nat.le_of_ble_eq_true rfl) dL_law_1478 ⟨Nat.le_trans (Nat.le_add_right _ 17) hrm.1, Nat.le_trans (Nat.le_add_right _ 64) hrm.2⟩ ?_
  refine r_aload_n K 2 dL_law_1481 rfl rfl ?_
  refine r_aload_n K 0 dL_law_1482 rfl rfl ?_
  refine r_iload_n K 3 dL_law_1483 rfl rfl ?_
  refine r_iconst (v := 1) K dL_law_1484 (by decide) ?_
  refine r_iadd K dL_law_1485 ?_
  refine r_iald K (k := I + 1) (by rw [hY2]) (jixs hY2 hI (c := 1) (by omega) hL rfl) ((h0 (I + 1)).trans (hxs (I + 1) (by omega))) dL_law_1486 ?_
  refine r_aload_n K 0 dL_law_1487 rfl rfl ?_
  refine r_iload_n K 3 dL_law_1488 rfl rfl ?_
  refine r_iconst (v := 2) K dL_law_1489 (by decide) ?_
  refine r_iadd K dL_law_1490 ?_
  refine r_iald K (k := I + 2) (by rw [hY2]) (jixs hY2 hI (c := 2) (by omega) hL rfl) ((h0 (I + 2)).trans (hxs (I + 2) (by omega))) dL_law_1491 ?_
  refine r_aload_n K 0 dL_law_1492 rfl rfl ?_
  refine r_iload_n K 3 dL_law_1493 rfl rfl ?_
  refine r_iconst (v := 3) K dL_law_1494 (by decide) ?_
  refine r_iadd K dL_law_1495 ?_
  refine r_iald K (k := I + 3) (by rw [hY2]) (jixs hY2 hI (c := 3) (by omega) hL rfl) ((h0 (I + 3)).trans (hxs (I + 3) (by omega))) dL_law_1496 ?_
  refine r_callV K hl (c_X12_between l e2) mC_yX12_between mM_RL_157 mI_yX12_between mS_yX12_between mZ_RX12 vc12 hO22 (Nat.le_of_ble_eq_true rfl) (Nat.le_of_ble_eq_true rfl) np_yX12_between rfl (Nat.le_of_ble_eq_true rfl) dL_law_1497 ⟨Nat.le_trans (Nat.le_add_right _ 17) hrm.1, Nat.le_trans (Nat.le_add_right _ 64) hrm.2⟩ ?_
  refine r_icmp_eq K 2112 dL_law_1500 (by decide) (fun _ => ?_) (fun h => absurd heq h)
  exact kk _ _ _ _ _ hInv rfl (Nat.le_refl _)
def so_change (Inv : Nat → jY → jM → Prop) (n : Nat) (Y : jY) (μ : jM) : Prop := ∀ (a1 : Int32) (a2 : Int32), ∃ (z1 z2 : Int32 × jM), f_X11_change Y 1 a1 a2 μ = some z1 ∧ (∀ j, z1.2 0 j = μ 0 j) ∧ f_X12_change Y 95 a1 a2 z1.2 = some z2 ∧ z1.1 = z2.1 ∧ Inv n Y z2.2
set_option maxRecDepth 10000 in
theorem lc_change {X : jX} {l : Launch} {Q : State → Prop} {nc ns n : Nat} {Y : jY} {μ : jM} {L I : Nat} {xs : Nat → Int32} {i : Int32} {Inv : Nat → jY → jM → Prop} (K : jOK X RL cL_law 4 (some .boolean) 1000) (hl : X.2.1 = l) (hY : Y 0 = (20, L)) (hxs : ∀ j, j < L → μ 0 j = .int (xs j)) (hL : L ≤ 3072) (hI : i.toInt = I) (hIL : I + 6 ≤ L) (hrm : nc + 17 ≤ X.2.2.2.1.cells ∧ ns + 64 ≤ X.2.2.2.1.slots) (hO1 : (Y 1).1 = 11) (hO2 : (Y 95).1 = 12) (S : so_change Inv n Y μ) (kk : ∀ nc2 ns2 n2 Y2 μ2, Inv n2 Y2 μ2 → nc2 + n = nc + n2 → ns2 + 64 * n ≤ ns + 64 * n2 → JW X Q nc2 ns2 n2 Y2 2112 [(0, .ref 0), (1, .ref 1), (2, .ref 95), (3, .int i)] [] μ2) : JW X Q nc ns n Y 1505 [(0, .ref 0), (1, .ref 1), (2, .ref 95), (3, .int i)] [] μ := by
  have hY2 := hY
  have hO22 := hO2
  obtain ⟨z1, z2, e1, h0, e2, heq, hInv⟩ := S (xs (I + 1)) (xs (I + 2))
  refine r_aload_n K 1 dL_law_1505 rfl rfl ?_
  refine r_aload_n K 0 dL_law_1506 rfl rfl ?_
  refine r_iload_n K 3 dL_law_1507 rfl rfl ?_
  refine r_iconst (v := 1) K dL_law_1508 (by decide) ?_
  refine r_iadd K dL_law_1509 ?_
  refine r_iald K (k := I + 1) (by rw [hY]) (jixs hY hI (c := 1) (by omega) hL rfl) (hxs (I + 1) (by omega)) dL_law_1510 ?_
  refine r_aload_n K 0 dL_law_1511 rfl rfl ?_
  refine r_iload_n K 3 dL_law_1512 rfl rfl ?_
  refine r_iconst (v := 2) K dL_law_1513 (by decide) ?_
  refine r_iadd K dL_law_1514 ?_
  refine r_iald K (k := I + 2) (by rw [hY]) (jixs hY hI (c := 2) (by omega) hL rfl) (hxs (I + 2) (by omega)) dL_law_1515 ?_
  refine r_callV K hl (c_X11_change l e1) mC_yX11_change mM_RL_158 mI_yX11_change mS_yX11_change mZ_RX11 vc11 hO1 (Nat.le_of_ble_eq_true rfl) (Nat.le_of_ble_eq_true rfl) np_yX11_change rfl (Nat.le_of_ble_eq_true rfl) dL_law_1516 ⟨Nat.le_trans (Nat.le_add_right _ 17) hrm.1, Nat.le_trans (Nat.le_add_right _ 64) hrm.2⟩ ?_
  refine r_aload_n K 2 dL_law_1519 rfl rfl ?_
  refine r_aload_n K 0 dL_law_1520 rfl rfl ?_
  refine r_iload_n K 3 dL_law_1521 rfl rfl ?_
  refine r_iconst (v := 1) K dL_law_1522 (by decide) ?_
  refine r_iadd K dL_law_1523 ?_
  refine r_iald K (k := I + 1) (by rw [hY2]) (jixs hY2 hI (c := 1) (by omega) hL rfl) ((h0 (I + 1)).trans (hxs (I + 1) (by omega))) dL_law_1524 ?_
  refine r_aload_n K 0 dL_law_1525 rfl rfl ?_
  refine r_iload_n K 3 dL_law_1526 rfl rfl ?_
  refine r_iconst (v := 2) K dL_law_1527 (by decide) ?_
  refine r_iadd K dL_law_1528 ?_
  refine r_iald K (k := I + 2) (by rw [hY2]) (jixs hY2 hI (c := 2) (by omega) hL rfl) ((h0 (I + 2)).trans (hxs (I + 2) (by omega))) dL_law_1529 ?_
  refine r_callV K hl (c_X12_change l e2) mC_yX12_change mM_RL_161 mI_yX12_change mS_yX12_change mZ_RX12 vc12 hO22 (Nat.le_of_ble_eq_true rfl) (Nat.le_of_ble_eq_true rfl) np_yX12_change rfl (Nat.le_of_ble_eq_true rfl) dL_law_1530 ⟨Nat.le_trans (Nat.le_add_right _ 17) hrm.1, Nat.le_trans (Nat.le_add_right _ 64) hrm.2⟩ ?_
  refine r_icmp_eq K 2112 dL_law_1533 (by decide) (fun _ => ?_) (fun h => absurd heq h)
  exact kk _ _ _ _ _ hInv rfl (Nat.le_refl _)
def so_would (Inv : Nat → jY → jM → Prop) (n : Nat) (Y : jY) (μ : jM) : Prop := ∀ (a1 : Int32) (a2 : Int32) (a3 : Int32) (a4 : Int32) (a5 : Int32), (a2 = 0 ∨ a2 = 1) → ∃ (z1 z2 : Int64 × jM), f_X11_would Y 1 a1 a2 a3 a4 a5 μ = some z1 ∧ (∀ j, z1.2 0 j = μ 0 j) ∧ f_X12_would Y 95 a1 a2 a3 a4 a5 z1.2 = some z2 ∧ z1.1 = z2.1 ∧ Inv n Y z2.2
set_option maxRecDepth 10000 in
theorem lc_would {X : jX} {l : Launch} {Q : State → Prop} {nc ns n : Nat} {Y : jY} {μ : jM} {L I : Nat} {xs : Nat → Int32} {i : Int32} {Inv : Nat → jY → jM → Prop} (K : jOK X RL cL_law 4 (some .boolean) 1000) (hl : X.2.1 = l) (hY : Y 0 = (20, L)) (hxs : ∀ j, j < L → μ 0 j = .int (xs j)) (hL : L ≤ 3072) (hI : i.toInt = I) (hIL : I + 6 ≤ L) (hrm : nc + 17 ≤ X.2.2.2.1.cells ∧ ns + 64 ≤ X.2.2.2.1.slots) (hO1 : (Y 1).1 = 11) (hO2 : (Y 95).1 = 12) (S : so_would Inv n Y μ) (kk : ∀ nc2 ns2 n2 Y2 μ2, Inv n2 Y2 μ2 → nc2 + n = nc + n2 → ns2 + 64 * n ≤ ns + 64 * n2 → JW X Q nc2 ns2 n2 Y2 2112 [(0, .ref 0), (1, .ref 1), (2, .ref 95), (3, .int i)] [] μ2) : JW X Q nc ns n Y 1538 [(0, .ref 0), (1, .ref 1), (2, .ref 95), (3, .int i)] [] μ := by
  have hY2 := hY
  have hO22 := hO2
  by_cases hb : xs (I + 2) = 0
  · obtain ⟨z1, z2, e1, h0, e2, heq, hInv⟩ := S (xs (I + 1)) (0 : Int32) (xs (I + 3)) (xs (I + 4)) (xs (I + 5)) (Or.inl rfl)
    refine r_aload_n K 1 dL_law_1538 rfl rfl ?_
    refine r_aload_n K 0 dL_law_1539 rfl rfl ?_
    refine r_iload_n K 3 dL_law_1540 rfl rfl ?_
    refine r_iconst (v := 1) K dL_law_1541 (by decide) ?_
    refine r_iadd K dL_law_1542 ?_
    refine r_iald K (k := I + 1) (by rw [hY]) (jixs hY hI (c := 1) (by omega) hL rfl) (hxs (I + 1) (by omega)) dL_law_1543 ?_
    refine r_aload_n K 0 dL_law_1544 rfl rfl ?_
    refine r_iload_n K 3 dL_law_1545 rfl rfl ?_
    refine r_iconst (v := 2) K dL_law_1546 (by decide) ?_
    refine r_iadd K dL_law_1547 ?_
    refine r_iald K (k := I + 2) (by rw [hY]) (jixs hY hI (c := 2) (by omega) hL rfl) (hxs (I + 2) (by omega)) dL_law_1548 ?_
    refine r_if_eq K 1556 dL_law_1549 (by decide) (fun _ => ?_) (fun h => absurd hb h)
    refine r_iconst (v := 0) K dL_law_1556 (by decide) ?_
    refine r_aload_n K 0 dL_law_1557 rfl rfl ?_
    refine r_iload_n K 3 dL_law_1558 rfl rfl ?_
    refine r_iconst (v := 3) K dL_law_1559 (by decide) ?_
    refine r_iadd K dL_law_1560 ?_
    refine r_iald K (k := I + 3) (by rw [hY]) (jixs hY hI (c := 3) (by omega) hL rfl) (hxs (I + 3) (by omega)) dL_law_1561 ?_
    refine r_aload_n K 0 dL_law_1562 rfl rfl ?_
    refine r_iload_n K 3 dL_law_1563 rfl rfl ?_
    refine r_iconst (v := 4) K dL_law_1564 (by decide) ?_
    refine r_iadd K dL_law_1565 ?_
    refine r_iald K (k := I + 4) (by rw [hY]) (jixs hY hI (c := 4) (by omega) hL rfl) (hxs (I + 4) (by omega)) dL_law_1566 ?_
    refine r_aload_n K 0 dL_law_1567 rfl rfl ?_
    refine r_iload_n K 3 dL_law_1568 rfl rfl ?_
    refine r_iconst (v := 5) K dL_law_1569 (by decide) ?_
    refine r_iadd K dL_law_1570 ?_
    refine r_iald K (k := I + 5) (by rw [hY]) (jixs hY hI (c := 5) (by omega) hL rfl) (hxs (I + 5) (by omega)) dL_law_1571 ?_
    refine r_callV K hl (c_X11_would l e1) mC_yX11_would mM_RL_162 mI_yX11_would mS_yX11_would mZ_RX11 vc11 hO1 (Nat.le_of_ble_eq_true rfl) (Nat.le_of_ble_eq_true rfl) np_yX11_would rfl (Nat.le_of_ble_eq_true rfl) dL_law_1572 ⟨Nat.le_trans (Nat.le_add_right _ 17) hrm.1, Nat.le_trans (Nat.le_add_right _ 64) hrm.2⟩ ?_
    refine r_aload_n K 2 dL_law_1575 rfl rfl ?_
    refine r_aload_n K 0 dL_law_1576 rfl rfl ?_
    refine r_iload_n K 3 dL_law_1577 rfl rfl ?_
    refine r_iconst (v := 1) K dL_law_1578 (by decide) ?_
    refine r_iadd K dL_law_1579 ?_
    refine r_iald K (k := I + 1) (by rw [hY2]) (jixs hY2 hI (c := 1) (by omega) hL rfl) ((h0 (I + 1)).trans (hxs (I + 1) (by omega))) dL_law_1580 ?_
    refine r_aload_n K 0 dL_law_1581 rfl rfl ?_
    refine r_iload_n K 3 dL_law_1582 rfl rfl ?_
    refine r_iconst (v := 2) K dL_law_1583 (by decide) ?_
    refine r_iadd K dL_law_1584 ?_
    refine r_iald K (k := I + 2) (by rw [hY2]) (jixs hY2 hI (c := 2) (by omega) hL rfl) ((h0 (I + 2)).trans (hxs (I + 2) (by omega))) dL_law_1585 ?_
    refine r_if_eq K 1593 dL_law_1586 (by decide) (fun _ => ?_) (fun h => absurd hb h)
    refine r_iconst (v := 0) K dL_law_1593 (by decide) ?_
    refine r_aload_n K 0 dL_law_1594 rfl rfl ?_
    refine r_iload_n K 3 dL_law_1595 rfl rfl ?_
    refine r_iconst (v := 3) K dL_law_1596 (by decide) ?_
    refine r_iadd K dL_law_1597 ?_
    refine r_iald K (k := I + 3) (by rw [hY2]) (jixs hY2 hI (c := 3) (by omega) hL rfl) ((h0 (I + 3)).trans (hxs (I + 3) (by omega))) dL_law_1598 ?_
    refine r_aload_n K 0 dL_law_1599 rfl rfl ?_
    refine r_iload_n K 3 dL_law_1600 rfl rfl ?_
    refine r_iconst (v := 4) K dL_law_1601 (by decide) ?_
    refine r_iadd K dL_law_1602 ?_
    refine r_iald K (k := I + 4) (by rw [hY2]) (jixs hY2 hI (c := 4) (by omega) hL rfl) ((h0 (I + 4)).trans (hxs (I + 4) (by omega))) dL_law_1603 ?_
    refine r_aload_n K 0 dL_law_1604 rfl rfl ?_
    refine r_iload_n K 3 dL_law_1605 rfl rfl ?_
    refine r_iconst (v := 5) K dL_law_1606 (by decide) ?_
    refine r_iadd K dL_law_1607 ?_
    refine r_iald K (k := I + 5) (by rw [hY2]) (jixs hY2 hI (c := 5) (by omega) hL rfl) ((h0 (I + 5)).trans (hxs (I + 5) (by omega))) dL_law_1608 ?_
    refine r_callV K hl (c_X12_would l e2) mC_yX12_would mM_RL_166 mI_yX12_would mS_yX12_would mZ_RX12 vc12 hO22 (Nat.le_of_ble_eq_true rfl) (Nat.le_of_ble_eq_true rfl) np_yX12_would rfl (Nat.le_of_ble_eq_true rfl) dL_law_1609 ⟨Nat.le_trans (Nat.le_add_right _ 17) hrm.1, Nat.le_trans (Nat.le_add_right _ 64) hrm.2⟩ ?_
    refine r_lcmp K dL_law_1612 ?_
    refine r_if_eq K 2112 dL_law_1613 (by decide) (fun _ => ?_) (fun h => absurd (by rw [heq]; exact jcmp_self _) h)
    exact kk _ _ _ _ _ hInv rfl (Nat.le_refl _)
  · obtain ⟨z1, z2, e1, h0, e2, heq, hInv⟩ := S (xs (I + 1)) (1 : Int32) (xs (I + 3)) (xs (I + 4)) (xs (I + 5)) (Or.inr rfl)
    refine r_aload_n K 1 dL_law_1538 rfl rfl ?_
    refine r_aload_n K 0 dL_law_1539 rfl rfl ?_
    refine r_iload_n K 3 dL_law_1540 rfl rfl ?_
    refine r_iconst (v := 1) K dL_law_1541 (by decide) ?_
    refine r_iadd K dL_law_1542 ?_
    refine r_iald K (k := I + 1) (by rw [hY]) (jixs hY hI (c := 1) (by omega) hL rfl) (hxs (I + 1) (by omega)) dL_law_1543 ?_
    refine r_aload_n K 0 dL_law_1544 rfl rfl ?_
    refine r_iload_n K 3 dL_law_1545 rfl rfl ?_
    refine r_iconst (v := 2) K dL_law_1546 (by decide) ?_
    refine r_iadd K dL_law_1547 ?_
    refine r_iald K (k := I + 2) (by rw [hY]) (jixs hY hI (c := 2) (by omega) hL rfl) (hxs (I + 2) (by omega)) dL_law_1548 ?_
    refine r_if_eq K 1556 dL_law_1549 (by decide) (fun h => absurd h hb) (fun _ => ?_)
    refine r_iconst (v := 1) K dL_law_1552 (by decide) ?_
    refine r_goto K 1557 dL_law_1553 (by decide) ?_
    refine r_aload_n K 0 dL_law_1557 rfl rfl ?_
    refine r_iload_n K 3 dL_law_1558 rfl rfl ?_
    refine r_iconst (v := 3) K dL_law_1559 (by decide) ?_
    refine r_iadd K dL_law_1560 ?_
    refine r_iald K (k := I + 3) (by rw [hY]) (jixs hY hI (c := 3) (by omega) hL rfl) (hxs (I + 3) (by omega)) dL_law_1561 ?_
    refine r_aload_n K 0 dL_law_1562 rfl rfl ?_
    refine r_iload_n K 3 dL_law_1563 rfl rfl ?_
    refine r_iconst (v := 4) K dL_law_1564 (by decide) ?_
    refine r_iadd K dL_law_1565 ?_
    refine r_iald K (k := I + 4) (by rw [hY]) (jixs hY hI (c := 4) (by omega) hL rfl) (hxs (I + 4) (by omega)) dL_law_1566 ?_
    refine r_aload_n K 0 dL_law_1567 rfl rfl ?_
    refine r_iload_n K 3 dL_law_1568 rfl rfl ?_
    refine r_iconst (v := 5) K dL_law_1569 (by decide) ?_
    refine r_iadd K dL_law_1570 ?_
    refine r_iald K (k := I + 5) (by rw [hY]) (jixs hY hI (c := 5) (by omega) hL rfl) (hxs (I + 5) (by omega)) dL_law_1571 ?_
    refine r_callV K hl (c_X11_would l e1) mC_yX11_would mM_RL_162 mI_yX11_would mS_yX11_would mZ_RX11 vc11 hO1 (Nat.le_of_ble_eq_true rfl) (Nat.le_of_ble_eq_true rfl) np_yX11_would rfl (Nat.le_of_ble_eq_true rfl) dL_law_1572 ⟨Nat.le_trans (Nat.le_add_right _ 17) hrm.1, Nat.le_trans (Nat.le_add_right _ 64) hrm.2⟩ ?_
    refine r_aload_n K 2 dL_law_1575 rfl rfl ?_
    refine r_aload_n K 0 dL_law_1576 rfl rfl ?_
    refine r_iload_n K 3 dL_law_1577 rfl rfl ?_
    refine r_iconst (v := 1) K dL_law_1578 (by decide) ?_
    refine r_iadd K dL_law_1579 ?_
    refine r_iald K (k := I + 1) (by rw [hY2]) (jixs hY2 hI (c := 1) (by omega) hL rfl) ((h0 (I + 1)).trans (hxs (I + 1) (by omega))) dL_law_1580 ?_
    refine r_aload_n K 0 dL_law_1581 rfl rfl ?_
    refine r_iload_n K 3 dL_law_1582 rfl rfl ?_
    refine r_iconst (v := 2) K dL_law_1583 (by decide) ?_
    refine r_iadd K dL_law_1584 ?_
    refine r_iald K (k := I + 2) (by rw [hY2]) (jixs hY2 hI (c := 2) (by omega) hL rfl) ((h0 (I + 2)).trans (hxs (I + 2) (by omega))) dL_law_1585 ?_
    refine r_if_eq K 1593 dL_law_1586 (by decide) (fun h => absurd h hb) (fun _ => ?_)
    refine r_iconst (v := 1) K dL_law_1589 (by decide) ?_
    refine r_goto K 1594 dL_law_1590 (by decide) ?_
    refine r_aload_n K 0 dL_law_1594 rfl rfl ?_
    refine r_iload_n K 3 dL_law_1595 rfl rfl ?_
    refine r_iconst (v := 3) K dL_law_1596 (by decide) ?_
    refine r_iadd K dL_law_1597 ?_
    refine r_iald K (k := I + 3) (by rw [hY2]) (jixs hY2 hI (c := 3) (by omega) hL rfl) ((h0 (I + 3)).trans (hxs (I + 3) (by omega))) dL_law_1598 ?_
    refine r_aload_n K 0 dL_law_1599 rfl rfl ?_
    refine r_iload_n K 3 dL_law_1600 rfl rfl ?_
    refine r_iconst (v := 4) K dL_law_1601 (by decide) ?_
    refine r_iadd K dL_law_1602 ?_
    refine r_iald K (k := I + 4) (by rw [hY2]) (jixs hY2 hI (c := 4) (by omega) hL rfl) ((h0 (I + 4)).trans (hxs (I + 4) (by omega))) dL_law_1603 ?_
    refine r_aload_n K 0 dL_law_1604 rfl rfl ?_
    refine r_iload_n K 3 dL_law_1605 rfl rfl ?_
    refine r_iconst (v := 5) K dL_law_1606 (by decide) ?_
    refine r_iadd K dL_law_1607 ?_
    refine r_iald K (k := I + 5) (by rw [hY2]) (jixs hY2 hI (c := 5) (by omega) hL rfl) ((h0 (I + 5)).trans (hxs (I + 5) (by omega))) dL_law_1608 ?_
    refine r_callV K hl (c_X12_would l e2) mC_yX12_would mM_RL_166 mI_yX12_would mS_yX12_would mZ_RX12 vc12 hO22 (Nat.le_of_ble_eq_true rfl) (Nat.le_of_ble_eq_true rfl) np_yX12_would rfl (Nat.le_of_ble_eq_true rfl) dL_law_1609 ⟨Nat.le_trans (Nat.le_add_right _ 17) hrm.1, Nat.le_trans (Nat.le_add_right _ 64) hrm.2⟩ ?_
    refine r_lcmp K dL_law_1612 ?_
    refine r_if_eq K 2112 dL_law_1613 (by decide) (fun _ => ?_) (fun h => absurd (by rw [heq]; exact jcmp_self _) h)
    exact kk _ _ _ _ _ hInv rfl (Nat.le_refl _)
def so_walks (Inv : Nat → jY → jM → Prop) (n : Nat) (Y : jY) (μ : jM) : Prop := ∀ (a1 : Int32) (a2 : Int32) (a3 : Int32) (a4 : Int32), ∃ (z1 z2 : Int64 × jM), f_X11_walks Y 1 a1 a2 a3 a4 μ = some z1 ∧ (∀ j, z1.2 0 j = μ 0 j) ∧ f_X12_walks Y 95 a1 a2 a3 a4 z1.2 = some z2 ∧ z1.1 = z2.1 ∧ Inv n Y z2.2
set_option maxRecDepth 10000 in
theorem lc_walks {X : jX} {l : Launch} {Q : State → Prop} {nc ns n : Nat} {Y : jY} {μ : jM} {L I : Nat} {xs : Nat → Int32} {i : Int32} {Inv : Nat → jY → jM → Prop} (K : jOK X RL cL_law 4 (some .boolean) 1000) (hl : X.2.1 = l) (hY : Y 0 = (20, L)) (hxs : ∀ j, j < L → μ 0 j = .int (xs j)) (hL : L ≤ 3072) (hI : i.toInt = I) (hIL : I + 6 ≤ L) (hrm : nc + 17 ≤ X.2.2.2.1.cells ∧ ns + 64 ≤ X.2.2.2.1.slots) (hO1 : (Y 1).1 = 11) (hO2 : (Y 95).1 = 12) (S : so_walks Inv n Y μ) (kk : ∀ nc2 ns2 n2 Y2 μ2, Inv n2 Y2 μ2 → nc2 + n = nc + n2 → ns2 + 64 * n ≤ ns + 64 * n2 → JW X Q nc2 ns2 n2 Y2 2112 [(0, .ref 0), (1, .ref 1), (2, .ref 95), (3, .int i)] [] μ2) : JW X Q nc ns n Y 1618 [(0, .ref 0), (1, .ref 1), (2, .ref 95), (3, .int i)] [] μ := by
  have hY2 := hY
  have hO22 := hO2
  obtain ⟨z1, z2, e1, h0, e2, heq, hInv⟩ := S (xs (I + 1)) (xs (I + 2)) (xs (I + 3)) (xs (I + 4))
  refine r_aload_n K 1 dL_law_1618 rfl rfl ?_
  refine r_aload_n K 0 dL_law_1619 rfl rfl ?_
  refine r_iload_n K 3 dL_law_1620 rfl rfl ?_
  refine r_iconst (v := 1) K dL_law_1621 (by decide) ?_
  refine r_iadd K dL_law_1622 ?_
  refine r_iald K (k := I + 1) (by rw [hY]) (jixs hY hI (c := 1) (by omega) hL rfl) (hxs (I + 1) (by omega)) dL_law_1623 ?_
  refine r_aload_n K 0 dL_law_1624 rfl rfl ?_
  refine r_iload_n K 3 dL_law_1625 rfl rfl ?_
  refine r_iconst (v := 2) K dL_law_1626 (by decide) ?_
  refine r_iadd K dL_law_1627 ?_
  refine r_iald K (k := I + 2) (by rw [hY]) (jixs hY hI (c := 2) (by omega) hL rfl) (hxs (I + 2) (by omega)) dL_law_1628 ?_
  refine r_aload_n K 0 dL_law_1629 rfl rfl ?_
  refine r_iload_n K 3 dL_law_1630 rfl rfl ?_
  refine r_iconst (v := 3) K dL_law_1631 (by decide) ?_
  refine r_iadd K dL_law_1632 ?_
  refine r_iald K (k := I + 3) (by rw [hY]) (jixs hY hI (c := 3) (by omega) hL rfl) (hxs (I + 3) (by omega)) dL_law_1633 ?_
  refine r_aload_n K 0 dL_law_1634 rfl rfl ?_
  refine r_iload_n K 3 dL_law_1635 rfl rfl ?_
  refine r_iconst (v := 4) K dL_law_1636 (by decide) ?_
  refine r_iadd K dL_law_1637 ?_
  refine r_iald K (k := I + 4) (by rw [hY]) (jixs hY hI (c := 4) (by omega) hL rfl) (hxs (I + 4) (by omega)) dL_law_1638 ?_
  refine r_callV K hl (c_X11_walks l e1) mC_yX11_walks mM_RL_167 mI_yX11_walks mS_yX11_walks mZ_RX11 vc11 hO1 (Nat.le_of_ble_eq_true rfl) (Nat.le_of_ble_eq_true rfl) np_yX11_walks rfl (Nat.le_of_ble_eq_true rfl) dL_law_1639 ⟨Nat.le_trans (Nat.le_add_right _ 17) hrm.1, Nat.le_trans (Nat.le_add_right _ 64) hrm.2⟩ ?_
  refine r_aload_n K 2 dL_law_1642 rfl rfl ?_
  refine r_aload_n K 0 dL_law_1643 rfl rfl ?_
  refine r_iload_n K 3 dL_law_1644 rfl rfl ?_
  refine r_iconst (v := 1) K dL_law_1645 (by decide) ?_
  refine r_iadd K dL_law_1646 ?_
  refine r_iald K (k := I + 1) (by rw [hY2]) (jixs hY2 hI (c := 1) (by omega) hL rfl) ((h0 (I + 1)).trans (hxs (I + 1) (by omega))) dL_law_1647 ?_
  refine r_aload_n K 0 dL_law_1648 rfl rfl ?_
  refine r_iload_n K 3 dL_law_1649 rfl rfl ?_
  refine r_iconst (v := 2) K dL_law_1650 (by decide) ?_
  refine r_iadd K dL_law_1651 ?_
  refine r_iald K (k := I + 2) (by rw [hY2]) (jixs hY2 hI (c := 2) (by omega) hL rfl) ((h0 (I + 2)).trans (hxs (I + 2) (by omega))) dL_law_1652 ?_
  refine r_aload_n K 0 dL_law_1653 rfl rfl ?_
  refine r_iload_n K 3 dL_law_1654 rfl rfl ?_
  refine r_iconst (v := 3) K dL_law_1655 (by decide) ?_
  refine r_iadd K dL_law_1656 ?_
  refine r_iald K (k := I + 3) (by rw [hY2]) (jixs hY2 hI (c := 3) (by omega) hL rfl) ((h0 (I + 3)).trans (hxs (I + 3) (by omega))) dL_law_1657 ?_
  refine r_aload_n K 0 dL_law_1658 rfl rfl ?_
  refine r_iload_n K 3 dL_law_1659 rfl rfl ?_
  refine r_iconst (v := 4) K dL_law_1660 (by decide) ?_
  refine r_iadd K dL_law_1661 ?_
  refine r_iald K (k := I + 4) (by rw [hY2]) (jixs hY2 hI (c := 4) (by omega) hL rfl) ((h0 (I + 4)).trans (hxs (I + 4) (by omega))) dL_law_1662 ?_
  refine r_callV K hl (c_X12_walks l e2) mC_yX12_walks mM_RL_170 mI_yX12_walks mS_yX12_walks mZ_RX12 vc12 hO22 (Nat.le_of_ble_eq_true rfl) (Nat.le_of_ble_eq_true rfl) np_yX12_walks rfl (Nat.le_of_ble_eq_true rfl) dL_law_1663 ⟨Nat.le_trans (Nat.le_add_right _ 17) hrm.1, Nat.le_trans (Nat.le_add_right _ 64) hrm.2⟩ ?_
  refine r_lcmp K dL_law_1666 ?_
  refine r_if_eq K 2112 dL_law_1667 (by decide) (fun _ => ?_) (fun h => absurd (by rw [heq]; exact jcmp_self _) h)
  exact kk _ _ _ _ _ hInv rfl (Nat.le_refl _)
def so_powers (Inv : Nat → jY → jM → Prop) (n : Nat) (Y : jY) (μ : jM) : Prop := ∀ (a1 : Int32) (a2 : Int32), ∃ (z1 z2 : Int64 × jM), f_X11_powers Y 1 a1 a2 μ = some z1 ∧ (∀ j, z1.2 0 j = μ 0 j) ∧ f_X12_powers Y 95 a1 a2 z1.2 = some z2 ∧ z1.1 = z2.1 ∧ Inv n Y z2.2
set_option maxRecDepth 10000 in
theorem lc_powers {X : jX} {l : Launch} {Q : State → Prop} {nc ns n : Nat} {Y : jY} {μ : jM} {L I : Nat} {xs : Nat → Int32} {i : Int32} {Inv : Nat → jY → jM → Prop} (K : jOK X RL cL_law 4 (some .boolean) 1000) (hl : X.2.1 = l) (hY : Y 0 = (20, L)) (hxs : ∀ j, j < L → μ 0 j = .int (xs j)) (hL : L ≤ 3072) (hI : i.toInt = I) (hIL : I + 6 ≤ L) (hrm : nc + 17 ≤ X.2.2.2.1.cells ∧ ns + 64 ≤ X.2.2.2.1.slots) (hO1 : (Y 1).1 = 11) (hO2 : (Y 95).1 = 12) (S : so_powers Inv n Y μ) (kk : ∀ nc2 ns2 n2 Y2 μ2, Inv n2 Y2 μ2 → nc2 + n = nc + n2 → ns2 + 64 * n ≤ ns + 64 * n2 → JW X Q nc2 ns2 n2 Y2 2112 [(0, .ref 0), (1, .ref 1), (2, .ref 95), (3, .int i)] [] μ2) : JW X Q nc ns n Y 1672 [(0, .ref 0), (1, .ref 1), (2, .ref 95), (3, .int i)] [] μ := by
  have hY2 := hY
  have hO22 := hO2
  obtain ⟨z1, z2, e1, h0, e2, heq, hInv⟩ := S (xs (I + 1)) (xs (I + 2))
  refine r_aload_n K 1 dL_law_1672 rfl rfl ?_
  refine r_aload_n K 0 dL_law_1673 rfl rfl ?_
  refine r_iload_n K 3 dL_law_1674 rfl rfl ?_
  refine r_iconst (v := 1) K dL_law_1675 (by decide) ?_
  refine r_iadd K dL_law_1676 ?_
  refine r_iald K (k := I + 1) (by rw [hY]) (jixs hY hI (c := 1) (by omega) hL rfl) (hxs (I + 1) (by omega)) dL_law_1677 ?_
  refine r_aload_n K 0 dL_law_1678 rfl rfl ?_
  refine r_iload_n K 3 dL_law_1679 rfl rfl ?_
  refine r_iconst (v := 2) K dL_law_1680 (by decide) ?_
  refine r_iadd K dL_law_1681 ?_
  refine r_iald K (k := I + 2) (by rw [hY]) (jixs hY hI (c := 2) (by omega) hL rfl) (hxs (I + 2) (by omega)) dL_law_1682 ?_
  refine r_callV K hl (c_X11_powers l e1) mC_yX11_powers mM_RL_171 mI_yX11_powers mS_yX11_powers mZ_RX11 vc11 hO1 (Nat.le_of_ble_eq_true rfl) (Nat.le_of_ble_eq_true rfl) np_yX11_powers rfl (Nat.le_of_ble_eq_true rfl) dL_law_1683 ⟨Nat.le_trans (Nat.le_add_right _ 17) hrm.1, Nat.le_trans (Nat.le_add_right _ 64) hrm.2⟩ ?_
  refine r_aload_n K 2 dL_law_1686 rfl rfl ?_
  refine r_aload_n K 0 dL_law_1687 rfl rfl ?_
  refine r_iload_n K 3 dL_law_1688 rfl rfl ?_
  refine r_iconst (v := 1) K dL_law_1689 (by decide) ?_
  refine r_iadd K dL_law_1690 ?_
  refine r_iald K (k := I + 1) (by rw [hY2]) (jixs hY2 hI (c := 1) (by omega) hL rfl) ((h0 (I + 1)).trans (hxs (I + 1) (by omega))) dL_law_1691 ?_
  refine r_aload_n K 0 dL_law_1692 rfl rfl ?_
  refine r_iload_n K 3 dL_law_1693 rfl rfl ?_
  refine r_iconst (v := 2) K dL_law_1694 (by decide) ?_
  refine r_iadd K dL_law_1695 ?_
  refine r_iald K (k := I + 2) (by rw [hY2]) (jixs hY2 hI (c := 2) (by omega) hL rfl) ((h0 (I + 2)).trans (hxs (I + 2) (by omega))) dL_law_1696 ?_
  refine r_callV K hl (c_X12_powers l e2) mC_yX12_powers mM_RL_174 mI_yX12_powers mS_yX12_powers mZ_RX12 vc12 hO22 (Nat.le_of_ble_eq_true rfl) (Nat.le_of_ble_eq_true rfl) np_yX12_powers rfl (Nat.le_of_ble_eq_true rfl) dL_law_1697 ⟨Nat.le_trans (Nat.le_add_right _ 17) hrm.1, Nat.le_trans (Nat.le_add_right _ 64) hrm.2⟩ ?_
  refine r_lcmp K dL_law_1700 ?_
  refine r_if_eq K 2112 dL_law_1701 (by decide) (fun _ => ?_) (fun h => absurd (by rw [heq]; exact jcmp_self _) h)
  exact kk _ _ _ _ _ hInv rfl (Nat.le_refl _)
def so_strike (Inv : Nat → jY → jM → Prop) (n : Nat) (Y : jY) (μ : jM) : Prop := ∀ (a1 : Int32) (a2 : Int32) (a3 : Int32) (a4 : Int32), ∃ (z1 z2 : Int64 × jM), f_X11_strike Y 1 a1 a2 a3 a4 μ = some z1 ∧ (∀ j, z1.2 0 j = μ 0 j) ∧ f_X12_strike Y 95 a1 a2 a3 a4 z1.2 = some z2 ∧ z1.1 = z2.1 ∧ Inv n Y z2.2
set_option maxRecDepth 10000 in
theorem lc_strike {X : jX} {l : Launch} {Q : State → Prop} {nc ns n : Nat} {Y : jY} {μ : jM} {L I : Nat} {xs : Nat → Int32} {i : Int32} {Inv : Nat → jY → jM → Prop} (K : jOK X RL cL_law 4 (some .boolean) 1000) (hl : X.2.1 = l) (hY : Y 0 = (20, L)) (hxs : ∀ j, j < L → μ 0 j = .int (xs j)) (hL : L ≤ 3072) (hI : i.toInt = I) (hIL : I + 6 ≤ L) (hrm : nc + 17 ≤ X.2.2.2.1.cells ∧ ns + 64 ≤ X.2.2.2.1.slots) (hO1 : (Y 1).1 = 11) (hO2 : (Y 95).1 = 12) (S : so_strike Inv n Y μ) (kk : ∀ nc2 ns2 n2 Y2 μ2, Inv n2 Y2 μ2 → nc2 + n = nc + n2 → ns2 + 64 * n ≤ ns + 64 * n2 → JW X Q nc2 ns2 n2 Y2 2112 [(0, .ref 0), (1, .ref 1), (2, .ref 95), (3, .int i)] [] μ2) : JW X Q nc ns n Y 1706 [(0, .ref 0), (1, .ref 1), (2, .ref 95), (3, .int i)] [] μ := by
  have hY2 := hY
  have hO22 := hO2
  obtain ⟨z1, z2, e1, h0, e2, heq, hInv⟩ := S (xs (I + 1)) (xs (I + 2)) (xs (I + 3)) (xs (I + 4))
  refine r_aload_n K 1 dL_law_1706 rfl rfl ?_
  refine r_aload_n K 0 dL_law_1707 rfl rfl ?_
  refine r_iload_n K 3 dL_law_1708 rfl rfl ?_
  refine r_iconst (v := 1) K dL_law_1709 (by decide) ?_
  refine r_iadd K dL_law_1710 ?_
  refine r_iald K (k := I + 1) (by rw [hY]) (jixs hY hI (c := 1) (by omega) hL rfl) (hxs (I + 1) (by omega)) dL_law_1711 ?_
  refine r_aload_n K 0 dL_law_1712 rfl rfl ?_
  refine r_iload_n K 3 dL_law_1713 rfl rfl ?_
  refine r_iconst (v := 2) K dL_law_1714 (by decide) ?_
  refine r_iadd K dL_law_1715 ?_
  refine r_iald K (k := I + 2) (by rw [hY]) (jixs hY hI (c := 2) (by omega) hL rfl) (hxs (I + 2) (by omega)) dL_law_1716 ?_
  refine r_aload_n K 0 dL_law_1717 rfl rfl ?_
  refine r_iload_n K 3 dL_law_1718 rfl rfl ?_
  refine r_iconst (v := 3) K dL_law_1719 (by decide) ?_
  refine r_iadd K dL_law_1720 ?_
  refine r_iald K (k := I + 3) (by rw [hY]) (jixs hY hI (c := 3) (by omega) hL rfl) (hxs (I + 3) (by omega)) dL_law_1721 ?_
  refine r_aload_n K 0 dL_law_1722 rfl rfl ?_
  refine r_iload_n K 3 dL_law_1723 rfl rfl ?_
  refine r_iconst (v := 4) K dL_law_1724 (by decide) ?_
  refine r_iadd K dL_law_1725 ?_
  refine r_iald K (k := I + 4) (by rw [hY]) (jixs hY hI (c := 4) (by omega) hL rfl) (hxs (I + 4) (by omega)) dL_law_1726 ?_
  refine r_callV K hl (c_X11_strike l e1) mC_yX11_strike mM_RL_175 mI_yX11_strike mS_yX11_strike mZ_RX11 vc11 hO1 (Nat.le_of_ble_eq_true rfl) (Nat.le_of_ble_eq_true rfl) np_yX11_strike rfl (Nat.le_of_ble_eq_true rfl) dL_law_1727 ⟨Nat.le_trans (Nat.le_add_right _ 17) hrm.1, Nat.le_trans (Nat.le_add_right _ 64) hrm.2⟩ ?_
  refine r_aload_n K 2 dL_law_1730 rfl rfl ?_
  refine r_aload_n K 0 dL_law_1731 rfl rfl ?_
  refine r_iload_n K 3 dL_law_1732 rfl rfl ?_
  refine r_iconst (v := 1) K dL_law_1733 (by decide) ?_
  refine r_iadd K dL_law_1734 ?_
  refine r_iald K (k := I + 1) (by rw [hY2]) (jixs hY2 hI (c := 1) (by omega) hL rfl) ((h0 (I + 1)).trans (hxs (I + 1) (by omega))) dL_law_1735 ?_
  refine r_aload_n K 0 dL_law_1736 rfl rfl ?_
  refine r_iload_n K 3 dL_law_1737 rfl rfl ?_
  refine r_iconst (v := 2) K dL_law_1738 (by decide) ?_
  refine r_iadd K dL_law_1739 ?_
  refine r_iald K (k := I + 2) (by rw [hY2]) (jixs hY2 hI (c := 2) (by omega) hL rfl) ((h0 (I + 2)).trans (hxs (I + 2) (by omega))) dL_law_1740 ?_
  refine r_aload_n K 0 dL_law_1741 rfl rfl ?_
  refine r_iload_n K 3 dL_law_1742 rfl rfl ?_
  refine r_iconst (v := 3) K dL_law_1743 (by decide) ?_
  refine r_iadd K dL_law_1744 ?_
  refine r_iald K (k := I + 3) (by rw [hY2]) (jixs hY2 hI (c := 3) (by omega) hL rfl) ((h0 (I + 3)).trans (hxs (I + 3) (by omega))) dL_law_1745 ?_
  refine r_aload_n K 0 dL_law_1746 rfl rfl ?_
  refine r_iload_n K 3 dL_law_1747 rfl rfl ?_
  refine r_iconst (v := 4) K dL_law_1748 (by decide) ?_
  refine r_iadd K dL_law_1749 ?_
  refine r_iald K (k := I + 4) (by rw [hY2]) (jixs hY2 hI (c := 4) (by omega) hL rfl) ((h0 (I + 4)).trans (hxs (I + 4) (by omega))) dL_law_1750 ?_
  refine r_callV K hl (c_X12_strike l e2) mC_yX12_strike mM_RL_178 mI_yX12_strike mS_yX12_strike mZ_RX12 vc12 hO22 (Nat.le_of_ble_eq_true rfl) (Nat.le_of_ble_eq_true rfl) np_yX12_strike rfl (Nat.le_of_ble_eq_true rfl) dL_law_1751 ⟨Nat.le_trans (Nat.le_add_right _ 17) hrm.1, Nat.le_trans (Nat.le_add_right _ 64) hrm.2⟩ ?_
  refine r_lcmp K dL_law_1754 ?_
  refine r_if_eq K 2112 dL_law_1755 (by decide) (fun _ => ?_) (fun h => absurd (by rw [heq]; exact jcmp_self _) h)
  exact kk _ _ _ _ _ hInv rfl (Nat.le_refl _)
def so_draws (Inv : Nat → jY → jM → Prop) (n : Nat) (Y : jY) (μ : jM) : Prop := ∀ (a1 : Int32) (a2 : Int32) (a3 : Int32), ∃ (z1 z2 : Int32 × jM), f_X11_draws Y 1 a1 a2 a3 μ = some z1 ∧ (∀ j, z1.2 0 j = μ 0 j) ∧ f_X12_draws Y 95 a1 a2 a3 z1.2 = some z2 ∧ z1.1 = z2.1 ∧ Inv n Y z2.2
set_option maxRecDepth 10000 in
theorem lc_draws {X : jX} {l : Launch} {Q : State → Prop} {nc ns n : Nat} {Y : jY} {μ : jM} {L I : Nat} {xs : Nat → Int32} {i : Int32} {Inv : Nat → jY → jM → Prop} (K : jOK X RL cL_law 4 (some .boolean) 1000) (hl : X.2.1 = l) (hY : Y 0 = (20, L)) (hxs : ∀ j, j < L → μ 0 j = .int (xs j)) (hL : L ≤ 3072) (hI : i.toInt = I) (hIL : I + 6 ≤ L) (hrm : nc + 17 ≤ X.2.2.2.1.cells ∧ ns + 64 ≤ X.2.2.2.1.slots) (hO1 : (Y 1).1 = 11) (hO2 : (Y 95).1 = 12) (S : so_draws Inv n Y μ) (kk : ∀ nc2 ns2 n2 Y2 μ2, Inv n2 Y2 μ2 → nc2 + n = nc + n2 → ns2 + 64 * n ≤ ns + 64 * n2 → JW X Q nc2 ns2 n2 Y2 2112 [(0, .ref 0), (1, .ref 1), (2, .ref 95), (3, .int i)] [] μ2) : JW X Q nc ns n Y 1760 [(0, .ref 0), (1, .ref 1), (2, .ref 95), (3, .int i)] [] μ := by
  have hY2 := hY
  have hO22 := hO2
  obtain ⟨z1, z2, e1, h0, e2, heq, hInv⟩ := S (xs (I + 1)) (xs (I + 2)) (xs (I + 3))
  refine r_aload_n K 1 dL_law_1760 rfl rfl ?_
  refine r_aload_n K 0 dL_law_1761 rfl rfl ?_
  refine r_iload_n K 3 dL_law_1762 rfl rfl ?_
  refine r_iconst (v := 1) K dL_law_1763 (by decide) ?_
  refine r_iadd K dL_law_1764 ?_
  refine r_iald K (k := I + 1) (by rw [hY]) (jixs hY hI (c := 1) (by omega) hL rfl) (hxs (I + 1) (by omega)) dL_law_1765 ?_
  refine r_aload_n K 0 dL_law_1766 rfl rfl ?_
  refine r_iload_n K 3 dL_law_1767 rfl rfl ?_
  refine r_iconst (v := 2) K dL_law_1768 (by decide) ?_
  refine r_iadd K dL_law_1769 ?_
  refine r_iald K (k := I + 2) (by rw [hY]) (jixs hY hI (c := 2) (by omega) hL rfl) (hxs (I + 2) (by omega)) dL_law_1770 ?_
  refine r_aload_n K 0 dL_law_1771 rfl rfl ?_
  refine r_iload_n K 3 dL_law_1772 rfl rfl ?_
  refine r_iconst (v := 3) K dL_law_1773 (by decide) ?_
  refine r_iadd K dL_law_1774 ?_
  refine r_iald K (k := I + 3) (by rw [hY]) (jixs hY hI (c := 3) (by omega) hL rfl) (hxs (I + 3) (by omega)) dL_law_1775 ?_
  refine r_callV K hl (c_X11_draws l e1) mC_yX11_draws mM_RL_179 mI_yX11_draws mS_yX11_draws mZ_RX11 vc11 hO1 (Nat.le_of_ble_eq_true rfl) (Nat.le_of_ble_eq_true rfl) np_yX11_draws rfl (Nat.le_of_ble_eq_true rfl) dL_law_1776 ⟨Nat.le_trans (Nat.le_add_right _ 17) hrm.1, Nat.le_trans (Nat.le_add_right _ 64) hrm.2⟩ ?_
  refine r_aload_n K 2 dL_law_1779 rfl rfl ?_
  refine r_aload_n K 0 dL_law_1780 rfl rfl ?_
  refine r_iload_n K 3 dL_law_1781 rfl rfl ?_
  refine r_iconst (v := 1) K dL_law_1782 (by decide) ?_
  refine r_iadd K dL_law_1783 ?_
  refine r_iald K (k := I + 1) (by rw [hY2]) (jixs hY2 hI (c := 1) (by omega) hL rfl) ((h0 (I + 1)).trans (hxs (I + 1) (by omega))) dL_law_1784 ?_
  refine r_aload_n K 0 dL_law_1785 rfl rfl ?_
  refine r_iload_n K 3 dL_law_1786 rfl rfl ?_
  refine r_iconst (v := 2) K dL_law_1787 (by decide) ?_
  refine r_iadd K dL_law_1788 ?_
  refine r_iald K (k := I + 2) (by rw [hY2]) (jixs hY2 hI (c := 2) (by omega) hL rfl) ((h0 (I + 2)).trans (hxs (I + 2) (by omega))) dL_law_1789 ?_
  refine r_aload_n K 0 dL_law_1790 rfl rfl ?_
  refine r_iload_n K 3 dL_law_1791 rfl rfl ?_
  refine r_iconst (v := 3) K dL_law_1792 (by decide) ?_
  refine r_iadd K dL_law_1793 ?_
  refine r_iald K (k := I + 3) (by rw [hY2]) (jixs hY2 hI (c := 3) (by omega) hL rfl) ((h0 (I + 3)).trans (hxs (I + 3) (by omega))) dL_law_1794 ?_
  refine r_callV K hl (c_X12_draws l e2) mC_yX12_draws mM_RL_182 mI_yX12_draws mS_yX12_draws mZ_RX12 vc12 hO22 (Nat.le_of_ble_eq_true rfl) (Nat.le_of_ble_eq_true rfl) np_yX12_draws rfl (Nat.le_of_ble_eq_true rfl) dL_law_1795 ⟨Nat.le_trans (Nat.le_add_right _ 17) hrm.1, Nat.le_trans (Nat.le_add_right _ 64) hrm.2⟩ ?_
  refine r_icmp_eq K 2112 dL_law_1798 (by decide) (fun _ => ?_) (fun h => absurd heq h)
  exact kk _ _ _ _ _ hInv rfl (Nat.le_refl _)
def so_rivals (Inv : Nat → jY → jM → Prop) (n : Nat) (Y : jY) (μ : jM) : Prop := ∀ (a1 : Int32) (a2 : Int32) (a3 : Int32), (a3 = 0 ∨ a3 = 1) → ∃ (z1 z2 : Int32 × jM), f_X11_rivals Y 1 a1 a2 a3 μ = some z1 ∧ (∀ j, z1.2 0 j = μ 0 j) ∧ f_X12_rivals Y 95 a1 a2 a3 z1.2 = some z2 ∧ z1.1 = z2.1 ∧ Inv n Y z2.2
set_option maxRecDepth 10000 in
theorem lc_rivals {X : jX} {l : Launch} {Q : State → Prop} {nc ns n : Nat} {Y : jY} {μ : jM} {L I : Nat} {xs : Nat → Int32} {i : Int32} {Inv : Nat → jY → jM → Prop} (K : jOK X RL cL_law 4 (some .boolean) 1000) (hl : X.2.1 = l) (hY : Y 0 = (20, L)) (hxs : ∀ j, j < L → μ 0 j = .int (xs j)) (hL : L ≤ 3072) (hI : i.toInt = I) (hIL : I + 6 ≤ L) (hrm : nc + 17 ≤ X.2.2.2.1.cells ∧ ns + 64 ≤ X.2.2.2.1.slots) (hO1 : (Y 1).1 = 11) (hO2 : (Y 95).1 = 12) (S : so_rivals Inv n Y μ) (kk : ∀ nc2 ns2 n2 Y2 μ2, Inv n2 Y2 μ2 → nc2 + n = nc + n2 → ns2 + 64 * n ≤ ns + 64 * n2 → JW X Q nc2 ns2 n2 Y2 2112 [(0, .ref 0), (1, .ref 1), (2, .ref 95), (3, .int i)] [] μ2) : JW X Q nc ns n Y 1803 [(0, .ref 0), (1, .ref 1), (2, .ref 95), (3, .int i)] [] μ := by
  have hY2 := hY
  have hO22 := hO2
  by_cases hb : xs (I + 3) = 0
  · obtain ⟨z1, z2, e1, h0, e2, heq, hInv⟩ := S (xs (I + 1)) (xs (I + 2)) (0 : Int32) (Or.inl rfl)
    refine r_aload_n K 1 dL_law_1803 rfl rfl ?_
    refine r_aload_n K 0 dL_law_1804 rfl rfl ?_
    refine r_iload_n K 3 dL_law_1805 rfl rfl ?_
    refine r_iconst (v := 1) K dL_law_1806 (by decide) ?_
    refine r_iadd K dL_law_1807 ?_
    refine r_iald K (k := I + 1) (by rw [hY]) (jixs hY hI (c := 1) (by omega) hL rfl) (hxs (I + 1) (by omega)) dL_law_1808 ?_
    refine r_aload_n K 0 dL_law_1809 rfl rfl ?_
    refine r_iload_n K 3 dL_law_1810 rfl rfl ?_
    refine r_iconst (v := 2) K dL_law_1811 (by decide) ?_
    refine r_iadd K dL_law_1812 ?_
    refine r_iald K (k := I + 2) (by rw [hY]) (jixs hY hI (c := 2) (by omega) hL rfl) (hxs (I + 2) (by omega)) dL_law_1813 ?_
    refine r_aload_n K 0 dL_law_1814 rfl rfl ?_
    refine r_iload_n K 3 dL_law_1815 rfl rfl ?_
    refine r_iconst (v := 3) K dL_law_1816 (by decide) ?_
    refine r_iadd K dL_law_1817 ?_
    refine r_iald K (k := I + 3) (by rw [hY]) (jixs hY hI (c := 3) (by omega) hL rfl) (hxs (I + 3) (by omega)) dL_law_1818 ?_
    refine r_if_eq K 1826 dL_law_1819 (by decide) (fun _ => ?_) (fun h => absurd hb h)
    refine r_iconst (v := 0) K dL_law_1826 (by decide) ?_
    refine r_callV K hl (c_X11_rivals l e1) mC_yX11_rivals mM_RL_183 mI_yX11_rivals mS_yX11_rivals mZ_RX11 vc11 hO1 (Nat.le_of_ble_eq_true rfl) (Nat.le_of_ble_eq_true rfl) np_yX11_rivals rfl (Nat.le_of_ble_eq_true rfl) dL_law_1827 ⟨Nat.le_trans (Nat.le_add_right _ 17) hrm.1, Nat.le_trans (Nat.le_add_right _ 64) hrm.2⟩ ?_
    refine r_aload_n K 2 dL_law_1830 rfl rfl ?_
    refine r_aload_n K 0 dL_law_1831 rfl rfl ?_
    refine r_iload_n K 3 dL_law_1832 rfl rfl ?_
    refine r_iconst (v := 1) K dL_law_1833 (by decide) ?_
    refine r_iadd K dL_law_1834 ?_
    refine r_iald K (k := I + 1) (by rw [hY2]) (jixs hY2 hI (c := 1) (by omega) hL rfl) ((h0 (I + 1)).trans (hxs (I + 1) (by omega))) dL_law_1835 ?_
    refine r_aload_n K 0 dL_law_1836 rfl rfl ?_
    refine r_iload_n K 3 dL_law_1837 rfl rfl ?_
    refine r_iconst (v := 2) K dL_law_1838 (by decide) ?_
    refine r_iadd K dL_law_1839 ?_
    refine r_iald K (k := I + 2) (by rw [hY2]) (jixs hY2 hI (c := 2) (by omega) hL rfl) ((h0 (I + 2)).trans (hxs (I + 2) (by omega))) dL_law_1840 ?_
    refine r_aload_n K 0 dL_law_1841 rfl rfl ?_
    refine r_iload_n K 3 dL_law_1842 rfl rfl ?_
    refine r_iconst (v := 3) K dL_law_1843 (by decide) ?_
    refine r_iadd K dL_law_1844 ?_
    refine r_iald K (k := I + 3) (by rw [hY2]) (jixs hY2 hI (c := 3) (by omega) hL rfl) ((h0 (I + 3)).trans (hxs (I + 3) (by omega))) dL_law_1845 ?_
    refine r_if_eq K 1853 dL_law_1846 (by decide) (fun _ => ?_) (fun h => absurd hb h)
    refine r_iconst (v := 0) K dL_law_1853 (by decide) ?_
    refine r_callV K hl (c_X12_rivals l e2) mC_yX12_rivals mM_RL_187 mI_yX12_rivals mS_yX12_rivals mZ_RX12 vc12 hO22 (Nat.le_of_ble_eq_true rfl) (Nat.le_of_ble_eq_true rfl) np_yX12_rivals rfl (Nat.le_of_ble_eq_true rfl) dL_law_1854 ⟨Nat.le_trans (Nat.le_add_right _ 17) hrm.1, Nat.le_trans (Nat.le_add_right _ 64) hrm.2⟩ ?_
    refine r_icmp_eq K 2112 dL_law_1857 (by decide) (fun _ => ?_) (fun h => absurd heq h)
    exact kk _ _ _ _ _ hInv rfl (Nat.le_refl _)
  · obtain ⟨z1, z2, e1, h0, e2, heq, hInv⟩ := S (xs (I + 1)) (xs (I + 2)) (1 : Int32) (Or.inr rfl)
    refine r_aload_n K 1 dL_law_1803 rfl rfl ?_
    refine r_aload_n K 0 dL_law_1804 rfl rfl ?_
    refine r_iload_n K 3 dL_law_1805 rfl rfl ?_
    refine r_iconst (v := 1) K dL_law_1806 (by decide) ?_
    refine r_iadd K dL_law_1807 ?_
    refine r_iald K (k := I + 1) (by rw [hY]) (jixs hY hI (c := 1) (by omega) hL rfl) (hxs (I + 1) (by omega)) dL_law_1808 ?_
    refine r_aload_n K 0 dL_law_1809 rfl rfl ?_
    refine r_iload_n K 3 dL_law_1810 rfl rfl ?_
    refine r_iconst (v := 2) K dL_law_1811 (by decide) ?_
    refine r_iadd K dL_law_1812 ?_
    refine r_iald K (k := I + 2) (by rw [hY]) (jixs hY hI (c := 2) (by omega) hL rfl) (hxs (I + 2) (by omega)) dL_law_1813 ?_
    refine r_aload_n K 0 dL_law_1814 rfl rfl ?_
    refine r_iload_n K 3 dL_law_1815 rfl rfl ?_
    refine r_iconst (v := 3) K dL_law_1816 (by decide) ?_
    refine r_iadd K dL_law_1817 ?_
    refine r_iald K (k := I + 3) (by rw [hY]) (jixs hY hI (c := 3) (by omega) hL rfl) (hxs (I + 3) (by omega)) dL_law_1818 ?_
    refine r_if_eq K 1826 dL_law_1819 (by decide) (fun h => absurd h hb) (fun _ => ?_)
    refine r_iconst (v := 1) K dL_law_1822 (by decide) ?_
    refine r_goto K 1827 dL_law_1823 (by decide) ?_
    refine r_callV K hl (c_X11_rivals l e1) mC_yX11_rivals mM_RL_183 mI_yX11_rivals mS_yX11_rivals mZ_RX11 vc11 hO1 (Nat.le_of_ble_eq_true rfl) (Nat.le_of_ble_eq_true rfl) np_yX11_rivals rfl (Nat.le_of_ble_eq_true rfl) dL_law_1827 ⟨Nat.le_trans (Nat.le_add_right _ 17) hrm.1, Nat.le_trans (Nat.le_add_right _ 64) hrm.2⟩ ?_
    refine r_aload_n K 2 dL_law_1830 rfl rfl ?_
    refine r_aload_n K 0 dL_law_1831 rfl rfl ?_
    refine r_iload_n K 3 dL_law_1832 rfl rfl ?_
    refine r_iconst (v := 1) K dL_law_1833 (by decide) ?_
    refine r_iadd K dL_law_1834 ?_
    refine r_iald K (k := I + 1) (by rw [hY2]) (jixs hY2 hI (c := 1) (by omega) hL rfl) ((h0 (I + 1)).trans (hxs (I + 1) (by omega))) dL_law_1835 ?_
    refine r_aload_n K 0 dL_law_1836 rfl rfl ?_
    refine r_iload_n K 3 dL_law_1837 rfl rfl ?_
    refine r_iconst (v := 2) K dL_law_1838 (by decide) ?_
    refine r_iadd K dL_law_1839 ?_
    refine r_iald K (k := I + 2) (by rw [hY2]) (jixs hY2 hI (c := 2) (by omega) hL rfl) ((h0 (I + 2)).trans (hxs (I + 2) (by omega))) dL_law_1840 ?_
    refine r_aload_n K 0 dL_law_1841 rfl rfl ?_
    refine r_iload_n K 3 dL_law_1842 rfl rfl ?_
    refine r_iconst (v := 3) K dL_law_1843 (by decide) ?_
    refine r_iadd K dL_law_1844 ?_
    refine r_iald K (k := I + 3) (by rw [hY2]) (jixs hY2 hI (c := 3) (by omega) hL rfl) ((h0 (I + 3)).trans (hxs (I + 3) (by omega))) dL_law_1845 ?_
    refine r_if_eq K 1853 dL_law_1846 (by decide) (fun h => absurd h hb) (fun _ => ?_)
    refine r_iconst (v := 1) K dL_law_1849 (by decide) ?_
    refine r_goto K 1854 dL_law_1850 (by decide) ?_
    refine r_callV K hl (c_X12_rivals l e2) mC_yX12_rivals mM_RL_187 mI_yX12_rivals mS_yX12_rivals mZ_RX12 vc12 hO22 (Nat.le_of_ble_eq_true rfl) (Nat.le_of_ble_eq_true rfl) np_yX12_rivals rfl (Nat.le_of_ble_eq_true rfl) dL_law_1854 ⟨Nat.le_trans (Nat.le_add_right _ 17) hrm.1, Nat.le_trans (Nat.le_add_right _ 64) hrm.2⟩ ?_
    refine r_icmp_eq K 2112 dL_law_1857 (by decide) (fun _ => ?_) (fun h => absurd heq h)
    exact kk _ _ _ _ _ hInv rfl (Nat.le_refl _)
def so_census (Inv : Nat → jY → jM → Prop) (n : Nat) (Y : jY) (μ : jM) : Prop := ∀ (a1 : Int32) (a2 : Int32), ∃ (z1 z2 : Int32 × jM), f_X11_census Y 1 a1 a2 μ = some z1 ∧ (∀ j, z1.2 0 j = μ 0 j) ∧ f_X12_census Y 95 a1 a2 z1.2 = some z2 ∧ z1.1 = z2.1 ∧ Inv n Y z2.2
set_option maxRecDepth 10000 in
theorem lc_census {X : jX} {l : Launch} {Q : State → Prop} {nc ns n : Nat} {Y : jY} {μ : jM} {L I : Nat} {xs : Nat → Int32} {i : Int32} {Inv : Nat → jY → jM → Prop} (K : jOK X RL cL_law 4 (some .boolean) 1000) (hl : X.2.1 = l) (hY : Y 0 = (20, L)) (hxs : ∀ j, j < L → μ 0 j = .int (xs j)) (hL : L ≤ 3072) (hI : i.toInt = I) (hIL : I + 6 ≤ L) (hrm : nc + 17 ≤ X.2.2.2.1.cells ∧ ns + 64 ≤ X.2.2.2.1.slots) (hO1 : (Y 1).1 = 11) (hO2 : (Y 95).1 = 12) (S : so_census Inv n Y μ) (kk : ∀ nc2 ns2 n2 Y2 μ2, Inv n2 Y2 μ2 → nc2 + n = nc + n2 → ns2 + 64 * n ≤ ns + 64 * n2 → JW X Q nc2 ns2 n2 Y2 2112 [(0, .ref 0), (1, .ref 1), (2, .ref 95), (3, .int i)] [] μ2) : JW X Q nc ns n Y 1862 [(0, .ref 0), (1, .ref 1), (2, .ref 95), (3, .int i)] [] μ := by
  have hY2 := hY
  have hO22 := hO2
  obtain ⟨z1, z2, e1, h0, e2, heq, hInv⟩ := S (xs (I + 1)) (xs (I + 2))
  refine r_aload_n K 1 dL_law_1862 rfl rfl ?_
  refine r_aload_n K 0 dL_law_1863 rfl rfl ?_
  refine r_iload_n K 3 dL_law_1864 rfl rfl ?_
  refine r_iconst (v := 1) K dL_law_1865 (by decide) ?_
  refine r_iadd K dL_law_1866 ?_
  refine r_iald K (k := I + 1) (by rw [hY]) (jixs hY hI (c := 1) (by omega) hL rfl) (hxs (I + 1) (by omega)) dL_law_1867 ?_
  refine r_aload_n K 0 dL_law_1868 rfl rfl ?_
  refine r_iload_n K 3 dL_law_1869 rfl rfl ?_
  refine r_iconst (v := 2) K dL_law_1870 (by decide) ?_
  refine r_iadd K dL_law_1871 ?_
  refine r_iald K (k := I + 2) (by rw [hY]) (jixs hY hI (c := 2) (by omega) hL rfl) (hxs (I + 2) (by omega)) dL_law_1872 ?_
  refine r_callV K hl (c_X11_census l e1) mC_yX11_census mM_RL_188 mI_yX11_census mS_yX11_census mZ_RX11 vc11 hO1 (Nat.le_of_ble_eq_true rfl) (Nat.le_of_ble_eq_true rfl) np_yX11_census rfl (Nat.le_of_ble_eq_true rfl) dL_law_1873 ⟨Nat.le_trans (Nat.le_add_right _ 17) hrm.1, Nat.le_trans (Nat.le_add_right _ 64) hrm.2⟩ ?_
  refine r_aload_n K 2 dL_law_1876 rfl rfl ?_
  refine r_aload_n K 0 dL_law_1877 rfl rfl ?_
  refine r_iload_n K 3 dL_law_1878 rfl rfl ?_
  refine r_iconst (v := 1) K dL_law_1879 (by decide) ?_
  refine r_iadd K dL_law_1880 ?_
  refine r_iald K (k := I + 1) (by rw [hY2]) (jixs hY2 hI (c := 1) (by omega) hL rfl) ((h0 (I + 1)).trans (hxs (I + 1) (by omega))) dL_law_1881 ?_
  refine r_aload_n K 0 dL_law_1882 rfl rfl ?_
  refine r_iload_n K 3 dL_law_1883 rfl rfl ?_
  refine r_iconst (v := 2) K dL_law_1884 (by decide) ?_
  refine r_iadd K dL_law_1885 ?_
  refine r_iald K (k := I + 2) (by rw [hY2]) (jixs hY2 hI (c := 2) (by omega) hL rfl) ((h0 (I + 2)).trans (hxs (I + 2) (by omega))) dL_law_1886 ?_
  refine r_callV K hl (c_X12_census l e2) mC_yX12_census mM_RL_191 mI_yX12_census mS_yX12_census mZ_RX12 vc12 hO22 (Nat.le_of_ble_eq_true rfl) (Nat.le_of_ble_eq_true rfl) np_yX12_census rfl (Nat.le_of_ble_eq_true rfl) dL_law_1887 ⟨Nat.le_trans (Nat.le_add_right _ 17) hrm.1, Nat.le_trans (Nat.le_add_right _ 64) hrm.2⟩ ?_
  refine r_icmp_eq K 2112 dL_law_1890 (by decide) (fun _ => ?_) (fun h => absurd heq h)
  exact kk _ _ _ _ _ hInv rfl (Nat.le_refl _)
def so_join (Inv : Nat → jY → jM → Prop) (n : Nat) (Y : jY) (μ : jM) : Prop := ∀ (a1 : Int32) (a2 : Int32) (a3 : Int32), ∃ (z1 z2 : Int32 × jM), f_X11_join Y 1 a1 a2 a3 μ = some z1 ∧ (∀ j, z1.2 0 j = μ 0 j) ∧ f_X12_join Y 95 a1 a2 a3 z1.2 = some z2 ∧ z1.1 = z2.1 ∧ Inv n Y z2.2
set_option maxRecDepth 10000 in
theorem lc_join {X : jX} {l : Launch} {Q : State → Prop} {nc ns n : Nat} {Y : jY} {μ : jM} {L I : Nat} {xs : Nat → Int32} {i : Int32} {Inv : Nat → jY → jM → Prop} (K : jOK X RL cL_law 4 (some .boolean) 1000) (hl : X.2.1 = l) (hY : Y 0 = (20, L)) (hxs : ∀ j, j < L → μ 0 j = .int (xs j)) (hL : L ≤ 3072) (hI : i.toInt = I) (hIL : I + 6 ≤ L) (hrm : nc + 17 ≤ X.2.2.2.1.cells ∧ ns + 64 ≤ X.2.2.2.1.slots) (hO1 : (Y 1).1 = 11) (hO2 : (Y 95).1 = 12) (S : so_join Inv n Y μ) (kk : ∀ nc2 ns2 n2 Y2 μ2, Inv n2 Y2 μ2 → nc2 + n = nc + n2 → ns2 + 64 * n ≤ ns + 64 * n2 → JW X Q nc2 ns2 n2 Y2 2112 [(0, .ref 0), (1, .ref 1), (2, .ref 95), (3, .int i)] [] μ2) : JW X Q nc ns n Y 1895 [(0, .ref 0), (1, .ref 1), (2, .ref 95), (3, .int i)] [] μ := by
  have hY2 := hY
  have hO22 := hO2
  obtain ⟨z1, z2, e1, h0, e2, heq, hInv⟩ := S (xs (I + 1)) (xs (I + 2)) (xs (I + 3))
  refine r_aload_n K 1 dL_law_1895 rfl rfl ?_
  refine r_aload_n K 0 dL_law_1896 rfl rfl ?_
  refine r_iload_n K 3 dL_law_1897 rfl rfl ?_
  refine r_iconst (v := 1) K dL_law_1898 (by decide) ?_
  refine r_iadd K dL_law_1899 ?_
  refine r_iald K (k := I + 1) (by rw [hY]) (jixs hY hI (c := 1) (by omega) hL rfl) (hxs (I + 1) (by omega)) dL_law_1900 ?_
  refine r_aload_n K 0 dL_law_1901 rfl rfl ?_
  refine r_iload_n K 3 dL_law_1902 rfl rfl ?_
  refine r_iconst (v := 2) K dL_law_1903 (by decide) ?_
  refine r_iadd K dL_law_1904 ?_
  refine r_iald K (k := I + 2) (by rw [hY]) (jixs hY hI (c := 2) (by omega) hL rfl) (hxs (I + 2) (by omega)) dL_law_1905 ?_
  refine r_aload_n K 0 dL_law_1906 rfl rfl ?_
  refine r_iload_n K 3 dL_law_1907 rfl rfl ?_
  refine r_iconst (v := 3) K dL_law_1908 (by decide) ?_
  refine r_iadd K dL_law_1909 ?_
  refine r_iald K (k := I + 3) (by rw [hY]) (jixs hY hI (c := 3) (by omega) hL rfl) (hxs (I + 3) (by omega)) dL_law_1910 ?_
  refine r_callV K hl (c_X11_join l e1) mC_yX11_join mM_RL_192 mI_yX11_join mS_yX11_join mZ_RX11 vc11 hO1 (Nat.le_of_ble_eq_true rfl) (Nat.le_of_ble_eq_true rfl) np_yX11_join rfl (Nat.le_of_ble_eq_true rfl) dL_law_1911 ⟨Nat.le_trans (Nat.le_add_right _ 17) hrm.1, Nat.le_trans (Nat.le_add_right _ 64) hrm.2⟩ ?_
  refine r_aload_n K 2 dL_law_1914 rfl rfl ?_
  refine r_aload_n K 0 dL_law_1915 rfl rfl ?_
  refine r_iload_n K 3 dL_law_1916 rfl rfl ?_
  refine r_iconst (v := 1) K dL_law_1917 (by decide) ?_
  refine r_iadd K dL_law_1918 ?_
  refine r_iald K (k := I + 1) (by rw [hY2]) (jixs hY2 hI (c := 1) (by omega) hL rfl) ((h0 (I + 1)).trans (hxs (I + 1) (by omega))) dL_law_1919 ?_
  refine r_aload_n K 0 dL_law_1920 rfl rfl ?_
  refine r_iload_n K 3 dL_law_1921 rfl rfl ?_
  refine r_iconst (v := 2) K dL_law_1922 (by decide) ?_
  refine r_iadd K dL_law_1923 ?_
  refine r_iald K (k := I + 2) (by rw [hY2]) (jixs hY2 hI (c := 2) (by omega) hL rfl) ((h0 (I + 2)).trans (hxs (I + 2) (by omega))) dL_law_1924 ?_
  refine r_aload_n K 0 dL_law_1925 rfl rfl ?_
  refine r_iload_n K 3 dL_law_1926 rfl rfl ?_
  refine r_iconst (v := 3) K dL_law_1927 (by decide) ?_
  refine r_iadd K dL_law_1928 ?_
  refine r_iald K (k := I + 3) (by rw [hY2]) (jixs hY2 hI (c := 3) (by omega) hL rfl) ((h0 (I + 3)).trans (hxs (I + 3) (by omega))) dL_law_1929 ?_
  refine r_callV K hl (c_X12_join l e2) mC_yX12_join mM_RL_195 mI_yX12_join mS_yX12_join mZ_RX12 vc12 hO22 (Nat.le_of_ble_eq_true rfl) (Nat.le_of_ble_eq_true rfl) np_yX12_join rfl (Nat.le_of_ble_eq_true rfl) dL_law_1930 ⟨Nat.le_trans (Nat.le_add_right _ 17) hrm.1, Nat.le_trans (Nat.le_add_right _ 64) hrm.2⟩ ?_
  refine r_icmp_eq K 2112 dL_law_1933 (by decide) (fun _ => ?_) (fun h => absurd heq h)
  exact kk _ _ _ _ _ hInv rfl (Nat.le_refl _)
def so_nearest (Inv : Nat → jY → jM → Prop) (n : Nat) (Y : jY) (μ : jM) : Prop := ∀ (a1 : Int32) (a2 : Int32), ∃ (z1 z2 : Int32 × jM), f_X11_nearest Y 1 a1 a2 μ = some z1 ∧ (∀ j, z1.2 0 j = μ 0 j) ∧ f_X12_nearest Y 95 a1 a2 z1.2 = some z2 ∧ z1.1 = z2.1 ∧ Inv n Y z2.2
set_option maxRecDepth 10000 in
theorem lc_nearest {X : jX} {l : Launch} {Q : State → Prop} {nc ns n : Nat} {Y : jY} {μ : jM} {L I : Nat} {xs : Nat → Int32} {i : Int32} {Inv : Nat → jY → jM → Prop} (K : jOK X RL cL_law 4 (some .boolean) 1000) (hl : X.2.1 = l) (hY : Y 0 = (20, L)) (hxs : ∀ j, j < L → μ 0 j = .int (xs j)) (hL : L ≤ 3072) (hI : i.toInt = I) (hIL : I + 6 ≤ L) (hrm : nc + 17 ≤ X.2.2.2.1.cells ∧ ns + 64 ≤ X.2.2.2.1.slots) (hO1 : (Y 1).1 = 11) (hO2 : (Y 95).1 = 12) (S : so_nearest Inv n Y μ) (kk : ∀ nc2 ns2 n2 Y2 μ2, Inv n2 Y2 μ2 → nc2 + n = nc + n2 → ns2 + 64 * n ≤ ns + 64 * n2 → JW X Q nc2 ns2 n2 Y2 2112 [(0, .ref 0), (1, .ref 1), (2, .ref 95), (3, .int i)] [] μ2) : JW X Q nc ns n Y 1938 [(0, .ref 0), (1, .ref 1), (2, .ref 95), (3, .int i)] [] μ := by
  have hY2 := hY
  have hO22 := hO2
  obtain ⟨z1, z2, e1, h0, e2, heq, hInv⟩ := S (xs (I + 1)) (xs (I + 2))
  refine r_aload_n K 1 dL_law_1938 rfl rfl ?_
  refine r_aload_n K 0 dL_law_1939 rfl rfl ?_
  refine r_iload_n K 3 dL_law_1940 rfl rfl ?_
  refine r_iconst (v := 1) K dL_law_1941 (by decide) ?_
  refine r_iadd K dL_law_1942 ?_
  refine r_iald K (k := I + 1) (by rw [hY]) (jixs hY hI (c := 1) (by omega) hL rfl) (hxs (I + 1) (by omega)) dL_law_1943 ?_
  refine r_aload_n K 0 dL_law_1944 rfl rfl ?_
  refine r_iload_n K 3 dL_law_1945 rfl rfl ?_
  refine r_iconst (v := 2) K dL_law_1946 (by decide) ?_
  refine r_iadd K dL_law_1947 ?_
  refine r_iald K (k := I + 2) (by rw [hY]) (jixs hY hI (c := 2) (by omega) hL rfl) (hxs (I + 2) (by omega)) dL_law_1948 ?_
  refine r_callV K hl (c_X11_nearest l e1) mC_yX11_nearest mM_RL_196 mI_yX11_nearest mS_yX11_nearest mZ_RX11 vc11 hO1 (Nat.le_of_ble_eq_true rfl) (Nat.le_of_ble_eq_true rfl) np_yX11_nearest rfl (Nat.le_of_ble_eq_true rfl) dL_law_1949 ⟨Nat.le_trans (Nat.le_add_right _ 17) hrm.1, Nat.le_trans (Nat.le_add_right _ 64) hrm.2⟩ ?_
  refine r_aload_n K 2 dL_law_1952 rfl rfl ?_
  refine r_aload_n K 0 dL_law_1953 rfl rfl ?_
  refine r_iload_n K 3 dL_law_1954 rfl rfl ?_
  refine r_iconst (v := 1) K dL_law_1955 (by decide) ?_
  refine r_iadd K dL_law_1956 ?_
  refine r_iald K (k := I + 1) (by rw [hY2]) (jixs hY2 hI (c := 1) (by omega) hL rfl) ((h0 (I + 1)).trans (hxs (I + 1) (by omega))) dL_law_1957 ?_
  refine r_aload_n K 0 dL_law_1958 rfl rfl ?_
  refine r_iload_n K 3 dL_law_1959 rfl rfl ?_
  refine r_iconst (v := 2) K dL_law_1960 (by decide) ?_
  refine r_iadd K dL_law_1961 ?_
  refine r_iald K (k := I + 2) (by rw [hY2]) (jixs hY2 hI (c := 2) (by omega) hL rfl) ((h0 (I + 2)).trans (hxs (I + 2) (by omega))) dL_law_1962 ?_
  refine r_callV K hl (c_X12_nearest l e2) mC_yX12_nearest mM_RL_199 mI_yX12_nearest mS_yX12_nearest mZ_RX12 vc12 hO22 (Nat.le_of_ble_eq_true rfl) (Nat.le_of_ble_eq_true rfl) np_yX12_nearest rfl (Nat.le_of_ble_eq_true rfl) dL_law_1963 ⟨Nat.le_trans (Nat.le_add_right _ 17) hrm.1, Nat.le_trans (Nat.le_add_right _ 64) hrm.2⟩ ?_
  refine r_icmp_eq K 2112 dL_law_1966 (by decide) (fun _ => ?_) (fun h => absurd heq h)
  exact kk _ _ _ _ _ hInv rfl (Nat.le_refl _)
def so_all (Inv : Nat → jY → jM → Prop) (n : Nat) (Y : jY) (μ : jM) : Prop := ∃ (z1 z2 : Int32 × jM), f_X11_all Y 1 μ = some z1 ∧ (∀ j, z1.2 0 j = μ 0 j) ∧ f_X12_all Y 95 z1.2 = some z2 ∧ z1.1 = z2.1 ∧ Inv n Y z2.2
set_option maxRecDepth 10000 in
theorem lc_all {X : jX} {l : Launch} {Q : State → Prop} {nc ns n : Nat} {Y : jY} {μ : jM} {L I : Nat} {xs : Nat → Int32} {i : Int32} {Inv : Nat → jY → jM → Prop} (K : jOK X RL cL_law 4 (some .boolean) 1000) (hl : X.2.1 = l) (hY : Y 0 = (20, L)) (hxs : ∀ j, j < L → μ 0 j = .int (xs j)) (hL : L ≤ 3072) (hI : i.toInt = I) (hIL : I + 6 ≤ L) (hrm : nc + 17 ≤ X.2.2.2.1.cells ∧ ns + 64 ≤ X.2.2.2.1.slots) (hO1 : (Y 1).1 = 11) (hO2 : (Y 95).1 = 12) (S : so_all Inv n Y μ) (kk : ∀ nc2 ns2 n2 Y2 μ2, Inv n2 Y2 μ2 → nc2 + n = nc + n2 → ns2 + 64 * n ≤ ns + 64 * n2 → JW X Q nc2 ns2 n2 Y2 2112 [(0, .ref 0), (1, .ref 1), (2, .ref 95), (3, .int i)] [] μ2) : JW X Q nc ns n Y 1971 [(0, .ref 0), (1, .ref 1), (2, .ref 95), (3, .int i)] [] μ := by
  have hY2 := hY
  have hO22 := hO2
  obtain ⟨z1, z2, e1, h0, e2, heq, hInv⟩ := S
  refine r_aload_n K 1 dL_law_1971 rfl rfl ?_
  refine r_callV K hl (c_X11_all l e1) mC_yX11_all mM_RL_200 mI_yX11_all mS_yX11_all mZ_RX11 vc11 hO1 (Nat.le_of_ble_eq_true rfl) (Nat.le_of_ble_eq_true rfl) np_yX11_all rfl (Nat.le_of_ble_eq_true rfl) dL_law_1972 ⟨Nat.le_trans (Nat.le_add_right _ 17) hrm.1, Nat.le_trans (Nat.le_add_right _ 64) hrm.2⟩ ?_
  refine r_aload_n K 2 dL_law_1975 rfl rfl ?_
  refine r_callV K hl (c_X12_all l e2) mC_yX12_all mM_RL_203 mI_yX12_all mS_yX12_all mZ_RX12 vc12 hO22 (Nat.le_of_ble_eq_true rfl) (Nat.le_of_ble_eq_true rfl) np_yX12_all rfl (Nat.le_of_ble_eq_true rfl) dL_law_1976 ⟨Nat.le_trans (Nat.le_add_right _ 17) hrm.1, Nat.le_trans (Nat.le_add_right _ 64) hrm.2⟩ ?_
  refine r_icmp_eq K 2112 dL_law_1979 (by decide) (fun _ => ?_) (fun h => absurd heq h)
  exact kk _ _ _ _ _ hInv rfl (Nat.le_refl _)
def so_lay (Inv : Nat → jY → jM → Prop) (n : Nat) (Y : jY) (μ : jM) : Prop := ∀ (a1 : Int32) (a2 : Int32), ∃ (z1 z2 : Int32 × jM), f_X11_lay Y 1 a1 a2 μ = some z1 ∧ (∀ j, z1.2 0 j = μ 0 j) ∧ f_X12_lay Y 95 a1 a2 z1.2 = some z2 ∧ z1.1 = z2.1 ∧ Inv n Y z2.2
set_option maxRecDepth 10000 in
theorem lc_lay {X : jX} {l : Launch} {Q : State → Prop} {nc ns n : Nat} {Y : jY} {μ : jM} {L I : Nat} {xs : Nat → Int32} {i : Int32} {Inv : Nat → jY → jM → Prop} (K : jOK X RL cL_law 4 (some .boolean) 1000) (hl : X.2.1 = l) (hY : Y 0 = (20, L)) (hxs : ∀ j, j < L → μ 0 j = .int (xs j)) (hL : L ≤ 3072) (hI : i.toInt = I) (hIL : I + 6 ≤ L) (hrm : nc + 17 ≤ X.2.2.2.1.cells ∧ ns + 64 ≤ X.2.2.2.1.slots) (hO1 : (Y 1).1 = 11) (hO2 : (Y 95).1 = 12) (S : so_lay Inv n Y μ) (kk : ∀ nc2 ns2 n2 Y2 μ2, Inv n2 Y2 μ2 → nc2 + n = nc + n2 → ns2 + 64 * n ≤ ns + 64 * n2 → JW X Q nc2 ns2 n2 Y2 2112 [(0, .ref 0), (1, .ref 1), (2, .ref 95), (3, .int i)] [] μ2) : JW X Q nc ns n Y 1984 [(0, .ref 0), (1, .ref 1), (2, .ref 95), (3, .int i)] [] μ := by
  have hY2 := hY
  have hO22 := hO2
  obtain ⟨z1, z2, e1, h0, e2, heq, hInv⟩ := S (xs (I + 1)) (xs (I + 2))
  refine r_aload_n K 1 dL_law_1984 rfl rfl ?_
  refine r_aload_n K 0 dL_law_1985 rfl rfl ?_
  refine r_iload_n K 3 dL_law_1986 rfl rfl ?_
  refine r_iconst (v := 1) K dL_law_1987 (by decide) ?_
  refine r_iadd K dL_law_1988 ?_
  refine r_iald K (k := I + 1) (by rw [hY]) (jixs hY hI (c := 1) (by omega) hL rfl) (hxs (I + 1) (by omega)) dL_law_1989 ?_
  refine r_aload_n K 0 dL_law_1990 rfl rfl ?_
  refine r_iload_n K 3 dL_law_1991 rfl rfl ?_
  refine r_iconst (v := 2) K dL_law_1992 (by decide) ?_
  refine r_iadd K dL_law_1993 ?_
  refine r_iald K (k := I + 2) (by rw [hY]) (jixs hY hI (c := 2) (by omega) hL rfl) (hxs (I + 2) (by omega)) dL_law_1994 ?_
  refine r_callV K hl (c_X11_lay l e1) mC_yX11_lay mM_RL_204 mI_yX11_lay mS_yX11_lay mZ_RX11 vc11 hO1 (Nat.le_of_ble_eq_true rfl) (Nat.le_of_ble_eq_true rfl) np_yX11_lay rfl (Nat.le_of_ble_eq_true rfl) dL_law_1995 ⟨Nat.le_trans (Nat.le_add_right _ 17) hrm.1, Nat.le_trans (Nat.le_add_right _ 64) hrm.2⟩ ?_
  refine r_aload_n K 2 dL_law_1998 rfl rfl ?_
  refine r_aload_n K 0 dL_law_1999 rfl rfl ?_
  refine r_iload_n K 3 dL_law_2000 rfl rfl ?_
  refine r_iconst (v := 1) K dL_law_2001 (by decide) ?_
  refine r_iadd K dL_law_2002 ?_
  refine r_iald K (k := I + 1) (by rw [hY2]) (jixs hY2 hI (c := 1) (by omega) hL rfl) ((h0 (I + 1)).trans (hxs (I + 1) (by omega))) dL_law_2003 ?_
  refine r_aload_n K 0 dL_law_2004 rfl rfl ?_
  refine r_iload_n K 3 dL_law_2005 rfl rfl ?_
  refine r_iconst (v := 2) K dL_law_2006 (by decide) ?_
  refine r_iadd K dL_law_2007 ?_
  refine r_iald K (k := I + 2) (by rw [hY2]) (jixs hY2 hI (c := 2) (by omega) hL rfl) ((h0 (I + 2)).trans (hxs (I + 2) (by omega))) dL_law_2008 ?_
  refine r_callV K hl (c_X12_lay l e2) mC_yX12_lay mM_RL_207 mI_yX12_lay mS_yX12_lay mZ_RX12 vc12 hO22 (Nat.le_of_ble_eq_true rfl) (Nat.le_of_ble_eq_true rfl) np_yX12_lay rfl (Nat.le_of_ble_eq_true rfl) dL_law_2009 ⟨Nat.le_trans (Nat.le_add_right _ 17) hrm.1, Nat.le_trans (Nat.le_add_right _ 64) hrm.2⟩ ?_
  refine r_icmp_eq K 2112 dL_law_2012 (by decide) (fun _ => ?_) (fun h => absurd heq h)
  exact kk _ _ _ _ _ hInv rfl (Nat.le_refl _)
def so_unique (Inv : Nat → jY → jM → Prop) (n : Nat) (Y : jY) (μ : jM) : Prop := ∃ (z1 z2 : Int32 × jM), f_X11_unique Y 1 μ = some z1 ∧ (∀ j, z1.2 0 j = μ 0 j) ∧ f_X12_unique Y 95 z1.2 = some z2 ∧ z1.1 = z2.1 ∧ Inv n Y z2.2
set_option maxRecDepth 10000 in
theorem lc_unique {X : jX} {l : Launch} {Q : State → Prop} {nc ns n : Nat} {Y : jY} {μ : jM} {L I : Nat} {xs : Nat → Int32} {i : Int32} {Inv : Nat → jY → jM → Prop} (K : jOK X RL cL_law 4 (some .boolean) 1000) (hl : X.2.1 = l) (hY : Y 0 = (20, L)) (hxs : ∀ j, j < L → μ 0 j = .int (xs j)) (hL : L ≤ 3072) (hI : i.toInt = I) (hIL : I + 6 ≤ L) (hrm : nc + 17 ≤ X.2.2.2.1.cells ∧ ns + 64 ≤ X.2.2.2.1.slots) (hO1 : (Y 1).1 = 11) (hO2 : (Y 95).1 = 12) (S : so_unique Inv n Y μ) (kk : ∀ nc2 ns2 n2 Y2 μ2, Inv n2 Y2 μ2 → nc2 + n = nc + n2 → ns2 + 64 * n ≤ ns + 64 * n2 → JW X Q nc2 ns2 n2 Y2 2112 [(0, .ref 0), (1, .ref 1), (2, .ref 95), (3, .int i)] [] μ2) : JW X Q nc ns n Y 2017 [(0, .ref 0), (1, .ref 1), (2, .ref 95), (3, .int i)] [] μ := by
  have hY2 := hY
  have hO22 := hO2
  obtain ⟨z1, z2, e1, h0, e2, heq, hInv⟩ := S
  refine r_aload_n K 1 dL_law_2017 rfl rfl ?_
  refine r_callV K hl (c_X11_unique l e1) mC_yX11_unique mM_RL_208 mI_yX11_unique mS_yX11_unique mZ_RX11 vc11 hO1 (Nat.le_of_ble_eq_true rfl) (Nat.le_of_ble_eq_true rfl) np_yX11_unique rfl (Nat.le_of_ble_eq_true rfl) dL_law_2018 ⟨Nat.le_trans (Nat.le_add_right _ 17) hrm.1, Nat.le_trans (Nat.le_add_right _ 64) hrm.2⟩ ?_
  refine r_aload_n K 2 dL_law_2021 rfl rfl ?_
  refine r_callV K hl (c_X12_unique l e2) mC_yX12_unique mM_RL_211 mI_yX12_unique mS_yX12_unique mZ_RX12 vc12 hO22 (Nat.le_of_ble_eq_true rfl) (Nat.le_of_ble_eq_true rfl) np_yX12_unique rfl (Nat.le_of_ble_eq_true rfl) dL_law_2022 ⟨Nat.le_trans (Nat.le_add_right _ 17) hrm.1, Nat.le_trans (Nat.le_add_right _ 64) hrm.2⟩ ?_
  refine r_icmp_eq K 2112 dL_law_2025 (by decide) (fun _ => ?_) (fun h => absurd heq h)
  exact kk _ _ _ _ _ hInv rfl (Nat.le_refl _)
def so_some (Inv : Nat → jY → jM → Prop) (n : Nat) (Y : jY) (μ : jM) : Prop := ∀ (a1 : Int32) (a2 : Int32), ∃ (z1 z2 : Int32 × jM), f_X11_some Y 1 a1 a2 μ = some z1 ∧ (∀ j, z1.2 0 j = μ 0 j) ∧ f_X12_some Y 95 a1 a2 z1.2 = some z2 ∧ z1.1 = z2.1 ∧ Inv n Y z2.2
set_option maxRecDepth 10000 in
theorem lc_some {X : jX} {l : Launch} {Q : State → Prop} {nc ns n : Nat} {Y : jY} {μ : jM} {L I : Nat} {xs : Nat → Int32} {i : Int32} {Inv : Nat → jY → jM → Prop} (K : jOK X RL cL_law 4 (some .boolean) 1000) (hl : X.2.1 = l) (hY : Y 0 = (20, L)) (hxs : ∀ j, j < L → μ 0 j = .int (xs j)) (hL : L ≤ 3072) (hI : i.toInt = I) (hIL : I + 6 ≤ L) (hrm : nc + 17 ≤ X.2.2.2.1.cells ∧ ns + 64 ≤ X.2.2.2.1.slots) (hO1 : (Y 1).1 = 11) (hO2 : (Y 95).1 = 12) (S : so_some Inv n Y μ) (kk : ∀ nc2 ns2 n2 Y2 μ2, Inv n2 Y2 μ2 → nc2 + n = nc + n2 → ns2 + 64 * n ≤ ns + 64 * n2 → JW X Q nc2 ns2 n2 Y2 2112 [(0, .ref 0), (1, .ref 1), (2, .ref 95), (3, .int i)] [] μ2) : JW X Q nc ns n Y 2030 [(0, .ref 0), (1, .ref 1), (2, .ref 95), (3, .int i)] [] μ := by
  have hY2 := hY
  have hO22 := hO2
  obtain ⟨z1, z2, e1, h0, e2, heq, hInv⟩ := S (xs (I + 1)) (xs (I + 2))
  refine r_aload_n K 1 dL_law_2030 rfl rfl ?_
  refine r_aload_n K 0 dL_law_2031 rfl rfl ?_
  refine r_iload_n K 3 dL_law_2032 rfl rfl ?_
  refine r_iconst (v := 1) K dL_law_2033 (by decide) ?_
  refine r_iadd K dL_law_2034 ?_
  refine r_iald K (k := I + 1) (by rw [hY]) (jixs hY hI (c := 1) (by omega) hL rfl) (hxs (I + 1) (by omega)) dL_law_2035 ?_
  refine r_aload_n K 0 dL_law_2036 rfl rfl ?_
  refine r_iload_n K 3 dL_law_2037 rfl rfl ?_
  refine r_iconst (v := 2) K dL_law_2038 (by decide) ?_
  refine r_iadd K dL_law_2039 ?_
  refine r_iald K (k := I + 2) (by rw [hY]) (jixs hY hI (c := 2) (by omega) hL rfl) (hxs (I + 2) (by omega)) dL_law_2040 ?_
  refine r_callV K hl (c_X11_some l e1) mC_yX11_some mM_RL_212 mI_yX11_some mS_yX11_some mZ_RX11 vc11 hO1 (Nat.le_of_ble_eq_true rfl) (Nat.le_of_ble_eq_true rfl) np_yX11_some rfl (Nat.le_of_ble_eq_true rfl) dL_law_2041 ⟨Nat.le_trans (Nat.le_add_right _ 17) hrm.1, Nat.le_trans (Nat.le_add_right _ 64) hrm.2⟩ ?_
  refine r_aload_n K 2 dL_law_2044 rfl rfl ?_
  refine r_aload_n K 0 dL_law_2045 rfl rfl ?_
  refine r_iload_n K 3 dL_law_2046 rfl rfl ?_
  refine r_iconst (v := 1) K dL_law_2047 (by decide) ?_
  refine r_iadd K dL_law_2048 ?_
  refine r_iald K (k := I + 1) (by rw [hY2]) (jixs hY2 hI (c := 1) (by omega) hL rfl) ((h0 (I + 1)).trans (hxs (I + 1) (by omega))) dL_law_2049 ?_
  refine r_aload_n K 0 dL_law_2050 rfl rfl ?_
  refine r_iload_n K 3 dL_law_2051 rfl rfl ?_
  refine r_iconst (v := 2) K dL_law_2052 (by decide) ?_
  refine r_iadd K dL_law_2053 ?_
  refine r_iald K (k := I + 2) (by rw [hY2]) (jixs hY2 hI (c := 2) (by omega) hL rfl) ((h0 (I + 2)).trans (hxs (I + 2) (by omega))) dL_law_2054 ?_
  refine r_callV K hl (c_X12_some l e2) mC_yX12_some mM_RL_215 mI_yX12_some mS_yX12_some mZ_RX12 vc12 hO22 (Nat.le_of_ble_eq_true rfl) (Nat.le_of_ble_eq_true rfl) np_yX12_some rfl (Nat.le_of_ble_eq_true rfl) dL_law_2055 ⟨Nat.le_trans (Nat.le_add_right _ 17) hrm.1, Nat.le_trans (Nat.le_add_right _ 64) hrm.2⟩ ?_
  refine r_icmp_eq K 2112 dL_law_2058 (by decide) (fun _ => ?_) (fun h => absurd heq h)
  exact kk _ _ _ _ _ hInv rfl (Nat.le_refl _)
def so_heard (Inv : Nat → jY → jM → Prop) (n : Nat) (Y : jY) (μ : jM) : Prop := ∀ (a1 : Int32), ∃ (z1 z2 : Int32 × jM), f_X11_heard Y 1 a1 μ = some z1 ∧ (∀ j, z1.2 0 j = μ 0 j) ∧ f_X12_heard Y 95 a1 z1.2 = some z2 ∧ z1.1 = z2.1 ∧ Inv n Y z2.2
set_option maxRecDepth 10000 in
theorem lc_heard {X : jX} {l : Launch} {Q : State → Prop} {nc ns n : Nat} {Y : jY} {μ : jM} {L I : Nat} {xs : Nat → Int32} {i : Int32} {Inv : Nat → jY → jM → Prop} (K : jOK X RL cL_law 4 (some .boolean) 1000) (hl : X.2.1 = l) (hY : Y 0 = (20, L)) (hxs : ∀ j, j < L → μ 0 j = .int (xs j)) (hL : L ≤ 3072) (hI : i.toInt = I) (hIL : I + 6 ≤ L) (hrm : nc + 17 ≤ X.2.2.2.1.cells ∧ ns + 64 ≤ X.2.2.2.1.slots) (hO1 : (Y 1).1 = 11) (hO2 : (Y 95).1 = 12) (S : so_heard Inv n Y μ) (kk : ∀ nc2 ns2 n2 Y2 μ2, Inv n2 Y2 μ2 → nc2 + n = nc + n2 → ns2 + 64 * n ≤ ns + 64 * n2 → JW X Q nc2 ns2 n2 Y2 2112 [(0, .ref 0), (1, .ref 1), (2, .ref 95), (3, .int i)] [] μ2) : JW X Q nc ns n Y 2063 [(0, .ref 0), (1, .ref 1), (2, .ref 95), (3, .int i)] [] μ := by
  have hY2 := hY
  have hO22 := hO2
  obtain ⟨z1, z2, e1, h0, e2, heq, hInv⟩ := S (xs (I + 1))
  refine r_aload_n K 1 dL_law_2063 rfl rfl ?_
  refine r_aload_n K 0 dL_law_2064 rfl rfl ?_
  refine r_iload_n K 3 dL_law_2065 rfl rfl ?_
  refine r_iconst (v := 1) K dL_law_2066 (by decide) ?_
  refine r_iadd K dL_law_2067 ?_
  refine r_iald K (k := I + 1) (by rw [hY]) (jixs hY hI (c := 1) (by omega) hL rfl) (hxs (I + 1) (by omega)) dL_law_2068 ?_
  refine r_callV K hl (c_X11_heard l e1) mC_yX11_heard mM_RL_216 mI_yX11_heard mS_yX11_heard mZ_RX11 vc11 hO1 (Nat.le_of_ble_eq_true rfl) (Nat.le_of_ble_eq_true rfl) np_yX11_heard rfl (Nat.le_of_ble_eq_true rfl) dL_law_2069 ⟨Nat.le_trans (Nat.le_add_right _ 17) hrm.1, Nat.le_trans (Nat.le_add_right _ 64) hrm.2⟩ ?_
  refine r_aload_n K 2 dL_law_2072 rfl rfl ?_
  refine r_aload_n K 0 dL_law_2073 rfl rfl ?_
  refine r_iload_n K 3 dL_law_2074 rfl rfl ?_
  refine r_iconst (v := 1) K dL_law_2075 (by decide) ?_
  refine r_iadd K dL_law_2076 ?_
  refine r_iald K (k := I + 1) (by rw [hY2]) (jixs hY2 hI (c := 1) (by omega) hL rfl) ((h0 (I + 1)).trans (hxs (I + 1) (by omega))) dL_law_2077 ?_
  refine r_callV K hl (c_X12_heard l e2) mC_yX12_heard mM_RL_219 mI_yX12_heard mS_yX12_heard mZ_RX12 vc12 hO22 (Nat.le_of_ble_eq_true rfl) (Nat.le_of_ble_eq_true rfl) np_yX12_heard rfl (Nat.le_of_ble_eq_true rfl) dL_law_2078 ⟨Nat.le_trans (Nat.le_add_right _ 17) hrm.1, Nat.le_trans (Nat.le_add_right _ 64) hrm.2⟩ ?_
  refine r_icmp_eq K 2112 dL_law_2081 (by decide) (fun _ => ?_) (fun h => absurd heq h)
  exact kk _ _ _ _ _ hInv rfl (Nat.le_refl _)
def so_keep (Inv : Nat → jY → jM → Prop) (n : Nat) (Y : jY) (μ : jM) : Prop := ∃ (mc ms : Nat) (Y2 : jY) (r : Int32) (μ1 : jM) (z2 : Int32 × jM), (∀ l, jC l yX11_keep cX11_keep 1 (some .int) 9 mc ms [.ref 1] n Y μ (n + mc) Y2 (some (.int r)) μ1) ∧ mc ≤ 17 ∧ ms ≤ 64 ∧ ms ≤ 64 * mc ∧ f_X12_keep Y2 95 μ1 = some z2 ∧ r = z2.1 ∧ (Y2 95).1 = 12 ∧ Inv (n + mc) Y2 z2.2
set_option maxRecDepth 10000 in
theorem lc_keep {X : jX} {l : Launch} {Q : State → Prop} {nc ns n : Nat} {Y : jY} {μ : jM} {L I : Nat} {xs : Nat → Int32} {i : Int32} {Inv : Nat → jY → jM → Prop} (K : jOK X RL cL_law 4 (some .boolean) 1000) (hl : X.2.1 = l) (hY : Y 0 = (20, L)) (hxs : ∀ j, j < L → μ 0 j = .int (xs j)) (hL : L ≤ 3072) (hI : i.toInt = I) (hIL : I + 6 ≤ L) (hrm : nc + 17 ≤ X.2.2.2.1.cells ∧ ns + 64 ≤ X.2.2.2.1.slots) (hO1 : (Y 1).1 = 11) (hO2 : (Y 95).1 = 12) (S : so_keep Inv n Y μ) (kk : ∀ nc2 ns2 n2 Y2 μ2, Inv n2 Y2 μ2 → nc2 + n = nc + n2 → ns2 + 64 * n ≤ ns + 64 * n2 → JW X Q nc2 ns2 n2 Y2 2112 [(0, .ref 0), (1, .ref 1), (2, .ref 95), (3, .int i)] [] μ2) : JW X Q nc ns n Y 2086 [(0, .ref 0), (1, .ref 1), (2, .ref 95), (3, .int i)] [] μ := by
  obtain ⟨mc, ms, Y2, r, μ1, z2, hC0, hmc, hms, hms2, e2, heq, hO22, hInv⟩ := S
  have hC := hC0 l
  refine r_aload_n K 1 dL_law_2086 rfl rfl ?_
  refine r_callV K hl hC mC_yX11_keep mM_RL_220 mI_yX11_keep mS_yX11_keep mZ_RX11 vc11 hO1 (Nat.le_of_ble_eq_true rfl) (Nat.le_of_ble_eq_true rfl) np_yX11_keep rfl (Nat.le_of_ble_eq_true rfl) dL_law_2087 ⟨Nat.le_trans (Nat.add_le_add_left hmc _) hrm.1, Nat.le_trans (Nat.add_le_add_left hms _) hrm.2⟩ ?_
  refine r_aload_n K 2 dL_law_2090 rfl rfl ?_
  refine r_callV K hl (c_X12_keep l e2) mC_yX12_keep mM_RL_223 mI_yX12_keep mS_yX12_keep mZ_RX12 vc12 hO22 (Nat.le_of_ble_eq_true rfl) (Nat.le_of_ble_eq_true rfl) np_yX12_keep rfl (Nat.le_of_ble_eq_true rfl) dL_law_2091 ⟨Nat.le_trans (Nat.add_le_add_left hmc _) hrm.1, Nat.le_trans (Nat.add_le_add_left hms _) hrm.2⟩ ?_
  refine r_icmp_eq K 2112 dL_law_2094 (by decide) (fun _ => ?_) (fun h => absurd heq h)
  exact kk _ _ _ _ _ hInv (by omega) (by omega)
def so_undo (Inv : Nat → jY → jM → Prop) (n : Nat) (Y : jY) (μ : jM) : Prop := ∃ (z1 z2 : Int32 × jM), f_X11_undo Y 1 μ = some z1 ∧ (∀ j, z1.2 0 j = μ 0 j) ∧ f_X12_undo Y 95 z1.2 = some z2 ∧ z1.1 = z2.1 ∧ Inv n Y z2.2
set_option maxRecDepth 10000 in
theorem lc_undo {X : jX} {l : Launch} {Q : State → Prop} {nc ns n : Nat} {Y : jY} {μ : jM} {L I : Nat} {xs : Nat → Int32} {i : Int32} {Inv : Nat → jY → jM → Prop} (K : jOK X RL cL_law 4 (some .boolean) 1000) (hl : X.2.1 = l) (hY : Y 0 = (20, L)) (hxs : ∀ j, j < L → μ 0 j = .int (xs j)) (hL : L ≤ 3072) (hI : i.toInt = I) (hIL : I + 6 ≤ L) (hrm : nc + 17 ≤ X.2.2.2.1.cells ∧ ns + 64 ≤ X.2.2.2.1.slots) (hO1 : (Y 1).1 = 11) (hO2 : (Y 95).1 = 12) (S : so_undo Inv n Y μ) (kk : ∀ nc2 ns2 n2 Y2 μ2, Inv n2 Y2 μ2 → nc2 + n = nc + n2 → ns2 + 64 * n ≤ ns + 64 * n2 → JW X Q nc2 ns2 n2 Y2 2112 [(0, .ref 0), (1, .ref 1), (2, .ref 95), (3, .int i)] [] μ2) : JW X Q nc ns n Y 2099 [(0, .ref 0), (1, .ref 1), (2, .ref 95), (3, .int i)] [] μ := by
  have hY2 := hY
  have hO22 := hO2
  obtain ⟨z1, z2, e1, h0, e2, heq, hInv⟩ := S
  refine r_aload_n K 1 dL_law_2099 rfl rfl ?_
  refine r_callV K hl (c_X11_undo l e1) mC_yX11_undo mM_RL_224 mI_yX11_undo mS_yX11_undo mZ_RX11 vc11 hO1 (Nat.le_of_ble_eq_true rfl) (Nat.le_of_ble_eq_true rfl) np_yX11_undo rfl (Nat.le_of_ble_eq_true rfl) dL_law_2100 ⟨Nat.le_trans (Nat.le_add_right _ 17) hrm.1, Nat.le_trans (Nat.le_add_right _ 64) hrm.2⟩ ?_
  refine r_aload_n K 2 dL_law_2103 rfl rfl ?_
  refine r_callV K hl (c_X12_undo l e2) mC_yX12_undo mM_RL_227 mI_yX12_undo mS_yX12_undo mZ_RX12 vc12 hO22 (Nat.le_of_ble_eq_true rfl) (Nat.le_of_ble_eq_true rfl) np_yX12_undo rfl (Nat.le_of_ble_eq_true rfl) dL_law_2104 ⟨Nat.le_trans (Nat.le_add_right _ 17) hrm.1, Nat.le_trans (Nat.le_add_right _ 64) hrm.2⟩ ?_
  refine r_icmp_eq K 2112 dL_law_2107 (by decide) (fun _ => ?_) (fun h => absurd heq h)
  exact kk _ _ _ _ _ hInv rfl (Nat.le_refl _)
def so_every (Inv : Nat → jY → jM → Prop) (n : Nat) (Y : jY) (μ : jM) : Prop := so_feed Inv n Y μ ∧ so_tones Inv n Y μ ∧ so_count Inv n Y μ ∧ so_polynomial Inv n Y μ ∧ so_moment Inv n Y μ ∧ so_weight Inv n Y μ ∧ so_determinant Inv n Y μ ∧ so_entry Inv n Y μ ∧ so_ortho Inv n Y μ ∧ so_fraction Inv n Y μ ∧ so_chain Inv n Y μ ∧ so_mass Inv n Y μ ∧ so_weighed Inv n Y μ ∧ so_kernel Inv n Y μ ∧ so_apart Inv n Y μ ∧ so_letter Inv n Y μ ∧ so_mirror Inv n Y μ ∧ so_shift Inv n Y μ ∧ so_tune Inv n Y μ ∧ so_table Inv n Y μ ∧ so_write Inv n Y μ ∧ so_read Inv n Y μ ∧ so_put Inv n Y μ ∧ so_told Inv n Y μ ∧ so_number Inv n Y μ ∧ so_value Inv n Y μ ∧ so_below Inv n Y μ ∧ so_root Inv n Y μ ∧ so_whole Inv n Y μ ∧ so_inverse Inv n Y μ ∧ so_alike Inv n Y μ ∧ so_between Inv n Y μ ∧ so_change Inv n Y μ ∧ so_would Inv n Y μ ∧ so_walks Inv n Y μ ∧ so_powers Inv n Y μ ∧ so_strike Inv n Y μ ∧ so_draws Inv n Y μ ∧ so_rivals Inv n Y μ ∧ so_census Inv n Y μ ∧ so_join Inv n Y μ ∧ so_nearest Inv n Y μ ∧ so_all Inv n Y μ ∧ so_lay Inv n Y μ ∧ so_unique Inv n Y μ ∧ so_some Inv n Y μ ∧ so_heard Inv n Y μ ∧ so_keep Inv n Y μ ∧ so_undo Inv n Y μ
set_option maxRecDepth 10000 in
theorem lc_switch {X : jX} {l : Launch} {Q : State → Prop} {nc ns n : Nat} {Y : jY} {μ : jM} {L I : Nat} {xs : Nat → Int32} {i v : Int32} {Inv : Nat → jY → jM → Prop} (K : jOK X RL cL_law 4 (some .boolean) 1000) (hl : X.2.1 = l) (hY : Y 0 = (20, L)) (hxs : ∀ j, j < L → μ 0 j = .int (xs j)) (hL : L ≤ 3072) (hI : i.toInt = I) (hIL : I + 6 ≤ L) (hrm : nc + 17 ≤ X.2.2.2.1.cells ∧ ns + 64 ≤ X.2.2.2.1.slots) (hO1 : (Y 1).1 = 11) (hO2 : (Y 95).1 = 12) (hInv : Inv n Y μ) (S : so_every Inv n Y μ) (kk : ∀ nc2 ns2 n2 Y2 μ2, Inv n2 Y2 μ2 → nc2 + n = nc + n2 → ns2 + 64 * n ≤ ns + 64 * n2 → JW X Q nc2 ns2 n2 Y2 2112 [(0, .ref 0), (1, .ref 1), (2, .ref 95), (3, .int i)] [] μ2) : JW X Q nc ns n Y 33 [(0, .ref 0), (1, .ref 1), (2, .ref 95), (3, .int i)] [.int v] μ := by
  obtain ⟨S0, S1, S2, S3, S4, S5, S6, S7, S8, S9, S10, S11, S12, S13, S14, S15, S16, S17, S18, S19, S20, S21, S22, S23, S24, S25, S26, S27, S28, S29, S30, S31, S32, S33, S34, S35, S36, S37, S38, S39, S40, S41, S42, S43, S44, S45, S46, S47, S48⟩ := S
  by_cases h0 : v = 0
  · exact r_tableIn K 244 dL_law_33 (by rw [h0]; decide) (by rw [h0]; decide) (by rw [h0]; rfl) (by decide) (lc_feed K hl hY hxs hL hI hIL hrm hO1 hO2 S0 kk)
  by_cases h1 : v = 1
  · exact r_tableIn K 307 dL_law_33 (by rw [h1]; decide) (by rw [h1]; decide) (by rw [h1]; rfl) (by decide) (lc_tones K hl hY hxs hL hI hIL hrm hO1 hO2 S1 kk)
  by_cases h2 : v = 2
  · exact r_tableIn K 330 dL_law_33 (by rw [h2]; decide) (by rw [h2]; decide) (by rw [h2]; rfl) (by decide) (lc_count K hl hY hxs hL hI hIL hrm hO1 hO2 S2 kk)
  by_cases h3 : v = 3
  · exact r_tableIn K 353 dL_law_33 (by rw [h3]; decide) (by rw [h3]; decide) (by rw [h3]; rfl) (by decide) (lc_polynomial K hl hY hxs hL hI hIL hrm hO1 hO2 S3 kk)
  by_cases h4 : v = 4
  · exact r_tableIn K 403 dL_law_33 (by rw [h4]; decide) (by rw [h4]; decide) (by rw [h4]; rfl) (by decide) (lc_moment K hl hY hxs hL hI hIL hrm hO1 hO2 S4 kk)
  by_cases h5 : v = 5
  · exact r_tableIn K 427 dL_law_33 (by rw [h5]; decide) (by rw [h5]; decide) (by rw [h5]; rfl) (by decide) (lc_weight K hl hY hxs hL hI hIL hrm hO1 hO2 S5 kk)
  by_cases h6 : v = 6
  · exact r_tableIn K 461 dL_law_33 (by rw [h6]; decide) (by rw [h6]; decide) (by rw [h6]; rfl) (by decide) (lc_determinant K hl hY hxs hL hI hIL hrm hO1 hO2 S6 kk)
  by_cases h7 : v = 7
  · exact r_tableIn K 495 dL_law_33 (by rw [h7]; decide) (by rw [h7]; decide) (by rw [h7]; rfl) (by decide) (lc_entry K hl hY hxs hL hI hIL hrm hO1 hO2 S7 kk)
  by_cases h8 : v = 8
  · exact r_tableIn K 555 dL_law_33 (by rw [h8]; decide) (by rw [h8]; decide) (by rw [h8]; rfl) (by decide) (lc_ortho K hl hY hxs hL hI hIL hrm hO1 hO2 S8 kk)
  by_cases h9 : v = 9
  · exact r_tableIn K 599 dL_law_33 (by rw [h9]; decide) (by rw [h9]; decide) (by rw [h9]; rfl) (by decide) (lc_fraction K hl hY hxs hL hI hIL hrm hO1 hO2 S9 kk)
  by_cases h10 : v = 10
  · exact r_tableIn K 643 dL_law_33 (by rw [h10]; decide) (by rw [h10]; decide) (by rw [h10]; rfl) (by decide) (lc_chain K hl hY hxs hL hI hIL hrm hO1 hO2 S10 kk)
  by_cases h11 : v = 11
  · exact r_tableIn K 687 dL_law_33 (by rw [h11]; decide) (by rw [h11]; decide) (by rw [h11]; rfl) (by decide) (lc_mass K hl hY hxs hL hI hIL hrm hO1 hO2 S11 kk)
  by_cases h12 : v = 12
  · exact r_tableIn K 711 dL_law_33 (by rw [h12]; decide) (by rw [h12]; decide) (by rw [h12]; rfl) (by decide) (lc_weighed K hl hY hxs hL hI hIL hrm hO1 hO2 S12 kk)
  by_cases h13 : v = 13
  · exact r_tableIn K 745 dL_law_33 (by rw [h13]; decide) (by rw [h13]; decide) (by rw [h13]; rfl) (by decide) (lc_kernel K hl hY hxs hL hI hIL hrm hO1 hO2 S13 kk)
  by_cases h14 : v = 14
  · exact r_tableIn K 779 dL_law_33 (by rw [h14]; decide) (by rw [h14]; decide) (by rw [h14]; rfl) (by decide) (lc_apart K hl hY hxs hL hI hIL hrm hO1 hO2 S14 kk)
  by_cases h15 : v = 15
  · exact r_tableIn K 793 dL_law_33 (by rw [h15]; decide) (by rw [h15]; decide) (by rw [h15]; rfl) (by decide) (lc_letter K hl hY hxs hL hI hIL hrm hO1 hO2 S15 kk)
  by_cases h16 : v = 16
  · exact r_tableIn K 816 dL_law_33 (by rw [h16]; decide) (by rw [h16]; decide) (by rw [h16]; rfl) (by decide) (lc_mirror K hl hY hxs hL hI hIL hrm hO1 hO2 S16 kk)
  by_cases h17 : v = 17
  · exact r_tableIn K 829 dL_law_33 (by rw [h17]; decide) (by rw [h17]; decide) (by rw [h17]; rfl) (by decide) (lc_shift K hl hY hxs hL hI hIL hrm hO1 hO2 S17 kk)
  by_cases h18 : v = 18
  · exact r_tableIn K 852 dL_law_33 (by rw [h18]; decide) (by rw [h18]; decide) (by rw [h18]; rfl) (by decide) (lc_tune K hl hY hxs hL hI hIL hrm hO1 hO2 S18 kk)
  by_cases h19 : v = 19
  · exact r_tableIn K 911 dL_law_33 (by rw [h19]; decide) (by rw [h19]; decide) (by rw [h19]; rfl) (by decide) (lc_table K hl hY hxs hL hI hIL hrm hO1 hO2 S19 kk)
  by_cases h20 : v = 20
  · exact r_tableIn K 944 dL_law_33 (by rw [h20]; decide) (by rw [h20]; decide) (by rw [h20]; rfl) (by decide) (lc_write K hl hY hxs hL hI hIL hrm hO1 hO2 S20 kk)
  by_cases h21 : v = 21
  · exact r_tableIn K 977 dL_law_33 (by rw [h21]; decide) (by rw [h21]; decide) (by rw [h21]; rfl) (by decide) (lc_read K hl hY hxs hL hI hIL hrm hO1 hO2 S21 kk)
  by_cases h22 : v = 22
  · exact r_tableIn K 1010 dL_law_33 (by rw [h22]; decide) (by rw [h22]; decide) (by rw [h22]; rfl) (by decide) (lc_put K hl hY hxs hL hI hIL hrm hO1 hO2 S22 kk)
  by_cases h23 : v = 23
  · exact r_tableIn K 1079 dL_law_33 (by rw [h23]; decide) (by rw [h23]; decide) (by rw [h23]; rfl) (by decide) (lc_told K hl hY hxs hL hI hIL hrm hO1 hO2 S23 kk)
  by_cases h24 : v = 24
  · exact r_tableIn K 1138 dL_law_33 (by rw [h24]; decide) (by rw [h24]; decide) (by rw [h24]; rfl) (by decide) (lc_number K hl hY hxs hL hI hIL hrm hO1 hO2 S24 kk)
  by_cases h25 : v = 25
  · exact r_tableIn K 1182 dL_law_33 (by rw [h25]; decide) (by rw [h25]; decide) (by rw [h25]; rfl) (by decide) (lc_value K hl hY hxs hL hI hIL hrm hO1 hO2 S25 kk)
  by_cases h26 : v = 26
  · exact r_tableIn K 1226 dL_law_33 (by rw [h26]; decide) (by rw [h26]; decide) (by rw [h26]; rfl) (by decide) (lc_below K hl hY hxs hL hI hIL hrm hO1 hO2 S26 kk)
  by_cases h27 : v = 27
  · exact r_tableIn K 1279 dL_law_33 (by rw [h27]; decide) (by rw [h27]; decide) (by rw [h27]; rfl) (by decide) (lc_root K hl hY hxs hL hI hIL hrm hO1 hO2 S27 kk)
  by_cases h28 : v = 28
  · exact r_tableIn K 1332 dL_law_33 (by rw [h28]; decide) (by rw [h28]; decide) (by rw [h28]; rfl) (by decide) (lc_whole K hl hY hxs hL hI hIL hrm hO1 hO2 S28 kk)
  by_cases h29 : v = 29
  · exact r_tableIn K 1365 dL_law_33 (by rw [h29]; decide) (by rw [h29]; decide) (by rw [h29]; rfl) (by decide) (lc_inverse K hl hY hxs hL hI hIL hrm hO1 hO2 S29 kk)
  by_cases h30 : v = 30
  · exact r_tableIn K 1419 dL_law_33 (by rw [h30]; decide) (by rw [h30]; decide) (by rw [h30]; rfl) (by decide) (lc_alike K hl hY hxs hL hI hIL hrm hO1 hO2 S30 kk)
  by_cases h31 : v = 31
  · exact r_tableIn K 1462 dL_law_33 (by rw [h31]; decide) (by rw [h31]; decide) (by rw [h31]; rfl) (by decide) (lc_between K hl hY hxs hL hI hIL hrm hO1 hO2 S31 kk)
  by_cases h32 : v = 32
  · exact r_tableIn K 1505 dL_law_33 (by rw [h32]; decide) (by rw [h32]; decide) (by rw [h32]; rfl) (by decide) (lc_change K hl hY hxs hL hI hIL hrm hO1 hO2 S32 kk)
  by_cases h33 : v = 33
  · exact r_tableIn K 1538 dL_law_33 (by rw [h33]; decide) (by rw [h33]; decide) (by rw [h33]; rfl) (by decide) (lc_would K hl hY hxs hL hI hIL hrm hO1 hO2 S33 kk)
  by_cases h34 : v = 34
  · exact r_tableIn K 1618 dL_law_33 (by rw [h34]; decide) (by rw [h34]; decide) (by rw [h34]; rfl) (by decide) (lc_walks K hl hY hxs hL hI hIL hrm hO1 hO2 S34 kk)
  by_cases h35 : v = 35
  · exact r_tableIn K 1672 dL_law_33 (by rw [h35]; decide) (by rw [h35]; decide) (by rw [h35]; rfl) (by decide) (lc_powers K hl hY hxs hL hI hIL hrm hO1 hO2 S35 kk)
  by_cases h36 : v = 36
  · exact r_tableIn K 1706 dL_law_33 (by rw [h36]; decide) (by rw [h36]; decide) (by rw [h36]; rfl) (by decide) (lc_strike K hl hY hxs hL hI hIL hrm hO1 hO2 S36 kk)
  by_cases h37 : v = 37
  · exact r_tableIn K 1760 dL_law_33 (by rw [h37]; decide) (by rw [h37]; decide) (by rw [h37]; rfl) (by decide) (lc_draws K hl hY hxs hL hI hIL hrm hO1 hO2 S37 kk)
  by_cases h38 : v = 38
  · exact r_tableIn K 1803 dL_law_33 (by rw [h38]; decide) (by rw [h38]; decide) (by rw [h38]; rfl) (by decide) (lc_rivals K hl hY hxs hL hI hIL hrm hO1 hO2 S38 kk)
  by_cases h39 : v = 39
  · exact r_tableIn K 1862 dL_law_33 (by rw [h39]; decide) (by rw [h39]; decide) (by rw [h39]; rfl) (by decide) (lc_census K hl hY hxs hL hI hIL hrm hO1 hO2 S39 kk)
  by_cases h40 : v = 40
  · exact r_tableIn K 1895 dL_law_33 (by rw [h40]; decide) (by rw [h40]; decide) (by rw [h40]; rfl) (by decide) (lc_join K hl hY hxs hL hI hIL hrm hO1 hO2 S40 kk)
  by_cases h41 : v = 41
  · exact r_tableIn K 1938 dL_law_33 (by rw [h41]; decide) (by rw [h41]; decide) (by rw [h41]; rfl) (by decide) (lc_nearest K hl hY hxs hL hI hIL hrm hO1 hO2 S41 kk)
  by_cases h42 : v = 42
  · exact r_tableIn K 1971 dL_law_33 (by rw [h42]; decide) (by rw [h42]; decide) (by rw [h42]; rfl) (by decide) (lc_all K hl hY hxs hL hI hIL hrm hO1 hO2 S42 kk)
  by_cases h43 : v = 43
  · exact r_tableIn K 1984 dL_law_33 (by rw [h43]; decide) (by rw [h43]; decide) (by rw [h43]; rfl) (by decide) (lc_lay K hl hY hxs hL hI hIL hrm hO1 hO2 S43 kk)
  by_cases h44 : v = 44
  · exact r_tableIn K 2017 dL_law_33 (by rw [h44]; decide) (by rw [h44]; decide) (by rw [h44]; rfl) (by decide) (lc_unique K hl hY hxs hL hI hIL hrm hO1 hO2 S44 kk)
  by_cases h45 : v = 45
  · exact r_tableIn K 2030 dL_law_33 (by rw [h45]; decide) (by rw [h45]; decide) (by rw [h45]; rfl) (by decide) (lc_some K hl hY hxs hL hI hIL hrm hO1 hO2 S45 kk)
  by_cases h46 : v = 46
  · exact r_tableIn K 2063 dL_law_33 (by rw [h46]; decide) (by rw [h46]; decide) (by rw [h46]; rfl) (by decide) (lc_heard K hl hY hxs hL hI hIL hrm hO1 hO2 S46 kk)
  by_cases h47 : v = 47
  · exact r_tableIn K 2086 dL_law_33 (by rw [h47]; decide) (by rw [h47]; decide) (by rw [h47]; rfl) (by decide) (lc_keep K hl hY hxs hL hI hIL hrm hO1 hO2 S47 kk)
  by_cases h48 : v = 48
  · exact r_tableIn K 2099 dL_law_33 (by rw [h48]; decide) (by rw [h48]; decide) (by rw [h48]; rfl) (by decide) (lc_undo K hl hY hxs hL hI hIL hrm hO1 hO2 S48 kk)
  refine r_tableOut K 2112 dL_law_33 (by
    rw [← Int32.toInt_inj] at h0
    rw [← Int32.toInt_inj] at h1
    rw [← Int32.toInt_inj] at h2
    rw [← Int32.toInt_inj] at h3
    rw [← Int32.toInt_inj] at h4
    rw [← Int32.toInt_inj] at h5
    rw [← Int32.toInt_inj] at h6
    rw [← Int32.toInt_inj] at h7
    rw [← Int32.toInt_inj] at h8
    rw [← Int32.toInt_inj] at h9
    rw [← Int32.toInt_inj] at h10
    rw [← Int32.toInt_inj] at h11
    rw [← Int32.toInt_inj] at h12
    rw [← Int32.toInt_inj] at h13
    rw [← Int32.toInt_inj] at h14
    rw [← Int32.toInt_inj] at h15
    rw [← Int32.toInt_inj] at h16
    rw [← Int32.toInt_inj] at h17
    rw [← Int32.toInt_inj] at h18
    rw [← Int32.toInt_inj] at h19
    rw [← Int32.toInt_inj] at h20
    rw [← Int32.toInt_inj] at h21
    rw [← Int32.toInt_inj] at h22
    rw [← Int32.toInt_inj] at h23
    rw [← Int32.toInt_inj] at h24
    rw [← Int32.toInt_inj] at h25
    rw [← Int32.toInt_inj] at h26
    rw [← Int32.toInt_inj] at h27
    rw [← Int32.toInt_inj] at h28
    rw [← Int32.toInt_inj] at h29
    rw [← Int32.toInt_inj] at h30
    rw [← Int32.toInt_inj] at h31
    rw [← Int32.toInt_inj] at h32
    rw [← Int32.toInt_inj] at h33
    rw [← Int32.toInt_inj] at h34
    rw [← Int32.toInt_inj] at h35
    rw [← Int32.toInt_inj] at h36
    rw [← Int32.toInt_inj] at h37
    rw [← Int32.toInt_inj] at h38
    rw [← Int32.toInt_inj] at h39
    rw [← Int32.toInt_inj] at h40
    rw [← Int32.toInt_inj] at h41
    rw [← Int32.toInt_inj] at h42
    rw [← Int32.toInt_inj] at h43
    rw [← Int32.toInt_inj] at h44
    rw [← Int32.toInt_inj] at h45
    rw [← Int32.toInt_inj] at h46
    rw [← Int32.toInt_inj] at h47
    rw [← Int32.toInt_inj] at h48
    have e0 : (0 : Int32).toInt = 0 := rfl; have e1 : (1 : Int32).toInt = 1 := rfl; have e2 : (2 : Int32).toInt = 2 := rfl; have e3 : (3 : Int32).toInt = 3 := rfl; have e4 : (4 : Int32).toInt = 4 := rfl; have e5 : (5 : Int32).toInt = 5 := rfl; have e6 : (6 : Int32).toInt = 6 := rfl; have e7 : (7 : Int32).toInt = 7 := rfl; have e8 : (8 : Int32).toInt = 8 := rfl; have e9 : (9 : Int32).toInt = 9 := rfl; have e10 : (10 : Int32).toInt = 10 := rfl; have e11 : (11 : Int32).toInt = 11 := rfl; have e12 : (12 : Int32).toInt = 12 := rfl; have e13 : (13 : Int32).toInt = 13 := rfl; have e14 : (14 : Int32).toInt = 14 := rfl; have e15 : (15 : Int32).toInt = 15 := rfl; have e16 : (16 : Int32).toInt = 16 := rfl; have e17 : (17 : Int32).toInt = 17 := rfl; have e18 : (18 : Int32).toInt = 18 := rfl; have e19 : (19 : Int32).toInt = 19 := rfl; have e20 : (20 : Int32).toInt = 20 := rfl; have e21 : (21 : Int32).toInt = 21 := rfl; have e22 : (22 : Int32).toInt = 22 := rfl; have e23 : (23 : Int32).toInt = 23 := rfl; have e24 : (24 : Int32).toInt = 24 := rfl; have e25 : (25 : Int32).toInt = 25 := rfl; have e26 : (26 : Int32).toInt = 26 := rfl; have e27 : (27 : Int32).toInt = 27 := rfl; have e28 : (28 : Int32).toInt = 28 := rfl; have e29 : (29 : Int32).toInt = 29 := rfl; have e30 : (30 : Int32).toInt = 30 := rfl; have e31 : (31 : Int32).toInt = 31 := rfl; have e32 : (32 : Int32).toInt = 32 := rfl; have e33 : (33 : Int32).toInt = 33 := rfl; have e34 : (34 : Int32).toInt = 34 := rfl; have e35 : (35 : Int32).toInt = 35 := rfl; have e36 : (36 : Int32).toInt = 36 := rfl; have e37 : (37 : Int32).toInt = 37 := rfl; have e38 : (38 : Int32).toInt = 38 := rfl; have e39 : (39 : Int32).toInt = 39 := rfl; have e40 : (40 : Int32).toInt = 40 := rfl; have e41 : (41 : Int32).toInt = 41 := rfl; have e42 : (42 : Int32).toInt = 42 := rfl; have e43 : (43 : Int32).toInt = 43 := rfl; have e44 : (44 : Int32).toInt = 44 := rfl; have e45 : (45 : Int32).toInt = 45 := rfl; have e46 : (46 : Int32).toInt = 46 := rfl; have e47 : (47 : Int32).toInt = 47 := rfl; have e48 : (48 : Int32).toInt = 48 := rfl
    omega) (by decide) ?_
  exact kk _ _ _ _ _ hInv rfl (Nat.le_refl _)
theorem lc_loop {X : jX} {l : Launch} {Q : State → Prop} {L : Nat} {xs : Nat → Int32} {Inv : Nat → jY → jM → Prop} (K : jOK X RL cL_law 4 (some .boolean) 1000) (hl : X.2.1 = l) (hL : L ≤ 3072) (hroom : 1000 ≤ X.2.2.2.1.cells ∧ 100000 ≤ X.2.2.2.1.slots)
    (hS : ∀ n Y μ, Inv n Y μ → Y 0 = (20, L) ∧ (∀ j, j < L → μ 0 j = .int (xs j)) ∧ (Y 1).1 = 11 ∧ (Y 95).1 = 12 ∧ n ≤ 400) (steps : ∀ n Y μ, Inv n Y μ → so_every Inv n Y μ)
    (fin : ∀ nc ns n Y μ i, nc ≤ 1000 → ns ≤ 100000 → JW X Q nc ns n Y 2118 [(0, .ref 0), (1, .ref 1), (2, .ref 95), (3, .int i)] [] μ) :
    ∀ (k I : Nat) (i : Int32) (nc ns n : Nat) (Y : jY) (μ : jM), L - I ≤ k → I ≤ L → i.toInt = I → Inv n Y μ → nc + 1 = n → ns ≤ 64 * n → JW X Q nc ns n Y 18 [(0, .ref 0), (1, .ref 1), (2, .ref 95), (3, .int i)] [] μ := by
  intro k
  induction k with
  | zero =>
    intro I i nc ns n Y μ hk hIL hI hInv hnc hns
    obtain ⟨hY, hxs, hO1, hO2, hn⟩ := hS n Y μ hInv
    refine r_iload_n K 3 dL_law_18 rfl rfl ?_
    refine r_aload_n K 0 dL_law_19 rfl rfl ?_
    refine r_alen K (t := 20) rfl (by rw [hY]) dL_law_20 ?_
    refine r_bipush (v := 6) K dL_law_21 (by decide) ?_
    refine r_isub K dL_law_23 ?_
    have e : (nI (Y 0).2 - 6).toInt = (L : Int) - 6 := by
      rw [hY, Int32.toInt_sub]
      have e1 : (nI L).toInt = L := Int32.toInt_ofNat_of_lt (by omega)
      have e2 : (6 : Int32).toInt = 6 := rfl
      rw [e1, e2]
      exact Int.bmod_eq_of_le (by omega) (by omega)
    refine r_icmp_gt K 2118 dL_law_24 (by decide) (fun _ => fin _ _ _ _ _ _ (by omega) (by omega)) (fun h => ?_)
    exfalso
    apply h
    rw [Int32.lt_iff_toInt_lt, e, hI]
    omega
  | succ k ih =>
    intro I i nc ns n Y μ hk hIL hI hInv hnc hns
    obtain ⟨hY, hxs, hO1, hO2, hn⟩ := hS n Y μ hInv
    refine r_iload_n K 3 dL_law_18 rfl rfl ?_
    refine r_aload_n K 0 dL_law_19 rfl rfl ?_
    refine r_alen K (t := 20) rfl (by rw [hY]) dL_law_20 ?_
    refine r_bipush (v := 6) K dL_law_21 (by decide) ?_
    refine r_isub K dL_law_23 ?_
    have e : (nI (Y 0).2 - 6).toInt = (L : Int) - 6 := by
      rw [hY, Int32.toInt_sub]
      have e1 : (nI L).toInt = L := Int32.toInt_ofNat_of_lt (by omega)
      have e2 : (6 : Int32).toInt = 6 := rfl
      rw [e1, e2]
      exact Int.bmod_eq_of_le (by omega) (by omega)
    refine r_icmp_gt K 2118 dL_law_24 (by decide) (fun _ => fin _ _ _ _ _ _ (by omega) (by omega)) (fun h => ?_)
    have hIL6 : I + 6 ≤ L := by
      rw [Int32.lt_iff_toInt_lt, e, hI] at h
      omega
    have hix : jix i (Y 0).2 = some I := by
      have h0 := jixs (c := 0) (k := 0) hY hI (by omega) hL rfl
      rw [show i + 0 = i from by simp] at h0
      exact h0
    refine r_aload_n K 0 dL_law_27 rfl rfl ?_
    refine r_iload_n K 3 dL_law_28 rfl rfl ?_
    refine r_iald K (k := I) (by rw [hY]) hix (hxs I (by omega)) dL_law_29 ?_
    refine r_bipush (v := 63) K dL_law_30 (by decide) ?_
    refine r_iand K dL_law_32 ?_
    refine lc_switch K hl hY hxs hL hI hIL6 ⟨by omega, by omega⟩ hO1 hO2 hInv (steps n Y μ hInv) (fun nc2 ns2 n2 Y2 μ2 hInv2 h1 h2 => ?_)
    refine r_iinc K 3 [(3, .int _), (0, .ref 0), (1, .ref 1), (2, .ref 95)] (v := i + 6) dL_law_2112 rfl rfl (by decide) rfl ?_
    refine r_goto K 18 dL_law_2115 (by decide) ?_
    refine r_sub [1, 2, 3, 0] rfl (ih (I + 6) (i + 6) nc2 ns2 n2 Y2 μ2 (by omega) (by omega) ?_ hInv2 (by omega) (by omega))
    rw [Int32.toInt_add, hI]
    have e2 : (6 : Int32).toInt = 6 := rfl
    rw [e2]
    have : ((I : Int) + 6).bmod (2 ^ 32) = (I : Int) + 6 := Int.bmod_eq_of_le (by omega) (by omega)
    rw [this]
    rfl
