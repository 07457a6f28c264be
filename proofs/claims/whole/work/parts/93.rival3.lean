/-! OPS: rivals, the reference's loops; both -/
theorem X11_rivals1 {L : Nat} {xs : Nat → Int32} {n : Nat} {Y : jY} {μ : jM} (h : Inv L xs n Y μ) {d w fb : Int} (d0 : 0 ≤ d) (d3 : d ≤ 3) (w0 : 0 ≤ w) (w2 : w ≤ 2) (hf : fb = 0 ∨ fb = 1) (hR1 : 1 ≤ gi μ 108 d) : ∃ ω, jit jF (fun (z : Int32 × Int32 × jM) => b_X11_rivals_46 Y 1 (ki w) (ki fb) (9 + 5 + 3 * d.toNat) z.1 z.2.1 z.2.2) ((0 : Int32), (0 : Int32), μ) = some (ki (if fb = 0 then (rvT (mA μ d) (mC μ d) (gi μ 108 d) w (2 * gi μ 108 d - 1).toNat).1 else (rvT (mA μ d) (mC μ d) (gi μ 108 d) w (2 * gi μ 108 d - 1).toNat).2), ω) ∧ kF 88 91 μ ω := by
  obtain ⟨hT, hB, hMB, hR, hA, hC⟩ := h.d d0 d3
  have b5 := hMB.2.1
  obtain ⟨⟨r1, r2⟩, e, h1, h2⟩ := jit_inv (f := fun (z : Int32 × Int32 × jM) => b_X11_rivals_46 Y 1 (ki w) (ki fb) (9 + 5 + 3 * d.toNat) z.1 z.2.1 z.2.2) (fun p z => z.1 = ki (rvT (mA μ d) (mC μ d) (gi μ 108 d) w p).1 ∧ z.2.1 = ki p ∧ kF 88 91 μ z.2.2 ∧ (fb = 1 → rvT (mA μ d) (mC μ d) (gi μ 108 d) w p = (0, -1))) (fun r => r.1 = ki (if fb = 0 then (rvT (mA μ d) (mC μ d) (gi μ 108 d) w (2 * gi μ 108 d - 1).toNat).1 else (rvT (mA μ d) (mC μ d) (gi μ 108 d) w (2 * gi μ 108 d - 1).toNat).2) ∧ kF 88 91 μ r.2) (2 * gi μ 108 d - 1).toNat (s := ((0 : Int32), (0 : Int32), μ)) ⟨rfl, rfl, kF.refl, fun _ => rfl⟩ (by omega) (fun p z hp hz => by
    obtain ⟨x, y, ν⟩ := z
    obtain ⟨rfl, rfl, z1, z2⟩ := hz
    simp only [] at z1
    have rng := rvT_rng (A := mA μ d) (C := mC μ d) (R := gi μ 108 d) (w := w) p
    by_cases ep : p = (2 * gi μ 108 d - 1).toNat
    · have g := kT.gr (hT.to z1)
      rw [z1.gi (by omega), hR] at g
      rcases hf with rfl | rfl
      · refine ⟨.inr (ki (rvT (mA μ d) (mC μ d) (gi μ 108 d) w p).1, ν), ?_, by rw [ep, if_pos rfl], z1⟩
        generalize (rvT (mA μ d) (mC μ d) (gi μ 108 d) w p).1 = u at *
        simp (disch := omega) only [b_X11_rivals_46, b_X11_rivals_215, g, ki_0, ki_1, ki_2, ki_3, ki_4, ki_5, ki_6, ki_7, ki_8, ki_9, ki_10, ki_11, ki_12, ki_13, ki_18, ki_20, ki_24, ki_32, ki_36, ki_45, ki_47, ki_48, ki_50, ki_57, ki_60, ki_63, ki_99, ki_100, ki_101, ki_120, ki_255, ki_468, ki_1000, ki_1024, ki_13849, ki_25173, ki_65535, ki_65536, ki_100000, ki_100001, ki_2147483647, ki_2147483648, kl_0, kl_1, kl_2, kl_9223372036854775808, ki_add, ki_sub, ki_mul, ki_neg, kl_add, kl_sub, kl_mul, kl_neg, ki_i2l, kl_l2i, ki_lt, ki_le, ki_eq, kcmp_eq, kcmp_lt, kcmp_le, kcmp_gt, kcmp_ge, Option.bind_some, Option.map_some, kbool0, kbool1, if_pos, if_neg, if_true, if_false, Int.neg_neg, Int.sub_zero, Int.add_zero, Int.zero_add, true_and, and_true, false_and, and_false, false_or, or_false, true_or, or_true, ne_eq, not_false_eq_true, not_true_eq_false]
      · refine ⟨.inr (ki (-1), ν), ?_, by rw [if_neg (by omega), ← ep, z2 rfl], z1⟩
        generalize (rvT (mA μ d) (mC μ d) (gi μ 108 d) w p).1 = u at *
        simp (disch := omega) only [b_X11_rivals_46, b_X11_rivals_215, g, ki_0, ki_1, ki_2, ki_3, ki_4, ki_5, ki_6, ki_7, ki_8, ki_9, ki_10, ki_11, ki_12, ki_13, ki_18, ki_20, ki_24, ki_32, ki_36, ki_45, ki_47, ki_48, ki_50, ki_57, ki_60, ki_63, ki_99, ki_100, ki_101, ki_120, ki_255, ki_468, ki_1000, ki_1024, ki_13849, ki_25173, ki_65535, ki_65536, ki_100000, ki_100001, ki_2147483647, ki_2147483648, kl_0, kl_1, kl_2, kl_9223372036854775808, ki_add, ki_sub, ki_mul, ki_neg, kl_add, kl_sub, kl_mul, kl_neg, ki_i2l, kl_l2i, ki_lt, ki_le, ki_eq, kcmp_eq, kcmp_lt, kcmp_le, kcmp_gt, kcmp_ge, Option.bind_some, Option.map_some, kbool0, kbool1, if_pos, if_neg, if_true, if_false, Int.neg_neg, Int.sub_zero, Int.add_zero, Int.zero_add, true_and, and_true, false_and, and_false, false_or, or_false, true_or, or_true, ne_eq, not_false_eq_true, not_true_eq_false]
    · obtain ⟨ω, r, c, kω, hr⟩ := X11_rivals2 h d0 d3 w0 w2 hf (p := p) (by omega) (by omega) (s := rvT (mA μ d) (mC μ d) (gi μ 108 d) w p) (by omega) (by omega) z2 z1
      have es : rvT (mA μ d) (mC μ d) (gi μ 108 d) w (p + 1) = rvS (fun v => rvV (mA μ d) (mC μ d) (gi μ 108 d) w (pB (gi μ 108 d) p) (pI (gi μ 108 d) p) v) (pC (gi μ 108 d) p) (pL (gi μ 108 d) p) (rvT (mA μ d) (mC μ d) (gi μ 108 d) w p) (pN (gi μ 108 d) p) := rfl
      rw [← es] at hr
      rcases hr with ⟨q, rfl⟩ | ⟨f1, q, rfl⟩
      · exact ⟨_, c, by omega, rfl, by rw [Int.natCast_add, Int.natCast_one], kω, q⟩
      · have st := rvT_stay (p := p + 1) q ((2 * gi μ 108 d - 1).toNat - (p + 1))
        rw [show p + 1 + ((2 * gi μ 108 d - 1).toNat - (p + 1)) = (2 * gi μ 108 d - 1).toNat by omega] at st
        exact ⟨_, c, by simp only []; rw [if_neg (by omega), st], kω⟩)
  simp only [] at h1
  exact ⟨r2, by rw [← h1]; exact e, h2⟩
theorem puM_puM {μ : jM} {d b i u v : Int} : puM (puM μ d b i u) d b i v = puM μ d b i v := by
  unfold puM
  funext a j
  by_cases e : a = (if b = 1 then 109 else 110) ∧ j = (5 * d + i).toNat
  · rw [e.1, e.2, jw_same, jw_same]
  · rw [jw_ne _ _ e, jw_ne _ _ e, jw_ne _ _ e]
theorem puM_orig {Y : jY} {μ : jM} (hM : kM Y μ) {d b i u : Int} (d0 : 0 ≤ d) (d3 : d ≤ 3) (hb : b = 0 ∨ b = 1) (i0 : 0 ≤ i) (i5 : i < 5) : puM (puM μ d b i u) d b i (if b = 1 then mA μ d i else mC μ d i) = μ := by
  funext a
  by_cases e : a = 109 ∨ a = 110
  · exact puM_back hM d0 d3 hb i0 i5 (fun _ _ => rfl) a e
  · unfold puM
    rw [jw_cell (by split <;> omega), jw_cell (by split <;> omega)]
theorem puM_kM {Y : jY} {μ : jM} (hM : kM Y μ) {d b i v : Int} (d0 : 0 ≤ d) (d3 : d ≤ 3) (i0 : 0 ≤ i) (i5 : i < 5) : kM Y (puM μ d b i v) := hM.to (puM_kF hM d0 d3 i0 i5)
theorem X12_putP {Y : jY} {μ : jM} (hM : kM Y μ) {d b i v : Int} (d0 : 0 ≤ d) (d3 : d ≤ 3) (hb : b = 0 ∨ b = 1) (i0 : 0 ≤ i) (i5 : i < 5) : f_X12_puts Y 95 (ki d) (ki b) (ki i) (ki v) μ = some (puM μ d b i v) := X12_puts hM d0 d3 i0 i5 hb
theorem X12_look {Y : jY} {μ : jM} (hM : kM Y μ) {d w b i v : Int} (d0 : 0 ≤ d) (d3 : d ≤ 3) (hMB : kMb μ d) (w0 : 0 ≤ w) (w2 : w ≤ 2) (hb : b = 0 ∨ b = 1) (i0 : 0 ≤ i) (i5 : i < 5) (hv : (b = 0 ∧ 1 ≤ v ∧ v ≤ 36) ∨ (b = 1 ∧ -6 ≤ v ∧ v ≤ 6)) : ∃ z : Int, (z = 0 ∨ z = 1) ∧ f_X12_isRival Y 95 (ki d) (ki w) (puM μ d b i v) = some (ki z, puM μ d b i v) ∧ (v ≠ (if b = 1 then mA μ d i else mC μ d i) → rvV (mA μ d) (mC μ d) (gi μ 108 d) w b i v = z) := by
  have K := X12_isRival (puM_kM hM (b := b) (v := v) d0 d3 i0 i5) d0 d3 (puM_kMb hMB d0 hb i0 hv) w0 w2
  have eR : gi (puM μ d b i v) 108 d = gi μ 108 d := puM_R (by omega) (by omega) d
  have eM : rvM (mA (puM μ d b i v) d) (mC (puM μ d b i v) d) (gi (puM μ d b i v) 108 d) w = rvM (up b 1 (mA μ d) i v) (up b 0 (mC μ d) i v) (gi μ 108 d) w := by
    rw [eR]
    exact rvM_congr hMB.1 (fun x x0 _ => puM_A (by omega) (by omega) d0 i0 x0) (fun x x0 _ => puM_C hb (by omega) (by omega) d0 i0 x0)
  refine ⟨rvM (up b 1 (mA μ d) i v) (up b 0 (mC μ d) i v) (gi μ 108 d) w, rvM_two _ _ _ _, ?_, fun ne => ?_⟩
  · rw [← eM]
    exact K
  · unfold rvV
    rw [if_neg ne]
theorem X12_rstep1 {Y : jY} {μ : jM} (hM : kM Y μ) {d p : Int} (d0 : 0 ≤ d) (d3 : d ≤ 3) (b5 : gi μ 108 d ≤ 5) (p0 : 0 ≤ p) (q : p < gi μ 108 d) {w fb a c : Int32} : b_X12_rivals_39 Y 95 (ki d) w fb a c (ki p) μ = jit jF (fun (z : Int32 × Int32 × Int32 × jM) => b_X12_rivals_130 Y 95 (ki d) w fb z.1 z.2.1 (ki p) (ki 1) (ki p) (ki (mA μ d p)) z.2.2.1 z.2.2.2) (a, c, ki (-6), μ) := by
  have g := kaI (kM.a108 hM) (x := d) d0 (by omega)
  have qa := X12_a hM (d := d) (i := p) d0 d3 p0 (by omega)
  have c1 : ¬ ((2 : Int32) * ki (gi μ 108 d) - (1 : Int32) ≤ ki p) := by
    rw [ki_2, ki_1, ki_mul, ki_sub, ki_le (by omega) (by omega) (by omega) (by omega)]
    omega
  have c2 : ¬ (ki (gi μ 108 d) ≤ ki p) := by
    rw [ki_le (by omega) (by omega) (by omega) (by omega)]
    omega
  have c3 : ¬ ((1 : Int32) = 0) := by decide
  have e1 : b_X12_rivals_39 Y 95 (ki d) w fb a c (ki p) μ = b_X12_rivals_70 Y 95 (ki d) w fb a c (ki p) (1 : Int32) μ := by
    unfold b_X12_rivals_39
    rw [kM.o26 hM, Option.bind_some, g, Option.bind_some, if_neg c1, Option.bind_some, g, Option.bind_some, if_neg c2]
  have e2 : b_X12_rivals_70 Y 95 (ki d) w fb a c (ki p) (1 : Int32) μ = b_X12_rivals_91 Y 95 (ki d) w fb a c (ki p) (1 : Int32) (ki p) μ := by
    unfold b_X12_rivals_70
    rw [if_neg c3]
  have e3 : b_X12_rivals_91 Y 95 (ki d) w fb a c (ki p) (1 : Int32) (ki p) μ = b_X12_rivals_115 Y 95 (ki d) w fb a c (ki p) (1 : Int32) (ki p) (ki (mA μ d p)) μ := by
    unfold b_X12_rivals_91
    rw [if_neg c3, krcv (kM.y hM), qa, Option.bind_some]
  have e4 : b_X12_rivals_115 Y 95 (ki d) w fb a c (ki p) (1 : Int32) (ki p) (ki (mA μ d p)) μ = b_X12_rivals_128 Y 95 (ki d) w fb a c (ki p) (1 : Int32) (ki p) (ki (mA μ d p)) (-6 : Int32) μ := by
    unfold b_X12_rivals_115
    rw [if_neg c3]
  rw [e1, e2, e3, e4]
  rfl
theorem X12_rstep0 {Y : jY} {μ : jM} (hM : kM Y μ) {d p : Int} (d0 : 0 ≤ d) (d3 : d ≤ 3) (b5 : gi μ 108 d ≤ 5) (q : gi μ 108 d ≤ p) (p1 : p < 2 * gi μ 108 d - 1) {w fb a c : Int32} : b_X12_rivals_39 Y 95 (ki d) w fb a c (ki p) μ = jit jF (fun (z : Int32 × Int32 × Int32 × jM) => b_X12_rivals_130 Y 95 (ki d) w fb z.1 z.2.1 (ki p) (ki 0) (ki (p - gi μ 108 d)) (ki (mC μ d (p - gi μ 108 d))) z.2.2.1 z.2.2.2) (a, c, ki 1, μ) := by
  have g := kaI (kM.a108 hM) (x := d) d0 (by omega)
  have qc := X12_c hM (d := d) (i := p - gi μ 108 d) d0 d3 (by omega) (by omega)
  have c1 : ¬ ((2 : Int32) * ki (gi μ 108 d) - (1 : Int32) ≤ ki p) := by
    rw [ki_2, ki_1, ki_mul, ki_sub, ki_le (by omega) (by omega) (by omega) (by omega)]
    omega
  have c2 : ki (gi μ 108 d) ≤ ki p := by
    rw [ki_le (by omega) (by omega) (by omega) (by omega)]
    omega
  have e1 : b_X12_rivals_39 Y 95 (ki d) w fb a c (ki p) μ = b_X12_rivals_70 Y 95 (ki d) w fb a c (ki p) (0 : Int32) μ := by
    unfold b_X12_rivals_39
    rw [kM.o26 hM, Option.bind_some, g, Option.bind_some, if_neg c1, Option.bind_some, g, Option.bind_some, if_pos c2]
  have e2 : b_X12_rivals_70 Y 95 (ki d) w fb a c (ki p) (0 : Int32) μ = b_X12_rivals_91 Y 95 (ki d) w fb a c (ki p) (0 : Int32) (ki (p - gi μ 108 d)) μ := by
    unfold b_X12_rivals_70
    rw [if_pos rfl, kM.o26 hM, Option.bind_some, g, Option.bind_some, ki_sub]
  have e3 : b_X12_rivals_91 Y 95 (ki d) w fb a c (ki p) (0 : Int32) (ki (p - gi μ 108 d)) μ = b_X12_rivals_115 Y 95 (ki d) w fb a c (ki p) (0 : Int32) (ki (p - gi μ 108 d)) (ki (mC μ d (p - gi μ 108 d))) μ := by
    unfold b_X12_rivals_91
    rw [if_pos rfl, krcv (kM.y hM), qc, Option.bind_some]
  have e4 : b_X12_rivals_115 Y 95 (ki d) w fb a c (ki p) (0 : Int32) (ki (p - gi μ 108 d)) (ki (mC μ d (p - gi μ 108 d))) μ = b_X12_rivals_128 Y 95 (ki d) w fb a c (ki p) (0 : Int32) (ki (p - gi μ 108 d)) (ki (mC μ d (p - gi μ 108 d))) (1 : Int32) μ := by
    unfold b_X12_rivals_115
    rw [if_pos rfl]
  rw [e1, e2, e3, e4]
  rfl
set_option maxHeartbeats 1000000 in
set_option maxRecDepth 10000 in
theorem X12_rivals2 {Y : jY} {μ : jM} (hM : kM Y μ) {d w fb p : Int} (d0 : 0 ≤ d) (d3 : d ≤ 3) (hMB : kMb μ d) (w0 : 0 ≤ w) (w2 : w ≤ 2) (p0 : 0 ≤ p) (p1 : p < 2 * gi μ 108 d - 1) {s : Int × Int} (s0 : 0 ≤ s.1) (s1 : s.1 ≤ 1000) (t0 : -1 ≤ s.2) (t1 : s.2 ≤ 100000) : b_X12_rivals_39 Y 95 (ki d) (ki w) (ki fb) (ki s.1) (ki s.2) (ki p) μ = some (.inl (ki (rvS (fun v => rvV (mA μ d) (mC μ d) (gi μ 108 d) w (pB (gi μ 108 d) p) (pI (gi μ 108 d) p) v) (pC (gi μ 108 d) p) (pL (gi μ 108 d) p) s (pN (gi μ 108 d) p)).1, ki (rvS (fun v => rvV (mA μ d) (mC μ d) (gi μ 108 d) w (pB (gi μ 108 d) p) (pI (gi μ 108 d) p) v) (pC (gi μ 108 d) p) (pL (gi μ 108 d) p) s (pN (gi μ 108 d) p)).2, ki (p + 1), μ)) := by
  have b0 := hMB.1
  have b5 := hMB.2.1
  have pb : pB (gi μ 108 d) p = 0 ∨ pB (gi μ 108 d) p = 1 := by unfold pB; split <;> omega
  have pi0 : 0 ≤ pI (gi μ 108 d) p := by unfold pI; split <;> omega
  have pi1 : pI (gi μ 108 d) p ≤ gi μ 108 d - 2 + pB (gi μ 108 d) p := by unfold pI pB; split <;> omega
  have hpi4 : pI (gi μ 108 d) p < 5 := by rcases pb with e | e <;> rw [e] at pi1 <;> omega
  have hl : -6 ≤ pL (gi μ 108 d) p ∧ pL (gi μ 108 d) p ≤ 1 := by unfold pL; split <;> omega
  have hn : 13 ≤ (pN (gi μ 108 d) p : Int) ∧ (pN (gi μ 108 d) p : Int) ≤ 36 := by unfold pN; split <;> omega
  have hh : pL (gi μ 108 d) p + (pN (gi μ 108 d) p : Int) = (if p < gi μ 108 d then (6 : Int) else 36) + 1 := by unfold pL pN; split <;> omega
  have hh2 : 6 ≤ (if p < gi μ 108 d then (6 : Int) else 36) ∧ (if p < gi μ 108 d then (6 : Int) else 36) ≤ 36 := by split <;> omega
  have hcd : ∀ v, pC (gi μ 108 d) p v = if pB (gi μ 108 d) p = 0 then 1000 + 100 * pI (gi μ 108 d) p + v else 100 * pI (gi μ 108 d) p + v + 6 := fun v => by
    unfold pC pB pI
    by_cases e : p < gi μ 108 d
    · rw [if_pos e, if_pos e, if_pos e, if_neg (by omega)]
    · rw [if_neg e, if_neg e, if_neg e, if_pos rfl]
  have hE : (if p < gi μ 108 d then (6 : Int) else 36) = if pB (gi μ 108 d) p = 0 then 36 else 6 := by
    by_cases e : p < gi μ 108 d
    · have e1 : pB (gi μ 108 d) p = 1 := if_pos e
      rw [if_pos e, if_neg (by omega)]
    · have e1 : pB (gi μ 108 d) p = 0 := if_neg e
      rw [if_neg e, if_pos e1]
  have look : ∀ t : Nat, t < pN (gi μ 108 d) p → ∃ z : Int, (z = 0 ∨ z = 1) ∧ f_X12_isRival Y 95 (ki d) (ki w) (puM μ d (pB (gi μ 108 d) p) (pI (gi μ 108 d) p) (pL (gi μ 108 d) p + t)) = some (ki z, puM μ d (pB (gi μ 108 d) p) (pI (gi μ 108 d) p) (pL (gi μ 108 d) p + t)) ∧ (pL (gi μ 108 d) p + t ≠ (if pB (gi μ 108 d) p = 1 then mA μ d (pI (gi μ 108 d) p) else mC μ d (pI (gi μ 108 d) p)) → rvV (mA μ d) (mC μ d) (gi μ 108 d) w (pB (gi μ 108 d) p) (pI (gi μ 108 d) p) (pL (gi μ 108 d) p + t) = z) := fun t ht => X12_look hM d0 d3 hMB w0 w2 pb pi0 hpi4 (pLN t ht).2.2
  have orig := fun u => puM_orig hM (d := d) (b := pB (gi μ 108 d) p) (i := pI (gi μ 108 d) p) (u := u) d0 d3 pb pi0 hpi4
  have same : pL (gi μ 108 d) p + 0 = pL (gi μ 108 d) p := Int.add_zero _
  have rvE : ∀ v, v = (if pB (gi μ 108 d) p = 1 then mA μ d (pI (gi μ 108 d) p) else mC μ d (pI (gi μ 108 d) p)) → rvV (mA μ d) (mC μ d) (gi μ 108 d) w (pB (gi μ 108 d) p) (pI (gi μ 108 d) p) v = 0 := fun v hv => by
    unfold rvV
    rw [if_pos hv]
  have qa := X12_a hM (d := d) (i := pI (gi μ 108 d) p) d0 d3 pi0 hpi4
  have qc := X12_c hM (d := d) (i := pI (gi μ 108 d) p) d0 d3 pi0 hpi4
  have og1 : -2147483648 ≤ (if pB (gi μ 108 d) p = 1 then mA μ d (pI (gi μ 108 d) p) else mC μ d (pI (gi μ 108 d) p)) := by split; exact mA_lo _ _ _; exact mC_lo _ _ _
  have og2 : (if pB (gi μ 108 d) p = 1 then mA μ d (pI (gi μ 108 d) p) else mC μ d (pI (gi μ 108 d) p)) ≤ 2147483647 := by split; exact mA_hi _ _ _; exact mC_hi _ _ _
  have inner : jit jF (fun (z : Int32 × Int32 × Int32 × jM) => b_X12_rivals_130 Y 95 (ki d) (ki w) (ki fb) z.1 z.2.1 (ki p) (ki (pB (gi μ 108 d) p)) (ki (pI (gi μ 108 d) p)) (ki (if pB (gi μ 108 d) p = 1 then mA μ d (pI (gi μ 108 d) p) else mC μ d (pI (gi μ 108 d) p))) z.2.2.1 z.2.2.2) (ki s.1, ki s.2, ki (pL (gi μ 108 d) p), μ) = some (.inl (ki (rvS (fun v => rvV (mA μ d) (mC μ d) (gi μ 108 d) w (pB (gi μ 108 d) p) (pI (gi μ 108 d) p) v) (pC (gi μ 108 d) p) (pL (gi μ 108 d) p) s (pN (gi μ 108 d) p)).1, ki (rvS (fun v => rvV (mA μ d) (mC μ d) (gi μ 108 d) w (pB (gi μ 108 d) p) (pI (gi μ 108 d) p) v) (pC (gi μ 108 d) p) (pL (gi μ 108 d) p) s (pN (gi μ 108 d) p)).2, ki (p + 1), μ)) := by
    have kMv := fun v => puM_kM hM (b := pB (gi μ 108 d) p) (v := v) d0 d3 pi0 hpi4
    have put0 := fun v => X12_putP hM (v := v) d0 d3 pb pi0 hpi4
    have put1 := fun u v => X12_putP (kMv u) (v := v) d0 d3 pb pi0 hpi4
    clear qa qc pi1
    generalize hff : (fun v => rvV (mA μ d) (mC μ d) (gi μ 108 d) w (pB (gi μ 108 d) p) (pI (gi μ 108 d) p) v) = ff at *
    have hff2 : ∀ v, rvV (mA μ d) (mC μ d) (gi μ 108 d) w (pB (gi μ 108 d) p) (pI (gi μ 108 d) p) v = ff v := fun v => by rw [← hff]
    simp only [hff2] at look rvE
    clear hff hff2
    rw [hE] at hh hh2
    clear hE
    generalize hcc : pC (gi μ 108 d) p = cc at *
    generalize pL (gi μ 108 d) p = lo at *
    generalize pN (gi μ 108 d) p = nn at *
    generalize pB (gi μ 108 d) p = bb at *
    generalize pI (gi μ 108 d) p = ii at *
    generalize (if bb = 1 then mA μ d ii else mC μ d ii) = og at *
    have r2 : ∀ t : Nat, t ≤ nn → -1 ≤ (rvS ff cc lo s t).2 ∧ (rvS ff cc lo s t).2 ≤ 100000 := by
      intro t
      induction t with
      | zero => intro _; exact ⟨t0, t1⟩
      | succ t ih =>
        intro ht
        have := ih (by omega)
        rw [rvS]
        split
        · simp only []
          split
          · rw [hcd]
            split <;> omega
          · exact this
        · exact this
    refine jit_run (fun t => (ki (rvS ff cc lo s t).1, ki (rvS ff cc lo s t).2, ki (lo + (t : Int)), if t = 0 then μ else puM μ d bb ii (lo + (t : Int) - 1))) _ nn (by
      show _ = (ki (rvS ff cc lo s 0).1, ki (rvS ff cc lo s 0).2, ki (lo + ((0 : Nat) : Int)), if (0 : Nat) = 0 then μ else puM μ d bb ii (lo + ((0 : Nat) : Int) - 1))
      rw [if_pos rfl, Int.natCast_zero, Int.add_zero]
      rfl) (by omega) (fun t ht => ?_) ?_
    · have put : f_X12_puts Y 95 (ki d) (ki bb) (ki ii) (ki (lo + t)) (if t = 0 then μ else puM μ d bb ii (lo + (t : Int) - 1)) = some (puM μ d bb ii (lo + t)) := by
        by_cases e0 : t = 0
        · rw [if_pos e0]; exact put0 _
        · rw [if_neg e0, put1, puM_puM]
      have rng := rvS_rng (f := ff) (code := cc) (lo := lo) (s := s) t
      have rr2 := r2 t (by omega)
      rw [if_neg (by omega : ¬ t + 1 = 0), show lo + ((t + 1 : Nat) : Int) - 1 = lo + t by omega]
      generalize (if t = 0 then μ else puM μ d bb ii (lo + (t : Int) - 1)) = η at *
      obtain ⟨z, hz, lk, lv⟩ := look t ht
      by_cases eo : lo + (t : Int) = og
      · have f0 := rvE _ eo
        have es : rvS ff cc lo s (t + 1) = rvS ff cc lo s t := by rw [rvS, if_neg (by omega)]
        rw [es]
        generalize rvS ff cc lo s t = S at *
        rcases pb with e | e <;> subst e <;> simp (disch := omega) only [if_pos, if_neg, if_true] at hh hh2 hcd <;> simp (disch := omega) only [b_X12_rivals_130, b_X12_rivals_144, b_X12_rivals_227, krcv (kM.y hM), put, ki_0, ki_1, ki_2, ki_3, ki_4, ki_5, ki_6, ki_7, ki_8, ki_9, ki_10, ki_11, ki_12, ki_13, ki_18, ki_20, ki_24, ki_32, ki_36, ki_45, ki_47, ki_48, ki_50, ki_57, ki_60, ki_63, ki_99, ki_100, ki_101, ki_120, ki_255, ki_468, ki_1000, ki_1024, ki_13849, ki_25173, ki_65535, ki_65536, ki_100000, ki_100001, ki_2147483647, ki_2147483648, kl_0, kl_1, kl_2, kl_9223372036854775808, ki_add, ki_sub, ki_mul, ki_neg, kl_add, kl_sub, kl_mul, kl_neg, ki_i2l, kl_l2i, ki_lt, ki_le, ki_eq, kcmp_eq, kcmp_lt, kcmp_le, kcmp_gt, kcmp_ge, Option.bind_some, Option.map_some, kbool0, kbool1, if_pos, if_neg, if_true, if_false, Int.neg_neg, Int.sub_zero, Int.add_zero, Int.zero_add, true_and, and_true, false_and, and_false, false_or, or_false, true_or, or_true, ne_eq, not_false_eq_true, not_true_eq_false, Int.natCast_add, Int.natCast_one, Int.add_assoc]
      · have f0 := lv eo
        rcases hz with rfl | rfl
        · have es : rvS ff cc lo s (t + 1) = rvS ff cc lo s t := by rw [rvS, if_neg (by omega)]
          rw [es]
          generalize rvS ff cc lo s t = S at *
          rcases pb with e | e <;> subst e <;> simp (disch := omega) only [if_pos, if_neg, if_true] at hh hh2 hcd <;> simp (disch := omega) only [b_X12_rivals_130, b_X12_rivals_144, b_X12_rivals_227, krcv (kM.y hM), put, lk, ki_0, ki_1, ki_2, ki_3, ki_4, ki_5, ki_6, ki_7, ki_8, ki_9, ki_10, ki_11, ki_12, ki_13, ki_18, ki_20, ki_24, ki_32, ki_36, ki_45, ki_47, ki_48, ki_50, ki_57, ki_60, ki_63, ki_99, ki_100, ki_101, ki_120, ki_255, ki_468, ki_1000, ki_1024, ki_13849, ki_25173, ki_65535, ki_65536, ki_100000, ki_100001, ki_2147483647, ki_2147483648, kl_0, kl_1, kl_2, kl_9223372036854775808, ki_add, ki_sub, ki_mul, ki_neg, kl_add, kl_sub, kl_mul, kl_neg, ki_i2l, kl_l2i, ki_lt, ki_le, ki_eq, kcmp_eq, kcmp_lt, kcmp_le, kcmp_gt, kcmp_ge, Option.bind_some, Option.map_some, kbool0, kbool1, if_pos, if_neg, if_true, if_false, Int.neg_neg, Int.sub_zero, Int.add_zero, Int.zero_add, true_and, and_true, false_and, and_false, false_or, or_false, true_or, or_true, ne_eq, not_false_eq_true, not_true_eq_false, Int.natCast_add, Int.natCast_one, Int.add_assoc]
        · have es : rvS ff cc lo s (t + 1) = ((rvS ff cc lo s t).1 + 1, if (rvS ff cc lo s t).2 = -1 then cc (lo + t) else (rvS ff cc lo s t).2) := by rw [rvS, if_pos f0]
          rw [es, hcd]
          generalize rvS ff cc lo s t = S at *
          by_cases e1 : S.2 = -1
          · rcases pb with e | e <;> subst e <;> simp (disch := omega) only [if_pos, if_neg, if_true] at hh hh2 <;> simp (disch := omega) only [b_X12_rivals_130, b_X12_rivals_144, b_X12_rivals_225, b_X12_rivals_227, krcv (kM.y hM), put, lk, e1, ki_0, ki_1, ki_2, ki_3, ki_4, ki_5, ki_6, ki_7, ki_8, ki_9, ki_10, ki_11, ki_12, ki_13, ki_18, ki_20, ki_24, ki_32, ki_36, ki_45, ki_47, ki_48, ki_50, ki_57, ki_60, ki_63, ki_99, ki_100, ki_101, ki_120, ki_255, ki_468, ki_1000, ki_1024, ki_13849, ki_25173, ki_65535, ki_65536, ki_100000, ki_100001, ki_2147483647, ki_2147483648, kl_0, kl_1, kl_2, kl_9223372036854775808, ki_add, ki_sub, ki_mul, ki_neg, kl_add, kl_sub, kl_mul, kl_neg, ki_i2l, kl_l2i, ki_lt, ki_le, ki_eq, kcmp_eq, kcmp_lt, kcmp_le, kcmp_gt, kcmp_ge, Option.bind_some, Option.map_some, kbool0, kbool1, if_pos, if_neg, if_true, if_false, Int.neg_neg, Int.sub_zero, Int.add_zero, Int.zero_add, true_and, and_true, false_and, and_false, false_or, or_false, true_or, or_true, ne_eq, not_false_eq_true, not_true_eq_false, Int.natCast_add, Int.natCast_one, Int.add_assoc]
          · rcases pb with e | e <;> subst e <;> simp (disch := omega) only [if_pos, if_neg, if_true] at hh hh2 <;> simp (disch := omega) only [b_X12_rivals_130, b_X12_rivals_144, b_X12_rivals_225, b_X12_rivals_227, krcv (kM.y hM), put, lk, ki_0, ki_1, ki_2, ki_3, ki_4, ki_5, ki_6, ki_7, ki_8, ki_9, ki_10, ki_11, ki_12, ki_13, ki_18, ki_20, ki_24, ki_32, ki_36, ki_45, ki_47, ki_48, ki_50, ki_57, ki_60, ki_63, ki_99, ki_100, ki_101, ki_120, ki_255, ki_468, ki_1000, ki_1024, ki_13849, ki_25173, ki_65535, ki_65536, ki_100000, ki_100001, ki_2147483647, ki_2147483648, kl_0, kl_1, kl_2, kl_9223372036854775808, ki_add, ki_sub, ki_mul, ki_neg, kl_add, kl_sub, kl_mul, kl_neg, ki_i2l, kl_l2i, ki_lt, ki_le, ki_eq, kcmp_eq, kcmp_lt, kcmp_le, kcmp_gt, kcmp_ge, Option.bind_some, Option.map_some, kbool0, kbool1, if_pos, if_neg, if_true, if_false, Int.neg_neg, Int.sub_zero, Int.add_zero, Int.zero_add, true_and, and_true, false_and, and_false, false_or, or_false, true_or, or_true, ne_eq, not_false_eq_true, not_true_eq_false, Int.natCast_add, Int.natCast_one, Int.add_assoc]
    · rw [if_neg (by omega)]
      have pt := put1 (lo + (nn : Int) - 1) og
      rw [orig] at pt
      generalize rvS ff cc lo s nn = S at *
      generalize puM μ d bb ii (lo + (nn : Int) - 1) = η at *
      rcases pb with e | e <;> subst e <;> simp (disch := omega) only [if_pos, if_neg, if_true] at hh hh2 <;> simp (disch := omega) only [b_X12_rivals_130, b_X12_rivals_144, krcv (kM.y hM), pt, ki_0, ki_1, ki_2, ki_3, ki_4, ki_5, ki_6, ki_7, ki_8, ki_9, ki_10, ki_11, ki_12, ki_13, ki_18, ki_20, ki_24, ki_32, ki_36, ki_45, ki_47, ki_48, ki_50, ki_57, ki_60, ki_63, ki_99, ki_100, ki_101, ki_120, ki_255, ki_468, ki_1000, ki_1024, ki_13849, ki_25173, ki_65535, ki_65536, ki_100000, ki_100001, ki_2147483647, ki_2147483648, kl_0, kl_1, kl_2, kl_9223372036854775808, ki_add, ki_sub, ki_mul, ki_neg, kl_add, kl_sub, kl_mul, kl_neg, ki_i2l, kl_l2i, ki_lt, ki_le, ki_eq, kcmp_eq, kcmp_lt, kcmp_le, kcmp_gt, kcmp_ge, Option.bind_some, Option.map_some, kbool0, kbool1, if_pos, if_neg, if_true, if_false, Int.neg_neg, Int.sub_zero, Int.add_zero, Int.zero_add, true_and, and_true, false_and, and_false, false_or, or_false, true_or, or_true, ne_eq, not_false_eq_true, not_true_eq_false]
  clear look rvE orig hcd hh hh2 hl hn hE og1 og2
  generalize rvS (fun v => rvV (mA μ d) (mC μ d) (gi μ 108 d) w (pB (gi μ 108 d) p) (pI (gi μ 108 d) p) v) (pC (gi μ 108 d) p) (pL (gi μ 108 d) p) s (pN (gi μ 108 d) p) = S at inner ⊢
  by_cases q : p < gi μ 108 d
  · have e1 : pB (gi μ 108 d) p = 1 := if_pos q
    have e2 : pI (gi μ 108 d) p = p := if_pos q
    have e3 : pL (gi μ 108 d) p = -6 := if_pos q
    rw [e1, e2, e3, if_pos rfl] at inner
    rw [X12_rstep1 hM d0 d3 b5 p0 q]
    exact inner
  · have e1 : pB (gi μ 108 d) p = 0 := if_neg q
    have e2 : pI (gi μ 108 d) p = p - gi μ 108 d := if_neg q
    have e3 : pL (gi μ 108 d) p = 1 := if_neg q
    rw [e1, e2, e3, if_neg (by omega)] at inner
    rw [X12_rstep0 hM d0 d3 b5 (by omega) p1]
    exact inner
