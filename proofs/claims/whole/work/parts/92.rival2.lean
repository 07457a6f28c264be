/-! OPS: rivals, the class's loops -/
theorem pC_ne {R p v : Int} (hp : 0 ≤ p) (hv : -6 ≤ v) (h1 : R ≤ p → 1 ≤ v) : pC R p v ≠ -1 := by
  unfold pC
  split <;> omega
theorem pLN {R p : Int} (t : Nat) (ht : t < pN R p) : -6 ≤ pL R p + t ∧ (R ≤ p → 1 ≤ pL R p + t) ∧ ((pB R p = 0 ∧ 1 ≤ pL R p + t ∧ pL R p + t ≤ 36) ∨ (pB R p = 1 ∧ -6 ≤ pL R p + t ∧ pL R p + t ≤ 6)) := by
  unfold pN at ht
  unfold pL pB
  split at ht <;> rename_i e
  · rw [if_pos e, if_pos e]
    omega
  · rw [if_neg e, if_neg e]
    omega
set_option maxHeartbeats 1000000 in
theorem X11_rivals2 {L : Nat} {xs : Nat → Int32} {n : Nat} {Y : jY} {μ : jM} (h : Inv L xs n Y μ) {d w fb p : Int} (d0 : 0 ≤ d) (d3 : d ≤ 3) (w0 : 0 ≤ w) (w2 : w ≤ 2) (hf : fb = 0 ∨ fb = 1) (p0 : 0 ≤ p) (p1 : p < 2 * gi μ 108 d - 1) {s : Int × Int} (s0 : 0 ≤ s.1) (s1 : s.1 ≤ 1000) (hs : fb = 1 → s = (0, -1)) {ν : jM} (kν : kF 88 91 μ ν) : ∃ ω r, b_X11_rivals_46 Y 1 (ki w) (ki fb) (9 + 5 + 3 * d.toNat) (ki s.1) (ki p) ν = some r ∧ kF 88 91 μ ω ∧ (((fb = 1 → rvS (fun v => rvV (mA μ d) (mC μ d) (gi μ 108 d) w (pB (gi μ 108 d) p) (pI (gi μ 108 d) p) v) (pC (gi μ 108 d) p) (pL (gi μ 108 d) p) s (pN (gi μ 108 d) p) = (0, -1)) ∧ r = .inl (ki (rvS (fun v => rvV (mA μ d) (mC μ d) (gi μ 108 d) w (pB (gi μ 108 d) p) (pI (gi μ 108 d) p) v) (pC (gi μ 108 d) p) (pL (gi μ 108 d) p) s (pN (gi μ 108 d) p)).1, ki (p + 1), ω)) ∨ (fb = 1 ∧ (rvS (fun v => rvV (mA μ d) (mC μ d) (gi μ 108 d) w (pB (gi μ 108 d) p) (pI (gi μ 108 d) p) v) (pC (gi μ 108 d) p) (pL (gi μ 108 d) p) s (pN (gi μ 108 d) p)).2 ≠ -1 ∧ r = .inr (ki (rvS (fun v => rvV (mA μ d) (mC μ d) (gi μ 108 d) w (pB (gi μ 108 d) p) (pI (gi μ 108 d) p) v) (pC (gi μ 108 d) p) (pL (gi μ 108 d) p) s (pN (gi μ 108 d) p)).2, ω))) := by
  obtain ⟨hT, hB, hMB, hR, hA, hC⟩ := h.d d0 d3
  have b0 := hMB.1
  have b5 := hMB.2.1
  have pb : pB (gi μ 108 d) p = 0 ∨ pB (gi μ 108 d) p = 1 := by unfold pB; split <;> omega
  have pi0 : 0 ≤ pI (gi μ 108 d) p := by unfold pI; split <;> omega
  have pi1 : pI (gi μ 108 d) p ≤ gi μ 108 d - 2 + pB (gi μ 108 d) p := by unfold pI pB; split <;> omega
  have isr : ∀ (η : jM) (v : Int), kF 88 91 μ η → ((pB (gi μ 108 d) p = 0 ∧ 1 ≤ v ∧ v ≤ 36) ∨ (pB (gi μ 108 d) p = 1 ∧ -6 ≤ v ∧ v ≤ 6)) → ∃ ξ, f_X11_isRival Y 1 (9 + 5 + 3 * d.toNat) (ki (pB (gi μ 108 d) p)) (ki (pI (gi μ 108 d) p)) (ki v) (ki w) η = some (ki (rvV (mA μ d) (mC μ d) (gi μ 108 d) w (pB (gi μ 108 d) p) (pI (gi μ 108 d) p) v), ξ) ∧ kF 88 91 μ ξ := fun η v kη hv => by
    have hη := h.to (kP.of_rows (kη.mono (by omega) (by omega)))
    have e108 : gi η 108 d = gi μ 108 d := kη.gi (by omega) _
    obtain ⟨ξ, c, k⟩ := X11_isRival hη d0 d3 w0 w2 pb pi0 (by rw [e108]; exact pi1) hv
    rw [show mA η d = mA μ d from funext fun x => kη.gi (by omega) _, show mC η d = mC μ d from funext fun x => kη.gi (by omega) _, e108] at c
    exact ⟨ξ, c, kη.trans k⟩
  have inner : ∃ ω r, jit jF (fun (z : Int32 × Int32 × jM) => b_X11_rivals_128 Y 1 (ki w) (ki fb) (9 + 5 + 3 * d.toNat) z.1 (ki p) (ki (pB (gi μ 108 d) p)) (ki (pI (gi μ 108 d) p)) (ki (if p < gi μ 108 d then 6 else 36)) z.2.1 z.2.2) (ki s.1, ki (pL (gi μ 108 d) p), ν) = some r ∧ kF 88 91 μ ω ∧ (((fb = 1 → rvS (fun v => rvV (mA μ d) (mC μ d) (gi μ 108 d) w (pB (gi μ 108 d) p) (pI (gi μ 108 d) p) v) (pC (gi μ 108 d) p) (pL (gi μ 108 d) p) s (pN (gi μ 108 d) p) = (0, -1)) ∧ r = .inl (ki (rvS (fun v => rvV (mA μ d) (mC μ d) (gi μ 108 d) w (pB (gi μ 108 d) p) (pI (gi μ 108 d) p) v) (pC (gi μ 108 d) p) (pL (gi μ 108 d) p) s (pN (gi μ 108 d) p)).1, ki (p + 1), ω)) ∨ (fb = 1 ∧ (rvS (fun v => rvV (mA μ d) (mC μ d) (gi μ 108 d) w (pB (gi μ 108 d) p) (pI (gi μ 108 d) p) v) (pC (gi μ 108 d) p) (pL (gi μ 108 d) p) s (pN (gi μ 108 d) p)).2 ≠ -1 ∧ r = .inr (ki (rvS (fun v => rvV (mA μ d) (mC μ d) (gi μ 108 d) w (pB (gi μ 108 d) p) (pI (gi μ 108 d) p) v) (pC (gi μ 108 d) p) (pL (gi μ 108 d) p) s (pN (gi μ 108 d) p)).2, ω))) := by
    have two : ∀ v, rvV (mA μ d) (mC μ d) (gi μ 108 d) w (pB (gi μ 108 d) p) (pI (gi μ 108 d) p) v = 0 ∨ rvV (mA μ d) (mC μ d) (gi μ 108 d) w (pB (gi μ 108 d) p) (pI (gi μ 108 d) p) v = 1 := fun v => rvV_two _ _ _ _ _ _ v
    have hcode : ∀ t : Nat, t < pN (gi μ 108 d) p → pC (gi μ 108 d) p (pL (gi μ 108 d) p + t) ≠ -1 := fun t ht => pC_ne p0 (pLN t ht).1 (pLN t ht).2.1
    have hl : -6 ≤ pL (gi μ 108 d) p ∧ pL (gi μ 108 d) p ≤ 1 := by unfold pL; split <;> omega
    have hn : 13 ≤ (pN (gi μ 108 d) p : Int) ∧ (pN (gi μ 108 d) p : Int) ≤ 36 := by unfold pN; split <;> omega
    have hh : pL (gi μ 108 d) p + (pN (gi μ 108 d) p : Int) = (if p < gi μ 108 d then (6 : Int) else 36) + 1 := by unfold pL pN; split <;> omega
    have hh2 : 6 ≤ (if p < gi μ 108 d then (6 : Int) else 36) ∧ (if p < gi μ 108 d then (6 : Int) else 36) ≤ 36 := by split <;> omega
    have hcd : ∀ v, pC (gi μ 108 d) p v = if pB (gi μ 108 d) p = 0 then 1000 + 100 * pI (gi μ 108 d) p + v else 100 * pI (gi μ 108 d) p + v + 6 := fun v => by
      unfold pC pB pI
      by_cases e : p < gi μ 108 d
      · rw [if_pos e, if_pos e, if_pos e, if_neg (by omega)]
      · rw [if_neg e, if_neg e, if_neg e, if_pos rfl]
    have hpi4 : pI (gi μ 108 d) p ≤ 4 := by rcases pb with e | e <;> rw [e] at pi1 <;> omega
    have isr' : ∀ (η : jM) (t : Nat), t < pN (gi μ 108 d) p → kF 88 91 μ η → ∃ ξ, f_X11_isRival Y 1 (9 + 5 + 3 * d.toNat) (ki (pB (gi μ 108 d) p)) (ki (pI (gi μ 108 d) p)) (ki (pL (gi μ 108 d) p + t)) (ki w) η = some (ki (rvV (mA μ d) (mC μ d) (gi μ 108 d) w (pB (gi μ 108 d) p) (pI (gi μ 108 d) p) (pL (gi μ 108 d) p + t)), ξ) ∧ kF 88 91 μ ξ := fun η t ht kη => isr η _ kη (pLN t ht).2.2
    clear isr
    generalize hff : (fun v => rvV (mA μ d) (mC μ d) (gi μ 108 d) w (pB (gi μ 108 d) p) (pI (gi μ 108 d) p) v) = ff at *
    have isr2 : ∀ (η : jM) (t : Nat), t < pN (gi μ 108 d) p → kF 88 91 μ η → ∃ ξ, f_X11_isRival Y 1 (9 + 5 + 3 * d.toNat) (ki (pB (gi μ 108 d) p)) (ki (pI (gi μ 108 d) p)) (ki (pL (gi μ 108 d) p + t)) (ki w) η = some (ki (ff (pL (gi μ 108 d) p + t)), ξ) ∧ kF 88 91 μ ξ := fun η t ht kη => by
      rw [← hff]
      exact isr' η t ht kη
    have two2 : ∀ v, ff v = 0 ∨ ff v = 1 := fun v => by rw [← hff]; exact two v
    clear isr' two hff
    generalize hcc : pC (gi μ 108 d) p = cc at *
    generalize pL (gi μ 108 d) p = lo at *
    generalize pN (gi μ 108 d) p = nn at *
    generalize pB (gi μ 108 d) p = bb at *
    generalize pI (gi μ 108 d) p = ii at *
    generalize (if p < gi μ 108 d then (6 : Int) else 36) = hi at *
    obtain ⟨r, e, ω, kω, hr⟩ := jit_inv (f := fun (z : Int32 × Int32 × jM) => b_X11_rivals_128 Y 1 (ki w) (ki fb) (9 + 5 + 3 * d.toNat) z.1 (ki p) (ki bb) (ki ii) (ki hi) z.2.1 z.2.2) (fun t z => z.1 = ki (rvS ff cc lo s t).1 ∧ z.2.1 = ki (lo + (t : Int)) ∧ kF 88 91 μ z.2.2 ∧ (fb = 1 → rvS ff cc lo s t = (0, -1))) (fun r => ∃ ω, kF 88 91 μ ω ∧ (((fb = 1 → rvS ff cc lo s nn = (0, -1)) ∧ r = .inl (ki (rvS ff cc lo s nn).1, ki (p + 1), ω)) ∨ (fb = 1 ∧ (rvS ff cc lo s nn).2 ≠ -1 ∧ r = .inr (ki (rvS ff cc lo s nn).2, ω)))) nn (s := (ki s.1, ki lo, ν)) ⟨rfl, by rw [Int.natCast_zero, Int.add_zero], kν, hs⟩ (by omega) (fun t z ht hz => by
      obtain ⟨x, y, η⟩ := z
      obtain ⟨rfl, rfl, z1, z2⟩ := hz
      simp only [] at z1
      have rng := rvS_rng (f := ff) (code := cc) (lo := lo) (s := s) t
      by_cases e : t = nn
      · subst e
        refine ⟨.inr (.inl (ki (rvS ff cc lo s t).1, ki (p + 1), η)), ?_, η, z1, Or.inl ⟨z2, rfl⟩⟩
        simp (disch := omega) only [b_X11_rivals_128, ki_0, ki_1, ki_2, ki_3, ki_4, ki_5, ki_6, ki_7, ki_8, ki_9, ki_10, ki_11, ki_12, ki_13, ki_18, ki_20, ki_24, ki_32, ki_36, ki_45, ki_47, ki_48, ki_50, ki_57, ki_60, ki_63, ki_99, ki_100, ki_101, ki_120, ki_255, ki_468, ki_1000, ki_1024, ki_13849, ki_25173, ki_65535, ki_65536, ki_100000, ki_100001, ki_2147483647, ki_2147483648, kl_0, kl_1, kl_2, kl_9223372036854775808, ki_add, ki_sub, ki_mul, ki_neg, kl_add, kl_sub, kl_mul, kl_neg, ki_i2l, kl_l2i, ki_lt, ki_le, ki_eq, kcmp_eq, kcmp_lt, kcmp_le, kcmp_gt, kcmp_ge, Option.bind_some, Option.map_some, kbool0, kbool1, if_pos, if_neg, if_true, if_false, Int.neg_neg, Int.sub_zero, Int.add_zero, Int.zero_add, true_and, and_true, false_and, and_false, false_or, or_false, true_or, or_true, ne_eq, not_false_eq_true, not_true_eq_false]
      · obtain ⟨ξ, c, kξ⟩ := isr2 η t (by omega) z1
        rcases two2 (lo + t) with q | q
        · have es : rvS ff cc lo s (t + 1) = rvS ff cc lo s t := by rw [rvS, if_neg (by omega)]
          rw [q] at c
          refine ⟨.inl (ki (rvS ff cc lo s (t + 1)).1, ki (lo + ((t + 1 : Nat) : Int)), ξ), ?_, by omega, rfl, rfl, kξ, by rw [es]; exact z2⟩
          rw [es]
          simp (disch := omega) only [b_X11_rivals_128, b_X11_rivals_193, krcv (kX.y1 h.x), c, ki_0, ki_1, ki_2, ki_3, ki_4, ki_5, ki_6, ki_7, ki_8, ki_9, ki_10, ki_11, ki_12, ki_13, ki_18, ki_20, ki_24, ki_32, ki_36, ki_45, ki_47, ki_48, ki_50, ki_57, ki_60, ki_63, ki_99, ki_100, ki_101, ki_120, ki_255, ki_468, ki_1000, ki_1024, ki_13849, ki_25173, ki_65535, ki_65536, ki_100000, ki_100001, ki_2147483647, ki_2147483648, kl_0, kl_1, kl_2, kl_9223372036854775808, ki_add, ki_sub, ki_mul, ki_neg, kl_add, kl_sub, kl_mul, kl_neg, ki_i2l, kl_l2i, ki_lt, ki_le, ki_eq, kcmp_eq, kcmp_lt, kcmp_le, kcmp_gt, kcmp_ge, Option.bind_some, Option.map_some, kbool0, kbool1, if_pos, if_neg, if_true, if_false, Int.neg_neg, Int.sub_zero, Int.add_zero, Int.zero_add, true_and, and_true, false_and, and_false, false_or, or_false, true_or, or_true, ne_eq, not_false_eq_true, not_true_eq_false, Int.natCast_add, Int.natCast_one, Int.add_assoc]
        · have es : rvS ff cc lo s (t + 1) = ((rvS ff cc lo s t).1 + 1, if (rvS ff cc lo s t).2 = -1 then cc (lo + t) else (rvS ff cc lo s t).2) := by rw [rvS, if_pos q]
          rw [q] at c
          rcases hf with rfl | rfl
          · refine ⟨.inl (ki (rvS ff cc lo s (t + 1)).1, ki (lo + ((t + 1 : Nat) : Int)), ξ), ?_, by omega, rfl, rfl, kξ, fun h0 => by omega⟩
            rw [es]
            simp (disch := omega) only [b_X11_rivals_128, b_X11_rivals_193, krcv (kX.y1 h.x), c, ki_0, ki_1, ki_2, ki_3, ki_4, ki_5, ki_6, ki_7, ki_8, ki_9, ki_10, ki_11, ki_12, ki_13, ki_18, ki_20, ki_24, ki_32, ki_36, ki_45, ki_47, ki_48, ki_50, ki_57, ki_60, ki_63, ki_99, ki_100, ki_101, ki_120, ki_255, ki_468, ki_1000, ki_1024, ki_13849, ki_25173, ki_65535, ki_65536, ki_100000, ki_100001, ki_2147483647, ki_2147483648, kl_0, kl_1, kl_2, kl_9223372036854775808, ki_add, ki_sub, ki_mul, ki_neg, kl_add, kl_sub, kl_mul, kl_neg, ki_i2l, kl_l2i, ki_lt, ki_le, ki_eq, kcmp_eq, kcmp_lt, kcmp_le, kcmp_gt, kcmp_ge, Option.bind_some, Option.map_some, kbool0, kbool1, if_pos, if_neg, if_true, if_false, Int.neg_neg, Int.sub_zero, Int.add_zero, Int.zero_add, true_and, and_true, false_and, and_false, false_or, or_false, true_or, or_true, ne_eq, not_false_eq_true, not_true_eq_false, Int.natCast_add, Int.natCast_one, Int.add_assoc]
          · have z3 := z2 rfl
            have e2 : (rvS ff cc lo s (t + 1)).2 = cc (lo + t) := by rw [es, z3, if_pos rfl]
            have st := rvS_stay (f := ff) (code := cc) (lo := lo) (s := s) (t := t + 1) (by rw [e2]; exact hcode t (by omega)) (nn - (t + 1))
            rw [show t + 1 + (nn - (t + 1)) = nn by omega, e2] at st
            refine ⟨.inr (.inr (ki (cc (lo + t)), ξ)), ?_, ξ, kξ, Or.inr ⟨rfl, by rw [st]; exact hcode t (by omega), by rw [st]⟩⟩
            rw [hcd]
            rcases pb with e0 | e0
            · rw [if_pos e0, e0]
              rw [e0] at c
              simp (disch := omega) only [b_X11_rivals_128, b_X11_rivals_189, krcv (kX.y1 h.x), c, ki_0, ki_1, ki_2, ki_3, ki_4, ki_5, ki_6, ki_7, ki_8, ki_9, ki_10, ki_11, ki_12, ki_13, ki_18, ki_20, ki_24, ki_32, ki_36, ki_45, ki_47, ki_48, ki_50, ki_57, ki_60, ki_63, ki_99, ki_100, ki_101, ki_120, ki_255, ki_468, ki_1000, ki_1024, ki_13849, ki_25173, ki_65535, ki_65536, ki_100000, ki_100001, ki_2147483647, ki_2147483648, kl_0, kl_1, kl_2, kl_9223372036854775808, ki_add, ki_sub, ki_mul, ki_neg, kl_add, kl_sub, kl_mul, kl_neg, ki_i2l, kl_l2i, ki_lt, ki_le, ki_eq, kcmp_eq, kcmp_lt, kcmp_le, kcmp_gt, kcmp_ge, Option.bind_some, Option.map_some, kbool0, kbool1, if_pos, if_neg, if_true, if_false, Int.neg_neg, Int.sub_zero, Int.add_zero, Int.zero_add, true_and, and_true, false_and, and_false, false_or, or_false, true_or, or_true, ne_eq, not_false_eq_true, not_true_eq_false]
            · rw [if_neg (by omega), e0]
              rw [e0] at c
              simp (disch := omega) only [b_X11_rivals_128, b_X11_rivals_189, krcv (kX.y1 h.x), c, ki_0, ki_1, ki_2, ki_3, ki_4, ki_5, ki_6, ki_7, ki_8, ki_9, ki_10, ki_11, ki_12, ki_13, ki_18, ki_20, ki_24, ki_32, ki_36, ki_45, ki_47, ki_48, ki_50, ki_57, ki_60, ki_63, ki_99, ki_100, ki_101, ki_120, ki_255, ki_468, ki_1000, ki_1024, ki_13849, ki_25173, ki_65535, ki_65536, ki_100000, ki_100001, ki_2147483647, ki_2147483648, kl_0, kl_1, kl_2, kl_9223372036854775808, ki_add, ki_sub, ki_mul, ki_neg, kl_add, kl_sub, kl_mul, kl_neg, ki_i2l, kl_l2i, ki_lt, ki_le, ki_eq, kcmp_eq, kcmp_lt, kcmp_le, kcmp_gt, kcmp_ge, Option.bind_some, Option.map_some, kbool0, kbool1, if_pos, if_neg, if_true, if_false, Int.neg_neg, Int.sub_zero, Int.add_zero, Int.zero_add, true_and, and_true, false_and, and_false, false_or, or_false, true_or, or_true, ne_eq, not_false_eq_true, not_true_eq_false])
    exact ⟨ω, r, e, kω, hr⟩
  obtain ⟨ω, r, e, kω, hr⟩ := inner
  refine ⟨ω, r, ?_, kω, hr⟩
  have g := kT.gr (hT.to kν)
  rw [kν.gi (by omega), hR] at g
  by_cases q : p < gi μ 108 d
  · have e1 : pB (gi μ 108 d) p = 1 := if_pos q
    have e2 : pI (gi μ 108 d) p = p := if_pos q
    have e3 : pL (gi μ 108 d) p = -6 := if_pos q
    rw [e1, e2, e3, if_pos q] at e
    simp (disch := omega) only [b_X11_rivals_46, b_X11_rivals_75, b_X11_rivals_95, b_X11_rivals_108, b_X11_rivals_122, g, ki_0, ki_1, ki_2, ki_3, ki_4, ki_5, ki_6, ki_7, ki_8, ki_9, ki_10, ki_11, ki_12, ki_13, ki_18, ki_20, ki_24, ki_32, ki_36, ki_45, ki_47, ki_48, ki_50, ki_57, ki_60, ki_63, ki_99, ki_100, ki_101, ki_120, ki_255, ki_468, ki_1000, ki_1024, ki_13849, ki_25173, ki_65535, ki_65536, ki_100000, ki_100001, ki_2147483647, ki_2147483648, kl_0, kl_1, kl_2, kl_9223372036854775808, ki_add, ki_sub, ki_mul, ki_neg, kl_add, kl_sub, kl_mul, kl_neg, ki_i2l, kl_l2i, ki_lt, ki_le, ki_eq, kcmp_eq, kcmp_lt, kcmp_le, kcmp_gt, kcmp_ge, Option.bind_some, Option.map_some, kbool0, kbool1, if_pos, if_neg, if_true, if_false, Int.neg_neg, Int.sub_zero, Int.add_zero, Int.zero_add, true_and, and_true, false_and, and_false, false_or, or_false, true_or, or_true, ne_eq, not_false_eq_true, not_true_eq_false]
    exact e
  · have e1 : pB (gi μ 108 d) p = 0 := if_neg q
    have e2 : pI (gi μ 108 d) p = p - gi μ 108 d := if_neg q
    have e3 : pL (gi μ 108 d) p = 1 := if_neg q
    rw [e1, e2, e3, if_neg q] at e
    simp (disch := omega) only [b_X11_rivals_46, b_X11_rivals_75, b_X11_rivals_95, b_X11_rivals_108, b_X11_rivals_122, g, ki_0, ki_1, ki_2, ki_3, ki_4, ki_5, ki_6, ki_7, ki_8, ki_9, ki_10, ki_11, ki_12, ki_13, ki_18, ki_20, ki_24, ki_32, ki_36, ki_45, ki_47, ki_48, ki_50, ki_57, ki_60, ki_63, ki_99, ki_100, ki_101, ki_120, ki_255, ki_468, ki_1000, ki_1024, ki_13849, ki_25173, ki_65535, ki_65536, ki_100000, ki_100001, ki_2147483647, ki_2147483648, kl_0, kl_1, kl_2, kl_9223372036854775808, ki_add, ki_sub, ki_mul, ki_neg, kl_add, kl_sub, kl_mul, kl_neg, ki_i2l, kl_l2i, ki_lt, ki_le, ki_eq, kcmp_eq, kcmp_lt, kcmp_le, kcmp_gt, kcmp_ge, Option.bind_some, Option.map_some, kbool0, kbool1, if_pos, if_neg, if_true, if_false, Int.neg_neg, Int.sub_zero, Int.add_zero, Int.zero_add, true_and, and_true, false_and, and_false, false_or, or_false, true_or, or_true, ne_eq, not_false_eq_true, not_true_eq_false]
    exact e
