/-- the roots of all rows of a table, cut -/
noncomputable def tr (μ : jM) (o : Nat) (q i : Int) : Int := rt (gi μ (o + 1)) (gi μ (o + 2)) q 0 (gi μ o 0).toNat i
theorem X10_rip {Y : jY} {μ : jM} {o : Nat} (hT : kT Y μ o) (hB : kTb μ o) {i q : Int} (hi1 : 0 ≤ i) (hi2 : i < gi μ o 0) (hq1 : 1 ≤ q) (hq2 : q ≤ 50) : f_X10_rootInParts Y o (ki (gi μ o 0)) (ki i) (ki q) μ = some (ki (tr μ o q i), μ) := (X10_rootInParts hT hB (by omega) (Int.le_refl _) hi1 hi2 hq1 hq2).1
theorem tr_rng {Y : jY} {μ : jM} {o : Nat} (hT : kT Y μ o) (hB : kTb μ o) {i q : Int} (hi1 : 0 ≤ i) (hi2 : i < gi μ o 0) (hq1 : 1 ≤ q) (hq2 : q ≤ 50) : -900 ≤ tr μ o q i ∧ tr μ o q i ≤ 900 := by
  have := (X10_rootInParts hT hB (by omega) (Int.le_refl _) hi1 hi2 hq1 hq2).2
  unfold tr
  omega
/-- the least step, from a start -/
noncomputable def ls (f : Int → Int) (s : Int) : Nat → Int
  | 0 => s
  | j + 1 => if f (j + 1) - f j < ls f s j then f (j + 1) - f j else ls f s j
theorem ls_succ (f : Int → Int) (s : Int) (j : Nat) : ls f s (j + 1) = if f (j + 1) - f j < ls f s j then f (j + 1) - f j else ls f s j := rfl
theorem kmin {a b : Int} (h1 : -2147483648 ≤ a) (h2 : a ≤ 2147483647) (h3 : -2147483648 ≤ b) (h4 : b ≤ 2147483647) : jminI (ki a) (ki b) = ki (if b < a then b else a) := by
  unfold jminI
  by_cases g : b < a
  · simp (disch := omega) only [ki_0, ki_1, ki_2, ki_3, ki_4, ki_5, ki_6, ki_7, ki_8, ki_9, ki_10, ki_11, ki_12, ki_13, ki_18, ki_20, ki_24, ki_32, ki_36, ki_45, ki_47, ki_48, ki_50, ki_57, ki_60, ki_63, ki_99, ki_100, ki_101, ki_120, ki_255, ki_468, ki_1000, ki_1024, ki_13849, ki_25173, ki_65535, ki_65536, ki_100000, ki_100001, ki_2147483647, ki_2147483648, kl_0, kl_1, kl_2, kl_9223372036854775808, ki_add, ki_sub, ki_mul, ki_neg, kl_add, kl_sub, kl_mul, kl_neg, ki_i2l, kl_l2i, ki_lt, ki_le, ki_eq, kcmp_eq, kcmp_lt, kcmp_le, kcmp_gt, kcmp_ge, Option.bind_some, Option.map_some, kbool0, kbool1, if_pos, if_neg, if_true, if_false, Int.neg_neg, Int.sub_zero, Int.add_zero, Int.zero_add, true_and, and_true, false_and, and_false, false_or, or_false, true_or, or_true, ne_eq, not_false_eq_true, not_true_eq_false]
  · simp (disch := omega) only [ki_0, ki_1, ki_2, ki_3, ki_4, ki_5, ki_6, ki_7, ki_8, ki_9, ki_10, ki_11, ki_12, ki_13, ki_18, ki_20, ki_24, ki_32, ki_36, ki_45, ki_47, ki_48, ki_50, ki_57, ki_60, ki_63, ki_99, ki_100, ki_101, ki_120, ki_255, ki_468, ki_1000, ki_1024, ki_13849, ki_25173, ki_65535, ki_65536, ki_100000, ki_100001, ki_2147483647, ki_2147483648, kl_0, kl_1, kl_2, kl_9223372036854775808, ki_add, ki_sub, ki_mul, ki_neg, kl_add, kl_sub, kl_mul, kl_neg, ki_i2l, kl_l2i, ki_lt, ki_le, ki_eq, kcmp_eq, kcmp_lt, kcmp_le, kcmp_gt, kcmp_ge, Option.bind_some, Option.map_some, kbool0, kbool1, if_pos, if_neg, if_true, if_false, Int.neg_neg, Int.sub_zero, Int.add_zero, Int.zero_add, true_and, and_true, false_and, and_false, false_or, or_false, true_or, or_true, ne_eq, not_false_eq_true, not_true_eq_false]
theorem kmax {a b : Int} (h1 : -2147483648 ≤ a) (h2 : a ≤ 2147483647) (h3 : -2147483648 ≤ b) (h4 : b ≤ 2147483647) : jmaxI (ki a) (ki b) = ki (if a < b then b else a) := by
  unfold jmaxI
  by_cases g : a < b
  · simp (disch := omega) only [ki_0, ki_1, ki_2, ki_3, ki_4, ki_5, ki_6, ki_7, ki_8, ki_9, ki_10, ki_11, ki_12, ki_13, ki_18, ki_20, ki_24, ki_32, ki_36, ki_45, ki_47, ki_48, ki_50, ki_57, ki_60, ki_63, ki_99, ki_100, ki_101, ki_120, ki_255, ki_468, ki_1000, ki_1024, ki_13849, ki_25173, ki_65535, ki_65536, ki_100000, ki_100001, ki_2147483647, ki_2147483648, kl_0, kl_1, kl_2, kl_9223372036854775808, ki_add, ki_sub, ki_mul, ki_neg, kl_add, kl_sub, kl_mul, kl_neg, ki_i2l, kl_l2i, ki_lt, ki_le, ki_eq, kcmp_eq, kcmp_lt, kcmp_le, kcmp_gt, kcmp_ge, Option.bind_some, Option.map_some, kbool0, kbool1, if_pos, if_neg, if_true, if_false, Int.neg_neg, Int.sub_zero, Int.add_zero, Int.zero_add, true_and, and_true, false_and, and_false, false_or, or_false, true_or, or_true, ne_eq, not_false_eq_true, not_true_eq_false]
  · simp (disch := omega) only [ki_0, ki_1, ki_2, ki_3, ki_4, ki_5, ki_6, ki_7, ki_8, ki_9, ki_10, ki_11, ki_12, ki_13, ki_18, ki_20, ki_24, ki_32, ki_36, ki_45, ki_47, ki_48, ki_50, ki_57, ki_60, ki_63, ki_99, ki_100, ki_101, ki_120, ki_255, ki_468, ki_1000, ki_1024, ki_13849, ki_25173, ki_65535, ki_65536, ki_100000, ki_100001, ki_2147483647, ki_2147483648, kl_0, kl_1, kl_2, kl_9223372036854775808, ki_add, ki_sub, ki_mul, ki_neg, kl_add, kl_sub, kl_mul, kl_neg, ki_i2l, kl_l2i, ki_lt, ki_le, ki_eq, kcmp_eq, kcmp_lt, kcmp_le, kcmp_gt, kcmp_ge, Option.bind_some, Option.map_some, kbool0, kbool1, if_pos, if_neg, if_true, if_false, Int.neg_neg, Int.sub_zero, Int.add_zero, Int.zero_add, true_and, and_true, false_and, and_false, false_or, or_false, true_or, or_true, ne_eq, not_false_eq_true, not_true_eq_false]
theorem ls_rng {f : Int → Int} {s : Int} (hs1 : 1800 < s) (hs : s ≤ 2147483647) : ∀ j : Nat, (∀ i : Int, 0 ≤ i → i ≤ j → -900 ≤ f i ∧ f i ≤ 900) → -2147483648 ≤ ls f s j ∧ ls f s j ≤ 2147483647 := by
  intro j
  induction j with
  | zero => intro _; simp only [ls]; omega
  | succ j ih =>
    intro h
    have h1 := h j (by omega) (by omega)
    have h2 := h (j + 1) (by omega) (by omega)
    have ih := ih (fun i a b => h i a (by omega))
    simp only [ls]
    split <;> omega
theorem ls_any {f : Int → Int} {s s2 : Int} (hs : 1800 < s) (hs2 : 1800 < s2) : ∀ j : Nat, (∀ i : Int, 0 ≤ i → i ≤ (j + 1 : Nat) → -900 ≤ f i ∧ f i ≤ 900) → ls f s (j + 1) = ls f s2 (j + 1) := by
  intro j
  induction j with
  | zero =>
    intro h
    have h1 := h 0 (by omega) (by omega)
    have h2 := h 1 (by omega) (by omega)
    simp only [ls, Int.natCast_zero, Int.zero_add]
    rw [if_pos (by omega), if_pos (by omega)]
  | succ j ih =>
    intro h
    have ih := ih (fun i a b => h i a (by omega))
    rw [ls_succ f s (j + 1), ls_succ f s2 (j + 1), ih]
theorem X10_leastStep {Y : jY} {μ : jM} {o : Nat} (hT : kT Y μ o) (hB : kTb μ o) {q : Int} (hR : 1 ≤ gi μ o 0) (hq1 : 1 ≤ q) (hq2 : q ≤ 50) : f_X10_leastStep Y o (ki q) μ = some (ki (ls (tr μ o q) 2147483647 ((gi μ o 0).toNat - 1)), μ) := by
  have hb5 := hB.2.1
  unfold f_X10_leastStep
  refine jit_run (fun i => (ki (ls (tr μ o q) 2147483647 i), ki i, μ)) _ ((gi μ o 0).toNat - 1) rfl (by omega) (fun i hi => ?_) ?_
  · have e1 := X10_rip hT hB (i := i + 1) (q := q) (by omega) (by omega) hq1 hq2
    have e2 := X10_rip hT hB (i := i) (q := q) (by omega) (by omega) hq1 hq2
    have t1 := tr_rng hT hB (i := i + 1) (q := q) (by omega) (by omega) hq1 hq2
    have t2 := tr_rng hT hB (i := i) (q := q) (by omega) (by omega) hq1 hq2
    have l1 := ls_rng (f := tr μ o q) (s := 2147483647) (by omega) (by omega) i (fun j a b => tr_rng hT hB (by omega) (by omega) hq1 hq2)
    simp (disch := omega) only [b_X10_leastStep_5, e1, e2, kmin, ls, kT.ga hT, kT.gc hT, kT.gr hT, kaI (kT.aa hT), kaI (kT.ac hT), kasI (kT.aa hT), kasI (kT.ac hT), krcv (kT.y hT), kT.pr hT, ki_0, ki_1, ki_2, ki_3, ki_4, ki_5, ki_6, ki_7, ki_8, ki_9, ki_10, ki_11, ki_12, ki_13, ki_18, ki_20, ki_24, ki_32, ki_36, ki_45, ki_47, ki_48, ki_50, ki_57, ki_60, ki_63, ki_99, ki_100, ki_101, ki_120, ki_255, ki_468, ki_1000, ki_1024, ki_13849, ki_25173, ki_65535, ki_65536, ki_100000, ki_100001, ki_2147483647, ki_2147483648, kl_0, kl_1, kl_2, kl_9223372036854775808, ki_add, ki_sub, ki_mul, ki_neg, kl_add, kl_sub, kl_mul, kl_neg, ki_i2l, kl_l2i, ki_lt, ki_le, ki_eq, kcmp_eq, kcmp_lt, kcmp_le, kcmp_gt, kcmp_ge, Option.bind_some, Option.map_some, kbool0, kbool1, if_pos, if_neg, if_true, if_false, Int.neg_neg, Int.sub_zero, Int.add_zero, Int.zero_add, true_and, and_true, false_and, and_false, false_or, or_false, true_or, or_true, ne_eq, not_false_eq_true, not_true_eq_false, Int.natCast_add, Int.natCast_one]
  · simp (disch := omega) only [b_X10_leastStep_5, kT.ga hT, kT.gc hT, kT.gr hT, kaI (kT.aa hT), kaI (kT.ac hT), kasI (kT.aa hT), kasI (kT.ac hT), krcv (kT.y hT), kT.pr hT, ki_0, ki_1, ki_2, ki_3, ki_4, ki_5, ki_6, ki_7, ki_8, ki_9, ki_10, ki_11, ki_12, ki_13, ki_18, ki_20, ki_24, ki_32, ki_36, ki_45, ki_47, ki_48, ki_50, ki_57, ki_60, ki_63, ki_99, ki_100, ki_101, ki_120, ki_255, ki_468, ki_1000, ki_1024, ki_13849, ki_25173, ki_65535, ki_65536, ki_100000, ki_100001, ki_2147483647, ki_2147483648, kl_0, kl_1, kl_2, kl_9223372036854775808, ki_add, ki_sub, ki_mul, ki_neg, kl_add, kl_sub, kl_mul, kl_neg, ki_i2l, kl_l2i, ki_lt, ki_le, ki_eq, kcmp_eq, kcmp_lt, kcmp_le, kcmp_gt, kcmp_ge, Option.bind_some, Option.map_some, kbool0, kbool1, if_pos, if_neg, if_true, if_false, Int.neg_neg, Int.sub_zero, Int.add_zero, Int.zero_add, true_and, and_true, false_and, and_false, false_or, or_false, true_or, or_true, ne_eq, not_false_eq_true, not_true_eq_false]
