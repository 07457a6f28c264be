/-! THE FRACTION of fractions: the reference's values -/
theorem X12_coef {Y : jY} {μ : jM} (hM : kM Y μ) {U f : Int → Int} {N : Nat} (N4 : N ≤ 4) (hU : rowK μ 101 ((N : Int) + 1) U) (hf : rowK μ 103 8 f) {k j : Int} (k0 : 0 ≤ k) (kN : k ≤ N) (j0 : 0 ≤ j) (jk : j ≤ k) : (k = (N : Int) → jaL Y μ 101 21 (ki j) = some (kl (eC N U f k j))) ∧ (k ≠ (N : Int) → f_X12_power Y 95 (ki k) (ki j) μ = some (kl (eC N U f k j), μ)) := by
  refine ⟨fun e => ?_, fun e => ?_⟩
  · rw [eC, if_pos e]
    exact kaLv (kM.a101 hM) (x := j) j0 (by omega) (hU j j0 (by omega))
  · rw [eC, if_neg e]
    exact X12_power hM hf k0 (by omega) j0 jk
theorem X12_valueOf {Y : jY} {μ : jM} (hM : kM Y μ) {U f : Int → Int} {N : Nat} (N4 : N ≤ 4) (eN : gi μ 95 10 = (N : Int)) (hU : rowK μ 101 ((N : Int) + 1) U) (hf : rowK μ 103 8 f) {k x : Int} (k0 : -1 ≤ k) (kN : k ≤ N) : f_X12_valueOf Y 95 (ki k) (kl x) μ = some (kl (eV N U f k x), μ) := by
  have g := kM.g10 hM
  rw [eN] at g
  unfold f_X12_valueOf eV
  refine jit_run (fun i => (kl (hv (eC N U f k) x k i), ki (k - i), μ)) _ (k + 1).toNat (by rw [show k - ((0 : Nat) : Int) = k by omega]; rfl) (by omega) (fun i hi => ?_) ?_
  · obtain ⟨c1, c2⟩ := X12_coef hM N4 hU hf (k := k) (j := k - i) (by omega) kN (by omega) (by omega)
    have e1 : k - ((i + 1 : Nat) : Int) = k - i + -1 := by omega
    simp only [hv, e1]
    generalize hv (eC N U f k) x k i = acc
    generalize eC N U f k (k - i) = c at *
    by_cases e : k = (N : Int)
    · simp (disch := omega) only [b_X12_valueOf_6, b_X12_valueOf_40, g, kM.o13 hM, c1 e, ki_0, ki_1, ki_2, ki_3, ki_4, ki_5, ki_6, ki_7, ki_8, ki_9, ki_10, ki_11, ki_12, ki_13, ki_18, ki_20, ki_24, ki_32, ki_36, ki_45, ki_47, ki_48, ki_50, ki_57, ki_60, ki_63, ki_99, ki_100, ki_101, ki_120, ki_255, ki_468, ki_1000, ki_1024, ki_13849, ki_25173, ki_65535, ki_65536, ki_100000, ki_100001, ki_2147483647, ki_2147483648, kl_0, kl_1, kl_2, kl_9223372036854775808, ki_add, ki_sub, ki_mul, ki_neg, kl_add, kl_sub, kl_mul, kl_neg, ki_i2l, kl_l2i, ki_lt, ki_le, ki_eq, kcmp_eq, kcmp_lt, kcmp_le, kcmp_gt, kcmp_ge, Option.bind_some, Option.map_some, kbool0, kbool1, if_pos, if_neg, if_true, if_false, Int.neg_neg, Int.sub_zero, Int.add_zero, Int.zero_add, true_and, and_true, false_and, and_false, false_or, or_false, true_or, or_true, ne_eq, not_false_eq_true, not_true_eq_false]
    · simp (disch := omega) only [b_X12_valueOf_6, b_X12_valueOf_40, g, krcv hM.y, c2 e, ki_0, ki_1, ki_2, ki_3, ki_4, ki_5, ki_6, ki_7, ki_8, ki_9, ki_10, ki_11, ki_12, ki_13, ki_18, ki_20, ki_24, ki_32, ki_36, ki_45, ki_47, ki_48, ki_50, ki_57, ki_60, ki_63, ki_99, ki_100, ki_101, ki_120, ki_255, ki_468, ki_1000, ki_1024, ki_13849, ki_25173, ki_65535, ki_65536, ki_100000, ki_100001, ki_2147483647, ki_2147483648, kl_0, kl_1, kl_2, kl_9223372036854775808, ki_add, ki_sub, ki_mul, ki_neg, kl_add, kl_sub, kl_mul, kl_neg, ki_i2l, kl_l2i, ki_lt, ki_le, ki_eq, kcmp_eq, kcmp_lt, kcmp_le, kcmp_gt, kcmp_ge, Option.bind_some, Option.map_some, kbool0, kbool1, if_pos, if_neg, if_true, if_false, Int.neg_neg, Int.sub_zero, Int.add_zero, Int.zero_add, true_and, and_true, false_and, and_false, false_or, or_false, true_or, or_true, ne_eq, not_false_eq_true, not_true_eq_false]
  · generalize hv (eC N U f k) x k (k + 1).toNat = acc
    simp (disch := omega) only [b_X12_valueOf_6, ki_0, ki_1, ki_2, ki_3, ki_4, ki_5, ki_6, ki_7, ki_8, ki_9, ki_10, ki_11, ki_12, ki_13, ki_18, ki_20, ki_24, ki_32, ki_36, ki_45, ki_47, ki_48, ki_50, ki_57, ki_60, ki_63, ki_99, ki_100, ki_101, ki_120, ki_255, ki_468, ki_1000, ki_1024, ki_13849, ki_25173, ki_65535, ki_65536, ki_100000, ki_100001, ki_2147483647, ki_2147483648, kl_0, kl_1, kl_2, kl_9223372036854775808, ki_add, ki_sub, ki_mul, ki_neg, kl_add, kl_sub, kl_mul, kl_neg, ki_i2l, kl_l2i, ki_lt, ki_le, ki_eq, kcmp_eq, kcmp_lt, kcmp_le, kcmp_gt, kcmp_ge, Option.bind_some, Option.map_some, kbool0, kbool1, if_pos, if_neg, if_true, if_false, Int.neg_neg, Int.sub_zero, Int.add_zero, Int.zero_add, true_and, and_true, false_and, and_false, false_or, or_false, true_or, or_true, ne_eq, not_false_eq_true, not_true_eq_false]
theorem X12_laterOf {Y : jY} {μ : jM} (hM : kM Y μ) {U f : Int → Int} {N : Nat} (N4 : N ≤ 4) (eN : gi μ 95 10 = (N : Int)) (hU : rowK μ 101 ((N : Int) + 1) U) (hf : rowK μ 103 8 f) {k x : Int} (k0 : 0 ≤ k) (kN : k ≤ N) : f_X12_laterOf Y 95 (ki k) (kl x) μ = some (kl (gV N U f k x), μ) := by
  have g := kM.g10 hM
  rw [eN] at g
  unfold f_X12_laterOf gV
  rw [ki_1, ki_sub]
  refine jit_run (fun i => (kl (hv (gC N U f k) x (k - 1) i), ki (k - 1 - i), μ)) _ k.toNat (by rw [show k - 1 - ((0 : Nat) : Int) = k - 1 by omega]; rfl) (by omega) (fun i hi => ?_) ?_
  · have e1 : k - 1 - ((i + 1 : Nat) : Int) = k - 1 - i + -1 := by omega
    simp only [hv, e1]
    generalize hv (gC N U f k) x (k - 1) i = acc
    unfold gC
    obtain ⟨s, hs⟩ : ∃ s : Int, s = k - 1 - i := ⟨_, rfl⟩
    rw [← hs]
    have inner : jit jF (fun (z : Int64 × Int32 × jM) => b_X12_laterOf_22 Y 95 (ki k) (kl x) (kl acc) (ki s) z.1 z.2.1 z.2.2) ((0 : Int64), ki (s + 1), μ) = some (.inl (kl (acc * x + gs (eC N U f k) f s (k - s).toNat), ki (s + -1), μ)) := by
      refine jit_run (fun j => (kl (gs (eC N U f k) f s j), ki (s + 1 + j), μ)) _ (k - s).toNat (by rw [show s + 1 + ((0 : Nat) : Int) = s + 1 by omega]; rfl) (by omega) (fun j hj => ?_) ?_
      · obtain ⟨c1, c2⟩ := X12_coef hM N4 hU hf (k := k) (j := s + 1 + j) (by omega) kN (by omega) (by omega)
        have m := kaLv (kM.a103 hM) (x := s + 1 + j - 1 - s) (by omega) (by omega) (hf _ (by omega) (by omega))
        have e2 : s + 1 + ((j + 1 : Nat) : Int) = s + 1 + j + 1 := by omega
        have e3 : s + 1 + (j : Int) - 1 - s = j := by omega
        rw [e3] at m
        simp only [gs, e2]
        generalize gs (eC N U f k) f s j = a2
        generalize eC N U f k (s + 1 + j) = c at *
        generalize f (j : Int) = fj at *
        by_cases e : k = (N : Int)
        · simp (disch := omega) only [b_X12_laterOf_22, b_X12_laterOf_55, g, kM.o13 hM, kM.o15 hM, c1 e, m, e3, ki_0, ki_1, ki_2, ki_3, ki_4, ki_5, ki_6, ki_7, ki_8, ki_9, ki_10, ki_11, ki_12, ki_13, ki_18, ki_20, ki_24, ki_32, ki_36, ki_45, ki_47, ki_48, ki_50, ki_57, ki_60, ki_63, ki_99, ki_100, ki_101, ki_120, ki_255, ki_468, ki_1000, ki_1024, ki_13849, ki_25173, ki_65535, ki_65536, ki_100000, ki_100001, ki_2147483647, ki_2147483648, kl_0, kl_1, kl_2, kl_9223372036854775808, ki_add, ki_sub, ki_mul, ki_neg, kl_add, kl_sub, kl_mul, kl_neg, ki_i2l, kl_l2i, ki_lt, ki_le, ki_eq, kcmp_eq, kcmp_lt, kcmp_le, kcmp_gt, kcmp_ge, Option.bind_some, Option.map_some, kbool0, kbool1, if_pos, if_neg, if_true, if_false, Int.neg_neg, Int.sub_zero, Int.add_zero, Int.zero_add, true_and, and_true, false_and, and_false, false_or, or_false, true_or, or_true, ne_eq, not_false_eq_true, not_true_eq_false]
        · simp (disch := omega) only [b_X12_laterOf_22, b_X12_laterOf_55, g, kM.o15 hM, krcv hM.y, c2 e, m, e3, ki_0, ki_1, ki_2, ki_3, ki_4, ki_5, ki_6, ki_7, ki_8, ki_9, ki_10, ki_11, ki_12, ki_13, ki_18, ki_20, ki_24, ki_32, ki_36, ki_45, ki_47, ki_48, ki_50, ki_57, ki_60, ki_63, ki_99, ki_100, ki_101, ki_120, ki_255, ki_468, ki_1000, ki_1024, ki_13849, ki_25173, ki_65535, ki_65536, ki_100000, ki_100001, ki_2147483647, ki_2147483648, kl_0, kl_1, kl_2, kl_9223372036854775808, ki_add, ki_sub, ki_mul, ki_neg, kl_add, kl_sub, kl_mul, kl_neg, ki_i2l, kl_l2i, ki_lt, ki_le, ki_eq, kcmp_eq, kcmp_lt, kcmp_le, kcmp_gt, kcmp_ge, Option.bind_some, Option.map_some, kbool0, kbool1, if_pos, if_neg, if_true, if_false, Int.neg_neg, Int.sub_zero, Int.add_zero, Int.zero_add, true_and, and_true, false_and, and_false, false_or, or_false, true_or, or_true, ne_eq, not_false_eq_true, not_true_eq_false]
      · generalize gs (eC N U f k) f s (k - s).toNat = a2
        simp (disch := omega) only [b_X12_laterOf_22, ki_0, ki_1, ki_2, ki_3, ki_4, ki_5, ki_6, ki_7, ki_8, ki_9, ki_10, ki_11, ki_12, ki_13, ki_18, ki_20, ki_24, ki_32, ki_36, ki_45, ki_47, ki_48, ki_50, ki_57, ki_60, ki_63, ki_99, ki_100, ki_101, ki_120, ki_255, ki_468, ki_1000, ki_1024, ki_13849, ki_25173, ki_65535, ki_65536, ki_100000, ki_100001, ki_2147483647, ki_2147483648, kl_0, kl_1, kl_2, kl_9223372036854775808, ki_add, ki_sub, ki_mul, ki_neg, kl_add, kl_sub, kl_mul, kl_neg, ki_i2l, kl_l2i, ki_lt, ki_le, ki_eq, kcmp_eq, kcmp_lt, kcmp_le, kcmp_gt, kcmp_ge, Option.bind_some, Option.map_some, kbool0, kbool1, if_pos, if_neg, if_true, if_false, Int.neg_neg, Int.sub_zero, Int.add_zero, Int.zero_add, true_and, and_true, false_and, and_false, false_or, or_false, true_or, or_true, ne_eq, not_false_eq_true, not_true_eq_false]
    have E : b_X12_laterOf_8 Y 95 (ki k) (kl x) (kl acc) (ki s) μ = jit jF (fun (z : Int64 × Int32 × jM) => b_X12_laterOf_22 Y 95 (ki k) (kl x) (kl acc) (ki s) z.1 z.2.1 z.2.2) ((0 : Int64), ki (s + 1), μ) := by
      simp (disch := omega) only [b_X12_laterOf_8, ki_0, ki_1, ki_2, ki_3, ki_4, ki_5, ki_6, ki_7, ki_8, ki_9, ki_10, ki_11, ki_12, ki_13, ki_18, ki_20, ki_24, ki_32, ki_36, ki_45, ki_47, ki_48, ki_50, ki_57, ki_60, ki_63, ki_99, ki_100, ki_101, ki_120, ki_255, ki_468, ki_1000, ki_1024, ki_13849, ki_25173, ki_65535, ki_65536, ki_100000, ki_100001, ki_2147483647, ki_2147483648, kl_0, kl_1, kl_2, kl_9223372036854775808, ki_add, ki_sub, ki_mul, ki_neg, kl_add, kl_sub, kl_mul, kl_neg, ki_i2l, kl_l2i, ki_lt, ki_le, ki_eq, kcmp_eq, kcmp_lt, kcmp_le, kcmp_gt, kcmp_ge, Option.bind_some, Option.map_some, kbool0, kbool1, if_pos, if_neg, if_true, if_false, Int.neg_neg, Int.sub_zero, Int.add_zero, Int.zero_add, true_and, and_true, false_and, and_false, false_or, or_false, true_or, or_true, ne_eq, not_false_eq_true, not_true_eq_false]
    simp only [E, inner]
  · generalize hv (gC N U f k) x (k - 1) k.toNat = acc
    simp (disch := omega) only [b_X12_laterOf_8, ki_0, ki_1, ki_2, ki_3, ki_4, ki_5, ki_6, ki_7, ki_8, ki_9, ki_10, ki_11, ki_12, ki_13, ki_18, ki_20, ki_24, ki_32, ki_36, ki_45, ki_47, ki_48, ki_50, ki_57, ki_60, ki_63, ki_99, ki_100, ki_101, ki_120, ki_255, ki_468, ki_1000, ki_1024, ki_13849, ki_25173, ki_65535, ki_65536, ki_100000, ki_100001, ki_2147483647, ki_2147483648, kl_0, kl_1, kl_2, kl_9223372036854775808, ki_add, ki_sub, ki_mul, ki_neg, kl_add, kl_sub, kl_mul, kl_neg, ki_i2l, kl_l2i, ki_lt, ki_le, ki_eq, kcmp_eq, kcmp_lt, kcmp_le, kcmp_gt, kcmp_ge, Option.bind_some, Option.map_some, kbool0, kbool1, if_pos, if_neg, if_true, if_false, Int.neg_neg, Int.sub_zero, Int.add_zero, Int.zero_add, true_and, and_true, false_and, and_false, false_or, or_false, true_or, or_true, ne_eq, not_false_eq_true, not_true_eq_false]
