/-! OPS: tune, mirror -/
theorem X12_tune1 {Y : jY} {μ : jM} (hM : kM Y μ) {N i v : Int} (e0 : gi μ 95 10 = N) (h1 : 1 ≤ N) (h4 : N ≤ 4) (i0 : 0 ≤ i) (i1 : i < N) (hv : -6 ≤ v ∧ v ≤ 6) : ((i = 0 ∨ gi μ 100 (i - 1) < v) ∧ (i = N - 1 ∨ v < gi μ 100 i) ∧ f_X12_tune Y 95 (ki 1) (ki i) (ki v) μ = some (ki N, jw μ 99 i.toNat (.int (ki v)))) ∨ (¬ ((i = 0 ∨ gi μ 100 (i - 1) < v) ∧ (i = N - 1 ∨ v < gi μ 100 i)) ∧ f_X12_tune Y 95 (ki 1) (ki i) (ki v) μ = some (ki (-3), μ)) := by
  have g := kM.g10 hM
  rw [e0] at g
  have s1 := fun v => kasI (v := v) (kM.a99 hM) (x := i) (by omega) (by omega)
  have kf : kF 99 100 μ (jw μ 99 i.toNat (.int (ki v))) := kF_I ((kM.a99 hM).2.2.2 _ (by omega)) (by omega) (by omega)
  have g2 := kM.g10 (hM.to kf)
  rw [kf.gi (by omega), e0] at g2
  have t1 := gi_lo μ 100 (i - 1)
  have t2 := gi_hi μ 100 (i - 1)
  have t3 := gi_lo μ 100 i
  have t4 := gi_hi μ 100 i
  by_cases c1 : i = 0
  · by_cases c2 : i = N - 1
    · refine Or.inl ⟨Or.inl c1, Or.inl c2, ?_⟩
      simp (disch := omega) only [f_X12_tune, b_X12_tune_45, b_X12_tune_122, b_X12_tune_132, b_X12_tune_90, b_X12_tune_87, b_X12_tune_67, b_X12_tune_28, X12_in, g, kM.o11 hM, s1, g2, ki_0, ki_1, ki_2, ki_3, ki_4, ki_5, ki_6, ki_7, ki_8, ki_9, ki_10, ki_11, ki_12, ki_13, ki_18, ki_20, ki_24, ki_32, ki_36, ki_45, ki_47, ki_48, ki_50, ki_57, ki_60, ki_63, ki_99, ki_100, ki_101, ki_120, ki_255, ki_468, ki_1000, ki_1024, ki_13849, ki_25173, ki_65535, ki_65536, ki_100000, ki_100001, ki_2147483647, ki_2147483648, kl_0, kl_1, kl_2, kl_9223372036854775808, ki_add, ki_sub, ki_mul, ki_neg, kl_add, kl_sub, kl_mul, kl_neg, ki_i2l, kl_l2i, ki_lt, ki_le, ki_eq, kcmp_eq, kcmp_lt, kcmp_le, kcmp_gt, kcmp_ge, Option.bind_some, Option.map_some, kbool0, kbool1, if_pos, if_neg, if_true, if_false, Int.neg_neg, Int.sub_zero, Int.add_zero, Int.zero_add, true_and, and_true, false_and, and_false, false_or, or_false, true_or, or_true, ne_eq, not_false_eq_true, not_true_eq_false]
    · have r1 := kaI (kM.a100 hM) (x := i) (by omega) (by omega)
      by_cases c3 : v < gi μ 100 i
      · refine Or.inl ⟨Or.inl c1, Or.inr c3, ?_⟩
        simp (disch := omega) only [f_X12_tune, b_X12_tune_45, b_X12_tune_122, b_X12_tune_132, b_X12_tune_90, b_X12_tune_87, b_X12_tune_67, b_X12_tune_28, X12_in, g, kM.o11 hM, kM.o12 hM, r1, s1, g2, ki_0, ki_1, ki_2, ki_3, ki_4, ki_5, ki_6, ki_7, ki_8, ki_9, ki_10, ki_11, ki_12, ki_13, ki_18, ki_20, ki_24, ki_32, ki_36, ki_45, ki_47, ki_48, ki_50, ki_57, ki_60, ki_63, ki_99, ki_100, ki_101, ki_120, ki_255, ki_468, ki_1000, ki_1024, ki_13849, ki_25173, ki_65535, ki_65536, ki_100000, ki_100001, ki_2147483647, ki_2147483648, kl_0, kl_1, kl_2, kl_9223372036854775808, ki_add, ki_sub, ki_mul, ki_neg, kl_add, kl_sub, kl_mul, kl_neg, ki_i2l, kl_l2i, ki_lt, ki_le, ki_eq, kcmp_eq, kcmp_lt, kcmp_le, kcmp_gt, kcmp_ge, Option.bind_some, Option.map_some, kbool0, kbool1, if_pos, if_neg, if_true, if_false, Int.neg_neg, Int.sub_zero, Int.add_zero, Int.zero_add, true_and, and_true, false_and, and_false, false_or, or_false, true_or, or_true, ne_eq, not_false_eq_true, not_true_eq_false]
      · refine Or.inr ⟨by omega, ?_⟩
        simp (disch := omega) only [f_X12_tune, b_X12_tune_45, b_X12_tune_122, b_X12_tune_132, b_X12_tune_90, b_X12_tune_87, b_X12_tune_67, b_X12_tune_28, X12_in, g, kM.o11 hM, kM.o12 hM, r1, s1, g2, ki_0, ki_1, ki_2, ki_3, ki_4, ki_5, ki_6, ki_7, ki_8, ki_9, ki_10, ki_11, ki_12, ki_13, ki_18, ki_20, ki_24, ki_32, ki_36, ki_45, ki_47, ki_48, ki_50, ki_57, ki_60, ki_63, ki_99, ki_100, ki_101, ki_120, ki_255, ki_468, ki_1000, ki_1024, ki_13849, ki_25173, ki_65535, ki_65536, ki_100000, ki_100001, ki_2147483647, ki_2147483648, kl_0, kl_1, kl_2, kl_9223372036854775808, ki_add, ki_sub, ki_mul, ki_neg, kl_add, kl_sub, kl_mul, kl_neg, ki_i2l, kl_l2i, ki_lt, ki_le, ki_eq, kcmp_eq, kcmp_lt, kcmp_le, kcmp_gt, kcmp_ge, Option.bind_some, Option.map_some, kbool0, kbool1, if_pos, if_neg, if_true, if_false, Int.neg_neg, Int.sub_zero, Int.add_zero, Int.zero_add, true_and, and_true, false_and, and_false, false_or, or_false, true_or, or_true, ne_eq, not_false_eq_true, not_true_eq_false]
  · have r0 := kaI (kM.a100 hM) (x := i - 1) (by omega) (by omega)
    by_cases c4 : gi μ 100 (i - 1) < v
    · by_cases c2 : i = N - 1
      · refine Or.inl ⟨Or.inr c4, Or.inl c2, ?_⟩
        simp (disch := omega) only [f_X12_tune, b_X12_tune_45, b_X12_tune_122, b_X12_tune_132, b_X12_tune_90, b_X12_tune_87, b_X12_tune_67, b_X12_tune_28, X12_in, g, kM.o11 hM, kM.o12 hM, r0, s1, g2, ki_0, ki_1, ki_2, ki_3, ki_4, ki_5, ki_6, ki_7, ki_8, ki_9, ki_10, ki_11, ki_12, ki_13, ki_18, ki_20, ki_24, ki_32, ki_36, ki_45, ki_47, ki_48, ki_50, ki_57, ki_60, ki_63, ki_99, ki_100, ki_101, ki_120, ki_255, ki_468, ki_1000, ki_1024, ki_13849, ki_25173, ki_65535, ki_65536, ki_100000, ki_100001, ki_2147483647, ki_2147483648, kl_0, kl_1, kl_2, kl_9223372036854775808, ki_add, ki_sub, ki_mul, ki_neg, kl_add, kl_sub, kl_mul, kl_neg, ki_i2l, kl_l2i, ki_lt, ki_le, ki_eq, kcmp_eq, kcmp_lt, kcmp_le, kcmp_gt, kcmp_ge, Option.bind_some, Option.map_some, kbool0, kbool1, if_pos, if_neg, if_true, if_false, Int.neg_neg, Int.sub_zero, Int.add_zero, Int.zero_add, true_and, and_true, false_and, and_false, false_or, or_false, true_or, or_true, ne_eq, not_false_eq_true, not_true_eq_false]
      · have r1 := kaI (kM.a100 hM) (x := i) (by omega) (by omega)
        by_cases c3 : v < gi μ 100 i
        · refine Or.inl ⟨Or.inr c4, Or.inr c3, ?_⟩
          simp (disch := omega) only [f_X12_tune, b_X12_tune_45, b_X12_tune_122, b_X12_tune_132, b_X12_tune_90, b_X12_tune_87, b_X12_tune_67, b_X12_tune_28, X12_in, g, kM.o11 hM, kM.o12 hM, r0, r1, s1, g2, ki_0, ki_1, ki_2, ki_3, ki_4, ki_5, ki_6, ki_7, ki_8, ki_9, ki_10, ki_11, ki_12, ki_13, ki_18, ki_20, ki_24, ki_32, ki_36, ki_45, ki_47, ki_48, ki_50, ki_57, ki_60, ki_63, ki_99, ki_100, ki_101, ki_120, ki_255, ki_468, ki_1000, ki_1024, ki_13849, ki_25173, ki_65535, ki_65536, ki_100000, ki_100001, ki_2147483647, ki_2147483648, kl_0, kl_1, kl_2, kl_9223372036854775808, ki_add, ki_sub, ki_mul, ki_neg, kl_add, kl_sub, kl_mul, kl_neg, ki_i2l, kl_l2i, ki_lt, ki_le, ki_eq, kcmp_eq, kcmp_lt, kcmp_le, kcmp_gt, kcmp_ge, Option.bind_some, Option.map_some, kbool0, kbool1, if_pos, if_neg, if_true, if_false, Int.neg_neg, Int.sub_zero, Int.add_zero, Int.zero_add, true_and, and_true, false_and, and_false, false_or, or_false, true_or, or_true, ne_eq, not_false_eq_true, not_true_eq_false]
        · refine Or.inr ⟨by omega, ?_⟩
          simp (disch := omega) only [f_X12_tune, b_X12_tune_45, b_X12_tune_122, b_X12_tune_132, b_X12_tune_90, b_X12_tune_87, b_X12_tune_67, b_X12_tune_28, X12_in, g, kM.o11 hM, kM.o12 hM, r0, r1, s1, g2, ki_0, ki_1, ki_2, ki_3, ki_4, ki_5, ki_6, ki_7, ki_8, ki_9, ki_10, ki_11, ki_12, ki_13, ki_18, ki_20, ki_24, ki_32, ki_36, ki_45, ki_47, ki_48, ki_50, ki_57, ki_60, ki_63, ki_99, ki_100, ki_101, ki_120, ki_255, ki_468, ki_1000, ki_1024, ki_13849, ki_25173, ki_65535, ki_65536, ki_100000, ki_100001, ki_2147483647, ki_2147483648, kl_0, kl_1, kl_2, kl_9223372036854775808, ki_add, ki_sub, ki_mul, ki_neg, kl_add, kl_sub, kl_mul, kl_neg, ki_i2l, kl_l2i, ki_lt, ki_le, ki_eq, kcmp_eq, kcmp_lt, kcmp_le, kcmp_gt, kcmp_ge, Option.bind_some, Option.map_some, kbool0, kbool1, if_pos, if_neg, if_true, if_false, Int.neg_neg, Int.sub_zero, Int.add_zero, Int.zero_add, true_and, and_true, false_and, and_false, false_or, or_false, true_or, or_true, ne_eq, not_false_eq_true, not_true_eq_false]
    · refine Or.inr ⟨by omega, ?_⟩
      simp (disch := omega) only [f_X12_tune, b_X12_tune_45, b_X12_tune_122, b_X12_tune_132, b_X12_tune_90, b_X12_tune_87, b_X12_tune_67, b_X12_tune_28, X12_in, g, kM.o11 hM, kM.o12 hM, r0, s1, g2, ki_0, ki_1, ki_2, ki_3, ki_4, ki_5, ki_6, ki_7, ki_8, ki_9, ki_10, ki_11, ki_12, ki_13, ki_18, ki_20, ki_24, ki_32, ki_36, ki_45, ki_47, ki_48, ki_50, ki_57, ki_60, ki_63, ki_99, ki_100, ki_101, ki_120, ki_255, ki_468, ki_1000, ki_1024, ki_13849, ki_25173, ki_65535, ki_65536, ki_100000, ki_100001, ki_2147483647, ki_2147483648, kl_0, kl_1, kl_2, kl_9223372036854775808, ki_add, ki_sub, ki_mul, ki_neg, kl_add, kl_sub, kl_mul, kl_neg, ki_i2l, kl_l2i, ki_lt, ki_le, ki_eq, kcmp_eq, kcmp_lt, kcmp_le, kcmp_gt, kcmp_ge, Option.bind_some, Option.map_some, kbool0, kbool1, if_pos, if_neg, if_true, if_false, Int.neg_neg, Int.sub_zero, Int.add_zero, Int.zero_add, true_and, and_true, false_and, and_false, false_or, or_false, true_or, or_true, ne_eq, not_false_eq_true, not_true_eq_false]
theorem X12_tune0 {Y : jY} {μ : jM} (hM : kM Y μ) {N i v : Int} (e0 : gi μ 95 10 = N) (h1 : 1 ≤ N) (h4 : N ≤ 4) (i0 : 0 ≤ i) (i1 : i < N - 1) (hv : -6 ≤ v ∧ v ≤ 6) : (gi μ 99 i < v ∧ v < gi μ 99 (i + 1) ∧ f_X12_tune Y 95 (ki 0) (ki i) (ki v) μ = some (ki N, jw μ 100 i.toNat (.int (ki v)))) ∨ (¬ (gi μ 99 i < v ∧ v < gi μ 99 (i + 1)) ∧ f_X12_tune Y 95 (ki 0) (ki i) (ki v) μ = some (ki (-3), μ)) := by
  have g := kM.g10 hM
  rw [e0] at g
  have s1 := fun v => kasI (v := v) (kM.a100 hM) (x := i) (by omega) (by omega)
  have kf : kF 99 101 μ (jw μ 100 i.toNat (.int (ki v))) := kF_I ((kM.a100 hM).2.2.2 _ (by omega)) (by omega) (by omega)
  have g2 := kM.g10 (hM.to kf)
  rw [kf.gi (by omega), e0] at g2
  have t1 := gi_lo μ 99 (i + 1)
  have t2 := gi_hi μ 99 (i + 1)
  have t3 := gi_lo μ 99 i
  have t4 := gi_hi μ 99 i
  have r0 := kaI (kM.a99 hM) (x := i) (by omega) (by omega)
  have r1 := kaI (kM.a99 hM) (x := i + 1) (by omega) (by omega)
  by_cases c1 : gi μ 99 i < v
  · by_cases c2 : v < gi μ 99 (i + 1)
    · refine Or.inl ⟨c1, c2, ?_⟩
      simp (disch := omega) only [f_X12_tune, b_X12_tune_45, b_X12_tune_122, b_X12_tune_132, b_X12_tune_90, b_X12_tune_87, b_X12_tune_67, b_X12_tune_28, X12_in, g, kM.o11 hM, kM.o12 hM, r0, r1, s1, g2, ki_0, ki_1, ki_2, ki_3, ki_4, ki_5, ki_6, ki_7, ki_8, ki_9, ki_10, ki_11, ki_12, ki_13, ki_18, ki_20, ki_24, ki_32, ki_36, ki_45, ki_47, ki_48, ki_50, ki_57, ki_60, ki_63, ki_99, ki_100, ki_101, ki_120, ki_255, ki_468, ki_1000, ki_1024, ki_13849, ki_25173, ki_65535, ki_65536, ki_100000, ki_100001, ki_2147483647, ki_2147483648, kl_0, kl_1, kl_2, kl_9223372036854775808, ki_add, ki_sub, ki_mul, ki_neg, kl_add, kl_sub, kl_mul, kl_neg, ki_i2l, kl_l2i, ki_lt, ki_le, ki_eq, kcmp_eq, kcmp_lt, kcmp_le, kcmp_gt, kcmp_ge, Option.bind_some, Option.map_some, kbool0, kbool1, if_pos, if_neg, if_true, if_false, Int.neg_neg, Int.sub_zero, Int.add_zero, Int.zero_add, true_and, and_true, false_and, and_false, false_or, or_false, true_or, or_true, ne_eq, not_false_eq_true, not_true_eq_false]
    · refine Or.inr ⟨by omega, ?_⟩
      simp (disch := omega) only [f_X12_tune, b_X12_tune_45, b_X12_tune_122, b_X12_tune_132, b_X12_tune_90, b_X12_tune_87, b_X12_tune_67, b_X12_tune_28, X12_in, g, kM.o11 hM, kM.o12 hM, r0, r1, s1, g2, ki_0, ki_1, ki_2, ki_3, ki_4, ki_5, ki_6, ki_7, ki_8, ki_9, ki_10, ki_11, ki_12, ki_13, ki_18, ki_20, ki_24, ki_32, ki_36, ki_45, ki_47, ki_48, ki_50, ki_57, ki_60, ki_63, ki_99, ki_100, ki_101, ki_120, ki_255, ki_468, ki_1000, ki_1024, ki_13849, ki_25173, ki_65535, ki_65536, ki_100000, ki_100001, ki_2147483647, ki_2147483648, kl_0, kl_1, kl_2, kl_9223372036854775808, ki_add, ki_sub, ki_mul, ki_neg, kl_add, kl_sub, kl_mul, kl_neg, ki_i2l, kl_l2i, ki_lt, ki_le, ki_eq, kcmp_eq, kcmp_lt, kcmp_le, kcmp_gt, kcmp_ge, Option.bind_some, Option.map_some, kbool0, kbool1, if_pos, if_neg, if_true, if_false, Int.neg_neg, Int.sub_zero, Int.add_zero, Int.zero_add, true_and, and_true, false_and, and_false, false_or, or_false, true_or, or_true, ne_eq, not_false_eq_true, not_true_eq_false]
  · refine Or.inr ⟨by omega, ?_⟩
    simp (disch := omega) only [f_X12_tune, b_X12_tune_45, b_X12_tune_122, b_X12_tune_132, b_X12_tune_90, b_X12_tune_87, b_X12_tune_67, b_X12_tune_28, X12_in, g, kM.o11 hM, kM.o12 hM, r0, r1, s1, g2, ki_0, ki_1, ki_2, ki_3, ki_4, ki_5, ki_6, ki_7, ki_8, ki_9, ki_10, ki_11, ki_12, ki_13, ki_18, ki_20, ki_24, ki_32, ki_36, ki_45, ki_47, ki_48, ki_50, ki_57, ki_60, ki_63, ki_99, ki_100, ki_101, ki_120, ki_255, ki_468, ki_1000, ki_1024, ki_13849, ki_25173, ki_65535, ki_65536, ki_100000, ki_100001, ki_2147483647, ki_2147483648, kl_0, kl_1, kl_2, kl_9223372036854775808, ki_add, ki_sub, ki_mul, ki_neg, kl_add, kl_sub, kl_mul, kl_neg, ki_i2l, kl_l2i, ki_lt, ki_le, ki_eq, kcmp_eq, kcmp_lt, kcmp_le, kcmp_gt, kcmp_ge, Option.bind_some, Option.map_some, kbool0, kbool1, if_pos, if_neg, if_true, if_false, Int.neg_neg, Int.sub_zero, Int.add_zero, Int.zero_add, true_and, and_true, false_and, and_false, false_or, or_false, true_or, or_true, ne_eq, not_false_eq_true, not_true_eq_false]
set_option maxHeartbeats 1000000 in
theorem ok_tune {L : Nat} {xs : Nat → Int32} {n : Nat} {Y : jY} {μ : jM} (h : Inv L xs n Y μ) : so_tune (Inv L xs) n Y μ := by
  have hX := h.x
  have hM := h.m
  intro a1 a2 a3 hb0
  obtain ⟨b, hb, rfl⟩ := ki_bool hb0
  obtain ⟨i, i1, i2, rfl⟩ := ki_is a2
  obtain ⟨v, v1, v2, rfl⟩ := ki_is a3
  obtain ⟨q1, q2, q3, q4, q5⟩ := h.q
  have e0 := X11_hasTones hX
  have g := kM.g10 hM
  have gx := kN.gr hX.n10
  rw [q1] at e0 gx
  by_cases hz : gi μ 95 10 = 0
  · refine ⟨(ki (-1), μ), (ki (-1), μ), ?_, fun _ => rfl, ?_, rfl, h⟩
    · rcases hb with rfl | rfl
      · simp (disch := omega) only [f_X11_tune, b_X11_tune_31, b_X11_tune_61, krcv (kX.y1 hX), kX.o1_3 hX, kS.gn (kX.now hX), gx, e0, ki_0, ki_1, ki_2, ki_3, ki_4, ki_5, ki_6, ki_7, ki_8, ki_9, ki_10, ki_11, ki_12, ki_13, ki_18, ki_20, ki_24, ki_32, ki_36, ki_45, ki_47, ki_48, ki_50, ki_57, ki_60, ki_63, ki_99, ki_100, ki_101, ki_120, ki_255, ki_468, ki_1000, ki_1024, ki_13849, ki_25173, ki_65535, ki_65536, ki_100000, ki_100001, ki_2147483647, ki_2147483648, kl_0, kl_1, kl_2, kl_9223372036854775808, ki_add, ki_sub, ki_mul, ki_neg, kl_add, kl_sub, kl_mul, kl_neg, ki_i2l, kl_l2i, ki_lt, ki_le, ki_eq, kcmp_eq, kcmp_lt, kcmp_le, kcmp_gt, kcmp_ge, Option.bind_some, Option.map_some, kbool0, kbool1, if_pos, if_neg, if_true, if_false, Int.neg_neg, Int.sub_zero, Int.add_zero, Int.zero_add, true_and, and_true, false_and, and_false, false_or, or_false, true_or, or_true, ne_eq, not_false_eq_true, not_true_eq_false]
      · simp (disch := omega) only [f_X11_tune, b_X11_tune_31, b_X11_tune_61, krcv (kX.y1 hX), kX.o1_3 hX, kS.gn (kX.now hX), gx, e0, ki_0, ki_1, ki_2, ki_3, ki_4, ki_5, ki_6, ki_7, ki_8, ki_9, ki_10, ki_11, ki_12, ki_13, ki_18, ki_20, ki_24, ki_32, ki_36, ki_45, ki_47, ki_48, ki_50, ki_57, ki_60, ki_63, ki_99, ki_100, ki_101, ki_120, ki_255, ki_468, ki_1000, ki_1024, ki_13849, ki_25173, ki_65535, ki_65536, ki_100000, ki_100001, ki_2147483647, ki_2147483648, kl_0, kl_1, kl_2, kl_9223372036854775808, ki_add, ki_sub, ki_mul, ki_neg, kl_add, kl_sub, kl_mul, kl_neg, ki_i2l, kl_l2i, ki_lt, ki_le, ki_eq, kcmp_eq, kcmp_lt, kcmp_le, kcmp_gt, kcmp_ge, Option.bind_some, Option.map_some, kbool0, kbool1, if_pos, if_neg, if_true, if_false, Int.neg_neg, Int.sub_zero, Int.add_zero, Int.zero_add, true_and, and_true, false_and, and_false, false_or, or_false, true_or, or_true, ne_eq, not_false_eq_true, not_true_eq_false]
    · simp (disch := omega) only [f_X12_tune, b_X12_tune_45, g, ki_0, ki_1, ki_2, ki_3, ki_4, ki_5, ki_6, ki_7, ki_8, ki_9, ki_10, ki_11, ki_12, ki_13, ki_18, ki_20, ki_24, ki_32, ki_36, ki_45, ki_47, ki_48, ki_50, ki_57, ki_60, ki_63, ki_99, ki_100, ki_101, ki_120, ki_255, ki_468, ki_1000, ki_1024, ki_13849, ki_25173, ki_65535, ki_65536, ki_100000, ki_100001, ki_2147483647, ki_2147483648, kl_0, kl_1, kl_2, kl_9223372036854775808, ki_add, ki_sub, ki_mul, ki_neg, kl_add, kl_sub, kl_mul, kl_neg, ki_i2l, kl_l2i, ki_lt, ki_le, ki_eq, kcmp_eq, kcmp_lt, kcmp_le, kcmp_gt, kcmp_ge, Option.bind_some, Option.map_some, kbool0, kbool1, if_pos, if_neg, if_true, if_false, Int.neg_neg, Int.sub_zero, Int.add_zero, Int.zero_add, true_and, and_true, false_and, and_false, false_or, or_false, true_or, or_true, ne_eq, not_false_eq_true, not_true_eq_false]
  · by_cases hi : (0 ≤ i ∧ i ≤ gi μ 95 10 - 2 + b) ∧ -6 ≤ v ∧ v ≤ 6
    · obtain ⟨hi, hv⟩ := hi
      obtain ⟨ν1, c1, k1, d0, d1, d2⟩ := X9_copy2 hX.n10 hX.n91 (by omega)
      rw [q1] at d0
      have hX1 := hX.to k1
      have hlx : ∀ x : Int, 0 ≤ x → x < gi μ 95 10 → gi ν1 92 x = gi μ 99 x := fun x a c => by rw [d1 x a (by omega)]; exact (q4 x a c).1
      have hmx : ∀ x : Int, 0 ≤ x → x < gi μ 95 10 - 1 → gi ν1 93 x = gi μ 100 x := fun x a c => by rw [d2 x a (by omega)]; exact (q5 x a c).1
      rcases hb with rfl | rfl
      · have k2 : kF 91 94 ν1 (jw ν1 93 i.toNat (.int (ki v))) := kF_I (hX1.n91.ac.2.2.2 _ (by omega)) (by omega) (by omega)
        have s1 := fun v => kasI (v := v) hX1.n91.ac (x := i) (by omega) (by omega)
        have f0 : gi (jw ν1 93 i.toNat (.int (ki v))) 91 0 = gi μ 95 10 := by rw [gi_jw _ _ (by omega) (by omega), if_neg (by omega), d0]
        have f1 : ∀ x : Int, 0 ≤ x → x < gi μ 95 10 → gi (jw ν1 93 i.toNat (.int (ki v))) 92 x = gi μ 99 x := fun x a c => by rw [gi_jw _ _ (by omega) (by omega), if_neg (by omega), hlx x a c]
        have f2 : ∀ x : Int, 0 ≤ x → x < gi μ 95 10 - 1 → gi (jw ν1 93 i.toNat (.int (ki v))) 93 x = if x = i then v else gi μ 100 x := fun x a c => by
          rw [gi_jw _ _ (by omega) (by omega)]
          by_cases e : x = i
          · rw [if_pos (by omega), if_pos e]
          · rw [if_neg (by omega), if_neg e, hmx x a c]
        have T := X11_take (hX1.to k2)
        have F : f_X11_tune Y 1 (ki 0) (ki i) (ki v) μ = f_X11_takeSpareTones Y 1 (jw ν1 93 i.toNat (.int (ki v))) := by
          simp (disch := omega) only [f_X11_tune, b_X11_tune_31, b_X11_tune_104, X11_within, krcv (kX.y1 hX), kX.o1_11 hX, kX.o1_11 hX1, kX.o1_3 hX, kS.gn (kX.now hX), krcv (kN.y hX.n91), kN.gc hX1.n91, gx, e0, c1, s1, ki_0, ki_1, ki_2, ki_3, ki_4, ki_5, ki_6, ki_7, ki_8, ki_9, ki_10, ki_11, ki_12, ki_13, ki_18, ki_20, ki_24, ki_32, ki_36, ki_45, ki_47, ki_48, ki_50, ki_57, ki_60, ki_63, ki_99, ki_100, ki_101, ki_120, ki_255, ki_468, ki_1000, ki_1024, ki_13849, ki_25173, ki_65535, ki_65536, ki_100000, ki_100001, ki_2147483647, ki_2147483648, kl_0, kl_1, kl_2, kl_9223372036854775808, ki_add, ki_sub, ki_mul, ki_neg, kl_add, kl_sub, kl_mul, kl_neg, ki_i2l, kl_l2i, ki_lt, ki_le, ki_eq, kcmp_eq, kcmp_lt, kcmp_le, kcmp_gt, kcmp_ge, Option.bind_some, Option.map_some, kbool0, kbool1, if_pos, if_neg, if_true, if_false, Int.neg_neg, Int.sub_zero, Int.add_zero, Int.zero_add, true_and, and_true, false_and, and_false, false_or, or_false, true_or, or_true, ne_eq, not_false_eq_true, not_true_eq_false]
          cases f_X11_takeSpareTones Y 1 (jw ν1 93 i.toNat (.int (ki v))) <;> rfl
        generalize jw ν1 93 i.toNat (.int (ki v)) = ν2 at *
        have hM2 := hM.to (k1.trans k2)
        have hcM : ∀ i, 94 ≤ i → ν2 i = μ i := fun i hi => (k2.1 i (by omega)).trans (k1.1 i (by omega))
        have hc9 : ∀ i, i ≤ 90 → ν2 i = μ i := fun i hi => (k2.1 i (by omega)).trans (k1.1 i (by omega))
        rw [f0] at T
        rcases T q2 q3 with ⟨n1, t1⟩ | ⟨okk, ν3, t1, k3, v0, v1, v2⟩
        · have W := X12_tune0 hM2 (N := gi μ 95 10) (i := i) (v := v) (by rw [gi_cell (hcM 95 (by omega))]) (by omega) q3 hi.1 (by omega) hv
          rw [gi_cell (hcM 99 (by omega)), gi_cell (hcM 99 (by omega))] at W
          rcases W with ⟨w1, w2, w3⟩ | ⟨w1, w3⟩
          · exfalso
            refine n1 ⟨fun x a c => by rw [f1 x a c]; exact (q4 x a c).2, fun x a c => ?_⟩
            rw [f1 x a (by omega), f1 (x + 1) (by omega) (by omega), f2 x a c]
            by_cases e : x = i
            · subst e; rw [if_pos rfl]; exact ⟨w1, w2⟩
            · rw [if_neg e]; exact (q5 x a c).2
          · refine ⟨(ki (-3), ν2), (ki (-3), ν2), by rw [F, t1], fun j => ?_, w3, rfl, h.to (kP.of_rows ((k1.mono (by omega) (by omega)).trans (k2.mono (by omega) (by omega))))⟩
            show ν2 0 j = μ 0 j
            rw [hc9 0 (by omega)]
        · have hM3 := hM2.to k3
          have hc3 : ∀ i, 94 ≤ i → ν3 i = μ i := fun i hi => (k3.1 i (by omega)).trans (hcM i hi)
          have W := X12_tune0 hM3 (N := gi μ 95 10) (i := i) (v := v) (by rw [gi_cell (hc3 95 (by omega))]) (by omega) q3 hi.1 (by omega) hv
          rw [gi_cell (hc3 99 (by omega)), gi_cell (hc3 99 (by omega))] at W
          rcases W with ⟨w1, w2, w3⟩ | ⟨w1, w3⟩
          · have k4 : kF 100 101 ν3 (jw ν3 100 i.toNat (.int (ki v))) := kF_I ((kM.a100 hM3).2.2.2 _ (by omega)) (by omega) (by omega)
            refine ⟨(ki (gi μ 95 10), ν3), (ki (gi μ 95 10), jw ν3 100 i.toNat (.int (ki v))), by rw [F, t1], fun j => ?_, w3, rfl, ?_⟩
            · show ν3 0 j = μ 0 j
              rw [k3.1 0 (by omega), hc9 0 (by omega)]
            · refine Inv.updN (μ' := jw ν3 100 i.toNat (.int (ki v))) h ((k1.mono (by omega) (by omega)).trans ((k2.mono (by omega) (by omega)).trans ((k3.mono (by omega) (by omega)).trans (k4.mono (by omega) (by omega))))) (fun i pi i1 i2 i3 i4 i5 => ?_) ?_ ?_ ?_
              · rw [k4.1 i (by omega), k3.1 i (by omega)]
                unfold pers at pi
                rw [k2.1 i (by omega), k1.1 i (by omega)]
              · rw [k4.1 95 (by omega), hc3 95 (by omega)]
              · rw [k4.1 95 (by omega), hc3 95 (by omega)]
              · have x1 : gi (jw ν3 100 i.toNat (.int (ki v))) 95 10 = gi μ 95 10 := by rw [k4.gi (by omega), gi_cell (hc3 95 (by omega))]
                unfold relQ
                rw [x1, k4.gi (by omega), v0]
                refine ⟨rfl, q2, q3, fun x a c => ?_, fun x a c => ?_⟩
                · rw [k4.gi (by omega), v1 x a (by omega), f1 x a c, k4.gi (by omega), gi_cell (hc3 99 (by omega))]
                  exact ⟨rfl, (q4 x a c).2⟩
                · rw [k4.gi (by omega), v2 x a (by omega), f2 x a c, k4.gi (i := 99) (by omega), k4.gi (i := 99) (by omega), gi_cell (hc3 99 (by omega)), gi_cell (hc3 99 (by omega)), gi_jw _ _ (by omega) (by omega)]
                  by_cases e : x = i
                  · subst e; rw [if_pos rfl, if_pos (by omega)]; exact ⟨rfl, w1, w2⟩
                  · rw [if_neg e, if_neg (by omega), gi_cell (hc3 100 (by omega))]; exact ⟨rfl, (q5 x a c).2⟩
          · exfalso
            have := okk.2 i (by omega) (by omega)
            rw [f1 i (by omega) (by omega), f1 (i + 1) (by omega) (by omega), f2 i (by omega) (by omega), if_pos rfl] at this
            exact w1 this
      · have k2 : kF 91 94 ν1 (jw ν1 92 i.toNat (.int (ki v))) := kF_I (hX1.n91.aa.2.2.2 _ (by omega)) (by omega) (by omega)
        have s1 := fun v => kasI (v := v) hX1.n91.aa (x := i) (by omega) (by omega)
        have f0 : gi (jw ν1 92 i.toNat (.int (ki v))) 91 0 = gi μ 95 10 := by rw [gi_jw _ _ (by omega) (by omega), if_neg (by omega), d0]
        have f2 : ∀ x : Int, 0 ≤ x → x < gi μ 95 10 - 1 → gi (jw ν1 92 i.toNat (.int (ki v))) 93 x = gi μ 100 x := fun x a c => by rw [gi_jw _ _ (by omega) (by omega), if_neg (by omega), hmx x a c]
        have f1 : ∀ x : Int, 0 ≤ x → x < gi μ 95 10 → gi (jw ν1 92 i.toNat (.int (ki v))) 92 x = if x = i then v else gi μ 99 x := fun x a c => by
          rw [gi_jw _ _ (by omega) (by omega)]
          by_cases e : x = i
          · rw [if_pos (by omega), if_pos e]
          · rw [if_neg (by omega), if_neg e, hlx x a c]
        have T := X11_take (hX1.to k2)
        have F : f_X11_tune Y 1 (ki 1) (ki i) (ki v) μ = f_X11_takeSpareTones Y 1 (jw ν1 92 i.toNat (.int (ki v))) := by
          simp (disch := omega) only [f_X11_tune, b_X11_tune_31, b_X11_tune_104, X11_within, krcv (kX.y1 hX), kX.o1_11 hX, kX.o1_11 hX1, kX.o1_3 hX, kS.gn (kX.now hX), krcv (kN.y hX.n91), kN.ga hX1.n91, gx, e0, c1, s1, ki_0, ki_1, ki_2, ki_3, ki_4, ki_5, ki_6, ki_7, ki_8, ki_9, ki_10, ki_11, ki_12, ki_13, ki_18, ki_20, ki_24, ki_32, ki_36, ki_45, ki_47, ki_48, ki_50, ki_57, ki_60, ki_63, ki_99, ki_100, ki_101, ki_120, ki_255, ki_468, ki_1000, ki_1024, ki_13849, ki_25173, ki_65535, ki_65536, ki_100000, ki_100001, ki_2147483647, ki_2147483648, kl_0, kl_1, kl_2, kl_9223372036854775808, ki_add, ki_sub, ki_mul, ki_neg, kl_add, kl_sub, kl_mul, kl_neg, ki_i2l, kl_l2i, ki_lt, ki_le, ki_eq, kcmp_eq, kcmp_lt, kcmp_le, kcmp_gt, kcmp_ge, Option.bind_some, Option.map_some, kbool0, kbool1, if_pos, if_neg, if_true, if_false, Int.neg_neg, Int.sub_zero, Int.add_zero, Int.zero_add, true_and, and_true, false_and, and_false, false_or, or_false, true_or, or_true, ne_eq, not_false_eq_true, not_true_eq_false]
          cases f_X11_takeSpareTones Y 1 (jw ν1 92 i.toNat (.int (ki v))) <;> rfl
        generalize jw ν1 92 i.toNat (.int (ki v)) = ν2 at *
        have hM2 := hM.to (k1.trans k2)
        have hcM : ∀ i, 94 ≤ i → ν2 i = μ i := fun i hi => (k2.1 i (by omega)).trans (k1.1 i (by omega))
        have hc9 : ∀ i, i ≤ 90 → ν2 i = μ i := fun i hi => (k2.1 i (by omega)).trans (k1.1 i (by omega))
        rw [f0] at T
        rcases T q2 q3 with ⟨n1, t1⟩ | ⟨okk, ν3, t1, k3, v0, v1, v2⟩
        · have W := X12_tune1 hM2 (N := gi μ 95 10) (i := i) (v := v) (by rw [gi_cell (hcM 95 (by omega))]) (by omega) q3 hi.1 (by omega) hv
          rw [gi_cell (hcM 100 (by omega)), gi_cell (hcM 100 (by omega))] at W
          rcases W with ⟨w1, w2, w3⟩ | ⟨w1, w3⟩
          · exfalso
            refine n1 ⟨fun x a c => ?_, fun x a c => ?_⟩
            · rw [f1 x a c]
              by_cases e : x = i
              · rw [if_pos e]; exact hv
              · rw [if_neg e]; exact (q4 x a c).2
            · rw [f1 x a (by omega), f1 (x + 1) (by omega) (by omega), f2 x a c]
              have r := q5 x a c
              by_cases e : x = i
              · subst e; rw [if_pos rfl, if_neg (by omega)]; omega
              · rw [if_neg e]
                by_cases e2 : x + 1 = i
                · rw [if_pos e2]
                  have : i - 1 = x := by omega
                  rw [this] at w1
                  omega
                · rw [if_neg e2]; exact r.2
          · refine ⟨(ki (-3), ν2), (ki (-3), ν2), by rw [F, t1], fun j => ?_, w3, rfl, h.to (kP.of_rows ((k1.mono (by omega) (by omega)).trans (k2.mono (by omega) (by omega))))⟩
            show ν2 0 j = μ 0 j
            rw [hc9 0 (by omega)]
        · have hM3 := hM2.to k3
          have hc3 : ∀ i, 94 ≤ i → ν3 i = μ i := fun i hi => (k3.1 i (by omega)).trans (hcM i hi)
          have W := X12_tune1 hM3 (N := gi μ 95 10) (i := i) (v := v) (by rw [gi_cell (hc3 95 (by omega))]) (by omega) q3 hi.1 (by omega) hv
          rw [gi_cell (hc3 100 (by omega)), gi_cell (hc3 100 (by omega))] at W
          rcases W with ⟨w1, w2, w3⟩ | ⟨w1, w3⟩
          · have k4 : kF 99 100 ν3 (jw ν3 99 i.toNat (.int (ki v))) := kF_I ((kM.a99 hM3).2.2.2 _ (by omega)) (by omega) (by omega)
            refine ⟨(ki (gi μ 95 10), ν3), (ki (gi μ 95 10), jw ν3 99 i.toNat (.int (ki v))), by rw [F, t1], fun j => ?_, w3, rfl, ?_⟩
            · show ν3 0 j = μ 0 j
              rw [k3.1 0 (by omega), hc9 0 (by omega)]
            · have x9 : ∀ x : Int, 0 ≤ x → gi (jw ν3 99 i.toNat (.int (ki v))) 99 x = if x = i then v else gi μ 99 x := fun x a => by
                rw [gi_jw _ _ (by omega) (by omega)]
                by_cases e : x = i
                · rw [if_pos (by omega), if_pos e]
                · rw [if_neg (by omega), if_neg e, gi_cell (hc3 99 (by omega))]
              refine Inv.updN (μ' := jw ν3 99 i.toNat (.int (ki v))) h ((k1.mono (by omega) (by omega)).trans ((k2.mono (by omega) (by omega)).trans ((k3.mono (by omega) (by omega)).trans (k4.mono (by omega) (by omega))))) (fun i pi i1 i2 i3 i4 i5 => ?_) ?_ ?_ ?_
              · rw [k4.1 i (by omega), k3.1 i (by omega)]
                unfold pers at pi
                rw [k2.1 i (by omega), k1.1 i (by omega)]
              · rw [k4.1 95 (by omega), hc3 95 (by omega)]
              · rw [k4.1 95 (by omega), hc3 95 (by omega)]
              · have x1 : gi (jw ν3 99 i.toNat (.int (ki v))) 95 10 = gi μ 95 10 := by rw [k4.gi (by omega), gi_cell (hc3 95 (by omega))]
                unfold relQ
                rw [x1, k4.gi (by omega), v0]
                refine ⟨rfl, q2, q3, fun x a c => ?_, fun x a c => ?_⟩
                · rw [k4.gi (by omega), v1 x a (by omega), x9 x a]
                  refine ⟨f1 x a c, ?_⟩
                  by_cases e : x = i
                  · rw [if_pos e]; exact hv
                  · rw [if_neg e]; exact (q4 x a c).2
                · have o := okk.2 x a c
                  rw [f1 x a (by omega), f1 (x + 1) (by omega) (by omega), f2 x a c] at o
                  rw [k4.gi (by omega), v2 x a (by omega), f2 x a c, x9 x a, x9 (x + 1) (by omega), k4.gi (by omega), gi_cell (hc3 100 (by omega))]
                  exact ⟨rfl, o⟩
          · exfalso
            refine w1 ⟨?_, ?_⟩
            · by_cases e : i = 0
              · exact Or.inl e
              · have := okk.2 (i - 1) (by omega) (by omega)
                rw [f1 _ (by omega) (by omega), f1 (i - 1 + 1) (by omega) (by omega), f2 _ (by omega) (by omega), if_neg (by omega), if_pos (by omega)] at this
                exact Or.inr this.2
            · by_cases e : i = gi μ 95 10 - 1
              · exact Or.inl e
              · have := okk.2 i (by omega) (by omega)
                rw [f1 _ (by omega) (by omega), f1 (i + 1) (by omega) (by omega), f2 _ (by omega) (by omega), if_pos rfl] at this
                exact Or.inr this.1
    · refine ⟨(ki (-1), μ), (ki (-1), μ), ?_, fun _ => rfl, ?_, rfl, h⟩
      · rcases hb with rfl | rfl
        · by_cases c : 0 ≤ i ∧ i ≤ gi μ 95 10 - 2
          · simp (disch := omega) only [f_X11_tune, b_X11_tune_31, b_X11_tune_61, X11_within, krcv (kX.y1 hX), kX.o1_3 hX, kS.gn (kX.now hX), gx, e0, ki_0, ki_1, ki_2, ki_3, ki_4, ki_5, ki_6, ki_7, ki_8, ki_9, ki_10, ki_11, ki_12, ki_13, ki_18, ki_20, ki_24, ki_32, ki_36, ki_45, ki_47, ki_48, ki_50, ki_57, ki_60, ki_63, ki_99, ki_100, ki_101, ki_120, ki_255, ki_468, ki_1000, ki_1024, ki_13849, ki_25173, ki_65535, ki_65536, ki_100000, ki_100001, ki_2147483647, ki_2147483648, kl_0, kl_1, kl_2, kl_9223372036854775808, ki_add, ki_sub, ki_mul, ki_neg, kl_add, kl_sub, kl_mul, kl_neg, ki_i2l, kl_l2i, ki_lt, ki_le, ki_eq, kcmp_eq, kcmp_lt, kcmp_le, kcmp_gt, kcmp_ge, Option.bind_some, Option.map_some, kbool0, kbool1, if_pos, if_neg, if_true, if_false, Int.neg_neg, Int.sub_zero, Int.add_zero, Int.zero_add, true_and, and_true, false_and, and_false, false_or, or_false, true_or, or_true, ne_eq, not_false_eq_true, not_true_eq_false]
          · simp (disch := omega) only [f_X11_tune, b_X11_tune_31, b_X11_tune_61, X11_within, krcv (kX.y1 hX), kX.o1_3 hX, kS.gn (kX.now hX), gx, e0, ki_0, ki_1, ki_2, ki_3, ki_4, ki_5, ki_6, ki_7, ki_8, ki_9, ki_10, ki_11, ki_12, ki_13, ki_18, ki_20, ki_24, ki_32, ki_36, ki_45, ki_47, ki_48, ki_50, ki_57, ki_60, ki_63, ki_99, ki_100, ki_101, ki_120, ki_255, ki_468, ki_1000, ki_1024, ki_13849, ki_25173, ki_65535, ki_65536, ki_100000, ki_100001, ki_2147483647, ki_2147483648, kl_0, kl_1, kl_2, kl_9223372036854775808, ki_add, ki_sub, ki_mul, ki_neg, kl_add, kl_sub, kl_mul, kl_neg, ki_i2l, kl_l2i, ki_lt, ki_le, ki_eq, kcmp_eq, kcmp_lt, kcmp_le, kcmp_gt, kcmp_ge, Option.bind_some, Option.map_some, kbool0, kbool1, if_pos, if_neg, if_true, if_false, Int.neg_neg, Int.sub_zero, Int.add_zero, Int.zero_add, true_and, and_true, false_and, and_false, false_or, or_false, true_or, or_true, ne_eq, not_false_eq_true, not_true_eq_false]
        · by_cases c : 0 ≤ i ∧ i ≤ gi μ 95 10 - 1
          · simp (disch := omega) only [f_X11_tune, b_X11_tune_31, b_X11_tune_61, X11_within, krcv (kX.y1 hX), kX.o1_3 hX, kS.gn (kX.now hX), gx, e0, ki_0, ki_1, ki_2, ki_3, ki_4, ki_5, ki_6, ki_7, ki_8, ki_9, ki_10, ki_11, ki_12, ki_13, ki_18, ki_20, ki_24, ki_32, ki_36, ki_45, ki_47, ki_48, ki_50, ki_57, ki_60, ki_63, ki_99, ki_100, ki_101, ki_120, ki_255, ki_468, ki_1000, ki_1024, ki_13849, ki_25173, ki_65535, ki_65536, ki_100000, ki_100001, ki_2147483647, ki_2147483648, kl_0, kl_1, kl_2, kl_9223372036854775808, ki_add, ki_sub, ki_mul, ki_neg, kl_add, kl_sub, kl_mul, kl_neg, ki_i2l, kl_l2i, ki_lt, ki_le, ki_eq, kcmp_eq, kcmp_lt, kcmp_le, kcmp_gt, kcmp_ge, Option.bind_some, Option.map_some, kbool0, kbool1, if_pos, if_neg, if_true, if_false, Int.neg_neg, Int.sub_zero, Int.add_zero, Int.zero_add, true_and, and_true, false_and, and_false, false_or, or_false, true_or, or_true, ne_eq, not_false_eq_true, not_true_eq_false]
          · simp (disch := omega) only [f_X11_tune, b_X11_tune_31, b_X11_tune_61, X11_within, krcv (kX.y1 hX), kX.o1_3 hX, kS.gn (kX.now hX), gx, e0, ki_0, ki_1, ki_2, ki_3, ki_4, ki_5, ki_6, ki_7, ki_8, ki_9, ki_10, ki_11, ki_12, ki_13, ki_18, ki_20, ki_24, ki_32, ki_36, ki_45, ki_47, ki_48, ki_50, ki_57, ki_60, ki_63, ki_99, ki_100, ki_101, ki_120, ki_255, ki_468, ki_1000, ki_1024, ki_13849, ki_25173, ki_65535, ki_65536, ki_100000, ki_100001, ki_2147483647, ki_2147483648, kl_0, kl_1, kl_2, kl_9223372036854775808, ki_add, ki_sub, ki_mul, ki_neg, kl_add, kl_sub, kl_mul, kl_neg, ki_i2l, kl_l2i, ki_lt, ki_le, ki_eq, kcmp_eq, kcmp_lt, kcmp_le, kcmp_gt, kcmp_ge, Option.bind_some, Option.map_some, kbool0, kbool1, if_pos, if_neg, if_true, if_false, Int.neg_neg, Int.sub_zero, Int.add_zero, Int.zero_add, true_and, and_true, false_and, and_false, false_or, or_false, true_or, or_true, ne_eq, not_false_eq_true, not_true_eq_false]
      · rcases hb with rfl | rfl
        · by_cases c : 0 ≤ i ∧ i ≤ gi μ 95 10 - 2
          · simp (disch := omega) only [f_X12_tune, b_X12_tune_28, b_X12_tune_45, X12_in, g, ki_0, ki_1, ki_2, ki_3, ki_4, ki_5, ki_6, ki_7, ki_8, ki_9, ki_10, ki_11, ki_12, ki_13, ki_18, ki_20, ki_24, ki_32, ki_36, ki_45, ki_47, ki_48, ki_50, ki_57, ki_60, ki_63, ki_99, ki_100, ki_101, ki_120, ki_255, ki_468, ki_1000, ki_1024, ki_13849, ki_25173, ki_65535, ki_65536, ki_100000, ki_100001, ki_2147483647, ki_2147483648, kl_0, kl_1, kl_2, kl_9223372036854775808, ki_add, ki_sub, ki_mul, ki_neg, kl_add, kl_sub, kl_mul, kl_neg, ki_i2l, kl_l2i, ki_lt, ki_le, ki_eq, kcmp_eq, kcmp_lt, kcmp_le, kcmp_gt, kcmp_ge, Option.bind_some, Option.map_some, kbool0, kbool1, if_pos, if_neg, if_true, if_false, Int.neg_neg, Int.sub_zero, Int.add_zero, Int.zero_add, true_and, and_true, false_and, and_false, false_or, or_false, true_or, or_true, ne_eq, not_false_eq_true, not_true_eq_false]
          · simp (disch := omega) only [f_X12_tune, b_X12_tune_28, b_X12_tune_45, X12_in, g, ki_0, ki_1, ki_2, ki_3, ki_4, ki_5, ki_6, ki_7, ki_8, ki_9, ki_10, ki_11, ki_12, ki_13, ki_18, ki_20, ki_24, ki_32, ki_36, ki_45, ki_47, ki_48, ki_50, ki_57, ki_60, ki_63, ki_99, ki_100, ki_101, ki_120, ki_255, ki_468, ki_1000, ki_1024, ki_13849, ki_25173, ki_65535, ki_65536, ki_100000, ki_100001, ki_2147483647, ki_2147483648, kl_0, kl_1, kl_2, kl_9223372036854775808, ki_add, ki_sub, ki_mul, ki_neg, kl_add, kl_sub, kl_mul, kl_neg, ki_i2l, kl_l2i, ki_lt, ki_le, ki_eq, kcmp_eq, kcmp_lt, kcmp_le, kcmp_gt, kcmp_ge, Option.bind_some, Option.map_some, kbool0, kbool1, if_pos, if_neg, if_true, if_false, Int.neg_neg, Int.sub_zero, Int.add_zero, Int.zero_add, true_and, and_true, false_and, and_false, false_or, or_false, true_or, or_true, ne_eq, not_false_eq_true, not_true_eq_false]
        · by_cases c : 0 ≤ i ∧ i ≤ gi μ 95 10 - 1
          · simp (disch := omega) only [f_X12_tune, b_X12_tune_28, b_X12_tune_45, X12_in, g, ki_0, ki_1, ki_2, ki_3, ki_4, ki_5, ki_6, ki_7, ki_8, ki_9, ki_10, ki_11, ki_12, ki_13, ki_18, ki_20, ki_24, ki_32, ki_36, ki_45, ki_47, ki_48, ki_50, ki_57, ki_60, ki_63, ki_99, ki_100, ki_101, ki_120, ki_255, ki_468, ki_1000, ki_1024, ki_13849, ki_25173, ki_65535, ki_65536, ki_100000, ki_100001, ki_2147483647, ki_2147483648, kl_0, kl_1, kl_2, kl_9223372036854775808, ki_add, ki_sub, ki_mul, ki_neg, kl_add, kl_sub, kl_mul, kl_neg, ki_i2l, kl_l2i, ki_lt, ki_le, ki_eq, kcmp_eq, kcmp_lt, kcmp_le, kcmp_gt, kcmp_ge, Option.bind_some, Option.map_some, kbool0, kbool1, if_pos, if_neg, if_true, if_false, Int.neg_neg, Int.sub_zero, Int.add_zero, Int.zero_add, true_and, and_true, false_and, and_false, false_or, or_false, true_or, or_true, ne_eq, not_false_eq_true, not_true_eq_false]
          · simp (disch := omega) only [f_X12_tune, b_X12_tune_28, b_X12_tune_45, X12_in, g, ki_0, ki_1, ki_2, ki_3, ki_4, ki_5, ki_6, ki_7, ki_8, ki_9, ki_10, ki_11, ki_12, ki_13, ki_18, ki_20, ki_24, ki_32, ki_36, ki_45, ki_47, ki_48, ki_50, ki_57, ki_60, ki_63, ki_99, ki_100, ki_101, ki_120, ki_255, ki_468, ki_1000, ki_1024, ki_13849, ki_25173, ki_65535, ki_65536, ki_100000, ki_100001, ki_2147483647, ki_2147483648, kl_0, kl_1, kl_2, kl_9223372036854775808, ki_add, ki_sub, ki_mul, ki_neg, kl_add, kl_sub, kl_mul, kl_neg, ki_i2l, kl_l2i, ki_lt, ki_le, ki_eq, kcmp_eq, kcmp_lt, kcmp_le, kcmp_gt, kcmp_ge, Option.bind_some, Option.map_some, kbool0, kbool1, if_pos, if_neg, if_true, if_false, Int.neg_neg, Int.sub_zero, Int.add_zero, Int.zero_add, true_and, and_true, false_and, and_false, false_or, or_false, true_or, or_true, ne_eq, not_false_eq_true, not_true_eq_false]
