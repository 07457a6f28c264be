/-! THE REFERENCE's roots -/
set_option maxRecDepth 4000 in
theorem X12_rootOf {Y : jY} {μ : jM} (hM : kM Y μ) {d fr k i q : Int} (hd1 : 0 ≤ d) (hd2 : d ≤ 3) (hB : kMb μ d) (h0 : 0 ≤ fr) (hk : 1 ≤ k) (hr : fr + k ≤ gi μ 108 d) (hi1 : 0 ≤ i) (hi2 : i < k) (hq1 : 1 ≤ q) (hq2 : q ≤ 50) :
    f_X12_rootOf Y 95 (ki d) (ki fr) (ki k) (ki i) (ki q) μ = some (ki (rt (mA μ d) (mC μ d) q fr k.toNat i), μ) ∧ -(18 * q) - 1 ≤ rt (mA μ d) (mC μ d) q fr k.toNat i ∧ rt (mA μ d) (mC μ d) q fr k.toNat i ≤ 18 * q := by
  have hb5 := hB.2.1
  have hA := hB.A (fr := fr) (n := k.toNat) h0 (by omega)
  have hC := hB.C (fr := fr) (n := k.toNat) h0 (by omega)
  have hC1 : ∀ x, fr ≤ x → x < fr + (k.toNat : Int) - 1 → 1 ≤ mC μ d x := fun x a b => (hC x a b).1
  have mono : ∀ a b, a ≤ b → (rb (mA μ d) (mC μ d) a q fr k.toNat).1 ≤ (rb (mA μ d) (mC μ d) b q fr k.toNat).1 := fun a b h => rb_mono (by omega) h hC1
  have n1 := (rb_near (A := mA μ d) (C := mC μ d) (p := -20 * q) (q := q) (fr := fr) (k := k.toNat) (by omega) (by omega) hA hC).1
  have n2 := (rb_far (A := mA μ d) (C := mC μ d) (p := 20 * q + 1) (q := q) (fr := fr) (k := k.toNat) (by omega) (by omega) hA hC).1
  have n3 := (rb_near (A := mA μ d) (C := mC μ d) (p := -(18 * q)) (q := q) (fr := fr) (k := k.toNat) (by omega) (by omega) hA hC).1
  have n4 := (rb_far (A := mA μ d) (C := mC μ d) (p := 18 * q) (q := q) (fr := fr) (k := k.toNat) (by omega) (by omega) hA hC).1
  have main : ∃ r, f_X12_rootOf Y 95 (ki d) (ki fr) (ki k) (ki i) (ki q) μ = some r ∧ (∃ t, r = (ki t, μ) ∧ isRt (mA μ d) (mC μ d) q fr k.toNat i t) := by
    unfold f_X12_rootOf
    refine jit_inv (fun j s => ∃ lo hi : Int, s = (ki lo, ki hi, μ) ∧ -20 * q ≤ lo ∧ lo ≤ hi ∧ hi ≤ 20 * q ∧ (rb (mA μ d) (mC μ d) lo q fr k.toNat).1 ≤ i ∧ i < (rb (mA μ d) (mC μ d) (hi + 1) q fr k.toNat).1 ∧ hi - lo + j ≤ 2000) _ 2001 ⟨-20 * q, 20 * q, ?_, by omega, by omega, by omega, by omega, by omega, by omega⟩ (by omega) (fun j s _ hs => ?_)
    · simp only [ki_0, ki_1, ki_2, ki_3, ki_4, ki_5, ki_6, ki_7, ki_8, ki_9, ki_10, ki_11, ki_12, ki_13, ki_18, ki_20, ki_24, ki_32, ki_36, ki_45, ki_47, ki_48, ki_50, ki_57, ki_60, ki_63, ki_99, ki_100, ki_101, ki_120, ki_255, ki_468, ki_1000, ki_1024, ki_13849, ki_25173, ki_65535, ki_65536, ki_100000, ki_100001, ki_2147483647, ki_2147483648, kl_0, kl_1, kl_2, kl_9223372036854775808, ki_add, ki_sub, ki_mul, ki_neg, kl_add, kl_sub, kl_mul, kl_neg, ki_i2l, kl_l2i]
    · obtain ⟨lo, hi, rfl, g1, g2, g3, g4, g5, g6⟩ := hs
      by_cases hlt : hi ≤ lo
      · have e : hi = lo := by omega
        subst e
        refine ⟨.inr (ki hi, μ), ?_, hi, rfl, g4, g5⟩
        simp (disch := omega) only [b_X12_rootOf_64, b_X12_rootOf_14, ki_0, ki_1, ki_2, ki_3, ki_4, ki_5, ki_6, ki_7, ki_8, ki_9, ki_10, ki_11, ki_12, ki_13, ki_18, ki_20, ki_24, ki_32, ki_36, ki_45, ki_47, ki_48, ki_50, ki_57, ki_60, ki_63, ki_99, ki_100, ki_101, ki_120, ki_255, ki_468, ki_1000, ki_1024, ki_13849, ki_25173, ki_65535, ki_65536, ki_100000, ki_100001, ki_2147483647, ki_2147483648, kl_0, kl_1, kl_2, kl_9223372036854775808, ki_add, ki_sub, ki_mul, ki_neg, kl_add, kl_sub, kl_mul, kl_neg, ki_i2l, kl_l2i, ki_lt, ki_le, ki_eq, kcmp_eq, kcmp_lt, kcmp_le, kcmp_gt, kcmp_ge, Option.bind_some, Option.map_some, kbool0, kbool1, if_pos, if_neg, if_true, if_false, Int.neg_neg, Int.sub_zero, Int.add_zero, Int.zero_add, true_and, and_true, false_and, and_false, false_or, or_false, true_or, or_true, ne_eq, not_false_eq_true, not_true_eq_false]
      · have e := X12_belowOf hM (d := d) (fr := fr) (k := k) (p := lo + (hi - lo + 1) / 2) (q := q) hd1 hd2 hB h0 (by omega) hr (by omega) (by omega) (by omega) hq2
        obtain ⟨r1, r2⟩ := rb_rng (mA μ d) (mC μ d) (lo + (hi - lo + 1) / 2) q fr k.toNat
        have g7 := g4
        generalize ht : lo + (hi - lo + 1) / 2 = t at *
        have ht2 : lo + (hi - lo + 1) / 2 = t := ht
        by_cases hn : i < (rb (mA μ d) (mC μ d) t q fr k.toNat).1
        · refine ⟨.inl (ki lo, ki (t - 1), μ), ?_, by omega, lo, t - 1, rfl, g1, by omega, by omega, g4, ?_, by omega⟩
          · generalize (rb (mA μ d) (mC μ d) t q fr k.toNat).1 = nt at *
            simp (disch := omega) only [b_X12_rootOf_64, b_X12_rootOf_14, kdiv, ht, e, krcv (kM.y hM), kM.o26 hM, kM.o27 hM, kM.o28 hM, kaI (kM.a108 hM), kaI (kM.a109 hM), kaI (kM.a110 hM), ki_0, ki_1, ki_2, ki_3, ki_4, ki_5, ki_6, ki_7, ki_8, ki_9, ki_10, ki_11, ki_12, ki_13, ki_18, ki_20, ki_24, ki_32, ki_36, ki_45, ki_47, ki_48, ki_50, ki_57, ki_60, ki_63, ki_99, ki_100, ki_101, ki_120, ki_255, ki_468, ki_1000, ki_1024, ki_13849, ki_25173, ki_65535, ki_65536, ki_100000, ki_100001, ki_2147483647, ki_2147483648, kl_0, kl_1, kl_2, kl_9223372036854775808, ki_add, ki_sub, ki_mul, ki_neg, kl_add, kl_sub, kl_mul, kl_neg, ki_i2l, kl_l2i, ki_lt, ki_le, ki_eq, kcmp_eq, kcmp_lt, kcmp_le, kcmp_gt, kcmp_ge, Option.bind_some, Option.map_some, kbool0, kbool1, if_pos, if_neg, if_true, if_false, Int.neg_neg, Int.sub_zero, Int.add_zero, Int.zero_add, true_and, and_true, false_and, and_false, false_or, or_false, true_or, or_true, ne_eq, not_false_eq_true, not_true_eq_false]
          · rw [show t - 1 + 1 = t from by omega]; exact hn
        · refine ⟨.inl (ki t, ki hi, μ), ?_, by omega, t, hi, rfl, by omega, by omega, g3, by omega, g5, by omega⟩
          generalize (rb (mA μ d) (mC μ d) t q fr k.toNat).1 = nt at *
          simp (disch := omega) only [b_X12_rootOf_64, b_X12_rootOf_14, kdiv, ht, e, krcv (kM.y hM), kM.o26 hM, kM.o27 hM, kM.o28 hM, kaI (kM.a108 hM), kaI (kM.a109 hM), kaI (kM.a110 hM), ki_0, ki_1, ki_2, ki_3, ki_4, ki_5, ki_6, ki_7, ki_8, ki_9, ki_10, ki_11, ki_12, ki_13, ki_18, ki_20, ki_24, ki_32, ki_36, ki_45, ki_47, ki_48, ki_50, ki_57, ki_60, ki_63, ki_99, ki_100, ki_101, ki_120, ki_255, ki_468, ki_1000, ki_1024, ki_13849, ki_25173, ki_65535, ki_65536, ki_100000, ki_100001, ki_2147483647, ki_2147483648, kl_0, kl_1, kl_2, kl_9223372036854775808, ki_add, ki_sub, ki_mul, ki_neg, kl_add, kl_sub, kl_mul, kl_neg, ki_i2l, kl_l2i, ki_lt, ki_le, ki_eq, kcmp_eq, kcmp_lt, kcmp_le, kcmp_gt, kcmp_ge, Option.bind_some, Option.map_some, kbool0, kbool1, if_pos, if_neg, if_true, if_false, Int.neg_neg, Int.sub_zero, Int.add_zero, Int.zero_add, true_and, and_true, false_and, and_false, false_or, or_false, true_or, or_true, ne_eq, not_false_eq_true, not_true_eq_false]
  obtain ⟨r, e, t, rfl, t3⟩ := main
  have := rt_eq (by omega) hC1 t3
  rw [this]
  refine ⟨e, ?_, ?_⟩
  · obtain ⟨t4, t5⟩ := t3
    by_cases h : t + 1 ≤ -(18 * q)
    · have := mono _ _ h; omega
    · omega
  · obtain ⟨t4, t5⟩ := t3
    by_cases h : 18 * q ≤ t
    · have := mono _ _ h; omega
    · omega
theorem X12_wholeOf {Y : jY} {μ : jM} (hM : kM Y μ) {d fr k : Int} (hd1 : 0 ≤ d) (hd2 : d ≤ 3) (hB : kMb μ d) (h0 : 0 ≤ fr) (hk : 0 ≤ k) (hr : fr + k ≤ gi μ 108 d) : f_X12_wholeOf Y 95 (ki d) (ki fr) (ki k) μ = some (ki (zc (mA μ d) (mC μ d) fr k.toNat 41), μ) := by
  have hb5 := hB.2.1
  unfold f_X12_wholeOf
  refine jit_run (fun i => (ki (zc (mA μ d) (mC μ d) fr k.toNat i), ki (-20 + i), μ)) _ 41 rfl (by omega) (fun i hi => ?_) ?_
  · have e := X12_valueAt hM (d := d) (fr := fr) (k := k) (x := -20 + i) hd1 hd2 h0 hk (by omega)
    obtain ⟨v1, v2⟩ := pv_rng (A := mA μ d) (C := mC μ d) (p := -20 + i) (q := 1) (fr := fr) (n := k.toNat) (hB.A h0 (by omega)) (hB.C h0 (by omega)) (by omega) (by omega) (by omega) (by omega) (by omega) (i := k.toNat) (by omega)
    obtain ⟨z1, z2⟩ := zc_rng (mA μ d) (mC μ d) fr k.toNat i
    rw [zc_succ]
    generalize (pv (mA μ d) (mC μ d) (-20 + i) 1 fr k.toNat).2 = w at *
    generalize zc (mA μ d) (mC μ d) fr k.toNat i = z at *
    by_cases h : w = 0
    · rw [if_pos h]
      simp (disch := omega) only [b_X12_wholeOf_36, b_X12_wholeOf_7, e, krcv (kM.y hM), kM.o26 hM, kM.o27 hM, kM.o28 hM, kaI (kM.a108 hM), kaI (kM.a109 hM), kaI (kM.a110 hM), ki_0, ki_1, ki_2, ki_3, ki_4, ki_5, ki_6, ki_7, ki_8, ki_9, ki_10, ki_11, ki_12, ki_13, ki_18, ki_20, ki_24, ki_32, ki_36, ki_45, ki_47, ki_48, ki_50, ki_57, ki_60, ki_63, ki_99, ki_100, ki_101, ki_120, ki_255, ki_468, ki_1000, ki_1024, ki_13849, ki_25173, ki_65535, ki_65536, ki_100000, ki_100001, ki_2147483647, ki_2147483648, kl_0, kl_1, kl_2, kl_9223372036854775808, ki_add, ki_sub, ki_mul, ki_neg, kl_add, kl_sub, kl_mul, kl_neg, ki_i2l, kl_l2i, ki_lt, ki_le, ki_eq, kcmp_eq, kcmp_lt, kcmp_le, kcmp_gt, kcmp_ge, Option.bind_some, Option.map_some, kbool0, kbool1, if_pos, if_neg, if_true, if_false, Int.neg_neg, Int.sub_zero, Int.add_zero, Int.zero_add, true_and, and_true, false_and, and_false, false_or, or_false, true_or, or_true, ne_eq, not_false_eq_true, not_true_eq_false, Int.natCast_add, Int.natCast_one, Int.add_assoc]
    · rw [if_neg h]
      simp (disch := omega) only [b_X12_wholeOf_36, b_X12_wholeOf_7, e, krcv (kM.y hM), kM.o26 hM, kM.o27 hM, kM.o28 hM, kaI (kM.a108 hM), kaI (kM.a109 hM), kaI (kM.a110 hM), ki_0, ki_1, ki_2, ki_3, ki_4, ki_5, ki_6, ki_7, ki_8, ki_9, ki_10, ki_11, ki_12, ki_13, ki_18, ki_20, ki_24, ki_32, ki_36, ki_45, ki_47, ki_48, ki_50, ki_57, ki_60, ki_63, ki_99, ki_100, ki_101, ki_120, ki_255, ki_468, ki_1000, ki_1024, ki_13849, ki_25173, ki_65535, ki_65536, ki_100000, ki_100001, ki_2147483647, ki_2147483648, kl_0, kl_1, kl_2, kl_9223372036854775808, ki_add, ki_sub, ki_mul, ki_neg, kl_add, kl_sub, kl_mul, kl_neg, ki_i2l, kl_l2i, ki_lt, ki_le, ki_eq, kcmp_eq, kcmp_lt, kcmp_le, kcmp_gt, kcmp_ge, Option.bind_some, Option.map_some, kbool0, kbool1, if_pos, if_neg, if_true, if_false, Int.neg_neg, Int.sub_zero, Int.add_zero, Int.zero_add, true_and, and_true, false_and, and_false, false_or, or_false, true_or, or_true, ne_eq, not_false_eq_true, not_true_eq_false, Int.natCast_add, Int.natCast_one, Int.add_assoc]
  · simp (disch := omega) only [b_X12_wholeOf_36, b_X12_wholeOf_7, ki_0, ki_1, ki_2, ki_3, ki_4, ki_5, ki_6, ki_7, ki_8, ki_9, ki_10, ki_11, ki_12, ki_13, ki_18, ki_20, ki_24, ki_32, ki_36, ki_45, ki_47, ki_48, ki_50, ki_57, ki_60, ki_63, ki_99, ki_100, ki_101, ki_120, ki_255, ki_468, ki_1000, ki_1024, ki_13849, ki_25173, ki_65535, ki_65536, ki_100000, ki_100001, ki_2147483647, ki_2147483648, kl_0, kl_1, kl_2, kl_9223372036854775808, ki_add, ki_sub, ki_mul, ki_neg, kl_add, kl_sub, kl_mul, kl_neg, ki_i2l, kl_l2i, ki_lt, ki_le, ki_eq, kcmp_eq, kcmp_lt, kcmp_le, kcmp_gt, kcmp_ge, Option.bind_some, Option.map_some, kbool0, kbool1, if_pos, if_neg, if_true, if_false, Int.neg_neg, Int.sub_zero, Int.add_zero, Int.zero_add, true_and, and_true, false_and, and_false, false_or, or_false, true_or, or_true, ne_eq, not_false_eq_true, not_true_eq_false]
set_option maxRecDepth 4000 in
theorem X12_isRival {Y : jY} {μ : jM} (hM : kM Y μ) {d w : Int} (hd1 : 0 ≤ d) (hd2 : d ≤ 3) (hB : kMb μ d) (hw : 0 ≤ w) (hw2 : w ≤ 2) : f_X12_isRival Y 95 (ki d) (ki w) μ = some (ki (if (w = 0 ∧ zc (mA μ d) (mC μ d) 0 (gi μ 108 d).toNat 41 = gi μ 108 d) ∨ (w = 1 ∧ (pv (mA μ d) (mC μ d) 0 1 0 (gi μ 108 d).toNat).2 = 0) ∨ (w = 2 ∧ (rb (mA μ d) (mC μ d) 0 1 0 (gi μ 108 d).toNat).1 = 0) then 1 else 0), μ) := by
  have hb0 := hB.1
  have hb5 := hB.2.1
  have e1 := X12_wholeOf hM (d := d) (fr := 0) (k := gi μ 108 d) hd1 hd2 hB (by omega) hb0 (by omega)
  have e2 := X12_valueAt hM (d := d) (fr := 0) (k := gi μ 108 d) (x := 0) hd1 hd2 (by omega) hb0 (by omega)
  have e3 := X12_belowOf hM (d := d) (fr := 0) (k := gi μ 108 d) (p := 0) (q := 1) hd1 hd2 hB (by omega) hb0 (by omega) (by omega) (by omega) (by omega) (by omega)
  obtain ⟨v1, v2⟩ := pv_rng (A := mA μ d) (C := mC μ d) (p := 0) (q := 1) (fr := 0) (n := (gi μ 108 d).toNat) (hB.A (Int.le_refl 0) (by omega)) (hB.C (Int.le_refl 0) (by omega)) (by omega) (by omega) (by omega) (by omega) (by omega) (i := (gi μ 108 d).toNat) (by omega)
  obtain ⟨r1, r2⟩ := rb_rng (mA μ d) (mC μ d) 0 1 0 (gi μ 108 d).toNat
  obtain ⟨z1, z2⟩ := zc_rng (mA μ d) (mC μ d) 0 (gi μ 108 d).toNat 41
  generalize (pv (mA μ d) (mC μ d) 0 1 0 (gi μ 108 d).toNat).2 = v at *
  generalize (rb (mA μ d) (mC μ d) 0 1 0 (gi μ 108 d).toNat).1 = r at *
  generalize zc (mA μ d) (mC μ d) 0 (gi μ 108 d).toNat 41 = z at *
  rcases (by omega : w = 0 ∨ w = 1 ∨ w = 2) with rfl | rfl | rfl
  · by_cases g : z = gi μ 108 d
    · rw [if_pos (Or.inl ⟨rfl, g⟩)]
      simp (disch := omega) only [f_X12_isRival, b_X12_isRival_73, e1, krcv (kM.y hM), kM.o26 hM, kM.o27 hM, kM.o28 hM, kaI (kM.a108 hM), kaI (kM.a109 hM), kaI (kM.a110 hM), ki_0, ki_1, ki_2, ki_3, ki_4, ki_5, ki_6, ki_7, ki_8, ki_9, ki_10, ki_11, ki_12, ki_13, ki_18, ki_20, ki_24, ki_32, ki_36, ki_45, ki_47, ki_48, ki_50, ki_57, ki_60, ki_63, ki_99, ki_100, ki_101, ki_120, ki_255, ki_468, ki_1000, ki_1024, ki_13849, ki_25173, ki_65535, ki_65536, ki_100000, ki_100001, ki_2147483647, ki_2147483648, kl_0, kl_1, kl_2, kl_9223372036854775808, ki_add, ki_sub, ki_mul, ki_neg, kl_add, kl_sub, kl_mul, kl_neg, ki_i2l, kl_l2i, ki_lt, ki_le, ki_eq, kcmp_eq, kcmp_lt, kcmp_le, kcmp_gt, kcmp_ge, Option.bind_some, Option.map_some, kbool0, kbool1, if_pos, if_neg, if_true, if_false, Int.neg_neg, Int.sub_zero, Int.add_zero, Int.zero_add, true_and, and_true, false_and, and_false, false_or, or_false, true_or, or_true, ne_eq, not_false_eq_true, not_true_eq_false]
    · rw [if_neg (by omega)]
      simp (disch := omega) only [f_X12_isRival, b_X12_isRival_73, e1, krcv (kM.y hM), kM.o26 hM, kM.o27 hM, kM.o28 hM, kaI (kM.a108 hM), kaI (kM.a109 hM), kaI (kM.a110 hM), ki_0, ki_1, ki_2, ki_3, ki_4, ki_5, ki_6, ki_7, ki_8, ki_9, ki_10, ki_11, ki_12, ki_13, ki_18, ki_20, ki_24, ki_32, ki_36, ki_45, ki_47, ki_48, ki_50, ki_57, ki_60, ki_63, ki_99, ki_100, ki_101, ki_120, ki_255, ki_468, ki_1000, ki_1024, ki_13849, ki_25173, ki_65535, ki_65536, ki_100000, ki_100001, ki_2147483647, ki_2147483648, kl_0, kl_1, kl_2, kl_9223372036854775808, ki_add, ki_sub, ki_mul, ki_neg, kl_add, kl_sub, kl_mul, kl_neg, ki_i2l, kl_l2i, ki_lt, ki_le, ki_eq, kcmp_eq, kcmp_lt, kcmp_le, kcmp_gt, kcmp_ge, Option.bind_some, Option.map_some, kbool0, kbool1, if_pos, if_neg, if_true, if_false, Int.neg_neg, Int.sub_zero, Int.add_zero, Int.zero_add, true_and, and_true, false_and, and_false, false_or, or_false, true_or, or_true, ne_eq, not_false_eq_true, not_true_eq_false]
  · by_cases g : v = 0
    · rw [if_pos (by omega)]
      simp (disch := omega) only [f_X12_isRival, b_X12_isRival_73, e2, krcv (kM.y hM), kM.o26 hM, kM.o27 hM, kM.o28 hM, kaI (kM.a108 hM), kaI (kM.a109 hM), kaI (kM.a110 hM), ki_0, ki_1, ki_2, ki_3, ki_4, ki_5, ki_6, ki_7, ki_8, ki_9, ki_10, ki_11, ki_12, ki_13, ki_18, ki_20, ki_24, ki_32, ki_36, ki_45, ki_47, ki_48, ki_50, ki_57, ki_60, ki_63, ki_99, ki_100, ki_101, ki_120, ki_255, ki_468, ki_1000, ki_1024, ki_13849, ki_25173, ki_65535, ki_65536, ki_100000, ki_100001, ki_2147483647, ki_2147483648, kl_0, kl_1, kl_2, kl_9223372036854775808, ki_add, ki_sub, ki_mul, ki_neg, kl_add, kl_sub, kl_mul, kl_neg, ki_i2l, kl_l2i, ki_lt, ki_le, ki_eq, kcmp_eq, kcmp_lt, kcmp_le, kcmp_gt, kcmp_ge, Option.bind_some, Option.map_some, kbool0, kbool1, if_pos, if_neg, if_true, if_false, Int.neg_neg, Int.sub_zero, Int.add_zero, Int.zero_add, true_and, and_true, false_and, and_false, false_or, or_false, true_or, or_true, ne_eq, not_false_eq_true, not_true_eq_false]
    · rw [if_neg (by omega)]
      simp (disch := omega) only [f_X12_isRival, b_X12_isRival_73, e2, krcv (kM.y hM), kM.o26 hM, kM.o27 hM, kM.o28 hM, kaI (kM.a108 hM), kaI (kM.a109 hM), kaI (kM.a110 hM), ki_0, ki_1, ki_2, ki_3, ki_4, ki_5, ki_6, ki_7, ki_8, ki_9, ki_10, ki_11, ki_12, ki_13, ki_18, ki_20, ki_24, ki_32, ki_36, ki_45, ki_47, ki_48, ki_50, ki_57, ki_60, ki_63, ki_99, ki_100, ki_101, ki_120, ki_255, ki_468, ki_1000, ki_1024, ki_13849, ki_25173, ki_65535, ki_65536, ki_100000, ki_100001, ki_2147483647, ki_2147483648, kl_0, kl_1, kl_2, kl_9223372036854775808, ki_add, ki_sub, ki_mul, ki_neg, kl_add, kl_sub, kl_mul, kl_neg, ki_i2l, kl_l2i, ki_lt, ki_le, ki_eq, kcmp_eq, kcmp_lt, kcmp_le, kcmp_gt, kcmp_ge, Option.bind_some, Option.map_some, kbool0, kbool1, if_pos, if_neg, if_true, if_false, Int.neg_neg, Int.sub_zero, Int.add_zero, Int.zero_add, true_and, and_true, false_and, and_false, false_or, or_false, true_or, or_true, ne_eq, not_false_eq_true, not_true_eq_false]
  · by_cases g : r = 0
    · rw [if_pos (by omega)]
      simp (disch := omega) only [f_X12_isRival, b_X12_isRival_73, e3, krcv (kM.y hM), kM.o26 hM, kM.o27 hM, kM.o28 hM, kaI (kM.a108 hM), kaI (kM.a109 hM), kaI (kM.a110 hM), ki_0, ki_1, ki_2, ki_3, ki_4, ki_5, ki_6, ki_7, ki_8, ki_9, ki_10, ki_11, ki_12, ki_13, ki_18, ki_20, ki_24, ki_32, ki_36, ki_45, ki_47, ki_48, ki_50, ki_57, ki_60, ki_63, ki_99, ki_100, ki_101, ki_120, ki_255, ki_468, ki_1000, ki_1024, ki_13849, ki_25173, ki_65535, ki_65536, ki_100000, ki_100001, ki_2147483647, ki_2147483648, kl_0, kl_1, kl_2, kl_9223372036854775808, ki_add, ki_sub, ki_mul, ki_neg, kl_add, kl_sub, kl_mul, kl_neg, ki_i2l, kl_l2i, ki_lt, ki_le, ki_eq, kcmp_eq, kcmp_lt, kcmp_le, kcmp_gt, kcmp_ge, Option.bind_some, Option.map_some, kbool0, kbool1, if_pos, if_neg, if_true, if_false, Int.neg_neg, Int.sub_zero, Int.add_zero, Int.zero_add, true_and, and_true, false_and, and_false, false_or, or_false, true_or, or_true, ne_eq, not_false_eq_true, not_true_eq_false]
    · rw [if_neg (by omega)]
      simp (disch := omega) only [f_X12_isRival, b_X12_isRival_73, e3, krcv (kM.y hM), kM.o26 hM, kM.o27 hM, kM.o28 hM, kaI (kM.a108 hM), kaI (kM.a109 hM), kaI (kM.a110 hM), ki_0, ki_1, ki_2, ki_3, ki_4, ki_5, ki_6, ki_7, ki_8, ki_9, ki_10, ki_11, ki_12, ki_13, ki_18, ki_20, ki_24, ki_32, ki_36, ki_45, ki_47, ki_48, ki_50, ki_57, ki_60, ki_63, ki_99, ki_100, ki_101, ki_120, ki_255, ki_468, ki_1000, ki_1024, ki_13849, ki_25173, ki_65535, ki_65536, ki_100000, ki_100001, ki_2147483647, ki_2147483648, kl_0, kl_1, kl_2, kl_9223372036854775808, ki_add, ki_sub, ki_mul, ki_neg, kl_add, kl_sub, kl_mul, kl_neg, ki_i2l, kl_l2i, ki_lt, ki_le, ki_eq, kcmp_eq, kcmp_lt, kcmp_le, kcmp_gt, kcmp_ge, Option.bind_some, Option.map_some, kbool0, kbool1, if_pos, if_neg, if_true, if_false, Int.neg_neg, Int.sub_zero, Int.add_zero, Int.zero_add, true_and, and_true, false_and, and_false, false_or, or_false, true_or, or_true, ne_eq, not_false_eq_true, not_true_eq_false]
