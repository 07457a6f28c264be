/-! THE REFERENCE's tables: polynomials, signs, roots -/
theorem pv_congr {A C A2 C2 : Int → Int} {p q fr : Int} {n : Nat} (hA : ∀ x, fr ≤ x → x < fr + n → A x = A2 x) (hC : ∀ x, fr ≤ x → x < fr + n - 1 → C x = C2 x) : ∀ i : Nat, i ≤ n → pv A C p q fr i = pv A2 C2 p q fr i := by
  intro i
  induction i with
  | zero => intro _; rfl
  | succ i ih =>
    intro hi
    have ih := ih (by omega)
    simp only [pv]
    rw [ih, hA (fr + i) (by omega) (by omega)]
    by_cases h : i = 0
    · subst h
      simp [pv]
    · rw [hC (fr + i - 1) (by omega) (by omega)]
theorem rb_congr {A C A2 C2 : Int → Int} {p q fr : Int} {n : Nat} (hA : ∀ x, fr ≤ x → x < fr + n → A x = A2 x) (hC : ∀ x, fr ≤ x → x < fr + n - 1 → C x = C2 x) : ∀ i : Nat, i ≤ n → rb A C p q fr i = rb A2 C2 p q fr i := by
  intro i
  induction i with
  | zero => intro _; rfl
  | succ i ih =>
    intro hi
    have ih := ih (by omega)
    have e := pv_congr (p := p) (q := q) hA hC (i + 1) hi
    simp only [rb]
    rw [ih, e]
theorem rt_congr {A C A2 C2 : Int → Int} {q fr i : Int} {n : Nat} (hA : ∀ x, fr ≤ x → x < fr + n → A x = A2 x) (hC : ∀ x, fr ≤ x → x < fr + n - 1 → C x = C2 x) : rt A C q fr n i = rt A2 C2 q fr n i := by
  have e : isRt A C q fr n i = isRt A2 C2 q fr n i := by
    funext t
    unfold isRt
    rw [rb_congr (p := t) hA hC n (Nat.le_refl n), rb_congr (p := t + 1) hA hC n (Nat.le_refl n)]
  unfold rt
  rw [e]
theorem zc_congr {A C A2 C2 : Int → Int} {fr : Int} {n : Nat} (hA : ∀ x, fr ≤ x → x < fr + n → A x = A2 x) (hC : ∀ x, fr ≤ x → x < fr + n - 1 → C x = C2 x) : ∀ j : Nat, zc A C fr n j = zc A2 C2 fr n j := by
  intro j
  induction j with
  | zero => rfl
  | succ j ih => rw [zc_succ, zc_succ, ih, pv_congr hA hC n (Nat.le_refl n)]
theorem X12_in {Y : jY} {μ : jM} {x a b : Int} (h1 : -2147483648 ≤ x) (h2 : x ≤ 2147483647) (h3 : -2147483648 ≤ a) (h4 : a ≤ 2147483647) (h5 : -2147483648 ≤ b) (h6 : b ≤ 2147483647) : f_X12_in Y (ki x) (ki a) (ki b) μ = some (ki (if a ≤ x ∧ x ≤ b then 1 else 0), μ) := by
  by_cases g1 : x < a
  · simp (disch := omega) only [f_X12_in, b_X12_in_15, b_X12_in_14, ki_0, ki_1, ki_2, ki_3, ki_4, ki_5, ki_6, ki_7, ki_8, ki_9, ki_10, ki_11, ki_12, ki_13, ki_18, ki_20, ki_24, ki_32, ki_36, ki_45, ki_47, ki_48, ki_50, ki_57, ki_60, ki_63, ki_99, ki_100, ki_101, ki_120, ki_255, ki_468, ki_1000, ki_1024, ki_13849, ki_25173, ki_65535, ki_65536, ki_100000, ki_100001, ki_2147483647, ki_2147483648, kl_0, kl_1, kl_2, kl_9223372036854775808, ki_add, ki_sub, ki_mul, ki_neg, kl_add, kl_sub, kl_mul, kl_neg, ki_i2l, kl_l2i, ki_lt, ki_le, ki_eq, kcmp_eq, kcmp_lt, kcmp_le, kcmp_gt, kcmp_ge, Option.bind_some, Option.map_some, kbool0, kbool1, if_pos, if_neg, if_true, if_false, Int.neg_neg, Int.sub_zero, Int.add_zero, Int.zero_add, true_and, and_true, false_and, and_false, false_or, or_false, true_or, or_true, ne_eq, not_false_eq_true, not_true_eq_false]
  · by_cases g2 : b < x
    · simp (disch := omega) only [f_X12_in, b_X12_in_15, b_X12_in_14, ki_0, ki_1, ki_2, ki_3, ki_4, ki_5, ki_6, ki_7, ki_8, ki_9, ki_10, ki_11, ki_12, ki_13, ki_18, ki_20, ki_24, ki_32, ki_36, ki_45, ki_47, ki_48, ki_50, ki_57, ki_60, ki_63, ki_99, ki_100, ki_101, ki_120, ki_255, ki_468, ki_1000, ki_1024, ki_13849, ki_25173, ki_65535, ki_65536, ki_100000, ki_100001, ki_2147483647, ki_2147483648, kl_0, kl_1, kl_2, kl_9223372036854775808, ki_add, ki_sub, ki_mul, ki_neg, kl_add, kl_sub, kl_mul, kl_neg, ki_i2l, kl_l2i, ki_lt, ki_le, ki_eq, kcmp_eq, kcmp_lt, kcmp_le, kcmp_gt, kcmp_ge, Option.bind_some, Option.map_some, kbool0, kbool1, if_pos, if_neg, if_true, if_false, Int.neg_neg, Int.sub_zero, Int.add_zero, Int.zero_add, true_and, and_true, false_and, and_false, false_or, or_false, true_or, or_true, ne_eq, not_false_eq_true, not_true_eq_false]
    · simp (disch := omega) only [f_X12_in, b_X12_in_15, b_X12_in_14, ki_0, ki_1, ki_2, ki_3, ki_4, ki_5, ki_6, ki_7, ki_8, ki_9, ki_10, ki_11, ki_12, ki_13, ki_18, ki_20, ki_24, ki_32, ki_36, ki_45, ki_47, ki_48, ki_50, ki_57, ki_60, ki_63, ki_99, ki_100, ki_101, ki_120, ki_255, ki_468, ki_1000, ki_1024, ki_13849, ki_25173, ki_65535, ki_65536, ki_100000, ki_100001, ki_2147483647, ki_2147483648, kl_0, kl_1, kl_2, kl_9223372036854775808, ki_add, ki_sub, ki_mul, ki_neg, kl_add, kl_sub, kl_mul, kl_neg, ki_i2l, kl_l2i, ki_lt, ki_le, ki_eq, kcmp_eq, kcmp_lt, kcmp_le, kcmp_gt, kcmp_ge, Option.bind_some, Option.map_some, kbool0, kbool1, if_pos, if_neg, if_true, if_false, Int.neg_neg, Int.sub_zero, Int.add_zero, Int.zero_add, true_and, and_true, false_and, and_false, false_or, or_false, true_or, or_true, ne_eq, not_false_eq_true, not_true_eq_false]
theorem X12_isDrawer {Y : jY} {μ : jM} {x : Int} (h1 : -2147483648 ≤ x) (h2 : x ≤ 2147483647) : f_X12_isDrawer Y (ki x) μ = some (ki (if 0 ≤ x ∧ x ≤ 3 then 1 else 0), μ) := by
  by_cases g : 0 ≤ x ∧ x ≤ 3
  · simp (disch := omega) only [f_X12_isDrawer, X12_in, ki_0, ki_1, ki_2, ki_3, ki_4, ki_5, ki_6, ki_7, ki_8, ki_9, ki_10, ki_11, ki_12, ki_13, ki_18, ki_20, ki_24, ki_32, ki_36, ki_45, ki_47, ki_48, ki_50, ki_57, ki_60, ki_63, ki_99, ki_100, ki_101, ki_120, ki_255, ki_468, ki_1000, ki_1024, ki_13849, ki_25173, ki_65535, ki_65536, ki_100000, ki_100001, ki_2147483647, ki_2147483648, kl_0, kl_1, kl_2, kl_9223372036854775808, ki_add, ki_sub, ki_mul, ki_neg, kl_add, kl_sub, kl_mul, kl_neg, ki_i2l, kl_l2i, ki_lt, ki_le, ki_eq, kcmp_eq, kcmp_lt, kcmp_le, kcmp_gt, kcmp_ge, Option.bind_some, Option.map_some, kbool0, kbool1, if_pos, if_neg, if_true, if_false, Int.neg_neg, Int.sub_zero, Int.add_zero, Int.zero_add, true_and, and_true, false_and, and_false, false_or, or_false, true_or, or_true, ne_eq, not_false_eq_true, not_true_eq_false]
  · simp (disch := omega) only [f_X12_isDrawer, X12_in, ki_0, ki_1, ki_2, ki_3, ki_4, ki_5, ki_6, ki_7, ki_8, ki_9, ki_10, ki_11, ki_12, ki_13, ki_18, ki_20, ki_24, ki_32, ki_36, ki_45, ki_47, ki_48, ki_50, ki_57, ki_60, ki_63, ki_99, ki_100, ki_101, ki_120, ki_255, ki_468, ki_1000, ki_1024, ki_13849, ki_25173, ki_65535, ki_65536, ki_100000, ki_100001, ki_2147483647, ki_2147483648, kl_0, kl_1, kl_2, kl_9223372036854775808, ki_add, ki_sub, ki_mul, ki_neg, kl_add, kl_sub, kl_mul, kl_neg, ki_i2l, kl_l2i, ki_lt, ki_le, ki_eq, kcmp_eq, kcmp_lt, kcmp_le, kcmp_gt, kcmp_ge, Option.bind_some, Option.map_some, kbool0, kbool1, if_pos, if_neg, if_true, if_false, Int.neg_neg, Int.sub_zero, Int.add_zero, Int.zero_add, true_and, and_true, false_and, and_false, false_or, or_false, true_or, or_true, ne_eq, not_false_eq_true, not_true_eq_false]
def mA (μ : jM) (d : Int) : Int → Int := fun x => gi μ 109 (5 * d + x)
def mC (μ : jM) (d : Int) : Int → Int := fun x => gi μ 110 (5 * d + x)
theorem X12_a {Y : jY} {μ : jM} (hM : kM Y μ) {d i : Int} (h1 : 0 ≤ d) (h2 : d ≤ 3) (h3 : 0 ≤ i) (h4 : i < 5) : f_X12_a Y 95 (ki d) (ki i) μ = some (ki (mA μ d i), μ) := by
  unfold mA
  simp (disch := omega) only [f_X12_a, krcv (kM.y hM), kM.o26 hM, kM.o27 hM, kM.o28 hM, kaI (kM.a108 hM), kaI (kM.a109 hM), kaI (kM.a110 hM), ki_0, ki_1, ki_2, ki_3, ki_4, ki_5, ki_6, ki_7, ki_8, ki_9, ki_10, ki_11, ki_12, ki_13, ki_18, ki_20, ki_24, ki_32, ki_36, ki_45, ki_47, ki_48, ki_50, ki_57, ki_60, ki_63, ki_99, ki_100, ki_101, ki_120, ki_255, ki_468, ki_1000, ki_1024, ki_13849, ki_25173, ki_65535, ki_65536, ki_100000, ki_100001, ki_2147483647, ki_2147483648, kl_0, kl_1, kl_2, kl_9223372036854775808, ki_add, ki_sub, ki_mul, ki_neg, kl_add, kl_sub, kl_mul, kl_neg, ki_i2l, kl_l2i, ki_lt, ki_le, ki_eq, kcmp_eq, kcmp_lt, kcmp_le, kcmp_gt, kcmp_ge, Option.bind_some, Option.map_some, kbool0, kbool1, if_pos, if_neg, if_true, if_false, Int.neg_neg, Int.sub_zero, Int.add_zero, Int.zero_add, true_and, and_true, false_and, and_false, false_or, or_false, true_or, or_true, ne_eq, not_false_eq_true, not_true_eq_false]
theorem X12_c {Y : jY} {μ : jM} (hM : kM Y μ) {d i : Int} (h1 : 0 ≤ d) (h2 : d ≤ 3) (h3 : 0 ≤ i) (h4 : i < 5) : f_X12_c Y 95 (ki d) (ki i) μ = some (ki (mC μ d i), μ) := by
  unfold mC
  simp (disch := omega) only [f_X12_c, krcv (kM.y hM), kM.o26 hM, kM.o27 hM, kM.o28 hM, kaI (kM.a108 hM), kaI (kM.a109 hM), kaI (kM.a110 hM), ki_0, ki_1, ki_2, ki_3, ki_4, ki_5, ki_6, ki_7, ki_8, ki_9, ki_10, ki_11, ki_12, ki_13, ki_18, ki_20, ki_24, ki_32, ki_36, ki_45, ki_47, ki_48, ki_50, ki_57, ki_60, ki_63, ki_99, ki_100, ki_101, ki_120, ki_255, ki_468, ki_1000, ki_1024, ki_13849, ki_25173, ki_65535, ki_65536, ki_100000, ki_100001, ki_2147483647, ki_2147483648, kl_0, kl_1, kl_2, kl_9223372036854775808, ki_add, ki_sub, ki_mul, ki_neg, kl_add, kl_sub, kl_mul, kl_neg, ki_i2l, kl_l2i, ki_lt, ki_le, ki_eq, kcmp_eq, kcmp_lt, kcmp_le, kcmp_gt, kcmp_ge, Option.bind_some, Option.map_some, kbool0, kbool1, if_pos, if_neg, if_true, if_false, Int.neg_neg, Int.sub_zero, Int.add_zero, Int.zero_add, true_and, and_true, false_and, and_false, false_or, or_false, true_or, or_true, ne_eq, not_false_eq_true, not_true_eq_false]
theorem mA_lo (μ : jM) (d x : Int) : -2147483648 ≤ mA μ d x := gi_lo _ _ _
theorem mA_hi (μ : jM) (d x : Int) : mA μ d x ≤ 2147483647 := gi_hi _ _ _
theorem mC_lo (μ : jM) (d x : Int) : -2147483648 ≤ mC μ d x := gi_lo _ _ _
theorem mC_hi (μ : jM) (d x : Int) : mC μ d x ≤ 2147483647 := gi_hi _ _ _
/-- what stands in the reference's table d -/
def kMb (μ : jM) (d : Int) : Prop := 0 ≤ gi μ 108 d ∧ gi μ 108 d ≤ 5 ∧ (∀ x : Int, 0 ≤ x → x < gi μ 108 d → -6 ≤ mA μ d x ∧ mA μ d x ≤ 6) ∧ ∀ x : Int, 0 ≤ x → x < gi μ 108 d - 1 → 1 ≤ mC μ d x ∧ mC μ d x ≤ 36
theorem kMb.A {μ : jM} {d : Int} (h : kMb μ d) {fr : Int} {n : Nat} (h0 : 0 ≤ fr) (h1 : fr + n ≤ gi μ 108 d) : ∀ x, fr ≤ x → x < fr + n → -6 ≤ mA μ d x ∧ mA μ d x ≤ 6 := fun x a b => h.2.2.1 x (by omega) (by omega)
theorem kMb.C {μ : jM} {d : Int} (h : kMb μ d) {fr : Int} {n : Nat} (h0 : 0 ≤ fr) (h1 : fr + n ≤ gi μ 108 d) : ∀ x, fr ≤ x → x < fr + n - 1 → 1 ≤ mC μ d x ∧ mC μ d x ≤ 36 := fun x a b => h.2.2.2 x (by omega) (by omega)
set_option maxRecDepth 4000 in
theorem X12_valueAt {Y : jY} {μ : jM} (hM : kM Y μ) {d fr k x : Int} (hd1 : 0 ≤ d) (hd2 : d ≤ 3) (h0 : 0 ≤ fr) (hk : 0 ≤ k) (hr : fr + k ≤ 5) : f_X12_valueAt Y 95 (ki d) (ki fr) (ki k) (kl x) μ = some (kl (pv (mA μ d) (mC μ d) x 1 fr k.toNat).2, μ) := by
  unfold f_X12_valueAt
  refine jit_run (fun i => (kl (pv (mA μ d) (mC μ d) x 1 fr i).2, kl (pv (mA μ d) (mC μ d) x 1 fr i).1, ki i, μ)) _ k.toNat rfl (by omega) (fun i hi => ?_) ?_
  · have a1 := mA_lo μ d (fr + i)
    have a2 := mA_hi μ d (fr + i)
    have c1 := mC_lo μ d (fr + i - 1)
    have c2 := mC_hi μ d (fr + i - 1)
    have b1 := mA_lo μ d fr
    have b2 := mA_hi μ d fr
    by_cases hz : i = 0
    · subst hz
      simp (disch := omega) only [b_X12_valueAt_55, b_X12_valueAt_9, X12_a hM, X12_c hM, krcv (kM.y hM), kM.o26 hM, kM.o27 hM, kM.o28 hM, kaI (kM.a108 hM), kaI (kM.a109 hM), kaI (kM.a110 hM), ki_0, ki_1, ki_2, ki_3, ki_4, ki_5, ki_6, ki_7, ki_8, ki_9, ki_10, ki_11, ki_12, ki_13, ki_18, ki_20, ki_24, ki_32, ki_36, ki_45, ki_47, ki_48, ki_50, ki_57, ki_60, ki_63, ki_99, ki_100, ki_101, ki_120, ki_255, ki_468, ki_1000, ki_1024, ki_13849, ki_25173, ki_65535, ki_65536, ki_100000, ki_100001, ki_2147483647, ki_2147483648, kl_0, kl_1, kl_2, kl_9223372036854775808, ki_add, ki_sub, ki_mul, ki_neg, kl_add, kl_sub, kl_mul, kl_neg, ki_i2l, kl_l2i, ki_lt, ki_le, ki_eq, kcmp_eq, kcmp_lt, kcmp_le, kcmp_gt, kcmp_ge, Option.bind_some, Option.map_some, kbool0, kbool1, if_pos, if_neg, if_true, if_false, Int.neg_neg, Int.sub_zero, Int.add_zero, Int.zero_add, true_and, and_true, false_and, and_false, false_or, or_false, true_or, or_true, ne_eq, not_false_eq_true, not_true_eq_false, pv, Int.natCast_zero, Int.one_mul, Int.mul_zero]
      simp
    · simp (disch := omega) only [b_X12_valueAt_55, b_X12_valueAt_9, X12_a hM, X12_c hM, krcv (kM.y hM), kM.o26 hM, kM.o27 hM, kM.o28 hM, kaI (kM.a108 hM), kaI (kM.a109 hM), kaI (kM.a110 hM), ki_0, ki_1, ki_2, ki_3, ki_4, ki_5, ki_6, ki_7, ki_8, ki_9, ki_10, ki_11, ki_12, ki_13, ki_18, ki_20, ki_24, ki_32, ki_36, ki_45, ki_47, ki_48, ki_50, ki_57, ki_60, ki_63, ki_99, ki_100, ki_101, ki_120, ki_255, ki_468, ki_1000, ki_1024, ki_13849, ki_25173, ki_65535, ki_65536, ki_100000, ki_100001, ki_2147483647, ki_2147483648, kl_0, kl_1, kl_2, kl_9223372036854775808, ki_add, ki_sub, ki_mul, ki_neg, kl_add, kl_sub, kl_mul, kl_neg, ki_i2l, kl_l2i, ki_lt, ki_le, ki_eq, kcmp_eq, kcmp_lt, kcmp_le, kcmp_gt, kcmp_ge, Option.bind_some, Option.map_some, kbool0, kbool1, if_pos, if_neg, if_true, if_false, Int.neg_neg, Int.sub_zero, Int.add_zero, Int.zero_add, true_and, and_true, false_and, and_false, false_or, or_false, true_or, or_true, ne_eq, not_false_eq_true, not_true_eq_false, pv, Int.natCast_add, Int.natCast_one, Int.one_mul]
  · simp (disch := omega) only [b_X12_valueAt_55, b_X12_valueAt_9, ki_0, ki_1, ki_2, ki_3, ki_4, ki_5, ki_6, ki_7, ki_8, ki_9, ki_10, ki_11, ki_12, ki_13, ki_18, ki_20, ki_24, ki_32, ki_36, ki_45, ki_47, ki_48, ki_50, ki_57, ki_60, ki_63, ki_99, ki_100, ki_101, ki_120, ki_255, ki_468, ki_1000, ki_1024, ki_13849, ki_25173, ki_65535, ki_65536, ki_100000, ki_100001, ki_2147483647, ki_2147483648, kl_0, kl_1, kl_2, kl_9223372036854775808, ki_add, ki_sub, ki_mul, ki_neg, kl_add, kl_sub, kl_mul, kl_neg, ki_i2l, kl_l2i, ki_lt, ki_le, ki_eq, kcmp_eq, kcmp_lt, kcmp_le, kcmp_gt, kcmp_ge, Option.bind_some, Option.map_some, kbool0, kbool1, if_pos, if_neg, if_true, if_false, Int.neg_neg, Int.sub_zero, Int.add_zero, Int.zero_add, true_and, and_true, false_and, and_false, false_or, or_false, true_or, or_true, ne_eq, not_false_eq_true, not_true_eq_false]
set_option maxRecDepth 4000 in
theorem X12_belowOf {Y : jY} {μ : jM} (hM : kM Y μ) {d fr k p q : Int} (hd1 : 0 ≤ d) (hd2 : d ≤ 3) (hB : kMb μ d) (h0 : 0 ≤ fr) (hk : 0 ≤ k) (hr : fr + k ≤ gi μ 108 d) (hp1 : -3000 ≤ p) (hp2 : p ≤ 3000) (hq1 : 0 ≤ q) (hq2 : q ≤ 50) :
    f_X12_belowOf Y 95 (ki d) (ki fr) (ki k) (ki p) (ki q) μ = some (ki (rb (mA μ d) (mC μ d) p q fr k.toNat).1, μ) := by
  have hb5 := hB.2.1
  unfold f_X12_belowOf
  refine jit_run (fun i => (kl (pv (mA μ d) (mC μ d) p q fr i).2, kl (pv (mA μ d) (mC μ d) p q fr i).1, ki (rb (mA μ d) (mC μ d) p q fr i).2, ki (rb (mA μ d) (mC μ d) p q fr i).1, ki i, μ)) _ k.toNat rfl (by omega) (fun i hi => ?_) ?_
  · have a1 := mA_lo μ d (fr + i)
    have a2 := mA_hi μ d (fr + i)
    have c1 := mC_lo μ d (fr + i - 1)
    have c2 := mC_hi μ d (fr + i - 1)
    obtain ⟨v1, v2⟩ := pv_rng (A := mA μ d) (C := mC μ d) (p := p) (q := q) (fr := fr) (n := k.toNat) (hB.A h0 (by omega)) (hB.C h0 (by omega)) hp1 hp2 hq1 hq2 (by omega) (i := i + 1) (by omega)
    have ev : (p - mA μ d (fr + i) * q) * (pv (mA μ d) (mC μ d) p q fr i).2 - mC μ d (fr + i - 1) * q * q * (pv (mA μ d) (mC μ d) p q fr i).1 = (pv (mA μ d) (mC μ d) p q fr (i + 1)).2 := by
      simp only [pv]
      grind
    have ew : (pv (mA μ d) (mC μ d) p q fr (i + 1)).1 = (pv (mA μ d) (mC μ d) p q fr i).2 := rfl
    have ez : i = 0 → (pv (mA μ d) (mC μ d) p q fr i).1 = 0 := fun h => by subst h; rfl
    obtain ⟨r1, r2⟩ := rb_rng (mA μ d) (mC μ d) p q fr i
    have r3 := rb_two (mA μ d) (mC μ d) p q fr i
    simp only [rb, ew, Int.natCast_add, Int.natCast_one]
    generalize (pv (mA μ d) (mC μ d) p q fr (i + 1)).2 = w at *
    generalize (pv (mA μ d) (mC μ d) p q fr i).2 = w1 at *
    generalize (pv (mA μ d) (mC μ d) p q fr i).1 = w0 at *
    generalize (rb (mA μ d) (mC μ d) p q fr i).2 = s at *
    generalize (rb (mA μ d) (mC μ d) p q fr i).1 = n at *
    by_cases hz : i = 0
    · have ev2 : (p - mA μ d (fr + i) * q) * w1 - 0 = w := by
        rw [← ev, ez hz]
        simp
      rcases r3 with rfl | rfl <;> rcases Int.lt_trichotomy w 0 with hw | hw | hw <;>
        simp (disch := omega) only [b_X12_belowOf_125, b_X12_belowOf_109, b_X12_belowOf_74, b_X12_belowOf_15, X12_a hM, X12_c hM, krcv (kM.y hM), kM.o26 hM, kM.o27 hM, kM.o28 hM, kaI (kM.a108 hM), kaI (kM.a109 hM), kaI (kM.a110 hM), ki_0, ki_1, ki_2, ki_3, ki_4, ki_5, ki_6, ki_7, ki_8, ki_9, ki_10, ki_11, ki_12, ki_13, ki_18, ki_20, ki_24, ki_32, ki_36, ki_45, ki_47, ki_48, ki_50, ki_57, ki_60, ki_63, ki_99, ki_100, ki_101, ki_120, ki_255, ki_468, ki_1000, ki_1024, ki_13849, ki_25173, ki_65535, ki_65536, ki_100000, ki_100001, ki_2147483647, ki_2147483648, kl_0, kl_1, kl_2, kl_9223372036854775808, ki_add, ki_sub, ki_mul, ki_neg, kl_add, kl_sub, kl_mul, kl_neg, ki_i2l, kl_l2i, Option.bind_some, Option.map_some, kbool0, kbool1, if_pos, if_neg, ki_le, ki_lt, ev2] <;>
        simp (disch := omega) only [ki_0, ki_1, ki_2, ki_3, ki_4, ki_5, ki_6, ki_7, ki_8, ki_9, ki_10, ki_11, ki_12, ki_13, ki_18, ki_20, ki_24, ki_32, ki_36, ki_45, ki_47, ki_48, ki_50, ki_57, ki_60, ki_63, ki_99, ki_100, ki_101, ki_120, ki_255, ki_468, ki_1000, ki_1024, ki_13849, ki_25173, ki_65535, ki_65536, ki_100000, ki_100001, ki_2147483647, ki_2147483648, kl_0, kl_1, kl_2, kl_9223372036854775808, ki_add, ki_sub, ki_mul, ki_neg, kl_add, kl_sub, kl_mul, kl_neg, ki_i2l, kl_l2i, ki_lt, ki_le, ki_eq, kcmp_eq, kcmp_lt, kcmp_le, kcmp_gt, kcmp_ge, Option.bind_some, Option.map_some, kbool0, kbool1, if_pos, if_neg, if_true, if_false, Int.neg_neg, Int.sub_zero, Int.add_zero, Int.zero_add, true_and, and_true, false_and, and_false, false_or, or_false, true_or, or_true, ne_eq, not_false_eq_true, not_true_eq_false] <;> rfl
    · rcases r3 with rfl | rfl <;> rcases Int.lt_trichotomy w 0 with hw | hw | hw <;>
        simp (disch := omega) only [b_X12_belowOf_125, b_X12_belowOf_109, b_X12_belowOf_74, b_X12_belowOf_15, X12_a hM, X12_c hM, krcv (kM.y hM), kM.o26 hM, kM.o27 hM, kM.o28 hM, kaI (kM.a108 hM), kaI (kM.a109 hM), kaI (kM.a110 hM), ki_0, ki_1, ki_2, ki_3, ki_4, ki_5, ki_6, ki_7, ki_8, ki_9, ki_10, ki_11, ki_12, ki_13, ki_18, ki_20, ki_24, ki_32, ki_36, ki_45, ki_47, ki_48, ki_50, ki_57, ki_60, ki_63, ki_99, ki_100, ki_101, ki_120, ki_255, ki_468, ki_1000, ki_1024, ki_13849, ki_25173, ki_65535, ki_65536, ki_100000, ki_100001, ki_2147483647, ki_2147483648, kl_0, kl_1, kl_2, kl_9223372036854775808, ki_add, ki_sub, ki_mul, ki_neg, kl_add, kl_sub, kl_mul, kl_neg, ki_i2l, kl_l2i, Option.bind_some, Option.map_some, kbool0, kbool1, if_pos, if_neg, ki_le, ki_lt, ev] <;>
        simp (disch := omega) only [ki_0, ki_1, ki_2, ki_3, ki_4, ki_5, ki_6, ki_7, ki_8, ki_9, ki_10, ki_11, ki_12, ki_13, ki_18, ki_20, ki_24, ki_32, ki_36, ki_45, ki_47, ki_48, ki_50, ki_57, ki_60, ki_63, ki_99, ki_100, ki_101, ki_120, ki_255, ki_468, ki_1000, ki_1024, ki_13849, ki_25173, ki_65535, ki_65536, ki_100000, ki_100001, ki_2147483647, ki_2147483648, kl_0, kl_1, kl_2, kl_9223372036854775808, ki_add, ki_sub, ki_mul, ki_neg, kl_add, kl_sub, kl_mul, kl_neg, ki_i2l, kl_l2i, ki_lt, ki_le, ki_eq, kcmp_eq, kcmp_lt, kcmp_le, kcmp_gt, kcmp_ge, Option.bind_some, Option.map_some, kbool0, kbool1, if_pos, if_neg, if_true, if_false, Int.neg_neg, Int.sub_zero, Int.add_zero, Int.zero_add, true_and, and_true, false_and, and_false, false_or, or_false, true_or, or_true, ne_eq, not_false_eq_true, not_true_eq_false] <;> rfl
  · simp (disch := omega) only [b_X12_belowOf_125, b_X12_belowOf_109, b_X12_belowOf_74, b_X12_belowOf_15, ki_0, ki_1, ki_2, ki_3, ki_4, ki_5, ki_6, ki_7, ki_8, ki_9, ki_10, ki_11, ki_12, ki_13, ki_18, ki_20, ki_24, ki_32, ki_36, ki_45, ki_47, ki_48, ki_50, ki_57, ki_60, ki_63, ki_99, ki_100, ki_101, ki_120, ki_255, ki_468, ki_1000, ki_1024, ki_13849, ki_25173, ki_65535, ki_65536, ki_100000, ki_100001, ki_2147483647, ki_2147483648, kl_0, kl_1, kl_2, kl_9223372036854775808, ki_add, ki_sub, ki_mul, ki_neg, kl_add, kl_sub, kl_mul, kl_neg, ki_i2l, kl_l2i, ki_lt, ki_le, ki_eq, kcmp_eq, kcmp_lt, kcmp_le, kcmp_gt, kcmp_ge, Option.bind_some, Option.map_some, kbool0, kbool1, if_pos, if_neg, if_true, if_false, Int.neg_neg, Int.sub_zero, Int.add_zero, Int.zero_add, true_and, and_true, false_and, and_false, false_or, or_false, true_or, or_true, ne_eq, not_false_eq_true, not_true_eq_false]
