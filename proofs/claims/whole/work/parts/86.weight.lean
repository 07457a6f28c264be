/-! FRACTIONS: setting; OPS: weight -/
theorem kgLv {Y : jY} {μ : jM} {o ci k : Nat} {v : Int64} (hY : (Y o).1 = ci) (h : μ o k = .long v) : jgL Y μ o ci k = some v := by
  unfold jgL
  rw [if_pos hY, h]
  rfl
def fset (t b : Int) : Int × Int := if b = 0 then (0, 1) else if 0 ≤ b then (t.tdiv (cd t b), b.tdiv (cd t b)) else (-(t.tdiv (cd t b)), -(b.tdiv (cd t b)))
def frw (μ : jM) (o : Nat) (p : Int × Int) : jM := jw (jw μ o 0 (.long (kl p.1))) o 1 (.long (kl p.2))
theorem frw_0 {μ : jM} {o : Nat} {p : Int × Int} : frw μ o p o 0 = .long (kl p.1) := by
  unfold frw
  rw [jw_ne _ _ (by omega), jw_same]
theorem frw_1 {μ : jM} {o : Nat} {p : Int × Int} : frw μ o p o 1 = .long (kl p.2) := jw_same _ _ _ _
theorem frw_ne {μ : jM} {o i : Nat} {p : Int × Int} (h : i ≠ o) : frw μ o p i = μ i := by
  unfold frw
  rw [jw_cell h, jw_cell h]
theorem frw_kF {Y : jY} {μ : jM} {o : Nat} {p : Int × Int} (h : kFr Y μ o) : kF o (o + 1) μ (frw μ o p) := by
  have k1 : kF o (o + 1) μ (jw μ o 0 (.long (kl p.1))) := kF_L h.2.2.1 (by omega) (by omega)
  exact k1.trans (kF_L (k1.L h.2.2.2) (by omega) (by omega))
theorem cd_ne (a b : Int) : (cd a b : Int) ≠ 0 := by
  unfold cd
  omega
theorem cd_ok {a b : Int} (ha : okb a) (hb : okb b) : okb (cd a b) := by
  unfold okb at ha hb
  have gb : Nat.gcd a.natAbs b.natAbs ≤ 4611686018427387904 := by
    by_cases z : a.natAbs = 0
    · rw [z, Nat.gcd_zero_left]; omega
    · have := Nat.gcd_le_left b.natAbs (show 0 < a.natAbs by omega)
      omega
  unfold okb cd
  omega
theorem X1_set {Y : jY} {μ : jM} {o : Nat} (h : kFr Y μ o) {t b : Int} (ht : okb t) (hb : okb b) : f_X1_set Y o (kl t) (kl b) μ = some (frw μ o (fset t b)) := by
  have pr := fun (μ2 : jM) (k : Nat) (v : Value) => kput (μ := μ2) (k := k) (v := v) h.1 h.2.1
  have hb' := hb
  unfold okb at hb'
  unfold fset
  by_cases b0 : b = 0
  · rw [if_pos b0]
    simp (disch := omega) only [f_X1_set, pr, ki_0, ki_1, ki_2, ki_3, ki_4, ki_5, ki_6, ki_7, ki_8, ki_9, ki_10, ki_11, ki_12, ki_13, ki_18, ki_20, ki_24, ki_32, ki_36, ki_45, ki_47, ki_48, ki_50, ki_57, ki_60, ki_63, ki_99, ki_100, ki_101, ki_120, ki_255, ki_468, ki_1000, ki_1024, ki_13849, ki_25173, ki_65535, ki_65536, ki_100000, ki_100001, ki_2147483647, ki_2147483648, kl_0, kl_1, kl_2, kl_9223372036854775808, ki_add, ki_sub, ki_mul, ki_neg, kl_add, kl_sub, kl_mul, kl_neg, ki_i2l, kl_l2i, ki_lt, ki_le, ki_eq, kcmp_eq, kcmp_lt, kcmp_le, kcmp_gt, kcmp_ge, Option.bind_some, Option.map_some, kbool0, kbool1, if_pos, if_neg, if_true, if_false, Int.neg_neg, Int.sub_zero, Int.add_zero, Int.zero_add, true_and, and_true, false_and, and_false, false_or, or_false, true_or, or_true, ne_eq, not_false_eq_true, not_true_eq_false, frw]
  · rw [if_neg b0]
    have c := X1_commonDivisor (Y := Y) (μ := μ) ht hb
    have d1 := kdivL ht (cd_ok ht hb) (cd_ne t b)
    have d2 := kdivL hb (cd_ok ht hb) (cd_ne t b)
    generalize (cd t b : Int) = g at *
    by_cases bp : 0 ≤ b
    · rw [if_pos bp]
      simp (disch := omega) only [f_X1_set, b_X1_set_37, pr, c, d1, d2, ki_0, ki_1, ki_2, ki_3, ki_4, ki_5, ki_6, ki_7, ki_8, ki_9, ki_10, ki_11, ki_12, ki_13, ki_18, ki_20, ki_24, ki_32, ki_36, ki_45, ki_47, ki_48, ki_50, ki_57, ki_60, ki_63, ki_99, ki_100, ki_101, ki_120, ki_255, ki_468, ki_1000, ki_1024, ki_13849, ki_25173, ki_65535, ki_65536, ki_100000, ki_100001, ki_2147483647, ki_2147483648, kl_0, kl_1, kl_2, kl_9223372036854775808, ki_add, ki_sub, ki_mul, ki_neg, kl_add, kl_sub, kl_mul, kl_neg, ki_i2l, kl_l2i, ki_lt, ki_le, ki_eq, kcmp_eq, kcmp_lt, kcmp_le, kcmp_gt, kcmp_ge, Option.bind_some, Option.map_some, kbool0, kbool1, if_pos, if_neg, if_true, if_false, Int.neg_neg, Int.sub_zero, Int.add_zero, Int.zero_add, true_and, and_true, false_and, and_false, false_or, or_false, true_or, or_true, ne_eq, not_false_eq_true, not_true_eq_false, Int.one_mul, frw]
    · rw [if_neg bp]
      simp (disch := omega) only [f_X1_set, b_X1_set_37, pr, c, d1, d2, ki_0, ki_1, ki_2, ki_3, ki_4, ki_5, ki_6, ki_7, ki_8, ki_9, ki_10, ki_11, ki_12, ki_13, ki_18, ki_20, ki_24, ki_32, ki_36, ki_45, ki_47, ki_48, ki_50, ki_57, ki_60, ki_63, ki_99, ki_100, ki_101, ki_120, ki_255, ki_468, ki_1000, ki_1024, ki_13849, ki_25173, ki_65535, ki_65536, ki_100000, ki_100001, ki_2147483647, ki_2147483648, kl_0, kl_1, kl_2, kl_9223372036854775808, ki_add, ki_sub, ki_mul, ki_neg, kl_add, kl_sub, kl_mul, kl_neg, ki_i2l, kl_l2i, ki_lt, ki_le, ki_eq, kcmp_eq, kcmp_lt, kcmp_le, kcmp_gt, kcmp_ge, Option.bind_some, Option.map_some, kbool0, kbool1, if_pos, if_neg, if_true, if_false, Int.neg_neg, Int.sub_zero, Int.add_zero, Int.zero_add, true_and, and_true, false_and, and_false, false_or, or_false, true_or, or_true, ne_eq, not_false_eq_true, not_true_eq_false, Int.neg_mul, Int.one_mul, frw]
/-- the reference's fraction: its two fields, all else as it was -/
def frm (μ ν : jM) (p : Int × Int) : Prop := kF 95 96 μ ν ∧ (∀ j, j ≠ 16 → j ≠ 17 → ν 95 j = μ 95 j) ∧ ν 95 16 = .long (kl p.1) ∧ ν 95 17 = .long (kl p.2)
theorem frm.kP {μ ν : jM} {p : Int × Int} (h : frm μ ν p) : kP μ ν := ⟨h.1.mono (by omega) (by omega), fun i hi => h.1.1 i (by unfold pers at hi; omega), h.2.1 1 (by omega) (by omega), h.2.1 10 (by omega) (by omega), h.2.1 25 (by omega) (by omega)⟩
theorem kM.l16 {Y : jY} {μ : jM} (h : kM Y μ) : isL μ 95 16 := h.2.2.1.1
theorem kM.l17 {Y : jY} {μ : jM} (h : kM Y μ) : isL μ 95 17 := h.2.2.1.2
theorem X12_reduces {Y : jY} {μ : jM} (hM : kM Y μ) {t b : Int} (h16 : μ 95 16 = .long (kl t)) (h17 : μ 95 17 = .long (kl b)) (ht : okb t) (hb : okb b) (b0 : b ≠ 0) : ∃ ν, f_X12_reduces Y 95 μ = some ν ∧ frm μ ν (fset t b) := by
  have g16 := kgLv (k := 16) hM.y h16
  have g17 := kgLv (k := 17) hM.y h17
  have c := X12_common (Y := Y) (μ := μ) ht hb
  have hb' := hb
  unfold okb at hb'
  have e : (Nat.gcd t.natAbs b.natAbs : Int) = cd t b := by
    unfold cd
    have := Nat.gcd_pos_of_pos_right t.natAbs (n := b.natAbs) (by omega)
    omega
  rw [e] at c
  have go := cd_ok ht hb
  have g0 := cd_ne t b
  unfold fset
  rw [if_neg b0]
  generalize (cd t b : Int) = g at *
  have fin : ∀ s : Int, okb s → s ≠ 0 → ∃ ν, b_X12_reduces_27 Y 95 (kl s) μ = some ν ∧ frm μ ν (t.tdiv s, b.tdiv s) := fun s hs s0 => by
    have d1 := kdivL ht hs s0
    have d2 := kdivL hb hs s0
    have k1 : kF 95 96 μ (jw μ 95 16 (.long (kl (t.tdiv s)))) := kF_L hM.l16 (by omega) (by omega)
    have hM1 := hM.to k1
    have g17' : jgL Y (jw μ 95 16 (.long (kl (t.tdiv s)))) 95 12 17 = some (kl b) := kgLv (k := 17) hM.y (by rw [jw_ne _ _ (by omega)]; exact h17)
    refine ⟨jw (jw μ 95 16 (.long (kl (t.tdiv s)))) 95 17 (.long (kl (b.tdiv s))), ?_, k1.trans (kF_L hM1.l17 (by omega) (by omega)), fun j p q => ?_, ?_, jw_same _ _ _ _⟩
    · simp only [b_X12_reduces_27, g16, kM.p hM, g17', d1, d2, Option.bind_some]
    · rw [jw_ne _ _ (by omega), jw_ne _ _ (by omega)]
    · rw [jw_ne _ _ (by omega), jw_same]
  by_cases bp : 0 ≤ b
  · rw [if_pos bp]
    obtain ⟨ν, f1, f2⟩ := fin g go g0
    refine ⟨ν, ?_, f2⟩
    simp (disch := omega) only [f_X12_reduces, g16, g17, c, ki_0, ki_1, ki_2, ki_3, ki_4, ki_5, ki_6, ki_7, ki_8, ki_9, ki_10, ki_11, ki_12, ki_13, ki_18, ki_20, ki_24, ki_32, ki_36, ki_45, ki_47, ki_48, ki_50, ki_57, ki_60, ki_63, ki_99, ki_100, ki_101, ki_120, ki_255, ki_468, ki_1000, ki_1024, ki_13849, ki_25173, ki_65535, ki_65536, ki_100000, ki_100001, ki_2147483647, ki_2147483648, kl_0, kl_1, kl_2, kl_9223372036854775808, ki_add, ki_sub, ki_mul, ki_neg, kl_add, kl_sub, kl_mul, kl_neg, ki_i2l, kl_l2i, ki_lt, ki_le, ki_eq, kcmp_eq, kcmp_lt, kcmp_le, kcmp_gt, kcmp_ge, Option.bind_some, Option.map_some, kbool0, kbool1, if_pos, if_neg, if_true, if_false, Int.neg_neg, Int.sub_zero, Int.add_zero, Int.zero_add, true_and, and_true, false_and, and_false, false_or, or_false, true_or, or_true, ne_eq, not_false_eq_true, not_true_eq_false]
    exact f1
  · rw [if_neg bp]
    have go' : okb (-g) := by unfold okb at *; omega
    obtain ⟨ν, f1, f2⟩ := fin (-g) go' (by omega)
    rw [Int.tdiv_neg, Int.tdiv_neg] at f2
    refine ⟨ν, ?_, f2⟩
    simp (disch := omega) only [f_X12_reduces, g16, g17, c, ki_0, ki_1, ki_2, ki_3, ki_4, ki_5, ki_6, ki_7, ki_8, ki_9, ki_10, ki_11, ki_12, ki_13, ki_18, ki_20, ki_24, ki_32, ki_36, ki_45, ki_47, ki_48, ki_50, ki_57, ki_60, ki_63, ki_99, ki_100, ki_101, ki_120, ki_255, ki_468, ki_1000, ki_1024, ki_13849, ki_25173, ki_65535, ki_65536, ki_100000, ki_100001, ki_2147483647, ki_2147483648, kl_0, kl_1, kl_2, kl_9223372036854775808, ki_add, ki_sub, ki_mul, ki_neg, kl_add, kl_sub, kl_mul, kl_neg, ki_i2l, kl_l2i, ki_lt, ki_le, ki_eq, kcmp_eq, kcmp_lt, kcmp_le, kcmp_gt, kcmp_ge, Option.bind_some, Option.map_some, kbool0, kbool1, if_pos, if_neg, if_true, if_false, Int.neg_neg, Int.sub_zero, Int.add_zero, Int.zero_add, true_and, and_true, false_and, and_false, false_or, or_false, true_or, or_true, ne_eq, not_false_eq_true, not_true_eq_false]
    exact f1
theorem X12_sets {Y : jY} {μ : jM} (hM : kM Y μ) {t b : Int} (ht : okb t) (hb : okb b) (b0 : b ≠ 0) : ∃ ν, f_X12_sets Y 95 (kl t) (kl b) μ = some ν ∧ frm μ ν (fset t b) := by
  have k1 : kF 95 96 μ (jw μ 95 16 (.long (kl t))) := kF_L hM.l16 (by omega) (by omega)
  have hM1 := hM.to k1
  have k2 : kF 95 96 (jw μ 95 16 (.long (kl t))) (jw (jw μ 95 16 (.long (kl t))) 95 17 (.long (kl b))) := kF_L hM1.l17 (by omega) (by omega)
  obtain ⟨ν, f1, f2, f3, f4⟩ := X12_reduces (hM1.to k2) (t := t) (b := b) (by rw [jw_ne _ _ (by omega), jw_same]) (jw_same _ _ _ _) ht hb b0
  refine ⟨ν, ?_, (k1.trans k2).trans f2, fun j p q => ?_, f4⟩
  · simp only [f_X12_sets, kM.p hM, Option.bind_some, krcv (kM.y hM), f1]
  · rw [f3 j p q, jw_ne _ _ (by omega), jw_ne _ _ (by omega)]
theorem X12_told_f {Y : jY} {μ : jM} (hM : kM Y μ) {p : Int × Int} (h16 : μ 95 16 = .long (kl p.1)) (h17 : μ 95 17 = .long (kl p.2)) {w : Int} (hw : w = 0 ∨ w = 1) : f_X12_told Y 95 (ki w) μ = some (kl (if w = 0 then p.1 else p.2), μ) := by
  have g16 := kgLv (k := 16) hM.y h16
  have g17 := kgLv (k := 17) hM.y h17
  rcases hw with rfl | rfl
  · simp (disch := omega) only [f_X12_told, b_X12_told_15, g16, ki_0, ki_1, ki_2, ki_3, ki_4, ki_5, ki_6, ki_7, ki_8, ki_9, ki_10, ki_11, ki_12, ki_13, ki_18, ki_20, ki_24, ki_32, ki_36, ki_45, ki_47, ki_48, ki_50, ki_57, ki_60, ki_63, ki_99, ki_100, ki_101, ki_120, ki_255, ki_468, ki_1000, ki_1024, ki_13849, ki_25173, ki_65535, ki_65536, ki_100000, ki_100001, ki_2147483647, ki_2147483648, kl_0, kl_1, kl_2, kl_9223372036854775808, ki_add, ki_sub, ki_mul, ki_neg, kl_add, kl_sub, kl_mul, kl_neg, ki_i2l, kl_l2i, ki_lt, ki_le, ki_eq, kcmp_eq, kcmp_lt, kcmp_le, kcmp_gt, kcmp_ge, Option.bind_some, Option.map_some, kbool0, kbool1, if_pos, if_neg, if_true, if_false, Int.neg_neg, Int.sub_zero, Int.add_zero, Int.zero_add, true_and, and_true, false_and, and_false, false_or, or_false, true_or, or_true, ne_eq, not_false_eq_true, not_true_eq_false]
  · simp (disch := omega) only [f_X12_told, b_X12_told_15, g17, ki_0, ki_1, ki_2, ki_3, ki_4, ki_5, ki_6, ki_7, ki_8, ki_9, ki_10, ki_11, ki_12, ki_13, ki_18, ki_20, ki_24, ki_32, ki_36, ki_45, ki_47, ki_48, ki_50, ki_57, ki_60, ki_63, ki_99, ki_100, ki_101, ki_120, ki_255, ki_468, ki_1000, ki_1024, ki_13849, ki_25173, ki_65535, ki_65536, ki_100000, ki_100001, ki_2147483647, ki_2147483648, kl_0, kl_1, kl_2, kl_9223372036854775808, ki_add, ki_sub, ki_mul, ki_neg, kl_add, kl_sub, kl_mul, kl_neg, ki_i2l, kl_l2i, ki_lt, ki_le, ki_eq, kcmp_eq, kcmp_lt, kcmp_le, kcmp_gt, kcmp_ge, Option.bind_some, Option.map_some, kbool0, kbool1, if_pos, if_neg, if_true, if_false, Int.neg_neg, Int.sub_zero, Int.add_zero, Int.zero_add, true_and, and_true, false_and, and_false, false_or, or_false, true_or, or_true, ne_eq, not_false_eq_true, not_true_eq_false]
theorem X1_part {Y : jY} {μ : jM} {o : Nat} (h : kFr Y μ o) {p : Int × Int} (h0 : μ o 0 = .long (kl p.1)) (h1 : μ o 1 = .long (kl p.2)) {w : Int} (hw : w = 0 ∨ w = 1) : f_X1_part Y o (ki w) μ = some (kl (if w = 0 then p.1 else p.2), μ) := by
  have g0 := kgLv (k := 0) h.1 h0
  have g1 := kgLv (k := 1) h.1 h1
  rcases hw with rfl | rfl
  · simp (disch := omega) only [f_X1_part, b_X1_part_15, g0, ki_0, ki_1, ki_2, ki_3, ki_4, ki_5, ki_6, ki_7, ki_8, ki_9, ki_10, ki_11, ki_12, ki_13, ki_18, ki_20, ki_24, ki_32, ki_36, ki_45, ki_47, ki_48, ki_50, ki_57, ki_60, ki_63, ki_99, ki_100, ki_101, ki_120, ki_255, ki_468, ki_1000, ki_1024, ki_13849, ki_25173, ki_65535, ki_65536, ki_100000, ki_100001, ki_2147483647, ki_2147483648, kl_0, kl_1, kl_2, kl_9223372036854775808, ki_add, ki_sub, ki_mul, ki_neg, kl_add, kl_sub, kl_mul, kl_neg, ki_i2l, kl_l2i, ki_lt, ki_le, ki_eq, kcmp_eq, kcmp_lt, kcmp_le, kcmp_gt, kcmp_ge, Option.bind_some, Option.map_some, kbool0, kbool1, if_pos, if_neg, if_true, if_false, Int.neg_neg, Int.sub_zero, Int.add_zero, Int.zero_add, true_and, and_true, false_and, and_false, false_or, or_false, true_or, or_true, ne_eq, not_false_eq_true, not_true_eq_false]
  · simp (disch := omega) only [f_X1_part, b_X1_part_15, g1, ki_0, ki_1, ki_2, ki_3, ki_4, ki_5, ki_6, ki_7, ki_8, ki_9, ki_10, ki_11, ki_12, ki_13, ki_18, ki_20, ki_24, ki_32, ki_36, ki_45, ki_47, ki_48, ki_50, ki_57, ki_60, ki_63, ki_99, ki_100, ki_101, ki_120, ki_255, ki_468, ki_1000, ki_1024, ki_13849, ki_25173, ki_65535, ki_65536, ki_100000, ki_100001, ki_2147483647, ki_2147483648, kl_0, kl_1, kl_2, kl_9223372036854775808, ki_add, ki_sub, ki_mul, ki_neg, kl_add, kl_sub, kl_mul, kl_neg, ki_i2l, kl_l2i, ki_lt, ki_le, ki_eq, kcmp_eq, kcmp_lt, kcmp_le, kcmp_gt, kcmp_ge, Option.bind_some, Option.map_some, kbool0, kbool1, if_pos, if_neg, if_true, if_false, Int.neg_neg, Int.sub_zero, Int.add_zero, Int.zero_add, true_and, and_true, false_and, and_false, false_or, or_false, true_or, or_true, ne_eq, not_false_eq_true, not_true_eq_false]
theorem X11_isPart {Y : jY} {μ : jM} {w : Int} (h1 : -2147483648 ≤ w) (h2 : w ≤ 2147483647) : f_X11_isPart Y (ki w) μ = some (ki (if w = 0 ∨ w = 1 then 1 else 0), μ) := by
  by_cases e : w = 0
  · simp (disch := omega) only [f_X11_isPart, b_X11_isPart_14, b_X11_isPart_9, ki_0, ki_1, ki_2, ki_3, ki_4, ki_5, ki_6, ki_7, ki_8, ki_9, ki_10, ki_11, ki_12, ki_13, ki_18, ki_20, ki_24, ki_32, ki_36, ki_45, ki_47, ki_48, ki_50, ki_57, ki_60, ki_63, ki_99, ki_100, ki_101, ki_120, ki_255, ki_468, ki_1000, ki_1024, ki_13849, ki_25173, ki_65535, ki_65536, ki_100000, ki_100001, ki_2147483647, ki_2147483648, kl_0, kl_1, kl_2, kl_9223372036854775808, ki_add, ki_sub, ki_mul, ki_neg, kl_add, kl_sub, kl_mul, kl_neg, ki_i2l, kl_l2i, ki_lt, ki_le, ki_eq, kcmp_eq, kcmp_lt, kcmp_le, kcmp_gt, kcmp_ge, Option.bind_some, Option.map_some, kbool0, kbool1, if_pos, if_neg, if_true, if_false, Int.neg_neg, Int.sub_zero, Int.add_zero, Int.zero_add, true_and, and_true, false_and, and_false, false_or, or_false, true_or, or_true, ne_eq, not_false_eq_true, not_true_eq_false]
  · by_cases e2 : w = 1
    · simp (disch := omega) only [f_X11_isPart, b_X11_isPart_14, b_X11_isPart_9, ki_0, ki_1, ki_2, ki_3, ki_4, ki_5, ki_6, ki_7, ki_8, ki_9, ki_10, ki_11, ki_12, ki_13, ki_18, ki_20, ki_24, ki_32, ki_36, ki_45, ki_47, ki_48, ki_50, ki_57, ki_60, ki_63, ki_99, ki_100, ki_101, ki_120, ki_255, ki_468, ki_1000, ki_1024, ki_13849, ki_25173, ki_65535, ki_65536, ki_100000, ki_100001, ki_2147483647, ki_2147483648, kl_0, kl_1, kl_2, kl_9223372036854775808, ki_add, ki_sub, ki_mul, ki_neg, kl_add, kl_sub, kl_mul, kl_neg, ki_i2l, kl_l2i, ki_lt, ki_le, ki_eq, kcmp_eq, kcmp_lt, kcmp_le, kcmp_gt, kcmp_ge, Option.bind_some, Option.map_some, kbool0, kbool1, if_pos, if_neg, if_true, if_false, Int.neg_neg, Int.sub_zero, Int.add_zero, Int.zero_add, true_and, and_true, false_and, and_false, false_or, or_false, true_or, or_true, ne_eq, not_false_eq_true, not_true_eq_false]
    · simp (disch := omega) only [f_X11_isPart, b_X11_isPart_14, b_X11_isPart_9, ki_0, ki_1, ki_2, ki_3, ki_4, ki_5, ki_6, ki_7, ki_8, ki_9, ki_10, ki_11, ki_12, ki_13, ki_18, ki_20, ki_24, ki_32, ki_36, ki_45, ki_47, ki_48, ki_50, ki_57, ki_60, ki_63, ki_99, ki_100, ki_101, ki_120, ki_255, ki_468, ki_1000, ki_1024, ki_13849, ki_25173, ki_65535, ki_65536, ki_100000, ki_100001, ki_2147483647, ki_2147483648, kl_0, kl_1, kl_2, kl_9223372036854775808, ki_add, ki_sub, ki_mul, ki_neg, kl_add, kl_sub, kl_mul, kl_neg, ki_i2l, kl_l2i, ki_lt, ki_le, ki_eq, kcmp_eq, kcmp_lt, kcmp_le, kcmp_gt, kcmp_ge, Option.bind_some, Option.map_some, kbool0, kbool1, if_pos, if_neg, if_true, if_false, Int.neg_neg, Int.sub_zero, Int.add_zero, Int.zero_add, true_and, and_true, false_and, and_false, false_or, or_false, true_or, or_true, ne_eq, not_false_eq_true, not_true_eq_false]
/-! the weights -/
def wT (l m : Int → Int) (i : Int) : Nat → Int
  | 0 => 1
  | j + 1 => wT l m i j * (l i - m j)
def wB (l : Int → Int) (i : Int) : Nat → Int
  | 0 => 1
  | j + 1 => if (j : Int) = i then wB l i j else wB l i j * (l i - l j)
def p12 : Nat → Int
  | 0 => 1
  | j + 1 => 12 * p12 j
theorem p12_le : ∀ k, k ≤ 4 → 0 ≤ p12 k ∧ p12 k ≤ 20736 := by decide
theorem wT_bd {l m : Int → Int} {i : Int} : ∀ j : Nat, (∀ x : Nat, x < j → -12 ≤ l i - m x ∧ l i - m x ≤ 12) → -(p12 j) ≤ wT l m i j ∧ wT l m i j ≤ p12 j := by
  intro j
  induction j with
  | zero => intro _; exact ⟨by show -(1 : Int) ≤ 1; omega, by show (1 : Int) ≤ 1; omega⟩
  | succ j ih =>
    intro h
    have a := ih (fun x hx => h x (by omega))
    have b := h j (by omega)
    have c := mulB (A := 12) (B := p12 j) b.1 b.2 a.1 a.2
    rw [Int.mul_comm (l i - m j)] at c
    exact c
theorem wB_bd {l : Int → Int} {i : Int} : ∀ j : Nat, (∀ x : Nat, x < j → -12 ≤ l i - l x ∧ l i - l x ≤ 12) → -(p12 j) ≤ wB l i j ∧ wB l i j ≤ p12 j := by
  intro j
  induction j with
  | zero => intro _; exact ⟨by show -(1 : Int) ≤ 1; omega, by show (1 : Int) ≤ 1; omega⟩
  | succ j ih =>
    intro h
    have a := ih (fun x hx => h x (by omega))
    have b := h j (by omega)
    rw [wB, p12]
    split
    · omega
    · have c := mulB (A := 12) (B := p12 j) b.1 b.2 a.1 a.2
      rw [Int.mul_comm (l i - l j)] at c
      exact c
theorem wB_ne {l : Int → Int} {i : Int} : ∀ j : Nat, (∀ x : Nat, x < j → (x : Int) ≠ i → l i ≠ l x) → wB l i j ≠ 0 := by
  intro j
  induction j with
  | zero => intro _; exact (by decide : (1 : Int) ≠ 0)
  | succ j ih =>
    intro h
    have a := ih (fun x hx => h x (by omega))
    rw [wB]
    split
    · exact a
    · rename_i e
      have b := h j (by omega) e
      exact Int.mul_ne_zero a (by omega)
theorem X9_weigh {Y : jY} {μ : jM} {o r : Nat} (hN : kN Y μ o) (hF : kFr Y μ r) {N i : Int} {l m : Int → Int} (e0 : gi μ o 0 = N) (h1 : 1 ≤ N) (h4 : N ≤ 4) (i0 : 0 ≤ i) (i1 : i < N) (hl : ∀ x : Int, 0 ≤ x → x < N → gi μ (o + 1) x = l x ∧ -6 ≤ l x ∧ l x ≤ 6) (hm : ∀ x : Int, 0 ≤ x → x < N - 1 → gi μ (o + 2) x = m x ∧ -6 ≤ m x ∧ m x ≤ 6) : f_X9_weigh Y o (ki i) r μ = some (frw μ r (fset (wT l m i (N - 1).toNat) (wB l i N.toNat))) := by
  have g := kN.gr hN
  rw [e0] at g
  have li := hl i i0 i1
  have qi := kaI hN.aa (x := i) i0 (by omega)
  rw [li.1] at qi
  have bT := wT_bd (l := l) (m := m) (i := i) (N - 1).toNat (fun x hx => by have := hm x (by omega) (by omega); omega)
  have bB := wB_bd (l := l) (i := i) N.toNat (fun x hx => by have := hl x (by omega) (by omega); omega)
  have p1 := p12_le (N - 1).toNat (by omega)
  have p2 := p12_le N.toNat (by omega)
  have S := X1_set hF (t := wT l m i (N - 1).toNat) (b := wB l i N.toNat) ⟨by omega, by omega⟩ ⟨by omega, by omega⟩
  have inner : jit jF (fun (s : Int64 × Int32 × jM) => b_X9_weigh_46 Y o (ki i) r (kl (wT l m i (N - 1).toNat)) s.1 s.2.1 s.2.2) ((1 : Int64), (0 : Int32), μ) = some (frw μ r (fset (wT l m i (N - 1).toNat) (wB l i N.toNat))) := by
    clear bT bB
    refine jit_run (fun j => (kl (wB l i j), ki j, μ)) _ N.toNat rfl (by omega) (fun j hj => ?_) ?_
    · have q := kaI hN.aa (x := (j : Int)) (by omega) (by omega)
      have lj := hl j (by omega) (by omega)
      rw [lj.1] at q
      rw [wB]
      by_cases e : (j : Int) = i
      · rw [if_pos e]
        simp (disch := omega) only [b_X9_weigh_46, b_X9_weigh_81, g, ki_0, ki_1, ki_2, ki_3, ki_4, ki_5, ki_6, ki_7, ki_8, ki_9, ki_10, ki_11, ki_12, ki_13, ki_18, ki_20, ki_24, ki_32, ki_36, ki_45, ki_47, ki_48, ki_50, ki_57, ki_60, ki_63, ki_99, ki_100, ki_101, ki_120, ki_255, ki_468, ki_1000, ki_1024, ki_13849, ki_25173, ki_65535, ki_65536, ki_100000, ki_100001, ki_2147483647, ki_2147483648, kl_0, kl_1, kl_2, kl_9223372036854775808, ki_add, ki_sub, ki_mul, ki_neg, kl_add, kl_sub, kl_mul, kl_neg, ki_i2l, kl_l2i, ki_lt, ki_le, ki_eq, kcmp_eq, kcmp_lt, kcmp_le, kcmp_gt, kcmp_ge, Option.bind_some, Option.map_some, kbool0, kbool1, if_pos, if_neg, if_true, if_false, Int.neg_neg, Int.sub_zero, Int.add_zero, Int.zero_add, true_and, and_true, false_and, and_false, false_or, or_false, true_or, or_true, ne_eq, not_false_eq_true, not_true_eq_false, Int.natCast_add, Int.natCast_one]
      · rw [if_neg e]
        simp (disch := omega) only [b_X9_weigh_46, b_X9_weigh_81, g, kN.ga hN, qi, q, ki_0, ki_1, ki_2, ki_3, ki_4, ki_5, ki_6, ki_7, ki_8, ki_9, ki_10, ki_11, ki_12, ki_13, ki_18, ki_20, ki_24, ki_32, ki_36, ki_45, ki_47, ki_48, ki_50, ki_57, ki_60, ki_63, ki_99, ki_100, ki_101, ki_120, ki_255, ki_468, ki_1000, ki_1024, ki_13849, ki_25173, ki_65535, ki_65536, ki_100000, ki_100001, ki_2147483647, ki_2147483648, kl_0, kl_1, kl_2, kl_9223372036854775808, ki_add, ki_sub, ki_mul, ki_neg, kl_add, kl_sub, kl_mul, kl_neg, ki_i2l, kl_l2i, ki_lt, ki_le, ki_eq, kcmp_eq, kcmp_lt, kcmp_le, kcmp_gt, kcmp_ge, Option.bind_some, Option.map_some, kbool0, kbool1, if_pos, if_neg, if_true, if_false, Int.neg_neg, Int.sub_zero, Int.add_zero, Int.zero_add, true_and, and_true, false_and, and_false, false_or, or_false, true_or, or_true, ne_eq, not_false_eq_true, not_true_eq_false, Int.natCast_add, Int.natCast_one]
    · generalize frw μ r (fset (wT l m i (N - 1).toNat) (wB l i N.toNat)) = z at *
      simp (disch := omega) only [b_X9_weigh_46, g, krcv hF.1, S, ki_0, ki_1, ki_2, ki_3, ki_4, ki_5, ki_6, ki_7, ki_8, ki_9, ki_10, ki_11, ki_12, ki_13, ki_18, ki_20, ki_24, ki_32, ki_36, ki_45, ki_47, ki_48, ki_50, ki_57, ki_60, ki_63, ki_99, ki_100, ki_101, ki_120, ki_255, ki_468, ki_1000, ki_1024, ki_13849, ki_25173, ki_65535, ki_65536, ki_100000, ki_100001, ki_2147483647, ki_2147483648, kl_0, kl_1, kl_2, kl_9223372036854775808, ki_add, ki_sub, ki_mul, ki_neg, kl_add, kl_sub, kl_mul, kl_neg, ki_i2l, kl_l2i, ki_lt, ki_le, ki_eq, kcmp_eq, kcmp_lt, kcmp_le, kcmp_gt, kcmp_ge, Option.bind_some, Option.map_some, kbool0, kbool1, if_pos, if_neg, if_true, if_false, Int.neg_neg, Int.sub_zero, Int.add_zero, Int.zero_add, true_and, and_true, false_and, and_false, false_or, or_false, true_or, or_true, ne_eq, not_false_eq_true, not_true_eq_false]
  refine jit_run (fun j => (kl (wT l m i j), ki j, μ)) _ (N - 1).toNat rfl (by omega) (fun j hj => ?_) ?_
  · have q := kaI hN.ac (x := (j : Int)) (by omega) (by omega)
    have mj := hm j (by omega) (by omega)
    rw [mj.1] at q
    rw [wT]
    simp (disch := omega) only [b_X9_weigh_5, g, kN.ga hN, kN.gc hN, qi, q, ki_0, ki_1, ki_2, ki_3, ki_4, ki_5, ki_6, ki_7, ki_8, ki_9, ki_10, ki_11, ki_12, ki_13, ki_18, ki_20, ki_24, ki_32, ki_36, ki_45, ki_47, ki_48, ki_50, ki_57, ki_60, ki_63, ki_99, ki_100, ki_101, ki_120, ki_255, ki_468, ki_1000, ki_1024, ki_13849, ki_25173, ki_65535, ki_65536, ki_100000, ki_100001, ki_2147483647, ki_2147483648, kl_0, kl_1, kl_2, kl_9223372036854775808, ki_add, ki_sub, ki_mul, ki_neg, kl_add, kl_sub, kl_mul, kl_neg, ki_i2l, kl_l2i, ki_lt, ki_le, ki_eq, kcmp_eq, kcmp_lt, kcmp_le, kcmp_gt, kcmp_ge, Option.bind_some, Option.map_some, kbool0, kbool1, if_pos, if_neg, if_true, if_false, Int.neg_neg, Int.sub_zero, Int.add_zero, Int.zero_add, true_and, and_true, false_and, and_false, false_or, or_false, true_or, or_true, ne_eq, not_false_eq_true, not_true_eq_false, Int.natCast_add, Int.natCast_one]
  · have E : b_X9_weigh_5 Y o (ki i) r (kl (wT l m i (N - 1).toNat)) (ki ((N - 1).toNat : Int)) μ = (jit jF (fun (s : Int64 × Int32 × jM) => b_X9_weigh_46 Y o (ki i) r (kl (wT l m i (N - 1).toNat)) s.1 s.2.1 s.2.2) ((1 : Int64), (0 : Int32), μ)).map (fun r => (.inr r)) := by
      simp (disch := omega) only [b_X9_weigh_5, g, ki_0, ki_1, ki_2, ki_3, ki_4, ki_5, ki_6, ki_7, ki_8, ki_9, ki_10, ki_11, ki_12, ki_13, ki_18, ki_20, ki_24, ki_32, ki_36, ki_45, ki_47, ki_48, ki_50, ki_57, ki_60, ki_63, ki_99, ki_100, ki_101, ki_120, ki_255, ki_468, ki_1000, ki_1024, ki_13849, ki_25173, ki_65535, ki_65536, ki_100000, ki_100001, ki_2147483647, ki_2147483648, kl_0, kl_1, kl_2, kl_9223372036854775808, ki_add, ki_sub, ki_mul, ki_neg, kl_add, kl_sub, kl_mul, kl_neg, ki_i2l, kl_l2i, ki_lt, ki_le, ki_eq, kcmp_eq, kcmp_lt, kcmp_le, kcmp_gt, kcmp_ge, Option.bind_some, Option.map_some, kbool0, kbool1, if_pos, if_neg, if_true, if_false, Int.neg_neg, Int.sub_zero, Int.add_zero, Int.zero_add, true_and, and_true, false_and, and_false, false_or, or_false, true_or, or_true, ne_eq, not_false_eq_true, not_true_eq_false]
    simp only [E, inner]
    rfl
theorem X12_weight1 {Y : jY} {μ : jM} (hM : kM Y μ) {N i w : Int} {l m : Int → Int} (e0 : gi μ 95 10 = N) (h1 : 1 ≤ N) (h4 : N ≤ 4) (i0 : 0 ≤ i) (i1 : i < N) (hw : w = 0 ∨ w = 1) (hl : ∀ x : Int, 0 ≤ x → x < N → gi μ 99 x = l x ∧ -6 ≤ l x ∧ l x ≤ 6) (hm : ∀ x : Int, 0 ≤ x → x < N - 1 → gi μ 100 x = m x ∧ -6 ≤ m x ∧ m x ≤ 6) (hne : ∀ x : Nat, x < N.toNat → (x : Int) ≠ i → l i ≠ l x) : ∃ ν, jit jF (fun (s : Int64 × Int32 × jM) => b_X12_weight_42 Y 95 (ki i) (ki w) s.1 (1 : Int64) s.2.1 s.2.2) ((1 : Int64), (0 : Int32), μ) = some (kl (if w = 0 then (fset (wT l m i (N - 1).toNat) (wB l i N.toNat)).1 else (fset (wT l m i (N - 1).toNat) (wB l i N.toNat)).2), ν) ∧ kP μ ν := by
  have g := kM.g10 hM
  rw [e0] at g
  have li := hl i i0 i1
  have qi := kaI (kM.a99 hM) (x := i) i0 (by omega)
  rw [li.1] at qi
  have bT := wT_bd (l := l) (m := m) (i := i) (N - 1).toNat (fun x hx => by have := hm x (by omega) (by omega); omega)
  have bB := wB_bd (l := l) (i := i) N.toNat (fun x hx => by have := hl x (by omega) (by omega); omega)
  have p1 := p12_le (N - 1).toNat (by omega)
  have p2 := p12_le N.toNat (by omega)
  obtain ⟨ν, S, fS⟩ := X12_sets hM (t := wT l m i (N - 1).toNat) (b := wB l i N.toNat) ⟨by omega, by omega⟩ ⟨by omega, by omega⟩ (wB_ne N.toNat hne)
  have T := X12_told_f (hM.to fS.1) fS.2.2.1 fS.2.2.2 hw
  refine ⟨ν, ?_, fS.kP⟩
  have inner : jit jF (fun (s : Int64 × Int32 × jM) => b_X12_weight_80 Y 95 (ki i) (ki w) (kl (wT l m i (N - 1).toNat)) s.1 s.2.1 s.2.2) ((1 : Int64), (0 : Int32), μ) = some (kl (if w = 0 then (fset (wT l m i (N - 1).toNat) (wB l i N.toNat)).1 else (fset (wT l m i (N - 1).toNat) (wB l i N.toNat)).2), ν) := by
    clear bT bB
    refine jit_run (fun j => (kl (wB l i j), ki j, μ)) _ N.toNat rfl (by omega) (fun j hj => ?_) ?_
    · have q := kaI (kM.a99 hM) (x := (j : Int)) (by omega) (by omega)
      have lj := hl j (by omega) (by omega)
      rw [lj.1] at q
      rw [wB]
      by_cases e : (j : Int) = i
      · rw [if_pos e]
        simp (disch := omega) only [b_X12_weight_80, b_X12_weight_118, g, ki_0, ki_1, ki_2, ki_3, ki_4, ki_5, ki_6, ki_7, ki_8, ki_9, ki_10, ki_11, ki_12, ki_13, ki_18, ki_20, ki_24, ki_32, ki_36, ki_45, ki_47, ki_48, ki_50, ki_57, ki_60, ki_63, ki_99, ki_100, ki_101, ki_120, ki_255, ki_468, ki_1000, ki_1024, ki_13849, ki_25173, ki_65535, ki_65536, ki_100000, ki_100001, ki_2147483647, ki_2147483648, kl_0, kl_1, kl_2, kl_9223372036854775808, ki_add, ki_sub, ki_mul, ki_neg, kl_add, kl_sub, kl_mul, kl_neg, ki_i2l, kl_l2i, ki_lt, ki_le, ki_eq, kcmp_eq, kcmp_lt, kcmp_le, kcmp_gt, kcmp_ge, Option.bind_some, Option.map_some, kbool0, kbool1, if_pos, if_neg, if_true, if_false, Int.neg_neg, Int.sub_zero, Int.add_zero, Int.zero_add, true_and, and_true, false_and, and_false, false_or, or_false, true_or, or_true, ne_eq, not_false_eq_true, not_true_eq_false, Int.natCast_add, Int.natCast_one]
      · rw [if_neg e]
        simp (disch := omega) only [b_X12_weight_80, b_X12_weight_118, g, kM.o11 hM, qi, q, ki_0, ki_1, ki_2, ki_3, ki_4, ki_5, ki_6, ki_7, ki_8, ki_9, ki_10, ki_11, ki_12, ki_13, ki_18, ki_20, ki_24, ki_32, ki_36, ki_45, ki_47, ki_48, ki_50, ki_57, ki_60, ki_63, ki_99, ki_100, ki_101, ki_120, ki_255, ki_468, ki_1000, ki_1024, ki_13849, ki_25173, ki_65535, ki_65536, ki_100000, ki_100001, ki_2147483647, ki_2147483648, kl_0, kl_1, kl_2, kl_9223372036854775808, ki_add, ki_sub, ki_mul, ki_neg, kl_add, kl_sub, kl_mul, kl_neg, ki_i2l, kl_l2i, ki_lt, ki_le, ki_eq, kcmp_eq, kcmp_lt, kcmp_le, kcmp_gt, kcmp_ge, Option.bind_some, Option.map_some, kbool0, kbool1, if_pos, if_neg, if_true, if_false, Int.neg_neg, Int.sub_zero, Int.add_zero, Int.zero_add, true_and, and_true, false_and, and_false, false_or, or_false, true_or, or_true, ne_eq, not_false_eq_true, not_true_eq_false, Int.natCast_add, Int.natCast_one]
    · generalize (if w = 0 then (fset (wT l m i (N - 1).toNat) (wB l i N.toNat)).1 else (fset (wT l m i (N - 1).toNat) (wB l i N.toNat)).2) = z at *
      simp (disch := omega) only [b_X12_weight_80, g, krcv (kM.y hM), S, T, ki_0, ki_1, ki_2, ki_3, ki_4, ki_5, ki_6, ki_7, ki_8, ki_9, ki_10, ki_11, ki_12, ki_13, ki_18, ki_20, ki_24, ki_32, ki_36, ki_45, ki_47, ki_48, ki_50, ki_57, ki_60, ki_63, ki_99, ki_100, ki_101, ki_120, ki_255, ki_468, ki_1000, ki_1024, ki_13849, ki_25173, ki_65535, ki_65536, ki_100000, ki_100001, ki_2147483647, ki_2147483648, kl_0, kl_1, kl_2, kl_9223372036854775808, ki_add, ki_sub, ki_mul, ki_neg, kl_add, kl_sub, kl_mul, kl_neg, ki_i2l, kl_l2i, ki_lt, ki_le, ki_eq, kcmp_eq, kcmp_lt, kcmp_le, kcmp_gt, kcmp_ge, Option.bind_some, Option.map_some, kbool0, kbool1, if_pos, if_neg, if_true, if_false, Int.neg_neg, Int.sub_zero, Int.add_zero, Int.zero_add, true_and, and_true, false_and, and_false, false_or, or_false, true_or, or_true, ne_eq, not_false_eq_true, not_true_eq_false]
  refine jit_run (fun j => (kl (wT l m i j), ki j, μ)) _ (N - 1).toNat rfl (by omega) (fun j hj => ?_) ?_
  · have q := kaI (kM.a100 hM) (x := (j : Int)) (by omega) (by show (j : Int) < ((3 : Nat) : Int); omega)
    have mj := hm j (by omega) (by omega)
    rw [mj.1] at q
    rw [wT]
    simp (disch := omega) only [b_X12_weight_42, g, kM.o11 hM, kM.o12 hM, qi, q, ki_0, ki_1, ki_2, ki_3, ki_4, ki_5, ki_6, ki_7, ki_8, ki_9, ki_10, ki_11, ki_12, ki_13, ki_18, ki_20, ki_24, ki_32, ki_36, ki_45, ki_47, ki_48, ki_50, ki_57, ki_60, ki_63, ki_99, ki_100, ki_101, ki_120, ki_255, ki_468, ki_1000, ki_1024, ki_13849, ki_25173, ki_65535, ki_65536, ki_100000, ki_100001, ki_2147483647, ki_2147483648, kl_0, kl_1, kl_2, kl_9223372036854775808, ki_add, ki_sub, ki_mul, ki_neg, kl_add, kl_sub, kl_mul, kl_neg, ki_i2l, kl_l2i, ki_lt, ki_le, ki_eq, kcmp_eq, kcmp_lt, kcmp_le, kcmp_gt, kcmp_ge, Option.bind_some, Option.map_some, kbool0, kbool1, if_pos, if_neg, if_true, if_false, Int.neg_neg, Int.sub_zero, Int.add_zero, Int.zero_add, true_and, and_true, false_and, and_false, false_or, or_false, true_or, or_true, ne_eq, not_false_eq_true, not_true_eq_false, Int.natCast_add, Int.natCast_one]
  · have E : b_X12_weight_42 Y 95 (ki i) (ki w) (kl (wT l m i (N - 1).toNat)) (1 : Int64) (ki ((N - 1).toNat : Int)) μ = (jit jF (fun (s : Int64 × Int32 × jM) => b_X12_weight_80 Y 95 (ki i) (ki w) (kl (wT l m i (N - 1).toNat)) s.1 s.2.1 s.2.2) ((1 : Int64), (0 : Int32), μ)).map (fun r => (.inr r)) := by
      simp (disch := omega) only [b_X12_weight_42, g, ki_0, ki_1, ki_2, ki_3, ki_4, ki_5, ki_6, ki_7, ki_8, ki_9, ki_10, ki_11, ki_12, ki_13, ki_18, ki_20, ki_24, ki_32, ki_36, ki_45, ki_47, ki_48, ki_50, ki_57, ki_60, ki_63, ki_99, ki_100, ki_101, ki_120, ki_255, ki_468, ki_1000, ki_1024, ki_13849, ki_25173, ki_65535, ki_65536, ki_100000, ki_100001, ki_2147483647, ki_2147483648, kl_0, kl_1, kl_2, kl_9223372036854775808, ki_add, ki_sub, ki_mul, ki_neg, kl_add, kl_sub, kl_mul, kl_neg, ki_i2l, kl_l2i, ki_lt, ki_le, ki_eq, kcmp_eq, kcmp_lt, kcmp_le, kcmp_gt, kcmp_ge, Option.bind_some, Option.map_some, kbool0, kbool1, if_pos, if_neg, if_true, if_false, Int.neg_neg, Int.sub_zero, Int.add_zero, Int.zero_add, true_and, and_true, false_and, and_false, false_or, or_false, true_or, or_true, ne_eq, not_false_eq_true, not_true_eq_false]
    simp only [E, inner]
    rfl
/-- the tones rise -/
theorem Inv.rise {L : Nat} {xs : Nat → Int32} {n : Nat} {Y : jY} {μ : jM} (h : Inv L xs n Y μ) : ∀ x y : Int, 0 ≤ x → x < y → y < gi μ 95 10 → gi μ 99 x < gi μ 99 y := by
  obtain ⟨q1, q2, q3, q4, q5⟩ := h.q
  intro x y x0 xy yN
  have a := q5 x x0 (by omega)
  have b := q5 (x + 1) (by omega)
  have c := q5 (x + 1 + 1) (by omega)
  have : y = x + 1 ∨ y = x + 1 + 1 ∨ y = x + 1 + 1 + 1 := by omega
  rcases this with rfl | rfl | rfl
  · omega
  · have := b (by omega)
    omega
  · have := b (by omega)
    have := c (by omega)
    omega
theorem kP.of_frac {μ ν : jM} (k : kF 94 95 μ ν) : kP μ ν := kP.of_rows (k.mono (by omega) (by omega))
theorem ok_weight {L : Nat} {xs : Nat → Int32} {n : Nat} {Y : jY} {μ : jM} (h : Inv L xs n Y μ) : so_weight (Inv L xs) n Y μ := by
  have hX := h.x
  have hM := h.m
  intro a1 a2
  obtain ⟨i, i1, i2, rfl⟩ := ki_is a1
  obtain ⟨w, w1, w2, rfl⟩ := ki_is a2
  obtain ⟨q1, q2, q3, q4, q5⟩ := h.q
  have e0 := X11_hasTones hX
  have g := kM.g10 hM
  have gx := kN.gr hX.n10
  rw [q1] at e0 gx
  have ip := X11_isPart (Y := Y) (μ := μ) w1 w2
  by_cases hz : gi μ 95 10 = 0
  · refine ⟨(kl (-9223372036854775808), μ), (kl (-9223372036854775808), μ), ?_, fun _ => rfl, ?_, rfl, h⟩
    · simp (disch := omega) only [f_X11_weight, b_X11_weight_22, krcv (kX.y1 hX), e0, ki_0, ki_1, ki_2, ki_3, ki_4, ki_5, ki_6, ki_7, ki_8, ki_9, ki_10, ki_11, ki_12, ki_13, ki_18, ki_20, ki_24, ki_32, ki_36, ki_45, ki_47, ki_48, ki_50, ki_57, ki_60, ki_63, ki_99, ki_100, ki_101, ki_120, ki_255, ki_468, ki_1000, ki_1024, ki_13849, ki_25173, ki_65535, ki_65536, ki_100000, ki_100001, ki_2147483647, ki_2147483648, kl_0, kl_1, kl_2, kl_9223372036854775808, ki_add, ki_sub, ki_mul, ki_neg, kl_add, kl_sub, kl_mul, kl_neg, ki_i2l, kl_l2i, ki_lt, ki_le, ki_eq, kcmp_eq, kcmp_lt, kcmp_le, kcmp_gt, kcmp_ge, Option.bind_some, Option.map_some, kbool0, kbool1, if_pos, if_neg, if_true, if_false, Int.neg_neg, Int.sub_zero, Int.add_zero, Int.zero_add, true_and, and_true, false_and, and_false, false_or, or_false, true_or, or_true, ne_eq, not_false_eq_true, not_true_eq_false]
    · simp (disch := omega) only [f_X12_weight, b_X12_weight_30, g, ki_0, ki_1, ki_2, ki_3, ki_4, ki_5, ki_6, ki_7, ki_8, ki_9, ki_10, ki_11, ki_12, ki_13, ki_18, ki_20, ki_24, ki_32, ki_36, ki_45, ki_47, ki_48, ki_50, ki_57, ki_60, ki_63, ki_99, ki_100, ki_101, ki_120, ki_255, ki_468, ki_1000, ki_1024, ki_13849, ki_25173, ki_65535, ki_65536, ki_100000, ki_100001, ki_2147483647, ki_2147483648, kl_0, kl_1, kl_2, kl_9223372036854775808, ki_add, ki_sub, ki_mul, ki_neg, kl_add, kl_sub, kl_mul, kl_neg, ki_i2l, kl_l2i, ki_lt, ki_le, ki_eq, kcmp_eq, kcmp_lt, kcmp_le, kcmp_gt, kcmp_ge, Option.bind_some, Option.map_some, kbool0, kbool1, if_pos, if_neg, if_true, if_false, Int.neg_neg, Int.sub_zero, Int.add_zero, Int.zero_add, true_and, and_true, false_and, and_false, false_or, or_false, true_or, or_true, ne_eq, not_false_eq_true, not_true_eq_false]
  · by_cases hi : 0 ≤ i ∧ i ≤ gi μ 95 10 - 1
    · by_cases hw : w = 0 ∨ w = 1
      · rw [if_pos hw] at ip
        have R2 : ∀ x : Int, 0 ≤ x → x < gi μ 95 10 - 1 → -6 ≤ gi μ 100 x ∧ gi μ 100 x ≤ 6 := fun x a c => by have := q5 x a c; have := q4 x a (by omega); have := q4 (x + 1) (by omega) (by omega); omega
        have W := X9_weigh hX.n10 hX.f94 (N := gi μ 95 10) (i := i) (l := gi μ 99) (m := gi μ 100) q1 (by omega) q3 hi.1 (by omega) (fun x a b => q4 x a b) (fun x a b => ⟨(q5 x a b).1, R2 x a b⟩)
        have kf := frw_kF (μ := μ) (p := fset (wT (gi μ 99) (gi μ 100) i (gi μ 95 10 - 1).toNat) (wB (gi μ 99) i (gi μ 95 10).toNat)) hX.f94
        have hX1 := hX.to kf
        have hM1 := hM.to kf
        have P := X1_part hX1.f94 (p := fset (wT (gi μ 99) (gi μ 100) i (gi μ 95 10 - 1).toNat) (wB (gi μ 99) i (gi μ 95 10).toNat)) frw_0 frw_1 hw
        have gM := kM.g10 hM1
        rw [kf.gi (by omega)] at gM
        obtain ⟨ω, c2, kω⟩ := X12_weight1 hM1 (N := gi μ 95 10) (i := i) (w := w) (l := gi μ 99) (m := gi μ 100) (by rw [kf.gi (by omega)]) (by omega) q3 hi.1 (by omega) hw (fun x a b => by rw [kf.gi (by omega)]; exact ⟨rfl, (q4 x a b).2⟩) (fun x a b => by rw [kf.gi (by omega)]; exact ⟨rfl, R2 x a b⟩) (fun x a b => by
          by_cases e : (x : Int) < i
          · have := h.rise x i (by omega) e (by omega)
            omega
          · have := h.rise i x hi.1 (by omega) (by omega)
            omega)
        have f0 : frw μ 94 (fset (wT (gi μ 99) (gi μ 100) i (gi μ 95 10 - 1).toNat) (wB (gi μ 99) i (gi μ 95 10).toNat)) 0 = μ 0 := frw_ne (by omega)
        generalize frw μ 94 (fset (wT (gi μ 99) (gi μ 100) i (gi μ 95 10 - 1).toNat) (wB (gi μ 99) i (gi μ 95 10).toNat)) = ν at *
        generalize (if w = 0 then (fset (wT (gi μ 99) (gi μ 100) i (gi μ 95 10 - 1).toNat) (wB (gi μ 99) i (gi μ 95 10).toNat)).1 else (fset (wT (gi μ 99) (gi μ 100) i (gi μ 95 10 - 1).toNat) (wB (gi μ 99) i (gi μ 95 10).toNat)).2) = z at *
        refine ⟨(kl z, ν), (kl z, ω), ?_, fun j => congrFun f0 j, ?_, rfl, h.to ((kP.of_frac kf).trans kω)⟩
        · simp (disch := omega) only [f_X11_weight, f_X11_isTone, X11_within, krcv (kX.y1 hX), kX.o1_3 hX, kX.o1_12 hX, kX.o1_12 hX1, kS.gn (kX.now hX), krcv (kN.y hX.n10), krcv hX.f94.1, gx, e0, ip, W, P, ki_0, ki_1, ki_2, ki_3, ki_4, ki_5, ki_6, ki_7, ki_8, ki_9, ki_10, ki_11, ki_12, ki_13, ki_18, ki_20, ki_24, ki_32, ki_36, ki_45, ki_47, ki_48, ki_50, ki_57, ki_60, ki_63, ki_99, ki_100, ki_101, ki_120, ki_255, ki_468, ki_1000, ki_1024, ki_13849, ki_25173, ki_65535, ki_65536, ki_100000, ki_100001, ki_2147483647, ki_2147483648, kl_0, kl_1, kl_2, kl_9223372036854775808, ki_add, ki_sub, ki_mul, ki_neg, kl_add, kl_sub, kl_mul, kl_neg, ki_i2l, kl_l2i, ki_lt, ki_le, ki_eq, kcmp_eq, kcmp_lt, kcmp_le, kcmp_gt, kcmp_ge, Option.bind_some, Option.map_some, kbool0, kbool1, if_pos, if_neg, if_true, if_false, Int.neg_neg, Int.sub_zero, Int.add_zero, Int.zero_add, true_and, and_true, false_and, and_false, false_or, or_false, true_or, or_true, ne_eq, not_false_eq_true, not_true_eq_false]
        · simp (disch := omega) only [f_X12_weight, X12_in, gM, ki_0, ki_1, ki_2, ki_3, ki_4, ki_5, ki_6, ki_7, ki_8, ki_9, ki_10, ki_11, ki_12, ki_13, ki_18, ki_20, ki_24, ki_32, ki_36, ki_45, ki_47, ki_48, ki_50, ki_57, ki_60, ki_63, ki_99, ki_100, ki_101, ki_120, ki_255, ki_468, ki_1000, ki_1024, ki_13849, ki_25173, ki_65535, ki_65536, ki_100000, ki_100001, ki_2147483647, ki_2147483648, kl_0, kl_1, kl_2, kl_9223372036854775808, ki_add, ki_sub, ki_mul, ki_neg, kl_add, kl_sub, kl_mul, kl_neg, ki_i2l, kl_l2i, ki_lt, ki_le, ki_eq, kcmp_eq, kcmp_lt, kcmp_le, kcmp_gt, kcmp_ge, Option.bind_some, Option.map_some, kbool0, kbool1, if_pos, if_neg, if_true, if_false, Int.neg_neg, Int.sub_zero, Int.add_zero, Int.zero_add, true_and, and_true, false_and, and_false, false_or, or_false, true_or, or_true, ne_eq, not_false_eq_true, not_true_eq_false]
          exact c2
      · rw [if_neg hw] at ip
        refine ⟨(kl (-9223372036854775808), μ), (kl (-9223372036854775808), μ), ?_, fun _ => rfl, ?_, rfl, h⟩
        · simp (disch := omega) only [f_X11_weight, b_X11_weight_22, f_X11_isTone, X11_within, krcv (kX.y1 hX), kX.o1_3 hX, kS.gn (kX.now hX), gx, e0, ip, ki_0, ki_1, ki_2, ki_3, ki_4, ki_5, ki_6, ki_7, ki_8, ki_9, ki_10, ki_11, ki_12, ki_13, ki_18, ki_20, ki_24, ki_32, ki_36, ki_45, ki_47, ki_48, ki_50, ki_57, ki_60, ki_63, ki_99, ki_100, ki_101, ki_120, ki_255, ki_468, ki_1000, ki_1024, ki_13849, ki_25173, ki_65535, ki_65536, ki_100000, ki_100001, ki_2147483647, ki_2147483648, kl_0, kl_1, kl_2, kl_9223372036854775808, ki_add, ki_sub, ki_mul, ki_neg, kl_add, kl_sub, kl_mul, kl_neg, ki_i2l, kl_l2i, ki_lt, ki_le, ki_eq, kcmp_eq, kcmp_lt, kcmp_le, kcmp_gt, kcmp_ge, Option.bind_some, Option.map_some, kbool0, kbool1, if_pos, if_neg, if_true, if_false, Int.neg_neg, Int.sub_zero, Int.add_zero, Int.zero_add, true_and, and_true, false_and, and_false, false_or, or_false, true_or, or_true, ne_eq, not_false_eq_true, not_true_eq_false]
        · simp (disch := omega) only [f_X12_weight, b_X12_weight_30, X12_in, g, ki_0, ki_1, ki_2, ki_3, ki_4, ki_5, ki_6, ki_7, ki_8, ki_9, ki_10, ki_11, ki_12, ki_13, ki_18, ki_20, ki_24, ki_32, ki_36, ki_45, ki_47, ki_48, ki_50, ki_57, ki_60, ki_63, ki_99, ki_100, ki_101, ki_120, ki_255, ki_468, ki_1000, ki_1024, ki_13849, ki_25173, ki_65535, ki_65536, ki_100000, ki_100001, ki_2147483647, ki_2147483648, kl_0, kl_1, kl_2, kl_9223372036854775808, ki_add, ki_sub, ki_mul, ki_neg, kl_add, kl_sub, kl_mul, kl_neg, ki_i2l, kl_l2i, ki_lt, ki_le, ki_eq, kcmp_eq, kcmp_lt, kcmp_le, kcmp_gt, kcmp_ge, Option.bind_some, Option.map_some, kbool0, kbool1, if_pos, if_neg, if_true, if_false, Int.neg_neg, Int.sub_zero, Int.add_zero, Int.zero_add, true_and, and_true, false_and, and_false, false_or, or_false, true_or, or_true, ne_eq, not_false_eq_true, not_true_eq_false]
    · refine ⟨(kl (-9223372036854775808), μ), (kl (-9223372036854775808), μ), ?_, fun _ => rfl, ?_, rfl, h⟩
      · simp (disch := omega) only [f_X11_weight, b_X11_weight_22, f_X11_isTone, X11_within, krcv (kX.y1 hX), kX.o1_3 hX, kS.gn (kX.now hX), gx, e0, ki_0, ki_1, ki_2, ki_3, ki_4, ki_5, ki_6, ki_7, ki_8, ki_9, ki_10, ki_11, ki_12, ki_13, ki_18, ki_20, ki_24, ki_32, ki_36, ki_45, ki_47, ki_48, ki_50, ki_57, ki_60, ki_63, ki_99, ki_100, ki_101, ki_120, ki_255, ki_468, ki_1000, ki_1024, ki_13849, ki_25173, ki_65535, ki_65536, ki_100000, ki_100001, ki_2147483647, ki_2147483648, kl_0, kl_1, kl_2, kl_9223372036854775808, ki_add, ki_sub, ki_mul, ki_neg, kl_add, kl_sub, kl_mul, kl_neg, ki_i2l, kl_l2i, ki_lt, ki_le, ki_eq, kcmp_eq, kcmp_lt, kcmp_le, kcmp_gt, kcmp_ge, Option.bind_some, Option.map_some, kbool0, kbool1, if_pos, if_neg, if_true, if_false, Int.neg_neg, Int.sub_zero, Int.add_zero, Int.zero_add, true_and, and_true, false_and, and_false, false_or, or_false, true_or, or_true, ne_eq, not_false_eq_true, not_true_eq_false]
      · simp (disch := omega) only [f_X12_weight, b_X12_weight_30, X12_in, g, ki_0, ki_1, ki_2, ki_3, ki_4, ki_5, ki_6, ki_7, ki_8, ki_9, ki_10, ki_11, ki_12, ki_13, ki_18, ki_20, ki_24, ki_32, ki_36, ki_45, ki_47, ki_48, ki_50, ki_57, ki_60, ki_63, ki_99, ki_100, ki_101, ki_120, ki_255, ki_468, ki_1000, ki_1024, ki_13849, ki_25173, ki_65535, ki_65536, ki_100000, ki_100001, ki_2147483647, ki_2147483648, kl_0, kl_1, kl_2, kl_9223372036854775808, ki_add, ki_sub, ki_mul, ki_neg, kl_add, kl_sub, kl_mul, kl_neg, ki_i2l, kl_l2i, ki_lt, ki_le, ki_eq, kcmp_eq, kcmp_lt, kcmp_le, kcmp_gt, kcmp_ge, Option.bind_some, Option.map_some, kbool0, kbool1, if_pos, if_neg, if_true, if_false, Int.neg_neg, Int.sub_zero, Int.add_zero, Int.zero_add, true_and, and_true, false_and, and_false, false_or, or_false, true_or, or_true, ne_eq, not_false_eq_true, not_true_eq_false]
