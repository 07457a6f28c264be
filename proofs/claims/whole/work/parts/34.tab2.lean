/-! TABLES: what is asked of them -/
theorem X11_within {Y : jY} {μ : jM} {x a b : Int} (h1 : -2147483648 ≤ x) (h2 : x ≤ 2147483647) (h3 : -2147483648 ≤ a) (h4 : a ≤ 2147483647) (h5 : -2147483648 ≤ b) (h6 : b ≤ 2147483647) : f_X11_within Y (ki x) (ki a) (ki b) μ = some (ki (if a ≤ x ∧ x ≤ b then 1 else 0), μ) := by
  by_cases g1 : x < a
  · simp (disch := omega) only [f_X11_within, b_X11_within_15, b_X11_within_14, ki_0, ki_1, ki_2, ki_3, ki_4, ki_5, ki_6, ki_7, ki_8, ki_9, ki_10, ki_11, ki_12, ki_13, ki_18, ki_20, ki_24, ki_32, ki_36, ki_45, ki_47, ki_48, ki_50, ki_57, ki_60, ki_63, ki_99, ki_100, ki_101, ki_120, ki_255, ki_468, ki_1000, ki_1024, ki_13849, ki_25173, ki_65535, ki_65536, ki_100000, ki_100001, ki_2147483647, ki_2147483648, kl_0, kl_1, kl_2, kl_9223372036854775808, ki_add, ki_sub, ki_mul, ki_neg, kl_add, kl_sub, kl_mul, kl_neg, ki_i2l, kl_l2i, ki_lt, ki_le, ki_eq, kcmp_eq, kcmp_lt, kcmp_le, kcmp_gt, kcmp_ge, Option.bind_some, Option.map_some, kbool0, kbool1, if_pos, if_neg, if_true, if_false, Int.neg_neg, Int.sub_zero, Int.add_zero, Int.zero_add, true_and, and_true, false_and, and_false, false_or, or_false, true_or, or_true, ne_eq, not_false_eq_true, not_true_eq_false]
  · by_cases g2 : b < x
    · simp (disch := omega) only [f_X11_within, b_X11_within_15, b_X11_within_14, ki_0, ki_1, ki_2, ki_3, ki_4, ki_5, ki_6, ki_7, ki_8, ki_9, ki_10, ki_11, ki_12, ki_13, ki_18, ki_20, ki_24, ki_32, ki_36, ki_45, ki_47, ki_48, ki_50, ki_57, ki_60, ki_63, ki_99, ki_100, ki_101, ki_120, ki_255, ki_468, ki_1000, ki_1024, ki_13849, ki_25173, ki_65535, ki_65536, ki_100000, ki_100001, ki_2147483647, ki_2147483648, kl_0, kl_1, kl_2, kl_9223372036854775808, ki_add, ki_sub, ki_mul, ki_neg, kl_add, kl_sub, kl_mul, kl_neg, ki_i2l, kl_l2i, ki_lt, ki_le, ki_eq, kcmp_eq, kcmp_lt, kcmp_le, kcmp_gt, kcmp_ge, Option.bind_some, Option.map_some, kbool0, kbool1, if_pos, if_neg, if_true, if_false, Int.neg_neg, Int.sub_zero, Int.add_zero, Int.zero_add, true_and, and_true, false_and, and_false, false_or, or_false, true_or, or_true, ne_eq, not_false_eq_true, not_true_eq_false]
    · simp (disch := omega) only [f_X11_within, b_X11_within_15, b_X11_within_14, ki_0, ki_1, ki_2, ki_3, ki_4, ki_5, ki_6, ki_7, ki_8, ki_9, ki_10, ki_11, ki_12, ki_13, ki_18, ki_20, ki_24, ki_32, ki_36, ki_45, ki_47, ki_48, ki_50, ki_57, ki_60, ki_63, ki_99, ki_100, ki_101, ki_120, ki_255, ki_468, ki_1000, ki_1024, ki_13849, ki_25173, ki_65535, ki_65536, ki_100000, ki_100001, ki_2147483647, ki_2147483648, kl_0, kl_1, kl_2, kl_9223372036854775808, ki_add, ki_sub, ki_mul, ki_neg, kl_add, kl_sub, kl_mul, kl_neg, ki_i2l, kl_l2i, ki_lt, ki_le, ki_eq, kcmp_eq, kcmp_lt, kcmp_le, kcmp_gt, kcmp_ge, Option.bind_some, Option.map_some, kbool0, kbool1, if_pos, if_neg, if_true, if_false, Int.neg_neg, Int.sub_zero, Int.add_zero, Int.zero_add, true_and, and_true, false_and, and_false, false_or, or_false, true_or, or_true, ne_eq, not_false_eq_true, not_true_eq_false]
theorem kboolI {x : Int} (h : x = 0 ∨ x = 1) : jbool (ki x) = some (ki x) := by
  rcases h with rfl | rfl <;> rfl
/-- of so many the count that hold: all (1, 0), one (1, 0) -/
def al1 (p : Nat → Int) : Nat → Int
  | 0 => 1
  | j + 1 => if p j = 1 then al1 p j else 0
def an1 (p : Nat → Int) : Nat → Int
  | 0 => 0
  | j + 1 => if p j = 1 then 1 else an1 p j
theorem al1_two (p : Nat → Int) : ∀ j, al1 p j = 0 ∨ al1 p j = 1 := by
  intro j
  induction j with
  | zero => exact Or.inr rfl
  | succ j ih => rw [al1]; split <;> omega
theorem an1_two (p : Nat → Int) : ∀ j, an1 p j = 0 ∨ an1 p j = 1 := by
  intro j
  induction j with
  | zero => exact Or.inl rfl
  | succ j ih => rw [an1]; split <;> omega
theorem al1_stay {p : Nat → Int} {j : Nat} (h : p j ≠ 1) : ∀ d, al1 p (j + 1 + d) = 0 := by
  intro d
  induction d with
  | zero => rw [Nat.add_zero, al1, if_neg h]
  | succ d ih => rw [← Nat.add_assoc, al1, ih]; split <;> rfl
theorem an1_stay {p : Nat → Int} {j : Nat} (h : p j = 1) : ∀ d, an1 p (j + 1 + d) = 1 := by
  intro d
  induction d with
  | zero => rw [Nat.add_zero, an1, if_pos h]
  | succ d ih => rw [← Nat.add_assoc, an1, ih]; split <;> rfl
theorem al1_congr {p p2 : Nat → Int} : ∀ j : Nat, (∀ i, i < j → p i = p2 i) → al1 p j = al1 p2 j := by
  intro j
  induction j with
  | zero => intro _; rfl
  | succ j ih => intro h; rw [al1, al1, h j (by omega), ih (fun i hi => h i (by omega))]
theorem an1_congr {p p2 : Nat → Int} : ∀ j : Nat, (∀ i, i < j → p i = p2 i) → an1 p j = an1 p2 j := by
  intro j
  induction j with
  | zero => intro _; rfl
  | succ j ih => intro h; rw [an1, an1, h j (by omega), ih (fun i hi => h i (by omega))]
theorem al1_iff {p : Nat → Int} : ∀ j : Nat, al1 p j = 1 ↔ ∀ i, i < j → p i = 1 := by
  intro j
  induction j with
  | zero => simp [al1]
  | succ j ih =>
    rw [al1]
    constructor
    · intro h i hi
      by_cases g : p j = 1
      · rw [if_pos g] at h
        by_cases e : i = j
        · subst e; exact g
        · exact ih.mp h i (by omega)
      · rw [if_neg g] at h; omega
    · intro h
      rw [if_pos (h j (by omega))]
      exact ih.mpr (fun i hi => h i (by omega))
/-- a loop that asks one after the other and ends at the first that is not so -/
theorem jit_all {ρ : Type} {f : Int32 × jM → Option ((Int32 × jM) ⊕ ρ)} {μ : jM} {p : Nat → Int} {R : Nat} {r0 r1 : ρ} (hR : R < 100000) (step : ∀ i : Nat, i < R → p i = 1 → f (ki i, μ) = some (.inl (ki (i + 1 : Nat), μ))) (bad : ∀ i : Nat, i < R → p i ≠ 1 → f (ki i, μ) = some (.inr r0)) (last : f (ki R, μ) = some (.inr r1)) :
    jit jF f (ki 0, μ) = some (if al1 p R = 1 then r1 else r0) := by
  obtain ⟨r, e, h⟩ := jit_inv (f := f) (fun j s => j ≤ R ∧ s = (ki j, μ) ∧ al1 p j = 1) (fun r => r = if al1 p R = 1 then r1 else r0) R (s := (ki 0, μ)) ⟨by omega, rfl, rfl⟩ (by omega) (fun j s _ hs => by
    obtain ⟨hj, rfl, ha⟩ := hs
    by_cases e : j = R
    · subst e
      exact ⟨_, last, by rw [Sum.elim_inr, if_pos ha]⟩
    · by_cases g : p j = 1
      · exact ⟨_, step j (by omega) g, by omega, by omega, rfl, by rw [al1, if_pos g]; exact ha⟩
      · refine ⟨_, bad j (by omega) g, ?_⟩
        have := al1_stay g (R - j - 1)
        rw [show j + 1 + (R - j - 1) = R from by omega] at this
        rw [Sum.elim_inr, this, if_neg (by omega)])
  rw [e, h]
theorem jit_any {ρ : Type} {f : Int32 × jM → Option ((Int32 × jM) ⊕ ρ)} {μ : jM} {p : Nat → Int} {R : Nat} {r0 r1 : ρ} (hR : R < 100000) (step : ∀ i : Nat, i < R → p i ≠ 1 → f (ki i, μ) = some (.inl (ki (i + 1 : Nat), μ))) (good : ∀ i : Nat, i < R → p i = 1 → f (ki i, μ) = some (.inr r1)) (last : f (ki R, μ) = some (.inr r0)) :
    jit jF f (ki 0, μ) = some (if an1 p R = 1 then r1 else r0) := by
  obtain ⟨r, e, h⟩ := jit_inv (f := f) (fun j s => j ≤ R ∧ s = (ki j, μ) ∧ an1 p j = 0) (fun r => r = if an1 p R = 1 then r1 else r0) R (s := (ki 0, μ)) ⟨by omega, rfl, rfl⟩ (by omega) (fun j s _ hs => by
    obtain ⟨hj, rfl, ha⟩ := hs
    by_cases e : j = R
    · subst e
      exact ⟨_, last, by rw [Sum.elim_inr, if_neg (by omega)]⟩
    · by_cases g : p j = 1
      · refine ⟨_, good j (by omega) g, ?_⟩
        have := an1_stay g (R - j - 1)
        rw [show j + 1 + (R - j - 1) = R from by omega] at this
        rw [Sum.elim_inr, this, if_pos rfl]
      · exact ⟨_, step j (by omega) g, by omega, by omega, rfl, by rw [an1, if_neg g]; exact ha⟩)
  rw [e, h]
theorem X10_canBe {Y : jY} {μ : jM} {b v : Int} (h1 : -2147483648 ≤ v) (h2 : v ≤ 2147483647) (hb : b = 0 ∨ b = 1) : f_X10_canBe Y (ki b) (ki v) μ = some (ki (if (b = 0 ∧ 1 ≤ v ∧ v ≤ 36) ∨ (b = 1 ∧ -6 ≤ v ∧ v ≤ 6) then 1 else 0), μ) := by
  rcases hb with rfl | rfl
  · by_cases g : 1 ≤ v ∧ v ≤ 36
    · simp (disch := omega) only [f_X10_canBe, b_X10_canBe_22, X11_within, ki_0, ki_1, ki_2, ki_3, ki_4, ki_5, ki_6, ki_7, ki_8, ki_9, ki_10, ki_11, ki_12, ki_13, ki_18, ki_20, ki_24, ki_32, ki_36, ki_45, ki_47, ki_48, ki_50, ki_57, ki_60, ki_63, ki_99, ki_100, ki_101, ki_120, ki_255, ki_468, ki_1000, ki_1024, ki_13849, ki_25173, ki_65535, ki_65536, ki_100000, ki_100001, ki_2147483647, ki_2147483648, kl_0, kl_1, kl_2, kl_9223372036854775808, ki_add, ki_sub, ki_mul, ki_neg, kl_add, kl_sub, kl_mul, kl_neg, ki_i2l, kl_l2i, ki_lt, ki_le, ki_eq, kcmp_eq, kcmp_lt, kcmp_le, kcmp_gt, kcmp_ge, Option.bind_some, Option.map_some, kbool0, kbool1, if_pos, if_neg, if_true, if_false, Int.neg_neg, Int.sub_zero, Int.add_zero, Int.zero_add, true_and, and_true, false_and, and_false, false_or, or_false, true_or, or_true, ne_eq, not_false_eq_true, not_true_eq_false]
    · simp (disch := omega) only [f_X10_canBe, b_X10_canBe_22, X11_within, ki_0, ki_1, ki_2, ki_3, ki_4, ki_5, ki_6, ki_7, ki_8, ki_9, ki_10, ki_11, ki_12, ki_13, ki_18, ki_20, ki_24, ki_32, ki_36, ki_45, ki_47, ki_48, ki_50, ki_57, ki_60, ki_63, ki_99, ki_100, ki_101, ki_120, ki_255, ki_468, ki_1000, ki_1024, ki_13849, ki_25173, ki_65535, ki_65536, ki_100000, ki_100001, ki_2147483647, ki_2147483648, kl_0, kl_1, kl_2, kl_9223372036854775808, ki_add, ki_sub, ki_mul, ki_neg, kl_add, kl_sub, kl_mul, kl_neg, ki_i2l, kl_l2i, ki_lt, ki_le, ki_eq, kcmp_eq, kcmp_lt, kcmp_le, kcmp_gt, kcmp_ge, Option.bind_some, Option.map_some, kbool0, kbool1, if_pos, if_neg, if_true, if_false, Int.neg_neg, Int.sub_zero, Int.add_zero, Int.zero_add, true_and, and_true, false_and, and_false, false_or, or_false, true_or, or_true, ne_eq, not_false_eq_true, not_true_eq_false]
  · by_cases g : -6 ≤ v ∧ v ≤ 6
    · simp (disch := omega) only [f_X10_canBe, b_X10_canBe_22, X11_within, ki_0, ki_1, ki_2, ki_3, ki_4, ki_5, ki_6, ki_7, ki_8, ki_9, ki_10, ki_11, ki_12, ki_13, ki_18, ki_20, ki_24, ki_32, ki_36, ki_45, ki_47, ki_48, ki_50, ki_57, ki_60, ki_63, ki_99, ki_100, ki_101, ki_120, ki_255, ki_468, ki_1000, ki_1024, ki_13849, ki_25173, ki_65535, ki_65536, ki_100000, ki_100001, ki_2147483647, ki_2147483648, kl_0, kl_1, kl_2, kl_9223372036854775808, ki_add, ki_sub, ki_mul, ki_neg, kl_add, kl_sub, kl_mul, kl_neg, ki_i2l, kl_l2i, ki_lt, ki_le, ki_eq, kcmp_eq, kcmp_lt, kcmp_le, kcmp_gt, kcmp_ge, Option.bind_some, Option.map_some, kbool0, kbool1, if_pos, if_neg, if_true, if_false, Int.neg_neg, Int.sub_zero, Int.add_zero, Int.zero_add, true_and, and_true, false_and, and_false, false_or, or_false, true_or, or_true, ne_eq, not_false_eq_true, not_true_eq_false]
    · simp (disch := omega) only [f_X10_canBe, b_X10_canBe_22, X11_within, ki_0, ki_1, ki_2, ki_3, ki_4, ki_5, ki_6, ki_7, ki_8, ki_9, ki_10, ki_11, ki_12, ki_13, ki_18, ki_20, ki_24, ki_32, ki_36, ki_45, ki_47, ki_48, ki_50, ki_57, ki_60, ki_63, ki_99, ki_100, ki_101, ki_120, ki_255, ki_468, ki_1000, ki_1024, ki_13849, ki_25173, ki_65535, ki_65536, ki_100000, ki_100001, ki_2147483647, ki_2147483648, kl_0, kl_1, kl_2, kl_9223372036854775808, ki_add, ki_sub, ki_mul, ki_neg, kl_add, kl_sub, kl_mul, kl_neg, ki_i2l, kl_l2i, ki_lt, ki_le, ki_eq, kcmp_eq, kcmp_lt, kcmp_le, kcmp_gt, kcmp_ge, Option.bind_some, Option.map_some, kbool0, kbool1, if_pos, if_neg, if_true, if_false, Int.neg_neg, Int.sub_zero, Int.add_zero, Int.zero_add, true_and, and_true, false_and, and_false, false_or, or_false, true_or, or_true, ne_eq, not_false_eq_true, not_true_eq_false]
theorem X10_hasNumber {Y : jY} {μ : jM} {o : Nat} (hT : kT Y μ o) {b i : Int} (hR1 : 0 ≤ gi μ o 0) (hR2 : gi μ o 0 ≤ 5) (h1 : -2147483648 ≤ i) (h2 : i ≤ 2147483647) (hb : b = 0 ∨ b = 1) : f_X10_hasNumber Y o (ki b) (ki i) μ = some (ki (if 0 ≤ i ∧ i ≤ gi μ o 0 - 2 + b then 1 else 0), μ) := by
  rcases hb with rfl | rfl
  · by_cases g : 0 ≤ i ∧ i ≤ gi μ o 0 - 2
    · simp (disch := omega) only [f_X10_hasNumber, b_X10_hasNumber_21, X11_within, kT.ga hT, kT.gc hT, kT.gr hT, kaI (kT.aa hT), kaI (kT.ac hT), kasI (kT.aa hT), kasI (kT.ac hT), krcv (kT.y hT), kT.pr hT, ki_0, ki_1, ki_2, ki_3, ki_4, ki_5, ki_6, ki_7, ki_8, ki_9, ki_10, ki_11, ki_12, ki_13, ki_18, ki_20, ki_24, ki_32, ki_36, ki_45, ki_47, ki_48, ki_50, ki_57, ki_60, ki_63, ki_99, ki_100, ki_101, ki_120, ki_255, ki_468, ki_1000, ki_1024, ki_13849, ki_25173, ki_65535, ki_65536, ki_100000, ki_100001, ki_2147483647, ki_2147483648, kl_0, kl_1, kl_2, kl_9223372036854775808, ki_add, ki_sub, ki_mul, ki_neg, kl_add, kl_sub, kl_mul, kl_neg, ki_i2l, kl_l2i, ki_lt, ki_le, ki_eq, kcmp_eq, kcmp_lt, kcmp_le, kcmp_gt, kcmp_ge, Option.bind_some, Option.map_some, kbool0, kbool1, if_pos, if_neg, if_true, if_false, Int.neg_neg, Int.sub_zero, Int.add_zero, Int.zero_add, true_and, and_true, false_and, and_false, false_or, or_false, true_or, or_true, ne_eq, not_false_eq_true, not_true_eq_false]
    · simp (disch := omega) only [f_X10_hasNumber, b_X10_hasNumber_21, X11_within, kT.ga hT, kT.gc hT, kT.gr hT, kaI (kT.aa hT), kaI (kT.ac hT), kasI (kT.aa hT), kasI (kT.ac hT), krcv (kT.y hT), kT.pr hT, ki_0, ki_1, ki_2, ki_3, ki_4, ki_5, ki_6, ki_7, ki_8, ki_9, ki_10, ki_11, ki_12, ki_13, ki_18, ki_20, ki_24, ki_32, ki_36, ki_45, ki_47, ki_48, ki_50, ki_57, ki_60, ki_63, ki_99, ki_100, ki_101, ki_120, ki_255, ki_468, ki_1000, ki_1024, ki_13849, ki_25173, ki_65535, ki_65536, ki_100000, ki_100001, ki_2147483647, ki_2147483648, kl_0, kl_1, kl_2, kl_9223372036854775808, ki_add, ki_sub, ki_mul, ki_neg, kl_add, kl_sub, kl_mul, kl_neg, ki_i2l, kl_l2i, ki_lt, ki_le, ki_eq, kcmp_eq, kcmp_lt, kcmp_le, kcmp_gt, kcmp_ge, Option.bind_some, Option.map_some, kbool0, kbool1, if_pos, if_neg, if_true, if_false, Int.neg_neg, Int.sub_zero, Int.add_zero, Int.zero_add, true_and, and_true, false_and, and_false, false_or, or_false, true_or, or_true, ne_eq, not_false_eq_true, not_true_eq_false]
  · by_cases g : 0 ≤ i ∧ i ≤ gi μ o 0 - 1
    · simp (disch := omega) only [f_X10_hasNumber, b_X10_hasNumber_21, X11_within, kT.ga hT, kT.gc hT, kT.gr hT, kaI (kT.aa hT), kaI (kT.ac hT), kasI (kT.aa hT), kasI (kT.ac hT), krcv (kT.y hT), kT.pr hT, ki_0, ki_1, ki_2, ki_3, ki_4, ki_5, ki_6, ki_7, ki_8, ki_9, ki_10, ki_11, ki_12, ki_13, ki_18, ki_20, ki_24, ki_32, ki_36, ki_45, ki_47, ki_48, ki_50, ki_57, ki_60, ki_63, ki_99, ki_100, ki_101, ki_120, ki_255, ki_468, ki_1000, ki_1024, ki_13849, ki_25173, ki_65535, ki_65536, ki_100000, ki_100001, ki_2147483647, ki_2147483648, kl_0, kl_1, kl_2, kl_9223372036854775808, ki_add, ki_sub, ki_mul, ki_neg, kl_add, kl_sub, kl_mul, kl_neg, ki_i2l, kl_l2i, ki_lt, ki_le, ki_eq, kcmp_eq, kcmp_lt, kcmp_le, kcmp_gt, kcmp_ge, Option.bind_some, Option.map_some, kbool0, kbool1, if_pos, if_neg, if_true, if_false, Int.neg_neg, Int.sub_zero, Int.add_zero, Int.zero_add, true_and, and_true, false_and, and_false, false_or, or_false, true_or, or_true, ne_eq, not_false_eq_true, not_true_eq_false]
    · simp (disch := omega) only [f_X10_hasNumber, b_X10_hasNumber_21, X11_within, kT.ga hT, kT.gc hT, kT.gr hT, kaI (kT.aa hT), kaI (kT.ac hT), kasI (kT.aa hT), kasI (kT.ac hT), krcv (kT.y hT), kT.pr hT, ki_0, ki_1, ki_2, ki_3, ki_4, ki_5, ki_6, ki_7, ki_8, ki_9, ki_10, ki_11, ki_12, ki_13, ki_18, ki_20, ki_24, ki_32, ki_36, ki_45, ki_47, ki_48, ki_50, ki_57, ki_60, ki_63, ki_99, ki_100, ki_101, ki_120, ki_255, ki_468, ki_1000, ki_1024, ki_13849, ki_25173, ki_65535, ki_65536, ki_100000, ki_100001, ki_2147483647, ki_2147483648, kl_0, kl_1, kl_2, kl_9223372036854775808, ki_add, ki_sub, ki_mul, ki_neg, kl_add, kl_sub, kl_mul, kl_neg, ki_i2l, kl_l2i, ki_lt, ki_le, ki_eq, kcmp_eq, kcmp_lt, kcmp_le, kcmp_gt, kcmp_ge, Option.bind_some, Option.map_some, kbool0, kbool1, if_pos, if_neg, if_true, if_false, Int.neg_neg, Int.sub_zero, Int.add_zero, Int.zero_add, true_and, and_true, false_and, and_false, false_or, or_false, true_or, or_true, ne_eq, not_false_eq_true, not_true_eq_false]
theorem X10_numberAt {Y : jY} {μ : jM} {o : Nat} (hT : kT Y μ o) {b i : Int} (h1 : 0 ≤ i) (h2 : i < 4 + b) (hb : b = 0 ∨ b = 1) : f_X10_numberAt Y o (ki b) (ki i) μ = some (ki (if b = 1 then gi μ (o + 1) i else gi μ (o + 2) i), μ) := by
  rcases hb with rfl | rfl
  · simp (disch := omega) only [f_X10_numberAt, b_X10_numberAt_19, kT.ga hT, kT.gc hT, kT.gr hT, kaI (kT.aa hT), kaI (kT.ac hT), kasI (kT.aa hT), kasI (kT.ac hT), krcv (kT.y hT), kT.pr hT, ki_0, ki_1, ki_2, ki_3, ki_4, ki_5, ki_6, ki_7, ki_8, ki_9, ki_10, ki_11, ki_12, ki_13, ki_18, ki_20, ki_24, ki_32, ki_36, ki_45, ki_47, ki_48, ki_50, ki_57, ki_60, ki_63, ki_99, ki_100, ki_101, ki_120, ki_255, ki_468, ki_1000, ki_1024, ki_13849, ki_25173, ki_65535, ki_65536, ki_100000, ki_100001, ki_2147483647, ki_2147483648, kl_0, kl_1, kl_2, kl_9223372036854775808, ki_add, ki_sub, ki_mul, ki_neg, kl_add, kl_sub, kl_mul, kl_neg, ki_i2l, kl_l2i, ki_lt, ki_le, ki_eq, kcmp_eq, kcmp_lt, kcmp_le, kcmp_gt, kcmp_ge, Option.bind_some, Option.map_some, kbool0, kbool1, if_pos, if_neg, if_true, if_false, Int.neg_neg, Int.sub_zero, Int.add_zero, Int.zero_add, true_and, and_true, false_and, and_false, false_or, or_false, true_or, or_true, ne_eq, not_false_eq_true, not_true_eq_false]
  · simp (disch := omega) only [f_X10_numberAt, b_X10_numberAt_19, kT.ga hT, kT.gc hT, kT.gr hT, kaI (kT.aa hT), kaI (kT.ac hT), kasI (kT.aa hT), kasI (kT.ac hT), krcv (kT.y hT), kT.pr hT, ki_0, ki_1, ki_2, ki_3, ki_4, ki_5, ki_6, ki_7, ki_8, ki_9, ki_10, ki_11, ki_12, ki_13, ki_18, ki_20, ki_24, ki_32, ki_36, ki_45, ki_47, ki_48, ki_50, ki_57, ki_60, ki_63, ki_99, ki_100, ki_101, ki_120, ki_255, ki_468, ki_1000, ki_1024, ki_13849, ki_25173, ki_65535, ki_65536, ki_100000, ki_100001, ki_2147483647, ki_2147483648, kl_0, kl_1, kl_2, kl_9223372036854775808, ki_add, ki_sub, ki_mul, ki_neg, kl_add, kl_sub, kl_mul, kl_neg, ki_i2l, kl_l2i, ki_lt, ki_le, ki_eq, kcmp_eq, kcmp_lt, kcmp_le, kcmp_gt, kcmp_ge, Option.bind_some, Option.map_some, kbool0, kbool1, if_pos, if_neg, if_true, if_false, Int.neg_neg, Int.sub_zero, Int.add_zero, Int.zero_add, true_and, and_true, false_and, and_false, false_or, or_false, true_or, or_true, ne_eq, not_false_eq_true, not_true_eq_false]
set_option maxRecDepth 4000 in
theorem X10_areWhole {Y : jY} {μ : jM} {o : Nat} (hT : kT Y μ o) (hB : kTb μ o) {k : Int} (hk : 0 ≤ k) (hr : k ≤ gi μ o 0) : f_X10_areWhole Y o (ki k) μ = some (ki (if zc (gi μ (o + 1)) (gi μ (o + 2)) 0 k.toNat 41 = k then 1 else 0), μ) := by
  have hb5 := hB.2.1
  have hA := hB.A (fr := 0) (n := k.toNat) (Int.le_refl 0) (by omega)
  have hC := hB.C (fr := 0) (n := k.toNat) (Int.le_refl 0) (by omega)
  have hC1 : ∀ x, 0 ≤ x → x < 0 + (k.toNat : Int) - 1 → 1 ≤ gi μ (o + 2) x := fun x a b => (hC x a b).1
  obtain ⟨n1, n2⟩ := zc_no hA hC
  obtain ⟨r, e, h⟩ : ∃ r, f_X10_areWhole Y o (ki k) μ = some r ∧ r = (ki (if zc (gi μ (o + 1)) (gi μ (o + 2)) 0 k.toNat 41 = k then 1 else 0), μ) := by
    unfold f_X10_areWhole
    refine jit_inv (fun j s => j ≤ 37 ∧ s = (ki (zc (gi μ (o + 1)) (gi μ (o + 2)) 0 k.toNat (j + 2)), ki (-18 + j), μ)) _ 37 ⟨by omega, by rw [n1]; rfl⟩ (by omega) (fun j s _ hs => ?_)
    obtain ⟨hj, rfl⟩ := hs
    obtain ⟨z1, z2⟩ := zc_rng (gi μ (o + 1)) (gi μ (o + 2)) 0 k.toNat (j + 2)
    by_cases hj2 : j = 37
    · subst hj2
      by_cases g : zc (gi μ (o + 1)) (gi μ (o + 2)) 0 k.toNat 39 = k
      · refine ⟨.inr (ki 1, μ), ?_, ?_⟩
        · simp (disch := omega) only [b_X10_areWhole_85, b_X10_areWhole_69, b_X10_areWhole_62, b_X10_areWhole_35, b_X10_areWhole_5, ki_0, ki_1, ki_2, ki_3, ki_4, ki_5, ki_6, ki_7, ki_8, ki_9, ki_10, ki_11, ki_12, ki_13, ki_18, ki_20, ki_24, ki_32, ki_36, ki_45, ki_47, ki_48, ki_50, ki_57, ki_60, ki_63, ki_99, ki_100, ki_101, ki_120, ki_255, ki_468, ki_1000, ki_1024, ki_13849, ki_25173, ki_65535, ki_65536, ki_100000, ki_100001, ki_2147483647, ki_2147483648, kl_0, kl_1, kl_2, kl_9223372036854775808, ki_add, ki_sub, ki_mul, ki_neg, kl_add, kl_sub, kl_mul, kl_neg, ki_i2l, kl_l2i, ki_lt, ki_le, ki_eq, kcmp_eq, kcmp_lt, kcmp_le, kcmp_gt, kcmp_ge, Option.bind_some, Option.map_some, kbool0, kbool1, if_pos, if_neg, if_true, if_false, Int.neg_neg, Int.sub_zero, Int.add_zero, Int.zero_add, true_and, and_true, false_and, and_false, false_or, or_false, true_or, or_true, ne_eq, not_false_eq_true, not_true_eq_false]
        · rw [Sum.elim_inr, ← n2, if_pos g]
      · refine ⟨.inr (ki 0, μ), ?_, ?_⟩
        · simp (disch := omega) only [b_X10_areWhole_85, b_X10_areWhole_69, b_X10_areWhole_62, b_X10_areWhole_35, b_X10_areWhole_5, ki_0, ki_1, ki_2, ki_3, ki_4, ki_5, ki_6, ki_7, ki_8, ki_9, ki_10, ki_11, ki_12, ki_13, ki_18, ki_20, ki_24, ki_32, ki_36, ki_45, ki_47, ki_48, ki_50, ki_57, ki_60, ki_63, ki_99, ki_100, ki_101, ki_120, ki_255, ki_468, ki_1000, ki_1024, ki_13849, ki_25173, ki_65535, ki_65536, ki_100000, ki_100001, ki_2147483647, ki_2147483648, kl_0, kl_1, kl_2, kl_9223372036854775808, ki_add, ki_sub, ki_mul, ki_neg, kl_add, kl_sub, kl_mul, kl_neg, ki_i2l, kl_l2i, ki_lt, ki_le, ki_eq, kcmp_eq, kcmp_lt, kcmp_le, kcmp_gt, kcmp_ge, Option.bind_some, Option.map_some, kbool0, kbool1, if_pos, if_neg, if_true, if_false, Int.neg_neg, Int.sub_zero, Int.add_zero, Int.zero_add, true_and, and_true, false_and, and_false, false_or, or_false, true_or, or_true, ne_eq, not_false_eq_true, not_true_eq_false]
        · rw [Sum.elim_inr, ← n2, if_neg g]
    · have e := X10_valueAt hT hB (fr := 0) (k := k) (p := -18 + j) (q := 1) (by omega) hk (by omega) (by omega) (by omega) (by omega) (by omega)
      obtain ⟨v1, v2⟩ := pv_rng (A := gi μ (o + 1)) (C := gi μ (o + 2)) (p := -18 + j) (q := 1) (fr := 0) (n := k.toNat) hA hC (by omega) (by omega) (by omega) (by omega) (by omega) (i := k.toNat) (by omega)
      have ee : (-20 : Int) + (j + 2 : Nat) = -18 + j := by omega
      have es := zc_succ (gi μ (o + 1)) (gi μ (o + 2)) 0 k.toNat (j + 2)
      rw [ee] at es
      obtain ⟨sp1, sp2⟩ := pv_sign (gi μ (o + 1)) (gi μ (o + 2)) (-18 + j) 1 0 k.toNat
      by_cases hk0 : k = 0
      · subst hk0
        have e0 : (pv (gi μ (o + 1)) (gi μ (o + 2)) (-18 + j) 1 0 0).2 = 1 := rfl
        have zz : ∀ j, zc (gi μ (o + 1)) (gi μ (o + 2)) 0 0 j = 0 := by
          intro j
          induction j with
          | zero => rfl
          | succ j ih => rw [zc_succ, ih]; rfl
        refine ⟨.inl (ki 0, ki (-18 + (j + 1 : Nat)), μ), ?_, by omega, by omega, ?_⟩
        · have ez := zz (j + 2)
          simp only [Int.toNat_zero] at *
          rw [ez]
          rw [e0] at e
          simp (disch := omega) only [b_X10_areWhole_85, b_X10_areWhole_69, b_X10_areWhole_62, b_X10_areWhole_35, b_X10_areWhole_5, e, krem, kT.ga hT, kT.gc hT, kT.gr hT, kaI (kT.aa hT), kaI (kT.ac hT), kasI (kT.aa hT), kasI (kT.ac hT), krcv (kT.y hT), kT.pr hT, ki_0, ki_1, ki_2, ki_3, ki_4, ki_5, ki_6, ki_7, ki_8, ki_9, ki_10, ki_11, ki_12, ki_13, ki_18, ki_20, ki_24, ki_32, ki_36, ki_45, ki_47, ki_48, ki_50, ki_57, ki_60, ki_63, ki_99, ki_100, ki_101, ki_120, ki_255, ki_468, ki_1000, ki_1024, ki_13849, ki_25173, ki_65535, ki_65536, ki_100000, ki_100001, ki_2147483647, ki_2147483648, kl_0, kl_1, kl_2, kl_9223372036854775808, ki_add, ki_sub, ki_mul, ki_neg, kl_add, kl_sub, kl_mul, kl_neg, ki_i2l, kl_l2i, ki_lt, ki_le, ki_eq, kcmp_eq, kcmp_lt, kcmp_le, kcmp_gt, kcmp_ge, Option.bind_some, Option.map_some, kbool0, kbool1, if_pos, if_neg, if_true, if_false, Int.neg_neg, Int.sub_zero, Int.add_zero, Int.zero_add, true_and, and_true, false_and, and_false, false_or, or_false, true_or, or_true, ne_eq, not_false_eq_true, not_true_eq_false, Int.natCast_add, Int.natCast_one, Int.add_assoc, Int.sub_self, Int.zero_emod]
        · rw [Int.toNat_zero, zz]
      have d1 := zc_rb (A := gi μ (o + 1)) (C := gi μ (o + 2)) (fr := 0) (k := k.toNat) (by omega) hC1 (a := 0) (j + 2)
      have d2 := zc_rb (A := gi μ (o + 1)) (C := gi μ (o + 2)) (fr := 0) (k := k.toNat) (by omega) hC1 (a := j + 2) (39 - j)
      have f1 := (rb_near (A := gi μ (o + 1)) (C := gi μ (o + 2)) (p := -20 + (0 : Nat)) (q := 1) (fr := 0) (k := k.toNat) (by omega) (by omega) hA hC).1
      have f2 := (rb_far (A := gi μ (o + 1)) (C := gi μ (o + 2)) (p := -20 + (j + 2 + (39 - j) : Nat)) (q := 1) (fr := 0) (k := k.toNat) (by omega) (by omega) hA hC).1
      have e41 : j + 2 + (39 - j) = 41 := by omega
      rw [e41] at d2 f2
      rw [Nat.zero_add, ee] at d1
      rw [ee] at d2
      have z0 : zc (gi μ (o + 1)) (gi μ (o + 2)) 0 k.toNat 0 = 0 := rfl
      have d3 : zc (gi μ (o + 1)) (gi μ (o + 2)) 0 k.toNat (j + 2) ≤ k := by
        have := (rb_rng (gi μ (o + 1)) (gi μ (o + 2)) (-18 + j) 1 0 k.toNat).2
        omega
      have emod : (k - zc (gi μ (o + 1)) (gi μ (o + 2)) 0 k.toNat (j + 2)) % 2 = 0 ∨ (k - zc (gi μ (o + 1)) (gi μ (o + 2)) 0 k.toNat (j + 2)) % 2 = 1 := by omega
      rcases Int.lt_trichotomy (pv (gi μ (o + 1)) (gi μ (o + 2)) (-18 + j) 1 0 k.toNat).2 0 with hv | hv | hv
      · rw [if_neg (by omega)] at es
        rcases emod with hm | hm
        · refine ⟨.inr (ki 0, μ), ?_, ?_⟩
          · simp (disch := omega) only [b_X10_areWhole_85, b_X10_areWhole_69, b_X10_areWhole_62, b_X10_areWhole_35, b_X10_areWhole_5, e, krem, hm, kT.ga hT, kT.gc hT, kT.gr hT, kaI (kT.aa hT), kaI (kT.ac hT), kasI (kT.aa hT), kasI (kT.ac hT), krcv (kT.y hT), kT.pr hT, ki_0, ki_1, ki_2, ki_3, ki_4, ki_5, ki_6, ki_7, ki_8, ki_9, ki_10, ki_11, ki_12, ki_13, ki_18, ki_20, ki_24, ki_32, ki_36, ki_45, ki_47, ki_48, ki_50, ki_57, ki_60, ki_63, ki_99, ki_100, ki_101, ki_120, ki_255, ki_468, ki_1000, ki_1024, ki_13849, ki_25173, ki_65535, ki_65536, ki_100000, ki_100001, ki_2147483647, ki_2147483648, kl_0, kl_1, kl_2, kl_9223372036854775808, ki_add, ki_sub, ki_mul, ki_neg, kl_add, kl_sub, kl_mul, kl_neg, ki_i2l, kl_l2i, ki_lt, ki_le, ki_eq, kcmp_eq, kcmp_lt, kcmp_le, kcmp_gt, kcmp_ge, Option.bind_some, Option.map_some, kbool0, kbool1, if_pos, if_neg, if_true, if_false, Int.neg_neg, Int.sub_zero, Int.add_zero, Int.zero_add, true_and, and_true, false_and, and_false, false_or, or_false, true_or, or_true, ne_eq, not_false_eq_true, not_true_eq_false]
          · rw [Sum.elim_inr, if_neg]
            intro hw
            have : (rb (gi μ (o + 1)) (gi μ (o + 2)) (-18 + j) 1 0 k.toNat).1 = zc (gi μ (o + 1)) (gi μ (o + 2)) 0 k.toNat (j + 2) := by omega
            rw [this] at sp1
            have := sp1 (by omega)
            omega
        · refine ⟨.inl (ki (zc (gi μ (o + 1)) (gi μ (o + 2)) 0 k.toNat (j + 2)), ki (-18 + (j + 1 : Nat)), μ), ?_, by omega, by omega, ?_⟩
          · simp (disch := omega) only [b_X10_areWhole_85, b_X10_areWhole_69, b_X10_areWhole_62, b_X10_areWhole_35, b_X10_areWhole_5, e, krem, hm, kT.ga hT, kT.gc hT, kT.gr hT, kaI (kT.aa hT), kaI (kT.ac hT), kasI (kT.aa hT), kasI (kT.ac hT), krcv (kT.y hT), kT.pr hT, ki_0, ki_1, ki_2, ki_3, ki_4, ki_5, ki_6, ki_7, ki_8, ki_9, ki_10, ki_11, ki_12, ki_13, ki_18, ki_20, ki_24, ki_32, ki_36, ki_45, ki_47, ki_48, ki_50, ki_57, ki_60, ki_63, ki_99, ki_100, ki_101, ki_120, ki_255, ki_468, ki_1000, ki_1024, ki_13849, ki_25173, ki_65535, ki_65536, ki_100000, ki_100001, ki_2147483647, ki_2147483648, kl_0, kl_1, kl_2, kl_9223372036854775808, ki_add, ki_sub, ki_mul, ki_neg, kl_add, kl_sub, kl_mul, kl_neg, ki_i2l, kl_l2i, ki_lt, ki_le, ki_eq, kcmp_eq, kcmp_lt, kcmp_le, kcmp_gt, kcmp_ge, Option.bind_some, Option.map_some, kbool0, kbool1, if_pos, if_neg, if_true, if_false, Int.neg_neg, Int.sub_zero, Int.add_zero, Int.zero_add, true_and, and_true, false_and, and_false, false_or, or_false, true_or, or_true, ne_eq, not_false_eq_true, not_true_eq_false, Int.natCast_add, Int.natCast_one, Int.add_assoc]
          · rw [show j + 1 + 2 = j + 2 + 1 from by omega, es, Int.add_zero]
      · rw [if_pos hv] at es
        refine ⟨.inl (ki (zc (gi μ (o + 1)) (gi μ (o + 2)) 0 k.toNat (j + 2) + 1), ki (-18 + (j + 1 : Nat)), μ), ?_, by omega, by omega, ?_⟩
        · rw [hv] at e
          rcases emod with hm | hm <;> simp (disch := omega) only [b_X10_areWhole_85, b_X10_areWhole_69, b_X10_areWhole_62, b_X10_areWhole_35, b_X10_areWhole_5, e, krem, hm, kT.ga hT, kT.gc hT, kT.gr hT, kaI (kT.aa hT), kaI (kT.ac hT), kasI (kT.aa hT), kasI (kT.ac hT), krcv (kT.y hT), kT.pr hT, ki_0, ki_1, ki_2, ki_3, ki_4, ki_5, ki_6, ki_7, ki_8, ki_9, ki_10, ki_11, ki_12, ki_13, ki_18, ki_20, ki_24, ki_32, ki_36, ki_45, ki_47, ki_48, ki_50, ki_57, ki_60, ki_63, ki_99, ki_100, ki_101, ki_120, ki_255, ki_468, ki_1000, ki_1024, ki_13849, ki_25173, ki_65535, ki_65536, ki_100000, ki_100001, ki_2147483647, ki_2147483648, kl_0, kl_1, kl_2, kl_9223372036854775808, ki_add, ki_sub, ki_mul, ki_neg, kl_add, kl_sub, kl_mul, kl_neg, ki_i2l, kl_l2i, ki_lt, ki_le, ki_eq, kcmp_eq, kcmp_lt, kcmp_le, kcmp_gt, kcmp_ge, Option.bind_some, Option.map_some, kbool0, kbool1, if_pos, if_neg, if_true, if_false, Int.neg_neg, Int.sub_zero, Int.add_zero, Int.zero_add, true_and, and_true, false_and, and_false, false_or, or_false, true_or, or_true, ne_eq, not_false_eq_true, not_true_eq_false, Int.natCast_add, Int.natCast_one, Int.add_assoc]
        · rw [show j + 1 + 2 = j + 2 + 1 from by omega, es]
      · rw [if_neg (by omega)] at es
        rcases emod with hm | hm
        · refine ⟨.inl (ki (zc (gi μ (o + 1)) (gi μ (o + 2)) 0 k.toNat (j + 2)), ki (-18 + (j + 1 : Nat)), μ), ?_, by omega, by omega, ?_⟩
          · simp (disch := omega) only [b_X10_areWhole_85, b_X10_areWhole_69, b_X10_areWhole_62, b_X10_areWhole_35, b_X10_areWhole_5, e, krem, hm, kT.ga hT, kT.gc hT, kT.gr hT, kaI (kT.aa hT), kaI (kT.ac hT), kasI (kT.aa hT), kasI (kT.ac hT), krcv (kT.y hT), kT.pr hT, ki_0, ki_1, ki_2, ki_3, ki_4, ki_5, ki_6, ki_7, ki_8, ki_9, ki_10, ki_11, ki_12, ki_13, ki_18, ki_20, ki_24, ki_32, ki_36, ki_45, ki_47, ki_48, ki_50, ki_57, ki_60, ki_63, ki_99, ki_100, ki_101, ki_120, ki_255, ki_468, ki_1000, ki_1024, ki_13849, ki_25173, ki_65535, ki_65536, ki_100000, ki_100001, ki_2147483647, ki_2147483648, kl_0, kl_1, kl_2, kl_9223372036854775808, ki_add, ki_sub, ki_mul, ki_neg, kl_add, kl_sub, kl_mul, kl_neg, ki_i2l, kl_l2i, ki_lt, ki_le, ki_eq, kcmp_eq, kcmp_lt, kcmp_le, kcmp_gt, kcmp_ge, Option.bind_some, Option.map_some, kbool0, kbool1, if_pos, if_neg, if_true, if_false, Int.neg_neg, Int.sub_zero, Int.add_zero, Int.zero_add, true_and, and_true, false_and, and_false, false_or, or_false, true_or, or_true, ne_eq, not_false_eq_true, not_true_eq_false, Int.natCast_add, Int.natCast_one, Int.add_assoc]
          · rw [show j + 1 + 2 = j + 2 + 1 from by omega, es, Int.add_zero]
        · refine ⟨.inr (ki 0, μ), ?_, ?_⟩
          · simp (disch := omega) only [b_X10_areWhole_85, b_X10_areWhole_69, b_X10_areWhole_62, b_X10_areWhole_35, b_X10_areWhole_5, e, krem, hm, kT.ga hT, kT.gc hT, kT.gr hT, kaI (kT.aa hT), kaI (kT.ac hT), kasI (kT.aa hT), kasI (kT.ac hT), krcv (kT.y hT), kT.pr hT, ki_0, ki_1, ki_2, ki_3, ki_4, ki_5, ki_6, ki_7, ki_8, ki_9, ki_10, ki_11, ki_12, ki_13, ki_18, ki_20, ki_24, ki_32, ki_36, ki_45, ki_47, ki_48, ki_50, ki_57, ki_60, ki_63, ki_99, ki_100, ki_101, ki_120, ki_255, ki_468, ki_1000, ki_1024, ki_13849, ki_25173, ki_65535, ki_65536, ki_100000, ki_100001, ki_2147483647, ki_2147483648, kl_0, kl_1, kl_2, kl_9223372036854775808, ki_add, ki_sub, ki_mul, ki_neg, kl_add, kl_sub, kl_mul, kl_neg, ki_i2l, kl_l2i, ki_lt, ki_le, ki_eq, kcmp_eq, kcmp_lt, kcmp_le, kcmp_gt, kcmp_ge, Option.bind_some, Option.map_some, kbool0, kbool1, if_pos, if_neg, if_true, if_false, Int.neg_neg, Int.sub_zero, Int.add_zero, Int.zero_add, true_and, and_true, false_and, and_false, false_or, or_false, true_or, or_true, ne_eq, not_false_eq_true, not_true_eq_false]
          · rw [Sum.elim_inr, if_neg]
            intro hw
            have : (rb (gi μ (o + 1)) (gi μ (o + 2)) (-18 + j) 1 0 k.toNat).1 = zc (gi μ (o + 1)) (gi μ (o + 2)) 0 k.toNat (j + 2) := by omega
            rw [this] at sp2
            have := sp2 (by omega)
            omega
  rw [e, h]
