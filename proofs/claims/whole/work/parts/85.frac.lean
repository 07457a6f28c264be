/-! FRACTIONS in lowest terms: the common divisor, setting -/
def okb (x : Int) : Prop := -4611686018427387904 ≤ x ∧ x ≤ 4611686018427387904
theorem kdivL {a b : Int} (ha : okb a) (hb : okb b) (h0 : b ≠ 0) : jdivL (kl a) (kl b) = some (kl (a.tdiv b)) := by
  unfold okb at ha hb
  unfold jdivL
  have e : ¬ kl b = 0 := by
    rw [kl_0, kl_eq (by omega) (by omega) (by omega) (by omega)]
    exact h0
  rw [if_neg e]
  have h := Int64.ofInt_tdiv (a := a) (b := b) (by show -9223372036854775808 ≤ a; omega) (by show a ≤ 9223372036854775807; omega) (by show -9223372036854775808 ≤ b; omega) (by show b ≤ 9223372036854775807; omega)
  rw [show kl a / kl b = kl (a.tdiv b) from h.symm]
theorem kremL {a b : Nat} (ha : a ≤ 4611686018427387904) (hb : b ≤ 4611686018427387904) (h0 : 0 < b) : jremL (kl a) (kl b) = some (kl ((a % b : Nat) : Int)) := by
  have h := kdivL (a := a) (b := b) ⟨by omega, by omega⟩ ⟨by omega, by omega⟩ (by omega)
  unfold jdivL at h
  unfold jremL
  have e : ¬ kl (b : Int) = 0 := by
    rw [kl_0, kl_eq (by omega) (by omega) (by omega) (by omega)]
    omega
  rw [if_neg e] at h ⊢
  rw [Option.some.inj h, kl_mul, kl_sub]
  congr 2
  rw [Int.tdiv_eq_ediv_of_nonneg (by omega)]
  have := Int.emod_add_mul_ediv (a : Int) (b : Int)
  have h5 : (a : Int) / b * b = b * ((a : Int) / b) := Int.mul_comm _ _
  rw [Int.natCast_emod]
  omega
theorem kabsL {a : Int} (ha : okb a) : jabsL (kl a) = kl (a.natAbs : Int) := by
  unfold okb at ha
  unfold jabsL
  rw [kl_0]
  have q : (kl 0 < kl a) = (0 < a) := kl_lt (by omega) (by omega) (by omega) (by omega)
  by_cases e : 0 < a
  · rw [if_pos (by rw [q]; exact e), show ((a.natAbs : Nat) : Int) = a by omega]
  · rw [if_neg (by rw [q]; exact e), kl_neg, show ((a.natAbs : Nat) : Int) = -a by omega]
theorem kmaxL {a : Nat} (ha : a ≤ 4611686018427387904) : jmaxL (kl 1) (kl a) = kl ((max 1 a : Nat) : Int) := by
  unfold jmaxL
  have q : (kl (a : Int) < kl 1) = ((a : Int) < 1) := kl_lt (by omega) (by omega) (by omega) (by omega)
  by_cases e : (a : Int) < 1
  · rw [if_pos (by rw [q]; exact e), show max 1 a = 1 by omega]
    rfl
  · rw [if_neg (by rw [q]; exact e), show max 1 a = a by omega]
def fp : Nat → Nat × Nat
  | 0 => (0, 1)
  | n + 1 => ((fp n).2, (fp n).1 + (fp n).2)
/-- how far the dividing has come, behind i steps -/
def eu (M g i h l : Nat) : Prop := Nat.gcd h l = g ∧ h ≤ M ∧ l ≤ M ∧ (i = 0 ∨ (1 ≤ i ∧ l < h ∧ (fp i).1 * h + (fp (i - 1)).1 * l ≤ M))
theorem eu.next {M g i h l : Nat} (e : eu M g i h l) (l0 : 0 < l) : eu M g (i + 1) l (h % l) := by
  obtain ⟨e1, e2, e3, e4⟩ := e
  have r := Nat.mod_lt h l0
  refine ⟨?_, e3, by omega, Or.inr ⟨by omega, r, ?_⟩⟩
  · rw [← e1, Nat.gcd_comm h l, Nat.gcd_rec l h, Nat.gcd_comm]
  · rcases e4 with rfl | ⟨i1, e4, e5⟩
    · show 1 * l + 0 * (h % l) ≤ M
      omega
    · have q : l + h % l ≤ h := by
        have d := Nat.div_add_mod h l
        have d1 : 1 ≤ h / l := Nat.div_pos (by omega) l0
        have d2 : l * 1 ≤ l * (h / l) := Nat.mul_le_mul_left l d1
        omega
      obtain ⟨j, rfl⟩ : ∃ j, i = j + 1 := ⟨i - 1, by omega⟩
      simp only [Nat.add_sub_cancel] at e5 ⊢
      have f : (fp (j + 1 + 1)).1 = (fp j).1 + (fp (j + 1)).1 := rfl
      rw [f, Nat.add_mul]
      have m : (fp (j + 1)).1 * (l + h % l) ≤ (fp (j + 1)).1 * h := Nat.mul_le_mul_left _ q
      rw [Nat.mul_add] at m
      omega
theorem eu.stop {g h l : Nat} (e : eu 4611686018427387904 g 100 h l) : l = 0 := by
  obtain ⟨e1, e2, e3, e4⟩ := e
  rcases e4 with h0 | ⟨_, e4, e5⟩
  · exact absurd h0 (by omega)
  · have f : 4611686018427387904 < (fp 100).1 := by decide +kernel
    have : (fp 100).1 * 1 ≤ (fp 100).1 * h := Nat.mul_le_mul_left _ (by omega)
    omega
def cd (a b : Int) : Nat := max 1 (Nat.gcd a.natAbs b.natAbs)
theorem eu_jit {ρ : Type} {f : Int64 × Int64 × Int32 × jM → Option ((Int64 × Int64 × Int32 × jM) ⊕ ρ)} {μ : jM} {a b : Nat} (ha : a ≤ 4611686018427387904) (hb : b ≤ 4611686018427387904) {r : ρ} (step : ∀ i h l : Nat, i < 100 → h ≤ 4611686018427387904 → l ≤ 4611686018427387904 → 0 < l → f (kl h, kl l, ki i, μ) = some (.inl (kl l, kl ((h % l : Nat) : Int), ki ((i + 1 : Nat) : Int), μ))) (last : ∀ i : Nat, i ≤ 100 → f (kl (Nat.gcd a b : Int), kl 0, ki i, μ) = some (.inr r)) : jit jF f (kl a, kl b, ki 0, μ) = some r := by
  obtain ⟨x, e, h⟩ := jit_inv (f := f) (fun i s => ∃ h l : Nat, s = (kl h, kl l, ki i, μ) ∧ eu 4611686018427387904 (Nat.gcd a b) i h l) (fun x => x = r) 100 (s := (kl a, kl b, ki 0, μ)) ⟨a, b, rfl, rfl, ha, hb, Or.inl rfl⟩ (by omega) (fun i s hi hs => by
    obtain ⟨h, l, rfl, hu⟩ := hs
    by_cases l0 : l = 0
    · subst l0
      have g : h = Nat.gcd a b := by
        have := hu.1
        rw [Nat.gcd_zero_right] at this
        exact this
      rw [g]
      exact ⟨.inr r, last i hi, rfl⟩
    · have i100 : i ≠ 100 := by
        intro q
        subst q
        exact l0 hu.stop
      exact ⟨_, step i h l (by omega) hu.2.1 hu.2.2.1 (by omega), by omega, l, h % l, rfl, hu.next (by omega)⟩)
  rw [e, h]
theorem X1_commonDivisor {Y : jY} {μ : jM} {a b : Int} (ha : okb a) (hb : okb b) : f_X1_commonDivisor Y (kl a) (kl b) μ = some (kl (cd a b), μ) := by
  have e1 := kabsL ha
  have e2 := kabsL hb
  unfold okb at ha hb
  simp only [f_X1_commonDivisor, e1, e2]
  have gb : Nat.gcd a.natAbs b.natAbs ≤ 4611686018427387904 := by
    by_cases z : a.natAbs = 0
    · rw [z, Nat.gcd_zero_left]; omega
    · have := Nat.gcd_le_left b.natAbs (show 0 < a.natAbs by omega)
      omega
  refine eu_jit (a := a.natAbs) (b := b.natAbs) (by omega) (by omega) (fun i h l hi hh hl l0 => ?_) (fun i hi => ?_)
  · have q := kremL hh hl l0
    simp (disch := omega) only [b_X1_commonDivisor_15, q, ki_0, ki_1, ki_2, ki_3, ki_4, ki_5, ki_6, ki_7, ki_8, ki_9, ki_10, ki_11, ki_12, ki_13, ki_18, ki_20, ki_24, ki_32, ki_36, ki_45, ki_47, ki_48, ki_50, ki_57, ki_60, ki_63, ki_99, ki_100, ki_101, ki_120, ki_255, ki_468, ki_1000, ki_1024, ki_13849, ki_25173, ki_65535, ki_65536, ki_100000, ki_100001, ki_2147483647, ki_2147483648, kl_0, kl_1, kl_2, kl_9223372036854775808, ki_add, ki_sub, ki_mul, ki_neg, kl_add, kl_sub, kl_mul, kl_neg, ki_i2l, kl_l2i, ki_lt, ki_le, ki_eq, kcmp_eq, kcmp_lt, kcmp_le, kcmp_gt, kcmp_ge, Option.bind_some, Option.map_some, kbool0, kbool1, if_pos, if_neg, if_true, if_false, Int.neg_neg, Int.sub_zero, Int.add_zero, Int.zero_add, true_and, and_true, false_and, and_false, false_or, or_false, true_or, or_true, ne_eq, not_false_eq_true, not_true_eq_false, Int.natCast_add, Int.natCast_one]
  · have q := kmaxL gb
    by_cases h : i = 100
    · subst h
      simp (disch := omega) only [b_X1_commonDivisor_15, b_X1_commonDivisor_50, ki_0, ki_1, ki_2, ki_3, ki_4, ki_5, ki_6, ki_7, ki_8, ki_9, ki_10, ki_11, ki_12, ki_13, ki_18, ki_20, ki_24, ki_32, ki_36, ki_45, ki_47, ki_48, ki_50, ki_57, ki_60, ki_63, ki_99, ki_100, ki_101, ki_120, ki_255, ki_468, ki_1000, ki_1024, ki_13849, ki_25173, ki_65535, ki_65536, ki_100000, ki_100001, ki_2147483647, ki_2147483648, kl_0, kl_1, kl_2, kl_9223372036854775808, ki_add, ki_sub, ki_mul, ki_neg, kl_add, kl_sub, kl_mul, kl_neg, ki_i2l, kl_l2i, ki_lt, ki_le, ki_eq, kcmp_eq, kcmp_lt, kcmp_le, kcmp_gt, kcmp_ge, Option.bind_some, Option.map_some, kbool0, kbool1, if_pos, if_neg, if_true, if_false, Int.neg_neg, Int.sub_zero, Int.add_zero, Int.zero_add, true_and, and_true, false_and, and_false, false_or, or_false, true_or, or_true, ne_eq, not_false_eq_true, not_true_eq_false, q]
      rfl
    · simp (disch := omega) only [b_X1_commonDivisor_15, b_X1_commonDivisor_50, ki_0, ki_1, ki_2, ki_3, ki_4, ki_5, ki_6, ki_7, ki_8, ki_9, ki_10, ki_11, ki_12, ki_13, ki_18, ki_20, ki_24, ki_32, ki_36, ki_45, ki_47, ki_48, ki_50, ki_57, ki_60, ki_63, ki_99, ki_100, ki_101, ki_120, ki_255, ki_468, ki_1000, ki_1024, ki_13849, ki_25173, ki_65535, ki_65536, ki_100000, ki_100001, ki_2147483647, ki_2147483648, kl_0, kl_1, kl_2, kl_9223372036854775808, ki_add, ki_sub, ki_mul, ki_neg, kl_add, kl_sub, kl_mul, kl_neg, ki_i2l, kl_l2i, ki_lt, ki_le, ki_eq, kcmp_eq, kcmp_lt, kcmp_le, kcmp_gt, kcmp_ge, Option.bind_some, Option.map_some, kbool0, kbool1, if_pos, if_neg, if_true, if_false, Int.neg_neg, Int.sub_zero, Int.add_zero, Int.zero_add, true_and, and_true, false_and, and_false, false_or, or_false, true_or, or_true, ne_eq, not_false_eq_true, not_true_eq_false, q]
      rfl
theorem X12_common {Y : jY} {μ : jM} {a b : Int} (ha : okb a) (hb : okb b) : f_X12_common Y (kl a) (kl b) μ = some (kl (Nat.gcd a.natAbs b.natAbs), μ) := by
  unfold okb at ha hb
  have main : b_X12_common_26 Y (kl a.natAbs) (kl b.natAbs) μ = some (kl (Nat.gcd a.natAbs b.natAbs), μ) := by
    unfold b_X12_common_26
    obtain ⟨x, e, h⟩ := jit_inv (f := fun (s : Int64 × Int64 × jM) => b_X12_common_28 Y s.1 s.2.1 s.2.2) (fun i s => ∃ h l : Nat, s = (kl h, kl l, μ) ∧ eu 4611686018427387904 (Nat.gcd a.natAbs b.natAbs) i h l) (fun x => x = (kl (Nat.gcd a.natAbs b.natAbs), μ)) 100 (s := (kl a.natAbs, kl b.natAbs, μ)) ⟨_, _, rfl, rfl, by omega, by omega, Or.inl rfl⟩ (by omega) (fun i s hi hs => by
      obtain ⟨h, l, rfl, hu⟩ := hs
      have hh := hu.2.1
      have hl := hu.2.2.1
      by_cases l0 : l = 0
      · subst l0
        have g : h = Nat.gcd a.natAbs b.natAbs := by
          have := hu.1
          rw [Nat.gcd_zero_right] at this
          exact this
        refine ⟨.inr (kl h, μ), ?_, by rw [g]; rfl⟩
        simp (disch := omega) only [b_X12_common_28, ki_0, ki_1, ki_2, ki_3, ki_4, ki_5, ki_6, ki_7, ki_8, ki_9, ki_10, ki_11, ki_12, ki_13, ki_18, ki_20, ki_24, ki_32, ki_36, ki_45, ki_47, ki_48, ki_50, ki_57, ki_60, ki_63, ki_99, ki_100, ki_101, ki_120, ki_255, ki_468, ki_1000, ki_1024, ki_13849, ki_25173, ki_65535, ki_65536, ki_100000, ki_100001, ki_2147483647, ki_2147483648, kl_0, kl_1, kl_2, kl_9223372036854775808, ki_add, ki_sub, ki_mul, ki_neg, kl_add, kl_sub, kl_mul, kl_neg, ki_i2l, kl_l2i, ki_lt, ki_le, ki_eq, kcmp_eq, kcmp_lt, kcmp_le, kcmp_gt, kcmp_ge, Option.bind_some, Option.map_some, kbool0, kbool1, if_pos, if_neg, if_true, if_false, Int.neg_neg, Int.sub_zero, Int.add_zero, Int.zero_add, true_and, and_true, false_and, and_false, false_or, or_false, true_or, or_true, ne_eq, not_false_eq_true, not_true_eq_false]
      · have i100 : i ≠ 100 := by
          intro q
          subst q
          exact l0 hu.stop
        have q := kremL hh hl (by omega)
        refine ⟨.inl (kl l, kl ((h % l : Nat) : Int), μ), ?_, by omega, l, h % l, rfl, hu.next (by omega)⟩
        simp (disch := omega) only [b_X12_common_28, q, ki_0, ki_1, ki_2, ki_3, ki_4, ki_5, ki_6, ki_7, ki_8, ki_9, ki_10, ki_11, ki_12, ki_13, ki_18, ki_20, ki_24, ki_32, ki_36, ki_45, ki_47, ki_48, ki_50, ki_57, ki_60, ki_63, ki_99, ki_100, ki_101, ki_120, ki_255, ki_468, ki_1000, ki_1024, ki_13849, ki_25173, ki_65535, ki_65536, ki_100000, ki_100001, ki_2147483647, ki_2147483648, kl_0, kl_1, kl_2, kl_9223372036854775808, ki_add, ki_sub, ki_mul, ki_neg, kl_add, kl_sub, kl_mul, kl_neg, ki_i2l, kl_l2i, ki_lt, ki_le, ki_eq, kcmp_eq, kcmp_lt, kcmp_le, kcmp_gt, kcmp_ge, Option.bind_some, Option.map_some, kbool0, kbool1, if_pos, if_neg, if_true, if_false, Int.neg_neg, Int.sub_zero, Int.add_zero, Int.zero_add, true_and, and_true, false_and, and_false, false_or, or_false, true_or, or_true, ne_eq, not_false_eq_true, not_true_eq_false])
    rw [e, h]
  by_cases p : 0 ≤ a
  · rw [show ((a.natAbs : Nat) : Int) = a by omega] at main
    by_cases q : 0 ≤ b
    · rw [show ((b.natAbs : Nat) : Int) = b by omega] at main
      simp (disch := omega) only [f_X12_common, b_X12_common_12, ki_0, ki_1, ki_2, ki_3, ki_4, ki_5, ki_6, ki_7, ki_8, ki_9, ki_10, ki_11, ki_12, ki_13, ki_18, ki_20, ki_24, ki_32, ki_36, ki_45, ki_47, ki_48, ki_50, ki_57, ki_60, ki_63, ki_99, ki_100, ki_101, ki_120, ki_255, ki_468, ki_1000, ki_1024, ki_13849, ki_25173, ki_65535, ki_65536, ki_100000, ki_100001, ki_2147483647, ki_2147483648, kl_0, kl_1, kl_2, kl_9223372036854775808, ki_add, ki_sub, ki_mul, ki_neg, kl_add, kl_sub, kl_mul, kl_neg, ki_i2l, kl_l2i, ki_lt, ki_le, ki_eq, kcmp_eq, kcmp_lt, kcmp_le, kcmp_gt, kcmp_ge, Option.bind_some, Option.map_some, kbool0, kbool1, if_pos, if_neg, if_true, if_false, Int.neg_neg, Int.sub_zero, Int.add_zero, Int.zero_add, true_and, and_true, false_and, and_false, false_or, or_false, true_or, or_true, ne_eq, not_false_eq_true, not_true_eq_false, main]
    · rw [show ((b.natAbs : Nat) : Int) = -b by omega] at main
      simp (disch := omega) only [f_X12_common, b_X12_common_12, ki_0, ki_1, ki_2, ki_3, ki_4, ki_5, ki_6, ki_7, ki_8, ki_9, ki_10, ki_11, ki_12, ki_13, ki_18, ki_20, ki_24, ki_32, ki_36, ki_45, ki_47, ki_48, ki_50, ki_57, ki_60, ki_63, ki_99, ki_100, ki_101, ki_120, ki_255, ki_468, ki_1000, ki_1024, ki_13849, ki_25173, ki_65535, ki_65536, ki_100000, ki_100001, ki_2147483647, ki_2147483648, kl_0, kl_1, kl_2, kl_9223372036854775808, ki_add, ki_sub, ki_mul, ki_neg, kl_add, kl_sub, kl_mul, kl_neg, ki_i2l, kl_l2i, ki_lt, ki_le, ki_eq, kcmp_eq, kcmp_lt, kcmp_le, kcmp_gt, kcmp_ge, Option.bind_some, Option.map_some, kbool0, kbool1, if_pos, if_neg, if_true, if_false, Int.neg_neg, Int.sub_zero, Int.add_zero, Int.zero_add, true_and, and_true, false_and, and_false, false_or, or_false, true_or, or_true, ne_eq, not_false_eq_true, not_true_eq_false, main]
  · rw [show ((a.natAbs : Nat) : Int) = -a by omega] at main
    by_cases q : 0 ≤ b
    · rw [show ((b.natAbs : Nat) : Int) = b by omega] at main
      simp (disch := omega) only [f_X12_common, b_X12_common_12, ki_0, ki_1, ki_2, ki_3, ki_4, ki_5, ki_6, ki_7, ki_8, ki_9, ki_10, ki_11, ki_12, ki_13, ki_18, ki_20, ki_24, ki_32, ki_36, ki_45, ki_47, ki_48, ki_50, ki_57, ki_60, ki_63, ki_99, ki_100, ki_101, ki_120, ki_255, ki_468, ki_1000, ki_1024, ki_13849, ki_25173, ki_65535, ki_65536, ki_100000, ki_100001, ki_2147483647, ki_2147483648, kl_0, kl_1, kl_2, kl_9223372036854775808, ki_add, ki_sub, ki_mul, ki_neg, kl_add, kl_sub, kl_mul, kl_neg, ki_i2l, kl_l2i, ki_lt, ki_le, ki_eq, kcmp_eq, kcmp_lt, kcmp_le, kcmp_gt, kcmp_ge, Option.bind_some, Option.map_some, kbool0, kbool1, if_pos, if_neg, if_true, if_false, Int.neg_neg, Int.sub_zero, Int.add_zero, Int.zero_add, true_and, and_true, false_and, and_false, false_or, or_false, true_or, or_true, ne_eq, not_false_eq_true, not_true_eq_false, main]
    · rw [show ((b.natAbs : Nat) : Int) = -b by omega] at main
      simp (disch := omega) only [f_X12_common, b_X12_common_12, ki_0, ki_1, ki_2, ki_3, ki_4, ki_5, ki_6, ki_7, ki_8, ki_9, ki_10, ki_11, ki_12, ki_13, ki_18, ki_20, ki_24, ki_32, ki_36, ki_45, ki_47, ki_48, ki_50, ki_57, ki_60, ki_63, ki_99, ki_100, ki_101, ki_120, ki_255, ki_468, ki_1000, ki_1024, ki_13849, ki_25173, ki_65535, ki_65536, ki_100000, ki_100001, ki_2147483647, ki_2147483648, kl_0, kl_1, kl_2, kl_9223372036854775808, ki_add, ki_sub, ki_mul, ki_neg, kl_add, kl_sub, kl_mul, kl_neg, ki_i2l, kl_l2i, ki_lt, ki_le, ki_eq, kcmp_eq, kcmp_lt, kcmp_le, kcmp_gt, kcmp_ge, Option.bind_some, Option.map_some, kbool0, kbool1, if_pos, if_neg, if_true, if_false, Int.neg_neg, Int.sub_zero, Int.add_zero, Int.zero_add, true_and, and_true, false_and, and_false, false_or, or_false, true_or, or_true, ne_eq, not_false_eq_true, not_true_eq_false, main]
