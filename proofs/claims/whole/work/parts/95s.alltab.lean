/-! ALL TABLES: the class makes one of a code, or none -/
def smF (f : Int → Int) : Nat → Int
  | 0 => 0
  | i + 1 => smF f i + f i
def qB (a : Int → Int) (i : Int) : Nat → Int
  | 0 => 0
  | j + 1 => qB a i j + a i * a j
def pA (a : Int → Int) : Nat → Int
  | 0 => 0
  | i + 1 => pA a i + qB a i i
def atI (μ : jM) (N : Nat) (U W : Int → Int) : Prop := gi μ 72 1 = (N : Int) ∧ rowK μ 76 ((N : Int) + 1) U ∧ rowK μ 77 (N : Int) W ∧ gi μ 73 0 = (N : Int)
theorem atI.to {μ ν : jM} {N : Nat} {U W : Int → Int} (h : atI μ N U W) (k : kF 74 76 μ ν) : atI ν N U W := ⟨by rw [k.gi (by omega)]; exact h.1, h.2.1.to k (by omega), h.2.2.1.to k (by omega), by rw [k.gi (by omega)]; exact h.2.2.2⟩
theorem kl_6 : (6 : Int64) = kl 6 := rfl
theorem kl_36 : (36 : Int64) = kl 36 := rfl
theorem smF_bd {f : Int → Int} : ∀ n : Nat, (∀ i : Nat, i < n → -6 ≤ f i ∧ f i ≤ 36) → -(6 * n) ≤ smF f n ∧ smF f n ≤ 36 * n := by
  intro n
  induction n with
  | zero => intro _; exact ⟨by simp [smF], by simp [smF]⟩
  | succ n ih =>
    intro h
    have a := ih (fun i hi => h i (by omega))
    have b := h n (by omega)
    rw [smF]
    omega
theorem qB_bd {a : Int → Int} {i : Int} (hi : -6 ≤ a i ∧ a i ≤ 6) : ∀ n : Nat, (∀ j : Nat, j < n → -6 ≤ a j ∧ a j ≤ 6) → -(36 * n) ≤ qB a i n ∧ qB a i n ≤ 36 * n := by
  intro n
  induction n with
  | zero => intro _; exact ⟨by simp [qB], by simp [qB]⟩
  | succ n ih =>
    intro h
    have x := ih (fun j hj => h j (by omega))
    have y := h n (by omega)
    have z := mulB (a := a i) (b := a n) (A := 6) (B := 6) hi.1 hi.2 y.1 y.2
    rw [qB]
    omega
theorem X0_setLastA {Y : jY} {μ : jM} (hX : kX Y μ) {N : Nat} (N1 : 1 ≤ N) (N3 : N ≤ 3) {U W : Int → Int} (hI : atI μ N U W) (bU : (U ((N : Int) - 1)).natAbs ≤ 1000000) (bA : ∀ i : Nat, i + 1 < N → -6 ≤ gi μ 74 i ∧ gi μ 74 i ≤ 6) : f_X0_setLastA Y 72 μ = if -6 ≤ -(U ((N : Int) - 1)) - smF (gi μ 74) (N - 1) ∧ -(U ((N : Int) - 1)) - smF (gi μ 74) (N - 1) ≤ 6 then some (ki 1, jw μ 74 (N - 1) (.int (ki (-(U ((N : Int) - 1)) - smF (gi μ 74) (N - 1))))) else some (ki 0, μ) := by
  have g := hX.g72_1
  rw [hI.1] at g
  have u := kaLv hX.a76 (x := (N : Int) - 1) (by omega) (by omega) (hI.2.1 _ (by omega) (by omega))
  have t73 : jgO Y μ 73 10 1 = some 74 := hX.t73.ga
  have sb := fun (i : Nat) (hi : i + 1 ≤ N) => smF_bd (f := gi μ 74) i (fun j hj => by have := bA j (by omega); omega)
  have sN := sb (N - 1) (by omega)
  have E : ∀ r, b_X0_setLastA_15 Y 72 (kl (-(U ((N : Int) - 1)) - smF (gi μ 74) (N - 1))) (ki ((N - 1 : Nat) : Int)) μ = some (.inr r) → f_X0_setLastA Y 72 μ = some r := by
    intro r hr
    have F : f_X0_setLastA Y 72 μ = jit jF (fun (s : Int64 × Int32 × jM) => b_X0_setLastA_15 Y 72 s.1 s.2.1 s.2.2) (kl (-(U ((N : Int) - 1))), (0 : Int32), μ) := by
      simp (disch := omega) only [f_X0_setLastA, hX.o72_2, g, u, ki_0, ki_1, ki_2, ki_3, ki_4, ki_5, ki_6, ki_7, ki_8, ki_9, ki_10, ki_11, ki_12, ki_13, ki_18, ki_20, ki_24, ki_32, ki_36, ki_45, ki_47, ki_48, ki_50, ki_57, ki_60, ki_63, ki_99, ki_100, ki_101, ki_120, ki_255, ki_468, ki_1000, ki_1024, ki_13849, ki_25173, ki_65535, ki_65536, ki_100000, ki_100001, ki_2147483647, ki_2147483648, kl_0, kl_1, kl_2, kl_9223372036854775808, ki_add, ki_sub, ki_mul, ki_neg, kl_add, kl_sub, kl_mul, kl_neg, ki_i2l, kl_l2i, ki_lt, ki_le, ki_eq, kcmp_eq, kcmp_lt, kcmp_le, kcmp_gt, kcmp_ge, Option.bind_some, Option.map_some, kbool0, kbool1, if_pos, if_neg, if_true, if_false, Int.neg_neg, Int.sub_zero, Int.add_zero, Int.zero_add, true_and, and_true, false_and, and_false, false_or, or_false, true_or, or_true, ne_eq, not_false_eq_true, not_true_eq_false, kl_6, kl_36]
    rw [F]
    refine jit_run (fun i => (kl (-(U ((N : Int) - 1)) - smF (gi μ 74) i), ki i, μ)) _ (N - 1) (by rw [smF, Int.sub_zero]; rfl) (by omega) (fun i hi => ?_) hr
    have a : jaI Y μ 74 20 (ki i) = some (ki (gi μ 74 i)) := kaI hX.t73.aa (x := (i : Int)) (by omega) (by omega)
    have b := bA i (by omega)
    have a64 : (ki (gi μ 74 i)).toInt64 = kl (gi μ 74 i) := ki_i2l (by omega) (by omega)
    simp only [smF]
    generalize smF (gi μ 74) i = s
    generalize gi μ 74 i = ai at *
    simp (disch := omega) only [b_X0_setLastA_15, g, hX.o72_0, t73, a, a64, ki_0, ki_1, ki_2, ki_3, ki_4, ki_5, ki_6, ki_7, ki_8, ki_9, ki_10, ki_11, ki_12, ki_13, ki_18, ki_20, ki_24, ki_32, ki_36, ki_45, ki_47, ki_48, ki_50, ki_57, ki_60, ki_63, ki_99, ki_100, ki_101, ki_120, ki_255, ki_468, ki_1000, ki_1024, ki_13849, ki_25173, ki_65535, ki_65536, ki_100000, ki_100001, ki_2147483647, ki_2147483648, kl_0, kl_1, kl_2, kl_9223372036854775808, ki_add, ki_sub, ki_mul, ki_neg, kl_add, kl_sub, kl_mul, kl_neg, ki_i2l, kl_l2i, ki_lt, ki_le, ki_eq, kcmp_eq, kcmp_lt, kcmp_le, kcmp_gt, kcmp_ge, Option.bind_some, Option.map_some, kbool0, kbool1, if_pos, if_neg, if_true, if_false, Int.neg_neg, Int.sub_zero, Int.add_zero, Int.zero_add, true_and, and_true, false_and, and_false, false_or, or_false, true_or, or_true, ne_eq, not_false_eq_true, not_true_eq_false, kl_6, kl_36, Int.natCast_add, Int.natCast_one, Int.sub_sub]
  have l : (N : Int) - 1 = ((N - 1 : Nat) : Int) := by omega
  obtain ⟨v, hv⟩ : ∃ v, v = -(U ((N : Int) - 1)) - smF (gi μ 74) (N - 1) := ⟨_, rfl⟩
  rw [← hv] at E ⊢
  have vb : -2000000 ≤ v ∧ v ≤ 2000000 := by rw [hv]; omega
  clear hv
  have w : jas Y μ 74 20 (ki ((N - 1 : Nat) : Int)) (.int (ki v)) = some (jw μ 74 (N - 1) (.int (ki v))) := by
    have := kasI (v := .int (ki v)) hX.t73.aa (x := ((N - 1 : Nat) : Int)) (by omega) (by omega)
    rw [Int.toNat_natCast] at this
    exact this
  have g' := hX.g72_1
  rw [hI.1] at g'
  by_cases h1 : v < -6
  · rw [if_neg (by omega)]
    refine E _ ?_
    simp (disch := omega) only [b_X0_setLastA_15, b_X0_setLastA_60, g', ki_0, ki_1, ki_2, ki_3, ki_4, ki_5, ki_6, ki_7, ki_8, ki_9, ki_10, ki_11, ki_12, ki_13, ki_18, ki_20, ki_24, ki_32, ki_36, ki_45, ki_47, ki_48, ki_50, ki_57, ki_60, ki_63, ki_99, ki_100, ki_101, ki_120, ki_255, ki_468, ki_1000, ki_1024, ki_13849, ki_25173, ki_65535, ki_65536, ki_100000, ki_100001, ki_2147483647, ki_2147483648, kl_0, kl_1, kl_2, kl_9223372036854775808, ki_add, ki_sub, ki_mul, ki_neg, kl_add, kl_sub, kl_mul, kl_neg, ki_i2l, kl_l2i, ki_lt, ki_le, ki_eq, kcmp_eq, kcmp_lt, kcmp_le, kcmp_gt, kcmp_ge, Option.bind_some, Option.map_some, kbool0, kbool1, if_pos, if_neg, if_true, if_false, Int.neg_neg, Int.sub_zero, Int.add_zero, Int.zero_add, true_and, and_true, false_and, and_false, false_or, or_false, true_or, or_true, ne_eq, not_false_eq_true, not_true_eq_false, kl_6, kl_36]
  · by_cases h2 : v ≤ 6
    · rw [if_pos (by omega)]
      refine E _ ?_
      simp (disch := omega) only [b_X0_setLastA_15, b_X0_setLastA_60, g', hX.o72_0, t73, l, w, ki_0, ki_1, ki_2, ki_3, ki_4, ki_5, ki_6, ki_7, ki_8, ki_9, ki_10, ki_11, ki_12, ki_13, ki_18, ki_20, ki_24, ki_32, ki_36, ki_45, ki_47, ki_48, ki_50, ki_57, ki_60, ki_63, ki_99, ki_100, ki_101, ki_120, ki_255, ki_468, ki_1000, ki_1024, ki_13849, ki_25173, ki_65535, ki_65536, ki_100000, ki_100001, ki_2147483647, ki_2147483648, kl_0, kl_1, kl_2, kl_9223372036854775808, ki_add, ki_sub, ki_mul, ki_neg, kl_add, kl_sub, kl_mul, kl_neg, ki_i2l, kl_l2i, ki_lt, ki_le, ki_eq, kcmp_eq, kcmp_lt, kcmp_le, kcmp_gt, kcmp_ge, Option.bind_some, Option.map_some, kbool0, kbool1, if_pos, if_neg, if_true, if_false, Int.neg_neg, Int.sub_zero, Int.add_zero, Int.zero_add, true_and, and_true, false_and, and_false, false_or, or_false, true_or, or_true, ne_eq, not_false_eq_true, not_true_eq_false, kl_6, kl_36]
    · rw [if_neg (by omega)]
      refine E _ ?_
      simp (disch := omega) only [b_X0_setLastA_15, b_X0_setLastA_60, g', ki_0, ki_1, ki_2, ki_3, ki_4, ki_5, ki_6, ki_7, ki_8, ki_9, ki_10, ki_11, ki_12, ki_13, ki_18, ki_20, ki_24, ki_32, ki_36, ki_45, ki_47, ki_48, ki_50, ki_57, ki_60, ki_63, ki_99, ki_100, ki_101, ki_120, ki_255, ki_468, ki_1000, ki_1024, ki_13849, ki_25173, ki_65535, ki_65536, ki_100000, ki_100001, ki_2147483647, ki_2147483648, kl_0, kl_1, kl_2, kl_9223372036854775808, ki_add, ki_sub, ki_mul, ki_neg, kl_add, kl_sub, kl_mul, kl_neg, ki_i2l, kl_l2i, ki_lt, ki_le, ki_eq, kcmp_eq, kcmp_lt, kcmp_le, kcmp_gt, kcmp_ge, Option.bind_some, Option.map_some, kbool0, kbool1, if_pos, if_neg, if_true, if_false, Int.neg_neg, Int.sub_zero, Int.add_zero, Int.zero_add, true_and, and_true, false_and, and_false, false_or, or_false, true_or, or_true, ne_eq, not_false_eq_true, not_true_eq_false, kl_6, kl_36]
theorem pA_bd {a : Int → Int} : ∀ n : Nat, n ≤ 3 → (∀ j : Nat, j < n → -6 ≤ a j ∧ a j ≤ 6) → -(108 * n) ≤ pA a n ∧ pA a n ≤ 108 * n := by
  intro n
  induction n with
  | zero => intro _ _; exact ⟨by simp [pA], by simp [pA]⟩
  | succ n ih =>
    intro hn h
    have x := ih (by omega) (fun j hj => h j (by omega))
    have y := qB_bd (a := a) (i := (n : Int)) (h n (by omega)) n (fun j hj => h j (by omega))
    rw [pA]
    omega
set_option maxHeartbeats 1000000 in
theorem X0_setLastC {Y : jY} {μ : jM} (hX : kX Y μ) {N : Nat} (N2 : 2 ≤ N) (N3 : N ≤ 3) {U W : Int → Int} (hI : atI μ N U W) (bU : (U ((N : Int) - 2)).natAbs ≤ 1000000) (bA : ∀ i : Nat, i < N → -6 ≤ gi μ 74 i ∧ gi μ 74 i ≤ 6) (bC : ∀ i : Nat, i + 2 < N → 1 ≤ gi μ 75 i ∧ gi μ 75 i ≤ 36) : f_X0_setLastC Y 72 μ = if 1 ≤ -(U ((N : Int) - 2)) + pA (gi μ 74) N - smF (gi μ 75) (N - 2) ∧ -(U ((N : Int) - 2)) + pA (gi μ 74) N - smF (gi μ 75) (N - 2) ≤ 36 then some (ki 1, jw μ 75 (N - 2) (.int (ki (-(U ((N : Int) - 2)) + pA (gi μ 74) N - smF (gi μ 75) (N - 2))))) else some (ki 0, μ) := by
  have g := hX.g72_1
  rw [hI.1] at g
  have u := kaLv hX.a76 (x := (N : Int) - 2) (by omega) (by omega) (hI.2.1 _ (by omega) (by omega))
  have t73 : jgO Y μ 73 10 1 = some 74 := hX.t73.ga
  have t73c : jgO Y μ 73 10 2 = some 75 := hX.t73.gc
  have pb := pA_bd (a := gi μ 74) N N3 bA
  have sN := smF_bd (f := gi μ 75) (N - 2) (fun j hj => by have := bC j (by omega); omega)
  have rowA : ∀ i : Nat, i < 5 → jaI Y μ 74 20 (ki i) = some (ki (gi μ 74 i)) := fun i hi => kaI hX.t73.aa (x := (i : Int)) (by omega) (by omega)
  have E : ∀ r, b_X0_setLastC_80 Y 72 (kl (-(U ((N : Int) - 2)) + pA (gi μ 74) N - smF (gi μ 75) (N - 2))) (ki ((N - 2 : Nat) : Int)) μ = some (.inr r) → f_X0_setLastC Y 72 μ = some r := by
    intro r hr
    have L3 : jit jF (fun (s : Int64 × Int32 × jM) => b_X0_setLastC_80 Y 72 s.1 s.2.1 s.2.2) (kl (-(U ((N : Int) - 2)) + pA (gi μ 74) N), (0 : Int32), μ) = some r := by
      refine jit_run (fun i => (kl (-(U ((N : Int) - 2)) + pA (gi μ 74) N - smF (gi μ 75) i), ki i, μ)) _ (N - 2) (by rw [smF, Int.sub_zero]; rfl) (by omega) (fun i hi => ?_) hr
      have a : jaI Y μ 75 20 (ki i) = some (ki (gi μ 75 i)) := kaI hX.t73.ac (x := (i : Int)) (by omega) (by omega)
      have b := bC i (by omega)
      have a64 : (ki (gi μ 75 i)).toInt64 = kl (gi μ 75 i) := ki_i2l (by omega) (by omega)
      simp only [smF]
      generalize smF (gi μ 75) i = s
      generalize -(U ((N : Int) - 2)) + pA (gi μ 74) N = q
      generalize gi μ 75 i = ai at *
      simp (disch := omega) only [b_X0_setLastC_80, g, hX.o72_0, t73c, a, a64, ki_0, ki_1, ki_2, ki_3, ki_4, ki_5, ki_6, ki_7, ki_8, ki_9, ki_10, ki_11, ki_12, ki_13, ki_18, ki_20, ki_24, ki_32, ki_36, ki_45, ki_47, ki_48, ki_50, ki_57, ki_60, ki_63, ki_99, ki_100, ki_101, ki_120, ki_255, ki_468, ki_1000, ki_1024, ki_13849, ki_25173, ki_65535, ki_65536, ki_100000, ki_100001, ki_2147483647, ki_2147483648, kl_0, kl_1, kl_2, kl_9223372036854775808, ki_add, ki_sub, ki_mul, ki_neg, kl_add, kl_sub, kl_mul, kl_neg, ki_i2l, kl_l2i, ki_lt, ki_le, ki_eq, kcmp_eq, kcmp_lt, kcmp_le, kcmp_gt, kcmp_ge, Option.bind_some, Option.map_some, kbool0, kbool1, if_pos, if_neg, if_true, if_false, Int.neg_neg, Int.sub_zero, Int.add_zero, Int.zero_add, true_and, and_true, false_and, and_false, false_or, or_false, true_or, or_true, ne_eq, not_false_eq_true, not_true_eq_false, kl_6, kl_36, Int.natCast_add, Int.natCast_one, Int.sub_sub]
    have F : f_X0_setLastC Y 72 μ = jit jF (fun (s : Int64 × Int32 × jM) => b_X0_setLastC_25 Y 72 s.1 s.2.1 s.2.2) (kl (-(U ((N : Int) - 2))), (0 : Int32), μ) := by
      simp (disch := omega) only [f_X0_setLastC, hX.o72_2, g, u, ki_0, ki_1, ki_2, ki_3, ki_4, ki_5, ki_6, ki_7, ki_8, ki_9, ki_10, ki_11, ki_12, ki_13, ki_18, ki_20, ki_24, ki_32, ki_36, ki_45, ki_47, ki_48, ki_50, ki_57, ki_60, ki_63, ki_99, ki_100, ki_101, ki_120, ki_255, ki_468, ki_1000, ki_1024, ki_13849, ki_25173, ki_65535, ki_65536, ki_100000, ki_100001, ki_2147483647, ki_2147483648, kl_0, kl_1, kl_2, kl_9223372036854775808, ki_add, ki_sub, ki_mul, ki_neg, kl_add, kl_sub, kl_mul, kl_neg, ki_i2l, kl_l2i, ki_lt, ki_le, ki_eq, kcmp_eq, kcmp_lt, kcmp_le, kcmp_gt, kcmp_ge, Option.bind_some, Option.map_some, kbool0, kbool1, if_pos, if_neg, if_true, if_false, Int.neg_neg, Int.sub_zero, Int.add_zero, Int.zero_add, true_and, and_true, false_and, and_false, false_or, or_false, true_or, or_true, ne_eq, not_false_eq_true, not_true_eq_false, kl_6, kl_36]
    rw [F]
    refine jit_run (fun i => (kl (-(U ((N : Int) - 2)) + pA (gi μ 74) i), ki i, μ)) _ N (by rw [pA, Int.add_zero]; rfl) (by omega) (fun i hi => ?_) ?_
    · have inner : jit jF (fun (s : Int64 × Int32 × jM) => b_X0_setLastC_36 Y 72 s.1 (ki i) s.2.1 s.2.2) (kl (-(U ((N : Int) - 2)) + pA (gi μ 74) i), (0 : Int32), μ) = some (.inl (kl (-(U ((N : Int) - 2)) + pA (gi μ 74) (i + 1)), ki ((i + 1 : Nat) : Int), μ)) := by
        refine jit_run (fun j => (kl (-(U ((N : Int) - 2)) + pA (gi μ 74) i + qB (gi μ 74) i j), ki j, μ)) _ i (by rw [qB, Int.add_zero]; rfl) (by omega) (fun j hj => ?_) ?_
        · have a := rowA i (by omega)
          have b := rowA j (by omega)
          have m := mulB (a := gi μ 74 i) (b := gi μ 74 j) (A := 6) (B := 6) (bA i hi).1 (bA i hi).2 (bA j (by omega)).1 (bA j (by omega)).2
          have a64 : (ki (gi μ 74 i * gi μ 74 j)).toInt64 = kl (gi μ 74 i * gi μ 74 j) := ki_i2l (by omega) (by omega)
          simp only [qB]
          generalize -(U ((N : Int) - 2)) + pA (gi μ 74) i = q
          generalize qB (gi μ 74) i j = s
          simp (disch := omega) only [b_X0_setLastC_36, hX.o72_0, t73, a, b, a64, ki_0, ki_1, ki_2, ki_3, ki_4, ki_5, ki_6, ki_7, ki_8, ki_9, ki_10, ki_11, ki_12, ki_13, ki_18, ki_20, ki_24, ki_32, ki_36, ki_45, ki_47, ki_48, ki_50, ki_57, ki_60, ki_63, ki_99, ki_100, ki_101, ki_120, ki_255, ki_468, ki_1000, ki_1024, ki_13849, ki_25173, ki_65535, ki_65536, ki_100000, ki_100001, ki_2147483647, ki_2147483648, kl_0, kl_1, kl_2, kl_9223372036854775808, ki_add, ki_sub, ki_mul, ki_neg, kl_add, kl_sub, kl_mul, kl_neg, ki_i2l, kl_l2i, ki_lt, ki_le, ki_eq, kcmp_eq, kcmp_lt, kcmp_le, kcmp_gt, kcmp_ge, Option.bind_some, Option.map_some, kbool0, kbool1, if_pos, if_neg, if_true, if_false, Int.neg_neg, Int.sub_zero, Int.add_zero, Int.zero_add, true_and, and_true, false_and, and_false, false_or, or_false, true_or, or_true, ne_eq, not_false_eq_true, not_true_eq_false, kl_6, kl_36, Int.natCast_add, Int.natCast_one, Int.add_assoc]
        · rw [pA, ← Int.add_assoc]
          generalize -(U ((N : Int) - 2)) + pA (gi μ 74) i + qB (gi μ 74) i i = q
          simp (disch := omega) only [b_X0_setLastC_36, ki_0, ki_1, ki_2, ki_3, ki_4, ki_5, ki_6, ki_7, ki_8, ki_9, ki_10, ki_11, ki_12, ki_13, ki_18, ki_20, ki_24, ki_32, ki_36, ki_45, ki_47, ki_48, ki_50, ki_57, ki_60, ki_63, ki_99, ki_100, ki_101, ki_120, ki_255, ki_468, ki_1000, ki_1024, ki_13849, ki_25173, ki_65535, ki_65536, ki_100000, ki_100001, ki_2147483647, ki_2147483648, kl_0, kl_1, kl_2, kl_9223372036854775808, ki_add, ki_sub, ki_mul, ki_neg, kl_add, kl_sub, kl_mul, kl_neg, ki_i2l, kl_l2i, ki_lt, ki_le, ki_eq, kcmp_eq, kcmp_lt, kcmp_le, kcmp_gt, kcmp_ge, Option.bind_some, Option.map_some, kbool0, kbool1, if_pos, if_neg, if_true, if_false, Int.neg_neg, Int.sub_zero, Int.add_zero, Int.zero_add, true_and, and_true, false_and, and_false, false_or, or_false, true_or, or_true, ne_eq, not_false_eq_true, not_true_eq_false, kl_6, kl_36, Int.natCast_add, Int.natCast_one]
      have E1 : b_X0_setLastC_25 Y 72 (kl (-(U ((N : Int) - 2)) + pA (gi μ 74) i)) (ki i) μ = jit jF (fun (s : Int64 × Int32 × jM) => b_X0_setLastC_36 Y 72 s.1 (ki i) s.2.1 s.2.2) (kl (-(U ((N : Int) - 2)) + pA (gi μ 74) i), (0 : Int32), μ) := by
        generalize -(U ((N : Int) - 2)) + pA (gi μ 74) i = q
        simp (disch := omega) only [b_X0_setLastC_25, g, ki_0, ki_1, ki_2, ki_3, ki_4, ki_5, ki_6, ki_7, ki_8, ki_9, ki_10, ki_11, ki_12, ki_13, ki_18, ki_20, ki_24, ki_32, ki_36, ki_45, ki_47, ki_48, ki_50, ki_57, ki_60, ki_63, ki_99, ki_100, ki_101, ki_120, ki_255, ki_468, ki_1000, ki_1024, ki_13849, ki_25173, ki_65535, ki_65536, ki_100000, ki_100001, ki_2147483647, ki_2147483648, kl_0, kl_1, kl_2, kl_9223372036854775808, ki_add, ki_sub, ki_mul, ki_neg, kl_add, kl_sub, kl_mul, kl_neg, ki_i2l, kl_l2i, ki_lt, ki_le, ki_eq, kcmp_eq, kcmp_lt, kcmp_le, kcmp_gt, kcmp_ge, Option.bind_some, Option.map_some, kbool0, kbool1, if_pos, if_neg, if_true, if_false, Int.neg_neg, Int.sub_zero, Int.add_zero, Int.zero_add, true_and, and_true, false_and, and_false, false_or, or_false, true_or, or_true, ne_eq, not_false_eq_true, not_true_eq_false, kl_6, kl_36]
      simp only [E1, inner]
    · have E1 : b_X0_setLastC_25 Y 72 (kl (-(U ((N : Int) - 2)) + pA (gi μ 74) N)) (ki N) μ = (jit jF (fun (s : Int64 × Int32 × jM) => b_X0_setLastC_80 Y 72 s.1 s.2.1 s.2.2) (kl (-(U ((N : Int) - 2)) + pA (gi μ 74) N), (0 : Int32), μ)).map (fun r => (.inr r)) := by
        generalize -(U ((N : Int) - 2)) + pA (gi μ 74) N = q
        simp (disch := omega) only [b_X0_setLastC_25, g, ki_0, ki_1, ki_2, ki_3, ki_4, ki_5, ki_6, ki_7, ki_8, ki_9, ki_10, ki_11, ki_12, ki_13, ki_18, ki_20, ki_24, ki_32, ki_36, ki_45, ki_47, ki_48, ki_50, ki_57, ki_60, ki_63, ki_99, ki_100, ki_101, ki_120, ki_255, ki_468, ki_1000, ki_1024, ki_13849, ki_25173, ki_65535, ki_65536, ki_100000, ki_100001, ki_2147483647, ki_2147483648, kl_0, kl_1, kl_2, kl_9223372036854775808, ki_add, ki_sub, ki_mul, ki_neg, kl_add, kl_sub, kl_mul, kl_neg, ki_i2l, kl_l2i, ki_lt, ki_le, ki_eq, kcmp_eq, kcmp_lt, kcmp_le, kcmp_gt, kcmp_ge, Option.bind_some, Option.map_some, kbool0, kbool1, if_pos, if_neg, if_true, if_false, Int.neg_neg, Int.sub_zero, Int.add_zero, Int.zero_add, true_and, and_true, false_and, and_false, false_or, or_false, true_or, or_true, ne_eq, not_false_eq_true, not_true_eq_false, kl_6, kl_36]
      simp only [E1, L3]
      rfl
  have l : (N : Int) - 2 = ((N - 2 : Nat) : Int) := by omega
  obtain ⟨v, hv⟩ : ∃ v, v = -(U ((N : Int) - 2)) + pA (gi μ 74) N - smF (gi μ 75) (N - 2) := ⟨_, rfl⟩
  rw [← hv] at E ⊢
  have vb : -2000000 ≤ v ∧ v ≤ 2000000 := by rw [hv]; omega
  clear hv
  have w : jas Y μ 75 20 (ki ((N - 2 : Nat) : Int)) (.int (ki v)) = some (jw μ 75 (N - 2) (.int (ki v))) := by
    have := kasI (v := .int (ki v)) hX.t73.ac (x := ((N - 2 : Nat) : Int)) (by omega) (by omega)
    rw [Int.toNat_natCast] at this
    exact this
  by_cases h1 : v < 1
  · rw [if_neg (by omega)]
    refine E _ ?_
    simp (disch := omega) only [b_X0_setLastC_80, b_X0_setLastC_123, g, ki_0, ki_1, ki_2, ki_3, ki_4, ki_5, ki_6, ki_7, ki_8, ki_9, ki_10, ki_11, ki_12, ki_13, ki_18, ki_20, ki_24, ki_32, ki_36, ki_45, ki_47, ki_48, ki_50, ki_57, ki_60, ki_63, ki_99, ki_100, ki_101, ki_120, ki_255, ki_468, ki_1000, ki_1024, ki_13849, ki_25173, ki_65535, ki_65536, ki_100000, ki_100001, ki_2147483647, ki_2147483648, kl_0, kl_1, kl_2, kl_9223372036854775808, ki_add, ki_sub, ki_mul, ki_neg, kl_add, kl_sub, kl_mul, kl_neg, ki_i2l, kl_l2i, ki_lt, ki_le, ki_eq, kcmp_eq, kcmp_lt, kcmp_le, kcmp_gt, kcmp_ge, Option.bind_some, Option.map_some, kbool0, kbool1, if_pos, if_neg, if_true, if_false, Int.neg_neg, Int.sub_zero, Int.add_zero, Int.zero_add, true_and, and_true, false_and, and_false, false_or, or_false, true_or, or_true, ne_eq, not_false_eq_true, not_true_eq_false, kl_6, kl_36]
  · by_cases h2 : v ≤ 36
    · rw [if_pos (by omega)]
      refine E _ ?_
      simp (disch := omega) only [b_X0_setLastC_80, b_X0_setLastC_123, g, hX.o72_0, t73c, l, w, ki_0, ki_1, ki_2, ki_3, ki_4, ki_5, ki_6, ki_7, ki_8, ki_9, ki_10, ki_11, ki_12, ki_13, ki_18, ki_20, ki_24, ki_32, ki_36, ki_45, ki_47, ki_48, ki_50, ki_57, ki_60, ki_63, ki_99, ki_100, ki_101, ki_120, ki_255, ki_468, ki_1000, ki_1024, ki_13849, ki_25173, ki_65535, ki_65536, ki_100000, ki_100001, ki_2147483647, ki_2147483648, kl_0, kl_1, kl_2, kl_9223372036854775808, ki_add, ki_sub, ki_mul, ki_neg, kl_add, kl_sub, kl_mul, kl_neg, ki_i2l, kl_l2i, ki_lt, ki_le, ki_eq, kcmp_eq, kcmp_lt, kcmp_le, kcmp_gt, kcmp_ge, Option.bind_some, Option.map_some, kbool0, kbool1, if_pos, if_neg, if_true, if_false, Int.neg_neg, Int.sub_zero, Int.add_zero, Int.zero_add, true_and, and_true, false_and, and_false, false_or, or_false, true_or, or_true, ne_eq, not_false_eq_true, not_true_eq_false, kl_6, kl_36]
    · rw [if_neg (by omega)]
      refine E _ ?_
      simp (disch := omega) only [b_X0_setLastC_80, b_X0_setLastC_123, g, ki_0, ki_1, ki_2, ki_3, ki_4, ki_5, ki_6, ki_7, ki_8, ki_9, ki_10, ki_11, ki_12, ki_13, ki_18, ki_20, ki_24, ki_32, ki_36, ki_45, ki_47, ki_48, ki_50, ki_57, ki_60, ki_63, ki_99, ki_100, ki_101, ki_120, ki_255, ki_468, ki_1000, ki_1024, ki_13849, ki_25173, ki_65535, ki_65536, ki_100000, ki_100001, ki_2147483647, ki_2147483648, kl_0, kl_1, kl_2, kl_9223372036854775808, ki_add, ki_sub, ki_mul, ki_neg, kl_add, kl_sub, kl_mul, kl_neg, ki_i2l, kl_l2i, ki_lt, ki_le, ki_eq, kcmp_eq, kcmp_lt, kcmp_le, kcmp_gt, kcmp_ge, Option.bind_some, Option.map_some, kbool0, kbool1, if_pos, if_neg, if_true, if_false, Int.neg_neg, Int.sub_zero, Int.add_zero, Int.zero_add, true_and, and_true, false_and, and_false, false_or, or_false, true_or, or_true, ne_eq, not_false_eq_true, not_true_eq_false, kl_6, kl_36]
theorem smF_congr {f g : Int → Int} : ∀ n : Nat, (∀ i : Nat, i < n → f i = g i) → smF f n = smF g n := by
  intro n
  induction n with
  | zero => intro _; rfl
  | succ n ih =>
    intro h
    rw [smF, smF, ih (fun i hi => h i (by omega)), h n (by omega)]
theorem qB_congr {f g : Int → Int} {i : Int} (hi : f i = g i) : ∀ n : Nat, (∀ j : Nat, j < n → f j = g j) → qB f i n = qB g i n := by
  intro n
  induction n with
  | zero => intro _; rfl
  | succ n ih =>
    intro h
    rw [qB, qB, ih (fun j hj => h j (by omega)), h n (by omega), hi]
theorem pA_congr {f g : Int → Int} : ∀ n : Nat, (∀ i : Nat, i < n → f i = g i) → pA f n = pA g n := by
  intro n
  induction n with
  | zero => intro _; rfl
  | succ n ih =>
    intro h
    rw [pA, pA, ih (fun i hi => h i (by omega)), qB_congr (h n (by omega)) n (fun j hj => h j (by omega))]
/-- the last A, the last C, with them the whole rows -/
def laA (N : Nat) (U A : Int → Int) : Int := -(U ((N : Int) - 1)) - smF A (N - 1)
def roA (N : Nat) (U A : Int → Int) (i : Int) : Int := if i = (N : Int) - 1 then laA N U A else A i
def laC (N : Nat) (U A C : Int → Int) : Int := -(U ((N : Int) - 2)) + pA (roA N U A) N - smF C (N - 2)
def roC (N : Nat) (U A C : Int → Int) (i : Int) : Int := if i = (N : Int) - 2 then laC N U A C else C i
def mkP (N : Nat) (U A C : Int → Int) : Prop := (-6 ≤ laA N U A ∧ laA N U A ≤ 6) ∧ (2 ≤ N → 1 ≤ laC N U A C ∧ laC N U A C ≤ 36) ∧ (pv (roA N U A) (roC N U A C) 0 1 0 N).2 = U 0
set_option maxHeartbeats 1000000 in
theorem X0_b90 {Y : jY} {μ : jM} (hX : kX Y μ) {N : Nat} (N1 : 1 ≤ N) (N3 : N ≤ 3) {U W A C : Int → Int} (hI : atI μ N U W) (bU : ∀ j : Nat, j ≤ N → (U j).natAbs ≤ 1000000) (eA : ∀ i : Nat, i + 1 < N → gi μ 74 i = A i ∧ -6 ≤ A i ∧ A i ≤ 6) (eC : ∀ i : Nat, i + 2 < N → gi μ 75 i = C i ∧ 1 ≤ C i ∧ C i ≤ 36) : ∃ (r : Int) (ν : jM), b_X0_makes_90 Y 72 μ = some (ki r, ν) ∧ kF 74 76 μ ν ∧ ((r = 0 ∧ ¬ mkP N U A C) ∨ (r = 1 ∧ mkP N U A C ∧ (∀ i : Nat, i < N → gi ν 74 i = roA N U A i ∧ -6 ≤ roA N U A i ∧ roA N U A i ≤ 6) ∧ ∀ i : Nat, i + 1 < N → gi ν 75 i = roC N U A C i ∧ 1 ≤ roC N U A C i ∧ roC N U A C i ≤ 36)) := by
  have bU1 := bU (N - 1) (by omega)
  rw [show ((N - 1 : Nat) : Int) = (N : Int) - 1 by omega] at bU1
  have sa := X0_setLastA hX N1 N3 hI bU1 (fun i hi => by have := eA i hi; omega)
  have e1 : -(U ((N : Int) - 1)) - smF (gi μ 74) (N - 1) = laA N U A := by
    unfold laA
    rw [smF_congr (N - 1) (fun i hi => (eA i (by omega)).1)]
  rw [e1] at sa
  by_cases hL : -6 ≤ laA N U A ∧ laA N U A ≤ 6
  · rw [if_pos hL] at sa
    have k1 : kF 74 76 μ (jw μ 74 (N - 1) (.int (ki (laA N U A)))) := kF_I (hX.t73.aa.2.2.2 _ (by omega)) (by omega) (by omega)
    have A1 : ∀ i : Nat, i < N → gi (jw μ 74 (N - 1) (.int (ki (laA N U A)))) 74 i = roA N U A i ∧ -6 ≤ roA N U A i ∧ roA N U A i ≤ 6 := fun i hi => by
      rw [gi_jw 74 (i : Int) (by omega) (by omega)]
      unfold roA
      by_cases e : i = N - 1
      · rw [if_pos ⟨rfl, by omega⟩, if_pos (by omega)]
        exact ⟨rfl, hL.1, hL.2⟩
      · rw [if_neg (fun q => e (by omega)), if_neg (by omega)]
        exact eA i (by omega)
    have C1 : ∀ i : Nat, i + 2 < N → gi (jw μ 74 (N - 1) (.int (ki (laA N U A)))) 75 i = C i ∧ 1 ≤ C i ∧ C i ≤ 36 := fun i hi => by
      rw [gi_cell (jw_cell (by omega))]
      exact eC i hi
    have hI1 := hI.to k1
    generalize jw μ 74 (N - 1) (.int (ki (laA N U A))) = μ1 at *
    have hX1 := hX.to k1
    have main : ∀ (μ2 : jM), kF 74 76 μ1 μ2 → (∀ i : Nat, i < N → gi μ2 74 i = roA N U A i ∧ -6 ≤ roA N U A i ∧ roA N U A i ≤ 6) → (∀ i : Nat, i + 1 < N → gi μ2 75 i = roC N U A C i ∧ 1 ≤ roC N U A C i ∧ roC N U A C i ≤ 36) → (2 ≤ N → 1 ≤ laC N U A C ∧ laC N U A C ≤ 36) → f_X0_setLastC Y 72 μ1 = some (ki 1, μ2) → ∃ (r : Int) (ν : jM), b_X0_makes_90 Y 72 μ = some (ki r, ν) ∧ kF 74 76 μ ν ∧ ((r = 0 ∧ ¬ mkP N U A C) ∨ (r = 1 ∧ mkP N U A C ∧ (∀ i : Nat, i < N → gi ν 74 i = roA N U A i ∧ -6 ≤ roA N U A i ∧ roA N U A i ≤ 6) ∧ ∀ i : Nat, i + 1 < N → gi ν 75 i = roC N U A C i ∧ 1 ≤ roC N U A C i ∧ roC N U A C i ≤ 36)) := by
      intro μ2 k2 A2 C2 hC sc
      have hX2 := hX1.to k2
      have hI2 := hI1.to k2
      have hB : kTb μ2 73 := by
        refine ⟨by rw [hI2.2.2.2]; omega, by rw [hI2.2.2.2]; omega, fun x x0 x1 => ?_, fun x x0 x1 => ?_⟩
        · rw [hI2.2.2.2] at x1
          have := A2 x.toNat (by omega)
          rw [toNat_cast x0] at this
          show -6 ≤ gi μ2 74 x ∧ gi μ2 74 x ≤ 6
          omega
        · rw [hI2.2.2.2] at x1
          have := C2 x.toNat (by omega)
          rw [toNat_cast x0] at this
          show 1 ≤ gi μ2 75 x ∧ gi μ2 75 x ≤ 36
          omega
      have g := hX2.g72_1
      rw [hI2.1] at g
      have v := X10_valueAt hX2.t73 hB (fr := 0) (k := (N : Int)) (p := 0) (q := 1) (by omega) (by omega) (by rw [hI2.2.2.2]; omega) (by omega) (by omega) (by omega) (by omega)
      have pr := pv_rng (A := gi μ2 (73 + 1)) (C := gi μ2 (73 + 2)) (p := 0) (q := 1) (fr := 0) (n := N) (hB.A (by omega) (by rw [hI2.2.2.2]; omega)) (hB.C (by omega) (by rw [hI2.2.2.2]; omega)) (by omega) (by omega) (by omega) (by omega) (by omega) (Nat.le_refl N)
      have pe : (pv (gi μ2 (73 + 1)) (gi μ2 (73 + 2)) 0 1 0 N).2 = (pv (roA N U A) (roC N U A C) 0 1 0 N).2 := by
        rw [pv_congr (n := N) (fun x x0 x1 => ?_) (fun x x0 x1 => ?_) N (Nat.le_refl N)]
        · have := A2 x.toNat (by omega)
          rw [toNat_cast x0] at this
          exact this.1
        · have := C2 x.toNat (by omega)
          rw [toNat_cast x0] at this
          exact this.1
      rw [Int.toNat_natCast] at v
      rw [pe] at v pr
      have u := kaLv hX2.a76 (x := 0) (by omega) (by omega) (hI2.2.1 0 (by omega) (by omega))
      have b0 := bU 0 (by omega)
      have b0' : (U 0).natAbs ≤ 1000000 := b0
      by_cases fe : (pv (roA N U A) (roC N U A C) 0 1 0 N).2 = U 0
      · refine ⟨1, μ2, ?_, k1.trans k2, Or.inr ⟨rfl, ⟨hL, hC, fe⟩, A2, C2⟩⟩
        rw [fe] at v pr
        generalize U 0 = u0 at *
        simp (disch := omega) only [b_X0_makes_90, b_X0_makes_133, krcv hX.y72, sa, sc, hX2.o72_0, hX2.o72_2, g, krcv hX2.t73.y, v, u, ki_0, ki_1, ki_2, ki_3, ki_4, ki_5, ki_6, ki_7, ki_8, ki_9, ki_10, ki_11, ki_12, ki_13, ki_18, ki_20, ki_24, ki_32, ki_36, ki_45, ki_47, ki_48, ki_50, ki_57, ki_60, ki_63, ki_99, ki_100, ki_101, ki_120, ki_255, ki_468, ki_1000, ki_1024, ki_13849, ki_25173, ki_65535, ki_65536, ki_100000, ki_100001, ki_2147483647, ki_2147483648, kl_0, kl_1, kl_2, kl_9223372036854775808, ki_add, ki_sub, ki_mul, ki_neg, kl_add, kl_sub, kl_mul, kl_neg, ki_i2l, kl_l2i, ki_lt, ki_le, ki_eq, kcmp_eq, kcmp_lt, kcmp_le, kcmp_gt, kcmp_ge, Option.bind_some, Option.map_some, kbool0, kbool1, if_pos, if_neg, if_true, if_false, Int.neg_neg, Int.sub_zero, Int.add_zero, Int.zero_add, true_and, and_true, false_and, and_false, false_or, or_false, true_or, or_true, ne_eq, not_false_eq_true, not_true_eq_false]
      · refine ⟨0, μ2, ?_, k1.trans k2, Or.inl ⟨rfl, fun q => fe q.2.2⟩⟩
        generalize U 0 = u0 at *
        generalize (pv (roA N U A) (roC N U A C) 0 1 0 N).2 = p0 at *
        simp (disch := omega) only [b_X0_makes_90, b_X0_makes_132, b_X0_makes_133, krcv hX.y72, sa, sc, hX2.o72_0, hX2.o72_2, g, krcv hX2.t73.y, v, u, ki_0, ki_1, ki_2, ki_3, ki_4, ki_5, ki_6, ki_7, ki_8, ki_9, ki_10, ki_11, ki_12, ki_13, ki_18, ki_20, ki_24, ki_32, ki_36, ki_45, ki_47, ki_48, ki_50, ki_57, ki_60, ki_63, ki_99, ki_100, ki_101, ki_120, ki_255, ki_468, ki_1000, ki_1024, ki_13849, ki_25173, ki_65535, ki_65536, ki_100000, ki_100001, ki_2147483647, ki_2147483648, kl_0, kl_1, kl_2, kl_9223372036854775808, ki_add, ki_sub, ki_mul, ki_neg, kl_add, kl_sub, kl_mul, kl_neg, ki_i2l, kl_l2i, ki_lt, ki_le, ki_eq, kcmp_eq, kcmp_lt, kcmp_le, kcmp_gt, kcmp_ge, Option.bind_some, Option.map_some, kbool0, kbool1, if_pos, if_neg, if_true, if_false, Int.neg_neg, Int.sub_zero, Int.add_zero, Int.zero_add, true_and, and_true, false_and, and_false, false_or, or_false, true_or, or_true, ne_eq, not_false_eq_true, not_true_eq_false]
    by_cases N2 : 2 ≤ N
    · have bU2 := bU (N - 2) (by omega)
      rw [show ((N - 2 : Nat) : Int) = (N : Int) - 2 by omega] at bU2
      have sc := X0_setLastC hX1 N2 N3 hI1 bU2 (fun i hi => by have := A1 i hi; omega) (fun i hi => by have := C1 i hi; omega)
      have e2 : -(U ((N : Int) - 2)) + pA (gi μ1 74) N - smF (gi μ1 75) (N - 2) = laC N U A C := by
        unfold laC
        rw [smF_congr (N - 2) (fun i hi => (C1 i (by omega)).1), pA_congr N (fun i hi => (A1 i hi).1)]
      rw [e2] at sc
      by_cases hC : 1 ≤ laC N U A C ∧ laC N U A C ≤ 36
      · rw [if_pos hC] at sc
        refine main _ (kF_I (hX1.t73.ac.2.2.2 _ (by omega)) (by omega) (by omega)) (fun i hi => ?_) (fun i hi => ?_) (fun _ => hC) sc
        · rw [gi_cell (jw_cell (by omega))]
          exact A1 i hi
        · rw [gi_jw 75 (i : Int) (by omega) (by omega)]
          unfold roC
          by_cases e : i = N - 2
          · rw [if_pos ⟨rfl, by omega⟩, if_pos (by omega)]
            exact ⟨rfl, hC.1, hC.2⟩
          · rw [if_neg (fun q => e (by omega)), if_neg (by omega)]
            exact C1 i (by omega)
      · rw [if_neg hC] at sc
        refine ⟨0, μ1, ?_, k1, Or.inl ⟨rfl, fun q => hC (q.2.1 N2)⟩⟩
        simp (disch := omega) only [b_X0_makes_90, b_X0_makes_132, b_X0_makes_133, krcv hX.y72, sa, sc, ki_0, ki_1, ki_2, ki_3, ki_4, ki_5, ki_6, ki_7, ki_8, ki_9, ki_10, ki_11, ki_12, ki_13, ki_18, ki_20, ki_24, ki_32, ki_36, ki_45, ki_47, ki_48, ki_50, ki_57, ki_60, ki_63, ki_99, ki_100, ki_101, ki_120, ki_255, ki_468, ki_1000, ki_1024, ki_13849, ki_25173, ki_65535, ki_65536, ki_100000, ki_100001, ki_2147483647, ki_2147483648, kl_0, kl_1, kl_2, kl_9223372036854775808, ki_add, ki_sub, ki_mul, ki_neg, kl_add, kl_sub, kl_mul, kl_neg, ki_i2l, kl_l2i, ki_lt, ki_le, ki_eq, kcmp_eq, kcmp_lt, kcmp_le, kcmp_gt, kcmp_ge, Option.bind_some, Option.map_some, kbool0, kbool1, if_pos, if_neg, if_true, if_false, Int.neg_neg, Int.sub_zero, Int.add_zero, Int.zero_add, true_and, and_true, false_and, and_false, false_or, or_false, true_or, or_true, ne_eq, not_false_eq_true, not_true_eq_false]
    · have g := hX1.g72_1
      rw [hI1.1] at g
      have sc : f_X0_setLastC Y 72 μ1 = some (ki 1, μ1) := by
        simp (disch := omega) only [f_X0_setLastC, g, ki_0, ki_1, ki_2, ki_3, ki_4, ki_5, ki_6, ki_7, ki_8, ki_9, ki_10, ki_11, ki_12, ki_13, ki_18, ki_20, ki_24, ki_32, ki_36, ki_45, ki_47, ki_48, ki_50, ki_57, ki_60, ki_63, ki_99, ki_100, ki_101, ki_120, ki_255, ki_468, ki_1000, ki_1024, ki_13849, ki_25173, ki_65535, ki_65536, ki_100000, ki_100001, ki_2147483647, ki_2147483648, kl_0, kl_1, kl_2, kl_9223372036854775808, ki_add, ki_sub, ki_mul, ki_neg, kl_add, kl_sub, kl_mul, kl_neg, ki_i2l, kl_l2i, ki_lt, ki_le, ki_eq, kcmp_eq, kcmp_lt, kcmp_le, kcmp_gt, kcmp_ge, Option.bind_some, Option.map_some, kbool0, kbool1, if_pos, if_neg, if_true, if_false, Int.neg_neg, Int.sub_zero, Int.add_zero, Int.zero_add, true_and, and_true, false_and, and_false, false_or, or_false, true_or, or_true, ne_eq, not_false_eq_true, not_true_eq_false]
      exact main μ1 kF.refl A1 (fun i hi => absurd hi (by omega)) (fun q => absurd q N2) sc
  · rw [if_neg hL] at sa
    refine ⟨0, μ, ?_, kF.refl, Or.inl ⟨rfl, fun q => hL q.1⟩⟩
    simp (disch := omega) only [b_X0_makes_90, b_X0_makes_132, b_X0_makes_133, krcv hX.y72, sa, ki_0, ki_1, ki_2, ki_3, ki_4, ki_5, ki_6, ki_7, ki_8, ki_9, ki_10, ki_11, ki_12, ki_13, ki_18, ki_20, ki_24, ki_32, ki_36, ki_45, ki_47, ki_48, ki_50, ki_57, ki_60, ki_63, ki_99, ki_100, ki_101, ki_120, ki_255, ki_468, ki_1000, ki_1024, ki_13849, ki_25173, ki_65535, ki_65536, ki_100000, ki_100001, ki_2147483647, ki_2147483648, kl_0, kl_1, kl_2, kl_9223372036854775808, ki_add, ki_sub, ki_mul, ki_neg, kl_add, kl_sub, kl_mul, kl_neg, ki_i2l, kl_l2i, ki_lt, ki_le, ki_eq, kcmp_eq, kcmp_lt, kcmp_le, kcmp_gt, kcmp_ge, Option.bind_some, Option.map_some, kbool0, kbool1, if_pos, if_neg, if_true, if_false, Int.neg_neg, Int.sub_zero, Int.add_zero, Int.zero_add, true_and, and_true, false_and, and_false, false_or, or_false, true_or, or_true, ne_eq, not_false_eq_true, not_true_eq_false]
def cdA (N : Nat) (c i : Int) : Int := if N = 2 then c - 6 else if i = 0 then c / 468 - 6 else c / 36 % 13 - 6
def cdC (c : Int) (_ : Int) : Int := c % 36 + 1
def cdN (N : Nat) : Nat := if N = 3 then 6084 else if N = 2 then 13 else 1
/-- what a code makes -/
def mk (N : Nat) (U : Int → Int) (c : Int) : Prop := mkP N U (cdA N c) (cdC c)
def mkA (N : Nat) (U : Int → Int) (c : Int) : Int → Int := roA N U (cdA N c)
def mkC (N : Nat) (U : Int → Int) (c : Int) : Int → Int := roC N U (cdA N c) (cdC c)
theorem X0_codes {Y : jY} {μ : jM} (hX : kX Y μ) {N : Nat} (N1 : 1 ≤ N) (N3 : N ≤ 3) {U W : Int → Int} (hI : atI μ N U W) : f_X0_codes Y 72 μ = some (ki (cdN N), μ) := by
  have g := hX.g72_1
  rw [hI.1] at g
  have : N = 1 ∨ N = 2 ∨ N = 3 := by omega
  rcases this with rfl | rfl | rfl
  · have g : jgI Y μ 72 0 1 = some (ki 1) := g
    simp (disch := omega) only [f_X0_codes, b_X0_codes_26, g, ki_0, ki_1, ki_2, ki_3, ki_4, ki_5, ki_6, ki_7, ki_8, ki_9, ki_10, ki_11, ki_12, ki_13, ki_18, ki_20, ki_24, ki_32, ki_36, ki_45, ki_47, ki_48, ki_50, ki_57, ki_60, ki_63, ki_99, ki_100, ki_101, ki_120, ki_255, ki_468, ki_1000, ki_1024, ki_13849, ki_25173, ki_65535, ki_65536, ki_100000, ki_100001, ki_2147483647, ki_2147483648, kl_0, kl_1, kl_2, kl_9223372036854775808, ki_add, ki_sub, ki_mul, ki_neg, kl_add, kl_sub, kl_mul, kl_neg, ki_i2l, kl_l2i, ki_lt, ki_le, ki_eq, kcmp_eq, kcmp_lt, kcmp_le, kcmp_gt, kcmp_ge, Option.bind_some, Option.map_some, kbool0, kbool1, if_pos, if_neg, if_true, if_false, Int.neg_neg, Int.sub_zero, Int.add_zero, Int.zero_add, true_and, and_true, false_and, and_false, false_or, or_false, true_or, or_true, ne_eq, not_false_eq_true, not_true_eq_false]
    rfl
  · have g : jgI Y μ 72 0 1 = some (ki 2) := g
    simp (disch := omega) only [f_X0_codes, b_X0_codes_26, g, ki_0, ki_1, ki_2, ki_3, ki_4, ki_5, ki_6, ki_7, ki_8, ki_9, ki_10, ki_11, ki_12, ki_13, ki_18, ki_20, ki_24, ki_32, ki_36, ki_45, ki_47, ki_48, ki_50, ki_57, ki_60, ki_63, ki_99, ki_100, ki_101, ki_120, ki_255, ki_468, ki_1000, ki_1024, ki_13849, ki_25173, ki_65535, ki_65536, ki_100000, ki_100001, ki_2147483647, ki_2147483648, kl_0, kl_1, kl_2, kl_9223372036854775808, ki_add, ki_sub, ki_mul, ki_neg, kl_add, kl_sub, kl_mul, kl_neg, ki_i2l, kl_l2i, ki_lt, ki_le, ki_eq, kcmp_eq, kcmp_lt, kcmp_le, kcmp_gt, kcmp_ge, Option.bind_some, Option.map_some, kbool0, kbool1, if_pos, if_neg, if_true, if_false, Int.neg_neg, Int.sub_zero, Int.add_zero, Int.zero_add, true_and, and_true, false_and, and_false, false_or, or_false, true_or, or_true, ne_eq, not_false_eq_true, not_true_eq_false]
    rfl
  · have g : jgI Y μ 72 0 1 = some (ki 3) := g
    simp (disch := omega) only [f_X0_codes, b_X0_codes_26, g, ki_0, ki_1, ki_2, ki_3, ki_4, ki_5, ki_6, ki_7, ki_8, ki_9, ki_10, ki_11, ki_12, ki_13, ki_18, ki_20, ki_24, ki_32, ki_36, ki_45, ki_47, ki_48, ki_50, ki_57, ki_60, ki_63, ki_99, ki_100, ki_101, ki_120, ki_255, ki_468, ki_1000, ki_1024, ki_13849, ki_25173, ki_65535, ki_65536, ki_100000, ki_100001, ki_2147483647, ki_2147483648, kl_0, kl_1, kl_2, kl_9223372036854775808, ki_add, ki_sub, ki_mul, ki_neg, kl_add, kl_sub, kl_mul, kl_neg, ki_i2l, kl_l2i, ki_lt, ki_le, ki_eq, kcmp_eq, kcmp_lt, kcmp_le, kcmp_gt, kcmp_ge, Option.bind_some, Option.map_some, kbool0, kbool1, if_pos, if_neg, if_true, if_false, Int.neg_neg, Int.sub_zero, Int.add_zero, Int.zero_add, true_and, and_true, false_and, and_false, false_or, or_false, true_or, or_true, ne_eq, not_false_eq_true, not_true_eq_false]
    rfl
set_option maxHeartbeats 1000000 in
theorem X0_makes {Y : jY} {μ : jM} (hX : kX Y μ) {N : Nat} (N1 : 1 ≤ N) (N3 : N ≤ 3) {U W : Int → Int} (hI : atI μ N U W) (bU : ∀ j : Nat, j ≤ N → (U j).natAbs ≤ 1000000) {c : Int} (c0 : 0 ≤ c) (c1 : c < cdN N) : ∃ (r : Int) (ν : jM), f_X0_makes Y 72 (ki c) μ = some (ki r, ν) ∧ kF 74 76 μ ν ∧ ((r = 0 ∧ ¬ mk N U c) ∨ (r = 1 ∧ mk N U c ∧ (∀ i : Nat, i < N → gi ν 74 i = mkA N U c i ∧ -6 ≤ mkA N U c i ∧ mkA N U c i ≤ 6) ∧ ∀ i : Nat, i + 1 < N → gi ν 75 i = mkC N U c i ∧ 1 ≤ mkC N U c i ∧ mkC N U c i ≤ 36)) := by
  have g := hX.g72_1
  rw [hI.1] at g
  have t73 : jgO Y μ 73 10 1 = some 74 := hX.t73.ga
  have : N = 1 ∨ N = 2 ∨ N = 3 := by omega
  rcases this with rfl | rfl | rfl
  · have g : jgI Y μ 72 0 1 = some (ki 1) := g
    obtain ⟨r, ν, h1, h2, h3⟩ := X0_b90 hX N1 N3 (A := cdA 1 c) (C := cdC c) hI bU (fun i hi => by omega) (fun i hi => by omega)
    refine ⟨r, ν, ?_, h2, h3⟩
    simp (disch := omega) only [f_X0_makes, b_X0_makes_31, g, ki_0, ki_1, ki_2, ki_3, ki_4, ki_5, ki_6, ki_7, ki_8, ki_9, ki_10, ki_11, ki_12, ki_13, ki_18, ki_20, ki_24, ki_32, ki_36, ki_45, ki_47, ki_48, ki_50, ki_57, ki_60, ki_63, ki_99, ki_100, ki_101, ki_120, ki_255, ki_468, ki_1000, ki_1024, ki_13849, ki_25173, ki_65535, ki_65536, ki_100000, ki_100001, ki_2147483647, ki_2147483648, kl_0, kl_1, kl_2, kl_9223372036854775808, ki_add, ki_sub, ki_mul, ki_neg, kl_add, kl_sub, kl_mul, kl_neg, ki_i2l, kl_l2i, ki_lt, ki_le, ki_eq, kcmp_eq, kcmp_lt, kcmp_le, kcmp_gt, kcmp_ge, Option.bind_some, Option.map_some, kbool0, kbool1, if_pos, if_neg, if_true, if_false, Int.neg_neg, Int.sub_zero, Int.add_zero, Int.zero_add, true_and, and_true, false_and, and_false, false_or, or_false, true_or, or_true, ne_eq, not_false_eq_true, not_true_eq_false]
    exact h1
  · have g : jgI Y μ 72 0 1 = some (ki 2) := g
    have c13 : c < 13 := c1
    have w1 : jas Y μ 74 20 (ki 0) (.int (ki (c - 6))) = some (jw μ 74 0 (.int (ki (c - 6)))) := kasI hX.t73.aa (x := 0) (by omega) (by omega)
    have k1 : kF 74 76 μ (jw μ 74 0 (.int (ki (c - 6)))) := kF_I (hX.t73.aa.2.2.2 _ (by omega)) (by omega) (by omega)
    have v1 : gi (jw μ 74 0 (.int (ki (c - 6)))) 74 0 = c - 6 := gi_is (j := 0) (jw_same _ _ _ _) (by omega) (by omega)
    generalize jw μ 74 0 (.int (ki (c - 6))) = μ1 at *
    have hX1 := hX.to k1
    have hI1 := hI.to k1
    have g1 := hX1.g72_1
    rw [hI1.1] at g1
    have g1 : jgI Y μ1 72 0 1 = some (ki 2) := g1
    obtain ⟨r, ν, h1, h2, h3⟩ := X0_b90 hX1 N1 N3 (A := cdA 2 c) (C := cdC c) hI1 bU (fun i hi => by
      have : i = 0 := by omega
      subst this
      show gi μ1 74 0 = c - 6 ∧ -6 ≤ c - 6 ∧ c - 6 ≤ 6
      omega) (fun i hi => by omega)
    refine ⟨r, ν, ?_, k1.trans h2, h3⟩
    simp (disch := omega) only [f_X0_makes, b_X0_makes_31, g, hX.o72_0, t73, w1, g1, ki_0, ki_1, ki_2, ki_3, ki_4, ki_5, ki_6, ki_7, ki_8, ki_9, ki_10, ki_11, ki_12, ki_13, ki_18, ki_20, ki_24, ki_32, ki_36, ki_45, ki_47, ki_48, ki_50, ki_57, ki_60, ki_63, ki_99, ki_100, ki_101, ki_120, ki_255, ki_468, ki_1000, ki_1024, ki_13849, ki_25173, ki_65535, ki_65536, ki_100000, ki_100001, ki_2147483647, ki_2147483648, kl_0, kl_1, kl_2, kl_9223372036854775808, ki_add, ki_sub, ki_mul, ki_neg, kl_add, kl_sub, kl_mul, kl_neg, ki_i2l, kl_l2i, ki_lt, ki_le, ki_eq, kcmp_eq, kcmp_lt, kcmp_le, kcmp_gt, kcmp_ge, Option.bind_some, Option.map_some, kbool0, kbool1, if_pos, if_neg, if_true, if_false, Int.neg_neg, Int.sub_zero, Int.add_zero, Int.zero_add, true_and, and_true, false_and, and_false, false_or, or_false, true_or, or_true, ne_eq, not_false_eq_true, not_true_eq_false]
    exact h1
  · have g : jgI Y μ 72 0 1 = some (ki 3) := g
    have c13 : c < 6084 := c1
    have d1 := kdiv (a := c) (b := 468) c0 (by omega) (by omega) (by omega)
    have d2 := kdiv (a := c) (b := 36) c0 (by omega) (by omega) (by omega)
    have d3 := krem (a := c / 36) (b := 13) (by omega) (by omega) (by omega) (by omega)
    have d4 := krem (a := c) (b := 36) c0 (by omega) (by omega) (by omega)
    have w1 : jas Y μ 74 20 (ki 0) (.int (ki (c / 468 - 6))) = some (jw μ 74 0 (.int (ki (c / 468 - 6)))) := kasI hX.t73.aa (x := 0) (by omega) (by omega)
    have k1 : kF 74 76 μ (jw μ 74 0 (.int (ki (c / 468 - 6)))) := kF_I (hX.t73.aa.2.2.2 _ (by omega)) (by omega) (by omega)
    have v1 : gi (jw μ 74 0 (.int (ki (c / 468 - 6)))) 74 0 = c / 468 - 6 := gi_is (j := 0) (jw_same _ _ _ _) (by omega) (by omega)
    generalize jw μ 74 0 (.int (ki (c / 468 - 6))) = μ1 at *
    have hX1 := hX.to k1
    have t1 : jgO Y μ1 73 10 1 = some 74 := hX1.t73.ga
    have w2 : jas Y μ1 74 20 (ki 1) (.int (ki (c / 36 % 13 - 6))) = some (jw μ1 74 1 (.int (ki (c / 36 % 13 - 6)))) := kasI hX1.t73.aa (x := 1) (by omega) (by omega)
    have k2 : kF 74 76 μ (jw μ1 74 1 (.int (ki (c / 36 % 13 - 6)))) := k1.trans (kF_I (hX1.t73.aa.2.2.2 _ (by omega)) (by omega) (by omega))
    have v2 : gi (jw μ1 74 1 (.int (ki (c / 36 % 13 - 6)))) 74 1 = c / 36 % 13 - 6 := gi_is (j := 1) (jw_same _ _ _ _) (by omega) (by omega)
    have v21 : gi (jw μ1 74 1 (.int (ki (c / 36 % 13 - 6)))) 74 0 = c / 468 - 6 := by
      rw [gi_jw 74 0 (by omega) (by omega), if_neg (by omega)]
      exact v1
    generalize jw μ1 74 1 (.int (ki (c / 36 % 13 - 6))) = μ2 at *
    have hX2 := hX.to k2
    have t2 : jgO Y μ2 73 10 2 = some 75 := hX2.t73.gc
    have w3 : jas Y μ2 75 20 (ki 0) (.int (ki (c % 36 + 1))) = some (jw μ2 75 0 (.int (ki (c % 36 + 1)))) := kasI hX2.t73.ac (x := 0) (by omega) (by omega)
    have k3 : kF 74 76 μ (jw μ2 75 0 (.int (ki (c % 36 + 1)))) := k2.trans (kF_I (hX2.t73.ac.2.2.2 _ (by omega)) (by omega) (by omega))
    have v3 : gi (jw μ2 75 0 (.int (ki (c % 36 + 1)))) 75 0 = c % 36 + 1 := gi_is (j := 0) (jw_same _ _ _ _) (by omega) (by omega)
    have v31 : gi (jw μ2 75 0 (.int (ki (c % 36 + 1)))) 74 0 = c / 468 - 6 := by rw [gi_cell (jw_cell (by omega))]; exact v21
    have v32 : gi (jw μ2 75 0 (.int (ki (c % 36 + 1)))) 74 1 = c / 36 % 13 - 6 := by rw [gi_cell (jw_cell (by omega))]; exact v2
    generalize jw μ2 75 0 (.int (ki (c % 36 + 1))) = μ3 at *
    obtain ⟨r, ν, h1, h2, h3⟩ := X0_b90 (hX.to k3) N1 N3 (A := cdA 3 c) (C := cdC c) (hI.to k3) bU (fun i hi => by
      have : i = 0 ∨ i = 1 := by omega
      rcases this with rfl | rfl
      · show gi μ3 74 0 = c / 468 - 6 ∧ -6 ≤ c / 468 - 6 ∧ c / 468 - 6 ≤ 6
        omega
      · show gi μ3 74 1 = c / 36 % 13 - 6 ∧ -6 ≤ c / 36 % 13 - 6 ∧ c / 36 % 13 - 6 ≤ 6
        omega) (fun i hi => by
      have : i = 0 := by omega
      subst this
      show gi μ3 75 0 = c % 36 + 1 ∧ 1 ≤ c % 36 + 1 ∧ c % 36 + 1 ≤ 36
      omega)
    refine ⟨r, ν, ?_, k3.trans h2, h3⟩
    simp (disch := omega) only [f_X0_makes, b_X0_makes_31, g, hX.o72_0, hX1.o72_0, hX2.o72_0, t73, t1, t2, d1, d2, d3, d4, w1, w2, w3, ki_0, ki_1, ki_2, ki_3, ki_4, ki_5, ki_6, ki_7, ki_8, ki_9, ki_10, ki_11, ki_12, ki_13, ki_18, ki_20, ki_24, ki_32, ki_36, ki_45, ki_47, ki_48, ki_50, ki_57, ki_60, ki_63, ki_99, ki_100, ki_101, ki_120, ki_255, ki_468, ki_1000, ki_1024, ki_13849, ki_25173, ki_65535, ki_65536, ki_100000, ki_100001, ki_2147483647, ki_2147483648, kl_0, kl_1, kl_2, kl_9223372036854775808, ki_add, ki_sub, ki_mul, ki_neg, kl_add, kl_sub, kl_mul, kl_neg, ki_i2l, kl_l2i, ki_lt, ki_le, ki_eq, kcmp_eq, kcmp_lt, kcmp_le, kcmp_gt, kcmp_ge, Option.bind_some, Option.map_some, kbool0, kbool1, if_pos, if_neg, if_true, if_false, Int.neg_neg, Int.sub_zero, Int.add_zero, Int.zero_add, true_and, and_true, false_and, and_false, false_or, or_false, true_or, or_true, ne_eq, not_false_eq_true, not_true_eq_false]
    exact h1
