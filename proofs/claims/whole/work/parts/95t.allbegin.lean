/-! ALL TABLES: the class begins -/
set_option maxHeartbeats 1000000 in
theorem X0_begin {Y : jY} {μ : jM} (hX : kX Y μ) {N : Nat} (N1 : 1 ≤ N) (N3 : N ≤ 3) {U W : Int → Int} (e0 : gi μ 27 0 = (N : Int)) (t1 : rowK μ 28 ((N : Int) + 1) U) (t2 : rowK μ 29 (N : Int) W) : ∃ ν, f_X0_begin Y 72 27 μ = some ν ∧ kF 72 78 μ ν ∧ atI ν N U W := by
  have g0 := hX.g27_0
  rw [e0] at g0
  have mn : jminI (ki N) (ki 3) = ki N := by
    rw [kmin (by omega) (by omega) (by omega) (by omega), if_neg (by omega)]
  have k1 : kF 72 78 μ (jw μ 72 1 (.int (ki N))) := kF_I hX.i72_1 (by omega) (by omega)
  have e1 : gi (jw μ 72 1 (.int (ki N))) 72 1 = (N : Int) := gi_is (j := 1) (jw_same _ _ _ _) (by omega) (by omega)
  have p1 := hX.p72 (μ2 := μ) (k := 1) (v := .int (ki N))
  generalize jw μ 72 1 (.int (ki N)) = μ1 at *
  have hX1 := hX.to k1
  have g1 := hX1.g72_1
  rw [e1] at g1
  have B := X10_begin hX1.t73 (N : Int)
  have kB := bgM_kF hX1.t73 (N : Int)
  have gB := (bgM_gi (μ := μ1) (o := 73) (n := (N : Int)) (by omega) (by omega)).1
  have k2 : kF 72 78 μ (bgM μ1 73 (N : Int)) := k1.trans (kB.mono (by omega) (by omega))
  have e2 : gi (bgM μ1 73 (N : Int)) 72 1 = (N : Int) := by rw [kB.gi (by omega)]; exact e1
  generalize bgM μ1 73 (N : Int) = μ2 at *
  have lower : ∀ ξ : jM, kF 72 78 μ ξ → gi ξ 72 1 = (N : Int) → gi ξ 73 0 = (N : Int) → rowK ξ 76 ((N : Int) + 1) U → ∃ ν, jit jF (fun (s : Int32 × jM) => b_X0_begin_53 Y 72 27 s.1 s.2) ((0 : Int32), ξ) = some ν ∧ kF 72 78 μ ν ∧ atI ν N U W := by
    intro ξ kξ a1 a2 a3
    refine jit_inv (f := fun (s : Int32 × jM) => b_X0_begin_53 Y 72 27 s.1 s.2) (fun j z => z.1 = ki j ∧ kF 72 78 μ z.2 ∧ gi z.2 72 1 = (N : Int) ∧ gi z.2 73 0 = (N : Int) ∧ rowK z.2 76 ((N : Int) + 1) U ∧ rowK z.2 77 (j : Int) W) _ N (s := ((0 : Int32), ξ)) ⟨rfl, kξ, a1, a2, a3, fun x a b => by omega⟩ (by omega) (fun j z hj hz => ?_)
    obtain ⟨v, ν⟩ := z
    obtain ⟨rfl, z1, z2, z3, z4, z5⟩ := hz
    simp only [] at z1 z2 z3 z4 z5
    have hXz := hX.to z1
    have g := hXz.g72_1
    rw [z2] at g
    by_cases e : j = N
    · subst e
      refine ⟨.inr ν, ?_, z1, z2, z4, z5, z3⟩
      simp (disch := omega) only [b_X0_begin_53, g, ki_0, ki_1, ki_2, ki_3, ki_4, ki_5, ki_6, ki_7, ki_8, ki_9, ki_10, ki_11, ki_12, ki_13, ki_18, ki_20, ki_24, ki_32, ki_36, ki_45, ki_47, ki_48, ki_50, ki_57, ki_60, ki_63, ki_99, ki_100, ki_101, ki_120, ki_255, ki_468, ki_1000, ki_1024, ki_13849, ki_25173, ki_65535, ki_65536, ki_100000, ki_100001, ki_2147483647, ki_2147483648, kl_0, kl_1, kl_2, kl_9223372036854775808, ki_add, ki_sub, ki_mul, ki_neg, kl_add, kl_sub, kl_mul, kl_neg, ki_i2l, kl_l2i, ki_lt, ki_le, ki_eq, kcmp_eq, kcmp_lt, kcmp_le, kcmp_gt, kcmp_ge, Option.bind_some, Option.map_some, kbool0, kbool1, if_pos, if_neg, if_true, if_false, Int.neg_neg, Int.sub_zero, Int.add_zero, Int.zero_add, true_and, and_true, false_and, and_false, false_or, or_false, true_or, or_true, ne_eq, not_false_eq_true, not_true_eq_false]
    · have q := kaLv hXz.a29 (x := (j : Int)) (by omega) (by omega) (by rw [z1.1 29 (by omega)]; exact t2 (j : Int) (by omega) (by omega))
      have w := kasL (v := .long (kl (W j))) hXz.a77 (x := (j : Int)) (by omega) (by omega)
      have k := z1.trans (kF_L (v := kl (W j)) (lo := 72) (hi := 78) (hXz.a77.2.2.2 j (by omega)) (by omega) (by omega))
      rw [Int.toNat_natCast] at w
      refine ⟨.inl (ki ((j + 1 : Nat) : Int), jw ν 77 j (.long (kl (W j)))), ?_, by omega, rfl, k, ?_, ?_, ?_, fun x a b => ?_⟩
      · simp (disch := omega) only [b_X0_begin_53, g, hXz.o72_3, hXz.o27_2, q, w, ki_0, ki_1, ki_2, ki_3, ki_4, ki_5, ki_6, ki_7, ki_8, ki_9, ki_10, ki_11, ki_12, ki_13, ki_18, ki_20, ki_24, ki_32, ki_36, ki_45, ki_47, ki_48, ki_50, ki_57, ki_60, ki_63, ki_99, ki_100, ki_101, ki_120, ki_255, ki_468, ki_1000, ki_1024, ki_13849, ki_25173, ki_65535, ki_65536, ki_100000, ki_100001, ki_2147483647, ki_2147483648, kl_0, kl_1, kl_2, kl_9223372036854775808, ki_add, ki_sub, ki_mul, ki_neg, kl_add, kl_sub, kl_mul, kl_neg, ki_i2l, kl_l2i, ki_lt, ki_le, ki_eq, kcmp_eq, kcmp_lt, kcmp_le, kcmp_gt, kcmp_ge, Option.bind_some, Option.map_some, kbool0, kbool1, if_pos, if_neg, if_true, if_false, Int.neg_neg, Int.sub_zero, Int.add_zero, Int.zero_add, true_and, and_true, false_and, and_false, false_or, or_false, true_or, or_true, ne_eq, not_false_eq_true, not_true_eq_false, Int.natCast_add, Int.natCast_one]
      · simp only []
        rw [gi_cell (jw_cell (by omega))]
        exact z2
      · simp only []
        rw [gi_cell (jw_cell (by omega))]
        exact z3
      · exact rowK.cell (ν := jw ν 77 j (.long (kl (W j)))) z4 (jw_cell (by omega))
      · simp only []
        by_cases xj : x = j
        · rw [xj, Int.toNat_natCast, jw_same]
        · rw [jw_ne _ _ (by omega)]
          exact z5 x a (by omega)
  have E : f_X0_begin Y 72 27 μ = jit jF (fun (s : Int32 × jM) => b_X0_begin_25 Y 72 27 s.1 s.2) ((0 : Int32), μ2) := by
    simp (disch := omega) only [f_X0_begin, g0, mn, p1, hX1.o72_0, g1, krcv hX1.t73.y, B, ki_0, ki_1, ki_2, ki_3, ki_4, ki_5, ki_6, ki_7, ki_8, ki_9, ki_10, ki_11, ki_12, ki_13, ki_18, ki_20, ki_24, ki_32, ki_36, ki_45, ki_47, ki_48, ki_50, ki_57, ki_60, ki_63, ki_99, ki_100, ki_101, ki_120, ki_255, ki_468, ki_1000, ki_1024, ki_13849, ki_25173, ki_65535, ki_65536, ki_100000, ki_100001, ki_2147483647, ki_2147483648, kl_0, kl_1, kl_2, kl_9223372036854775808, ki_add, ki_sub, ki_mul, ki_neg, kl_add, kl_sub, kl_mul, kl_neg, ki_i2l, kl_l2i, ki_lt, ki_le, ki_eq, kcmp_eq, kcmp_lt, kcmp_le, kcmp_gt, kcmp_ge, Option.bind_some, Option.map_some, kbool0, kbool1, if_pos, if_neg, if_true, if_false, Int.neg_neg, Int.sub_zero, Int.add_zero, Int.zero_add, true_and, and_true, false_and, and_false, false_or, or_false, true_or, or_true, ne_eq, not_false_eq_true, not_true_eq_false]
  rw [E]
  refine jit_inv (f := fun (s : Int32 × jM) => b_X0_begin_25 Y 72 27 s.1 s.2) (fun j z => z.1 = ki j ∧ kF 72 78 μ z.2 ∧ gi z.2 72 1 = (N : Int) ∧ gi z.2 73 0 = (N : Int) ∧ rowK z.2 76 (j : Int) U) _ (N + 1) (s := ((0 : Int32), μ2)) ⟨rfl, k2, e2, gB, fun x a b => by omega⟩ (by omega) (fun j z hj hz => ?_)
  obtain ⟨v, ν⟩ := z
  obtain ⟨rfl, z1, z2, z3, z4⟩ := hz
  simp only [] at z1 z2 z3 z4
  have hXz := hX.to z1
  have g := hXz.g72_1
  rw [z2] at g
  by_cases e : j = N + 1
  · subst e
    rw [show ((N + 1 : Nat) : Int) = (N : Int) + 1 by omega] at z4
    obtain ⟨ω, f1, f2, f3⟩ := lower ν z1 z2 z3 z4
    refine ⟨.inr ω, ?_, f2, f3⟩
    have E2 : b_X0_begin_25 Y 72 27 (ki ((N + 1 : Nat) : Int)) ν = (jit jF (fun (s : Int32 × jM) => b_X0_begin_53 Y 72 27 s.1 s.2) ((0 : Int32), ν)).map (fun r => (.inr r)) := by
      simp (disch := omega) only [b_X0_begin_25, g, ki_0, ki_1, ki_2, ki_3, ki_4, ki_5, ki_6, ki_7, ki_8, ki_9, ki_10, ki_11, ki_12, ki_13, ki_18, ki_20, ki_24, ki_32, ki_36, ki_45, ki_47, ki_48, ki_50, ki_57, ki_60, ki_63, ki_99, ki_100, ki_101, ki_120, ki_255, ki_468, ki_1000, ki_1024, ki_13849, ki_25173, ki_65535, ki_65536, ki_100000, ki_100001, ki_2147483647, ki_2147483648, kl_0, kl_1, kl_2, kl_9223372036854775808, ki_add, ki_sub, ki_mul, ki_neg, kl_add, kl_sub, kl_mul, kl_neg, ki_i2l, kl_l2i, ki_lt, ki_le, ki_eq, kcmp_eq, kcmp_lt, kcmp_le, kcmp_gt, kcmp_ge, Option.bind_some, Option.map_some, kbool0, kbool1, if_pos, if_neg, if_true, if_false, Int.neg_neg, Int.sub_zero, Int.add_zero, Int.zero_add, true_and, and_true, false_and, and_false, false_or, or_false, true_or, or_true, ne_eq, not_false_eq_true, not_true_eq_false]
    simp only [E2, f1]
    rfl
  · have q := kaLv hXz.a28 (x := (j : Int)) (by omega) (by omega) (by rw [z1.1 28 (by omega)]; exact t1 (j : Int) (by omega) (by omega))
    have w := kasL (v := .long (kl (U j))) hXz.a76 (x := (j : Int)) (by omega) (by omega)
    have k := z1.trans (kF_L (v := kl (U j)) (lo := 72) (hi := 78) (hXz.a76.2.2.2 j (by omega)) (by omega) (by omega))
    rw [Int.toNat_natCast] at w
    refine ⟨.inl (ki ((j + 1 : Nat) : Int), jw ν 76 j (.long (kl (U j)))), ?_, by omega, rfl, k, ?_, ?_, fun x a b => ?_⟩
    · simp (disch := omega) only [b_X0_begin_25, g, hXz.o72_2, hXz.o27_1, q, w, ki_0, ki_1, ki_2, ki_3, ki_4, ki_5, ki_6, ki_7, ki_8, ki_9, ki_10, ki_11, ki_12, ki_13, ki_18, ki_20, ki_24, ki_32, ki_36, ki_45, ki_47, ki_48, ki_50, ki_57, ki_60, ki_63, ki_99, ki_100, ki_101, ki_120, ki_255, ki_468, ki_1000, ki_1024, ki_13849, ki_25173, ki_65535, ki_65536, ki_100000, ki_100001, ki_2147483647, ki_2147483648, kl_0, kl_1, kl_2, kl_9223372036854775808, ki_add, ki_sub, ki_mul, ki_neg, kl_add, kl_sub, kl_mul, kl_neg, ki_i2l, kl_l2i, ki_lt, ki_le, ki_eq, kcmp_eq, kcmp_lt, kcmp_le, kcmp_gt, kcmp_ge, Option.bind_some, Option.map_some, kbool0, kbool1, if_pos, if_neg, if_true, if_false, Int.neg_neg, Int.sub_zero, Int.add_zero, Int.zero_add, true_and, and_true, false_and, and_false, false_or, or_false, true_or, or_true, ne_eq, not_false_eq_true, not_true_eq_false, Int.natCast_add, Int.natCast_one]
    · simp only []
      rw [gi_cell (jw_cell (by omega))]
      exact z2
    · simp only []
      rw [gi_cell (jw_cell (by omega))]
      exact z3
    · simp only []
      by_cases xj : x = j
      · rw [xj, Int.toNat_natCast, jw_same]
      · rw [jw_ne _ _ (by omega)]
        exact z4 x a (by omega)
