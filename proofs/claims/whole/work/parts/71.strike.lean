/-! OPS: strike, the class's rows and the reference's -/
set_option maxHeartbeats 1000000 in
theorem X4_swing {Y : jY} {μ : jM} (hX : kX Y μ) {o : Nat} (ho : o + 2 < 86) {R : Int} {A C : Int → Int} (hT : tbl Y μ o R A C) (h0 : 1 ≤ R) (h5 : R ≤ 5) (hb : tbR R A C) {j k i : Int} (j0 : 0 ≤ j) (j1 : j < R) (k0 : 0 ≤ k) (k8 : k ≤ 8) (i0 : 0 ≤ i) (i1 : i < R) : ∃ ν, f_X4_swing Y 78 o (ki j) (ki k) (ki i) μ = some (kl ((swg A C R j k.toNat).1 i), ν) ∧ kF 86 88 μ ν := by
  have bdk : ∀ t : Nat, t ≤ 8 → bdR 3282116715437121 R (swg A C R j t).1 ∧ bdR 3282116715437121 R (swg A C R j t).2 := fun t ht => by
    have b := swg_bd (A := A) (C := C) (R := R) (j := j) hb t
    have l := p87_le t ht
    exact ⟨fun x p q => by have := b.1 x p q; omega, fun x p q => by have := b.2 x p q; omega⟩
  have L4 : ∀ (ξ : jM) (t : Nat), (t : Int) < k → kF 86 88 μ ξ → rowL ξ 86 R (swg A C R j (t + 1)).1 → rowL ξ 87 R (swg A C R j t).2 → ∃ ω, jit jF (fun (s : Int32 × jM) => b_X4_swing_91 Y 78 o (ki k) (ki i) (ki t) s.1 s.2) ((0 : Int32), ξ) = some (.inl (ki ((t : Int) + 1), ω)) ∧ kF 86 88 μ ω ∧ rowL ω 86 R (swg A C R j (t + 1)).1 ∧ rowL ω 87 R (swg A C R j (t + 1)).2 := by
    intro ξ t ht kξ hp hq
    obtain ⟨r, e, ω, rfl, k1, k2, k3⟩ := jit_inv (f := fun (s : Int32 × jM) => b_X4_swing_91 Y 78 o (ki k) (ki i) (ki t) s.1 s.2) (fun n z => z.1 = ki n ∧ kF 86 88 μ z.2 ∧ rowL z.2 86 R (swg A C R j (t + 1)).1 ∧ (∀ x : Int, 0 ≤ x → x < n → gl z.2 87 x = (swg A C R j (t + 1)).2 x) ∧ ∀ x : Int, n ≤ x → x < R → gl z.2 87 x = (swg A C R j t).2 x) (fun r => ∃ ω, r = .inl (ki ((t : Int) + 1), ω) ∧ kF 86 88 μ ω ∧ rowL ω 86 R (swg A C R j (t + 1)).1 ∧ rowL ω 87 R (swg A C R j (t + 1)).2) R.toNat (s := ((0 : Int32), ξ)) ⟨rfl, kξ, hp, fun x a b => by omega, fun x a b => hq x (by omega) b⟩ (by omega) (fun n z hn hz => by
      obtain ⟨v, ν⟩ := z
      obtain ⟨rfl, z1, z2, z3, z4⟩ := hz
      simp only [] at z1 z2 z3 z4
      have hX1 := hX.to z1
      have hT1 := hT.to z1 ho
      have g := kT.gr hT1.1
      rw [hT1.2.1] at g
      by_cases e : n = R.toNat
      · refine ⟨.inr (.inl (ki ((t : Int) + 1), ν)), ?_, ν, rfl, z1, z2, fun x a b => z3 x a (by omega)⟩
        simp (disch := omega) only [b_X4_swing_91, g, ki_0, ki_1, ki_2, ki_3, ki_4, ki_5, ki_6, ki_7, ki_8, ki_9, ki_10, ki_11, ki_12, ki_13, ki_18, ki_20, ki_24, ki_32, ki_36, ki_45, ki_47, ki_48, ki_50, ki_57, ki_60, ki_63, ki_99, ki_100, ki_101, ki_120, ki_255, ki_468, ki_1000, ki_1024, ki_13849, ki_25173, ki_65535, ki_65536, ki_100000, ki_100001, ki_2147483647, ki_2147483648, kl_0, kl_1, kl_2, kl_9223372036854775808, ki_add, ki_sub, ki_mul, ki_neg, kl_add, kl_sub, kl_mul, kl_neg, ki_i2l, kl_l2i, ki_lt, ki_le, ki_eq, kcmp_eq, kcmp_lt, kcmp_le, kcmp_gt, kcmp_ge, Option.bind_some, Option.map_some, kbool0, kbool1, if_pos, if_neg, if_true, if_false, Int.neg_neg, Int.sub_zero, Int.add_zero, Int.zero_add, true_and, and_true, false_and, and_false, false_or, or_false, true_or, or_true, ne_eq, not_false_eq_true, not_true_eq_false]
      · have P := X4_pull hX1 hT1 h5 hb z2 (i := (n : Int)) (by omega) (by omega)
        have q1 := kaL hX1.a87 (x := (n : Int)) (by omega) (by omega)
        rw [z4 n (by omega) (by omega)] at q1
        have s1 := fun v => kasL (v := v) hX1.a87 (x := (n : Int)) (by omega) (by omega)
        have kf : kF 86 88 ν (jw ν 87 n (.long (kl ((swg A C R j (t + 1)).2 n)))) := kF_L (hX1.a87.2.2.2 _ (by omega)) (by omega) (by omega)
        have b := (bdk (t + 1) (by omega)).2 n (by omega) (by omega)
        refine ⟨.inl (ki ((n + 1 : Nat) : Int), jw ν 87 n (.long (kl ((swg A C R j (t + 1)).2 n)))), ?_, by omega, rfl, z1.trans kf, fun x a c => ?_, rowL.put (μ := μ) z3 (by omega) (by omega), fun x a c => ?_⟩
        · simp (disch := omega) only [b_X4_swing_91, g, krcv (kX.y78 hX1), kX.o78_2 hX1, q1, P, s1, ki_0, ki_1, ki_2, ki_3, ki_4, ki_5, ki_6, ki_7, ki_8, ki_9, ki_10, ki_11, ki_12, ki_13, ki_18, ki_20, ki_24, ki_32, ki_36, ki_45, ki_47, ki_48, ki_50, ki_57, ki_60, ki_63, ki_99, ki_100, ki_101, ki_120, ki_255, ki_468, ki_1000, ki_1024, ki_13849, ki_25173, ki_65535, ki_65536, ki_100000, ki_100001, ki_2147483647, ki_2147483648, kl_0, kl_1, kl_2, kl_9223372036854775808, ki_add, ki_sub, ki_mul, ki_neg, kl_add, kl_sub, kl_mul, kl_neg, ki_i2l, kl_l2i, ki_lt, ki_le, ki_eq, kcmp_eq, kcmp_lt, kcmp_le, kcmp_gt, kcmp_ge, Option.bind_some, Option.map_some, kbool0, kbool1, if_pos, if_neg, if_true, if_false, Int.neg_neg, Int.sub_zero, Int.add_zero, Int.zero_add, true_and, and_true, false_and, and_false, false_or, or_false, true_or, or_true, ne_eq, not_false_eq_true, not_true_eq_false, Int.natCast_add, Int.natCast_one, Int.toNat_natCast]
          rfl
        · simp only []
          rw [gl_cell (jw_cell (by omega))]
          exact z2 x a c
        · simp only []
          rw [gl_jw _ _ (by omega) (by omega), if_neg (by omega)]
          exact z4 x (by omega) c)
    exact ⟨ω, e, k1, k2, k3⟩
  have L3 : ∀ (ξ : jM) (t : Nat), (t : Int) < k → kF 86 88 μ ξ → rowL ξ 86 R (swg A C R j t).1 → rowL ξ 87 R (swg A C R j t).2 → ∃ ω, jit jF (fun (s : Int32 × jM) => b_X4_swing_56 Y 78 o (ki k) (ki i) (ki t) s.1 s.2) ((0 : Int32), ξ) = some (.inl (ki ((t : Int) + 1), ω)) ∧ kF 86 88 μ ω ∧ rowL ω 86 R (swg A C R j (t + 1)).1 ∧ rowL ω 87 R (swg A C R j (t + 1)).2 := by
    intro ξ t ht kξ hp hq
    obtain ⟨r, e, ω, rfl, k1, k2, k3⟩ := jit_inv (f := fun (s : Int32 × jM) => b_X4_swing_56 Y 78 o (ki k) (ki i) (ki t) s.1 s.2) (fun n z => z.1 = ki n ∧ kF 86 88 μ z.2 ∧ rowL z.2 87 R (swg A C R j t).2 ∧ (∀ x : Int, 0 ≤ x → x < n → gl z.2 86 x = (swg A C R j (t + 1)).1 x) ∧ ∀ x : Int, n ≤ x → x < R → gl z.2 86 x = (swg A C R j t).1 x) (fun r => ∃ ω, r = .inl (ki ((t : Int) + 1), ω) ∧ kF 86 88 μ ω ∧ rowL ω 86 R (swg A C R j (t + 1)).1 ∧ rowL ω 87 R (swg A C R j (t + 1)).2) R.toNat (s := ((0 : Int32), ξ)) ⟨rfl, kξ, hq, fun x a b => by omega, fun x a b => hp x (by omega) b⟩ (by omega) (fun n z hn hz => by
      obtain ⟨v, ν⟩ := z
      obtain ⟨rfl, z1, z2, z3, z4⟩ := hz
      simp only [] at z1 z2 z3 z4
      have hX1 := hX.to z1
      have hT1 := hT.to z1 ho
      have g := kT.gr hT1.1
      rw [hT1.2.1] at g
      by_cases e : n = R.toNat
      · obtain ⟨ω, c, k1, k2⟩ := L4 ν t ht z1 (fun x a b => z3 x a (by omega)) z2
        refine ⟨.inr (.inl (ki ((t : Int) + 1), ω)), ?_, ω, rfl, k1, k2⟩
        have E : b_X4_swing_56 Y 78 o (ki k) (ki i) (ki t) (ki n) ν = (jit jF (fun (s : Int32 × jM) => b_X4_swing_91 Y 78 o (ki k) (ki i) (ki t) s.1 s.2) ((0 : Int32), ν)).map (fun r => (.inr r)) := by
          simp (disch := omega) only [b_X4_swing_56, g, ki_0, ki_1, ki_2, ki_3, ki_4, ki_5, ki_6, ki_7, ki_8, ki_9, ki_10, ki_11, ki_12, ki_13, ki_18, ki_20, ki_24, ki_32, ki_36, ki_45, ki_47, ki_48, ki_50, ki_57, ki_60, ki_63, ki_99, ki_100, ki_101, ki_120, ki_255, ki_468, ki_1000, ki_1024, ki_13849, ki_25173, ki_65535, ki_65536, ki_100000, ki_100001, ki_2147483647, ki_2147483648, kl_0, kl_1, kl_2, kl_9223372036854775808, ki_add, ki_sub, ki_mul, ki_neg, kl_add, kl_sub, kl_mul, kl_neg, ki_i2l, kl_l2i, ki_lt, ki_le, ki_eq, kcmp_eq, kcmp_lt, kcmp_le, kcmp_gt, kcmp_ge, Option.bind_some, Option.map_some, kbool0, kbool1, if_pos, if_neg, if_true, if_false, Int.neg_neg, Int.sub_zero, Int.add_zero, Int.zero_add, true_and, and_true, false_and, and_false, false_or, or_false, true_or, or_true, ne_eq, not_false_eq_true, not_true_eq_false]
        simp only [E, c]
        rfl
      · have q1 := kaL hX1.a86 (x := (n : Int)) (by omega) (by omega)
        rw [z4 n (by omega) (by omega)] at q1
        have q2 := kaL hX1.a87 (x := (n : Int)) (by omega) (by omega)
        rw [z2 n (by omega) (by omega)] at q2
        have s1 := fun v => kasL (v := v) hX1.a86 (x := (n : Int)) (by omega) (by omega)
        have kf : kF 86 88 ν (jw ν 86 n (.long (kl ((swg A C R j (t + 1)).1 n)))) := kF_L (hX1.a86.2.2.2 _ (by omega)) (by omega) (by omega)
        have b := (bdk (t + 1) (by omega)).1 n (by omega) (by omega)
        refine ⟨.inl (ki ((n + 1 : Nat) : Int), jw ν 86 n (.long (kl ((swg A C R j (t + 1)).1 n)))), ?_, by omega, rfl, z1.trans kf, fun x a c => ?_, rowL.put (μ := μ) z3 (by omega) (by omega), fun x a c => ?_⟩
        · simp (disch := omega) only [b_X4_swing_56, g, kX.o78_1 hX1, kX.o78_2 hX1, q1, q2, s1, ki_0, ki_1, ki_2, ki_3, ki_4, ki_5, ki_6, ki_7, ki_8, ki_9, ki_10, ki_11, ki_12, ki_13, ki_18, ki_20, ki_24, ki_32, ki_36, ki_45, ki_47, ki_48, ki_50, ki_57, ki_60, ki_63, ki_99, ki_100, ki_101, ki_120, ki_255, ki_468, ki_1000, ki_1024, ki_13849, ki_25173, ki_65535, ki_65536, ki_100000, ki_100001, ki_2147483647, ki_2147483648, kl_0, kl_1, kl_2, kl_9223372036854775808, ki_add, ki_sub, ki_mul, ki_neg, kl_add, kl_sub, kl_mul, kl_neg, ki_i2l, kl_l2i, ki_lt, ki_le, ki_eq, kcmp_eq, kcmp_lt, kcmp_le, kcmp_gt, kcmp_ge, Option.bind_some, Option.map_some, kbool0, kbool1, if_pos, if_neg, if_true, if_false, Int.neg_neg, Int.sub_zero, Int.add_zero, Int.zero_add, true_and, and_true, false_and, and_false, false_or, or_false, true_or, or_true, ne_eq, not_false_eq_true, not_true_eq_false, Int.natCast_add, Int.natCast_one, Int.toNat_natCast]
          rfl
        · simp only []
          rw [gl_cell (jw_cell (by omega))]
          exact z2 x a c
        · simp only []
          rw [gl_jw _ _ (by omega) (by omega), if_neg (by omega)]
          exact z4 x (by omega) c)
    exact ⟨ω, e, k1, k2, k3⟩
  have L2 : ∀ (ξ : jM), kF 86 88 μ ξ → rowL ξ 86 R (swg A C R j 0).1 → rowL ξ 87 R (swg A C R j 0).2 → ∃ ω, jit jF (fun (s : Int32 × jM) => b_X4_swing_47 Y 78 o (ki k) (ki i) s.1 s.2) ((0 : Int32), ξ) = some (kl ((swg A C R j k.toNat).1 i), ω) ∧ kF 86 88 μ ω := by
    intro ξ kξ hp hq
    obtain ⟨⟨r1, r2⟩, e, h1, h2⟩ := jit_inv (f := fun (s : Int32 × jM) => b_X4_swing_47 Y 78 o (ki k) (ki i) s.1 s.2) (fun n z => z.1 = ki n ∧ kF 86 88 μ z.2 ∧ rowL z.2 86 R (swg A C R j n).1 ∧ rowL z.2 87 R (swg A C R j n).2) (fun r => r.1 = kl ((swg A C R j k.toNat).1 i) ∧ kF 86 88 μ r.2) k.toNat (s := ((0 : Int32), ξ)) ⟨rfl, kξ, hp, hq⟩ (by omega) (fun n z hn hz => by
      obtain ⟨v, ν⟩ := z
      obtain ⟨rfl, z1, z2, z3⟩ := hz
      simp only [] at z1 z2 z3
      have hX1 := hX.to z1
      by_cases e : n = k.toNat
      · have q := kaL hX1.a86 (x := i) i0 (by omega)
        rw [z2 i i0 i1, e] at q
        refine ⟨.inr (kl ((swg A C R j k.toNat).1 i), ν), ?_, rfl, z1⟩
        simp (disch := omega) only [b_X4_swing_47, kX.o78_1 hX1, q, ki_0, ki_1, ki_2, ki_3, ki_4, ki_5, ki_6, ki_7, ki_8, ki_9, ki_10, ki_11, ki_12, ki_13, ki_18, ki_20, ki_24, ki_32, ki_36, ki_45, ki_47, ki_48, ki_50, ki_57, ki_60, ki_63, ki_99, ki_100, ki_101, ki_120, ki_255, ki_468, ki_1000, ki_1024, ki_13849, ki_25173, ki_65535, ki_65536, ki_100000, ki_100001, ki_2147483647, ki_2147483648, kl_0, kl_1, kl_2, kl_9223372036854775808, ki_add, ki_sub, ki_mul, ki_neg, kl_add, kl_sub, kl_mul, kl_neg, ki_i2l, kl_l2i, ki_lt, ki_le, ki_eq, kcmp_eq, kcmp_lt, kcmp_le, kcmp_gt, kcmp_ge, Option.bind_some, Option.map_some, kbool0, kbool1, if_pos, if_neg, if_true, if_false, Int.neg_neg, Int.sub_zero, Int.add_zero, Int.zero_add, true_and, and_true, false_and, and_false, false_or, or_false, true_or, or_true, ne_eq, not_false_eq_true, not_true_eq_false]
      · obtain ⟨ω, c, k1, k2, k3⟩ := L3 ν n (by omega) z1 z2 z3
        refine ⟨.inl (ki ((n : Int) + 1), ω), ?_, by omega, by rw [Int.natCast_add, Int.natCast_one], k1, k2, k3⟩
        simp (disch := omega) only [b_X4_swing_47, ki_0, ki_1, ki_2, ki_3, ki_4, ki_5, ki_6, ki_7, ki_8, ki_9, ki_10, ki_11, ki_12, ki_13, ki_18, ki_20, ki_24, ki_32, ki_36, ki_45, ki_47, ki_48, ki_50, ki_57, ki_60, ki_63, ki_99, ki_100, ki_101, ki_120, ki_255, ki_468, ki_1000, ki_1024, ki_13849, ki_25173, ki_65535, ki_65536, ki_100000, ki_100001, ki_2147483647, ki_2147483648, kl_0, kl_1, kl_2, kl_9223372036854775808, ki_add, ki_sub, ki_mul, ki_neg, kl_add, kl_sub, kl_mul, kl_neg, ki_i2l, kl_l2i, ki_lt, ki_le, ki_eq, kcmp_eq, kcmp_lt, kcmp_le, kcmp_gt, kcmp_ge, Option.bind_some, Option.map_some, kbool0, kbool1, if_pos, if_neg, if_true, if_false, Int.neg_neg, Int.sub_zero, Int.add_zero, Int.zero_add, true_and, and_true, false_and, and_false, false_or, or_false, true_or, or_true, ne_eq, not_false_eq_true, not_true_eq_false]
        exact c)
    simp only [] at h1
    exact ⟨r2, by rw [e, h1], h2⟩
  obtain ⟨⟨r1, r2⟩, e, h1, h2⟩ := jit_inv (f := fun (s : Int32 × jM) => b_X4_swing_3 Y 78 o (ki j) (ki k) (ki i) s.1 s.2) (fun n z => z.1 = ki n ∧ kF 86 88 μ z.2 ∧ (∀ x : Int, 0 ≤ x → x < n → gl z.2 86 x = 0) ∧ ∀ x : Int, 0 ≤ x → x < n → gl z.2 87 x = eI j x) (fun r => r.1 = kl ((swg A C R j k.toNat).1 i) ∧ kF 86 88 μ r.2) R.toNat (s := ((0 : Int32), μ)) ⟨rfl, kF.refl, fun x a b => by omega, fun x a b => by omega⟩ (by omega) (fun n z hn hz => by
    obtain ⟨v, ν⟩ := z
    obtain ⟨rfl, z1, z2, z3⟩ := hz
    simp only [] at z1 z2 z3
    have hX1 := hX.to z1
    have hT1 := hT.to z1 ho
    have g := kT.gr hT1.1
    rw [hT1.2.1] at g
    by_cases e : n = R.toNat
    · obtain ⟨ω, c, k1⟩ := L2 ν z1 (fun x a b => z2 x a (by omega)) (fun x a b => z3 x a (by omega))
      refine ⟨.inr (kl ((swg A C R j k.toNat).1 i), ω), ?_, rfl, k1⟩
      have E : b_X4_swing_3 Y 78 o (ki j) (ki k) (ki i) (ki n) ν = (jit jF (fun (s : Int32 × jM) => b_X4_swing_47 Y 78 o (ki k) (ki i) s.1 s.2) ((0 : Int32), ν)).map (fun r => (.inr r)) := by
        simp (disch := omega) only [b_X4_swing_3, g, ki_0, ki_1, ki_2, ki_3, ki_4, ki_5, ki_6, ki_7, ki_8, ki_9, ki_10, ki_11, ki_12, ki_13, ki_18, ki_20, ki_24, ki_32, ki_36, ki_45, ki_47, ki_48, ki_50, ki_57, ki_60, ki_63, ki_99, ki_100, ki_101, ki_120, ki_255, ki_468, ki_1000, ki_1024, ki_13849, ki_25173, ki_65535, ki_65536, ki_100000, ki_100001, ki_2147483647, ki_2147483648, kl_0, kl_1, kl_2, kl_9223372036854775808, ki_add, ki_sub, ki_mul, ki_neg, kl_add, kl_sub, kl_mul, kl_neg, ki_i2l, kl_l2i, ki_lt, ki_le, ki_eq, kcmp_eq, kcmp_lt, kcmp_le, kcmp_gt, kcmp_ge, Option.bind_some, Option.map_some, kbool0, kbool1, if_pos, if_neg, if_true, if_false, Int.neg_neg, Int.sub_zero, Int.add_zero, Int.zero_add, true_and, and_true, false_and, and_false, false_or, or_false, true_or, or_true, ne_eq, not_false_eq_true, not_true_eq_false]
      simp only [E, c]
      rfl
    · have s1 := fun v => kasL (v := v) hX1.a86 (x := (n : Int)) (by omega) (by omega)
      have kf : kF 86 88 ν (jw ν 86 n (.long (kl 0))) := kF_L (hX1.a86.2.2.2 _ (by omega)) (by omega) (by omega)
      have hX2 := hX1.to kf
      have s2 := fun v => kasL (v := v) hX2.a87 (x := (n : Int)) (by omega) (by omega)
      have kf2 : kF 86 88 (jw ν 86 n (.long (kl 0))) (jw (jw ν 86 n (.long (kl 0))) 87 n (.long (kl (eI j n)))) := kF_L (hX2.a87.2.2.2 _ (by omega)) (by omega) (by omega)
      have b : -1 ≤ eI j n ∧ eI j n ≤ 1 := eI_bd (R := R) n (by omega) (by omega)
      refine ⟨.inl (ki ((n + 1 : Nat) : Int), jw (jw ν 86 n (.long (kl 0))) 87 n (.long (kl (eI j n)))), ?_, by omega, rfl, (z1.trans kf).trans kf2, fun x a c => ?_, rowL.put (μ := μ) (fun x a c => by rw [gl_cell (jw_cell (by omega))]; exact z3 x a c) (by omega) (by omega)⟩
      · by_cases f : (n : Int) = j
        · have ej : eI j n = 1 := if_pos f
          rw [ej]
          simp (disch := omega) only [b_X4_swing_3, b_X4_swing_37, g, kX.o78_1 hX1, s1, kX.o78_2 hX2, s2, ki_0, ki_1, ki_2, ki_3, ki_4, ki_5, ki_6, ki_7, ki_8, ki_9, ki_10, ki_11, ki_12, ki_13, ki_18, ki_20, ki_24, ki_32, ki_36, ki_45, ki_47, ki_48, ki_50, ki_57, ki_60, ki_63, ki_99, ki_100, ki_101, ki_120, ki_255, ki_468, ki_1000, ki_1024, ki_13849, ki_25173, ki_65535, ki_65536, ki_100000, ki_100001, ki_2147483647, ki_2147483648, kl_0, kl_1, kl_2, kl_9223372036854775808, ki_add, ki_sub, ki_mul, ki_neg, kl_add, kl_sub, kl_mul, kl_neg, ki_i2l, kl_l2i, ki_lt, ki_le, ki_eq, kcmp_eq, kcmp_lt, kcmp_le, kcmp_gt, kcmp_ge, Option.bind_some, Option.map_some, kbool0, kbool1, if_pos, if_neg, if_true, if_false, Int.neg_neg, Int.sub_zero, Int.add_zero, Int.zero_add, true_and, and_true, false_and, and_false, false_or, or_false, true_or, or_true, ne_eq, not_false_eq_true, not_true_eq_false, Int.natCast_add, Int.natCast_one, Int.toNat_natCast]
        · have ej : eI j n = 0 := if_neg f
          rw [ej]
          simp (disch := omega) only [b_X4_swing_3, b_X4_swing_37, g, kX.o78_1 hX1, s1, kX.o78_2 hX2, s2, ki_0, ki_1, ki_2, ki_3, ki_4, ki_5, ki_6, ki_7, ki_8, ki_9, ki_10, ki_11, ki_12, ki_13, ki_18, ki_20, ki_24, ki_32, ki_36, ki_45, ki_47, ki_48, ki_50, ki_57, ki_60, ki_63, ki_99, ki_100, ki_101, ki_120, ki_255, ki_468, ki_1000, ki_1024, ki_13849, ki_25173, ki_65535, ki_65536, ki_100000, ki_100001, ki_2147483647, ki_2147483648, kl_0, kl_1, kl_2, kl_9223372036854775808, ki_add, ki_sub, ki_mul, ki_neg, kl_add, kl_sub, kl_mul, kl_neg, ki_i2l, kl_l2i, ki_lt, ki_le, ki_eq, kcmp_eq, kcmp_lt, kcmp_le, kcmp_gt, kcmp_ge, Option.bind_some, Option.map_some, kbool0, kbool1, if_pos, if_neg, if_true, if_false, Int.neg_neg, Int.sub_zero, Int.add_zero, Int.zero_add, true_and, and_true, false_and, and_false, false_or, or_false, true_or, or_true, ne_eq, not_false_eq_true, not_true_eq_false, Int.natCast_add, Int.natCast_one, Int.toNat_natCast]
      · simp only []
        rw [gl_cell (jw_cell (by omega))]
        exact rowL.put (μ := μ) (g := fun _ => 0) z2 (by omega) (by omega) x a c)
  simp only [] at h1
  exact ⟨r2, by rw [← h1]; exact e, h2⟩
