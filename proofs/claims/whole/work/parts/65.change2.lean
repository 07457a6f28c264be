/-! OPS: change, the reference and both -/
theorem X10_alter {Y : jY} {μ : jM} {o : Nat} (hT : kT Y μ o) {R how : Int} (eR : gi μ o 0 = R) (h1 : 1 ≤ R) (h5 : R ≤ 5) (hh : 0 ≤ how ∧ how ≤ 4) (hr : ∀ x : Int, 0 ≤ x → x < R → -6 ≤ gi μ (o + 1) x ∧ gi μ (o + 1) x ≤ 6) :
    (how = 0 ∧ ∃ ν, f_X10_alter Y o (ki how) μ = some (ki 1, ν) ∧ kF o (o + 3) μ ν ∧ gi ν o 0 = R ∧ (∀ x : Int, 0 ≤ x → x < R → gi ν (o + 1) x = gi μ (o + 1) (R - 1 - x)) ∧ ∀ x : Int, 0 ≤ x → x < R - 1 → gi ν (o + 2) x = gi μ (o + 2) (R - 2 - x)) ∨
    ((how = 1 ∨ how = 2) ∧ (∀ x : Int, 0 ≤ x → x < R → -6 ≤ gi μ (o + 1) x + (3 - 2 * how) ∧ gi μ (o + 1) x + (3 - 2 * how) ≤ 6) ∧ ∃ ν, f_X10_alter Y o (ki how) μ = some (ki 1, ν) ∧ kF o (o + 3) μ ν ∧ gi ν o 0 = R ∧ (∀ x : Int, 0 ≤ x → x < R → gi ν (o + 1) x = gi μ (o + 1) x + (3 - 2 * how)) ∧ ∀ x : Int, 0 ≤ x → x < R - 1 → gi ν (o + 2) x = gi μ (o + 2) x) ∨
    ((how = 1 ∨ how = 2) ∧ ¬ (∀ x : Int, 0 ≤ x → x < R → -6 ≤ gi μ (o + 1) x + (3 - 2 * how) ∧ gi μ (o + 1) x + (3 - 2 * how) ≤ 6) ∧ f_X10_alter Y o (ki how) μ = some (ki 0, μ)) ∨
    (3 ≤ how ∧ R = 1 ∧ f_X10_alter Y o (ki how) μ = some (ki 0, μ)) ∨
    (3 ≤ how ∧ 2 ≤ R ∧ ∃ ν, f_X10_alter Y o (ki how) μ = some (ki 1, ν) ∧ kF o (o + 3) μ ν ∧ gi ν o 0 = R - 1 ∧ (∀ x : Int, 0 ≤ x → x < R - 1 → gi ν (o + 1) x = gi μ (o + 1) (x + (how - 3))) ∧ ∀ x : Int, 0 ≤ x → x < R - 2 → gi ν (o + 2) x = gi μ (o + 2) (x + (how - 3))) := by
  have g := kT.gr hT
  rw [eR] at g
  by_cases w0 : how = 0
  · subst w0
    obtain ⟨ν1, c1, k1, d1⟩ := X10_turnRound hT.aa (c := R) (by omega) (by omega)
    have hT1 := hT.to k1
    have g1 := kT.gr hT1
    rw [k1.gi (by omega), eR] at g1
    obtain ⟨ν2, c2, k2, d2⟩ := X10_turnRound hT1.ac (c := R - 1) (by omega) (by omega)
    refine Or.inl ⟨rfl, ν2, ?_, (k1.mono (by omega) (by omega)).trans (k2.mono (by omega) (by omega)), by rw [k2.gi (by omega), k1.gi (by omega), eR], fun x p q => ?_, fun x p q => ?_⟩
    · simp (disch := omega) only [f_X10_alter, kT.ga hT, g, c1, kT.gc hT1, g1, c2, ki_0, ki_1, ki_2, ki_3, ki_4, ki_5, ki_6, ki_7, ki_8, ki_9, ki_10, ki_11, ki_12, ki_13, ki_18, ki_20, ki_24, ki_32, ki_36, ki_45, ki_47, ki_48, ki_50, ki_57, ki_60, ki_63, ki_99, ki_100, ki_101, ki_120, ki_255, ki_468, ki_1000, ki_1024, ki_13849, ki_25173, ki_65535, ki_65536, ki_100000, ki_100001, ki_2147483647, ki_2147483648, kl_0, kl_1, kl_2, kl_9223372036854775808, ki_add, ki_sub, ki_mul, ki_neg, kl_add, kl_sub, kl_mul, kl_neg, ki_i2l, kl_l2i, ki_lt, ki_le, ki_eq, kcmp_eq, kcmp_lt, kcmp_le, kcmp_gt, kcmp_ge, Option.bind_some, Option.map_some, kbool0, kbool1, if_pos, if_neg, if_true, if_false, Int.neg_neg, Int.sub_zero, Int.add_zero, Int.zero_add, true_and, and_true, false_and, and_false, false_or, or_false, true_or, or_true, ne_eq, not_false_eq_true, not_true_eq_false]
    · rw [k2.gi (by omega)]; exact d1 x p q
    · rw [d2 x p q, k1.gi (by omega), show R - 1 - 1 - x = R - 2 - x by omega]
  · by_cases w1 : how = 1 ∨ how = 2
    · have hb : -1 ≤ 3 - 2 * how ∧ 3 - 2 * how ≤ 1 := by omega
      have hk : how = 1 ∧ 3 - 2 * how = 1 ∨ how = 2 ∧ 3 - 2 * how = -1 := by omega
      rcases X10_raise hT (b := 3 - 2 * how) eR (by omega) h5 hb hr with ⟨ok, ν, c, k, d⟩ | ⟨ok, c⟩
      · refine Or.inr (Or.inl ⟨w1, ok, ν, ?_, k.mono (by omega) (by omega), by rw [k.gi (by omega), eR], d, fun x p q => k.gi (by omega) x⟩)
        rcases hk with ⟨e1, e2⟩ | ⟨e1, e2⟩
        · rw [e2] at c
          simp (disch := omega) only [f_X10_alter, b_X10_alter_40, b_X10_alter_51, krcv hT.y, e1, c, ki_0, ki_1, ki_2, ki_3, ki_4, ki_5, ki_6, ki_7, ki_8, ki_9, ki_10, ki_11, ki_12, ki_13, ki_18, ki_20, ki_24, ki_32, ki_36, ki_45, ki_47, ki_48, ki_50, ki_57, ki_60, ki_63, ki_99, ki_100, ki_101, ki_120, ki_255, ki_468, ki_1000, ki_1024, ki_13849, ki_25173, ki_65535, ki_65536, ki_100000, ki_100001, ki_2147483647, ki_2147483648, kl_0, kl_1, kl_2, kl_9223372036854775808, ki_add, ki_sub, ki_mul, ki_neg, kl_add, kl_sub, kl_mul, kl_neg, ki_i2l, kl_l2i, ki_lt, ki_le, ki_eq, kcmp_eq, kcmp_lt, kcmp_le, kcmp_gt, kcmp_ge, Option.bind_some, Option.map_some, kbool0, kbool1, if_pos, if_neg, if_true, if_false, Int.neg_neg, Int.sub_zero, Int.add_zero, Int.zero_add, true_and, and_true, false_and, and_false, false_or, or_false, true_or, or_true, ne_eq, not_false_eq_true, not_true_eq_false]
        · rw [e2] at c
          simp (disch := omega) only [f_X10_alter, b_X10_alter_40, b_X10_alter_51, krcv hT.y, e1, c, ki_0, ki_1, ki_2, ki_3, ki_4, ki_5, ki_6, ki_7, ki_8, ki_9, ki_10, ki_11, ki_12, ki_13, ki_18, ki_20, ki_24, ki_32, ki_36, ki_45, ki_47, ki_48, ki_50, ki_57, ki_60, ki_63, ki_99, ki_100, ki_101, ki_120, ki_255, ki_468, ki_1000, ki_1024, ki_13849, ki_25173, ki_65535, ki_65536, ki_100000, ki_100001, ki_2147483647, ki_2147483648, kl_0, kl_1, kl_2, kl_9223372036854775808, ki_add, ki_sub, ki_mul, ki_neg, kl_add, kl_sub, kl_mul, kl_neg, ki_i2l, kl_l2i, ki_lt, ki_le, ki_eq, kcmp_eq, kcmp_lt, kcmp_le, kcmp_gt, kcmp_ge, Option.bind_some, Option.map_some, kbool0, kbool1, if_pos, if_neg, if_true, if_false, Int.neg_neg, Int.sub_zero, Int.add_zero, Int.zero_add, true_and, and_true, false_and, and_false, false_or, or_false, true_or, or_true, ne_eq, not_false_eq_true, not_true_eq_false]
      · refine Or.inr (Or.inr (Or.inl ⟨w1, ok, ?_⟩))
        rcases hk with ⟨e1, e2⟩ | ⟨e1, e2⟩
        · rw [e2] at c
          simp (disch := omega) only [f_X10_alter, b_X10_alter_40, b_X10_alter_51, krcv hT.y, e1, c, ki_0, ki_1, ki_2, ki_3, ki_4, ki_5, ki_6, ki_7, ki_8, ki_9, ki_10, ki_11, ki_12, ki_13, ki_18, ki_20, ki_24, ki_32, ki_36, ki_45, ki_47, ki_48, ki_50, ki_57, ki_60, ki_63, ki_99, ki_100, ki_101, ki_120, ki_255, ki_468, ki_1000, ki_1024, ki_13849, ki_25173, ki_65535, ki_65536, ki_100000, ki_100001, ki_2147483647, ki_2147483648, kl_0, kl_1, kl_2, kl_9223372036854775808, ki_add, ki_sub, ki_mul, ki_neg, kl_add, kl_sub, kl_mul, kl_neg, ki_i2l, kl_l2i, ki_lt, ki_le, ki_eq, kcmp_eq, kcmp_lt, kcmp_le, kcmp_gt, kcmp_ge, Option.bind_some, Option.map_some, kbool0, kbool1, if_pos, if_neg, if_true, if_false, Int.neg_neg, Int.sub_zero, Int.add_zero, Int.zero_add, true_and, and_true, false_and, and_false, false_or, or_false, true_or, or_true, ne_eq, not_false_eq_true, not_true_eq_false]
        · rw [e2] at c
          simp (disch := omega) only [f_X10_alter, b_X10_alter_40, b_X10_alter_51, krcv hT.y, e1, c, ki_0, ki_1, ki_2, ki_3, ki_4, ki_5, ki_6, ki_7, ki_8, ki_9, ki_10, ki_11, ki_12, ki_13, ki_18, ki_20, ki_24, ki_32, ki_36, ki_45, ki_47, ki_48, ki_50, ki_57, ki_60, ki_63, ki_99, ki_100, ki_101, ki_120, ki_255, ki_468, ki_1000, ki_1024, ki_13849, ki_25173, ki_65535, ki_65536, ki_100000, ki_100001, ki_2147483647, ki_2147483648, kl_0, kl_1, kl_2, kl_9223372036854775808, ki_add, ki_sub, ki_mul, ki_neg, kl_add, kl_sub, kl_mul, kl_neg, ki_i2l, kl_l2i, ki_lt, ki_le, ki_eq, kcmp_eq, kcmp_lt, kcmp_le, kcmp_gt, kcmp_ge, Option.bind_some, Option.map_some, kbool0, kbool1, if_pos, if_neg, if_true, if_false, Int.neg_neg, Int.sub_zero, Int.add_zero, Int.zero_add, true_and, and_true, false_and, and_false, false_or, or_false, true_or, or_true, ne_eq, not_false_eq_true, not_true_eq_false]
    · by_cases w2 : R = 1
      · refine Or.inr (Or.inr (Or.inr (Or.inl ⟨by omega, w2, ?_⟩)))
        simp (disch := omega) only [f_X10_alter, g, ki_0, ki_1, ki_2, ki_3, ki_4, ki_5, ki_6, ki_7, ki_8, ki_9, ki_10, ki_11, ki_12, ki_13, ki_18, ki_20, ki_24, ki_32, ki_36, ki_45, ki_47, ki_48, ki_50, ki_57, ki_60, ki_63, ki_99, ki_100, ki_101, ki_120, ki_255, ki_468, ki_1000, ki_1024, ki_13849, ki_25173, ki_65535, ki_65536, ki_100000, ki_100001, ki_2147483647, ki_2147483648, kl_0, kl_1, kl_2, kl_9223372036854775808, ki_add, ki_sub, ki_mul, ki_neg, kl_add, kl_sub, kl_mul, kl_neg, ki_i2l, kl_l2i, ki_lt, ki_le, ki_eq, kcmp_eq, kcmp_lt, kcmp_le, kcmp_gt, kcmp_ge, Option.bind_some, Option.map_some, kbool0, kbool1, if_pos, if_neg, if_true, if_false, Int.neg_neg, Int.sub_zero, Int.add_zero, Int.zero_add, true_and, and_true, false_and, and_false, false_or, or_false, true_or, or_true, ne_eq, not_false_eq_true, not_true_eq_false]
      · refine Or.inr (Or.inr (Or.inr (Or.inr ⟨by omega, by omega, ?_⟩)))
        by_cases w4 : how = 4
        · obtain ⟨ν1, c1, k1, d1⟩ := X10_dropFirst hT.aa (by omega)
          have hT1 := hT.to k1
          obtain ⟨ν2, c2, k2, d2⟩ := X10_dropFirst hT1.ac (by omega)
          have hT2 := hT1.to k2
          have g2 := kT.gr hT2
          rw [k2.gi (by omega), k1.gi (by omega), eR] at g2
          have k3 : kF o (o + 3) ν2 (jw ν2 o 0 (.int (ki (R - 1)))) := kF_I hT2.ir (by omega) (by omega)
          refine ⟨jw ν2 o 0 (.int (ki (R - 1))), ?_, (k1.mono (by omega) (by omega)).trans ((k2.mono (by omega) (by omega)).trans k3), by rw [gi_jw _ _ (by omega) (by omega), if_pos ⟨rfl, rfl⟩], fun x p q => ?_, fun x p q => ?_⟩
          · simp (disch := omega) only [f_X10_alter, b_X10_alter_84, kT.ga hT, g, c1, kT.gc hT1, c2, g2, kT.pr hT2, ki_0, ki_1, ki_2, ki_3, ki_4, ki_5, ki_6, ki_7, ki_8, ki_9, ki_10, ki_11, ki_12, ki_13, ki_18, ki_20, ki_24, ki_32, ki_36, ki_45, ki_47, ki_48, ki_50, ki_57, ki_60, ki_63, ki_99, ki_100, ki_101, ki_120, ki_255, ki_468, ki_1000, ki_1024, ki_13849, ki_25173, ki_65535, ki_65536, ki_100000, ki_100001, ki_2147483647, ki_2147483648, kl_0, kl_1, kl_2, kl_9223372036854775808, ki_add, ki_sub, ki_mul, ki_neg, kl_add, kl_sub, kl_mul, kl_neg, ki_i2l, kl_l2i, ki_lt, ki_le, ki_eq, kcmp_eq, kcmp_lt, kcmp_le, kcmp_gt, kcmp_ge, Option.bind_some, Option.map_some, kbool0, kbool1, if_pos, if_neg, if_true, if_false, Int.neg_neg, Int.sub_zero, Int.add_zero, Int.zero_add, true_and, and_true, false_and, and_false, false_or, or_false, true_or, or_true, ne_eq, not_false_eq_true, not_true_eq_false]
          · rw [gi_jw _ _ (by omega) (by omega), if_neg (by omega), k2.gi (by omega), d1 x p (by omega), show x + (how - 3) = x + 1 by omega]
          · rw [gi_jw _ _ (by omega) (by omega), if_neg (by omega), d2 x p (by omega), k1.gi (by omega), show x + (how - 3) = x + 1 by omega]
        · have k3 : kF o (o + 3) μ (jw μ o 0 (.int (ki (R - 1)))) := kF_I hT.ir (by omega) (by omega)
          refine ⟨jw μ o 0 (.int (ki (R - 1))), ?_, k3, by rw [gi_jw _ _ (by omega) (by omega), if_pos ⟨rfl, rfl⟩], fun x p q => ?_, fun x p q => ?_⟩
          · simp (disch := omega) only [f_X10_alter, b_X10_alter_84, g, kT.pr hT, ki_0, ki_1, ki_2, ki_3, ki_4, ki_5, ki_6, ki_7, ki_8, ki_9, ki_10, ki_11, ki_12, ki_13, ki_18, ki_20, ki_24, ki_32, ki_36, ki_45, ki_47, ki_48, ki_50, ki_57, ki_60, ki_63, ki_99, ki_100, ki_101, ki_120, ki_255, ki_468, ki_1000, ki_1024, ki_13849, ki_25173, ki_65535, ki_65536, ki_100000, ki_100001, ki_2147483647, ki_2147483648, kl_0, kl_1, kl_2, kl_9223372036854775808, ki_add, ki_sub, ki_mul, ki_neg, kl_add, kl_sub, kl_mul, kl_neg, ki_i2l, kl_l2i, ki_lt, ki_le, ki_eq, kcmp_eq, kcmp_lt, kcmp_le, kcmp_gt, kcmp_ge, Option.bind_some, Option.map_some, kbool0, kbool1, if_pos, if_neg, if_true, if_false, Int.neg_neg, Int.sub_zero, Int.add_zero, Int.zero_add, true_and, and_true, false_and, and_false, false_or, or_false, true_or, or_true, ne_eq, not_false_eq_true, not_true_eq_false]
          · rw [gi_jw _ _ (by omega) (by omega), if_neg (by omega), show x + (how - 3) = x by omega]
          · rw [gi_jw _ _ (by omega) (by omega), if_neg (by omega), show x + (how - 3) = x by omega]
/-- the reference's rows, behind a change: drawer d's and the others -/
def rowsM (μ ν : jM) (d R : Int) (A C : Int → Int) : Prop := kF 108 111 μ ν ∧ gi ν 108 d = R ∧ (∀ e : Int, 0 ≤ e → e ≤ 3 → e ≠ d → gi ν 108 e = gi μ 108 e ∧ (∀ x, 0 ≤ x → x < 5 → mA ν e x = mA μ e x) ∧ ∀ x, 0 ≤ x → x < 5 → mC ν e x = mC μ e x) ∧ (∀ x, 0 ≤ x → x < R → mA ν d x = A x) ∧ ∀ x, 0 ≤ x → x < R - 1 → mC ν d x = C x
theorem X12_swaps {Y : jY} {μ : jM} (hM : kM Y μ) {a n : Nat} (hA : kAI Y μ a n) {i j : Int} (i0 : 0 ≤ i) (i1 : i < n) (j0 : 0 ≤ j) (j1 : j < n) : f_X12_swaps Y 95 a (ki i) (ki j) μ = some (jw (jw μ a i.toNat (.int (ki (gi μ a j)))) a j.toNat (.int (ki (gi μ a i)))) := by
  have q1 := kaI hA i0 i1
  have q2 := kaI hA j0 j1
  have s1 := fun v => kasI (v := v) hA i0 i1
  have k1 : kF a (a + 1) μ (jw μ a i.toNat (.int (ki (gi μ a j)))) := kF_I (hA.2.2.2 _ (by omega)) (by omega) (by omega)
  have s2 := fun v => kasI (v := v) (hA.to k1) j0 j1
  simp (disch := omega) only [f_X12_swaps, q1, q2, s1, s2, ki_0, ki_1, ki_2, ki_3, ki_4, ki_5, ki_6, ki_7, ki_8, ki_9, ki_10, ki_11, ki_12, ki_13, ki_18, ki_20, ki_24, ki_32, ki_36, ki_45, ki_47, ki_48, ki_50, ki_57, ki_60, ki_63, ki_99, ki_100, ki_101, ki_120, ki_255, ki_468, ki_1000, ki_1024, ki_13849, ki_25173, ki_65535, ki_65536, ki_100000, ki_100001, ki_2147483647, ki_2147483648, kl_0, kl_1, kl_2, kl_9223372036854775808, ki_add, ki_sub, ki_mul, ki_neg, kl_add, kl_sub, kl_mul, kl_neg, ki_i2l, kl_l2i, ki_lt, ki_le, ki_eq, kcmp_eq, kcmp_lt, kcmp_le, kcmp_gt, kcmp_ge, Option.bind_some, Option.map_some, kbool0, kbool1, if_pos, if_neg, if_true, if_false, Int.neg_neg, Int.sub_zero, Int.add_zero, Int.zero_add, true_and, and_true, false_and, and_false, false_or, or_false, true_or, or_true, ne_eq, not_false_eq_true, not_true_eq_false]
theorem X12_ch2 {Y : jY} {μ : jM} (hM : kM Y μ) {d R : Int} (d0 : 0 ≤ d) (d3 : d ≤ 3) (h1 : 1 ≤ R) (h5 : R ≤ 5) : ∃ ν, jit jF (fun (s : Int32 × jM) => b_X12_change_269 Y 95 (ki d) (ki 0) (ki R) s.1 s.2) ((0 : Int32), μ) = some (ki R, ν) ∧ kF 110 111 μ ν ∧ (∀ x, 0 ≤ x → x < 5 * d ∨ 5 * d + (R - 1) ≤ x → gi ν 110 x = gi μ 110 x) ∧ ∀ x, 0 ≤ x → x < R - 1 → gi ν 110 (5 * d + x) = gi μ 110 (5 * d + (R - 1 - 1 - x)) := by
  obtain ⟨r, f, g1, g2, g3⟩ := jit_inv (f := fun (s : Int32 × jM) => b_X12_change_269 Y 95 (ki d) (ki 0) (ki R) s.1 s.2) (fun i z => (i : Int) ≤ R - 1 - i + 1 ∧ z.1 = ki i ∧ turned μ z.2 110 (5 * d) (R - 1) i) (fun r => r.1 = ki R ∧ (kF 110 111 μ r.2 ∧ ∀ x, 0 ≤ x → x < 5 * d ∨ 5 * d + (R - 1) ≤ x → gi r.2 110 x = gi μ 110 x) ∧ ∀ x, 0 ≤ x → x < R - 1 → gi r.2 110 (5 * d + x) = gi μ 110 (5 * d + (R - 1 - 1 - x))) (R.toNat + 1) (s := ((0 : Int32), μ)) ⟨by omega, rfl, turned.start⟩ (by omega) (fun i z hi hz => by
    obtain ⟨v, ν⟩ := z
    obtain ⟨z0, rfl, z1⟩ := hz
    simp only [] at z1
    by_cases e : R - 1 - 1 - i ≤ i
    · refine ⟨.inr (ki R, ν), ?_, rfl, ⟨z1.1, z1.2.1⟩, fun x p q => z1.done e p q⟩
      simp (disch := omega) only [b_X12_change_269, b_X12_change_313, ki_0, ki_1, ki_2, ki_3, ki_4, ki_5, ki_6, ki_7, ki_8, ki_9, ki_10, ki_11, ki_12, ki_13, ki_18, ki_20, ki_24, ki_32, ki_36, ki_45, ki_47, ki_48, ki_50, ki_57, ki_60, ki_63, ki_99, ki_100, ki_101, ki_120, ki_255, ki_468, ki_1000, ki_1024, ki_13849, ki_25173, ki_65535, ki_65536, ki_100000, ki_100001, ki_2147483647, ki_2147483648, kl_0, kl_1, kl_2, kl_9223372036854775808, ki_add, ki_sub, ki_mul, ki_neg, kl_add, kl_sub, kl_mul, kl_neg, ki_i2l, kl_l2i, ki_lt, ki_le, ki_eq, kcmp_eq, kcmp_lt, kcmp_le, kcmp_gt, kcmp_ge, Option.bind_some, Option.map_some, kbool0, kbool1, if_pos, if_neg, if_true, if_false, Int.neg_neg, Int.sub_zero, Int.add_zero, Int.zero_add, true_and, and_true, false_and, and_false, false_or, or_false, true_or, or_true, ne_eq, not_false_eq_true, not_true_eq_false]
    · have hM1 := hM.to z1.1
      have w1 := z1.at (x := (i : Int)) (by omega) (by omega) (by omega)
      have w2 := z1.at (x := R - 1 - 1 - i) (by omega) (by omega) (by omega)
      have T := z1.step (kM.a110 hM) (by omega) (by omega) (by omega) (by omega)
      have S := X12_swaps hM1 (kM.a110 hM1) (i := 5 * d + i) (j := 5 * d + (R - 1 - 1 - i)) (by omega) (by omega) (by omega) (by omega)
      rw [w1, w2] at S
      refine ⟨.inl (ki ((i + 1 : Nat) : Int), _), ?_, by omega, by omega, rfl, T⟩
      simp (disch := omega) only [b_X12_change_269, kM.o28 hM1, krcv (kM.y hM), ki_0, ki_1, ki_2, ki_3, ki_4, ki_5, ki_6, ki_7, ki_8, ki_9, ki_10, ki_11, ki_12, ki_13, ki_18, ki_20, ki_24, ki_32, ki_36, ki_45, ki_47, ki_48, ki_50, ki_57, ki_60, ki_63, ki_99, ki_100, ki_101, ki_120, ki_255, ki_468, ki_1000, ki_1024, ki_13849, ki_25173, ki_65535, ki_65536, ki_100000, ki_100001, ki_2147483647, ki_2147483648, kl_0, kl_1, kl_2, kl_9223372036854775808, ki_add, ki_sub, ki_mul, ki_neg, kl_add, kl_sub, kl_mul, kl_neg, ki_i2l, kl_l2i, ki_lt, ki_le, ki_eq, kcmp_eq, kcmp_lt, kcmp_le, kcmp_gt, kcmp_ge, Option.bind_some, Option.map_some, kbool0, kbool1, if_pos, if_neg, if_true, if_false, Int.neg_neg, Int.sub_zero, Int.add_zero, Int.zero_add, true_and, and_true, false_and, and_false, false_or, or_false, true_or, or_true, ne_eq, not_false_eq_true, not_true_eq_false, Int.natCast_add, Int.natCast_one]
      rw [show 5 * d + R - 2 - (i : Int) = 5 * d + (R - 1 - 1 - i) by omega, S]
      rfl)
  obtain ⟨r1, r2⟩ := r
  simp only [] at g1
  subst g1
  exact ⟨r2, f, g2.1, g2.2, g3⟩
theorem X12_ch3 {Y : jY} {μ : jM} (hM : kM Y μ) {d R : Int} (d0 : 0 ≤ d) (d3 : d ≤ 3) (h1 : 1 ≤ R) (h5 : R ≤ 5) : ∃ ν, jit jF (fun (s : Int32 × jM) => b_X12_change_222 Y 95 (ki d) (ki 0) (ki R) s.1 s.2) ((0 : Int32), μ) = some (ki R, ν) ∧ kF 109 111 μ ν ∧ (∀ x, 0 ≤ x → x < 5 * d ∨ 5 * d + R ≤ x → gi ν 109 x = gi μ 109 x) ∧ (∀ x, 0 ≤ x → x < R → gi ν 109 (5 * d + x) = gi μ 109 (5 * d + (R - 1 - x))) ∧ (∀ x, 0 ≤ x → x < 5 * d ∨ 5 * d + (R - 1) ≤ x → gi ν 110 x = gi μ 110 x) ∧ ∀ x, 0 ≤ x → x < R - 1 → gi ν 110 (5 * d + x) = gi μ 110 (5 * d + (R - 1 - 1 - x)) := by
  obtain ⟨r, f, g1, g2, g3⟩ := jit_inv (f := fun (s : Int32 × jM) => b_X12_change_222 Y 95 (ki d) (ki 0) (ki R) s.1 s.2) (fun i z => (i : Int) ≤ R - i + 1 ∧ z.1 = ki i ∧ turned μ z.2 109 (5 * d) R i) (fun r => r.1 = ki R ∧ (kF 109 111 μ r.2 ∧ (∀ x, 0 ≤ x → x < 5 * d ∨ 5 * d + R ≤ x → gi r.2 109 x = gi μ 109 x) ∧ (∀ x, 0 ≤ x → x < R → gi r.2 109 (5 * d + x) = gi μ 109 (5 * d + (R - 1 - x))) ∧ (∀ x, 0 ≤ x → x < 5 * d ∨ 5 * d + (R - 1) ≤ x → gi r.2 110 x = gi μ 110 x)) ∧ ∀ x, 0 ≤ x → x < R - 1 → gi r.2 110 (5 * d + x) = gi μ 110 (5 * d + (R - 1 - 1 - x))) (R.toNat + 1) (s := ((0 : Int32), μ)) ⟨by omega, rfl, turned.start⟩ (by omega) (fun i z hi hz => by
    obtain ⟨v, ν⟩ := z
    obtain ⟨z0, rfl, z1⟩ := hz
    simp only [] at z1
    have hM1 := hM.to z1.1
    by_cases e : R - 1 - i ≤ i
    · obtain ⟨ω, c, k, t1, t2⟩ := X12_ch2 hM1 d0 d3 h1 h5
      refine ⟨.inr (ki R, ω), ?_, rfl, ⟨(z1.1.mono (by omega) (by omega)).trans (k.mono (by omega) (by omega)), fun x p q => by rw [k.gi (by omega)]; exact z1.2.1 x p q, fun x p q => by rw [k.gi (by omega)]; exact z1.done e p q, fun x p q => by rw [t1 x p q, z1.1.gi (by omega)]⟩, fun x p q => by rw [t2 x p q, z1.1.gi (by omega)]⟩
      have E : b_X12_change_222 Y 95 (ki d) (ki 0) (ki R) (ki i) ν = (jit jF (fun (s : Int32 × jM) => b_X12_change_269 Y 95 (ki d) (ki 0) (ki R) s.1 s.2) ((0 : Int32), ν)).map (fun r => (.inr r)) := by
        simp (disch := omega) only [b_X12_change_222, b_X12_change_266, ki_0, ki_1, ki_2, ki_3, ki_4, ki_5, ki_6, ki_7, ki_8, ki_9, ki_10, ki_11, ki_12, ki_13, ki_18, ki_20, ki_24, ki_32, ki_36, ki_45, ki_47, ki_48, ki_50, ki_57, ki_60, ki_63, ki_99, ki_100, ki_101, ki_120, ki_255, ki_468, ki_1000, ki_1024, ki_13849, ki_25173, ki_65535, ki_65536, ki_100000, ki_100001, ki_2147483647, ki_2147483648, kl_0, kl_1, kl_2, kl_9223372036854775808, ki_add, ki_sub, ki_mul, ki_neg, kl_add, kl_sub, kl_mul, kl_neg, ki_i2l, kl_l2i, ki_lt, ki_le, ki_eq, kcmp_eq, kcmp_lt, kcmp_le, kcmp_gt, kcmp_ge, Option.bind_some, Option.map_some, kbool0, kbool1, if_pos, if_neg, if_true, if_false, Int.neg_neg, Int.sub_zero, Int.add_zero, Int.zero_add, true_and, and_true, false_and, and_false, false_or, or_false, true_or, or_true, ne_eq, not_false_eq_true, not_true_eq_false]
      simp only [E, c]
      rfl
    · have w1 := z1.at (x := (i : Int)) (by omega) (by omega) (by omega)
      have w2 := z1.at (x := R - 1 - i) (by omega) (by omega) (by omega)
      have T := z1.step (kM.a109 hM) (by omega) (by omega) (by omega) (by omega)
      have S := X12_swaps hM1 (kM.a109 hM1) (i := 5 * d + i) (j := 5 * d + (R - 1 - i)) (by omega) (by omega) (by omega) (by omega)
      rw [w1, w2] at S
      refine ⟨.inl (ki ((i + 1 : Nat) : Int), _), ?_, by omega, by omega, rfl, T⟩
      simp (disch := omega) only [b_X12_change_222, kM.o27 hM1, krcv (kM.y hM), ki_0, ki_1, ki_2, ki_3, ki_4, ki_5, ki_6, ki_7, ki_8, ki_9, ki_10, ki_11, ki_12, ki_13, ki_18, ki_20, ki_24, ki_32, ki_36, ki_45, ki_47, ki_48, ki_50, ki_57, ki_60, ki_63, ki_99, ki_100, ki_101, ki_120, ki_255, ki_468, ki_1000, ki_1024, ki_13849, ki_25173, ki_65535, ki_65536, ki_100000, ki_100001, ki_2147483647, ki_2147483648, kl_0, kl_1, kl_2, kl_9223372036854775808, ki_add, ki_sub, ki_mul, ki_neg, kl_add, kl_sub, kl_mul, kl_neg, ki_i2l, kl_l2i, ki_lt, ki_le, ki_eq, kcmp_eq, kcmp_lt, kcmp_le, kcmp_gt, kcmp_ge, Option.bind_some, Option.map_some, kbool0, kbool1, if_pos, if_neg, if_true, if_false, Int.neg_neg, Int.sub_zero, Int.add_zero, Int.zero_add, true_and, and_true, false_and, and_false, false_or, or_false, true_or, or_true, ne_eq, not_false_eq_true, not_true_eq_false, Int.natCast_add, Int.natCast_one]
      rw [show 5 * d + R - 1 - (i : Int) = 5 * d + (R - 1 - i) by omega, S]
      rfl)
  obtain ⟨r1, r2⟩ := r
  simp only [] at g1
  subst g1
  exact ⟨r2, f, g2.1, g2.2.1, g2.2.2.1, g2.2.2.2, g3⟩
theorem X12_ch4 {Y : jY} {μ : jM} {d R how : Int} (h1 : 1 ≤ R) (h5 : R ≤ 5) (hh : how = 1 ∨ how = 2) : jit jF (fun (s : Int32 × jM) => b_X12_change_222 Y 95 (ki d) (ki how) (ki R) s.1 s.2) ((0 : Int32), μ) = some (ki R, μ) := by
  have e1 : jit jF (fun (s : Int32 × jM) => b_X12_change_269 Y 95 (ki d) (ki how) (ki R) s.1 s.2) ((0 : Int32), μ) = some (ki R, μ) := by
    refine jit_run (fun i => (ki i, μ)) _ 0 rfl (by omega) (fun i hi => by omega) ?_
    by_cases e : R - 2 ≤ 0
    · simp (disch := omega) only [b_X12_change_269, b_X12_change_313, ki_0, ki_1, ki_2, ki_3, ki_4, ki_5, ki_6, ki_7, ki_8, ki_9, ki_10, ki_11, ki_12, ki_13, ki_18, ki_20, ki_24, ki_32, ki_36, ki_45, ki_47, ki_48, ki_50, ki_57, ki_60, ki_63, ki_99, ki_100, ki_101, ki_120, ki_255, ki_468, ki_1000, ki_1024, ki_13849, ki_25173, ki_65535, ki_65536, ki_100000, ki_100001, ki_2147483647, ki_2147483648, kl_0, kl_1, kl_2, kl_9223372036854775808, ki_add, ki_sub, ki_mul, ki_neg, kl_add, kl_sub, kl_mul, kl_neg, ki_i2l, kl_l2i, ki_lt, ki_le, ki_eq, kcmp_eq, kcmp_lt, kcmp_le, kcmp_gt, kcmp_ge, Option.bind_some, Option.map_some, kbool0, kbool1, if_pos, if_neg, if_true, if_false, Int.neg_neg, Int.sub_zero, Int.add_zero, Int.zero_add, true_and, and_true, false_and, and_false, false_or, or_false, true_or, or_true, ne_eq, not_false_eq_true, not_true_eq_false, Int.natCast_zero]
    · simp (disch := omega) only [b_X12_change_269, b_X12_change_313, ki_0, ki_1, ki_2, ki_3, ki_4, ki_5, ki_6, ki_7, ki_8, ki_9, ki_10, ki_11, ki_12, ki_13, ki_18, ki_20, ki_24, ki_32, ki_36, ki_45, ki_47, ki_48, ki_50, ki_57, ki_60, ki_63, ki_99, ki_100, ki_101, ki_120, ki_255, ki_468, ki_1000, ki_1024, ki_13849, ki_25173, ki_65535, ki_65536, ki_100000, ki_100001, ki_2147483647, ki_2147483648, kl_0, kl_1, kl_2, kl_9223372036854775808, ki_add, ki_sub, ki_mul, ki_neg, kl_add, kl_sub, kl_mul, kl_neg, ki_i2l, kl_l2i, ki_lt, ki_le, ki_eq, kcmp_eq, kcmp_lt, kcmp_le, kcmp_gt, kcmp_ge, Option.bind_some, Option.map_some, kbool0, kbool1, if_pos, if_neg, if_true, if_false, Int.neg_neg, Int.sub_zero, Int.add_zero, Int.zero_add, true_and, and_true, false_and, and_false, false_or, or_false, true_or, or_true, ne_eq, not_false_eq_true, not_true_eq_false, Int.natCast_zero]
  refine jit_run (fun i => (ki i, μ)) _ 0 rfl (by omega) (fun i hi => by omega) ?_
  have E : b_X12_change_222 Y 95 (ki d) (ki how) (ki R) (ki ((0 : Nat) : Int)) μ = (jit jF (fun (s : Int32 × jM) => b_X12_change_269 Y 95 (ki d) (ki how) (ki R) s.1 s.2) ((0 : Int32), μ)).map (fun r => (.inr r)) := by
    by_cases e : R - 1 ≤ 0
    · simp (disch := omega) only [b_X12_change_222, b_X12_change_266, ki_0, ki_1, ki_2, ki_3, ki_4, ki_5, ki_6, ki_7, ki_8, ki_9, ki_10, ki_11, ki_12, ki_13, ki_18, ki_20, ki_24, ki_32, ki_36, ki_45, ki_47, ki_48, ki_50, ki_57, ki_60, ki_63, ki_99, ki_100, ki_101, ki_120, ki_255, ki_468, ki_1000, ki_1024, ki_13849, ki_25173, ki_65535, ki_65536, ki_100000, ki_100001, ki_2147483647, ki_2147483648, kl_0, kl_1, kl_2, kl_9223372036854775808, ki_add, ki_sub, ki_mul, ki_neg, kl_add, kl_sub, kl_mul, kl_neg, ki_i2l, kl_l2i, ki_lt, ki_le, ki_eq, kcmp_eq, kcmp_lt, kcmp_le, kcmp_gt, kcmp_ge, Option.bind_some, Option.map_some, kbool0, kbool1, if_pos, if_neg, if_true, if_false, Int.neg_neg, Int.sub_zero, Int.add_zero, Int.zero_add, true_and, and_true, false_and, and_false, false_or, or_false, true_or, or_true, ne_eq, not_false_eq_true, not_true_eq_false, Int.natCast_zero]
    · simp (disch := omega) only [b_X12_change_222, b_X12_change_266, ki_0, ki_1, ki_2, ki_3, ki_4, ki_5, ki_6, ki_7, ki_8, ki_9, ki_10, ki_11, ki_12, ki_13, ki_18, ki_20, ki_24, ki_32, ki_36, ki_45, ki_47, ki_48, ki_50, ki_57, ki_60, ki_63, ki_99, ki_100, ki_101, ki_120, ki_255, ki_468, ki_1000, ki_1024, ki_13849, ki_25173, ki_65535, ki_65536, ki_100000, ki_100001, ki_2147483647, ki_2147483648, kl_0, kl_1, kl_2, kl_9223372036854775808, ki_add, ki_sub, ki_mul, ki_neg, kl_add, kl_sub, kl_mul, kl_neg, ki_i2l, kl_l2i, ki_lt, ki_le, ki_eq, kcmp_eq, kcmp_lt, kcmp_le, kcmp_gt, kcmp_ge, Option.bind_some, Option.map_some, kbool0, kbool1, if_pos, if_neg, if_true, if_false, Int.neg_neg, Int.sub_zero, Int.add_zero, Int.zero_add, true_and, and_true, false_and, and_false, false_or, or_false, true_or, or_true, ne_eq, not_false_eq_true, not_true_eq_false, Int.natCast_zero]
  simp only [E, e1]
  rfl
