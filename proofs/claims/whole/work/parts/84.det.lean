/-! OPS: determinant -/
def mnF (self : Nat → Nat → Int) (f : Int → Int) (s : Int) (row used : Nat) : Nat → Int × Int
  | 0 => (0, 1)
  | c + 1 => if used.testBit c = true then mnF self f s row used c else ((mnF self f s row used c).1 + (mnF self f s row used c).2 * f ((row : Int) + c + s) * self (row + 1) (used ||| (1 <<< c)), -(mnF self f s row used c).2)
def mn (f : Int → Int) (k : Nat) (s : Int) : Nat → Nat → Nat → Int
  | 0, _, _ => 0
  | n + 1, row, used => if row < k then (mnF (mn f k s n) f s row used k).1 else 1
theorem mnF_two (self : Nat → Nat → Int) (f : Int → Int) (s : Int) (row used : Nat) : ∀ c, (mnF self f s row used c).2 = 1 ∨ (mnF self f s row used c).2 = -1 := by
  intro c
  induction c with
  | zero => exact Or.inl rfl
  | succ c ih =>
    rw [mnF]
    split
    · exact ih
    · simp only []
      omega
theorem bitA : ∀ u : Fin 16, ∀ c : Fin 4, (ki (u.val : Int) &&& (ki 1 <<< (ki (c.val : Int) &&& 31)) = ki 0) ↔ u.val.testBit c.val = false := by decide
theorem bitO : ∀ u : Fin 16, ∀ c : Fin 4, (ki (u.val : Int) ||| (ki 1 <<< (ki (c.val : Int) &&& 31))) = ki ((u.val ||| (1 <<< c.val) : Nat) : Int) ∧ u.val ||| (1 <<< c.val) < 16 := by decide
theorem X7_minor {Y : jY} {μ : jM} (hX : kX Y μ) {f : Int → Int} (hf : rowK μ 30 8 f) {k : Nat} (k4 : k ≤ 4) {s : Int} (s0 : 0 ≤ s) (hs : s ≤ 1) : ∀ (n row used : Nat), row ≤ k → k - row < n → used < 16 → f_X7_minor_r Y n 30 (ki k) (ki s) (ki row) (ki used) μ = some (kl (mn f k s n row used), μ) := by
  intro n
  induction n with
  | zero => intro row used h1 h2; omega
  | succ n ih =>
    intro row used h1 h2 hu
    show f_X7_minor Y (f_X7_minor_r Y n) 30 (ki k) (ki s) (ki row) (ki used) μ = _
    rw [mn]
    by_cases e : row < k
    · rw [if_pos e]
      have main : jit jF (fun (z : Int64 × Int32 × Int32 × jM) => b_X7_minor_16 Y (f_X7_minor_r Y n) 30 (ki k) (ki s) (ki row) (ki used) z.1 z.2.1 z.2.2.1 z.2.2.2) ((0 : Int64), (1 : Int32), (0 : Int32), μ) = some (kl (mnF (mn f k s n) f s row used k).1, μ) := by
        refine jit_run (fun c => (kl (mnF (mn f k s n) f s row used c).1, ki (mnF (mn f k s n) f s row used c).2, ki c, μ)) _ k rfl (by omega) (fun c hc => ?_) ?_
        · have t := mnF_two (mn f k s n) f s row used c
          have ql : jlen Y 30 21 = some (ki 8) := by
            unfold jlen
            rw [hX.a30.1]
            rfl
          have ba := bitA ⟨used, hu⟩ ⟨c, by omega⟩
          obtain ⟨bo1, bo2⟩ := bitO ⟨used, hu⟩ ⟨c, by omega⟩
          simp only [] at ba bo1 bo2
          rw [mnF]
          by_cases b : used.testBit c = true
          · rw [if_pos b]
            have nb : ¬ (ki (used : Int) &&& (ki 1 <<< (ki (c : Int) &&& 31)) = ki 0) := fun q => by
              have := ba.1 q
              rw [b] at this
              cases this
            generalize mnF (mn f k s n) f s row used c = w at *
            simp (disch := omega) only [b_X7_minor_16, b_X7_minor_84, nb, ki_0, ki_1, ki_2, ki_3, ki_4, ki_5, ki_6, ki_7, ki_8, ki_9, ki_10, ki_11, ki_12, ki_13, ki_18, ki_20, ki_24, ki_32, ki_36, ki_45, ki_47, ki_48, ki_50, ki_57, ki_60, ki_63, ki_99, ki_100, ki_101, ki_120, ki_255, ki_468, ki_1000, ki_1024, ki_13849, ki_25173, ki_65535, ki_65536, ki_100000, ki_100001, ki_2147483647, ki_2147483648, kl_0, kl_1, kl_2, kl_9223372036854775808, ki_add, ki_sub, ki_mul, ki_neg, kl_add, kl_sub, kl_mul, kl_neg, ki_i2l, kl_l2i, ki_lt, ki_le, ki_eq, kcmp_eq, kcmp_lt, kcmp_le, kcmp_gt, kcmp_ge, Option.bind_some, Option.map_some, kbool0, kbool1, if_pos, if_neg, if_true, if_false, Int.neg_neg, Int.sub_zero, Int.add_zero, Int.zero_add, true_and, and_true, false_and, and_false, false_or, or_false, true_or, or_true, ne_eq, not_false_eq_true, not_true_eq_false, Int.natCast_add, Int.natCast_one]
          · rw [if_neg b]
            have yb : (ki (used : Int) &&& (ki 1 <<< (ki (c : Int) &&& 31)) = ki 0) := ba.2 (by cases h : used.testBit c; rfl; exact absurd h b)
            have q := kaLv hX.a30 (x := (row : Int) + c + s) (by omega) (by omega) (hf _ (by omega) (by omega))
            have r := ih (row + 1) (used ||| (1 <<< c)) (by omega) (by omega) bo2
            rw [Int.natCast_add, Int.natCast_one] at r
            generalize mnF (mn f k s n) f s row used c = w at *
            generalize mn f k s n (row + 1) (used ||| (1 <<< c)) = u at *
            simp (disch := omega) only [b_X7_minor_16, b_X7_minor_84, yb, bo1, ql, q, r, ki_0, ki_1, ki_2, ki_3, ki_4, ki_5, ki_6, ki_7, ki_8, ki_9, ki_10, ki_11, ki_12, ki_13, ki_18, ki_20, ki_24, ki_32, ki_36, ki_45, ki_47, ki_48, ki_50, ki_57, ki_60, ki_63, ki_99, ki_100, ki_101, ki_120, ki_255, ki_468, ki_1000, ki_1024, ki_13849, ki_25173, ki_65535, ki_65536, ki_100000, ki_100001, ki_2147483647, ki_2147483648, kl_0, kl_1, kl_2, kl_9223372036854775808, ki_add, ki_sub, ki_mul, ki_neg, kl_add, kl_sub, kl_mul, kl_neg, ki_i2l, kl_l2i, ki_lt, ki_le, ki_eq, kcmp_eq, kcmp_lt, kcmp_le, kcmp_gt, kcmp_ge, Option.bind_some, Option.map_some, kbool0, kbool1, if_pos, if_neg, if_true, if_false, Int.neg_neg, Int.sub_zero, Int.add_zero, Int.zero_add, true_and, and_true, false_and, and_false, false_or, or_false, true_or, or_true, ne_eq, not_false_eq_true, not_true_eq_false, Int.natCast_add, Int.natCast_one]
        · simp (disch := omega) only [b_X7_minor_16, ki_0, ki_1, ki_2, ki_3, ki_4, ki_5, ki_6, ki_7, ki_8, ki_9, ki_10, ki_11, ki_12, ki_13, ki_18, ki_20, ki_24, ki_32, ki_36, ki_45, ki_47, ki_48, ki_50, ki_57, ki_60, ki_63, ki_99, ki_100, ki_101, ki_120, ki_255, ki_468, ki_1000, ki_1024, ki_13849, ki_25173, ki_65535, ki_65536, ki_100000, ki_100001, ki_2147483647, ki_2147483648, kl_0, kl_1, kl_2, kl_9223372036854775808, ki_add, ki_sub, ki_mul, ki_neg, kl_add, kl_sub, kl_mul, kl_neg, ki_i2l, kl_l2i, ki_lt, ki_le, ki_eq, kcmp_eq, kcmp_lt, kcmp_le, kcmp_gt, kcmp_ge, Option.bind_some, Option.map_some, kbool0, kbool1, if_pos, if_neg, if_true, if_false, Int.neg_neg, Int.sub_zero, Int.add_zero, Int.zero_add, true_and, and_true, false_and, and_false, false_or, or_false, true_or, or_true, ne_eq, not_false_eq_true, not_true_eq_false]
      simp (disch := omega) only [f_X7_minor, ki_0, ki_1, ki_2, ki_3, ki_4, ki_5, ki_6, ki_7, ki_8, ki_9, ki_10, ki_11, ki_12, ki_13, ki_18, ki_20, ki_24, ki_32, ki_36, ki_45, ki_47, ki_48, ki_50, ki_57, ki_60, ki_63, ki_99, ki_100, ki_101, ki_120, ki_255, ki_468, ki_1000, ki_1024, ki_13849, ki_25173, ki_65535, ki_65536, ki_100000, ki_100001, ki_2147483647, ki_2147483648, kl_0, kl_1, kl_2, kl_9223372036854775808, ki_add, ki_sub, ki_mul, ki_neg, kl_add, kl_sub, kl_mul, kl_neg, ki_i2l, kl_l2i, ki_lt, ki_le, ki_eq, kcmp_eq, kcmp_lt, kcmp_le, kcmp_gt, kcmp_ge, Option.bind_some, Option.map_some, kbool0, kbool1, if_pos, if_neg, if_true, if_false, Int.neg_neg, Int.sub_zero, Int.add_zero, Int.zero_add, true_and, and_true, false_and, and_false, false_or, or_false, true_or, or_true, ne_eq, not_false_eq_true, not_true_eq_false]
      exact main
    · rw [if_neg e]
      simp (disch := omega) only [f_X7_minor, ki_0, ki_1, ki_2, ki_3, ki_4, ki_5, ki_6, ki_7, ki_8, ki_9, ki_10, ki_11, ki_12, ki_13, ki_18, ki_20, ki_24, ki_32, ki_36, ki_45, ki_47, ki_48, ki_50, ki_57, ki_60, ki_63, ki_99, ki_100, ki_101, ki_120, ki_255, ki_468, ki_1000, ki_1024, ki_13849, ki_25173, ki_65535, ki_65536, ki_100000, ki_100001, ki_2147483647, ki_2147483648, kl_0, kl_1, kl_2, kl_9223372036854775808, ki_add, ki_sub, ki_mul, ki_neg, kl_add, kl_sub, kl_mul, kl_neg, ki_i2l, kl_l2i, ki_lt, ki_le, ki_eq, kcmp_eq, kcmp_lt, kcmp_le, kcmp_gt, kcmp_ge, Option.bind_some, Option.map_some, kbool0, kbool1, if_pos, if_neg, if_true, if_false, Int.neg_neg, Int.sub_zero, Int.add_zero, Int.zero_add, true_and, and_true, false_and, and_false, false_or, or_false, true_or, or_true, ne_eq, not_false_eq_true, not_true_eq_false]
theorem tb_1_0 : Nat.testBit 1 0 = true := rfl
theorem tb_1_1 : Nat.testBit 1 1 = false := rfl
theorem tb_1_2 : Nat.testBit 1 2 = false := rfl
theorem tb_1_3 : Nat.testBit 1 3 = false := rfl
theorem tb_2_0 : Nat.testBit 2 0 = false := rfl
theorem tb_2_1 : Nat.testBit 2 1 = true := rfl
theorem tb_2_2 : Nat.testBit 2 2 = false := rfl
theorem tb_2_3 : Nat.testBit 2 3 = false := rfl
theorem tb_3_0 : Nat.testBit 3 0 = true := rfl
theorem tb_3_1 : Nat.testBit 3 1 = true := rfl
theorem tb_3_2 : Nat.testBit 3 2 = false := rfl
theorem tb_3_3 : Nat.testBit 3 3 = false := rfl
theorem tb_4_0 : Nat.testBit 4 0 = false := rfl
theorem tb_4_1 : Nat.testBit 4 1 = false := rfl
theorem tb_4_2 : Nat.testBit 4 2 = true := rfl
theorem tb_4_3 : Nat.testBit 4 3 = false := rfl
theorem tb_5_0 : Nat.testBit 5 0 = true := rfl
theorem tb_5_1 : Nat.testBit 5 1 = false := rfl
theorem tb_5_2 : Nat.testBit 5 2 = true := rfl
theorem tb_5_3 : Nat.testBit 5 3 = false := rfl
theorem tb_6_0 : Nat.testBit 6 0 = false := rfl
theorem tb_6_1 : Nat.testBit 6 1 = true := rfl
theorem tb_6_2 : Nat.testBit 6 2 = true := rfl
theorem tb_6_3 : Nat.testBit 6 3 = false := rfl
theorem tb_7_0 : Nat.testBit 7 0 = true := rfl
theorem tb_7_1 : Nat.testBit 7 1 = true := rfl
theorem tb_7_2 : Nat.testBit 7 2 = true := rfl
theorem tb_7_3 : Nat.testBit 7 3 = false := rfl
theorem tb_8_0 : Nat.testBit 8 0 = false := rfl
theorem tb_8_1 : Nat.testBit 8 1 = false := rfl
theorem tb_8_2 : Nat.testBit 8 2 = false := rfl
theorem tb_8_3 : Nat.testBit 8 3 = true := rfl
theorem tb_9_0 : Nat.testBit 9 0 = true := rfl
theorem tb_9_1 : Nat.testBit 9 1 = false := rfl
theorem tb_9_2 : Nat.testBit 9 2 = false := rfl
theorem tb_9_3 : Nat.testBit 9 3 = true := rfl
theorem tb_10_0 : Nat.testBit 10 0 = false := rfl
theorem tb_10_1 : Nat.testBit 10 1 = true := rfl
theorem tb_10_2 : Nat.testBit 10 2 = false := rfl
theorem tb_10_3 : Nat.testBit 10 3 = true := rfl
theorem tb_11_0 : Nat.testBit 11 0 = true := rfl
theorem tb_11_1 : Nat.testBit 11 1 = true := rfl
theorem tb_11_2 : Nat.testBit 11 2 = false := rfl
theorem tb_11_3 : Nat.testBit 11 3 = true := rfl
theorem tb_12_0 : Nat.testBit 12 0 = false := rfl
theorem tb_12_1 : Nat.testBit 12 1 = false := rfl
theorem tb_12_2 : Nat.testBit 12 2 = true := rfl
theorem tb_12_3 : Nat.testBit 12 3 = true := rfl
theorem tb_13_0 : Nat.testBit 13 0 = true := rfl
theorem tb_13_1 : Nat.testBit 13 1 = false := rfl
theorem tb_13_2 : Nat.testBit 13 2 = true := rfl
theorem tb_13_3 : Nat.testBit 13 3 = true := rfl
theorem tb_14_0 : Nat.testBit 14 0 = false := rfl
theorem tb_14_1 : Nat.testBit 14 1 = true := rfl
theorem tb_14_2 : Nat.testBit 14 2 = true := rfl
theorem tb_14_3 : Nat.testBit 14 3 = true := rfl
theorem tb_15_0 : Nat.testBit 15 0 = true := rfl
theorem tb_15_1 : Nat.testBit 15 1 = true := rfl
theorem tb_15_2 : Nat.testBit 15 2 = true := rfl
theorem tb_15_3 : Nat.testBit 15 3 = true := rfl
theorem mn_det {f : Int → Int} {k : Nat} (k4 : k ≤ 4) (s : Int) : mn f k s 8 0 0 = mMin f k s k := by
  have : k = 0 ∨ k = 1 ∨ k = 2 ∨ k = 3 ∨ k = 4 := by omega
  rcases this with rfl | rfl | rfl | rfl | rfl
  · rfl
  · simp [mn, mnF, mMin, mAt]
  · simp [mn, mnF, mMin, mAt, mTwo, tb_1_0, tb_1_1, tb_1_2, tb_1_3, tb_2_0, tb_2_1, tb_2_2, tb_2_3, tb_3_0, tb_3_1, tb_3_2, tb_3_3, tb_4_0, tb_4_1, tb_4_2, tb_4_3, tb_5_0, tb_5_1, tb_5_2, tb_5_3, tb_6_0, tb_6_1, tb_6_2, tb_6_3, tb_7_0, tb_7_1, tb_7_2, tb_7_3, tb_8_0, tb_8_1, tb_8_2, tb_8_3, tb_9_0, tb_9_1, tb_9_2, tb_9_3, tb_10_0, tb_10_1, tb_10_2, tb_10_3, tb_11_0, tb_11_1, tb_11_2, tb_11_3, tb_12_0, tb_12_1, tb_12_2, tb_12_3, tb_13_0, tb_13_1, tb_13_2, tb_13_3, tb_14_0, tb_14_1, tb_14_2, tb_14_3, tb_15_0, tb_15_1, tb_15_2, tb_15_3]
    grind
  · simp [mn, mnF, mMin, mAt, mTwo, mThree, tb_1_0, tb_1_1, tb_1_2, tb_1_3, tb_2_0, tb_2_1, tb_2_2, tb_2_3, tb_3_0, tb_3_1, tb_3_2, tb_3_3, tb_4_0, tb_4_1, tb_4_2, tb_4_3, tb_5_0, tb_5_1, tb_5_2, tb_5_3, tb_6_0, tb_6_1, tb_6_2, tb_6_3, tb_7_0, tb_7_1, tb_7_2, tb_7_3, tb_8_0, tb_8_1, tb_8_2, tb_8_3, tb_9_0, tb_9_1, tb_9_2, tb_9_3, tb_10_0, tb_10_1, tb_10_2, tb_10_3, tb_11_0, tb_11_1, tb_11_2, tb_11_3, tb_12_0, tb_12_1, tb_12_2, tb_12_3, tb_13_0, tb_13_1, tb_13_2, tb_13_3, tb_14_0, tb_14_1, tb_14_2, tb_14_3, tb_15_0, tb_15_1, tb_15_2, tb_15_3]
    grind
  · simp [mn, mnF, mMin, mAt, mTwo, mThree, tb_1_0, tb_1_1, tb_1_2, tb_1_3, tb_2_0, tb_2_1, tb_2_2, tb_2_3, tb_3_0, tb_3_1, tb_3_2, tb_3_3, tb_4_0, tb_4_1, tb_4_2, tb_4_3, tb_5_0, tb_5_1, tb_5_2, tb_5_3, tb_6_0, tb_6_1, tb_6_2, tb_6_3, tb_7_0, tb_7_1, tb_7_2, tb_7_3, tb_8_0, tb_8_1, tb_8_2, tb_8_3, tb_9_0, tb_9_1, tb_9_2, tb_9_3, tb_10_0, tb_10_1, tb_10_2, tb_10_3, tb_11_0, tb_11_1, tb_11_2, tb_11_3, tb_12_0, tb_12_1, tb_12_2, tb_12_3, tb_13_0, tb_13_1, tb_13_2, tb_13_3, tb_14_0, tb_14_1, tb_14_2, tb_14_3, tb_15_0, tb_15_1, tb_15_2, tb_15_3]
    generalize f s = m0
    generalize f (s + 1) = m1
    generalize f (s + 2) = m2
    generalize f (s + 3) = m3
    generalize f (s + 4) = m4
    generalize f (s + 5) = m5
    generalize f (s + 6) = m6
    grind
theorem ok_determinant {L : Nat} {xs : Nat → Int32} {n : Nat} {Y : jY} {μ : jM} (h : Inv L xs n Y μ) : so_determinant (Inv L xs) n Y μ := by
  have hX := h.x
  have hM := h.m
  intro a1 a2
  obtain ⟨k, k1, k2, rfl⟩ := ki_is a1
  obtain ⟨s, s1, s2, rfl⟩ := ki_is a2
  obtain ⟨q1, q2, q3, q4, q5⟩ := h.q
  have e0 := X11_hasTones hX
  have g := kM.g10 hM
  rw [q1] at e0
  by_cases hz : gi μ 95 10 = 0
  · refine ⟨(kl (-9223372036854775808), μ), (kl (-9223372036854775808), μ), ?_, fun _ => rfl, ?_, rfl, h⟩
    · simp (disch := omega) only [f_X11_determinant, b_X11_determinant_25, krcv (kX.y1 hX), e0, ki_0, ki_1, ki_2, ki_3, ki_4, ki_5, ki_6, ki_7, ki_8, ki_9, ki_10, ki_11, ki_12, ki_13, ki_18, ki_20, ki_24, ki_32, ki_36, ki_45, ki_47, ki_48, ki_50, ki_57, ki_60, ki_63, ki_99, ki_100, ki_101, ki_120, ki_255, ki_468, ki_1000, ki_1024, ki_13849, ki_25173, ki_65535, ki_65536, ki_100000, ki_100001, ki_2147483647, ki_2147483648, kl_0, kl_1, kl_2, kl_9223372036854775808, ki_add, ki_sub, ki_mul, ki_neg, kl_add, kl_sub, kl_mul, kl_neg, ki_i2l, kl_l2i, ki_lt, ki_le, ki_eq, kcmp_eq, kcmp_lt, kcmp_le, kcmp_gt, kcmp_ge, Option.bind_some, Option.map_some, kbool0, kbool1, if_pos, if_neg, if_true, if_false, Int.neg_neg, Int.sub_zero, Int.add_zero, Int.zero_add, true_and, and_true, false_and, and_false, false_or, or_false, true_or, or_true, ne_eq, not_false_eq_true, not_true_eq_false]
    · simp (disch := omega) only [f_X12_determinant, b_X12_determinant_25, g, ki_0, ki_1, ki_2, ki_3, ki_4, ki_5, ki_6, ki_7, ki_8, ki_9, ki_10, ki_11, ki_12, ki_13, ki_18, ki_20, ki_24, ki_32, ki_36, ki_45, ki_47, ki_48, ki_50, ki_57, ki_60, ki_63, ki_99, ki_100, ki_101, ki_120, ki_255, ki_468, ki_1000, ki_1024, ki_13849, ki_25173, ki_65535, ki_65536, ki_100000, ki_100001, ki_2147483647, ki_2147483648, kl_0, kl_1, kl_2, kl_9223372036854775808, ki_add, ki_sub, ki_mul, ki_neg, kl_add, kl_sub, kl_mul, kl_neg, ki_i2l, kl_l2i, ki_lt, ki_le, ki_eq, kcmp_eq, kcmp_lt, kcmp_le, kcmp_gt, kcmp_ge, Option.bind_some, Option.map_some, kbool0, kbool1, if_pos, if_neg, if_true, if_false, Int.neg_neg, Int.sub_zero, Int.add_zero, Int.zero_add, true_and, and_true, false_and, and_false, false_or, or_false, true_or, or_true, ne_eq, not_false_eq_true, not_true_eq_false]
  · by_cases hk : 0 ≤ k ∧ k ≤ 4
    · by_cases hs : 0 ≤ s ∧ s ≤ 1
      · obtain ⟨⟨ν, c1, kf, w0, t1, t2, t3⟩, M⟩ := h.lays hz
        have hXν := hX.to kf
        have hMν := hM.to kf
        obtain ⟨ω, c2, kf2, u1, u2, u3⟩ := M ν (X7_rebuild_far kf) hMν
        have hMω := hMν.to kf2
        have gν := kM.g10 hMν
        rw [kf.gi (by omega)] at gν
        clear t1 t2 u1 u2 M
        generalize moT (gi μ 95 10) (tp (gi μ 99) (gi μ 95 10).toNat) (tp (gi μ 100) (gi μ 95 10 - 1).toNat) 8 = f at *
        have p1 := X7_minor hXν t3 (k := k.toNat) (by omega) (s := s) hs.1 hs.2 8 0 0 (by omega) (by omega) (by omega)
        rw [mn_det (by omega), toNat_cast hk.1] at p1
        simp only [Int.natCast_zero] at p1
        have p2 := X12_minor hMω u3 (k := k) (s := s) (v := k) hk.1 hk.2 hs.1 hs.2 hk.1 hk.2 (fun q => q)
        generalize mMin f k s k = v at *
        refine ⟨(kl v, ν), (kl v, ω), ?_, fun j => congrFun (kf.1 0 (by omega)) j, ?_, rfl, h.to ((kP.of_rows (kf.mono (by omega) (by omega))).trans (kP.of_tones kf2))⟩
        · simp (disch := omega) only [f_X11_determinant, X11_within, krcv (kX.y1 hX), krcv (kX.y27 hX), kX.o1_3 hX, kX.o1_6 hX, kX.o1_6 hXν, kS.gn (kX.now hX), e0, c1, f_X7_momentTable, kX.o27_3 hXν, p1, ki_0, ki_1, ki_2, ki_3, ki_4, ki_5, ki_6, ki_7, ki_8, ki_9, ki_10, ki_11, ki_12, ki_13, ki_18, ki_20, ki_24, ki_32, ki_36, ki_45, ki_47, ki_48, ki_50, ki_57, ki_60, ki_63, ki_99, ki_100, ki_101, ki_120, ki_255, ki_468, ki_1000, ki_1024, ki_13849, ki_25173, ki_65535, ki_65536, ki_100000, ki_100001, ki_2147483647, ki_2147483648, kl_0, kl_1, kl_2, kl_9223372036854775808, ki_add, ki_sub, ki_mul, ki_neg, kl_add, kl_sub, kl_mul, kl_neg, ki_i2l, kl_l2i, ki_lt, ki_le, ki_eq, kcmp_eq, kcmp_lt, kcmp_le, kcmp_gt, kcmp_ge, Option.bind_some, Option.map_some, kbool0, kbool1, if_pos, if_neg, if_true, if_false, Int.neg_neg, Int.sub_zero, Int.add_zero, Int.zero_add, true_and, and_true, false_and, and_false, false_or, or_false, true_or, or_true, ne_eq, not_false_eq_true, not_true_eq_false]
        · simp (disch := omega) only [f_X12_determinant, X12_in, krcv (kM.y hM), gν, c2, p2, ki_0, ki_1, ki_2, ki_3, ki_4, ki_5, ki_6, ki_7, ki_8, ki_9, ki_10, ki_11, ki_12, ki_13, ki_18, ki_20, ki_24, ki_32, ki_36, ki_45, ki_47, ki_48, ki_50, ki_57, ki_60, ki_63, ki_99, ki_100, ki_101, ki_120, ki_255, ki_468, ki_1000, ki_1024, ki_13849, ki_25173, ki_65535, ki_65536, ki_100000, ki_100001, ki_2147483647, ki_2147483648, kl_0, kl_1, kl_2, kl_9223372036854775808, ki_add, ki_sub, ki_mul, ki_neg, kl_add, kl_sub, kl_mul, kl_neg, ki_i2l, kl_l2i, ki_lt, ki_le, ki_eq, kcmp_eq, kcmp_lt, kcmp_le, kcmp_gt, kcmp_ge, Option.bind_some, Option.map_some, kbool0, kbool1, if_pos, if_neg, if_true, if_false, Int.neg_neg, Int.sub_zero, Int.add_zero, Int.zero_add, true_and, and_true, false_and, and_false, false_or, or_false, true_or, or_true, ne_eq, not_false_eq_true, not_true_eq_false]
      · refine ⟨(kl (-9223372036854775808), μ), (kl (-9223372036854775808), μ), ?_, fun _ => rfl, ?_, rfl, h⟩
        · simp (disch := omega) only [f_X11_determinant, b_X11_determinant_25, X11_within, krcv (kX.y1 hX), e0, ki_0, ki_1, ki_2, ki_3, ki_4, ki_5, ki_6, ki_7, ki_8, ki_9, ki_10, ki_11, ki_12, ki_13, ki_18, ki_20, ki_24, ki_32, ki_36, ki_45, ki_47, ki_48, ki_50, ki_57, ki_60, ki_63, ki_99, ki_100, ki_101, ki_120, ki_255, ki_468, ki_1000, ki_1024, ki_13849, ki_25173, ki_65535, ki_65536, ki_100000, ki_100001, ki_2147483647, ki_2147483648, kl_0, kl_1, kl_2, kl_9223372036854775808, ki_add, ki_sub, ki_mul, ki_neg, kl_add, kl_sub, kl_mul, kl_neg, ki_i2l, kl_l2i, ki_lt, ki_le, ki_eq, kcmp_eq, kcmp_lt, kcmp_le, kcmp_gt, kcmp_ge, Option.bind_some, Option.map_some, kbool0, kbool1, if_pos, if_neg, if_true, if_false, Int.neg_neg, Int.sub_zero, Int.add_zero, Int.zero_add, true_and, and_true, false_and, and_false, false_or, or_false, true_or, or_true, ne_eq, not_false_eq_true, not_true_eq_false]
        · simp (disch := omega) only [f_X12_determinant, b_X12_determinant_25, X12_in, g, ki_0, ki_1, ki_2, ki_3, ki_4, ki_5, ki_6, ki_7, ki_8, ki_9, ki_10, ki_11, ki_12, ki_13, ki_18, ki_20, ki_24, ki_32, ki_36, ki_45, ki_47, ki_48, ki_50, ki_57, ki_60, ki_63, ki_99, ki_100, ki_101, ki_120, ki_255, ki_468, ki_1000, ki_1024, ki_13849, ki_25173, ki_65535, ki_65536, ki_100000, ki_100001, ki_2147483647, ki_2147483648, kl_0, kl_1, kl_2, kl_9223372036854775808, ki_add, ki_sub, ki_mul, ki_neg, kl_add, kl_sub, kl_mul, kl_neg, ki_i2l, kl_l2i, ki_lt, ki_le, ki_eq, kcmp_eq, kcmp_lt, kcmp_le, kcmp_gt, kcmp_ge, Option.bind_some, Option.map_some, kbool0, kbool1, if_pos, if_neg, if_true, if_false, Int.neg_neg, Int.sub_zero, Int.add_zero, Int.zero_add, true_and, and_true, false_and, and_false, false_or, or_false, true_or, or_true, ne_eq, not_false_eq_true, not_true_eq_false]
    · refine ⟨(kl (-9223372036854775808), μ), (kl (-9223372036854775808), μ), ?_, fun _ => rfl, ?_, rfl, h⟩
      · simp (disch := omega) only [f_X11_determinant, b_X11_determinant_25, X11_within, krcv (kX.y1 hX), e0, ki_0, ki_1, ki_2, ki_3, ki_4, ki_5, ki_6, ki_7, ki_8, ki_9, ki_10, ki_11, ki_12, ki_13, ki_18, ki_20, ki_24, ki_32, ki_36, ki_45, ki_47, ki_48, ki_50, ki_57, ki_60, ki_63, ki_99, ki_100, ki_101, ki_120, ki_255, ki_468, ki_1000, ki_1024, ki_13849, ki_25173, ki_65535, ki_65536, ki_100000, ki_100001, ki_2147483647, ki_2147483648, kl_0, kl_1, kl_2, kl_9223372036854775808, ki_add, ki_sub, ki_mul, ki_neg, kl_add, kl_sub, kl_mul, kl_neg, ki_i2l, kl_l2i, ki_lt, ki_le, ki_eq, kcmp_eq, kcmp_lt, kcmp_le, kcmp_gt, kcmp_ge, Option.bind_some, Option.map_some, kbool0, kbool1, if_pos, if_neg, if_true, if_false, Int.neg_neg, Int.sub_zero, Int.add_zero, Int.zero_add, true_and, and_true, false_and, and_false, false_or, or_false, true_or, or_true, ne_eq, not_false_eq_true, not_true_eq_false]
      · simp (disch := omega) only [f_X12_determinant, b_X12_determinant_25, X12_in, g, ki_0, ki_1, ki_2, ki_3, ki_4, ki_5, ki_6, ki_7, ki_8, ki_9, ki_10, ki_11, ki_12, ki_13, ki_18, ki_20, ki_24, ki_32, ki_36, ki_45, ki_47, ki_48, ki_50, ki_57, ki_60, ki_63, ki_99, ki_100, ki_101, ki_120, ki_255, ki_468, ki_1000, ki_1024, ki_13849, ki_25173, ki_65535, ki_65536, ki_100000, ki_100001, ki_2147483647, ki_2147483648, kl_0, kl_1, kl_2, kl_9223372036854775808, ki_add, ki_sub, ki_mul, ki_neg, kl_add, kl_sub, kl_mul, kl_neg, ki_i2l, kl_l2i, ki_lt, ki_le, ki_eq, kcmp_eq, kcmp_lt, kcmp_le, kcmp_gt, kcmp_ge, Option.bind_some, Option.map_some, kbool0, kbool1, if_pos, if_neg, if_true, if_false, Int.neg_neg, Int.sub_zero, Int.add_zero, Int.zero_add, true_and, and_true, false_and, and_false, false_or, or_false, true_or, or_true, ne_eq, not_false_eq_true, not_true_eq_false]
