/-! OPS: powers -/
def pwS (A C : Int → Int) (R : Int) (k : Nat) : Nat → Int
  | 0 => 0
  | i + 1 => pwS A C R k i + csI A C R (eI i) k i
theorem X11_powers1 {Y : jY} {μ : jM} (hX : kX Y μ) {d : Int} (d0 : 0 ≤ d) (d3 : d ≤ 3) {R : Int} {A C : Int → Int} (hT : tbl Y μ (9 + 5 + 3 * d.toNat) R A C) (h0 : 1 ≤ R) (h5 : R ≤ 5) (hb : tbR R A C) {k : Int} (k0 : 0 ≤ k) (k8 : k ≤ 8) : ∃ ν, jit jF (fun (s : Int64 × Int32 × jM) => b_X11_powers_27 Y 1 (ki d) (ki k) s.1 s.2.1 s.2.2) ((0 : Int64), (0 : Int32), μ) = some (kl (pwS A C R k.toNat R.toNat), ν) ∧ kF 86 88 μ ν := by
  obtain ⟨⟨r1, r2⟩, e, h1, h2⟩ := jit_inv (f := fun (s : Int64 × Int32 × jM) => b_X11_powers_27 Y 1 (ki d) (ki k) s.1 s.2.1 s.2.2) (fun n z => z.1 = kl (pwS A C R k.toNat n) ∧ z.2.1 = ki n ∧ kF 86 88 μ z.2.2) (fun r => r.1 = kl (pwS A C R k.toNat R.toNat) ∧ kF 86 88 μ r.2) R.toNat (s := ((0 : Int64), (0 : Int32), μ)) ⟨rfl, rfl, kF.refl⟩ (by omega) (fun n z hn hz => by
    obtain ⟨v, w, ν⟩ := z
    obtain ⟨rfl, rfl, z1⟩ := hz
    simp only [] at z1
    have hX1 := hX.to z1
    have hT1 := hT.to z1 (by omega)
    have g := kT.gr hT1.1
    rw [hT1.2.1] at g
    have c0 := kS.gt (kX.now hX1) d0 d3
    by_cases e : n = R.toNat
    · refine ⟨.inr (kl (pwS A C R k.toNat n), ν), ?_, by rw [e], z1⟩
      simp (disch := omega) only [b_X11_powers_27, kX.o1_3 hX1, kS.gd (kX.now hX1), c0, g, ki_0, ki_1, ki_2, ki_3, ki_4, ki_5, ki_6, ki_7, ki_8, ki_9, ki_10, ki_11, ki_12, ki_13, ki_18, ki_20, ki_24, ki_32, ki_36, ki_45, ki_47, ki_48, ki_50, ki_57, ki_60, ki_63, ki_99, ki_100, ki_101, ki_120, ki_255, ki_468, ki_1000, ki_1024, ki_13849, ki_25173, ki_65535, ki_65536, ki_100000, ki_100001, ki_2147483647, ki_2147483648, kl_0, kl_1, kl_2, kl_9223372036854775808, ki_add, ki_sub, ki_mul, ki_neg, kl_add, kl_sub, kl_mul, kl_neg, ki_i2l, kl_l2i, ki_lt, ki_le, ki_eq, kcmp_eq, kcmp_lt, kcmp_le, kcmp_gt, kcmp_ge, Option.bind_some, Option.map_some, kbool0, kbool1, if_pos, if_neg, if_true, if_false, Int.neg_neg, Int.sub_zero, Int.add_zero, Int.zero_add, true_and, and_true, false_and, and_false, false_or, or_false, true_or, or_true, ne_eq, not_false_eq_true, not_true_eq_false]
    · obtain ⟨ω, c, kf⟩ := X4_walk hX1 (by omega) hT1 h0 h5 hb (k := k) (i := n) (j := n) k0 k8 (by omega) (by omega) (by omega) (by omega)
      refine ⟨.inl (kl (pwS A C R k.toNat (n + 1)), ki ((n + 1 : Nat) : Int), ω), ?_, by omega, rfl, rfl, z1.trans kf⟩
      simp (disch := omega) only [b_X11_powers_27, kX.o1_3 hX1, kX.o1_9 hX1, kS.gd (kX.now hX1), krcv (kX.y78 hX1), c0, g, c, ki_0, ki_1, ki_2, ki_3, ki_4, ki_5, ki_6, ki_7, ki_8, ki_9, ki_10, ki_11, ki_12, ki_13, ki_18, ki_20, ki_24, ki_32, ki_36, ki_45, ki_47, ki_48, ki_50, ki_57, ki_60, ki_63, ki_99, ki_100, ki_101, ki_120, ki_255, ki_468, ki_1000, ki_1024, ki_13849, ki_25173, ki_65535, ki_65536, ki_100000, ki_100001, ki_2147483647, ki_2147483648, kl_0, kl_1, kl_2, kl_9223372036854775808, ki_add, ki_sub, ki_mul, ki_neg, kl_add, kl_sub, kl_mul, kl_neg, ki_i2l, kl_l2i, ki_lt, ki_le, ki_eq, kcmp_eq, kcmp_lt, kcmp_le, kcmp_gt, kcmp_ge, Option.bind_some, Option.map_some, kbool0, kbool1, if_pos, if_neg, if_true, if_false, Int.neg_neg, Int.sub_zero, Int.add_zero, Int.zero_add, true_and, and_true, false_and, and_false, false_or, or_false, true_or, or_true, ne_eq, not_false_eq_true, not_true_eq_false, pwS, Int.natCast_add, Int.natCast_one])
  simp only [] at h1
  exact ⟨r2, by rw [← h1]; exact e, h2⟩
theorem X12_powers1 {Y : jY} {μ : jM} (hM : kM Y μ) {d : Int} (d0 : 0 ≤ d) (d3 : d ≤ 3) {R : Int} {A C : Int → Int} (hT : tbm μ d R A C) (h0 : 1 ≤ R) (h5 : R ≤ 5) (hb : tbR R A C) {k : Int} (k0 : 0 ≤ k) (k8 : k ≤ 8) : ∃ ν, jit jF (fun (s : Int64 × Int32 × jM) => b_X12_powers_35 Y 95 (ki d) (ki k) s.1 s.2.1 s.2.2) ((0 : Int64), (0 : Int32), μ) = some (kl (pwS A C R k.toNat R.toNat), ν) ∧ kF 119 121 μ ν := by
  obtain ⟨⟨r1, r2⟩, e, h1, h2⟩ := jit_inv (f := fun (s : Int64 × Int32 × jM) => b_X12_powers_35 Y 95 (ki d) (ki k) s.1 s.2.1 s.2.2) (fun n z => z.1 = kl (pwS A C R k.toNat n) ∧ z.2.1 = ki n ∧ kF 119 121 μ z.2.2) (fun r => r.1 = kl (pwS A C R k.toNat R.toNat) ∧ kF 119 121 μ r.2) R.toNat (s := ((0 : Int64), (0 : Int32), μ)) ⟨rfl, rfl, kF.refl⟩ (by omega) (fun n z hn hz => by
    obtain ⟨v, w, ν⟩ := z
    obtain ⟨rfl, rfl, z1⟩ := hz
    simp only [] at z1
    have hM1 := hM.to z1
    have hT1 := hT.to z1 (by omega)
    have g := kaI (kM.a108 hM1) (x := d) d0 (by omega)
    rw [hT1.1] at g
    by_cases e : n = R.toNat
    · refine ⟨.inr (kl (pwS A C R k.toNat n), ν), ?_, by rw [e], z1⟩
      simp (disch := omega) only [b_X12_powers_35, kM.o26 hM1, g, ki_0, ki_1, ki_2, ki_3, ki_4, ki_5, ki_6, ki_7, ki_8, ki_9, ki_10, ki_11, ki_12, ki_13, ki_18, ki_20, ki_24, ki_32, ki_36, ki_45, ki_47, ki_48, ki_50, ki_57, ki_60, ki_63, ki_99, ki_100, ki_101, ki_120, ki_255, ki_468, ki_1000, ki_1024, ki_13849, ki_25173, ki_65535, ki_65536, ki_100000, ki_100001, ki_2147483647, ki_2147483648, kl_0, kl_1, kl_2, kl_9223372036854775808, ki_add, ki_sub, ki_mul, ki_neg, kl_add, kl_sub, kl_mul, kl_neg, ki_i2l, kl_l2i, ki_lt, ki_le, ki_eq, kcmp_eq, kcmp_lt, kcmp_le, kcmp_gt, kcmp_ge, Option.bind_some, Option.map_some, kbool0, kbool1, if_pos, if_neg, if_true, if_false, Int.neg_neg, Int.sub_zero, Int.add_zero, Int.zero_add, true_and, and_true, false_and, and_false, false_or, or_false, true_or, or_true, ne_eq, not_false_eq_true, not_true_eq_false]
    · obtain ⟨ω, c, kf, w⟩ := X12_goes hM1 d0 d3 hT1 h0 h5 hb (k := k) (j := n) k0 k8 (by omega) (by omega)
      have hM2 := hM1.to kf
      have q := kaL (kM.a119 hM2) (x := (n : Int)) (by omega) (by omega)
      rw [w n (by omega) (by omega), ← walk_eq (by omega) (by omega) (by omega) (by omega) (by omega) (by omega)] at q
      refine ⟨.inl (kl (pwS A C R k.toNat (n + 1)), ki ((n + 1 : Nat) : Int), ω), ?_, by omega, rfl, rfl, z1.trans kf⟩
      simp (disch := omega) only [b_X12_powers_35, kM.o26 hM1, kM.o37 hM2, krcv (kM.y hM1), g, c, q, ki_0, ki_1, ki_2, ki_3, ki_4, ki_5, ki_6, ki_7, ki_8, ki_9, ki_10, ki_11, ki_12, ki_13, ki_18, ki_20, ki_24, ki_32, ki_36, ki_45, ki_47, ki_48, ki_50, ki_57, ki_60, ki_63, ki_99, ki_100, ki_101, ki_120, ki_255, ki_468, ki_1000, ki_1024, ki_13849, ki_25173, ki_65535, ki_65536, ki_100000, ki_100001, ki_2147483647, ki_2147483648, kl_0, kl_1, kl_2, kl_9223372036854775808, ki_add, ki_sub, ki_mul, ki_neg, kl_add, kl_sub, kl_mul, kl_neg, ki_i2l, kl_l2i, ki_lt, ki_le, ki_eq, kcmp_eq, kcmp_lt, kcmp_le, kcmp_gt, kcmp_ge, Option.bind_some, Option.map_some, kbool0, kbool1, if_pos, if_neg, if_true, if_false, Int.neg_neg, Int.sub_zero, Int.add_zero, Int.zero_add, true_and, and_true, false_and, and_false, false_or, or_false, true_or, or_true, ne_eq, not_false_eq_true, not_true_eq_false, pwS, Int.natCast_add, Int.natCast_one])
  simp only [] at h1
  exact ⟨r2, by rw [← h1]; exact e, h2⟩
theorem ok_powers {L : Nat} {xs : Nat → Int32} {n : Nat} {Y : jY} {μ : jM} (h : Inv L xs n Y μ) : so_powers (Inv L xs) n Y μ := by
  have hX := h.x
  have hM := h.m
  intro a1 a2
  obtain ⟨d, d1, d2, rfl⟩ := ki_is a1
  obtain ⟨k, k1, k2, rfl⟩ := ki_is a2
  by_cases hd : 0 ≤ d ∧ d ≤ 3
  · obtain ⟨hT, hB, hMB, hR, hA, hC⟩ := h.d hd.1 hd.2; have hR0 := hMB.1; have hR5 := hMB.2.1
    by_cases hz : gi μ 108 d = 0
    · refine ⟨(kl (-9223372036854775808), μ), (kl (-9223372036854775808), μ), ?_, fun _ => rfl, ?_, rfl, h⟩ <;> simp (disch := omega) only [f_X11_powers, b_X11_powers_18, f_X12_powers, b_X12_powers_26, krcv (kX.y1 hX), kX.o1_3 hX, kS.gd (kX.now hX), kS.gt (kX.now hX), X11_within, X11_isDrawer, f_X11_isFilled, b_X11_isFilled_27, b_X11_isFilled_26, f_X11_isRow, b_X11_isRow_35, b_X11_isRow_34, f_X11_isPart, b_X11_isPart_14, b_X11_isPart_9, krcv (kM.y hM), kM.o26 hM, kaI (kM.a108 hM), X12_in, X12_isDrawer, kT.gr hT, krcv hT.y, hR, ki_0, ki_1, ki_2, ki_3, ki_4, ki_5, ki_6, ki_7, ki_8, ki_9, ki_10, ki_11, ki_12, ki_13, ki_18, ki_20, ki_24, ki_32, ki_36, ki_45, ki_47, ki_48, ki_50, ki_57, ki_60, ki_63, ki_99, ki_100, ki_101, ki_120, ki_255, ki_468, ki_1000, ki_1024, ki_13849, ki_25173, ki_65535, ki_65536, ki_100000, ki_100001, ki_2147483647, ki_2147483648, kl_0, kl_1, kl_2, kl_9223372036854775808, ki_add, ki_sub, ki_mul, ki_neg, kl_add, kl_sub, kl_mul, kl_neg, ki_i2l, kl_l2i, ki_lt, ki_le, ki_eq, kcmp_eq, kcmp_lt, kcmp_le, kcmp_gt, kcmp_ge, Option.bind_some, Option.map_some, kbool0, kbool1, if_pos, if_neg, if_true, if_false, Int.neg_neg, Int.sub_zero, Int.add_zero, Int.zero_add, true_and, and_true, false_and, and_false, false_or, or_false, true_or, or_true, ne_eq, not_false_eq_true, not_true_eq_false]
    · by_cases hk : 0 ≤ k ∧ k ≤ 8
      · obtain ⟨t1, t2, t3⟩ := h.tb hd.1 hd.2
        obtain ⟨ν, c, kf⟩ := X11_powers1 hX hd.1 hd.2 t1 (by omega) (by omega) t3 (k := k) hk.1 hk.2
        have hM1 := hM.to kf
        obtain ⟨ω, c2, kf2⟩ := X12_powers1 hM1 hd.1 hd.2 (t2.to kf (by omega)) (by omega) (by omega) t3 (k := k) hk.1 hk.2
        have g := kaI (kM.a108 hM1) (x := d) hd.1 (by omega)
        rw [kf.gi (by omega)] at g
        generalize pwS (mA μ d) (mC μ d) (gi μ 108 d) k.toNat (gi μ 108 d).toNat = v at *
        refine ⟨(kl v, ν), (kl v, ω), ?_, fun m => ?_, ?_, rfl, h.to ((kP.of_rows (kf.mono (by omega) (by omega))).trans (kP.of_here (kf2.mono (by omega) (by omega))))⟩
        · simp (disch := omega) only [f_X11_powers, b_X11_powers_18, f_X12_powers, b_X12_powers_26, krcv (kX.y1 hX), kX.o1_3 hX, kS.gd (kX.now hX), kS.gt (kX.now hX), X11_within, X11_isDrawer, f_X11_isFilled, b_X11_isFilled_27, b_X11_isFilled_26, f_X11_isRow, b_X11_isRow_35, b_X11_isRow_34, f_X11_isPart, b_X11_isPart_14, b_X11_isPart_9, kT.gr hT, krcv hT.y, hR, ki_0, ki_1, ki_2, ki_3, ki_4, ki_5, ki_6, ki_7, ki_8, ki_9, ki_10, ki_11, ki_12, ki_13, ki_18, ki_20, ki_24, ki_32, ki_36, ki_45, ki_47, ki_48, ki_50, ki_57, ki_60, ki_63, ki_99, ki_100, ki_101, ki_120, ki_255, ki_468, ki_1000, ki_1024, ki_13849, ki_25173, ki_65535, ki_65536, ki_100000, ki_100001, ki_2147483647, ki_2147483648, kl_0, kl_1, kl_2, kl_9223372036854775808, ki_add, ki_sub, ki_mul, ki_neg, kl_add, kl_sub, kl_mul, kl_neg, ki_i2l, kl_l2i, ki_lt, ki_le, ki_eq, kcmp_eq, kcmp_lt, kcmp_le, kcmp_gt, kcmp_ge, Option.bind_some, Option.map_some, kbool0, kbool1, if_pos, if_neg, if_true, if_false, Int.neg_neg, Int.sub_zero, Int.add_zero, Int.zero_add, true_and, and_true, false_and, and_false, false_or, or_false, true_or, or_true, ne_eq, not_false_eq_true, not_true_eq_false]
          exact c
        · show ν 0 m = μ 0 m
          rw [kf.1 0 (by omega)]
        · simp (disch := omega) only [f_X12_powers, X12_in, X12_isDrawer, kM.o26 hM1, g, ki_0, ki_1, ki_2, ki_3, ki_4, ki_5, ki_6, ki_7, ki_8, ki_9, ki_10, ki_11, ki_12, ki_13, ki_18, ki_20, ki_24, ki_32, ki_36, ki_45, ki_47, ki_48, ki_50, ki_57, ki_60, ki_63, ki_99, ki_100, ki_101, ki_120, ki_255, ki_468, ki_1000, ki_1024, ki_13849, ki_25173, ki_65535, ki_65536, ki_100000, ki_100001, ki_2147483647, ki_2147483648, kl_0, kl_1, kl_2, kl_9223372036854775808, ki_add, ki_sub, ki_mul, ki_neg, kl_add, kl_sub, kl_mul, kl_neg, ki_i2l, kl_l2i, ki_lt, ki_le, ki_eq, kcmp_eq, kcmp_lt, kcmp_le, kcmp_gt, kcmp_ge, Option.bind_some, Option.map_some, kbool0, kbool1, if_pos, if_neg, if_true, if_false, Int.neg_neg, Int.sub_zero, Int.add_zero, Int.zero_add, true_and, and_true, false_and, and_false, false_or, or_false, true_or, or_true, ne_eq, not_false_eq_true, not_true_eq_false]
          exact c2
      · refine ⟨(kl (-9223372036854775808), μ), (kl (-9223372036854775808), μ), ?_, fun _ => rfl, ?_, rfl, h⟩ <;> simp (disch := omega) only [f_X11_powers, b_X11_powers_18, f_X12_powers, b_X12_powers_26, krcv (kX.y1 hX), kX.o1_3 hX, kS.gd (kX.now hX), kS.gt (kX.now hX), X11_within, X11_isDrawer, f_X11_isFilled, b_X11_isFilled_27, b_X11_isFilled_26, f_X11_isRow, b_X11_isRow_35, b_X11_isRow_34, f_X11_isPart, b_X11_isPart_14, b_X11_isPart_9, krcv (kM.y hM), kM.o26 hM, kaI (kM.a108 hM), X12_in, X12_isDrawer, kT.gr hT, krcv hT.y, hR, ki_0, ki_1, ki_2, ki_3, ki_4, ki_5, ki_6, ki_7, ki_8, ki_9, ki_10, ki_11, ki_12, ki_13, ki_18, ki_20, ki_24, ki_32, ki_36, ki_45, ki_47, ki_48, ki_50, ki_57, ki_60, ki_63, ki_99, ki_100, ki_101, ki_120, ki_255, ki_468, ki_1000, ki_1024, ki_13849, ki_25173, ki_65535, ki_65536, ki_100000, ki_100001, ki_2147483647, ki_2147483648, kl_0, kl_1, kl_2, kl_9223372036854775808, ki_add, ki_sub, ki_mul, ki_neg, kl_add, kl_sub, kl_mul, kl_neg, ki_i2l, kl_l2i, ki_lt, ki_le, ki_eq, kcmp_eq, kcmp_lt, kcmp_le, kcmp_gt, kcmp_ge, Option.bind_some, Option.map_some, kbool0, kbool1, if_pos, if_neg, if_true, if_false, Int.neg_neg, Int.sub_zero, Int.add_zero, Int.zero_add, true_and, and_true, false_and, and_false, false_or, or_false, true_or, or_true, ne_eq, not_false_eq_true, not_true_eq_false]
  · refine ⟨(kl (-9223372036854775808), μ), (kl (-9223372036854775808), μ), ?_, fun _ => rfl, ?_, rfl, h⟩ <;> simp (disch := omega) only [f_X11_powers, b_X11_powers_18, f_X12_powers, b_X12_powers_26, krcv (kX.y1 hX), kX.o1_3 hX, kS.gd (kX.now hX), kS.gt (kX.now hX), X11_within, X11_isDrawer, f_X11_isFilled, b_X11_isFilled_27, b_X11_isFilled_26, f_X11_isRow, b_X11_isRow_35, b_X11_isRow_34, f_X11_isPart, b_X11_isPart_14, b_X11_isPart_9, krcv (kM.y hM), kM.o26 hM, kaI (kM.a108 hM), X12_in, X12_isDrawer, ki_0, ki_1, ki_2, ki_3, ki_4, ki_5, ki_6, ki_7, ki_8, ki_9, ki_10, ki_11, ki_12, ki_13, ki_18, ki_20, ki_24, ki_32, ki_36, ki_45, ki_47, ki_48, ki_50, ki_57, ki_60, ki_63, ki_99, ki_100, ki_101, ki_120, ki_255, ki_468, ki_1000, ki_1024, ki_13849, ki_25173, ki_65535, ki_65536, ki_100000, ki_100001, ki_2147483647, ki_2147483648, kl_0, kl_1, kl_2, kl_9223372036854775808, ki_add, ki_sub, ki_mul, ki_neg, kl_add, kl_sub, kl_mul, kl_neg, ki_i2l, kl_l2i, ki_lt, ki_le, ki_eq, kcmp_eq, kcmp_lt, kcmp_le, kcmp_gt, kcmp_ge, Option.bind_some, Option.map_some, kbool0, kbool1, if_pos, if_neg, if_true, if_false, Int.neg_neg, Int.sub_zero, Int.add_zero, Int.zero_add, true_and, and_true, false_and, and_false, false_or, or_false, true_or, or_true, ne_eq, not_false_eq_true, not_true_eq_false]
/-! OPS: strike -/
def swg (A C : Int → Int) (R j : Int) : Nat → (Int → Int) × (Int → Int)
  | 0 => (fun _ => 0, eI j)
  | k + 1 => (fun x => (swg A C R j k).1 x + (swg A C R j k).2 x, fun x => (swg A C R j k).2 x - cs A C R (fun x => (swg A C R j k).1 x + (swg A C R j k).2 x) x)
def p87 : Nat → Int
  | 0 => 1
  | k + 1 => 87 * p87 k
theorem p87_pos : ∀ k, 0 ≤ p87 k := by
  intro k
  induction k with
  | zero => show (0 : Int) ≤ 1; omega
  | succ k ih => show 0 ≤ 87 * p87 k; omega
theorem p87_le : ∀ k, k ≤ 8 → p87 k ≤ 3282116715437121 := by
  intro k hk
  have : k = 0 ∨ k = 1 ∨ k = 2 ∨ k = 3 ∨ k = 4 ∨ k = 5 ∨ k = 6 ∨ k = 7 ∨ k = 8 := by omega
  rcases this with rfl | rfl | rfl | rfl | rfl | rfl | rfl | rfl | rfl <;> decide
theorem swg_bd {A C : Int → Int} {R j : Int} (h : tbR R A C) : ∀ k, bdR (p87 k) R (swg A C R j k).1 ∧ bdR (p87 k) R (swg A C R j k).2 := by
  intro k
  induction k with
  | zero => exact ⟨fun x _ _ => by show (-1 : Int) ≤ 0 ∧ (0 : Int) ≤ 1; omega, eI_bd⟩
  | succ k ih =>
    have hB := p87_pos k
    have b1 : bdR (2 * p87 k) R (fun x => (swg A C R j k).1 x + (swg A C R j k).2 x) := fun x a b => by
      have q1 := ih.1 x a b
      have q2 := ih.2 x a b
      simp only []
      omega
    have b2 := cs_bd h (by omega) b1
    refine ⟨fun x a b => ?_, fun x a b => ?_⟩
    · have q := b1 x a b
      simp only [swg, p87] at *
      omega
    · have q1 := b2 x a b
      have q2 := ih.2 x a b
      simp only [swg, p87]
      generalize cs A C R (fun x => (swg A C R j k).1 x + (swg A C R j k).2 x) x = u at *
      omega
