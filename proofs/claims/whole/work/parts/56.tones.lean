/-! THE TONES: what both hold; another one in both -/
def relQ (μ : jM) : Prop := gi μ 10 0 = gi μ 95 10 ∧ 0 ≤ gi μ 95 10 ∧ gi μ 95 10 ≤ 4 ∧ (∀ x : Int, 0 ≤ x → x < gi μ 95 10 → gi μ 11 x = gi μ 99 x ∧ -6 ≤ gi μ 99 x ∧ gi μ 99 x ≤ 6) ∧ ∀ x : Int, 0 ≤ x → x < gi μ 95 10 - 1 → gi μ 12 x = gi μ 100 x ∧ gi μ 99 x < gi μ 100 x ∧ gi μ 100 x < gi μ 99 (x + 1)
theorem Inv.q {L : Nat} {xs : Nat → Int32} {n : Nat} {Y : jY} {μ : jM} (h : Inv L xs n Y μ) : relQ μ := by
  obtain ⟨b1, b2, b3, b4, b5, b6⟩ := h.2.2.2.2.2.1
  exact ⟨b1, b2, b3, b4, b5⟩
/-- the tones are others, in both; all else is as it was -/
theorem Inv.updN {L : Nat} {xs : Nat → Int32} {n : Nat} {Y : jY} {μ μ' : jM} (h : Inv L xs n Y μ) (k : kF 0 123 μ μ') (hc : ∀ i, pers i → i ≠ 10 → i ≠ 11 → i ≠ 12 → i ≠ 99 → i ≠ 100 → μ' i = μ i) (h1 : μ' 95 1 = μ 95 1) (h25 : μ' 95 25 = μ 95 25) (hq : relQ μ') : Inv L xs n Y μ' := by
  obtain ⟨⟨a1, a2⟩, a3, a4, ⟨s, s1, s2, s3, s4⟩, a5, a6, a7, a8, a9, a10⟩ := h
  have hc2 : ∀ i, pers i → (i < 10 ∨ 12 < i) → i ≠ 99 → i ≠ 100 → μ' i = μ i := fun i p q1 q2 q3 => hc i p (by omega) (by omega) (by omega) q2 q3
  have e1 : gi μ' 1 5 = gi μ 1 5 := gi_cell (hc2 1 (Or.inl (by omega)) (by omega) (by omega) (by omega)) 5
  have e2 : gi μ' 95 25 = gi μ 95 25 := gi_slot (k := 25) h25
  refine ⟨⟨a1, fun j hj => by rw [hc2 0 (Or.inl (by omega)) (by omega) (by omega) (by omega)]; exact a2 j hj⟩, a3.to k, a4.to k, ⟨s, s1, s2, by rw [e1]; exact s3, s4.to k⟩, a5.to (hc2 2 (Or.inl (by omega)) (by omega) (by omega) (by omega)) (hc2 3 (Or.inl (by omega)) (by omega) (by omega) (by omega)) (hc2 96 (by unfold pers; omega) (by omega) (by omega) (by omega)) h1, ?_, by rw [e1, e2]; exact a7, by rw [e1]; exact a8, by rw [e1]; exact a9, fun j hj => ?_⟩
  · obtain ⟨b1, b2, b3, b4, b5, b6⟩ := a6
    obtain ⟨q1, q2, q3, q4, q5⟩ := hq
    refine ⟨q1, q2, q3, q4, q5, fun d hd => ?_⟩
    have f108 : gi μ' 108 = gi μ 108 := funext (gi_cell (hc2 108 (by unfold pers; omega) (by omega) (by omega) (by omega)))
    have f109 : gi μ' 109 = gi μ 109 := funext (gi_cell (hc2 109 (by unfold pers; omega) (by omega) (by omega) (by omega)))
    have f110 : gi μ' 110 = gi μ 110 := funext (gi_cell (hc2 110 (by unfold pers; omega) (by omega) (by omega) (by omega)))
    rw [f108, f109, f110]
    exact (b6 d hd).to (hc2 _ (by unfold pers; omega) (by omega) (by omega) (by omega)) (hc2 _ (by unfold pers; omega) (by omega) (by omega) (by omega)) (hc2 _ (by unfold pers; omega) (by omega) (by omega) (by omega))
  · rw [e1] at hj
    exact (a10 j hj).to (fun i p => hc2 i (by unfold pers; omega) (by omega) (by omega) (by omega)) (fun i p q => hc2 i (by unfold pers; omega) (by omega) (by omega) (by omega))
theorem X11_hasTones {Y : jY} {μ : jM} (hX : kX Y μ) : f_X11_hasTones Y 1 μ = some (ki (if 0 < gi μ 10 0 then 1 else 0), μ) := by
  have g := kN.gr hX.n10
  have b1 := gi_lo μ 10 0
  have b2 := gi_hi μ 10 0
  by_cases e : 0 < gi μ 10 0
  · simp (disch := omega) only [f_X11_hasTones, b_X11_hasTones_18, krcv (kX.y1 hX), kX.o1_3 hX, kS.gn (kX.now hX), g, ki_0, ki_1, ki_2, ki_3, ki_4, ki_5, ki_6, ki_7, ki_8, ki_9, ki_10, ki_11, ki_12, ki_13, ki_18, ki_20, ki_24, ki_32, ki_36, ki_45, ki_47, ki_48, ki_50, ki_57, ki_60, ki_63, ki_99, ki_100, ki_101, ki_120, ki_255, ki_468, ki_1000, ki_1024, ki_13849, ki_25173, ki_65535, ki_65536, ki_100000, ki_100001, ki_2147483647, ki_2147483648, kl_0, kl_1, kl_2, kl_9223372036854775808, ki_add, ki_sub, ki_mul, ki_neg, kl_add, kl_sub, kl_mul, kl_neg, ki_i2l, kl_l2i, ki_lt, ki_le, ki_eq, kcmp_eq, kcmp_lt, kcmp_le, kcmp_gt, kcmp_ge, Option.bind_some, Option.map_some, kbool0, kbool1, if_pos, if_neg, if_true, if_false, Int.neg_neg, Int.sub_zero, Int.add_zero, Int.zero_add, true_and, and_true, false_and, and_false, false_or, or_false, true_or, or_true, ne_eq, not_false_eq_true, not_true_eq_false]
  · simp (disch := omega) only [f_X11_hasTones, b_X11_hasTones_18, krcv (kX.y1 hX), kX.o1_3 hX, kS.gn (kX.now hX), g, ki_0, ki_1, ki_2, ki_3, ki_4, ki_5, ki_6, ki_7, ki_8, ki_9, ki_10, ki_11, ki_12, ki_13, ki_18, ki_20, ki_24, ki_32, ki_36, ki_45, ki_47, ki_48, ki_50, ki_57, ki_60, ki_63, ki_99, ki_100, ki_101, ki_120, ki_255, ki_468, ki_1000, ki_1024, ki_13849, ki_25173, ki_65535, ki_65536, ki_100000, ki_100001, ki_2147483647, ki_2147483648, kl_0, kl_1, kl_2, kl_9223372036854775808, ki_add, ki_sub, ki_mul, ki_neg, kl_add, kl_sub, kl_mul, kl_neg, ki_i2l, kl_l2i, ki_lt, ki_le, ki_eq, kcmp_eq, kcmp_lt, kcmp_le, kcmp_gt, kcmp_ge, Option.bind_some, Option.map_some, kbool0, kbool1, if_pos, if_neg, if_true, if_false, Int.neg_neg, Int.sub_zero, Int.add_zero, Int.zero_add, true_and, and_true, false_and, and_false, false_or, or_false, true_or, or_true, ne_eq, not_false_eq_true, not_true_eq_false]
/-! OPS: apart -/
def ai (l : Int → Int) (i v : Int) : Nat → Int
  | 0 => v
  | j + 1 => ai l i v j * ((l i - l j) * (l i - l j))
def ao (l : Int → Int) : Nat → Int
  | 0 => 1
  | i + 1 => ai l i (ao l i) i
theorem X9_distances {Y : jY} {μ : jM} {o : Nat} (hN : kN Y μ o) {N : Int} {l : Int → Int} (e0 : gi μ o 0 = N) (h0 : 0 ≤ N) (h4 : N ≤ 4) (hl : ∀ x : Int, 0 ≤ x → x < N → gi μ (o + 1) x = l x ∧ -6 ≤ l x ∧ l x ≤ 6) : f_X9_distances Y o μ = some (kl (ao l N.toNat), μ) := by
  have g := kN.gr hN
  rw [e0] at g
  refine jit_run (fun i => (kl (ao l i), ki i, μ)) _ N.toNat rfl (by omega) (fun i hi => ?_) ?_
  · have inner : jit jF (fun (s : Int64 × Int32 × jM) => b_X9_distances_15 Y o s.1 (ki i) s.2.1 s.2.2) (kl (ao l i), (0 : Int32), μ) = some (.inl (kl (ao l (i + 1)), ki ((i + 1 : Nat) : Int), μ)) := by
      refine jit_run (fun j => (kl (ai l i (ao l i) j), ki j, μ)) _ i rfl (by omega) (fun j hj => ?_) ?_
      · have q1 := kaI hN.aa (x := (i : Int)) (by omega) (by omega)
        have q2 := kaI hN.aa (x := (j : Int)) (by omega) (by omega)
        have b1 := hl i (by omega) (by omega)
        have b2 := hl j (by omega) (by omega)
        rw [b1.1] at q1
        rw [b2.1] at q2
        have r1 : -12 ≤ l i - l j ∧ l i - l j ≤ 12 := by omega
        simp only [ai]
        generalize ai l i (ao l i) j = v at *
        have r2 : -144 ≤ (l i - l j) * (l i - l j) ∧ (l i - l j) * (l i - l j) ≤ 144 := by
          generalize l i - l j = w at *
          have := Int.mul_self_le_mul_self (a := w.natAbs) (b := 12) (by omega) (by omega)
          rw [← Int.natAbs_mul_self]
          omega
        simp (disch := omega) only [b_X9_distances_15, kN.ga hN, q1, q2, ki_0, ki_1, ki_2, ki_3, ki_4, ki_5, ki_6, ki_7, ki_8, ki_9, ki_10, ki_11, ki_12, ki_13, ki_18, ki_20, ki_24, ki_32, ki_36, ki_45, ki_47, ki_48, ki_50, ki_57, ki_60, ki_63, ki_99, ki_100, ki_101, ki_120, ki_255, ki_468, ki_1000, ki_1024, ki_13849, ki_25173, ki_65535, ki_65536, ki_100000, ki_100001, ki_2147483647, ki_2147483648, kl_0, kl_1, kl_2, kl_9223372036854775808, ki_add, ki_sub, ki_mul, ki_neg, kl_add, kl_sub, kl_mul, kl_neg, ki_i2l, kl_l2i, ki_lt, ki_le, ki_eq, kcmp_eq, kcmp_lt, kcmp_le, kcmp_gt, kcmp_ge, Option.bind_some, Option.map_some, kbool0, kbool1, if_pos, if_neg, if_true, if_false, Int.neg_neg, Int.sub_zero, Int.add_zero, Int.zero_add, true_and, and_true, false_and, and_false, false_or, or_false, true_or, or_true, ne_eq, not_false_eq_true, not_true_eq_false, Int.natCast_add, Int.natCast_one]
      · simp (disch := omega) only [b_X9_distances_15, ki_0, ki_1, ki_2, ki_3, ki_4, ki_5, ki_6, ki_7, ki_8, ki_9, ki_10, ki_11, ki_12, ki_13, ki_18, ki_20, ki_24, ki_32, ki_36, ki_45, ki_47, ki_48, ki_50, ki_57, ki_60, ki_63, ki_99, ki_100, ki_101, ki_120, ki_255, ki_468, ki_1000, ki_1024, ki_13849, ki_25173, ki_65535, ki_65536, ki_100000, ki_100001, ki_2147483647, ki_2147483648, kl_0, kl_1, kl_2, kl_9223372036854775808, ki_add, ki_sub, ki_mul, ki_neg, kl_add, kl_sub, kl_mul, kl_neg, ki_i2l, kl_l2i, ki_lt, ki_le, ki_eq, kcmp_eq, kcmp_lt, kcmp_le, kcmp_gt, kcmp_ge, Option.bind_some, Option.map_some, kbool0, kbool1, if_pos, if_neg, if_true, if_false, Int.neg_neg, Int.sub_zero, Int.add_zero, Int.zero_add, true_and, and_true, false_and, and_false, false_or, or_false, true_or, or_true, ne_eq, not_false_eq_true, not_true_eq_false, ao, Int.natCast_add, Int.natCast_one]
    simp (disch := omega) only [b_X9_distances_4, g, ki_0, ki_1, ki_2, ki_3, ki_4, ki_5, ki_6, ki_7, ki_8, ki_9, ki_10, ki_11, ki_12, ki_13, ki_18, ki_20, ki_24, ki_32, ki_36, ki_45, ki_47, ki_48, ki_50, ki_57, ki_60, ki_63, ki_99, ki_100, ki_101, ki_120, ki_255, ki_468, ki_1000, ki_1024, ki_13849, ki_25173, ki_65535, ki_65536, ki_100000, ki_100001, ki_2147483647, ki_2147483648, kl_0, kl_1, kl_2, kl_9223372036854775808, ki_add, ki_sub, ki_mul, ki_neg, kl_add, kl_sub, kl_mul, kl_neg, ki_i2l, kl_l2i, ki_lt, ki_le, ki_eq, kcmp_eq, kcmp_lt, kcmp_le, kcmp_gt, kcmp_ge, Option.bind_some, Option.map_some, kbool0, kbool1, if_pos, if_neg, if_true, if_false, Int.neg_neg, Int.sub_zero, Int.add_zero, Int.zero_add, true_and, and_true, false_and, and_false, false_or, or_false, true_or, or_true, ne_eq, not_false_eq_true, not_true_eq_false]
    exact inner
  · simp (disch := omega) only [b_X9_distances_4, g, ki_0, ki_1, ki_2, ki_3, ki_4, ki_5, ki_6, ki_7, ki_8, ki_9, ki_10, ki_11, ki_12, ki_13, ki_18, ki_20, ki_24, ki_32, ki_36, ki_45, ki_47, ki_48, ki_50, ki_57, ki_60, ki_63, ki_99, ki_100, ki_101, ki_120, ki_255, ki_468, ki_1000, ki_1024, ki_13849, ki_25173, ki_65535, ki_65536, ki_100000, ki_100001, ki_2147483647, ki_2147483648, kl_0, kl_1, kl_2, kl_9223372036854775808, ki_add, ki_sub, ki_mul, ki_neg, kl_add, kl_sub, kl_mul, kl_neg, ki_i2l, kl_l2i, ki_lt, ki_le, ki_eq, kcmp_eq, kcmp_lt, kcmp_le, kcmp_gt, kcmp_ge, Option.bind_some, Option.map_some, kbool0, kbool1, if_pos, if_neg, if_true, if_false, Int.neg_neg, Int.sub_zero, Int.add_zero, Int.zero_add, true_and, and_true, false_and, and_false, false_or, or_false, true_or, or_true, ne_eq, not_false_eq_true, not_true_eq_false, toNat_cast h0]
theorem X12_apart1 {Y : jY} {μ : jM} (hM : kM Y μ) {N : Int} {l : Int → Int} (e0 : gi μ 95 10 = N) (h0 : 0 ≤ N) (h4 : N ≤ 4) (hl : ∀ x : Int, 0 ≤ x → x < N → gi μ 99 x = l x ∧ -6 ≤ l x ∧ l x ≤ 6) : jit jF (fun (s : Int64 × Int32 × jM) => b_X12_apart_15 Y 95 s.1 s.2.1 s.2.2) ((1 : Int64), (0 : Int32), μ) = some (kl (ao l N.toNat), μ) := by
  have g := kM.g10 hM
  rw [e0] at g
  refine jit_run (fun i => (kl (ao l i), ki i, μ)) _ N.toNat rfl (by omega) (fun i hi => ?_) ?_
  · have inner : jit jF (fun (s : Int64 × Int32 × jM) => b_X12_apart_26 Y 95 s.1 (ki i) s.2.1 s.2.2) (kl (ao l i), (0 : Int32), μ) = some (.inl (kl (ao l (i + 1)), ki ((i + 1 : Nat) : Int), μ)) := by
      refine jit_run (fun j => (kl (ai l i (ao l i) j), ki j, μ)) _ i rfl (by omega) (fun j hj => ?_) ?_
      · have q1 := kaI (kM.a99 hM) (x := (i : Int)) (by omega) (by omega)
        have q2 := kaI (kM.a99 hM) (x := (j : Int)) (by omega) (by omega)
        have b1 := hl i (by omega) (by omega)
        have b2 := hl j (by omega) (by omega)
        rw [b1.1] at q1
        rw [b2.1] at q2
        have r1 : -12 ≤ l i - l j ∧ l i - l j ≤ 12 := by omega
        simp only [ai]
        generalize ai l i (ao l i) j = v at *
        simp (disch := omega) only [b_X12_apart_26, kM.o11 hM, q1, q2, ki_0, ki_1, ki_2, ki_3, ki_4, ki_5, ki_6, ki_7, ki_8, ki_9, ki_10, ki_11, ki_12, ki_13, ki_18, ki_20, ki_24, ki_32, ki_36, ki_45, ki_47, ki_48, ki_50, ki_57, ki_60, ki_63, ki_99, ki_100, ki_101, ki_120, ki_255, ki_468, ki_1000, ki_1024, ki_13849, ki_25173, ki_65535, ki_65536, ki_100000, ki_100001, ki_2147483647, ki_2147483648, kl_0, kl_1, kl_2, kl_9223372036854775808, ki_add, ki_sub, ki_mul, ki_neg, kl_add, kl_sub, kl_mul, kl_neg, ki_i2l, kl_l2i, ki_lt, ki_le, ki_eq, kcmp_eq, kcmp_lt, kcmp_le, kcmp_gt, kcmp_ge, Option.bind_some, Option.map_some, kbool0, kbool1, if_pos, if_neg, if_true, if_false, Int.neg_neg, Int.sub_zero, Int.add_zero, Int.zero_add, true_and, and_true, false_and, and_false, false_or, or_false, true_or, or_true, ne_eq, not_false_eq_true, not_true_eq_false, Int.natCast_add, Int.natCast_one, Int.mul_assoc]
      · simp (disch := omega) only [b_X12_apart_26, ki_0, ki_1, ki_2, ki_3, ki_4, ki_5, ki_6, ki_7, ki_8, ki_9, ki_10, ki_11, ki_12, ki_13, ki_18, ki_20, ki_24, ki_32, ki_36, ki_45, ki_47, ki_48, ki_50, ki_57, ki_60, ki_63, ki_99, ki_100, ki_101, ki_120, ki_255, ki_468, ki_1000, ki_1024, ki_13849, ki_25173, ki_65535, ki_65536, ki_100000, ki_100001, ki_2147483647, ki_2147483648, kl_0, kl_1, kl_2, kl_9223372036854775808, ki_add, ki_sub, ki_mul, ki_neg, kl_add, kl_sub, kl_mul, kl_neg, ki_i2l, kl_l2i, ki_lt, ki_le, ki_eq, kcmp_eq, kcmp_lt, kcmp_le, kcmp_gt, kcmp_ge, Option.bind_some, Option.map_some, kbool0, kbool1, if_pos, if_neg, if_true, if_false, Int.neg_neg, Int.sub_zero, Int.add_zero, Int.zero_add, true_and, and_true, false_and, and_false, false_or, or_false, true_or, or_true, ne_eq, not_false_eq_true, not_true_eq_false, ao, Int.natCast_add, Int.natCast_one]
    simp (disch := omega) only [b_X12_apart_15, g, ki_0, ki_1, ki_2, ki_3, ki_4, ki_5, ki_6, ki_7, ki_8, ki_9, ki_10, ki_11, ki_12, ki_13, ki_18, ki_20, ki_24, ki_32, ki_36, ki_45, ki_47, ki_48, ki_50, ki_57, ki_60, ki_63, ki_99, ki_100, ki_101, ki_120, ki_255, ki_468, ki_1000, ki_1024, ki_13849, ki_25173, ki_65535, ki_65536, ki_100000, ki_100001, ki_2147483647, ki_2147483648, kl_0, kl_1, kl_2, kl_9223372036854775808, ki_add, ki_sub, ki_mul, ki_neg, kl_add, kl_sub, kl_mul, kl_neg, ki_i2l, kl_l2i, ki_lt, ki_le, ki_eq, kcmp_eq, kcmp_lt, kcmp_le, kcmp_gt, kcmp_ge, Option.bind_some, Option.map_some, kbool0, kbool1, if_pos, if_neg, if_true, if_false, Int.neg_neg, Int.sub_zero, Int.add_zero, Int.zero_add, true_and, and_true, false_and, and_false, false_or, or_false, true_or, or_true, ne_eq, not_false_eq_true, not_true_eq_false]
    exact inner
  · simp (disch := omega) only [b_X12_apart_15, g, ki_0, ki_1, ki_2, ki_3, ki_4, ki_5, ki_6, ki_7, ki_8, ki_9, ki_10, ki_11, ki_12, ki_13, ki_18, ki_20, ki_24, ki_32, ki_36, ki_45, ki_47, ki_48, ki_50, ki_57, ki_60, ki_63, ki_99, ki_100, ki_101, ki_120, ki_255, ki_468, ki_1000, ki_1024, ki_13849, ki_25173, ki_65535, ki_65536, ki_100000, ki_100001, ki_2147483647, ki_2147483648, kl_0, kl_1, kl_2, kl_9223372036854775808, ki_add, ki_sub, ki_mul, ki_neg, kl_add, kl_sub, kl_mul, kl_neg, ki_i2l, kl_l2i, ki_lt, ki_le, ki_eq, kcmp_eq, kcmp_lt, kcmp_le, kcmp_gt, kcmp_ge, Option.bind_some, Option.map_some, kbool0, kbool1, if_pos, if_neg, if_true, if_false, Int.neg_neg, Int.sub_zero, Int.add_zero, Int.zero_add, true_and, and_true, false_and, and_false, false_or, or_false, true_or, or_true, ne_eq, not_false_eq_true, not_true_eq_false, toNat_cast h0]
theorem ok_apart {L : Nat} {xs : Nat → Int32} {n : Nat} {Y : jY} {μ : jM} (h : Inv L xs n Y μ) : so_apart (Inv L xs) n Y μ := by
  have hX := h.x
  have hM := h.m
  obtain ⟨q1, q2, q3, q4, q5⟩ := h.q
  have e0 := X11_hasTones hX
  have g := kM.g10 hM
  rw [q1] at e0
  by_cases hz : gi μ 95 10 = 0
  · refine ⟨(kl (-9223372036854775808), μ), (kl (-9223372036854775808), μ), ?_, fun _ => rfl, ?_, rfl, h⟩
    · simp (disch := omega) only [f_X11_apart, b_X11_apart_23, krcv (kX.y1 hX), e0, ki_0, ki_1, ki_2, ki_3, ki_4, ki_5, ki_6, ki_7, ki_8, ki_9, ki_10, ki_11, ki_12, ki_13, ki_18, ki_20, ki_24, ki_32, ki_36, ki_45, ki_47, ki_48, ki_50, ki_57, ki_60, ki_63, ki_99, ki_100, ki_101, ki_120, ki_255, ki_468, ki_1000, ki_1024, ki_13849, ki_25173, ki_65535, ki_65536, ki_100000, ki_100001, ki_2147483647, ki_2147483648, kl_0, kl_1, kl_2, kl_9223372036854775808, ki_add, ki_sub, ki_mul, ki_neg, kl_add, kl_sub, kl_mul, kl_neg, ki_i2l, kl_l2i, ki_lt, ki_le, ki_eq, kcmp_eq, kcmp_lt, kcmp_le, kcmp_gt, kcmp_ge, Option.bind_some, Option.map_some, kbool0, kbool1, if_pos, if_neg, if_true, if_false, Int.neg_neg, Int.sub_zero, Int.add_zero, Int.zero_add, true_and, and_true, false_and, and_false, false_or, or_false, true_or, or_true, ne_eq, not_false_eq_true, not_true_eq_false]
    · simp (disch := omega) only [f_X12_apart, g, ki_0, ki_1, ki_2, ki_3, ki_4, ki_5, ki_6, ki_7, ki_8, ki_9, ki_10, ki_11, ki_12, ki_13, ki_18, ki_20, ki_24, ki_32, ki_36, ki_45, ki_47, ki_48, ki_50, ki_57, ki_60, ki_63, ki_99, ki_100, ki_101, ki_120, ki_255, ki_468, ki_1000, ki_1024, ki_13849, ki_25173, ki_65535, ki_65536, ki_100000, ki_100001, ki_2147483647, ki_2147483648, kl_0, kl_1, kl_2, kl_9223372036854775808, ki_add, ki_sub, ki_mul, ki_neg, kl_add, kl_sub, kl_mul, kl_neg, ki_i2l, kl_l2i, ki_lt, ki_le, ki_eq, kcmp_eq, kcmp_lt, kcmp_le, kcmp_gt, kcmp_ge, Option.bind_some, Option.map_some, kbool0, kbool1, if_pos, if_neg, if_true, if_false, Int.neg_neg, Int.sub_zero, Int.add_zero, Int.zero_add, true_and, and_true, false_and, and_false, false_or, or_false, true_or, or_true, ne_eq, not_false_eq_true, not_true_eq_false]
  · have e1 := X9_distances hX.n10 (l := gi μ 99) q1 q2 q3 (fun x a b => q4 x a b)
    have e2 := X12_apart1 hM (l := gi μ 99) rfl q2 q3 (fun x a b => ⟨rfl, (q4 x a b).2⟩)
    generalize ao (gi μ 99) (gi μ 95 10).toNat = v at *
    refine ⟨(kl v, μ), (kl v, μ), ?_, fun _ => rfl, ?_, rfl, h⟩
    · simp (disch := omega) only [f_X11_apart, b_X11_apart_23, krcv (kX.y1 hX), kX.o1_3 hX, kS.gn (kX.now hX), krcv (kN.y hX.n10), e0, e1, ki_0, ki_1, ki_2, ki_3, ki_4, ki_5, ki_6, ki_7, ki_8, ki_9, ki_10, ki_11, ki_12, ki_13, ki_18, ki_20, ki_24, ki_32, ki_36, ki_45, ki_47, ki_48, ki_50, ki_57, ki_60, ki_63, ki_99, ki_100, ki_101, ki_120, ki_255, ki_468, ki_1000, ki_1024, ki_13849, ki_25173, ki_65535, ki_65536, ki_100000, ki_100001, ki_2147483647, ki_2147483648, kl_0, kl_1, kl_2, kl_9223372036854775808, ki_add, ki_sub, ki_mul, ki_neg, kl_add, kl_sub, kl_mul, kl_neg, ki_i2l, kl_l2i, ki_lt, ki_le, ki_eq, kcmp_eq, kcmp_lt, kcmp_le, kcmp_gt, kcmp_ge, Option.bind_some, Option.map_some, kbool0, kbool1, if_pos, if_neg, if_true, if_false, Int.neg_neg, Int.sub_zero, Int.add_zero, Int.zero_add, true_and, and_true, false_and, and_false, false_or, or_false, true_or, or_true, ne_eq, not_false_eq_true, not_true_eq_false]
    · simp (disch := omega) only [f_X12_apart, g, ki_0, ki_1, ki_2, ki_3, ki_4, ki_5, ki_6, ki_7, ki_8, ki_9, ki_10, ki_11, ki_12, ki_13, ki_18, ki_20, ki_24, ki_32, ki_36, ki_45, ki_47, ki_48, ki_50, ki_57, ki_60, ki_63, ki_99, ki_100, ki_101, ki_120, ki_255, ki_468, ki_1000, ki_1024, ki_13849, ki_25173, ki_65535, ki_65536, ki_100000, ki_100001, ki_2147483647, ki_2147483648, kl_0, kl_1, kl_2, kl_9223372036854775808, ki_add, ki_sub, ki_mul, ki_neg, kl_add, kl_sub, kl_mul, kl_neg, ki_i2l, kl_l2i, ki_lt, ki_le, ki_eq, kcmp_eq, kcmp_lt, kcmp_le, kcmp_gt, kcmp_ge, Option.bind_some, Option.map_some, kbool0, kbool1, if_pos, if_neg, if_true, if_false, Int.neg_neg, Int.sub_zero, Int.add_zero, Int.zero_add, true_and, and_true, false_and, and_false, false_or, or_false, true_or, or_true, ne_eq, not_false_eq_true, not_true_eq_false]
      exact e2
