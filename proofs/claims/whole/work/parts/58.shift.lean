/-! OPS: shift -/
theorem X12_shift1 {Y : jY} {μ : jM} (hM : kM Y μ) {N by_ : Int} (e0 : gi μ 95 10 = N) (h0 : 0 ≤ N) (h4 : N ≤ 4) (hb : -100 ≤ by_ ∧ by_ ≤ 100) (hl : ∀ x : Int, 0 ≤ x → x < N → -100 ≤ gi μ 99 x ∧ gi μ 99 x ≤ 100) (hm : ∀ x : Int, 0 ≤ x → x < N - 1 → -100 ≤ gi μ 100 x ∧ gi μ 100 x ≤ 100) : ∃ ν, jit jF (fun (s : Int32 × jM) => b_X12_shift_56 Y 95 (ki by_) s.1 s.2) ((0 : Int32), μ) = some (ki N, ν) ∧ kF 99 101 μ ν ∧ (∀ x, 0 ≤ x → x < N → gi ν 99 x = gi μ 99 x + by_) ∧ ∀ x, 0 ≤ x → x < N - 1 → gi ν 100 x = gi μ 100 x + by_ := by
  have b1 : ∀ i : Nat, (i : Int) ≤ N → kF 99 101 μ (wr μ 99 0 (fun x => gi μ 99 x + by_) i) := fun i hi => wr_kF (by omega) (by omega) i (fun j hj => (kM.a99 hM).2.2.2 _ (by omega))
  have b2 : ∀ i : Nat, (i : Int) ≤ N → ∀ x : Int, 0 ≤ x → gi (wr μ 99 0 (fun x => gi μ 99 x + by_) i) 99 x = if x < i then gi μ 99 x + by_ else gi μ 99 x := by
    intro i hi x hx
    rw [wr_gi i (fun j hj => by have := hl j (by omega) (by omega); omega) x hx]
    by_cases e : x < i
    · rw [if_pos (by omega), if_pos e, Int.natCast_zero, Int.sub_zero]
    · rw [if_neg (by omega), if_neg e]
  refine ⟨wr (wr μ 99 0 (fun x => gi μ 99 x + by_) N.toNat) 100 0 (fun x => gi μ 100 x + by_) (N - 1).toNat, ?_, (b1 N.toNat (by omega)).trans (wr_kF (by omega) (by omega) _ (fun j hj => (b1 N.toNat (by omega)).I ((kM.a100 hM).2.2.2 _ (by omega)))), fun x a b => ?_, fun x a b => ?_⟩
  · refine jit_run (fun i => (ki i, wr μ 99 0 (fun x => gi μ 99 x + by_) i)) _ N.toNat rfl (by omega) (fun i hi => ?_) ?_
    · have k2 := b1 i (by omega)
      have k3 := b2 i (by omega) i (by omega)
      rw [if_neg (by omega)] at k3
      have q0 : gi (wr μ 99 0 (fun x => gi μ 99 x + by_) i) 95 10 = N := by rw [wr_other (by omega), e0]
      simp only [wr]
      generalize wr μ 99 0 (fun x => gi μ 99 x + by_) i = ν at *
      have t1 := hM.to k2
      have g := kM.g10 t1
      rw [q0] at g
      have e1 := kaI (kM.a99 t1) (x := (i : Int)) (by omega) (by omega)
      rw [k3] at e1
      have e2 := fun v => kasI (v := v) (kM.a99 t1) (x := (i : Int)) (by omega) (by omega)
      simp (disch := omega) only [b_X12_shift_56, kM.o11 t1, g, e1, e2, ki_0, ki_1, ki_2, ki_3, ki_4, ki_5, ki_6, ki_7, ki_8, ki_9, ki_10, ki_11, ki_12, ki_13, ki_18, ki_20, ki_24, ki_32, ki_36, ki_45, ki_47, ki_48, ki_50, ki_57, ki_60, ki_63, ki_99, ki_100, ki_101, ki_120, ki_255, ki_468, ki_1000, ki_1024, ki_13849, ki_25173, ki_65535, ki_65536, ki_100000, ki_100001, ki_2147483647, ki_2147483648, kl_0, kl_1, kl_2, kl_9223372036854775808, ki_add, ki_sub, ki_mul, ki_neg, kl_add, kl_sub, kl_mul, kl_neg, ki_i2l, kl_l2i, ki_lt, ki_le, ki_eq, kcmp_eq, kcmp_lt, kcmp_le, kcmp_gt, kcmp_ge, Option.bind_some, Option.map_some, kbool0, kbool1, if_pos, if_neg, if_true, if_false, Int.neg_neg, Int.sub_zero, Int.add_zero, Int.zero_add, true_and, and_true, false_and, and_false, false_or, or_false, true_or, or_true, ne_eq, not_false_eq_true, not_true_eq_false, Int.natCast_add, Int.natCast_one, Int.toNat_natCast, Nat.zero_add]
    · have k2 := b1 N.toNat (by omega)
      have q0 : gi (wr μ 99 0 (fun x => gi μ 99 x + by_) N.toNat) 95 10 = N := by rw [wr_other (by omega), e0]
      have q2 : ∀ x, gi (wr μ 99 0 (fun x => gi μ 99 x + by_) N.toNat) 100 x = gi μ 100 x := fun x => wr_other (by omega) _ _
      generalize wr μ 99 0 (fun x => gi μ 99 x + by_) N.toNat = ξ at *
      have inner : jit jF (fun (s : Int32 × jM) => b_X12_shift_86 Y 95 (ki by_) s.1 s.2) ((0 : Int32), ξ) = some (ki N, wr ξ 100 0 (fun x => gi μ 100 x + by_) (N - 1).toNat) := by
        refine jit_run (fun i => (ki i, wr ξ 100 0 (fun x => gi μ 100 x + by_) i)) _ (N - 1).toNat rfl (by omega) (fun i hi => ?_) ?_
        · have k4 : kF 99 101 ξ (wr ξ 100 0 (fun x => gi μ 100 x + by_) i) := wr_kF (by omega) (by omega) i (fun j hj => k2.I ((kM.a100 hM).2.2.2 _ (by omega)))
          have k3 : gi (wr ξ 100 0 (fun x => gi μ 100 x + by_) i) 100 i = gi μ 100 i := by
            rw [wr_gi i (fun j hj => by have := hm j (by omega) (by omega); omega) i (by omega), if_neg (by omega), q2]
          have q0 : gi (wr ξ 100 0 (fun x => gi μ 100 x + by_) i) 95 10 = N := by rw [wr_other (by omega), q0]
          simp only [wr]
          generalize wr ξ 100 0 (fun x => gi μ 100 x + by_) i = ν at *
          have t1 := hM.to (k2.trans k4)
          have g := kM.g10 t1
          rw [q0] at g
          have e1 := kaI (kM.a100 t1) (x := (i : Int)) (by omega) (by omega)
          rw [k3] at e1
          have e2 := fun v => kasI (v := v) (kM.a100 t1) (x := (i : Int)) (by omega) (by omega)
          simp (disch := omega) only [b_X12_shift_86, kM.o12 t1, g, e1, e2, ki_0, ki_1, ki_2, ki_3, ki_4, ki_5, ki_6, ki_7, ki_8, ki_9, ki_10, ki_11, ki_12, ki_13, ki_18, ki_20, ki_24, ki_32, ki_36, ki_45, ki_47, ki_48, ki_50, ki_57, ki_60, ki_63, ki_99, ki_100, ki_101, ki_120, ki_255, ki_468, ki_1000, ki_1024, ki_13849, ki_25173, ki_65535, ki_65536, ki_100000, ki_100001, ki_2147483647, ki_2147483648, kl_0, kl_1, kl_2, kl_9223372036854775808, ki_add, ki_sub, ki_mul, ki_neg, kl_add, kl_sub, kl_mul, kl_neg, ki_i2l, kl_l2i, ki_lt, ki_le, ki_eq, kcmp_eq, kcmp_lt, kcmp_le, kcmp_gt, kcmp_ge, Option.bind_some, Option.map_some, kbool0, kbool1, if_pos, if_neg, if_true, if_false, Int.neg_neg, Int.sub_zero, Int.add_zero, Int.zero_add, true_and, and_true, false_and, and_false, false_or, or_false, true_or, or_true, ne_eq, not_false_eq_true, not_true_eq_false, Int.natCast_add, Int.natCast_one, Int.toNat_natCast, Nat.zero_add]
        · have q0 : gi (wr ξ 100 0 (fun x => gi μ 100 x + by_) (N - 1).toNat) 95 10 = N := by rw [wr_other (by omega), q0]
          have k4 : kF 99 101 ξ (wr ξ 100 0 (fun x => gi μ 100 x + by_) (N - 1).toNat) := wr_kF (by omega) (by omega) _ (fun j hj => k2.I ((kM.a100 hM).2.2.2 _ (by omega)))
          generalize wr ξ 100 0 (fun x => gi μ 100 x + by_) (N - 1).toNat = ν at *
          have g := kM.g10 (hM.to (k2.trans k4))
          rw [q0] at g
          simp (disch := omega) only [b_X12_shift_86, g, ki_0, ki_1, ki_2, ki_3, ki_4, ki_5, ki_6, ki_7, ki_8, ki_9, ki_10, ki_11, ki_12, ki_13, ki_18, ki_20, ki_24, ki_32, ki_36, ki_45, ki_47, ki_48, ki_50, ki_57, ki_60, ki_63, ki_99, ki_100, ki_101, ki_120, ki_255, ki_468, ki_1000, ki_1024, ki_13849, ki_25173, ki_65535, ki_65536, ki_100000, ki_100001, ki_2147483647, ki_2147483648, kl_0, kl_1, kl_2, kl_9223372036854775808, ki_add, ki_sub, ki_mul, ki_neg, kl_add, kl_sub, kl_mul, kl_neg, ki_i2l, kl_l2i, ki_lt, ki_le, ki_eq, kcmp_eq, kcmp_lt, kcmp_le, kcmp_gt, kcmp_ge, Option.bind_some, Option.map_some, kbool0, kbool1, if_pos, if_neg, if_true, if_false, Int.neg_neg, Int.sub_zero, Int.add_zero, Int.zero_add, true_and, and_true, false_and, and_false, false_or, or_false, true_or, or_true, ne_eq, not_false_eq_true, not_true_eq_false]
      have g := kM.g10 (hM.to k2)
      rw [q0] at g
      have e : b_X12_shift_56 Y 95 (ki by_) (ki (N.toNat : Int)) ξ = (jit jF (fun (s : Int32 × jM) => b_X12_shift_86 Y 95 (ki by_) s.1 s.2) ((0 : Int32), ξ)).map (fun r => (.inr r)) := by
        simp (disch := omega) only [b_X12_shift_56, g, ki_0, ki_1, ki_2, ki_3, ki_4, ki_5, ki_6, ki_7, ki_8, ki_9, ki_10, ki_11, ki_12, ki_13, ki_18, ki_20, ki_24, ki_32, ki_36, ki_45, ki_47, ki_48, ki_50, ki_57, ki_60, ki_63, ki_99, ki_100, ki_101, ki_120, ki_255, ki_468, ki_1000, ki_1024, ki_13849, ki_25173, ki_65535, ki_65536, ki_100000, ki_100001, ki_2147483647, ki_2147483648, kl_0, kl_1, kl_2, kl_9223372036854775808, ki_add, ki_sub, ki_mul, ki_neg, kl_add, kl_sub, kl_mul, kl_neg, ki_i2l, kl_l2i, ki_lt, ki_le, ki_eq, kcmp_eq, kcmp_lt, kcmp_le, kcmp_gt, kcmp_ge, Option.bind_some, Option.map_some, kbool0, kbool1, if_pos, if_neg, if_true, if_false, Int.neg_neg, Int.sub_zero, Int.add_zero, Int.zero_add, true_and, and_true, false_and, and_false, false_or, or_false, true_or, or_true, ne_eq, not_false_eq_true, not_true_eq_false]
      simp only [e, inner]
      rfl
  · rw [wr_other (by omega), b2 _ (by omega) x a, if_pos (by omega)]
  · rw [wr_gi _ (fun j hj => by have := hm j (by omega) (by omega); omega) x a, if_pos (by omega), Int.natCast_zero, Int.sub_zero]
theorem rise {N : Int} {l m : Int → Int} (h : ∀ x : Int, 0 ≤ x → x < N - 1 → l x < m x ∧ m x < l (x + 1)) : ∀ k : Nat, (k : Int) < N → l 0 ≤ l k := by
  intro k
  induction k with
  | zero => intro _; exact Int.le_refl _
  | succ k ih =>
    intro hk
    have a := ih (by omega)
    have b := h k (by omega) (by omega)
    rw [Int.natCast_add, Int.natCast_one]
    omega
theorem fall {N : Int} {l m : Int → Int} (h : ∀ x : Int, 0 ≤ x → x < N - 1 → l x < m x ∧ m x < l (x + 1)) : ∀ k : Nat, (k : Int) < N → l (N - 1 - k) ≤ l (N - 1) := by
  intro k
  induction k with
  | zero => intro _; rw [Int.natCast_zero, Int.sub_zero]; exact Int.le_refl _
  | succ k ih =>
    intro hk
    have a := ih (by omega)
    have b := h (N - 1 - k - 1) (by omega) (by omega)
    rw [Int.natCast_add, Int.natCast_one, show N - 1 - ((k : Int) + 1) = N - 1 - k - 1 by omega]
    rw [show N - 1 - (k : Int) - 1 + 1 = N - 1 - k by omega] at b
    omega
theorem ok_shift {L : Nat} {xs : Nat → Int32} {n : Nat} {Y : jY} {μ : jM} (h : Inv L xs n Y μ) : so_shift (Inv L xs) n Y μ := by
  have hX := h.x
  have hM := h.m
  intro a1
  obtain ⟨b, b1, b2, rfl⟩ := ki_is a1
  obtain ⟨q1, q2, q3, q4, q5⟩ := h.q
  have e0 := X11_hasTones hX
  have g := kM.g10 hM
  rw [q1] at e0
  by_cases hz : gi μ 95 10 = 0
  · refine ⟨(ki (-1), μ), (ki (-1), μ), ?_, fun _ => rfl, ?_, rfl, h⟩
    · simp (disch := omega) only [f_X11_shift, b_X11_shift_18, krcv (kX.y1 hX), e0, ki_0, ki_1, ki_2, ki_3, ki_4, ki_5, ki_6, ki_7, ki_8, ki_9, ki_10, ki_11, ki_12, ki_13, ki_18, ki_20, ki_24, ki_32, ki_36, ki_45, ki_47, ki_48, ki_50, ki_57, ki_60, ki_63, ki_99, ki_100, ki_101, ki_120, ki_255, ki_468, ki_1000, ki_1024, ki_13849, ki_25173, ki_65535, ki_65536, ki_100000, ki_100001, ki_2147483647, ki_2147483648, kl_0, kl_1, kl_2, kl_9223372036854775808, ki_add, ki_sub, ki_mul, ki_neg, kl_add, kl_sub, kl_mul, kl_neg, ki_i2l, kl_l2i, ki_lt, ki_le, ki_eq, kcmp_eq, kcmp_lt, kcmp_le, kcmp_gt, kcmp_ge, Option.bind_some, Option.map_some, kbool0, kbool1, if_pos, if_neg, if_true, if_false, Int.neg_neg, Int.sub_zero, Int.add_zero, Int.zero_add, true_and, and_true, false_and, and_false, false_or, or_false, true_or, or_true, ne_eq, not_false_eq_true, not_true_eq_false]
    · simp (disch := omega) only [f_X12_shift, b_X12_shift_18, g, ki_0, ki_1, ki_2, ki_3, ki_4, ki_5, ki_6, ki_7, ki_8, ki_9, ki_10, ki_11, ki_12, ki_13, ki_18, ki_20, ki_24, ki_32, ki_36, ki_45, ki_47, ki_48, ki_50, ki_57, ki_60, ki_63, ki_99, ki_100, ki_101, ki_120, ki_255, ki_468, ki_1000, ki_1024, ki_13849, ki_25173, ki_65535, ki_65536, ki_100000, ki_100001, ki_2147483647, ki_2147483648, kl_0, kl_1, kl_2, kl_9223372036854775808, ki_add, ki_sub, ki_mul, ki_neg, kl_add, kl_sub, kl_mul, kl_neg, ki_i2l, kl_l2i, ki_lt, ki_le, ki_eq, kcmp_eq, kcmp_lt, kcmp_le, kcmp_gt, kcmp_ge, Option.bind_some, Option.map_some, kbool0, kbool1, if_pos, if_neg, if_true, if_false, Int.neg_neg, Int.sub_zero, Int.add_zero, Int.zero_add, true_and, and_true, false_and, and_false, false_or, or_false, true_or, or_true, ne_eq, not_false_eq_true, not_true_eq_false]
  · by_cases hb : -12 ≤ b ∧ b ≤ 12
    · obtain ⟨ν1, c1, k1, d0, d1, d2⟩ := X9_copy2 hX.n10 hX.n91 (by omega)
      rw [q1] at d0
      have hX1 := hX.to k1
      have hlx : ∀ x : Int, 0 ≤ x → x < gi μ 95 10 → gi ν1 92 x = gi μ 99 x := fun x a c => by rw [d1 x a (by omega)]; exact (q4 x a c).1
      have hmx : ∀ x : Int, 0 ≤ x → x < gi μ 95 10 - 1 → gi ν1 93 x = gi μ 100 x := fun x a c => by rw [d2 x a (by omega)]; exact (q5 x a c).1
      obtain ⟨ν2, c2, k2, f0, f1, f2⟩ := X9_moveBy hX1.n91 (by_ := b) d0 q2 q3 (by omega) (fun x a c => by rw [hlx x a c]; have := q4 x a c; omega) (fun x a c => by rw [hmx x a c]; have := q5 x a c; have := q4 x a (by omega); have := q4 (x + 1) (by omega) (by omega); omega)
      have hX2 := hX1.to k2
      have hM2 := hM.to (k1.trans k2)
      have hcM : ∀ i, 94 ≤ i → ν2 i = μ i := fun i hi => (k2.1 i (by omega)).trans (k1.1 i (by omega))
      have hc9 : ∀ i, i ≤ 90 → ν2 i = μ i := fun i hi => (k2.1 i (by omega)).trans (k1.1 i (by omega))
      have hlo := q4 0 (by omega) (by omega)
      have hhi := q4 (gi μ 95 10 - 1) (by omega) (by omega)
      have g12 := kM.g10 hM2
      rw [gi_cell (hcM 95 (by omega))] at g12
      have p1 := kaI (kM.a99 hM2) (x := 0) (by omega) (by omega)
      have p2 := kaI (kM.a99 hM2) (x := gi μ 95 10 - 1) (by omega) (by omega)
      rw [gi_cell (hcM 99 (by omega))] at p1 p2
      have T := X11_take hX2
      have F : f_X11_shift Y 1 (ki b) μ = f_X11_takeSpareTones Y 1 ν2 := by
        simp (disch := omega) only [f_X11_shift, X11_within, krcv (kX.y1 hX), kX.o1_11 hX, kX.o1_11 hX1, kX.o1_3 hX, kS.gn (kX.now hX), krcv (kN.y hX.n91), e0, c1, c2, ki_0, ki_1, ki_2, ki_3, ki_4, ki_5, ki_6, ki_7, ki_8, ki_9, ki_10, ki_11, ki_12, ki_13, ki_18, ki_20, ki_24, ki_32, ki_36, ki_45, ki_47, ki_48, ki_50, ki_57, ki_60, ki_63, ki_99, ki_100, ki_101, ki_120, ki_255, ki_468, ki_1000, ki_1024, ki_13849, ki_25173, ki_65535, ki_65536, ki_100000, ki_100001, ki_2147483647, ki_2147483648, kl_0, kl_1, kl_2, kl_9223372036854775808, ki_add, ki_sub, ki_mul, ki_neg, kl_add, kl_sub, kl_mul, kl_neg, ki_i2l, kl_l2i, ki_lt, ki_le, ki_eq, kcmp_eq, kcmp_lt, kcmp_le, kcmp_gt, kcmp_ge, Option.bind_some, Option.map_some, kbool0, kbool1, if_pos, if_neg, if_true, if_false, Int.neg_neg, Int.sub_zero, Int.add_zero, Int.zero_add, true_and, and_true, false_and, and_false, false_or, or_false, true_or, or_true, ne_eq, not_false_eq_true, not_true_eq_false]
        cases f_X11_takeSpareTones Y 1 ν2 <;> rfl
      rw [f0] at T
      by_cases hs : -6 ≤ gi μ 99 0 + b ∧ gi μ 99 (gi μ 95 10 - 1) + b ≤ 6
      · have hall : ∀ x : Int, 0 ≤ x → x < gi μ 95 10 → -6 ≤ gi μ 99 x + b ∧ gi μ 99 x + b ≤ 6 := by
          intro x a c
          have r1 := rise (l := gi μ 99) (m := gi μ 100) (fun x a c => (q5 x a c).2) x.toNat (by omega)
          have r2 := fall (l := gi μ 99) (m := gi μ 100) (fun x a c => (q5 x a c).2) (gi μ 95 10 - 1 - x).toNat (by omega)
          rw [toNat_cast (by omega)] at r1 r2
          rw [show gi μ 95 10 - 1 - (gi μ 95 10 - 1 - x) = x by omega] at r2
          omega
        have okk : okQ (gi μ 95 10) (gi ν2 92) (gi ν2 93) := by
          refine ⟨fun x a c => ?_, fun x a c => ?_⟩
          · rw [f1 x a c, hlx x a c]; exact hall x a c
          · rw [f1 x a (by omega), hlx x a (by omega), f2 x a c, hmx x a c, f1 (x + 1) (by omega) (by omega), hlx (x + 1) (by omega) (by omega)]
            have := q5 x a c
            omega
        rcases T q2 q3 with ⟨n1, _⟩ | ⟨_, ν3, t1, k3, v0, v1, v2⟩
        · exact absurd okk n1
        · have hM3 := hM2.to k3
          have hc3 : ∀ i, 94 ≤ i → ν3 i = μ i := fun i hi => (k3.1 i (by omega)).trans (hcM i hi)
          have g3 := kM.g10 hM3
          rw [gi_cell (hc3 95 (by omega))] at g3
          have p3 := kaI (kM.a99 hM3) (x := 0) (by omega) (by omega)
          have p4 := kaI (kM.a99 hM3) (x := gi μ 95 10 - 1) (by omega) (by omega)
          rw [gi_cell (hc3 99 (by omega))] at p3 p4
          obtain ⟨ν4, t2, k4, w1, w2⟩ := X12_shift1 hM3 (N := gi μ 95 10) (by_ := b) (by rw [gi_cell (hc3 95 (by omega))]) q2 q3 (by omega) (fun x a c => by rw [gi_cell (hc3 99 (by omega))]; have := q4 x a c; omega) (fun x a c => by rw [gi_cell (hc3 100 (by omega))]; have := q5 x a c; have := q4 x a (by omega); have := q4 (x + 1) (by omega) (by omega); omega)
          refine ⟨(ki (gi μ 95 10), ν3), (ki (gi μ 95 10), ν4), ?_, fun j => ?_, ?_, rfl, ?_⟩
          · rw [F, t1]
          · show ν3 0 j = μ 0 j
            rw [k3.1 0 (by omega), hc9 0 (by omega)]
          · simp (disch := omega) only [f_X12_shift, X12_in, g3, kM.o11 hM3, p3, p4, ki_0, ki_1, ki_2, ki_3, ki_4, ki_5, ki_6, ki_7, ki_8, ki_9, ki_10, ki_11, ki_12, ki_13, ki_18, ki_20, ki_24, ki_32, ki_36, ki_45, ki_47, ki_48, ki_50, ki_57, ki_60, ki_63, ki_99, ki_100, ki_101, ki_120, ki_255, ki_468, ki_1000, ki_1024, ki_13849, ki_25173, ki_65535, ki_65536, ki_100000, ki_100001, ki_2147483647, ki_2147483648, kl_0, kl_1, kl_2, kl_9223372036854775808, ki_add, ki_sub, ki_mul, ki_neg, kl_add, kl_sub, kl_mul, kl_neg, ki_i2l, kl_l2i, ki_lt, ki_le, ki_eq, kcmp_eq, kcmp_lt, kcmp_le, kcmp_gt, kcmp_ge, Option.bind_some, Option.map_some, kbool0, kbool1, if_pos, if_neg, if_true, if_false, Int.neg_neg, Int.sub_zero, Int.add_zero, Int.zero_add, true_and, and_true, false_and, and_false, false_or, or_false, true_or, or_true, ne_eq, not_false_eq_true, not_true_eq_false]
            exact t2
          · refine Inv.updN (μ' := ν4) h ((k1.mono (by omega) (by omega)).trans ((k2.mono (by omega) (by omega)).trans ((k3.mono (by omega) (by omega)).trans (k4.mono (by omega) (by omega))))) (fun i pi i1 i2 i3 i4 i5 => ?_) ?_ ?_ ?_
            · rw [k4.1 i (by omega), k3.1 i (by omega)]
              unfold pers at pi
              rw [k2.1 i (by omega), k1.1 i (by omega)]
            · rw [k4.1 95 (by omega), hc3 95 (by omega)]
            · rw [k4.1 95 (by omega), hc3 95 (by omega)]
            · have x1 : gi ν4 95 10 = gi μ 95 10 := by rw [k4.gi (by omega), gi_cell (hc3 95 (by omega))]
              unfold relQ
              rw [x1, k4.gi (by omega), v0]
              refine ⟨rfl, q2, q3, fun x a c => ?_, fun x a c => ?_⟩
              · rw [k4.gi (by omega), v1 x a (by omega), f1 x a c, hlx x a c, w1 x a c, gi_cell (hc3 99 (by omega))]
                exact ⟨rfl, hall x a c⟩
              · rw [k4.gi (by omega), v2 x a (by omega), f2 x a c, hmx x a c, w2 x a c, gi_cell (hc3 100 (by omega)), w1 x a (by omega), gi_cell (hc3 99 (by omega)), w1 (x + 1) (by omega) (by omega), gi_cell (hc3 99 (by omega))]
                have := q5 x a c
                omega
      · rcases T q2 q3 with ⟨n1, t1⟩ | ⟨okk, _⟩
        · refine ⟨(ki (-3), ν2), (ki (-3), ν2), ?_, fun j => ?_, ?_, rfl, ?_⟩
          · rw [F, t1]
          · show ν2 0 j = μ 0 j
            rw [hc9 0 (by omega)]
          · by_cases hs1 : gi μ 99 0 + b < -6
            · simp (disch := omega) only [f_X12_shift, X12_in, b_X12_shift_51, g12, kM.o11 hM2, p1, p2, ki_0, ki_1, ki_2, ki_3, ki_4, ki_5, ki_6, ki_7, ki_8, ki_9, ki_10, ki_11, ki_12, ki_13, ki_18, ki_20, ki_24, ki_32, ki_36, ki_45, ki_47, ki_48, ki_50, ki_57, ki_60, ki_63, ki_99, ki_100, ki_101, ki_120, ki_255, ki_468, ki_1000, ki_1024, ki_13849, ki_25173, ki_65535, ki_65536, ki_100000, ki_100001, ki_2147483647, ki_2147483648, kl_0, kl_1, kl_2, kl_9223372036854775808, ki_add, ki_sub, ki_mul, ki_neg, kl_add, kl_sub, kl_mul, kl_neg, ki_i2l, kl_l2i, ki_lt, ki_le, ki_eq, kcmp_eq, kcmp_lt, kcmp_le, kcmp_gt, kcmp_ge, Option.bind_some, Option.map_some, kbool0, kbool1, if_pos, if_neg, if_true, if_false, Int.neg_neg, Int.sub_zero, Int.add_zero, Int.zero_add, true_and, and_true, false_and, and_false, false_or, or_false, true_or, or_true, ne_eq, not_false_eq_true, not_true_eq_false]
            · simp (disch := omega) only [f_X12_shift, X12_in, b_X12_shift_51, g12, kM.o11 hM2, p1, p2, ki_0, ki_1, ki_2, ki_3, ki_4, ki_5, ki_6, ki_7, ki_8, ki_9, ki_10, ki_11, ki_12, ki_13, ki_18, ki_20, ki_24, ki_32, ki_36, ki_45, ki_47, ki_48, ki_50, ki_57, ki_60, ki_63, ki_99, ki_100, ki_101, ki_120, ki_255, ki_468, ki_1000, ki_1024, ki_13849, ki_25173, ki_65535, ki_65536, ki_100000, ki_100001, ki_2147483647, ki_2147483648, kl_0, kl_1, kl_2, kl_9223372036854775808, ki_add, ki_sub, ki_mul, ki_neg, kl_add, kl_sub, kl_mul, kl_neg, ki_i2l, kl_l2i, ki_lt, ki_le, ki_eq, kcmp_eq, kcmp_lt, kcmp_le, kcmp_gt, kcmp_ge, Option.bind_some, Option.map_some, kbool0, kbool1, if_pos, if_neg, if_true, if_false, Int.neg_neg, Int.sub_zero, Int.add_zero, Int.zero_add, true_and, and_true, false_and, and_false, false_or, or_false, true_or, or_true, ne_eq, not_false_eq_true, not_true_eq_false]
          · exact h.to (kP.of_rows ((k1.mono (by omega) (by omega)).trans (k2.mono (by omega) (by omega))))
        · exfalso
          have o1 := okk.1 0 (by omega) (by omega)
          have o2 := okk.1 (gi μ 95 10 - 1) (by omega) (by omega)
          rw [f1 _ (by omega) (by omega), hlx _ (by omega) (by omega)] at o1 o2
          omega
    · refine ⟨(ki (-1), μ), (ki (-1), μ), ?_, fun _ => rfl, ?_, rfl, h⟩
      · simp (disch := omega) only [f_X11_shift, b_X11_shift_18, X11_within, krcv (kX.y1 hX), e0, ki_0, ki_1, ki_2, ki_3, ki_4, ki_5, ki_6, ki_7, ki_8, ki_9, ki_10, ki_11, ki_12, ki_13, ki_18, ki_20, ki_24, ki_32, ki_36, ki_45, ki_47, ki_48, ki_50, ki_57, ki_60, ki_63, ki_99, ki_100, ki_101, ki_120, ki_255, ki_468, ki_1000, ki_1024, ki_13849, ki_25173, ki_65535, ki_65536, ki_100000, ki_100001, ki_2147483647, ki_2147483648, kl_0, kl_1, kl_2, kl_9223372036854775808, ki_add, ki_sub, ki_mul, ki_neg, kl_add, kl_sub, kl_mul, kl_neg, ki_i2l, kl_l2i, ki_lt, ki_le, ki_eq, kcmp_eq, kcmp_lt, kcmp_le, kcmp_gt, kcmp_ge, Option.bind_some, Option.map_some, kbool0, kbool1, if_pos, if_neg, if_true, if_false, Int.neg_neg, Int.sub_zero, Int.add_zero, Int.zero_add, true_and, and_true, false_and, and_false, false_or, or_false, true_or, or_true, ne_eq, not_false_eq_true, not_true_eq_false]
      · simp (disch := omega) only [f_X12_shift, b_X12_shift_18, X12_in, g, ki_0, ki_1, ki_2, ki_3, ki_4, ki_5, ki_6, ki_7, ki_8, ki_9, ki_10, ki_11, ki_12, ki_13, ki_18, ki_20, ki_24, ki_32, ki_36, ki_45, ki_47, ki_48, ki_50, ki_57, ki_60, ki_63, ki_99, ki_100, ki_101, ki_120, ki_255, ki_468, ki_1000, ki_1024, ki_13849, ki_25173, ki_65535, ki_65536, ki_100000, ki_100001, ki_2147483647, ki_2147483648, kl_0, kl_1, kl_2, kl_9223372036854775808, ki_add, ki_sub, ki_mul, ki_neg, kl_add, kl_sub, kl_mul, kl_neg, ki_i2l, kl_l2i, ki_lt, ki_le, ki_eq, kcmp_eq, kcmp_lt, kcmp_le, kcmp_gt, kcmp_ge, Option.bind_some, Option.map_some, kbool0, kbool1, if_pos, if_neg, if_true, if_false, Int.neg_neg, Int.sub_zero, Int.add_zero, Int.zero_add, true_and, and_true, false_and, and_false, false_or, or_false, true_or, or_true, ne_eq, not_false_eq_true, not_true_eq_false]
