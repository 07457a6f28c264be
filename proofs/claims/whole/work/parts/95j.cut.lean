/-! THE FRACTION of fractions: the class's, from the innermost outwards -/
theorem X1_isZero {Y : jY} {μ : jM} {o : Nat} (h : kFr Y μ o) {p : Int × Int} (e : frS μ o p) : f_X1_isZero Y o μ = some (ki (if p.1 = 0 then 1 else 0), μ) := by
  have g0 := e.g0 h
  have ok := e.1
  unfold okb at ok
  generalize p.1 = t at *
  by_cases z : t = 0
  · simp (disch := omega) only [f_X1_isZero, b_X1_isZero_14, g0, ki_0, ki_1, ki_2, ki_3, ki_4, ki_5, ki_6, ki_7, ki_8, ki_9, ki_10, ki_11, ki_12, ki_13, ki_18, ki_20, ki_24, ki_32, ki_36, ki_45, ki_47, ki_48, ki_50, ki_57, ki_60, ki_63, ki_99, ki_100, ki_101, ki_120, ki_255, ki_468, ki_1000, ki_1024, ki_13849, ki_25173, ki_65535, ki_65536, ki_100000, ki_100001, ki_2147483647, ki_2147483648, kl_0, kl_1, kl_2, kl_9223372036854775808, ki_add, ki_sub, ki_mul, ki_neg, kl_add, kl_sub, kl_mul, kl_neg, ki_i2l, kl_l2i, ki_lt, ki_le, ki_eq, kcmp_eq, kcmp_lt, kcmp_le, kcmp_gt, kcmp_ge, Option.bind_some, Option.map_some, kbool0, kbool1, if_pos, if_neg, if_true, if_false, Int.neg_neg, Int.sub_zero, Int.add_zero, Int.zero_add, true_and, and_true, false_and, and_false, false_or, or_false, true_or, or_true, ne_eq, not_false_eq_true, not_true_eq_false]
  · simp (disch := omega) only [f_X1_isZero, b_X1_isZero_14, g0, ki_0, ki_1, ki_2, ki_3, ki_4, ki_5, ki_6, ki_7, ki_8, ki_9, ki_10, ki_11, ki_12, ki_13, ki_18, ki_20, ki_24, ki_32, ki_36, ki_45, ki_47, ki_48, ki_50, ki_57, ki_60, ki_63, ki_99, ki_100, ki_101, ki_120, ki_255, ki_468, ki_1000, ki_1024, ki_13849, ki_25173, ki_65535, ki_65536, ki_100000, ki_100001, ki_2147483647, ki_2147483648, kl_0, kl_1, kl_2, kl_9223372036854775808, ki_add, ki_sub, ki_mul, ki_neg, kl_add, kl_sub, kl_mul, kl_neg, ki_i2l, kl_l2i, ki_lt, ki_le, ki_eq, kcmp_eq, kcmp_lt, kcmp_le, kcmp_gt, kcmp_ge, Option.bind_some, Option.map_some, kbool0, kbool1, if_pos, if_neg, if_true, if_false, Int.neg_neg, Int.sub_zero, Int.add_zero, Int.zero_add, true_and, and_true, false_and, and_false, false_or, or_false, true_or, or_true, ne_eq, not_false_eq_true, not_true_eq_false]
/-- what holds at one step -/
def cutS (x w d c0 c1 M T1 TI IT IM IT' IM' : Int) : Prop := M ≠ 0 ∧ IT * M = TI * IM ∧ w * M = T1 * d ∧ okb w ∧ okb d ∧ okb (T1 - TI) ∧ okb M ∧ (T1 - TI ≠ 0 → IM' ≠ 0 ∧ IT' * (c1 * (T1 - TI)) = c0 * M * IM' ∧ okb IT' ∧ okb IM')
set_option maxHeartbeats 1000000 in
theorem cutStep1 {Y : jY} {ν : jM} (hX : kX Y ν) {i : Nat} (i3 : i ≤ 3) {x n d c0 c1 M T1 TI IT IM IT' IM' : Int} {a c p : Int × Int} (x1 : -20 ≤ x) (x2 : x ≤ 20) (sa : frS ν (33 + i) a) (qa : fq a n d) (sc : 1 ≤ i → frS ν (38 + (i - 1)) c) (qc : fq (if i = 0 then (1, 1) else c) c0 c1) (sp : frS ν 94 p) (qp : fq p IT IM) (S : cutS x (x * d - n) d c0 c1 M T1 TI IT IM IT' IM') : ∃ ω, (∀ o, o ≠ 67 → o ≠ 94 → ω o = ν o) ∧ kF 67 95 ν ω ∧ ((T1 - TI = 0 ∧ b_X8_cutShort_18 Y 31 (ki x) 94 (ki i) ν = some (.inr (ki 0, ω))) ∨ (T1 - TI ≠ 0 ∧ b_X8_cutShort_18 Y 31 (ki x) 94 (ki i) ν = some (.inl (ki ((i : Int) + -1), ω)) ∧ ∃ r, frS ω 94 r ∧ fq r IT' IM')) := by
  obtain ⟨M0, s1, s2, s3, s4, s5, s6, s7⟩ := S
  have ox : okb x := ⟨by omega, by omega⟩
  have x64 : (ki x).toInt64 = kl x := ki_i2l (by omega) (by omega)
  have q0 : fq (x, 1) (x * d) d := fq.w.to qa.1 (by grind)
  obtain ⟨r1, a1, qr1⟩ := q0.sub qa s3 s4
  have qr1' := qr1.to M0 s2
  obtain ⟨r2, a2, qr2⟩ := qr1'.sub (qp.to M0 s1) s5 s6
  have S1 := X1_set1 hX.f67 (t := x) ox
  have k1 : kF 67 95 ν (frw ν 67 (x, 1)) := kF_fr hX.f67 (by omega) (by omega)
  have n1 : ∀ o, o ≠ 67 → o ≠ 94 → frw ν 67 (x, 1) o = ν o := fun o h _ => frw_ne h
  have f1 : frS (frw ν 67 (x, 1)) 67 (x, 1) := frS.w ox okb_1
  have p1 := sp.ne (o := 67) (q := (x, 1)) (by omega)
  generalize frw ν 67 (x, 1) = ν1 at *
  have hX1 := hX.to k1
  have ga := hX1.f32.g (x := (i : Int)) (by omega) (by omega)
  rw [Int.toNat_natCast] at ga
  have sub1 := X1_subtract hX1.f67 (hX1.f32.f (j := i) (by omega)) f1 (sa.at (n1 _ (by omega) (by omega))) a1
  have or1 := aF_ok a1
  have k2 : kF 67 95 ν (frw ν1 67 r1) := k1.trans (kF_fr hX1.f67 (by omega) (by omega))
  have n2 : ∀ o, o ≠ 67 → o ≠ 94 → frw ν1 67 r1 o = ν o := fun o h h2 => by rw [frw_ne h, n1 o h h2]
  have f2 : frS (frw ν1 67 r1) 67 r1 := frS.w or1.1 or1.2
  have p2 := p1.ne (o := 67) (q := r1) (by omega)
  generalize frw ν1 67 r1 = ν2 at *
  have hX2 := hX.to k2
  have sub2 := X1_subtract hX2.f67 hX2.f94 f2 p2 a2
  have or2 := aF_ok a2
  have k3 : kF 67 95 ν (frw ν2 67 r2) := k2.trans (kF_fr hX2.f67 (by omega) (by omega))
  have n3 : ∀ o, o ≠ 67 → o ≠ 94 → frw ν2 67 r2 o = ν o := fun o h h2 => by rw [frw_ne h, n2 o h h2]
  have f3 : frS (frw ν2 67 r2) 67 r2 := frS.w or2.1 or2.2
  generalize frw ν2 67 r2 = ν3 at *
  have hX3 := hX.to k3
  have iz := X1_isZero hX3.f67 f3
  by_cases z : T1 - TI = 0
  · rw [if_pos (qr2.z.2 z)] at iz
    refine ⟨ν3, n3, k3, Or.inl ⟨z, ?_⟩⟩
    simp (disch := omega) only [b_X8_cutShort_18, hX.o31_9, x64, krcv hX.f67.1, S1, hX1.o31_9, hX1.o31_2, ga, sub1, hX2.o31_9, sub2, hX3.o31_9, iz, ki_0, ki_1, ki_2, ki_3, ki_4, ki_5, ki_6, ki_7, ki_8, ki_9, ki_10, ki_11, ki_12, ki_13, ki_18, ki_20, ki_24, ki_32, ki_36, ki_45, ki_47, ki_48, ki_50, ki_57, ki_60, ki_63, ki_99, ki_100, ki_101, ki_120, ki_255, ki_468, ki_1000, ki_1024, ki_13849, ki_25173, ki_65535, ki_65536, ki_100000, ki_100001, ki_2147483647, ki_2147483648, kl_0, kl_1, kl_2, kl_9223372036854775808, ki_add, ki_sub, ki_mul, ki_neg, kl_add, kl_sub, kl_mul, kl_neg, ki_i2l, kl_l2i, ki_lt, ki_le, ki_eq, kcmp_eq, kcmp_lt, kcmp_le, kcmp_gt, kcmp_ge, Option.bind_some, Option.map_some, kbool0, kbool1, if_pos, if_neg, if_true, if_false, Int.neg_neg, Int.sub_zero, Int.add_zero, Int.zero_add, true_and, and_true, false_and, and_false, false_or, or_false, true_or, or_true, ne_eq, not_false_eq_true, not_true_eq_false]
  · have z1 : ¬ r2.1 = 0 := fun h => z (qr2.z.1 h)
    rw [if_neg z1] at iz
    obtain ⟨m0, e3, o3, o4⟩ := s7 z
    have S4 := X1_set1 hX3.f94 (t := 1) okb_1
    have k4 : kF 67 95 ν (frw ν3 94 (1, 1)) := k3.trans (kF_fr hX3.f94 (by omega) (by omega))
    have n4 : ∀ o, o ≠ 67 → o ≠ 94 → frw ν3 94 (1, 1) o = ν o := fun o h h2 => by rw [frw_ne h2, n3 o h h2]
    have f4 := f3.ne (o := 94) (q := (1, 1)) (by omega)
    have p4 : frS (frw ν3 94 (1, 1)) 94 (1, 1) := frS.w okb_1 okb_1
    generalize frw ν3 94 (1, 1) = ν4 at *
    have hX4 := hX.to k4
    obtain ⟨r3, m3, qr3⟩ := qc.div qr2 z m0 e3 o3 o4
    have or3 := mF_ok m3
    by_cases i0 : (i : Int) ≤ 0
    · rw [if_pos (by omega)] at m3
      have dv := X1_divide hX4.f94 hX4.f67 p4 f4 m3
      refine ⟨frw ν4 94 r3, fun o h h2 => by rw [frw_ne h2, n4 o h h2], k4.trans (kF_fr hX4.f94 (by omega) (by omega)), Or.inr ⟨z, ?_, r3, frS.w or3.1 or3.2, qr3⟩⟩
      simp (disch := omega) only [b_X8_cutShort_18, b_X8_cutShort_91, hX.o31_9, x64, krcv hX.f67.1, krcv hX.f94.1, S1, hX1.o31_9, hX1.o31_2, ga, sub1, hX2.o31_9, sub2, hX3.o31_9, iz, S4, hX4.o31_9, dv, ki_0, ki_1, ki_2, ki_3, ki_4, ki_5, ki_6, ki_7, ki_8, ki_9, ki_10, ki_11, ki_12, ki_13, ki_18, ki_20, ki_24, ki_32, ki_36, ki_45, ki_47, ki_48, ki_50, ki_57, ki_60, ki_63, ki_99, ki_100, ki_101, ki_120, ki_255, ki_468, ki_1000, ki_1024, ki_13849, ki_25173, ki_65535, ki_65536, ki_100000, ki_100001, ki_2147483647, ki_2147483648, kl_0, kl_1, kl_2, kl_9223372036854775808, ki_add, ki_sub, ki_mul, ki_neg, kl_add, kl_sub, kl_mul, kl_neg, ki_i2l, kl_l2i, ki_lt, ki_le, ki_eq, kcmp_eq, kcmp_lt, kcmp_le, kcmp_gt, kcmp_ge, Option.bind_some, Option.map_some, kbool0, kbool1, if_pos, if_neg, if_true, if_false, Int.neg_neg, Int.sub_zero, Int.add_zero, Int.zero_add, true_and, and_true, false_and, and_false, false_or, or_false, true_or, or_true, ne_eq, not_false_eq_true, not_true_eq_false]
    · rw [if_neg (by omega)] at m3
      have gc := hX4.f37.g (x := (i : Int) - 1) (by omega) (by omega)
      rw [show ((i : Int) - 1).toNat = i - 1 by omega] at gc
      have sc4 := (sc (by omega)).at (n4 (38 + (i - 1)) (by omega) (by omega))
      have cp := X1_copy hX4.f94 (hX4.f37.f (j := i - 1) (by omega)) sc4
      have k5 : kF 67 95 ν (frw ν4 94 c) := k4.trans (kF_fr hX4.f94 (by omega) (by omega))
      have n5 : ∀ o, o ≠ 67 → o ≠ 94 → frw ν4 94 c o = ν o := fun o h h2 => by rw [frw_ne h2, n4 o h h2]
      have f5 := f4.ne (o := 94) (q := c) (by omega)
      have p5 : frS (frw ν4 94 c) 94 c := frS.w sc4.1 sc4.2.1
      generalize frw ν4 94 c = ν5 at *
      have hX5 := hX.to k5
      have dv := X1_divide hX5.f94 hX5.f67 p5 f5 m3
      refine ⟨frw ν5 94 r3, fun o h h2 => by rw [frw_ne h2, n5 o h h2], k5.trans (kF_fr hX5.f94 (by omega) (by omega)), Or.inr ⟨z, ?_, r3, frS.w or3.1 or3.2, qr3⟩⟩
      simp (disch := omega) only [b_X8_cutShort_18, b_X8_cutShort_91, hX.o31_9, x64, krcv hX.f67.1, krcv hX.f94.1, S1, hX1.o31_9, hX1.o31_2, ga, sub1, hX2.o31_9, sub2, hX3.o31_9, iz, S4, hX4.o31_3, gc, cp, hX5.o31_9, dv, ki_0, ki_1, ki_2, ki_3, ki_4, ki_5, ki_6, ki_7, ki_8, ki_9, ki_10, ki_11, ki_12, ki_13, ki_18, ki_20, ki_24, ki_32, ki_36, ki_45, ki_47, ki_48, ki_50, ki_57, ki_60, ki_63, ki_99, ki_100, ki_101, ki_120, ki_255, ki_468, ki_1000, ki_1024, ki_13849, ki_25173, ki_65535, ki_65536, ki_100000, ki_100001, ki_2147483647, ki_2147483648, kl_0, kl_1, kl_2, kl_9223372036854775808, ki_add, ki_sub, ki_mul, ki_neg, kl_add, kl_sub, kl_mul, kl_neg, ki_i2l, kl_l2i, ki_lt, ki_le, ki_eq, kcmp_eq, kcmp_lt, kcmp_le, kcmp_gt, kcmp_ge, Option.bind_some, Option.map_some, kbool0, kbool1, if_pos, if_neg, if_true, if_false, Int.neg_neg, Int.sub_zero, Int.add_zero, Int.zero_add, true_and, and_true, false_and, and_false, false_or, or_false, true_or, or_true, ne_eq, not_false_eq_true, not_true_eq_false]
/-- the whole run inwards to outwards: IT/IM what has been reckoned, step t at k - 1 - t -/
theorem cut_run {Y : jY} {μ : jM} (hX : kX Y μ) {N k : Nat} (N4 : N ≤ 4) (k1 : 1 ≤ k) (kN : k ≤ N) {x : Int} (x1 : -20 ≤ x) (x2 : x ≤ 20) {as cs : List (Int × Int)} (t : tabC μ N as cs) {nn dd c0 c1 : Nat → Int} (qa : ∀ i, i < k → fq (gz as i) (nn i) (dd i)) (qc : ∀ i, i < k → fq (if i = 0 then (1, 1) else gz cs (i - 1)) (c0 i) (c1 i)) {MM T1 TI IT IM : Nat → Int} (z0 : IT 0 = 0) (z1 : IM 0 = 1) (S : ∀ t, t < k → (∀ s, s < t → T1 s - TI s ≠ 0) → cutS x (x * dd (k - 1 - t) - nn (k - 1 - t)) (dd (k - 1 - t)) (c0 (k - 1 - t)) (c1 (k - 1 - t)) (MM t) (T1 t) (TI t) (IT t) (IM t) (IT (t + 1)) (IM (t + 1))) : ∃ r : Int32 × jM, f_X8_cutShort Y 31 (ki k) (ki x) 94 μ = some r ∧ kF 67 95 μ r.2 ∧ ((r.1 = ki 0 ∧ ∃ t, t < k ∧ T1 t - TI t = 0) ∨ (r.1 = ki 1 ∧ (∀ t, t < k → T1 t - TI t ≠ 0) ∧ ∃ p, frS r.2 94 p ∧ fq p (IT k) (IM k))) := by
  have S1 := X1_set1 hX.f94 (t := 0) okb_0
  have kf : kF 67 95 μ (frw μ 94 (0, 1)) := kF_fr hX.f94 (by omega) (by omega)
  have n1 : ∀ o, o ≠ 67 → o ≠ 94 → frw μ 94 (0, 1) o = μ o := fun o _ h => frw_ne h
  have f1 : frS (frw μ 94 (0, 1)) 94 (0, 1) := frS.w okb_0 okb_1
  have gN := (hX.to kf).g31_1
  rw [kf.gi (by omega), t.1] at gN
  have mn : jminI (ki k) (ki N) = ki k := by
    rw [kmin (by omega) (by omega) (by omega) (by omega), if_neg (by omega)]
  have F : f_X8_cutShort Y 31 (ki k) (ki x) 94 μ = jit jF (fun (s : Int32 × jM) => b_X8_cutShort_18 Y 31 (ki x) 94 s.1 s.2) (ki ((k : Int) - 1), frw μ 94 (0, 1)) := by
    simp (disch := omega) only [f_X8_cutShort, krcv hX.f94.1, S1, gN, mn, ki_0, ki_1, ki_2, ki_3, ki_4, ki_5, ki_6, ki_7, ki_8, ki_9, ki_10, ki_11, ki_12, ki_13, ki_18, ki_20, ki_24, ki_32, ki_36, ki_45, ki_47, ki_48, ki_50, ki_57, ki_60, ki_63, ki_99, ki_100, ki_101, ki_120, ki_255, ki_468, ki_1000, ki_1024, ki_13849, ki_25173, ki_65535, ki_65536, ki_100000, ki_100001, ki_2147483647, ki_2147483648, kl_0, kl_1, kl_2, kl_9223372036854775808, ki_add, ki_sub, ki_mul, ki_neg, kl_add, kl_sub, kl_mul, kl_neg, ki_i2l, kl_l2i, ki_lt, ki_le, ki_eq, kcmp_eq, kcmp_lt, kcmp_le, kcmp_gt, kcmp_ge, Option.bind_some, Option.map_some, kbool0, kbool1, if_pos, if_neg, if_true, if_false, Int.neg_neg, Int.sub_zero, Int.add_zero, Int.zero_add, true_and, and_true, false_and, and_false, false_or, or_false, true_or, or_true, ne_eq, not_false_eq_true, not_true_eq_false]
  rw [F]
  generalize frw μ 94 (0, 1) = ξ at *
  refine jit_inv (f := fun (s : Int32 × jM) => b_X8_cutShort_18 Y 31 (ki x) 94 s.1 s.2) (fun t z => z.1 = ki ((k : Int) - 1 - t) ∧ (∀ o, o ≠ 67 → o ≠ 94 → z.2 o = μ o) ∧ kF 67 95 μ z.2 ∧ (∀ s, s < t → T1 s - TI s ≠ 0) ∧ ∃ p, frS z.2 94 p ∧ fq p (IT t) (IM t)) _ k (s := (ki ((k : Int) - 1), ξ)) ⟨by rw [show (k : Int) - 1 - ((0 : Nat) : Int) = k - 1 by omega], n1, kf, fun s hs => by omega, (0, 1), f1, by rw [z0, z1]; exact fq.w⟩ (by omega) (fun i z hi hz => ?_)
  obtain ⟨v, ν⟩ := z
  obtain ⟨rfl, y1, y2, y3, p, y4, y5⟩ := hz
  simp only [] at y1 y2 y4
  have hX1 := hX.to y2
  by_cases e : i = k
  · subst e
    refine ⟨.inr (ki 1, ν), ?_, y2, Or.inr ⟨rfl, y3, p, y4, y5⟩⟩
    simp (disch := omega) only [b_X8_cutShort_18, ki_0, ki_1, ki_2, ki_3, ki_4, ki_5, ki_6, ki_7, ki_8, ki_9, ki_10, ki_11, ki_12, ki_13, ki_18, ki_20, ki_24, ki_32, ki_36, ki_45, ki_47, ki_48, ki_50, ki_57, ki_60, ki_63, ki_99, ki_100, ki_101, ki_120, ki_255, ki_468, ki_1000, ki_1024, ki_13849, ki_25173, ki_65535, ki_65536, ki_100000, ki_100001, ki_2147483647, ki_2147483648, kl_0, kl_1, kl_2, kl_9223372036854775808, ki_add, ki_sub, ki_mul, ki_neg, kl_add, kl_sub, kl_mul, kl_neg, ki_i2l, kl_l2i, ki_lt, ki_le, ki_eq, kcmp_eq, kcmp_lt, kcmp_le, kcmp_gt, kcmp_ge, Option.bind_some, Option.map_some, kbool0, kbool1, if_pos, if_neg, if_true, if_false, Int.neg_neg, Int.sub_zero, Int.add_zero, Int.zero_add, true_and, and_true, false_and, and_false, false_or, or_false, true_or, or_true, ne_eq, not_false_eq_true, not_true_eq_false]
  · have t' := t.at N4 (fun o h1 h2 => y1 o (by omega) (by omega))
    obtain ⟨ω, w1, w2, w3⟩ := cutStep1 hX1 (i := k - 1 - i) (by omega) (x := x) (c := gz cs (k - 1 - i - 1)) x1 x2 (t'.2.1 (k - 1 - i) (by omega)) (qa (k - 1 - i) (by omega)) (fun h => t'.2.2 (k - 1 - i - 1) (by omega)) (qc (k - 1 - i) (by omega)) y4 y5 (S i (by omega) y3)
    have ee : ((k - 1 - i : Nat) : Int) = (k : Int) - 1 - i := by omega
    rw [ee] at w3
    rcases w3 with ⟨h1, h2⟩ | ⟨h1, h2, r, h3, h4⟩
    · exact ⟨_, h2, y2.trans w2, Or.inl ⟨rfl, i, by omega, h1⟩⟩
    · refine ⟨_, h2, by omega, by rw [show (k : Int) - 1 - ((i + 1 : Nat) : Int) = (k : Int) - 1 - i + -1 by omega], fun o a b => by simp only []; rw [w1 o a b, y1 o a b], y2.trans w2, fun s hs => ?_, r, h3, h4⟩
      by_cases si : s = i
      · rw [si]; exact h1
      · exact y3 s (by omega)
