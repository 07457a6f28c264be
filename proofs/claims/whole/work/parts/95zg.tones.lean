/-! OPS: tones, write: before and behind the scan -/
theorem X5_holdsText {Y : jY} {μ : jM} (hX : kX Y μ) {k l : Int} (e0 : gi μ 2 1 = l) (l0 : 0 ≤ l) (l1 : l ≤ 120) (k1 : -2147483648 ≤ k) (k2 : k ≤ 2147483647) : f_X5_holdsText Y 2 (ki k) μ = some (ki (if 1 ≤ k ∧ k ≤ 60 ∧ k ≤ l then 1 else 0), μ) := by
  have g := kX.g2_1 hX
  rw [e0] at g
  by_cases a : 1 ≤ k ∧ k ≤ 60
  · by_cases b : k ≤ l
    · rw [if_pos ⟨a.1, a.2, b⟩]
      simp (disch := omega) only [f_X5_holdsText, b_X5_holdsText_23, X11_within, g, ki_0, ki_1, ki_2, ki_3, ki_4, ki_5, ki_6, ki_7, ki_8, ki_9, ki_10, ki_11, ki_12, ki_13, ki_18, ki_20, ki_24, ki_32, ki_36, ki_45, ki_47, ki_48, ki_50, ki_57, ki_60, ki_63, ki_99, ki_100, ki_101, ki_120, ki_255, ki_468, ki_1000, ki_1024, ki_13849, ki_25173, ki_65535, ki_65536, ki_100000, ki_100001, ki_2147483647, ki_2147483648, kl_0, kl_1, kl_2, kl_9223372036854775808, ki_add, ki_sub, ki_mul, ki_neg, kl_add, kl_sub, kl_mul, kl_neg, ki_i2l, kl_l2i, ki_lt, ki_le, ki_eq, kcmp_eq, kcmp_lt, kcmp_le, kcmp_gt, kcmp_ge, Option.bind_some, Option.map_some, kbool0, kbool1, if_pos, if_neg, if_true, if_false, Int.neg_neg, Int.sub_zero, Int.add_zero, Int.zero_add, true_and, and_true, false_and, and_false, false_or, or_false, true_or, or_true, ne_eq, not_false_eq_true, not_true_eq_false]
    · rw [if_neg (fun q => b q.2.2)]
      simp (disch := omega) only [f_X5_holdsText, b_X5_holdsText_22, b_X5_holdsText_23, X11_within, g, ki_0, ki_1, ki_2, ki_3, ki_4, ki_5, ki_6, ki_7, ki_8, ki_9, ki_10, ki_11, ki_12, ki_13, ki_18, ki_20, ki_24, ki_32, ki_36, ki_45, ki_47, ki_48, ki_50, ki_57, ki_60, ki_63, ki_99, ki_100, ki_101, ki_120, ki_255, ki_468, ki_1000, ki_1024, ki_13849, ki_25173, ki_65535, ki_65536, ki_100000, ki_100001, ki_2147483647, ki_2147483648, kl_0, kl_1, kl_2, kl_9223372036854775808, ki_add, ki_sub, ki_mul, ki_neg, kl_add, kl_sub, kl_mul, kl_neg, ki_i2l, kl_l2i, ki_lt, ki_le, ki_eq, kcmp_eq, kcmp_lt, kcmp_le, kcmp_gt, kcmp_ge, Option.bind_some, Option.map_some, kbool0, kbool1, if_pos, if_neg, if_true, if_false, Int.neg_neg, Int.sub_zero, Int.add_zero, Int.zero_add, true_and, and_true, false_and, and_false, false_or, or_false, true_or, or_true, ne_eq, not_false_eq_true, not_true_eq_false]
  · rw [if_neg (fun q => a ⟨q.1, q.2.1⟩)]
    simp (disch := omega) only [f_X5_holdsText, b_X5_holdsText_22, b_X5_holdsText_23, X11_within, ki_0, ki_1, ki_2, ki_3, ki_4, ki_5, ki_6, ki_7, ki_8, ki_9, ki_10, ki_11, ki_12, ki_13, ki_18, ki_20, ki_24, ki_32, ki_36, ki_45, ki_47, ki_48, ki_50, ki_57, ki_60, ki_63, ki_99, ki_100, ki_101, ki_120, ki_255, ki_468, ki_1000, ki_1024, ki_13849, ki_25173, ki_65535, ki_65536, ki_100000, ki_100001, ki_2147483647, ki_2147483648, kl_0, kl_1, kl_2, kl_9223372036854775808, ki_add, ki_sub, ki_mul, ki_neg, kl_add, kl_sub, kl_mul, kl_neg, ki_i2l, kl_l2i, ki_lt, ki_le, ki_eq, kcmp_eq, kcmp_lt, kcmp_le, kcmp_gt, kcmp_ge, Option.bind_some, Option.map_some, kbool0, kbool1, if_pos, if_neg, if_true, if_false, Int.neg_neg, Int.sub_zero, Int.add_zero, Int.zero_add, true_and, and_true, false_and, and_false, false_or, or_false, true_or, or_true, ne_eq, not_false_eq_true, not_true_eq_false]
theorem X6_scan0 {Y : jY} {μ : jM} (hX : kX Y μ) {L z : Int} (hz : z = 0 ∨ z = 1) (f g : Int → Int) : ∃ ν, kF 4 7 μ ν ∧ scX ν z 0 0 0 (-1) f g ∧ f_X6_scan Y 4 2 (ki L) (ki z) μ = lpX Y L jF (ki 0, ki 0, ν) := by
  have F1 : kF 4 7 μ (jw μ 4 4 (.int (ki z))) := kF_I (kX.i4_4 hX) (by omega) (by omega)
  have p1 := kputZ (Y := Y) (μ := μ) (o := 4) (ci := 6) (k := 4) (v := z) hX.y4 (by decide) hz
  have w1 := fun a x => gi_jw (μ := μ) (o := 4) (k := 4) (v := z) a x (by omega) (by omega)
  have hX1 := hX.to F1
  generalize jw μ 4 4 (.int (ki z)) = ν1 at *
  have F2 : kF 4 7 ν1 (jw ν1 4 5 (.int (ki 0))) := kF_I (kX.i4_5 hX1) (by omega) (by omega)
  have p2 := kputZ (Y := Y) (μ := ν1) (o := 4) (ci := 6) (k := 5) (v := 0) hX1.y4 (by decide) (Or.inl rfl)
  have w2 := fun a x => gi_jw (μ := ν1) (o := 4) (k := 5) (v := 0) a x (by omega) (by omega)
  have hX2 := hX1.to F2
  generalize jw ν1 4 5 (.int (ki 0)) = ν2 at *
  have F3 : kF 4 7 ν2 (jw ν2 4 6 (.int (ki (-1)))) := kF_I (kX.i4_6 hX2) (by omega) (by omega)
  have w3 := fun a x => gi_jw (μ := ν2) (o := 4) (k := 6) (v := -1) a x (by omega) (by omega)
  have hX3 := hX2.to F3
  generalize h3 : jw ν2 4 6 (.int (ki (-1))) = ν3 at *
  have F4 : kF 4 7 ν3 (jw ν3 4 2 (.int (ki 0))) := kF_I (kX.i4_2 hX3) (by omega) (by omega)
  have w4 := fun a x => gi_jw (μ := ν3) (o := 4) (k := 2) (v := 0) a x (by omega) (by omega)
  have hX4 := hX3.to F4
  generalize h4 : jw ν3 4 2 (.int (ki 0)) = ν4 at *
  have F5 : kF 4 7 ν4 (jw ν4 4 3 (.int (ki 0))) := kF_I (kX.i4_3 hX4) (by omega) (by omega)
  have w5 := fun a x => gi_jw (μ := ν4) (o := 4) (k := 3) (v := 0) a x (by omega) (by omega)
  generalize h5 : jw ν4 4 3 (.int (ki 0)) = ν5 at *
  refine ⟨ν5, (((F1.trans F2).trans F3).trans F4).trans F5, ⟨⟨?_, ?_, ?_, ?_, ?_⟩, fun x x1 x2 => by omega, fun x x1 x2 => by omega⟩, ?_⟩
  · rw [w5, if_neg (by decide), w4, if_pos ⟨rfl, rfl⟩]
  · rw [w5, if_pos ⟨rfl, rfl⟩]
  · rw [w5, if_neg (by decide), w4, if_neg (by decide), w3, if_neg (by decide), w2, if_neg (by decide), w1, if_pos ⟨rfl, rfl⟩]
  · rw [w5, if_neg (by decide), w4, if_neg (by decide), w3, if_neg (by decide), w2, if_pos ⟨rfl, rfl⟩]
  · rw [w5, if_neg (by decide), w4, if_neg (by decide), w3, if_pos ⟨rfl, rfl⟩]
  · clear w1 w2 w3 w4 w5
    simp (disch := omega) only [f_X6_scan, p1, p2, kX.p4 hX, h3, h4, h5, ki_0, ki_1, ki_2, ki_3, ki_4, ki_5, ki_6, ki_7, ki_8, ki_9, ki_10, ki_11, ki_12, ki_13, ki_18, ki_20, ki_24, ki_32, ki_36, ki_45, ki_47, ki_48, ki_50, ki_57, ki_60, ki_63, ki_99, ki_100, ki_101, ki_120, ki_255, ki_468, ki_1000, ki_1024, ki_13849, ki_25173, ki_65535, ki_65536, ki_100000, ki_100001, ki_2147483647, ki_2147483648, kl_0, kl_1, kl_2, kl_9223372036854775808, ki_add, ki_sub, ki_mul, ki_neg, kl_add, kl_sub, kl_mul, kl_neg, ki_i2l, kl_l2i, ki_lt, ki_le, ki_eq, kcmp_eq, kcmp_lt, kcmp_le, kcmp_gt, kcmp_ge, Option.bind_some, Option.map_some, kbool0, kbool1, if_pos, if_neg, if_true, if_false, Int.neg_neg, Int.sub_zero, Int.add_zero, Int.zero_add, true_and, and_true, false_and, and_false, false_or, or_false, true_or, or_true, ne_eq, not_false_eq_true, not_true_eq_false]
    rfl
theorem X12_begins0 {Y : jY} {ω : jM} (hM : kM Y ω) {k : Int} (k1 : 0 ≤ k) (k2 : k ≤ 60) : ∃ ν, f_X12_begins Y 95 (ki k) ω = some (ki 0, ν) ∧ kF 95 96 ω ν ∧ (∀ j, j ≠ 1 → j ≠ 2 → j ≠ 3 → ν 95 j = ω 95 j) ∧ gi ν 95 1 = 0 ∧ gi ν 95 2 = 0 ∧ gi ν 95 3 = k := by
  have F1 : kF 95 96 ω (jw ω 95 2 (.int (ki 0))) := kF_I (kM.i2 hM) (by omega) (by omega)
  have w1 := fun x => gj (μ := ω) (k := 2) (v := 0) x (by omega) (by omega)
  have s1 : ∀ j, j ≠ 2 → jw ω 95 2 (.int (ki 0)) 95 j = ω 95 j := fun j hj => jw_slot hj
  have hM1 := hM.to F1
  generalize h1 : jw ω 95 2 (.int (ki 0)) = ω1 at *
  have F2 : kF 95 96 ω1 (jw ω1 95 3 (.int (ki k))) := kF_I (kM.i3 hM1) (by omega) (by omega)
  have w2 := fun x => gj (μ := ω1) (k := 3) (v := k) x (by omega) (by omega)
  have s2 : ∀ j, j ≠ 3 → jw ω1 95 3 (.int (ki k)) 95 j = ω1 95 j := fun j hj => jw_slot hj
  have hM2 := hM1.to F2
  generalize h2 : jw ω1 95 3 (.int (ki k)) = ω2 at *
  have F3 : kF 95 96 ω2 (jw ω2 95 1 (.int (ki 0))) := kF_I (kM.i1 hM2) (by omega) (by omega)
  have w3 := fun x => gj (μ := ω2) (k := 1) (v := 0) x (by omega) (by omega)
  have s3 : ∀ j, j ≠ 1 → jw ω2 95 1 (.int (ki 0)) 95 j = ω2 95 j := fun j hj => jw_slot hj
  generalize h3 : jw ω2 95 1 (.int (ki 0)) = ω3 at *
  refine ⟨ω3, ?_, (F1.trans F2).trans F3, fun j j1 j2 j3 => by rw [s3 j j1, s2 j j3, s1 j j2], (w3 1).trans rfl, (w3 2).trans ((w2 2).trans ((w1 2).trans rfl)), (w3 3).trans ((w2 3).trans rfl)⟩
  clear w1 w2 w3 s1 s2 s3
  simp (disch := omega) only [f_X12_begins, kM.p hM, h1, h2, h3, ki_0, ki_1, ki_2, ki_3, ki_4, ki_5, ki_6, ki_7, ki_8, ki_9, ki_10, ki_11, ki_12, ki_13, ki_18, ki_20, ki_24, ki_32, ki_36, ki_45, ki_47, ki_48, ki_50, ki_57, ki_60, ki_63, ki_99, ki_100, ki_101, ki_120, ki_255, ki_468, ki_1000, ki_1024, ki_13849, ki_25173, ki_65535, ki_65536, ki_100000, ki_100001, ki_2147483647, ki_2147483648, kl_0, kl_1, kl_2, kl_9223372036854775808, ki_add, ki_sub, ki_mul, ki_neg, kl_add, kl_sub, kl_mul, kl_neg, ki_i2l, kl_l2i, ki_lt, ki_le, ki_eq, kcmp_eq, kcmp_lt, kcmp_le, kcmp_gt, kcmp_ge, Option.bind_some, Option.map_some, kbool0, kbool1, if_pos, if_neg, if_true, if_false, Int.neg_neg, Int.sub_zero, Int.add_zero, Int.zero_add, true_and, and_true, false_and, and_false, false_or, or_false, true_or, or_true, ne_eq, not_false_eq_true, not_true_eq_false]
theorem X12_reads0 {Y : jY} {ω : jM} (hM : kM Y ω) {z : Int} (e2 : gi ω 95 2 = 0) (f g : Int → Int) : ∃ ν, f_X12_reads Y 95 (ki z) ω = (lpT Y jF ν).bind (fun q => lpR Y z jF (ki 0, q.1, q.2)) ∧ frR ω ν ∧ scM ν 0 0 0 f g := by
  have F1 : kF 95 99 ω (jw ω 95 8 (.int (ki 0))) := kF_I (kM.i8 hM) (by omega) (by omega)
  have w1 := fun x => gj (μ := ω) (k := 8) (v := 0) x (by omega) (by omega)
  have s1 : ∀ j, j ≠ 8 → jw ω 95 8 (.int (ki 0)) 95 j = ω 95 j := fun j hj => jw_slot hj
  have d1 : ∀ i, i ≠ 95 → jw ω 95 8 (.int (ki 0)) i = ω i := fun i hi => jw_cell hi
  have hM1 := hM.to F1
  generalize h1 : jw ω 95 8 (.int (ki 0)) = ω1 at *
  have F2 : kF 95 99 ω1 (jw ω1 95 9 (.int (ki 0))) := kF_I (kM.i9 hM1) (by omega) (by omega)
  have w2 := fun x => gj (μ := ω1) (k := 9) (v := 0) x (by omega) (by omega)
  have s2 : ∀ j, j ≠ 9 → jw ω1 95 9 (.int (ki 0)) 95 j = ω1 95 j := fun j hj => jw_slot hj
  have d2 : ∀ i, i ≠ 95 → jw ω1 95 9 (.int (ki 0)) i = ω1 i := fun i hi => jw_cell hi
  generalize h2 : jw ω1 95 9 (.int (ki 0)) = ω2 at *
  refine ⟨ω2, ?_, ⟨F1.trans F2, by rw [d2 96 (by omega), d1 96 (by omega)], fun j _ _ _ j8 j9 => by rw [s2 j j9, s1 j j8]⟩, (w2 2).trans ((w1 2).trans e2), (w2 8).trans ((w1 8).trans rfl), (w2 9).trans rfl, fun x x1 x2 => by omega, fun x x1 x2 => by omega⟩
  clear w1 w2 s1 s2 d1 d2
  simp (disch := omega) only [f_X12_reads, kM.p hM, h1, h2, krcv hM.y, ki_0, ki_1, ki_2, ki_3, ki_4, ki_5, ki_6, ki_7, ki_8, ki_9, ki_10, ki_11, ki_12, ki_13, ki_18, ki_20, ki_24, ki_32, ki_36, ki_45, ki_47, ki_48, ki_50, ki_57, ki_60, ki_63, ki_99, ki_100, ki_101, ki_120, ki_255, ki_468, ki_1000, ki_1024, ki_13849, ki_25173, ki_65535, ki_65536, ki_100000, ki_100001, ki_2147483647, ki_2147483648, kl_0, kl_1, kl_2, kl_9223372036854775808, ki_add, ki_sub, ki_mul, ki_neg, kl_add, kl_sub, kl_mul, kl_neg, ki_i2l, kl_l2i, ki_lt, ki_le, ki_eq, kcmp_eq, kcmp_lt, kcmp_le, kcmp_gt, kcmp_ge, Option.bind_some, Option.map_some, kbool0, kbool1, if_pos, if_neg, if_true, if_false, Int.neg_neg, Int.sub_zero, Int.add_zero, Int.zero_add, true_and, and_true, false_and, and_false, false_or, or_false, true_or, or_true, ne_eq, not_false_eq_true, not_true_eq_false]
  rfl
/-- the rows taken over -/
theorem X9_take2 {Y : jY} {ξ : jM} (hX : kX Y ξ) {c : Int} (e0 : gi ξ 10 0 = c) (c1 : 1 ≤ c) (c4 : c ≤ 4) : jit jF (fun (s : Int32 × jM) => b_X9_take_42 Y 10 4 s.1 s.2) (ki 0, ξ) = some (wr ξ 12 0 (gi ξ 6) (c - 1).toNat) := by
  refine jit_run (fun i => (ki i, wr ξ 12 0 (gi ξ 6) i)) _ (c - 1).toNat rfl (by omega) (fun i hi => ?_) ?_
  · have k3 : kF 10 13 ξ (wr ξ 12 0 (gi ξ 6) i) := wr_kF (by omega) (by omega) i (fun j hj => hX.n10.ac.2.2.2 _ (by omega))
    have v0 : gi (wr ξ 12 0 (gi ξ 6) i) 10 0 = c := by rw [wr_other (by omega)]; exact e0
    simp only [wr]
    generalize wr ξ 12 0 (gi ξ 6) i = ν at *
    have hXν := hX.to k3
    have g0 := kN.gr hXν.n10
    rw [v0] at g0
    have e1 := kaI hXν.a6 (x := (i : Int)) (by omega) (by omega)
    rw [k3.gi (by omega)] at e1
    have gc : jgO Y ν 10 9 2 = some 12 := kN.gc hXν.n10
    have e2 : ∀ v, jas Y ν 12 20 (ki (i : Int)) v = some (jw ν 12 (i : Int).toNat v) := fun v => kasI (v := v) hXν.n10.ac (x := (i : Int)) (by omega) (by omega)
    simp (disch := omega) only [b_X9_take_42, g0, gc, kX.o4_1 hXν, e1, e2, ki_0, ki_1, ki_2, ki_3, ki_4, ki_5, ki_6, ki_7, ki_8, ki_9, ki_10, ki_11, ki_12, ki_13, ki_18, ki_20, ki_24, ki_32, ki_36, ki_45, ki_47, ki_48, ki_50, ki_57, ki_60, ki_63, ki_99, ki_100, ki_101, ki_120, ki_255, ki_468, ki_1000, ki_1024, ki_13849, ki_25173, ki_65535, ki_65536, ki_100000, ki_100001, ki_2147483647, ki_2147483648, kl_0, kl_1, kl_2, kl_9223372036854775808, ki_add, ki_sub, ki_mul, ki_neg, kl_add, kl_sub, kl_mul, kl_neg, ki_i2l, kl_l2i, ki_lt, ki_le, ki_eq, kcmp_eq, kcmp_lt, kcmp_le, kcmp_gt, kcmp_ge, Option.bind_some, Option.map_some, kbool0, kbool1, if_pos, if_neg, if_true, if_false, Int.neg_neg, Int.sub_zero, Int.add_zero, Int.zero_add, true_and, and_true, false_and, and_false, false_or, or_false, true_or, or_true, ne_eq, not_false_eq_true, not_true_eq_false, Int.natCast_add, Int.natCast_one, Int.toNat_natCast, Nat.zero_add]
  · have v0 : gi (wr ξ 12 0 (gi ξ 6) (c - 1).toNat) 10 0 = c := by rw [wr_other (by omega)]; exact e0
    have k3 : kF 10 13 ξ (wr ξ 12 0 (gi ξ 6) (c - 1).toNat) := wr_kF (by omega) (by omega) _ (fun j hj => hX.n10.ac.2.2.2 _ (by omega))
    generalize wr ξ 12 0 (gi ξ 6) (c - 1).toNat = ν at *
    have g0 := kN.gr (hX.to k3).n10
    rw [v0] at g0
    simp (disch := omega) only [b_X9_take_42, g0, ki_0, ki_1, ki_2, ki_3, ki_4, ki_5, ki_6, ki_7, ki_8, ki_9, ki_10, ki_11, ki_12, ki_13, ki_18, ki_20, ki_24, ki_32, ki_36, ki_45, ki_47, ki_48, ki_50, ki_57, ki_60, ki_63, ki_99, ki_100, ki_101, ki_120, ki_255, ki_468, ki_1000, ki_1024, ki_13849, ki_25173, ki_65535, ki_65536, ki_100000, ki_100001, ki_2147483647, ki_2147483648, kl_0, kl_1, kl_2, kl_9223372036854775808, ki_add, ki_sub, ki_mul, ki_neg, kl_add, kl_sub, kl_mul, kl_neg, ki_i2l, kl_l2i, ki_lt, ki_le, ki_eq, kcmp_eq, kcmp_lt, kcmp_le, kcmp_gt, kcmp_ge, Option.bind_some, Option.map_some, kbool0, kbool1, if_pos, if_neg, if_true, if_false, Int.neg_neg, Int.sub_zero, Int.add_zero, Int.zero_add, true_and, and_true, false_and, and_false, false_or, or_false, true_or, or_true, ne_eq, not_false_eq_true, not_true_eq_false]
noncomputable def tkN (ν : jM) (c : Int) : jM := wr (wr (jw ν 10 0 (.int (ki c))) 11 0 (gi ν 5) c.toNat) 12 0 (gi ν 6) (c - 1).toNat
theorem X9_take1 {Y : jY} {ν : jM} (hX : kX Y ν) {c : Int} (e0 : gi ν 10 0 = c) (c1 : 1 ≤ c) (c4 : c ≤ 4) : jit jF (fun (s : Int32 × jM) => b_X9_take_14 Y 10 4 s.1 s.2) (ki 0, ν) = some (wr (wr ν 11 0 (gi ν 5) c.toNat) 12 0 (gi ν 6) (c - 1).toNat) := by
  refine jit_run (fun i => (ki i, wr ν 11 0 (gi ν 5) i)) _ c.toNat rfl (by omega) (fun i hi => ?_) ?_
  · have k3 : kF 10 13 ν (wr ν 11 0 (gi ν 5) i) := wr_kF (by omega) (by omega) i (fun j hj => hX.n10.aa.2.2.2 _ (by omega))
    have v0 : gi (wr ν 11 0 (gi ν 5) i) 10 0 = c := by rw [wr_other (by omega)]; exact e0
    simp only [wr]
    generalize wr ν 11 0 (gi ν 5) i = ξ at *
    have hXξ := hX.to k3
    have g0 := kN.gr hXξ.n10
    rw [v0] at g0
    have e1 := kaI hXξ.a5 (x := (i : Int)) (by omega) (by omega)
    rw [k3.gi (by omega)] at e1
    have ga : jgO Y ξ 10 9 1 = some 11 := kN.ga hXξ.n10
    have e2 : ∀ v, jas Y ξ 11 20 (ki (i : Int)) v = some (jw ξ 11 (i : Int).toNat v) := fun v => kasI (v := v) hXξ.n10.aa (x := (i : Int)) (by omega) (by omega)
    simp (disch := omega) only [b_X9_take_14, g0, ga, kX.o4_0 hXξ, e1, e2, ki_0, ki_1, ki_2, ki_3, ki_4, ki_5, ki_6, ki_7, ki_8, ki_9, ki_10, ki_11, ki_12, ki_13, ki_18, ki_20, ki_24, ki_32, ki_36, ki_45, ki_47, ki_48, ki_50, ki_57, ki_60, ki_63, ki_99, ki_100, ki_101, ki_120, ki_255, ki_468, ki_1000, ki_1024, ki_13849, ki_25173, ki_65535, ki_65536, ki_100000, ki_100001, ki_2147483647, ki_2147483648, kl_0, kl_1, kl_2, kl_9223372036854775808, ki_add, ki_sub, ki_mul, ki_neg, kl_add, kl_sub, kl_mul, kl_neg, ki_i2l, kl_l2i, ki_lt, ki_le, ki_eq, kcmp_eq, kcmp_lt, kcmp_le, kcmp_gt, kcmp_ge, Option.bind_some, Option.map_some, kbool0, kbool1, if_pos, if_neg, if_true, if_false, Int.neg_neg, Int.sub_zero, Int.add_zero, Int.zero_add, true_and, and_true, false_and, and_false, false_or, or_false, true_or, or_true, ne_eq, not_false_eq_true, not_true_eq_false, Int.natCast_add, Int.natCast_one, Int.toNat_natCast, Nat.zero_add]
  · have k3 : kF 10 13 ν (wr ν 11 0 (gi ν 5) c.toNat) := wr_kF (by omega) (by omega) _ (fun j hj => hX.n10.aa.2.2.2 _ (by omega))
    have v0 : gi (wr ν 11 0 (gi ν 5) c.toNat) 10 0 = c := by rw [wr_other (by omega)]; exact e0
    have v6 : gi (wr ν 11 0 (gi ν 5) c.toNat) 6 = gi ν 6 := funext (fun x => wr_other (by omega) _ x)
    generalize wr ν 11 0 (gi ν 5) c.toNat = ξ at *
    have hXξ := hX.to k3
    have T := X9_take2 hXξ v0 c1 c4
    rw [v6] at T
    have g0 := kN.gr hXξ.n10
    rw [v0] at g0
    have e : b_X9_take_14 Y 10 4 (ki ((c.toNat : Nat) : Int)) ξ = (jit jF (fun (s : Int32 × jM) => b_X9_take_42 Y 10 4 s.1 s.2) (ki 0, ξ)).map (fun r => (Sum.inr r : (Int32 × jM) ⊕ jM)) := by
      simp (disch := omega) only [b_X9_take_14, g0, ki_0, ki_1, ki_2, ki_3, ki_4, ki_5, ki_6, ki_7, ki_8, ki_9, ki_10, ki_11, ki_12, ki_13, ki_18, ki_20, ki_24, ki_32, ki_36, ki_45, ki_47, ki_48, ki_50, ki_57, ki_60, ki_63, ki_99, ki_100, ki_101, ki_120, ki_255, ki_468, ki_1000, ki_1024, ki_13849, ki_25173, ki_65535, ki_65536, ki_100000, ki_100001, ki_2147483647, ki_2147483648, kl_0, kl_1, kl_2, kl_9223372036854775808, ki_add, ki_sub, ki_mul, ki_neg, kl_add, kl_sub, kl_mul, kl_neg, ki_i2l, kl_l2i, ki_lt, ki_le, ki_eq, kcmp_eq, kcmp_lt, kcmp_le, kcmp_gt, kcmp_ge, Option.bind_some, Option.map_some, kbool0, kbool1, if_pos, if_neg, if_true, if_false, Int.neg_neg, Int.sub_zero, Int.add_zero, Int.zero_add, true_and, and_true, false_and, and_false, false_or, or_false, true_or, or_true, ne_eq, not_false_eq_true, not_true_eq_false]
    simp only [e, T]
    rfl
theorem X9_take {Y : jY} {ν : jM} (hX : kX Y ν) {c : Int} (e0 : gi ν 4 2 = c) (c1 : 1 ≤ c) (c4 : c ≤ 4) : f_X9_take Y 10 4 ν = some (tkN ν c) ∧ kF 10 13 ν (tkN ν c) ∧ gi (tkN ν c) 10 0 = c ∧ (∀ x : Int, 0 ≤ x → x < c → gi (tkN ν c) 11 x = gi ν 5 x) ∧ ∀ x : Int, 0 ≤ x → x < c - 1 → gi (tkN ν c) 12 x = gi ν 6 x := by
  have F1 : kF 10 13 ν (jw ν 10 0 (.int (ki c))) := kF_I hX.n10.ir (by omega) (by omega)
  have g2 := kX.g4_2 hX
  rw [e0] at g2
  unfold tkN
  have w0 : gi (jw ν 10 0 (.int (ki c))) 10 0 = c := by rw [gi_jw _ _ (by omega) (by omega), if_pos ⟨rfl, rfl⟩]
  have w5 : gi (jw ν 10 0 (.int (ki c))) 5 = gi ν 5 := funext (fun x => gi_cell (jw_cell (by omega)) x)
  have w6 : gi (jw ν 10 0 (.int (ki c))) 6 = gi ν 6 := funext (fun x => gi_cell (jw_cell (by omega)) x)
  have hX1 := hX.to F1
  have pr := kN.pr hX.n10 (μ2 := ν) (.int (ki c))
  generalize jw ν 10 0 (.int (ki c)) = ν1 at *
  have T := X9_take1 hX1 w0 c1 c4
  rw [w5, w6] at T
  have k2 : kF 10 13 ν1 (wr ν1 11 0 (gi ν 5) c.toNat) := wr_kF (by omega) (by omega) _ (fun j hj => hX1.n10.aa.2.2.2 _ (by omega))
  have k3 : kF 10 13 (wr ν1 11 0 (gi ν 5) c.toNat) (wr (wr ν1 11 0 (gi ν 5) c.toNat) 12 0 (gi ν 6) (c - 1).toNat) := wr_kF (by omega) (by omega) _ (fun j hj => (hX1.to k2).n10.ac.2.2.2 _ (by omega))
  refine ⟨?_, (F1.trans k2).trans k3, ?_, fun x x1 x2 => ?_, fun x x1 x2 => ?_⟩
  · clear w0
    simp (disch := omega) only [f_X9_take, g2, kmin, pr, ki_0, ki_1, ki_2, ki_3, ki_4, ki_5, ki_6, ki_7, ki_8, ki_9, ki_10, ki_11, ki_12, ki_13, ki_18, ki_20, ki_24, ki_32, ki_36, ki_45, ki_47, ki_48, ki_50, ki_57, ki_60, ki_63, ki_99, ki_100, ki_101, ki_120, ki_255, ki_468, ki_1000, ki_1024, ki_13849, ki_25173, ki_65535, ki_65536, ki_100000, ki_100001, ki_2147483647, ki_2147483648, kl_0, kl_1, kl_2, kl_9223372036854775808, ki_add, ki_sub, ki_mul, ki_neg, kl_add, kl_sub, kl_mul, kl_neg, ki_i2l, kl_l2i, ki_lt, ki_le, ki_eq, kcmp_eq, kcmp_lt, kcmp_le, kcmp_gt, kcmp_ge, Option.bind_some, Option.map_some, kbool0, kbool1, if_pos, if_neg, if_true, if_false, Int.neg_neg, Int.sub_zero, Int.add_zero, Int.zero_add, true_and, and_true, false_and, and_false, false_or, or_false, true_or, or_true, ne_eq, not_false_eq_true, not_true_eq_false]
    exact T
  · rw [wr_other (by omega), wr_other (by omega)]
    exact w0
  · rw [wr_other (by omega), wr_gi _ (fun j _ => ⟨gi_lo _ _ _, gi_hi _ _ _⟩) x x1, if_pos (by omega), Int.natCast_zero, Int.sub_zero]
  · rw [wr_gi _ (fun j _ => ⟨gi_lo _ _ _, gi_hi _ _ _⟩) x x1, if_pos (by omega), Int.natCast_zero, Int.sub_zero]
theorem X12_tk2 {Y : jY} {ξ : jM} (hM : kM Y ξ) {c : Int} (e0 : gi ξ 95 10 = c) (c1 : 1 ≤ c) (c4 : c ≤ 4) : jit jF (fun (s : Int32 × jM) => b_X12_tones_76 Y 95 s.1 s.2) (ki 0, ξ) = some (ki c, wr ξ 100 0 (gi ξ 98) (c - 1).toNat) := by
  refine jit_run (fun i => (ki i, wr ξ 100 0 (gi ξ 98) i)) _ (c - 1).toNat rfl (by omega) (fun i hi => ?_) ?_
  · have k3 : kF 99 101 ξ (wr ξ 100 0 (gi ξ 98) i) := wr_kF (by omega) (by omega) i (fun j hj => (kM.a100 hM).2.2.2 _ (by omega))
    simp only [wr]
    generalize wr ξ 100 0 (gi ξ 98) i = ν at *
    have hMν := hM.to k3
    have g0 := kM.g10 hMν
    rw [k3.gi (by omega), e0] at g0
    have e1 := kaI (kM.a98 hMν) (x := (i : Int)) (by omega) (by omega)
    rw [k3.gi (by omega)] at e1
    have e2 := fun v => kasI (v := v) (kM.a100 hMν) (x := (i : Int)) (by omega) (by omega)
    simp (disch := omega) only [b_X12_tones_76, g0, kM.o12 hMν, kM.o7 hMν, e1, e2, ki_0, ki_1, ki_2, ki_3, ki_4, ki_5, ki_6, ki_7, ki_8, ki_9, ki_10, ki_11, ki_12, ki_13, ki_18, ki_20, ki_24, ki_32, ki_36, ki_45, ki_47, ki_48, ki_50, ki_57, ki_60, ki_63, ki_99, ki_100, ki_101, ki_120, ki_255, ki_468, ki_1000, ki_1024, ki_13849, ki_25173, ki_65535, ki_65536, ki_100000, ki_100001, ki_2147483647, ki_2147483648, kl_0, kl_1, kl_2, kl_9223372036854775808, ki_add, ki_sub, ki_mul, ki_neg, kl_add, kl_sub, kl_mul, kl_neg, ki_i2l, kl_l2i, ki_lt, ki_le, ki_eq, kcmp_eq, kcmp_lt, kcmp_le, kcmp_gt, kcmp_ge, Option.bind_some, Option.map_some, kbool0, kbool1, if_pos, if_neg, if_true, if_false, Int.neg_neg, Int.sub_zero, Int.add_zero, Int.zero_add, true_and, and_true, false_and, and_false, false_or, or_false, true_or, or_true, ne_eq, not_false_eq_true, not_true_eq_false, Int.natCast_add, Int.natCast_one, Int.toNat_natCast, Nat.zero_add]
  · have k3 : kF 99 101 ξ (wr ξ 100 0 (gi ξ 98) (c - 1).toNat) := wr_kF (by omega) (by omega) _ (fun j hj => (kM.a100 hM).2.2.2 _ (by omega))
    generalize wr ξ 100 0 (gi ξ 98) (c - 1).toNat = ν at *
    have g0 := kM.g10 (hM.to k3)
    rw [k3.gi (by omega), e0] at g0
    simp (disch := omega) only [b_X12_tones_76, g0, ki_0, ki_1, ki_2, ki_3, ki_4, ki_5, ki_6, ki_7, ki_8, ki_9, ki_10, ki_11, ki_12, ki_13, ki_18, ki_20, ki_24, ki_32, ki_36, ki_45, ki_47, ki_48, ki_50, ki_57, ki_60, ki_63, ki_99, ki_100, ki_101, ki_120, ki_255, ki_468, ki_1000, ki_1024, ki_13849, ki_25173, ki_65535, ki_65536, ki_100000, ki_100001, ki_2147483647, ki_2147483648, kl_0, kl_1, kl_2, kl_9223372036854775808, ki_add, ki_sub, ki_mul, ki_neg, kl_add, kl_sub, kl_mul, kl_neg, ki_i2l, kl_l2i, ki_lt, ki_le, ki_eq, kcmp_eq, kcmp_lt, kcmp_le, kcmp_gt, kcmp_ge, Option.bind_some, Option.map_some, kbool0, kbool1, if_pos, if_neg, if_true, if_false, Int.neg_neg, Int.sub_zero, Int.add_zero, Int.zero_add, true_and, and_true, false_and, and_false, false_or, or_false, true_or, or_true, ne_eq, not_false_eq_true, not_true_eq_false]
theorem X12_tk1 {Y : jY} {ν : jM} (hM : kM Y ν) {c : Int} (e0 : gi ν 95 10 = c) (c1 : 1 ≤ c) (c4 : c ≤ 4) : jit jF (fun (s : Int32 × jM) => b_X12_tones_48 Y 95 s.1 s.2) (ki 0, ν) = some (ki c, wr (wr ν 99 0 (gi ν 97) c.toNat) 100 0 (gi ν 98) (c - 1).toNat) := by
  refine jit_run (fun i => (ki i, wr ν 99 0 (gi ν 97) i)) _ c.toNat rfl (by omega) (fun i hi => ?_) ?_
  · have k3 : kF 99 101 ν (wr ν 99 0 (gi ν 97) i) := wr_kF (by omega) (by omega) i (fun j hj => (kM.a99 hM).2.2.2 _ (by omega))
    simp only [wr]
    generalize wr ν 99 0 (gi ν 97) i = ξ at *
    have hMξ := hM.to k3
    have g0 := kM.g10 hMξ
    rw [k3.gi (by omega), e0] at g0
    have e1 := kaI (kM.a97 hMξ) (x := (i : Int)) (by omega) (by omega)
    rw [k3.gi (by omega)] at e1
    have e2 := fun v => kasI (v := v) (kM.a99 hMξ) (x := (i : Int)) (by omega) (by omega)
    simp (disch := omega) only [b_X12_tones_48, g0, kM.o11 hMξ, kM.o6 hMξ, e1, e2, ki_0, ki_1, ki_2, ki_3, ki_4, ki_5, ki_6, ki_7, ki_8, ki_9, ki_10, ki_11, ki_12, ki_13, ki_18, ki_20, ki_24, ki_32, ki_36, ki_45, ki_47, ki_48, ki_50, ki_57, ki_60, ki_63, ki_99, ki_100, ki_101, ki_120, ki_255, ki_468, ki_1000, ki_1024, ki_13849, ki_25173, ki_65535, ki_65536, ki_100000, ki_100001, ki_2147483647, ki_2147483648, kl_0, kl_1, kl_2, kl_9223372036854775808, ki_add, ki_sub, ki_mul, ki_neg, kl_add, kl_sub, kl_mul, kl_neg, ki_i2l, kl_l2i, ki_lt, ki_le, ki_eq, kcmp_eq, kcmp_lt, kcmp_le, kcmp_gt, kcmp_ge, Option.bind_some, Option.map_some, kbool0, kbool1, if_pos, if_neg, if_true, if_false, Int.neg_neg, Int.sub_zero, Int.add_zero, Int.zero_add, true_and, and_true, false_and, and_false, false_or, or_false, true_or, or_true, ne_eq, not_false_eq_true, not_true_eq_false, Int.natCast_add, Int.natCast_one, Int.toNat_natCast, Nat.zero_add]
  · have k3 : kF 99 101 ν (wr ν 99 0 (gi ν 97) c.toNat) := wr_kF (by omega) (by omega) _ (fun j hj => (kM.a99 hM).2.2.2 _ (by omega))
    have v98 : gi (wr ν 99 0 (gi ν 97) c.toNat) 98 = gi ν 98 := funext (fun x => wr_other (by omega) _ x)
    generalize wr ν 99 0 (gi ν 97) c.toNat = ξ at *
    have hMξ := hM.to k3
    have T := X12_tk2 hMξ (by rw [k3.gi (by omega)]; exact e0) c1 c4
    rw [v98] at T
    have g0 := kM.g10 hMξ
    rw [k3.gi (by omega), e0] at g0
    have e : b_X12_tones_48 Y 95 (ki ((c.toNat : Nat) : Int)) ξ = (jit jF (fun (s : Int32 × jM) => b_X12_tones_76 Y 95 s.1 s.2) (ki 0, ξ)).map (fun r => (Sum.inr r : (Int32 × jM) ⊕ (Int32 × jM))) := by
      simp (disch := omega) only [b_X12_tones_48, g0, ki_0, ki_1, ki_2, ki_3, ki_4, ki_5, ki_6, ki_7, ki_8, ki_9, ki_10, ki_11, ki_12, ki_13, ki_18, ki_20, ki_24, ki_32, ki_36, ki_45, ki_47, ki_48, ki_50, ki_57, ki_60, ki_63, ki_99, ki_100, ki_101, ki_120, ki_255, ki_468, ki_1000, ki_1024, ki_13849, ki_25173, ki_65535, ki_65536, ki_100000, ki_100001, ki_2147483647, ki_2147483648, kl_0, kl_1, kl_2, kl_9223372036854775808, ki_add, ki_sub, ki_mul, ki_neg, kl_add, kl_sub, kl_mul, kl_neg, ki_i2l, kl_l2i, ki_lt, ki_le, ki_eq, kcmp_eq, kcmp_lt, kcmp_le, kcmp_gt, kcmp_ge, Option.bind_some, Option.map_some, kbool0, kbool1, if_pos, if_neg, if_true, if_false, Int.neg_neg, Int.sub_zero, Int.add_zero, Int.zero_add, true_and, and_true, false_and, and_false, false_or, or_false, true_or, or_true, ne_eq, not_false_eq_true, not_true_eq_false]
    simp only [e, T]
    rfl
/-- the reference's tones, behind the scan -/
theorem X12_tk {Y : jY} {ω : jM} (hM : kM Y ω) {c : Int} (c1 : 1 ≤ c) (c4 : c ≤ 4) : ∃ η, jit jF (fun (s : Int32 × jM) => b_X12_tones_48 Y 95 s.1 s.2) (ki 0, jw ω 95 10 (.int (ki c))) = some (ki c, η) ∧ kF 95 101 ω η ∧ (∀ j, j ≠ 10 → η 95 j = ω 95 j) ∧ η 96 = ω 96 ∧ gi η 95 10 = c ∧ (∀ x : Int, 0 ≤ x → x < c → gi η 99 x = gi ω 97 x) ∧ ∀ x : Int, 0 ≤ x → x < c - 1 → gi η 100 x = gi ω 98 x := by
  have F1 : kF 95 101 ω (jw ω 95 10 (.int (ki c))) := kF_I (kM.i10 hM) (by omega) (by omega)
  have w0 : gi (jw ω 95 10 (.int (ki c))) 95 10 = c := (gj (μ := ω) (k := 10) (v := c) 10 (by omega) (by omega)).trans rfl
  have s1 : ∀ j, j ≠ 10 → jw ω 95 10 (.int (ki c)) 95 j = ω 95 j := fun j hj => jw_slot hj
  have d1 : ∀ i, i ≠ 95 → jw ω 95 10 (.int (ki c)) i = ω i := fun i hi => jw_cell hi
  have hM1 := hM.to F1
  generalize jw ω 95 10 (.int (ki c)) = ω1 at *
  have T := X12_tk1 hM1 w0 c1 c4
  have k2 : kF 95 101 ω1 (wr ω1 99 0 (gi ω1 97) c.toNat) := wr_kF (by omega) (by omega) _ (fun j hj => (kM.a99 hM1).2.2.2 _ (by omega))
  have k3 : kF 95 101 (wr ω1 99 0 (gi ω1 97) c.toNat) (wr (wr ω1 99 0 (gi ω1 97) c.toNat) 100 0 (gi ω1 98) (c - 1).toNat) := wr_kF (by omega) (by omega) _ (fun j hj => (kM.a100 (hM1.to k2)).2.2.2 _ (by omega))
  refine ⟨_, T, (F1.trans k2).trans k3, fun j hj => ?_, ?_, ?_, fun x x1 x2 => ?_, fun x x1 x2 => ?_⟩
  · rw [wr_cell (by omega), wr_cell (by omega)]
    exact s1 j hj
  · rw [wr_cell (by omega), wr_cell (by omega)]
    exact d1 96 (by omega)
  · rw [wr_other (by omega), wr_other (by omega)]
    exact w0
  · rw [wr_other (by omega), wr_gi _ (fun j _ => ⟨gi_lo _ _ _, gi_hi _ _ _⟩) x x1, if_pos (by omega), Int.natCast_zero, Int.sub_zero]
    exact gi_cell (d1 97 (by omega)) x
  · rw [wr_gi _ (fun j _ => ⟨gi_lo _ _ _, gi_hi _ _ _⟩) x x1, if_pos (by omega), Int.natCast_zero, Int.sub_zero]
    exact gi_cell (d1 98 (by omega)) x
/-- tones and tape, in both -/
theorem Inv.updPN {L : Nat} {xs : Nat → Int32} {n : Nat} {Y : jY} {μ μ' : jM} (h : Inv L xs n Y μ) (k : kF 0 123 μ μ') (hc : ∀ i, pers i → i ≠ 2 → i ≠ 3 → i ≠ 96 → i ≠ 10 → i ≠ 11 → i ≠ 12 → i ≠ 99 → i ≠ 100 → μ' i = μ i) (h25 : μ' 95 25 = μ 95 25) (hp : relP μ') (hq : relQ μ') : Inv L xs n Y μ' := by
  obtain ⟨⟨a1, a2⟩, a3, a4, ⟨s, s1, s2, s3, s4⟩, a5, a6, a7, a8, a9, a10⟩ := h
  have hc2 : ∀ i, pers i → (i < 2 ∨ (3 < i ∧ i < 10) ∨ 12 < i) → i ≠ 96 → i ≠ 99 → i ≠ 100 → μ' i = μ i := fun i p q1 q2 q3 q4 => hc i p (by omega) (by omega) q2 (by omega) (by omega) (by omega) q3 q4
  have e1 : gi μ' 1 5 = gi μ 1 5 := gi_cell (hc2 1 (Or.inl (by omega)) (by omega) (by omega) (by omega) (by omega)) 5
  have e2 : gi μ' 95 25 = gi μ 95 25 := gi_slot (k := 25) h25
  refine ⟨⟨a1, fun j hj => by rw [hc2 0 (Or.inl (by omega)) (by omega) (by omega) (by omega) (by omega)]; exact a2 j hj⟩, a3.to k, a4.to k, ⟨s, s1, s2, by rw [e1]; exact s3, s4.to k⟩, hp, ?_, by rw [e1, e2]; exact a7, by rw [e1]; exact a8, by rw [e1]; exact a9, fun j hj => ?_⟩
  · obtain ⟨b1, b2, b3, b4, b5, b6⟩ := a6
    obtain ⟨q1, q2, q3, q4, q5⟩ := hq
    refine ⟨q1, q2, q3, q4, q5, fun d hd => ?_⟩
    have f108 : gi μ' 108 = gi μ 108 := funext (gi_cell (hc2 108 (by unfold pers; omega) (by omega) (by omega) (by omega) (by omega)))
    have f109 : gi μ' 109 = gi μ 109 := funext (gi_cell (hc2 109 (by unfold pers; omega) (by omega) (by omega) (by omega) (by omega)))
    have f110 : gi μ' 110 = gi μ 110 := funext (gi_cell (hc2 110 (by unfold pers; omega) (by omega) (by omega) (by omega) (by omega)))
    rw [f108, f109, f110]
    exact (b6 d hd).to (hc2 _ (by unfold pers; omega) (by omega) (by omega) (by omega) (by omega)) (hc2 _ (by unfold pers; omega) (by omega) (by omega) (by omega) (by omega)) (hc2 _ (by unfold pers; omega) (by omega) (by omega) (by omega) (by omega))
  · rw [e1] at hj
    exact (a10 j hj).to (fun i p => hc2 i (by unfold pers; omega) (by omega) (by omega) (by omega) (by omega)) (fun i p q => hc2 i (by unfold pers; omega) (by omega) (by omega) (by omega) (by omega))
/-- the scan in both: what the class makes, and then the reference -/
theorem Inv.scan {L : Nat} {xs : Nat → Int32} {n : Nat} {Y : jY} {μ : jM} (h : Inv L xs n Y μ) {k z : Int} (hz : z = 0 ∨ z = 1) (k1 : 1 ≤ k) (k6 : k ≤ 60) (kl : k ≤ gi μ 2 1) : ∃ (r c d : Int) (f g : Int → Int) (ν : jM), f_X6_scan Y 4 2 (ki k) (ki z) μ = some (ki r, ν) ∧ kF 4 7 μ ν ∧ (r = 0 ∨ (-6000 ≤ r ∧ r ≤ -1000)) ∧ (r = 0 → scE ν z c d f g) ∧ ∀ ξ : jM, kM Y ξ → ξ 96 = μ 96 → ∃ ω, (f_X12_begins Y 95 (ki k) ξ).bind (fun q => f_X12_reads Y 95 (ki z) q.2) = some (ki r, ω) ∧ kF 95 99 ξ ω ∧ ω 96 = ξ 96 ∧ (∀ j, j = 10 ∨ j = 25 → ω 95 j = ξ 95 j) ∧ gi ω 95 1 = 0 ∧ (r = 0 → scG ω c d f g) := by
  have hX := h.x
  obtain ⟨t1, t2, t3, t4⟩ := h.p
  have tX : txX μ (gi μ 2 1) (fun x => gi μ 96 x % 256) := ⟨rfl, t3, fun x => by show 0 ≤ gi μ 96 x % 256 ∧ gi μ 96 x % 256 ≤ 255; omega, fun x a b => (t4 x a b).1⟩
  obtain ⟨ν0, i1, i2, i3⟩ := X6_scan0 hX (L := k) hz (fun _ => 0) (fun _ => 0)
  have w : scW z 0 0 0 (fun _ => 0) (fun _ => 0) := ⟨⟨hz, Or.inl rfl, by omega, by omega, by omega, fun _ => rfl, fun e => by omega⟩, fun x a b => by omega, fun x a b => by omega⟩
  have nw : neW (fun x => gi μ 96 x % 256) k 0 (-1) := ⟨by omega, ⟨fun e => by omega, fun e => by omega⟩, fun e => by omega⟩
  obtain ⟨r, c, d, f, g, ν, j1, j2, j3, j4, j5⟩ := scan_both hX tX (L := k) (by omega) k6 kl 60 (Nat.le_refl 60) 0 0 0 0 0 (-1) (fun _ => 0) (fun _ => 0) ν0 jF (by omega) (by omega) (by omega) (by omega) (by omega) (by show 60 < 1000000; omega) w nw i1 i2
  refine ⟨r, c, d, f, g, ν, i3.trans j1, j2, j3, j4, fun ξ hM hc => ?_⟩
  obtain ⟨ω0, b1, b2, b3, b4, b5, b6⟩ := X12_begins0 hM (k := k) (by omega) k6
  obtain ⟨ω1, d1, d2, d3⟩ := X12_reads0 (hM.to b2) (z := z) b5 (fun _ => 0) (fun _ => 0)
  have rd0 : rdy Y (fun x => gi μ 96 x % 256) k ω0 := ⟨hM.to b2, b6, by omega, fun x => by show 0 ≤ gi μ 96 x % 256 ∧ gi μ 96 x % 256 ≤ 255; omega, fun x a b => by rw [b2.gi (by omega), gi_cell hc]⟩
  obtain ⟨ω, y1, y2, y3⟩ := j5 ω1 jF jF (by show 60 < 1000000; omega) (by show 60 < 1000000; omega) (rd0.to d2) d3
  have fr := d2.trans y2
  refine ⟨ω, ?_, (b2.mono (by omega) (by omega)).trans fr.1, by rw [fr.2.1, b2.1 96 (by omega)], fun j hj => by rw [fr.2.2 j (by omega) (by omega) (by omega) (by omega) (by omega), b3 j (by omega) (by omega) (by omega)], (gi_slot (k := 1) (fr.2.2 1 (by omega) (by omega) (by omega) (by omega) (by omega))).trans b4, y3⟩
  rw [b1, Option.bind_some]
  exact d1.trans y1
