/-! OPS: all -/
theorem Inv.num2 {L : Nat} {xs : Nat → Int32} {n : Nat} {Y : jY} {μ : jM} (h : Inv L xs n Y μ) (hN : gi μ 95 10 ≠ 0) {K : Nat → (Int → Int) → (Int → Int) → (Int → Int) → Bool} (hP : allQ (fun n l m => withN n l m (K n))) : ∃ (N : Nat) (U W f l m : Int → Int), 1 ≤ N ∧ N ≤ 4 ∧ gi μ 95 10 = (N : Int) ∧ K N U W f = true ∧ (U = l5 (tp l N) ∧ W = l5 (tp m (N - 1)) ∧ (∀ x : Int, 0 ≤ x → x < gi μ 95 10 → gi μ 99 x = l x) ∧ ∀ x : Int, 0 ≤ x → x < gi μ 95 10 - 1 → gi μ 100 x = m x) ∧ (∃ ν, f_X7_rebuild Y 27 10 μ = some ν ∧ kF 27 31 μ ν ∧ gi ν 27 0 = (N : Int) ∧ rowK ν 28 ((N : Int) + 1) U ∧ rowK ν 29 (N : Int) W ∧ rowK ν 30 8 f) ∧ ∀ ν : jM, (∀ i, 95 ≤ i → i < 123 → ν i = μ i) → kM Y ν → ∃ ω, f_X12_laysTones Y 95 ν = some ω ∧ kF 101 104 ν ω ∧ rowK ω 101 ((N : Int) + 1) U ∧ rowK ω 102 (N : Int) W ∧ rowK ω 103 8 f := by
  obtain ⟨q1, q2, q3, q4, q5⟩ := h.q
  obtain ⟨l, m, hl, hm, P⟩ := h.all hN hP
  simp only [withN, f8_eq] at P
  exact ⟨(gi μ 95 10).toNat, _, _, _, l, m, by omega, by omega, (toNat_cast q2).symm, P, ⟨rfl, rfl, hl, hm⟩, h.rows hN hl hm rfl rfl rfl rfl⟩
/-- the numbers of the tones in the coefficients -/
def lnk (N : Nat) (U W : Int → Int) (μ : jM) : Prop := (N = 1 → gi μ 99 0 = -(U 0) ∧ W 0 = 1) ∧ (N = 2 → W 0 = -(gi μ 100 0) ∧ W 1 = 1) ∧ (N = 3 → W 0 = gi μ 100 0 * gi μ 100 1 ∧ W 1 = -(gi μ 100 0 + gi μ 100 1) ∧ W 2 = 1)
theorem tp_1 (l : Int → Int) : tp l 1 0 = -(l 0) ∧ tp l 1 1 = 1 := by
  constructor
  · show 0 - l 0 * 1 = -(l 0)
    omega
  · show 1 - l 0 * 0 = 1
    omega
theorem tp_2 (l : Int → Int) : tp l 2 0 = l 0 * l 1 ∧ tp l 2 1 = -(l 0 + l 1) ∧ tp l 2 2 = 1 := by
  refine ⟨?_, ?_, ?_⟩
  · show 0 - l 1 * tp l 1 0 = l 0 * l 1
    rw [(tp_1 l).1]
    grind
  · show tp l 1 0 - l 1 * tp l 1 1 = -(l 0 + l 1)
    rw [(tp_1 l).1, (tp_1 l).2]
    omega
  · show tp l 1 1 - l 1 * (0 - l 0 * 0) = 1
    rw [(tp_1 l).2]
    omega
theorem lnk_is {N : Nat} {U W l m : Int → Int} {μ : jM} (eN : gi μ 95 10 = (N : Int)) (h : U = l5 (tp l N) ∧ W = l5 (tp m (N - 1)) ∧ (∀ x : Int, 0 ≤ x → x < gi μ 95 10 → gi μ 99 x = l x) ∧ ∀ x : Int, 0 ≤ x → x < gi μ 95 10 - 1 → gi μ 100 x = m x) : lnk N U W μ := by
  obtain ⟨rfl, rfl, hl, hm⟩ := h
  rw [eN] at hl hm
  refine ⟨fun e => ?_, fun e => ?_, fun e => ?_⟩
  · subst e
    rw [hl 0 (by omega) (by omega)]
    refine ⟨?_, rfl⟩
    show l 0 = -(tp l 1 0)
    rw [(tp_1 l).1]
    omega
  · subst e
    rw [hm 0 (by omega) (by omega)]
    exact tp_1 m
  · subst e
    rw [hm 0 (by omega) (by omega), hm 1 (by omega) (by omega)]
    exact tp_2 m
theorem Inv.allB {L : Nat} {xs : Nat → Int32} {n : Nat} {Y : jY} {μ : jM} (h : Inv L xs n Y μ) (hz : gi μ 95 10 ≠ 0) (h3 : gi μ 95 10 ≤ 3) : ∃ (N : Nat) (U W : Int → Int), 1 ≤ N ∧ N ≤ 3 ∧ gi μ 95 10 = (N : Int) ∧ (∀ j : Nat, j ≤ N → (U j).natAbs ≤ 1000000) ∧ (N = 1 → (U 0).natAbs ≤ 6) ∧ lnk N U W μ ∧ (∃ ν, f_X11_beginAllTables Y 1 μ = some ν ∧ kF 27 78 μ ν ∧ atI ν N U W) ∧ ∀ ξ : jM, (∀ i, 95 ≤ i → i < 123 → ξ i = μ i) → kM Y ξ → ∃ ω, f_X12_begin0 Y 95 ξ = some ω ∧ kF 95 104 ξ ω ∧ kP ξ ω ∧ gi ω 95 10 = (N : Int) ∧ rowK ω 101 ((N : Int) + 1) U ∧ rowK ω 102 (N : Int) W ∧ trN N 0 ω := by
  have hX := h.x
  obtain ⟨N, U, W, f, l, m, N1, N4, eN, P, lk, ⟨μ1, c1, kf, w0, t1, t2, t3⟩, M⟩ := h.num2 hz (K := tabK) tab_all
  have lk := lnk_is eN lk
  have N3 : N ≤ 3 := by omega
  unfold tabK tabB at P
  rw [Bool.and_eq_true, Bool.and_eq_true] at P
  obtain ⟨⟨P1, P2⟩, P3⟩ := P
  have C : cxK N U f = true ∧ f 0 = 1 := by
    cases T : tbL N (wholes U (N + 1)) (wholes W N) with
    | none => rw [T] at P3; cases P3
    | some q =>
      rw [T] at P3
      simp only [Bool.and_eq_true] at P3
      exact ⟨P3.2, (sem_D P3.1).2⟩
  have bE : ∀ j : Nat, j ≤ N → (U j).natAbs ≤ bEn N := fun j hj => by
    have b := bE_is C.2 N1 N4 C.1 (k := N) (j := j) (Nat.le_refl N) hj
    unfold eC at b
    rw [if_pos rfl] at b
    exact b
  refine ⟨N, U, W, N1, N3, eN, fun j hj => ?_, fun e => ?_, lk, ?_, fun ξ hξ hMξ => ?_⟩
  · have : ∀ n, n ≤ 4 → bEn n ≤ 1000000 := by decide
    exact Nat.le_trans (bE j hj) (this N N4)
  · subst e
    exact bE 0 (by omega)
  · have hX1 := hX.to kf
    obtain ⟨ν, e1, e2, e3⟩ := X0_begin hX1 N1 N3 w0 t1 t2
    refine ⟨ν, ?_, (kf.mono (by omega) (by omega)).trans (e2.mono (by omega) (by omega)), e3⟩
    simp (disch := omega) only [f_X11_beginAllTables, kX.o1_6 hX, kX.o1_3 hX, kS.gn (kX.now hX), krcv (kX.y27 hX), c1, kX.o1_8 hX1, kX.o1_6 hX1, krcv hX.y72, e1, ki_0, ki_1, ki_2, ki_3, ki_4, ki_5, ki_6, ki_7, ki_8, ki_9, ki_10, ki_11, ki_12, ki_13, ki_18, ki_20, ki_24, ki_32, ki_36, ki_45, ki_47, ki_48, ki_50, ki_57, ki_60, ki_63, ki_99, ki_100, ki_101, ki_120, ki_255, ki_468, ki_1000, ki_1024, ki_13849, ki_25173, ki_65535, ki_65536, ki_100000, ki_100001, ki_2147483647, ki_2147483648, kl_0, kl_1, kl_2, kl_9223372036854775808, ki_add, ki_sub, ki_mul, ki_neg, kl_add, kl_sub, kl_mul, kl_neg, ki_i2l, kl_l2i, ki_lt, ki_le, ki_eq, kcmp_eq, kcmp_lt, kcmp_le, kcmp_gt, kcmp_ge, Option.bind_some, Option.map_some, kbool0, kbool1, if_pos, if_neg, if_true, if_false, Int.neg_neg, Int.sub_zero, Int.add_zero, Int.zero_add, true_and, and_true, false_and, and_false, false_or, or_false, true_or, or_true, ne_eq, not_false_eq_true, not_true_eq_false]
  · obtain ⟨ω, d1, d2, d3, d4, d5⟩ := M ξ hξ hMξ
    have hMω := hMξ.to d2
    have en : gi ω 95 10 = (N : Int) := by rw [d2.gi (by omega), gi_cell (hξ 95 (by omega) (by omega))]; exact eN
    have g := kM.g10 hMω
    rw [en] at g
    have tail : ∀ x : Int, -7 ≤ x → x ≤ 0 → ∃ η, b_X12_begin0_32 Y 95 95 (ki x) ω = some η ∧ frY ω η ∧ gi η 95 42 = x ∧ gi η 95 43 = -6 ∧ gi η 95 45 = 0 := by
      intro x x1 x2
      have F1 := frY.w (Y := Y) hMω (k := 42) (by omega) (by omega) x
      have v1 := fun a => gj (μ := ω) (k := 42) (v := x) a (by omega) (by omega)
      generalize hμ1 : jw ω 95 42 (.int (ki x)) = m1 at *
      have hM1 := hMω.to F1.1
      have F2 := frY.w (Y := Y) hM1 (k := 43) (by omega) (by omega) (-6)
      have v2 := fun a => gj (μ := m1) (k := 43) (v := -6) a (by omega) (by omega)
      generalize hμ2 : jw m1 95 43 (.int (ki (-6))) = m2 at *
      have hM2 := hM1.to F2.1
      have F3 := frY.w (Y := Y) hM2 (k := 45) (by omega) (by omega) 0
      have v3 := fun a => gj (μ := m2) (k := 45) (v := 0) a (by omega) (by omega)
      generalize hμ3 : jw m2 95 45 (.int (ki 0)) = m3 at *
      refine ⟨m3, ?_, (F1.trans F2).trans F3, ?_, ?_, ?_⟩
      · simp (disch := omega) only [b_X12_begin0_32, kM.p hMω, hμ1, hμ2, hμ3, ki_0, ki_1, ki_2, ki_3, ki_4, ki_5, ki_6, ki_7, ki_8, ki_9, ki_10, ki_11, ki_12, ki_13, ki_18, ki_20, ki_24, ki_32, ki_36, ki_45, ki_47, ki_48, ki_50, ki_57, ki_60, ki_63, ki_99, ki_100, ki_101, ki_120, ki_255, ki_468, ki_1000, ki_1024, ki_13849, ki_25173, ki_65535, ki_65536, ki_100000, ki_100001, ki_2147483647, ki_2147483648, kl_0, kl_1, kl_2, kl_9223372036854775808, ki_add, ki_sub, ki_mul, ki_neg, kl_add, kl_sub, kl_mul, kl_neg, ki_i2l, kl_l2i, ki_lt, ki_le, ki_eq, kcmp_eq, kcmp_lt, kcmp_le, kcmp_gt, kcmp_ge, Option.bind_some, Option.map_some, kbool0, kbool1, if_pos, if_neg, if_true, if_false, Int.neg_neg, Int.sub_zero, Int.add_zero, Int.zero_add, true_and, and_true, false_and, and_false, false_or, or_false, true_or, or_true, ne_eq, not_false_eq_true, not_true_eq_false]
      · rw [v3]; exact (v2 42).trans ((v1 42).trans rfl)
      · rw [v3]; exact (v2 43).trans rfl
      · rw [v3]; rfl
    have fin : ∀ (x : Int), -7 ≤ x → x ≤ 0 → (∀ η : jM, gi η 95 42 = x → gi η 95 43 = -6 → gi η 95 45 = 0 → trN N 0 η) → f_X12_begin0 Y 95 ξ = b_X12_begin0_32 Y 95 95 (ki x) ω → ∃ ω, f_X12_begin0 Y 95 ξ = some ω ∧ kF 95 104 ξ ω ∧ kP ξ ω ∧ gi ω 95 10 = (N : Int) ∧ rowK ω 101 ((N : Int) + 1) U ∧ rowK ω 102 (N : Int) W ∧ trN N 0 ω := by
      intro x x1 x2 tr E
      obtain ⟨η, y1, y2, y3, y4, y5⟩ := tail x x1 x2
      exact ⟨η, by rw [E, y1], (d2.mono (by omega) (by omega)).trans (y2.1.mono (by omega) (by omega)), (kP.of_tones d2).trans y2.kP, by rw [y2.n]; exact en, d3.to y2.1 (by omega), d4.to y2.1 (by omega), tr η y3 y4 y5⟩
    have : N = 1 ∨ N = 2 ∨ N = 3 := by omega
    rcases this with rfl | rfl | rfl
    · have g : jgI Y ω 95 12 10 = some (ki 1) := g
      refine fin 0 (by omega) (by omega) (fun η a _ _ => a) ?_
      simp (disch := omega) only [f_X12_begin0, krcv hMξ.y, d1, g, ki_0, ki_1, ki_2, ki_3, ki_4, ki_5, ki_6, ki_7, ki_8, ki_9, ki_10, ki_11, ki_12, ki_13, ki_18, ki_20, ki_24, ki_32, ki_36, ki_45, ki_47, ki_48, ki_50, ki_57, ki_60, ki_63, ki_99, ki_100, ki_101, ki_120, ki_255, ki_468, ki_1000, ki_1024, ki_13849, ki_25173, ki_65535, ki_65536, ki_100000, ki_100001, ki_2147483647, ki_2147483648, kl_0, kl_1, kl_2, kl_9223372036854775808, ki_add, ki_sub, ki_mul, ki_neg, kl_add, kl_sub, kl_mul, kl_neg, ki_i2l, kl_l2i, ki_lt, ki_le, ki_eq, kcmp_eq, kcmp_lt, kcmp_le, kcmp_gt, kcmp_ge, Option.bind_some, Option.map_some, kbool0, kbool1, if_pos, if_neg, if_true, if_false, Int.neg_neg, Int.sub_zero, Int.add_zero, Int.zero_add, true_and, and_true, false_and, and_false, false_or, or_false, true_or, or_true, ne_eq, not_false_eq_true, not_true_eq_false]
    · have g : jgI Y ω 95 12 10 = some (ki 2) := g
      refine fin (-7) (by omega) (by omega) (fun η a _ _ => by show gi η 95 42 = 0 - 7; omega) ?_
      simp (disch := omega) only [f_X12_begin0, krcv hMξ.y, d1, g, ki_0, ki_1, ki_2, ki_3, ki_4, ki_5, ki_6, ki_7, ki_8, ki_9, ki_10, ki_11, ki_12, ki_13, ki_18, ki_20, ki_24, ki_32, ki_36, ki_45, ki_47, ki_48, ki_50, ki_57, ki_60, ki_63, ki_99, ki_100, ki_101, ki_120, ki_255, ki_468, ki_1000, ki_1024, ki_13849, ki_25173, ki_65535, ki_65536, ki_100000, ki_100001, ki_2147483647, ki_2147483648, kl_0, kl_1, kl_2, kl_9223372036854775808, ki_add, ki_sub, ki_mul, ki_neg, kl_add, kl_sub, kl_mul, kl_neg, ki_i2l, kl_l2i, ki_lt, ki_le, ki_eq, kcmp_eq, kcmp_lt, kcmp_le, kcmp_gt, kcmp_ge, Option.bind_some, Option.map_some, kbool0, kbool1, if_pos, if_neg, if_true, if_false, Int.neg_neg, Int.sub_zero, Int.add_zero, Int.zero_add, true_and, and_true, false_and, and_false, false_or, or_false, true_or, or_true, ne_eq, not_false_eq_true, not_true_eq_false]
    · have g : jgI Y ω 95 12 10 = some (ki 3) := g
      refine fin (-6) (by omega) (by omega) (fun η a b c => Or.inl ⟨rfl, a, b, c⟩) ?_
      simp (disch := omega) only [f_X12_begin0, krcv hMξ.y, d1, g, ki_0, ki_1, ki_2, ki_3, ki_4, ki_5, ki_6, ki_7, ki_8, ki_9, ki_10, ki_11, ki_12, ki_13, ki_18, ki_20, ki_24, ki_32, ki_36, ki_45, ki_47, ki_48, ki_50, ki_57, ki_60, ki_63, ki_99, ki_100, ki_101, ki_120, ki_255, ki_468, ki_1000, ki_1024, ki_13849, ki_25173, ki_65535, ki_65536, ki_100000, ki_100001, ki_2147483647, ki_2147483648, kl_0, kl_1, kl_2, kl_9223372036854775808, ki_add, ki_sub, ki_mul, ki_neg, kl_add, kl_sub, kl_mul, kl_neg, ki_i2l, kl_l2i, ki_lt, ki_le, ki_eq, kcmp_eq, kcmp_lt, kcmp_le, kcmp_gt, kcmp_ge, Option.bind_some, Option.map_some, kbool0, kbool1, if_pos, if_neg, if_true, if_false, Int.neg_neg, Int.sub_zero, Int.add_zero, Int.zero_add, true_and, and_true, false_and, and_false, false_or, or_false, true_or, or_true, ne_eq, not_false_eq_true, not_true_eq_false]
theorem ok_all {L : Nat} {xs : Nat → Int32} {n : Nat} {Y : jY} {μ : jM} (h : Inv L xs n Y μ) : so_all (Inv L xs) n Y μ := by
  have hX := h.x
  have hM := h.m
  obtain ⟨q1, q2, q3, q4, q5⟩ := h.q
  have e0 := X11_hasTones hX
  have g := kM.g10 hM
  have gx := kN.gr hX.n10
  rw [q1] at e0 gx
  by_cases hz : gi μ 95 10 = 0
  · refine ⟨(ki (-1), μ), (ki (-1), μ), ?_, fun _ => rfl, ?_, rfl, h⟩
    · simp (disch := omega) only [f_X11_all, f_X11_countTables, krcv (kX.y1 hX), e0, ki_0, ki_1, ki_2, ki_3, ki_4, ki_5, ki_6, ki_7, ki_8, ki_9, ki_10, ki_11, ki_12, ki_13, ki_18, ki_20, ki_24, ki_32, ki_36, ki_45, ki_47, ki_48, ki_50, ki_57, ki_60, ki_63, ki_99, ki_100, ki_101, ki_120, ki_255, ki_468, ki_1000, ki_1024, ki_13849, ki_25173, ki_65535, ki_65536, ki_100000, ki_100001, ki_2147483647, ki_2147483648, kl_0, kl_1, kl_2, kl_9223372036854775808, ki_add, ki_sub, ki_mul, ki_neg, kl_add, kl_sub, kl_mul, kl_neg, ki_i2l, kl_l2i, ki_lt, ki_le, ki_eq, kcmp_eq, kcmp_lt, kcmp_le, kcmp_gt, kcmp_ge, Option.bind_some, Option.map_some, kbool0, kbool1, if_pos, if_neg, if_true, if_false, Int.neg_neg, Int.sub_zero, Int.add_zero, Int.zero_add, true_and, and_true, false_and, and_false, false_or, or_false, true_or, or_true, ne_eq, not_false_eq_true, not_true_eq_false]
    · simp (disch := omega) only [f_X12_all, g, ki_0, ki_1, ki_2, ki_3, ki_4, ki_5, ki_6, ki_7, ki_8, ki_9, ki_10, ki_11, ki_12, ki_13, ki_18, ki_20, ki_24, ki_32, ki_36, ki_45, ki_47, ki_48, ki_50, ki_57, ki_60, ki_63, ki_99, ki_100, ki_101, ki_120, ki_255, ki_468, ki_1000, ki_1024, ki_13849, ki_25173, ki_65535, ki_65536, ki_100000, ki_100001, ki_2147483647, ki_2147483648, kl_0, kl_1, kl_2, kl_9223372036854775808, ki_add, ki_sub, ki_mul, ki_neg, kl_add, kl_sub, kl_mul, kl_neg, ki_i2l, kl_l2i, ki_lt, ki_le, ki_eq, kcmp_eq, kcmp_lt, kcmp_le, kcmp_gt, kcmp_ge, Option.bind_some, Option.map_some, kbool0, kbool1, if_pos, if_neg, if_true, if_false, Int.neg_neg, Int.sub_zero, Int.add_zero, Int.zero_add, true_and, and_true, false_and, and_false, false_or, or_false, true_or, or_true, ne_eq, not_false_eq_true, not_true_eq_false]
  · by_cases h3 : gi μ 95 10 ≤ 3
    · obtain ⟨N, U, W, N1, N3, eN, bU, u1, lk, ⟨ν, c1, kf, hI⟩, M⟩ := h.allB hz h3
      have hXν := hX.to kf
      obtain ⟨ξ, c2, kf2⟩ := X11_countLoop hXν N1 N3 (M := fun _ => 1) hI bU (w := 5) (v := 0) (fun c ν _ _ _ _ _ _ => by
        simp (disch := omega) only [f_X0_madeMeets, ki_0, ki_1, ki_2, ki_3, ki_4, ki_5, ki_6, ki_7, ki_8, ki_9, ki_10, ki_11, ki_12, ki_13, ki_18, ki_20, ki_24, ki_32, ki_36, ki_45, ki_47, ki_48, ki_50, ki_57, ki_60, ki_63, ki_99, ki_100, ki_101, ki_120, ki_255, ki_468, ki_1000, ki_1024, ki_13849, ki_25173, ki_65535, ki_65536, ki_100000, ki_100001, ki_2147483647, ki_2147483648, kl_0, kl_1, kl_2, kl_9223372036854775808, ki_add, ki_sub, ki_mul, ki_neg, kl_add, kl_sub, kl_mul, kl_neg, ki_i2l, kl_l2i, ki_lt, ki_le, ki_eq, kcmp_eq, kcmp_lt, kcmp_le, kcmp_gt, kcmp_ge, Option.bind_some, Option.map_some, kbool0, kbool1, if_pos, if_neg, if_true, if_false, Int.neg_neg, Int.sub_zero, Int.add_zero, Int.zero_add, true_and, and_true, false_and, and_false, false_or, or_false, true_or, or_true, ne_eq, not_false_eq_true, not_true_eq_false]) (fun _ _ _ _ => Or.inr rfl)
      rw [ki_0] at c2
      have kf3 : kF 27 78 μ ξ := kf.trans (kf2.mono (by omega) (by omega))
      have hMξ := hM.to kf3
      obtain ⟨ω, d1, kg, kp, en, r1, r2, tr⟩ := M ξ (fun i a b => kf3.1 i (by omega)) hMξ
      have hMω := hMξ.to kg
      have gξ := kM.g10 hMξ
      rw [kf3.gi (by omega)] at gξ
      obtain ⟨η, d2, fy⟩ := cnt_gen (Y := Y) N1 N3 (U := U) (M := fun _ => 1) (F := fun (s : Int32 × jM) => b_X12_all_26 Y 95 s.1 s.2) (fun v ν ω r hν e1 e2 => ⟨fun e => by
        subst e
        simp (disch := omega) only [b_X12_all_26, krcv hMω.y, e1, ki_0, ki_1, ki_2, ki_3, ki_4, ki_5, ki_6, ki_7, ki_8, ki_9, ki_10, ki_11, ki_12, ki_13, ki_18, ki_20, ki_24, ki_32, ki_36, ki_45, ki_47, ki_48, ki_50, ki_57, ki_60, ki_63, ki_99, ki_100, ki_101, ki_120, ki_255, ki_468, ki_1000, ki_1024, ki_13849, ki_25173, ki_65535, ki_65536, ki_100000, ki_100001, ki_2147483647, ki_2147483648, kl_0, kl_1, kl_2, kl_9223372036854775808, ki_add, ki_sub, ki_mul, ki_neg, kl_add, kl_sub, kl_mul, kl_neg, ki_i2l, kl_l2i, ki_lt, ki_le, ki_eq, kcmp_eq, kcmp_lt, kcmp_le, kcmp_gt, kcmp_ge, Option.bind_some, Option.map_some, kbool0, kbool1, if_pos, if_neg, if_true, if_false, Int.neg_neg, Int.sub_zero, Int.add_zero, Int.zero_add, true_and, and_true, false_and, and_false, false_or, or_false, true_or, or_true, ne_eq, not_false_eq_true, not_true_eq_false], fun c _ _ _ _ e => by
        subst e
        simp (disch := omega) only [b_X12_all_26, krcv hMω.y, e1, ki_0, ki_1, ki_2, ki_3, ki_4, ki_5, ki_6, ki_7, ki_8, ki_9, ki_10, ki_11, ki_12, ki_13, ki_18, ki_20, ki_24, ki_32, ki_36, ki_45, ki_47, ki_48, ki_50, ki_57, ki_60, ki_63, ki_99, ki_100, ki_101, ki_120, ki_255, ki_468, ki_1000, ki_1024, ki_13849, ki_25173, ki_65535, ki_65536, ki_100000, ki_100001, ki_2147483647, ki_2147483648, kl_0, kl_1, kl_2, kl_9223372036854775808, ki_add, ki_sub, ki_mul, ki_neg, kl_add, kl_sub, kl_mul, kl_neg, ki_i2l, kl_l2i, ki_lt, ki_le, ki_eq, kcmp_eq, kcmp_lt, kcmp_le, kcmp_gt, kcmp_ge, Option.bind_some, Option.map_some, kbool0, kbool1, if_pos, if_neg, if_true, if_false, Int.neg_neg, Int.sub_zero, Int.add_zero, Int.zero_add, true_and, and_true, false_and, and_false, false_or, or_false, true_or, or_true, ne_eq, not_false_eq_true, not_true_eq_false]⟩) hMω en r1 bU u1 tr
      generalize smF (ctG N U fun _ => 1) (cdN N) = s at *
      refine ⟨(ki s, ξ), (ki s, η), ?_, fun j => congrFun (kf3.1 0 (by omega)) j, ?_, rfl, h.to (((kP.of_rows (kf3.mono (by omega) (by omega))).trans kp).trans fy.kP)⟩
      · simp (disch := omega) only [f_X11_all, f_X11_countTables, krcv (kX.y1 hX), kX.o1_3 hX, kS.gn (kX.now hX), gx, e0, c1, c2, ki_0, ki_1, ki_2, ki_3, ki_4, ki_5, ki_6, ki_7, ki_8, ki_9, ki_10, ki_11, ki_12, ki_13, ki_18, ki_20, ki_24, ki_32, ki_36, ki_45, ki_47, ki_48, ki_50, ki_57, ki_60, ki_63, ki_99, ki_100, ki_101, ki_120, ki_255, ki_468, ki_1000, ki_1024, ki_13849, ki_25173, ki_65535, ki_65536, ki_100000, ki_100001, ki_2147483647, ki_2147483648, kl_0, kl_1, kl_2, kl_9223372036854775808, ki_add, ki_sub, ki_mul, ki_neg, kl_add, kl_sub, kl_mul, kl_neg, ki_i2l, kl_l2i, ki_lt, ki_le, ki_eq, kcmp_eq, kcmp_lt, kcmp_le, kcmp_gt, kcmp_ge, Option.bind_some, Option.map_some, kbool0, kbool1, if_pos, if_neg, if_true, if_false, Int.neg_neg, Int.sub_zero, Int.add_zero, Int.zero_add, true_and, and_true, false_and, and_false, false_or, or_false, true_or, or_true, ne_eq, not_false_eq_true, not_true_eq_false]
      · simp (disch := omega) only [f_X12_all, krcv (kM.y hM), gξ, d1, ki_0, ki_1, ki_2, ki_3, ki_4, ki_5, ki_6, ki_7, ki_8, ki_9, ki_10, ki_11, ki_12, ki_13, ki_18, ki_20, ki_24, ki_32, ki_36, ki_45, ki_47, ki_48, ki_50, ki_57, ki_60, ki_63, ki_99, ki_100, ki_101, ki_120, ki_255, ki_468, ki_1000, ki_1024, ki_13849, ki_25173, ki_65535, ki_65536, ki_100000, ki_100001, ki_2147483647, ki_2147483648, kl_0, kl_1, kl_2, kl_9223372036854775808, ki_add, ki_sub, ki_mul, ki_neg, kl_add, kl_sub, kl_mul, kl_neg, ki_i2l, kl_l2i, ki_lt, ki_le, ki_eq, kcmp_eq, kcmp_lt, kcmp_le, kcmp_gt, kcmp_ge, Option.bind_some, Option.map_some, kbool0, kbool1, if_pos, if_neg, if_true, if_false, Int.neg_neg, Int.sub_zero, Int.add_zero, Int.zero_add, true_and, and_true, false_and, and_false, false_or, or_false, true_or, or_true, ne_eq, not_false_eq_true, not_true_eq_false]
        exact d2
    · refine ⟨(ki (-2), μ), (ki (-2), μ), ?_, fun _ => rfl, ?_, rfl, h⟩
      · simp (disch := omega) only [f_X11_all, f_X11_countTables, krcv (kX.y1 hX), kX.o1_3 hX, kS.gn (kX.now hX), gx, e0, ki_0, ki_1, ki_2, ki_3, ki_4, ki_5, ki_6, ki_7, ki_8, ki_9, ki_10, ki_11, ki_12, ki_13, ki_18, ki_20, ki_24, ki_32, ki_36, ki_45, ki_47, ki_48, ki_50, ki_57, ki_60, ki_63, ki_99, ki_100, ki_101, ki_120, ki_255, ki_468, ki_1000, ki_1024, ki_13849, ki_25173, ki_65535, ki_65536, ki_100000, ki_100001, ki_2147483647, ki_2147483648, kl_0, kl_1, kl_2, kl_9223372036854775808, ki_add, ki_sub, ki_mul, ki_neg, kl_add, kl_sub, kl_mul, kl_neg, ki_i2l, kl_l2i, ki_lt, ki_le, ki_eq, kcmp_eq, kcmp_lt, kcmp_le, kcmp_gt, kcmp_ge, Option.bind_some, Option.map_some, kbool0, kbool1, if_pos, if_neg, if_true, if_false, Int.neg_neg, Int.sub_zero, Int.add_zero, Int.zero_add, true_and, and_true, false_and, and_false, false_or, or_false, true_or, or_true, ne_eq, not_false_eq_true, not_true_eq_false]
      · simp (disch := omega) only [f_X12_all, g, ki_0, ki_1, ki_2, ki_3, ki_4, ki_5, ki_6, ki_7, ki_8, ki_9, ki_10, ki_11, ki_12, ki_13, ki_18, ki_20, ki_24, ki_32, ki_36, ki_45, ki_47, ki_48, ki_50, ki_57, ki_60, ki_63, ki_99, ki_100, ki_101, ki_120, ki_255, ki_468, ki_1000, ki_1024, ki_13849, ki_25173, ki_65535, ki_65536, ki_100000, ki_100001, ki_2147483647, ki_2147483648, kl_0, kl_1, kl_2, kl_9223372036854775808, ki_add, ki_sub, ki_mul, ki_neg, kl_add, kl_sub, kl_mul, kl_neg, ki_i2l, kl_l2i, ki_lt, ki_le, ki_eq, kcmp_eq, kcmp_lt, kcmp_le, kcmp_gt, kcmp_ge, Option.bind_some, Option.map_some, kbool0, kbool1, if_pos, if_neg, if_true, if_false, Int.neg_neg, Int.sub_zero, Int.add_zero, Int.zero_add, true_and, and_true, false_and, and_false, false_or, or_false, true_or, or_true, ne_eq, not_false_eq_true, not_true_eq_false]
