/-! OPS: chain, mass -/
theorem X11_hasChain {L : Nat} {xs : Nat → Int32} {n : Nat} {Y : jY} {μ : jM} (h : Inv L xs n Y μ) : f_X11_hasChain Y 1 μ = some (ki (if 1 ≤ gi μ 95 10 ∧ gi μ 95 10 ≤ 3 ∧ 0 < gi μ 99 0 then 1 else 0), μ) := by
  have hX := h.x
  obtain ⟨q1, q2, q3, q4, q5⟩ := h.q
  have gx := kN.gr hX.n10
  rw [q1] at gx
  have qa := kaI hX.n10.aa (x := 0) (by omega) (by omega)
  by_cases hN : 1 ≤ gi μ 95 10 ∧ gi μ 95 10 ≤ 3
  · have e0 := (q4 0 (by omega) (by omega)).1
    have r0 := (q4 0 (by omega) (by omega)).2
    simp only [Nat.reduceAdd] at qa
    rw [e0] at qa
    by_cases hp : 0 < gi μ 99 0
    · rw [if_pos ⟨hN.1, hN.2, hp⟩]
      simp (disch := omega) only [f_X11_hasChain, b_X11_hasChain_38, X11_within, kX.o1_3 hX, kS.gn (kX.now hX), gx, kN.ga hX.n10, Nat.reduceAdd, qa, ki_0, ki_1, ki_2, ki_3, ki_4, ki_5, ki_6, ki_7, ki_8, ki_9, ki_10, ki_11, ki_12, ki_13, ki_18, ki_20, ki_24, ki_32, ki_36, ki_45, ki_47, ki_48, ki_50, ki_57, ki_60, ki_63, ki_99, ki_100, ki_101, ki_120, ki_255, ki_468, ki_1000, ki_1024, ki_13849, ki_25173, ki_65535, ki_65536, ki_100000, ki_100001, ki_2147483647, ki_2147483648, kl_0, kl_1, kl_2, kl_9223372036854775808, ki_add, ki_sub, ki_mul, ki_neg, kl_add, kl_sub, kl_mul, kl_neg, ki_i2l, kl_l2i, ki_lt, ki_le, ki_eq, kcmp_eq, kcmp_lt, kcmp_le, kcmp_gt, kcmp_ge, Option.bind_some, Option.map_some, kbool0, kbool1, if_pos, if_neg, if_true, if_false, Int.neg_neg, Int.sub_zero, Int.add_zero, Int.zero_add, true_and, and_true, false_and, and_false, false_or, or_false, true_or, or_true, ne_eq, not_false_eq_true, not_true_eq_false]
    · rw [if_neg (fun q => hp q.2.2)]
      simp (disch := omega) only [f_X11_hasChain, b_X11_hasChain_37, b_X11_hasChain_38, X11_within, kX.o1_3 hX, kS.gn (kX.now hX), gx, kN.ga hX.n10, Nat.reduceAdd, qa, ki_0, ki_1, ki_2, ki_3, ki_4, ki_5, ki_6, ki_7, ki_8, ki_9, ki_10, ki_11, ki_12, ki_13, ki_18, ki_20, ki_24, ki_32, ki_36, ki_45, ki_47, ki_48, ki_50, ki_57, ki_60, ki_63, ki_99, ki_100, ki_101, ki_120, ki_255, ki_468, ki_1000, ki_1024, ki_13849, ki_25173, ki_65535, ki_65536, ki_100000, ki_100001, ki_2147483647, ki_2147483648, kl_0, kl_1, kl_2, kl_9223372036854775808, ki_add, ki_sub, ki_mul, ki_neg, kl_add, kl_sub, kl_mul, kl_neg, ki_i2l, kl_l2i, ki_lt, ki_le, ki_eq, kcmp_eq, kcmp_lt, kcmp_le, kcmp_gt, kcmp_ge, Option.bind_some, Option.map_some, kbool0, kbool1, if_pos, if_neg, if_true, if_false, Int.neg_neg, Int.sub_zero, Int.add_zero, Int.zero_add, true_and, and_true, false_and, and_false, false_or, or_false, true_or, or_true, ne_eq, not_false_eq_true, not_true_eq_false]
  · rw [if_neg (fun q => hN ⟨q.1, q.2.1⟩)]
    simp (disch := omega) only [f_X11_hasChain, b_X11_hasChain_37, b_X11_hasChain_38, X11_within, kX.o1_3 hX, kS.gn (kX.now hX), gx, ki_0, ki_1, ki_2, ki_3, ki_4, ki_5, ki_6, ki_7, ki_8, ki_9, ki_10, ki_11, ki_12, ki_13, ki_18, ki_20, ki_24, ki_32, ki_36, ki_45, ki_47, ki_48, ki_50, ki_57, ki_60, ki_63, ki_99, ki_100, ki_101, ki_120, ki_255, ki_468, ki_1000, ki_1024, ki_13849, ki_25173, ki_65535, ki_65536, ki_100000, ki_100001, ki_2147483647, ki_2147483648, kl_0, kl_1, kl_2, kl_9223372036854775808, ki_add, ki_sub, ki_mul, ki_neg, kl_add, kl_sub, kl_mul, kl_neg, ki_i2l, kl_l2i, ki_lt, ki_le, ki_eq, kcmp_eq, kcmp_lt, kcmp_le, kcmp_gt, kcmp_ge, Option.bind_some, Option.map_some, kbool0, kbool1, if_pos, if_neg, if_true, if_false, Int.neg_neg, Int.sub_zero, Int.add_zero, Int.zero_add, true_and, and_true, false_and, and_false, false_or, or_false, true_or, or_true, ne_eq, not_false_eq_true, not_true_eq_false]
theorem X12_laysChain_no {L : Nat} {xs : Nat → Int32} {n : Nat} {Y : jY} {μ : jM} (h : Inv L xs n Y μ) (hN : gi μ 95 10 ≠ 0) (hc : ¬ (1 ≤ gi μ 95 10 ∧ gi μ 95 10 ≤ 3 ∧ 0 < gi μ 99 0)) : f_X12_laysChain Y 95 μ = some (ki 0, μ) := by
  have hM := h.m
  obtain ⟨q1, q2, q3, q4, q5⟩ := h.q
  have g := kM.g10 hM
  have qa := kaI (kM.a99 hM) (x := 0) (by omega) (by omega)
  have r0 := (q4 0 (by omega) (by omega)).2
  by_cases h3 : 3 < gi μ 95 10
  · simp (disch := omega) only [f_X12_laysChain, b_X12_laysChain_17, g, ki_0, ki_1, ki_2, ki_3, ki_4, ki_5, ki_6, ki_7, ki_8, ki_9, ki_10, ki_11, ki_12, ki_13, ki_18, ki_20, ki_24, ki_32, ki_36, ki_45, ki_47, ki_48, ki_50, ki_57, ki_60, ki_63, ki_99, ki_100, ki_101, ki_120, ki_255, ki_468, ki_1000, ki_1024, ki_13849, ki_25173, ki_65535, ki_65536, ki_100000, ki_100001, ki_2147483647, ki_2147483648, kl_0, kl_1, kl_2, kl_9223372036854775808, ki_add, ki_sub, ki_mul, ki_neg, kl_add, kl_sub, kl_mul, kl_neg, ki_i2l, kl_l2i, ki_lt, ki_le, ki_eq, kcmp_eq, kcmp_lt, kcmp_le, kcmp_gt, kcmp_ge, Option.bind_some, Option.map_some, kbool0, kbool1, if_pos, if_neg, if_true, if_false, Int.neg_neg, Int.sub_zero, Int.add_zero, Int.zero_add, true_and, and_true, false_and, and_false, false_or, or_false, true_or, or_true, ne_eq, not_false_eq_true, not_true_eq_false]
  · simp (disch := omega) only [f_X12_laysChain, b_X12_laysChain_17, g, kM.o11 hM, qa, ki_0, ki_1, ki_2, ki_3, ki_4, ki_5, ki_6, ki_7, ki_8, ki_9, ki_10, ki_11, ki_12, ki_13, ki_18, ki_20, ki_24, ki_32, ki_36, ki_45, ki_47, ki_48, ki_50, ki_57, ki_60, ki_63, ki_99, ki_100, ki_101, ki_120, ki_255, ki_468, ki_1000, ki_1024, ki_13849, ki_25173, ki_65535, ki_65536, ki_100000, ki_100001, ki_2147483647, ki_2147483648, kl_0, kl_1, kl_2, kl_9223372036854775808, ki_add, ki_sub, ki_mul, ki_neg, kl_add, kl_sub, kl_mul, kl_neg, ki_i2l, kl_l2i, ki_lt, ki_le, ki_eq, kcmp_eq, kcmp_lt, kcmp_le, kcmp_gt, kcmp_ge, Option.bind_some, Option.map_some, kbool0, kbool1, if_pos, if_neg, if_true, if_false, Int.neg_neg, Int.sub_zero, Int.add_zero, Int.zero_add, true_and, and_true, false_and, and_false, false_or, or_false, true_or, or_true, ne_eq, not_false_eq_true, not_true_eq_false]
theorem Inv.chain {L : Nat} {xs : Nat → Int32} {n : Nat} {Y : jY} {μ : jM} (h : Inv L xs n Y μ) (hN : gi μ 95 10 ≠ 0) (hc : 1 ≤ gi μ 95 10 ∧ gi μ 95 10 ≤ 3 ∧ 0 < gi μ 99 0) : ∃ (N : Nat) (V : Nat → (Int × Int) × (Int × Int)) (sm : Int × Int) (T Tm : Nat → Option (Int × Int)) (ν0 ν : jM), 1 ≤ N ∧ N ≤ 3 ∧ gi μ 95 10 = (N : Int) ∧ f_X8_rebuild Y 31 10 μ = some ν0 ∧ kX Y ν0 ∧ f_X8_hang Y 31 ν0 = some ν ∧ kF 27 72 μ ν ∧ (∀ i, i < N → frS ν (42 + i) (V i).1 ∧ frS ν (46 + i) (V i).2) ∧ (T 0 = some (0, 1) ∧ (∀ i, i < N → T (i + 1) = (T i).bind fun s => aF s (V i).1.1 (V i).1.2) ∧ T N = some sm) ∧ (Tm 0 = some (0, 1) ∧ (∀ i, i < N → Tm (i + 1) = (Tm i).bind fun s => aM s (V i).1.1 (V i).1.2) ∧ Tm N = some sm) ∧ ∀ ξ : jM, (∀ i, 95 ≤ i → i < 123 → ξ i = μ i) → kM Y ξ → ∃ ω, f_X12_laysChain Y 95 ξ = some (ki 1, ω) ∧ kF 95 108 ξ ω ∧ kP ξ ω ∧ gi ω 95 10 = (N : Int) ∧ ∀ i, i < N → cell4 ω i (V i) := by
  obtain ⟨q1, q2, q3, q4, q5⟩ := h.q
  obtain ⟨l, m, hl, hm, P⟩ := h.all hN ch_all
  have l0 := hl 0 (by omega) (by omega)
  unfold chP chG at P
  rw [← l0] at P
  have z1 : Nat.ble 4 (gi μ 95 10).toNat = false := by
    cases z : Nat.ble 4 (gi μ 95 10).toNat with
    | false => rfl
    | true =>
      have := Nat.le_of_ble_eq_true z
      omega
  have z2 : decide (gi μ 99 0 ≤ 0) = false := decide_eq_false (by omega)
  rw [z1, z2] at P
  have P : withN (gi μ 95 10).toNat l m (chK (gi μ 95 10).toNat) = true := P
  simp only [withN, f8_eq] at P
  obtain ⟨N, eN⟩ : ∃ N, N = (gi μ 95 10).toNat := ⟨_, rfl⟩
  obtain ⟨U, eU⟩ : ∃ U, U = l5 (tp l N) := ⟨_, rfl⟩
  obtain ⟨W, eW⟩ : ∃ W, W = l5 (tp m (N - 1)) := ⟨_, rfl⟩
  obtain ⟨f, ef⟩ : ∃ f, f = l5 (moT N U W 8) := ⟨_, rfl⟩
  obtain ⟨⟨μ1, c1, kf, w0, t1, t2, t3⟩, M⟩ := h.rows hN hl hm eN eU eW ef
  rw [← eN, ← eU, ← eW, ← ef] at P
  unfold chK tabB at P
  rw [Bool.and_eq_true, Bool.and_eq_true] at P
  obtain ⟨⟨P1, P2⟩, P3⟩ := P
  cases T : tbL N (wholes U (N + 1)) (wholes W N) with
  | none => rw [T] at P3; cases P3
  | some q =>
    rw [T] at P3
    simp only [Bool.and_eq_true] at P3
    obtain ⟨P4, P5⟩ := P3
    have N1 : 1 ≤ N := by omega
    have N3 : N ≤ 3 := by omega
    have eNi : gi μ 95 10 = (N : Int) := by omega
    obtain ⟨ν0, e1, e2, e3⟩ := X8_rebuild h.x N1 (by omega) c1 kf w0 t1 t2 (fun j hj => okB_iff.1 (all_rng P1 (i := j) (by omega))) (fun j hj => okB_iff.1 (all_rng P2 (i := j) (by omega))) (as := q.1) (cs := q.2) T
    have both : ∀ j, j < N → ∃ p, hgX N q.1 q.2 j = some p ∧ hgM N f U j = some p := fun j hj => eqP_is (all_rng P4 hj)
    obtain ⟨last, L1, L2⟩ := both (N - 1) (by omega)
    have hX0 := h.x.to e2
    obtain ⟨ν, d1, d2, d3⟩ := X8_hang hX0 N1 N3 e3 L1
    cases S1 : msX N q.1 q.2 N with
    | none => rw [S1] at P5; cases P5
    | some sm =>
      rw [S1] at P5
      have S2 := isF_eq P5
      have hv : ∀ i, i < N → hgX N q.1 q.2 (N - 1 - i) = some ((hgX N q.1 q.2 (N - 1 - i)).getD ((0, 1), (0, 1))) := fun i hi => by
        obtain ⟨p, p1, _⟩ := both (N - 1 - i) (by omega)
        rw [p1]
        rfl
      have hvM : ∀ i, i < N → hgM N f U (N - 1 - i) = some ((hgX N q.1 q.2 (N - 1 - i)).getD ((0, 1), (0, 1))) := fun i hi => by
        obtain ⟨p, p1, p2⟩ := both (N - 1 - i) (by omega)
        rw [p1, p2]
        rfl
      refine ⟨N, fun i => (hgX N q.1 q.2 (N - 1 - i)).getD ((0, 1), (0, 1)), sm, msX N q.1 q.2, msM N f U, ν0, ν, N1, N3, eNi, e1, hX0, d1, e2.trans (d2.mono (by omega) (by omega)), fun i hi => ?_, ⟨rfl, fun i hi => ?_, S1⟩, ⟨rfl, fun i hi => ?_, S2⟩, fun ξ hξ hMξ => ?_⟩
      · obtain ⟨v, v1, v2, v3⟩ := d3 (N - 1 - i) (by omega)
        simp only [v1, Option.getD_some]
        rw [show N - 1 - (N - 1 - i) = i by omega] at v2 v3
        exact ⟨v2, v3⟩
      · rw [msX, hv i hi]
        rfl
      · rw [msM, hvM i hi]
        rfl
      · obtain ⟨ω0, w1, w2, w3, w4, w5⟩ := M ξ hξ hMξ
        have hM0 := hMξ.to w2
        have en : gi ω0 95 10 = (N : Int) := by rw [w2.gi (by omega), gi_cell (hξ 95 (by omega) (by omega))]; exact eNi
        obtain ⟨r, x1, x2, x3, x4⟩ := X12_chainLoop hM0 en N1 N3 w3 w5 L2
        have g := kM.g10 hMξ
        rw [gi_cell (hξ 95 (by omega) (by omega)), eNi] at g
        have g0 := kM.g10 hM0
        rw [en] at g0
        have qa := kaI (kM.a99 hMξ) (x := 0) (by omega) (by omega)
        rw [gi_cell (hξ 99 (by omega) (by omega))] at qa
        have r0 := (q4 0 (by omega) (by omega)).2
        obtain ⟨rv, rm⟩ := r
        simp only [] at x2 x3 x4
        subst x2
        refine ⟨rm, ?_, (w2.mono (by omega) (by omega)).trans x3.1, (kP.of_tones w2).trans x3.kP, by rw [x3.n]; exact en, fun i hi => ?_⟩
        · have E : f_X12_laysChain Y 95 ξ = jit jF (fun (s : Int32 × jM) => b_X12_laysChain_30 Y 95 s.1 s.2) (ki ((N : Int) - 1), ω0) := by
            simp (disch := omega) only [f_X12_laysChain, g, kM.o11 hMξ, qa, krcv hMξ.y, w1, g0, ki_0, ki_1, ki_2, ki_3, ki_4, ki_5, ki_6, ki_7, ki_8, ki_9, ki_10, ki_11, ki_12, ki_13, ki_18, ki_20, ki_24, ki_32, ki_36, ki_45, ki_47, ki_48, ki_50, ki_57, ki_60, ki_63, ki_99, ki_100, ki_101, ki_120, ki_255, ki_468, ki_1000, ki_1024, ki_13849, ki_25173, ki_65535, ki_65536, ki_100000, ki_100001, ki_2147483647, ki_2147483648, kl_0, kl_1, kl_2, kl_9223372036854775808, ki_add, ki_sub, ki_mul, ki_neg, kl_add, kl_sub, kl_mul, kl_neg, ki_i2l, kl_l2i, ki_lt, ki_le, ki_eq, kcmp_eq, kcmp_lt, kcmp_le, kcmp_gt, kcmp_ge, Option.bind_some, Option.map_some, kbool0, kbool1, if_pos, if_neg, if_true, if_false, Int.neg_neg, Int.sub_zero, Int.add_zero, Int.zero_add, true_and, and_true, false_and, and_false, false_or, or_false, true_or, or_true, ne_eq, not_false_eq_true, not_true_eq_false]
          rw [E, x1]
        · obtain ⟨v, v1, v2⟩ := x4 (N - 1 - i) (by omega)
          rw [show N - 1 - (N - 1 - i) = i by omega] at v2
          have := hvM i hi
          rw [v1] at this
          simp only []
          rw [← Option.some.inj this]
          exact v2
theorem ok_chain_part {p : Int × Int} {w : Int} (hw : w = 0 ∨ w = 1) : (w = 0 ∧ (if w = 0 then p.1 else p.2) = p.1) ∨ (w = 1 ∧ (if w = 0 then p.1 else p.2) = p.2) := by
  rcases hw with rfl | rfl
  · exact Or.inl ⟨rfl, rfl⟩
  · exact Or.inr ⟨rfl, rfl⟩
set_option maxHeartbeats 1000000 in
theorem ok_chain {L : Nat} {xs : Nat → Int32} {n : Nat} {Y : jY} {μ : jM} (h : Inv L xs n Y μ) : so_chain (Inv L xs) n Y μ := by
  have hX := h.x
  have hM := h.m
  intro a1 a2 a3
  obtain ⟨k, k1, k2, rfl⟩ := ki_is a1
  obtain ⟨i, i1, i2, rfl⟩ := ki_is a2
  obtain ⟨w, w1, w2, rfl⟩ := ki_is a3
  obtain ⟨q1, q2, q3, q4, q5⟩ := h.q
  have e0 := X11_hasTones hX
  have g := kM.g10 hM
  have gx := kN.gr hX.n10
  rw [q1] at e0 gx
  have ip := X11_isPart (Y := Y) (μ := μ) w1 w2
  have hc := X11_hasChain h
  by_cases hz : gi μ 95 10 = 0
  · refine ⟨(kl (-9223372036854775808), μ), (kl (-9223372036854775808), μ), ?_, fun _ => rfl, ?_, rfl, h⟩
    · simp (disch := omega) only [f_X11_chain, b_X11_chain_31, krcv (kX.y1 hX), e0, ki_0, ki_1, ki_2, ki_3, ki_4, ki_5, ki_6, ki_7, ki_8, ki_9, ki_10, ki_11, ki_12, ki_13, ki_18, ki_20, ki_24, ki_32, ki_36, ki_45, ki_47, ki_48, ki_50, ki_57, ki_60, ki_63, ki_99, ki_100, ki_101, ki_120, ki_255, ki_468, ki_1000, ki_1024, ki_13849, ki_25173, ki_65535, ki_65536, ki_100000, ki_100001, ki_2147483647, ki_2147483648, kl_0, kl_1, kl_2, kl_9223372036854775808, ki_add, ki_sub, ki_mul, ki_neg, kl_add, kl_sub, kl_mul, kl_neg, ki_i2l, kl_l2i, ki_lt, ki_le, ki_eq, kcmp_eq, kcmp_lt, kcmp_le, kcmp_gt, kcmp_ge, Option.bind_some, Option.map_some, kbool0, kbool1, if_pos, if_neg, if_true, if_false, Int.neg_neg, Int.sub_zero, Int.add_zero, Int.zero_add, true_and, and_true, false_and, and_false, false_or, or_false, true_or, or_true, ne_eq, not_false_eq_true, not_true_eq_false]
    · simp (disch := omega) only [f_X12_chain, b_X12_chain_39, g, ki_0, ki_1, ki_2, ki_3, ki_4, ki_5, ki_6, ki_7, ki_8, ki_9, ki_10, ki_11, ki_12, ki_13, ki_18, ki_20, ki_24, ki_32, ki_36, ki_45, ki_47, ki_48, ki_50, ki_57, ki_60, ki_63, ki_99, ki_100, ki_101, ki_120, ki_255, ki_468, ki_1000, ki_1024, ki_13849, ki_25173, ki_65535, ki_65536, ki_100000, ki_100001, ki_2147483647, ki_2147483648, kl_0, kl_1, kl_2, kl_9223372036854775808, ki_add, ki_sub, ki_mul, ki_neg, kl_add, kl_sub, kl_mul, kl_neg, ki_i2l, kl_l2i, ki_lt, ki_le, ki_eq, kcmp_eq, kcmp_lt, kcmp_le, kcmp_gt, kcmp_ge, Option.bind_some, Option.map_some, kbool0, kbool1, if_pos, if_neg, if_true, if_false, Int.neg_neg, Int.sub_zero, Int.add_zero, Int.zero_add, true_and, and_true, false_and, and_false, false_or, or_false, true_or, or_true, ne_eq, not_false_eq_true, not_true_eq_false]
  · by_cases hk : 0 ≤ k ∧ k ≤ 1
    · by_cases hi : 0 ≤ i ∧ i < gi μ 95 10
      · by_cases hw : w = 0 ∨ w = 1
        · rw [if_pos hw] at ip
          by_cases c : 1 ≤ gi μ 95 10 ∧ gi μ 95 10 ≤ 3 ∧ 0 < gi μ 99 0
          · rw [if_pos c] at hc
            obtain ⟨N, V, sm, T, Tm, ν0, ν, N1, N3, eN, c1, hX0, c2, kf, cl, _, _, M⟩ := h.chain hz c
            have hXν := hX.to kf
            have hMν := hM.to kf
            obtain ⟨ω, d1, kf2, kp, en, cm⟩ := M ν (fun x a b => kf.1 x (by omega)) hMν
            have hMω := hMν.to kf2
            obtain ⟨l1, l2⟩ := cl i.toNat (by omega)
            obtain ⟨m1, m2, m3, m4, _⟩ := cm i.toNat (by omega)
            have gν := kM.g10 hMν
            rw [kf.gi (by omega)] at gν
            have fin : kP μ ω := (kP.of_rows (kf.mono (by omega) (by omega))).trans kp
            have p18 := kaLv (kM.a104 hMω) (x := i) hi.1 (by omega) m1
            have p19 := kaLv (kM.a105 hMω) (x := i) hi.1 (by omega) m2
            have p20 := kaLv (kM.a106 hMω) (x := i) hi.1 (by omega) m3
            have p21 := kaLv (kM.a107 hMω) (x := i) hi.1 (by omega) m4
            have gm := hXν.f41.g (x := i) hi.1 (by omega)
            have gs := hXν.f45.g (x := i) hi.1 (by omega)
            have pm := X1_part (hXν.f41.f (j := i.toNat) (by omega)) l1.2.2.1 l1.2.2.2 hw
            have ps := X1_part (hXν.f45.f (j := i.toNat) (by omega)) l2.2.2.1 l2.2.2.2 hw
            have ym := (hXν.f41.f (j := i.toNat) (by omega)).1
            have ys := (hXν.f45.f (j := i.toNat) (by omega)).1
            have K : k = 0 ∨ k = 1 := by omega
            clear l1 l2 m1 m2 m3 m4 cl cm M
            generalize V i.toNat = v at *
            rcases K with rfl | rfl
            · rcases hw with rfl | rfl
              · refine ⟨(kl v.1.1, ν), (kl v.1.1, ω), ?_, fun j => congrFun (kf.1 0 (by omega)) j, ?_, rfl, h.to fin⟩
                · simp (disch := omega) only [f_X11_chain, b_X11_chain_100, f_X11_isTone, X11_within, krcv (kX.y1 hX), krcv (kX.y31 hX), krcv ym, kX.o1_3 hX, kX.o1_7 hX, kX.o1_7 hX0, kX.o1_7 hXν, kX.o31_4 hXν, kS.gn (kX.now hX), gx, e0, ip, hc, c1, c2, gm, pm, ki_0, ki_1, ki_2, ki_3, ki_4, ki_5, ki_6, ki_7, ki_8, ki_9, ki_10, ki_11, ki_12, ki_13, ki_18, ki_20, ki_24, ki_32, ki_36, ki_45, ki_47, ki_48, ki_50, ki_57, ki_60, ki_63, ki_99, ki_100, ki_101, ki_120, ki_255, ki_468, ki_1000, ki_1024, ki_13849, ki_25173, ki_65535, ki_65536, ki_100000, ki_100001, ki_2147483647, ki_2147483648, kl_0, kl_1, kl_2, kl_9223372036854775808, ki_add, ki_sub, ki_mul, ki_neg, kl_add, kl_sub, kl_mul, kl_neg, ki_i2l, kl_l2i, ki_lt, ki_le, ki_eq, kcmp_eq, kcmp_lt, kcmp_le, kcmp_gt, kcmp_ge, Option.bind_some, Option.map_some, kbool0, kbool1, if_pos, if_neg, if_true, if_false, Int.neg_neg, Int.sub_zero, Int.add_zero, Int.zero_add, true_and, and_true, false_and, and_false, false_or, or_false, true_or, or_true, ne_eq, not_false_eq_true, not_true_eq_false]
                · simp (disch := omega) only [f_X12_chain, b_X12_chain_77, X12_in, krcv (kM.y hM), gν, d1, kM.o18 hMω, p18, ki_0, ki_1, ki_2, ki_3, ki_4, ki_5, ki_6, ki_7, ki_8, ki_9, ki_10, ki_11, ki_12, ki_13, ki_18, ki_20, ki_24, ki_32, ki_36, ki_45, ki_47, ki_48, ki_50, ki_57, ki_60, ki_63, ki_99, ki_100, ki_101, ki_120, ki_255, ki_468, ki_1000, ki_1024, ki_13849, ki_25173, ki_65535, ki_65536, ki_100000, ki_100001, ki_2147483647, ki_2147483648, kl_0, kl_1, kl_2, kl_9223372036854775808, ki_add, ki_sub, ki_mul, ki_neg, kl_add, kl_sub, kl_mul, kl_neg, ki_i2l, kl_l2i, ki_lt, ki_le, ki_eq, kcmp_eq, kcmp_lt, kcmp_le, kcmp_gt, kcmp_ge, Option.bind_some, Option.map_some, kbool0, kbool1, if_pos, if_neg, if_true, if_false, Int.neg_neg, Int.sub_zero, Int.add_zero, Int.zero_add, true_and, and_true, false_and, and_false, false_or, or_false, true_or, or_true, ne_eq, not_false_eq_true, not_true_eq_false]
              · refine ⟨(kl v.1.2, ν), (kl v.1.2, ω), ?_, fun j => congrFun (kf.1 0 (by omega)) j, ?_, rfl, h.to fin⟩
                · simp (disch := omega) only [f_X11_chain, b_X11_chain_100, f_X11_isTone, X11_within, krcv (kX.y1 hX), krcv (kX.y31 hX), krcv ym, kX.o1_3 hX, kX.o1_7 hX, kX.o1_7 hX0, kX.o1_7 hXν, kX.o31_4 hXν, kS.gn (kX.now hX), gx, e0, ip, hc, c1, c2, gm, pm, ki_0, ki_1, ki_2, ki_3, ki_4, ki_5, ki_6, ki_7, ki_8, ki_9, ki_10, ki_11, ki_12, ki_13, ki_18, ki_20, ki_24, ki_32, ki_36, ki_45, ki_47, ki_48, ki_50, ki_57, ki_60, ki_63, ki_99, ki_100, ki_101, ki_120, ki_255, ki_468, ki_1000, ki_1024, ki_13849, ki_25173, ki_65535, ki_65536, ki_100000, ki_100001, ki_2147483647, ki_2147483648, kl_0, kl_1, kl_2, kl_9223372036854775808, ki_add, ki_sub, ki_mul, ki_neg, kl_add, kl_sub, kl_mul, kl_neg, ki_i2l, kl_l2i, ki_lt, ki_le, ki_eq, kcmp_eq, kcmp_lt, kcmp_le, kcmp_gt, kcmp_ge, Option.bind_some, Option.map_some, kbool0, kbool1, if_pos, if_neg, if_true, if_false, Int.neg_neg, Int.sub_zero, Int.add_zero, Int.zero_add, true_and, and_true, false_and, and_false, false_or, or_false, true_or, or_true, ne_eq, not_false_eq_true, not_true_eq_false]
                · simp (disch := omega) only [f_X12_chain, b_X12_chain_77, X12_in, krcv (kM.y hM), gν, d1, kM.o19 hMω, p19, ki_0, ki_1, ki_2, ki_3, ki_4, ki_5, ki_6, ki_7, ki_8, ki_9, ki_10, ki_11, ki_12, ki_13, ki_18, ki_20, ki_24, ki_32, ki_36, ki_45, ki_47, ki_48, ki_50, ki_57, ki_60, ki_63, ki_99, ki_100, ki_101, ki_120, ki_255, ki_468, ki_1000, ki_1024, ki_13849, ki_25173, ki_65535, ki_65536, ki_100000, ki_100001, ki_2147483647, ki_2147483648, kl_0, kl_1, kl_2, kl_9223372036854775808, ki_add, ki_sub, ki_mul, ki_neg, kl_add, kl_sub, kl_mul, kl_neg, ki_i2l, kl_l2i, ki_lt, ki_le, ki_eq, kcmp_eq, kcmp_lt, kcmp_le, kcmp_gt, kcmp_ge, Option.bind_some, Option.map_some, kbool0, kbool1, if_pos, if_neg, if_true, if_false, Int.neg_neg, Int.sub_zero, Int.add_zero, Int.zero_add, true_and, and_true, false_and, and_false, false_or, or_false, true_or, or_true, ne_eq, not_false_eq_true, not_true_eq_false]
            · rcases hw with rfl | rfl
              · refine ⟨(kl v.2.1, ν), (kl v.2.1, ω), ?_, fun j => congrFun (kf.1 0 (by omega)) j, ?_, rfl, h.to fin⟩
                · simp (disch := omega) only [f_X11_chain, b_X11_chain_100, f_X11_isTone, X11_within, krcv (kX.y1 hX), krcv (kX.y31 hX), krcv ys, kX.o1_3 hX, kX.o1_7 hX, kX.o1_7 hX0, kX.o1_7 hXν, kX.o31_5 hXν, kS.gn (kX.now hX), gx, e0, ip, hc, c1, c2, gs, ps, ki_0, ki_1, ki_2, ki_3, ki_4, ki_5, ki_6, ki_7, ki_8, ki_9, ki_10, ki_11, ki_12, ki_13, ki_18, ki_20, ki_24, ki_32, ki_36, ki_45, ki_47, ki_48, ki_50, ki_57, ki_60, ki_63, ki_99, ki_100, ki_101, ki_120, ki_255, ki_468, ki_1000, ki_1024, ki_13849, ki_25173, ki_65535, ki_65536, ki_100000, ki_100001, ki_2147483647, ki_2147483648, kl_0, kl_1, kl_2, kl_9223372036854775808, ki_add, ki_sub, ki_mul, ki_neg, kl_add, kl_sub, kl_mul, kl_neg, ki_i2l, kl_l2i, ki_lt, ki_le, ki_eq, kcmp_eq, kcmp_lt, kcmp_le, kcmp_gt, kcmp_ge, Option.bind_some, Option.map_some, kbool0, kbool1, if_pos, if_neg, if_true, if_false, Int.neg_neg, Int.sub_zero, Int.add_zero, Int.zero_add, true_and, and_true, false_and, and_false, false_or, or_false, true_or, or_true, ne_eq, not_false_eq_true, not_true_eq_false]
                · simp (disch := omega) only [f_X12_chain, b_X12_chain_97, X12_in, krcv (kM.y hM), gν, d1, kM.o20 hMω, p20, ki_0, ki_1, ki_2, ki_3, ki_4, ki_5, ki_6, ki_7, ki_8, ki_9, ki_10, ki_11, ki_12, ki_13, ki_18, ki_20, ki_24, ki_32, ki_36, ki_45, ki_47, ki_48, ki_50, ki_57, ki_60, ki_63, ki_99, ki_100, ki_101, ki_120, ki_255, ki_468, ki_1000, ki_1024, ki_13849, ki_25173, ki_65535, ki_65536, ki_100000, ki_100001, ki_2147483647, ki_2147483648, kl_0, kl_1, kl_2, kl_9223372036854775808, ki_add, ki_sub, ki_mul, ki_neg, kl_add, kl_sub, kl_mul, kl_neg, ki_i2l, kl_l2i, ki_lt, ki_le, ki_eq, kcmp_eq, kcmp_lt, kcmp_le, kcmp_gt, kcmp_ge, Option.bind_some, Option.map_some, kbool0, kbool1, if_pos, if_neg, if_true, if_false, Int.neg_neg, Int.sub_zero, Int.add_zero, Int.zero_add, true_and, and_true, false_and, and_false, false_or, or_false, true_or, or_true, ne_eq, not_false_eq_true, not_true_eq_false]
              · refine ⟨(kl v.2.2, ν), (kl v.2.2, ω), ?_, fun j => congrFun (kf.1 0 (by omega)) j, ?_, rfl, h.to fin⟩
                · simp (disch := omega) only [f_X11_chain, b_X11_chain_100, f_X11_isTone, X11_within, krcv (kX.y1 hX), krcv (kX.y31 hX), krcv ys, kX.o1_3 hX, kX.o1_7 hX, kX.o1_7 hX0, kX.o1_7 hXν, kX.o31_5 hXν, kS.gn (kX.now hX), gx, e0, ip, hc, c1, c2, gs, ps, ki_0, ki_1, ki_2, ki_3, ki_4, ki_5, ki_6, ki_7, ki_8, ki_9, ki_10, ki_11, ki_12, ki_13, ki_18, ki_20, ki_24, ki_32, ki_36, ki_45, ki_47, ki_48, ki_50, ki_57, ki_60, ki_63, ki_99, ki_100, ki_101, ki_120, ki_255, ki_468, ki_1000, ki_1024, ki_13849, ki_25173, ki_65535, ki_65536, ki_100000, ki_100001, ki_2147483647, ki_2147483648, kl_0, kl_1, kl_2, kl_9223372036854775808, ki_add, ki_sub, ki_mul, ki_neg, kl_add, kl_sub, kl_mul, kl_neg, ki_i2l, kl_l2i, ki_lt, ki_le, ki_eq, kcmp_eq, kcmp_lt, kcmp_le, kcmp_gt, kcmp_ge, Option.bind_some, Option.map_some, kbool0, kbool1, if_pos, if_neg, if_true, if_false, Int.neg_neg, Int.sub_zero, Int.add_zero, Int.zero_add, true_and, and_true, false_and, and_false, false_or, or_false, true_or, or_true, ne_eq, not_false_eq_true, not_true_eq_false]
                · simp (disch := omega) only [f_X12_chain, b_X12_chain_97, X12_in, krcv (kM.y hM), gν, d1, kM.o21 hMω, p21, ki_0, ki_1, ki_2, ki_3, ki_4, ki_5, ki_6, ki_7, ki_8, ki_9, ki_10, ki_11, ki_12, ki_13, ki_18, ki_20, ki_24, ki_32, ki_36, ki_45, ki_47, ki_48, ki_50, ki_57, ki_60, ki_63, ki_99, ki_100, ki_101, ki_120, ki_255, ki_468, ki_1000, ki_1024, ki_13849, ki_25173, ki_65535, ki_65536, ki_100000, ki_100001, ki_2147483647, ki_2147483648, kl_0, kl_1, kl_2, kl_9223372036854775808, ki_add, ki_sub, ki_mul, ki_neg, kl_add, kl_sub, kl_mul, kl_neg, ki_i2l, kl_l2i, ki_lt, ki_le, ki_eq, kcmp_eq, kcmp_lt, kcmp_le, kcmp_gt, kcmp_ge, Option.bind_some, Option.map_some, kbool0, kbool1, if_pos, if_neg, if_true, if_false, Int.neg_neg, Int.sub_zero, Int.add_zero, Int.zero_add, true_and, and_true, false_and, and_false, false_or, or_false, true_or, or_true, ne_eq, not_false_eq_true, not_true_eq_false]
          · rw [if_neg c] at hc
            have lc := X12_laysChain_no h hz c
            refine ⟨(kl (-2), μ), (kl (-2), μ), ?_, fun _ => rfl, ?_, rfl, h⟩
            · simp (disch := omega) only [f_X11_chain, f_X11_isTone, X11_within, krcv (kX.y1 hX), kX.o1_3 hX, kS.gn (kX.now hX), gx, e0, ip, hc, ki_0, ki_1, ki_2, ki_3, ki_4, ki_5, ki_6, ki_7, ki_8, ki_9, ki_10, ki_11, ki_12, ki_13, ki_18, ki_20, ki_24, ki_32, ki_36, ki_45, ki_47, ki_48, ki_50, ki_57, ki_60, ki_63, ki_99, ki_100, ki_101, ki_120, ki_255, ki_468, ki_1000, ki_1024, ki_13849, ki_25173, ki_65535, ki_65536, ki_100000, ki_100001, ki_2147483647, ki_2147483648, kl_0, kl_1, kl_2, kl_9223372036854775808, ki_add, ki_sub, ki_mul, ki_neg, kl_add, kl_sub, kl_mul, kl_neg, ki_i2l, kl_l2i, ki_lt, ki_le, ki_eq, kcmp_eq, kcmp_lt, kcmp_le, kcmp_gt, kcmp_ge, Option.bind_some, Option.map_some, kbool0, kbool1, if_pos, if_neg, if_true, if_false, Int.neg_neg, Int.sub_zero, Int.add_zero, Int.zero_add, true_and, and_true, false_and, and_false, false_or, or_false, true_or, or_true, ne_eq, not_false_eq_true, not_true_eq_false]
            · simp (disch := omega) only [f_X12_chain, X12_in, krcv (kM.y hM), g, lc, ki_0, ki_1, ki_2, ki_3, ki_4, ki_5, ki_6, ki_7, ki_8, ki_9, ki_10, ki_11, ki_12, ki_13, ki_18, ki_20, ki_24, ki_32, ki_36, ki_45, ki_47, ki_48, ki_50, ki_57, ki_60, ki_63, ki_99, ki_100, ki_101, ki_120, ki_255, ki_468, ki_1000, ki_1024, ki_13849, ki_25173, ki_65535, ki_65536, ki_100000, ki_100001, ki_2147483647, ki_2147483648, kl_0, kl_1, kl_2, kl_9223372036854775808, ki_add, ki_sub, ki_mul, ki_neg, kl_add, kl_sub, kl_mul, kl_neg, ki_i2l, kl_l2i, ki_lt, ki_le, ki_eq, kcmp_eq, kcmp_lt, kcmp_le, kcmp_gt, kcmp_ge, Option.bind_some, Option.map_some, kbool0, kbool1, if_pos, if_neg, if_true, if_false, Int.neg_neg, Int.sub_zero, Int.add_zero, Int.zero_add, true_and, and_true, false_and, and_false, false_or, or_false, true_or, or_true, ne_eq, not_false_eq_true, not_true_eq_false]
        · rw [if_neg hw] at ip
          refine ⟨(kl (-9223372036854775808), μ), (kl (-9223372036854775808), μ), ?_, fun _ => rfl, ?_, rfl, h⟩
          · simp (disch := omega) only [f_X11_chain, b_X11_chain_31, f_X11_isTone, X11_within, krcv (kX.y1 hX), kX.o1_3 hX, kS.gn (kX.now hX), gx, e0, ip, ki_0, ki_1, ki_2, ki_3, ki_4, ki_5, ki_6, ki_7, ki_8, ki_9, ki_10, ki_11, ki_12, ki_13, ki_18, ki_20, ki_24, ki_32, ki_36, ki_45, ki_47, ki_48, ki_50, ki_57, ki_60, ki_63, ki_99, ki_100, ki_101, ki_120, ki_255, ki_468, ki_1000, ki_1024, ki_13849, ki_25173, ki_65535, ki_65536, ki_100000, ki_100001, ki_2147483647, ki_2147483648, kl_0, kl_1, kl_2, kl_9223372036854775808, ki_add, ki_sub, ki_mul, ki_neg, kl_add, kl_sub, kl_mul, kl_neg, ki_i2l, kl_l2i, ki_lt, ki_le, ki_eq, kcmp_eq, kcmp_lt, kcmp_le, kcmp_gt, kcmp_ge, Option.bind_some, Option.map_some, kbool0, kbool1, if_pos, if_neg, if_true, if_false, Int.neg_neg, Int.sub_zero, Int.add_zero, Int.zero_add, true_and, and_true, false_and, and_false, false_or, or_false, true_or, or_true, ne_eq, not_false_eq_true, not_true_eq_false]
          · simp (disch := omega) only [f_X12_chain, b_X12_chain_39, X12_in, g, ki_0, ki_1, ki_2, ki_3, ki_4, ki_5, ki_6, ki_7, ki_8, ki_9, ki_10, ki_11, ki_12, ki_13, ki_18, ki_20, ki_24, ki_32, ki_36, ki_45, ki_47, ki_48, ki_50, ki_57, ki_60, ki_63, ki_99, ki_100, ki_101, ki_120, ki_255, ki_468, ki_1000, ki_1024, ki_13849, ki_25173, ki_65535, ki_65536, ki_100000, ki_100001, ki_2147483647, ki_2147483648, kl_0, kl_1, kl_2, kl_9223372036854775808, ki_add, ki_sub, ki_mul, ki_neg, kl_add, kl_sub, kl_mul, kl_neg, ki_i2l, kl_l2i, ki_lt, ki_le, ki_eq, kcmp_eq, kcmp_lt, kcmp_le, kcmp_gt, kcmp_ge, Option.bind_some, Option.map_some, kbool0, kbool1, if_pos, if_neg, if_true, if_false, Int.neg_neg, Int.sub_zero, Int.add_zero, Int.zero_add, true_and, and_true, false_and, and_false, false_or, or_false, true_or, or_true, ne_eq, not_false_eq_true, not_true_eq_false]
      · refine ⟨(kl (-9223372036854775808), μ), (kl (-9223372036854775808), μ), ?_, fun _ => rfl, ?_, rfl, h⟩
        · simp (disch := omega) only [f_X11_chain, b_X11_chain_31, f_X11_isTone, X11_within, krcv (kX.y1 hX), kX.o1_3 hX, kS.gn (kX.now hX), gx, e0, ki_0, ki_1, ki_2, ki_3, ki_4, ki_5, ki_6, ki_7, ki_8, ki_9, ki_10, ki_11, ki_12, ki_13, ki_18, ki_20, ki_24, ki_32, ki_36, ki_45, ki_47, ki_48, ki_50, ki_57, ki_60, ki_63, ki_99, ki_100, ki_101, ki_120, ki_255, ki_468, ki_1000, ki_1024, ki_13849, ki_25173, ki_65535, ki_65536, ki_100000, ki_100001, ki_2147483647, ki_2147483648, kl_0, kl_1, kl_2, kl_9223372036854775808, ki_add, ki_sub, ki_mul, ki_neg, kl_add, kl_sub, kl_mul, kl_neg, ki_i2l, kl_l2i, ki_lt, ki_le, ki_eq, kcmp_eq, kcmp_lt, kcmp_le, kcmp_gt, kcmp_ge, Option.bind_some, Option.map_some, kbool0, kbool1, if_pos, if_neg, if_true, if_false, Int.neg_neg, Int.sub_zero, Int.add_zero, Int.zero_add, true_and, and_true, false_and, and_false, false_or, or_false, true_or, or_true, ne_eq, not_false_eq_true, not_true_eq_false]
        · simp (disch := omega) only [f_X12_chain, b_X12_chain_39, X12_in, g, ki_0, ki_1, ki_2, ki_3, ki_4, ki_5, ki_6, ki_7, ki_8, ki_9, ki_10, ki_11, ki_12, ki_13, ki_18, ki_20, ki_24, ki_32, ki_36, ki_45, ki_47, ki_48, ki_50, ki_57, ki_60, ki_63, ki_99, ki_100, ki_101, ki_120, ki_255, ki_468, ki_1000, ki_1024, ki_13849, ki_25173, ki_65535, ki_65536, ki_100000, ki_100001, ki_2147483647, ki_2147483648, kl_0, kl_1, kl_2, kl_9223372036854775808, ki_add, ki_sub, ki_mul, ki_neg, kl_add, kl_sub, kl_mul, kl_neg, ki_i2l, kl_l2i, ki_lt, ki_le, ki_eq, kcmp_eq, kcmp_lt, kcmp_le, kcmp_gt, kcmp_ge, Option.bind_some, Option.map_some, kbool0, kbool1, if_pos, if_neg, if_true, if_false, Int.neg_neg, Int.sub_zero, Int.add_zero, Int.zero_add, true_and, and_true, false_and, and_false, false_or, or_false, true_or, or_true, ne_eq, not_false_eq_true, not_true_eq_false]
    · refine ⟨(kl (-9223372036854775808), μ), (kl (-9223372036854775808), μ), ?_, fun _ => rfl, ?_, rfl, h⟩
      · simp (disch := omega) only [f_X11_chain, b_X11_chain_31, X11_within, krcv (kX.y1 hX), e0, ki_0, ki_1, ki_2, ki_3, ki_4, ki_5, ki_6, ki_7, ki_8, ki_9, ki_10, ki_11, ki_12, ki_13, ki_18, ki_20, ki_24, ki_32, ki_36, ki_45, ki_47, ki_48, ki_50, ki_57, ki_60, ki_63, ki_99, ki_100, ki_101, ki_120, ki_255, ki_468, ki_1000, ki_1024, ki_13849, ki_25173, ki_65535, ki_65536, ki_100000, ki_100001, ki_2147483647, ki_2147483648, kl_0, kl_1, kl_2, kl_9223372036854775808, ki_add, ki_sub, ki_mul, ki_neg, kl_add, kl_sub, kl_mul, kl_neg, ki_i2l, kl_l2i, ki_lt, ki_le, ki_eq, kcmp_eq, kcmp_lt, kcmp_le, kcmp_gt, kcmp_ge, Option.bind_some, Option.map_some, kbool0, kbool1, if_pos, if_neg, if_true, if_false, Int.neg_neg, Int.sub_zero, Int.add_zero, Int.zero_add, true_and, and_true, false_and, and_false, false_or, or_false, true_or, or_true, ne_eq, not_false_eq_true, not_true_eq_false]
      · simp (disch := omega) only [f_X12_chain, b_X12_chain_39, X12_in, g, ki_0, ki_1, ki_2, ki_3, ki_4, ki_5, ki_6, ki_7, ki_8, ki_9, ki_10, ki_11, ki_12, ki_13, ki_18, ki_20, ki_24, ki_32, ki_36, ki_45, ki_47, ki_48, ki_50, ki_57, ki_60, ki_63, ki_99, ki_100, ki_101, ki_120, ki_255, ki_468, ki_1000, ki_1024, ki_13849, ki_25173, ki_65535, ki_65536, ki_100000, ki_100001, ki_2147483647, ki_2147483648, kl_0, kl_1, kl_2, kl_9223372036854775808, ki_add, ki_sub, ki_mul, ki_neg, kl_add, kl_sub, kl_mul, kl_neg, ki_i2l, kl_l2i, ki_lt, ki_le, ki_eq, kcmp_eq, kcmp_lt, kcmp_le, kcmp_gt, kcmp_ge, Option.bind_some, Option.map_some, kbool0, kbool1, if_pos, if_neg, if_true, if_false, Int.neg_neg, Int.sub_zero, Int.add_zero, Int.zero_add, true_and, and_true, false_and, and_false, false_or, or_false, true_or, or_true, ne_eq, not_false_eq_true, not_true_eq_false]
set_option maxHeartbeats 1000000 in
theorem ok_mass {L : Nat} {xs : Nat → Int32} {n : Nat} {Y : jY} {μ : jM} (h : Inv L xs n Y μ) : so_mass (Inv L xs) n Y μ := by
  have hX := h.x
  have hM := h.m
  intro a1
  obtain ⟨w, w1, w2, rfl⟩ := ki_is a1
  obtain ⟨q1, q2, q3, q4, q5⟩ := h.q
  have e0 := X11_hasTones hX
  have g := kM.g10 hM
  have gx := kN.gr hX.n10
  rw [q1] at e0 gx
  have ip := X11_isPart (Y := Y) (μ := μ) w1 w2
  have hc := X11_hasChain h
  by_cases hz : gi μ 95 10 = 0
  · refine ⟨(kl (-9223372036854775808), μ), (kl (-9223372036854775808), μ), ?_, fun _ => rfl, ?_, rfl, h⟩
    · simp (disch := omega) only [f_X11_mass, b_X11_mass_14, krcv (kX.y1 hX), e0, ki_0, ki_1, ki_2, ki_3, ki_4, ki_5, ki_6, ki_7, ki_8, ki_9, ki_10, ki_11, ki_12, ki_13, ki_18, ki_20, ki_24, ki_32, ki_36, ki_45, ki_47, ki_48, ki_50, ki_57, ki_60, ki_63, ki_99, ki_100, ki_101, ki_120, ki_255, ki_468, ki_1000, ki_1024, ki_13849, ki_25173, ki_65535, ki_65536, ki_100000, ki_100001, ki_2147483647, ki_2147483648, kl_0, kl_1, kl_2, kl_9223372036854775808, ki_add, ki_sub, ki_mul, ki_neg, kl_add, kl_sub, kl_mul, kl_neg, ki_i2l, kl_l2i, ki_lt, ki_le, ki_eq, kcmp_eq, kcmp_lt, kcmp_le, kcmp_gt, kcmp_ge, Option.bind_some, Option.map_some, kbool0, kbool1, if_pos, if_neg, if_true, if_false, Int.neg_neg, Int.sub_zero, Int.add_zero, Int.zero_add, true_and, and_true, false_and, and_false, false_or, or_false, true_or, or_true, ne_eq, not_false_eq_true, not_true_eq_false]
    · simp (disch := omega) only [f_X12_mass, b_X12_mass_16, g, ki_0, ki_1, ki_2, ki_3, ki_4, ki_5, ki_6, ki_7, ki_8, ki_9, ki_10, ki_11, ki_12, ki_13, ki_18, ki_20, ki_24, ki_32, ki_36, ki_45, ki_47, ki_48, ki_50, ki_57, ki_60, ki_63, ki_99, ki_100, ki_101, ki_120, ki_255, ki_468, ki_1000, ki_1024, ki_13849, ki_25173, ki_65535, ki_65536, ki_100000, ki_100001, ki_2147483647, ki_2147483648, kl_0, kl_1, kl_2, kl_9223372036854775808, ki_add, ki_sub, ki_mul, ki_neg, kl_add, kl_sub, kl_mul, kl_neg, ki_i2l, kl_l2i, ki_lt, ki_le, ki_eq, kcmp_eq, kcmp_lt, kcmp_le, kcmp_gt, kcmp_ge, Option.bind_some, Option.map_some, kbool0, kbool1, if_pos, if_neg, if_true, if_false, Int.neg_neg, Int.sub_zero, Int.add_zero, Int.zero_add, true_and, and_true, false_and, and_false, false_or, or_false, true_or, or_true, ne_eq, not_false_eq_true, not_true_eq_false]
  · by_cases hw : w = 0 ∨ w = 1
    · rw [if_pos hw] at ip
      by_cases c : 1 ≤ gi μ 95 10 ∧ gi μ 95 10 ≤ 3 ∧ 0 < gi μ 99 0
      · rw [if_pos c] at hc
        obtain ⟨N, V, sm, T, Tm, ν0, ν, N1, N3, eN, c1, hX0, c2, kf, cl, ⟨T0, Ts, TN⟩, ⟨U0, Us, UN⟩, M⟩ := h.chain hz c
        have hXν := hX.to kf
        have pre : ∀ (d i : Nat), i + d = N → ∃ s, T i = some s := by
          intro d
          induction d with
          | zero => intro i hi; rw [show i = N by omega]; exact ⟨_, TN⟩
          | succ d ih =>
            intro i hi
            obtain ⟨s, hs⟩ := ih (i + 1) (by omega)
            rw [Ts i (by omega), Option.bind_eq_some_iff] at hs
            obtain ⟨s', hs', _⟩ := hs
            exact ⟨s', hs'⟩
        have preM : ∀ (d i : Nat), i + d = N → ∃ s, Tm i = some s := by
          intro d
          induction d with
          | zero => intro i hi; rw [show i = N by omega]; exact ⟨_, UN⟩
          | succ d ih =>
            intro i hi
            obtain ⟨s, hs⟩ := ih (i + 1) (by omega)
            rw [Us i (by omega), Option.bind_eq_some_iff] at hs
            obtain ⟨s', hs', _⟩ := hs
            exact ⟨s', hs'⟩
        -- the class
        have S1 := X1_set1 hXν.f94 (t := 0) okb_0
        have k1 : kF 94 95 ν (frw ν 94 (0, 1)) := kF_fr hXν.f94 (by omega) (by omega)
        have f1 : frS (frw ν 94 (0, 1)) 94 (0, 1) := frS.w okb_0 okb_1
        generalize frw ν 94 (0, 1) = ν1 at *
        obtain ⟨r, d1, η, rfl, d2⟩ := jit_inv (f := fun (s : Int32 × jM) => b_X11_mass_61 Y 1 (ki w) s.1 s.2) (fun i z => z.1 = ki i ∧ kF 94 95 ν z.2 ∧ ∃ s, T i = some s ∧ frS z.2 94 s) (fun r => ∃ η, r = (kl (if w = 0 then sm.1 else sm.2), η) ∧ kF 94 95 ν η) N (s := ((0 : Int32), ν1)) ⟨rfl, k1, (0, 1), T0, f1⟩ (by omega) (fun i z hi hz => by
          obtain ⟨v, ξ⟩ := z
          obtain ⟨rfl, z1, s, z2, z3⟩ := hz
          simp only [] at z1 z3
          have hXz := hXν.to z1
          have gn := kN.gr hXz.n10
          rw [z1.gi (by omega), kf.gi (by omega), q1, eN] at gn
          by_cases e : i = N
          · subst e
            rw [TN] at z2
            cases z2
            have pt := X1_part hXz.f94 z3.2.2.1 z3.2.2.2 hw
            refine ⟨.inr (_, ξ), ?_, ξ, rfl, z1⟩
            generalize (if w = 0 then sm.1 else sm.2) = vv at *
            simp (disch := omega) only [b_X11_mass_61, kX.o1_3 hXz, kS.gn (kX.now hXz), gn, kX.o1_12 hXz, krcv hX.f94.1, pt, ki_0, ki_1, ki_2, ki_3, ki_4, ki_5, ki_6, ki_7, ki_8, ki_9, ki_10, ki_11, ki_12, ki_13, ki_18, ki_20, ki_24, ki_32, ki_36, ki_45, ki_47, ki_48, ki_50, ki_57, ki_60, ki_63, ki_99, ki_100, ki_101, ki_120, ki_255, ki_468, ki_1000, ki_1024, ki_13849, ki_25173, ki_65535, ki_65536, ki_100000, ki_100001, ki_2147483647, ki_2147483648, kl_0, kl_1, kl_2, kl_9223372036854775808, ki_add, ki_sub, ki_mul, ki_neg, kl_add, kl_sub, kl_mul, kl_neg, ki_i2l, kl_l2i, ki_lt, ki_le, ki_eq, kcmp_eq, kcmp_lt, kcmp_le, kcmp_gt, kcmp_ge, Option.bind_some, Option.map_some, kbool0, kbool1, if_pos, if_neg, if_true, if_false, Int.neg_neg, Int.sub_zero, Int.add_zero, Int.zero_add, true_and, and_true, false_and, and_false, false_or, or_false, true_or, or_true, ne_eq, not_false_eq_true, not_true_eq_false]
          · obtain ⟨s', t1⟩ := pre (N - (i + 1)) (i + 1) (by omega)
            have t2 := t1
            rw [Ts i (by omega), z2, Option.bind_some] at t2
            have gm := hXz.f41.g (x := (i : Int)) (by omega) (by omega)
            rw [Int.toNat_natCast] at gm
            have ad := X1_add hXz.f94 (hXz.f41.f (j := i) (by omega)) z3 ((cl i (by omega)).1.to z1 (by omega)) t2
            have so := aF_ok t2
            refine ⟨.inl (ki ((i + 1 : Nat) : Int), frw ξ 94 s'), ?_, by omega, rfl, z1.trans (kF_fr hXz.f94 (by omega) (by omega)), s', t1, frS.w so.1 so.2⟩
            simp (disch := omega) only [b_X11_mass_61, kX.o1_3 hXz, kS.gn (kX.now hXz), gn, kX.o1_12 hXz, kX.o1_7 hXz, hXz.o31_4, gm, krcv hX.f94.1, ad, ki_0, ki_1, ki_2, ki_3, ki_4, ki_5, ki_6, ki_7, ki_8, ki_9, ki_10, ki_11, ki_12, ki_13, ki_18, ki_20, ki_24, ki_32, ki_36, ki_45, ki_47, ki_48, ki_50, ki_57, ki_60, ki_63, ki_99, ki_100, ki_101, ki_120, ki_255, ki_468, ki_1000, ki_1024, ki_13849, ki_25173, ki_65535, ki_65536, ki_100000, ki_100001, ki_2147483647, ki_2147483648, kl_0, kl_1, kl_2, kl_9223372036854775808, ki_add, ki_sub, ki_mul, ki_neg, kl_add, kl_sub, kl_mul, kl_neg, ki_i2l, kl_l2i, ki_lt, ki_le, ki_eq, kcmp_eq, kcmp_lt, kcmp_le, kcmp_gt, kcmp_ge, Option.bind_some, Option.map_some, kbool0, kbool1, if_pos, if_neg, if_true, if_false, Int.neg_neg, Int.sub_zero, Int.add_zero, Int.zero_add, true_and, and_true, false_and, and_false, false_or, or_false, true_or, or_true, ne_eq, not_false_eq_true, not_true_eq_false, Int.natCast_add, Int.natCast_one])
        have kη : kF 27 95 μ η := (kf.mono (by omega) (by omega)).trans (d2.mono (by omega) (by omega))
        have hMη := hM.to kη
        obtain ⟨ω, m1, kf2, kp, en, cm⟩ := M η (fun x a b => kη.1 x (by omega)) hMη
        have hMω := hMη.to kf2
        have gη := kM.g10 hMη
        rw [kη.gi (by omega)] at gη
        -- the reference
        obtain ⟨ω1, s1, s2⟩ := X12_sets hMω (t := 0) (b := 1) okb_0 okb_1 (by omega)
        rw [fset_01] at s2
        obtain ⟨r2, x1, ζ, rfl, x2⟩ := jit_inv (f := fun (s : Int32 × jM) => b_X12_mass_39 Y 95 (ki w) s.1 s.2) (fun i z => z.1 = ki i ∧ ∃ s, Tm i = some s ∧ frm ω z.2 s ∧ okb s.1 ∧ okb s.2) (fun r => ∃ ζ, r = (kl (if w = 0 then sm.1 else sm.2), ζ) ∧ frx ω ζ) N (s := ((0 : Int32), ω1)) ⟨rfl, (0, 1), U0, s2, okb_0, okb_1⟩ (by omega) (fun i z hi hz => by
          obtain ⟨v, ξ⟩ := z
          obtain ⟨rfl, s, z2, z3, z4⟩ := hz
          simp only [] at z3
          have hMz := hMω.to z3.1
          have gn := kM.g10 hMz
          rw [z3.x.n, en] at gn
          by_cases e : i = N
          · subst e
            rw [UN] at z2
            cases z2
            have tl := X12_told_f hMz z3.2.2.1 z3.2.2.2 hw
            refine ⟨.inr (_, ξ), ?_, ξ, rfl, z3.x⟩
            generalize (if w = 0 then sm.1 else sm.2) = vv at *
            simp (disch := omega) only [b_X12_mass_39, gn, krcv hMz.y, tl, ki_0, ki_1, ki_2, ki_3, ki_4, ki_5, ki_6, ki_7, ki_8, ki_9, ki_10, ki_11, ki_12, ki_13, ki_18, ki_20, ki_24, ki_32, ki_36, ki_45, ki_47, ki_48, ki_50, ki_57, ki_60, ki_63, ki_99, ki_100, ki_101, ki_120, ki_255, ki_468, ki_1000, ki_1024, ki_13849, ki_25173, ki_65535, ki_65536, ki_100000, ki_100001, ki_2147483647, ki_2147483648, kl_0, kl_1, kl_2, kl_9223372036854775808, ki_add, ki_sub, ki_mul, ki_neg, kl_add, kl_sub, kl_mul, kl_neg, ki_i2l, kl_l2i, ki_lt, ki_le, ki_eq, kcmp_eq, kcmp_lt, kcmp_le, kcmp_gt, kcmp_ge, Option.bind_some, Option.map_some, kbool0, kbool1, if_pos, if_neg, if_true, if_false, Int.neg_neg, Int.sub_zero, Int.add_zero, Int.zero_add, true_and, and_true, false_and, and_false, false_or, or_false, true_or, or_true, ne_eq, not_false_eq_true, not_true_eq_false]
          · obtain ⟨s', t1⟩ := preM (N - (i + 1)) (i + 1) (by omega)
            have t2 := t1
            rw [Us i (by omega), z2, Option.bind_some] at t2
            obtain ⟨y1, y2, y3, y4, y5, _⟩ := cm i (by omega)
            have p1 := jaLn hMz.a104 (i := i) (by omega) (by rw [z3.1.1 104 (by omega)]; exact y1)
            have p2 := jaLn hMz.a105 (i := i) (by omega) (by rw [z3.1.1 105 (by omega)]; exact y2)
            obtain ⟨ξ2, a1, a2⟩ := X12_adds hMz z3.2.2.1 z3.2.2.2 z4.2 y5.1 y5.2 t2
            have so := aM_ok t2
            refine ⟨.inl (ki ((i + 1 : Nat) : Int), ξ2), ?_, by omega, rfl, s', t1, z3.trans a2, so⟩
            simp (disch := omega) only [b_X12_mass_39, gn, kM.o18 hMz, kM.o19 hMz, p1, p2, krcv hMz.y, a1, ki_0, ki_1, ki_2, ki_3, ki_4, ki_5, ki_6, ki_7, ki_8, ki_9, ki_10, ki_11, ki_12, ki_13, ki_18, ki_20, ki_24, ki_32, ki_36, ki_45, ki_47, ki_48, ki_50, ki_57, ki_60, ki_63, ki_99, ki_100, ki_101, ki_120, ki_255, ki_468, ki_1000, ki_1024, ki_13849, ki_25173, ki_65535, ki_65536, ki_100000, ki_100001, ki_2147483647, ki_2147483648, kl_0, kl_1, kl_2, kl_9223372036854775808, ki_add, ki_sub, ki_mul, ki_neg, kl_add, kl_sub, kl_mul, kl_neg, ki_i2l, kl_l2i, ki_lt, ki_le, ki_eq, kcmp_eq, kcmp_lt, kcmp_le, kcmp_gt, kcmp_ge, Option.bind_some, Option.map_some, kbool0, kbool1, if_pos, if_neg, if_true, if_false, Int.neg_neg, Int.sub_zero, Int.add_zero, Int.zero_add, true_and, and_true, false_and, and_false, false_or, or_false, true_or, or_true, ne_eq, not_false_eq_true, not_true_eq_false, Int.natCast_add, Int.natCast_one])
        refine ⟨(kl (if w = 0 then sm.1 else sm.2), η), (kl (if w = 0 then sm.1 else sm.2), ζ), ?_, fun j => congrFun (kη.1 0 (by omega)) j, ?_, rfl, h.to (((kP.of_rows (kη.mono (by omega) (by omega))).trans kp).trans x2.kP)⟩
        · rw [← d1]
          simp (disch := omega) only [f_X11_mass, krcv (kX.y1 hX), krcv (kX.y31 hX), krcv hX.f94.1, kX.o1_3 hX, kX.o1_7 hX, kX.o1_7 hX0, kX.o1_12 hXν, kS.gn (kX.now hX), gx, e0, ip, hc, c1, c2, S1, ki_0, ki_1, ki_2, ki_3, ki_4, ki_5, ki_6, ki_7, ki_8, ki_9, ki_10, ki_11, ki_12, ki_13, ki_18, ki_20, ki_24, ki_32, ki_36, ki_45, ki_47, ki_48, ki_50, ki_57, ki_60, ki_63, ki_99, ki_100, ki_101, ki_120, ki_255, ki_468, ki_1000, ki_1024, ki_13849, ki_25173, ki_65535, ki_65536, ki_100000, ki_100001, ki_2147483647, ki_2147483648, kl_0, kl_1, kl_2, kl_9223372036854775808, ki_add, ki_sub, ki_mul, ki_neg, kl_add, kl_sub, kl_mul, kl_neg, ki_i2l, kl_l2i, ki_lt, ki_le, ki_eq, kcmp_eq, kcmp_lt, kcmp_le, kcmp_gt, kcmp_ge, Option.bind_some, Option.map_some, kbool0, kbool1, if_pos, if_neg, if_true, if_false, Int.neg_neg, Int.sub_zero, Int.add_zero, Int.zero_add, true_and, and_true, false_and, and_false, false_or, or_false, true_or, or_true, ne_eq, not_false_eq_true, not_true_eq_false]
        · rw [← x1]
          simp (disch := omega) only [f_X12_mass, X12_in, krcv (kM.y hM), gη, m1, s1, ki_0, ki_1, ki_2, ki_3, ki_4, ki_5, ki_6, ki_7, ki_8, ki_9, ki_10, ki_11, ki_12, ki_13, ki_18, ki_20, ki_24, ki_32, ki_36, ki_45, ki_47, ki_48, ki_50, ki_57, ki_60, ki_63, ki_99, ki_100, ki_101, ki_120, ki_255, ki_468, ki_1000, ki_1024, ki_13849, ki_25173, ki_65535, ki_65536, ki_100000, ki_100001, ki_2147483647, ki_2147483648, kl_0, kl_1, kl_2, kl_9223372036854775808, ki_add, ki_sub, ki_mul, ki_neg, kl_add, kl_sub, kl_mul, kl_neg, ki_i2l, kl_l2i, ki_lt, ki_le, ki_eq, kcmp_eq, kcmp_lt, kcmp_le, kcmp_gt, kcmp_ge, Option.bind_some, Option.map_some, kbool0, kbool1, if_pos, if_neg, if_true, if_false, Int.neg_neg, Int.sub_zero, Int.add_zero, Int.zero_add, true_and, and_true, false_and, and_false, false_or, or_false, true_or, or_true, ne_eq, not_false_eq_true, not_true_eq_false]
      · rw [if_neg c] at hc
        have lc := X12_laysChain_no h hz c
        refine ⟨(kl (-2), μ), (kl (-2), μ), ?_, fun _ => rfl, ?_, rfl, h⟩
        · simp (disch := omega) only [f_X11_mass, krcv (kX.y1 hX), e0, ip, hc, ki_0, ki_1, ki_2, ki_3, ki_4, ki_5, ki_6, ki_7, ki_8, ki_9, ki_10, ki_11, ki_12, ki_13, ki_18, ki_20, ki_24, ki_32, ki_36, ki_45, ki_47, ki_48, ki_50, ki_57, ki_60, ki_63, ki_99, ki_100, ki_101, ki_120, ki_255, ki_468, ki_1000, ki_1024, ki_13849, ki_25173, ki_65535, ki_65536, ki_100000, ki_100001, ki_2147483647, ki_2147483648, kl_0, kl_1, kl_2, kl_9223372036854775808, ki_add, ki_sub, ki_mul, ki_neg, kl_add, kl_sub, kl_mul, kl_neg, ki_i2l, kl_l2i, ki_lt, ki_le, ki_eq, kcmp_eq, kcmp_lt, kcmp_le, kcmp_gt, kcmp_ge, Option.bind_some, Option.map_some, kbool0, kbool1, if_pos, if_neg, if_true, if_false, Int.neg_neg, Int.sub_zero, Int.add_zero, Int.zero_add, true_and, and_true, false_and, and_false, false_or, or_false, true_or, or_true, ne_eq, not_false_eq_true, not_true_eq_false]
        · simp (disch := omega) only [f_X12_mass, X12_in, krcv (kM.y hM), g, lc, ki_0, ki_1, ki_2, ki_3, ki_4, ki_5, ki_6, ki_7, ki_8, ki_9, ki_10, ki_11, ki_12, ki_13, ki_18, ki_20, ki_24, ki_32, ki_36, ki_45, ki_47, ki_48, ki_50, ki_57, ki_60, ki_63, ki_99, ki_100, ki_101, ki_120, ki_255, ki_468, ki_1000, ki_1024, ki_13849, ki_25173, ki_65535, ki_65536, ki_100000, ki_100001, ki_2147483647, ki_2147483648, kl_0, kl_1, kl_2, kl_9223372036854775808, ki_add, ki_sub, ki_mul, ki_neg, kl_add, kl_sub, kl_mul, kl_neg, ki_i2l, kl_l2i, ki_lt, ki_le, ki_eq, kcmp_eq, kcmp_lt, kcmp_le, kcmp_gt, kcmp_ge, Option.bind_some, Option.map_some, kbool0, kbool1, if_pos, if_neg, if_true, if_false, Int.neg_neg, Int.sub_zero, Int.add_zero, Int.zero_add, true_and, and_true, false_and, and_false, false_or, or_false, true_or, or_true, ne_eq, not_false_eq_true, not_true_eq_false]
    · rw [if_neg hw] at ip
      refine ⟨(kl (-9223372036854775808), μ), (kl (-9223372036854775808), μ), ?_, fun _ => rfl, ?_, rfl, h⟩
      · simp (disch := omega) only [f_X11_mass, b_X11_mass_14, krcv (kX.y1 hX), e0, ip, ki_0, ki_1, ki_2, ki_3, ki_4, ki_5, ki_6, ki_7, ki_8, ki_9, ki_10, ki_11, ki_12, ki_13, ki_18, ki_20, ki_24, ki_32, ki_36, ki_45, ki_47, ki_48, ki_50, ki_57, ki_60, ki_63, ki_99, ki_100, ki_101, ki_120, ki_255, ki_468, ki_1000, ki_1024, ki_13849, ki_25173, ki_65535, ki_65536, ki_100000, ki_100001, ki_2147483647, ki_2147483648, kl_0, kl_1, kl_2, kl_9223372036854775808, ki_add, ki_sub, ki_mul, ki_neg, kl_add, kl_sub, kl_mul, kl_neg, ki_i2l, kl_l2i, ki_lt, ki_le, ki_eq, kcmp_eq, kcmp_lt, kcmp_le, kcmp_gt, kcmp_ge, Option.bind_some, Option.map_some, kbool0, kbool1, if_pos, if_neg, if_true, if_false, Int.neg_neg, Int.sub_zero, Int.add_zero, Int.zero_add, true_and, and_true, false_and, and_false, false_or, or_false, true_or, or_true, ne_eq, not_false_eq_true, not_true_eq_false]
      · simp (disch := omega) only [f_X12_mass, b_X12_mass_16, X12_in, g, ki_0, ki_1, ki_2, ki_3, ki_4, ki_5, ki_6, ki_7, ki_8, ki_9, ki_10, ki_11, ki_12, ki_13, ki_18, ki_20, ki_24, ki_32, ki_36, ki_45, ki_47, ki_48, ki_50, ki_57, ki_60, ki_63, ki_99, ki_100, ki_101, ki_120, ki_255, ki_468, ki_1000, ki_1024, ki_13849, ki_25173, ki_65535, ki_65536, ki_100000, ki_100001, ki_2147483647, ki_2147483648, kl_0, kl_1, kl_2, kl_9223372036854775808, ki_add, ki_sub, ki_mul, ki_neg, kl_add, kl_sub, kl_mul, kl_neg, ki_i2l, kl_l2i, ki_lt, ki_le, ki_eq, kcmp_eq, kcmp_lt, kcmp_le, kcmp_gt, kcmp_ge, Option.bind_some, Option.map_some, kbool0, kbool1, if_pos, if_neg, if_true, if_false, Int.neg_neg, Int.sub_zero, Int.add_zero, Int.zero_add, true_and, and_true, false_and, and_false, false_or, or_false, true_or, or_true, ne_eq, not_false_eq_true, not_true_eq_false]
