/-! OPS: tones -/
set_option maxHeartbeats 1000000 in
theorem ok_tones {L : Nat} {xs : Nat → Int32} {n : Nat} {Y : jY} {μ : jM} (h : Inv L xs n Y μ) : so_tones (Inv L xs) n Y μ := by
  have hX := h.x
  have hM := h.m
  intro a1
  obtain ⟨k, k1, k2, rfl⟩ := ki_is a1
  obtain ⟨t1, t2, t3, t4⟩ := h.p
  have ht := X5_holdsText hX (k := k) (l := gi μ 2 1) rfl t2 t3 k1 k2
  have g1 := kM.g1 hM
  rw [← t1] at g1
  by_cases hk : 1 ≤ k ∧ k ≤ 60 ∧ k ≤ gi μ 2 1
  · rw [if_pos hk] at ht
    obtain ⟨r, c, d, f, g, ν, i1, i2, i3, i4, i5⟩ := h.scan (z := 1) (Or.inr rfl) hk.1 hk.2.1 hk.2.2
    have hX1 := hX.to i2
    have F2 : kF 2 7 ν (jw ν 2 1 (.int (ki 0))) := kF_I (kX.i2_1 hX1) (by omega) (by omega)
    have w2 := fun a x => gi_jw (μ := ν) (o := 2) (k := 1) (v := 0) a x (by omega) (by omega)
    have d2 : ∀ i, i ≠ 2 → jw ν 2 1 (.int (ki 0)) i = ν i := fun i hi => jw_cell hi
    have cl : f_X5_clear Y 2 ν = some (jw ν 2 1 (.int (ki 0))) := by
      simp (disch := omega) only [f_X5_clear, kX.p2 hX1, ki_0, ki_1, ki_2, ki_3, ki_4, ki_5, ki_6, ki_7, ki_8, ki_9, ki_10, ki_11, ki_12, ki_13, ki_18, ki_20, ki_24, ki_32, ki_36, ki_45, ki_47, ki_48, ki_50, ki_57, ki_60, ki_63, ki_99, ki_100, ki_101, ki_120, ki_255, ki_468, ki_1000, ki_1024, ki_13849, ki_25173, ki_65535, ki_65536, ki_100000, ki_100001, ki_2147483647, ki_2147483648, kl_0, kl_1, kl_2, kl_9223372036854775808, ki_add, ki_sub, ki_mul, ki_neg, kl_add, kl_sub, kl_mul, kl_neg, ki_i2l, kl_l2i, ki_lt, ki_le, ki_eq, kcmp_eq, kcmp_lt, kcmp_le, kcmp_gt, kcmp_ge, Option.bind_some, Option.map_some, kbool0, kbool1, if_pos, if_neg, if_true, if_false, Int.neg_neg, Int.sub_zero, Int.add_zero, Int.zero_add, true_and, and_true, false_and, and_false, false_or, or_false, true_or, or_true, ne_eq, not_false_eq_true, not_true_eq_false]
    generalize jw ν 2 1 (.int (ki 0)) = ν2 at *
    have hX2 := hX1.to F2
    have K2 : kF 2 7 μ ν2 := (i2.mono (by omega) (by omega)).trans F2
    have z0 : gi ν2 2 1 = 0 := by rw [w2, if_pos ⟨rfl, rfl⟩]
    by_cases r0 : r = 0
    · subst r0
      obtain ⟨sw, sd, s2, s3, s4, s5⟩ := i4 rfl
      obtain ⟨⟨_, _, c0, c5, d0, _, sc⟩, sf, sg⟩ := sw
      have sc := sc rfl
      obtain ⟨tk, tF, u0, u1, u2⟩ := X9_take hX2 (c := c) (by rw [gi_cell (d2 4 (by omega))]; exact s2) sc.1 (by omega)
      have hXt := hX2.to tF
      have gr := kN.gr hXt.n10
      rw [u0] at gr
      generalize tkN ν2 c = ξ at *
      have K3 : kF 2 13 μ ξ := (K2.mono (by omega) (by omega)).trans (tF.mono (by omega) (by omega))
      have hMξ := hM.to K3
      obtain ⟨ω, y1, y2, y3, y4, y5, y6⟩ := i5 ξ hMξ (K3.1 96 (by omega))
      obtain ⟨m8, m9, m97, m98⟩ := y6 rfl
      have hMω := hMξ.to y2
      obtain ⟨η, x1, x2, x3, x4, x5, x6, x7⟩ := X12_tk hMω (c := c) sc.1 (by omega)
      have g1ξ := kM.g1 hMξ
      rw [K3.gi (by omega), ← t1] at g1ξ
      have g8 := kM.g8 hMω
      rw [m8] at g8
      refine ⟨(ki c, ξ), (ki c, η), ?_, fun j => congrFun (K3.1 0 (by omega)) j, ?_, rfl, ?_⟩
      · clear i5 sf sg s4 s5 u1 u2
        simp (disch := omega) only [f_X11_tones, kX.o1_0 hX, kX.o1_1 hX, krcv hX.y2, krcv hX.y4, ht, i1, kX.o1_0 hX1, cl, kX.o1_3 hX2, kS.gn (kX.now hX2), kX.o1_1 hX2, krcv (kN.y hX2.n10), tk, kX.o1_3 hXt, kS.gn (kX.now hXt), gr, ki_0, ki_1, ki_2, ki_3, ki_4, ki_5, ki_6, ki_7, ki_8, ki_9, ki_10, ki_11, ki_12, ki_13, ki_18, ki_20, ki_24, ki_32, ki_36, ki_45, ki_47, ki_48, ki_50, ki_57, ki_60, ki_63, ki_99, ki_100, ki_101, ki_120, ki_255, ki_468, ki_1000, ki_1024, ki_13849, ki_25173, ki_65535, ki_65536, ki_100000, ki_100001, ki_2147483647, ki_2147483648, kl_0, kl_1, kl_2, kl_9223372036854775808, ki_add, ki_sub, ki_mul, ki_neg, kl_add, kl_sub, kl_mul, kl_neg, ki_i2l, kl_l2i, ki_lt, ki_le, ki_eq, kcmp_eq, kcmp_lt, kcmp_le, kcmp_gt, kcmp_ge, Option.bind_some, Option.map_some, kbool0, kbool1, if_pos, if_neg, if_true, if_false, Int.neg_neg, Int.sub_zero, Int.add_zero, Int.zero_add, true_and, and_true, false_and, and_false, false_or, or_false, true_or, or_true, ne_eq, not_false_eq_true, not_true_eq_false]
      · have B : ∃ q : Int32 × jM, f_X12_begins Y 95 (ki k) ξ = some q ∧ f_X12_reads Y 95 (ki 1) q.2 = some (ki 0, ω) := by
          cases e : f_X12_begins Y 95 (ki k) ξ with
          | none => rw [e] at y1; cases y1
          | some q => rw [e] at y1; exact ⟨q, rfl, y1⟩
        obtain ⟨q, q1, q2⟩ := B
        clear i5 sf sg s4 s5 u1 u2 x6 x7 m97 m98
        simp (disch := omega) only [f_X12_tones, X12_in, g1ξ, krcv hM.y, q1, q2, g8, kM.p hMω, ki_0, ki_1, ki_2, ki_3, ki_4, ki_5, ki_6, ki_7, ki_8, ki_9, ki_10, ki_11, ki_12, ki_13, ki_18, ki_20, ki_24, ki_32, ki_36, ki_45, ki_47, ki_48, ki_50, ki_57, ki_60, ki_63, ki_99, ki_100, ki_101, ki_120, ki_255, ki_468, ki_1000, ki_1024, ki_13849, ki_25173, ki_65535, ki_65536, ki_100000, ki_100001, ki_2147483647, ki_2147483648, kl_0, kl_1, kl_2, kl_9223372036854775808, ki_add, ki_sub, ki_mul, ki_neg, kl_add, kl_sub, kl_mul, kl_neg, ki_i2l, kl_l2i, ki_lt, ki_le, ki_eq, kcmp_eq, kcmp_lt, kcmp_le, kcmp_gt, kcmp_ge, Option.bind_some, Option.map_some, kbool0, kbool1, if_pos, if_neg, if_true, if_false, Int.neg_neg, Int.sub_zero, Int.add_zero, Int.zero_add, true_and, and_true, false_and, and_false, false_or, or_false, true_or, or_true, ne_eq, not_false_eq_true, not_true_eq_false]
        exact x1
      · refine Inv.updPN (μ' := η) h ((K3.mono (by omega) (by omega)).trans ((y2.mono (by omega) (by omega)).trans (x2.mono (by omega) (by omega)))) (fun i hi a1 a2 a3 a4 a5 a6 a7 a8 => ?_) ?_ ?_ ?_
        · unfold pers at hi
          by_cases l : i < 95
          · rw [x2.1 i (by omega), y2.1 i (by omega), tF.1 i (by omega), F2.1 i (by omega), i2.1 i (by omega)]
          · rw [x2.1 i (by omega), y2.1 i (by omega), K3.1 i (by omega)]
        · rw [x3 25 (by omega), y4 25 (by omega), K3.1 95 (by omega)]
        · have e1 : gi η 95 1 = gi ω 95 1 := gi_slot (k := 1) (x3 1 (by omega))
          have e2 : gi η 2 1 = 0 := by rw [x2.gi (by omega), y2.gi (by omega), tF.gi (by omega)]; exact z0
          unfold relP
          rw [e1, y5, e2]
          exact ⟨rfl, by omega, by omega, fun x p q => by omega⟩
        · unfold relQ
          rw [x5, x2.gi (i := 10) (by omega), y2.gi (i := 10) (by omega), u0]
          have l11 : ∀ x : Int, 0 ≤ x → x < c → gi η 11 x = f x := fun x p q => by rw [x2.gi (by omega), y2.gi (by omega), u1 x p q, gi_cell (d2 5 (by omega)), s4 x p q]
          have l12 : ∀ x : Int, 0 ≤ x → x < c - 1 → gi η 12 x = g x := fun x p q => by rw [x2.gi (by omega), y2.gi (by omega), u2 x p q, gi_cell (d2 6 (by omega)), s5 x p (by omega)]
          have l99 : ∀ x : Int, 0 ≤ x → x < c → gi η 99 x = f x := fun x p q => by rw [x6 x p q, m97 x p q]
          have l100 : ∀ x : Int, 0 ≤ x → x < c - 1 → gi η 100 x = g x := fun x p q => by rw [x7 x p q, m98 x p (by omega)]
          refine ⟨rfl, by omega, by omega, fun x p q => ?_, fun x p q => ?_⟩
          · rw [l11 x p q, l99 x p q]
            exact ⟨rfl, sf x p q⟩
          · rw [l12 x p q, l100 x p q, l99 x p (by omega), l99 (x + 1) (by omega) (by omega)]
            exact ⟨rfl, (sg x p (by omega)).2.2 rfl⟩
    · have hMν := hM.to K2
      obtain ⟨ω, y1, y2, y3, y4, y5, _⟩ := i5 ν2 hMν (K2.1 96 (by omega))
      have g1ν := kM.g1 hMν
      rw [K2.gi (by omega), ← t1] at g1ν
      refine ⟨(ki r, ν2), (ki r, ω), ?_, fun j => congrFun (K2.1 0 (by omega)) j, ?_, rfl, ?_⟩
      · clear i5 i4
        simp (disch := omega) only [f_X11_tones, kX.o1_0 hX, kX.o1_1 hX, krcv hX.y2, krcv hX.y4, ht, i1, kX.o1_0 hX1, cl, ki_0, ki_1, ki_2, ki_3, ki_4, ki_5, ki_6, ki_7, ki_8, ki_9, ki_10, ki_11, ki_12, ki_13, ki_18, ki_20, ki_24, ki_32, ki_36, ki_45, ki_47, ki_48, ki_50, ki_57, ki_60, ki_63, ki_99, ki_100, ki_101, ki_120, ki_255, ki_468, ki_1000, ki_1024, ki_13849, ki_25173, ki_65535, ki_65536, ki_100000, ki_100001, ki_2147483647, ki_2147483648, kl_0, kl_1, kl_2, kl_9223372036854775808, ki_add, ki_sub, ki_mul, ki_neg, kl_add, kl_sub, kl_mul, kl_neg, ki_i2l, kl_l2i, ki_lt, ki_le, ki_eq, kcmp_eq, kcmp_lt, kcmp_le, kcmp_gt, kcmp_ge, Option.bind_some, Option.map_some, kbool0, kbool1, if_pos, if_neg, if_true, if_false, Int.neg_neg, Int.sub_zero, Int.add_zero, Int.zero_add, true_and, and_true, false_and, and_false, false_or, or_false, true_or, or_true, ne_eq, not_false_eq_true, not_true_eq_false]
      · have B : ∃ q : Int32 × jM, f_X12_begins Y 95 (ki k) ν2 = some q ∧ f_X12_reads Y 95 (ki 1) q.2 = some (ki r, ω) := by
          cases e : f_X12_begins Y 95 (ki k) ν2 with
          | none => rw [e] at y1; cases y1
          | some q => rw [e] at y1; exact ⟨q, rfl, y1⟩
        obtain ⟨q, q1, q2⟩ := B
        clear i5 i4
        simp (disch := omega) only [f_X12_tones, X12_in, g1ν, krcv hM.y, q1, q2, ki_0, ki_1, ki_2, ki_3, ki_4, ki_5, ki_6, ki_7, ki_8, ki_9, ki_10, ki_11, ki_12, ki_13, ki_18, ki_20, ki_24, ki_32, ki_36, ki_45, ki_47, ki_48, ki_50, ki_57, ki_60, ki_63, ki_99, ki_100, ki_101, ki_120, ki_255, ki_468, ki_1000, ki_1024, ki_13849, ki_25173, ki_65535, ki_65536, ki_100000, ki_100001, ki_2147483647, ki_2147483648, kl_0, kl_1, kl_2, kl_9223372036854775808, ki_add, ki_sub, ki_mul, ki_neg, kl_add, kl_sub, kl_mul, kl_neg, ki_i2l, kl_l2i, ki_lt, ki_le, ki_eq, kcmp_eq, kcmp_lt, kcmp_le, kcmp_gt, kcmp_ge, Option.bind_some, Option.map_some, kbool0, kbool1, if_pos, if_neg, if_true, if_false, Int.neg_neg, Int.sub_zero, Int.add_zero, Int.zero_add, true_and, and_true, false_and, and_false, false_or, or_false, true_or, or_true, ne_eq, not_false_eq_true, not_true_eq_false]
      · refine Inv.updP (μ' := ω) h ((K2.mono (by omega) (by omega)).trans (y2.mono (by omega) (by omega))) (fun i hi a1 a2 a3 => ?_) ?_ ?_ ?_
        · unfold pers at hi
          rw [y2.1 i (by omega), K2.1 i (by omega)]
        · rw [y4 10 (by omega), K2.1 95 (by omega)]
        · rw [y4 25 (by omega), K2.1 95 (by omega)]
        · unfold relP
          rw [y5, y2.gi (by omega), z0]
          exact ⟨rfl, by omega, by omega, fun x p q => by omega⟩
  · rw [if_neg hk] at ht
    refine ⟨(ki (-1), μ), (ki (-1), μ), ?_, fun _ => rfl, ?_, rfl, h⟩
    · simp (disch := omega) only [f_X11_tones, kX.o1_0 hX, krcv hX.y2, ht, ki_0, ki_1, ki_2, ki_3, ki_4, ki_5, ki_6, ki_7, ki_8, ki_9, ki_10, ki_11, ki_12, ki_13, ki_18, ki_20, ki_24, ki_32, ki_36, ki_45, ki_47, ki_48, ki_50, ki_57, ki_60, ki_63, ki_99, ki_100, ki_101, ki_120, ki_255, ki_468, ki_1000, ki_1024, ki_13849, ki_25173, ki_65535, ki_65536, ki_100000, ki_100001, ki_2147483647, ki_2147483648, kl_0, kl_1, kl_2, kl_9223372036854775808, ki_add, ki_sub, ki_mul, ki_neg, kl_add, kl_sub, kl_mul, kl_neg, ki_i2l, kl_l2i, ki_lt, ki_le, ki_eq, kcmp_eq, kcmp_lt, kcmp_le, kcmp_gt, kcmp_ge, Option.bind_some, Option.map_some, kbool0, kbool1, if_pos, if_neg, if_true, if_false, Int.neg_neg, Int.sub_zero, Int.add_zero, Int.zero_add, true_and, and_true, false_and, and_false, false_or, or_false, true_or, or_true, ne_eq, not_false_eq_true, not_true_eq_false]
    · by_cases a : 1 ≤ k ∧ k ≤ 60
      · simp (disch := omega) only [f_X12_tones, b_X12_tones_18, X12_in, g1, ki_0, ki_1, ki_2, ki_3, ki_4, ki_5, ki_6, ki_7, ki_8, ki_9, ki_10, ki_11, ki_12, ki_13, ki_18, ki_20, ki_24, ki_32, ki_36, ki_45, ki_47, ki_48, ki_50, ki_57, ki_60, ki_63, ki_99, ki_100, ki_101, ki_120, ki_255, ki_468, ki_1000, ki_1024, ki_13849, ki_25173, ki_65535, ki_65536, ki_100000, ki_100001, ki_2147483647, ki_2147483648, kl_0, kl_1, kl_2, kl_9223372036854775808, ki_add, ki_sub, ki_mul, ki_neg, kl_add, kl_sub, kl_mul, kl_neg, ki_i2l, kl_l2i, ki_lt, ki_le, ki_eq, kcmp_eq, kcmp_lt, kcmp_le, kcmp_gt, kcmp_ge, Option.bind_some, Option.map_some, kbool0, kbool1, if_pos, if_neg, if_true, if_false, Int.neg_neg, Int.sub_zero, Int.add_zero, Int.zero_add, true_and, and_true, false_and, and_false, false_or, or_false, true_or, or_true, ne_eq, not_false_eq_true, not_true_eq_false]
      · simp (disch := omega) only [f_X12_tones, b_X12_tones_18, X12_in, ki_0, ki_1, ki_2, ki_3, ki_4, ki_5, ki_6, ki_7, ki_8, ki_9, ki_10, ki_11, ki_12, ki_13, ki_18, ki_20, ki_24, ki_32, ki_36, ki_45, ki_47, ki_48, ki_50, ki_57, ki_60, ki_63, ki_99, ki_100, ki_101, ki_120, ki_255, ki_468, ki_1000, ki_1024, ki_13849, ki_25173, ki_65535, ki_65536, ki_100000, ki_100001, ki_2147483647, ki_2147483648, kl_0, kl_1, kl_2, kl_9223372036854775808, ki_add, ki_sub, ki_mul, ki_neg, kl_add, kl_sub, kl_mul, kl_neg, ki_i2l, kl_l2i, ki_lt, ki_le, ki_eq, kcmp_eq, kcmp_lt, kcmp_le, kcmp_gt, kcmp_ge, Option.bind_some, Option.map_some, kbool0, kbool1, if_pos, if_neg, if_true, if_false, Int.neg_neg, Int.sub_zero, Int.add_zero, Int.zero_add, true_and, and_true, false_and, and_false, false_or, or_false, true_or, or_true, ne_eq, not_false_eq_true, not_true_eq_false]
/-! OPS: write -/
noncomputable def tkT (ν : jM) (o : Nat) (c : Int) : jM := wr (wr (jw ν o 0 (.int (ki c))) (o + 1) 0 (gi ν 5) 5) (o + 2) 0 (gi ν 6) 4
theorem X10_take2 {Y : jY} {ξ : jM} {o : Nat} (hX : kX Y ξ) (hT : kT Y ξ o) (ho : 7 ≤ o) (o9 : o ≤ 90) : jit jF (fun (s : Int32 × jM) => b_X10_take_35 Y o 4 s.1 s.2) (ki 0, ξ) = some (wr ξ (o + 2) 0 (gi ξ 6) 4) := by
  refine jit_run (fun i => (ki i, wr ξ (o + 2) 0 (gi ξ 6) i)) _ 4 rfl (by omega) (fun i hi => ?_) ?_
  · have k3 : kF o (o + 3) ξ (wr ξ (o + 2) 0 (gi ξ 6) i) := wr_kF (by omega) (by omega) i (fun j hj => hT.ac.2.2.2 _ (by omega))
    simp only [wr]
    generalize wr ξ (o + 2) 0 (gi ξ 6) i = ν at *
    have hXν := hX.to k3
    have hTν := hT.to k3
    have e1 := kaI hXν.a6 (x := (i : Int)) (by omega) (by omega)
    rw [k3.gi (by omega)] at e1
    have e2 := fun v => kasI (v := v) hTν.ac (x := (i : Int)) (by omega) (by omega)
    simp (disch := omega) only [b_X10_take_35, kT.gc hTν, kX.o4_1 hXν, e1, e2, ki_0, ki_1, ki_2, ki_3, ki_4, ki_5, ki_6, ki_7, ki_8, ki_9, ki_10, ki_11, ki_12, ki_13, ki_18, ki_20, ki_24, ki_32, ki_36, ki_45, ki_47, ki_48, ki_50, ki_57, ki_60, ki_63, ki_99, ki_100, ki_101, ki_120, ki_255, ki_468, ki_1000, ki_1024, ki_13849, ki_25173, ki_65535, ki_65536, ki_100000, ki_100001, ki_2147483647, ki_2147483648, kl_0, kl_1, kl_2, kl_9223372036854775808, ki_add, ki_sub, ki_mul, ki_neg, kl_add, kl_sub, kl_mul, kl_neg, ki_i2l, kl_l2i, ki_lt, ki_le, ki_eq, kcmp_eq, kcmp_lt, kcmp_le, kcmp_gt, kcmp_ge, Option.bind_some, Option.map_some, kbool0, kbool1, if_pos, if_neg, if_true, if_false, Int.neg_neg, Int.sub_zero, Int.add_zero, Int.zero_add, true_and, and_true, false_and, and_false, false_or, or_false, true_or, or_true, ne_eq, not_false_eq_true, not_true_eq_false, Int.natCast_add, Int.natCast_one, Int.toNat_natCast, Nat.zero_add]
  · generalize wr ξ (o + 2) 0 (gi ξ 6) 4 = ν at *
    simp (disch := omega) only [b_X10_take_35, ki_0, ki_1, ki_2, ki_3, ki_4, ki_5, ki_6, ki_7, ki_8, ki_9, ki_10, ki_11, ki_12, ki_13, ki_18, ki_20, ki_24, ki_32, ki_36, ki_45, ki_47, ki_48, ki_50, ki_57, ki_60, ki_63, ki_99, ki_100, ki_101, ki_120, ki_255, ki_468, ki_1000, ki_1024, ki_13849, ki_25173, ki_65535, ki_65536, ki_100000, ki_100001, ki_2147483647, ki_2147483648, kl_0, kl_1, kl_2, kl_9223372036854775808, ki_add, ki_sub, ki_mul, ki_neg, kl_add, kl_sub, kl_mul, kl_neg, ki_i2l, kl_l2i, ki_lt, ki_le, ki_eq, kcmp_eq, kcmp_lt, kcmp_le, kcmp_gt, kcmp_ge, Option.bind_some, Option.map_some, kbool0, kbool1, if_pos, if_neg, if_true, if_false, Int.neg_neg, Int.sub_zero, Int.add_zero, Int.zero_add, true_and, and_true, false_and, and_false, false_or, or_false, true_or, or_true, ne_eq, not_false_eq_true, not_true_eq_false]
theorem X10_take1 {Y : jY} {ν : jM} {o : Nat} (hX : kX Y ν) (hT : kT Y ν o) (ho : 7 ≤ o) (o9 : o ≤ 90) : jit jF (fun (s : Int32 × jM) => b_X10_take_10 Y o 4 s.1 s.2) (ki 0, ν) = some (wr (wr ν (o + 1) 0 (gi ν 5) 5) (o + 2) 0 (gi ν 6) 4) := by
  refine jit_run (fun i => (ki i, wr ν (o + 1) 0 (gi ν 5) i)) _ 5 rfl (by omega) (fun i hi => ?_) ?_
  · have k3 : kF o (o + 3) ν (wr ν (o + 1) 0 (gi ν 5) i) := wr_kF (by omega) (by omega) i (fun j hj => hT.aa.2.2.2 _ (by omega))
    simp only [wr]
    generalize wr ν (o + 1) 0 (gi ν 5) i = ξ at *
    have hXξ := hX.to k3
    have hTξ := hT.to k3
    have e1 := kaI hXξ.a5 (x := (i : Int)) (by omega) (by omega)
    rw [k3.gi (by omega)] at e1
    have e2 := fun v => kasI (v := v) hTξ.aa (x := (i : Int)) (by omega) (by omega)
    simp (disch := omega) only [b_X10_take_10, kT.ga hTξ, kX.o4_0 hXξ, e1, e2, ki_0, ki_1, ki_2, ki_3, ki_4, ki_5, ki_6, ki_7, ki_8, ki_9, ki_10, ki_11, ki_12, ki_13, ki_18, ki_20, ki_24, ki_32, ki_36, ki_45, ki_47, ki_48, ki_50, ki_57, ki_60, ki_63, ki_99, ki_100, ki_101, ki_120, ki_255, ki_468, ki_1000, ki_1024, ki_13849, ki_25173, ki_65535, ki_65536, ki_100000, ki_100001, ki_2147483647, ki_2147483648, kl_0, kl_1, kl_2, kl_9223372036854775808, ki_add, ki_sub, ki_mul, ki_neg, kl_add, kl_sub, kl_mul, kl_neg, ki_i2l, kl_l2i, ki_lt, ki_le, ki_eq, kcmp_eq, kcmp_lt, kcmp_le, kcmp_gt, kcmp_ge, Option.bind_some, Option.map_some, kbool0, kbool1, if_pos, if_neg, if_true, if_false, Int.neg_neg, Int.sub_zero, Int.add_zero, Int.zero_add, true_and, and_true, false_and, and_false, false_or, or_false, true_or, or_true, ne_eq, not_false_eq_true, not_true_eq_false, Int.natCast_add, Int.natCast_one, Int.toNat_natCast, Nat.zero_add]
  · have k3 : kF o (o + 3) ν (wr ν (o + 1) 0 (gi ν 5) 5) := wr_kF (by omega) (by omega) _ (fun j hj => hT.aa.2.2.2 _ (by omega))
    have v6 : gi (wr ν (o + 1) 0 (gi ν 5) 5) 6 = gi ν 6 := funext (fun x => wr_other (by omega) _ x)
    generalize wr ν (o + 1) 0 (gi ν 5) 5 = ξ at *
    have T := X10_take2 (hX.to k3) (hT.to k3) ho o9
    rw [v6] at T
    have e : b_X10_take_10 Y o 4 (ki ((5 : Nat) : Int)) ξ = (jit jF (fun (s : Int32 × jM) => b_X10_take_35 Y o 4 s.1 s.2) (ki 0, ξ)).map (fun r => (Sum.inr r : (Int32 × jM) ⊕ jM)) := rfl
    simp only [e, T]
    rfl
theorem X10_take {Y : jY} {ν : jM} {o : Nat} (hX : kX Y ν) (hT : kT Y ν o) (ho : 7 ≤ o) (o9 : o ≤ 90) {c : Int} (e0 : gi ν 4 2 = c) (c0 : 0 ≤ c) (c5 : c ≤ 5) : f_X10_take Y o 4 ν = some (tkT ν o c) ∧ kF o (o + 3) ν (tkT ν o c) ∧ gi (tkT ν o c) o 0 = c ∧ (∀ x : Int, 0 ≤ x → x < 5 → gi (tkT ν o c) (o + 1) x = gi ν 5 x) ∧ ∀ x : Int, 0 ≤ x → x < 4 → gi (tkT ν o c) (o + 2) x = gi ν 6 x := by
  have F1 : kF o (o + 3) ν (jw ν o 0 (.int (ki c))) := kF_I hT.ir (by omega) (by omega)
  have g2 := kX.g4_2 hX
  rw [e0] at g2
  unfold tkT
  have w0 : gi (jw ν o 0 (.int (ki c))) o 0 = c := by rw [gi_jw _ _ (by omega) (by omega), if_pos ⟨rfl, rfl⟩]
  have w5 : gi (jw ν o 0 (.int (ki c))) 5 = gi ν 5 := funext (fun x => gi_cell (jw_cell (by omega)) x)
  have w6 : gi (jw ν o 0 (.int (ki c))) 6 = gi ν 6 := funext (fun x => gi_cell (jw_cell (by omega)) x)
  have hX1 := hX.to F1
  have hT1 := hT.to F1
  have pr := kT.pr hT (.int (ki c))
  generalize jw ν o 0 (.int (ki c)) = ν1 at *
  have T := X10_take1 hX1 hT1 ho o9
  rw [w5, w6] at T
  have k2 : kF o (o + 3) ν1 (wr ν1 (o + 1) 0 (gi ν 5) 5) := wr_kF (by omega) (by omega) _ (fun j hj => hT1.aa.2.2.2 _ (by omega))
  have k3 : kF o (o + 3) (wr ν1 (o + 1) 0 (gi ν 5) 5) (wr (wr ν1 (o + 1) 0 (gi ν 5) 5) (o + 2) 0 (gi ν 6) 4) := wr_kF (by omega) (by omega) _ (fun j hj => (hT1.to k2).ac.2.2.2 _ (by omega))
  refine ⟨?_, (F1.trans k2).trans k3, ?_, fun x x1 x2 => ?_, fun x x1 x2 => ?_⟩
  · clear w0
    simp (disch := omega) only [f_X10_take, g2, pr, ki_0, ki_1, ki_2, ki_3, ki_4, ki_5, ki_6, ki_7, ki_8, ki_9, ki_10, ki_11, ki_12, ki_13, ki_18, ki_20, ki_24, ki_32, ki_36, ki_45, ki_47, ki_48, ki_50, ki_57, ki_60, ki_63, ki_99, ki_100, ki_101, ki_120, ki_255, ki_468, ki_1000, ki_1024, ki_13849, ki_25173, ki_65535, ki_65536, ki_100000, ki_100001, ki_2147483647, ki_2147483648, kl_0, kl_1, kl_2, kl_9223372036854775808, ki_add, ki_sub, ki_mul, ki_neg, kl_add, kl_sub, kl_mul, kl_neg, ki_i2l, kl_l2i, ki_lt, ki_le, ki_eq, kcmp_eq, kcmp_lt, kcmp_le, kcmp_gt, kcmp_ge, Option.bind_some, Option.map_some, kbool0, kbool1, if_pos, if_neg, if_true, if_false, Int.neg_neg, Int.sub_zero, Int.add_zero, Int.zero_add, true_and, and_true, false_and, and_false, false_or, or_false, true_or, or_true, ne_eq, not_false_eq_true, not_true_eq_false]
    exact T
  · rw [wr_other (by omega), wr_other (by omega)]
    exact w0
  · rw [wr_other (by omega), wr_gi _ (fun j _ => ⟨gi_lo _ _ _, gi_hi _ _ _⟩) x x1, if_pos (by omega), Int.natCast_zero, Int.sub_zero]
  · rw [wr_gi _ (fun j _ => ⟨gi_lo _ _ _, gi_hi _ _ _⟩) x x1, if_pos (by omega), Int.natCast_zero, Int.sub_zero]
theorem X12_wt2 {Y : jY} {ξ : jM} (hM : kM Y ξ) {c d : Int} (d1 : 0 ≤ d) (d2 : d ≤ 3) (e0 : gi ξ 95 8 = c) (c1 : 1 ≤ c) (c5 : c ≤ 5) : jit jF (fun (s : Int32 × jM) => b_X12_write_94 Y 95 (ki d) s.1 s.2) (ki 0, ξ) = some (ki c, wr ξ 110 (5 * d).toNat (gi ξ 98) (c - 1).toNat) := by
  refine jit_run (fun i => (ki i, wr ξ 110 (5 * d).toNat (gi ξ 98) i)) _ (c - 1).toNat rfl (by omega) (fun i hi => ?_) ?_
  · have k3 : kF 108 111 ξ (wr ξ 110 (5 * d).toNat (gi ξ 98) i) := wr_kF (by omega) (by omega) i (fun j hj => hM.a110i (by omega))
    simp only [wr]
    generalize wr ξ 110 (5 * d).toNat (gi ξ 98) i = ν at *
    have hMν := hM.to k3
    have g0 := kM.g8 hMν
    rw [k3.gi (by omega), e0] at g0
    have e1 := kaI (kM.a98 hMν) (x := (i : Int)) (by omega) (by omega)
    rw [k3.gi (by omega)] at e1
    have e3 : (5 * d + (i : Int)).toNat = (5 * d).toNat + i := by omega
    have e2 : ∀ v, jas Y ν 110 20 (ki (5 * d + (i : Int))) v = some (jw ν 110 ((5 * d).toNat + i) v) := fun v => by
      have := kasI (v := v) (kM.a110 hMν) (x := 5 * d + (i : Int)) (by omega) (by omega)
      rw [e3] at this
      exact this
    simp (disch := omega) only [b_X12_write_94, g0, kM.o28 hMν, kM.o7 hMν, e1, e2, ki_0, ki_1, ki_2, ki_3, ki_4, ki_5, ki_6, ki_7, ki_8, ki_9, ki_10, ki_11, ki_12, ki_13, ki_18, ki_20, ki_24, ki_32, ki_36, ki_45, ki_47, ki_48, ki_50, ki_57, ki_60, ki_63, ki_99, ki_100, ki_101, ki_120, ki_255, ki_468, ki_1000, ki_1024, ki_13849, ki_25173, ki_65535, ki_65536, ki_100000, ki_100001, ki_2147483647, ki_2147483648, kl_0, kl_1, kl_2, kl_9223372036854775808, ki_add, ki_sub, ki_mul, ki_neg, kl_add, kl_sub, kl_mul, kl_neg, ki_i2l, kl_l2i, ki_lt, ki_le, ki_eq, kcmp_eq, kcmp_lt, kcmp_le, kcmp_gt, kcmp_ge, Option.bind_some, Option.map_some, kbool0, kbool1, if_pos, if_neg, if_true, if_false, Int.neg_neg, Int.sub_zero, Int.add_zero, Int.zero_add, true_and, and_true, false_and, and_false, false_or, or_false, true_or, or_true, ne_eq, not_false_eq_true, not_true_eq_false, Int.natCast_add, Int.natCast_one]
  · have k3 : kF 108 111 ξ (wr ξ 110 (5 * d).toNat (gi ξ 98) (c - 1).toNat) := wr_kF (by omega) (by omega) _ (fun j hj => hM.a110i (by omega))
    generalize wr ξ 110 (5 * d).toNat (gi ξ 98) (c - 1).toNat = ν at *
    have g0 := kM.g8 (hM.to k3)
    rw [k3.gi (by omega), e0] at g0
    simp (disch := omega) only [b_X12_write_94, g0, ki_0, ki_1, ki_2, ki_3, ki_4, ki_5, ki_6, ki_7, ki_8, ki_9, ki_10, ki_11, ki_12, ki_13, ki_18, ki_20, ki_24, ki_32, ki_36, ki_45, ki_47, ki_48, ki_50, ki_57, ki_60, ki_63, ki_99, ki_100, ki_101, ki_120, ki_255, ki_468, ki_1000, ki_1024, ki_13849, ki_25173, ki_65535, ki_65536, ki_100000, ki_100001, ki_2147483647, ki_2147483648, kl_0, kl_1, kl_2, kl_9223372036854775808, ki_add, ki_sub, ki_mul, ki_neg, kl_add, kl_sub, kl_mul, kl_neg, ki_i2l, kl_l2i, ki_lt, ki_le, ki_eq, kcmp_eq, kcmp_lt, kcmp_le, kcmp_gt, kcmp_ge, Option.bind_some, Option.map_some, kbool0, kbool1, if_pos, if_neg, if_true, if_false, Int.neg_neg, Int.sub_zero, Int.add_zero, Int.zero_add, true_and, and_true, false_and, and_false, false_or, or_false, true_or, or_true, ne_eq, not_false_eq_true, not_true_eq_false]
theorem X12_wt1 {Y : jY} {ν : jM} (hM : kM Y ν) {c d : Int} (d1 : 0 ≤ d) (d2 : d ≤ 3) (e0 : gi ν 95 8 = c) (c1 : 1 ≤ c) (c5 : c ≤ 5) : jit jF (fun (s : Int32 × jM) => b_X12_write_58 Y 95 (ki d) s.1 s.2) (ki 0, ν) = some (ki c, wr (wr ν 109 (5 * d).toNat (gi ν 97) c.toNat) 110 (5 * d).toNat (gi ν 98) (c - 1).toNat) := by
  refine jit_run (fun i => (ki i, wr ν 109 (5 * d).toNat (gi ν 97) i)) _ c.toNat rfl (by omega) (fun i hi => ?_) ?_
  · have k3 : kF 108 111 ν (wr ν 109 (5 * d).toNat (gi ν 97) i) := wr_kF (by omega) (by omega) i (fun j hj => hM.a109i (by omega))
    simp only [wr]
    generalize wr ν 109 (5 * d).toNat (gi ν 97) i = ξ at *
    have hMξ := hM.to k3
    have g0 := kM.g8 hMξ
    rw [k3.gi (by omega), e0] at g0
    have e1 := kaI (kM.a97 hMξ) (x := (i : Int)) (by omega) (by omega)
    rw [k3.gi (by omega)] at e1
    have e3 : (5 * d + (i : Int)).toNat = (5 * d).toNat + i := by omega
    have e2 : ∀ v, jas Y ξ 109 20 (ki (5 * d + (i : Int))) v = some (jw ξ 109 ((5 * d).toNat + i) v) := fun v => by
      have := kasI (v := v) (kM.a109 hMξ) (x := 5 * d + (i : Int)) (by omega) (by omega)
      rw [e3] at this
      exact this
    simp (disch := omega) only [b_X12_write_58, g0, kM.o27 hMξ, kM.o6 hMξ, e1, e2, ki_0, ki_1, ki_2, ki_3, ki_4, ki_5, ki_6, ki_7, ki_8, ki_9, ki_10, ki_11, ki_12, ki_13, ki_18, ki_20, ki_24, ki_32, ki_36, ki_45, ki_47, ki_48, ki_50, ki_57, ki_60, ki_63, ki_99, ki_100, ki_101, ki_120, ki_255, ki_468, ki_1000, ki_1024, ki_13849, ki_25173, ki_65535, ki_65536, ki_100000, ki_100001, ki_2147483647, ki_2147483648, kl_0, kl_1, kl_2, kl_9223372036854775808, ki_add, ki_sub, ki_mul, ki_neg, kl_add, kl_sub, kl_mul, kl_neg, ki_i2l, kl_l2i, ki_lt, ki_le, ki_eq, kcmp_eq, kcmp_lt, kcmp_le, kcmp_gt, kcmp_ge, Option.bind_some, Option.map_some, kbool0, kbool1, if_pos, if_neg, if_true, if_false, Int.neg_neg, Int.sub_zero, Int.add_zero, Int.zero_add, true_and, and_true, false_and, and_false, false_or, or_false, true_or, or_true, ne_eq, not_false_eq_true, not_true_eq_false, Int.natCast_add, Int.natCast_one]
  · have k3 : kF 108 111 ν (wr ν 109 (5 * d).toNat (gi ν 97) c.toNat) := wr_kF (by omega) (by omega) _ (fun j hj => hM.a109i (by omega))
    have v98 : gi (wr ν 109 (5 * d).toNat (gi ν 97) c.toNat) 98 = gi ν 98 := funext (fun x => wr_other (by omega) _ x)
    generalize wr ν 109 (5 * d).toNat (gi ν 97) c.toNat = ξ at *
    have hMξ := hM.to k3
    have T := X12_wt2 hMξ d1 d2 (by rw [k3.gi (by omega)]; exact e0) c1 c5
    rw [v98] at T
    have g0 := kM.g8 hMξ
    rw [k3.gi (by omega), e0] at g0
    have e : b_X12_write_58 Y 95 (ki d) (ki ((c.toNat : Nat) : Int)) ξ = (jit jF (fun (s : Int32 × jM) => b_X12_write_94 Y 95 (ki d) s.1 s.2) (ki 0, ξ)).map (fun r => (Sum.inr r : (Int32 × jM) ⊕ (Int32 × jM))) := by
      simp (disch := omega) only [b_X12_write_58, g0, ki_0, ki_1, ki_2, ki_3, ki_4, ki_5, ki_6, ki_7, ki_8, ki_9, ki_10, ki_11, ki_12, ki_13, ki_18, ki_20, ki_24, ki_32, ki_36, ki_45, ki_47, ki_48, ki_50, ki_57, ki_60, ki_63, ki_99, ki_100, ki_101, ki_120, ki_255, ki_468, ki_1000, ki_1024, ki_13849, ki_25173, ki_65535, ki_65536, ki_100000, ki_100001, ki_2147483647, ki_2147483648, kl_0, kl_1, kl_2, kl_9223372036854775808, ki_add, ki_sub, ki_mul, ki_neg, kl_add, kl_sub, kl_mul, kl_neg, ki_i2l, kl_l2i, ki_lt, ki_le, ki_eq, kcmp_eq, kcmp_lt, kcmp_le, kcmp_gt, kcmp_ge, Option.bind_some, Option.map_some, kbool0, kbool1, if_pos, if_neg, if_true, if_false, Int.neg_neg, Int.sub_zero, Int.add_zero, Int.zero_add, true_and, and_true, false_and, and_false, false_or, or_false, true_or, or_true, ne_eq, not_false_eq_true, not_true_eq_false]
    simp only [e, T]
    rfl
theorem X12_wt {Y : jY} {ω : jM} (hM : kM Y ω) {c d : Int} (d1 : 0 ≤ d) (d2 : d ≤ 3) (e0 : gi ω 95 8 = c) (c1 : 1 ≤ c) (c5 : c ≤ 5) : ∃ η, jit jF (fun (s : Int32 × jM) => b_X12_write_58 Y 95 (ki d) s.1 s.2) (ki 0, jw ω 108 d.toNat (.int (ki c))) = some (ki c, η) ∧ kF 108 111 ω η ∧ (∀ e : Int, 0 ≤ e → gi η 108 e = if e = d then c else gi ω 108 e) ∧ (∀ e x : Int, 0 ≤ e → e ≤ 3 → 0 ≤ x → x < 5 → mA η e x = if e = d ∧ x < c then gi ω 97 x else mA ω e x) ∧ ∀ e x : Int, 0 ≤ e → e ≤ 3 → 0 ≤ x → x < 5 → mC η e x = if e = d ∧ x < c - 1 then gi ω 98 x else mC ω e x := by
  have F1 : kF 108 111 ω (jw ω 108 d.toNat (.int (ki c))) := kF_I (hM.a108i (by omega)) (by omega) (by omega)
  have w1 := fun a x => gi_jw (μ := ω) (o := 108) (k := d.toNat) (v := c) a x (by omega) (by omega)
  have hM1 := hM.to F1
  generalize jw ω 108 d.toNat (.int (ki c)) = ω1 at *
  have T := X12_wt1 hM1 d1 d2 (by rw [F1.gi (by omega)]; exact e0) c1 c5
  have v97 : gi ω1 97 = gi ω 97 := funext (fun x => F1.gi (by omega) x)
  have v98 : gi ω1 98 = gi ω 98 := funext (fun x => F1.gi (by omega) x)
  rw [v97, v98] at T
  have k2 : kF 108 111 ω1 (wr ω1 109 (5 * d).toNat (gi ω 97) c.toNat) := wr_kF (by omega) (by omega) _ (fun j hj => hM1.a109i (by omega))
  have k3 : kF 108 111 (wr ω1 109 (5 * d).toNat (gi ω 97) c.toNat) (wr (wr ω1 109 (5 * d).toNat (gi ω 97) c.toNat) 110 (5 * d).toNat (gi ω 98) (c - 1).toNat) := wr_kF (by omega) (by omega) _ (fun j hj => (hM1.to k2).a110i (by omega))
  refine ⟨_, T, (F1.trans k2).trans k3, fun e e1 => ?_, fun e x e1 e2 x1 x2 => ?_, fun e x e1 e2 x1 x2 => ?_⟩
  · rw [wr_other (by omega), wr_other (by omega), w1]
    by_cases g : e = d
    · rw [if_pos g, if_pos (by omega)]
    · rw [if_neg g, if_neg (by omega)]
  · unfold mA
    rw [wr_other (by omega), wr_gi _ (fun j _ => ⟨gi_lo _ _ _, gi_hi _ _ _⟩) _ (by omega), w1]
    by_cases g : e = d ∧ x < c
    · rw [if_pos g, if_pos (by omega)]
      congr 1
      omega
    · rw [if_neg g, if_neg (by omega), if_neg (by omega)]
  · unfold mC
    rw [wr_gi _ (fun j _ => ⟨gi_lo _ _ _, gi_hi _ _ _⟩) _ (by omega), wr_other (by omega), w1]
    by_cases g : e = d ∧ x < c - 1
    · rw [if_pos g, if_pos (by omega)]
      congr 1
      omega
    · rw [if_neg g, if_neg (by omega), if_neg (by omega)]
/-- a drawer and the tape, in both -/
theorem Inv.updPD {L : Nat} {xs : Nat → Int32} {n : Nat} {Y : jY} {μ μ' : jM} (h : Inv L xs n Y μ) {d : Int} (d1 : 0 ≤ d) (d2 : d ≤ 3) (k : kF 0 123 μ μ') (hc : ∀ i, i ≠ 9 + 5 + 3 * d.toNat → i ≠ 9 + 5 + 3 * d.toNat + 1 → i ≠ 9 + 5 + 3 * d.toNat + 2 → i ≠ 2 → i ≠ 3 → i ≠ 96 → i ≠ 108 → i ≠ 109 → i ≠ 110 → pers i → μ' i = μ i) (h10 : μ' 95 10 = μ 95 10) (h25 : μ' 95 25 = μ 95 25) (hp : relP μ')
    (hn : relT μ' (9 + 5 + 3 * d.toNat) (gi μ' 108 d) (mA μ' d) (mC μ' d)) (ho : ∀ e : Int, 0 ≤ e → e ≤ 3 → e ≠ d → gi μ' 108 e = gi μ 108 e ∧ (∀ x, 0 ≤ x → x < 5 → mA μ' e x = mA μ e x) ∧ ∀ x, 0 ≤ x → x < 5 → mC μ' e x = mC μ e x) : Inv L xs n Y μ' := by
  let μa : jM := fun i => if i = 9 + 5 + 3 * d.toNat ∨ i = 9 + 5 + 3 * d.toNat + 1 ∨ i = 9 + 5 + 3 * d.toNat + 2 ∨ i = 108 ∨ i = 109 ∨ i = 110 then μ i else μ' i
  have ha : ∀ i, i = 9 + 5 + 3 * d.toNat ∨ i = 9 + 5 + 3 * d.toNat + 1 ∨ i = 9 + 5 + 3 * d.toNat + 2 ∨ i = 108 ∨ i = 109 ∨ i = 110 → μa i = μ i := fun i hi => if_pos hi
  have hna : ∀ i, ¬ (i = 9 + 5 + 3 * d.toNat ∨ i = 9 + 5 + 3 * d.toNat + 1 ∨ i = 9 + 5 + 3 * d.toNat + 2 ∨ i = 108 ∨ i = 109 ∨ i = 110) → μa i = μ' i := fun i hi => if_neg hi
  have kA : kF 0 123 μ μa := by
    refine ⟨fun i hi => ?_, fun i j => ?_⟩
    · rw [hna i (by omega)]; exact k.1 i hi
    · by_cases e : i = 9 + 5 + 3 * d.toNat ∨ i = 9 + 5 + 3 * d.toNat + 1 ∨ i = 9 + 5 + 3 * d.toNat + 2 ∨ i = 108 ∨ i = 109 ∨ i = 110
      · unfold isI isL
        rw [ha i e]
        exact ⟨id, id, fun _ => id, id⟩
      · have := k.2 i j
        unfold isI isL at this ⊢
        rw [hna i e]
        exact this
  have kB : kF 0 123 μa μ' := by
    refine ⟨fun i hi => ?_, fun i j => ?_⟩
    · rw [hna i (by omega)]
    · by_cases e : i = 9 + 5 + 3 * d.toNat ∨ i = 9 + 5 + 3 * d.toNat + 1 ∨ i = 9 + 5 + 3 * d.toNat + 2 ∨ i = 108 ∨ i = 109 ∨ i = 110
      · have := k.2 i j
        unfold isI isL at this ⊢
        rw [ha i e]
        exact this
      · unfold isI isL
        rw [hna i e]
        exact ⟨id, id, fun _ => id, id⟩
  have hI : Inv L xs n Y μa := by
    refine h.updP kA (fun i hi i1 i2 i3 => ?_) ?_ ?_ (hp.to (hna 2 (by omega)) (hna 3 (by omega)) (hna 96 (by omega)) (by rw [hna 95 (by omega)]))
    · by_cases e : i = 9 + 5 + 3 * d.toNat ∨ i = 9 + 5 + 3 * d.toNat + 1 ∨ i = 9 + 5 + 3 * d.toNat + 2 ∨ i = 108 ∨ i = 109 ∨ i = 110
      · exact ha i e
      · rw [hna i e]
        exact hc i (by omega) (by omega) (by omega) i1 i2 i3 (by omega) (by omega) (by omega) hi
    · rw [hna 95 (by omega)]; exact h10
    · rw [hna 95 (by omega)]; exact h25
  refine hI.upd d1 d2 kB (fun i i1 i2 i3 i4 i5 i6 => (hna i (by omega)).symm) hn (fun e e1 e2 e3 => ?_)
  obtain ⟨g1, g2, g3⟩ := ho e e1 e2 e3
  refine ⟨?_, fun x x1 x2 => ?_, fun x x1 x2 => ?_⟩
  · rw [g1, gi_cell (ha 108 (by omega))]
  · rw [g2 x x1 x2]
    unfold mA
    rw [gi_cell (ha 109 (by omega))]
  · rw [g3 x x1 x2]
    unfold mC
    rw [gi_cell (ha 110 (by omega))]
set_option maxHeartbeats 1000000 in
theorem ok_write {L : Nat} {xs : Nat → Int32} {n : Nat} {Y : jY} {μ : jM} (h : Inv L xs n Y μ) : so_write (Inv L xs) n Y μ := by
  have hX := h.x
  have hM := h.m
  intro a1 a2
  obtain ⟨d, d1, d2, rfl⟩ := ki_is a1
  obtain ⟨k, k1, k2, rfl⟩ := ki_is a2
  obtain ⟨t1, t2, t3, t4⟩ := h.p
  have ht := X5_holdsText hX (k := k) (l := gi μ 2 1) rfl t2 t3 k1 k2
  have g1 := kM.g1 hM
  rw [← t1] at g1
  by_cases hd : 0 ≤ d ∧ d ≤ 3
  · by_cases hk : 1 ≤ k ∧ k ≤ 60 ∧ k ≤ gi μ 2 1
    · rw [if_pos hk] at ht
      obtain ⟨r, c, e, f, g, ν, i1, i2, i3, i4, i5⟩ := h.scan (z := 0) (Or.inl rfl) hk.1 hk.2.1 hk.2.2
      have hX1 := hX.to i2
      have F2 : kF 2 7 ν (jw ν 2 1 (.int (ki 0))) := kF_I (kX.i2_1 hX1) (by omega) (by omega)
      have w2 := fun a x => gi_jw (μ := ν) (o := 2) (k := 1) (v := 0) a x (by omega) (by omega)
      have c2 : ∀ i, i ≠ 2 → jw ν 2 1 (.int (ki 0)) i = ν i := fun i hi => jw_cell hi
      have cl : f_X5_clear Y 2 ν = some (jw ν 2 1 (.int (ki 0))) := by
        simp (disch := omega) only [f_X5_clear, kX.p2 hX1, ki_0, ki_1, ki_2, ki_3, ki_4, ki_5, ki_6, ki_7, ki_8, ki_9, ki_10, ki_11, ki_12, ki_13, ki_18, ki_20, ki_24, ki_32, ki_36, ki_45, ki_47, ki_48, ki_50, ki_57, ki_60, ki_63, ki_99, ki_100, ki_101, ki_120, ki_255, ki_468, ki_1000, ki_1024, ki_13849, ki_25173, ki_65535, ki_65536, ki_100000, ki_100001, ki_2147483647, ki_2147483648, kl_0, kl_1, kl_2, kl_9223372036854775808, ki_add, ki_sub, ki_mul, ki_neg, kl_add, kl_sub, kl_mul, kl_neg, ki_i2l, kl_l2i, ki_lt, ki_le, ki_eq, kcmp_eq, kcmp_lt, kcmp_le, kcmp_gt, kcmp_ge, Option.bind_some, Option.map_some, kbool0, kbool1, if_pos, if_neg, if_true, if_false, Int.neg_neg, Int.sub_zero, Int.add_zero, Int.zero_add, true_and, and_true, false_and, and_false, false_or, or_false, true_or, or_true, ne_eq, not_false_eq_true, not_true_eq_false]
      generalize jw ν 2 1 (.int (ki 0)) = ν2 at *
      have hX2 := hX1.to F2
      have K2 : kF 2 7 μ ν2 := (i2.mono (by omega) (by omega)).trans F2
      have z0 : gi ν2 2 1 = 0 := by rw [w2, if_pos ⟨rfl, rfl⟩]
      by_cases r0 : r = 0
      · subst r0
        obtain ⟨sw, sd, s2, s3, s4, s5⟩ := i4 rfl
        obtain ⟨⟨_, _, c0, c5, d0, _, sc⟩, sf, sg⟩ := sw
        have sc := sc rfl
        have hT := kS.t (kX.now hX2) hd.1 hd.2
        obtain ⟨tk, tF, u0, u1, u2⟩ := X10_take hX2 hT (by omega) (by omega) (c := c) (by rw [gi_cell (c2 4 (by omega))]; exact s2) c0 (by omega)
        have hXt := hX2.to tF
        have gr := kT.gr (hT.to tF)
        rw [u0] at gr
        generalize tkT ν2 (9 + 5 + 3 * d.toNat) c = ξ at *
        have K3 : kF 2 26 μ ξ := (K2.mono (by omega) (by omega)).trans (tF.mono (by omega) (by omega))
        have hMξ := hM.to K3
        obtain ⟨ω, y1, y2, y3, y4, y5, y6⟩ := i5 ξ hMξ (K3.1 96 (by omega))
        obtain ⟨m8, m9, m97, m98⟩ := y6 rfl
        have hMω := hMξ.to y2
        obtain ⟨η, x1, x2, p0, p1, p2⟩ := X12_wt hMω hd.1 hd.2 (c := c) m8 sc.1 (by omega)
        have g1ξ := kM.g1 hMξ
        rw [K3.gi (by omega), ← t1] at g1ξ
        have g8 := kM.g8 hMω
        rw [m8] at g8
        refine ⟨(ki c, ξ), (ki c, η), ?_, fun j => congrFun (K3.1 0 (by omega)) j, ?_, rfl, ?_⟩
        · clear i5 sf sg s4 s5 u1 u2 p0 p1 p2
          simp (disch := omega) only [f_X11_write, X11_isDrawer, kX.o1_0 hX, kX.o1_1 hX, krcv hX.y2, krcv hX.y4, ht, i1, kX.o1_0 hX1, cl, kX.o1_3 hX2, kS.gd (kX.now hX2), kS.gt (kX.now hX2), kX.o1_1 hX2, krcv hT.y, tk, kX.o1_3 hXt, kS.gd (kX.now hXt), kS.gt (kX.now hXt), gr, ki_0, ki_1, ki_2, ki_3, ki_4, ki_5, ki_6, ki_7, ki_8, ki_9, ki_10, ki_11, ki_12, ki_13, ki_18, ki_20, ki_24, ki_32, ki_36, ki_45, ki_47, ki_48, ki_50, ki_57, ki_60, ki_63, ki_99, ki_100, ki_101, ki_120, ki_255, ki_468, ki_1000, ki_1024, ki_13849, ki_25173, ki_65535, ki_65536, ki_100000, ki_100001, ki_2147483647, ki_2147483648, kl_0, kl_1, kl_2, kl_9223372036854775808, ki_add, ki_sub, ki_mul, ki_neg, kl_add, kl_sub, kl_mul, kl_neg, ki_i2l, kl_l2i, ki_lt, ki_le, ki_eq, kcmp_eq, kcmp_lt, kcmp_le, kcmp_gt, kcmp_ge, Option.bind_some, Option.map_some, kbool0, kbool1, if_pos, if_neg, if_true, if_false, Int.neg_neg, Int.sub_zero, Int.add_zero, Int.zero_add, true_and, and_true, false_and, and_false, false_or, or_false, true_or, or_true, ne_eq, not_false_eq_true, not_true_eq_false]
        · have B : ∃ q : Int32 × jM, f_X12_begins Y 95 (ki k) ξ = some q ∧ f_X12_reads Y 95 (ki 0) q.2 = some (ki 0, ω) := by
            cases e : f_X12_begins Y 95 (ki k) ξ with
            | none => rw [e] at y1; cases y1
            | some q => rw [e] at y1; exact ⟨q, rfl, y1⟩
          obtain ⟨q, q1, q2⟩ := B
          clear i5 sf sg s4 s5 u1 u2 p0 p1 p2 m97 m98
          simp (disch := omega) only [f_X12_write, X12_isDrawer, X12_in, g1ξ, krcv hM.y, q1, q2, kM.o26 hMω, g8, kasI (kM.a108 hMω), ki_0, ki_1, ki_2, ki_3, ki_4, ki_5, ki_6, ki_7, ki_8, ki_9, ki_10, ki_11, ki_12, ki_13, ki_18, ki_20, ki_24, ki_32, ki_36, ki_45, ki_47, ki_48, ki_50, ki_57, ki_60, ki_63, ki_99, ki_100, ki_101, ki_120, ki_255, ki_468, ki_1000, ki_1024, ki_13849, ki_25173, ki_65535, ki_65536, ki_100000, ki_100001, ki_2147483647, ki_2147483648, kl_0, kl_1, kl_2, kl_9223372036854775808, ki_add, ki_sub, ki_mul, ki_neg, kl_add, kl_sub, kl_mul, kl_neg, ki_i2l, kl_l2i, ki_lt, ki_le, ki_eq, kcmp_eq, kcmp_lt, kcmp_le, kcmp_gt, kcmp_ge, Option.bind_some, Option.map_some, kbool0, kbool1, if_pos, if_neg, if_true, if_false, Int.neg_neg, Int.sub_zero, Int.add_zero, Int.zero_add, true_and, and_true, false_and, and_false, false_or, or_false, true_or, or_true, ne_eq, not_false_eq_true, not_true_eq_false]
          exact x1
        · have f1 : ∀ i, i < 95 → η i = ξ i := fun i hi => (x2.1 i (by omega)).trans (y2.1 i (by omega))
          have b5 : ∀ x : Int, 0 ≤ x → x < c → gi ξ (9 + 5 + 3 * d.toNat + 1) x = f x := fun x p q => by rw [u1 x p (by omega), gi_cell (c2 5 (by omega)), s4 x p q]
          have b6 : ∀ x : Int, 0 ≤ x → x < c - 1 → gi ξ (9 + 5 + 3 * d.toNat + 2) x = g x := fun x p q => by rw [u2 x p (by omega), gi_cell (c2 6 (by omega)), s5 x p (by omega)]
          have w108 : ∀ x, gi ω 108 x = gi μ 108 x := fun x => by rw [y2.gi (by omega), K3.gi (by omega)]
          have w109 : ∀ e x, mA ω e x = mA μ e x := fun e x => by
            unfold mA
            rw [y2.gi (by omega), K3.gi (by omega)]
          have w110 : ∀ e x, mC ω e x = mC μ e x := fun e x => by
            unfold mC
            rw [y2.gi (by omega), K3.gi (by omega)]
          refine Inv.updPD (μ' := η) h hd.1 hd.2 ((K3.mono (by omega) (by omega)).trans ((y2.mono (by omega) (by omega)).trans (x2.mono (by omega) (by omega)))) (fun i a1 a2 a3 a4 a5 a6 a7 a8 a9 hi => ?_) ?_ ?_ ?_ ?_ (fun e e1 e2 e3 => ⟨?_, fun x x1 x2 => ?_, fun x x1 x2 => ?_⟩)
          · unfold pers at hi
            by_cases l : i < 95
            · rw [f1 i l, tF.1 i (by omega), F2.1 i (by omega), i2.1 i (by omega)]
            · rw [x2.1 i (by omega), y2.1 i (by omega), K3.1 i (by omega)]
          · rw [x2.1 95 (by omega), y4 10 (by omega), K3.1 95 (by omega)]
          · rw [x2.1 95 (by omega), y4 25 (by omega), K3.1 95 (by omega)]
          · unfold relP
            rw [x2.gi (i := 95) (by omega), y5, gi_cell (f1 2 (by omega)), tF.gi (by omega), z0]
            exact ⟨rfl, by omega, by omega, fun x p q => by omega⟩
          · unfold relT
            rw [p0 d hd.1, if_pos rfl, gi_cell (f1 _ (by omega)), u0]
            refine ⟨rfl, by omega, by omega, fun x x1 x2 => ?_, fun x x1 x2 => ?_⟩
            · rw [p1 d x hd.1 hd.2 x1 (by omega), if_pos ⟨rfl, x2⟩, gi_cell (f1 _ (by omega)), b5 x x1 x2, m97 x x1 x2]
              exact ⟨rfl, sf x x1 x2⟩
            · rw [p2 d x hd.1 hd.2 x1 (by omega), if_pos ⟨rfl, x2⟩, gi_cell (f1 _ (by omega)), b6 x x1 x2, m98 x x1 (by omega)]
              have q := sg x x1 (by omega)
              exact ⟨rfl, q.2.1 rfl, q.1.2⟩
          · rw [p0 e e1, if_neg e3, w108]
          · rw [p1 e x e1 e2 x1 x2, if_neg (fun q => e3 q.1), w109]
          · rw [p2 e x e1 e2 x1 x2, if_neg (fun q => e3 q.1), w110]
      · have hMν := hM.to K2
        obtain ⟨ω, y1, y2, y3, y4, y5, _⟩ := i5 ν2 hMν (K2.1 96 (by omega))
        have g1ν := kM.g1 hMν
        rw [K2.gi (by omega), ← t1] at g1ν
        refine ⟨(ki r, ν2), (ki r, ω), ?_, fun j => congrFun (K2.1 0 (by omega)) j, ?_, rfl, ?_⟩
        · clear i5 i4
          simp (disch := omega) only [f_X11_write, X11_isDrawer, kX.o1_0 hX, kX.o1_1 hX, krcv hX.y2, krcv hX.y4, ht, i1, kX.o1_0 hX1, cl, ki_0, ki_1, ki_2, ki_3, ki_4, ki_5, ki_6, ki_7, ki_8, ki_9, ki_10, ki_11, ki_12, ki_13, ki_18, ki_20, ki_24, ki_32, ki_36, ki_45, ki_47, ki_48, ki_50, ki_57, ki_60, ki_63, ki_99, ki_100, ki_101, ki_120, ki_255, ki_468, ki_1000, ki_1024, ki_13849, ki_25173, ki_65535, ki_65536, ki_100000, ki_100001, ki_2147483647, ki_2147483648, kl_0, kl_1, kl_2, kl_9223372036854775808, ki_add, ki_sub, ki_mul, ki_neg, kl_add, kl_sub, kl_mul, kl_neg, ki_i2l, kl_l2i, ki_lt, ki_le, ki_eq, kcmp_eq, kcmp_lt, kcmp_le, kcmp_gt, kcmp_ge, Option.bind_some, Option.map_some, kbool0, kbool1, if_pos, if_neg, if_true, if_false, Int.neg_neg, Int.sub_zero, Int.add_zero, Int.zero_add, true_and, and_true, false_and, and_false, false_or, or_false, true_or, or_true, ne_eq, not_false_eq_true, not_true_eq_false]
        · have B : ∃ q : Int32 × jM, f_X12_begins Y 95 (ki k) ν2 = some q ∧ f_X12_reads Y 95 (ki 0) q.2 = some (ki r, ω) := by
            cases e : f_X12_begins Y 95 (ki k) ν2 with
            | none => rw [e] at y1; cases y1
            | some q => rw [e] at y1; exact ⟨q, rfl, y1⟩
          obtain ⟨q, q1, q2⟩ := B
          clear i5 i4
          simp (disch := omega) only [f_X12_write, X12_isDrawer, X12_in, g1ν, krcv hM.y, q1, q2, ki_0, ki_1, ki_2, ki_3, ki_4, ki_5, ki_6, ki_7, ki_8, ki_9, ki_10, ki_11, ki_12, ki_13, ki_18, ki_20, ki_24, ki_32, ki_36, ki_45, ki_47, ki_48, ki_50, ki_57, ki_60, ki_63, ki_99, ki_100, ki_101, ki_120, ki_255, ki_468, ki_1000, ki_1024, ki_13849, ki_25173, ki_65535, ki_65536, ki_100000, ki_100001, ki_2147483647, ki_2147483648, kl_0, kl_1, kl_2, kl_9223372036854775808, ki_add, ki_sub, ki_mul, ki_neg, kl_add, kl_sub, kl_mul, kl_neg, ki_i2l, kl_l2i, ki_lt, ki_le, ki_eq, kcmp_eq, kcmp_lt, kcmp_le, kcmp_gt, kcmp_ge, Option.bind_some, Option.map_some, kbool0, kbool1, if_pos, if_neg, if_true, if_false, Int.neg_neg, Int.sub_zero, Int.add_zero, Int.zero_add, true_and, and_true, false_and, and_false, false_or, or_false, true_or, or_true, ne_eq, not_false_eq_true, not_true_eq_false]
        · refine Inv.updP (μ' := ω) h ((K2.mono (by omega) (by omega)).trans (y2.mono (by omega) (by omega))) (fun i hi a1 a2 a3 => ?_) ?_ ?_ ?_
          · unfold pers at hi
            rw [y2.1 i (by omega), K2.1 i (by omega)]
          · rw [y4 10 (by omega), K2.1 95 (by omega)]
          · rw [y4 25 (by omega), K2.1 95 (by omega)]
          · unfold relP
            rw [y5, y2.gi (by omega), z0]
            exact ⟨rfl, by omega, by omega, fun x p q => by omega⟩
    · rw [if_neg hk] at ht
      refine ⟨(ki (-1), μ), (ki (-1), μ), ?_, fun _ => rfl, ?_, rfl, h⟩
      · simp (disch := omega) only [f_X11_write, b_X11_write_18, X11_isDrawer, kX.o1_0 hX, krcv hX.y2, ht, ki_0, ki_1, ki_2, ki_3, ki_4, ki_5, ki_6, ki_7, ki_8, ki_9, ki_10, ki_11, ki_12, ki_13, ki_18, ki_20, ki_24, ki_32, ki_36, ki_45, ki_47, ki_48, ki_50, ki_57, ki_60, ki_63, ki_99, ki_100, ki_101, ki_120, ki_255, ki_468, ki_1000, ki_1024, ki_13849, ki_25173, ki_65535, ki_65536, ki_100000, ki_100001, ki_2147483647, ki_2147483648, kl_0, kl_1, kl_2, kl_9223372036854775808, ki_add, ki_sub, ki_mul, ki_neg, kl_add, kl_sub, kl_mul, kl_neg, ki_i2l, kl_l2i, ki_lt, ki_le, ki_eq, kcmp_eq, kcmp_lt, kcmp_le, kcmp_gt, kcmp_ge, Option.bind_some, Option.map_some, kbool0, kbool1, if_pos, if_neg, if_true, if_false, Int.neg_neg, Int.sub_zero, Int.add_zero, Int.zero_add, true_and, and_true, false_and, and_false, false_or, or_false, true_or, or_true, ne_eq, not_false_eq_true, not_true_eq_false]
      · by_cases a : 1 ≤ k ∧ k ≤ 60
        · simp (disch := omega) only [f_X12_write, b_X12_write_25, X12_isDrawer, X12_in, g1, ki_0, ki_1, ki_2, ki_3, ki_4, ki_5, ki_6, ki_7, ki_8, ki_9, ki_10, ki_11, ki_12, ki_13, ki_18, ki_20, ki_24, ki_32, ki_36, ki_45, ki_47, ki_48, ki_50, ki_57, ki_60, ki_63, ki_99, ki_100, ki_101, ki_120, ki_255, ki_468, ki_1000, ki_1024, ki_13849, ki_25173, ki_65535, ki_65536, ki_100000, ki_100001, ki_2147483647, ki_2147483648, kl_0, kl_1, kl_2, kl_9223372036854775808, ki_add, ki_sub, ki_mul, ki_neg, kl_add, kl_sub, kl_mul, kl_neg, ki_i2l, kl_l2i, ki_lt, ki_le, ki_eq, kcmp_eq, kcmp_lt, kcmp_le, kcmp_gt, kcmp_ge, Option.bind_some, Option.map_some, kbool0, kbool1, if_pos, if_neg, if_true, if_false, Int.neg_neg, Int.sub_zero, Int.add_zero, Int.zero_add, true_and, and_true, false_and, and_false, false_or, or_false, true_or, or_true, ne_eq, not_false_eq_true, not_true_eq_false]
        · simp (disch := omega) only [f_X12_write, b_X12_write_25, X12_isDrawer, X12_in, ki_0, ki_1, ki_2, ki_3, ki_4, ki_5, ki_6, ki_7, ki_8, ki_9, ki_10, ki_11, ki_12, ki_13, ki_18, ki_20, ki_24, ki_32, ki_36, ki_45, ki_47, ki_48, ki_50, ki_57, ki_60, ki_63, ki_99, ki_100, ki_101, ki_120, ki_255, ki_468, ki_1000, ki_1024, ki_13849, ki_25173, ki_65535, ki_65536, ki_100000, ki_100001, ki_2147483647, ki_2147483648, kl_0, kl_1, kl_2, kl_9223372036854775808, ki_add, ki_sub, ki_mul, ki_neg, kl_add, kl_sub, kl_mul, kl_neg, ki_i2l, kl_l2i, ki_lt, ki_le, ki_eq, kcmp_eq, kcmp_lt, kcmp_le, kcmp_gt, kcmp_ge, Option.bind_some, Option.map_some, kbool0, kbool1, if_pos, if_neg, if_true, if_false, Int.neg_neg, Int.sub_zero, Int.add_zero, Int.zero_add, true_and, and_true, false_and, and_false, false_or, or_false, true_or, or_true, ne_eq, not_false_eq_true, not_true_eq_false]
  · refine ⟨(ki (-1), μ), (ki (-1), μ), ?_, fun _ => rfl, ?_, rfl, h⟩
    · simp (disch := omega) only [f_X11_write, b_X11_write_18, X11_isDrawer, ki_0, ki_1, ki_2, ki_3, ki_4, ki_5, ki_6, ki_7, ki_8, ki_9, ki_10, ki_11, ki_12, ki_13, ki_18, ki_20, ki_24, ki_32, ki_36, ki_45, ki_47, ki_48, ki_50, ki_57, ki_60, ki_63, ki_99, ki_100, ki_101, ki_120, ki_255, ki_468, ki_1000, ki_1024, ki_13849, ki_25173, ki_65535, ki_65536, ki_100000, ki_100001, ki_2147483647, ki_2147483648, kl_0, kl_1, kl_2, kl_9223372036854775808, ki_add, ki_sub, ki_mul, ki_neg, kl_add, kl_sub, kl_mul, kl_neg, ki_i2l, kl_l2i, ki_lt, ki_le, ki_eq, kcmp_eq, kcmp_lt, kcmp_le, kcmp_gt, kcmp_ge, Option.bind_some, Option.map_some, kbool0, kbool1, if_pos, if_neg, if_true, if_false, Int.neg_neg, Int.sub_zero, Int.add_zero, Int.zero_add, true_and, and_true, false_and, and_false, false_or, or_false, true_or, or_true, ne_eq, not_false_eq_true, not_true_eq_false]
    · simp (disch := omega) only [f_X12_write, b_X12_write_25, X12_isDrawer, ki_0, ki_1, ki_2, ki_3, ki_4, ki_5, ki_6, ki_7, ki_8, ki_9, ki_10, ki_11, ki_12, ki_13, ki_18, ki_20, ki_24, ki_32, ki_36, ki_45, ki_47, ki_48, ki_50, ki_57, ki_60, ki_63, ki_99, ki_100, ki_101, ki_120, ki_255, ki_468, ki_1000, ki_1024, ki_13849, ki_25173, ki_65535, ki_65536, ki_100000, ki_100001, ki_2147483647, ki_2147483648, kl_0, kl_1, kl_2, kl_9223372036854775808, ki_add, ki_sub, ki_mul, ki_neg, kl_add, kl_sub, kl_mul, kl_neg, ki_i2l, kl_l2i, ki_lt, ki_le, ki_eq, kcmp_eq, kcmp_lt, kcmp_le, kcmp_gt, kcmp_ge, Option.bind_some, Option.map_some, kbool0, kbool1, if_pos, if_neg, if_true, if_false, Int.neg_neg, Int.sub_zero, Int.add_zero, Int.zero_add, true_and, and_true, false_and, and_false, false_or, or_false, true_or, or_true, ne_eq, not_false_eq_true, not_true_eq_false]
