/-! OPS: strike, both -/
set_option maxHeartbeats 2000000 in
theorem X12_strike1 {Y : jY} {ν : jM} (hM : kM Y ν) {d : Int} (d0 : 0 ≤ d) (d3 : d ≤ 3) {R : Int} {A C P W : Int → Int} (hT : tbm ν d R A C) (h0 : 1 ≤ R) (h5 : R ≤ 5) (hb : tbR R A C) (hp : rowL ν 121 R P) (bP : bdR 3282116715437121 R P) {n : Nat} (hn : (n : Int) < R) (hw : gl ν 122 n = W n) (bW : -3282116715437121 ≤ W n ∧ W n ≤ 3282116715437121) {a b c : Int} : ∃ ω, b_X12_strike_163 Y 95 (ki d) (ki a) (ki b) (ki R) (ki c) (ki n) ν = some (.inl (ki ((n + 1 : Nat) : Int), ω)) ∧ kF 122 123 ν ω ∧ gl ω 122 n = W n - cs A C R P n ∧ ∀ x : Int, 0 ≤ x → x ≠ n → gl ω 122 x = gl ν 122 x := by
  have q0 := X12_a hM (d := d) (i := n) d0 d3 (by omega) (by omega)
  rw [hT.2.1 n (by omega) (by omega)] at q0
  have a1 := hb.1 n (by omega) (by omega)
  have q1 := kaL (kM.a122 hM) (x := (n : Int)) (by omega) (by omega)
  rw [hw] at q1
  have q2 := kaL (kM.a121 hM) (x := (n : Int)) (by omega) (by omega)
  rw [hp n (by omega) hn] at q2
  have bp := bP n (by omega) hn
  have m1 := mulB (A := 6) (B := 3282116715437121) a1.1 a1.2 bp.1 bp.2
  have s1 := fun v => kasL (v := v) (kM.a122 hM) (x := (n : Int)) (by omega) (by omega)
  have kf1 : kF 122 123 ν (jw ν 122 n (.long (kl (W n - A n * P n)))) := kF_L ((kM.a122 hM).2.2.2 _ (by omega)) (by omega) (by omega)
  have v1 : ∀ x : Int, 0 ≤ x → gl (jw ν 122 n (.long (kl (W n - A n * P n)))) 122 x = if x = n then W n - A n * P n else gl ν 122 x := by
    intro x x0
    rw [gl_jw _ _ (by omega) (by omega)]
    by_cases e : x = n
    · rw [if_pos (by omega), if_pos e]
    · rw [if_neg (by omega), if_neg e]
  have c1 := v1 n (by omega)
  rw [if_pos rfl] at c1
  unfold cs
  have hM1 := hM.to kf1
  have hT1 := hT.to kf1 (by omega)
  have hp1 : rowL (jw ν 122 n (.long (kl (W n - A n * P n)))) 121 R P := fun x p q => by rw [kf1.gl (by omega)]; exact hp x p q
  by_cases e1 : (n : Int) + 1 < R
  · have q3 := kaL (kM.a121 hM1) (x := (n : Int) + 1) (by omega) (by omega)
    rw [hp1 _ (by omega) e1] at q3
    have b3 := bP (n + 1) (by omega) e1
    have q4 := kaL (kM.a122 hM1) (x := (n : Int)) (by omega) (by omega)
    rw [c1] at q4
    have s2 := fun v => kasL (v := v) (kM.a122 hM1) (x := (n : Int)) (by omega) (by omega)
    rw [if_pos e1]
    have kf2 : kF 122 123 (jw ν 122 n (.long (kl (W n - A n * P n)))) (jw (jw ν 122 n (.long (kl (W n - A n * P n)))) 122 n (.long (kl (W n - A n * P n - P (n + 1))))) := kF_L ((kM.a122 hM1).2.2.2 _ (by omega)) (by omega) (by omega)
    have v2 : ∀ x : Int, 0 ≤ x → gl (jw (jw ν 122 n (.long (kl (W n - A n * P n)))) 122 n (.long (kl (W n - A n * P n - P (n + 1))))) 122 x = if x = n then W n - A n * P n - P (n + 1) else gl ν 122 x := by
      intro x x0
      rw [gl_jw _ _ (by omega) (by omega)]
      by_cases e : x = n
      · rw [if_pos (by omega), if_pos e]
      · rw [if_neg (by omega), if_neg e, v1 x x0, if_neg e]
    have c2 := v2 n (by omega)
    rw [if_pos rfl] at c2
    have hM2 := hM1.to kf2
    have hT2 := hT1.to kf2 (by omega)
    have hp2 : rowL (jw (jw ν 122 n (.long (kl (W n - A n * P n)))) 122 n (.long (kl (W n - A n * P n - P (n + 1))))) 121 R P := fun x p q => by rw [kf2.gl (by omega)]; exact hp1 x p q
    by_cases e2 : 0 < (n : Int)
    · rw [if_pos e2]
      have q5 := kaL (kM.a121 hM2) (x := (n : Int) - 1) (by omega) (by omega)
      rw [hp2 _ (by omega) (by omega)] at q5
      have q6 := X12_c hM2 (d := d) (i := (n : Int) - 1) d0 d3 (by omega) (by omega)
      rw [hT2.2.2 _ (by omega) (by omega)] at q6
      have cc := hb.2 ((n : Int) - 1) (by omega) (by omega)
      have b5 := bP ((n : Int) - 1) (by omega) (by omega)
      have m2 := mulB (A := 36) (B := 3282116715437121) (by omega) cc.2 b5.1 b5.2
      have q7 := kaL (kM.a122 hM2) (x := (n : Int)) (by omega) (by omega)
      rw [c2] at q7
      have s3 := fun v => kasL (v := v) (kM.a122 hM2) (x := (n : Int)) (by omega) (by omega)
      refine ⟨jw (jw (jw ν 122 n (.long (kl (W n - A n * P n)))) 122 n (.long (kl (W n - A n * P n - P (n + 1))))) 122 n (.long (kl (W n - A n * P n - P (n + 1) - C ((n : Int) - 1) * P ((n : Int) - 1)))), ?_, (kf1.trans kf2).trans (kF_L ((kM.a122 hM2).2.2.2 _ (by omega)) (by omega) (by omega)), ?_, fun x x0 xn => ?_⟩
      · simp (disch := omega) only [b_X12_strike_163, b_X12_strike_234, b_X12_strike_274, kM.o39 hM, kM.o40 hM, kM.o39 hM1, kM.o40 hM1, kM.o39 hM2, kM.o40 hM2, krcv (kM.y hM), q0, q1, q2, s1, Int.toNat_natCast, q3, q4, s2, q5, q6, q7, s3, ki_0, ki_1, ki_2, ki_3, ki_4, ki_5, ki_6, ki_7, ki_8, ki_9, ki_10, ki_11, ki_12, ki_13, ki_18, ki_20, ki_24, ki_32, ki_36, ki_45, ki_47, ki_48, ki_50, ki_57, ki_60, ki_63, ki_99, ki_100, ki_101, ki_120, ki_255, ki_468, ki_1000, ki_1024, ki_13849, ki_25173, ki_65535, ki_65536, ki_100000, ki_100001, ki_2147483647, ki_2147483648, kl_0, kl_1, kl_2, kl_9223372036854775808, ki_add, ki_sub, ki_mul, ki_neg, kl_add, kl_sub, kl_mul, kl_neg, ki_i2l, kl_l2i, ki_lt, ki_le, ki_eq, kcmp_eq, kcmp_lt, kcmp_le, kcmp_gt, kcmp_ge, Option.bind_some, Option.map_some, kbool0, kbool1, if_pos, if_neg, if_true, if_false, Int.neg_neg, Int.sub_zero, Int.add_zero, Int.zero_add, true_and, and_true, false_and, and_false, false_or, or_false, true_or, or_true, ne_eq, not_false_eq_true, not_true_eq_false, Int.natCast_add, Int.natCast_one]
      · rw [gl_jw _ _ (by omega) (by omega), if_pos ⟨rfl, by omega⟩]
        omega
      · rw [gl_jw _ _ (by omega) (by omega), if_neg (by omega), v2 x x0, if_neg xn]
    · rw [if_neg e2]
      refine ⟨jw (jw ν 122 n (.long (kl (W n - A n * P n)))) 122 n (.long (kl (W n - A n * P n - P (n + 1)))), ?_, kf1.trans kf2, ?_, fun x x0 xn => ?_⟩
      · simp (disch := omega) only [b_X12_strike_163, b_X12_strike_234, b_X12_strike_274, kM.o39 hM, kM.o40 hM, kM.o39 hM1, kM.o40 hM1, krcv (kM.y hM), q0, q1, q2, s1, Int.toNat_natCast, q3, q4, s2, ki_0, ki_1, ki_2, ki_3, ki_4, ki_5, ki_6, ki_7, ki_8, ki_9, ki_10, ki_11, ki_12, ki_13, ki_18, ki_20, ki_24, ki_32, ki_36, ki_45, ki_47, ki_48, ki_50, ki_57, ki_60, ki_63, ki_99, ki_100, ki_101, ki_120, ki_255, ki_468, ki_1000, ki_1024, ki_13849, ki_25173, ki_65535, ki_65536, ki_100000, ki_100001, ki_2147483647, ki_2147483648, kl_0, kl_1, kl_2, kl_9223372036854775808, ki_add, ki_sub, ki_mul, ki_neg, kl_add, kl_sub, kl_mul, kl_neg, ki_i2l, kl_l2i, ki_lt, ki_le, ki_eq, kcmp_eq, kcmp_lt, kcmp_le, kcmp_gt, kcmp_ge, Option.bind_some, Option.map_some, kbool0, kbool1, if_pos, if_neg, if_true, if_false, Int.neg_neg, Int.sub_zero, Int.add_zero, Int.zero_add, true_and, and_true, false_and, and_false, false_or, or_false, true_or, or_true, ne_eq, not_false_eq_true, not_true_eq_false, Int.natCast_add, Int.natCast_one]
      · rw [c2]
        omega
      · rw [v2 x x0, if_neg xn]
  · rw [if_neg e1]
    by_cases e2 : 0 < (n : Int)
    · rw [if_pos e2]
      have q5 := kaL (kM.a121 hM1) (x := (n : Int) - 1) (by omega) (by omega)
      rw [hp1 _ (by omega) (by omega)] at q5
      have q6 := X12_c hM1 (d := d) (i := (n : Int) - 1) d0 d3 (by omega) (by omega)
      rw [hT1.2.2 _ (by omega) (by omega)] at q6
      have cc := hb.2 ((n : Int) - 1) (by omega) (by omega)
      have b5 := bP ((n : Int) - 1) (by omega) (by omega)
      have m2 := mulB (A := 36) (B := 3282116715437121) (by omega) cc.2 b5.1 b5.2
      have q7 := kaL (kM.a122 hM1) (x := (n : Int)) (by omega) (by omega)
      rw [c1] at q7
      have s3 := fun v => kasL (v := v) (kM.a122 hM1) (x := (n : Int)) (by omega) (by omega)
      refine ⟨jw (jw ν 122 n (.long (kl (W n - A n * P n)))) 122 n (.long (kl (W n - A n * P n - C ((n : Int) - 1) * P ((n : Int) - 1)))), ?_, kf1.trans (kF_L ((kM.a122 hM1).2.2.2 _ (by omega)) (by omega) (by omega)), ?_, fun x x0 xn => ?_⟩
      · simp (disch := omega) only [b_X12_strike_163, b_X12_strike_234, b_X12_strike_274, kM.o39 hM, kM.o40 hM, kM.o39 hM1, kM.o40 hM1, krcv (kM.y hM), q0, q1, q2, s1, Int.toNat_natCast, q5, q6, q7, s3, ki_0, ki_1, ki_2, ki_3, ki_4, ki_5, ki_6, ki_7, ki_8, ki_9, ki_10, ki_11, ki_12, ki_13, ki_18, ki_20, ki_24, ki_32, ki_36, ki_45, ki_47, ki_48, ki_50, ki_57, ki_60, ki_63, ki_99, ki_100, ki_101, ki_120, ki_255, ki_468, ki_1000, ki_1024, ki_13849, ki_25173, ki_65535, ki_65536, ki_100000, ki_100001, ki_2147483647, ki_2147483648, kl_0, kl_1, kl_2, kl_9223372036854775808, ki_add, ki_sub, ki_mul, ki_neg, kl_add, kl_sub, kl_mul, kl_neg, ki_i2l, kl_l2i, ki_lt, ki_le, ki_eq, kcmp_eq, kcmp_lt, kcmp_le, kcmp_gt, kcmp_ge, Option.bind_some, Option.map_some, kbool0, kbool1, if_pos, if_neg, if_true, if_false, Int.neg_neg, Int.sub_zero, Int.add_zero, Int.zero_add, true_and, and_true, false_and, and_false, false_or, or_false, true_or, or_true, ne_eq, not_false_eq_true, not_true_eq_false, Int.natCast_add, Int.natCast_one]
      · rw [gl_jw _ _ (by omega) (by omega), if_pos ⟨rfl, by omega⟩]
        omega
      · rw [gl_jw _ _ (by omega) (by omega), if_neg (by omega), v1 x x0, if_neg xn]
    · rw [if_neg e2]
      refine ⟨jw ν 122 n (.long (kl (W n - A n * P n))), ?_, kf1, ?_, fun x x0 xn => ?_⟩
      · simp (disch := omega) only [b_X12_strike_163, b_X12_strike_234, b_X12_strike_274, kM.o39 hM, kM.o40 hM, krcv (kM.y hM), q0, q1, q2, s1, Int.toNat_natCast, ki_0, ki_1, ki_2, ki_3, ki_4, ki_5, ki_6, ki_7, ki_8, ki_9, ki_10, ki_11, ki_12, ki_13, ki_18, ki_20, ki_24, ki_32, ki_36, ki_45, ki_47, ki_48, ki_50, ki_57, ki_60, ki_63, ki_99, ki_100, ki_101, ki_120, ki_255, ki_468, ki_1000, ki_1024, ki_13849, ki_25173, ki_65535, ki_65536, ki_100000, ki_100001, ki_2147483647, ki_2147483648, kl_0, kl_1, kl_2, kl_9223372036854775808, ki_add, ki_sub, ki_mul, ki_neg, kl_add, kl_sub, kl_mul, kl_neg, ki_i2l, kl_l2i, ki_lt, ki_le, ki_eq, kcmp_eq, kcmp_lt, kcmp_le, kcmp_gt, kcmp_ge, Option.bind_some, Option.map_some, kbool0, kbool1, if_pos, if_neg, if_true, if_false, Int.neg_neg, Int.sub_zero, Int.add_zero, Int.zero_add, true_and, and_true, false_and, and_false, false_or, or_false, true_or, or_true, ne_eq, not_false_eq_true, not_true_eq_false, Int.natCast_add, Int.natCast_one]
      · rw [c1]
        omega
      · rw [v1 x x0, if_neg xn]
set_option maxHeartbeats 1000000 in
theorem X12_strike2 {Y : jY} {μ : jM} (hM : kM Y μ) {d : Int} (d0 : 0 ≤ d) (d3 : d ≤ 3) {R : Int} {A C : Int → Int} (hT : tbm μ d R A C) (h0 : 1 ≤ R) (h5 : R ≤ 5) (hb : tbR R A C) {j k i : Int} (j0 : 0 ≤ j) (j1 : j < R) (k0 : 0 ≤ k) (k8 : k ≤ 8) (i0 : 0 ≤ i) (i1 : i < R) : ∃ ν, jit jF (fun (s : Int32 × jM) => b_X12_strike_74 Y 95 (ki d) (ki j) (ki k) (ki i) (ki R) s.1 s.2) ((0 : Int32), μ) = some (kl ((swg A C R j k.toNat).1 i), ν) ∧ kF 121 123 μ ν := by
  have bdk : ∀ t : Nat, t ≤ 8 → bdR 3282116715437121 R (swg A C R j t).1 ∧ bdR 3282116715437121 R (swg A C R j t).2 := fun t ht => by
    have b := swg_bd (A := A) (C := C) (R := R) (j := j) hb t
    have l := p87_le t ht
    exact ⟨fun x p q => by have := b.1 x p q; omega, fun x p q => by have := b.2 x p q; omega⟩
  have L4 : ∀ (ξ : jM) (t : Nat), (t : Int) < k → kF 121 123 μ ξ → rowL ξ 121 R (swg A C R j (t + 1)).1 → rowL ξ 122 R (swg A C R j t).2 → ∃ ω, jit jF (fun (s : Int32 × jM) => b_X12_strike_163 Y 95 (ki d) (ki k) (ki i) (ki R) (ki t) s.1 s.2) ((0 : Int32), ξ) = some (.inl (ki ((t : Int) + 1), ω)) ∧ kF 121 123 μ ω ∧ rowL ω 121 R (swg A C R j (t + 1)).1 ∧ rowL ω 122 R (swg A C R j (t + 1)).2 := by
    intro ξ t ht kξ hp hq
    obtain ⟨r, e, ω, rfl, k1, k2, k3⟩ := jit_inv (f := fun (s : Int32 × jM) => b_X12_strike_163 Y 95 (ki d) (ki k) (ki i) (ki R) (ki t) s.1 s.2) (fun n z => z.1 = ki n ∧ kF 121 123 μ z.2 ∧ rowL z.2 121 R (swg A C R j (t + 1)).1 ∧ (∀ x : Int, 0 ≤ x → x < n → gl z.2 122 x = (swg A C R j (t + 1)).2 x) ∧ ∀ x : Int, n ≤ x → x < R → gl z.2 122 x = (swg A C R j t).2 x) (fun r => ∃ ω, r = .inl (ki ((t : Int) + 1), ω) ∧ kF 121 123 μ ω ∧ rowL ω 121 R (swg A C R j (t + 1)).1 ∧ rowL ω 122 R (swg A C R j (t + 1)).2) R.toNat (s := ((0 : Int32), ξ)) ⟨rfl, kξ, hp, fun x a b => by omega, fun x a b => hq x (by omega) b⟩ (by omega) (fun n z hn hz => by
      obtain ⟨v, ν⟩ := z
      obtain ⟨rfl, z1, z2, z3, z4⟩ := hz
      simp only [] at z1 z2 z3 z4
      have hM1 := hM.to z1
      have hT1 := hT.to z1 (by omega)
      by_cases e : n = R.toNat
      · refine ⟨.inr (.inl (ki ((t : Int) + 1), ν)), ?_, ν, rfl, z1, z2, fun x a b => z3 x a (by omega)⟩
        simp (disch := omega) only [b_X12_strike_163, ki_0, ki_1, ki_2, ki_3, ki_4, ki_5, ki_6, ki_7, ki_8, ki_9, ki_10, ki_11, ki_12, ki_13, ki_18, ki_20, ki_24, ki_32, ki_36, ki_45, ki_47, ki_48, ki_50, ki_57, ki_60, ki_63, ki_99, ki_100, ki_101, ki_120, ki_255, ki_468, ki_1000, ki_1024, ki_13849, ki_25173, ki_65535, ki_65536, ki_100000, ki_100001, ki_2147483647, ki_2147483648, kl_0, kl_1, kl_2, kl_9223372036854775808, ki_add, ki_sub, ki_mul, ki_neg, kl_add, kl_sub, kl_mul, kl_neg, ki_i2l, kl_l2i, ki_lt, ki_le, ki_eq, kcmp_eq, kcmp_lt, kcmp_le, kcmp_gt, kcmp_ge, Option.bind_some, Option.map_some, kbool0, kbool1, if_pos, if_neg, if_true, if_false, Int.neg_neg, Int.sub_zero, Int.add_zero, Int.zero_add, true_and, and_true, false_and, and_false, false_or, or_false, true_or, or_true, ne_eq, not_false_eq_true, not_true_eq_false]
      · obtain ⟨ω, c, kf, w1, w2⟩ := X12_strike1 hM1 d0 d3 hT1 h0 h5 hb z2 (bdk (t + 1) (by omega)).1 (n := n) (by omega) (W := (swg A C R j t).2) (z4 n (by omega) (by omega)) ((bdk t (by omega)).2 n (by omega) (by omega)) (a := k) (b := i) (c := t)
        refine ⟨.inl (ki ((n + 1 : Nat) : Int), ω), c, by omega, rfl, z1.trans (kf.mono (by omega) (by omega)), fun x a b => ?_, fun x a b => ?_, fun x a b => ?_⟩
        · simp only []
          rw [kf.gl (by omega)]
          exact z2 x a b
        · simp only []
          by_cases f : x = n
          · rw [f, w1]
            rfl
          · rw [w2 x a f]
            exact z3 x a (by omega)
        · simp only []
          rw [w2 x (by omega) (by omega)]
          exact z4 x (by omega) b)
    exact ⟨ω, e, k1, k2, k3⟩
  have L3 : ∀ (ξ : jM) (t : Nat), (t : Int) < k → kF 121 123 μ ξ → rowL ξ 121 R (swg A C R j t).1 → rowL ξ 122 R (swg A C R j t).2 → ∃ ω, jit jF (fun (s : Int32 × jM) => b_X12_strike_125 Y 95 (ki d) (ki k) (ki i) (ki R) (ki t) s.1 s.2) ((0 : Int32), ξ) = some (.inl (ki ((t : Int) + 1), ω)) ∧ kF 121 123 μ ω ∧ rowL ω 121 R (swg A C R j (t + 1)).1 ∧ rowL ω 122 R (swg A C R j (t + 1)).2 := by
    intro ξ t ht kξ hp hq
    obtain ⟨r, e, ω, rfl, k1, k2, k3⟩ := jit_inv (f := fun (s : Int32 × jM) => b_X12_strike_125 Y 95 (ki d) (ki k) (ki i) (ki R) (ki t) s.1 s.2) (fun n z => z.1 = ki n ∧ kF 121 123 μ z.2 ∧ rowL z.2 122 R (swg A C R j t).2 ∧ (∀ x : Int, 0 ≤ x → x < n → gl z.2 121 x = (swg A C R j (t + 1)).1 x) ∧ ∀ x : Int, n ≤ x → x < R → gl z.2 121 x = (swg A C R j t).1 x) (fun r => ∃ ω, r = .inl (ki ((t : Int) + 1), ω) ∧ kF 121 123 μ ω ∧ rowL ω 121 R (swg A C R j (t + 1)).1 ∧ rowL ω 122 R (swg A C R j (t + 1)).2) R.toNat (s := ((0 : Int32), ξ)) ⟨rfl, kξ, hq, fun x a b => by omega, fun x a b => hp x (by omega) b⟩ (by omega) (fun n z hn hz => by
      obtain ⟨v, ν⟩ := z
      obtain ⟨rfl, z1, z2, z3, z4⟩ := hz
      simp only [] at z1 z2 z3 z4
      have hM1 := hM.to z1
      by_cases e : n = R.toNat
      · obtain ⟨ω, c, k1, k2⟩ := L4 ν t ht z1 (fun x a b => z3 x a (by omega)) z2
        refine ⟨.inr (.inl (ki ((t : Int) + 1), ω)), ?_, ω, rfl, k1, k2⟩
        have E : b_X12_strike_125 Y 95 (ki d) (ki k) (ki i) (ki R) (ki t) (ki n) ν = (jit jF (fun (s : Int32 × jM) => b_X12_strike_163 Y 95 (ki d) (ki k) (ki i) (ki R) (ki t) s.1 s.2) ((0 : Int32), ν)).map (fun r => (.inr r)) := by
          simp (disch := omega) only [b_X12_strike_125, ki_0, ki_1, ki_2, ki_3, ki_4, ki_5, ki_6, ki_7, ki_8, ki_9, ki_10, ki_11, ki_12, ki_13, ki_18, ki_20, ki_24, ki_32, ki_36, ki_45, ki_47, ki_48, ki_50, ki_57, ki_60, ki_63, ki_99, ki_100, ki_101, ki_120, ki_255, ki_468, ki_1000, ki_1024, ki_13849, ki_25173, ki_65535, ki_65536, ki_100000, ki_100001, ki_2147483647, ki_2147483648, kl_0, kl_1, kl_2, kl_9223372036854775808, ki_add, ki_sub, ki_mul, ki_neg, kl_add, kl_sub, kl_mul, kl_neg, ki_i2l, kl_l2i, ki_lt, ki_le, ki_eq, kcmp_eq, kcmp_lt, kcmp_le, kcmp_gt, kcmp_ge, Option.bind_some, Option.map_some, kbool0, kbool1, if_pos, if_neg, if_true, if_false, Int.neg_neg, Int.sub_zero, Int.add_zero, Int.zero_add, true_and, and_true, false_and, and_false, false_or, or_false, true_or, or_true, ne_eq, not_false_eq_true, not_true_eq_false]
        simp only [E, c]
        rfl
      · have q1 := kaL (kM.a121 hM1) (x := (n : Int)) (by omega) (by omega)
        rw [z4 n (by omega) (by omega)] at q1
        have q2 := kaL (kM.a122 hM1) (x := (n : Int)) (by omega) (by omega)
        rw [z2 n (by omega) (by omega)] at q2
        have s1 := fun v => kasL (v := v) (kM.a121 hM1) (x := (n : Int)) (by omega) (by omega)
        have kf : kF 121 123 ν (jw ν 121 n (.long (kl ((swg A C R j (t + 1)).1 n)))) := kF_L ((kM.a121 hM1).2.2.2 _ (by omega)) (by omega) (by omega)
        have b := (bdk (t + 1) (by omega)).1 n (by omega) (by omega)
        refine ⟨.inl (ki ((n + 1 : Nat) : Int), jw ν 121 n (.long (kl ((swg A C R j (t + 1)).1 n)))), ?_, by omega, rfl, z1.trans kf, fun x a c => ?_, rowL.put (μ := μ) z3 (by omega) (by omega), fun x a c => ?_⟩
        · simp (disch := omega) only [b_X12_strike_125, kM.o39 hM1, kM.o40 hM1, q1, q2, s1, ki_0, ki_1, ki_2, ki_3, ki_4, ki_5, ki_6, ki_7, ki_8, ki_9, ki_10, ki_11, ki_12, ki_13, ki_18, ki_20, ki_24, ki_32, ki_36, ki_45, ki_47, ki_48, ki_50, ki_57, ki_60, ki_63, ki_99, ki_100, ki_101, ki_120, ki_255, ki_468, ki_1000, ki_1024, ki_13849, ki_25173, ki_65535, ki_65536, ki_100000, ki_100001, ki_2147483647, ki_2147483648, kl_0, kl_1, kl_2, kl_9223372036854775808, ki_add, ki_sub, ki_mul, ki_neg, kl_add, kl_sub, kl_mul, kl_neg, ki_i2l, kl_l2i, ki_lt, ki_le, ki_eq, kcmp_eq, kcmp_lt, kcmp_le, kcmp_gt, kcmp_ge, Option.bind_some, Option.map_some, kbool0, kbool1, if_pos, if_neg, if_true, if_false, Int.neg_neg, Int.sub_zero, Int.add_zero, Int.zero_add, true_and, and_true, false_and, and_false, false_or, or_false, true_or, or_true, ne_eq, not_false_eq_true, not_true_eq_false, Int.natCast_add, Int.natCast_one, Int.toNat_natCast]
          rfl
        · simp only []
          rw [gl_cell (jw_cell (by omega))]
          exact z2 x a c
        · simp only []
          rw [gl_jw _ _ (by omega) (by omega), if_neg (by omega)]
          exact z4 x (by omega) c)
    exact ⟨ω, e, k1, k2, k3⟩
  have L2 : ∀ (ξ : jM), kF 121 123 μ ξ → rowL ξ 121 R (swg A C R j 0).1 → rowL ξ 122 R (swg A C R j 0).2 → ∃ ω, jit jF (fun (s : Int32 × jM) => b_X12_strike_116 Y 95 (ki d) (ki k) (ki i) (ki R) s.1 s.2) ((0 : Int32), ξ) = some (kl ((swg A C R j k.toNat).1 i), ω) ∧ kF 121 123 μ ω := by
    intro ξ kξ hp hq
    obtain ⟨⟨r1, r2⟩, e, h1, h2⟩ := jit_inv (f := fun (s : Int32 × jM) => b_X12_strike_116 Y 95 (ki d) (ki k) (ki i) (ki R) s.1 s.2) (fun n z => z.1 = ki n ∧ kF 121 123 μ z.2 ∧ rowL z.2 121 R (swg A C R j n).1 ∧ rowL z.2 122 R (swg A C R j n).2) (fun r => r.1 = kl ((swg A C R j k.toNat).1 i) ∧ kF 121 123 μ r.2) k.toNat (s := ((0 : Int32), ξ)) ⟨rfl, kξ, hp, hq⟩ (by omega) (fun n z hn hz => by
      obtain ⟨v, ν⟩ := z
      obtain ⟨rfl, z1, z2, z3⟩ := hz
      simp only [] at z1 z2 z3
      have hM1 := hM.to z1
      by_cases e : n = k.toNat
      · have q := kaL (kM.a121 hM1) (x := i) i0 (by omega)
        rw [z2 i i0 i1, e] at q
        refine ⟨.inr (kl ((swg A C R j k.toNat).1 i), ν), ?_, rfl, z1⟩
        simp (disch := omega) only [b_X12_strike_116, kM.o39 hM1, q, ki_0, ki_1, ki_2, ki_3, ki_4, ki_5, ki_6, ki_7, ki_8, ki_9, ki_10, ki_11, ki_12, ki_13, ki_18, ki_20, ki_24, ki_32, ki_36, ki_45, ki_47, ki_48, ki_50, ki_57, ki_60, ki_63, ki_99, ki_100, ki_101, ki_120, ki_255, ki_468, ki_1000, ki_1024, ki_13849, ki_25173, ki_65535, ki_65536, ki_100000, ki_100001, ki_2147483647, ki_2147483648, kl_0, kl_1, kl_2, kl_9223372036854775808, ki_add, ki_sub, ki_mul, ki_neg, kl_add, kl_sub, kl_mul, kl_neg, ki_i2l, kl_l2i, ki_lt, ki_le, ki_eq, kcmp_eq, kcmp_lt, kcmp_le, kcmp_gt, kcmp_ge, Option.bind_some, Option.map_some, kbool0, kbool1, if_pos, if_neg, if_true, if_false, Int.neg_neg, Int.sub_zero, Int.add_zero, Int.zero_add, true_and, and_true, false_and, and_false, false_or, or_false, true_or, or_true, ne_eq, not_false_eq_true, not_true_eq_false]
      · obtain ⟨ω, c, k1, k2, k3⟩ := L3 ν n (by omega) z1 z2 z3
        refine ⟨.inl (ki ((n : Int) + 1), ω), ?_, by omega, by rw [Int.natCast_add, Int.natCast_one], k1, k2, k3⟩
        simp (disch := omega) only [b_X12_strike_116, ki_0, ki_1, ki_2, ki_3, ki_4, ki_5, ki_6, ki_7, ki_8, ki_9, ki_10, ki_11, ki_12, ki_13, ki_18, ki_20, ki_24, ki_32, ki_36, ki_45, ki_47, ki_48, ki_50, ki_57, ki_60, ki_63, ki_99, ki_100, ki_101, ki_120, ki_255, ki_468, ki_1000, ki_1024, ki_13849, ki_25173, ki_65535, ki_65536, ki_100000, ki_100001, ki_2147483647, ki_2147483648, kl_0, kl_1, kl_2, kl_9223372036854775808, ki_add, ki_sub, ki_mul, ki_neg, kl_add, kl_sub, kl_mul, kl_neg, ki_i2l, kl_l2i, ki_lt, ki_le, ki_eq, kcmp_eq, kcmp_lt, kcmp_le, kcmp_gt, kcmp_ge, Option.bind_some, Option.map_some, kbool0, kbool1, if_pos, if_neg, if_true, if_false, Int.neg_neg, Int.sub_zero, Int.add_zero, Int.zero_add, true_and, and_true, false_and, and_false, false_or, or_false, true_or, or_true, ne_eq, not_false_eq_true, not_true_eq_false]
        exact c)
    simp only [] at h1
    exact ⟨r2, by rw [e, h1], h2⟩
  obtain ⟨⟨r1, r2⟩, e, h1, h2⟩ := jit_inv (f := fun (s : Int32 × jM) => b_X12_strike_74 Y 95 (ki d) (ki j) (ki k) (ki i) (ki R) s.1 s.2) (fun n z => z.1 = ki n ∧ kF 121 123 μ z.2 ∧ (∀ x : Int, 0 ≤ x → x < n → gl z.2 121 x = 0) ∧ ∀ x : Int, 0 ≤ x → x < n → gl z.2 122 x = eI j x) (fun r => r.1 = kl ((swg A C R j k.toNat).1 i) ∧ kF 121 123 μ r.2) R.toNat (s := ((0 : Int32), μ)) ⟨rfl, kF.refl, fun x a b => by omega, fun x a b => by omega⟩ (by omega) (fun n z hn hz => by
    obtain ⟨v, ν⟩ := z
    obtain ⟨rfl, z1, z2, z3⟩ := hz
    simp only [] at z1 z2 z3
    have hM1 := hM.to z1
    by_cases e : n = R.toNat
    · obtain ⟨ω, c, k1⟩ := L2 ν z1 (fun x a b => z2 x a (by omega)) (fun x a b => z3 x a (by omega))
      refine ⟨.inr (kl ((swg A C R j k.toNat).1 i), ω), ?_, rfl, k1⟩
      have E : b_X12_strike_74 Y 95 (ki d) (ki j) (ki k) (ki i) (ki R) (ki n) ν = (jit jF (fun (s : Int32 × jM) => b_X12_strike_116 Y 95 (ki d) (ki k) (ki i) (ki R) s.1 s.2) ((0 : Int32), ν)).map (fun r => (.inr r)) := by
        simp (disch := omega) only [b_X12_strike_74, ki_0, ki_1, ki_2, ki_3, ki_4, ki_5, ki_6, ki_7, ki_8, ki_9, ki_10, ki_11, ki_12, ki_13, ki_18, ki_20, ki_24, ki_32, ki_36, ki_45, ki_47, ki_48, ki_50, ki_57, ki_60, ki_63, ki_99, ki_100, ki_101, ki_120, ki_255, ki_468, ki_1000, ki_1024, ki_13849, ki_25173, ki_65535, ki_65536, ki_100000, ki_100001, ki_2147483647, ki_2147483648, kl_0, kl_1, kl_2, kl_9223372036854775808, ki_add, ki_sub, ki_mul, ki_neg, kl_add, kl_sub, kl_mul, kl_neg, ki_i2l, kl_l2i, ki_lt, ki_le, ki_eq, kcmp_eq, kcmp_lt, kcmp_le, kcmp_gt, kcmp_ge, Option.bind_some, Option.map_some, kbool0, kbool1, if_pos, if_neg, if_true, if_false, Int.neg_neg, Int.sub_zero, Int.add_zero, Int.zero_add, true_and, and_true, false_and, and_false, false_or, or_false, true_or, or_true, ne_eq, not_false_eq_true, not_true_eq_false]
      simp only [E, c]
      rfl
    · have s1 := fun v => kasL (v := v) (kM.a121 hM1) (x := (n : Int)) (by omega) (by omega)
      have kf : kF 121 123 ν (jw ν 121 n (.long (kl 0))) := kF_L ((kM.a121 hM1).2.2.2 _ (by omega)) (by omega) (by omega)
      have hM2 := hM1.to kf
      have s2 := fun v => kasL (v := v) (kM.a122 hM2) (x := (n : Int)) (by omega) (by omega)
      have kf2 : kF 121 123 (jw ν 121 n (.long (kl 0))) (jw (jw ν 121 n (.long (kl 0))) 122 n (.long (kl (eI j n)))) := kF_L ((kM.a122 hM2).2.2.2 _ (by omega)) (by omega) (by omega)
      have b : -1 ≤ eI j n ∧ eI j n ≤ 1 := eI_bd (R := R) n (by omega) (by omega)
      refine ⟨.inl (ki ((n + 1 : Nat) : Int), jw (jw ν 121 n (.long (kl 0))) 122 n (.long (kl (eI j n)))), ?_, by omega, rfl, (z1.trans kf).trans kf2, fun x a c => ?_, rowL.put (μ := μ) (fun x a c => by rw [gl_cell (jw_cell (by omega))]; exact z3 x a c) (by omega) (by omega)⟩
      · by_cases f : (n : Int) = j
        · have ej : eI j n = 1 := if_pos f
          rw [ej]
          simp (disch := omega) only [b_X12_strike_74, b_X12_strike_106, kM.o39 hM1, s1, kM.o40 hM2, s2, ki_0, ki_1, ki_2, ki_3, ki_4, ki_5, ki_6, ki_7, ki_8, ki_9, ki_10, ki_11, ki_12, ki_13, ki_18, ki_20, ki_24, ki_32, ki_36, ki_45, ki_47, ki_48, ki_50, ki_57, ki_60, ki_63, ki_99, ki_100, ki_101, ki_120, ki_255, ki_468, ki_1000, ki_1024, ki_13849, ki_25173, ki_65535, ki_65536, ki_100000, ki_100001, ki_2147483647, ki_2147483648, kl_0, kl_1, kl_2, kl_9223372036854775808, ki_add, ki_sub, ki_mul, ki_neg, kl_add, kl_sub, kl_mul, kl_neg, ki_i2l, kl_l2i, ki_lt, ki_le, ki_eq, kcmp_eq, kcmp_lt, kcmp_le, kcmp_gt, kcmp_ge, Option.bind_some, Option.map_some, kbool0, kbool1, if_pos, if_neg, if_true, if_false, Int.neg_neg, Int.sub_zero, Int.add_zero, Int.zero_add, true_and, and_true, false_and, and_false, false_or, or_false, true_or, or_true, ne_eq, not_false_eq_true, not_true_eq_false, Int.natCast_add, Int.natCast_one, Int.toNat_natCast]
        · have ej : eI j n = 0 := if_neg f
          rw [ej]
          simp (disch := omega) only [b_X12_strike_74, b_X12_strike_106, kM.o39 hM1, s1, kM.o40 hM2, s2, ki_0, ki_1, ki_2, ki_3, ki_4, ki_5, ki_6, ki_7, ki_8, ki_9, ki_10, ki_11, ki_12, ki_13, ki_18, ki_20, ki_24, ki_32, ki_36, ki_45, ki_47, ki_48, ki_50, ki_57, ki_60, ki_63, ki_99, ki_100, ki_101, ki_120, ki_255, ki_468, ki_1000, ki_1024, ki_13849, ki_25173, ki_65535, ki_65536, ki_100000, ki_100001, ki_2147483647, ki_2147483648, kl_0, kl_1, kl_2, kl_9223372036854775808, ki_add, ki_sub, ki_mul, ki_neg, kl_add, kl_sub, kl_mul, kl_neg, ki_i2l, kl_l2i, ki_lt, ki_le, ki_eq, kcmp_eq, kcmp_lt, kcmp_le, kcmp_gt, kcmp_ge, Option.bind_some, Option.map_some, kbool0, kbool1, if_pos, if_neg, if_true, if_false, Int.neg_neg, Int.sub_zero, Int.add_zero, Int.zero_add, true_and, and_true, false_and, and_false, false_or, or_false, true_or, or_true, ne_eq, not_false_eq_true, not_true_eq_false, Int.natCast_add, Int.natCast_one, Int.toNat_natCast]
      · simp only []
        rw [gl_cell (jw_cell (by omega))]
        exact rowL.put (μ := μ) (g := fun _ => 0) z2 (by omega) (by omega) x a c)
  simp only [] at h1
  exact ⟨r2, by rw [← h1]; exact e, h2⟩
theorem ok_strike {L : Nat} {xs : Nat → Int32} {n : Nat} {Y : jY} {μ : jM} (h : Inv L xs n Y μ) : so_strike (Inv L xs) n Y μ := by
  have hX := h.x
  have hM := h.m
  intro a1 a2 a3 a4
  obtain ⟨d, d1, d2, rfl⟩ := ki_is a1
  obtain ⟨j, j1, j2, rfl⟩ := ki_is a2
  obtain ⟨k, k1, k2, rfl⟩ := ki_is a3
  obtain ⟨i, i1, i2, rfl⟩ := ki_is a4
  by_cases hd : 0 ≤ d ∧ d ≤ 3
  · obtain ⟨hT, hB, hMB, hR, hA, hC⟩ := h.d hd.1 hd.2; have hR0 := hMB.1; have hR5 := hMB.2.1
    by_cases hz : gi μ 108 d = 0
    · refine ⟨(kl (-9223372036854775808), μ), (kl (-9223372036854775808), μ), ?_, fun _ => rfl, ?_, rfl, h⟩ <;> simp (disch := omega) only [f_X11_strike, b_X11_strike_37, f_X12_strike, b_X12_strike_59, krcv (kX.y1 hX), kX.o1_3 hX, kS.gd (kX.now hX), kS.gt (kX.now hX), X11_within, X11_isDrawer, f_X11_isFilled, b_X11_isFilled_27, b_X11_isFilled_26, f_X11_isRow, b_X11_isRow_35, b_X11_isRow_34, f_X11_isPart, b_X11_isPart_14, b_X11_isPart_9, krcv (kM.y hM), kM.o26 hM, kaI (kM.a108 hM), X12_in, X12_isDrawer, kT.gr hT, krcv hT.y, hR, ki_0, ki_1, ki_2, ki_3, ki_4, ki_5, ki_6, ki_7, ki_8, ki_9, ki_10, ki_11, ki_12, ki_13, ki_18, ki_20, ki_24, ki_32, ki_36, ki_45, ki_47, ki_48, ki_50, ki_57, ki_60, ki_63, ki_99, ki_100, ki_101, ki_120, ki_255, ki_468, ki_1000, ki_1024, ki_13849, ki_25173, ki_65535, ki_65536, ki_100000, ki_100001, ki_2147483647, ki_2147483648, kl_0, kl_1, kl_2, kl_9223372036854775808, ki_add, ki_sub, ki_mul, ki_neg, kl_add, kl_sub, kl_mul, kl_neg, ki_i2l, kl_l2i, ki_lt, ki_le, ki_eq, kcmp_eq, kcmp_lt, kcmp_le, kcmp_gt, kcmp_ge, Option.bind_some, Option.map_some, kbool0, kbool1, if_pos, if_neg, if_true, if_false, Int.neg_neg, Int.sub_zero, Int.add_zero, Int.zero_add, true_and, and_true, false_and, and_false, false_or, or_false, true_or, or_true, ne_eq, not_false_eq_true, not_true_eq_false]
    · by_cases hj : 0 ≤ j ∧ j ≤ gi μ 108 d - 1
      · by_cases hk : 0 ≤ k ∧ k ≤ 8
        · by_cases hi : 0 ≤ i ∧ i ≤ gi μ 108 d - 1
          · obtain ⟨t1, t2, t3⟩ := h.tb hd.1 hd.2
            obtain ⟨ν, c, kf⟩ := X4_swing hX (by omega) t1 (by omega) (by omega) t3 (j := j) (k := k) (i := i) hj.1 (by omega) hk.1 hk.2 hi.1 (by omega)
            have hM1 := hM.to kf
            obtain ⟨ω, c2, kf2⟩ := X12_strike2 hM1 hd.1 hd.2 (t2.to kf (by omega)) (by omega) (by omega) t3 (j := j) (k := k) (i := i) hj.1 (by omega) hk.1 hk.2 hi.1 (by omega)
            have g := kaI (kM.a108 hM1) (x := d) hd.1 (by omega)
            rw [kf.gi (by omega)] at g
            generalize (swg (mA μ d) (mC μ d) (gi μ 108 d) j k.toNat).1 i = v at *
            refine ⟨(kl v, ν), (kl v, ω), ?_, fun m => ?_, ?_, rfl, h.to ((kP.of_rows (kf.mono (by omega) (by omega))).trans (kP.of_here (kf2.mono (by omega) (by omega))))⟩
            · simp (disch := omega) only [f_X11_strike, b_X11_strike_37, f_X12_strike, b_X12_strike_59, krcv (kX.y1 hX), kX.o1_3 hX, kS.gd (kX.now hX), kS.gt (kX.now hX), X11_within, X11_isDrawer, f_X11_isFilled, b_X11_isFilled_27, b_X11_isFilled_26, f_X11_isRow, b_X11_isRow_35, b_X11_isRow_34, f_X11_isPart, b_X11_isPart_14, b_X11_isPart_9, kX.o1_9 hX, kT.gr hT, krcv hT.y, krcv (kX.y78 hX), hR, c, ki_0, ki_1, ki_2, ki_3, ki_4, ki_5, ki_6, ki_7, ki_8, ki_9, ki_10, ki_11, ki_12, ki_13, ki_18, ki_20, ki_24, ki_32, ki_36, ki_45, ki_47, ki_48, ki_50, ki_57, ki_60, ki_63, ki_99, ki_100, ki_101, ki_120, ki_255, ki_468, ki_1000, ki_1024, ki_13849, ki_25173, ki_65535, ki_65536, ki_100000, ki_100001, ki_2147483647, ki_2147483648, kl_0, kl_1, kl_2, kl_9223372036854775808, ki_add, ki_sub, ki_mul, ki_neg, kl_add, kl_sub, kl_mul, kl_neg, ki_i2l, kl_l2i, ki_lt, ki_le, ki_eq, kcmp_eq, kcmp_lt, kcmp_le, kcmp_gt, kcmp_ge, Option.bind_some, Option.map_some, kbool0, kbool1, if_pos, if_neg, if_true, if_false, Int.neg_neg, Int.sub_zero, Int.add_zero, Int.zero_add, true_and, and_true, false_and, and_false, false_or, or_false, true_or, or_true, ne_eq, not_false_eq_true, not_true_eq_false]
            · show ν 0 m = μ 0 m
              rw [kf.1 0 (by omega)]
            · simp (disch := omega) only [f_X12_strike, X12_in, X12_isDrawer, kM.o26 hM1, g, ki_0, ki_1, ki_2, ki_3, ki_4, ki_5, ki_6, ki_7, ki_8, ki_9, ki_10, ki_11, ki_12, ki_13, ki_18, ki_20, ki_24, ki_32, ki_36, ki_45, ki_47, ki_48, ki_50, ki_57, ki_60, ki_63, ki_99, ki_100, ki_101, ki_120, ki_255, ki_468, ki_1000, ki_1024, ki_13849, ki_25173, ki_65535, ki_65536, ki_100000, ki_100001, ki_2147483647, ki_2147483648, kl_0, kl_1, kl_2, kl_9223372036854775808, ki_add, ki_sub, ki_mul, ki_neg, kl_add, kl_sub, kl_mul, kl_neg, ki_i2l, kl_l2i, ki_lt, ki_le, ki_eq, kcmp_eq, kcmp_lt, kcmp_le, kcmp_gt, kcmp_ge, Option.bind_some, Option.map_some, kbool0, kbool1, if_pos, if_neg, if_true, if_false, Int.neg_neg, Int.sub_zero, Int.add_zero, Int.zero_add, true_and, and_true, false_and, and_false, false_or, or_false, true_or, or_true, ne_eq, not_false_eq_true, not_true_eq_false]
              exact c2
          · refine ⟨(kl (-9223372036854775808), μ), (kl (-9223372036854775808), μ), ?_, fun _ => rfl, ?_, rfl, h⟩ <;> simp (disch := omega) only [f_X11_strike, b_X11_strike_37, f_X12_strike, b_X12_strike_59, krcv (kX.y1 hX), kX.o1_3 hX, kS.gd (kX.now hX), kS.gt (kX.now hX), X11_within, X11_isDrawer, f_X11_isFilled, b_X11_isFilled_27, b_X11_isFilled_26, f_X11_isRow, b_X11_isRow_35, b_X11_isRow_34, f_X11_isPart, b_X11_isPart_14, b_X11_isPart_9, krcv (kM.y hM), kM.o26 hM, kaI (kM.a108 hM), X12_in, X12_isDrawer, kT.gr hT, krcv hT.y, hR, ki_0, ki_1, ki_2, ki_3, ki_4, ki_5, ki_6, ki_7, ki_8, ki_9, ki_10, ki_11, ki_12, ki_13, ki_18, ki_20, ki_24, ki_32, ki_36, ki_45, ki_47, ki_48, ki_50, ki_57, ki_60, ki_63, ki_99, ki_100, ki_101, ki_120, ki_255, ki_468, ki_1000, ki_1024, ki_13849, ki_25173, ki_65535, ki_65536, ki_100000, ki_100001, ki_2147483647, ki_2147483648, kl_0, kl_1, kl_2, kl_9223372036854775808, ki_add, ki_sub, ki_mul, ki_neg, kl_add, kl_sub, kl_mul, kl_neg, ki_i2l, kl_l2i, ki_lt, ki_le, ki_eq, kcmp_eq, kcmp_lt, kcmp_le, kcmp_gt, kcmp_ge, Option.bind_some, Option.map_some, kbool0, kbool1, if_pos, if_neg, if_true, if_false, Int.neg_neg, Int.sub_zero, Int.add_zero, Int.zero_add, true_and, and_true, false_and, and_false, false_or, or_false, true_or, or_true, ne_eq, not_false_eq_true, not_true_eq_false]
        · refine ⟨(kl (-9223372036854775808), μ), (kl (-9223372036854775808), μ), ?_, fun _ => rfl, ?_, rfl, h⟩ <;> simp (disch := omega) only [f_X11_strike, b_X11_strike_37, f_X12_strike, b_X12_strike_59, krcv (kX.y1 hX), kX.o1_3 hX, kS.gd (kX.now hX), kS.gt (kX.now hX), X11_within, X11_isDrawer, f_X11_isFilled, b_X11_isFilled_27, b_X11_isFilled_26, f_X11_isRow, b_X11_isRow_35, b_X11_isRow_34, f_X11_isPart, b_X11_isPart_14, b_X11_isPart_9, krcv (kM.y hM), kM.o26 hM, kaI (kM.a108 hM), X12_in, X12_isDrawer, kT.gr hT, krcv hT.y, hR, ki_0, ki_1, ki_2, ki_3, ki_4, ki_5, ki_6, ki_7, ki_8, ki_9, ki_10, ki_11, ki_12, ki_13, ki_18, ki_20, ki_24, ki_32, ki_36, ki_45, ki_47, ki_48, ki_50, ki_57, ki_60, ki_63, ki_99, ki_100, ki_101, ki_120, ki_255, ki_468, ki_1000, ki_1024, ki_13849, ki_25173, ki_65535, ki_65536, ki_100000, ki_100001, ki_2147483647, ki_2147483648, kl_0, kl_1, kl_2, kl_9223372036854775808, ki_add, ki_sub, ki_mul, ki_neg, kl_add, kl_sub, kl_mul, kl_neg, ki_i2l, kl_l2i, ki_lt, ki_le, ki_eq, kcmp_eq, kcmp_lt, kcmp_le, kcmp_gt, kcmp_ge, Option.bind_some, Option.map_some, kbool0, kbool1, if_pos, if_neg, if_true, if_false, Int.neg_neg, Int.sub_zero, Int.add_zero, Int.zero_add, true_and, and_true, false_and, and_false, false_or, or_false, true_or, or_true, ne_eq, not_false_eq_true, not_true_eq_false]
      · refine ⟨(kl (-9223372036854775808), μ), (kl (-9223372036854775808), μ), ?_, fun _ => rfl, ?_, rfl, h⟩ <;> simp (disch := omega) only [f_X11_strike, b_X11_strike_37, f_X12_strike, b_X12_strike_59, krcv (kX.y1 hX), kX.o1_3 hX, kS.gd (kX.now hX), kS.gt (kX.now hX), X11_within, X11_isDrawer, f_X11_isFilled, b_X11_isFilled_27, b_X11_isFilled_26, f_X11_isRow, b_X11_isRow_35, b_X11_isRow_34, f_X11_isPart, b_X11_isPart_14, b_X11_isPart_9, krcv (kM.y hM), kM.o26 hM, kaI (kM.a108 hM), X12_in, X12_isDrawer, kT.gr hT, krcv hT.y, hR, ki_0, ki_1, ki_2, ki_3, ki_4, ki_5, ki_6, ki_7, ki_8, ki_9, ki_10, ki_11, ki_12, ki_13, ki_18, ki_20, ki_24, ki_32, ki_36, ki_45, ki_47, ki_48, ki_50, ki_57, ki_60, ki_63, ki_99, ki_100, ki_101, ki_120, ki_255, ki_468, ki_1000, ki_1024, ki_13849, ki_25173, ki_65535, ki_65536, ki_100000, ki_100001, ki_2147483647, ki_2147483648, kl_0, kl_1, kl_2, kl_9223372036854775808, ki_add, ki_sub, ki_mul, ki_neg, kl_add, kl_sub, kl_mul, kl_neg, ki_i2l, kl_l2i, ki_lt, ki_le, ki_eq, kcmp_eq, kcmp_lt, kcmp_le, kcmp_gt, kcmp_ge, Option.bind_some, Option.map_some, kbool0, kbool1, if_pos, if_neg, if_true, if_false, Int.neg_neg, Int.sub_zero, Int.add_zero, Int.zero_add, true_and, and_true, false_and, and_false, false_or, or_false, true_or, or_true, ne_eq, not_false_eq_true, not_true_eq_false]
  · refine ⟨(kl (-9223372036854775808), μ), (kl (-9223372036854775808), μ), ?_, fun _ => rfl, ?_, rfl, h⟩ <;> simp (disch := omega) only [f_X11_strike, b_X11_strike_37, f_X12_strike, b_X12_strike_59, krcv (kX.y1 hX), kX.o1_3 hX, kS.gd (kX.now hX), kS.gt (kX.now hX), X11_within, X11_isDrawer, f_X11_isFilled, b_X11_isFilled_27, b_X11_isFilled_26, f_X11_isRow, b_X11_isRow_35, b_X11_isRow_34, f_X11_isPart, b_X11_isPart_14, b_X11_isPart_9, krcv (kM.y hM), kM.o26 hM, kaI (kM.a108 hM), X12_in, X12_isDrawer, ki_0, ki_1, ki_2, ki_3, ki_4, ki_5, ki_6, ki_7, ki_8, ki_9, ki_10, ki_11, ki_12, ki_13, ki_18, ki_20, ki_24, ki_32, ki_36, ki_45, ki_47, ki_48, ki_50, ki_57, ki_60, ki_63, ki_99, ki_100, ki_101, ki_120, ki_255, ki_468, ki_1000, ki_1024, ki_13849, ki_25173, ki_65535, ki_65536, ki_100000, ki_100001, ki_2147483647, ki_2147483648, kl_0, kl_1, kl_2, kl_9223372036854775808, ki_add, ki_sub, ki_mul, ki_neg, kl_add, kl_sub, kl_mul, kl_neg, ki_i2l, kl_l2i, ki_lt, ki_le, ki_eq, kcmp_eq, kcmp_lt, kcmp_le, kcmp_gt, kcmp_ge, Option.bind_some, Option.map_some, kbool0, kbool1, if_pos, if_neg, if_true, if_false, Int.neg_neg, Int.sub_zero, Int.add_zero, Int.zero_add, true_and, and_true, false_and, and_false, false_or, or_false, true_or, or_true, ne_eq, not_false_eq_true, not_true_eq_false]
