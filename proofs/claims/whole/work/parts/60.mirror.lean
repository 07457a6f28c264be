/-! OPS: mirror -/
theorem X9_neg {Y : jY} {μ : jM} {a n : Nat} (hA : kAI Y μ a n) {c : Int} (h0 : 0 ≤ c) (h1 : c ≤ n) (hr : ∀ x : Int, 0 ≤ x → x < c → -1000 ≤ gi μ a x ∧ gi μ a x ≤ 1000) : ∃ ν, jit jF (fun (s : Int32 × Int32 × jM) => b_X9_negateBackwards_6 Y a s.1 s.2.1 s.2.2) (ki 0, ki (c - 1), μ) = some ν ∧ kF a (a + 1) μ ν ∧ ∀ x, 0 ≤ x → x < c → gi ν a x = -gi μ a (c - 1 - x) := by
  have hn := hA.2.2.1
  refine jit_inv (f := fun (s : Int32 × Int32 × jM) => b_X9_negateBackwards_6 Y a s.1 s.2.1 s.2.2) (fun i z => (i : Int) ≤ c - i + 1 ∧ z.1 = ki i ∧ z.2.1 = ki (c - 1 - i) ∧ kF a (a + 1) μ z.2.2 ∧ (∀ x : Int, 0 ≤ x → x < i → gi z.2.2 a x = -gi μ a (c - 1 - x)) ∧ (∀ x : Int, c - 1 - i < x → x < c → gi z.2.2 a x = -gi μ a (c - 1 - x)) ∧ ∀ x : Int, i ≤ x → x ≤ c - 1 - i → gi z.2.2 a x = gi μ a x) _ (c.toNat + 1) (s := (ki 0, ki (c - 1), μ)) ⟨by omega, rfl, by rw [Int.natCast_zero, Int.sub_zero], kF.refl, fun x a b => by omega, fun x a b => by omega, fun x _ _ => rfl⟩ (by omega) (fun i z hi hz => ?_)
  obtain ⟨v, w, ν⟩ := z
  obtain ⟨z0, rfl, rfl, z1, z2, z3, z4⟩ := hz
  simp only [] at z1 z2 z3 z4
  by_cases e : c - 1 - i < i
  · refine ⟨.inr ν, ?_, z1, fun x p q => ?_⟩
    · simp (disch := omega) only [b_X9_negateBackwards_6, ki_0, ki_1, ki_2, ki_3, ki_4, ki_5, ki_6, ki_7, ki_8, ki_9, ki_10, ki_11, ki_12, ki_13, ki_18, ki_20, ki_24, ki_32, ki_36, ki_45, ki_47, ki_48, ki_50, ki_57, ki_60, ki_63, ki_99, ki_100, ki_101, ki_120, ki_255, ki_468, ki_1000, ki_1024, ki_13849, ki_25173, ki_65535, ki_65536, ki_100000, ki_100001, ki_2147483647, ki_2147483648, kl_0, kl_1, kl_2, kl_9223372036854775808, ki_add, ki_sub, ki_mul, ki_neg, kl_add, kl_sub, kl_mul, kl_neg, ki_i2l, kl_l2i, ki_lt, ki_le, ki_eq, kcmp_eq, kcmp_lt, kcmp_le, kcmp_gt, kcmp_ge, Option.bind_some, Option.map_some, kbool0, kbool1, if_pos, if_neg, if_true, if_false, Int.neg_neg, Int.sub_zero, Int.add_zero, Int.zero_add, true_and, and_true, false_and, and_false, false_or, or_false, true_or, or_true, ne_eq, not_false_eq_true, not_true_eq_false]
    · by_cases g : x < i
      · exact z2 x p g
      · exact z3 x (by omega) q
  · have hA1 := hA.to z1
    have q1 := kaI hA1 (x := (i : Int)) (by omega) (by omega)
    have q2 := kaI hA1 (x := c - 1 - i) (by omega) (by omega)
    rw [z4 i (by omega) (by omega)] at q1
    rw [z4 (c - 1 - i) (by omega) (by omega)] at q2
    have s1 := fun v => kasI (v := v) hA1 (x := (i : Int)) (by omega) (by omega)
    have kf1 : kF a (a + 1) ν (jw ν a (i : Int).toNat (.int (ki (-gi μ a (c - 1 - i))))) := kF_I (hA1.2.2.2 _ (by omega)) (by omega) (by omega)
    have hA2 := hA1.to kf1
    have s2 := fun v => kasI (v := v) hA2 (x := c - 1 - i) (by omega) (by omega)
    have kf2 : kF a (a + 1) (jw ν a (i : Int).toNat (.int (ki (-gi μ a (c - 1 - i))))) (jw (jw ν a (i : Int).toNat (.int (ki (-gi μ a (c - 1 - i))))) a (c - 1 - i).toNat (.int (ki (-gi μ a i)))) := kF_I (hA2.2.2.2 _ (by omega)) (by omega) (by omega)
    have r1 := hr i (by omega) (by omega)
    have r2 := hr (c - 1 - i) (by omega) (by omega)
    have val : ∀ x : Int, 0 ≤ x → gi (jw (jw ν a (i : Int).toNat (.int (ki (-gi μ a (c - 1 - i))))) a (c - 1 - i).toNat (.int (ki (-gi μ a i)))) a x = if x = c - 1 - i then -gi μ a i else if x = i then -gi μ a (c - 1 - i) else gi ν a x := by
      intro x hx
      rw [gi_jw _ _ (by omega) (by omega), gi_jw _ _ (by omega) (by omega)]
      by_cases e1 : x = c - 1 - i
      · rw [if_pos (by omega), if_pos e1]
      · rw [if_neg (by omega), if_neg e1]
        by_cases e2 : x = i
        · rw [if_pos (by omega), if_pos e2]
        · rw [if_neg (by omega), if_neg e2]
    refine ⟨.inl (ki ((i + 1 : Nat) : Int), ki (c - 1 - ((i + 1 : Nat) : Int)), jw (jw ν a (i : Int).toNat (.int (ki (-gi μ a (c - 1 - i))))) a (c - 1 - i).toNat (.int (ki (-gi μ a i)))), ?_, by omega, by omega, rfl, rfl, (z1.trans kf1).trans kf2, fun x p q => ?_, fun x p q => ?_, fun x p q => ?_⟩
    · simp (disch := omega) only [b_X9_negateBackwards_6, q1, q2, s1, s2, ki_0, ki_1, ki_2, ki_3, ki_4, ki_5, ki_6, ki_7, ki_8, ki_9, ki_10, ki_11, ki_12, ki_13, ki_18, ki_20, ki_24, ki_32, ki_36, ki_45, ki_47, ki_48, ki_50, ki_57, ki_60, ki_63, ki_99, ki_100, ki_101, ki_120, ki_255, ki_468, ki_1000, ki_1024, ki_13849, ki_25173, ki_65535, ki_65536, ki_100000, ki_100001, ki_2147483647, ki_2147483648, kl_0, kl_1, kl_2, kl_9223372036854775808, ki_add, ki_sub, ki_mul, ki_neg, kl_add, kl_sub, kl_mul, kl_neg, ki_i2l, kl_l2i, ki_lt, ki_le, ki_eq, kcmp_eq, kcmp_lt, kcmp_le, kcmp_gt, kcmp_ge, Option.bind_some, Option.map_some, kbool0, kbool1, if_pos, if_neg, if_true, if_false, Int.neg_neg, Int.sub_zero, Int.add_zero, Int.zero_add, true_and, and_true, false_and, and_false, false_or, or_false, true_or, or_true, ne_eq, not_false_eq_true, not_true_eq_false, Int.natCast_add, Int.natCast_one]
      rw [show c - 1 - (i : Int) + -1 = c - 1 - ((i : Int) + 1) by omega]
    · simp only []
      rw [val x p]
      by_cases e1 : x = c - 1 - i
      · rw [if_pos e1, show c - 1 - x = i by omega]
      · rw [if_neg e1]
        by_cases e2 : x = i
        · rw [if_pos e2, e2]
        · rw [if_neg e2]; exact z2 x p (by omega)
    · simp only []
      rw [val x (by omega)]
      by_cases e1 : x = c - 1 - i
      · rw [if_pos e1, show c - 1 - x = i by omega]
      · rw [if_neg e1]
        by_cases e2 : x = i
        · rw [if_pos e2, e2]
        · rw [if_neg e2]; exact z3 x (by omega) q
    · simp only []
      rw [val x (by omega), if_neg (by omega), if_neg (by omega)]
      exact z4 x (by omega) (by omega)
theorem X9_turnAbout {Y : jY} {μ : jM} {o : Nat} (hN : kN Y μ o) {N : Int} (e0 : gi μ o 0 = N) (h0 : 1 ≤ N) (h4 : N ≤ 4) (hl : ∀ x : Int, 0 ≤ x → x < N → -1000 ≤ gi μ (o + 1) x ∧ gi μ (o + 1) x ≤ 1000) (hm : ∀ x : Int, 0 ≤ x → x < N - 1 → -1000 ≤ gi μ (o + 2) x ∧ gi μ (o + 2) x ≤ 1000) : ∃ ν, f_X9_turnAbout Y o μ = some ν ∧ kF (o + 1) (o + 3) μ ν ∧ (∀ x, 0 ≤ x → x < N → gi ν (o + 1) x = -gi μ (o + 1) (N - 1 - x)) ∧ ∀ x, 0 ≤ x → x < N - 1 → gi ν (o + 2) x = -gi μ (o + 2) (N - 2 - x) := by
  have g := kN.gr hN
  rw [e0] at g
  obtain ⟨ν1, c1, k1, d1⟩ := X9_neg hN.aa (c := N) (by omega) (by omega) hl
  have hN1 := hN.to k1
  have g1 := kN.gr hN1
  rw [k1.gi (by omega), e0] at g1
  obtain ⟨ν2, c2, k2, d2⟩ := X9_neg hN1.ac (c := N - 1) (by omega) (by omega) (fun x a b => by rw [k1.gi (by omega)]; exact hm x a b)
  refine ⟨ν2, ?_, (k1.mono (by omega) (by omega)).trans (k2.mono (by omega) (by omega)), fun x a b => ?_, fun x a b => ?_⟩
  · simp (disch := omega) only [f_X9_turnAbout, f_X9_negateBackwards, kN.ga hN, g, ki_0, ki_1, ki_2, ki_3, ki_4, ki_5, ki_6, ki_7, ki_8, ki_9, ki_10, ki_11, ki_12, ki_13, ki_18, ki_20, ki_24, ki_32, ki_36, ki_45, ki_47, ki_48, ki_50, ki_57, ki_60, ki_63, ki_99, ki_100, ki_101, ki_120, ki_255, ki_468, ki_1000, ki_1024, ki_13849, ki_25173, ki_65535, ki_65536, ki_100000, ki_100001, ki_2147483647, ki_2147483648, kl_0, kl_1, kl_2, kl_9223372036854775808, ki_add, ki_sub, ki_mul, ki_neg, kl_add, kl_sub, kl_mul, kl_neg, ki_i2l, kl_l2i, ki_lt, ki_le, ki_eq, kcmp_eq, kcmp_lt, kcmp_le, kcmp_gt, kcmp_ge, Option.bind_some, Option.map_some, kbool0, kbool1, if_pos, if_neg, if_true, if_false, Int.neg_neg, Int.sub_zero, Int.add_zero, Int.zero_add, true_and, and_true, false_and, and_false, false_or, or_false, true_or, or_true, ne_eq, not_false_eq_true, not_true_eq_false, c1, kN.gc hN1, g1, c2]
  · rw [k2.gi (by omega)]; exact d1 x a b
  · rw [d2 x a b, k1.gi (by omega), show N - 1 - 1 - x = N - 2 - x by omega]
/-- a row written whole, behind one another -/
theorem wr_all {Y : jY} {μ : jM} {a n : Nat} {g : Int → Int} (hA : kAI Y μ a n) {c : Int} (hc : c ≤ n) (hg : ∀ x : Int, 0 ≤ x → x < c → -1000 ≤ g x ∧ g x ≤ 1000) : ∀ i : Nat, (i : Int) ≤ c → kF a (a + 1) μ (wr μ a 0 g i) ∧ ∀ x : Int, 0 ≤ x → gi (wr μ a 0 g i) a x = if x < i then g x else gi μ a x := by
  intro i hi
  have hn := hA.2.2.1
  refine ⟨wr_kF (by omega) (by omega) i (fun j hj => hA.2.2.2 _ (by omega)), fun x hx => ?_⟩
  rw [wr_gi i (fun j hj => by have := hg j (by omega) (by omega); omega) x hx]
  by_cases e : x < i
  · rw [if_pos (by omega), if_pos e, Int.natCast_zero, Int.sub_zero]
  · rw [if_neg (by omega), if_neg e]
set_option maxHeartbeats 1000000 in
theorem X12_mirror1 {Y : jY} {μ : jM} (hM : kM Y μ) {N : Int} (e0 : gi μ 95 10 = N) (h0 : 1 ≤ N) (h4 : N ≤ 4) (hl : ∀ x : Int, 0 ≤ x → x < N → -1000 ≤ gi μ 99 x ∧ gi μ 99 x ≤ 1000) (hm : ∀ x : Int, 0 ≤ x → x < N - 1 → -1000 ≤ gi μ 100 x ∧ gi μ 100 x ≤ 1000) : ∃ ν, jit jF (fun (s : Int32 × jM) => b_X12_mirror_11 Y 95 s.1 s.2) ((0 : Int32), μ) = some (ki N, ν) ∧ kF 97 101 μ ν ∧ (∀ x, 0 ≤ x → x < N → gi ν 99 x = -gi μ 99 (N - 1 - x)) ∧ ∀ x, 0 ≤ x → x < N - 1 → gi ν 100 x = -gi μ 100 (N - 2 - x) := by
  have L1 : ∀ x : Int, 0 ≤ x → x < N → -1000 ≤ -gi μ 99 (N - 1 - x) ∧ -gi μ 99 (N - 1 - x) ≤ 1000 := fun x a b => by have := hl (N - 1 - x) (by omega) (by omega); omega
  have L2 : ∀ x : Int, 0 ≤ x → x < N - 1 → -1000 ≤ -gi μ 100 (N - 2 - x) ∧ -gi μ 100 (N - 2 - x) ≤ 1000 := fun x a b => by have := hm (N - 2 - x) (by omega) (by omega); omega
  -- the last row
  have s4 : ∀ ξ : jM, kF 97 101 μ ξ → (∀ x : Int, 0 ≤ x → x < N - 1 → gi ξ 98 x = -gi μ 100 (N - 2 - x)) → ∃ ν, jit jF (fun (s : Int32 × jM) => b_X12_mirror_113 Y 95 s.1 s.2) ((0 : Int32), ξ) = some (ki N, ν) ∧ kF 100 101 ξ ν ∧ ∀ x : Int, 0 ≤ x → x < N - 1 → gi ν 100 x = -gi μ 100 (N - 2 - x) := by
    intro ξ k hx
    have hMx := hM.to k
    have W := wr_all (kM.a100 hMx) (g := fun x => -gi μ 100 (N - 2 - x)) (c := N - 1) (by omega) L2
    refine ⟨wr ξ 100 0 (fun x => -gi μ 100 (N - 2 - x)) (N - 1).toNat, ?_, (W _ (by omega)).1, fun x a b => by rw [(W _ (by omega)).2 x a, if_pos (by omega)]⟩
    refine jit_run (fun i => (ki i, wr ξ 100 0 (fun x => -gi μ 100 (N - 2 - x)) i)) _ (N - 1).toNat rfl (by omega) (fun i hi => ?_) ?_
    · have w1 := (W i (by omega)).1
      simp only [wr]
      generalize wr ξ 100 0 (fun x => -gi μ 100 (N - 2 - x)) i = ν at *
      have t1 := hMx.to w1
      have g := kM.g10 t1
      rw [w1.gi (by omega), k.gi (by omega), e0] at g
      have e1 := kaI (kM.a98 t1) (x := (i : Int)) (by omega) (by omega)
      rw [w1.gi (by omega), hx i (by omega) (by omega)] at e1
      have e2 := fun v => kasI (v := v) (kM.a100 t1) (x := (i : Int)) (by omega) (by omega)
      simp (disch := omega) only [b_X12_mirror_113, kM.o12 t1, kM.o7 t1, g, e1, e2, ki_0, ki_1, ki_2, ki_3, ki_4, ki_5, ki_6, ki_7, ki_8, ki_9, ki_10, ki_11, ki_12, ki_13, ki_18, ki_20, ki_24, ki_32, ki_36, ki_45, ki_47, ki_48, ki_50, ki_57, ki_60, ki_63, ki_99, ki_100, ki_101, ki_120, ki_255, ki_468, ki_1000, ki_1024, ki_13849, ki_25173, ki_65535, ki_65536, ki_100000, ki_100001, ki_2147483647, ki_2147483648, kl_0, kl_1, kl_2, kl_9223372036854775808, ki_add, ki_sub, ki_mul, ki_neg, kl_add, kl_sub, kl_mul, kl_neg, ki_i2l, kl_l2i, ki_lt, ki_le, ki_eq, kcmp_eq, kcmp_lt, kcmp_le, kcmp_gt, kcmp_ge, Option.bind_some, Option.map_some, kbool0, kbool1, if_pos, if_neg, if_true, if_false, Int.neg_neg, Int.sub_zero, Int.add_zero, Int.zero_add, true_and, and_true, false_and, and_false, false_or, or_false, true_or, or_true, ne_eq, not_false_eq_true, not_true_eq_false, Int.natCast_add, Int.natCast_one, Int.toNat_natCast, Nat.zero_add]
    · have w1 := (W (N - 1).toNat (by omega)).1
      generalize wr ξ 100 0 (fun x => -gi μ 100 (N - 2 - x)) (N - 1).toNat = ν at *
      have g := kM.g10 (hMx.to w1)
      rw [w1.gi (by omega), k.gi (by omega), e0] at g
      simp (disch := omega) only [b_X12_mirror_113, g, ki_0, ki_1, ki_2, ki_3, ki_4, ki_5, ki_6, ki_7, ki_8, ki_9, ki_10, ki_11, ki_12, ki_13, ki_18, ki_20, ki_24, ki_32, ki_36, ki_45, ki_47, ki_48, ki_50, ki_57, ki_60, ki_63, ki_99, ki_100, ki_101, ki_120, ki_255, ki_468, ki_1000, ki_1024, ki_13849, ki_25173, ki_65535, ki_65536, ki_100000, ki_100001, ki_2147483647, ki_2147483648, kl_0, kl_1, kl_2, kl_9223372036854775808, ki_add, ki_sub, ki_mul, ki_neg, kl_add, kl_sub, kl_mul, kl_neg, ki_i2l, kl_l2i, ki_lt, ki_le, ki_eq, kcmp_eq, kcmp_lt, kcmp_le, kcmp_gt, kcmp_ge, Option.bind_some, Option.map_some, kbool0, kbool1, if_pos, if_neg, if_true, if_false, Int.neg_neg, Int.sub_zero, Int.add_zero, Int.zero_add, true_and, and_true, false_and, and_false, false_or, or_false, true_or, or_true, ne_eq, not_false_eq_true, not_true_eq_false]
  have s3 : ∀ ξ : jM, kF 97 101 μ ξ → (∀ x : Int, 0 ≤ x → x < N → gi ξ 97 x = -gi μ 99 (N - 1 - x)) → (∀ x : Int, 0 ≤ x → x < N - 1 → gi ξ 98 x = -gi μ 100 (N - 2 - x)) → ∃ ν, jit jF (fun (s : Int32 × jM) => b_X12_mirror_85 Y 95 s.1 s.2) ((0 : Int32), ξ) = some (ki N, ν) ∧ kF 99 101 ξ ν ∧ (∀ x : Int, 0 ≤ x → x < N → gi ν 99 x = -gi μ 99 (N - 1 - x)) ∧ ∀ x : Int, 0 ≤ x → x < N - 1 → gi ν 100 x = -gi μ 100 (N - 2 - x) := by
    intro ξ k hy hx
    have hMx := hM.to k
    have W := wr_all (kM.a99 hMx) (g := fun x => -gi μ 99 (N - 1 - x)) (c := N) (by omega) L1
    have w1 := (W N.toNat (by omega)).1
    have w2 := (W N.toNat (by omega)).2
    obtain ⟨ν, f1, f2, f3⟩ := s4 (wr ξ 99 0 (fun x => -gi μ 99 (N - 1 - x)) N.toNat) (k.trans (w1.mono (by omega) (by omega))) (fun x a b => by rw [w1.gi (by omega)]; exact hx x a b)
    refine ⟨ν, ?_, (w1.mono (by omega) (by omega)).trans (f2.mono (by omega) (by omega)), fun x a b => by rw [f2.gi (by omega), w2 x a, if_pos (by omega)], f3⟩
    refine jit_run (fun i => (ki i, wr ξ 99 0 (fun x => -gi μ 99 (N - 1 - x)) i)) _ N.toNat rfl (by omega) (fun i hi => ?_) ?_
    · have w1 := (W i (by omega)).1
      simp only [wr]
      generalize wr ξ 99 0 (fun x => -gi μ 99 (N - 1 - x)) i = ν at *
      have t1 := hMx.to w1
      have g := kM.g10 t1
      rw [w1.gi (by omega), k.gi (by omega), e0] at g
      have e1 := kaI (kM.a97 t1) (x := (i : Int)) (by omega) (by omega)
      rw [w1.gi (by omega), hy i (by omega) (by omega)] at e1
      have e2 := fun v => kasI (v := v) (kM.a99 t1) (x := (i : Int)) (by omega) (by omega)
      simp (disch := omega) only [b_X12_mirror_85, kM.o11 t1, kM.o6 t1, g, e1, e2, ki_0, ki_1, ki_2, ki_3, ki_4, ki_5, ki_6, ki_7, ki_8, ki_9, ki_10, ki_11, ki_12, ki_13, ki_18, ki_20, ki_24, ki_32, ki_36, ki_45, ki_47, ki_48, ki_50, ki_57, ki_60, ki_63, ki_99, ki_100, ki_101, ki_120, ki_255, ki_468, ki_1000, ki_1024, ki_13849, ki_25173, ki_65535, ki_65536, ki_100000, ki_100001, ki_2147483647, ki_2147483648, kl_0, kl_1, kl_2, kl_9223372036854775808, ki_add, ki_sub, ki_mul, ki_neg, kl_add, kl_sub, kl_mul, kl_neg, ki_i2l, kl_l2i, ki_lt, ki_le, ki_eq, kcmp_eq, kcmp_lt, kcmp_le, kcmp_gt, kcmp_ge, Option.bind_some, Option.map_some, kbool0, kbool1, if_pos, if_neg, if_true, if_false, Int.neg_neg, Int.sub_zero, Int.add_zero, Int.zero_add, true_and, and_true, false_and, and_false, false_or, or_false, true_or, or_true, ne_eq, not_false_eq_true, not_true_eq_false, Int.natCast_add, Int.natCast_one, Int.toNat_natCast, Nat.zero_add]
    · generalize wr ξ 99 0 (fun x => -gi μ 99 (N - 1 - x)) N.toNat = η at *
      have g := kM.g10 (hMx.to w1)
      rw [w1.gi (by omega), k.gi (by omega), e0] at g
      have e : b_X12_mirror_85 Y 95 (ki (N.toNat : Int)) η = (jit jF (fun (s : Int32 × jM) => b_X12_mirror_113 Y 95 s.1 s.2) ((0 : Int32), η)).map (fun r => (.inr r)) := by
        simp (disch := omega) only [b_X12_mirror_85, g, ki_0, ki_1, ki_2, ki_3, ki_4, ki_5, ki_6, ki_7, ki_8, ki_9, ki_10, ki_11, ki_12, ki_13, ki_18, ki_20, ki_24, ki_32, ki_36, ki_45, ki_47, ki_48, ki_50, ki_57, ki_60, ki_63, ki_99, ki_100, ki_101, ki_120, ki_255, ki_468, ki_1000, ki_1024, ki_13849, ki_25173, ki_65535, ki_65536, ki_100000, ki_100001, ki_2147483647, ki_2147483648, kl_0, kl_1, kl_2, kl_9223372036854775808, ki_add, ki_sub, ki_mul, ki_neg, kl_add, kl_sub, kl_mul, kl_neg, ki_i2l, kl_l2i, ki_lt, ki_le, ki_eq, kcmp_eq, kcmp_lt, kcmp_le, kcmp_gt, kcmp_ge, Option.bind_some, Option.map_some, kbool0, kbool1, if_pos, if_neg, if_true, if_false, Int.neg_neg, Int.sub_zero, Int.add_zero, Int.zero_add, true_and, and_true, false_and, and_false, false_or, or_false, true_or, or_true, ne_eq, not_false_eq_true, not_true_eq_false]
      simp only [e, f1]
      rfl
  have s2 : ∀ ξ : jM, kF 97 101 μ ξ → (∀ x : Int, 0 ≤ x → x < N → gi ξ 97 x = -gi μ 99 (N - 1 - x)) → (∀ x : Int, 0 ≤ x → x < N - 1 → gi ξ 100 x = gi μ 100 x) → ∃ ν, jit jF (fun (s : Int32 × jM) => b_X12_mirror_47 Y 95 s.1 s.2) ((0 : Int32), ξ) = some (ki N, ν) ∧ kF 98 101 ξ ν ∧ (∀ x : Int, 0 ≤ x → x < N → gi ν 99 x = -gi μ 99 (N - 1 - x)) ∧ ∀ x : Int, 0 ≤ x → x < N - 1 → gi ν 100 x = -gi μ 100 (N - 2 - x) := by
    intro ξ k hy hx
    have hMx := hM.to k
    have W := wr_all (kM.a98 hMx) (g := fun x => -gi μ 100 (N - 2 - x)) (c := N - 1) (by omega) L2
    have w1 := (W (N - 1).toNat (by omega)).1
    have w2 := (W (N - 1).toNat (by omega)).2
    obtain ⟨ν, f1, f2, f3⟩ := s3 (wr ξ 98 0 (fun x => -gi μ 100 (N - 2 - x)) (N - 1).toNat) (k.trans (w1.mono (by omega) (by omega))) (fun x a b => by rw [w1.gi (by omega)]; exact hy x a b) (fun x a b => by rw [w2 x a, if_pos (by omega)])
    refine ⟨ν, ?_, (w1.mono (by omega) (by omega)).trans (f2.mono (by omega) (by omega)), f3⟩
    refine jit_run (fun i => (ki i, wr ξ 98 0 (fun x => -gi μ 100 (N - 2 - x)) i)) _ (N - 1).toNat rfl (by omega) (fun i hi => ?_) ?_
    · have w1 := (W i (by omega)).1
      simp only [wr]
      generalize wr ξ 98 0 (fun x => -gi μ 100 (N - 2 - x)) i = ν at *
      have t1 := hMx.to w1
      have g := kM.g10 t1
      rw [w1.gi (by omega), k.gi (by omega), e0] at g
      have e1 := kaI (kM.a100 t1) (x := N - 2 - i) (by omega) (by omega)
      rw [w1.gi (by omega), hx (N - 2 - i) (by omega) (by omega)] at e1
      have e2 := fun v => kasI (v := v) (kM.a98 t1) (x := (i : Int)) (by omega) (by omega)
      simp (disch := omega) only [b_X12_mirror_47, kM.o12 t1, kM.o7 t1, g, e1, e2, ki_0, ki_1, ki_2, ki_3, ki_4, ki_5, ki_6, ki_7, ki_8, ki_9, ki_10, ki_11, ki_12, ki_13, ki_18, ki_20, ki_24, ki_32, ki_36, ki_45, ki_47, ki_48, ki_50, ki_57, ki_60, ki_63, ki_99, ki_100, ki_101, ki_120, ki_255, ki_468, ki_1000, ki_1024, ki_13849, ki_25173, ki_65535, ki_65536, ki_100000, ki_100001, ki_2147483647, ki_2147483648, kl_0, kl_1, kl_2, kl_9223372036854775808, ki_add, ki_sub, ki_mul, ki_neg, kl_add, kl_sub, kl_mul, kl_neg, ki_i2l, kl_l2i, ki_lt, ki_le, ki_eq, kcmp_eq, kcmp_lt, kcmp_le, kcmp_gt, kcmp_ge, Option.bind_some, Option.map_some, kbool0, kbool1, if_pos, if_neg, if_true, if_false, Int.neg_neg, Int.sub_zero, Int.add_zero, Int.zero_add, true_and, and_true, false_and, and_false, false_or, or_false, true_or, or_true, ne_eq, not_false_eq_true, not_true_eq_false, Int.natCast_add, Int.natCast_one, Int.toNat_natCast, Nat.zero_add]
    · generalize wr ξ 98 0 (fun x => -gi μ 100 (N - 2 - x)) (N - 1).toNat = η at *
      have g := kM.g10 (hMx.to w1)
      rw [w1.gi (by omega), k.gi (by omega), e0] at g
      have e : b_X12_mirror_47 Y 95 (ki ((N - 1).toNat : Int)) η = (jit jF (fun (s : Int32 × jM) => b_X12_mirror_85 Y 95 s.1 s.2) ((0 : Int32), η)).map (fun r => (.inr r)) := by
        simp (disch := omega) only [b_X12_mirror_47, g, ki_0, ki_1, ki_2, ki_3, ki_4, ki_5, ki_6, ki_7, ki_8, ki_9, ki_10, ki_11, ki_12, ki_13, ki_18, ki_20, ki_24, ki_32, ki_36, ki_45, ki_47, ki_48, ki_50, ki_57, ki_60, ki_63, ki_99, ki_100, ki_101, ki_120, ki_255, ki_468, ki_1000, ki_1024, ki_13849, ki_25173, ki_65535, ki_65536, ki_100000, ki_100001, ki_2147483647, ki_2147483648, kl_0, kl_1, kl_2, kl_9223372036854775808, ki_add, ki_sub, ki_mul, ki_neg, kl_add, kl_sub, kl_mul, kl_neg, ki_i2l, kl_l2i, ki_lt, ki_le, ki_eq, kcmp_eq, kcmp_lt, kcmp_le, kcmp_gt, kcmp_ge, Option.bind_some, Option.map_some, kbool0, kbool1, if_pos, if_neg, if_true, if_false, Int.neg_neg, Int.sub_zero, Int.add_zero, Int.zero_add, true_and, and_true, false_and, and_false, false_or, or_false, true_or, or_true, ne_eq, not_false_eq_true, not_true_eq_false]
      simp only [e, f1]
      rfl
  have W := wr_all (kM.a97 hM) (g := fun x => -gi μ 99 (N - 1 - x)) (c := N) (by omega) L1
  have w1 := (W N.toNat (by omega)).1
  have w2 := (W N.toNat (by omega)).2
  obtain ⟨ν, f1, f2, f3⟩ := s2 (wr μ 97 0 (fun x => -gi μ 99 (N - 1 - x)) N.toNat) (w1.mono (by omega) (by omega)) (fun x a b => by rw [w2 x a, if_pos (by omega)]) (fun x a b => by rw [w1.gi (by omega)])
  refine ⟨ν, ?_, (w1.mono (by omega) (by omega)).trans (f2.mono (by omega) (by omega)), f3⟩
  refine jit_run (fun i => (ki i, wr μ 97 0 (fun x => -gi μ 99 (N - 1 - x)) i)) _ N.toNat rfl (by omega) (fun i hi => ?_) ?_
  · have w1 := (W i (by omega)).1
    simp only [wr]
    generalize wr μ 97 0 (fun x => -gi μ 99 (N - 1 - x)) i = ν at *
    have t1 := hM.to w1
    have g := kM.g10 t1
    rw [w1.gi (by omega), e0] at g
    have e1 := kaI (kM.a99 t1) (x := N - 1 - i) (by omega) (by omega)
    rw [w1.gi (by omega)] at e1
    have e2 := fun v => kasI (v := v) (kM.a97 t1) (x := (i : Int)) (by omega) (by omega)
    simp (disch := omega) only [b_X12_mirror_11, kM.o11 t1, kM.o6 t1, g, e1, e2, ki_0, ki_1, ki_2, ki_3, ki_4, ki_5, ki_6, ki_7, ki_8, ki_9, ki_10, ki_11, ki_12, ki_13, ki_18, ki_20, ki_24, ki_32, ki_36, ki_45, ki_47, ki_48, ki_50, ki_57, ki_60, ki_63, ki_99, ki_100, ki_101, ki_120, ki_255, ki_468, ki_1000, ki_1024, ki_13849, ki_25173, ki_65535, ki_65536, ki_100000, ki_100001, ki_2147483647, ki_2147483648, kl_0, kl_1, kl_2, kl_9223372036854775808, ki_add, ki_sub, ki_mul, ki_neg, kl_add, kl_sub, kl_mul, kl_neg, ki_i2l, kl_l2i, ki_lt, ki_le, ki_eq, kcmp_eq, kcmp_lt, kcmp_le, kcmp_gt, kcmp_ge, Option.bind_some, Option.map_some, kbool0, kbool1, if_pos, if_neg, if_true, if_false, Int.neg_neg, Int.sub_zero, Int.add_zero, Int.zero_add, true_and, and_true, false_and, and_false, false_or, or_false, true_or, or_true, ne_eq, not_false_eq_true, not_true_eq_false, Int.natCast_add, Int.natCast_one, Int.toNat_natCast, Nat.zero_add]
  · generalize wr μ 97 0 (fun x => -gi μ 99 (N - 1 - x)) N.toNat = η at *
    have g := kM.g10 (hM.to w1)
    rw [w1.gi (by omega), e0] at g
    have e : b_X12_mirror_11 Y 95 (ki (N.toNat : Int)) η = (jit jF (fun (s : Int32 × jM) => b_X12_mirror_47 Y 95 s.1 s.2) ((0 : Int32), η)).map (fun r => (.inr r)) := by
      simp (disch := omega) only [b_X12_mirror_11, g, ki_0, ki_1, ki_2, ki_3, ki_4, ki_5, ki_6, ki_7, ki_8, ki_9, ki_10, ki_11, ki_12, ki_13, ki_18, ki_20, ki_24, ki_32, ki_36, ki_45, ki_47, ki_48, ki_50, ki_57, ki_60, ki_63, ki_99, ki_100, ki_101, ki_120, ki_255, ki_468, ki_1000, ki_1024, ki_13849, ki_25173, ki_65535, ki_65536, ki_100000, ki_100001, ki_2147483647, ki_2147483648, kl_0, kl_1, kl_2, kl_9223372036854775808, ki_add, ki_sub, ki_mul, ki_neg, kl_add, kl_sub, kl_mul, kl_neg, ki_i2l, kl_l2i, ki_lt, ki_le, ki_eq, kcmp_eq, kcmp_lt, kcmp_le, kcmp_gt, kcmp_ge, Option.bind_some, Option.map_some, kbool0, kbool1, if_pos, if_neg, if_true, if_false, Int.neg_neg, Int.sub_zero, Int.add_zero, Int.zero_add, true_and, and_true, false_and, and_false, false_or, or_false, true_or, or_true, ne_eq, not_false_eq_true, not_true_eq_false]
    simp only [e, f1]
    rfl
theorem ok_mirror {L : Nat} {xs : Nat → Int32} {n : Nat} {Y : jY} {μ : jM} (h : Inv L xs n Y μ) : so_mirror (Inv L xs) n Y μ := by
  have hX := h.x
  have hM := h.m
  obtain ⟨q1, q2, q3, q4, q5⟩ := h.q
  have e0 := X11_hasTones hX
  have g := kM.g10 hM
  rw [q1] at e0
  by_cases hz : gi μ 95 10 = 0
  · refine ⟨(ki (-1), μ), (ki (-1), μ), ?_, fun _ => rfl, ?_, rfl, h⟩
    · simp (disch := omega) only [f_X11_mirror, krcv (kX.y1 hX), e0, ki_0, ki_1, ki_2, ki_3, ki_4, ki_5, ki_6, ki_7, ki_8, ki_9, ki_10, ki_11, ki_12, ki_13, ki_18, ki_20, ki_24, ki_32, ki_36, ki_45, ki_47, ki_48, ki_50, ki_57, ki_60, ki_63, ki_99, ki_100, ki_101, ki_120, ki_255, ki_468, ki_1000, ki_1024, ki_13849, ki_25173, ki_65535, ki_65536, ki_100000, ki_100001, ki_2147483647, ki_2147483648, kl_0, kl_1, kl_2, kl_9223372036854775808, ki_add, ki_sub, ki_mul, ki_neg, kl_add, kl_sub, kl_mul, kl_neg, ki_i2l, kl_l2i, ki_lt, ki_le, ki_eq, kcmp_eq, kcmp_lt, kcmp_le, kcmp_gt, kcmp_ge, Option.bind_some, Option.map_some, kbool0, kbool1, if_pos, if_neg, if_true, if_false, Int.neg_neg, Int.sub_zero, Int.add_zero, Int.zero_add, true_and, and_true, false_and, and_false, false_or, or_false, true_or, or_true, ne_eq, not_false_eq_true, not_true_eq_false]
    · simp (disch := omega) only [f_X12_mirror, g, ki_0, ki_1, ki_2, ki_3, ki_4, ki_5, ki_6, ki_7, ki_8, ki_9, ki_10, ki_11, ki_12, ki_13, ki_18, ki_20, ki_24, ki_32, ki_36, ki_45, ki_47, ki_48, ki_50, ki_57, ki_60, ki_63, ki_99, ki_100, ki_101, ki_120, ki_255, ki_468, ki_1000, ki_1024, ki_13849, ki_25173, ki_65535, ki_65536, ki_100000, ki_100001, ki_2147483647, ki_2147483648, kl_0, kl_1, kl_2, kl_9223372036854775808, ki_add, ki_sub, ki_mul, ki_neg, kl_add, kl_sub, kl_mul, kl_neg, ki_i2l, kl_l2i, ki_lt, ki_le, ki_eq, kcmp_eq, kcmp_lt, kcmp_le, kcmp_gt, kcmp_ge, Option.bind_some, Option.map_some, kbool0, kbool1, if_pos, if_neg, if_true, if_false, Int.neg_neg, Int.sub_zero, Int.add_zero, Int.zero_add, true_and, and_true, false_and, and_false, false_or, or_false, true_or, or_true, ne_eq, not_false_eq_true, not_true_eq_false]
  · have R1 : ∀ x : Int, 0 ≤ x → x < gi μ 95 10 → -1000 ≤ gi μ 99 x ∧ gi μ 99 x ≤ 1000 := fun x a c => by have := q4 x a c; omega
    have R2 : ∀ x : Int, 0 ≤ x → x < gi μ 95 10 - 1 → -1000 ≤ gi μ 100 x ∧ gi μ 100 x ≤ 1000 := fun x a c => by have := q5 x a c; have := q4 x a (by omega); have := q4 (x + 1) (by omega) (by omega); omega
    obtain ⟨ν1, c1, k1, d1, d2⟩ := X9_turnAbout hX.n10 (N := gi μ 95 10) q1 (by omega) q3 (fun x a c => by have e := (q4 x a c).1; have r := R1 x a c; rw [← e] at r; exact r) (fun x a c => by have e := (q5 x a c).1; have r := R2 x a c; rw [← e] at r; exact r)
    have hM1 := hM.to k1
    have g1 := kM.g10 hM1
    rw [k1.gi (by omega)] at g1
    have gx := kN.gr (hX.to k1).n10
    rw [k1.gi (by omega), q1] at gx
    obtain ⟨ν2, c2, k2, f1, f2⟩ := X12_mirror1 hM1 (N := gi μ 95 10) (by rw [k1.gi (by omega)]) (by omega) q3 (fun x a c => by rw [k1.gi (by omega)]; exact R1 x a c) (fun x a c => by rw [k1.gi (by omega)]; exact R2 x a c)
    refine ⟨(ki (gi μ 95 10), ν1), (ki (gi μ 95 10), ν2), ?_, fun j => ?_, ?_, rfl, ?_⟩
    · simp (disch := omega) only [f_X11_mirror, krcv (kX.y1 hX), kX.o1_3 hX, kS.gn (kX.now hX), kX.o1_3 (hX.to k1), kS.gn (kX.now (hX.to k1)), krcv (kN.y hX.n10), e0, c1, gx, ki_0, ki_1, ki_2, ki_3, ki_4, ki_5, ki_6, ki_7, ki_8, ki_9, ki_10, ki_11, ki_12, ki_13, ki_18, ki_20, ki_24, ki_32, ki_36, ki_45, ki_47, ki_48, ki_50, ki_57, ki_60, ki_63, ki_99, ki_100, ki_101, ki_120, ki_255, ki_468, ki_1000, ki_1024, ki_13849, ki_25173, ki_65535, ki_65536, ki_100000, ki_100001, ki_2147483647, ki_2147483648, kl_0, kl_1, kl_2, kl_9223372036854775808, ki_add, ki_sub, ki_mul, ki_neg, kl_add, kl_sub, kl_mul, kl_neg, ki_i2l, kl_l2i, ki_lt, ki_le, ki_eq, kcmp_eq, kcmp_lt, kcmp_le, kcmp_gt, kcmp_ge, Option.bind_some, Option.map_some, kbool0, kbool1, if_pos, if_neg, if_true, if_false, Int.neg_neg, Int.sub_zero, Int.add_zero, Int.zero_add, true_and, and_true, false_and, and_false, false_or, or_false, true_or, or_true, ne_eq, not_false_eq_true, not_true_eq_false]
    · show ν1 0 j = μ 0 j
      rw [k1.1 0 (by omega)]
    · simp (disch := omega) only [f_X12_mirror, g1, ki_0, ki_1, ki_2, ki_3, ki_4, ki_5, ki_6, ki_7, ki_8, ki_9, ki_10, ki_11, ki_12, ki_13, ki_18, ki_20, ki_24, ki_32, ki_36, ki_45, ki_47, ki_48, ki_50, ki_57, ki_60, ki_63, ki_99, ki_100, ki_101, ki_120, ki_255, ki_468, ki_1000, ki_1024, ki_13849, ki_25173, ki_65535, ki_65536, ki_100000, ki_100001, ki_2147483647, ki_2147483648, kl_0, kl_1, kl_2, kl_9223372036854775808, ki_add, ki_sub, ki_mul, ki_neg, kl_add, kl_sub, kl_mul, kl_neg, ki_i2l, kl_l2i, ki_lt, ki_le, ki_eq, kcmp_eq, kcmp_lt, kcmp_le, kcmp_gt, kcmp_ge, Option.bind_some, Option.map_some, kbool0, kbool1, if_pos, if_neg, if_true, if_false, Int.neg_neg, Int.sub_zero, Int.add_zero, Int.zero_add, true_and, and_true, false_and, and_false, false_or, or_false, true_or, or_true, ne_eq, not_false_eq_true, not_true_eq_false]
      exact c2
    · refine Inv.updN (μ' := ν2) h ((k1.mono (by omega) (by omega)).trans (k2.mono (by omega) (by omega))) (fun i pi i1 i2 i3 i4 i5 => ?_) ?_ ?_ ?_
      · unfold pers at pi
        rw [k2.1 i (by omega), k1.1 i (by omega)]
      · rw [k2.1 95 (by omega), k1.1 95 (by omega)]
      · rw [k2.1 95 (by omega), k1.1 95 (by omega)]
      · have x1 : gi ν2 95 10 = gi μ 95 10 := by rw [k2.gi (by omega), k1.gi (by omega)]
        unfold relQ
        rw [x1, k2.gi (by omega), k1.gi (by omega)]
        refine ⟨q1, q2, q3, fun x a c => ?_, fun x a c => ?_⟩
        · rw [k2.gi (by omega), d1 x a c, f1 x a c, k1.gi (by omega)]
          have := q4 (gi μ 95 10 - 1 - x) (by omega) (by omega)
          show -gi μ 11 (gi μ 95 10 - 1 - x) = -gi μ 99 (gi μ 95 10 - 1 - x) ∧ -6 ≤ -gi μ 99 (gi μ 95 10 - 1 - x) ∧ -gi μ 99 (gi μ 95 10 - 1 - x) ≤ 6
          omega
        · rw [k2.gi (by omega), d2 x a c, f2 x a c, k1.gi (by omega), f1 x a (by omega), f1 (x + 1) (by omega) (by omega), k1.gi (by omega), k1.gi (by omega)]
          have r := q5 (gi μ 95 10 - 2 - x) (by omega) (by omega)
          rw [show gi μ 95 10 - 2 - x + 1 = gi μ 95 10 - 1 - x by omega] at r
          rw [show gi μ 95 10 - 1 - (x + 1) = gi μ 95 10 - 2 - x by omega]
          show -gi μ 12 (gi μ 95 10 - 2 - x) = -gi μ 100 (gi μ 95 10 - 2 - x) ∧ -gi μ 99 (gi μ 95 10 - 1 - x) < -gi μ 100 (gi μ 95 10 - 2 - x) ∧ -gi μ 100 (gi μ 95 10 - 2 - x) < -gi μ 99 (gi μ 95 10 - 2 - x)
          omega
