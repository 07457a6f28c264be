/-! WALKS: the class's column -/
def tbl (Y : jY) (μ : jM) (o : Nat) (R : Int) (A C : Int → Int) : Prop := kT Y μ o ∧ gi μ o 0 = R ∧ (∀ x : Int, 0 ≤ x → x < R → gi μ (o + 1) x = A x) ∧ ∀ x : Int, 0 ≤ x → x < R - 1 → gi μ (o + 2) x = C x
theorem tbl.to {Y : jY} {μ ν : jM} {o lo hi : Nat} {R : Int} {A C : Int → Int} (h : tbl Y μ o R A C) (k : kF lo hi μ ν) (hl : o + 2 < lo) : tbl Y ν o R A C := ⟨h.1.to k, by rw [k.gi (by omega)]; exact h.2.1, fun x a b => by rw [k.gi (by omega)]; exact h.2.2.1 x a b, fun x a b => by rw [k.gi (by omega)]; exact h.2.2.2 x a b⟩
theorem X4_pull {Y : jY} {ν : jM} (hX : kX Y ν) {o : Nat} {R : Int} {A C p : Int → Int} (hT : tbl Y ν o R A C) (h5 : R ≤ 5) (hb : tbR R A C) (hp : rowL ν 86 R p) {i : Int} (i0 : 0 ≤ i) (i1 : i < R) : f_X4_pull Y 78 o (ki i) ν = some (kl (cs A C R p i), ν) := by
  have g := kT.gr hT.1
  rw [hT.2.1] at g
  have q1 := kaI hT.1.aa (x := i) i0 (by omega)
  rw [hT.2.2.1 i i0 i1] at q1
  have a1 := hb.1 i i0 i1
  have q2 := kaL hX.a86 (x := i) i0 (by omega)
  rw [hp i i0 i1] at q2
  unfold cs
  by_cases e1 : i + 1 < R
  · have q3 := kaL hX.a86 (x := i + 1) (by omega) (by omega)
    rw [hp (i + 1) (by omega) e1] at q3
    rw [if_pos e1]
    by_cases e2 : 0 < i
    · have q4 := kaL hX.a86 (x := i - 1) (by omega) (by omega)
      rw [hp (i - 1) (by omega) (by omega)] at q4
      have q5 := kaI hT.1.ac (x := i - 1) (by omega) (by omega)
      rw [hT.2.2.2 (i - 1) (by omega) (by omega)] at q5
      have c1 := hb.2 (i - 1) (by omega) (by omega)
      simp (disch := omega) only [f_X4_pull, b_X4_pull_61, b_X4_pull_36, kT.ga hT.1, kT.gc hT.1, kX.o78_1 hX, g, q1, q2, q3, q4, q5, ki_0, ki_1, ki_2, ki_3, ki_4, ki_5, ki_6, ki_7, ki_8, ki_9, ki_10, ki_11, ki_12, ki_13, ki_18, ki_20, ki_24, ki_32, ki_36, ki_45, ki_47, ki_48, ki_50, ki_57, ki_60, ki_63, ki_99, ki_100, ki_101, ki_120, ki_255, ki_468, ki_1000, ki_1024, ki_13849, ki_25173, ki_65535, ki_65536, ki_100000, ki_100001, ki_2147483647, ki_2147483648, kl_0, kl_1, kl_2, kl_9223372036854775808, ki_add, ki_sub, ki_mul, ki_neg, kl_add, kl_sub, kl_mul, kl_neg, ki_i2l, kl_l2i, ki_lt, ki_le, ki_eq, kcmp_eq, kcmp_lt, kcmp_le, kcmp_gt, kcmp_ge, Option.bind_some, Option.map_some, kbool0, kbool1, if_pos, if_neg, if_true, if_false, Int.neg_neg, Int.sub_zero, Int.add_zero, Int.zero_add, true_and, and_true, false_and, and_false, false_or, or_false, true_or, or_true, ne_eq, not_false_eq_true, not_true_eq_false]
    · rw [if_neg e2]
      simp (disch := omega) only [f_X4_pull, b_X4_pull_61, b_X4_pull_36, kT.ga hT.1, kT.gc hT.1, kX.o78_1 hX, g, q1, q2, q3, ki_0, ki_1, ki_2, ki_3, ki_4, ki_5, ki_6, ki_7, ki_8, ki_9, ki_10, ki_11, ki_12, ki_13, ki_18, ki_20, ki_24, ki_32, ki_36, ki_45, ki_47, ki_48, ki_50, ki_57, ki_60, ki_63, ki_99, ki_100, ki_101, ki_120, ki_255, ki_468, ki_1000, ki_1024, ki_13849, ki_25173, ki_65535, ki_65536, ki_100000, ki_100001, ki_2147483647, ki_2147483648, kl_0, kl_1, kl_2, kl_9223372036854775808, ki_add, ki_sub, ki_mul, ki_neg, kl_add, kl_sub, kl_mul, kl_neg, ki_i2l, kl_l2i, ki_lt, ki_le, ki_eq, kcmp_eq, kcmp_lt, kcmp_le, kcmp_gt, kcmp_ge, Option.bind_some, Option.map_some, kbool0, kbool1, if_pos, if_neg, if_true, if_false, Int.neg_neg, Int.sub_zero, Int.add_zero, Int.zero_add, true_and, and_true, false_and, and_false, false_or, or_false, true_or, or_true, ne_eq, not_false_eq_true, not_true_eq_false]
  · rw [if_neg e1]
    by_cases e2 : 0 < i
    · have q4 := kaL hX.a86 (x := i - 1) (by omega) (by omega)
      rw [hp (i - 1) (by omega) (by omega)] at q4
      have q5 := kaI hT.1.ac (x := i - 1) (by omega) (by omega)
      rw [hT.2.2.2 (i - 1) (by omega) (by omega)] at q5
      have c1 := hb.2 (i - 1) (by omega) (by omega)
      simp (disch := omega) only [f_X4_pull, b_X4_pull_61, b_X4_pull_36, kT.ga hT.1, kT.gc hT.1, kX.o78_1 hX, g, q1, q2, q4, q5, ki_0, ki_1, ki_2, ki_3, ki_4, ki_5, ki_6, ki_7, ki_8, ki_9, ki_10, ki_11, ki_12, ki_13, ki_18, ki_20, ki_24, ki_32, ki_36, ki_45, ki_47, ki_48, ki_50, ki_57, ki_60, ki_63, ki_99, ki_100, ki_101, ki_120, ki_255, ki_468, ki_1000, ki_1024, ki_13849, ki_25173, ki_65535, ki_65536, ki_100000, ki_100001, ki_2147483647, ki_2147483648, kl_0, kl_1, kl_2, kl_9223372036854775808, ki_add, ki_sub, ki_mul, ki_neg, kl_add, kl_sub, kl_mul, kl_neg, ki_i2l, kl_l2i, ki_lt, ki_le, ki_eq, kcmp_eq, kcmp_lt, kcmp_le, kcmp_gt, kcmp_ge, Option.bind_some, Option.map_some, kbool0, kbool1, if_pos, if_neg, if_true, if_false, Int.neg_neg, Int.sub_zero, Int.add_zero, Int.zero_add, true_and, and_true, false_and, and_false, false_or, or_false, true_or, or_true, ne_eq, not_false_eq_true, not_true_eq_false]
    · rw [if_neg e2]
      simp (disch := omega) only [f_X4_pull, b_X4_pull_61, b_X4_pull_36, kT.ga hT.1, kT.gc hT.1, kX.o78_1 hX, g, q1, q2, ki_0, ki_1, ki_2, ki_3, ki_4, ki_5, ki_6, ki_7, ki_8, ki_9, ki_10, ki_11, ki_12, ki_13, ki_18, ki_20, ki_24, ki_32, ki_36, ki_45, ki_47, ki_48, ki_50, ki_57, ki_60, ki_63, ki_99, ki_100, ki_101, ki_120, ki_255, ki_468, ki_1000, ki_1024, ki_13849, ki_25173, ki_65535, ki_65536, ki_100000, ki_100001, ki_2147483647, ki_2147483648, kl_0, kl_1, kl_2, kl_9223372036854775808, ki_add, ki_sub, ki_mul, ki_neg, kl_add, kl_sub, kl_mul, kl_neg, ki_i2l, kl_l2i, ki_lt, ki_le, ki_eq, kcmp_eq, kcmp_lt, kcmp_le, kcmp_gt, kcmp_ge, Option.bind_some, Option.map_some, kbool0, kbool1, if_pos, if_neg, if_true, if_false, Int.neg_neg, Int.sub_zero, Int.add_zero, Int.zero_add, true_and, and_true, false_and, and_false, false_or, or_false, true_or, or_true, ne_eq, not_false_eq_true, not_true_eq_false]
/-- one number more in a row of longs -/
theorem rowL.put {μ ν : jM} {a : Nat} {i : Nat} {g : Int → Int} (h : ∀ x : Int, 0 ≤ x → x < i → gl ν a x = g x) (h1 : -9223372036854775808 ≤ g i) (h2 : g i ≤ 9223372036854775807) : ∀ x : Int, 0 ≤ x → x < ((i + 1 : Nat) : Int) → gl (jw ν a i (.long (kl (g i)))) a x = g x := by
  intro x x0 x1
  rw [gl_jw _ _ h1 h2]
  by_cases e : x = i
  · rw [if_pos ⟨rfl, by omega⟩, e]
  · rw [if_neg (by omega)]
    exact h x x0 (by omega)
set_option maxHeartbeats 1000000 in
theorem X4_walk {Y : jY} {μ : jM} (hX : kX Y μ) {o : Nat} (ho : o + 2 < 86) {R : Int} {A C : Int → Int} (hT : tbl Y μ o R A C) (h0 : 1 ≤ R) (h5 : R ≤ 5) (hb : tbR R A C) {k : Int} (k0 : 0 ≤ k) (k8 : k ≤ 8) {i j : Int} (i0 : 0 ≤ i) (i1 : i < R) (j0 : 0 ≤ j) (j1 : j < R) : ∃ ν, f_X4_walk Y 78 o (ki k) (ki i) (ki j) μ = some (kl (csI A C R (eI j) k.toNat i), ν) ∧ kF 86 88 μ ν := by
  -- the copy back
  have L4 : ∀ (ξ : jM) (t : Int) (q : Int → Int), kF 86 88 μ ξ → rowL ξ 87 R q → bdR 11688200277601 R q → ∃ ω, jit jF (fun (s : Int32 × jM) => b_X4_walk_81 Y 78 o (ki k) (ki i) (ki t) s.1 s.2) ((0 : Int32), ξ) = some (.inl (ki (t + 1), ω)) ∧ kF 86 88 μ ω ∧ rowL ω 86 R q := by
    intro ξ t q kξ hq hbq
    obtain ⟨r, e, ω, rfl, k1, k2⟩ := jit_inv (f := fun (s : Int32 × jM) => b_X4_walk_81 Y 78 o (ki k) (ki i) (ki t) s.1 s.2) (fun n z => z.1 = ki n ∧ kF 86 88 μ z.2 ∧ rowL z.2 87 R q ∧ ∀ x : Int, 0 ≤ x → x < n → gl z.2 86 x = q x) (fun r => ∃ ω, r = .inl (ki (t + 1), ω) ∧ kF 86 88 μ ω ∧ rowL ω 86 R q) R.toNat (s := ((0 : Int32), ξ)) ⟨rfl, kξ, hq, fun x a b => by omega⟩ (by omega) (fun n z hn hz => by
      obtain ⟨v, ν⟩ := z
      obtain ⟨rfl, z1, z2, z3⟩ := hz
      simp only [] at z1 z2 z3
      have hX1 := hX.to z1
      have hT1 := hT.to z1 ho
      have g := kT.gr hT1.1
      rw [hT1.2.1] at g
      by_cases e : n = R.toNat
      · refine ⟨.inr (.inl (ki (t + 1), ν)), ?_, ν, rfl, z1, fun x a b => z3 x a (by omega)⟩
        simp (disch := omega) only [b_X4_walk_81, g, ki_0, ki_1, ki_2, ki_3, ki_4, ki_5, ki_6, ki_7, ki_8, ki_9, ki_10, ki_11, ki_12, ki_13, ki_18, ki_20, ki_24, ki_32, ki_36, ki_45, ki_47, ki_48, ki_50, ki_57, ki_60, ki_63, ki_99, ki_100, ki_101, ki_120, ki_255, ki_468, ki_1000, ki_1024, ki_13849, ki_25173, ki_65535, ki_65536, ki_100000, ki_100001, ki_2147483647, ki_2147483648, kl_0, kl_1, kl_2, kl_9223372036854775808, ki_add, ki_sub, ki_mul, ki_neg, kl_add, kl_sub, kl_mul, kl_neg, ki_i2l, kl_l2i, ki_lt, ki_le, ki_eq, kcmp_eq, kcmp_lt, kcmp_le, kcmp_gt, kcmp_ge, Option.bind_some, Option.map_some, kbool0, kbool1, if_pos, if_neg, if_true, if_false, Int.neg_neg, Int.sub_zero, Int.add_zero, Int.zero_add, true_and, and_true, false_and, and_false, false_or, or_false, true_or, or_true, ne_eq, not_false_eq_true, not_true_eq_false]
      · have q1 := kaL hX1.a87 (x := (n : Int)) (by omega) (by omega)
        rw [z2 n (by omega) (by omega)] at q1
        have s1 := fun v => kasL (v := v) hX1.a86 (x := (n : Int)) (by omega) (by omega)
        have kf : kF 86 88 ν (jw ν 86 n (.long (kl (q n)))) := kF_L (hX1.a86.2.2.2 _ (by omega)) (by omega) (by omega)
        have b := hbq n (by omega) (by omega)
        refine ⟨.inl (ki ((n + 1 : Nat) : Int), jw ν 86 n (.long (kl (q n)))), ?_, by omega, rfl, z1.trans kf, fun x a c => ?_, rowL.put (μ := μ) z3 (by omega) (by omega)⟩
        · simp (disch := omega) only [b_X4_walk_81, g, kX.o78_1 hX1, kX.o78_2 hX1, q1, s1, ki_0, ki_1, ki_2, ki_3, ki_4, ki_5, ki_6, ki_7, ki_8, ki_9, ki_10, ki_11, ki_12, ki_13, ki_18, ki_20, ki_24, ki_32, ki_36, ki_45, ki_47, ki_48, ki_50, ki_57, ki_60, ki_63, ki_99, ki_100, ki_101, ki_120, ki_255, ki_468, ki_1000, ki_1024, ki_13849, ki_25173, ki_65535, ki_65536, ki_100000, ki_100001, ki_2147483647, ki_2147483648, kl_0, kl_1, kl_2, kl_9223372036854775808, ki_add, ki_sub, ki_mul, ki_neg, kl_add, kl_sub, kl_mul, kl_neg, ki_i2l, kl_l2i, ki_lt, ki_le, ki_eq, kcmp_eq, kcmp_lt, kcmp_le, kcmp_gt, kcmp_ge, Option.bind_some, Option.map_some, kbool0, kbool1, if_pos, if_neg, if_true, if_false, Int.neg_neg, Int.sub_zero, Int.add_zero, Int.zero_add, true_and, and_true, false_and, and_false, false_or, or_false, true_or, or_true, ne_eq, not_false_eq_true, not_true_eq_false, Int.natCast_add, Int.natCast_one, Int.toNat_natCast]
        · simp only []
          rw [gl_cell (jw_cell (by omega))]
          exact z2 x a c)
    exact ⟨ω, e, k1, k2⟩
  have L3 : ∀ (ξ : jM) (t : Int) (p : Int → Int), kF 86 88 μ ξ → rowL ξ 86 R p → bdR 11688200277601 R (cs A C R p) → ∃ ω, jit jF (fun (s : Int32 × jM) => b_X4_walk_49 Y 78 o (ki k) (ki i) (ki t) s.1 s.2) ((0 : Int32), ξ) = some (.inl (ki (t + 1), ω)) ∧ kF 86 88 μ ω ∧ rowL ω 86 R (cs A C R p) := by
    intro ξ t p kξ hp hbp
    obtain ⟨r, e, ω, rfl, k1, k2⟩ := jit_inv (f := fun (s : Int32 × jM) => b_X4_walk_49 Y 78 o (ki k) (ki i) (ki t) s.1 s.2) (fun n z => z.1 = ki n ∧ kF 86 88 μ z.2 ∧ rowL z.2 86 R p ∧ ∀ x : Int, 0 ≤ x → x < n → gl z.2 87 x = cs A C R p x) (fun r => ∃ ω, r = .inl (ki (t + 1), ω) ∧ kF 86 88 μ ω ∧ rowL ω 86 R (cs A C R p)) R.toNat (s := ((0 : Int32), ξ)) ⟨rfl, kξ, hp, fun x a b => by omega⟩ (by omega) (fun n z hn hz => by
      obtain ⟨v, ν⟩ := z
      obtain ⟨rfl, z1, z2, z3⟩ := hz
      simp only [] at z1 z2 z3
      have hX1 := hX.to z1
      have hT1 := hT.to z1 ho
      have g := kT.gr hT1.1
      rw [hT1.2.1] at g
      by_cases e : n = R.toNat
      · obtain ⟨ω, c, k1, k2⟩ := L4 ν t (cs A C R p) z1 (fun x a b => z3 x a (by omega)) hbp
        refine ⟨.inr (.inl (ki (t + 1), ω)), ?_, ω, rfl, k1, k2⟩
        have E : b_X4_walk_49 Y 78 o (ki k) (ki i) (ki t) (ki n) ν = (jit jF (fun (s : Int32 × jM) => b_X4_walk_81 Y 78 o (ki k) (ki i) (ki t) s.1 s.2) ((0 : Int32), ν)).map (fun r => (.inr r)) := by
          simp (disch := omega) only [b_X4_walk_49, g, ki_0, ki_1, ki_2, ki_3, ki_4, ki_5, ki_6, ki_7, ki_8, ki_9, ki_10, ki_11, ki_12, ki_13, ki_18, ki_20, ki_24, ki_32, ki_36, ki_45, ki_47, ki_48, ki_50, ki_57, ki_60, ki_63, ki_99, ki_100, ki_101, ki_120, ki_255, ki_468, ki_1000, ki_1024, ki_13849, ki_25173, ki_65535, ki_65536, ki_100000, ki_100001, ki_2147483647, ki_2147483648, kl_0, kl_1, kl_2, kl_9223372036854775808, ki_add, ki_sub, ki_mul, ki_neg, kl_add, kl_sub, kl_mul, kl_neg, ki_i2l, kl_l2i, ki_lt, ki_le, ki_eq, kcmp_eq, kcmp_lt, kcmp_le, kcmp_gt, kcmp_ge, Option.bind_some, Option.map_some, kbool0, kbool1, if_pos, if_neg, if_true, if_false, Int.neg_neg, Int.sub_zero, Int.add_zero, Int.zero_add, true_and, and_true, false_and, and_false, false_or, or_false, true_or, or_true, ne_eq, not_false_eq_true, not_true_eq_false]
        simp only [E, c]
        rfl
      · have P := X4_pull hX1 hT1 h5 hb z2 (i := (n : Int)) (by omega) (by omega)
        have s1 := fun v => kasL (v := v) hX1.a87 (x := (n : Int)) (by omega) (by omega)
        have kf : kF 86 88 ν (jw ν 87 n (.long (kl (cs A C R p n)))) := kF_L (hX1.a87.2.2.2 _ (by omega)) (by omega) (by omega)
        have b := hbp n (by omega) (by omega)
        refine ⟨.inl (ki ((n + 1 : Nat) : Int), jw ν 87 n (.long (kl (cs A C R p n)))), ?_, by omega, rfl, z1.trans kf, fun x a c => ?_, rowL.put (μ := μ) z3 (by omega) (by omega)⟩
        · simp (disch := omega) only [b_X4_walk_49, g, krcv (kX.y78 hX1), kX.o78_2 hX1, P, s1, ki_0, ki_1, ki_2, ki_3, ki_4, ki_5, ki_6, ki_7, ki_8, ki_9, ki_10, ki_11, ki_12, ki_13, ki_18, ki_20, ki_24, ki_32, ki_36, ki_45, ki_47, ki_48, ki_50, ki_57, ki_60, ki_63, ki_99, ki_100, ki_101, ki_120, ki_255, ki_468, ki_1000, ki_1024, ki_13849, ki_25173, ki_65535, ki_65536, ki_100000, ki_100001, ki_2147483647, ki_2147483648, kl_0, kl_1, kl_2, kl_9223372036854775808, ki_add, ki_sub, ki_mul, ki_neg, kl_add, kl_sub, kl_mul, kl_neg, ki_i2l, kl_l2i, ki_lt, ki_le, ki_eq, kcmp_eq, kcmp_lt, kcmp_le, kcmp_gt, kcmp_ge, Option.bind_some, Option.map_some, kbool0, kbool1, if_pos, if_neg, if_true, if_false, Int.neg_neg, Int.sub_zero, Int.add_zero, Int.zero_add, true_and, and_true, false_and, and_false, false_or, or_false, true_or, or_true, ne_eq, not_false_eq_true, not_true_eq_false, Int.natCast_add, Int.natCast_one, Int.toNat_natCast]
        · simp only []
          rw [gl_cell (jw_cell (by omega))]
          exact z2 x a c)
    exact ⟨ω, e, k1, k2⟩
  have L2 : ∀ (ξ : jM), kF 86 88 μ ξ → rowL ξ 86 R (eI j) → ∃ ω, jit jF (fun (s : Int32 × jM) => b_X4_walk_40 Y 78 o (ki k) (ki i) s.1 s.2) ((0 : Int32), ξ) = some (kl (csI A C R (eI j) k.toNat i), ω) ∧ kF 86 88 μ ω := by
    intro ξ kξ hp
    obtain ⟨⟨r1, r2⟩, e, h1, h2⟩ := jit_inv (f := fun (s : Int32 × jM) => b_X4_walk_40 Y 78 o (ki k) (ki i) s.1 s.2) (fun n z => z.1 = ki n ∧ kF 86 88 μ z.2 ∧ rowL z.2 86 R (csI A C R (eI j) n)) (fun r => r.1 = kl (csI A C R (eI j) k.toNat i) ∧ kF 86 88 μ r.2) k.toNat (s := ((0 : Int32), ξ)) ⟨rfl, kξ, hp⟩ (by omega) (fun n z hn hz => by
      obtain ⟨v, ν⟩ := z
      obtain ⟨rfl, z1, z2⟩ := hz
      simp only [] at z1 z2
      have hX1 := hX.to z1
      by_cases e : n = k.toNat
      · have q := kaL hX1.a86 (x := i) i0 (by omega)
        rw [z2 i i0 i1, e] at q
        refine ⟨.inr (kl (csI A C R (eI j) k.toNat i), ν), ?_, rfl, z1⟩
        simp (disch := omega) only [b_X4_walk_40, kX.o78_1 hX1, q, ki_0, ki_1, ki_2, ki_3, ki_4, ki_5, ki_6, ki_7, ki_8, ki_9, ki_10, ki_11, ki_12, ki_13, ki_18, ki_20, ki_24, ki_32, ki_36, ki_45, ki_47, ki_48, ki_50, ki_57, ki_60, ki_63, ki_99, ki_100, ki_101, ki_120, ki_255, ki_468, ki_1000, ki_1024, ki_13849, ki_25173, ki_65535, ki_65536, ki_100000, ki_100001, ki_2147483647, ki_2147483648, kl_0, kl_1, kl_2, kl_9223372036854775808, ki_add, ki_sub, ki_mul, ki_neg, kl_add, kl_sub, kl_mul, kl_neg, ki_i2l, kl_l2i, ki_lt, ki_le, ki_eq, kcmp_eq, kcmp_lt, kcmp_le, kcmp_gt, kcmp_ge, Option.bind_some, Option.map_some, kbool0, kbool1, if_pos, if_neg, if_true, if_false, Int.neg_neg, Int.sub_zero, Int.add_zero, Int.zero_add, true_and, and_true, false_and, and_false, false_or, or_false, true_or, or_true, ne_eq, not_false_eq_true, not_true_eq_false]
      · have bd := csI_bd hb (eI_bd (j := j) (R := R)) (n + 1)
        have ble := p43_le (n + 1) (by omega)
        obtain ⟨ω, c, k1, k2⟩ := L3 ν n (csI A C R (eI j) n) z1 z2 (fun x a b => by have := bd x a b; exact ⟨by have := this.1; show _ ≤ csI A C R (eI j) (n + 1) x; omega, by have := this.2; show csI A C R (eI j) (n + 1) x ≤ _; omega⟩)
        refine ⟨.inl (ki ((n : Int) + 1), ω), ?_, by omega, by rw [Int.natCast_add, Int.natCast_one], k1, k2⟩
        simp (disch := omega) only [b_X4_walk_40, ki_0, ki_1, ki_2, ki_3, ki_4, ki_5, ki_6, ki_7, ki_8, ki_9, ki_10, ki_11, ki_12, ki_13, ki_18, ki_20, ki_24, ki_32, ki_36, ki_45, ki_47, ki_48, ki_50, ki_57, ki_60, ki_63, ki_99, ki_100, ki_101, ki_120, ki_255, ki_468, ki_1000, ki_1024, ki_13849, ki_25173, ki_65535, ki_65536, ki_100000, ki_100001, ki_2147483647, ki_2147483648, kl_0, kl_1, kl_2, kl_9223372036854775808, ki_add, ki_sub, ki_mul, ki_neg, kl_add, kl_sub, kl_mul, kl_neg, ki_i2l, kl_l2i, ki_lt, ki_le, ki_eq, kcmp_eq, kcmp_lt, kcmp_le, kcmp_gt, kcmp_ge, Option.bind_some, Option.map_some, kbool0, kbool1, if_pos, if_neg, if_true, if_false, Int.neg_neg, Int.sub_zero, Int.add_zero, Int.zero_add, true_and, and_true, false_and, and_false, false_or, or_false, true_or, or_true, ne_eq, not_false_eq_true, not_true_eq_false]
        exact c)
    simp only [] at h1
    exact ⟨r2, by rw [e, h1], h2⟩
  obtain ⟨⟨r1, r2⟩, e, h1, h2⟩ := jit_inv (f := fun (s : Int32 × jM) => b_X4_walk_3 Y 78 o (ki k) (ki i) (ki j) s.1 s.2) (fun n z => z.1 = ki n ∧ kF 86 88 μ z.2 ∧ ∀ x : Int, 0 ≤ x → x < n → gl z.2 86 x = eI j x) (fun r => r.1 = kl (csI A C R (eI j) k.toNat i) ∧ kF 86 88 μ r.2) R.toNat (s := ((0 : Int32), μ)) ⟨rfl, kF.refl, fun x a b => by omega⟩ (by omega) (fun n z hn hz => by
    obtain ⟨v, ν⟩ := z
    obtain ⟨rfl, z1, z2⟩ := hz
    simp only [] at z1 z2
    have hX1 := hX.to z1
    have hT1 := hT.to z1 ho
    have g := kT.gr hT1.1
    rw [hT1.2.1] at g
    by_cases e : n = R.toNat
    · obtain ⟨ω, c, k1⟩ := L2 ν z1 (fun x a b => z2 x a (by omega))
      refine ⟨.inr (kl (csI A C R (eI j) k.toNat i), ω), ?_, rfl, k1⟩
      have E : b_X4_walk_3 Y 78 o (ki k) (ki i) (ki j) (ki n) ν = (jit jF (fun (s : Int32 × jM) => b_X4_walk_40 Y 78 o (ki k) (ki i) s.1 s.2) ((0 : Int32), ν)).map (fun r => (.inr r)) := by
        simp (disch := omega) only [b_X4_walk_3, g, ki_0, ki_1, ki_2, ki_3, ki_4, ki_5, ki_6, ki_7, ki_8, ki_9, ki_10, ki_11, ki_12, ki_13, ki_18, ki_20, ki_24, ki_32, ki_36, ki_45, ki_47, ki_48, ki_50, ki_57, ki_60, ki_63, ki_99, ki_100, ki_101, ki_120, ki_255, ki_468, ki_1000, ki_1024, ki_13849, ki_25173, ki_65535, ki_65536, ki_100000, ki_100001, ki_2147483647, ki_2147483648, kl_0, kl_1, kl_2, kl_9223372036854775808, ki_add, ki_sub, ki_mul, ki_neg, kl_add, kl_sub, kl_mul, kl_neg, ki_i2l, kl_l2i, ki_lt, ki_le, ki_eq, kcmp_eq, kcmp_lt, kcmp_le, kcmp_gt, kcmp_ge, Option.bind_some, Option.map_some, kbool0, kbool1, if_pos, if_neg, if_true, if_false, Int.neg_neg, Int.sub_zero, Int.add_zero, Int.zero_add, true_and, and_true, false_and, and_false, false_or, or_false, true_or, or_true, ne_eq, not_false_eq_true, not_true_eq_false]
      simp only [E, c]
      rfl
    · have s1 := fun v => kasL (v := v) hX1.a86 (x := (n : Int)) (by omega) (by omega)
      have kf : kF 86 88 ν (jw ν 86 n (.long (kl (eI j n)))) := kF_L (hX1.a86.2.2.2 _ (by omega)) (by omega) (by omega)
      have b : -1 ≤ eI j n ∧ eI j n ≤ 1 := eI_bd (R := R) n (by omega) (by omega)
      refine ⟨.inl (ki ((n + 1 : Nat) : Int), jw ν 86 n (.long (kl (eI j n)))), ?_, by omega, rfl, z1.trans kf, rowL.put (μ := μ) z2 (by omega) (by omega)⟩
      by_cases f : (n : Int) = j
      · have ej : eI j n = 1 := if_pos f
        rw [ej]
        simp (disch := omega) only [b_X4_walk_3, b_X4_walk_30, g, kX.o78_1 hX1, s1, ki_0, ki_1, ki_2, ki_3, ki_4, ki_5, ki_6, ki_7, ki_8, ki_9, ki_10, ki_11, ki_12, ki_13, ki_18, ki_20, ki_24, ki_32, ki_36, ki_45, ki_47, ki_48, ki_50, ki_57, ki_60, ki_63, ki_99, ki_100, ki_101, ki_120, ki_255, ki_468, ki_1000, ki_1024, ki_13849, ki_25173, ki_65535, ki_65536, ki_100000, ki_100001, ki_2147483647, ki_2147483648, kl_0, kl_1, kl_2, kl_9223372036854775808, ki_add, ki_sub, ki_mul, ki_neg, kl_add, kl_sub, kl_mul, kl_neg, ki_i2l, kl_l2i, ki_lt, ki_le, ki_eq, kcmp_eq, kcmp_lt, kcmp_le, kcmp_gt, kcmp_ge, Option.bind_some, Option.map_some, kbool0, kbool1, if_pos, if_neg, if_true, if_false, Int.neg_neg, Int.sub_zero, Int.add_zero, Int.zero_add, true_and, and_true, false_and, and_false, false_or, or_false, true_or, or_true, ne_eq, not_false_eq_true, not_true_eq_false, Int.natCast_add, Int.natCast_one, Int.toNat_natCast]
      · have ej : eI j n = 0 := if_neg f
        rw [ej]
        simp (disch := omega) only [b_X4_walk_3, b_X4_walk_30, g, kX.o78_1 hX1, s1, ki_0, ki_1, ki_2, ki_3, ki_4, ki_5, ki_6, ki_7, ki_8, ki_9, ki_10, ki_11, ki_12, ki_13, ki_18, ki_20, ki_24, ki_32, ki_36, ki_45, ki_47, ki_48, ki_50, ki_57, ki_60, ki_63, ki_99, ki_100, ki_101, ki_120, ki_255, ki_468, ki_1000, ki_1024, ki_13849, ki_25173, ki_65535, ki_65536, ki_100000, ki_100001, ki_2147483647, ki_2147483648, kl_0, kl_1, kl_2, kl_9223372036854775808, ki_add, ki_sub, ki_mul, ki_neg, kl_add, kl_sub, kl_mul, kl_neg, ki_i2l, kl_l2i, ki_lt, ki_le, ki_eq, kcmp_eq, kcmp_lt, kcmp_le, kcmp_gt, kcmp_ge, Option.bind_some, Option.map_some, kbool0, kbool1, if_pos, if_neg, if_true, if_false, Int.neg_neg, Int.sub_zero, Int.add_zero, Int.zero_add, true_and, and_true, false_and, and_false, false_or, or_false, true_or, or_true, ne_eq, not_false_eq_true, not_true_eq_false, Int.natCast_add, Int.natCast_one, Int.toNat_natCast])
  simp only [] at h1
  exact ⟨r2, by rw [← h1]; exact e, h2⟩
