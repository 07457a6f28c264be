/-! OPS: shift, tune, mirror -/
def okQ (N : Int) (l m : Int → Int) : Prop := (∀ x : Int, 0 ≤ x → x < N → -6 ≤ l x ∧ l x ≤ 6) ∧ ∀ x : Int, 0 ≤ x → x < N - 1 → l x < m x ∧ m x < l (x + 1)
theorem X9_areRight {Y : jY} {μ : jM} {o : Nat} (hN : kN Y μ o) {N : Int} (e0 : gi μ o 0 = N) (h0 : 0 ≤ N) (h4 : N ≤ 4) : (okQ N (gi μ (o + 1)) (gi μ (o + 2)) ∧ f_X9_areRight Y o μ = some (ki 1, μ)) ∨ (¬ okQ N (gi μ (o + 1)) (gi μ (o + 2)) ∧ f_X9_areRight Y o μ = some (ki 0, μ)) := by
  have g := kN.gr hN
  rw [e0] at g
  have main : ∃ r, f_X9_areRight Y o μ = some r ∧ ((okQ N (gi μ (o + 1)) (gi μ (o + 2)) ∧ r = (ki 1, μ)) ∨ (¬ okQ N (gi μ (o + 1)) (gi μ (o + 2)) ∧ r = (ki 0, μ))) := by
    refine jit_inv (f := fun (s : Int32 × jM) => b_X9_areRight_2 Y o s.1 s.2) (fun i z => z = (ki i, μ) ∧ ∀ x : Int, 0 ≤ x → x < i → -6 ≤ gi μ (o + 1) x ∧ gi μ (o + 1) x ≤ 6) _ N.toNat (s := ((0 : Int32), μ)) ⟨rfl, fun x a b => by omega⟩ (by omega) (fun i z hi hz => ?_)
    obtain ⟨rfl, z1⟩ := hz
    by_cases hN2 : i = N.toNat
    · have inner : ∃ r, jit jF (fun (s : Int32 × jM) => b_X9_areRight_36 Y o s.1 s.2) ((0 : Int32), μ) = some r ∧ ((okQ N (gi μ (o + 1)) (gi μ (o + 2)) ∧ r = (ki 1, μ)) ∨ (¬ okQ N (gi μ (o + 1)) (gi μ (o + 2)) ∧ r = (ki 0, μ))) := by
        refine jit_inv (f := fun (s : Int32 × jM) => b_X9_areRight_36 Y o s.1 s.2) (fun i z => z = (ki i, μ) ∧ ∀ x : Int, 0 ≤ x → x < i → gi μ (o + 1) x < gi μ (o + 2) x ∧ gi μ (o + 2) x < gi μ (o + 1) (x + 1)) _ (N - 1).toNat (s := ((0 : Int32), μ)) ⟨rfl, fun x a b => by omega⟩ (by omega) (fun j z hj hz => ?_)
        obtain ⟨rfl, y1⟩ := hz
        by_cases hj2 : N - 1 ≤ j
        · refine ⟨.inr (ki 1, μ), ?_, Or.inl ⟨⟨fun x a b => z1 x a (by omega), fun x a b => y1 x a (by omega)⟩, rfl⟩⟩
          simp (disch := omega) only [b_X9_areRight_36, g, ki_0, ki_1, ki_2, ki_3, ki_4, ki_5, ki_6, ki_7, ki_8, ki_9, ki_10, ki_11, ki_12, ki_13, ki_18, ki_20, ki_24, ki_32, ki_36, ki_45, ki_47, ki_48, ki_50, ki_57, ki_60, ki_63, ki_99, ki_100, ki_101, ki_120, ki_255, ki_468, ki_1000, ki_1024, ki_13849, ki_25173, ki_65535, ki_65536, ki_100000, ki_100001, ki_2147483647, ki_2147483648, kl_0, kl_1, kl_2, kl_9223372036854775808, ki_add, ki_sub, ki_mul, ki_neg, kl_add, kl_sub, kl_mul, kl_neg, ki_i2l, kl_l2i, ki_lt, ki_le, ki_eq, kcmp_eq, kcmp_lt, kcmp_le, kcmp_gt, kcmp_ge, Option.bind_some, Option.map_some, kbool0, kbool1, if_pos, if_neg, if_true, if_false, Int.neg_neg, Int.sub_zero, Int.add_zero, Int.zero_add, true_and, and_true, false_and, and_false, false_or, or_false, true_or, or_true, ne_eq, not_false_eq_true, not_true_eq_false]
        · have r1 := kaI hN.ac (x := (j : Int)) (by omega) (by omega)
          have r2 := kaI hN.aa (x := (j : Int)) (by omega) (by omega)
          have r3 := kaI hN.aa (x := (j : Int) + 1) (by omega) (by omega)
          have t1 := gi_lo μ (o + 1) j
          have t2 := gi_hi μ (o + 1) j
          have t3 := gi_lo μ (o + 2) j
          have t4 := gi_hi μ (o + 2) j
          have t5 := gi_lo μ (o + 1) (j + 1)
          have t6 := gi_hi μ (o + 1) (j + 1)
          by_cases c1 : gi μ (o + 2) j ≤ gi μ (o + 1) j
          · refine ⟨.inr (ki 0, μ), ?_, Or.inr ⟨fun q => ?_, rfl⟩⟩
            · simp (disch := omega) only [b_X9_areRight_36, b_X9_areRight_78, g, kN.ga hN, kN.gc hN, r1, r2, r3, ki_0, ki_1, ki_2, ki_3, ki_4, ki_5, ki_6, ki_7, ki_8, ki_9, ki_10, ki_11, ki_12, ki_13, ki_18, ki_20, ki_24, ki_32, ki_36, ki_45, ki_47, ki_48, ki_50, ki_57, ki_60, ki_63, ki_99, ki_100, ki_101, ki_120, ki_255, ki_468, ki_1000, ki_1024, ki_13849, ki_25173, ki_65535, ki_65536, ki_100000, ki_100001, ki_2147483647, ki_2147483648, kl_0, kl_1, kl_2, kl_9223372036854775808, ki_add, ki_sub, ki_mul, ki_neg, kl_add, kl_sub, kl_mul, kl_neg, ki_i2l, kl_l2i, ki_lt, ki_le, ki_eq, kcmp_eq, kcmp_lt, kcmp_le, kcmp_gt, kcmp_ge, Option.bind_some, Option.map_some, kbool0, kbool1, if_pos, if_neg, if_true, if_false, Int.neg_neg, Int.sub_zero, Int.add_zero, Int.zero_add, true_and, and_true, false_and, and_false, false_or, or_false, true_or, or_true, ne_eq, not_false_eq_true, not_true_eq_false]
            · have := (q.2 j (by omega) (by omega)).1
              omega
          · by_cases c2 : gi μ (o + 2) j < gi μ (o + 1) (j + 1)
            · refine ⟨.inl (ki ((j + 1 : Nat) : Int), μ), ?_, by omega, rfl, fun x a b => ?_⟩
              · simp (disch := omega) only [b_X9_areRight_36, g, kN.ga hN, kN.gc hN, r1, r2, r3, ki_0, ki_1, ki_2, ki_3, ki_4, ki_5, ki_6, ki_7, ki_8, ki_9, ki_10, ki_11, ki_12, ki_13, ki_18, ki_20, ki_24, ki_32, ki_36, ki_45, ki_47, ki_48, ki_50, ki_57, ki_60, ki_63, ki_99, ki_100, ki_101, ki_120, ki_255, ki_468, ki_1000, ki_1024, ki_13849, ki_25173, ki_65535, ki_65536, ki_100000, ki_100001, ki_2147483647, ki_2147483648, kl_0, kl_1, kl_2, kl_9223372036854775808, ki_add, ki_sub, ki_mul, ki_neg, kl_add, kl_sub, kl_mul, kl_neg, ki_i2l, kl_l2i, ki_lt, ki_le, ki_eq, kcmp_eq, kcmp_lt, kcmp_le, kcmp_gt, kcmp_ge, Option.bind_some, Option.map_some, kbool0, kbool1, if_pos, if_neg, if_true, if_false, Int.neg_neg, Int.sub_zero, Int.add_zero, Int.zero_add, true_and, and_true, false_and, and_false, false_or, or_false, true_or, or_true, ne_eq, not_false_eq_true, not_true_eq_false, Int.natCast_add, Int.natCast_one]
              · by_cases e : x = j
                · subst e; exact ⟨by omega, c2⟩
                · exact y1 x a (by omega)
            · refine ⟨.inr (ki 0, μ), ?_, Or.inr ⟨fun q => ?_, rfl⟩⟩
              · simp (disch := omega) only [b_X9_areRight_36, b_X9_areRight_78, g, kN.ga hN, kN.gc hN, r1, r2, r3, ki_0, ki_1, ki_2, ki_3, ki_4, ki_5, ki_6, ki_7, ki_8, ki_9, ki_10, ki_11, ki_12, ki_13, ki_18, ki_20, ki_24, ki_32, ki_36, ki_45, ki_47, ki_48, ki_50, ki_57, ki_60, ki_63, ki_99, ki_100, ki_101, ki_120, ki_255, ki_468, ki_1000, ki_1024, ki_13849, ki_25173, ki_65535, ki_65536, ki_100000, ki_100001, ki_2147483647, ki_2147483648, kl_0, kl_1, kl_2, kl_9223372036854775808, ki_add, ki_sub, ki_mul, ki_neg, kl_add, kl_sub, kl_mul, kl_neg, ki_i2l, kl_l2i, ki_lt, ki_le, ki_eq, kcmp_eq, kcmp_lt, kcmp_le, kcmp_gt, kcmp_ge, Option.bind_some, Option.map_some, kbool0, kbool1, if_pos, if_neg, if_true, if_false, Int.neg_neg, Int.sub_zero, Int.add_zero, Int.zero_add, true_and, and_true, false_and, and_false, false_or, or_false, true_or, or_true, ne_eq, not_false_eq_true, not_true_eq_false]
              · exact c2 (q.2 j (by omega) (by omega)).2
      obtain ⟨r, e, hr⟩ := inner
      refine ⟨.inr r, ?_, hr⟩
      have e2 : b_X9_areRight_2 Y o (ki i) μ = (jit jF (fun (s : Int32 × jM) => b_X9_areRight_36 Y o s.1 s.2) ((0 : Int32), μ)).map (fun r => (.inr r)) := by
        simp (disch := omega) only [b_X9_areRight_2, g, ki_0, ki_1, ki_2, ki_3, ki_4, ki_5, ki_6, ki_7, ki_8, ki_9, ki_10, ki_11, ki_12, ki_13, ki_18, ki_20, ki_24, ki_32, ki_36, ki_45, ki_47, ki_48, ki_50, ki_57, ki_60, ki_63, ki_99, ki_100, ki_101, ki_120, ki_255, ki_468, ki_1000, ki_1024, ki_13849, ki_25173, ki_65535, ki_65536, ki_100000, ki_100001, ki_2147483647, ki_2147483648, kl_0, kl_1, kl_2, kl_9223372036854775808, ki_add, ki_sub, ki_mul, ki_neg, kl_add, kl_sub, kl_mul, kl_neg, ki_i2l, kl_l2i, ki_lt, ki_le, ki_eq, kcmp_eq, kcmp_lt, kcmp_le, kcmp_gt, kcmp_ge, Option.bind_some, Option.map_some, kbool0, kbool1, if_pos, if_neg, if_true, if_false, Int.neg_neg, Int.sub_zero, Int.add_zero, Int.zero_add, true_and, and_true, false_and, and_false, false_or, or_false, true_or, or_true, ne_eq, not_false_eq_true, not_true_eq_false]
      simp only [e2, e]
      rfl
    · have r2 := kaI hN.aa (x := (i : Int)) (by omega) (by omega)
      have t1 := gi_lo μ (o + 1) i
      have t2 := gi_hi μ (o + 1) i
      by_cases c : -6 ≤ gi μ (o + 1) i ∧ gi μ (o + 1) i ≤ 6
      · refine ⟨.inl (ki ((i + 1 : Nat) : Int), μ), ?_, by omega, rfl, fun x a b => ?_⟩
        · simp (disch := omega) only [b_X9_areRight_2, g, kN.ga hN, r2, X11_within, ki_0, ki_1, ki_2, ki_3, ki_4, ki_5, ki_6, ki_7, ki_8, ki_9, ki_10, ki_11, ki_12, ki_13, ki_18, ki_20, ki_24, ki_32, ki_36, ki_45, ki_47, ki_48, ki_50, ki_57, ki_60, ki_63, ki_99, ki_100, ki_101, ki_120, ki_255, ki_468, ki_1000, ki_1024, ki_13849, ki_25173, ki_65535, ki_65536, ki_100000, ki_100001, ki_2147483647, ki_2147483648, kl_0, kl_1, kl_2, kl_9223372036854775808, ki_add, ki_sub, ki_mul, ki_neg, kl_add, kl_sub, kl_mul, kl_neg, ki_i2l, kl_l2i, ki_lt, ki_le, ki_eq, kcmp_eq, kcmp_lt, kcmp_le, kcmp_gt, kcmp_ge, Option.bind_some, Option.map_some, kbool0, kbool1, if_pos, if_neg, if_true, if_false, Int.neg_neg, Int.sub_zero, Int.add_zero, Int.zero_add, true_and, and_true, false_and, and_false, false_or, or_false, true_or, or_true, ne_eq, not_false_eq_true, not_true_eq_false, Int.natCast_add, Int.natCast_one]
        · by_cases e : x = i
          · subst e; exact c
          · exact z1 x a (by omega)
      · refine ⟨.inr (ki 0, μ), ?_, Or.inr ⟨fun q => c (q.1 i (by omega) (by omega)), rfl⟩⟩
        simp (disch := omega) only [b_X9_areRight_2, g, kN.ga hN, r2, X11_within, ki_0, ki_1, ki_2, ki_3, ki_4, ki_5, ki_6, ki_7, ki_8, ki_9, ki_10, ki_11, ki_12, ki_13, ki_18, ki_20, ki_24, ki_32, ki_36, ki_45, ki_47, ki_48, ki_50, ki_57, ki_60, ki_63, ki_99, ki_100, ki_101, ki_120, ki_255, ki_468, ki_1000, ki_1024, ki_13849, ki_25173, ki_65535, ki_65536, ki_100000, ki_100001, ki_2147483647, ki_2147483648, kl_0, kl_1, kl_2, kl_9223372036854775808, ki_add, ki_sub, ki_mul, ki_neg, kl_add, kl_sub, kl_mul, kl_neg, ki_i2l, kl_l2i, ki_lt, ki_le, ki_eq, kcmp_eq, kcmp_lt, kcmp_le, kcmp_gt, kcmp_ge, Option.bind_some, Option.map_some, kbool0, kbool1, if_pos, if_neg, if_true, if_false, Int.neg_neg, Int.sub_zero, Int.add_zero, Int.zero_add, true_and, and_true, false_and, and_false, false_or, or_false, true_or, or_true, ne_eq, not_false_eq_true, not_true_eq_false]
  obtain ⟨r, e, hr⟩ := main
  rcases hr with ⟨a, rfl⟩ | ⟨a, rfl⟩
  · exact Or.inl ⟨a, e⟩
  · exact Or.inr ⟨a, e⟩
theorem X9_copy2 {Y : jY} {μ : jM} {s o : Nat} (hT : kN Y μ o) (hS : kN Y μ s) (hd : o + 2 < s ∨ s + 2 < o) : ∃ ν, f_X9_copy Y s o μ = some ν ∧ kF s (s + 3) μ ν ∧ gi ν s 0 = gi μ o 0 ∧ (∀ x, 0 ≤ x → x < 4 → gi ν (s + 1) x = gi μ (o + 1) x) ∧ ∀ x, 0 ≤ x → x < 3 → gi ν (s + 2) x = gi μ (o + 2) x :=
  ⟨_, X9_copy hT hS hd, cnM_kF hS, cnM_0, fun x a b => cnM_1 a b, fun x a b => cnM_2 a b⟩
theorem X11_take {Y : jY} {μ : jM} (hX : kX Y μ) (h0 : 0 ≤ gi μ 91 0) (h4 : gi μ 91 0 ≤ 4) : (¬ okQ (gi μ 91 0) (gi μ 92) (gi μ 93) ∧ f_X11_takeSpareTones Y 1 μ = some (ki (-3), μ)) ∨ (okQ (gi μ 91 0) (gi μ 92) (gi μ 93) ∧ ∃ ν, f_X11_takeSpareTones Y 1 μ = some (ki (gi μ 91 0), ν) ∧ kF 10 13 μ ν ∧ gi ν 10 0 = gi μ 91 0 ∧ (∀ x, 0 ≤ x → x < 4 → gi ν 11 x = gi μ 92 x) ∧ ∀ x, 0 ≤ x → x < 3 → gi ν 12 x = gi μ 93 x) := by
  rcases X9_areRight hX.n91 rfl h0 h4 with ⟨c, e⟩ | ⟨c, e⟩
  · obtain ⟨ν, e1, k1, c0, c1, c2⟩ := X9_copy2 hX.n91 hX.n10 (by omega)
    have hX1 := hX.to k1
    have g := kN.gr hX1.n10
    rw [c0] at g
    refine Or.inr ⟨c, ν, ?_, k1, c0, c1, c2⟩
    simp (disch := omega) only [f_X11_takeSpareTones, kX.o1_11 hX, kX.o1_3 hX, kS.gn (kX.now hX), krcv (kN.y hX.n91), krcv (kN.y hX.n10), e, e1, kX.o1_3 hX1, kS.gn (kX.now hX1), g, ki_0, ki_1, ki_2, ki_3, ki_4, ki_5, ki_6, ki_7, ki_8, ki_9, ki_10, ki_11, ki_12, ki_13, ki_18, ki_20, ki_24, ki_32, ki_36, ki_45, ki_47, ki_48, ki_50, ki_57, ki_60, ki_63, ki_99, ki_100, ki_101, ki_120, ki_255, ki_468, ki_1000, ki_1024, ki_13849, ki_25173, ki_65535, ki_65536, ki_100000, ki_100001, ki_2147483647, ki_2147483648, kl_0, kl_1, kl_2, kl_9223372036854775808, ki_add, ki_sub, ki_mul, ki_neg, kl_add, kl_sub, kl_mul, kl_neg, ki_i2l, kl_l2i, ki_lt, ki_le, ki_eq, kcmp_eq, kcmp_lt, kcmp_le, kcmp_gt, kcmp_ge, Option.bind_some, Option.map_some, kbool0, kbool1, if_pos, if_neg, if_true, if_false, Int.neg_neg, Int.sub_zero, Int.add_zero, Int.zero_add, true_and, and_true, false_and, and_false, false_or, or_false, true_or, or_true, ne_eq, not_false_eq_true, not_true_eq_false]
  · refine Or.inl ⟨c, ?_⟩
    simp (disch := omega) only [f_X11_takeSpareTones, kX.o1_11 hX, krcv (kN.y hX.n91), e, ki_0, ki_1, ki_2, ki_3, ki_4, ki_5, ki_6, ki_7, ki_8, ki_9, ki_10, ki_11, ki_12, ki_13, ki_18, ki_20, ki_24, ki_32, ki_36, ki_45, ki_47, ki_48, ki_50, ki_57, ki_60, ki_63, ki_99, ki_100, ki_101, ki_120, ki_255, ki_468, ki_1000, ki_1024, ki_13849, ki_25173, ki_65535, ki_65536, ki_100000, ki_100001, ki_2147483647, ki_2147483648, kl_0, kl_1, kl_2, kl_9223372036854775808, ki_add, ki_sub, ki_mul, ki_neg, kl_add, kl_sub, kl_mul, kl_neg, ki_i2l, kl_l2i, ki_lt, ki_le, ki_eq, kcmp_eq, kcmp_lt, kcmp_le, kcmp_gt, kcmp_ge, Option.bind_some, Option.map_some, kbool0, kbool1, if_pos, if_neg, if_true, if_false, Int.neg_neg, Int.sub_zero, Int.add_zero, Int.zero_add, true_and, and_true, false_and, and_false, false_or, or_false, true_or, or_true, ne_eq, not_false_eq_true, not_true_eq_false]
theorem X9_moveBy {Y : jY} {μ : jM} {o : Nat} (hN : kN Y μ o) {N by_ : Int} (e0 : gi μ o 0 = N) (h0 : 0 ≤ N) (h4 : N ≤ 4) (hb : -100 ≤ by_ ∧ by_ ≤ 100) (hl : ∀ x : Int, 0 ≤ x → x < N → -100 ≤ gi μ (o + 1) x ∧ gi μ (o + 1) x ≤ 100) (hm : ∀ x : Int, 0 ≤ x → x < N - 1 → -100 ≤ gi μ (o + 2) x ∧ gi μ (o + 2) x ≤ 100) : ∃ ν, f_X9_moveBy Y o (ki by_) μ = some ν ∧ kF o (o + 3) μ ν ∧ gi ν o 0 = N ∧ (∀ x, 0 ≤ x → x < N → gi ν (o + 1) x = gi μ (o + 1) x + by_) ∧ ∀ x, 0 ≤ x → x < N - 1 → gi ν (o + 2) x = gi μ (o + 2) x + by_ := by
  have b1 : ∀ i : Nat, (i : Int) ≤ N → kF o (o + 3) μ (wr μ (o + 1) 0 (fun x => gi μ (o + 1) x + by_) i) := fun i hi => wr_kF (by omega) (by omega) i (fun j hj => hN.aa.2.2.2 _ (by omega))
  have b2 : ∀ i : Nat, (i : Int) ≤ N → ∀ x : Int, 0 ≤ x → gi (wr μ (o + 1) 0 (fun x => gi μ (o + 1) x + by_) i) (o + 1) x = if x < i then gi μ (o + 1) x + by_ else gi μ (o + 1) x := by
    intro i hi x hx
    rw [wr_gi i (fun j hj => by have := hl j (by omega) (by omega); omega) x hx]
    by_cases e : x < i
    · rw [if_pos (by omega), if_pos e, Int.natCast_zero, Int.sub_zero]
    · rw [if_neg (by omega), if_neg e]
  have main : ∃ ν, jit jF (fun (s : Int32 × jM) => b_X9_moveBy_2 Y o (ki by_) s.1 s.2) ((0 : Int32), μ) = some ν ∧ ∃ i : Nat, N - 1 ≤ i ∧ (i : Int) ≤ N ∧ ν = wr (wr μ (o + 1) 0 (fun x => gi μ (o + 1) x + by_) N.toNat) (o + 2) 0 (fun x => gi μ (o + 2) x + by_) (N - 1).toNat := by
    refine ⟨_, ?_, N.toNat, by omega, by omega, rfl⟩
    refine jit_run (fun i => (ki i, wr μ (o + 1) 0 (fun x => gi μ (o + 1) x + by_) i)) _ N.toNat rfl (by omega) (fun i hi => ?_) ?_
    · have k2 := b1 i (by omega)
      have k3 := b2 i (by omega) i (by omega)
      rw [if_neg (by omega)] at k3
      have q0 : gi (wr μ (o + 1) 0 (fun x => gi μ (o + 1) x + by_) i) o 0 = N := by rw [wr_other (by omega), e0]
      simp only [wr]
      generalize wr μ (o + 1) 0 (fun x => gi μ (o + 1) x + by_) i = ν at *
      have t1 := hN.to k2
      have g := kN.gr t1
      rw [q0] at g
      have e1 := kaI t1.aa (x := (i : Int)) (by omega) (by omega)
      rw [k3] at e1
      have e2 := fun v => kasI (v := v) t1.aa (x := (i : Int)) (by omega) (by omega)
      simp (disch := omega) only [b_X9_moveBy_2, kN.ga t1, g, e1, e2, ki_0, ki_1, ki_2, ki_3, ki_4, ki_5, ki_6, ki_7, ki_8, ki_9, ki_10, ki_11, ki_12, ki_13, ki_18, ki_20, ki_24, ki_32, ki_36, ki_45, ki_47, ki_48, ki_50, ki_57, ki_60, ki_63, ki_99, ki_100, ki_101, ki_120, ki_255, ki_468, ki_1000, ki_1024, ki_13849, ki_25173, ki_65535, ki_65536, ki_100000, ki_100001, ki_2147483647, ki_2147483648, kl_0, kl_1, kl_2, kl_9223372036854775808, ki_add, ki_sub, ki_mul, ki_neg, kl_add, kl_sub, kl_mul, kl_neg, ki_i2l, kl_l2i, ki_lt, ki_le, ki_eq, kcmp_eq, kcmp_lt, kcmp_le, kcmp_gt, kcmp_ge, Option.bind_some, Option.map_some, kbool0, kbool1, if_pos, if_neg, if_true, if_false, Int.neg_neg, Int.sub_zero, Int.add_zero, Int.zero_add, true_and, and_true, false_and, and_false, false_or, or_false, true_or, or_true, ne_eq, not_false_eq_true, not_true_eq_false, Int.natCast_add, Int.natCast_one, Int.toNat_natCast, Nat.zero_add]
    · have k2 := b1 N.toNat (by omega)
      have q0 : gi (wr μ (o + 1) 0 (fun x => gi μ (o + 1) x + by_) N.toNat) o 0 = N := by rw [wr_other (by omega), e0]
      have q2 : ∀ x, gi (wr μ (o + 1) 0 (fun x => gi μ (o + 1) x + by_) N.toNat) (o + 2) x = gi μ (o + 2) x := fun x => wr_other (by omega) _ _
      generalize wr μ (o + 1) 0 (fun x => gi μ (o + 1) x + by_) N.toNat = ξ at *
      have inner : jit jF (fun (s : Int32 × jM) => b_X9_moveBy_28 Y o (ki by_) s.1 s.2) ((0 : Int32), ξ) = some (wr ξ (o + 2) 0 (fun x => gi μ (o + 2) x + by_) (N - 1).toNat) := by
        refine jit_run (fun i => (ki i, wr ξ (o + 2) 0 (fun x => gi μ (o + 2) x + by_) i)) _ (N - 1).toNat rfl (by omega) (fun i hi => ?_) ?_
        · have k4 : kF o (o + 3) ξ (wr ξ (o + 2) 0 (fun x => gi μ (o + 2) x + by_) i) := wr_kF (by omega) (by omega) i (fun j hj => k2.I (hN.ac.2.2.2 _ (by omega)))
          have k3 : gi (wr ξ (o + 2) 0 (fun x => gi μ (o + 2) x + by_) i) (o + 2) i = gi μ (o + 2) i := by
            rw [wr_gi i (fun j hj => by have := hm j (by omega) (by omega); omega) i (by omega), if_neg (by omega), q2]
          have q0 : gi (wr ξ (o + 2) 0 (fun x => gi μ (o + 2) x + by_) i) o 0 = N := by rw [wr_other (by omega), q0]
          simp only [wr]
          generalize wr ξ (o + 2) 0 (fun x => gi μ (o + 2) x + by_) i = ν at *
          have t1 := hN.to (k2.trans k4)
          have g := kN.gr t1
          rw [q0] at g
          have e1 := kaI t1.ac (x := (i : Int)) (by omega) (by omega)
          rw [k3] at e1
          have e2 := fun v => kasI (v := v) t1.ac (x := (i : Int)) (by omega) (by omega)
          simp (disch := omega) only [b_X9_moveBy_28, kN.gc t1, g, e1, e2, ki_0, ki_1, ki_2, ki_3, ki_4, ki_5, ki_6, ki_7, ki_8, ki_9, ki_10, ki_11, ki_12, ki_13, ki_18, ki_20, ki_24, ki_32, ki_36, ki_45, ki_47, ki_48, ki_50, ki_57, ki_60, ki_63, ki_99, ki_100, ki_101, ki_120, ki_255, ki_468, ki_1000, ki_1024, ki_13849, ki_25173, ki_65535, ki_65536, ki_100000, ki_100001, ki_2147483647, ki_2147483648, kl_0, kl_1, kl_2, kl_9223372036854775808, ki_add, ki_sub, ki_mul, ki_neg, kl_add, kl_sub, kl_mul, kl_neg, ki_i2l, kl_l2i, ki_lt, ki_le, ki_eq, kcmp_eq, kcmp_lt, kcmp_le, kcmp_gt, kcmp_ge, Option.bind_some, Option.map_some, kbool0, kbool1, if_pos, if_neg, if_true, if_false, Int.neg_neg, Int.sub_zero, Int.add_zero, Int.zero_add, true_and, and_true, false_and, and_false, false_or, or_false, true_or, or_true, ne_eq, not_false_eq_true, not_true_eq_false, Int.natCast_add, Int.natCast_one, Int.toNat_natCast, Nat.zero_add]
        · have q0 : gi (wr ξ (o + 2) 0 (fun x => gi μ (o + 2) x + by_) (N - 1).toNat) o 0 = N := by rw [wr_other (by omega), q0]
          have k4 : kF o (o + 3) ξ (wr ξ (o + 2) 0 (fun x => gi μ (o + 2) x + by_) (N - 1).toNat) := wr_kF (by omega) (by omega) _ (fun j hj => k2.I (hN.ac.2.2.2 _ (by omega)))
          generalize wr ξ (o + 2) 0 (fun x => gi μ (o + 2) x + by_) (N - 1).toNat = ν at *
          have g := kN.gr (hN.to (k2.trans k4))
          rw [q0] at g
          simp (disch := omega) only [b_X9_moveBy_28, g, ki_0, ki_1, ki_2, ki_3, ki_4, ki_5, ki_6, ki_7, ki_8, ki_9, ki_10, ki_11, ki_12, ki_13, ki_18, ki_20, ki_24, ki_32, ki_36, ki_45, ki_47, ki_48, ki_50, ki_57, ki_60, ki_63, ki_99, ki_100, ki_101, ki_120, ki_255, ki_468, ki_1000, ki_1024, ki_13849, ki_25173, ki_65535, ki_65536, ki_100000, ki_100001, ki_2147483647, ki_2147483648, kl_0, kl_1, kl_2, kl_9223372036854775808, ki_add, ki_sub, ki_mul, ki_neg, kl_add, kl_sub, kl_mul, kl_neg, ki_i2l, kl_l2i, ki_lt, ki_le, ki_eq, kcmp_eq, kcmp_lt, kcmp_le, kcmp_gt, kcmp_ge, Option.bind_some, Option.map_some, kbool0, kbool1, if_pos, if_neg, if_true, if_false, Int.neg_neg, Int.sub_zero, Int.add_zero, Int.zero_add, true_and, and_true, false_and, and_false, false_or, or_false, true_or, or_true, ne_eq, not_false_eq_true, not_true_eq_false]
      have g := kN.gr (hN.to k2)
      rw [q0] at g
      have e : b_X9_moveBy_2 Y o (ki by_) (ki (N.toNat : Int)) ξ = (jit jF (fun (s : Int32 × jM) => b_X9_moveBy_28 Y o (ki by_) s.1 s.2) ((0 : Int32), ξ)).map (fun r => (.inr r)) := by
        simp (disch := omega) only [b_X9_moveBy_2, g, ki_0, ki_1, ki_2, ki_3, ki_4, ki_5, ki_6, ki_7, ki_8, ki_9, ki_10, ki_11, ki_12, ki_13, ki_18, ki_20, ki_24, ki_32, ki_36, ki_45, ki_47, ki_48, ki_50, ki_57, ki_60, ki_63, ki_99, ki_100, ki_101, ki_120, ki_255, ki_468, ki_1000, ki_1024, ki_13849, ki_25173, ki_65535, ki_65536, ki_100000, ki_100001, ki_2147483647, ki_2147483648, kl_0, kl_1, kl_2, kl_9223372036854775808, ki_add, ki_sub, ki_mul, ki_neg, kl_add, kl_sub, kl_mul, kl_neg, ki_i2l, kl_l2i, ki_lt, ki_le, ki_eq, kcmp_eq, kcmp_lt, kcmp_le, kcmp_gt, kcmp_ge, Option.bind_some, Option.map_some, kbool0, kbool1, if_pos, if_neg, if_true, if_false, Int.neg_neg, Int.sub_zero, Int.add_zero, Int.zero_add, true_and, and_true, false_and, and_false, false_or, or_false, true_or, or_true, ne_eq, not_false_eq_true, not_true_eq_false]
      simp only [e, inner]
      rfl
  obtain ⟨ν, e, i, i1, i2, rfl⟩ := main
  refine ⟨_, e, (b1 N.toNat (by omega)).trans (wr_kF (by omega) (by omega) _ (fun j hj => (b1 N.toNat (by omega)).I (hN.ac.2.2.2 _ (by omega)))), ?_, fun x a b => ?_, fun x a b => ?_⟩
  · rw [wr_other (by omega), wr_other (by omega), e0]
  · rw [wr_other (by omega), b2 _ (by omega) x a, if_pos (by omega)]
  · rw [wr_gi _ (fun j hj => by have := hm j (by omega) (by omega); omega) x a, if_pos (by omega), Int.natCast_zero, Int.sub_zero]
