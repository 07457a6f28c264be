/-! OPS: polynomial, moment -/
set_option maxHeartbeats 1000000 in
theorem X12_laysTones {Y : jY} {μ : jM} (hM : kM Y μ) {N : Int} {l m : Int → Int} (e0 : gi μ 95 10 = N) (h1 : 1 ≤ N) (h4 : N ≤ 4) (hl : ∀ x : Int, 0 ≤ x → x < N → gi μ 99 x = l x ∧ -1000 ≤ l x ∧ l x ≤ 1000) (hm : ∀ x : Int, 0 ≤ x → x < N - 1 → gi μ 100 x = m x ∧ -1000 ≤ m x ∧ m x ≤ 1000) : ∃ ν, f_X12_laysTones Y 95 μ = some ν ∧ kF 101 104 μ ν ∧ rowK ν 101 (N + 1) (tp l N.toNat) ∧ rowK ν 102 N (tp m (N - 1).toNat) ∧ rowK ν 103 8 (moT N (tp l N.toNat) (tp m (N - 1).toNat) 8) := by
  have main3 : ∀ (ξ : jM) (U W : Int → Int), kF 101 104 μ ξ → rowK ξ 101 (N + 1) U → rowK ξ 102 N W → ∃ ω, jit jF (fun (s : Int32 × jM) => b_X12_laysTones_78 Y 95 s.1 s.2) ((0 : Int32), ξ) = some ω ∧ kF 103 104 ξ ω ∧ rowK ω 103 8 (moT N U W 8) := by
    intro ξ U W kξ tU tW
    refine jit_inv (f := fun (s : Int32 × jM) => b_X12_laysTones_78 Y 95 s.1 s.2) (fun k z => z.1 = ki k ∧ kF 103 104 ξ z.2 ∧ rowK z.2 103 k (moT N U W k)) _ 8 (s := ((0 : Int32), ξ)) ⟨rfl, kF.refl, fun x a b => by omega⟩ (by omega) (fun k z hk hz => ?_)
    obtain ⟨v, ν⟩ := z
    obtain ⟨rfl, z1, z2⟩ := hz
    simp only [] at z1 z2
    have kz := kξ.trans (z1.mono (lo' := 101) (hi' := 104) (by omega) (by omega))
    have hMz := hM.to kz
    have gz := kM.g10 hMz
    rw [kz.gi (by omega), e0] at gz
    by_cases e8 : k = 8
    · subst e8
      refine ⟨.inr ν, ?_, z1, z2⟩
      simp (disch := omega) only [b_X12_laysTones_78, ki_0, ki_1, ki_2, ki_3, ki_4, ki_5, ki_6, ki_7, ki_8, ki_9, ki_10, ki_11, ki_12, ki_13, ki_18, ki_20, ki_24, ki_32, ki_36, ki_45, ki_47, ki_48, ki_50, ki_57, ki_60, ki_63, ki_99, ki_100, ki_101, ki_120, ki_255, ki_468, ki_1000, ki_1024, ki_13849, ki_25173, ki_65535, ki_65536, ki_100000, ki_100001, ki_2147483647, ki_2147483648, kl_0, kl_1, kl_2, kl_9223372036854775808, ki_add, ki_sub, ki_mul, ki_neg, kl_add, kl_sub, kl_mul, kl_neg, ki_i2l, kl_l2i, ki_lt, ki_le, ki_eq, kcmp_eq, kcmp_lt, kcmp_le, kcmp_gt, kcmp_ge, Option.bind_some, Option.map_some, kbool0, kbool1, if_pos, if_neg, if_true, if_false, Int.neg_neg, Int.sub_zero, Int.add_zero, Int.zero_add, true_and, and_true, false_and, and_false, false_or, or_false, true_or, or_true, ne_eq, not_false_eq_true, not_true_eq_false]
    · have s1 := fun v => kasL (v := v) (kM.a103 hMz) (x := (k : Int)) (by omega) (by omega)
      have kf0 : kF 103 104 ν (jw ν 103 (k : Int).toNat (.long (kl (vf N U W (moT N U W k) k 0)))) := kF_L ((kM.a103 hMz).2.2.2 _ (by omega)) (by omega) (by omega)
      have inner : ∃ ω, jit jF (fun (s : Int32 × jM) => b_X12_laysTones_117 Y 95 (ki k) s.1 s.2) ((1 : Int32), jw ν 103 (k : Int).toNat (.long (kl (vf N U W (moT N U W k) k 0)))) = some (.inl (ki ((k + 1 : Nat) : Int), ω)) ∧ kF 103 104 ξ ω ∧ rowK ω 103 ((k + 1 : Nat) : Int) (moT N U W (k + 1)) := by
        obtain ⟨r2, f1, ω, rfl, f2⟩ := jit_inv (f := fun (s : Int32 × jM) => b_X12_laysTones_117 Y 95 (ki k) s.1 s.2) (fun j z => z.1 = ki ((j : Int) + 1) ∧ kF 103 104 ξ z.2 ∧ z.2 103 (k : Int).toNat = .long (kl (vf N U W (moT N U W k) k j)) ∧ rowK z.2 103 k (moT N U W k)) (fun q => ∃ ω, q = .inl (ki ((k + 1 : Nat) : Int), ω) ∧ kF 103 104 ξ ω ∧ rowK ω 103 ((k + 1 : Nat) : Int) (moT N U W (k + 1))) (min k N.toNat) (s := ((1 : Int32), jw ν 103 (k : Int).toNat (.long (kl (vf N U W (moT N U W k) k 0))))) ⟨rfl, z1.trans kf0, jw_same _ _ _ _, fun x x0 x1 => by
          simp only []
          rw [jw_at x0 (by omega), if_neg (by omega)]
          exact z2 x x0 x1⟩ (by omega) (fun j z hj hz => by
          obtain ⟨v, η⟩ := z
          obtain ⟨rfl, y1, y2, y3⟩ := hz
          simp only [] at y1 y2 y3
          have ky := kξ.trans (y1.mono (lo' := 101) (hi' := 104) (by omega) (by omega))
          have hMy := hM.to ky
          have gy := kM.g10 hMy
          rw [ky.gi (by omega), e0] at gy
          by_cases ej : j = min k N.toNat
          · refine ⟨.inr (.inl (ki ((k + 1 : Nat) : Int), η)), ?_, η, rfl, y1, fun x x0 x1 => ?_⟩
            · by_cases hkN : (k : Int) ≤ N
              · have : j = k := by omega
                subst this
                by_cases hq : N < (j : Int) + 1
                · simp (disch := omega) only [b_X12_laysTones_117, b_X12_laysTones_169, gy, ki_0, ki_1, ki_2, ki_3, ki_4, ki_5, ki_6, ki_7, ki_8, ki_9, ki_10, ki_11, ki_12, ki_13, ki_18, ki_20, ki_24, ki_32, ki_36, ki_45, ki_47, ki_48, ki_50, ki_57, ki_60, ki_63, ki_99, ki_100, ki_101, ki_120, ki_255, ki_468, ki_1000, ki_1024, ki_13849, ki_25173, ki_65535, ki_65536, ki_100000, ki_100001, ki_2147483647, ki_2147483648, kl_0, kl_1, kl_2, kl_9223372036854775808, ki_add, ki_sub, ki_mul, ki_neg, kl_add, kl_sub, kl_mul, kl_neg, ki_i2l, kl_l2i, ki_lt, ki_le, ki_eq, kcmp_eq, kcmp_lt, kcmp_le, kcmp_gt, kcmp_ge, Option.bind_some, Option.map_some, kbool0, kbool1, if_pos, if_neg, if_true, if_false, Int.neg_neg, Int.sub_zero, Int.add_zero, Int.zero_add, true_and, and_true, false_and, and_false, false_or, or_false, true_or, or_true, ne_eq, not_false_eq_true, not_true_eq_false, Int.natCast_add, Int.natCast_one]
                · simp (disch := omega) only [b_X12_laysTones_117, b_X12_laysTones_169, gy, ki_0, ki_1, ki_2, ki_3, ki_4, ki_5, ki_6, ki_7, ki_8, ki_9, ki_10, ki_11, ki_12, ki_13, ki_18, ki_20, ki_24, ki_32, ki_36, ki_45, ki_47, ki_48, ki_50, ki_57, ki_60, ki_63, ki_99, ki_100, ki_101, ki_120, ki_255, ki_468, ki_1000, ki_1024, ki_13849, ki_25173, ki_65535, ki_65536, ki_100000, ki_100001, ki_2147483647, ki_2147483648, kl_0, kl_1, kl_2, kl_9223372036854775808, ki_add, ki_sub, ki_mul, ki_neg, kl_add, kl_sub, kl_mul, kl_neg, ki_i2l, kl_l2i, ki_lt, ki_le, ki_eq, kcmp_eq, kcmp_lt, kcmp_le, kcmp_gt, kcmp_ge, Option.bind_some, Option.map_some, kbool0, kbool1, if_pos, if_neg, if_true, if_false, Int.neg_neg, Int.sub_zero, Int.add_zero, Int.zero_add, true_and, and_true, false_and, and_false, false_or, or_false, true_or, or_true, ne_eq, not_false_eq_true, not_true_eq_false, Int.natCast_add, Int.natCast_one]
              · simp (disch := omega) only [b_X12_laysTones_117, b_X12_laysTones_169, gy, ki_0, ki_1, ki_2, ki_3, ki_4, ki_5, ki_6, ki_7, ki_8, ki_9, ki_10, ki_11, ki_12, ki_13, ki_18, ki_20, ki_24, ki_32, ki_36, ki_45, ki_47, ki_48, ki_50, ki_57, ki_60, ki_63, ki_99, ki_100, ki_101, ki_120, ki_255, ki_468, ki_1000, ki_1024, ki_13849, ki_25173, ki_65535, ki_65536, ki_100000, ki_100001, ki_2147483647, ki_2147483648, kl_0, kl_1, kl_2, kl_9223372036854775808, ki_add, ki_sub, ki_mul, ki_neg, kl_add, kl_sub, kl_mul, kl_neg, ki_i2l, kl_l2i, ki_lt, ki_le, ki_eq, kcmp_eq, kcmp_lt, kcmp_le, kcmp_gt, kcmp_ge, Option.bind_some, Option.map_some, kbool0, kbool1, if_pos, if_neg, if_true, if_false, Int.neg_neg, Int.sub_zero, Int.add_zero, Int.zero_add, true_and, and_true, false_and, and_false, false_or, or_false, true_or, or_true, ne_eq, not_false_eq_true, not_true_eq_false, Int.natCast_add, Int.natCast_one]
            · simp only [moT]
              by_cases f : x = k
              · rw [if_pos f, f, y2, ej]
              · rw [if_neg f]
                exact y3 x x0 (by omega)
          · have q1 := kaLv (kM.a101 hMy) (x := N - ((j : Int) + 1)) (by omega) (by omega) ((tU.to y1 (by omega)) _ (by omega) (by omega))
            have q2 := kaLv (kM.a103 hMy) (x := (k : Int) - ((j : Int) + 1)) (by omega) (by omega) (y3 _ (by omega) (by omega))
            have q3 := kaLv (kM.a103 hMy) (x := (k : Int)) (by omega) (by omega) y2
            have s2 := fun v => kasL (v := v) (kM.a103 hMy) (x := (k : Int)) (by omega) (by omega)
            have kf : kF 103 104 η (jw η 103 (k : Int).toNat (.long (kl (vf N U W (moT N U W k) k (j + 1))))) := kF_L ((kM.a103 hMy).2.2.2 _ (by omega)) (by omega) (by omega)
            refine ⟨.inl (ki (((j + 1 : Nat) : Int) + 1), jw η 103 (k : Int).toNat (.long (kl (vf N U W (moT N U W k) k (j + 1))))), ?_, by omega, rfl, y1.trans kf, jw_same _ _ _ _, fun x x0 x1 => ?_⟩
            · simp (disch := omega) only [b_X12_laysTones_117, gy, kM.o13 hMy, kM.o15 hMy, q1, q2, q3, s2, ki_0, ki_1, ki_2, ki_3, ki_4, ki_5, ki_6, ki_7, ki_8, ki_9, ki_10, ki_11, ki_12, ki_13, ki_18, ki_20, ki_24, ki_32, ki_36, ki_45, ki_47, ki_48, ki_50, ki_57, ki_60, ki_63, ki_99, ki_100, ki_101, ki_120, ki_255, ki_468, ki_1000, ki_1024, ki_13849, ki_25173, ki_65535, ki_65536, ki_100000, ki_100001, ki_2147483647, ki_2147483648, kl_0, kl_1, kl_2, kl_9223372036854775808, ki_add, ki_sub, ki_mul, ki_neg, kl_add, kl_sub, kl_mul, kl_neg, ki_i2l, kl_l2i, ki_lt, ki_le, ki_eq, kcmp_eq, kcmp_lt, kcmp_le, kcmp_gt, kcmp_ge, Option.bind_some, Option.map_some, kbool0, kbool1, if_pos, if_neg, if_true, if_false, Int.neg_neg, Int.sub_zero, Int.add_zero, Int.zero_add, true_and, and_true, false_and, and_false, false_or, or_false, true_or, or_true, ne_eq, not_false_eq_true, not_true_eq_false, vf, Int.natCast_add, Int.natCast_one]
            · simp only []
              rw [jw_at x0 (by omega), if_neg (by omega)]
              exact y3 x x0 x1)
        exact ⟨ω, f1, f2⟩
      obtain ⟨ω, f1, f2, f3⟩ := inner
      refine ⟨.inl (ki ((k + 1 : Nat) : Int), ω), ?_, by omega, rfl, f2, f3⟩
      by_cases hkN : (k : Int) < N
      · have q1 := kaLv (kM.a102 hMz) (x := N - 1 - k) (by omega) (by omega) ((tW.to z1 (by omega)) _ (by omega) (by omega))
        have v0 : vf N U W (moT N U W k) k 0 = W (N - 1 - k) := if_pos hkN
        rw [v0] at f1
        simp (disch := omega) only [b_X12_laysTones_78, b_X12_laysTones_114, gz, kM.o14 hMz, kM.o15 hMz, q1, s1, ki_0, ki_1, ki_2, ki_3, ki_4, ki_5, ki_6, ki_7, ki_8, ki_9, ki_10, ki_11, ki_12, ki_13, ki_18, ki_20, ki_24, ki_32, ki_36, ki_45, ki_47, ki_48, ki_50, ki_57, ki_60, ki_63, ki_99, ki_100, ki_101, ki_120, ki_255, ki_468, ki_1000, ki_1024, ki_13849, ki_25173, ki_65535, ki_65536, ki_100000, ki_100001, ki_2147483647, ki_2147483648, kl_0, kl_1, kl_2, kl_9223372036854775808, ki_add, ki_sub, ki_mul, ki_neg, kl_add, kl_sub, kl_mul, kl_neg, ki_i2l, kl_l2i, ki_lt, ki_le, ki_eq, kcmp_eq, kcmp_lt, kcmp_le, kcmp_gt, kcmp_ge, Option.bind_some, Option.map_some, kbool0, kbool1, if_pos, if_neg, if_true, if_false, Int.neg_neg, Int.sub_zero, Int.add_zero, Int.zero_add, true_and, and_true, false_and, and_false, false_or, or_false, true_or, or_true, ne_eq, not_false_eq_true, not_true_eq_false]
        exact f1
      · have v0 : vf N U W (moT N U W k) k 0 = 0 := if_neg hkN
        rw [v0] at f1
        simp (disch := omega) only [b_X12_laysTones_78, b_X12_laysTones_114, gz, kM.o15 hMz, s1, ki_0, ki_1, ki_2, ki_3, ki_4, ki_5, ki_6, ki_7, ki_8, ki_9, ki_10, ki_11, ki_12, ki_13, ki_18, ki_20, ki_24, ki_32, ki_36, ki_45, ki_47, ki_48, ki_50, ki_57, ki_60, ki_63, ki_99, ki_100, ki_101, ki_120, ki_255, ki_468, ki_1000, ki_1024, ki_13849, ki_25173, ki_65535, ki_65536, ki_100000, ki_100001, ki_2147483647, ki_2147483648, kl_0, kl_1, kl_2, kl_9223372036854775808, ki_add, ki_sub, ki_mul, ki_neg, kl_add, kl_sub, kl_mul, kl_neg, ki_i2l, kl_l2i, ki_lt, ki_le, ki_eq, kcmp_eq, kcmp_lt, kcmp_le, kcmp_gt, kcmp_ge, Option.bind_some, Option.map_some, kbool0, kbool1, if_pos, if_neg, if_true, if_false, Int.neg_neg, Int.sub_zero, Int.add_zero, Int.zero_add, true_and, and_true, false_and, and_false, false_or, or_false, true_or, or_true, ne_eq, not_false_eq_true, not_true_eq_false]
        exact f1
  have main2 : ∀ (ξ : jM) (U : Int → Int), kF 101 104 μ ξ → rowK ξ 101 (N + 1) U → rowK ξ 102 (((0 : Nat) : Int) + 1) (tp m 0) → ∃ ω, jit jF (fun (s : Int32 × jM) => b_X12_laysTones_46 Y 95 s.1 s.2) ((0 : Int32), ξ) = some ω ∧ kF 102 104 ξ ω ∧ rowK ω 102 N (tp m (N - 1).toNat) ∧ rowK ω 103 8 (moT N U (tp m (N - 1).toNat) 8) := by
    intro ξ U kξ tU t0
    refine jit_inv (f := fun (s : Int32 × jM) => b_X12_laysTones_46 Y 95 s.1 s.2) (fun i z => z.1 = ki i ∧ kF 102 104 ξ z.2 ∧ rowK z.2 102 ((i : Int) + 1) (tp m i)) _ (N - 1).toNat (s := ((0 : Int32), ξ)) ⟨rfl, kF.refl, t0⟩ (by omega) (fun i z hi hz => ?_)
    obtain ⟨v, ν⟩ := z
    obtain ⟨rfl, z1, z2⟩ := hz
    simp only [] at z1 z2
    have kz := kξ.trans (z1.mono (lo' := 101) (hi' := 104) (by omega) (by omega))
    have hMz := hM.to kz
    have gz := kM.g10 hMz
    rw [kz.gi (by omega), e0] at gz
    by_cases e : i = (N - 1).toNat
    · rw [e, show (((N - 1).toNat : Nat) : Int) + 1 = N by omega] at z2
      obtain ⟨ω, f1, f2, f3⟩ := main3 ν U (tp m (N - 1).toNat) kz (tU.to z1 (by omega)) z2
      refine ⟨.inr ω, ?_, z1.trans (f2.mono (by omega) (by omega)), z2.to f2 (by omega), f3⟩
      have E : b_X12_laysTones_46 Y 95 (ki i) ν = (jit jF (fun (s : Int32 × jM) => b_X12_laysTones_78 Y 95 s.1 s.2) ((0 : Int32), ν)).map (fun r => (.inr r)) := by
        simp (disch := omega) only [b_X12_laysTones_46, gz, ki_0, ki_1, ki_2, ki_3, ki_4, ki_5, ki_6, ki_7, ki_8, ki_9, ki_10, ki_11, ki_12, ki_13, ki_18, ki_20, ki_24, ki_32, ki_36, ki_45, ki_47, ki_48, ki_50, ki_57, ki_60, ki_63, ki_99, ki_100, ki_101, ki_120, ki_255, ki_468, ki_1000, ki_1024, ki_13849, ki_25173, ki_65535, ki_65536, ki_100000, ki_100001, ki_2147483647, ki_2147483648, kl_0, kl_1, kl_2, kl_9223372036854775808, ki_add, ki_sub, ki_mul, ki_neg, kl_add, kl_sub, kl_mul, kl_neg, ki_i2l, kl_l2i, ki_lt, ki_le, ki_eq, kcmp_eq, kcmp_lt, kcmp_le, kcmp_gt, kcmp_ge, Option.bind_some, Option.map_some, kbool0, kbool1, if_pos, if_neg, if_true, if_false, Int.neg_neg, Int.sub_zero, Int.add_zero, Int.zero_add, true_and, and_true, false_and, and_false, false_or, or_false, true_or, or_true, ne_eq, not_false_eq_true, not_true_eq_false]
      simp only [E, f1]
      rfl
    · have q1 := kaI (kM.a100 hMz) (x := (i : Int)) (by omega) (by omega)
      have b := hm i (by omega) (by omega)
      rw [kz.gi (by omega), b.1] at q1
      obtain ⟨ω, f1, f2, f3⟩ := X12_times (kM.a102 hMz) (i := i) (by omega) (l := m) b.2 z2
      refine ⟨.inl (ki ((i + 1 : Nat) : Int), ω), ?_, by omega, rfl, z1.trans (f2.mono (by omega) (by omega)), f3⟩
      simp (disch := omega) only [b_X12_laysTones_46, gz, kM.o14 hMz, kM.o12 hMz, q1, f1, ki_0, ki_1, ki_2, ki_3, ki_4, ki_5, ki_6, ki_7, ki_8, ki_9, ki_10, ki_11, ki_12, ki_13, ki_18, ki_20, ki_24, ki_32, ki_36, ki_45, ki_47, ki_48, ki_50, ki_57, ki_60, ki_63, ki_99, ki_100, ki_101, ki_120, ki_255, ki_468, ki_1000, ki_1024, ki_13849, ki_25173, ki_65535, ki_65536, ki_100000, ki_100001, ki_2147483647, ki_2147483648, kl_0, kl_1, kl_2, kl_9223372036854775808, ki_add, ki_sub, ki_mul, ki_neg, kl_add, kl_sub, kl_mul, kl_neg, ki_i2l, kl_l2i, ki_lt, ki_le, ki_eq, kcmp_eq, kcmp_lt, kcmp_le, kcmp_gt, kcmp_ge, Option.bind_some, Option.map_some, kbool0, kbool1, if_pos, if_neg, if_true, if_false, Int.neg_neg, Int.sub_zero, Int.add_zero, Int.zero_add, true_and, and_true, false_and, and_false, false_or, or_false, true_or, or_true, ne_eq, not_false_eq_true, not_true_eq_false, Int.natCast_add, Int.natCast_one]
  have k0 : kF 101 104 μ (jw μ 101 (0 : Int).toNat (.long (kl 1))) := kF_L ((kM.a101 hM).2.2.2 _ (by omega)) (by omega) (by omega)
  have s0 := fun v => kasL (v := v) (kM.a101 hM) (x := 0) (by omega) (by omega)
  have hM0 := hM.to k0
  have k1 : kF 101 104 (jw μ 101 (0 : Int).toNat (.long (kl 1))) (jw (jw μ 101 (0 : Int).toNat (.long (kl 1))) 102 (0 : Int).toNat (.long (kl 1))) := kF_L ((kM.a102 hM0).2.2.2 _ (by omega)) (by omega) (by omega)
  have s1 := fun v => kasL (v := v) (kM.a102 hM0) (x := 0) (by omega) (by omega)
  have t1 : rowK (jw (jw μ 101 (0 : Int).toNat (.long (kl 1))) 102 (0 : Int).toNat (.long (kl 1))) 101 (((0 : Nat) : Int) + 1) (tp l 0) := fun x x0 x1 => by
    have : x = 0 := by omega
    subst this
    rw [jw_ne _ _ (by omega), jw_same]
    rfl
  have t2 : rowK (jw (jw μ 101 (0 : Int).toNat (.long (kl 1))) 102 (0 : Int).toNat (.long (kl 1))) 102 (((0 : Nat) : Int) + 1) (tp m 0) := fun x x0 x1 => by
    have : x = 0 := by omega
    subst this
    rw [jw_same]
    rfl
  have k01 := k0.trans k1
  have F : f_X12_laysTones Y 95 μ = jit jF (fun (s : Int32 × jM) => b_X12_laysTones_16 Y 95 s.1 s.2) ((0 : Int32), jw (jw μ 101 (0 : Int).toNat (.long (kl 1))) 102 (0 : Int).toNat (.long (kl 1))) := by
    simp (disch := omega) only [f_X12_laysTones, kM.o13 hM, s0, kM.o14 hM0, s1, ki_0, ki_1, ki_2, ki_3, ki_4, ki_5, ki_6, ki_7, ki_8, ki_9, ki_10, ki_11, ki_12, ki_13, ki_18, ki_20, ki_24, ki_32, ki_36, ki_45, ki_47, ki_48, ki_50, ki_57, ki_60, ki_63, ki_99, ki_100, ki_101, ki_120, ki_255, ki_468, ki_1000, ki_1024, ki_13849, ki_25173, ki_65535, ki_65536, ki_100000, ki_100001, ki_2147483647, ki_2147483648, kl_0, kl_1, kl_2, kl_9223372036854775808, ki_add, ki_sub, ki_mul, ki_neg, kl_add, kl_sub, kl_mul, kl_neg, ki_i2l, kl_l2i, ki_lt, ki_le, ki_eq, kcmp_eq, kcmp_lt, kcmp_le, kcmp_gt, kcmp_ge, Option.bind_some, Option.map_some, kbool0, kbool1, if_pos, if_neg, if_true, if_false, Int.neg_neg, Int.sub_zero, Int.add_zero, Int.zero_add, true_and, and_true, false_and, and_false, false_or, or_false, true_or, or_true, ne_eq, not_false_eq_true, not_true_eq_false]
  rw [F]
  clear F s0 s1 k1
  generalize jw (jw μ 101 (0 : Int).toNat (.long (kl 1))) 102 (0 : Int).toNat (.long (kl 1)) = ξ at *
  refine jit_inv (f := fun (s : Int32 × jM) => b_X12_laysTones_16 Y 95 s.1 s.2) (fun i z => z.1 = ki i ∧ kF 101 104 μ z.2 ∧ rowK z.2 102 (((0 : Nat) : Int) + 1) (tp m 0) ∧ rowK z.2 101 ((i : Int) + 1) (tp l i)) _ N.toNat (s := ((0 : Int32), ξ)) ⟨rfl, k01, t2, t1⟩ (by omega) (fun i z hi hz => ?_)
  obtain ⟨v, ν⟩ := z
  obtain ⟨rfl, z1, z3, z2⟩ := hz
  simp only [] at z1 z2 z3
  have hMz := hM.to z1
  have gz := kM.g10 hMz
  rw [z1.gi (by omega), e0] at gz
  by_cases e : i = N.toNat
  · rw [e, show ((N.toNat : Nat) : Int) + 1 = N + 1 by omega] at z2
    obtain ⟨ω, f1, f2, f3, f4⟩ := main2 ν (tp l N.toNat) z1 z2 z3
    refine ⟨.inr ω, ?_, z1.trans (f2.mono (by omega) (by omega)), z2.to f2 (by omega), f3, f4⟩
    have E : b_X12_laysTones_16 Y 95 (ki i) ν = (jit jF (fun (s : Int32 × jM) => b_X12_laysTones_46 Y 95 s.1 s.2) ((0 : Int32), ν)).map (fun r => (.inr r)) := by
      simp (disch := omega) only [b_X12_laysTones_16, gz, ki_0, ki_1, ki_2, ki_3, ki_4, ki_5, ki_6, ki_7, ki_8, ki_9, ki_10, ki_11, ki_12, ki_13, ki_18, ki_20, ki_24, ki_32, ki_36, ki_45, ki_47, ki_48, ki_50, ki_57, ki_60, ki_63, ki_99, ki_100, ki_101, ki_120, ki_255, ki_468, ki_1000, ki_1024, ki_13849, ki_25173, ki_65535, ki_65536, ki_100000, ki_100001, ki_2147483647, ki_2147483648, kl_0, kl_1, kl_2, kl_9223372036854775808, ki_add, ki_sub, ki_mul, ki_neg, kl_add, kl_sub, kl_mul, kl_neg, ki_i2l, kl_l2i, ki_lt, ki_le, ki_eq, kcmp_eq, kcmp_lt, kcmp_le, kcmp_gt, kcmp_ge, Option.bind_some, Option.map_some, kbool0, kbool1, if_pos, if_neg, if_true, if_false, Int.neg_neg, Int.sub_zero, Int.add_zero, Int.zero_add, true_and, and_true, false_and, and_false, false_or, or_false, true_or, or_true, ne_eq, not_false_eq_true, not_true_eq_false]
    simp only [E, f1]
    rfl
  · have q1 := kaI (kM.a99 hMz) (x := (i : Int)) (by omega) (by omega)
    have b := hl i (by omega) (by omega)
    rw [z1.gi (by omega), b.1] at q1
    obtain ⟨ω, f1, f2, f3⟩ := X12_times (kM.a101 hMz) (i := i) (by omega) (l := l) b.2 z2
    refine ⟨.inl (ki ((i + 1 : Nat) : Int), ω), ?_, by omega, rfl, z1.trans (f2.mono (by omega) (by omega)), z3.to f2 (by omega), f3⟩
    simp (disch := omega) only [b_X12_laysTones_16, gz, kM.o13 hMz, kM.o11 hMz, q1, f1, ki_0, ki_1, ki_2, ki_3, ki_4, ki_5, ki_6, ki_7, ki_8, ki_9, ki_10, ki_11, ki_12, ki_13, ki_18, ki_20, ki_24, ki_32, ki_36, ki_45, ki_47, ki_48, ki_50, ki_57, ki_60, ki_63, ki_99, ki_100, ki_101, ki_120, ki_255, ki_468, ki_1000, ki_1024, ki_13849, ki_25173, ki_65535, ki_65536, ki_100000, ki_100001, ki_2147483647, ki_2147483648, kl_0, kl_1, kl_2, kl_9223372036854775808, ki_add, ki_sub, ki_mul, ki_neg, kl_add, kl_sub, kl_mul, kl_neg, ki_i2l, kl_l2i, ki_lt, ki_le, ki_eq, kcmp_eq, kcmp_lt, kcmp_le, kcmp_gt, kcmp_ge, Option.bind_some, Option.map_some, kbool0, kbool1, if_pos, if_neg, if_true, if_false, Int.neg_neg, Int.sub_zero, Int.add_zero, Int.zero_add, true_and, and_true, false_and, and_false, false_or, or_false, true_or, or_true, ne_eq, not_false_eq_true, not_true_eq_false, Int.natCast_add, Int.natCast_one]
/-- the tones' polynomials and moments, in both -/
theorem Inv.lays {L : Nat} {xs : Nat → Int32} {n : Nat} {Y : jY} {μ : jM} (h : Inv L xs n Y μ) (hN : gi μ 95 10 ≠ 0) : (∃ ν, f_X7_rebuild Y 27 10 μ = some ν ∧ kF 27 31 μ ν ∧ gi ν 27 0 = gi μ 95 10 ∧ rowK ν 28 (gi μ 95 10 + 1) (tp (gi μ 99) (gi μ 95 10).toNat) ∧ rowK ν 29 (gi μ 95 10) (tp (gi μ 100) (gi μ 95 10 - 1).toNat) ∧ rowK ν 30 8 (moT (gi μ 95 10) (tp (gi μ 99) (gi μ 95 10).toNat) (tp (gi μ 100) (gi μ 95 10 - 1).toNat) 8)) ∧ ∀ ν : jM, (∀ i, 95 ≤ i → i < 123 → ν i = μ i) → kM Y ν → ∃ ω, f_X12_laysTones Y 95 ν = some ω ∧ kF 101 104 ν ω ∧ rowK ω 101 (gi μ 95 10 + 1) (tp (gi μ 99) (gi μ 95 10).toNat) ∧ rowK ω 102 (gi μ 95 10) (tp (gi μ 100) (gi μ 95 10 - 1).toNat) ∧ rowK ω 103 8 (moT (gi μ 95 10) (tp (gi μ 99) (gi μ 95 10).toNat) (tp (gi μ 100) (gi μ 95 10 - 1).toNat) 8) := by
  obtain ⟨q1, q2, q3, q4, q5⟩ := h.q
  have R2 : ∀ x : Int, 0 ≤ x → x < gi μ 95 10 - 1 → -1000 ≤ gi μ 100 x ∧ gi μ 100 x ≤ 1000 := fun x a c => by have := q5 x a c; have := q4 x a (by omega); have := q4 (x + 1) (by omega) (by omega); omega
  refine ⟨X7_rebuild h.x q1 (by omega) q3 (fun x a b => by have := q4 x a b; omega) (fun x a b => ⟨(q5 x a b).1, R2 x a b⟩), fun ν hc hMν => ?_⟩
  exact X12_laysTones hMν (by rw [gi_cell (hc 95 (by omega) (by omega))]) (by omega) q3 (fun x a b => by rw [gi_cell (hc 99 (by omega) (by omega))]; have := q4 x a b; omega) (fun x a b => by rw [gi_cell (hc 100 (by omega) (by omega))]; exact ⟨rfl, R2 x a b⟩)
theorem kP.of_tones {μ ν : jM} (h : kF 101 104 μ ν) : kP μ ν := ⟨h.mono (by omega) (by omega), fun i hi => h.1 i (by unfold pers at hi; omega), by rw [h.1 95 (by omega)], by rw [h.1 95 (by omega)], by rw [h.1 95 (by omega)]⟩
