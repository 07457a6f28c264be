/-! OPS: undo -/
set_option maxHeartbeats 1000000 in
theorem X12_undo2 {Y : jY} {ζ : jM} (hM : kM Y ζ) {k : Int} (k0 : 0 ≤ k) (k8 : k < 8) : ∃ ν, jit jF (fun (s : Int32 × jM) => b_X12_undo_99 Y 95 (ki k) s.1 s.2) ((0 : Int32), ζ) = some (ki (gi ζ 95 25), ν) ∧ kF 109 111 ζ ν ∧ (∀ x, 0 ≤ x → x < 20 → gi ν 109 x = gi ζ 112 (20 * k + x)) ∧ ∀ x, 0 ≤ x → x < 20 → gi ν 110 x = gi ζ 113 (20 * k + x) := by
  obtain ⟨r, e, h1, h2, h3, h4⟩ := jit_inv (f := fun (s : Int32 × jM) => b_X12_undo_99 Y 95 (ki k) s.1 s.2) (fun i z => z.1 = ki i ∧ kF 109 111 ζ z.2 ∧ (∀ x : Int, 0 ≤ x → x < i → gi z.2 109 x = gi ζ 112 (20 * k + x)) ∧ ∀ x : Int, 0 ≤ x → x < i → gi z.2 110 x = gi ζ 113 (20 * k + x)) (fun r => r.1 = ki (gi ζ 95 25) ∧ kF 109 111 ζ r.2 ∧ (∀ x, 0 ≤ x → x < 20 → gi r.2 109 x = gi ζ 112 (20 * k + x)) ∧ ∀ x, 0 ≤ x → x < 20 → gi r.2 110 x = gi ζ 113 (20 * k + x)) 20 (s := ((0 : Int32), ζ)) ⟨rfl, kF.refl, fun x a b => by omega, fun x a b => by omega⟩ (by omega) (fun i z hi hz => by
    obtain ⟨v, ν⟩ := z
    obtain ⟨rfl, z1, z2, z3⟩ := hz
    simp only [] at z1 z2 z3
    have m1 := hM.to z1
    by_cases h4 : i = 20
    · refine ⟨.inr (ki (gi ζ 95 25), ν), ?_, rfl, z1, fun x a b => z2 x a (by omega), fun x a b => z3 x a (by omega)⟩
      have g := kM.g25 m1
      rw [z1.gi (by omega)] at g
      simp (disch := omega) only [b_X12_undo_99, g, ki_0, ki_1, ki_2, ki_3, ki_4, ki_5, ki_6, ki_7, ki_8, ki_9, ki_10, ki_11, ki_12, ki_13, ki_18, ki_20, ki_24, ki_32, ki_36, ki_45, ki_47, ki_48, ki_50, ki_57, ki_60, ki_63, ki_99, ki_100, ki_101, ki_120, ki_255, ki_468, ki_1000, ki_1024, ki_13849, ki_25173, ki_65535, ki_65536, ki_100000, ki_100001, ki_2147483647, ki_2147483648, kl_0, kl_1, kl_2, kl_9223372036854775808, ki_add, ki_sub, ki_mul, ki_neg, kl_add, kl_sub, kl_mul, kl_neg, ki_i2l, kl_l2i, ki_lt, ki_le, ki_eq, kcmp_eq, kcmp_lt, kcmp_le, kcmp_gt, kcmp_ge, Option.bind_some, Option.map_some, kbool0, kbool1, if_pos, if_neg, if_true, if_false, Int.neg_neg, Int.sub_zero, Int.add_zero, Int.zero_add, true_and, and_true, false_and, and_false, false_or, or_false, true_or, or_true, ne_eq, not_false_eq_true, not_true_eq_false]
    · have q1 := kaI (kM.a112 m1) (x := 20 * k + i) (by omega) (by omega)
      rw [z1.gi (by omega)] at q1
      have s1 := fun v => kasI (v := v) (kM.a109 m1) (x := (i : Int)) (by omega) (by omega)
      have kf1 : kF 109 111 ν (jw ν 109 i (.int (ki (gi ζ 112 (20 * k + i))))) := kF_I ((kM.a109 m1).2.2.2 i (by omega)) (by omega) (by omega)
      have m2 := m1.to kf1
      have q2 := kaI (kM.a113 m2) (x := 20 * k + i) (by omega) (by omega)
      rw [kf1.gi (by omega), z1.gi (by omega)] at q2
      have s2 := fun v => kasI (v := v) (kM.a110 m2) (x := (i : Int)) (by omega) (by omega)
      have kf2 : kF 109 111 (jw ν 109 i (.int (ki (gi ζ 112 (20 * k + i))))) (jw (jw ν 109 i (.int (ki (gi ζ 112 (20 * k + i))))) 110 i (.int (ki (gi ζ 113 (20 * k + i))))) := kF_I ((kM.a110 m2).2.2.2 i (by omega)) (by omega) (by omega)
      refine ⟨.inl (ki ((i + 1 : Nat) : Int), jw (jw ν 109 i (.int (ki (gi ζ 112 (20 * k + i))))) 110 i (.int (ki (gi ζ 113 (20 * k + i))))), ?_, by omega, rfl, (z1.trans kf1).trans kf2, fun x a b => ?_, fun x a b => ?_⟩
      · simp (disch := omega) only [b_X12_undo_99, kM.o27 m1, kM.o30 m1, q1, s1, Int.toNat_natCast, kM.o28 m2, kM.o31 m2, q2, s2, ki_0, ki_1, ki_2, ki_3, ki_4, ki_5, ki_6, ki_7, ki_8, ki_9, ki_10, ki_11, ki_12, ki_13, ki_18, ki_20, ki_24, ki_32, ki_36, ki_45, ki_47, ki_48, ki_50, ki_57, ki_60, ki_63, ki_99, ki_100, ki_101, ki_120, ki_255, ki_468, ki_1000, ki_1024, ki_13849, ki_25173, ki_65535, ki_65536, ki_100000, ki_100001, ki_2147483647, ki_2147483648, kl_0, kl_1, kl_2, kl_9223372036854775808, ki_add, ki_sub, ki_mul, ki_neg, kl_add, kl_sub, kl_mul, kl_neg, ki_i2l, kl_l2i, ki_lt, ki_le, ki_eq, kcmp_eq, kcmp_lt, kcmp_le, kcmp_gt, kcmp_ge, Option.bind_some, Option.map_some, kbool0, kbool1, if_pos, if_neg, if_true, if_false, Int.neg_neg, Int.sub_zero, Int.add_zero, Int.zero_add, true_and, and_true, false_and, and_false, false_or, or_false, true_or, or_true, ne_eq, not_false_eq_true, not_true_eq_false, Int.natCast_add, Int.natCast_one]
      · simp only []
        rw [gi_jw _ _ (gi_lo _ _ _) (gi_hi _ _ _), if_neg (by omega), gi_jw _ _ (gi_lo _ _ _) (gi_hi _ _ _)]
        by_cases g : x = i
        · rw [if_pos (by omega), g]
        · rw [if_neg (by omega)]
          exact z2 x a (by omega)
      · simp only []
        rw [gi_jw _ _ (gi_lo _ _ _) (gi_hi _ _ _)]
        by_cases g : x = i
        · rw [if_pos (by omega), g]
        · rw [if_neg (by omega), gi_jw _ _ (gi_lo _ _ _) (gi_hi _ _ _), if_neg (by omega)]
          exact z3 x a (by omega))
  obtain ⟨r1, r2⟩ := r
  simp only [] at h1
  subst h1
  exact ⟨r2, e, h2, h3, h4⟩
set_option maxHeartbeats 2000000 in
theorem X12_undo1 {Y : jY} {ξ : jM} (hM : kM Y ξ) {k : Int} (k0 : 0 ≤ k) (k8 : k < 8) : ∃ ν, jit jF (fun (s : Int32 × jM) => b_X12_undo_33 Y 95 (ki k) s.1 s.2) ((0 : Int32), ξ) = some (ki (gi ξ 95 25), ν) ∧ kF 99 111 ξ ν ∧ (∀ a, a ≠ 99 → a ≠ 100 → a ≠ 108 → a ≠ 109 → a ≠ 110 → ν a = ξ a) ∧ (∀ x, 0 ≤ x → x < 4 → gi ν 99 x = gi ξ 115 (4 * k + x)) ∧ (∀ x, 0 ≤ x → x < 4 → gi ν 108 x = gi ξ 111 (4 * k + x)) ∧ (∀ x, 0 ≤ x → x < 3 → gi ν 100 x = gi ξ 116 (3 * k + x)) ∧ (∀ x, 0 ≤ x → x < 20 → gi ν 109 x = gi ξ 112 (20 * k + x)) ∧ ∀ x, 0 ≤ x → x < 20 → gi ν 110 x = gi ξ 113 (20 * k + x) := by
  obtain ⟨r, e, h1, h2, h3, h4, h5, h6, h7⟩ := jit_inv (f := fun (s : Int32 × jM) => b_X12_undo_33 Y 95 (ki k) s.1 s.2) (fun i z => z.1 = ki i ∧ kF 99 109 ξ z.2 ∧ (∀ a, a ≠ 99 → a ≠ 100 → a ≠ 108 → z.2 a = ξ a) ∧ (∀ x : Int, 0 ≤ x → x < i → gi z.2 99 x = gi ξ 115 (4 * k + x)) ∧ (∀ x : Int, 0 ≤ x → x < i → gi z.2 108 x = gi ξ 111 (4 * k + x)) ∧ ∀ x : Int, 0 ≤ x → x < i → x < 3 → gi z.2 100 x = gi ξ 116 (3 * k + x))
    (fun r => r.1 = ki (gi ξ 95 25) ∧ kF 99 111 ξ r.2 ∧ (∀ a, a ≠ 99 → a ≠ 100 → a ≠ 108 → a ≠ 109 → a ≠ 110 → r.2 a = ξ a) ∧ (∀ x, 0 ≤ x → x < 4 → gi r.2 99 x = gi ξ 115 (4 * k + x)) ∧ (∀ x, 0 ≤ x → x < 4 → gi r.2 108 x = gi ξ 111 (4 * k + x)) ∧ (∀ x, 0 ≤ x → x < 3 → gi r.2 100 x = gi ξ 116 (3 * k + x)) ∧ (∀ x, 0 ≤ x → x < 20 → gi r.2 109 x = gi ξ 112 (20 * k + x)) ∧ ∀ x, 0 ≤ x → x < 20 → gi r.2 110 x = gi ξ 113 (20 * k + x)) 4 (s := ((0 : Int32), ξ)) ⟨rfl, kF.refl, fun _ _ _ _ => rfl, fun x a b => by omega, fun x a b => by omega, fun x a b => by omega⟩ (by omega) (fun i z hi hz => by
    obtain ⟨v, ν⟩ := z
    obtain ⟨rfl, z1, z2, z3, z4, z5⟩ := hz
    simp only [] at z1 z2 z3 z4 z5
    have m1 := hM.to z1
    by_cases h4 : i = 4
    · obtain ⟨ω, f1, f2, f3, f4⟩ := X12_undo2 m1 k0 k8
      refine ⟨.inr (ki (gi ξ 95 25), ω), ?_, rfl, (z1.mono (by omega) (by omega)).trans (f2.mono (by omega) (by omega)), fun a q1 q2 q3 q4 q5 => ?_, fun x a b => ?_, fun x a b => ?_, fun x a b => ?_, fun x a b => ?_, fun x a b => ?_⟩
      · have e : b_X12_undo_33 Y 95 (ki k) (ki i) ν = (jit jF (fun (s : Int32 × jM) => b_X12_undo_99 Y 95 (ki k) s.1 s.2) ((0 : Int32), ν)).map (fun r => (.inr r)) := by
          simp (disch := omega) only [b_X12_undo_33, ki_0, ki_1, ki_2, ki_3, ki_4, ki_5, ki_6, ki_7, ki_8, ki_9, ki_10, ki_11, ki_12, ki_13, ki_18, ki_20, ki_24, ki_32, ki_36, ki_45, ki_47, ki_48, ki_50, ki_57, ki_60, ki_63, ki_99, ki_100, ki_101, ki_120, ki_255, ki_468, ki_1000, ki_1024, ki_13849, ki_25173, ki_65535, ki_65536, ki_100000, ki_100001, ki_2147483647, ki_2147483648, kl_0, kl_1, kl_2, kl_9223372036854775808, ki_add, ki_sub, ki_mul, ki_neg, kl_add, kl_sub, kl_mul, kl_neg, ki_i2l, kl_l2i, ki_lt, ki_le, ki_eq, kcmp_eq, kcmp_lt, kcmp_le, kcmp_gt, kcmp_ge, Option.bind_some, Option.map_some, kbool0, kbool1, if_pos, if_neg, if_true, if_false, Int.neg_neg, Int.sub_zero, Int.add_zero, Int.zero_add, true_and, and_true, false_and, and_false, false_or, or_false, true_or, or_true, ne_eq, not_false_eq_true, not_true_eq_false]
        simp only [e, f1, gi_cell (z2 95 (by omega) (by omega) (by omega))]
        rfl
      · exact (f2.1 a (by omega)).trans (z2 a q1 q2 q3)
      · rw [f2.gi (by omega)]; exact z3 x a (by omega)
      · rw [f2.gi (by omega)]; exact z4 x a (by omega)
      · rw [f2.gi (by omega)]; exact z5 x a (by omega) b
      · rw [f3 x a b, gi_cell (z2 112 (by omega) (by omega) (by omega))]
      · rw [f4 x a b, gi_cell (z2 113 (by omega) (by omega) (by omega))]
    · have q1 := kaI (kM.a115 m1) (x := 4 * k + i) (by omega) (by omega)
      rw [gi_cell (z2 115 (by omega) (by omega) (by omega))] at q1
      have s1 := fun v => kasI (v := v) (kM.a99 m1) (x := (i : Int)) (by omega) (by omega)
      have kf1 : kF 99 109 ν (jw ν 99 i (.int (ki (gi ξ 115 (4 * k + i))))) := kF_I ((kM.a99 m1).2.2.2 i (by omega)) (by omega) (by omega)
      have m2 := m1.to kf1
      have w1 : ∀ a x, gi (jw ν 99 i (.int (ki (gi ξ 115 (4 * k + i))))) a x = if a = 99 ∧ x.toNat = i then gi ξ 115 (4 * k + i) else gi ν a x := fun a x => gi_jw _ _ (gi_lo _ _ _) (gi_hi _ _ _)
      have w1c : ∀ a, a ≠ 99 → jw ν 99 i (.int (ki (gi ξ 115 (4 * k + i)))) a = ν a := fun a h => jw_cell h
      simp (disch := omega) only [b_X12_undo_33, kM.o11 m1, kM.o33 m1, q1, s1, Int.toNat_natCast, ki_0, ki_1, ki_2, ki_3, ki_4, ki_5, ki_6, ki_7, ki_8, ki_9, ki_10, ki_11, ki_12, ki_13, ki_18, ki_20, ki_24, ki_32, ki_36, ki_45, ki_47, ki_48, ki_50, ki_57, ki_60, ki_63, ki_99, ki_100, ki_101, ki_120, ki_255, ki_468, ki_1000, ki_1024, ki_13849, ki_25173, ki_65535, ki_65536, ki_100000, ki_100001, ki_2147483647, ki_2147483648, kl_0, kl_1, kl_2, kl_9223372036854775808, ki_add, ki_sub, ki_mul, ki_neg, kl_add, kl_sub, kl_mul, kl_neg, ki_i2l, kl_l2i, ki_lt, ki_le, ki_eq, kcmp_eq, kcmp_lt, kcmp_le, kcmp_gt, kcmp_ge, Option.bind_some, Option.map_some, kbool0, kbool1, if_pos, if_neg, if_true, if_false, Int.neg_neg, Int.sub_zero, Int.add_zero, Int.zero_add, true_and, and_true, false_and, and_false, false_or, or_false, true_or, or_true, ne_eq, not_false_eq_true, not_true_eq_false]
      generalize jw ν 99 i (.int (ki (gi ξ 115 (4 * k + i)))) = ν2 at *
      have q2 := kaI (kM.a111 m2) (x := 4 * k + i) (by omega) (by omega)
      rw [gi_cell (w1c 111 (by omega)), gi_cell (z2 111 (by omega) (by omega) (by omega))] at q2
      have s2 := fun v => kasI (v := v) (kM.a108 m2) (x := (i : Int)) (by omega) (by omega)
      have kf2 : kF 99 109 ν2 (jw ν2 108 i (.int (ki (gi ξ 111 (4 * k + i))))) := kF_I ((kM.a108 m2).2.2.2 i (by omega)) (by omega) (by omega)
      have m3 := m2.to kf2
      have w2 : ∀ a x, gi (jw ν2 108 i (.int (ki (gi ξ 111 (4 * k + i))))) a x = if a = 108 ∧ x.toNat = i then gi ξ 111 (4 * k + i) else gi ν2 a x := fun a x => gi_jw _ _ (gi_lo _ _ _) (gi_hi _ _ _)
      have w2c : ∀ a, a ≠ 108 → jw ν2 108 i (.int (ki (gi ξ 111 (4 * k + i)))) a = ν2 a := fun a h => jw_cell h
      simp (disch := omega) only [kM.o26 m2, kM.o29 m2, q2, s2, Int.toNat_natCast, ki_0, ki_1, ki_2, ki_3, ki_4, ki_5, ki_6, ki_7, ki_8, ki_9, ki_10, ki_11, ki_12, ki_13, ki_18, ki_20, ki_24, ki_32, ki_36, ki_45, ki_47, ki_48, ki_50, ki_57, ki_60, ki_63, ki_99, ki_100, ki_101, ki_120, ki_255, ki_468, ki_1000, ki_1024, ki_13849, ki_25173, ki_65535, ki_65536, ki_100000, ki_100001, ki_2147483647, ki_2147483648, kl_0, kl_1, kl_2, kl_9223372036854775808, ki_add, ki_sub, ki_mul, ki_neg, kl_add, kl_sub, kl_mul, kl_neg, ki_i2l, kl_l2i, ki_lt, ki_le, ki_eq, kcmp_eq, kcmp_lt, kcmp_le, kcmp_gt, kcmp_ge, Option.bind_some, Option.map_some, kbool0, kbool1, if_pos, if_neg, if_true, if_false, Int.neg_neg, Int.sub_zero, Int.add_zero, Int.zero_add, true_and, and_true, false_and, and_false, false_or, or_false, true_or, or_true, ne_eq, not_false_eq_true, not_true_eq_false]
      generalize jw ν2 108 i (.int (ki (gi ξ 111 (4 * k + i)))) = ν3 at *
      by_cases g3 : 3 ≤ (i : Int)
      · refine ⟨.inl (ki ((i + 1 : Nat) : Int), ν3), ?_, by omega, rfl, (z1.trans kf1).trans kf2, fun a a1 a2 a3 => ?_, fun x a b => ?_, fun x a b => ?_, fun x a b c => ?_⟩
        · simp (disch := omega) only [b_X12_undo_91, ki_0, ki_1, ki_2, ki_3, ki_4, ki_5, ki_6, ki_7, ki_8, ki_9, ki_10, ki_11, ki_12, ki_13, ki_18, ki_20, ki_24, ki_32, ki_36, ki_45, ki_47, ki_48, ki_50, ki_57, ki_60, ki_63, ki_99, ki_100, ki_101, ki_120, ki_255, ki_468, ki_1000, ki_1024, ki_13849, ki_25173, ki_65535, ki_65536, ki_100000, ki_100001, ki_2147483647, ki_2147483648, kl_0, kl_1, kl_2, kl_9223372036854775808, ki_add, ki_sub, ki_mul, ki_neg, kl_add, kl_sub, kl_mul, kl_neg, ki_i2l, kl_l2i, ki_lt, ki_le, ki_eq, kcmp_eq, kcmp_lt, kcmp_le, kcmp_gt, kcmp_ge, Option.bind_some, Option.map_some, kbool0, kbool1, if_pos, if_neg, if_true, if_false, Int.neg_neg, Int.sub_zero, Int.add_zero, Int.zero_add, true_and, and_true, false_and, and_false, false_or, or_false, true_or, or_true, ne_eq, not_false_eq_true, not_true_eq_false, Int.natCast_add, Int.natCast_one]
        · simp only []; rw [w2c a (by omega), w1c a (by omega), z2 a a1 a2 a3]
        · simp only []
          rw [w2, if_neg (by omega), w1]
          by_cases g : x = i
          · rw [if_pos (by omega), g]
          · rw [if_neg (by omega)]; exact z3 x a (by omega)
        · simp only []
          rw [w2]
          by_cases g : x = i
          · rw [if_pos (by omega), g]
          · rw [if_neg (by omega), w1, if_neg (by omega)]; exact z4 x a (by omega)
        · simp only []
          rw [w2, if_neg (by omega), w1, if_neg (by omega)]
          exact z5 x a (by omega) c
      · have q3 := kaI (kM.a116 m3) (x := 3 * k + i) (by omega) (by omega)
        rw [gi_cell (w2c 116 (by omega)), gi_cell (w1c 116 (by omega)), gi_cell (z2 116 (by omega) (by omega) (by omega))] at q3
        have s3 := fun v => kasI (v := v) (kM.a100 m3) (x := (i : Int)) (by omega) (by omega)
        have kf3 : kF 99 109 ν3 (jw ν3 100 i (.int (ki (gi ξ 116 (3 * k + i))))) := kF_I ((kM.a100 m3).2.2.2 i (by omega)) (by omega) (by omega)
        have w3 : ∀ a x, gi (jw ν3 100 i (.int (ki (gi ξ 116 (3 * k + i))))) a x = if a = 100 ∧ x.toNat = i then gi ξ 116 (3 * k + i) else gi ν3 a x := fun a x => gi_jw _ _ (gi_lo _ _ _) (gi_hi _ _ _)
        have w3c : ∀ a, a ≠ 100 → jw ν3 100 i (.int (ki (gi ξ 116 (3 * k + i)))) a = ν3 a := fun a h => jw_cell h
        simp (disch := omega) only [kM.o12 m3, kM.o34 m3, q3, s3, Int.toNat_natCast, ki_0, ki_1, ki_2, ki_3, ki_4, ki_5, ki_6, ki_7, ki_8, ki_9, ki_10, ki_11, ki_12, ki_13, ki_18, ki_20, ki_24, ki_32, ki_36, ki_45, ki_47, ki_48, ki_50, ki_57, ki_60, ki_63, ki_99, ki_100, ki_101, ki_120, ki_255, ki_468, ki_1000, ki_1024, ki_13849, ki_25173, ki_65535, ki_65536, ki_100000, ki_100001, ki_2147483647, ki_2147483648, kl_0, kl_1, kl_2, kl_9223372036854775808, ki_add, ki_sub, ki_mul, ki_neg, kl_add, kl_sub, kl_mul, kl_neg, ki_i2l, kl_l2i, ki_lt, ki_le, ki_eq, kcmp_eq, kcmp_lt, kcmp_le, kcmp_gt, kcmp_ge, Option.bind_some, Option.map_some, kbool0, kbool1, if_pos, if_neg, if_true, if_false, Int.neg_neg, Int.sub_zero, Int.add_zero, Int.zero_add, true_and, and_true, false_and, and_false, false_or, or_false, true_or, or_true, ne_eq, not_false_eq_true, not_true_eq_false]
        generalize jw ν3 100 i (.int (ki (gi ξ 116 (3 * k + i)))) = ν4 at *
        refine ⟨.inl (ki ((i + 1 : Nat) : Int), ν4), ?_, by omega, rfl, ((z1.trans kf1).trans kf2).trans kf3, fun a a1 a2 a3 => ?_, fun x a b => ?_, fun x a b => ?_, fun x a b c => ?_⟩
        · simp (disch := omega) only [b_X12_undo_91, ki_0, ki_1, ki_2, ki_3, ki_4, ki_5, ki_6, ki_7, ki_8, ki_9, ki_10, ki_11, ki_12, ki_13, ki_18, ki_20, ki_24, ki_32, ki_36, ki_45, ki_47, ki_48, ki_50, ki_57, ki_60, ki_63, ki_99, ki_100, ki_101, ki_120, ki_255, ki_468, ki_1000, ki_1024, ki_13849, ki_25173, ki_65535, ki_65536, ki_100000, ki_100001, ki_2147483647, ki_2147483648, kl_0, kl_1, kl_2, kl_9223372036854775808, ki_add, ki_sub, ki_mul, ki_neg, kl_add, kl_sub, kl_mul, kl_neg, ki_i2l, kl_l2i, ki_lt, ki_le, ki_eq, kcmp_eq, kcmp_lt, kcmp_le, kcmp_gt, kcmp_ge, Option.bind_some, Option.map_some, kbool0, kbool1, if_pos, if_neg, if_true, if_false, Int.neg_neg, Int.sub_zero, Int.add_zero, Int.zero_add, true_and, and_true, false_and, and_false, false_or, or_false, true_or, or_true, ne_eq, not_false_eq_true, not_true_eq_false, Int.natCast_add, Int.natCast_one]
        · simp only []; rw [w3c a (by omega), w2c a (by omega), w1c a (by omega), z2 a a1 a2 a3]
        · simp only []
          rw [w3, if_neg (by omega), w2, if_neg (by omega), w1]
          by_cases g : x = i
          · rw [if_pos (by omega), g]
          · rw [if_neg (by omega)]; exact z3 x a (by omega)
        · simp only []
          rw [w3, if_neg (by omega), w2]
          by_cases g : x = i
          · rw [if_pos (by omega), g]
          · rw [if_neg (by omega), w1, if_neg (by omega)]; exact z4 x a (by omega)
        · simp only []
          rw [w3]
          by_cases g : x = i
          · rw [if_pos (by omega), g]
          · rw [if_neg (by omega), w2, if_neg (by omega), w1, if_neg (by omega)]
            exact z5 x a (by omega) c)
  obtain ⟨r1, r2⟩ := r
  simp only [] at h1
  subst h1
  exact ⟨r2, e, h2, h3, h4, h5, h6, h7⟩
set_option maxHeartbeats 2000000 in
theorem ok_undo {L : Nat} {xs : Nat → Int32} {n : Nat} {Y : jY} {μ : jM} (h : Inv L xs n Y μ) : so_undo (Inv L xs) n Y μ := by
  have hX := h.x
  have hM := h.m
  obtain ⟨⟨a1, a2⟩, a3, a4, ⟨s, s1, s2, s3, s4⟩, a5, a6, a7, a8, a9, a10⟩ := id h
  by_cases hc : gi μ 1 5 ≤ 0
  · refine ⟨(ki (-1), μ), (ki (-1), μ), ?_, fun _ => rfl, ?_, rfl, h⟩
    · simp (disch := omega) only [f_X11_undo, b_X11_undo_21, kX.g1_5 hX, ki_0, ki_1, ki_2, ki_3, ki_4, ki_5, ki_6, ki_7, ki_8, ki_9, ki_10, ki_11, ki_12, ki_13, ki_18, ki_20, ki_24, ki_32, ki_36, ki_45, ki_47, ki_48, ki_50, ki_57, ki_60, ki_63, ki_99, ki_100, ki_101, ki_120, ki_255, ki_468, ki_1000, ki_1024, ki_13849, ki_25173, ki_65535, ki_65536, ki_100000, ki_100001, ki_2147483647, ki_2147483648, kl_0, kl_1, kl_2, kl_9223372036854775808, ki_add, ki_sub, ki_mul, ki_neg, kl_add, kl_sub, kl_mul, kl_neg, ki_i2l, kl_l2i, ki_lt, ki_le, ki_eq, kcmp_eq, kcmp_lt, kcmp_le, kcmp_gt, kcmp_ge, Option.bind_some, Option.map_some, kbool0, kbool1, if_pos, if_neg, if_true, if_false, Int.neg_neg, Int.sub_zero, Int.add_zero, Int.zero_add, true_and, and_true, false_and, and_false, false_or, or_false, true_or, or_true, ne_eq, not_false_eq_true, not_true_eq_false]
    · simp (disch := omega) only [f_X12_undo, kM.g25 hM, ki_0, ki_1, ki_2, ki_3, ki_4, ki_5, ki_6, ki_7, ki_8, ki_9, ki_10, ki_11, ki_12, ki_13, ki_18, ki_20, ki_24, ki_32, ki_36, ki_45, ki_47, ki_48, ki_50, ki_57, ki_60, ki_63, ki_99, ki_100, ki_101, ki_120, ki_255, ki_468, ki_1000, ki_1024, ki_13849, ki_25173, ki_65535, ki_65536, ki_100000, ki_100001, ki_2147483647, ki_2147483648, kl_0, kl_1, kl_2, kl_9223372036854775808, ki_add, ki_sub, ki_mul, ki_neg, kl_add, kl_sub, kl_mul, kl_neg, ki_i2l, kl_l2i, ki_lt, ki_le, ki_eq, kcmp_eq, kcmp_lt, kcmp_le, kcmp_gt, kcmp_ge, Option.bind_some, Option.map_some, kbool0, kbool1, if_pos, if_neg, if_true, if_false, Int.neg_neg, Int.sub_zero, Int.add_zero, Int.zero_add, true_and, and_true, false_and, and_false, false_or, or_false, true_or, or_true, ne_eq, not_false_eq_true, not_true_eq_false]
  · obtain ⟨k, hk⟩ : ∃ k : Nat, (k : Int) = gi μ 1 5 - 1 := ⟨(gi μ 1 5 - 1).toNat, by omega⟩
    obtain ⟨u1, u2⟩ := s4.1 k (by omega)
    have u3 := a10 k (by omega)
    have qn : jaN Y μ 26 25 (ki k) = some false := by
      unfold jaN
      rw [hX.y26, if_pos rfl, kjix (by omega) (by show (k : Int) < ((8 : Nat) : Int); omega) (by decide), Option.bind_some, Int.toNat_natCast, u1]
      rfl
    have kν : kF 1 2 μ (jw μ 1 5 (.int (ki k))) := kF_I hX.i1_5 (by omega) (by omega)
    have w0 : gi (jw μ 1 5 (.int (ki k))) 1 5 = k := by rw [gi_jw _ _ (by omega) (by omega), if_pos ⟨rfl, rfl⟩]
    have w26 : jw μ 1 5 (.int (ki k)) 26 = μ 26 := jw_cell (by omega)
    have c1 := hX.g1_5
    rw [show gi μ 1 5 = (k : Int) + 1 from by omega] at c1
    have c2 := kX.p1 hX (μ2 := μ) (k := 5) (v := .int (ki k))
    have wc : ∀ a, a ≠ 1 → jw μ 1 5 (.int (ki k)) a = μ a := fun a h => jw_cell h
    generalize jw μ 1 5 (.int (ki k)) = ν at *
    have xν := hX.to kν
    have qo : jaO Y ν 26 25 (ki k) = some (123 + 17 * k) := by
      unfold jaO
      rw [hX.y26, if_pos rfl, kjix (by omega) (by show (k : Int) < ((8 : Nat) : Int); omega) (by decide), Option.bind_some, Int.toNat_natCast, w26, u1]
      rfl
    have c3 := xν.g1_5
    rw [w0] at c3
    obtain ⟨χ, e1, t1, t2, t3, t4, t5⟩ := X3_copy xν.now (u2.to kν) (by omega)
    have xχ := xν.to t1
    have c4 := xχ.g1_5
    rw [t1.gi (by omega), w0] at c4
    have kall : kF 0 123 μ χ := (kν.mono (by omega) (by omega)).trans (t1.mono (by omega) (by omega))
    have ec : ∀ a, a ≠ 1 → (a < 9 ∨ 26 ≤ a) → χ a = μ a := fun a q1 q2 => (t1.1 a (by omega)).trans (wc a q1)
    have mχ := hM.to kall
    have d1 := mχ.g25
    rw [gi_cell (ec 95 (by omega) (by omega)), ← a7, show gi μ 1 5 = (k : Int) + 1 from by omega] at d1
    have k2 : kF 95 96 χ (jw χ 95 25 (.int (ki k))) := kF_I mχ.i25 (by omega) (by omega)
    have m2 := mχ.to k2
    have d2 := kaI (kM.a114 m2) (x := (k : Int)) (by omega) (by omega)
    rw [k2.gi (by omega), gi_cell (ec 114 (by omega) (by omega))] at d2
    have k3 : kF 95 96 (jw χ 95 25 (.int (ki k))) (jw (jw χ 95 25 (.int (ki k))) 95 10 (.int (ki (gi μ 114 k)))) := kF_I m2.i10 (by omega) (by omega)
    have m3 := m2.to k3
    obtain ⟨ω, f1, f2, f3, f4, f5, f6, f7, f8⟩ := X12_undo1 m3 (k := (k : Int)) (by omega) (by omega)
    have g25 : gi (jw (jw χ 95 25 (.int (ki k))) 95 10 (.int (ki (gi μ 114 k)))) 95 25 = k := by
      rw [gi_jw _ _ (gi_lo _ _ _) (gi_hi _ _ _), if_neg (by omega), gi_jw _ _ (by omega) (by omega), if_pos ⟨rfl, rfl⟩]
    have g10 : gi (jw (jw χ 95 25 (.int (ki k))) 95 10 (.int (ki (gi μ 114 k)))) 95 10 = gi μ 114 k := by
      rw [gi_jw _ _ (gi_lo _ _ _) (gi_hi _ _ _), if_pos ⟨rfl, rfl⟩]
    have g1 : gi (jw (jw χ 95 25 (.int (ki k))) 95 10 (.int (ki (gi μ 114 k)))) 95 1 = gi μ 95 1 := by
      rw [gi_jw _ _ (gi_lo _ _ _) (gi_hi _ _ _), if_neg (by omega), gi_jw _ _ (by omega) (by omega), if_neg (by omega), gi_cell (ec 95 (by omega) (by omega))]
    have k4 : kF 95 96 χ (jw (jw χ 95 25 (.int (ki k))) 95 10 (.int (ki (gi μ 114 k)))) := k2.trans k3
    rw [g25] at f1
    have p1 := fun v => kM.p mχ (μ' := χ) (k := 25) (v := v)
    have p2 := fun v => kM.p mχ (μ' := jw χ 95 25 (.int (ki k))) (k := 10) (v := v)
    have fin1 : f_X11_undo Y 1 μ = some (ki k, χ) := by
      simp (disch := omega) only [f_X11_undo, c1, kX.o1_4 hX, Int.add_sub_cancel, qn, c2, kX.o1_3 xν, kX.o1_4 xν, c3, qo, krcv (kS.y xν.now), e1, c4, ki_0, ki_1, ki_2, ki_3, ki_4, ki_5, ki_6, ki_7, ki_8, ki_9, ki_10, ki_11, ki_12, ki_13, ki_18, ki_20, ki_24, ki_32, ki_36, ki_45, ki_47, ki_48, ki_50, ki_57, ki_60, ki_63, ki_99, ki_100, ki_101, ki_120, ki_255, ki_468, ki_1000, ki_1024, ki_13849, ki_25173, ki_65535, ki_65536, ki_100000, ki_100001, ki_2147483647, ki_2147483648, kl_0, kl_1, kl_2, kl_9223372036854775808, ki_add, ki_sub, ki_mul, ki_neg, kl_add, kl_sub, kl_mul, kl_neg, ki_i2l, kl_l2i, ki_lt, ki_le, ki_eq, kcmp_eq, kcmp_lt, kcmp_le, kcmp_gt, kcmp_ge, Option.bind_some, Option.map_some, kbool0, kbool1, if_pos, if_neg, if_true, if_false, Int.neg_neg, Int.sub_zero, Int.add_zero, Int.zero_add, true_and, and_true, false_and, and_false, false_or, or_false, true_or, or_true, ne_eq, not_false_eq_true, not_true_eq_false, Bool.false_eq_true]
    have fin2 : f_X12_undo Y 95 χ = some (ki k, ω) := by
      simp (disch := omega) only [f_X12_undo, d1, p1, p2, Int.add_sub_cancel, kM.o32 m2, d2, ki_0, ki_1, ki_2, ki_3, ki_4, ki_5, ki_6, ki_7, ki_8, ki_9, ki_10, ki_11, ki_12, ki_13, ki_18, ki_20, ki_24, ki_32, ki_36, ki_45, ki_47, ki_48, ki_50, ki_57, ki_60, ki_63, ki_99, ki_100, ki_101, ki_120, ki_255, ki_468, ki_1000, ki_1024, ki_13849, ki_25173, ki_65535, ki_65536, ki_100000, ki_100001, ki_2147483647, ki_2147483648, kl_0, kl_1, kl_2, kl_9223372036854775808, ki_add, ki_sub, ki_mul, ki_neg, kl_add, kl_sub, kl_mul, kl_neg, ki_i2l, kl_l2i, ki_lt, ki_le, ki_eq, kcmp_eq, kcmp_lt, kcmp_le, kcmp_gt, kcmp_ge, Option.bind_some, Option.map_some, kbool0, kbool1, if_pos, if_neg, if_true, if_false, Int.neg_neg, Int.sub_zero, Int.add_zero, Int.zero_add, true_and, and_true, false_and, and_false, false_or, or_false, true_or, or_true, ne_eq, not_false_eq_true, not_true_eq_false]
      exact f1
    have ez : ∀ a, a ≠ 1 → (a < 9 ∨ 26 ≤ a) → a ≠ 95 → a ≠ 99 → a ≠ 100 → a ≠ 108 → a ≠ 109 → a ≠ 110 → ω a = μ a := fun a q1 q2 q3 q4 q5 q6 q7 q8 => ((f3 a q4 q5 q6 q7 q8).trans (k4.1 a (by omega))).trans (ec a q1 q2)
    have e9 : ∀ a, a < 26 → ω a = χ a := fun a q => (f3 a (by omega) (by omega) (by omega) (by omega) (by omega)).trans (k4.1 a (by omega))
    have e95 : ω 95 = jw (jw χ 95 25 (.int (ki k))) 95 10 (.int (ki (gi μ 114 k))) 95 := f3 95 (by omega) (by omega) (by omega) (by omega) (by omega)
    have kfin : kF 0 123 μ ω := (kall.trans (k4.mono (by omega) (by omega))).trans (f2.mono (by omega) (by omega))
    have es : ∀ a, 111 ≤ a → a < 123 → gi (jw (jw χ 95 25 (.int (ki k))) 95 10 (.int (ki (gi μ 114 k)))) a = gi μ a := fun a q1 q2 => funext fun x => by rw [k4.gi (by omega), gi_cell (ec a (by omega) (by omega))]
    rw [es 115 (by omega) (by omega)] at f4
    rw [es 111 (by omega) (by omega)] at f5
    rw [es 116 (by omega) (by omega)] at f6
    rw [es 112 (by omega) (by omega)] at f7
    rw [es 113 (by omega) (by omega)] at f8
    have w15 : gi ω 1 5 = k := by rw [gi_cell (e9 1 (by omega)), t1.gi (by omega), w0]
    refine ⟨(ki k, χ), (ki k, ω), fin1, fun j => congrFun (ec 0 (by omega) (by omega)) j, fin2, rfl, ?_⟩
    have z0 : ω 0 = μ 0 := ez 0 (by omega) (by omega) (by omega) (by omega) (by omega) (by omega) (by omega) (by omega)
    have hI : Inv L xs n Y ω := by
     refine ⟨⟨a1, fun j hj => by rw [z0]; exact a2 j hj⟩, a3.to kfin, a4.to kfin, ⟨s, s1, s2, by rw [w15]; omega, s4.to kfin⟩, ?_, ?_, ?_, by rw [w15]; omega, by rw [w15]; omega, fun j hj => ?_⟩
     · unfold relP
       rw [gi_cell (ez 2 (by omega) (by omega) (by omega) (by omega) (by omega) (by omega) (by omega) (by omega)), gi_cell e95, g1]
       refine ⟨a5.1, a5.2.1, a5.2.2.1, fun x x0 x1 => ?_⟩
       rw [gi_cell (ez 3 (by omega) (by omega) (by omega) (by omega) (by omega) (by omega) (by omega) (by omega)), gi_cell (ez 96 (by omega) (by omega) (by omega) (by omega) (by omega) (by omega) (by omega) (by omega))]
       exact a5.2.2.2 x x0 x1
     · obtain ⟨r1, r2, r3, r4, r5, r6⟩ := u3
       have eχ : ∀ a, 123 ≤ a → ∀ x, gi ν a x = gi μ a x := fun a q x => gi_cell (wc a (by omega)) x
       have e10 : gi ω 95 10 = gi μ 114 k := by rw [gi_cell e95, g10]
       unfold relN relS
       rw [e10]
       refine ⟨?_, r2, r3, fun x x0 x1 => ?_, fun x x0 x1 => ?_, fun d hd => ?_⟩
       · rw [gi_cell (e9 _ (by omega)), t2, eχ _ (by omega)]; exact r1
       · rw [gi_cell (e9 _ (by omega)), t3 x x0 (by omega), eχ _ (by omega), f4 x x0 (by omega)]; exact r4 x x0 x1
       · rw [gi_cell (e9 _ (by omega)), t4 x x0 (by omega), eχ _ (by omega), f6 x x0 (by omega), f4 x x0 (by omega), f4 (x + 1) (by omega) (by omega)]; exact r5 x x0 x1
       · obtain ⟨v1, v2, v3, v4, v5⟩ := r6 d hd
         obtain ⟨y1, y2, y3⟩ := t5 d hd
         simp only [] at v1 v2 v3 v4 v5
         unfold relT
         rw [f5 d (by omega) (by omega)]
         refine ⟨?_, v2, v3, fun x x0 x1 => ?_, fun x x0 x1 => ?_⟩
         · rw [gi_cell (e9 _ (by omega)), y1, eχ _ (by omega)]; exact v1
         · have b := v4 x x0 x1
           have g7 := f7 (5 * (d : Int) + x) (by omega) (by omega)
           rw [gi_cell (e9 _ (by omega)), y2 x x0 (by omega), eχ _ (by omega)]
           simp only []
           rw [g7]
           exact b
         · have b := v5 x x0 x1
           have g7 := f8 (5 * (d : Int) + x) (by omega) (by omega)
           rw [gi_cell (e9 _ (by omega)), y3 x x0 (by omega), eχ _ (by omega)]
           simp only []
           rw [g7]
           exact b
     · rw [w15, gi_cell e95, g25]
     · rw [w15] at hj
       have q := a10 j (by omega)
       exact q.to (fun i p => ez i (by omega) (by omega) (by omega) (by omega) (by omega) (by omega) (by omega) (by omega)) (fun i p q => ez i (by omega) (by omega) (by omega) (by omega) (by omega) (by omega) (by omega) (by omega))
    exact hI
