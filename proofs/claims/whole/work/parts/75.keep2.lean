/-! OPS: keep -/
set_option maxHeartbeats 1000000 in
theorem X12_keep2 {Y : jY} {ζ : jM} (hM : kM Y ζ) {k : Int} (k0 : 0 ≤ k) (k8 : k < 8) : ∃ ν, jit jF (fun (s : Int32 × jM) => b_X12_keep_101 Y 95 (ki k) s.1 s.2) ((0 : Int32), ζ) = some (ki (gi ζ 95 25), ν) ∧ kF 112 114 ζ ν ∧ (∀ x : Int, 0 ≤ x → gi ν 112 x = if 20 * k ≤ x ∧ x < 20 * k + 20 then gi ζ 109 (x - 20 * k) else gi ζ 112 x) ∧ ∀ x : Int, 0 ≤ x → gi ν 113 x = if 20 * k ≤ x ∧ x < 20 * k + 20 then gi ζ 110 (x - 20 * k) else gi ζ 113 x := by
  obtain ⟨r, e, h1, h2, h3, h4⟩ := jit_inv (f := fun (s : Int32 × jM) => b_X12_keep_101 Y 95 (ki k) s.1 s.2) (fun i z => z.1 = ki i ∧ kF 112 114 ζ z.2 ∧ (∀ x : Int, 0 ≤ x → gi z.2 112 x = if 20 * k ≤ x ∧ x < 20 * k + i then gi ζ 109 (x - 20 * k) else gi ζ 112 x) ∧ ∀ x : Int, 0 ≤ x → gi z.2 113 x = if 20 * k ≤ x ∧ x < 20 * k + i then gi ζ 110 (x - 20 * k) else gi ζ 113 x) (fun r => r.1 = ki (gi ζ 95 25) ∧ kF 112 114 ζ r.2 ∧ (∀ x : Int, 0 ≤ x → gi r.2 112 x = if 20 * k ≤ x ∧ x < 20 * k + 20 then gi ζ 109 (x - 20 * k) else gi ζ 112 x) ∧ ∀ x : Int, 0 ≤ x → gi r.2 113 x = if 20 * k ≤ x ∧ x < 20 * k + 20 then gi ζ 110 (x - 20 * k) else gi ζ 113 x) 20 (s := ((0 : Int32), ζ)) ⟨rfl, kF.refl, fun x a => by rw [if_neg (by omega)], fun x a => by rw [if_neg (by omega)]⟩ (by omega) (fun i z hi hz => by
    obtain ⟨v, ν⟩ := z
    obtain ⟨rfl, z1, z2, z3⟩ := hz
    simp only [] at z1 z2 z3
    have m1 := hM.to z1
    by_cases h4 : i = 20
    · subst h4
      refine ⟨.inr (ki (gi ζ 95 25), ν), ?_, rfl, z1, z2, z3⟩
      have g := kM.g25 m1
      rw [z1.gi (by omega)] at g
      simp (disch := omega) only [b_X12_keep_101, g, ki_0, ki_1, ki_2, ki_3, ki_4, ki_5, ki_6, ki_7, ki_8, ki_9, ki_10, ki_11, ki_12, ki_13, ki_18, ki_20, ki_24, ki_32, ki_36, ki_45, ki_47, ki_48, ki_50, ki_57, ki_60, ki_63, ki_99, ki_100, ki_101, ki_120, ki_255, ki_468, ki_1000, ki_1024, ki_13849, ki_25173, ki_65535, ki_65536, ki_100000, ki_100001, ki_2147483647, ki_2147483648, kl_0, kl_1, kl_2, kl_9223372036854775808, ki_add, ki_sub, ki_mul, ki_neg, kl_add, kl_sub, kl_mul, kl_neg, ki_i2l, kl_l2i, ki_lt, ki_le, ki_eq, kcmp_eq, kcmp_lt, kcmp_le, kcmp_gt, kcmp_ge, Option.bind_some, Option.map_some, kbool0, kbool1, if_pos, if_neg, if_true, if_false, Int.neg_neg, Int.sub_zero, Int.add_zero, Int.zero_add, true_and, and_true, false_and, and_false, false_or, or_false, true_or, or_true, ne_eq, not_false_eq_true, not_true_eq_false]
    · have q1 := kaI (kM.a109 m1) (x := (i : Int)) (by omega) (by omega)
      rw [z1.gi (by omega)] at q1
      have s1 := fun v => kasI (v := v) (kM.a112 m1) (x := 20 * k + i) (by omega) (by omega)
      have kf1 : kF 112 114 ν (jw ν 112 (20 * k + i).toNat (.int (ki (gi ζ 109 i)))) := kF_I ((kM.a112 m1).2.2.2 _ (by omega)) (by omega) (by omega)
      have m2 := m1.to kf1
      have q2 := kaI (kM.a110 m2) (x := (i : Int)) (by omega) (by omega)
      rw [kf1.gi (by omega), z1.gi (by omega)] at q2
      have s2 := fun v => kasI (v := v) (kM.a113 m2) (x := 20 * k + i) (by omega) (by omega)
      have kf2 : kF 112 114 (jw ν 112 (20 * k + i).toNat (.int (ki (gi ζ 109 i)))) (jw (jw ν 112 (20 * k + i).toNat (.int (ki (gi ζ 109 i)))) 113 (20 * k + i).toNat (.int (ki (gi ζ 110 i)))) := kF_I ((kM.a113 m2).2.2.2 _ (by omega)) (by omega) (by omega)
      refine ⟨.inl (ki ((i + 1 : Nat) : Int), jw (jw ν 112 (20 * k + i).toNat (.int (ki (gi ζ 109 i)))) 113 (20 * k + i).toNat (.int (ki (gi ζ 110 i)))), ?_, by omega, rfl, (z1.trans kf1).trans kf2, fun x a => ?_, fun x a => ?_⟩
      · simp (disch := omega) only [b_X12_keep_101, kM.o27 m1, kM.o30 m1, q1, s1, kM.o28 m2, kM.o31 m2, q2, s2, ki_0, ki_1, ki_2, ki_3, ki_4, ki_5, ki_6, ki_7, ki_8, ki_9, ki_10, ki_11, ki_12, ki_13, ki_18, ki_20, ki_24, ki_32, ki_36, ki_45, ki_47, ki_48, ki_50, ki_57, ki_60, ki_63, ki_99, ki_100, ki_101, ki_120, ki_255, ki_468, ki_1000, ki_1024, ki_13849, ki_25173, ki_65535, ki_65536, ki_100000, ki_100001, ki_2147483647, ki_2147483648, kl_0, kl_1, kl_2, kl_9223372036854775808, ki_add, ki_sub, ki_mul, ki_neg, kl_add, kl_sub, kl_mul, kl_neg, ki_i2l, kl_l2i, ki_lt, ki_le, ki_eq, kcmp_eq, kcmp_lt, kcmp_le, kcmp_gt, kcmp_ge, Option.bind_some, Option.map_some, kbool0, kbool1, if_pos, if_neg, if_true, if_false, Int.neg_neg, Int.sub_zero, Int.add_zero, Int.zero_add, true_and, and_true, false_and, and_false, false_or, or_false, true_or, or_true, ne_eq, not_false_eq_true, not_true_eq_false, Int.natCast_add, Int.natCast_one]
      · simp only []
        rw [gi_jw _ _ (gi_lo _ _ _) (gi_hi _ _ _), if_neg (by omega), gi_jw _ _ (gi_lo _ _ _) (gi_hi _ _ _)]
        by_cases g : x = 20 * k + i
        · rw [if_pos (by omega), if_pos (by omega), show x - 20 * k = i by omega]
        · rw [if_neg (by omega), z2 x a]
          by_cases g2 : 20 * k ≤ x ∧ x < 20 * k + i
          · rw [if_pos g2, if_pos (by omega)]
          · rw [if_neg g2, if_neg (by omega)]
      · simp only []
        rw [gi_jw _ _ (gi_lo _ _ _) (gi_hi _ _ _)]
        by_cases g : x = 20 * k + i
        · rw [if_pos (by omega), if_pos (by omega), show x - 20 * k = i by omega]
        · rw [if_neg (by omega), gi_jw _ _ (gi_lo _ _ _) (gi_hi _ _ _), if_neg (by omega), z3 x a]
          by_cases g2 : 20 * k ≤ x ∧ x < 20 * k + i
          · rw [if_pos g2, if_pos (by omega)]
          · rw [if_neg g2, if_neg (by omega)])
  obtain ⟨r1, r2⟩ := r
  simp only [] at h1
  subst h1
  exact ⟨r2, e, h2, h3, h4⟩
set_option maxHeartbeats 2000000 in
theorem X12_keep1 {Y : jY} {ξ : jM} (hM : kM Y ξ) {k : Int} (k0 : 0 ≤ k) (k8 : k < 8) : ∃ ν, jit jF (fun (s : Int32 × jM) => b_X12_keep_35 Y 95 (ki k) s.1 s.2) ((0 : Int32), ξ) = some (ki (gi ξ 95 25), ν) ∧ kF 111 117 ξ ν ∧ ν 114 = ξ 114 ∧ (∀ x : Int, 0 ≤ x → gi ν 115 x = if 4 * k ≤ x ∧ x < 4 * k + 4 then gi ξ 99 (x - 4 * k) else gi ξ 115 x) ∧ (∀ x : Int, 0 ≤ x → gi ν 111 x = if 4 * k ≤ x ∧ x < 4 * k + 4 then gi ξ 108 (x - 4 * k) else gi ξ 111 x) ∧ (∀ x : Int, 0 ≤ x → gi ν 116 x = if 3 * k ≤ x ∧ x < 3 * k + 3 then gi ξ 100 (x - 3 * k) else gi ξ 116 x) ∧ (∀ x : Int, 0 ≤ x → gi ν 112 x = if 20 * k ≤ x ∧ x < 20 * k + 20 then gi ξ 109 (x - 20 * k) else gi ξ 112 x) ∧ ∀ x : Int, 0 ≤ x → gi ν 113 x = if 20 * k ≤ x ∧ x < 20 * k + 20 then gi ξ 110 (x - 20 * k) else gi ξ 113 x := by
  obtain ⟨r, e, h1, h2⟩ := jit_inv (f := fun (s : Int32 × jM) => b_X12_keep_35 Y 95 (ki k) s.1 s.2) (fun i z => z.1 = ki i ∧ kF 111 117 ξ z.2 ∧ z.2 112 = ξ 112 ∧ z.2 113 = ξ 113 ∧ z.2 114 = ξ 114 ∧ (∀ x : Int, 0 ≤ x → gi z.2 115 x = if 4 * k ≤ x ∧ x < 4 * k + i then gi ξ 99 (x - 4 * k) else gi ξ 115 x) ∧ (∀ x : Int, 0 ≤ x → gi z.2 111 x = if 4 * k ≤ x ∧ x < 4 * k + i then gi ξ 108 (x - 4 * k) else gi ξ 111 x) ∧ ∀ x : Int, 0 ≤ x → gi z.2 116 x = if 3 * k ≤ x ∧ x < 3 * k + i ∧ x < 3 * k + 3 then gi ξ 100 (x - 3 * k) else gi ξ 116 x)
    (fun r => r.1 = ki (gi ξ 95 25) ∧ kF 111 117 ξ r.2 ∧ r.2 114 = ξ 114 ∧ (∀ x : Int, 0 ≤ x → gi r.2 115 x = if 4 * k ≤ x ∧ x < 4 * k + 4 then gi ξ 99 (x - 4 * k) else gi ξ 115 x) ∧ (∀ x : Int, 0 ≤ x → gi r.2 111 x = if 4 * k ≤ x ∧ x < 4 * k + 4 then gi ξ 108 (x - 4 * k) else gi ξ 111 x) ∧ (∀ x : Int, 0 ≤ x → gi r.2 116 x = if 3 * k ≤ x ∧ x < 3 * k + 3 then gi ξ 100 (x - 3 * k) else gi ξ 116 x) ∧ (∀ x : Int, 0 ≤ x → gi r.2 112 x = if 20 * k ≤ x ∧ x < 20 * k + 20 then gi ξ 109 (x - 20 * k) else gi ξ 112 x) ∧ ∀ x : Int, 0 ≤ x → gi r.2 113 x = if 20 * k ≤ x ∧ x < 20 * k + 20 then gi ξ 110 (x - 20 * k) else gi ξ 113 x) 4 (s := ((0 : Int32), ξ)) ⟨rfl, kF.refl, rfl, rfl, rfl, fun x a => by rw [if_neg (by omega)], fun x a => by rw [if_neg (by omega)], fun x a => by rw [if_neg (by omega)]⟩ (by omega) (fun i z hi hz => by
    obtain ⟨v, ν⟩ := z
    obtain ⟨rfl, z1, y1, y2, y3, z2, z3, z4⟩ := hz
    simp only [] at z1 y1 y2 y3 z2 z3 z4
    have m1 := hM.to z1
    by_cases h4 : i = 4
    · subst h4
      obtain ⟨ω, f1, f2, f3, f4⟩ := X12_keep2 m1 k0 k8
      refine ⟨.inr (ki (gi ξ 95 25), ω), ?_, rfl, z1.trans (f2.mono (by omega) (by omega)), (f2.1 114 (by omega)).trans y3, fun x a => (f2.gi (by omega) x).trans (z2 x a), fun x a => (f2.gi (by omega) x).trans (z3 x a), fun x a => ?_, fun x a => by simp only []; rw [f3 x a, z1.gi (by omega), gi_cell y1], fun x a => by simp only []; rw [f4 x a, z1.gi (by omega), gi_cell y2]⟩
      · have e : b_X12_keep_35 Y 95 (ki k) (ki ((4 : Nat) : Int)) ν = (jit jF (fun (s : Int32 × jM) => b_X12_keep_101 Y 95 (ki k) s.1 s.2) ((0 : Int32), ν)).map (fun r => (.inr r)) := rfl
        rw [z1.gi (by omega)] at f1
        simp only [e, f1]
        rfl
      · simp only []
        rw [f2.gi (by omega), z4 x a]
        by_cases g : 3 * k ≤ x ∧ x < 3 * k + 3
        · rw [if_pos g, if_pos (by omega)]
        · rw [if_neg g, if_neg (by omega)]
    · have q1 := kaI (kM.a99 m1) (x := (i : Int)) (by omega) (by omega)
      rw [z1.gi (by omega)] at q1
      have s1 := fun v => kasI (v := v) (kM.a115 m1) (x := 4 * k + i) (by omega) (by omega)
      have kf1 : kF 111 117 ν (jw ν 115 (4 * k + i).toNat (.int (ki (gi ξ 99 i)))) := kF_I ((kM.a115 m1).2.2.2 _ (by omega)) (by omega) (by omega)
      have m2 := m1.to kf1
      have q2 := kaI (kM.a108 m2) (x := (i : Int)) (by omega) (by omega)
      rw [kf1.gi (by omega), z1.gi (by omega)] at q2
      have s2 := fun v => kasI (v := v) (kM.a111 m2) (x := 4 * k + i) (by omega) (by omega)
      have kf2 : kF 111 117 (jw ν 115 (4 * k + i).toNat (.int (ki (gi ξ 99 i)))) (jw (jw ν 115 (4 * k + i).toNat (.int (ki (gi ξ 99 i)))) 111 (4 * k + i).toNat (.int (ki (gi ξ 108 i)))) := kF_I ((kM.a111 m2).2.2.2 _ (by omega)) (by omega) (by omega)
      have m3 := m2.to kf2
      have kf12 := kf1.trans kf2
      have v115 : ∀ x : Int, 0 ≤ x → gi (jw (jw ν 115 (4 * k + i).toNat (.int (ki (gi ξ 99 i)))) 111 (4 * k + i).toNat (.int (ki (gi ξ 108 i)))) 115 x = if 4 * k ≤ x ∧ x < 4 * k + ((i + 1 : Nat) : Int) then gi ξ 99 (x - 4 * k) else gi ξ 115 x := by
        intro x a
        rw [gi_jw _ _ (gi_lo _ _ _) (gi_hi _ _ _), if_neg (by omega), gi_jw _ _ (gi_lo _ _ _) (gi_hi _ _ _)]
        by_cases g : x = 4 * k + i
        · rw [if_pos (by omega), if_pos (by omega), show x - 4 * k = i by omega]
        · rw [if_neg (by omega), z2 x a]
          by_cases g2 : 4 * k ≤ x ∧ x < 4 * k + i
          · rw [if_pos g2, if_pos (by omega)]
          · rw [if_neg g2, if_neg (by omega)]
      have v111 : ∀ x : Int, 0 ≤ x → gi (jw (jw ν 115 (4 * k + i).toNat (.int (ki (gi ξ 99 i)))) 111 (4 * k + i).toNat (.int (ki (gi ξ 108 i)))) 111 x = if 4 * k ≤ x ∧ x < 4 * k + ((i + 1 : Nat) : Int) then gi ξ 108 (x - 4 * k) else gi ξ 111 x := by
        intro x a
        rw [gi_jw _ _ (gi_lo _ _ _) (gi_hi _ _ _)]
        by_cases g : x = 4 * k + i
        · rw [if_pos (by omega), if_pos (by omega), show x - 4 * k = i by omega]
        · rw [if_neg (by omega), gi_jw _ _ (gi_lo _ _ _) (gi_hi _ _ _), if_neg (by omega), z3 x a]
          by_cases g2 : 4 * k ≤ x ∧ x < 4 * k + i
          · rw [if_pos g2, if_pos (by omega)]
          · rw [if_neg g2, if_neg (by omega)]
      have v116 : ∀ x : Int, gi (jw (jw ν 115 (4 * k + i).toNat (.int (ki (gi ξ 99 i)))) 111 (4 * k + i).toNat (.int (ki (gi ξ 108 i)))) 116 x = gi ν 116 x := fun x => by
        rw [gi_jw _ _ (gi_lo _ _ _) (gi_hi _ _ _), if_neg (by omega), gi_jw _ _ (gi_lo _ _ _) (gi_hi _ _ _), if_neg (by omega)]
      have c12 : ∀ a, a ≠ 115 → a ≠ 111 → jw (jw ν 115 (4 * k + i).toNat (.int (ki (gi ξ 99 i)))) 111 (4 * k + i).toNat (.int (ki (gi ξ 108 i))) a = ν a := fun a p q => by rw [jw_cell (by omega), jw_cell (by omega)]
      have q3 := kaI (kM.a100 m3) (x := (i : Int))
      have s3 := fun v => kasI (v := v) (kM.a116 m3) (x := 3 * k + i)
      by_cases h3 : i = 3
      · refine ⟨.inl (ki ((i + 1 : Nat) : Int), jw (jw ν 115 (4 * k + i).toNat (.int (ki (gi ξ 99 i)))) 111 (4 * k + i).toNat (.int (ki (gi ξ 108 i)))), ?_, by omega, rfl, z1.trans kf12, ?_, ?_, ?_, v115, v111, fun x a => ?_⟩
        · simp (disch := omega) only [b_X12_keep_35, b_X12_keep_93, kM.o11 m1, kM.o33 m1, q1, s1, kM.o26 m2, kM.o29 m2, q2, s2, ki_0, ki_1, ki_2, ki_3, ki_4, ki_5, ki_6, ki_7, ki_8, ki_9, ki_10, ki_11, ki_12, ki_13, ki_18, ki_20, ki_24, ki_32, ki_36, ki_45, ki_47, ki_48, ki_50, ki_57, ki_60, ki_63, ki_99, ki_100, ki_101, ki_120, ki_255, ki_468, ki_1000, ki_1024, ki_13849, ki_25173, ki_65535, ki_65536, ki_100000, ki_100001, ki_2147483647, ki_2147483648, kl_0, kl_1, kl_2, kl_9223372036854775808, ki_add, ki_sub, ki_mul, ki_neg, kl_add, kl_sub, kl_mul, kl_neg, ki_i2l, kl_l2i, ki_lt, ki_le, ki_eq, kcmp_eq, kcmp_lt, kcmp_le, kcmp_gt, kcmp_ge, Option.bind_some, Option.map_some, kbool0, kbool1, if_pos, if_neg, if_true, if_false, Int.neg_neg, Int.sub_zero, Int.add_zero, Int.zero_add, true_and, and_true, false_and, and_false, false_or, or_false, true_or, or_true, ne_eq, not_false_eq_true, not_true_eq_false, Int.natCast_add, Int.natCast_one]
        · simp only []; rw [c12 _ (by omega) (by omega), y1]
        · simp only []; rw [c12 _ (by omega) (by omega), y2]
        · simp only []; rw [c12 _ (by omega) (by omega), y3]
        · simp only []
          rw [v116, z4 x a]
          by_cases g2 : 3 * k ≤ x ∧ x < 3 * k + i ∧ x < 3 * k + 3
          · rw [if_pos g2, if_pos (by omega)]
          · rw [if_neg g2, if_neg (by omega)]
      · have q3 := q3 (by omega) (by omega)
        rw [kf12.gi (by omega), z1.gi (by omega)] at q3
        have s3 := fun v => s3 v (by omega) (by omega)
        generalize hω : jw (jw ν 115 (4 * k + i).toNat (.int (ki (gi ξ 99 i)))) 111 (4 * k + i).toNat (.int (ki (gi ξ 108 i))) = ω at *
        have kf3 : kF 111 117 ω (jw ω 116 (3 * k + i).toNat (.int (ki (gi ξ 100 i)))) := kF_I ((kM.a116 m3).2.2.2 _ (by omega)) (by omega) (by omega)
        refine ⟨.inl (ki ((i + 1 : Nat) : Int), jw ω 116 (3 * k + i).toNat (.int (ki (gi ξ 100 i)))), ?_, by omega, rfl, (z1.trans kf12).trans kf3, ?_, ?_, ?_, fun x a => ?_, fun x a => ?_, fun x a => ?_⟩
        · simp (disch := omega) only [b_X12_keep_35, b_X12_keep_93, kM.o11 m1, kM.o33 m1, q1, s1, kM.o26 m2, kM.o29 m2, q2, s2, hω, kM.o12 m3, kM.o34 m3, q3, s3, ki_0, ki_1, ki_2, ki_3, ki_4, ki_5, ki_6, ki_7, ki_8, ki_9, ki_10, ki_11, ki_12, ki_13, ki_18, ki_20, ki_24, ki_32, ki_36, ki_45, ki_47, ki_48, ki_50, ki_57, ki_60, ki_63, ki_99, ki_100, ki_101, ki_120, ki_255, ki_468, ki_1000, ki_1024, ki_13849, ki_25173, ki_65535, ki_65536, ki_100000, ki_100001, ki_2147483647, ki_2147483648, kl_0, kl_1, kl_2, kl_9223372036854775808, ki_add, ki_sub, ki_mul, ki_neg, kl_add, kl_sub, kl_mul, kl_neg, ki_i2l, kl_l2i, ki_lt, ki_le, ki_eq, kcmp_eq, kcmp_lt, kcmp_le, kcmp_gt, kcmp_ge, Option.bind_some, Option.map_some, kbool0, kbool1, if_pos, if_neg, if_true, if_false, Int.neg_neg, Int.sub_zero, Int.add_zero, Int.zero_add, true_and, and_true, false_and, and_false, false_or, or_false, true_or, or_true, ne_eq, not_false_eq_true, not_true_eq_false, Int.natCast_add, Int.natCast_one]
        · simp only []; rw [jw_cell (by omega), c12 _ (by omega) (by omega), y1]
        · simp only []; rw [jw_cell (by omega), c12 _ (by omega) (by omega), y2]
        · simp only []; rw [jw_cell (by omega), c12 _ (by omega) (by omega), y3]
        · simp only []; rw [gi_jw _ _ (gi_lo _ _ _) (gi_hi _ _ _), if_neg (by omega)]; exact v115 x a
        · simp only []; rw [gi_jw _ _ (gi_lo _ _ _) (gi_hi _ _ _), if_neg (by omega)]; exact v111 x a
        · simp only []
          rw [gi_jw _ _ (gi_lo _ _ _) (gi_hi _ _ _)]
          by_cases g : x = 3 * k + i
          · rw [if_pos (by omega), if_pos (by omega), show x - 3 * k = i by omega]
          · rw [if_neg (by omega), v116, z4 x a]
            by_cases g2 : 3 * k ≤ x ∧ x < 3 * k + i ∧ x < 3 * k + 3
            · rw [if_pos g2, if_pos (by omega)]
            · rw [if_neg g2, if_neg (by omega)])
  obtain ⟨r1, r2⟩ := r
  simp only [] at h1
  subst h1
  exact ⟨r2, e, h2⟩
