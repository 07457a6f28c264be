/-! OPS: walks, powers -/
def tbm (μ : jM) (d R : Int) (A C : Int → Int) : Prop := gi μ 108 d = R ∧ (∀ x : Int, 0 ≤ x → x < R → mA μ d x = A x) ∧ ∀ x : Int, 0 ≤ x → x < R - 1 → mC μ d x = C x
theorem tbm.to {μ ν : jM} {d R : Int} {A C : Int → Int} {lo hi : Nat} (h : tbm μ d R A C) (k : kF lo hi μ ν) (hl : 110 < lo ∨ hi ≤ 108) : tbm ν d R A C := ⟨by rw [k.gi (by omega)]; exact h.1, fun x a b => (k.gi (by omega) _).trans (h.2.1 x a b), fun x a b => (k.gi (by omega) _).trans (h.2.2 x a b)⟩
set_option maxHeartbeats 1000000 in
theorem X12_goes {Y : jY} {μ : jM} (hM : kM Y μ) {d : Int} (d0 : 0 ≤ d) (d3 : d ≤ 3) {R : Int} {A C : Int → Int} (hT : tbm μ d R A C) (h0 : 1 ≤ R) (h5 : R ≤ 5) (hb : tbR R A C) {k : Int} (k0 : 0 ≤ k) (k8 : k ≤ 8) {j : Int} (j0 : 0 ≤ j) (j1 : j < R) : ∃ ν, f_X12_goes Y 95 (ki d) (ki k) (ki j) μ = some ν ∧ kF 119 121 μ ν ∧ rowL ν 119 R (rsI A C R (eI j) k.toNat) := by
  have L4 : ∀ (ξ : jM) (t : Int) (q : Int → Int), kF 119 121 μ ξ → rowL ξ 120 R q → bdR 11688200277601 R q → ∃ ω, jit jF (fun (s : Int32 × jM) => b_X12_goes_154 Y 95 (ki d) (ki k) (ki R) (ki t) s.1 s.2) ((0 : Int32), ξ) = some (.inl (ki (t + 1), ω)) ∧ kF 119 121 μ ω ∧ rowL ω 119 R q := by
    intro ξ t q kξ hq hbq
    obtain ⟨r, e, ω, rfl, k1, k2⟩ := jit_inv (f := fun (s : Int32 × jM) => b_X12_goes_154 Y 95 (ki d) (ki k) (ki R) (ki t) s.1 s.2) (fun n z => z.1 = ki n ∧ kF 119 121 μ z.2 ∧ rowL z.2 120 R q ∧ ∀ x : Int, 0 ≤ x → x < n → gl z.2 119 x = q x) (fun r => ∃ ω, r = .inl (ki (t + 1), ω) ∧ kF 119 121 μ ω ∧ rowL ω 119 R q) R.toNat (s := ((0 : Int32), ξ)) ⟨rfl, kξ, hq, fun x a b => by omega⟩ (by omega) (fun n z hn hz => by
      obtain ⟨v, ν⟩ := z
      obtain ⟨rfl, z1, z2, z3⟩ := hz
      simp only [] at z1 z2 z3
      have hM1 := hM.to z1
      by_cases e : n = R.toNat
      · refine ⟨.inr (.inl (ki (t + 1), ν)), ?_, ν, rfl, z1, fun x a b => z3 x a (by omega)⟩
        simp (disch := omega) only [b_X12_goes_154, ki_0, ki_1, ki_2, ki_3, ki_4, ki_5, ki_6, ki_7, ki_8, ki_9, ki_10, ki_11, ki_12, ki_13, ki_18, ki_20, ki_24, ki_32, ki_36, ki_45, ki_47, ki_48, ki_50, ki_57, ki_60, ki_63, ki_99, ki_100, ki_101, ki_120, ki_255, ki_468, ki_1000, ki_1024, ki_13849, ki_25173, ki_65535, ki_65536, ki_100000, ki_100001, ki_2147483647, ki_2147483648, kl_0, kl_1, kl_2, kl_9223372036854775808, ki_add, ki_sub, ki_mul, ki_neg, kl_add, kl_sub, kl_mul, kl_neg, ki_i2l, kl_l2i, ki_lt, ki_le, ki_eq, kcmp_eq, kcmp_lt, kcmp_le, kcmp_gt, kcmp_ge, Option.bind_some, Option.map_some, kbool0, kbool1, if_pos, if_neg, if_true, if_false, Int.neg_neg, Int.sub_zero, Int.add_zero, Int.zero_add, true_and, and_true, false_and, and_false, false_or, or_false, true_or, or_true, ne_eq, not_false_eq_true, not_true_eq_false]
      · have q1 := kaL (kM.a120 hM1) (x := (n : Int)) (by omega) (by omega)
        rw [z2 n (by omega) (by omega)] at q1
        have s1 := fun v => kasL (v := v) (kM.a119 hM1) (x := (n : Int)) (by omega) (by omega)
        have kf : kF 119 121 ν (jw ν 119 n (.long (kl (q n)))) := kF_L ((kM.a119 hM1).2.2.2 _ (by omega)) (by omega) (by omega)
        have b := hbq n (by omega) (by omega)
        refine ⟨.inl (ki ((n + 1 : Nat) : Int), jw ν 119 n (.long (kl (q n)))), ?_, by omega, rfl, z1.trans kf, fun x a c => ?_, rowL.put (μ := μ) z3 (by omega) (by omega)⟩
        · simp (disch := omega) only [b_X12_goes_154, kM.o37 hM1, kM.o38 hM1, q1, s1, ki_0, ki_1, ki_2, ki_3, ki_4, ki_5, ki_6, ki_7, ki_8, ki_9, ki_10, ki_11, ki_12, ki_13, ki_18, ki_20, ki_24, ki_32, ki_36, ki_45, ki_47, ki_48, ki_50, ki_57, ki_60, ki_63, ki_99, ki_100, ki_101, ki_120, ki_255, ki_468, ki_1000, ki_1024, ki_13849, ki_25173, ki_65535, ki_65536, ki_100000, ki_100001, ki_2147483647, ki_2147483648, kl_0, kl_1, kl_2, kl_9223372036854775808, ki_add, ki_sub, ki_mul, ki_neg, kl_add, kl_sub, kl_mul, kl_neg, ki_i2l, kl_l2i, ki_lt, ki_le, ki_eq, kcmp_eq, kcmp_lt, kcmp_le, kcmp_gt, kcmp_ge, Option.bind_some, Option.map_some, kbool0, kbool1, if_pos, if_neg, if_true, if_false, Int.neg_neg, Int.sub_zero, Int.add_zero, Int.zero_add, true_and, and_true, false_and, and_false, false_or, or_false, true_or, or_true, ne_eq, not_false_eq_true, not_true_eq_false, Int.natCast_add, Int.natCast_one, Int.toNat_natCast]
        · simp only []
          rw [gl_cell (jw_cell (by omega))]
          exact z2 x a c)
    exact ⟨ω, e, k1, k2⟩
  have L3 : ∀ (ξ : jM) (t : Int) (p : Int → Int), kF 119 121 μ ξ → rowL ξ 119 R p → bdR 11688200277601 R (rs A C R p) → ∃ ω, jit jF (fun (s : Int32 × jM) => b_X12_goes_54 Y 95 (ki d) (ki k) (ki R) (ki t) s.1 s.2) ((0 : Int32), ξ) = some (.inl (ki (t + 1), ω)) ∧ kF 119 121 μ ω ∧ rowL ω 119 R (rs A C R p) := by
    intro ξ t p kξ hp hbp
    obtain ⟨r, e, ω, rfl, k1, k2⟩ := jit_inv (f := fun (s : Int32 × jM) => b_X12_goes_54 Y 95 (ki d) (ki k) (ki R) (ki t) s.1 s.2) (fun n z => z.1 = ki n ∧ kF 119 121 μ z.2 ∧ rowL z.2 119 R p ∧ ∀ x : Int, 0 ≤ x → x < n → gl z.2 120 x = rs A C R p x) (fun r => ∃ ω, r = .inl (ki (t + 1), ω) ∧ kF 119 121 μ ω ∧ rowL ω 119 R (rs A C R p)) R.toNat (s := ((0 : Int32), ξ)) ⟨rfl, kξ, hp, fun x a b => by omega⟩ (by omega) (fun n z hn hz => by
      obtain ⟨v, ν⟩ := z
      obtain ⟨rfl, z1, z2, z3⟩ := hz
      simp only [] at z1 z2 z3
      have hM1 := hM.to z1
      have hT1 := hT.to z1 (by omega)
      by_cases e : n = R.toNat
      · obtain ⟨ω, c, k1, k2⟩ := L4 ν t (rs A C R p) z1 (fun x a b => z3 x a (by omega)) hbp
        refine ⟨.inr (.inl (ki (t + 1), ω)), ?_, ω, rfl, k1, k2⟩
        have E : b_X12_goes_54 Y 95 (ki d) (ki k) (ki R) (ki t) (ki n) ν = (jit jF (fun (s : Int32 × jM) => b_X12_goes_154 Y 95 (ki d) (ki k) (ki R) (ki t) s.1 s.2) ((0 : Int32), ν)).map (fun r => (.inr r)) := by
          simp (disch := omega) only [b_X12_goes_54, ki_0, ki_1, ki_2, ki_3, ki_4, ki_5, ki_6, ki_7, ki_8, ki_9, ki_10, ki_11, ki_12, ki_13, ki_18, ki_20, ki_24, ki_32, ki_36, ki_45, ki_47, ki_48, ki_50, ki_57, ki_60, ki_63, ki_99, ki_100, ki_101, ki_120, ki_255, ki_468, ki_1000, ki_1024, ki_13849, ki_25173, ki_65535, ki_65536, ki_100000, ki_100001, ki_2147483647, ki_2147483648, kl_0, kl_1, kl_2, kl_9223372036854775808, ki_add, ki_sub, ki_mul, ki_neg, kl_add, kl_sub, kl_mul, kl_neg, ki_i2l, kl_l2i, ki_lt, ki_le, ki_eq, kcmp_eq, kcmp_lt, kcmp_le, kcmp_gt, kcmp_ge, Option.bind_some, Option.map_some, kbool0, kbool1, if_pos, if_neg, if_true, if_false, Int.neg_neg, Int.sub_zero, Int.add_zero, Int.zero_add, true_and, and_true, false_and, and_false, false_or, or_false, true_or, or_true, ne_eq, not_false_eq_true, not_true_eq_false]
        simp only [E, c]
        rfl
      · have b := hbp n (by omega) (by omega)
        have a1 := hb.1 n (by omega) (by omega)
        have q0 := X12_a hM1 (d := d) (i := n) d0 d3 (by omega) (by omega)
        rw [hT1.2.1 n (by omega) (by omega)] at q0
        have q1 := kaL (kM.a119 hM1) (x := (n : Int)) (by omega) (by omega)
        rw [z2 n (by omega) (by omega)] at q1
        have s1 := fun v => kasL (v := v) (kM.a120 hM1) (x := (n : Int)) (by omega) (by omega)
        have kf : kF 119 121 ν (jw ν 120 n (.long (kl (rs A C R p n)))) := kF_L ((kM.a120 hM1).2.2.2 _ (by omega)) (by omega) (by omega)
        have E : b_X12_goes_54 Y 95 (ki d) (ki k) (ki R) (ki t) (ki n) ν = some (.inl (ki ((n + 1 : Nat) : Int), jw ν 120 n (.long (kl (rs A C R p n))))) := by
          unfold rs
          by_cases e1 : (n : Int) < R - 1
          · have q3 := kaL (kM.a119 hM1) (x := (n : Int) + 1) (by omega) (by omega)
            rw [z2 _ (by omega) (by omega)] at q3
            have q5 := X12_c hM1 (d := d) (i := n) d0 d3 (by omega) (by omega)
            rw [hT1.2.2 n (by omega) (by omega)] at q5
            have c1 := hb.2 n (by omega) (by omega)
            by_cases e2 : 0 < (n : Int)
            · have q4 := kaL (kM.a119 hM1) (x := (n : Int) - 1) (by omega) (by omega)
              rw [z2 _ (by omega) (by omega)] at q4
              simp (disch := omega) only [b_X12_goes_54, b_X12_goes_101, b_X12_goes_144, kM.o37 hM1, kM.o38 hM1, krcv (kM.y hM1), q0, q1, q3, q4, q5, s1, ki_0, ki_1, ki_2, ki_3, ki_4, ki_5, ki_6, ki_7, ki_8, ki_9, ki_10, ki_11, ki_12, ki_13, ki_18, ki_20, ki_24, ki_32, ki_36, ki_45, ki_47, ki_48, ki_50, ki_57, ki_60, ki_63, ki_99, ki_100, ki_101, ki_120, ki_255, ki_468, ki_1000, ki_1024, ki_13849, ki_25173, ki_65535, ki_65536, ki_100000, ki_100001, ki_2147483647, ki_2147483648, kl_0, kl_1, kl_2, kl_9223372036854775808, ki_add, ki_sub, ki_mul, ki_neg, kl_add, kl_sub, kl_mul, kl_neg, ki_i2l, kl_l2i, ki_lt, ki_le, ki_eq, kcmp_eq, kcmp_lt, kcmp_le, kcmp_gt, kcmp_ge, Option.bind_some, Option.map_some, kbool0, kbool1, if_pos, if_neg, if_true, if_false, Int.neg_neg, Int.sub_zero, Int.add_zero, Int.zero_add, true_and, and_true, false_and, and_false, false_or, or_false, true_or, or_true, ne_eq, not_false_eq_true, not_true_eq_false, Int.natCast_add, Int.natCast_one, Int.toNat_natCast]
            · simp (disch := omega) only [b_X12_goes_54, b_X12_goes_101, b_X12_goes_144, kM.o37 hM1, kM.o38 hM1, krcv (kM.y hM1), q0, q1, q3, q5, s1, ki_0, ki_1, ki_2, ki_3, ki_4, ki_5, ki_6, ki_7, ki_8, ki_9, ki_10, ki_11, ki_12, ki_13, ki_18, ki_20, ki_24, ki_32, ki_36, ki_45, ki_47, ki_48, ki_50, ki_57, ki_60, ki_63, ki_99, ki_100, ki_101, ki_120, ki_255, ki_468, ki_1000, ki_1024, ki_13849, ki_25173, ki_65535, ki_65536, ki_100000, ki_100001, ki_2147483647, ki_2147483648, kl_0, kl_1, kl_2, kl_9223372036854775808, ki_add, ki_sub, ki_mul, ki_neg, kl_add, kl_sub, kl_mul, kl_neg, ki_i2l, kl_l2i, ki_lt, ki_le, ki_eq, kcmp_eq, kcmp_lt, kcmp_le, kcmp_gt, kcmp_ge, Option.bind_some, Option.map_some, kbool0, kbool1, if_pos, if_neg, if_true, if_false, Int.neg_neg, Int.sub_zero, Int.add_zero, Int.zero_add, true_and, and_true, false_and, and_false, false_or, or_false, true_or, or_true, ne_eq, not_false_eq_true, not_true_eq_false, Int.natCast_add, Int.natCast_one, Int.toNat_natCast]
          · by_cases e2 : 0 < (n : Int)
            · have q4 := kaL (kM.a119 hM1) (x := (n : Int) - 1) (by omega) (by omega)
              rw [z2 _ (by omega) (by omega)] at q4
              simp (disch := omega) only [b_X12_goes_54, b_X12_goes_101, b_X12_goes_144, kM.o37 hM1, kM.o38 hM1, krcv (kM.y hM1), q0, q1, q4, s1, ki_0, ki_1, ki_2, ki_3, ki_4, ki_5, ki_6, ki_7, ki_8, ki_9, ki_10, ki_11, ki_12, ki_13, ki_18, ki_20, ki_24, ki_32, ki_36, ki_45, ki_47, ki_48, ki_50, ki_57, ki_60, ki_63, ki_99, ki_100, ki_101, ki_120, ki_255, ki_468, ki_1000, ki_1024, ki_13849, ki_25173, ki_65535, ki_65536, ki_100000, ki_100001, ki_2147483647, ki_2147483648, kl_0, kl_1, kl_2, kl_9223372036854775808, ki_add, ki_sub, ki_mul, ki_neg, kl_add, kl_sub, kl_mul, kl_neg, ki_i2l, kl_l2i, ki_lt, ki_le, ki_eq, kcmp_eq, kcmp_lt, kcmp_le, kcmp_gt, kcmp_ge, Option.bind_some, Option.map_some, kbool0, kbool1, if_pos, if_neg, if_true, if_false, Int.neg_neg, Int.sub_zero, Int.add_zero, Int.zero_add, true_and, and_true, false_and, and_false, false_or, or_false, true_or, or_true, ne_eq, not_false_eq_true, not_true_eq_false, Int.natCast_add, Int.natCast_one, Int.toNat_natCast]
            · simp (disch := omega) only [b_X12_goes_54, b_X12_goes_101, b_X12_goes_144, kM.o37 hM1, kM.o38 hM1, krcv (kM.y hM1), q0, q1, s1, ki_0, ki_1, ki_2, ki_3, ki_4, ki_5, ki_6, ki_7, ki_8, ki_9, ki_10, ki_11, ki_12, ki_13, ki_18, ki_20, ki_24, ki_32, ki_36, ki_45, ki_47, ki_48, ki_50, ki_57, ki_60, ki_63, ki_99, ki_100, ki_101, ki_120, ki_255, ki_468, ki_1000, ki_1024, ki_13849, ki_25173, ki_65535, ki_65536, ki_100000, ki_100001, ki_2147483647, ki_2147483648, kl_0, kl_1, kl_2, kl_9223372036854775808, ki_add, ki_sub, ki_mul, ki_neg, kl_add, kl_sub, kl_mul, kl_neg, ki_i2l, kl_l2i, ki_lt, ki_le, ki_eq, kcmp_eq, kcmp_lt, kcmp_le, kcmp_gt, kcmp_ge, Option.bind_some, Option.map_some, kbool0, kbool1, if_pos, if_neg, if_true, if_false, Int.neg_neg, Int.sub_zero, Int.add_zero, Int.zero_add, true_and, and_true, false_and, and_false, false_or, or_false, true_or, or_true, ne_eq, not_false_eq_true, not_true_eq_false, Int.natCast_add, Int.natCast_one, Int.toNat_natCast]
        refine ⟨_, E, by omega, rfl, z1.trans kf, fun x a c => ?_, rowL.put (μ := μ) z3 (by omega) (by omega)⟩
        simp only []
        rw [gl_cell (jw_cell (by omega))]
        exact z2 x a c)
    exact ⟨ω, e, k1, k2⟩
  have L2 : ∀ (ξ : jM), kF 119 121 μ ξ → rowL ξ 119 R (eI j) → ∃ ω, jit jF (fun (s : Int32 × jM) => b_X12_goes_45 Y 95 (ki d) (ki k) (ki R) s.1 s.2) ((0 : Int32), ξ) = some ω ∧ kF 119 121 μ ω ∧ rowL ω 119 R (rsI A C R (eI j) k.toNat) := by
    intro ξ kξ hp
    refine jit_inv (f := fun (s : Int32 × jM) => b_X12_goes_45 Y 95 (ki d) (ki k) (ki R) s.1 s.2) (fun n z => z.1 = ki n ∧ kF 119 121 μ z.2 ∧ rowL z.2 119 R (rsI A C R (eI j) n)) _ k.toNat (s := ((0 : Int32), ξ)) ⟨rfl, kξ, hp⟩ (by omega) (fun n z hn hz => ?_)
    obtain ⟨v, ν⟩ := z
    obtain ⟨rfl, z1, z2⟩ := hz
    simp only [] at z1 z2
    by_cases e : n = k.toNat
    · refine ⟨.inr ν, ?_, z1, by rw [← e]; exact z2⟩
      simp (disch := omega) only [b_X12_goes_45, ki_0, ki_1, ki_2, ki_3, ki_4, ki_5, ki_6, ki_7, ki_8, ki_9, ki_10, ki_11, ki_12, ki_13, ki_18, ki_20, ki_24, ki_32, ki_36, ki_45, ki_47, ki_48, ki_50, ki_57, ki_60, ki_63, ki_99, ki_100, ki_101, ki_120, ki_255, ki_468, ki_1000, ki_1024, ki_13849, ki_25173, ki_65535, ki_65536, ki_100000, ki_100001, ki_2147483647, ki_2147483648, kl_0, kl_1, kl_2, kl_9223372036854775808, ki_add, ki_sub, ki_mul, ki_neg, kl_add, kl_sub, kl_mul, kl_neg, ki_i2l, kl_l2i, ki_lt, ki_le, ki_eq, kcmp_eq, kcmp_lt, kcmp_le, kcmp_gt, kcmp_ge, Option.bind_some, Option.map_some, kbool0, kbool1, if_pos, if_neg, if_true, if_false, Int.neg_neg, Int.sub_zero, Int.add_zero, Int.zero_add, true_and, and_true, false_and, and_false, false_or, or_false, true_or, or_true, ne_eq, not_false_eq_true, not_true_eq_false]
    · have bd := rsI_bd hb (eI_bd (j := j) (R := R)) (n + 1)
      have ble := p43_le (n + 1) (by omega)
      obtain ⟨ω, c, k1, k2⟩ := L3 ν n (rsI A C R (eI j) n) z1 z2 (fun x a b => by have := bd x a b; exact ⟨by have := this.1; show _ ≤ rsI A C R (eI j) (n + 1) x; omega, by have := this.2; show rsI A C R (eI j) (n + 1) x ≤ _; omega⟩)
      refine ⟨.inl (ki ((n : Int) + 1), ω), ?_, by omega, by rw [Int.natCast_add, Int.natCast_one], k1, k2⟩
      simp (disch := omega) only [b_X12_goes_45, ki_0, ki_1, ki_2, ki_3, ki_4, ki_5, ki_6, ki_7, ki_8, ki_9, ki_10, ki_11, ki_12, ki_13, ki_18, ki_20, ki_24, ki_32, ki_36, ki_45, ki_47, ki_48, ki_50, ki_57, ki_60, ki_63, ki_99, ki_100, ki_101, ki_120, ki_255, ki_468, ki_1000, ki_1024, ki_13849, ki_25173, ki_65535, ki_65536, ki_100000, ki_100001, ki_2147483647, ki_2147483648, kl_0, kl_1, kl_2, kl_9223372036854775808, ki_add, ki_sub, ki_mul, ki_neg, kl_add, kl_sub, kl_mul, kl_neg, ki_i2l, kl_l2i, ki_lt, ki_le, ki_eq, kcmp_eq, kcmp_lt, kcmp_le, kcmp_gt, kcmp_ge, Option.bind_some, Option.map_some, kbool0, kbool1, if_pos, if_neg, if_true, if_false, Int.neg_neg, Int.sub_zero, Int.add_zero, Int.zero_add, true_and, and_true, false_and, and_false, false_or, or_false, true_or, or_true, ne_eq, not_false_eq_true, not_true_eq_false]
      exact c
  have g := kaI (kM.a108 hM) (x := d) d0 (by omega)
  rw [hT.1] at g
  simp only [f_X12_goes, kM.o26 hM, Option.bind_some, g]
  refine jit_inv (f := fun (s : Int32 × jM) => b_X12_goes_11 Y 95 (ki d) (ki k) (ki j) (ki R) s.1 s.2) (fun n z => z.1 = ki n ∧ kF 119 121 μ z.2 ∧ ∀ x : Int, 0 ≤ x → x < n → gl z.2 119 x = eI j x) _ R.toNat (s := ((0 : Int32), μ)) ⟨rfl, kF.refl, fun x a b => by omega⟩ (by omega) (fun n z hn hz => ?_)
  obtain ⟨v, ν⟩ := z
  obtain ⟨rfl, z1, z2⟩ := hz
  simp only [] at z1 z2
  have hM1 := hM.to z1
  by_cases e : n = R.toNat
  · obtain ⟨ω, c, k1, k2⟩ := L2 ν z1 (fun x a b => z2 x a (by omega))
    refine ⟨.inr ω, ?_, k1, k2⟩
    have E : b_X12_goes_11 Y 95 (ki d) (ki k) (ki j) (ki R) (ki n) ν = (jit jF (fun (s : Int32 × jM) => b_X12_goes_45 Y 95 (ki d) (ki k) (ki R) s.1 s.2) ((0 : Int32), ν)).map (fun r => (.inr r)) := by
      simp (disch := omega) only [b_X12_goes_11, ki_0, ki_1, ki_2, ki_3, ki_4, ki_5, ki_6, ki_7, ki_8, ki_9, ki_10, ki_11, ki_12, ki_13, ki_18, ki_20, ki_24, ki_32, ki_36, ki_45, ki_47, ki_48, ki_50, ki_57, ki_60, ki_63, ki_99, ki_100, ki_101, ki_120, ki_255, ki_468, ki_1000, ki_1024, ki_13849, ki_25173, ki_65535, ki_65536, ki_100000, ki_100001, ki_2147483647, ki_2147483648, kl_0, kl_1, kl_2, kl_9223372036854775808, ki_add, ki_sub, ki_mul, ki_neg, kl_add, kl_sub, kl_mul, kl_neg, ki_i2l, kl_l2i, ki_lt, ki_le, ki_eq, kcmp_eq, kcmp_lt, kcmp_le, kcmp_gt, kcmp_ge, Option.bind_some, Option.map_some, kbool0, kbool1, if_pos, if_neg, if_true, if_false, Int.neg_neg, Int.sub_zero, Int.add_zero, Int.zero_add, true_and, and_true, false_and, and_false, false_or, or_false, true_or, or_true, ne_eq, not_false_eq_true, not_true_eq_false]
    simp only [E, c]
    rfl
  · have s1 := fun v => kasL (v := v) (kM.a119 hM1) (x := (n : Int)) (by omega) (by omega)
    have kf : kF 119 121 ν (jw ν 119 n (.long (kl (eI j n)))) := kF_L ((kM.a119 hM1).2.2.2 _ (by omega)) (by omega) (by omega)
    have b : -1 ≤ eI j n ∧ eI j n ≤ 1 := eI_bd (R := R) n (by omega) (by omega)
    refine ⟨.inl (ki ((n + 1 : Nat) : Int), jw ν 119 n (.long (kl (eI j n)))), ?_, by omega, rfl, z1.trans kf, rowL.put (μ := μ) z2 (by omega) (by omega)⟩
    by_cases f : (n : Int) = j
    · have ej : eI j n = 1 := if_pos f
      rw [ej]
      simp (disch := omega) only [b_X12_goes_11, b_X12_goes_35, kM.o37 hM1, s1, ki_0, ki_1, ki_2, ki_3, ki_4, ki_5, ki_6, ki_7, ki_8, ki_9, ki_10, ki_11, ki_12, ki_13, ki_18, ki_20, ki_24, ki_32, ki_36, ki_45, ki_47, ki_48, ki_50, ki_57, ki_60, ki_63, ki_99, ki_100, ki_101, ki_120, ki_255, ki_468, ki_1000, ki_1024, ki_13849, ki_25173, ki_65535, ki_65536, ki_100000, ki_100001, ki_2147483647, ki_2147483648, kl_0, kl_1, kl_2, kl_9223372036854775808, ki_add, ki_sub, ki_mul, ki_neg, kl_add, kl_sub, kl_mul, kl_neg, ki_i2l, kl_l2i, ki_lt, ki_le, ki_eq, kcmp_eq, kcmp_lt, kcmp_le, kcmp_gt, kcmp_ge, Option.bind_some, Option.map_some, kbool0, kbool1, if_pos, if_neg, if_true, if_false, Int.neg_neg, Int.sub_zero, Int.add_zero, Int.zero_add, true_and, and_true, false_and, and_false, false_or, or_false, true_or, or_true, ne_eq, not_false_eq_true, not_true_eq_false, Int.natCast_add, Int.natCast_one, Int.toNat_natCast]
    · have ej : eI j n = 0 := if_neg f
      rw [ej]
      simp (disch := omega) only [b_X12_goes_11, b_X12_goes_35, kM.o37 hM1, s1, ki_0, ki_1, ki_2, ki_3, ki_4, ki_5, ki_6, ki_7, ki_8, ki_9, ki_10, ki_11, ki_12, ki_13, ki_18, ki_20, ki_24, ki_32, ki_36, ki_45, ki_47, ki_48, ki_50, ki_57, ki_60, ki_63, ki_99, ki_100, ki_101, ki_120, ki_255, ki_468, ki_1000, ki_1024, ki_13849, ki_25173, ki_65535, ki_65536, ki_100000, ki_100001, ki_2147483647, ki_2147483648, kl_0, kl_1, kl_2, kl_9223372036854775808, ki_add, ki_sub, ki_mul, ki_neg, kl_add, kl_sub, kl_mul, kl_neg, ki_i2l, kl_l2i, ki_lt, ki_le, ki_eq, kcmp_eq, kcmp_lt, kcmp_le, kcmp_gt, kcmp_ge, Option.bind_some, Option.map_some, kbool0, kbool1, if_pos, if_neg, if_true, if_false, Int.neg_neg, Int.sub_zero, Int.add_zero, Int.zero_add, true_and, and_true, false_and, and_false, false_or, or_false, true_or, or_true, ne_eq, not_false_eq_true, not_true_eq_false, Int.natCast_add, Int.natCast_one, Int.toNat_natCast]
theorem Inv.tb {L : Nat} {xs : Nat → Int32} {n : Nat} {Y : jY} {μ : jM} (h : Inv L xs n Y μ) {d : Int} (d0 : 0 ≤ d) (d3 : d ≤ 3) : tbl Y μ (9 + 5 + 3 * d.toNat) (gi μ 108 d) (mA μ d) (mC μ d) ∧ tbm μ d (gi μ 108 d) (mA μ d) (mC μ d) ∧ tbR (gi μ 108 d) (mA μ d) (mC μ d) := by
  obtain ⟨hT, hB, hMB, hR, hA, hC⟩ := h.d d0 d3
  exact ⟨⟨hT, hR, hA, hC⟩, ⟨rfl, fun _ _ _ => rfl, fun _ _ _ => rfl⟩, hMB.2.2.1, hMB.2.2.2⟩
theorem kP.of_scr2 {μ ν : jM} (h : kF 111 123 μ ν) (hp : ∀ i, 111 ≤ i → i ≤ 116 → ν i = μ i) : kP μ ν := ⟨h.mono (by omega) (by omega), fun i hi => by
  by_cases e : 111 ≤ i ∧ i ≤ 116
  · exact hp i e.1 e.2
  · exact h.1 i (by unfold pers at hi; omega), by rw [h.1 95 (by omega)], by rw [h.1 95 (by omega)], by rw [h.1 95 (by omega)]⟩
theorem kP.of_here {μ ν : jM} (h : kF 117 123 μ ν) : kP μ ν := ⟨h.mono (by omega) (by omega), fun i hi => h.1 i (by unfold pers at hi; omega), by rw [h.1 95 (by omega)], by rw [h.1 95 (by omega)], by rw [h.1 95 (by omega)]⟩
theorem ok_walks {L : Nat} {xs : Nat → Int32} {n : Nat} {Y : jY} {μ : jM} (h : Inv L xs n Y μ) : so_walks (Inv L xs) n Y μ := by
  have hX := h.x
  have hM := h.m
  intro a1 a2 a3 a4
  obtain ⟨d, d1, d2, rfl⟩ := ki_is a1
  obtain ⟨k, k1, k2, rfl⟩ := ki_is a2
  obtain ⟨i, i1, i2, rfl⟩ := ki_is a3
  obtain ⟨j, j1, j2, rfl⟩ := ki_is a4
  by_cases hd : 0 ≤ d ∧ d ≤ 3
  · obtain ⟨hT, hB, hMB, hR, hA, hC⟩ := h.d hd.1 hd.2; have hR0 := hMB.1; have hR5 := hMB.2.1
    by_cases hz : gi μ 108 d = 0
    · refine ⟨(kl (-9223372036854775808), μ), (kl (-9223372036854775808), μ), ?_, fun _ => rfl, ?_, rfl, h⟩ <;> simp (disch := omega) only [f_X11_walks, b_X11_walks_37, f_X12_walks, b_X12_walks_59, krcv (kX.y1 hX), kX.o1_3 hX, kS.gd (kX.now hX), kS.gt (kX.now hX), X11_within, X11_isDrawer, f_X11_isFilled, b_X11_isFilled_27, b_X11_isFilled_26, f_X11_isRow, b_X11_isRow_35, b_X11_isRow_34, f_X11_isPart, b_X11_isPart_14, b_X11_isPart_9, krcv (kM.y hM), kM.o26 hM, kaI (kM.a108 hM), X12_in, X12_isDrawer, kT.gr hT, krcv hT.y, hR, ki_0, ki_1, ki_2, ki_3, ki_4, ki_5, ki_6, ki_7, ki_8, ki_9, ki_10, ki_11, ki_12, ki_13, ki_18, ki_20, ki_24, ki_32, ki_36, ki_45, ki_47, ki_48, ki_50, ki_57, ki_60, ki_63, ki_99, ki_100, ki_101, ki_120, ki_255, ki_468, ki_1000, ki_1024, ki_13849, ki_25173, ki_65535, ki_65536, ki_100000, ki_100001, ki_2147483647, ki_2147483648, kl_0, kl_1, kl_2, kl_9223372036854775808, ki_add, ki_sub, ki_mul, ki_neg, kl_add, kl_sub, kl_mul, kl_neg, ki_i2l, kl_l2i, ki_lt, ki_le, ki_eq, kcmp_eq, kcmp_lt, kcmp_le, kcmp_gt, kcmp_ge, Option.bind_some, Option.map_some, kbool0, kbool1, if_pos, if_neg, if_true, if_false, Int.neg_neg, Int.sub_zero, Int.add_zero, Int.zero_add, true_and, and_true, false_and, and_false, false_or, or_false, true_or, or_true, ne_eq, not_false_eq_true, not_true_eq_false]
    · by_cases hk : 0 ≤ k ∧ k ≤ 8
      · by_cases hi : 0 ≤ i ∧ i ≤ gi μ 108 d - 1
        · by_cases hj : 0 ≤ j ∧ j ≤ gi μ 108 d - 1
          · obtain ⟨t1, t2, t3⟩ := h.tb hd.1 hd.2
            obtain ⟨ν, c, kf⟩ := X4_walk hX (by omega) t1 (by omega) (by omega) t3 (k := k) (i := i) (j := j) hk.1 hk.2 hi.1 (by omega) hj.1 (by omega)
            have hM1 := hM.to kf
            obtain ⟨ω, c2, kf2, w⟩ := X12_goes hM1 hd.1 hd.2 (t2.to kf (by omega)) (by omega) (by omega) t3 (k := k) (j := i) hk.1 hk.2 hi.1 (by omega)
            have hM2 := hM1.to kf2
            have q := kaL (kM.a119 hM2) (x := j) hj.1 (by omega)
            rw [w j hj.1 (by omega), ← walk_eq (by omega) (by omega) hi.1 (by omega) hj.1 (by omega)] at q
            have g := kaI (kM.a108 hM1) (x := d) hd.1 (by omega)
            rw [kf.gi (by omega)] at g
            generalize csI (mA μ d) (mC μ d) (gi μ 108 d) (eI j) k.toNat i = v at *
            refine ⟨(kl v, ν), (kl v, ω), ?_, fun m => ?_, ?_, rfl, h.to ((kP.of_rows (kf.mono (by omega) (by omega))).trans (kP.of_here (kf2.mono (by omega) (by omega))))⟩
            · simp (disch := omega) only [f_X11_walks, krcv (kX.y1 hX), kX.o1_3 hX, kS.gd (kX.now hX), kS.gt (kX.now hX), X11_within, X11_isDrawer, f_X11_isFilled, b_X11_isFilled_27, b_X11_isFilled_26, f_X11_isRow, b_X11_isRow_35, b_X11_isRow_34, f_X11_isPart, b_X11_isPart_14, b_X11_isPart_9, kX.o1_9 hX, kT.gr hT, krcv hT.y, krcv (kX.y78 hX), hR, c, ki_0, ki_1, ki_2, ki_3, ki_4, ki_5, ki_6, ki_7, ki_8, ki_9, ki_10, ki_11, ki_12, ki_13, ki_18, ki_20, ki_24, ki_32, ki_36, ki_45, ki_47, ki_48, ki_50, ki_57, ki_60, ki_63, ki_99, ki_100, ki_101, ki_120, ki_255, ki_468, ki_1000, ki_1024, ki_13849, ki_25173, ki_65535, ki_65536, ki_100000, ki_100001, ki_2147483647, ki_2147483648, kl_0, kl_1, kl_2, kl_9223372036854775808, ki_add, ki_sub, ki_mul, ki_neg, kl_add, kl_sub, kl_mul, kl_neg, ki_i2l, kl_l2i, ki_lt, ki_le, ki_eq, kcmp_eq, kcmp_lt, kcmp_le, kcmp_gt, kcmp_ge, Option.bind_some, Option.map_some, kbool0, kbool1, if_pos, if_neg, if_true, if_false, Int.neg_neg, Int.sub_zero, Int.add_zero, Int.zero_add, true_and, and_true, false_and, and_false, false_or, or_false, true_or, or_true, ne_eq, not_false_eq_true, not_true_eq_false]
            · show ν 0 m = μ 0 m
              rw [kf.1 0 (by omega)]
            · simp (disch := omega) only [f_X12_walks, X12_in, X12_isDrawer, krcv (kM.y hM), kM.o26 hM1, kM.o37 hM2, g, c2, q, ki_0, ki_1, ki_2, ki_3, ki_4, ki_5, ki_6, ki_7, ki_8, ki_9, ki_10, ki_11, ki_12, ki_13, ki_18, ki_20, ki_24, ki_32, ki_36, ki_45, ki_47, ki_48, ki_50, ki_57, ki_60, ki_63, ki_99, ki_100, ki_101, ki_120, ki_255, ki_468, ki_1000, ki_1024, ki_13849, ki_25173, ki_65535, ki_65536, ki_100000, ki_100001, ki_2147483647, ki_2147483648, kl_0, kl_1, kl_2, kl_9223372036854775808, ki_add, ki_sub, ki_mul, ki_neg, kl_add, kl_sub, kl_mul, kl_neg, ki_i2l, kl_l2i, ki_lt, ki_le, ki_eq, kcmp_eq, kcmp_lt, kcmp_le, kcmp_gt, kcmp_ge, Option.bind_some, Option.map_some, kbool0, kbool1, if_pos, if_neg, if_true, if_false, Int.neg_neg, Int.sub_zero, Int.add_zero, Int.zero_add, true_and, and_true, false_and, and_false, false_or, or_false, true_or, or_true, ne_eq, not_false_eq_true, not_true_eq_false]
          · refine ⟨(kl (-9223372036854775808), μ), (kl (-9223372036854775808), μ), ?_, fun _ => rfl, ?_, rfl, h⟩ <;> simp (disch := omega) only [f_X11_walks, b_X11_walks_37, f_X12_walks, b_X12_walks_59, krcv (kX.y1 hX), kX.o1_3 hX, kS.gd (kX.now hX), kS.gt (kX.now hX), X11_within, X11_isDrawer, f_X11_isFilled, b_X11_isFilled_27, b_X11_isFilled_26, f_X11_isRow, b_X11_isRow_35, b_X11_isRow_34, f_X11_isPart, b_X11_isPart_14, b_X11_isPart_9, krcv (kM.y hM), kM.o26 hM, kaI (kM.a108 hM), X12_in, X12_isDrawer, kT.gr hT, krcv hT.y, hR, ki_0, ki_1, ki_2, ki_3, ki_4, ki_5, ki_6, ki_7, ki_8, ki_9, ki_10, ki_11, ki_12, ki_13, ki_18, ki_20, ki_24, ki_32, ki_36, ki_45, ki_47, ki_48, ki_50, ki_57, ki_60, ki_63, ki_99, ki_100, ki_101, ki_120, ki_255, ki_468, ki_1000, ki_1024, ki_13849, ki_25173, ki_65535, ki_65536, ki_100000, ki_100001, ki_2147483647, ki_2147483648, kl_0, kl_1, kl_2, kl_9223372036854775808, ki_add, ki_sub, ki_mul, ki_neg, kl_add, kl_sub, kl_mul, kl_neg, ki_i2l, kl_l2i, ki_lt, ki_le, ki_eq, kcmp_eq, kcmp_lt, kcmp_le, kcmp_gt, kcmp_ge, Option.bind_some, Option.map_some, kbool0, kbool1, if_pos, if_neg, if_true, if_false, Int.neg_neg, Int.sub_zero, Int.add_zero, Int.zero_add, true_and, and_true, false_and, and_false, false_or, or_false, true_or, or_true, ne_eq, not_false_eq_true, not_true_eq_false]
        · refine ⟨(kl (-9223372036854775808), μ), (kl (-9223372036854775808), μ), ?_, fun _ => rfl, ?_, rfl, h⟩ <;> simp (disch := omega) only [f_X11_walks, b_X11_walks_37, f_X12_walks, b_X12_walks_59, krcv (kX.y1 hX), kX.o1_3 hX, kS.gd (kX.now hX), kS.gt (kX.now hX), X11_within, X11_isDrawer, f_X11_isFilled, b_X11_isFilled_27, b_X11_isFilled_26, f_X11_isRow, b_X11_isRow_35, b_X11_isRow_34, f_X11_isPart, b_X11_isPart_14, b_X11_isPart_9, krcv (kM.y hM), kM.o26 hM, kaI (kM.a108 hM), X12_in, X12_isDrawer, kT.gr hT, krcv hT.y, hR, ki_0, ki_1, ki_2, ki_3, ki_4, ki_5, ki_6, ki_7, ki_8, ki_9, ki_10, ki_11, ki_12, ki_13, ki_18, ki_20, ki_24, ki_32, ki_36, ki_45, ki_47, ki_48, ki_50, ki_57, ki_60, ki_63, ki_99, ki_100, ki_101, ki_120, ki_255, ki_468, ki_1000, ki_1024, ki_13849, ki_25173, ki_65535, ki_65536, ki_100000, ki_100001, ki_2147483647, ki_2147483648, kl_0, kl_1, kl_2, kl_9223372036854775808, ki_add, ki_sub, ki_mul, ki_neg, kl_add, kl_sub, kl_mul, kl_neg, ki_i2l, kl_l2i, ki_lt, ki_le, ki_eq, kcmp_eq, kcmp_lt, kcmp_le, kcmp_gt, kcmp_ge, Option.bind_some, Option.map_some, kbool0, kbool1, if_pos, if_neg, if_true, if_false, Int.neg_neg, Int.sub_zero, Int.add_zero, Int.zero_add, true_and, and_true, false_and, and_false, false_or, or_false, true_or, or_true, ne_eq, not_false_eq_true, not_true_eq_false]
      · refine ⟨(kl (-9223372036854775808), μ), (kl (-9223372036854775808), μ), ?_, fun _ => rfl, ?_, rfl, h⟩ <;> simp (disch := omega) only [f_X11_walks, b_X11_walks_37, f_X12_walks, b_X12_walks_59, krcv (kX.y1 hX), kX.o1_3 hX, kS.gd (kX.now hX), kS.gt (kX.now hX), X11_within, X11_isDrawer, f_X11_isFilled, b_X11_isFilled_27, b_X11_isFilled_26, f_X11_isRow, b_X11_isRow_35, b_X11_isRow_34, f_X11_isPart, b_X11_isPart_14, b_X11_isPart_9, krcv (kM.y hM), kM.o26 hM, kaI (kM.a108 hM), X12_in, X12_isDrawer, kT.gr hT, krcv hT.y, hR, ki_0, ki_1, ki_2, ki_3, ki_4, ki_5, ki_6, ki_7, ki_8, ki_9, ki_10, ki_11, ki_12, ki_13, ki_18, ki_20, ki_24, ki_32, ki_36, ki_45, ki_47, ki_48, ki_50, ki_57, ki_60, ki_63, ki_99, ki_100, ki_101, ki_120, ki_255, ki_468, ki_1000, ki_1024, ki_13849, ki_25173, ki_65535, ki_65536, ki_100000, ki_100001, ki_2147483647, ki_2147483648, kl_0, kl_1, kl_2, kl_9223372036854775808, ki_add, ki_sub, ki_mul, ki_neg, kl_add, kl_sub, kl_mul, kl_neg, ki_i2l, kl_l2i, ki_lt, ki_le, ki_eq, kcmp_eq, kcmp_lt, kcmp_le, kcmp_gt, kcmp_ge, Option.bind_some, Option.map_some, kbool0, kbool1, if_pos, if_neg, if_true, if_false, Int.neg_neg, Int.sub_zero, Int.add_zero, Int.zero_add, true_and, and_true, false_and, and_false, false_or, or_false, true_or, or_true, ne_eq, not_false_eq_true, not_true_eq_false]
  · refine ⟨(kl (-9223372036854775808), μ), (kl (-9223372036854775808), μ), ?_, fun _ => rfl, ?_, rfl, h⟩ <;> simp (disch := omega) only [f_X11_walks, b_X11_walks_37, f_X12_walks, b_X12_walks_59, krcv (kX.y1 hX), kX.o1_3 hX, kS.gd (kX.now hX), kS.gt (kX.now hX), X11_within, X11_isDrawer, f_X11_isFilled, b_X11_isFilled_27, b_X11_isFilled_26, f_X11_isRow, b_X11_isRow_35, b_X11_isRow_34, f_X11_isPart, b_X11_isPart_14, b_X11_isPart_9, krcv (kM.y hM), kM.o26 hM, kaI (kM.a108 hM), X12_in, X12_isDrawer, ki_0, ki_1, ki_2, ki_3, ki_4, ki_5, ki_6, ki_7, ki_8, ki_9, ki_10, ki_11, ki_12, ki_13, ki_18, ki_20, ki_24, ki_32, ki_36, ki_45, ki_47, ki_48, ki_50, ki_57, ki_60, ki_63, ki_99, ki_100, ki_101, ki_120, ki_255, ki_468, ki_1000, ki_1024, ki_13849, ki_25173, ki_65535, ki_65536, ki_100000, ki_100001, ki_2147483647, ki_2147483648, kl_0, kl_1, kl_2, kl_9223372036854775808, ki_add, ki_sub, ki_mul, ki_neg, kl_add, kl_sub, kl_mul, kl_neg, ki_i2l, kl_l2i, ki_lt, ki_le, ki_eq, kcmp_eq, kcmp_lt, kcmp_le, kcmp_gt, kcmp_ge, Option.bind_some, Option.map_some, kbool0, kbool1, if_pos, if_neg, if_true, if_false, Int.neg_neg, Int.sub_zero, Int.add_zero, Int.zero_add, true_and, and_true, false_and, and_false, false_or, or_false, true_or, or_true, ne_eq, not_false_eq_true, not_true_eq_false]
