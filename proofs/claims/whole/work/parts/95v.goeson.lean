/-! ALL TABLES: the reference goes on to the next one -/
theorem goes_gen {μ0 : jM} {F : Int32 × jM → Option ((Int32 × jM) ⊕ (Int32 × jM))} {codes : Nat} (hc : codes ≤ 10000) {mkp : Int → Prop} {tried found : Int → jM → Prop} {ended : jM → Prop} (h1 : ∀ (c : Int) (ν : jM), 0 ≤ c → c < codes → frY μ0 ν → tried c ν → ∃ ω, frY ν ω ∧ ((mkp c ∧ found c ω ∧ F (ki 0, ν) = some (.inl (ki 1, ω))) ∨ (¬ mkp c ∧ tried (c + 1) ω ∧ F (ki 0, ν) = some (.inl (ki 0, ω))))) (h2 : ∀ ν : jM, frY μ0 ν → tried codes ν → ∃ ω, frY ν ω ∧ ended ω ∧ F (ki 0, ν) = some (.inl (ki 0, ω))) (h3 : ∀ ν : jM, frY μ0 ν → ended ν → F (ki 0, ν) = some (.inr (ki 0, ν))) (h4 : ∀ ν : jM, frY μ0 ν → F (ki 1, ν) = some (.inr (ki 1, ν))) {c : Int} (c0 : 0 ≤ c) (c1 : c ≤ codes) (t0 : tried c μ0) : ∃ r : Int32 × jM, jit jF F (ki 0, μ0) = some r ∧ frY μ0 r.2 ∧ ((r.1 = ki 1 ∧ ∃ c', c ≤ c' ∧ c' < codes ∧ mkp c' ∧ (∀ k, c ≤ k → k < c' → ¬ mkp k) ∧ found c' r.2) ∨ (r.1 = ki 0 ∧ ∀ k, c ≤ k → k < codes → ¬ mkp k)) := by
  refine jit_inv (f := F) (fun t z => frY μ0 z.2 ∧ ((z.1 = ki 0 ∧ c + t ≤ codes ∧ tried (c + t) z.2 ∧ ∀ k, c ≤ k → k < c + t → ¬ mkp k) ∨ (z.1 = ki 1 ∧ ∃ c', c ≤ c' ∧ c' < codes ∧ mkp c' ∧ (∀ k, c ≤ k → k < c' → ¬ mkp k) ∧ found c' z.2) ∨ (z.1 = ki 0 ∧ ended z.2 ∧ ∀ k, c ≤ k → k < codes → ¬ mkp k))) _ ((codes : Int) - c + 1).toNat (s := (ki 0, μ0)) ⟨frY.refl, Or.inl ⟨rfl, by omega, by rw [show c + ((0 : Nat) : Int) = c by omega]; exact t0, fun k a b => by omega⟩⟩ (by omega) (fun t z ht hz => ?_)
  obtain ⟨v, ν⟩ := z
  obtain ⟨z1, z2⟩ := hz
  simp only [] at z1 z2
  rcases z2 with ⟨rfl, z2, z3, z4⟩ | ⟨rfl, z2⟩ | ⟨rfl, z2, z3⟩
  · by_cases e : c + t < codes
    · obtain ⟨ω, f1, f2⟩ := h1 (c + t) ν (by omega) e z1 z3
      rcases f2 with ⟨g1, g2, g3⟩ | ⟨g1, g2, g3⟩
      · exact ⟨_, g3, by omega, z1.trans f1, Or.inr (Or.inl ⟨rfl, c + t, by omega, e, g1, z4, g2⟩)⟩
      · refine ⟨_, g3, by omega, z1.trans f1, Or.inl ⟨rfl, by omega, by rw [show c + ((t + 1 : Nat) : Int) = c + t + 1 by omega]; exact g2, fun k a b => ?_⟩⟩
        by_cases kt : k = c + t
        · rw [kt]; exact g1
        · exact z4 k a (by omega)
    · have ec : c + (t : Int) = codes := by omega
      rw [ec] at z3
      obtain ⟨ω, f1, f2, f3⟩ := h2 ν z1 z3
      exact ⟨_, f3, by omega, z1.trans f1, Or.inr (Or.inr ⟨rfl, f2, fun k a b => z4 k a (by omega)⟩)⟩
  · exact ⟨_, h4 ν z1, z1, Or.inl ⟨rfl, z2⟩⟩
  · exact ⟨_, h3 ν z1 z2, z1, Or.inr ⟨rfl, z3⟩⟩
def fo3 (U : Int → Int) (c : Int) (μ : jM) : Prop := tr3 μ (c + 1) ∧ gi μ 95 42 = mkA 3 U c 0 ∧ gi μ 95 43 = mkA 3 U c 1 ∧ gi μ 95 44 = mkA 3 U c 2 ∧ gi μ 95 45 = mkC 3 U c 0 ∧ gi μ 95 46 = mkC 3 U c 1
set_option maxHeartbeats 1000000 in
theorem X12_goesOn3 {Y : jY} {μ : jM} (hM : kM Y μ) {U : Int → Int} (eN : gi μ 95 10 = 3) (hU : rowK μ 101 (((3 : Nat) : Int) + 1) U) (bU : ∀ j : Nat, j ≤ 3 → (U j).natAbs ≤ 1000000) {c : Int} (c0 : 0 ≤ c) (c1 : c ≤ 6084) (t0 : tr3 μ c) : ∃ r : Int32 × jM, f_X12_goesOn Y 95 μ = some r ∧ frY μ r.2 ∧ ((r.1 = ki 1 ∧ ∃ c', c ≤ c' ∧ c' < 6084 ∧ mk 3 U c' ∧ (∀ k, c ≤ k → k < c' → ¬ mk 3 U k) ∧ fo3 U c' r.2) ∨ (r.1 = ki 0 ∧ ∀ k, c ≤ k → k < 6084 → ¬ mk 3 U k)) := by
  have g := kM.g10 hM
  rw [eN] at g
  have E : f_X12_goesOn Y 95 μ = jit jF (fun (s : Int32 × jM) => b_X12_goesOn_34 Y 95 s.1 s.2) (ki 0, μ) := by
    simp (disch := omega) only [f_X12_goesOn, g, ki_0, ki_1, ki_2, ki_3, ki_4, ki_5, ki_6, ki_7, ki_8, ki_9, ki_10, ki_11, ki_12, ki_13, ki_18, ki_20, ki_24, ki_32, ki_36, ki_45, ki_47, ki_48, ki_50, ki_57, ki_60, ki_63, ki_99, ki_100, ki_101, ki_120, ki_255, ki_468, ki_1000, ki_1024, ki_13849, ki_25173, ki_65535, ki_65536, ki_100000, ki_100001, ki_2147483647, ki_2147483648, kl_0, kl_1, kl_2, kl_9223372036854775808, ki_add, ki_sub, ki_mul, ki_neg, kl_add, kl_sub, kl_mul, kl_neg, ki_i2l, kl_l2i, ki_lt, ki_le, ki_eq, kcmp_eq, kcmp_lt, kcmp_le, kcmp_gt, kcmp_ge, Option.bind_some, Option.map_some, kbool0, kbool1, if_pos, if_neg, if_true, if_false, Int.neg_neg, Int.sub_zero, Int.add_zero, Int.zero_add, true_and, and_true, false_and, and_false, false_or, or_false, true_or, or_true, ne_eq, not_false_eq_true, not_true_eq_false]
  rw [E]
  have stp : ∀ (c : Int) (ν : jM), 0 ≤ c → c ≤ 6084 → frY μ ν → tr3 ν c → ∃ ω, frY ν ω ∧ gi ω 95 42 = c / 468 - 6 ∧ gi ω 95 43 = c / 36 % 13 - 6 ∧ gi ω 95 45 = c % 36 + 1 ∧ b_X12_goesOn_34 Y 95 (ki 0) ν = (if ki 6 < ki (c / 468 - 6) then b_X12_goesOn_172 Y 95 ω else (f_X12_isTable Y 95 ω).bind fun r5 => if r5.1 = ki 0 then b_X12_goesOn_172 Y 95 r5.2 else b_X12_goesOn_173 Y 95 (ki 1) r5.2) := by
    intro c ν c0 c1 hν tr
    have hMν := hM.to hν.1
    obtain ⟨ω, s1, s2, s3, s4, s5⟩ := X12_steps hMν c0 c1 tr
    have hMω := hMν.to s2.1
    have g10 := kM.g10 hMν
    rw [hν.n, eN] at g10
    have g42 := kM.g42 hMν
    have g42' := kM.g42 hMω
    rw [s3] at g42'
    have b42 : gi ν 95 42 ≤ 6 ∧ -6 ≤ gi ν 95 42 := by
      unfold tr3 at tr
      omega
    refine ⟨ω, s2, s3, s4, s5, ?_⟩
    generalize gi ν 95 42 = x at *
    have go : b_X12_goesOn_34 Y 95 (ki 0) ν = (jgI Y ω 95 12 42).bind fun x4 => if ki 6 < x4 then b_X12_goesOn_172 Y 95 ω else (f_X12_isTable Y 95 ω).bind fun r5 => if r5.1 = ki 0 then b_X12_goesOn_172 Y 95 r5.2 else b_X12_goesOn_173 Y 95 (ki 1) r5.2 := by
      simp (disch := omega) only [b_X12_goesOn_34, g42, g10, krcv hM.y, s1, ki_0, ki_1, ki_2, ki_3, ki_4, ki_5, ki_6, ki_7, ki_8, ki_9, ki_10, ki_11, ki_12, ki_13, ki_18, ki_20, ki_24, ki_32, ki_36, ki_45, ki_47, ki_48, ki_50, ki_57, ki_60, ki_63, ki_99, ki_100, ki_101, ki_120, ki_255, ki_468, ki_1000, ki_1024, ki_13849, ki_25173, ki_65535, ki_65536, ki_100000, ki_100001, ki_2147483647, ki_2147483648, kl_0, kl_1, kl_2, kl_9223372036854775808, ki_add, ki_sub, ki_mul, ki_neg, kl_add, kl_sub, kl_mul, kl_neg, ki_i2l, kl_l2i, ki_lt, ki_le, ki_eq, kcmp_eq, kcmp_lt, kcmp_le, kcmp_gt, kcmp_ge, Option.bind_some, Option.map_some, kbool0, kbool1, if_pos, if_neg, if_true, if_false, Int.neg_neg, Int.sub_zero, Int.add_zero, Int.zero_add, true_and, and_true, false_and, and_false, false_or, or_false, true_or, or_true, ne_eq, not_false_eq_true, not_true_eq_false]
      rfl
    rw [go, g42']
    rfl
  refine goes_gen (F := fun (s : Int32 × jM) => b_X12_goesOn_34 Y 95 s.1 s.2) (codes := 6084) (by omega) (mkp := mk 3 U) (tried := fun c ν => tr3 ν c) (found := fo3 U) (ended := fun ν => gi ν 95 42 = 7) (fun c ν a b hν tr => ?_) (fun ν hν tr => ?_) (fun ν hν e => ?_) (fun ν hν => ?_) c0 c1 t0
  · obtain ⟨ω, s2, s3, s4, s5, go⟩ := stp c ν a (by omega) hν tr
    have hMω := (hM.to hν.1).to s2.1
    have kk := hν.trans s2
    obtain ⟨r, ξ, i1, i2, i3, i4⟩ := X12_isTable hMω (hU.to kk.1 (by omega)) bU a (by omega) s3 s4 s5
    have n6 : ¬ ki 6 < ki (c / 468 - 6) := by rw [ki_lt (by omega) (by omega) (by omega) (by omega)]; omega
    refine ⟨ξ, s2.trans i2, ?_⟩
    rcases i4 with ⟨rfl, i4⟩ | ⟨rfl, i4, i5, i6⟩
    · refine Or.inr ⟨i4, Or.inr ⟨by omega, ?_, ?_, ?_⟩, ?_⟩
      · rw [i3 42 (by decide) (by decide), s3, Int.add_sub_cancel]
      · rw [i3 43 (by decide) (by decide), s4, Int.add_sub_cancel]
      · rw [i3 45 (by decide) (by decide), s5, Int.add_sub_cancel]
      · simp only []
        rw [go, if_neg n6, i1]
        simp (disch := omega) only [b_X12_goesOn_172, b_X12_goesOn_173, ki_0, ki_1, ki_2, ki_3, ki_4, ki_5, ki_6, ki_7, ki_8, ki_9, ki_10, ki_11, ki_12, ki_13, ki_18, ki_20, ki_24, ki_32, ki_36, ki_45, ki_47, ki_48, ki_50, ki_57, ki_60, ki_63, ki_99, ki_100, ki_101, ki_120, ki_255, ki_468, ki_1000, ki_1024, ki_13849, ki_25173, ki_65535, ki_65536, ki_100000, ki_100001, ki_2147483647, ki_2147483648, kl_0, kl_1, kl_2, kl_9223372036854775808, ki_add, ki_sub, ki_mul, ki_neg, kl_add, kl_sub, kl_mul, kl_neg, ki_i2l, kl_l2i, ki_lt, ki_le, ki_eq, kcmp_eq, kcmp_lt, kcmp_le, kcmp_gt, kcmp_ge, Option.bind_some, Option.map_some, kbool0, kbool1, if_pos, if_neg, if_true, if_false, Int.neg_neg, Int.sub_zero, Int.add_zero, Int.zero_add, true_and, and_true, false_and, and_false, false_or, or_false, true_or, or_true, ne_eq, not_false_eq_true, not_true_eq_false]
    · refine Or.inl ⟨i4, ⟨Or.inr ⟨by omega, ?_, ?_, ?_⟩, ?_, ?_, i5, ?_, i6⟩, ?_⟩
      · rw [i3 42 (by decide) (by decide), s3, Int.add_sub_cancel]
      · rw [i3 43 (by decide) (by decide), s4, Int.add_sub_cancel]
      · rw [i3 45 (by decide) (by decide), s5, Int.add_sub_cancel]
      · rw [i3 42 (by decide) (by decide), s3]
        rfl
      · rw [i3 43 (by decide) (by decide), s4]
        rfl
      · rw [i3 45 (by decide) (by decide), s5]
        rfl
      · simp only []
        rw [go, if_neg n6, i1]
        simp (disch := omega) only [b_X12_goesOn_173, ki_0, ki_1, ki_2, ki_3, ki_4, ki_5, ki_6, ki_7, ki_8, ki_9, ki_10, ki_11, ki_12, ki_13, ki_18, ki_20, ki_24, ki_32, ki_36, ki_45, ki_47, ki_48, ki_50, ki_57, ki_60, ki_63, ki_99, ki_100, ki_101, ki_120, ki_255, ki_468, ki_1000, ki_1024, ki_13849, ki_25173, ki_65535, ki_65536, ki_100000, ki_100001, ki_2147483647, ki_2147483648, kl_0, kl_1, kl_2, kl_9223372036854775808, ki_add, ki_sub, ki_mul, ki_neg, kl_add, kl_sub, kl_mul, kl_neg, ki_i2l, kl_l2i, ki_lt, ki_le, ki_eq, kcmp_eq, kcmp_lt, kcmp_le, kcmp_gt, kcmp_ge, Option.bind_some, Option.map_some, kbool0, kbool1, if_pos, if_neg, if_true, if_false, Int.neg_neg, Int.sub_zero, Int.add_zero, Int.zero_add, true_and, and_true, false_and, and_false, false_or, or_false, true_or, or_true, ne_eq, not_false_eq_true, not_true_eq_false]
  · obtain ⟨ω, s2, s3, s4, s5, go⟩ := stp ((6084 : Nat) : Int) ν (by omega) (by omega) hν tr
    refine ⟨ω, s2, s3, ?_⟩
    simp only []
    rw [go]
    have p6 : ki 6 < ki (((6084 : Nat) : Int) / 468 - 6) := by decide
    rw [if_pos p6]
    simp (disch := omega) only [b_X12_goesOn_172, b_X12_goesOn_173, ki_0, ki_1, ki_2, ki_3, ki_4, ki_5, ki_6, ki_7, ki_8, ki_9, ki_10, ki_11, ki_12, ki_13, ki_18, ki_20, ki_24, ki_32, ki_36, ki_45, ki_47, ki_48, ki_50, ki_57, ki_60, ki_63, ki_99, ki_100, ki_101, ki_120, ki_255, ki_468, ki_1000, ki_1024, ki_13849, ki_25173, ki_65535, ki_65536, ki_100000, ki_100001, ki_2147483647, ki_2147483648, kl_0, kl_1, kl_2, kl_9223372036854775808, ki_add, ki_sub, ki_mul, ki_neg, kl_add, kl_sub, kl_mul, kl_neg, ki_i2l, kl_l2i, ki_lt, ki_le, ki_eq, kcmp_eq, kcmp_lt, kcmp_le, kcmp_gt, kcmp_ge, Option.bind_some, Option.map_some, kbool0, kbool1, if_pos, if_neg, if_true, if_false, Int.neg_neg, Int.sub_zero, Int.add_zero, Int.zero_add, true_and, and_true, false_and, and_false, false_or, or_false, true_or, or_true, ne_eq, not_false_eq_true, not_true_eq_false]
  · have g42 := kM.g42 (hM.to hν.1)
    rw [e] at g42
    simp (disch := omega) only [b_X12_goesOn_34, b_X12_goesOn_177, g42, ki_0, ki_1, ki_2, ki_3, ki_4, ki_5, ki_6, ki_7, ki_8, ki_9, ki_10, ki_11, ki_12, ki_13, ki_18, ki_20, ki_24, ki_32, ki_36, ki_45, ki_47, ki_48, ki_50, ki_57, ki_60, ki_63, ki_99, ki_100, ki_101, ki_120, ki_255, ki_468, ki_1000, ki_1024, ki_13849, ki_25173, ki_65535, ki_65536, ki_100000, ki_100001, ki_2147483647, ki_2147483648, kl_0, kl_1, kl_2, kl_9223372036854775808, ki_add, ki_sub, ki_mul, ki_neg, kl_add, kl_sub, kl_mul, kl_neg, ki_i2l, kl_l2i, ki_lt, ki_le, ki_eq, kcmp_eq, kcmp_lt, kcmp_le, kcmp_gt, kcmp_ge, Option.bind_some, Option.map_some, kbool0, kbool1, if_pos, if_neg, if_true, if_false, Int.neg_neg, Int.sub_zero, Int.add_zero, Int.zero_add, true_and, and_true, false_and, and_false, false_or, or_false, true_or, or_true, ne_eq, not_false_eq_true, not_true_eq_false]
  · simp (disch := omega) only [b_X12_goesOn_34, b_X12_goesOn_177, ki_0, ki_1, ki_2, ki_3, ki_4, ki_5, ki_6, ki_7, ki_8, ki_9, ki_10, ki_11, ki_12, ki_13, ki_18, ki_20, ki_24, ki_32, ki_36, ki_45, ki_47, ki_48, ki_50, ki_57, ki_60, ki_63, ki_99, ki_100, ki_101, ki_120, ki_255, ki_468, ki_1000, ki_1024, ki_13849, ki_25173, ki_65535, ki_65536, ki_100000, ki_100001, ki_2147483647, ki_2147483648, kl_0, kl_1, kl_2, kl_9223372036854775808, ki_add, ki_sub, ki_mul, ki_neg, kl_add, kl_sub, kl_mul, kl_neg, ki_i2l, kl_l2i, ki_lt, ki_le, ki_eq, kcmp_eq, kcmp_lt, kcmp_le, kcmp_gt, kcmp_ge, Option.bind_some, Option.map_some, kbool0, kbool1, if_pos, if_neg, if_true, if_false, Int.neg_neg, Int.sub_zero, Int.add_zero, Int.zero_add, true_and, and_true, false_and, and_false, false_or, or_false, true_or, or_true, ne_eq, not_false_eq_true, not_true_eq_false]
theorem mk_2 {U : Int → Int} {c a b d : Int} (ha : a = c - 6) (hb : b = -(U 1) - a) (hd : d = a * b - U 0) : (mk 2 U c ↔ (-6 ≤ b ∧ b ≤ 6) ∧ 1 ≤ d ∧ d ≤ 36) ∧ mkA 2 U c 0 = a ∧ mkA 2 U c 1 = b ∧ mkC 2 U c 0 = d := by
  have L : laA 2 U (cdA 2 c) = b := by
    show -(U 1) - (0 + cdA 2 c 0) = b
    rw [show cdA 2 c 0 = a from ha.symm, hb]
    omega
  have A0 : roA 2 U (cdA 2 c) 0 = a := by
    show cdA 2 c 0 = a
    exact ha.symm
  have A1 : roA 2 U (cdA 2 c) 1 = b := by
    show laA 2 U (cdA 2 c) = b
    exact L
  have M : laC 2 U (cdA 2 c) (cdC c) = d := by
    show -(U 0) + (0 + 0 + (0 + roA 2 U (cdA 2 c) 1 * roA 2 U (cdA 2 c) 0)) - 0 = d
    rw [A0, A1, hd, Int.mul_comm b a]
    omega
  have C0 : roC 2 U (cdA 2 c) (cdC c) 0 = d := by
    show laC 2 U (cdA 2 c) (cdC c) = d
    exact M
  have V : (pv (roA 2 U (cdA 2 c)) (roC 2 U (cdA 2 c) (cdC c)) 0 1 0 2).2 = U 0 := by
    show (0 - 1 * roA 2 U (cdA 2 c) 1) * ((0 - 1 * roA 2 U (cdA 2 c) 0) * 1 - 1 * 1 * roC 2 U (cdA 2 c) (cdC c) (0 + ((0 : Nat) : Int) - 1) * 0) - 1 * 1 * roC 2 U (cdA 2 c) (cdC c) 0 * 1 = U 0
    rw [A0, A1, C0, Int.mul_zero, hd]
    grind
  refine ⟨?_, A0, A1, C0⟩
  unfold mk mkP
  rw [L, M, V]
  exact ⟨fun h => ⟨h.1, h.2.1 (by omega)⟩, fun h => ⟨h.1, fun _ => h.2, rfl⟩⟩
def fo2 (U : Int → Int) (c : Int) (μ : jM) : Prop := gi μ 95 42 = c - 6 ∧ gi μ 95 43 = mkA 2 U c 1 ∧ gi μ 95 45 = mkC 2 U c 0
set_option maxHeartbeats 1000000 in
theorem X12_goesOn2 {Y : jY} {μ : jM} (hM : kM Y μ) {U : Int → Int} (eN : gi μ 95 10 = 2) (hU : rowK μ 101 (((2 : Nat) : Int) + 1) U) (bU : ∀ j : Nat, j ≤ 2 → (U j).natAbs ≤ 1000000) {c : Int} (c0 : 0 ≤ c) (c1 : c ≤ 13) (t0 : gi μ 95 42 = c - 7) : ∃ r : Int32 × jM, f_X12_goesOn Y 95 μ = some r ∧ frY μ r.2 ∧ ((r.1 = ki 1 ∧ ∃ c', c ≤ c' ∧ c' < 13 ∧ mk 2 U c' ∧ (∀ k, c ≤ k → k < c' → ¬ mk 2 U k) ∧ fo2 U c' r.2) ∨ (r.1 = ki 0 ∧ ∀ k, c ≤ k → k < 13 → ¬ mk 2 U k)) := by
  have g := kM.g10 hM
  rw [eN] at g
  have E : f_X12_goesOn Y 95 μ = jit jF (fun (s : Int32 × jM) => b_X12_goesOn_34 Y 95 s.1 s.2) (ki 0, μ) := by
    simp (disch := omega) only [f_X12_goesOn, g, ki_0, ki_1, ki_2, ki_3, ki_4, ki_5, ki_6, ki_7, ki_8, ki_9, ki_10, ki_11, ki_12, ki_13, ki_18, ki_20, ki_24, ki_32, ki_36, ki_45, ki_47, ki_48, ki_50, ki_57, ki_60, ki_63, ki_99, ki_100, ki_101, ki_120, ki_255, ki_468, ki_1000, ki_1024, ki_13849, ki_25173, ki_65535, ki_65536, ki_100000, ki_100001, ki_2147483647, ki_2147483648, kl_0, kl_1, kl_2, kl_9223372036854775808, ki_add, ki_sub, ki_mul, ki_neg, kl_add, kl_sub, kl_mul, kl_neg, ki_i2l, kl_l2i, ki_lt, ki_le, ki_eq, kcmp_eq, kcmp_lt, kcmp_le, kcmp_gt, kcmp_ge, Option.bind_some, Option.map_some, kbool0, kbool1, if_pos, if_neg, if_true, if_false, Int.neg_neg, Int.sub_zero, Int.add_zero, Int.zero_add, true_and, and_true, false_and, and_false, false_or, or_false, true_or, or_true, ne_eq, not_false_eq_true, not_true_eq_false]
  rw [E]
  have b0 : (U 0).natAbs ≤ 1000000 := bU 0 (by omega)
  have b1 : (U 1).natAbs ≤ 1000000 := bU 1 (by omega)
  have stp : ∀ (c : Int) (ν : jM), 0 ≤ c → c ≤ 13 → frY μ ν → gi ν 95 42 = c - 7 → ∃ ω, frY ν ω ∧ gi ω 95 42 = c - 6 ∧ gi ω 95 43 = -(U 1) - (c - 6) ∧ gi ω 95 45 = (c - 6) * (-(U 1) - (c - 6)) - U 0 ∧ b_X12_goesOn_34 Y 95 (ki 0) ν = (if ki 6 < ki (c - 6) then b_X12_goesOn_143 Y 95 ω else (f_X12_in Y (ki (-(U 1) - (c - 6))) (ki (-6)) (ki 6) ω).bind fun r19 => if r19.1 = ki 0 then b_X12_goesOn_143 Y 95 r19.2 else (jgI Y r19.2 95 12 45).bind fun x20 => (f_X12_in Y x20 (ki 1) (ki 36) r19.2).bind fun r21 => if r21.1 = ki 0 then b_X12_goesOn_143 Y 95 r21.2 else b_X12_goesOn_144 Y 95 (ki 1) r21.2) := by
    intro c ν c0 c1 hν tr
    have hMν := hM.to hν.1
    have g10 := kM.g10 hMν
    rw [hν.n, eN] at g10
    have g42 := kM.g42 hMν
    rw [tr] at g42
    obtain ⟨x, hx⟩ : ∃ x, x = c - 6 := ⟨_, rfl⟩
    obtain ⟨y, hy⟩ : ∃ y, y = -(U 1) - x := ⟨_, rfl⟩
    have mm := mulB (a := x) (b := y) (A := 7) (B := 2000000) (by omega) (by omega) (by omega) (by omega)
    obtain ⟨z, hz⟩ : ∃ z, z = x * y - U 0 := ⟨_, rfl⟩
    rw [← hx, ← hy, ← hz]
    have F1 := frY.w (Y := Y) hMν (k := 42) (by omega) (by omega) x
    have v1 := fun a => gj (μ := ν) (k := 42) (v := x) a (by omega) (by omega)
    generalize hμ1 : jw ν 95 42 (.int (ki x)) = μ1 at *
    have hM1 := hMν.to F1.1
    have u1 := kaLv (kM.a101 hM1) (x := 1) (by omega) (by omega) ((hU.to (hν.trans F1).1 (by omega)) 1 (by omega) (by omega))
    have g1 := kM.g42 hM1
    rw [show gi μ1 95 42 = x from by rw [v1]; rfl] at g1
    have F2 := frY.w (Y := Y) hM1 (k := 43) (by omega) (by omega) y
    have v2 := fun a => gj (μ := μ1) (k := 43) (v := y) a (by omega) (by omega)
    generalize hμ2 : jw μ1 95 43 (.int (ki y)) = μ2 at *
    have hM2 := hM1.to F2.1
    have g2 := kM.g42 hM2
    rw [show gi μ2 95 42 = x from by rw [v2]; exact (v1 42).trans rfl] at g2
    have g3 := kM.g43 hM2
    rw [show gi μ2 95 43 = y from by rw [v2]; rfl] at g3
    have u0 := kaLv (kM.a101 hM2) (x := 0) (by omega) (by omega) ((hU.to ((hν.trans F1).trans F2).1 (by omega)) 0 (by omega) (by omega))
    have F3 := frY.w (Y := Y) hM2 (k := 45) (by omega) (by omega) z
    have v3 := fun a => gj (μ := μ2) (k := 45) (v := z) a (by omega) (by omega)
    generalize hμ3 : jw μ2 95 45 (.int (ki z)) = μ3 at *
    have hM3 := hM2.to F3.1
    have e42 : gi μ3 95 42 = x := by rw [v3]; exact (v2 42).trans ((v1 42).trans rfl)
    have e43 : gi μ3 95 43 = y := by rw [v3]; exact (v2 43).trans rfl
    have e45 : gi μ3 95 45 = z := by rw [v3]; rfl
    have g4 := kM.g42 hM3
    have g5 := kM.g43 hM3
    rw [e42] at g4
    rw [e43] at g5
    refine ⟨μ3, (F1.trans F2).trans F3, e42, e43, e45, ?_⟩
    have w0 : ki (c - 7) + ki 1 = ki x := by rw [ki_add, hx]; congr 1; omega
    have w1 : ki (-(U 1)) - ki x = ki y := by rw [ki_sub, hy]
    have w2 : ki x * ki y - ki (U 0) = ki z := by rw [ki_mul, ki_sub, hz]
    have lt : ¬ ki 6 < ki (c - 7) := by rw [ki_lt (by omega) (by omega) (by omega) (by omega)]; omega
    have n2 : (ki 2 = ki 2) = True := by simp
    simp only [b_X12_goesOn_34, ki_0, ki_1, ki_2, ki_6, ki_36, ki_neg, if_true, g42, g10, Option.bind_some, if_neg lt, w0, kM.p hM, hμ1, kM.o13 hM1, u1, g1, l2i_neg, w1, hμ2, g2, g3, kM.o13 hM2, u0, kl_l2i, w2, hμ3, g4, g5]
    rfl
  refine goes_gen (F := fun (s : Int32 × jM) => b_X12_goesOn_34 Y 95 s.1 s.2) (codes := 13) (by omega) (mkp := mk 2 U) (tried := fun c ν => gi ν 95 42 = c - 7) (found := fo2 U) (ended := fun ν => gi ν 95 42 = 7) (fun c ν a b hν tr => ?_) (fun ν hν tr => ?_) (fun ν hν e => ?_) (fun ν hν => ?_) c0 c1 t0
  · have b : c < 13 := b
    obtain ⟨ω, s2, s3, s4, s5, go⟩ := stp c ν a (by omega) hν tr
    have hMω := (hM.to hν.1).to s2.1
    have n6 : ¬ ki 6 < ki (c - 6) := by rw [ki_lt (by omega) (by omega) (by omega) (by omega)]; omega
    obtain ⟨I, m0, m1, m2⟩ := mk_2 (U := U) (c := c) rfl rfl rfl
    have g45 := kM.g45 hMω
    rw [s5] at g45
    have mm := mulB (a := c - 6) (b := -(U 1) - (c - 6)) (A := 7) (B := 2000000) (by omega) (by omega) (by omega) (by omega)
    rw [if_neg n6] at go
    refine ⟨ω, s2, ?_⟩
    by_cases q1 : -6 ≤ -(U 1) - (c - 6) ∧ -(U 1) - (c - 6) ≤ 6
    · by_cases q2 : 1 ≤ (c - 6) * (-(U 1) - (c - 6)) - U 0 ∧ (c - 6) * (-(U 1) - (c - 6)) - U 0 ≤ 36
      · refine Or.inl ⟨I.2 ⟨q1, q2⟩, ⟨s3, by rw [s4, m1], by rw [s5, m2]⟩, ?_⟩
        simp only []
        rw [go]
        clear I m0 m1 m2 s5 go
        generalize (c - 6) * (-(U 1) - (c - 6)) = pp at *
        simp (disch := omega) only [X12_in, g45, b_X12_goesOn_144, ki_0, ki_1, ki_2, ki_3, ki_4, ki_5, ki_6, ki_7, ki_8, ki_9, ki_10, ki_11, ki_12, ki_13, ki_18, ki_20, ki_24, ki_32, ki_36, ki_45, ki_47, ki_48, ki_50, ki_57, ki_60, ki_63, ki_99, ki_100, ki_101, ki_120, ki_255, ki_468, ki_1000, ki_1024, ki_13849, ki_25173, ki_65535, ki_65536, ki_100000, ki_100001, ki_2147483647, ki_2147483648, kl_0, kl_1, kl_2, kl_9223372036854775808, ki_add, ki_sub, ki_mul, ki_neg, kl_add, kl_sub, kl_mul, kl_neg, ki_i2l, kl_l2i, ki_lt, ki_le, ki_eq, kcmp_eq, kcmp_lt, kcmp_le, kcmp_gt, kcmp_ge, Option.bind_some, Option.map_some, kbool0, kbool1, if_pos, if_neg, if_true, if_false, Int.neg_neg, Int.sub_zero, Int.add_zero, Int.zero_add, true_and, and_true, false_and, and_false, false_or, or_false, true_or, or_true, ne_eq, not_false_eq_true, not_true_eq_false]
      · refine Or.inr ⟨fun h => q2 (I.1 h).2, by rw [s3]; omega, ?_⟩
        simp only []
        rw [go]
        clear I m0 m1 m2 s5 go
        generalize (c - 6) * (-(U 1) - (c - 6)) = pp at *
        simp (disch := omega) only [X12_in, g45, b_X12_goesOn_143, b_X12_goesOn_144, ki_0, ki_1, ki_2, ki_3, ki_4, ki_5, ki_6, ki_7, ki_8, ki_9, ki_10, ki_11, ki_12, ki_13, ki_18, ki_20, ki_24, ki_32, ki_36, ki_45, ki_47, ki_48, ki_50, ki_57, ki_60, ki_63, ki_99, ki_100, ki_101, ki_120, ki_255, ki_468, ki_1000, ki_1024, ki_13849, ki_25173, ki_65535, ki_65536, ki_100000, ki_100001, ki_2147483647, ki_2147483648, kl_0, kl_1, kl_2, kl_9223372036854775808, ki_add, ki_sub, ki_mul, ki_neg, kl_add, kl_sub, kl_mul, kl_neg, ki_i2l, kl_l2i, ki_lt, ki_le, ki_eq, kcmp_eq, kcmp_lt, kcmp_le, kcmp_gt, kcmp_ge, Option.bind_some, Option.map_some, kbool0, kbool1, if_pos, if_neg, if_true, if_false, Int.neg_neg, Int.sub_zero, Int.add_zero, Int.zero_add, true_and, and_true, false_and, and_false, false_or, or_false, true_or, or_true, ne_eq, not_false_eq_true, not_true_eq_false]
    · refine Or.inr ⟨fun h => q1 (I.1 h).1, by rw [s3]; omega, ?_⟩
      simp only []
      rw [go]
      clear I m0 m1 m2 s5 go
      simp (disch := omega) only [X12_in, b_X12_goesOn_143, b_X12_goesOn_144, ki_0, ki_1, ki_2, ki_3, ki_4, ki_5, ki_6, ki_7, ki_8, ki_9, ki_10, ki_11, ki_12, ki_13, ki_18, ki_20, ki_24, ki_32, ki_36, ki_45, ki_47, ki_48, ki_50, ki_57, ki_60, ki_63, ki_99, ki_100, ki_101, ki_120, ki_255, ki_468, ki_1000, ki_1024, ki_13849, ki_25173, ki_65535, ki_65536, ki_100000, ki_100001, ki_2147483647, ki_2147483648, kl_0, kl_1, kl_2, kl_9223372036854775808, ki_add, ki_sub, ki_mul, ki_neg, kl_add, kl_sub, kl_mul, kl_neg, ki_i2l, kl_l2i, ki_lt, ki_le, ki_eq, kcmp_eq, kcmp_lt, kcmp_le, kcmp_gt, kcmp_ge, Option.bind_some, Option.map_some, kbool0, kbool1, if_pos, if_neg, if_true, if_false, Int.neg_neg, Int.sub_zero, Int.add_zero, Int.zero_add, true_and, and_true, false_and, and_false, false_or, or_false, true_or, or_true, ne_eq, not_false_eq_true, not_true_eq_false]
  · obtain ⟨ω, s2, s3, s4, s5, go⟩ := stp ((13 : Nat) : Int) ν (by omega) (by omega) hν tr
    refine ⟨ω, s2, s3, ?_⟩
    simp only []
    rw [go]
    have p6 : ki 6 < ki (((13 : Nat) : Int) - 6) := by decide
    rw [if_pos p6]
    simp (disch := omega) only [b_X12_goesOn_143, b_X12_goesOn_144, ki_0, ki_1, ki_2, ki_3, ki_4, ki_5, ki_6, ki_7, ki_8, ki_9, ki_10, ki_11, ki_12, ki_13, ki_18, ki_20, ki_24, ki_32, ki_36, ki_45, ki_47, ki_48, ki_50, ki_57, ki_60, ki_63, ki_99, ki_100, ki_101, ki_120, ki_255, ki_468, ki_1000, ki_1024, ki_13849, ki_25173, ki_65535, ki_65536, ki_100000, ki_100001, ki_2147483647, ki_2147483648, kl_0, kl_1, kl_2, kl_9223372036854775808, ki_add, ki_sub, ki_mul, ki_neg, kl_add, kl_sub, kl_mul, kl_neg, ki_i2l, kl_l2i, ki_lt, ki_le, ki_eq, kcmp_eq, kcmp_lt, kcmp_le, kcmp_gt, kcmp_ge, Option.bind_some, Option.map_some, kbool0, kbool1, if_pos, if_neg, if_true, if_false, Int.neg_neg, Int.sub_zero, Int.add_zero, Int.zero_add, true_and, and_true, false_and, and_false, false_or, or_false, true_or, or_true, ne_eq, not_false_eq_true, not_true_eq_false]
  · have g42 := kM.g42 (hM.to hν.1)
    rw [e] at g42
    simp (disch := omega) only [b_X12_goesOn_34, b_X12_goesOn_177, g42, ki_0, ki_1, ki_2, ki_3, ki_4, ki_5, ki_6, ki_7, ki_8, ki_9, ki_10, ki_11, ki_12, ki_13, ki_18, ki_20, ki_24, ki_32, ki_36, ki_45, ki_47, ki_48, ki_50, ki_57, ki_60, ki_63, ki_99, ki_100, ki_101, ki_120, ki_255, ki_468, ki_1000, ki_1024, ki_13849, ki_25173, ki_65535, ki_65536, ki_100000, ki_100001, ki_2147483647, ki_2147483648, kl_0, kl_1, kl_2, kl_9223372036854775808, ki_add, ki_sub, ki_mul, ki_neg, kl_add, kl_sub, kl_mul, kl_neg, ki_i2l, kl_l2i, ki_lt, ki_le, ki_eq, kcmp_eq, kcmp_lt, kcmp_le, kcmp_gt, kcmp_ge, Option.bind_some, Option.map_some, kbool0, kbool1, if_pos, if_neg, if_true, if_false, Int.neg_neg, Int.sub_zero, Int.add_zero, Int.zero_add, true_and, and_true, false_and, and_false, false_or, or_false, true_or, or_true, ne_eq, not_false_eq_true, not_true_eq_false]
  · simp (disch := omega) only [b_X12_goesOn_34, b_X12_goesOn_177, ki_0, ki_1, ki_2, ki_3, ki_4, ki_5, ki_6, ki_7, ki_8, ki_9, ki_10, ki_11, ki_12, ki_13, ki_18, ki_20, ki_24, ki_32, ki_36, ki_45, ki_47, ki_48, ki_50, ki_57, ki_60, ki_63, ki_99, ki_100, ki_101, ki_120, ki_255, ki_468, ki_1000, ki_1024, ki_13849, ki_25173, ki_65535, ki_65536, ki_100000, ki_100001, ki_2147483647, ki_2147483648, kl_0, kl_1, kl_2, kl_9223372036854775808, ki_add, ki_sub, ki_mul, ki_neg, kl_add, kl_sub, kl_mul, kl_neg, ki_i2l, kl_l2i, ki_lt, ki_le, ki_eq, kcmp_eq, kcmp_lt, kcmp_le, kcmp_gt, kcmp_ge, Option.bind_some, Option.map_some, kbool0, kbool1, if_pos, if_neg, if_true, if_false, Int.neg_neg, Int.sub_zero, Int.add_zero, Int.zero_add, true_and, and_true, false_and, and_false, false_or, or_false, true_or, or_true, ne_eq, not_false_eq_true, not_true_eq_false]
def trN (N : Nat) (c : Int) (ν : jM) : Prop := match N with
  | 1 => gi ν 95 42 = c
  | 2 => gi ν 95 42 = c - 7
  | _ => tr3 ν c
def foN (N : Nat) (U : Int → Int) (c : Int) (ν : jM) : Prop := match N with
  | 1 => gi ν 95 42 = c + 1
  | 2 => fo2 U c ν
  | _ => fo3 U c ν
theorem foN_tr {N : Nat} {U : Int → Int} {c : Int} {ν : jM} (N1 : 1 ≤ N) (N3 : N ≤ 3) (h : foN N U c ν) : trN N (c + 1) ν := by
  have : N = 1 ∨ N = 2 ∨ N = 3 := by omega
  rcases this with rfl | rfl | rfl
  · exact h
  · show gi ν 95 42 = c + 1 - 7
    have h : fo2 U c ν := h
    rw [h.1]
    omega
  · have h : fo3 U c ν := h
    exact h.1
theorem mk_1 {U : Int → Int} (h : (U 0).natAbs ≤ 6) : mk 1 U 0 ∧ mkA 1 U 0 0 = -(U 0) := by
  have L : laA 1 U (cdA 1 0) = -(U 0) := by
    show -(U 0) - 0 = -(U 0)
    omega
  have A0 : roA 1 U (cdA 1 0) 0 = -(U 0) := by
    show laA 1 U (cdA 1 0) = -(U 0)
    exact L
  refine ⟨⟨by rw [L]; omega, fun q => by omega, ?_⟩, A0⟩
  show (0 - 1 * roA 1 U (cdA 1 0) 0) * 1 - 1 * 1 * roC 1 U (cdA 1 0) (cdC 0) (0 + ((0 : Nat) : Int) - 1) * 0 = U 0
  rw [A0, Int.mul_zero]
  omega
theorem X12_goesOn {Y : jY} {μ : jM} (hM : kM Y μ) {N : Nat} (N1 : 1 ≤ N) (N3 : N ≤ 3) {U : Int → Int} (eN : gi μ 95 10 = (N : Int)) (hU : rowK μ 101 ((N : Int) + 1) U) (bU : ∀ j : Nat, j ≤ N → (U j).natAbs ≤ 1000000) (u1 : N = 1 → (U 0).natAbs ≤ 6) {c : Int} (c0 : 0 ≤ c) (c1 : c ≤ cdN N) (t0 : trN N c μ) : ∃ r : Int32 × jM, f_X12_goesOn Y 95 μ = some r ∧ frY μ r.2 ∧ ((r.1 = ki 1 ∧ ∃ c', c ≤ c' ∧ c' < cdN N ∧ mk N U c' ∧ (∀ k, c ≤ k → k < c' → ¬ mk N U k) ∧ foN N U c' r.2) ∨ (r.1 = ki 0 ∧ ∀ k, c ≤ k → k < cdN N → ¬ mk N U k)) := by
  have : N = 1 ∨ N = 2 ∨ N = 3 := by omega
  rcases this with rfl | rfl | rfl
  · have c1 : c ≤ 1 := c1
    have t0 : gi μ 95 42 = c := t0
    have g := kM.g10 hM
    rw [eN] at g
    have g : jgI Y μ 95 12 10 = some (ki 1) := g
    have g42 := kM.g42 hM
    rw [t0] at g42
    have F1 := frY.w (Y := Y) hM (k := 42) (by omega) (by omega) (c + 1)
    have v1 := gj (μ := μ) (k := 42) (v := c + 1) 42 (by omega) (by omega)
    generalize hμ1 : jw μ 95 42 (.int (ki (c + 1))) = μ1 at *
    have hM1 := hM.to F1.1
    have e42 : gi μ1 95 42 = c + 1 := by rw [v1]; rfl
    have g1 := kM.g42 hM1
    rw [e42] at g1
    by_cases e : c = 0
    · refine ⟨(ki 1, μ1), ?_, F1, Or.inl ⟨rfl, 0, by omega, by decide, (mk_1 (u1 rfl)).1, fun k a b => by omega, by show gi μ1 95 42 = 0 + 1; rw [e42]; omega⟩⟩
      simp (disch := omega) only [f_X12_goesOn, b_X12_goesOn_31, g, g42, kM.p hM, hμ1, g1, ki_0, ki_1, ki_2, ki_3, ki_4, ki_5, ki_6, ki_7, ki_8, ki_9, ki_10, ki_11, ki_12, ki_13, ki_18, ki_20, ki_24, ki_32, ki_36, ki_45, ki_47, ki_48, ki_50, ki_57, ki_60, ki_63, ki_99, ki_100, ki_101, ki_120, ki_255, ki_468, ki_1000, ki_1024, ki_13849, ki_25173, ki_65535, ki_65536, ki_100000, ki_100001, ki_2147483647, ki_2147483648, kl_0, kl_1, kl_2, kl_9223372036854775808, ki_add, ki_sub, ki_mul, ki_neg, kl_add, kl_sub, kl_mul, kl_neg, ki_i2l, kl_l2i, ki_lt, ki_le, ki_eq, kcmp_eq, kcmp_lt, kcmp_le, kcmp_gt, kcmp_ge, Option.bind_some, Option.map_some, kbool0, kbool1, if_pos, if_neg, if_true, if_false, Int.neg_neg, Int.sub_zero, Int.add_zero, Int.zero_add, true_and, and_true, false_and, and_false, false_or, or_false, true_or, or_true, ne_eq, not_false_eq_true, not_true_eq_false]
    · refine ⟨(ki 0, μ1), ?_, F1, Or.inr ⟨rfl, fun k a b => by have b : k < 1 := b; omega⟩⟩
      simp (disch := omega) only [f_X12_goesOn, b_X12_goesOn_31, g, g42, kM.p hM, hμ1, g1, ki_0, ki_1, ki_2, ki_3, ki_4, ki_5, ki_6, ki_7, ki_8, ki_9, ki_10, ki_11, ki_12, ki_13, ki_18, ki_20, ki_24, ki_32, ki_36, ki_45, ki_47, ki_48, ki_50, ki_57, ki_60, ki_63, ki_99, ki_100, ki_101, ki_120, ki_255, ki_468, ki_1000, ki_1024, ki_13849, ki_25173, ki_65535, ki_65536, ki_100000, ki_100001, ki_2147483647, ki_2147483648, kl_0, kl_1, kl_2, kl_9223372036854775808, ki_add, ki_sub, ki_mul, ki_neg, kl_add, kl_sub, kl_mul, kl_neg, ki_i2l, kl_l2i, ki_lt, ki_le, ki_eq, kcmp_eq, kcmp_lt, kcmp_le, kcmp_gt, kcmp_ge, Option.bind_some, Option.map_some, kbool0, kbool1, if_pos, if_neg, if_true, if_false, Int.neg_neg, Int.sub_zero, Int.add_zero, Int.zero_add, true_and, and_true, false_and, and_false, false_or, or_false, true_or, or_true, ne_eq, not_false_eq_true, not_true_eq_false]
  · exact X12_goesOn2 hM eN hU bU c0 c1 t0
  · exact X12_goesOn3 hM eN hU bU c0 c1 t0
