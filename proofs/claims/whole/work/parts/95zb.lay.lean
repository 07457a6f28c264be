/-! ALL TABLES: one of them laid into a drawer -/
theorem smI_bd (N : Nat) (U : Int → Int) : ∀ t : Nat, 0 ≤ smF (mkI N U) t ∧ smF (mkI N U) t ≤ t := by
  intro t
  induction t with
  | zero => exact ⟨Int.le_refl 0, Int.le_refl 0⟩
  | succ t ih =>
    have hs : smF (mkI N U) (t + 1) = smF (mkI N U) t + mkI N U t := rfl
    have : mkI N U t = 0 ∨ mkI N U t = 1 := by
      unfold mkI
      split
      · exact Or.inr rfl
      · exact Or.inl rfl
    omega
theorem smI_skip {N : Nat} {U : Int → Int} {a b : Nat} (ab : a ≤ b) (h : ∀ k : Int, (a : Int) ≤ k → k < (b : Int) → ¬ mk N U k) : smF (mkI N U) b = smF (mkI N U) a := by
  obtain ⟨d, rfl⟩ : ∃ d : Nat, b = a + d := ⟨b - a, by omega⟩
  exact smF_skip d (fun k x y => mkI_0 (h k (by omega) (by omega)))
theorem smI_mono {N : Nat} {U : Int → Int} {a : Nat} : ∀ d : Nat, smF (mkI N U) a ≤ smF (mkI N U) (a + d) := by
  intro d
  induction d with
  | zero => exact Int.le_refl _
  | succ d ih =>
    have hs : smF (mkI N U) (a + (d + 1)) = smF (mkI N U) (a + d) + mkI N U ((a + d : Nat) : Int) := rfl
    have : mkI N U ((a + d : Nat) : Int) = 0 ∨ mkI N U ((a + d : Nat) : Int) = 1 := by
      unfold mkI
      split
      · exact Or.inr rfl
      · exact Or.inl rfl
    omega
theorem smI_gt {N : Nat} {U : Int → Int} {c t : Nat} (m : mk N U c) (ct : c < t) : smF (mkI N U) c + 1 ≤ smF (mkI N U) t := by
  obtain ⟨d, rfl⟩ : ∃ d : Nat, t = (c + 1) + d := ⟨t - (c + 1), by omega⟩
  have hs : smF (mkI N U) (c + 1) = smF (mkI N U) c + mkI N U c := rfl
  rw [mkI_1 m] at hs
  have := smI_mono (N := N) (U := U) (a := c + 1) d
  omega
theorem smI_uniq {N : Nat} {U : Int → Int} {a b : Nat} (h1 : mk N U a) (h2 : mk N U b) (e : smF (mkI N U) a = smF (mkI N U) b) : a = b := by
  rcases Nat.lt_trichotomy a b with h | h | h
  · have := smI_gt h1 h
    omega
  · exact h
  · have := smI_gt h2 h
    omega
set_option maxHeartbeats 1000000 in
theorem X11_layLoop {Y : jY} {μ : jM} (hX : kX Y μ) {N : Nat} (N1 : 1 ≤ N) (N3 : N ≤ 3) {U W : Int → Int} (hI : atI μ N U W) (bU : ∀ j : Nat, j ≤ N → (U j).natAbs ≤ 1000000) {d k : Int} (d1 : 0 ≤ d) (d2 : d ≤ 3) (k0 : 0 ≤ k) (k1 : k ≤ 2147483647) : ∃ r : Int32 × jM, jit jF (fun (s : Int32 × Int32 × jM) => b_X11_lay_46 Y 1 (ki k) (ki d) s.1 s.2.1 s.2.2) ((0 : Int32), (0 : Int32), μ) = some r ∧ ((smF (mkI N U) (cdN N) ≤ k ∧ r.1 = ki (-3) ∧ kF 74 76 μ r.2) ∨ ∃ (c : Nat) (ν : jM), c < cdN N ∧ mk N U c ∧ smF (mkI N U) c = k ∧ kF 74 76 μ ν ∧ maD N U c ν ∧ r = (ki N, cpM ν (9 + 5 + 3 * d.toNat) 73)) := by
  have c6 : cdN N ≤ 6084 := cdN_le N
  refine jit_inv (f := fun (s : Int32 × Int32 × jM) => b_X11_lay_46 Y 1 (ki k) (ki d) s.1 s.2.1 s.2.2) (fun t z => z.1 = ki (smF (mkI N U) t) ∧ z.2.1 = ki t ∧ kF 74 76 μ z.2.2 ∧ smF (mkI N U) t ≤ k) (fun r => (smF (mkI N U) (cdN N) ≤ k ∧ r.1 = ki (-3) ∧ kF 74 76 μ r.2) ∨ ∃ (c : Nat) (ν : jM), c < cdN N ∧ mk N U c ∧ smF (mkI N U) c = k ∧ kF 74 76 μ ν ∧ maD N U c ν ∧ r = (ki N, cpM ν (9 + 5 + 3 * d.toNat) 73)) (cdN N) (s := ((0 : Int32), (0 : Int32), μ)) ⟨rfl, rfl, kF.refl, k0⟩ (by omega) (fun t z ht hz => ?_)
  obtain ⟨a, b, ν⟩ := z
  obtain ⟨rfl, rfl, z1, z2⟩ := hz
  simp only [] at z1 z2
  have hXz := hX.to z1
  have hIz := hI.to z1
  have cd := X0_codes hXz N1 N3 hIz
  have bs := smI_bd N U t
  by_cases e : t = cdN N
  · subst e
    refine ⟨.inr (ki (-3), ν), ?_, Or.inl ⟨z2, rfl, z1⟩⟩
    generalize smF (mkI N U) (cdN N) = s at *
    simp (disch := omega) only [b_X11_lay_46, kX.o1_8 hXz, krcv hX.y72, cd, ki_0, ki_1, ki_2, ki_3, ki_4, ki_5, ki_6, ki_7, ki_8, ki_9, ki_10, ki_11, ki_12, ki_13, ki_18, ki_20, ki_24, ki_32, ki_36, ki_45, ki_47, ki_48, ki_50, ki_57, ki_60, ki_63, ki_99, ki_100, ki_101, ki_120, ki_255, ki_468, ki_1000, ki_1024, ki_13849, ki_25173, ki_65535, ki_65536, ki_100000, ki_100001, ki_2147483647, ki_2147483648, kl_0, kl_1, kl_2, kl_9223372036854775808, ki_add, ki_sub, ki_mul, ki_neg, kl_add, kl_sub, kl_mul, kl_neg, ki_i2l, kl_l2i, ki_lt, ki_le, ki_eq, kcmp_eq, kcmp_lt, kcmp_le, kcmp_gt, kcmp_ge, Option.bind_some, Option.map_some, kbool0, kbool1, if_pos, if_neg, if_true, if_false, Int.neg_neg, Int.sub_zero, Int.add_zero, Int.zero_add, true_and, and_true, false_and, and_false, false_or, or_false, true_or, or_true, ne_eq, not_false_eq_true, not_true_eq_false]
  · obtain ⟨r, ω, m1, m2, m3⟩ := X0_makes hXz N1 N3 hIz bU (c := (t : Int)) (by omega) (by omega)
    have hXω := hXz.to m2
    have hs : smF (mkI N U) (t + 1) = smF (mkI N U) t + mkI N U t := rfl
    rcases m3 with ⟨rfl, m3⟩ | ⟨rfl, m3, m4⟩
    · have es : smF (mkI N U) (t + 1) = smF (mkI N U) t := by rw [hs, mkI_0 m3, Int.add_zero]
      refine ⟨.inl (ki (smF (mkI N U) t), ki ((t + 1 : Nat) : Int), ω), ?_, by omega, by rw [es], rfl, z1.trans m2, by rw [es]; exact z2⟩
      clear hs es
      generalize smF (mkI N U) t = s at *
      simp (disch := omega) only [b_X11_lay_46, b_X11_lay_113, kX.o1_8 hXz, krcv hX.y72, cd, m1, ki_0, ki_1, ki_2, ki_3, ki_4, ki_5, ki_6, ki_7, ki_8, ki_9, ki_10, ki_11, ki_12, ki_13, ki_18, ki_20, ki_24, ki_32, ki_36, ki_45, ki_47, ki_48, ki_50, ki_57, ki_60, ki_63, ki_99, ki_100, ki_101, ki_120, ki_255, ki_468, ki_1000, ki_1024, ki_13849, ki_25173, ki_65535, ki_65536, ki_100000, ki_100001, ki_2147483647, ki_2147483648, kl_0, kl_1, kl_2, kl_9223372036854775808, ki_add, ki_sub, ki_mul, ki_neg, kl_add, kl_sub, kl_mul, kl_neg, ki_i2l, kl_l2i, ki_lt, ki_le, ki_eq, kcmp_eq, kcmp_lt, kcmp_le, kcmp_gt, kcmp_ge, Option.bind_some, Option.map_some, kbool0, kbool1, if_pos, if_neg, if_true, if_false, Int.neg_neg, Int.sub_zero, Int.add_zero, Int.zero_add, true_and, and_true, false_and, and_false, false_or, or_false, true_or, or_true, ne_eq, not_false_eq_true, not_true_eq_false, Int.natCast_add, Int.natCast_one]
    · have es : smF (mkI N U) (t + 1) = smF (mkI N U) t + 1 := by rw [hs, mkI_1 m3]
      clear hs
      by_cases ek : smF (mkI N U) t = k
      · have hT := kS.t (kX.now hXω) d1 d2
        have hd := X10_copy (kX.t73 hXω) hT (by omega)
        have kc : kF (9 + 5 + 3 * d.toNat) (9 + 5 + 3 * d.toNat + 3) ω (cpM ω (9 + 5 + 3 * d.toNat) 73) := cpM_kF hT
        have g := kT.gr (hT.to kc)
        rw [cpM_0, (hIz.to m2).2.2.2] at g
        have hXc := hXω.to kc
        refine ⟨.inr (ki N, cpM ω (9 + 5 + 3 * d.toNat) 73), ?_, Or.inr ⟨t, ω, by omega, m3, ek, z1.trans m2, m4, rfl⟩⟩
        clear es kc
        generalize smF (mkI N U) t = s at *
        generalize cpM ω (9 + 5 + 3 * d.toNat) 73 = μ1 at *
        simp (disch := omega) only [b_X11_lay_46, kX.o1_8 hXz, krcv hX.y72, cd, m1, kX.o1_3 hXω, kS.gd (kX.now hXω), kS.gt (kX.now hXω), kX.o1_8 hXω, kX.o72_0 hXω, krcv hT.y, hd, kX.o1_3 hXc, kS.gd (kX.now hXc), kS.gt (kX.now hXc), g, ki_0, ki_1, ki_2, ki_3, ki_4, ki_5, ki_6, ki_7, ki_8, ki_9, ki_10, ki_11, ki_12, ki_13, ki_18, ki_20, ki_24, ki_32, ki_36, ki_45, ki_47, ki_48, ki_50, ki_57, ki_60, ki_63, ki_99, ki_100, ki_101, ki_120, ki_255, ki_468, ki_1000, ki_1024, ki_13849, ki_25173, ki_65535, ki_65536, ki_100000, ki_100001, ki_2147483647, ki_2147483648, kl_0, kl_1, kl_2, kl_9223372036854775808, ki_add, ki_sub, ki_mul, ki_neg, kl_add, kl_sub, kl_mul, kl_neg, ki_i2l, kl_l2i, ki_lt, ki_le, ki_eq, kcmp_eq, kcmp_lt, kcmp_le, kcmp_gt, kcmp_ge, Option.bind_some, Option.map_some, kbool0, kbool1, if_pos, if_neg, if_true, if_false, Int.neg_neg, Int.sub_zero, Int.add_zero, Int.zero_add, true_and, and_true, false_and, and_false, false_or, or_false, true_or, or_true, ne_eq, not_false_eq_true, not_true_eq_false]
      · refine ⟨.inl (ki (smF (mkI N U) t + 1), ki ((t + 1 : Nat) : Int), ω), ?_, by omega, by rw [es], rfl, z1.trans m2, by rw [es]; omega⟩
        clear es
        generalize smF (mkI N U) t = s at *
        simp (disch := omega) only [b_X11_lay_46, b_X11_lay_113, kX.o1_8 hXz, krcv hX.y72, cd, m1, ki_0, ki_1, ki_2, ki_3, ki_4, ki_5, ki_6, ki_7, ki_8, ki_9, ki_10, ki_11, ki_12, ki_13, ki_18, ki_20, ki_24, ki_32, ki_36, ki_45, ki_47, ki_48, ki_50, ki_57, ki_60, ki_63, ki_99, ki_100, ki_101, ki_120, ki_255, ki_468, ki_1000, ki_1024, ki_13849, ki_25173, ki_65535, ki_65536, ki_100000, ki_100001, ki_2147483647, ki_2147483648, kl_0, kl_1, kl_2, kl_9223372036854775808, ki_add, ki_sub, ki_mul, ki_neg, kl_add, kl_sub, kl_mul, kl_neg, ki_i2l, kl_l2i, ki_lt, ki_le, ki_eq, kcmp_eq, kcmp_lt, kcmp_le, kcmp_gt, kcmp_ge, Option.bind_some, Option.map_some, kbool0, kbool1, if_pos, if_neg, if_true, if_false, Int.neg_neg, Int.sub_zero, Int.add_zero, Int.zero_add, true_and, and_true, false_and, and_false, false_or, or_false, true_or, or_true, ne_eq, not_false_eq_true, not_true_eq_false, Int.natCast_add, Int.natCast_one]
set_option maxHeartbeats 1000000 in
theorem X12_layLoop {Y : jY} {μ0 : jM} {N : Nat} (N1 : 1 ≤ N) (N3 : N ≤ 3) {U : Int → Int} (hM : kM Y μ0) (eN : gi μ0 95 10 = (N : Int)) (hU : rowK μ0 101 ((N : Int) + 1) U) (bU : ∀ j : Nat, j ≤ N → (U j).natAbs ≤ 1000000) (u1 : N = 1 → (U 0).natAbs ≤ 6) (t0 : trN N 0 μ0) {d k : Int} (k0 : 0 ≤ k) (k1 : k ≤ 2147483647) {D : Int32 × jM → Prop} (fin : ∀ (c : Nat) (ω : jM), c < cdN N → mk N U c → smF (mkI N U) c = k → frY μ0 ω → foN N U c ω → ∃ r, b_X12_lay_64 Y 95 (ki d) (ki 1) ω = some r ∧ D r) (nof : smF (mkI N U) (cdN N) ≤ k → ∀ ω, frY μ0 ω → D (ki (-3), ω)) : ∃ r1 : Int32 × jM, f_X12_goesOn Y 95 μ0 = some r1 ∧ ∃ r : Int32 × jM, jit jF (fun (s : Int32 × Int32 × jM) => b_X12_lay_43 Y 95 (ki k) (ki d) s.1 s.2.1 s.2.2) (r1.1, (0 : Int32), r1.2) = some r ∧ D r := by
  obtain ⟨r1, g1, g2, g3⟩ := X12_goesOn hM N1 N3 eN hU bU u1 (c := 0) (Int.le_refl 0) (by omega) t0
  refine ⟨r1, g1, ?_⟩
  obtain ⟨b1, ν1⟩ := r1
  simp only [] at g2 g3
  have c6 := cdN_le N
  refine jit_inv (f := fun (s : Int32 × Int32 × jM) => b_X12_lay_43 Y 95 (ki k) (ki d) s.1 s.2.1 s.2.2) (fun t z => z.2.1 = ki t ∧ frY μ0 z.2.2 ∧ (t : Int) ≤ k ∧ ((z.1 = ki 0 ∧ smF (mkI N U) (cdN N) ≤ k) ∨ (z.1 = ki 1 ∧ ∃ c : Nat, c < cdN N ∧ mk N U c ∧ smF (mkI N U) c = t ∧ foN N U c z.2.2))) D (cdN N + 1) (s := (b1, (0 : Int32), ν1)) ⟨rfl, g2, by omega, ?_⟩ (by omega) (fun t z ht hz => ?_)
  · rcases g3 with ⟨e, c', a, b, m, nn, fo⟩ | ⟨e, nn⟩
    · refine Or.inr ⟨e, c'.toNat, by omega, by rw [toNat_cast a]; exact m, ?_, by rw [toNat_cast a]; exact fo⟩
      rw [smI_skip (a := 0) (b := c'.toNat) (Nat.zero_le _) (fun q x y => nn q (by omega) (by omega))]
      rfl
    · refine Or.inl ⟨e, ?_⟩
      rw [smI_skip (a := 0) (b := cdN N) (Nat.zero_le _) (fun q x y => nn q (by omega) (by omega))]
      exact k0
  · obtain ⟨a, b, ν⟩ := z
    obtain ⟨rfl, z1, z2, z3⟩ := hz
    simp only [] at z1 z3
    rcases z3 with ⟨rfl, z4⟩ | ⟨rfl, c, c1, m, sc, fo⟩
    · refine ⟨.inr (ki (-3), ν), ?_, nof z4 ν z1⟩
      clear z4
      by_cases e : (t : Int) = k
      · simp (disch := omega) only [b_X12_lay_43, b_X12_lay_64, ki_0, ki_1, ki_2, ki_3, ki_4, ki_5, ki_6, ki_7, ki_8, ki_9, ki_10, ki_11, ki_12, ki_13, ki_18, ki_20, ki_24, ki_32, ki_36, ki_45, ki_47, ki_48, ki_50, ki_57, ki_60, ki_63, ki_99, ki_100, ki_101, ki_120, ki_255, ki_468, ki_1000, ki_1024, ki_13849, ki_25173, ki_65535, ki_65536, ki_100000, ki_100001, ki_2147483647, ki_2147483648, kl_0, kl_1, kl_2, kl_9223372036854775808, ki_add, ki_sub, ki_mul, ki_neg, kl_add, kl_sub, kl_mul, kl_neg, ki_i2l, kl_l2i, ki_lt, ki_le, ki_eq, kcmp_eq, kcmp_lt, kcmp_le, kcmp_gt, kcmp_ge, Option.bind_some, Option.map_some, kbool0, kbool1, if_pos, if_neg, if_true, if_false, Int.neg_neg, Int.sub_zero, Int.add_zero, Int.zero_add, true_and, and_true, false_and, and_false, false_or, or_false, true_or, or_true, ne_eq, not_false_eq_true, not_true_eq_false]
      · simp (disch := omega) only [b_X12_lay_43, b_X12_lay_64, ki_0, ki_1, ki_2, ki_3, ki_4, ki_5, ki_6, ki_7, ki_8, ki_9, ki_10, ki_11, ki_12, ki_13, ki_18, ki_20, ki_24, ki_32, ki_36, ki_45, ki_47, ki_48, ki_50, ki_57, ki_60, ki_63, ki_99, ki_100, ki_101, ki_120, ki_255, ki_468, ki_1000, ki_1024, ki_13849, ki_25173, ki_65535, ki_65536, ki_100000, ki_100001, ki_2147483647, ki_2147483648, kl_0, kl_1, kl_2, kl_9223372036854775808, ki_add, ki_sub, ki_mul, ki_neg, kl_add, kl_sub, kl_mul, kl_neg, ki_i2l, kl_l2i, ki_lt, ki_le, ki_eq, kcmp_eq, kcmp_lt, kcmp_le, kcmp_gt, kcmp_ge, Option.bind_some, Option.map_some, kbool0, kbool1, if_pos, if_neg, if_true, if_false, Int.neg_neg, Int.sub_zero, Int.add_zero, Int.zero_add, true_and, and_true, false_and, and_false, false_or, or_false, true_or, or_true, ne_eq, not_false_eq_true, not_true_eq_false]
    · by_cases e : (t : Int) = k
      · obtain ⟨r, h1, h2⟩ := fin c ν c1 m (by rw [sc, e]) z1 fo
        refine ⟨.inr r, ?_, h2⟩
        clear sc
        simp (disch := omega) only [b_X12_lay_43, h1, ki_0, ki_1, ki_2, ki_3, ki_4, ki_5, ki_6, ki_7, ki_8, ki_9, ki_10, ki_11, ki_12, ki_13, ki_18, ki_20, ki_24, ki_32, ki_36, ki_45, ki_47, ki_48, ki_50, ki_57, ki_60, ki_63, ki_99, ki_100, ki_101, ki_120, ki_255, ki_468, ki_1000, ki_1024, ki_13849, ki_25173, ki_65535, ki_65536, ki_100000, ki_100001, ki_2147483647, ki_2147483648, kl_0, kl_1, kl_2, kl_9223372036854775808, ki_add, ki_sub, ki_mul, ki_neg, kl_add, kl_sub, kl_mul, kl_neg, ki_i2l, kl_l2i, ki_lt, ki_le, ki_eq, kcmp_eq, kcmp_lt, kcmp_le, kcmp_gt, kcmp_ge, Option.bind_some, Option.map_some, kbool0, kbool1, if_pos, if_neg, if_true, if_false, Int.neg_neg, Int.sub_zero, Int.add_zero, Int.zero_add, true_and, and_true, false_and, and_false, false_or, or_false, true_or, or_true, ne_eq, not_false_eq_true, not_true_eq_false]
      · have bs := smI_bd N U c
        obtain ⟨⟨r, ω⟩, g1, g2, g3⟩ := X12_goesOn (hM.to z1.1) N1 N3 (by rw [z1.n]; exact eN) (hU.to z1.1 (by omega)) bU u1 (c := (c : Int) + 1) (by omega) (by omega) (foN_tr N1 N3 fo)
        simp only [] at g2 g3
        refine ⟨.inl (r, ki ((t + 1 : Nat) : Int), ω), ?_, by omega, rfl, z1.trans g2, by omega, ?_⟩
        · clear sc bs
          simp (disch := omega) only [b_X12_lay_43, krcv hM.y, g1, ki_0, ki_1, ki_2, ki_3, ki_4, ki_5, ki_6, ki_7, ki_8, ki_9, ki_10, ki_11, ki_12, ki_13, ki_18, ki_20, ki_24, ki_32, ki_36, ki_45, ki_47, ki_48, ki_50, ki_57, ki_60, ki_63, ki_99, ki_100, ki_101, ki_120, ki_255, ki_468, ki_1000, ki_1024, ki_13849, ki_25173, ki_65535, ki_65536, ki_100000, ki_100001, ki_2147483647, ki_2147483648, kl_0, kl_1, kl_2, kl_9223372036854775808, ki_add, ki_sub, ki_mul, ki_neg, kl_add, kl_sub, kl_mul, kl_neg, ki_i2l, kl_l2i, ki_lt, ki_le, ki_eq, kcmp_eq, kcmp_lt, kcmp_le, kcmp_gt, kcmp_ge, Option.bind_some, Option.map_some, kbool0, kbool1, if_pos, if_neg, if_true, if_false, Int.neg_neg, Int.sub_zero, Int.add_zero, Int.zero_add, true_and, and_true, false_and, and_false, false_or, or_false, true_or, or_true, ne_eq, not_false_eq_true, not_true_eq_false, Int.natCast_add, Int.natCast_one]
        · have hs : smF (mkI N U) (c + 1) = smF (mkI N U) c + mkI N U c := rfl
          rw [mkI_1 m, sc] at hs
          rcases g3 with ⟨e2, c', a, b, m', n', fo'⟩ | ⟨e2, n'⟩
          · refine Or.inr ⟨e2, c'.toNat, by omega, by rw [toNat_cast (by omega)]; exact m', ?_, by rw [toNat_cast (by omega)]; exact fo'⟩
            rw [smI_skip (a := c + 1) (b := c'.toNat) (by omega) (fun q x y => n' q (by omega) (by omega)), hs]
            omega
          · refine Or.inl ⟨e2, ?_⟩
            rw [smI_skip (a := c + 1) (b := cdN N) (by omega) (fun q x y => n' q (by omega) (by omega)), hs]
            omega
theorem rdN.to {N : Nat} {U : Int → Int} {c : Int} {ω ν : jM} (h : rdN N U c ω) (k : kF 108 111 ω ν) : rdN N U c ν := by
  unfold rdN at h ⊢
  rw [k.gi (i := 95) (by omega) 42, k.gi (i := 95) (by omega) 43, k.gi (i := 95) (by omega) 44, k.gi (i := 95) (by omega) 45, k.gi (i := 95) (by omega) 46]
  exact h
set_option maxHeartbeats 1000000 in
theorem X12_lays {Y : jY} {ω : jM} (hM : kM Y ω) {N : Nat} (N1 : 1 ≤ N) (N3 : N ≤ 3) (eN : gi ω 95 10 = (N : Int)) {U : Int → Int} {c : Int} (c0 : 0 ≤ c) (c1 : c < cdN N) (u1 : N = 1 → (U 0).natAbs ≤ 6) (rd : rdN N U c ω) (h1 : N = 1 → gi ω 99 0 = -(U 0)) {d : Int} (d1 : 0 ≤ d) (d2 : d ≤ 3) (bA : ∀ i : Nat, i < N → -6 ≤ mkA N U c i ∧ mkA N U c i ≤ 6) (bC : ∀ i : Nat, i + 1 < N → 1 ≤ mkC N U c i ∧ mkC N U c i ≤ 36) : ∃ η, b_X12_lay_64 Y 95 (ki d) (ki 1) ω = some (ki N, η) ∧ kF 108 111 ω η ∧ (∀ e : Int, 0 ≤ e → gi η 108 e = if e = d then (N : Int) else gi ω 108 e) ∧ (∀ e x : Int, 0 ≤ e → e ≤ 3 → 0 ≤ x → x < 5 → mA η e x = if e = d ∧ x < (N : Int) then mkA N U c x else mA ω e x) ∧ ∀ e x : Int, 0 ≤ e → e ≤ 3 → 0 ≤ x → x < 5 → mC η e x = if e = d ∧ x < (N : Int) - 1 then mkC N U c x else mC ω e x := by
  have F1 : kF 108 111 ω (jw ω 108 d.toNat (.int (ki N))) := kF_I (hM.a108i (by omega)) (by omega) (by omega)
  have hM1 := hM.to F1
  have v1 := fun a x => gi_jw (μ := ω) (o := 108) (k := d.toNat) (v := (N : Int)) a x (by omega) (by omega)
  have FF := X12_first hM1 N1 N3 (by rw [F1.gi (by omega)]; exact eN) c0 c1 u1 (rd.to F1) (fun e => by rw [F1.gi (by omega)]; exact h1 e)
  have g0 := kM.g10 hM
  rw [eN] at g0
  obtain ⟨a0, ha0⟩ : ∃ a0, a0 = mkA N U c 0 := ⟨_, rfl⟩
  have b0 := bA 0 (by omega)
  have b0 : -6 ≤ a0 ∧ a0 ≤ 6 := by rw [ha0]; exact b0
  rw [← ha0] at FF
  generalize hμ1 : jw ω 108 d.toNat (.int (ki N)) = μ1 at *
  have F2 : kF 108 111 μ1 (jw μ1 109 (5 * d).toNat (.int (ki a0))) := kF_I (hM1.a109i (by omega)) (by omega) (by omega)
  have hM2 := hM1.to F2
  have v2 := fun a x => gi_jw (μ := μ1) (o := 109) (k := (5 * d).toNat) (v := a0) a x (by omega) (by omega)
  generalize hμ2 : jw μ1 109 (5 * d).toNat (.int (ki a0)) = μ2 at *
  have g2 := kM.g10 hM2
  rw [(F1.trans F2).gi (by omega), eN] at g2
  have : N = 1 ∨ N = 2 ∨ N = 3 := by omega
  rcases this with rfl | rfl | rfl
  · have g0 : jgI Y ω 95 12 10 = some (ki 1) := g0
    have g2 : jgI Y μ2 95 12 10 = some (ki 1) := g2
    have hμ1 : jw ω 108 d.toNat (.int (ki 1)) = μ1 := hμ1
    have v1 : ∀ a x, gi μ1 a x = if a = 108 ∧ x.toNat = d.toNat then 1 else gi ω a x := v1
    refine ⟨μ2, ?_, F1.trans F2, fun e e1 => ?_, fun e x e1 e2 x1 x2 => ?_, fun e x e1 e2 x1 x2 => ?_⟩
    · show _ = some (ki 1, μ2)
      clear v1 v2
      simp (disch := omega) only [b_X12_lay_64, b_X12_lay_127, b_X12_lay_163, kM.o26 hM, g0, kasI (kM.a108 hM), hμ1, kM.o27 hM1, krcv hM.y, FF, kasI (kM.a109 hM1), hμ2, g2, ki_0, ki_1, ki_2, ki_3, ki_4, ki_5, ki_6, ki_7, ki_8, ki_9, ki_10, ki_11, ki_12, ki_13, ki_18, ki_20, ki_24, ki_32, ki_36, ki_45, ki_47, ki_48, ki_50, ki_57, ki_60, ki_63, ki_99, ki_100, ki_101, ki_120, ki_255, ki_468, ki_1000, ki_1024, ki_13849, ki_25173, ki_65535, ki_65536, ki_100000, ki_100001, ki_2147483647, ki_2147483648, kl_0, kl_1, kl_2, kl_9223372036854775808, ki_add, ki_sub, ki_mul, ki_neg, kl_add, kl_sub, kl_mul, kl_neg, ki_i2l, kl_l2i, ki_lt, ki_le, ki_eq, kcmp_eq, kcmp_lt, kcmp_le, kcmp_gt, kcmp_ge, Option.bind_some, Option.map_some, kbool0, kbool1, if_pos, if_neg, if_true, if_false, Int.neg_neg, Int.sub_zero, Int.add_zero, Int.zero_add, true_and, and_true, false_and, and_false, false_or, or_false, true_or, or_true, ne_eq, not_false_eq_true, not_true_eq_false]
    · rw [v2, v1, if_neg (by omega)]
      by_cases g : e = d
      · rw [if_pos g, if_pos (by omega)]; rfl
      · rw [if_neg g, if_neg (by omega)]
    · unfold mA
      rw [v2, v1]
      by_cases g : e = d ∧ x < ((1 : Nat) : Int)
      · have : x = 0 := by omega
        subst this
        rw [if_pos g, if_pos (by omega)]
        exact ha0
      · rw [if_neg g, if_neg (by omega), if_neg (by omega)]
    · unfold mC
      rw [v2, v1, if_neg (by omega), if_neg (by omega), if_neg (by omega)]
  · have g0 : jgI Y ω 95 12 10 = some (ki 2) := g0
    have g2 : jgI Y μ2 95 12 10 = some (ki 2) := g2
    have hμ1 : jw ω 108 d.toNat (.int (ki 2)) = μ1 := hμ1
    have v1 : ∀ a x, gi μ1 a x = if a = 108 ∧ x.toNat = d.toNat then 2 else gi ω a x := v1
    obtain ⟨r0, r1, r2⟩ := rd.1 (by omega)
    obtain ⟨a1, ha1⟩ : ∃ a1, a1 = mkA 2 U c 1 := ⟨_, rfl⟩
    obtain ⟨e0, he0⟩ : ∃ e0, e0 = mkC 2 U c 0 := ⟨_, rfl⟩
    have b1 : -6 ≤ a1 ∧ a1 ≤ 6 := by rw [ha1]; exact bA 1 (by omega)
    have b2 : 1 ≤ e0 ∧ e0 ≤ 36 := by rw [he0]; exact bC 0 (by omega)
    rw [← ha1] at r1
    rw [← he0] at r2
    have g43 := kM.g43 hM2
    rw [(F1.trans F2).gi (by omega), r1] at g43
    have F3 : kF 108 111 μ2 (jw μ2 109 (5 * d + 1).toNat (.int (ki a1))) := kF_I (hM2.a109i (by omega)) (by omega) (by omega)
    have hM3 := hM2.to F3
    have v3 := fun a x => gi_jw (μ := μ2) (o := 109) (k := (5 * d + 1).toNat) (v := a1) a x (by omega) (by omega)
    generalize hμ3 : jw μ2 109 (5 * d + 1).toNat (.int (ki a1)) = μ3 at *
    have g45 := kM.g45 hM3
    rw [((F1.trans F2).trans F3).gi (by omega), r2] at g45
    have F4 : kF 108 111 μ3 (jw μ3 110 (5 * d).toNat (.int (ki e0))) := kF_I (hM3.a110i (by omega)) (by omega) (by omega)
    have hM4 := hM3.to F4
    have v4 := fun a x => gi_jw (μ := μ3) (o := 110) (k := (5 * d).toNat) (v := e0) a x (by omega) (by omega)
    generalize hμ4 : jw μ3 110 (5 * d).toNat (.int (ki e0)) = μ4 at *
    have g4 := kM.g10 hM4
    rw [(((F1.trans F2).trans F3).trans F4).gi (by omega), eN] at g4
    have g4 : jgI Y μ4 95 12 10 = some (ki 2) := g4
    refine ⟨μ4, ?_, ((F1.trans F2).trans F3).trans F4, fun e e1 => ?_, fun e x e1 e2 x1 x2 => ?_, fun e x e1 e2 x1 x2 => ?_⟩
    · show _ = some (ki 2, μ4)
      clear v1 v2 v3 v4
      simp (disch := omega) only [b_X12_lay_64, b_X12_lay_127, b_X12_lay_163, kM.o26 hM, g0, kasI (kM.a108 hM), hμ1, kM.o27 hM1, krcv hM.y, FF, kasI (kM.a109 hM1), hμ2, g2, kM.o27 hM2, g43, kasI (kM.a109 hM2), hμ3, kM.o28 hM3, g45, kasI (kM.a110 hM3), hμ4, g4, ki_0, ki_1, ki_2, ki_3, ki_4, ki_5, ki_6, ki_7, ki_8, ki_9, ki_10, ki_11, ki_12, ki_13, ki_18, ki_20, ki_24, ki_32, ki_36, ki_45, ki_47, ki_48, ki_50, ki_57, ki_60, ki_63, ki_99, ki_100, ki_101, ki_120, ki_255, ki_468, ki_1000, ki_1024, ki_13849, ki_25173, ki_65535, ki_65536, ki_100000, ki_100001, ki_2147483647, ki_2147483648, kl_0, kl_1, kl_2, kl_9223372036854775808, ki_add, ki_sub, ki_mul, ki_neg, kl_add, kl_sub, kl_mul, kl_neg, ki_i2l, kl_l2i, ki_lt, ki_le, ki_eq, kcmp_eq, kcmp_lt, kcmp_le, kcmp_gt, kcmp_ge, Option.bind_some, Option.map_some, kbool0, kbool1, if_pos, if_neg, if_true, if_false, Int.neg_neg, Int.sub_zero, Int.add_zero, Int.zero_add, true_and, and_true, false_and, and_false, false_or, or_false, true_or, or_true, ne_eq, not_false_eq_true, not_true_eq_false]
    · rw [v4, v3, v2, v1, if_neg (by omega), if_neg (by omega), if_neg (by omega)]
      by_cases g : e = d
      · rw [if_pos g, if_pos (by omega)]; rfl
      · rw [if_neg g, if_neg (by omega)]
    · unfold mA
      rw [v4, v3, v2, v1, if_neg (by omega)]
      by_cases g : e = d ∧ x < ((2 : Nat) : Int)
      · have : x = 0 ∨ x = 1 := by omega
        rcases this with rfl | rfl
        · rw [if_pos g, if_neg (by omega), if_pos (by omega)]
          exact ha0
        · rw [if_pos g, if_pos (by omega)]
          exact ha1
      · rw [if_neg g, if_neg (by omega), if_neg (by omega), if_neg (by omega)]
    · unfold mC
      rw [v4, v3, v2, v1]
      by_cases g : e = d ∧ x < ((2 : Nat) : Int) - 1
      · have : x = 0 := by omega
        subst this
        rw [if_pos g, if_pos (by omega)]
        exact he0
      · rw [if_neg g, if_neg (by omega), if_neg (by omega), if_neg (by omega), if_neg (by omega)]
  · have g0 : jgI Y ω 95 12 10 = some (ki 3) := g0
    have g2 : jgI Y μ2 95 12 10 = some (ki 3) := g2
    have hμ1 : jw ω 108 d.toNat (.int (ki 3)) = μ1 := hμ1
    have v1 : ∀ a x, gi μ1 a x = if a = 108 ∧ x.toNat = d.toNat then 3 else gi ω a x := v1
    obtain ⟨r0, r1, r2⟩ := rd.1 (by omega)
    obtain ⟨r3, r4⟩ := rd.2 rfl
    obtain ⟨a1, ha1⟩ : ∃ a1, a1 = mkA 3 U c 1 := ⟨_, rfl⟩
    obtain ⟨a2, ha2⟩ : ∃ a2, a2 = mkA 3 U c 2 := ⟨_, rfl⟩
    obtain ⟨e0, he0⟩ : ∃ e0, e0 = mkC 3 U c 0 := ⟨_, rfl⟩
    obtain ⟨e3, he3⟩ : ∃ e3, e3 = mkC 3 U c 1 := ⟨_, rfl⟩
    have b1 : -6 ≤ a1 ∧ a1 ≤ 6 := by rw [ha1]; exact bA 1 (by omega)
    have b2 : 1 ≤ e0 ∧ e0 ≤ 36 := by rw [he0]; exact bC 0 (by omega)
    have b3 : -6 ≤ a2 ∧ a2 ≤ 6 := by rw [ha2]; exact bA 2 (by omega)
    have b4 : 1 ≤ e3 ∧ e3 ≤ 36 := by rw [he3]; exact bC 1 (by omega)
    rw [← ha1] at r1
    rw [← he0] at r2
    rw [← ha2] at r3
    rw [← he3] at r4
    have g43 := kM.g43 hM2
    rw [(F1.trans F2).gi (by omega), r1] at g43
    have F3 : kF 108 111 μ2 (jw μ2 109 (5 * d + 1).toNat (.int (ki a1))) := kF_I (hM2.a109i (by omega)) (by omega) (by omega)
    have hM3 := hM2.to F3
    have v3 := fun a x => gi_jw (μ := μ2) (o := 109) (k := (5 * d + 1).toNat) (v := a1) a x (by omega) (by omega)
    generalize hμ3 : jw μ2 109 (5 * d + 1).toNat (.int (ki a1)) = μ3 at *
    have f3 := (F1.trans F2).trans F3
    have g45 := kM.g45 hM3
    rw [f3.gi (by omega), r2] at g45
    have F4 : kF 108 111 μ3 (jw μ3 110 (5 * d).toNat (.int (ki e0))) := kF_I (hM3.a110i (by omega)) (by omega) (by omega)
    have hM4 := hM3.to F4
    have v4 := fun a x => gi_jw (μ := μ3) (o := 110) (k := (5 * d).toNat) (v := e0) a x (by omega) (by omega)
    generalize hμ4 : jw μ3 110 (5 * d).toNat (.int (ki e0)) = μ4 at *
    have f4 := f3.trans F4
    have g4 := kM.g10 hM4
    rw [f4.gi (by omega), eN] at g4
    have g4 : jgI Y μ4 95 12 10 = some (ki 3) := g4
    have g44 := kM.g44 hM4
    rw [f4.gi (by omega), r3] at g44
    have F5 : kF 108 111 μ4 (jw μ4 109 (5 * d + 2).toNat (.int (ki a2))) := kF_I (hM4.a109i (by omega)) (by omega) (by omega)
    have hM5 := hM4.to F5
    have v5 := fun a x => gi_jw (μ := μ4) (o := 109) (k := (5 * d + 2).toNat) (v := a2) a x (by omega) (by omega)
    generalize hμ5 : jw μ4 109 (5 * d + 2).toNat (.int (ki a2)) = μ5 at *
    have f5 := f4.trans F5
    have g46 := kM.g46 hM5
    rw [f5.gi (by omega), r4] at g46
    have F6 : kF 108 111 μ5 (jw μ5 110 (5 * d + 1).toNat (.int (ki e3))) := kF_I (hM5.a110i (by omega)) (by omega) (by omega)
    have hM6 := hM5.to F6
    have v6 := fun a x => gi_jw (μ := μ5) (o := 110) (k := (5 * d + 1).toNat) (v := e3) a x (by omega) (by omega)
    generalize hμ6 : jw μ5 110 (5 * d + 1).toNat (.int (ki e3)) = μ6 at *
    have f6 := f5.trans F6
    have g6 := kM.g10 hM6
    rw [f6.gi (by omega), eN] at g6
    have g6 : jgI Y μ6 95 12 10 = some (ki 3) := g6
    refine ⟨μ6, ?_, f6, fun e e1 => ?_, fun e x e1 e2 x1 x2 => ?_, fun e x e1 e2 x1 x2 => ?_⟩
    · show _ = some (ki 3, μ6)
      clear v1 v2 v3 v4 v5 v6
      simp (disch := omega) only [b_X12_lay_64, b_X12_lay_127, b_X12_lay_163, kM.o26 hM, g0, kasI (kM.a108 hM), hμ1, kM.o27 hM1, krcv hM.y, FF, kasI (kM.a109 hM1), hμ2, g2, kM.o27 hM2, g43, kasI (kM.a109 hM2), hμ3, kM.o28 hM3, g45, kasI (kM.a110 hM3), hμ4, g4, kM.o27 hM4, g44, kasI (kM.a109 hM4), hμ5, kM.o28 hM5, g46, kasI (kM.a110 hM5), hμ6, g6, ki_0, ki_1, ki_2, ki_3, ki_4, ki_5, ki_6, ki_7, ki_8, ki_9, ki_10, ki_11, ki_12, ki_13, ki_18, ki_20, ki_24, ki_32, ki_36, ki_45, ki_47, ki_48, ki_50, ki_57, ki_60, ki_63, ki_99, ki_100, ki_101, ki_120, ki_255, ki_468, ki_1000, ki_1024, ki_13849, ki_25173, ki_65535, ki_65536, ki_100000, ki_100001, ki_2147483647, ki_2147483648, kl_0, kl_1, kl_2, kl_9223372036854775808, ki_add, ki_sub, ki_mul, ki_neg, kl_add, kl_sub, kl_mul, kl_neg, ki_i2l, kl_l2i, ki_lt, ki_le, ki_eq, kcmp_eq, kcmp_lt, kcmp_le, kcmp_gt, kcmp_ge, Option.bind_some, Option.map_some, kbool0, kbool1, if_pos, if_neg, if_true, if_false, Int.neg_neg, Int.sub_zero, Int.add_zero, Int.zero_add, true_and, and_true, false_and, and_false, false_or, or_false, true_or, or_true, ne_eq, not_false_eq_true, not_true_eq_false]
    · rw [v6, v5, v4, v3, v2, v1, if_neg (by omega), if_neg (by omega), if_neg (by omega), if_neg (by omega), if_neg (by omega)]
      by_cases g : e = d
      · rw [if_pos g, if_pos (by omega)]; rfl
      · rw [if_neg g, if_neg (by omega)]
    · unfold mA
      rw [v6, v5, v4, v3, v2, v1, if_neg (by omega)]
      by_cases g : e = d ∧ x < ((3 : Nat) : Int)
      · have : x = 0 ∨ x = 1 ∨ x = 2 := by omega
        rcases this with rfl | rfl | rfl
        · rw [if_pos g, if_neg (by omega), if_neg (by omega), if_neg (by omega), if_pos (by omega)]
          exact ha0
        · rw [if_pos g, if_neg (by omega), if_neg (by omega), if_pos (by omega)]
          exact ha1
        · rw [if_pos g, if_pos (by omega)]
          exact ha2
      · rw [if_neg g, if_neg (by omega), if_neg (by omega), if_neg (by omega), if_neg (by omega), if_neg (by omega)]
    · unfold mC
      rw [v6, v5, v4, v3, v2, v1]
      by_cases g : e = d ∧ x < ((3 : Nat) : Int) - 1
      · have : x = 0 ∨ x = 1 := by omega
        rcases this with rfl | rfl
        · rw [if_pos g, if_neg (by omega), if_neg (by omega), if_pos (by omega)]
          exact he0
        · rw [if_pos g, if_pos (by omega)]
          exact he3
      · rw [if_neg g, if_neg (by omega), if_neg (by omega), if_neg (by omega), if_neg (by omega), if_neg (by omega), if_neg (by omega)]
set_option maxHeartbeats 1000000 in
theorem ok_lay {L : Nat} {xs : Nat → Int32} {n : Nat} {Y : jY} {μ : jM} (h : Inv L xs n Y μ) : so_lay (Inv L xs) n Y μ := by
  have hX := h.x
  have hM := h.m
  intro a1 a2
  obtain ⟨k, k1, k2, rfl⟩ := ki_is a1
  obtain ⟨d, d1, d2, rfl⟩ := ki_is a2
  obtain ⟨q1, q2, q3, q4, q5⟩ := h.q
  have e0 := X11_hasTones hX
  have g := kM.g10 hM
  have gx := kN.gr hX.n10
  rw [q1] at e0 gx
  by_cases hz : gi μ 95 10 = 0
  · refine ⟨(ki (-1), μ), (ki (-1), μ), ?_, fun _ => rfl, ?_, rfl, h⟩
    · simp (disch := omega) only [f_X11_lay, b_X11_lay_18, krcv (kX.y1 hX), e0, ki_0, ki_1, ki_2, ki_3, ki_4, ki_5, ki_6, ki_7, ki_8, ki_9, ki_10, ki_11, ki_12, ki_13, ki_18, ki_20, ki_24, ki_32, ki_36, ki_45, ki_47, ki_48, ki_50, ki_57, ki_60, ki_63, ki_99, ki_100, ki_101, ki_120, ki_255, ki_468, ki_1000, ki_1024, ki_13849, ki_25173, ki_65535, ki_65536, ki_100000, ki_100001, ki_2147483647, ki_2147483648, kl_0, kl_1, kl_2, kl_9223372036854775808, ki_add, ki_sub, ki_mul, ki_neg, kl_add, kl_sub, kl_mul, kl_neg, ki_i2l, kl_l2i, ki_lt, ki_le, ki_eq, kcmp_eq, kcmp_lt, kcmp_le, kcmp_gt, kcmp_ge, Option.bind_some, Option.map_some, kbool0, kbool1, if_pos, if_neg, if_true, if_false, Int.neg_neg, Int.sub_zero, Int.add_zero, Int.zero_add, true_and, and_true, false_and, and_false, false_or, or_false, true_or, or_true, ne_eq, not_false_eq_true, not_true_eq_false]
    · simp (disch := omega) only [f_X12_lay, b_X12_lay_18, g, ki_0, ki_1, ki_2, ki_3, ki_4, ki_5, ki_6, ki_7, ki_8, ki_9, ki_10, ki_11, ki_12, ki_13, ki_18, ki_20, ki_24, ki_32, ki_36, ki_45, ki_47, ki_48, ki_50, ki_57, ki_60, ki_63, ki_99, ki_100, ki_101, ki_120, ki_255, ki_468, ki_1000, ki_1024, ki_13849, ki_25173, ki_65535, ki_65536, ki_100000, ki_100001, ki_2147483647, ki_2147483648, kl_0, kl_1, kl_2, kl_9223372036854775808, ki_add, ki_sub, ki_mul, ki_neg, kl_add, kl_sub, kl_mul, kl_neg, ki_i2l, kl_l2i, ki_lt, ki_le, ki_eq, kcmp_eq, kcmp_lt, kcmp_le, kcmp_gt, kcmp_ge, Option.bind_some, Option.map_some, kbool0, kbool1, if_pos, if_neg, if_true, if_false, Int.neg_neg, Int.sub_zero, Int.add_zero, Int.zero_add, true_and, and_true, false_and, and_false, false_or, or_false, true_or, or_true, ne_eq, not_false_eq_true, not_true_eq_false]
  · by_cases hk : 0 ≤ k
    · by_cases hd : 0 ≤ d ∧ d ≤ 3
      · by_cases h3 : gi μ 95 10 ≤ 3
        · obtain ⟨N, U, W, N1, N3, eN, bU, u1, lk, ⟨ν, c1, kf, hI⟩, M⟩ := h.allB hz h3
          have hXν := hX.to kf
          obtain ⟨⟨b, ξ⟩, c2, c3⟩ := X11_layLoop hXν N1 N3 hI bU hd.1 hd.2 hk k2
          rw [ki_0] at c2
          simp only [] at c3
          rcases c3 with ⟨tot, rfl, kf2⟩ | ⟨c, ξ0, cc, mkc, sc, kf2, hD, er⟩
          · have kf3 : kF 27 78 μ ξ := kf.trans (kf2.mono (by omega) (by omega))
            have hMξ := hM.to kf3
            obtain ⟨ω, m1, kg, kp, en, r1, r2, tr⟩ := M ξ (fun i a b => kf3.1 i (by omega)) hMξ
            have hMω := hMξ.to kg
            have gξ := kM.g10 hMξ
            rw [kf3.gi (by omega)] at gξ
            obtain ⟨s1, y1, ⟨b2, η⟩, y2, y3, y4⟩ := X12_layLoop (D := fun r => r.1 = ki (-3) ∧ frY ω r.2) N1 N3 hMω en r1 bU u1 tr (d := d) hk k2 (fun c ω' cl m sc _ _ => by
              have := smI_gt m cl
              omega) (fun _ ω' f => ⟨rfl, f⟩)
            simp only [] at y3 y4
            subst y3
            rw [ki_0] at y2
            clear tot
            refine ⟨(ki (-3), ξ), (ki (-3), η), ?_, fun j => congrFun (kf3.1 0 (by omega)) j, ?_, rfl, h.to (((kP.of_rows (kf3.mono (by omega) (by omega))).trans kp).trans y4.kP)⟩
            · simp (disch := omega) only [f_X11_lay, krcv (kX.y1 hX), kX.o1_3 hX, kS.gn (kX.now hX), gx, e0, X11_isDrawer, c1, c2, ki_0, ki_1, ki_2, ki_3, ki_4, ki_5, ki_6, ki_7, ki_8, ki_9, ki_10, ki_11, ki_12, ki_13, ki_18, ki_20, ki_24, ki_32, ki_36, ki_45, ki_47, ki_48, ki_50, ki_57, ki_60, ki_63, ki_99, ki_100, ki_101, ki_120, ki_255, ki_468, ki_1000, ki_1024, ki_13849, ki_25173, ki_65535, ki_65536, ki_100000, ki_100001, ki_2147483647, ki_2147483648, kl_0, kl_1, kl_2, kl_9223372036854775808, ki_add, ki_sub, ki_mul, ki_neg, kl_add, kl_sub, kl_mul, kl_neg, ki_i2l, kl_l2i, ki_lt, ki_le, ki_eq, kcmp_eq, kcmp_lt, kcmp_le, kcmp_gt, kcmp_ge, Option.bind_some, Option.map_some, kbool0, kbool1, if_pos, if_neg, if_true, if_false, Int.neg_neg, Int.sub_zero, Int.add_zero, Int.zero_add, true_and, and_true, false_and, and_false, false_or, or_false, true_or, or_true, ne_eq, not_false_eq_true, not_true_eq_false]
            · simp (disch := omega) only [f_X12_lay, X12_isDrawer, krcv (kM.y hM), gξ, m1, y1, ki_0, ki_1, ki_2, ki_3, ki_4, ki_5, ki_6, ki_7, ki_8, ki_9, ki_10, ki_11, ki_12, ki_13, ki_18, ki_20, ki_24, ki_32, ki_36, ki_45, ki_47, ki_48, ki_50, ki_57, ki_60, ki_63, ki_99, ki_100, ki_101, ki_120, ki_255, ki_468, ki_1000, ki_1024, ki_13849, ki_25173, ki_65535, ki_65536, ki_100000, ki_100001, ki_2147483647, ki_2147483648, kl_0, kl_1, kl_2, kl_9223372036854775808, ki_add, ki_sub, ki_mul, ki_neg, kl_add, kl_sub, kl_mul, kl_neg, ki_i2l, kl_l2i, ki_lt, ki_le, ki_eq, kcmp_eq, kcmp_lt, kcmp_le, kcmp_gt, kcmp_ge, Option.bind_some, Option.map_some, kbool0, kbool1, if_pos, if_neg, if_true, if_false, Int.neg_neg, Int.sub_zero, Int.add_zero, Int.zero_add, true_and, and_true, false_and, and_false, false_or, or_false, true_or, or_true, ne_eq, not_false_eq_true, not_true_eq_false]
              exact y2
          · cases er
            have hXξ := hXν.to kf2
            have hT := kS.t (kX.now hXξ) hd.1 hd.2
            have kc : kF (9 + 5 + 3 * d.toNat) (9 + 5 + 3 * d.toNat + 3) ξ0 (cpM ξ0 (9 + 5 + 3 * d.toNat) 73) := cpM_kF hT
            have t0 : gi (cpM ξ0 (9 + 5 + 3 * d.toNat) 73) (9 + 5 + 3 * d.toNat) 0 = (N : Int) := cpM_0.trans (hI.to kf2).2.2.2
            have t1 : ∀ x : Int, 0 ≤ x → x < (N : Int) → gi (cpM ξ0 (9 + 5 + 3 * d.toNat) 73) (9 + 5 + 3 * d.toNat + 1) x = mkA N U c x ∧ -6 ≤ mkA N U c x ∧ mkA N U c x ≤ 6 := fun x x1 x2 => by
              have := hD.1 x.toNat (by omega)
              rw [toNat_cast x1] at this
              exact ⟨(cpM_1 x1 (by omega)).trans this.1, this.2⟩
            have t2 : ∀ x : Int, 0 ≤ x → x < (N : Int) - 1 → gi (cpM ξ0 (9 + 5 + 3 * d.toNat) 73) (9 + 5 + 3 * d.toNat + 2) x = mkC N U c x ∧ 1 ≤ mkC N U c x ∧ mkC N U c x ≤ 36 := fun x x1 x2 => by
              have := hD.2 x.toNat (by omega)
              rw [toNat_cast x1] at this
              exact ⟨(cpM_2 x1 (by omega)).trans this.1, this.2⟩
            generalize cpM ξ0 (9 + 5 + 3 * d.toNat) 73 = ξ at *
            have kf3 : kF 0 95 μ ξ := ((kf.mono (by omega) (by omega)).trans (kf2.mono (by omega) (by omega))).trans (kc.mono (by omega) (by omega))
            have hMξ := hM.to kf3
            obtain ⟨ω, m1, kg, kp, en, r1, r2, tr⟩ := M ξ (fun i a b => kf3.1 i (by omega)) hMξ
            have hMω := hMξ.to kg
            have gξ := kM.g10 hMξ
            rw [kf3.gi (by omega)] at gξ
            obtain ⟨s1, y1, r, y2, η, rfl, ω2, fy, l2, l3, l4, l5⟩ := X12_layLoop (D := fun r => ∃ η, r = (ki N, η) ∧ ∃ ω2, frY ω ω2 ∧ kF 108 111 ω2 η ∧ (∀ e : Int, 0 ≤ e → gi η 108 e = if e = d then (N : Int) else gi ω2 108 e) ∧ (∀ e x : Int, 0 ≤ e → e ≤ 3 → 0 ≤ x → x < 5 → mA η e x = if e = d ∧ x < (N : Int) then mkA N U c x else mA ω2 e x) ∧ ∀ e x : Int, 0 ≤ e → e ≤ 3 → 0 ≤ x → x < 5 → mC η e x = if e = d ∧ x < (N : Int) - 1 then mkC N U c x else mC ω2 e x) N1 N3 hMω en r1 bU u1 tr (d := d) hk k2 (fun c' ω2 cl m sc' fy fo => by
              have ec : c' = c := smI_uniq m mkc (sc'.trans sc.symm)
              subst ec
              obtain ⟨η, l1, l2, l3, l4, l5⟩ := X12_lays (hMω.to fy.1) N1 N3 (by rw [fy.n]; exact en) (by omega) (by omega) u1 (foN_rd N1 N3 fo) (fun e => by
                rw [fy.1.gi (by omega), gi_cell (kp.2.1 99 (by unfold pers; omega)), kf3.gi (by omega)]
                exact (lk.1 e).1) hd.1 hd.2 (fun i hi => (hD.1 i hi).2) (fun i hi => (hD.2 i hi).2)
              exact ⟨_, l1, η, rfl, ω2, fy, l2, l3, l4, l5⟩) (fun tot => by
              have := smI_gt mkc cc
              omega)
            rw [ki_0] at y2
            have f1 : ∀ i, i ≠ 95 → i < 108 ∨ 111 ≤ i → η i = ω i := fun i i1 i2 => (l2.1 i i2).trans (fy.1.1 i (by omega))
            have f2 : ∀ i, pers i → i ≠ 9 + 5 + 3 * d.toNat → i ≠ 9 + 5 + 3 * d.toNat + 1 → i ≠ 9 + 5 + 3 * d.toNat + 2 → ξ i = μ i := fun i hi i1 i2 i3 => by
              unfold pers at hi
              exact ((kc.1 i (by omega)).trans (kf2.1 i (by omega))).trans (kf.1 i (by omega))
            have f3 : ∀ i, 95 ≤ i → ξ i = μ i := fun i hi => kf3.1 i (by omega)
            have s95 : ∀ j, (j < 42 ∨ 46 < j) → η 95 j = ω 95 j := fun j hj => (congrFun (l2.1 95 (by omega)) j).trans (fy.2 j hj)
            have o1 : ∀ i, i < 95 → η i = ξ i := fun i hi => (f1 i (by omega) (by omega)).trans (kg.1 i (by omega))
            have w108 : ∀ x, gi ω2 108 x = gi μ 108 x := fun x => by rw [fy.1.gi (by omega), gi_cell (kp.2.1 108 (by unfold pers; omega)), gi_cell (f3 108 (by omega))]
            have w109 : ∀ e x, mA ω2 e x = mA μ e x := fun e x => by
              unfold mA
              rw [fy.1.gi (by omega), gi_cell (kp.2.1 109 (by unfold pers; omega)), gi_cell (f3 109 (by omega))]
            have w110 : ∀ e x, mC ω2 e x = mC μ e x := fun e x => by
              unfold mC
              rw [fy.1.gi (by omega), gi_cell (kp.2.1 110 (by unfold pers; omega)), gi_cell (f3 110 (by omega))]
            refine ⟨(ki N, ξ), (ki N, η), ?_, fun j => congrFun (f2 0 (by unfold pers; omega) (by omega) (by omega) (by omega)) j, ?_, rfl, ?_⟩
            · clear sc
              simp (disch := omega) only [f_X11_lay, krcv (kX.y1 hX), kX.o1_3 hX, kS.gn (kX.now hX), gx, e0, X11_isDrawer, c1, c2, ki_0, ki_1, ki_2, ki_3, ki_4, ki_5, ki_6, ki_7, ki_8, ki_9, ki_10, ki_11, ki_12, ki_13, ki_18, ki_20, ki_24, ki_32, ki_36, ki_45, ki_47, ki_48, ki_50, ki_57, ki_60, ki_63, ki_99, ki_100, ki_101, ki_120, ki_255, ki_468, ki_1000, ki_1024, ki_13849, ki_25173, ki_65535, ki_65536, ki_100000, ki_100001, ki_2147483647, ki_2147483648, kl_0, kl_1, kl_2, kl_9223372036854775808, ki_add, ki_sub, ki_mul, ki_neg, kl_add, kl_sub, kl_mul, kl_neg, ki_i2l, kl_l2i, ki_lt, ki_le, ki_eq, kcmp_eq, kcmp_lt, kcmp_le, kcmp_gt, kcmp_ge, Option.bind_some, Option.map_some, kbool0, kbool1, if_pos, if_neg, if_true, if_false, Int.neg_neg, Int.sub_zero, Int.add_zero, Int.zero_add, true_and, and_true, false_and, and_false, false_or, or_false, true_or, or_true, ne_eq, not_false_eq_true, not_true_eq_false]
            · clear sc
              simp (disch := omega) only [f_X12_lay, X12_isDrawer, krcv (kM.y hM), gξ, m1, y1, ki_0, ki_1, ki_2, ki_3, ki_4, ki_5, ki_6, ki_7, ki_8, ki_9, ki_10, ki_11, ki_12, ki_13, ki_18, ki_20, ki_24, ki_32, ki_36, ki_45, ki_47, ki_48, ki_50, ki_57, ki_60, ki_63, ki_99, ki_100, ki_101, ki_120, ki_255, ki_468, ki_1000, ki_1024, ki_13849, ki_25173, ki_65535, ki_65536, ki_100000, ki_100001, ki_2147483647, ki_2147483648, kl_0, kl_1, kl_2, kl_9223372036854775808, ki_add, ki_sub, ki_mul, ki_neg, kl_add, kl_sub, kl_mul, kl_neg, ki_i2l, kl_l2i, ki_lt, ki_le, ki_eq, kcmp_eq, kcmp_lt, kcmp_le, kcmp_gt, kcmp_ge, Option.bind_some, Option.map_some, kbool0, kbool1, if_pos, if_neg, if_true, if_false, Int.neg_neg, Int.sub_zero, Int.add_zero, Int.zero_add, true_and, and_true, false_and, and_false, false_or, or_false, true_or, or_true, ne_eq, not_false_eq_true, not_true_eq_false]
              exact y2
            · refine h.upd3 hd.1 hd.2 ((kf3.mono (by omega) (by omega)).trans ((kg.mono (by omega) (by omega)).trans ((fy.1.mono (by omega) (by omega)).trans (l2.mono (by omega) (by omega))))) (fun i i1 i2 i3 i4 i5 i6 i7 hi => ?_) (((s95 1 (by omega)).trans kp.2.2.1).trans (congrFun (f3 95 (by omega)) 1)) (((s95 10 (by omega)).trans kp.2.2.2.1).trans (congrFun (f3 95 (by omega)) 10)) (((s95 25 (by omega)).trans kp.2.2.2.2).trans (congrFun (f3 95 (by omega)) 25)) ?_ (fun e e1 e2 e3 => ⟨?_, fun x x1 x2 => ?_, fun x x1 x2 => ?_⟩)
              · exact ((f1 i i4 (by omega)).trans (kp.2.1 i hi)).trans (f2 i hi i1 i2 i3)
              · unfold relT
                rw [l3 d hd.1, if_pos rfl, gi_cell (o1 _ (by omega)), t0]
                refine ⟨rfl, by omega, by omega, fun x x1 x2 => ?_, fun x x1 x2 => ?_⟩
                · rw [l4 d x hd.1 hd.2 x1 (by omega), if_pos ⟨rfl, x2⟩, gi_cell (o1 _ (by omega))]
                  exact t1 x x1 x2
                · rw [l5 d x hd.1 hd.2 x1 (by omega), if_pos ⟨rfl, x2⟩, gi_cell (o1 _ (by omega))]
                  exact t2 x x1 x2
              · rw [l3 e e1, if_neg e3, w108]
              · rw [l4 e x e1 e2 x1 x2, if_neg (fun q => e3 q.1), w109]
              · rw [l5 e x e1 e2 x1 x2, if_neg (fun q => e3 q.1), w110]
        · refine ⟨(ki (-2), μ), (ki (-2), μ), ?_, fun _ => rfl, ?_, rfl, h⟩
          · simp (disch := omega) only [f_X11_lay, krcv (kX.y1 hX), kX.o1_3 hX, kS.gn (kX.now hX), gx, e0, X11_isDrawer, ki_0, ki_1, ki_2, ki_3, ki_4, ki_5, ki_6, ki_7, ki_8, ki_9, ki_10, ki_11, ki_12, ki_13, ki_18, ki_20, ki_24, ki_32, ki_36, ki_45, ki_47, ki_48, ki_50, ki_57, ki_60, ki_63, ki_99, ki_100, ki_101, ki_120, ki_255, ki_468, ki_1000, ki_1024, ki_13849, ki_25173, ki_65535, ki_65536, ki_100000, ki_100001, ki_2147483647, ki_2147483648, kl_0, kl_1, kl_2, kl_9223372036854775808, ki_add, ki_sub, ki_mul, ki_neg, kl_add, kl_sub, kl_mul, kl_neg, ki_i2l, kl_l2i, ki_lt, ki_le, ki_eq, kcmp_eq, kcmp_lt, kcmp_le, kcmp_gt, kcmp_ge, Option.bind_some, Option.map_some, kbool0, kbool1, if_pos, if_neg, if_true, if_false, Int.neg_neg, Int.sub_zero, Int.add_zero, Int.zero_add, true_and, and_true, false_and, and_false, false_or, or_false, true_or, or_true, ne_eq, not_false_eq_true, not_true_eq_false]
          · simp (disch := omega) only [f_X12_lay, X12_isDrawer, g, ki_0, ki_1, ki_2, ki_3, ki_4, ki_5, ki_6, ki_7, ki_8, ki_9, ki_10, ki_11, ki_12, ki_13, ki_18, ki_20, ki_24, ki_32, ki_36, ki_45, ki_47, ki_48, ki_50, ki_57, ki_60, ki_63, ki_99, ki_100, ki_101, ki_120, ki_255, ki_468, ki_1000, ki_1024, ki_13849, ki_25173, ki_65535, ki_65536, ki_100000, ki_100001, ki_2147483647, ki_2147483648, kl_0, kl_1, kl_2, kl_9223372036854775808, ki_add, ki_sub, ki_mul, ki_neg, kl_add, kl_sub, kl_mul, kl_neg, ki_i2l, kl_l2i, ki_lt, ki_le, ki_eq, kcmp_eq, kcmp_lt, kcmp_le, kcmp_gt, kcmp_ge, Option.bind_some, Option.map_some, kbool0, kbool1, if_pos, if_neg, if_true, if_false, Int.neg_neg, Int.sub_zero, Int.add_zero, Int.zero_add, true_and, and_true, false_and, and_false, false_or, or_false, true_or, or_true, ne_eq, not_false_eq_true, not_true_eq_false]
      · refine ⟨(ki (-1), μ), (ki (-1), μ), ?_, fun _ => rfl, ?_, rfl, h⟩
        · simp (disch := omega) only [f_X11_lay, b_X11_lay_18, krcv (kX.y1 hX), e0, X11_isDrawer, ki_0, ki_1, ki_2, ki_3, ki_4, ki_5, ki_6, ki_7, ki_8, ki_9, ki_10, ki_11, ki_12, ki_13, ki_18, ki_20, ki_24, ki_32, ki_36, ki_45, ki_47, ki_48, ki_50, ki_57, ki_60, ki_63, ki_99, ki_100, ki_101, ki_120, ki_255, ki_468, ki_1000, ki_1024, ki_13849, ki_25173, ki_65535, ki_65536, ki_100000, ki_100001, ki_2147483647, ki_2147483648, kl_0, kl_1, kl_2, kl_9223372036854775808, ki_add, ki_sub, ki_mul, ki_neg, kl_add, kl_sub, kl_mul, kl_neg, ki_i2l, kl_l2i, ki_lt, ki_le, ki_eq, kcmp_eq, kcmp_lt, kcmp_le, kcmp_gt, kcmp_ge, Option.bind_some, Option.map_some, kbool0, kbool1, if_pos, if_neg, if_true, if_false, Int.neg_neg, Int.sub_zero, Int.add_zero, Int.zero_add, true_and, and_true, false_and, and_false, false_or, or_false, true_or, or_true, ne_eq, not_false_eq_true, not_true_eq_false]
        · simp (disch := omega) only [f_X12_lay, b_X12_lay_18, X12_isDrawer, g, ki_0, ki_1, ki_2, ki_3, ki_4, ki_5, ki_6, ki_7, ki_8, ki_9, ki_10, ki_11, ki_12, ki_13, ki_18, ki_20, ki_24, ki_32, ki_36, ki_45, ki_47, ki_48, ki_50, ki_57, ki_60, ki_63, ki_99, ki_100, ki_101, ki_120, ki_255, ki_468, ki_1000, ki_1024, ki_13849, ki_25173, ki_65535, ki_65536, ki_100000, ki_100001, ki_2147483647, ki_2147483648, kl_0, kl_1, kl_2, kl_9223372036854775808, ki_add, ki_sub, ki_mul, ki_neg, kl_add, kl_sub, kl_mul, kl_neg, ki_i2l, kl_l2i, ki_lt, ki_le, ki_eq, kcmp_eq, kcmp_lt, kcmp_le, kcmp_gt, kcmp_ge, Option.bind_some, Option.map_some, kbool0, kbool1, if_pos, if_neg, if_true, if_false, Int.neg_neg, Int.sub_zero, Int.add_zero, Int.zero_add, true_and, and_true, false_and, and_false, false_or, or_false, true_or, or_true, ne_eq, not_false_eq_true, not_true_eq_false]
    · refine ⟨(ki (-1), μ), (ki (-1), μ), ?_, fun _ => rfl, ?_, rfl, h⟩
      · simp (disch := omega) only [f_X11_lay, b_X11_lay_18, krcv (kX.y1 hX), e0, ki_0, ki_1, ki_2, ki_3, ki_4, ki_5, ki_6, ki_7, ki_8, ki_9, ki_10, ki_11, ki_12, ki_13, ki_18, ki_20, ki_24, ki_32, ki_36, ki_45, ki_47, ki_48, ki_50, ki_57, ki_60, ki_63, ki_99, ki_100, ki_101, ki_120, ki_255, ki_468, ki_1000, ki_1024, ki_13849, ki_25173, ki_65535, ki_65536, ki_100000, ki_100001, ki_2147483647, ki_2147483648, kl_0, kl_1, kl_2, kl_9223372036854775808, ki_add, ki_sub, ki_mul, ki_neg, kl_add, kl_sub, kl_mul, kl_neg, ki_i2l, kl_l2i, ki_lt, ki_le, ki_eq, kcmp_eq, kcmp_lt, kcmp_le, kcmp_gt, kcmp_ge, Option.bind_some, Option.map_some, kbool0, kbool1, if_pos, if_neg, if_true, if_false, Int.neg_neg, Int.sub_zero, Int.add_zero, Int.zero_add, true_and, and_true, false_and, and_false, false_or, or_false, true_or, or_true, ne_eq, not_false_eq_true, not_true_eq_false]
      · by_cases hd : 0 ≤ d ∧ d ≤ 3
        · simp (disch := omega) only [f_X12_lay, b_X12_lay_18, X12_isDrawer, g, ki_0, ki_1, ki_2, ki_3, ki_4, ki_5, ki_6, ki_7, ki_8, ki_9, ki_10, ki_11, ki_12, ki_13, ki_18, ki_20, ki_24, ki_32, ki_36, ki_45, ki_47, ki_48, ki_50, ki_57, ki_60, ki_63, ki_99, ki_100, ki_101, ki_120, ki_255, ki_468, ki_1000, ki_1024, ki_13849, ki_25173, ki_65535, ki_65536, ki_100000, ki_100001, ki_2147483647, ki_2147483648, kl_0, kl_1, kl_2, kl_9223372036854775808, ki_add, ki_sub, ki_mul, ki_neg, kl_add, kl_sub, kl_mul, kl_neg, ki_i2l, kl_l2i, ki_lt, ki_le, ki_eq, kcmp_eq, kcmp_lt, kcmp_le, kcmp_gt, kcmp_ge, Option.bind_some, Option.map_some, kbool0, kbool1, if_pos, if_neg, if_true, if_false, Int.neg_neg, Int.sub_zero, Int.add_zero, Int.zero_add, true_and, and_true, false_and, and_false, false_or, or_false, true_or, or_true, ne_eq, not_false_eq_true, not_true_eq_false]
        · simp (disch := omega) only [f_X12_lay, b_X12_lay_18, X12_isDrawer, g, ki_0, ki_1, ki_2, ki_3, ki_4, ki_5, ki_6, ki_7, ki_8, ki_9, ki_10, ki_11, ki_12, ki_13, ki_18, ki_20, ki_24, ki_32, ki_36, ki_45, ki_47, ki_48, ki_50, ki_57, ki_60, ki_63, ki_99, ki_100, ki_101, ki_120, ki_255, ki_468, ki_1000, ki_1024, ki_13849, ki_25173, ki_65535, ki_65536, ki_100000, ki_100001, ki_2147483647, ki_2147483648, kl_0, kl_1, kl_2, kl_9223372036854775808, ki_add, ki_sub, ki_mul, ki_neg, kl_add, kl_sub, kl_mul, kl_neg, ki_i2l, kl_l2i, ki_lt, ki_le, ki_eq, kcmp_eq, kcmp_lt, kcmp_le, kcmp_gt, kcmp_ge, Option.bind_some, Option.map_some, kbool0, kbool1, if_pos, if_neg, if_true, if_false, Int.neg_neg, Int.sub_zero, Int.add_zero, Int.zero_add, true_and, and_true, false_and, and_false, false_or, or_false, true_or, or_true, ne_eq, not_false_eq_true, not_true_eq_false]
