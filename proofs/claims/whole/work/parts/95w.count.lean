/-! ALL TABLES: counted in both -/
def mkI (N : Nat) (U : Int → Int) (c : Int) : Int := if (-6 ≤ laA N U (cdA N c) ∧ laA N U (cdA N c) ≤ 6) ∧ (2 ≤ N → 1 ≤ laC N U (cdA N c) (cdC c) ∧ laC N U (cdA N c) (cdC c) ≤ 36) ∧ (pv (roA N U (cdA N c)) (roC N U (cdA N c) (cdC c)) 0 1 0 N).2 = U 0 then 1 else 0
theorem cdN_le (N : Nat) : cdN N ≤ 6084 := by
  unfold cdN
  split
  · omega
  · split <;> omega
theorem mkI_1 {N : Nat} {U : Int → Int} {c : Int} (h : mk N U c) : mkI N U c = 1 := if_pos h
theorem mkI_0 {N : Nat} {U : Int → Int} {c : Int} (h : ¬ mk N U c) : mkI N U c = 0 := if_neg h
def ctG (N : Nat) (U M : Int → Int) (c : Int) : Int := mkI N U c * M c
theorem smF_skip {g : Int → Int} {a : Nat} : ∀ d : Nat, (∀ k : Nat, a ≤ k → k < a + d → g k = 0) → smF g (a + d) = smF g a := by
  intro d
  induction d with
  | zero => intro _; rfl
  | succ d ih =>
    intro h
    rw [← Nat.add_assoc, smF, ih (fun k x y => h k x (by omega)), h (a + d) (by omega) (by omega), Int.add_zero]
theorem cnt_gen {Y : jY} {μ0 : jM} {N : Nat} (N1 : 1 ≤ N) (N3 : N ≤ 3) {U M : Int → Int} {F : Int32 × jM → Option ((Int32 × jM) ⊕ (Int32 × jM))} (h : ∀ (v : Int) (ν ω : jM) (r : Int32), frY μ0 ν → f_X12_goesOn Y 95 ν = some (r, ω) → frY ν ω → (r = ki 0 → F (ki v, ν) = some (.inr (ki v, ω))) ∧ ∀ c : Int, 0 ≤ c → c < cdN N → mk N U c → foN N U c ω → r = ki 1 → F (ki v, ν) = some (.inl (ki (v + M c), ω))) (hM : kM Y μ0) (eN : gi μ0 95 10 = (N : Int)) (hU : rowK μ0 101 ((N : Int) + 1) U) (bU : ∀ j : Nat, j ≤ N → (U j).natAbs ≤ 1000000) (u1 : N = 1 → (U 0).natAbs ≤ 6) (t0 : trN N 0 μ0) : ∃ ω, jit jF F (ki 0, μ0) = some (ki (smF (ctG N U M) (cdN N)), ω) ∧ frY μ0 ω := by
  obtain ⟨r, e, ω, rfl, f⟩ := jit_inv (f := F) (fun t z => ∃ c : Nat, t ≤ c ∧ c ≤ cdN N ∧ z.1 = ki (smF (ctG N U M) c) ∧ frY μ0 z.2 ∧ trN N c z.2) (fun r => ∃ ω, r = (ki (smF (ctG N U M) (cdN N)), ω) ∧ frY μ0 ω) (cdN N) (s := (ki 0, μ0)) ⟨0, by omega, by omega, rfl, frY.refl, t0⟩ (by have := cdN_le N; omega) (fun t z ht hz => by
    obtain ⟨v, ν⟩ := z
    obtain ⟨c, tc, cc, rfl, z1, z2⟩ := hz
    simp only [] at z1 z2
    obtain ⟨⟨r, ω⟩, g1, g2, g3⟩ := X12_goesOn (hM.to z1.1) N1 N3 (by rw [z1.n]; exact eN) (hU.to z1.1 (by omega)) bU u1 (c := (c : Int)) (by omega) (by omega) z2
    simp only [] at g2 g3
    obtain ⟨h0, h1⟩ := h (smF (ctG N U M) c) ν ω r z1 g1 g2
    rcases g3 with ⟨rfl, c', a, b, m, n, fo⟩ | ⟨rfl, n⟩
    · have e := h1 c' (by omega) b m fo rfl
      obtain ⟨d, hd⟩ : ∃ d : Nat, c' = ((c + d : Nat) : Int) := ⟨(c' - c).toNat, by omega⟩
      have sk := smF_skip (g := ctG N U M) (a := c) d (fun k x y => by
        unfold ctG
        rw [mkI_0 (n k (by omega) (by omega)), Int.zero_mul])
      have s1 : smF (ctG N U M) (c + d + 1) = smF (ctG N U M) c + M c' := by
        rw [smF, sk]
        unfold ctG
        rw [← hd, mkI_1 m, Int.one_mul]
      refine ⟨_, e, by omega, c + d + 1, by omega, by omega, by rw [s1], z1.trans g2, ?_⟩
      have := foN_tr N1 N3 fo
      rw [hd] at this
      exact this
    · have e := h0 rfl
      obtain ⟨d, hd⟩ : ∃ d : Nat, cdN N = c + d := ⟨cdN N - c, by omega⟩
      have sk := smF_skip (g := ctG N U M) (a := c) d (fun k x y => by
        unfold ctG
        rw [mkI_0 (n k (by omega) (by omega)), Int.zero_mul])
      refine ⟨_, e, ω, ?_, z1.trans g2⟩
      rw [hd, sk])
  exact ⟨ω, e, f⟩
/-- the class's row of a code that makes one -/
def maD (N : Nat) (U : Int → Int) (c : Int) (ν : jM) : Prop := (∀ i : Nat, i < N → gi ν 74 i = mkA N U c i ∧ -6 ≤ mkA N U c i ∧ mkA N U c i ≤ 6) ∧ ∀ i : Nat, i + 1 < N → gi ν 75 i = mkC N U c i ∧ 1 ≤ mkC N U c i ∧ mkC N U c i ≤ 36
set_option maxHeartbeats 1000000 in
theorem X11_countLoop {Y : jY} {μ : jM} (hX : kX Y μ) {N : Nat} (N1 : 1 ≤ N) (N3 : N ≤ 3) {U W M : Int → Int} (hI : atI μ N U W) (bU : ∀ j : Nat, j ≤ N → (U j).natAbs ≤ 1000000) {w v : Int} (hm : ∀ (c : Int) (ν : jM), kX Y ν → atI ν N U W → 0 ≤ c → c < cdN N → mk N U c → maD N U c ν → f_X0_madeMeets Y 72 (ki w) (ki v) ν = some (ki (M c), ν)) (hM2 : ∀ c, 0 ≤ c → c < cdN N → mk N U c → M c = 0 ∨ M c = 1) : ∃ ν, jit jF (fun (s : Int32 × Int32 × jM) => b_X11_countTables_35 Y 1 (ki w) (ki v) s.1 s.2.1 s.2.2) ((0 : Int32), (0 : Int32), μ) = some (ki (smF (ctG N U M) (cdN N)), ν) ∧ kF 74 76 μ ν := by
  have c6 : cdN N ≤ 6084 := cdN_le N
  obtain ⟨r, e, ω, rfl, f⟩ := jit_inv (f := fun (s : Int32 × Int32 × jM) => b_X11_countTables_35 Y 1 (ki w) (ki v) s.1 s.2.1 s.2.2) (fun t z => z.1 = ki (smF (ctG N U M) t) ∧ z.2.1 = ki t ∧ kF 74 76 μ z.2.2) (fun r => ∃ ν, r = (ki (smF (ctG N U M) (cdN N)), ν) ∧ kF 74 76 μ ν) (cdN N) (s := ((0 : Int32), (0 : Int32), μ)) ⟨rfl, rfl, kF.refl⟩ (by omega) (fun t z ht hz => by
    obtain ⟨a, b, ν⟩ := z
    obtain ⟨rfl, rfl, z1⟩ := hz
    simp only [] at z1
    have hXz := hX.to z1
    have hIz := hI.to z1
    have cd := X0_codes hXz N1 N3 hIz
    by_cases e : t = cdN N
    · subst e
      refine ⟨.inr (ki (smF (ctG N U M) (cdN N)), ν), ?_, ν, rfl, z1⟩
      generalize smF (ctG N U M) (cdN N) = s
      simp (disch := omega) only [b_X11_countTables_35, kX.o1_8 hXz, krcv hX.y72, cd, ki_0, ki_1, ki_2, ki_3, ki_4, ki_5, ki_6, ki_7, ki_8, ki_9, ki_10, ki_11, ki_12, ki_13, ki_18, ki_20, ki_24, ki_32, ki_36, ki_45, ki_47, ki_48, ki_50, ki_57, ki_60, ki_63, ki_99, ki_100, ki_101, ki_120, ki_255, ki_468, ki_1000, ki_1024, ki_13849, ki_25173, ki_65535, ki_65536, ki_100000, ki_100001, ki_2147483647, ki_2147483648, kl_0, kl_1, kl_2, kl_9223372036854775808, ki_add, ki_sub, ki_mul, ki_neg, kl_add, kl_sub, kl_mul, kl_neg, ki_i2l, kl_l2i, ki_lt, ki_le, ki_eq, kcmp_eq, kcmp_lt, kcmp_le, kcmp_gt, kcmp_ge, Option.bind_some, Option.map_some, kbool0, kbool1, if_pos, if_neg, if_true, if_false, Int.neg_neg, Int.sub_zero, Int.add_zero, Int.zero_add, true_and, and_true, false_and, and_false, false_or, or_false, true_or, or_true, ne_eq, not_false_eq_true, not_true_eq_false]
    · obtain ⟨r, ω, m1, m2, m3⟩ := X0_makes hXz N1 N3 hIz bU (c := (t : Int)) (by omega) (by omega)
      have hXω := hXz.to m2
      have hs : smF (ctG N U M) (t + 1) = smF (ctG N U M) t + ctG N U M t := rfl
      generalize smF (ctG N U M) (t + 1) = s1 at *
      generalize smF (ctG N U M) t = s at *
      refine ⟨.inl (ki s1, ki ((t + 1 : Nat) : Int), ω), ?_, by omega, rfl, rfl, z1.trans m2⟩
      rcases m3 with ⟨rfl, m3⟩ | ⟨rfl, m3, m4⟩
      · have : ctG N U M t = 0 := by
          unfold ctG
          rw [mkI_0 m3, Int.zero_mul]
        rw [hs, this, Int.add_zero]
        simp (disch := omega) only [b_X11_countTables_35, b_X11_countTables_74, kX.o1_8 hXz, krcv hX.y72, cd, m1, ki_0, ki_1, ki_2, ki_3, ki_4, ki_5, ki_6, ki_7, ki_8, ki_9, ki_10, ki_11, ki_12, ki_13, ki_18, ki_20, ki_24, ki_32, ki_36, ki_45, ki_47, ki_48, ki_50, ki_57, ki_60, ki_63, ki_99, ki_100, ki_101, ki_120, ki_255, ki_468, ki_1000, ki_1024, ki_13849, ki_25173, ki_65535, ki_65536, ki_100000, ki_100001, ki_2147483647, ki_2147483648, kl_0, kl_1, kl_2, kl_9223372036854775808, ki_add, ki_sub, ki_mul, ki_neg, kl_add, kl_sub, kl_mul, kl_neg, ki_i2l, kl_l2i, ki_lt, ki_le, ki_eq, kcmp_eq, kcmp_lt, kcmp_le, kcmp_gt, kcmp_ge, Option.bind_some, Option.map_some, kbool0, kbool1, if_pos, if_neg, if_true, if_false, Int.neg_neg, Int.sub_zero, Int.add_zero, Int.zero_add, true_and, and_true, false_and, and_false, false_or, or_false, true_or, or_true, ne_eq, not_false_eq_true, not_true_eq_false, Int.natCast_add, Int.natCast_one]
      · have mm := hm t ω hXω (hIz.to m2) (by omega) (by omega) m3 m4
        have m01 := hM2 t (by omega) (by omega) m3
        have : ctG N U M t = M t := by
          unfold ctG
          rw [mkI_1 m3, Int.one_mul]
        rw [hs, this]
        generalize M t = q at *
        rcases m01 with rfl | rfl
        · simp (disch := omega) only [b_X11_countTables_35, b_X11_countTables_74, kX.o1_8 hXz, kX.o1_8 hXω, krcv hX.y72, cd, m1, mm, ki_0, ki_1, ki_2, ki_3, ki_4, ki_5, ki_6, ki_7, ki_8, ki_9, ki_10, ki_11, ki_12, ki_13, ki_18, ki_20, ki_24, ki_32, ki_36, ki_45, ki_47, ki_48, ki_50, ki_57, ki_60, ki_63, ki_99, ki_100, ki_101, ki_120, ki_255, ki_468, ki_1000, ki_1024, ki_13849, ki_25173, ki_65535, ki_65536, ki_100000, ki_100001, ki_2147483647, ki_2147483648, kl_0, kl_1, kl_2, kl_9223372036854775808, ki_add, ki_sub, ki_mul, ki_neg, kl_add, kl_sub, kl_mul, kl_neg, ki_i2l, kl_l2i, ki_lt, ki_le, ki_eq, kcmp_eq, kcmp_lt, kcmp_le, kcmp_gt, kcmp_ge, Option.bind_some, Option.map_some, kbool0, kbool1, if_pos, if_neg, if_true, if_false, Int.neg_neg, Int.sub_zero, Int.add_zero, Int.zero_add, true_and, and_true, false_and, and_false, false_or, or_false, true_or, or_true, ne_eq, not_false_eq_true, not_true_eq_false, Int.natCast_add, Int.natCast_one]
        · simp (disch := omega) only [b_X11_countTables_35, b_X11_countTables_74, kX.o1_8 hXz, kX.o1_8 hXω, krcv hX.y72, cd, m1, mm, ki_0, ki_1, ki_2, ki_3, ki_4, ki_5, ki_6, ki_7, ki_8, ki_9, ki_10, ki_11, ki_12, ki_13, ki_18, ki_20, ki_24, ki_32, ki_36, ki_45, ki_47, ki_48, ki_50, ki_57, ki_60, ki_63, ki_99, ki_100, ki_101, ki_120, ki_255, ki_468, ki_1000, ki_1024, ki_13849, ki_25173, ki_65535, ki_65536, ki_100000, ki_100001, ki_2147483647, ki_2147483648, kl_0, kl_1, kl_2, kl_9223372036854775808, ki_add, ki_sub, ki_mul, ki_neg, kl_add, kl_sub, kl_mul, kl_neg, ki_i2l, kl_l2i, ki_lt, ki_le, ki_eq, kcmp_eq, kcmp_lt, kcmp_le, kcmp_gt, kcmp_ge, Option.bind_some, Option.map_some, kbool0, kbool1, if_pos, if_neg, if_true, if_false, Int.neg_neg, Int.sub_zero, Int.add_zero, Int.zero_add, true_and, and_true, false_and, and_false, false_or, or_false, true_or, or_true, ne_eq, not_false_eq_true, not_true_eq_false, Int.natCast_add, Int.natCast_one])
  exact ⟨ω, e, f⟩
