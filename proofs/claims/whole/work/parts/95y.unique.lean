/-! ALL TABLES: those that end with the lower row -/
theorem mk_bd {N : Nat} {U : Int → Int} {c : Int} (N1 : 1 ≤ N) (N3 : N ≤ 3) (c0 : 0 ≤ c) (c1 : c < cdN N) (h : mk N U c) : (∀ i : Int, 0 ≤ i → i < N → -6 ≤ mkA N U c i ∧ mkA N U c i ≤ 6) ∧ ∀ i : Int, 0 ≤ i → i < (N : Int) - 1 → 1 ≤ mkC N U c i ∧ mkC N U c i ≤ 36 := by
  obtain ⟨h1, h2, _⟩ := h
  refine ⟨fun i i0 i1 => ?_, fun i i0 i1 => ?_⟩
  · unfold mkA roA
    by_cases e : i = (N : Int) - 1
    · rw [if_pos e]; exact h1
    · rw [if_neg e]
      have : N = 2 ∨ N = 3 := by omega
      rcases this with rfl | rfl
      · have c1 : c < 13 := c1
        show -6 ≤ c - 6 ∧ c - 6 ≤ 6
        omega
      · have c1 : c < 6084 := c1
        show -6 ≤ (if i = 0 then c / 468 - 6 else c / 36 % 13 - 6) ∧ (if i = 0 then c / 468 - 6 else c / 36 % 13 - 6) ≤ 6
        split <;> omega
  · unfold mkC roC
    by_cases e : i = (N : Int) - 2
    · rw [if_pos e]; exact h2 (by omega)
    · rw [if_neg e]
      unfold cdC
      omega
/-- what the reference has when it found one -/
def rdN (N : Nat) (U : Int → Int) (c : Int) (ω : jM) : Prop := (2 ≤ N → gi ω 95 42 = mkA N U c 0 ∧ gi ω 95 43 = mkA N U c 1 ∧ gi ω 95 45 = mkC N U c 0) ∧ (N = 3 → gi ω 95 44 = mkA N U c 2 ∧ gi ω 95 46 = mkC N U c 1)
theorem foN_rd {N : Nat} {U : Int → Int} {c : Int} {ω : jM} (N1 : 1 ≤ N) (N3 : N ≤ 3) (h : foN N U c ω) : rdN N U c ω := by
  have : N = 1 ∨ N = 2 ∨ N = 3 := by omega
  rcases this with rfl | rfl | rfl
  · exact ⟨fun q => by omega, fun q => by omega⟩
  · have h : fo2 U c ω := h
    have m := (mk_2 (U := U) (c := c) rfl rfl rfl).2.1
    exact ⟨fun _ => ⟨by rw [m]; exact h.1, h.2.1, h.2.2⟩, fun q => by omega⟩
  · have h : fo3 U c ω := h
    exact ⟨fun _ => ⟨h.2.1, h.2.2.1, h.2.2.2.2.1⟩, fun _ => ⟨h.2.2.2.1, h.2.2.2.2.2⟩⟩
def unM (N : Nat) (U m : Int → Int) (c : Int) : Int := if N = 1 ∨ (N = 2 ∧ mkA N U c 1 = m 0) ∨ (N = 3 ∧ mkA N U c 1 + mkA N U c 2 = m 0 + m 1 ∧ mkA N U c 1 * mkA N U c 2 - mkC N U c 1 = m 0 * m 1) then 1 else 0
theorem unM_two (N : Nat) (U m : Int → Int) (c : Int) : unM N U m c = 0 ∨ unM N U m c = 1 := by
  unfold unM
  split <;> omega
theorem X12_hasLater {Y : jY} {ω : jM} (hM : kM Y ω) {N : Nat} (N1 : 1 ≤ N) (N3 : N ≤ 3) (eN : gi ω 95 10 = (N : Int)) {U m : Int → Int} {c : Int} (c0 : 0 ≤ c) (c1 : c < cdN N) (hk : mk N U c) (rd : rdN N U c ω) (hm : ∀ x : Int, 0 ≤ x → x < (N : Int) - 1 → gi ω 100 x = m x ∧ -6 ≤ m x ∧ m x ≤ 6) : f_X12_hasLater Y 95 ω = some (ki (unM N U m c), ω) := by
  obtain ⟨bA, bC⟩ := mk_bd N1 N3 c0 c1 hk
  have g := kM.g10 hM
  rw [eN] at g
  have : N = 1 ∨ N = 2 ∨ N = 3 := by omega
  rcases this with rfl | rfl | rfl
  · have g : jgI Y ω 95 12 10 = some (ki 1) := g
    have e : unM 1 U m c = 1 := if_pos (Or.inl rfl)
    rw [e]
    simp (disch := omega) only [f_X12_hasLater, g, ki_0, ki_1, ki_2, ki_3, ki_4, ki_5, ki_6, ki_7, ki_8, ki_9, ki_10, ki_11, ki_12, ki_13, ki_18, ki_20, ki_24, ki_32, ki_36, ki_45, ki_47, ki_48, ki_50, ki_57, ki_60, ki_63, ki_99, ki_100, ki_101, ki_120, ki_255, ki_468, ki_1000, ki_1024, ki_13849, ki_25173, ki_65535, ki_65536, ki_100000, ki_100001, ki_2147483647, ki_2147483648, kl_0, kl_1, kl_2, kl_9223372036854775808, ki_add, ki_sub, ki_mul, ki_neg, kl_add, kl_sub, kl_mul, kl_neg, ki_i2l, kl_l2i, ki_lt, ki_le, ki_eq, kcmp_eq, kcmp_lt, kcmp_le, kcmp_gt, kcmp_ge, Option.bind_some, Option.map_some, kbool0, kbool1, if_pos, if_neg, if_true, if_false, Int.neg_neg, Int.sub_zero, Int.add_zero, Int.zero_add, true_and, and_true, false_and, and_false, false_or, or_false, true_or, or_true, ne_eq, not_false_eq_true, not_true_eq_false]
  · have g : jgI Y ω 95 12 10 = some (ki 2) := g
    have g43 := kM.g43 hM
    rw [(rd.1 (by omega)).2.1] at g43
    obtain ⟨m0, m1, m2⟩ := hm 0 (by omega) (by omega)
    have a0 := kaI (kM.a100 hM) (x := 0) (by omega) (by omega)
    rw [m0] at a0
    have b1 := bA 1 (by omega) (by omega)
    have iff2 : (2 = 1 ∨ (2 = 2 ∧ mkA 2 U c 1 = m 0) ∨ (2 = 3 ∧ mkA 2 U c 1 + mkA 2 U c 2 = m 0 + m 1 ∧ mkA 2 U c 1 * mkA 2 U c 2 - mkC 2 U c 1 = m 0 * m 1)) ↔ mkA 2 U c 1 = m 0 := by
      constructor
      · rintro (h | ⟨_, h⟩ | ⟨h, _⟩)
        · omega
        · exact h
        · omega
      · intro h
        exact Or.inr (Or.inl ⟨rfl, h⟩)
    have e : unM 2 U m c = if mkA 2 U c 1 = m 0 then 1 else 0 := if_iff iff2
    rw [e]
    clear e iff2
    generalize mkA 2 U c 1 = a at *
    generalize m 0 = z at *
    by_cases q : a = z
    · rw [if_pos q]
      simp (disch := omega) only [f_X12_hasLater, b_X12_hasLater_36, g, g43, kM.o12 hM, a0, ki_0, ki_1, ki_2, ki_3, ki_4, ki_5, ki_6, ki_7, ki_8, ki_9, ki_10, ki_11, ki_12, ki_13, ki_18, ki_20, ki_24, ki_32, ki_36, ki_45, ki_47, ki_48, ki_50, ki_57, ki_60, ki_63, ki_99, ki_100, ki_101, ki_120, ki_255, ki_468, ki_1000, ki_1024, ki_13849, ki_25173, ki_65535, ki_65536, ki_100000, ki_100001, ki_2147483647, ki_2147483648, kl_0, kl_1, kl_2, kl_9223372036854775808, ki_add, ki_sub, ki_mul, ki_neg, kl_add, kl_sub, kl_mul, kl_neg, ki_i2l, kl_l2i, ki_lt, ki_le, ki_eq, kcmp_eq, kcmp_lt, kcmp_le, kcmp_gt, kcmp_ge, Option.bind_some, Option.map_some, kbool0, kbool1, if_pos, if_neg, if_true, if_false, Int.neg_neg, Int.sub_zero, Int.add_zero, Int.zero_add, true_and, and_true, false_and, and_false, false_or, or_false, true_or, or_true, ne_eq, not_false_eq_true, not_true_eq_false]
    · rw [if_neg q]
      simp (disch := omega) only [f_X12_hasLater, b_X12_hasLater_36, g, g43, kM.o12 hM, a0, ki_0, ki_1, ki_2, ki_3, ki_4, ki_5, ki_6, ki_7, ki_8, ki_9, ki_10, ki_11, ki_12, ki_13, ki_18, ki_20, ki_24, ki_32, ki_36, ki_45, ki_47, ki_48, ki_50, ki_57, ki_60, ki_63, ki_99, ki_100, ki_101, ki_120, ki_255, ki_468, ki_1000, ki_1024, ki_13849, ki_25173, ki_65535, ki_65536, ki_100000, ki_100001, ki_2147483647, ki_2147483648, kl_0, kl_1, kl_2, kl_9223372036854775808, ki_add, ki_sub, ki_mul, ki_neg, kl_add, kl_sub, kl_mul, kl_neg, ki_i2l, kl_l2i, ki_lt, ki_le, ki_eq, kcmp_eq, kcmp_lt, kcmp_le, kcmp_gt, kcmp_ge, Option.bind_some, Option.map_some, kbool0, kbool1, if_pos, if_neg, if_true, if_false, Int.neg_neg, Int.sub_zero, Int.add_zero, Int.zero_add, true_and, and_true, false_and, and_false, false_or, or_false, true_or, or_true, ne_eq, not_false_eq_true, not_true_eq_false]
  · have g : jgI Y ω 95 12 10 = some (ki 3) := g
    have g43 := kM.g43 hM
    rw [(rd.1 (by omega)).2.1] at g43
    have g44 := kM.g44 hM
    rw [(rd.2 rfl).1] at g44
    have g46 := kM.g46 hM
    rw [(rd.2 rfl).2] at g46
    obtain ⟨m0, m1, m2⟩ := hm 0 (by omega) (by omega)
    obtain ⟨n0, n1, n2⟩ := hm 1 (by omega) (by omega)
    have a0 := kaI (kM.a100 hM) (x := 0) (by omega) (by omega)
    rw [m0] at a0
    have a1 := kaI (kM.a100 hM) (x := 1) (by omega) (by omega)
    rw [n0] at a1
    have b1 := bA 1 (by omega) (by omega)
    have b2 := bA 2 (by omega) (by omega)
    have b3 := bC 1 (by omega) (by omega)
    have iff3 : (3 = 1 ∨ (3 = 2 ∧ mkA 3 U c 1 = m 0) ∨ (3 = 3 ∧ mkA 3 U c 1 + mkA 3 U c 2 = m 0 + m 1 ∧ mkA 3 U c 1 * mkA 3 U c 2 - mkC 3 U c 1 = m 0 * m 1)) ↔ (mkA 3 U c 1 + mkA 3 U c 2 = m 0 + m 1 ∧ mkA 3 U c 1 * mkA 3 U c 2 - mkC 3 U c 1 = m 0 * m 1) := by
      constructor
      · rintro (h | ⟨h, _⟩ | ⟨_, h⟩)
        · omega
        · omega
        · exact h
      · intro h
        exact Or.inr (Or.inr ⟨rfl, h⟩)
    have e : unM 3 U m c = if (mkA 3 U c 1 + mkA 3 U c 2 = m 0 + m 1 ∧ mkA 3 U c 1 * mkA 3 U c 2 - mkC 3 U c 1 = m 0 * m 1) then 1 else 0 := if_iff iff3
    rw [e]
    clear e iff3
    generalize mkA 3 U c 1 = a at *
    generalize mkA 3 U c 2 = b at *
    generalize mkC 3 U c 1 = d at *
    generalize m 0 = z at *
    generalize m 1 = y at *
    have p1 := mulB (a := a) (b := b) (A := 6) (B := 6) b1.1 b1.2 b2.1 b2.2
    have p2 := mulB (a := z) (b := y) (A := 6) (B := 6) m1 m2 n1 n2
    generalize hp : a * b = p at *
    generalize hq : z * y = q at *
    by_cases h1 : a + b = z + y
    · by_cases h2 : p - d = q
      · rw [if_pos ⟨h1, h2⟩]
        simp (disch := omega) only [f_X12_hasLater, b_X12_hasLater_97, g, g43, g44, g46, kM.o12 hM, a0, a1, ki_0, ki_1, ki_2, ki_3, ki_4, ki_5, ki_6, ki_7, ki_8, ki_9, ki_10, ki_11, ki_12, ki_13, ki_18, ki_20, ki_24, ki_32, ki_36, ki_45, ki_47, ki_48, ki_50, ki_57, ki_60, ki_63, ki_99, ki_100, ki_101, ki_120, ki_255, ki_468, ki_1000, ki_1024, ki_13849, ki_25173, ki_65535, ki_65536, ki_100000, ki_100001, ki_2147483647, ki_2147483648, kl_0, kl_1, kl_2, kl_9223372036854775808, ki_add, ki_sub, ki_mul, ki_neg, kl_add, kl_sub, kl_mul, kl_neg, ki_i2l, kl_l2i, ki_lt, ki_le, ki_eq, kcmp_eq, kcmp_lt, kcmp_le, kcmp_gt, kcmp_ge, Option.bind_some, Option.map_some, kbool0, kbool1, if_pos, if_neg, if_true, if_false, Int.neg_neg, Int.sub_zero, Int.add_zero, Int.zero_add, true_and, and_true, false_and, and_false, false_or, or_false, true_or, or_true, ne_eq, not_false_eq_true, not_true_eq_false, hp, hq]
      · rw [if_neg (fun z => h2 z.2)]
        simp (disch := omega) only [f_X12_hasLater, b_X12_hasLater_96, b_X12_hasLater_97, g, g43, g44, g46, kM.o12 hM, a0, a1, ki_0, ki_1, ki_2, ki_3, ki_4, ki_5, ki_6, ki_7, ki_8, ki_9, ki_10, ki_11, ki_12, ki_13, ki_18, ki_20, ki_24, ki_32, ki_36, ki_45, ki_47, ki_48, ki_50, ki_57, ki_60, ki_63, ki_99, ki_100, ki_101, ki_120, ki_255, ki_468, ki_1000, ki_1024, ki_13849, ki_25173, ki_65535, ki_65536, ki_100000, ki_100001, ki_2147483647, ki_2147483648, kl_0, kl_1, kl_2, kl_9223372036854775808, ki_add, ki_sub, ki_mul, ki_neg, kl_add, kl_sub, kl_mul, kl_neg, ki_i2l, kl_l2i, ki_lt, ki_le, ki_eq, kcmp_eq, kcmp_lt, kcmp_le, kcmp_gt, kcmp_ge, Option.bind_some, Option.map_some, kbool0, kbool1, if_pos, if_neg, if_true, if_false, Int.neg_neg, Int.sub_zero, Int.add_zero, Int.zero_add, true_and, and_true, false_and, and_false, false_or, or_false, true_or, or_true, ne_eq, not_false_eq_true, not_true_eq_false, hp, hq]
    · rw [if_neg (fun z => h1 z.1)]
      simp (disch := omega) only [f_X12_hasLater, b_X12_hasLater_96, b_X12_hasLater_97, g, g43, g44, g46, kM.o12 hM, a0, a1, ki_0, ki_1, ki_2, ki_3, ki_4, ki_5, ki_6, ki_7, ki_8, ki_9, ki_10, ki_11, ki_12, ki_13, ki_18, ki_20, ki_24, ki_32, ki_36, ki_45, ki_47, ki_48, ki_50, ki_57, ki_60, ki_63, ki_99, ki_100, ki_101, ki_120, ki_255, ki_468, ki_1000, ki_1024, ki_13849, ki_25173, ki_65535, ki_65536, ki_100000, ki_100001, ki_2147483647, ki_2147483648, kl_0, kl_1, kl_2, kl_9223372036854775808, ki_add, ki_sub, ki_mul, ki_neg, kl_add, kl_sub, kl_mul, kl_neg, ki_i2l, kl_l2i, ki_lt, ki_le, ki_eq, kcmp_eq, kcmp_lt, kcmp_le, kcmp_gt, kcmp_ge, Option.bind_some, Option.map_some, kbool0, kbool1, if_pos, if_neg, if_true, if_false, Int.neg_neg, Int.sub_zero, Int.add_zero, Int.zero_add, true_and, and_true, false_and, and_false, false_or, or_false, true_or, or_true, ne_eq, not_false_eq_true, not_true_eq_false, hp, hq]
/-- the lower row's worth, digit after digit -/
def hW (W : Int → Int) (p : Int) (N : Nat) : Nat → Int
  | 0 => 0
  | t + 1 => hW W p N t * p + W ((N : Int) - 1 - t)
theorem hW_bd {W : Int → Int} {p : Int} {N : Nat} (p0 : 0 ≤ p) (p1 : p ≤ 1) (bW : ∀ j : Nat, j < N → (W j).natAbs ≤ 1000000) : ∀ t : Nat, t ≤ N → (hW W p N t).natAbs ≤ 1000000 * t := by
  intro t
  induction t with
  | zero => intro _; exact Nat.le_refl 0
  | succ t ih =>
    intro ht
    have a := ih (by omega)
    have b := bW (N - 1 - t) (by omega)
    rw [show ((N - 1 - t : Nat) : Int) = (N : Int) - 1 - t by omega] at b
    rw [hW]
    generalize W ((N : Int) - 1 - t) = w at *
    generalize hW W p N t = s at *
    have : p = 0 ∨ p = 1 := by omega
    rcases this with rfl | rfl
    · rw [Int.mul_zero]; omega
    · rw [Int.mul_one]; omega
/-- the class's table is one -/
theorem maD.kTb {Y : jY} {ν : jM} {N : Nat} (N1 : 1 ≤ N) (N3 : N ≤ 3) {U W : Int → Int} {c : Int} (hI : atI ν N U W) (h : maD N U c ν) : kTb ν 73 := by
  refine ⟨by rw [hI.2.2.2]; omega, by rw [hI.2.2.2]; omega, fun x x0 x1 => ?_, fun x x0 x1 => ?_⟩
  · rw [hI.2.2.2] at x1
    have := h.1 x.toNat (by omega)
    rw [toNat_cast x0] at this
    show -6 ≤ gi ν 74 x ∧ gi ν 74 x ≤ 6
    omega
  · rw [hI.2.2.2] at x1
    have := h.2 x.toNat (by omega)
    rw [toNat_cast x0] at this
    show 1 ≤ gi ν 75 x ∧ gi ν 75 x ≤ 36
    omega
theorem X0_endsWithLower {Y : jY} {ν : jM} (hX : kX Y ν) {N : Nat} (N1 : 1 ≤ N) (N3 : N ≤ 3) {U W : Int → Int} (hI : atI ν N U W) (bW : ∀ j : Nat, j < N → (W j).natAbs ≤ 1000000) {c : Int} (h : maD N U c ν) : f_X0_endsWithLower Y 72 ν = some (ki (al1 (fun p => if (pv (mkA N U c) (mkC N U c) p 1 1 (N - 1)).2 = hW W p N N then 1 else 0) (N - 1)), ν) := by
  have hB := maD.kTb (Y := Y) N1 N3 hI h
  have g := hX.g72_1
  rw [hI.1] at g
  have body : ∀ i : Nat, i < N - 1 → ∀ r, b_X0_endsWithLower_22 Y 72 (ki i) (kl (hW W i N N)) (ki ((N : Int) - 1 - N)) ν = some (.inr r) → b_X0_endsWithLower_2 Y 72 (ki i) ν = some r := by
    intro i hi r hr
    have E : b_X0_endsWithLower_2 Y 72 (ki i) ν = jit jF (fun (s : Int64 × Int32 × jM) => b_X0_endsWithLower_22 Y 72 (ki i) s.1 s.2.1 s.2.2) (kl 0, ki ((N : Int) - 1), ν) := by
      simp (disch := omega) only [b_X0_endsWithLower_2, g, ki_0, ki_1, ki_2, ki_3, ki_4, ki_5, ki_6, ki_7, ki_8, ki_9, ki_10, ki_11, ki_12, ki_13, ki_18, ki_20, ki_24, ki_32, ki_36, ki_45, ki_47, ki_48, ki_50, ki_57, ki_60, ki_63, ki_99, ki_100, ki_101, ki_120, ki_255, ki_468, ki_1000, ki_1024, ki_13849, ki_25173, ki_65535, ki_65536, ki_100000, ki_100001, ki_2147483647, ki_2147483648, kl_0, kl_1, kl_2, kl_9223372036854775808, ki_add, ki_sub, ki_mul, ki_neg, kl_add, kl_sub, kl_mul, kl_neg, ki_i2l, kl_l2i, ki_lt, ki_le, ki_eq, kcmp_eq, kcmp_lt, kcmp_le, kcmp_gt, kcmp_ge, Option.bind_some, Option.map_some, kbool0, kbool1, if_pos, if_neg, if_true, if_false, Int.neg_neg, Int.sub_zero, Int.add_zero, Int.zero_add, true_and, and_true, false_and, and_false, false_or, or_false, true_or, or_true, ne_eq, not_false_eq_true, not_true_eq_false]
    rw [E]
    refine jit_run (fun t => (kl (hW W i N t), ki ((N : Int) - 1 - t), ν)) _ N (by rw [hW, show (N : Int) - 1 - ((0 : Nat) : Int) = (N : Int) - 1 by omega]) (by omega) (fun t ht => ?_) hr
    have u := kaLv hX.a77 (x := (N : Int) - 1 - t) (by omega) (by omega) (hI.2.2.1 _ (by omega) (by omega))
    have e : (N : Int) - 1 - ((t + 1 : Nat) : Int) = (N : Int) - 1 - t + -1 := by omega
    have i64 : (ki (i : Int)).toInt64 = kl i := ki_i2l (by omega) (by omega)
    simp only [hW, e]
    generalize W ((N : Int) - 1 - t) = w at *
    generalize hW W i N t = s at *
    generalize hj : (N : Int) - 1 - t = j at *
    have j0 : 0 ≤ j ∧ j ≤ 3 := by omega
    clear hj e
    simp (disch := omega) only [b_X0_endsWithLower_22, hX.o72_3, u, i64, ki_0, ki_1, ki_2, ki_3, ki_4, ki_5, ki_6, ki_7, ki_8, ki_9, ki_10, ki_11, ki_12, ki_13, ki_18, ki_20, ki_24, ki_32, ki_36, ki_45, ki_47, ki_48, ki_50, ki_57, ki_60, ki_63, ki_99, ki_100, ki_101, ki_120, ki_255, ki_468, ki_1000, ki_1024, ki_13849, ki_25173, ki_65535, ki_65536, ki_100000, ki_100001, ki_2147483647, ki_2147483648, kl_0, kl_1, kl_2, kl_9223372036854775808, ki_add, ki_sub, ki_mul, ki_neg, kl_add, kl_sub, kl_mul, kl_neg, ki_i2l, kl_l2i, ki_lt, ki_le, ki_eq, kcmp_eq, kcmp_lt, kcmp_le, kcmp_gt, kcmp_ge, Option.bind_some, Option.map_some, kbool0, kbool1, if_pos, if_neg, if_true, if_false, Int.neg_neg, Int.sub_zero, Int.add_zero, Int.zero_add, true_and, and_true, false_and, and_false, false_or, or_false, true_or, or_true, ne_eq, not_false_eq_true, not_true_eq_false]
  have val : ∀ i : Nat, i < N - 1 → f_X10_valueAt Y 73 (ki 1) (ki ((N : Int) - 1)) (ki i) (ki 1) ν = some (kl (pv (mkA N U c) (mkC N U c) i 1 1 (N - 1)).2, ν) ∧ -1024000000000000000 ≤ (pv (mkA N U c) (mkC N U c) i 1 1 (N - 1)).2 ∧ (pv (mkA N U c) (mkC N U c) i 1 1 (N - 1)).2 ≤ 1024000000000000000 := by
    intro i hi
    have v := X10_valueAt hX.t73 hB (fr := 1) (k := (N : Int) - 1) (p := i) (q := 1) (by omega) (by omega) (by rw [hI.2.2.2]; omega) (by omega) (by omega) (by omega) (by omega)
    have pr := pv_rng (A := gi ν (73 + 1)) (C := gi ν (73 + 2)) (p := i) (q := 1) (fr := 1) (n := N - 1) (hB.A (by omega) (by rw [hI.2.2.2]; omega)) (hB.C (by omega) (by rw [hI.2.2.2]; omega)) (by omega) (by omega) (by omega) (by omega) (by omega) (Nat.le_refl (N - 1))
    have pe : (pv (gi ν (73 + 1)) (gi ν (73 + 2)) i 1 1 (N - 1)).2 = (pv (mkA N U c) (mkC N U c) i 1 1 (N - 1)).2 := by
      rw [pv_congr (n := N - 1) (fun x x0 x1 => ?_) (fun x x0 x1 => ?_) (N - 1) (Nat.le_refl (N - 1))]
      · have := h.1 x.toNat (by omega)
        rw [toNat_cast (by omega)] at this
        exact this.1
      · have := h.2 x.toNat (by omega)
        rw [toNat_cast (by omega)] at this
        exact this.1
    rw [show ((N : Int) - 1).toNat = N - 1 by omega, pe] at v
    rw [pe] at pr
    exact ⟨v, pr⟩
  have i1 := jit_all (f := fun (s : Int32 × jM) => b_X0_endsWithLower_2 Y 72 s.1 s.2) (μ := ν) (p := fun p => if (pv (mkA N U c) (mkC N U c) p 1 1 (N - 1)).2 = hW W p N N then 1 else 0) (R := N - 1) (r0 := (ki 0, ν)) (r1 := (ki 1, ν)) (by omega) (fun i hi hp => ?_) (fun i hi hp => ?_) ?_
  · unfold f_X0_endsWithLower
    rw [ki_0, i1]
    rcases al1_two (fun p => if (pv (mkA N U c) (mkC N U c) p 1 1 (N - 1)).2 = hW W p N N then 1 else 0) (N - 1) with t | t
    · rw [t, if_neg (by omega)]
    · rw [t, if_pos rfl]
  · have hp := pos1 hp
    obtain ⟨v, v1, v2⟩ := val i hi
    have hb := hW_bd (W := W) (p := (i : Int)) (N := N) (by omega) (by omega) bW N (Nat.le_refl N)
    refine body i hi _ ?_
    rw [hp] at v v1 v2
    generalize hW W i N N = s at *
    simp (disch := omega) only [b_X0_endsWithLower_22, hX.o72_0, g, krcv hX.t73.y, v, ki_0, ki_1, ki_2, ki_3, ki_4, ki_5, ki_6, ki_7, ki_8, ki_9, ki_10, ki_11, ki_12, ki_13, ki_18, ki_20, ki_24, ki_32, ki_36, ki_45, ki_47, ki_48, ki_50, ki_57, ki_60, ki_63, ki_99, ki_100, ki_101, ki_120, ki_255, ki_468, ki_1000, ki_1024, ki_13849, ki_25173, ki_65535, ki_65536, ki_100000, ki_100001, ki_2147483647, ki_2147483648, kl_0, kl_1, kl_2, kl_9223372036854775808, ki_add, ki_sub, ki_mul, ki_neg, kl_add, kl_sub, kl_mul, kl_neg, ki_i2l, kl_l2i, ki_lt, ki_le, ki_eq, kcmp_eq, kcmp_lt, kcmp_le, kcmp_gt, kcmp_ge, Option.bind_some, Option.map_some, kbool0, kbool1, if_pos, if_neg, if_true, if_false, Int.neg_neg, Int.sub_zero, Int.add_zero, Int.zero_add, true_and, and_true, false_and, and_false, false_or, or_false, true_or, or_true, ne_eq, not_false_eq_true, not_true_eq_false, Int.natCast_add, Int.natCast_one]
  · have hp := neg1 hp
    obtain ⟨v, v1, v2⟩ := val i hi
    have hb := hW_bd (W := W) (p := (i : Int)) (N := N) (by omega) (by omega) bW N (Nat.le_refl N)
    refine body i hi _ ?_
    generalize hW W i N N = s at *
    generalize (pv (mkA N U c) (mkC N U c) i 1 1 (N - 1)).2 = q at *
    simp (disch := omega) only [b_X0_endsWithLower_22, hX.o72_0, g, krcv hX.t73.y, v, ki_0, ki_1, ki_2, ki_3, ki_4, ki_5, ki_6, ki_7, ki_8, ki_9, ki_10, ki_11, ki_12, ki_13, ki_18, ki_20, ki_24, ki_32, ki_36, ki_45, ki_47, ki_48, ki_50, ki_57, ki_60, ki_63, ki_99, ki_100, ki_101, ki_120, ki_255, ki_468, ki_1000, ki_1024, ki_13849, ki_25173, ki_65535, ki_65536, ki_100000, ki_100001, ki_2147483647, ki_2147483648, kl_0, kl_1, kl_2, kl_9223372036854775808, ki_add, ki_sub, ki_mul, ki_neg, kl_add, kl_sub, kl_mul, kl_neg, ki_i2l, kl_l2i, ki_lt, ki_le, ki_eq, kcmp_eq, kcmp_lt, kcmp_le, kcmp_gt, kcmp_ge, Option.bind_some, Option.map_some, kbool0, kbool1, if_pos, if_neg, if_true, if_false, Int.neg_neg, Int.sub_zero, Int.add_zero, Int.zero_add, true_and, and_true, false_and, and_false, false_or, or_false, true_or, or_true, ne_eq, not_false_eq_true, not_true_eq_false]
  · simp (disch := omega) only [b_X0_endsWithLower_2, g, ki_0, ki_1, ki_2, ki_3, ki_4, ki_5, ki_6, ki_7, ki_8, ki_9, ki_10, ki_11, ki_12, ki_13, ki_18, ki_20, ki_24, ki_32, ki_36, ki_45, ki_47, ki_48, ki_50, ki_57, ki_60, ki_63, ki_99, ki_100, ki_101, ki_120, ki_255, ki_468, ki_1000, ki_1024, ki_13849, ki_25173, ki_65535, ki_65536, ki_100000, ki_100001, ki_2147483647, ki_2147483648, kl_0, kl_1, kl_2, kl_9223372036854775808, ki_add, ki_sub, ki_mul, ki_neg, kl_add, kl_sub, kl_mul, kl_neg, ki_i2l, kl_l2i, ki_lt, ki_le, ki_eq, kcmp_eq, kcmp_lt, kcmp_le, kcmp_gt, kcmp_ge, Option.bind_some, Option.map_some, kbool0, kbool1, if_pos, if_neg, if_true, if_false, Int.neg_neg, Int.sub_zero, Int.add_zero, Int.zero_add, true_and, and_true, false_and, and_false, false_or, or_false, true_or, or_true, ne_eq, not_false_eq_true, not_true_eq_false]
theorem al1_if {p : Nat → Int} {j : Nat} {P : Prop} [Decidable P] (h : (∀ i, i < j → p i = 1) ↔ P) : al1 p j = if P then 1 else 0 := by
  by_cases q : P
  · rw [if_pos q]
    exact (al1_iff j).2 (h.2 q)
  · rw [if_neg q]
    rcases al1_two p j with e | e
    · exact e
    · exact absurd (h.1 ((al1_iff j).1 e)) q
theorem un_is {N : Nat} (N1 : 1 ≤ N) (N3 : N ≤ 3) {U W : Int → Int} {μ : jM} (lk : lnk N U W μ) {c : Int} : al1 (fun p => if (pv (mkA N U c) (mkC N U c) p 1 1 (N - 1)).2 = hW W p N N then 1 else 0) (N - 1) = unM N U (gi μ 100) c := by
  refine al1_if ?_
  have : N = 1 ∨ N = 2 ∨ N = 3 := by omega
  rcases this with rfl | rfl | rfl
  · exact ⟨fun _ => Or.inl rfl, fun _ i hi => by omega⟩
  · obtain ⟨l1, l2⟩ := lk.2.1 rfl
    have V : (pv (mkA 2 U c) (mkC 2 U c) ((0 : Nat) : Int) 1 1 (2 - 1)).2 = -(mkA 2 U c 1) := by
      show (0 - 1 * mkA 2 U c 1) * 1 - 1 * 1 * mkC 2 U c (1 + ((0 : Nat) : Int) - 1) * 0 = _
      omega
    have H : hW W ((0 : Nat) : Int) 2 2 = -(gi μ 100 0) := by
      show (0 * 0 + W 1) * 0 + W 0 = _
      rw [l1]
      omega
    constructor
    · intro h
      have := pos1 (h 0 (by omega))
      rw [V, H] at this
      exact Or.inr (Or.inl ⟨rfl, by omega⟩)
    · rintro (h | ⟨_, h⟩ | ⟨h, _⟩)
      · omega
      · intro i hi
        have : i = 0 := by omega
        rw [this]
        refine if_pos ?_
        rw [V, H, h]
      · omega
  · obtain ⟨l1, l2, l3⟩ := lk.2.2 rfl
    have V0 : (pv (mkA 3 U c) (mkC 3 U c) ((0 : Nat) : Int) 1 1 (3 - 1)).2 = mkA 3 U c 1 * mkA 3 U c 2 - mkC 3 U c 1 := by
      show (0 - 1 * mkA 3 U c 2) * ((0 - 1 * mkA 3 U c 1) * 1 - 1 * 1 * mkC 3 U c (1 + ((0 : Nat) : Int) - 1) * 0) - 1 * 1 * mkC 3 U c 1 * 1 = _
      rw [Int.mul_zero]
      grind
    have V1 : (pv (mkA 3 U c) (mkC 3 U c) ((1 : Nat) : Int) 1 1 (3 - 1)).2 = 1 - (mkA 3 U c 1 + mkA 3 U c 2) + (mkA 3 U c 1 * mkA 3 U c 2 - mkC 3 U c 1) := by
      show (1 - 1 * mkA 3 U c 2) * ((1 - 1 * mkA 3 U c 1) * 1 - 1 * 1 * mkC 3 U c (1 + ((0 : Nat) : Int) - 1) * 0) - 1 * 1 * mkC 3 U c 1 * 1 = _
      rw [Int.mul_zero]
      grind
    have H0 : hW W ((0 : Nat) : Int) 3 3 = gi μ 100 0 * gi μ 100 1 := by
      show ((0 * 0 + W 2) * 0 + W 1) * 0 + W 0 = _
      rw [l1]
      omega
    have H1 : hW W ((1 : Nat) : Int) 3 3 = 1 - (gi μ 100 0 + gi μ 100 1) + gi μ 100 0 * gi μ 100 1 := by
      show ((0 * 1 + W 2) * 1 + W 1) * 1 + W 0 = _
      rw [l1, l2, l3]
      omega
    generalize mkA 3 U c 1 * mkA 3 U c 2 - mkC 3 U c 1 = q at *
    generalize gi μ 100 0 * gi μ 100 1 = z at *
    constructor
    · intro h
      have h0 := pos1 (h 0 (by omega))
      have h1 := pos1 (h 1 (by omega))
      rw [V0, H0] at h0
      rw [V1, H1] at h1
      exact Or.inr (Or.inr ⟨rfl, by omega, h0⟩)
    · rintro (h | ⟨h, _⟩ | ⟨_, h1, h2⟩)
      · omega
      · omega
      · intro i hi
        have : i = 0 ∨ i = 1 := by omega
        rcases this with rfl | rfl
        · refine if_pos ?_
          rw [V0, H0, h2]
        · refine if_pos ?_
          rw [V1, H1, h1, h2]
/-! OPS: unique -/
theorem ok_unique {L : Nat} {xs : Nat → Int32} {n : Nat} {Y : jY} {μ : jM} (h : Inv L xs n Y μ) : so_unique (Inv L xs) n Y μ := by
  have hX := h.x
  have hM := h.m
  obtain ⟨q1, q2, q3, q4, q5⟩ := h.q
  have e0 := X11_hasTones hX
  have g := kM.g10 hM
  have gx := kN.gr hX.n10
  rw [q1] at e0 gx
  by_cases hz : gi μ 95 10 = 0
  · refine ⟨(ki (-1), μ), (ki (-1), μ), ?_, fun _ => rfl, ?_, rfl, h⟩
    · simp (disch := omega) only [f_X11_unique, f_X11_countTables, krcv (kX.y1 hX), e0, ki_0, ki_1, ki_2, ki_3, ki_4, ki_5, ki_6, ki_7, ki_8, ki_9, ki_10, ki_11, ki_12, ki_13, ki_18, ki_20, ki_24, ki_32, ki_36, ki_45, ki_47, ki_48, ki_50, ki_57, ki_60, ki_63, ki_99, ki_100, ki_101, ki_120, ki_255, ki_468, ki_1000, ki_1024, ki_13849, ki_25173, ki_65535, ki_65536, ki_100000, ki_100001, ki_2147483647, ki_2147483648, kl_0, kl_1, kl_2, kl_9223372036854775808, ki_add, ki_sub, ki_mul, ki_neg, kl_add, kl_sub, kl_mul, kl_neg, ki_i2l, kl_l2i, ki_lt, ki_le, ki_eq, kcmp_eq, kcmp_lt, kcmp_le, kcmp_gt, kcmp_ge, Option.bind_some, Option.map_some, kbool0, kbool1, if_pos, if_neg, if_true, if_false, Int.neg_neg, Int.sub_zero, Int.add_zero, Int.zero_add, true_and, and_true, false_and, and_false, false_or, or_false, true_or, or_true, ne_eq, not_false_eq_true, not_true_eq_false]
    · simp (disch := omega) only [f_X12_unique, g, ki_0, ki_1, ki_2, ki_3, ki_4, ki_5, ki_6, ki_7, ki_8, ki_9, ki_10, ki_11, ki_12, ki_13, ki_18, ki_20, ki_24, ki_32, ki_36, ki_45, ki_47, ki_48, ki_50, ki_57, ki_60, ki_63, ki_99, ki_100, ki_101, ki_120, ki_255, ki_468, ki_1000, ki_1024, ki_13849, ki_25173, ki_65535, ki_65536, ki_100000, ki_100001, ki_2147483647, ki_2147483648, kl_0, kl_1, kl_2, kl_9223372036854775808, ki_add, ki_sub, ki_mul, ki_neg, kl_add, kl_sub, kl_mul, kl_neg, ki_i2l, kl_l2i, ki_lt, ki_le, ki_eq, kcmp_eq, kcmp_lt, kcmp_le, kcmp_gt, kcmp_ge, Option.bind_some, Option.map_some, kbool0, kbool1, if_pos, if_neg, if_true, if_false, Int.neg_neg, Int.sub_zero, Int.add_zero, Int.zero_add, true_and, and_true, false_and, and_false, false_or, or_false, true_or, or_true, ne_eq, not_false_eq_true, not_true_eq_false]
  · by_cases h3 : gi μ 95 10 ≤ 3
    · obtain ⟨N, U, W, N1, N3, eN, bU, u1, lk, ⟨ν, c1, kf, hI⟩, M⟩ := h.allB hz h3
      have hXν := hX.to kf
      have bm : ∀ x : Int, 0 ≤ x → x < (N : Int) - 1 → -6 ≤ gi μ 100 x ∧ gi μ 100 x ≤ 6 := fun x x0 x1 => by
        have a := q5 x x0 (by omega)
        have b := q4 x x0 (by omega)
        have c := q4 (x + 1) (by omega) (by omega)
        omega
      have bW : ∀ j : Nat, j < N → (W j).natAbs ≤ 1000000 := by
        intro j hj
        have : N = 1 ∨ N = 2 ∨ N = 3 := by omega
        rcases this with rfl | rfl | rfl
        · have l1 := (lk.1 rfl).2
          have : j = 0 := by omega
          subst this
          show (W 0).natAbs ≤ 1000000
          omega
        · obtain ⟨l1, l2⟩ := lk.2.1 rfl
          have b0 := bm 0 (by omega) (by omega)
          have : j = 0 ∨ j = 1 := by omega
          rcases this with rfl | rfl
          · show (W 0).natAbs ≤ 1000000
            omega
          · show (W 1).natAbs ≤ 1000000
            omega
        · obtain ⟨l1, l2, l3⟩ := lk.2.2 rfl
          have b0 := bm 0 (by omega) (by omega)
          have b1 := bm 1 (by omega) (by omega)
          have p2 := mulB (a := gi μ 100 0) (b := gi μ 100 1) (A := 6) (B := 6) b0.1 b0.2 b1.1 b1.2
          have : j = 0 ∨ j = 1 ∨ j = 2 := by omega
          rcases this with rfl | rfl | rfl
          · show (W 0).natAbs ≤ 1000000
            omega
          · show (W 1).natAbs ≤ 1000000
            omega
          · show (W 2).natAbs ≤ 1000000
            omega
      obtain ⟨ξ, c2, kf2⟩ := X11_countLoop hXν N1 N3 (M := unM N U (gi μ 100)) hI bU (w := 4) (v := 0) (fun c ν hX hI _ _ _ hD => by
        have E := X0_endsWithLower hX N1 N3 hI bW hD
        rw [un_is N1 N3 lk] at E
        rcases unM_two N U (gi μ 100) c with e | e
        · rw [e] at E ⊢
          simp (disch := omega) only [f_X0_madeMeets, krcv hX.y72, E, ki_0, ki_1, ki_2, ki_3, ki_4, ki_5, ki_6, ki_7, ki_8, ki_9, ki_10, ki_11, ki_12, ki_13, ki_18, ki_20, ki_24, ki_32, ki_36, ki_45, ki_47, ki_48, ki_50, ki_57, ki_60, ki_63, ki_99, ki_100, ki_101, ki_120, ki_255, ki_468, ki_1000, ki_1024, ki_13849, ki_25173, ki_65535, ki_65536, ki_100000, ki_100001, ki_2147483647, ki_2147483648, kl_0, kl_1, kl_2, kl_9223372036854775808, ki_add, ki_sub, ki_mul, ki_neg, kl_add, kl_sub, kl_mul, kl_neg, ki_i2l, kl_l2i, ki_lt, ki_le, ki_eq, kcmp_eq, kcmp_lt, kcmp_le, kcmp_gt, kcmp_ge, Option.bind_some, Option.map_some, kbool0, kbool1, if_pos, if_neg, if_true, if_false, Int.neg_neg, Int.sub_zero, Int.add_zero, Int.zero_add, true_and, and_true, false_and, and_false, false_or, or_false, true_or, or_true, ne_eq, not_false_eq_true, not_true_eq_false]
        · rw [e] at E ⊢
          simp (disch := omega) only [f_X0_madeMeets, krcv hX.y72, E, ki_0, ki_1, ki_2, ki_3, ki_4, ki_5, ki_6, ki_7, ki_8, ki_9, ki_10, ki_11, ki_12, ki_13, ki_18, ki_20, ki_24, ki_32, ki_36, ki_45, ki_47, ki_48, ki_50, ki_57, ki_60, ki_63, ki_99, ki_100, ki_101, ki_120, ki_255, ki_468, ki_1000, ki_1024, ki_13849, ki_25173, ki_65535, ki_65536, ki_100000, ki_100001, ki_2147483647, ki_2147483648, kl_0, kl_1, kl_2, kl_9223372036854775808, ki_add, ki_sub, ki_mul, ki_neg, kl_add, kl_sub, kl_mul, kl_neg, ki_i2l, kl_l2i, ki_lt, ki_le, ki_eq, kcmp_eq, kcmp_lt, kcmp_le, kcmp_gt, kcmp_ge, Option.bind_some, Option.map_some, kbool0, kbool1, if_pos, if_neg, if_true, if_false, Int.neg_neg, Int.sub_zero, Int.add_zero, Int.zero_add, true_and, and_true, false_and, and_false, false_or, or_false, true_or, or_true, ne_eq, not_false_eq_true, not_true_eq_false]) (fun c _ _ _ => unM_two N U (gi μ 100) c)
      rw [ki_0] at c2
      have kf3 : kF 27 78 μ ξ := kf.trans (kf2.mono (by omega) (by omega))
      have hMξ := hM.to kf3
      obtain ⟨ω, d1, kg, kp, en, r1, r2, tr⟩ := M ξ (fun i a b => kf3.1 i (by omega)) hMξ
      have hMω := hMξ.to kg
      have gξ := kM.g10 hMξ
      rw [kf3.gi (by omega)] at gξ
      obtain ⟨η, d2, fy⟩ := cnt_gen (Y := Y) N1 N3 (U := U) (M := unM N U (gi μ 100)) (F := fun (s : Int32 × jM) => b_X12_unique_26 Y 95 s.1 s.2) (fun v ν ω' r hν e1 e2 => ⟨fun e => by
        subst e
        simp (disch := omega) only [b_X12_unique_26, krcv hMω.y, e1, ki_0, ki_1, ki_2, ki_3, ki_4, ki_5, ki_6, ki_7, ki_8, ki_9, ki_10, ki_11, ki_12, ki_13, ki_18, ki_20, ki_24, ki_32, ki_36, ki_45, ki_47, ki_48, ki_50, ki_57, ki_60, ki_63, ki_99, ki_100, ki_101, ki_120, ki_255, ki_468, ki_1000, ki_1024, ki_13849, ki_25173, ki_65535, ki_65536, ki_100000, ki_100001, ki_2147483647, ki_2147483648, kl_0, kl_1, kl_2, kl_9223372036854775808, ki_add, ki_sub, ki_mul, ki_neg, kl_add, kl_sub, kl_mul, kl_neg, ki_i2l, kl_l2i, ki_lt, ki_le, ki_eq, kcmp_eq, kcmp_lt, kcmp_le, kcmp_gt, kcmp_ge, Option.bind_some, Option.map_some, kbool0, kbool1, if_pos, if_neg, if_true, if_false, Int.neg_neg, Int.sub_zero, Int.add_zero, Int.zero_add, true_and, and_true, false_and, and_false, false_or, or_false, true_or, or_true, ne_eq, not_false_eq_true, not_true_eq_false], fun c hc0 hc1 hmk hfo e => by
        subst e
        have f2 := hν.trans e2
        have hl := X12_hasLater (hMω.to f2.1) N1 N3 (by rw [f2.n]; exact en) hc0 hc1 hmk (foN_rd N1 N3 hfo) (m := gi μ 100) (fun x x0 x1 => ⟨by rw [f2.1.gi (by omega), gi_cell (kp.2.1 100 (by unfold pers; omega)), kf3.gi (by omega)], bm x x0 x1⟩)
        rcases unM_two N U (gi μ 100) c with t | t
        · rw [t] at hl ⊢
          simp (disch := omega) only [b_X12_unique_26, b_X12_unique_46, krcv hMω.y, e1, hl, ki_0, ki_1, ki_2, ki_3, ki_4, ki_5, ki_6, ki_7, ki_8, ki_9, ki_10, ki_11, ki_12, ki_13, ki_18, ki_20, ki_24, ki_32, ki_36, ki_45, ki_47, ki_48, ki_50, ki_57, ki_60, ki_63, ki_99, ki_100, ki_101, ki_120, ki_255, ki_468, ki_1000, ki_1024, ki_13849, ki_25173, ki_65535, ki_65536, ki_100000, ki_100001, ki_2147483647, ki_2147483648, kl_0, kl_1, kl_2, kl_9223372036854775808, ki_add, ki_sub, ki_mul, ki_neg, kl_add, kl_sub, kl_mul, kl_neg, ki_i2l, kl_l2i, ki_lt, ki_le, ki_eq, kcmp_eq, kcmp_lt, kcmp_le, kcmp_gt, kcmp_ge, Option.bind_some, Option.map_some, kbool0, kbool1, if_pos, if_neg, if_true, if_false, Int.neg_neg, Int.sub_zero, Int.add_zero, Int.zero_add, true_and, and_true, false_and, and_false, false_or, or_false, true_or, or_true, ne_eq, not_false_eq_true, not_true_eq_false]
        · rw [t] at hl ⊢
          simp (disch := omega) only [b_X12_unique_26, b_X12_unique_46, krcv hMω.y, e1, hl, ki_0, ki_1, ki_2, ki_3, ki_4, ki_5, ki_6, ki_7, ki_8, ki_9, ki_10, ki_11, ki_12, ki_13, ki_18, ki_20, ki_24, ki_32, ki_36, ki_45, ki_47, ki_48, ki_50, ki_57, ki_60, ki_63, ki_99, ki_100, ki_101, ki_120, ki_255, ki_468, ki_1000, ki_1024, ki_13849, ki_25173, ki_65535, ki_65536, ki_100000, ki_100001, ki_2147483647, ki_2147483648, kl_0, kl_1, kl_2, kl_9223372036854775808, ki_add, ki_sub, ki_mul, ki_neg, kl_add, kl_sub, kl_mul, kl_neg, ki_i2l, kl_l2i, ki_lt, ki_le, ki_eq, kcmp_eq, kcmp_lt, kcmp_le, kcmp_gt, kcmp_ge, Option.bind_some, Option.map_some, kbool0, kbool1, if_pos, if_neg, if_true, if_false, Int.neg_neg, Int.sub_zero, Int.add_zero, Int.zero_add, true_and, and_true, false_and, and_false, false_or, or_false, true_or, or_true, ne_eq, not_false_eq_true, not_true_eq_false]⟩) hMω en r1 bU u1 tr
      generalize smF (ctG N U (unM N U (gi μ 100))) (cdN N) = s at *
      refine ⟨(ki s, ξ), (ki s, η), ?_, fun j => congrFun (kf3.1 0 (by omega)) j, ?_, rfl, h.to (((kP.of_rows (kf3.mono (by omega) (by omega))).trans kp).trans fy.kP)⟩
      · simp (disch := omega) only [f_X11_unique, f_X11_countTables, krcv (kX.y1 hX), kX.o1_3 hX, kS.gn (kX.now hX), gx, e0, c1, c2, ki_0, ki_1, ki_2, ki_3, ki_4, ki_5, ki_6, ki_7, ki_8, ki_9, ki_10, ki_11, ki_12, ki_13, ki_18, ki_20, ki_24, ki_32, ki_36, ki_45, ki_47, ki_48, ki_50, ki_57, ki_60, ki_63, ki_99, ki_100, ki_101, ki_120, ki_255, ki_468, ki_1000, ki_1024, ki_13849, ki_25173, ki_65535, ki_65536, ki_100000, ki_100001, ki_2147483647, ki_2147483648, kl_0, kl_1, kl_2, kl_9223372036854775808, ki_add, ki_sub, ki_mul, ki_neg, kl_add, kl_sub, kl_mul, kl_neg, ki_i2l, kl_l2i, ki_lt, ki_le, ki_eq, kcmp_eq, kcmp_lt, kcmp_le, kcmp_gt, kcmp_ge, Option.bind_some, Option.map_some, kbool0, kbool1, if_pos, if_neg, if_true, if_false, Int.neg_neg, Int.sub_zero, Int.add_zero, Int.zero_add, true_and, and_true, false_and, and_false, false_or, or_false, true_or, or_true, ne_eq, not_false_eq_true, not_true_eq_false]
      · simp (disch := omega) only [f_X12_unique, krcv (kM.y hM), gξ, d1, ki_0, ki_1, ki_2, ki_3, ki_4, ki_5, ki_6, ki_7, ki_8, ki_9, ki_10, ki_11, ki_12, ki_13, ki_18, ki_20, ki_24, ki_32, ki_36, ki_45, ki_47, ki_48, ki_50, ki_57, ki_60, ki_63, ki_99, ki_100, ki_101, ki_120, ki_255, ki_468, ki_1000, ki_1024, ki_13849, ki_25173, ki_65535, ki_65536, ki_100000, ki_100001, ki_2147483647, ki_2147483648, kl_0, kl_1, kl_2, kl_9223372036854775808, ki_add, ki_sub, ki_mul, ki_neg, kl_add, kl_sub, kl_mul, kl_neg, ki_i2l, kl_l2i, ki_lt, ki_le, ki_eq, kcmp_eq, kcmp_lt, kcmp_le, kcmp_gt, kcmp_ge, Option.bind_some, Option.map_some, kbool0, kbool1, if_pos, if_neg, if_true, if_false, Int.neg_neg, Int.sub_zero, Int.add_zero, Int.zero_add, true_and, and_true, false_and, and_false, false_or, or_false, true_or, or_true, ne_eq, not_false_eq_true, not_true_eq_false]
        exact d2
    · refine ⟨(ki (-2), μ), (ki (-2), μ), ?_, fun _ => rfl, ?_, rfl, h⟩
      · simp (disch := omega) only [f_X11_unique, f_X11_countTables, krcv (kX.y1 hX), kX.o1_3 hX, kS.gn (kX.now hX), gx, e0, ki_0, ki_1, ki_2, ki_3, ki_4, ki_5, ki_6, ki_7, ki_8, ki_9, ki_10, ki_11, ki_12, ki_13, ki_18, ki_20, ki_24, ki_32, ki_36, ki_45, ki_47, ki_48, ki_50, ki_57, ki_60, ki_63, ki_99, ki_100, ki_101, ki_120, ki_255, ki_468, ki_1000, ki_1024, ki_13849, ki_25173, ki_65535, ki_65536, ki_100000, ki_100001, ki_2147483647, ki_2147483648, kl_0, kl_1, kl_2, kl_9223372036854775808, ki_add, ki_sub, ki_mul, ki_neg, kl_add, kl_sub, kl_mul, kl_neg, ki_i2l, kl_l2i, ki_lt, ki_le, ki_eq, kcmp_eq, kcmp_lt, kcmp_le, kcmp_gt, kcmp_ge, Option.bind_some, Option.map_some, kbool0, kbool1, if_pos, if_neg, if_true, if_false, Int.neg_neg, Int.sub_zero, Int.add_zero, Int.zero_add, true_and, and_true, false_and, and_false, false_or, or_false, true_or, or_true, ne_eq, not_false_eq_true, not_true_eq_false]
      · simp (disch := omega) only [f_X12_unique, g, ki_0, ki_1, ki_2, ki_3, ki_4, ki_5, ki_6, ki_7, ki_8, ki_9, ki_10, ki_11, ki_12, ki_13, ki_18, ki_20, ki_24, ki_32, ki_36, ki_45, ki_47, ki_48, ki_50, ki_57, ki_60, ki_63, ki_99, ki_100, ki_101, ki_120, ki_255, ki_468, ki_1000, ki_1024, ki_13849, ki_25173, ki_65535, ki_65536, ki_100000, ki_100001, ki_2147483647, ki_2147483648, kl_0, kl_1, kl_2, kl_9223372036854775808, ki_add, ki_sub, ki_mul, ki_neg, kl_add, kl_sub, kl_mul, kl_neg, ki_i2l, kl_l2i, ki_lt, ki_le, ki_eq, kcmp_eq, kcmp_lt, kcmp_le, kcmp_gt, kcmp_ge, Option.bind_some, Option.map_some, kbool0, kbool1, if_pos, if_neg, if_true, if_false, Int.neg_neg, Int.sub_zero, Int.add_zero, Int.zero_add, true_and, and_true, false_and, and_false, false_or, or_false, true_or, or_true, ne_eq, not_false_eq_true, not_true_eq_false]
