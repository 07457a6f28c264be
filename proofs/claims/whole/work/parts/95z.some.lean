/-! ALL TABLES: those that are of some kind -/
theorem X12_first {Y : jY} {ω : jM} (hM : kM Y ω) {N : Nat} (N1 : 1 ≤ N) (N3 : N ≤ 3) (eN : gi ω 95 10 = (N : Int)) {U : Int → Int} {c : Int} (c0 : 0 ≤ c) (c1 : c < cdN N) (u1 : N = 1 → (U 0).natAbs ≤ 6) (rd : rdN N U c ω) (h1 : N = 1 → gi ω 99 0 = -(U 0)) : f_X12_first Y 95 ω = some (ki (mkA N U c 0), ω) := by
  have g := kM.g10 hM
  rw [eN] at g
  by_cases e : N = 1
  · subst e
    have g : jgI Y ω 95 12 10 = some (ki 1) := g
    have c1 : c < 1 := c1
    have ec : c = 0 := by omega
    subst ec
    rw [(mk_1 (u1 rfl)).2]
    have a0 := kaI (kM.a99 hM) (x := 0) (by omega) (by omega)
    rw [h1 rfl] at a0
    simp (disch := omega) only [f_X12_first, b_X12_first_21, g, kM.o11 hM, a0, ki_0, ki_1, ki_2, ki_3, ki_4, ki_5, ki_6, ki_7, ki_8, ki_9, ki_10, ki_11, ki_12, ki_13, ki_18, ki_20, ki_24, ki_32, ki_36, ki_45, ki_47, ki_48, ki_50, ki_57, ki_60, ki_63, ki_99, ki_100, ki_101, ki_120, ki_255, ki_468, ki_1000, ki_1024, ki_13849, ki_25173, ki_65535, ki_65536, ki_100000, ki_100001, ki_2147483647, ki_2147483648, kl_0, kl_1, kl_2, kl_9223372036854775808, ki_add, ki_sub, ki_mul, ki_neg, kl_add, kl_sub, kl_mul, kl_neg, ki_i2l, kl_l2i, ki_lt, ki_le, ki_eq, kcmp_eq, kcmp_lt, kcmp_le, kcmp_gt, kcmp_ge, Option.bind_some, Option.map_some, kbool0, kbool1, if_pos, if_neg, if_true, if_false, Int.neg_neg, Int.sub_zero, Int.add_zero, Int.zero_add, true_and, and_true, false_and, and_false, false_or, or_false, true_or, or_true, ne_eq, not_false_eq_true, not_true_eq_false]
  · have g42 := kM.g42 hM
    rw [(rd.1 (by omega)).1] at g42
    generalize mkA N U c 0 = a at *
    simp (disch := omega) only [f_X12_first, b_X12_first_21, g, g42, ki_0, ki_1, ki_2, ki_3, ki_4, ki_5, ki_6, ki_7, ki_8, ki_9, ki_10, ki_11, ki_12, ki_13, ki_18, ki_20, ki_24, ki_32, ki_36, ki_45, ki_47, ki_48, ki_50, ki_57, ki_60, ki_63, ki_99, ki_100, ki_101, ki_120, ki_255, ki_468, ki_1000, ki_1024, ki_13849, ki_25173, ki_65535, ki_65536, ki_100000, ki_100001, ki_2147483647, ki_2147483648, kl_0, kl_1, kl_2, kl_9223372036854775808, ki_add, ki_sub, ki_mul, ki_neg, kl_add, kl_sub, kl_mul, kl_neg, ki_i2l, kl_l2i, ki_lt, ki_le, ki_eq, kcmp_eq, kcmp_lt, kcmp_le, kcmp_gt, kcmp_ge, Option.bind_some, Option.map_some, kbool0, kbool1, if_pos, if_neg, if_true, if_false, Int.neg_neg, Int.sub_zero, Int.add_zero, Int.zero_add, true_and, and_true, false_and, and_false, false_or, or_false, true_or, or_true, ne_eq, not_false_eq_true, not_true_eq_false]
def smM (N : Nat) (U : Int → Int) (w v c : Int) : Int := if w = 0 then (if N = 1 ∨ (N = 2 ∧ mkA N U c 0 = mkA N U c 1) ∨ (N = 3 ∧ mkA N U c 0 = mkA N U c 2 ∧ mkC N U c 0 = mkC N U c 1) then 1 else 0) else if w = 1 then (if mkA N U c 0 = v then 1 else 0) else if w = 2 then (if 2 ≤ N ∧ mkC N U c 0 = v then 1 else 0) else if N ≤ 2 ∨ sqB ((mkA N U c 0 - mkA N U c 1) * (mkA N U c 0 - mkA N U c 1) + 4 * mkC N U c 0) = true then 1 else 0
theorem smM_two (N : Nat) (U : Int → Int) (w v c : Int) : smM N U w v c = 0 ∨ smM N U w v c = 1 := by
  unfold smM
  split
  · split <;> omega
  · split
    · split <;> omega
    · split
      · split <;> omega
      · split <;> omega
theorem smM_0 {N : Nat} {U : Int → Int} {v c : Int} : smM N U 0 v c = if N = 1 ∨ (N = 2 ∧ mkA N U c 0 = mkA N U c 1) ∨ (N = 3 ∧ mkA N U c 0 = mkA N U c 2 ∧ mkC N U c 0 = mkC N U c 1) then 1 else 0 := if_pos rfl
theorem smM_1 {N : Nat} {U : Int → Int} {v c : Int} : smM N U 1 v c = if mkA N U c 0 = v then 1 else 0 := by
  unfold smM
  rw [if_neg (by omega), if_pos rfl]
theorem smM_2 {N : Nat} {U : Int → Int} {v c : Int} : smM N U 2 v c = if 2 ≤ N ∧ mkC N U c 0 = v then 1 else 0 := by
  unfold smM
  rw [if_neg (by omega), if_neg (by omega), if_pos rfl]
theorem smM_3 {N : Nat} {U : Int → Int} {v c : Int} : smM N U 3 v c = if N ≤ 2 ∨ sqB ((mkA N U c 0 - mkA N U c 1) * (mkA N U c 0 - mkA N U c 1) + 4 * mkC N U c 0) = true then 1 else 0 := by
  unfold smM
  rw [if_neg (by omega), if_neg (by omega), if_neg (by omega)]
theorem X12_isSome {Y : jY} {ω : jM} (hM : kM Y ω) {N : Nat} (N1 : 1 ≤ N) (N3 : N ≤ 3) (eN : gi ω 95 10 = (N : Int)) {U : Int → Int} {c : Int} (c0 : 0 ≤ c) (c1 : c < cdN N) (hk : mk N U c) (rd : rdN N U c ω) (u1 : N = 1 → (U 0).natAbs ≤ 6) (h1 : N = 1 → gi ω 99 0 = -(U 0)) {w v : Int} (w0 : 0 ≤ w) (w3 : w ≤ 3) (v1 : -2147483648 ≤ v) (v2 : v ≤ 2147483647) : f_X12_isSome Y 95 (ki w) (ki v) ω = some (ki (smM N U w v c), ω) := by
  obtain ⟨bA, bC⟩ := mk_bd N1 N3 c0 c1 hk
  have g := kM.g10 hM
  rw [eN] at g
  have F := X12_first hM N1 N3 eN c0 c1 u1 rd h1
  have b0 := bA 0 (by omega) (by omega)
  have : w = 0 ∨ w = 1 ∨ w = 2 ∨ w = 3 := by omega
  rcases this with rfl | rfl | rfl | rfl
  · rw [smM_0]
    clear F
    have : N = 1 ∨ N = 2 ∨ N = 3 := by omega
    rcases this with rfl | rfl | rfl
    · have g : jgI Y ω 95 12 10 = some (ki 1) := g
      rw [if_pos (Or.inl rfl)]
      simp (disch := omega) only [f_X12_isSome, b_X12_isSome_61, b_X12_isSome_66, g, ki_0, ki_1, ki_2, ki_3, ki_4, ki_5, ki_6, ki_7, ki_8, ki_9, ki_10, ki_11, ki_12, ki_13, ki_18, ki_20, ki_24, ki_32, ki_36, ki_45, ki_47, ki_48, ki_50, ki_57, ki_60, ki_63, ki_99, ki_100, ki_101, ki_120, ki_255, ki_468, ki_1000, ki_1024, ki_13849, ki_25173, ki_65535, ki_65536, ki_100000, ki_100001, ki_2147483647, ki_2147483648, kl_0, kl_1, kl_2, kl_9223372036854775808, ki_add, ki_sub, ki_mul, ki_neg, kl_add, kl_sub, kl_mul, kl_neg, ki_i2l, kl_l2i, ki_lt, ki_le, ki_eq, kcmp_eq, kcmp_lt, kcmp_le, kcmp_gt, kcmp_ge, Option.bind_some, Option.map_some, kbool0, kbool1, if_pos, if_neg, if_true, if_false, Int.neg_neg, Int.sub_zero, Int.add_zero, Int.zero_add, true_and, and_true, false_and, and_false, false_or, or_false, true_or, or_true, ne_eq, not_false_eq_true, not_true_eq_false]
    · have g : jgI Y ω 95 12 10 = some (ki 2) := g
      have g42 := kM.g42 hM
      have g43 := kM.g43 hM
      rw [(rd.1 (by omega)).1] at g42
      rw [(rd.1 (by omega)).2.1] at g43
      have b1 := bA 1 (by omega) (by omega)
      by_cases q : mkA 2 U c 0 = mkA 2 U c 1
      · rw [if_pos (Or.inr (Or.inl ⟨rfl, q⟩))]
        generalize mkA 2 U c 0 = a at *
        generalize mkA 2 U c 1 = b at *
        simp (disch := omega) only [f_X12_isSome, b_X12_isSome_61, b_X12_isSome_66, g, g42, g43, ki_0, ki_1, ki_2, ki_3, ki_4, ki_5, ki_6, ki_7, ki_8, ki_9, ki_10, ki_11, ki_12, ki_13, ki_18, ki_20, ki_24, ki_32, ki_36, ki_45, ki_47, ki_48, ki_50, ki_57, ki_60, ki_63, ki_99, ki_100, ki_101, ki_120, ki_255, ki_468, ki_1000, ki_1024, ki_13849, ki_25173, ki_65535, ki_65536, ki_100000, ki_100001, ki_2147483647, ki_2147483648, kl_0, kl_1, kl_2, kl_9223372036854775808, ki_add, ki_sub, ki_mul, ki_neg, kl_add, kl_sub, kl_mul, kl_neg, ki_i2l, kl_l2i, ki_lt, ki_le, ki_eq, kcmp_eq, kcmp_lt, kcmp_le, kcmp_gt, kcmp_ge, Option.bind_some, Option.map_some, kbool0, kbool1, if_pos, if_neg, if_true, if_false, Int.neg_neg, Int.sub_zero, Int.add_zero, Int.zero_add, true_and, and_true, false_and, and_false, false_or, or_false, true_or, or_true, ne_eq, not_false_eq_true, not_true_eq_false]
      · rw [if_neg (by
          rintro (h | ⟨_, h⟩ | ⟨h, _⟩)
          · omega
          · exact q h
          · omega)]
        generalize mkA 2 U c 0 = a at *
        generalize mkA 2 U c 1 = b at *
        simp (disch := omega) only [f_X12_isSome, b_X12_isSome_31, b_X12_isSome_65, b_X12_isSome_66, g, g42, g43, ki_0, ki_1, ki_2, ki_3, ki_4, ki_5, ki_6, ki_7, ki_8, ki_9, ki_10, ki_11, ki_12, ki_13, ki_18, ki_20, ki_24, ki_32, ki_36, ki_45, ki_47, ki_48, ki_50, ki_57, ki_60, ki_63, ki_99, ki_100, ki_101, ki_120, ki_255, ki_468, ki_1000, ki_1024, ki_13849, ki_25173, ki_65535, ki_65536, ki_100000, ki_100001, ki_2147483647, ki_2147483648, kl_0, kl_1, kl_2, kl_9223372036854775808, ki_add, ki_sub, ki_mul, ki_neg, kl_add, kl_sub, kl_mul, kl_neg, ki_i2l, kl_l2i, ki_lt, ki_le, ki_eq, kcmp_eq, kcmp_lt, kcmp_le, kcmp_gt, kcmp_ge, Option.bind_some, Option.map_some, kbool0, kbool1, if_pos, if_neg, if_true, if_false, Int.neg_neg, Int.sub_zero, Int.add_zero, Int.zero_add, true_and, and_true, false_and, and_false, false_or, or_false, true_or, or_true, ne_eq, not_false_eq_true, not_true_eq_false]
    · have g : jgI Y ω 95 12 10 = some (ki 3) := g
      have g42 := kM.g42 hM
      have g44 := kM.g44 hM
      have g45 := kM.g45 hM
      have g46 := kM.g46 hM
      rw [(rd.1 (by omega)).1] at g42
      rw [(rd.2 rfl).1] at g44
      rw [(rd.1 (by omega)).2.2] at g45
      rw [(rd.2 rfl).2] at g46
      have b2 := bA 2 (by omega) (by omega)
      have d0 := bC 0 (by omega) (by omega)
      have d1 := bC 1 (by omega) (by omega)
      by_cases q : mkA 3 U c 0 = mkA 3 U c 2 ∧ mkC 3 U c 0 = mkC 3 U c 1
      · rw [if_pos (Or.inr (Or.inr ⟨rfl, q⟩))]
        generalize mkA 3 U c 0 = a at *
        generalize mkA 3 U c 2 = b at *
        generalize mkC 3 U c 0 = d at *
        generalize mkC 3 U c 1 = e at *
        simp (disch := omega) only [f_X12_isSome, b_X12_isSome_31, b_X12_isSome_61, b_X12_isSome_66, g, g42, g44, g45, g46, ki_0, ki_1, ki_2, ki_3, ki_4, ki_5, ki_6, ki_7, ki_8, ki_9, ki_10, ki_11, ki_12, ki_13, ki_18, ki_20, ki_24, ki_32, ki_36, ki_45, ki_47, ki_48, ki_50, ki_57, ki_60, ki_63, ki_99, ki_100, ki_101, ki_120, ki_255, ki_468, ki_1000, ki_1024, ki_13849, ki_25173, ki_65535, ki_65536, ki_100000, ki_100001, ki_2147483647, ki_2147483648, kl_0, kl_1, kl_2, kl_9223372036854775808, ki_add, ki_sub, ki_mul, ki_neg, kl_add, kl_sub, kl_mul, kl_neg, ki_i2l, kl_l2i, ki_lt, ki_le, ki_eq, kcmp_eq, kcmp_lt, kcmp_le, kcmp_gt, kcmp_ge, Option.bind_some, Option.map_some, kbool0, kbool1, if_pos, if_neg, if_true, if_false, Int.neg_neg, Int.sub_zero, Int.add_zero, Int.zero_add, true_and, and_true, false_and, and_false, false_or, or_false, true_or, or_true, ne_eq, not_false_eq_true, not_true_eq_false]
      · rw [if_neg (by
          rintro (h | ⟨h, _⟩ | ⟨_, h⟩)
          · omega
          · omega
          · exact q h)]
        generalize mkA 3 U c 0 = a at *
        generalize mkA 3 U c 2 = b at *
        generalize mkC 3 U c 0 = d at *
        generalize mkC 3 U c 1 = e at *
        by_cases q1 : a = b
        · have q2 : ¬ d = e := fun z => q ⟨q1, z⟩
          simp (disch := omega) only [f_X12_isSome, b_X12_isSome_31, b_X12_isSome_65, b_X12_isSome_66, g, g42, g44, g45, g46, ki_0, ki_1, ki_2, ki_3, ki_4, ki_5, ki_6, ki_7, ki_8, ki_9, ki_10, ki_11, ki_12, ki_13, ki_18, ki_20, ki_24, ki_32, ki_36, ki_45, ki_47, ki_48, ki_50, ki_57, ki_60, ki_63, ki_99, ki_100, ki_101, ki_120, ki_255, ki_468, ki_1000, ki_1024, ki_13849, ki_25173, ki_65535, ki_65536, ki_100000, ki_100001, ki_2147483647, ki_2147483648, kl_0, kl_1, kl_2, kl_9223372036854775808, ki_add, ki_sub, ki_mul, ki_neg, kl_add, kl_sub, kl_mul, kl_neg, ki_i2l, kl_l2i, ki_lt, ki_le, ki_eq, kcmp_eq, kcmp_lt, kcmp_le, kcmp_gt, kcmp_ge, Option.bind_some, Option.map_some, kbool0, kbool1, if_pos, if_neg, if_true, if_false, Int.neg_neg, Int.sub_zero, Int.add_zero, Int.zero_add, true_and, and_true, false_and, and_false, false_or, or_false, true_or, or_true, ne_eq, not_false_eq_true, not_true_eq_false]
        · simp (disch := omega) only [f_X12_isSome, b_X12_isSome_31, b_X12_isSome_65, b_X12_isSome_66, g, g42, g44, g45, g46, ki_0, ki_1, ki_2, ki_3, ki_4, ki_5, ki_6, ki_7, ki_8, ki_9, ki_10, ki_11, ki_12, ki_13, ki_18, ki_20, ki_24, ki_32, ki_36, ki_45, ki_47, ki_48, ki_50, ki_57, ki_60, ki_63, ki_99, ki_100, ki_101, ki_120, ki_255, ki_468, ki_1000, ki_1024, ki_13849, ki_25173, ki_65535, ki_65536, ki_100000, ki_100001, ki_2147483647, ki_2147483648, kl_0, kl_1, kl_2, kl_9223372036854775808, ki_add, ki_sub, ki_mul, ki_neg, kl_add, kl_sub, kl_mul, kl_neg, ki_i2l, kl_l2i, ki_lt, ki_le, ki_eq, kcmp_eq, kcmp_lt, kcmp_le, kcmp_gt, kcmp_ge, Option.bind_some, Option.map_some, kbool0, kbool1, if_pos, if_neg, if_true, if_false, Int.neg_neg, Int.sub_zero, Int.add_zero, Int.zero_add, true_and, and_true, false_and, and_false, false_or, or_false, true_or, or_true, ne_eq, not_false_eq_true, not_true_eq_false]
  · rw [smM_1]
    generalize mkA N U c 0 = a at *
    by_cases q : a = v
    · rw [if_pos q]
      simp (disch := omega) only [f_X12_isSome, b_X12_isSome_85, krcv hM.y, F, ki_0, ki_1, ki_2, ki_3, ki_4, ki_5, ki_6, ki_7, ki_8, ki_9, ki_10, ki_11, ki_12, ki_13, ki_18, ki_20, ki_24, ki_32, ki_36, ki_45, ki_47, ki_48, ki_50, ki_57, ki_60, ki_63, ki_99, ki_100, ki_101, ki_120, ki_255, ki_468, ki_1000, ki_1024, ki_13849, ki_25173, ki_65535, ki_65536, ki_100000, ki_100001, ki_2147483647, ki_2147483648, kl_0, kl_1, kl_2, kl_9223372036854775808, ki_add, ki_sub, ki_mul, ki_neg, kl_add, kl_sub, kl_mul, kl_neg, ki_i2l, kl_l2i, ki_lt, ki_le, ki_eq, kcmp_eq, kcmp_lt, kcmp_le, kcmp_gt, kcmp_ge, Option.bind_some, Option.map_some, kbool0, kbool1, if_pos, if_neg, if_true, if_false, Int.neg_neg, Int.sub_zero, Int.add_zero, Int.zero_add, true_and, and_true, false_and, and_false, false_or, or_false, true_or, or_true, ne_eq, not_false_eq_true, not_true_eq_false]
    · rw [if_neg q]
      simp (disch := omega) only [f_X12_isSome, b_X12_isSome_85, krcv hM.y, F, ki_0, ki_1, ki_2, ki_3, ki_4, ki_5, ki_6, ki_7, ki_8, ki_9, ki_10, ki_11, ki_12, ki_13, ki_18, ki_20, ki_24, ki_32, ki_36, ki_45, ki_47, ki_48, ki_50, ki_57, ki_60, ki_63, ki_99, ki_100, ki_101, ki_120, ki_255, ki_468, ki_1000, ki_1024, ki_13849, ki_25173, ki_65535, ki_65536, ki_100000, ki_100001, ki_2147483647, ki_2147483648, kl_0, kl_1, kl_2, kl_9223372036854775808, ki_add, ki_sub, ki_mul, ki_neg, kl_add, kl_sub, kl_mul, kl_neg, ki_i2l, kl_l2i, ki_lt, ki_le, ki_eq, kcmp_eq, kcmp_lt, kcmp_le, kcmp_gt, kcmp_ge, Option.bind_some, Option.map_some, kbool0, kbool1, if_pos, if_neg, if_true, if_false, Int.neg_neg, Int.sub_zero, Int.add_zero, Int.zero_add, true_and, and_true, false_and, and_false, false_or, or_false, true_or, or_true, ne_eq, not_false_eq_true, not_true_eq_false]
  · rw [smM_2]
    clear F
    by_cases N2 : 2 ≤ N
    · have g45 := kM.g45 hM
      rw [(rd.1 N2).2.2] at g45
      have d0 := bC 0 (by omega) (by omega)
      by_cases q : mkC N U c 0 = v
      · rw [if_pos ⟨N2, q⟩]
        generalize mkC N U c 0 = a at *
        simp (disch := omega) only [f_X12_isSome, b_X12_isSome_112, g, g45, ki_0, ki_1, ki_2, ki_3, ki_4, ki_5, ki_6, ki_7, ki_8, ki_9, ki_10, ki_11, ki_12, ki_13, ki_18, ki_20, ki_24, ki_32, ki_36, ki_45, ki_47, ki_48, ki_50, ki_57, ki_60, ki_63, ki_99, ki_100, ki_101, ki_120, ki_255, ki_468, ki_1000, ki_1024, ki_13849, ki_25173, ki_65535, ki_65536, ki_100000, ki_100001, ki_2147483647, ki_2147483648, kl_0, kl_1, kl_2, kl_9223372036854775808, ki_add, ki_sub, ki_mul, ki_neg, kl_add, kl_sub, kl_mul, kl_neg, ki_i2l, kl_l2i, ki_lt, ki_le, ki_eq, kcmp_eq, kcmp_lt, kcmp_le, kcmp_gt, kcmp_ge, Option.bind_some, Option.map_some, kbool0, kbool1, if_pos, if_neg, if_true, if_false, Int.neg_neg, Int.sub_zero, Int.add_zero, Int.zero_add, true_and, and_true, false_and, and_false, false_or, or_false, true_or, or_true, ne_eq, not_false_eq_true, not_true_eq_false]
      · rw [if_neg (fun z => q z.2)]
        generalize mkC N U c 0 = a at *
        simp (disch := omega) only [f_X12_isSome, b_X12_isSome_111, b_X12_isSome_112, g, g45, ki_0, ki_1, ki_2, ki_3, ki_4, ki_5, ki_6, ki_7, ki_8, ki_9, ki_10, ki_11, ki_12, ki_13, ki_18, ki_20, ki_24, ki_32, ki_36, ki_45, ki_47, ki_48, ki_50, ki_57, ki_60, ki_63, ki_99, ki_100, ki_101, ki_120, ki_255, ki_468, ki_1000, ki_1024, ki_13849, ki_25173, ki_65535, ki_65536, ki_100000, ki_100001, ki_2147483647, ki_2147483648, kl_0, kl_1, kl_2, kl_9223372036854775808, ki_add, ki_sub, ki_mul, ki_neg, kl_add, kl_sub, kl_mul, kl_neg, ki_i2l, kl_l2i, ki_lt, ki_le, ki_eq, kcmp_eq, kcmp_lt, kcmp_le, kcmp_gt, kcmp_ge, Option.bind_some, Option.map_some, kbool0, kbool1, if_pos, if_neg, if_true, if_false, Int.neg_neg, Int.sub_zero, Int.add_zero, Int.zero_add, true_and, and_true, false_and, and_false, false_or, or_false, true_or, or_true, ne_eq, not_false_eq_true, not_true_eq_false]
    · rw [if_neg (fun z => N2 z.1)]
      simp (disch := omega) only [f_X12_isSome, b_X12_isSome_111, b_X12_isSome_112, g, ki_0, ki_1, ki_2, ki_3, ki_4, ki_5, ki_6, ki_7, ki_8, ki_9, ki_10, ki_11, ki_12, ki_13, ki_18, ki_20, ki_24, ki_32, ki_36, ki_45, ki_47, ki_48, ki_50, ki_57, ki_60, ki_63, ki_99, ki_100, ki_101, ki_120, ki_255, ki_468, ki_1000, ki_1024, ki_13849, ki_25173, ki_65535, ki_65536, ki_100000, ki_100001, ki_2147483647, ki_2147483648, kl_0, kl_1, kl_2, kl_9223372036854775808, ki_add, ki_sub, ki_mul, ki_neg, kl_add, kl_sub, kl_mul, kl_neg, ki_i2l, kl_l2i, ki_lt, ki_le, ki_eq, kcmp_eq, kcmp_lt, kcmp_le, kcmp_gt, kcmp_ge, Option.bind_some, Option.map_some, kbool0, kbool1, if_pos, if_neg, if_true, if_false, Int.neg_neg, Int.sub_zero, Int.add_zero, Int.zero_add, true_and, and_true, false_and, and_false, false_or, or_false, true_or, or_true, ne_eq, not_false_eq_true, not_true_eq_false]
  · rw [smM_3]
    clear F
    by_cases N2 : N ≤ 2
    · rw [if_pos (Or.inl N2)]
      simp (disch := omega) only [f_X12_isSome, g, ki_0, ki_1, ki_2, ki_3, ki_4, ki_5, ki_6, ki_7, ki_8, ki_9, ki_10, ki_11, ki_12, ki_13, ki_18, ki_20, ki_24, ki_32, ki_36, ki_45, ki_47, ki_48, ki_50, ki_57, ki_60, ki_63, ki_99, ki_100, ki_101, ki_120, ki_255, ki_468, ki_1000, ki_1024, ki_13849, ki_25173, ki_65535, ki_65536, ki_100000, ki_100001, ki_2147483647, ki_2147483648, kl_0, kl_1, kl_2, kl_9223372036854775808, ki_add, ki_sub, ki_mul, ki_neg, kl_add, kl_sub, kl_mul, kl_neg, ki_i2l, kl_l2i, ki_lt, ki_le, ki_eq, kcmp_eq, kcmp_lt, kcmp_le, kcmp_gt, kcmp_ge, Option.bind_some, Option.map_some, kbool0, kbool1, if_pos, if_neg, if_true, if_false, Int.neg_neg, Int.sub_zero, Int.add_zero, Int.zero_add, true_and, and_true, false_and, and_false, false_or, or_false, true_or, or_true, ne_eq, not_false_eq_true, not_true_eq_false]
    · have g42 := kM.g42 hM
      have g43 := kM.g43 hM
      have g45 := kM.g45 hM
      rw [(rd.1 (by omega)).1] at g42
      rw [(rd.1 (by omega)).2.1] at g43
      rw [(rd.1 (by omega)).2.2] at g45
      have b1 := bA 1 (by omega) (by omega)
      have d0 := bC 0 (by omega) (by omega)
      have e : (if N ≤ 2 ∨ sqB ((mkA N U c 0 - mkA N U c 1) * (mkA N U c 0 - mkA N U c 1) + 4 * mkC N U c 0) = true then (1 : Int) else 0) = if sqB ((mkA N U c 0 - mkA N U c 1) * (mkA N U c 0 - mkA N U c 1) + 4 * mkC N U c 0) = true then 1 else 0 := if_iff ⟨fun h => h.resolve_left N2, Or.inr⟩
      rw [e]
      clear e
      generalize mkA N U c 0 = a at *
      generalize mkA N U c 1 = b at *
      generalize mkC N U c 0 = d at *
      have p1 := mulB (a := a - b) (b := a - b) (A := 12) (B := 12) (by omega) (by omega) (by omega) (by omega)
      have p2 : 0 ≤ (a - b) * (a - b) := by
        by_cases z : 0 ≤ a - b
        · exact Int.mul_nonneg z z
        · have := Int.mul_nonneg (a := -(a - b)) (b := -(a - b)) (by omega) (by omega)
          rw [Int.neg_mul_neg] at this
          exact this
      have S := X12_isSquare (Y := Y) (μ := ω) (v := (a - b) * (a - b) + 4 * d) (by omega) (by omega)
      generalize hzz : (a - b) * (a - b) + 4 * d = z at *
      by_cases q : sqB z = true
      · rw [if_pos q] at S ⊢
        simp (disch := omega) only [f_X12_isSome, g, g42, g43, g45, S, ki_0, ki_1, ki_2, ki_3, ki_4, ki_5, ki_6, ki_7, ki_8, ki_9, ki_10, ki_11, ki_12, ki_13, ki_18, ki_20, ki_24, ki_32, ki_36, ki_45, ki_47, ki_48, ki_50, ki_57, ki_60, ki_63, ki_99, ki_100, ki_101, ki_120, ki_255, ki_468, ki_1000, ki_1024, ki_13849, ki_25173, ki_65535, ki_65536, ki_100000, ki_100001, ki_2147483647, ki_2147483648, kl_0, kl_1, kl_2, kl_9223372036854775808, ki_add, ki_sub, ki_mul, ki_neg, kl_add, kl_sub, kl_mul, kl_neg, ki_i2l, kl_l2i, ki_lt, ki_le, ki_eq, kcmp_eq, kcmp_lt, kcmp_le, kcmp_gt, kcmp_ge, Option.bind_some, Option.map_some, kbool0, kbool1, if_pos, if_neg, if_true, if_false, Int.neg_neg, Int.sub_zero, Int.add_zero, Int.zero_add, true_and, and_true, false_and, and_false, false_or, or_false, true_or, or_true, ne_eq, not_false_eq_true, not_true_eq_false, hzz]
      · rw [if_neg q] at S ⊢
        simp (disch := omega) only [f_X12_isSome, g, g42, g43, g45, S, ki_0, ki_1, ki_2, ki_3, ki_4, ki_5, ki_6, ki_7, ki_8, ki_9, ki_10, ki_11, ki_12, ki_13, ki_18, ki_20, ki_24, ki_32, ki_36, ki_45, ki_47, ki_48, ki_50, ki_57, ki_60, ki_63, ki_99, ki_100, ki_101, ki_120, ki_255, ki_468, ki_1000, ki_1024, ki_13849, ki_25173, ki_65535, ki_65536, ki_100000, ki_100001, ki_2147483647, ki_2147483648, kl_0, kl_1, kl_2, kl_9223372036854775808, ki_add, ki_sub, ki_mul, ki_neg, kl_add, kl_sub, kl_mul, kl_neg, ki_i2l, kl_l2i, ki_lt, ki_le, ki_eq, kcmp_eq, kcmp_lt, kcmp_le, kcmp_gt, kcmp_ge, Option.bind_some, Option.map_some, kbool0, kbool1, if_pos, if_neg, if_true, if_false, Int.neg_neg, Int.sub_zero, Int.add_zero, Int.zero_add, true_and, and_true, false_and, and_false, false_or, or_false, true_or, or_true, ne_eq, not_false_eq_true, not_true_eq_false, hzz]
theorem tn_if {A C A2 C2 : Int → Int} {R : Int} {P : Prop} [Decidable P] (h : ((∀ i : Nat, i < R.toNat → A i = A2 (R - 1 - i)) ∧ ∀ i : Nat, i < (R - 1).toNat → C i = C2 (R - 2 - i)) ↔ P) : tn A C A2 C2 R = if P then 1 else 0 := by
  have e1 := al1_iff (p := fun i => if A i = A2 (R - 1 - i) then 1 else 0) R.toNat
  have e2 := al1_iff (p := fun i => if C i = C2 (R - 2 - i) then 1 else 0) (R - 1).toNat
  unfold tn
  by_cases q : P
  · rw [if_pos q]
    obtain ⟨h1, h2⟩ := h.2 q
    rw [if_pos (e1.2 fun i hi => if_pos (h1 i hi))]
    exact e2.2 fun i hi => if_pos (h2 i hi)
  · rw [if_neg q]
    by_cases a : al1 (fun i => if A i = A2 (R - 1 - i) then 1 else 0) R.toNat = 1
    · rw [if_pos a]
      rcases al1_two (fun i => if C i = C2 (R - 2 - i) then 1 else 0) (R - 1).toNat with b | b
      · exact b
      · exact absurd (h.1 ⟨fun i hi => pos1 (e1.1 a i hi), fun i hi => pos1 (e2.1 b i hi)⟩) q
    · rw [if_neg a]
theorem tn_is {N : Nat} (N1 : 1 ≤ N) (N3 : N ≤ 3) {A C B D : Int → Int} (hA : ∀ i : Nat, i < N → A i = B i) (hC : ∀ i : Nat, i + 1 < N → C i = D i) : tn A C A C (N : Int) = if N = 1 ∨ (N = 2 ∧ B 0 = B 1) ∨ (N = 3 ∧ B 0 = B 2 ∧ D 0 = D 1) then 1 else 0 := by
  refine tn_if ?_
  have : N = 1 ∨ N = 2 ∨ N = 3 := by omega
  rcases this with rfl | rfl | rfl
  · exact ⟨fun _ => Or.inl rfl, fun _ => ⟨fun i hi => congrArg A (by omega), fun i hi => by omega⟩⟩
  · have a0 : A 0 = B 0 := hA 0 (by omega)
    have a1 : A 1 = B 1 := hA 1 (by omega)
    constructor
    · rintro ⟨h, _⟩
      have : A 0 = A 1 := h 0 (by omega)
      exact Or.inr (Or.inl ⟨rfl, by omega⟩)
    · rintro (h | ⟨_, h⟩ | ⟨h, _⟩)
      · omega
      · have e : A 0 = A 1 := by omega
        refine ⟨fun i hi => ?_, fun i hi => ?_⟩
        · have : i = 0 ∨ i = 1 := by omega
          rcases this with rfl | rfl
          · exact e
          · exact e.symm
        · have : i = 0 := by omega
          subst this
          exact congrArg C (by omega)
      · omega
  · have a0 : A 0 = B 0 := hA 0 (by omega)
    have a2 : A 2 = B 2 := hA 2 (by omega)
    have c0 : C 0 = D 0 := hC 0 (by omega)
    have c1 : C 1 = D 1 := hC 1 (by omega)
    constructor
    · rintro ⟨h, k⟩
      have e1 : A 0 = A 2 := h 0 (by omega)
      have e2 : C 0 = C 1 := k 0 (by omega)
      exact Or.inr (Or.inr ⟨rfl, by omega, by omega⟩)
    · rintro (h | ⟨h, _⟩ | ⟨_, h, k⟩)
      · omega
      · omega
      · have e : A 0 = A 2 := by omega
        have f : C 0 = C 1 := by omega
        refine ⟨fun i hi => ?_, fun i hi => ?_⟩
        · have : i = 0 ∨ i = 1 ∨ i = 2 := by omega
          rcases this with rfl | rfl | rfl
          · exact e
          · exact congrArg A (by omega)
          · exact e.symm
        · have : i = 0 ∨ i = 1 := by omega
          rcases this with rfl | rfl
          · exact f
          · exact f.symm
theorem zc_0 (A C : Int → Int) : ∀ j : Nat, zc A C 0 0 j = 0 := by
  intro j
  induction j with
  | zero => rfl
  | succ j ih =>
    have V : (pv A C (-20 + (j : Int)) 1 0 0).2 = 1 := rfl
    rw [zc, ih, V]
    rfl
theorem zc_1 {A C : Int → Int} (a0 : -6 ≤ A 0) : ∀ j : Nat, zc A C 0 1 j = if A 0 < -20 + j then 1 else 0 := by
  intro j
  induction j with
  | zero =>
    rw [if_neg (by omega)]
    rfl
  | succ j ih =>
    have V : (pv A C (-20 + j) 1 0 1).2 = -20 + j - A 0 := by
      show (-20 + (j : Int) - 1 * A 0) * 1 - 1 * 1 * C (0 + ((0 : Nat) : Int) - 1) * 0 = _
      omega
    rw [zc, ih, V]
    by_cases e : A 0 < -20 + j
    · rw [if_pos e, if_neg (by omega), if_pos (by omega)]
      rfl
    · rw [if_neg e]
      by_cases f : A 0 = -20 + j
      · rw [if_pos (by omega), if_pos (by omega)]
        rfl
      · rw [if_neg (by omega), if_neg (by omega)]
        rfl
theorem sq_is {a b c : Int} (a1 : -6 ≤ a) (a2 : a ≤ 6) (b1 : -6 ≤ b) (b2 : b ≤ 6) (c1 : 1 ≤ c) (c2 : c ≤ 36) : zc (qA a b) (fun _ => c) 0 2 41 = 2 ↔ sqB ((a - b) * (a - b) + 4 * c) = true := by
  have e : rvM (qA a b) (fun _ => c) 2 0 = cenM a b c 0 := cen_is (w := 0) a1 a2 b1 b2 c1 c2 (by omega) (by omega)
  unfold rvM cenM at e
  rw [show (2 : Int).toNat = 2 from rfl] at e
  have no1 : ∀ {P Q : Prop}, ¬ ((0 : Int) = 1 ∧ P ∨ (0 : Int) = 2 ∧ Q) := by
    rintro P Q (⟨h, _⟩ | ⟨h, _⟩) <;> omega
  constructor
  · intro h
    rw [if_pos (Or.inl ⟨rfl, h⟩)] at e
    by_cases q : sqB ((a - b) * (a - b) + 4 * c) = true
    · exact q
    · rw [if_neg (by
        rintro (z | z)
        · exact q z.2
        · exact no1 z)] at e
      omega
  · intro h
    rw [if_pos (c := ((0 : Int) = 0 ∧ sqB ((a - b) * (a - b) + 4 * c) = true) ∨ _) (Or.inl ⟨rfl, h⟩)] at e
    by_cases q : zc (qA a b) (fun _ => c) 0 2 41 = 2
    · exact q
    · rw [if_neg (by
        rintro (z | z)
        · exact q z.2
        · exact no1 z)] at e
      omega
theorem aw_is {N : Nat} (N1 : 1 ≤ N) (N3 : N ≤ 3) {A C B D : Int → Int} (hA : ∀ i : Nat, i < N → A i = B i ∧ -6 ≤ B i ∧ B i ≤ 6) (hC : ∀ i : Nat, i + 1 < N → C i = D i ∧ 1 ≤ D i ∧ D i ≤ 36) : (if zc A C 0 ((N : Int) - 1).toNat 41 = (N : Int) - 1 then (1 : Int) else 0) = if N ≤ 2 ∨ sqB ((B 0 - B 1) * (B 0 - B 1) + 4 * D 0) = true then 1 else 0 := by
  refine if_iff ?_
  have : N = 1 ∨ N = 2 ∨ N = 3 := by omega
  rcases this with rfl | rfl | rfl
  · exact ⟨fun _ => Or.inl (by omega), fun _ => zc_0 A C 41⟩
  · have a0 : A 0 = B 0 ∧ -6 ≤ B 0 ∧ B 0 ≤ 6 := hA 0 (by omega)
    refine ⟨fun _ => Or.inl (by omega), fun _ => ?_⟩
    have z := zc_1 (A := A) (C := C) (by omega) 41
    rw [if_pos (by omega)] at z
    exact z
  · have a0 : A 0 = B 0 ∧ -6 ≤ B 0 ∧ B 0 ≤ 6 := hA 0 (by omega)
    have a1 : A 1 = B 1 ∧ -6 ≤ B 1 ∧ B 1 ≤ 6 := hA 1 (by omega)
    have c0 : C 0 = D 0 ∧ 1 ≤ D 0 ∧ D 0 ≤ 36 := hC 0 (by omega)
    have z := sq_is a0.2.1 a0.2.2 a1.2.1 a1.2.2 c0.2.1 c0.2.2
    have e : zc A C 0 2 41 = zc (qA (B 0) (B 1)) (fun _ => D 0) 0 2 41 := zc_congr (n := 2) (fun x x0 x1 => by
      have : x = 0 ∨ x = 1 := by omega
      rcases this with rfl | rfl
      · exact a0.1
      · exact a1.1) (fun x x0 x1 => by
      have : x = 0 := by omega
      subst this
      exact c0.1) 41
    rw [← e] at z
    exact ⟨fun h => Or.inr (z.1 h), fun h => z.2 (h.resolve_left (by omega))⟩
theorem X0_some {Y : jY} {ν : jM} (hX : kX Y ν) {N : Nat} (N1 : 1 ≤ N) (N3 : N ≤ 3) {U W : Int → Int} (hI : atI ν N U W) {c : Int} (h : maD N U c ν) {w v : Int} (w0 : 0 ≤ w) (w3 : w ≤ 3) (v1 : -2147483648 ≤ v) (v2 : v ≤ 2147483647) : f_X0_madeMeets Y 72 (ki w) (ki v) ν = some (ki (smM N U w v c), ν) := by
  have hB := maD.kTb (Y := Y) N1 N3 hI h
  have g := hX.g72_1
  rw [hI.1] at g
  have t73 : jgO Y ν 73 10 1 = some 74 := hX.t73.ga
  have t73c : jgO Y ν 73 10 2 = some 75 := hX.t73.gc
  have m0 : gi ν 74 0 = mkA N U c 0 ∧ -6 ≤ mkA N U c 0 ∧ mkA N U c 0 ≤ 6 := h.1 0 (by omega)
  have : w = 0 ∨ w = 1 ∨ w = 2 ∨ w = 3 := by omega
  rcases this with rfl | rfl | rfl | rfl
  · have T := X10_isTurnOf hX.t73 hB hX.t73 hB (by rw [hI.2.2.2]; omega)
    rw [if_pos rfl, hI.2.2.2, tn_is N1 N3 (B := mkA N U c) (D := mkC N U c) (fun i hi => (h.1 i hi).1) (fun i hi => (h.2 i hi).1), ← smM_0 (v := v)] at T
    rcases smM_two N U 0 v c with e | e
    · rw [e] at T ⊢
      simp (disch := omega) only [f_X0_madeMeets, hX.o72_0, krcv hX.t73.y, T, ki_0, ki_1, ki_2, ki_3, ki_4, ki_5, ki_6, ki_7, ki_8, ki_9, ki_10, ki_11, ki_12, ki_13, ki_18, ki_20, ki_24, ki_32, ki_36, ki_45, ki_47, ki_48, ki_50, ki_57, ki_60, ki_63, ki_99, ki_100, ki_101, ki_120, ki_255, ki_468, ki_1000, ki_1024, ki_13849, ki_25173, ki_65535, ki_65536, ki_100000, ki_100001, ki_2147483647, ki_2147483648, kl_0, kl_1, kl_2, kl_9223372036854775808, ki_add, ki_sub, ki_mul, ki_neg, kl_add, kl_sub, kl_mul, kl_neg, ki_i2l, kl_l2i, ki_lt, ki_le, ki_eq, kcmp_eq, kcmp_lt, kcmp_le, kcmp_gt, kcmp_ge, Option.bind_some, Option.map_some, kbool0, kbool1, if_pos, if_neg, if_true, if_false, Int.neg_neg, Int.sub_zero, Int.add_zero, Int.zero_add, true_and, and_true, false_and, and_false, false_or, or_false, true_or, or_true, ne_eq, not_false_eq_true, not_true_eq_false]
    · rw [e] at T ⊢
      simp (disch := omega) only [f_X0_madeMeets, hX.o72_0, krcv hX.t73.y, T, ki_0, ki_1, ki_2, ki_3, ki_4, ki_5, ki_6, ki_7, ki_8, ki_9, ki_10, ki_11, ki_12, ki_13, ki_18, ki_20, ki_24, ki_32, ki_36, ki_45, ki_47, ki_48, ki_50, ki_57, ki_60, ki_63, ki_99, ki_100, ki_101, ki_120, ki_255, ki_468, ki_1000, ki_1024, ki_13849, ki_25173, ki_65535, ki_65536, ki_100000, ki_100001, ki_2147483647, ki_2147483648, kl_0, kl_1, kl_2, kl_9223372036854775808, ki_add, ki_sub, ki_mul, ki_neg, kl_add, kl_sub, kl_mul, kl_neg, ki_i2l, kl_l2i, ki_lt, ki_le, ki_eq, kcmp_eq, kcmp_lt, kcmp_le, kcmp_gt, kcmp_ge, Option.bind_some, Option.map_some, kbool0, kbool1, if_pos, if_neg, if_true, if_false, Int.neg_neg, Int.sub_zero, Int.add_zero, Int.zero_add, true_and, and_true, false_and, and_false, false_or, or_false, true_or, or_true, ne_eq, not_false_eq_true, not_true_eq_false]
  · rw [smM_1]
    have a := kaI hX.t73.aa (x := 0) (by omega) (by omega)
    have a : jaI Y ν 74 20 (ki 0) = some (ki (gi ν 74 0)) := a
    rw [m0.1] at a
    generalize mkA N U c 0 = q at *
    by_cases e : q = v
    · rw [if_pos e]
      simp (disch := omega) only [f_X0_madeMeets, b_X0_madeMeets_66, hX.o72_0, t73, a, ki_0, ki_1, ki_2, ki_3, ki_4, ki_5, ki_6, ki_7, ki_8, ki_9, ki_10, ki_11, ki_12, ki_13, ki_18, ki_20, ki_24, ki_32, ki_36, ki_45, ki_47, ki_48, ki_50, ki_57, ki_60, ki_63, ki_99, ki_100, ki_101, ki_120, ki_255, ki_468, ki_1000, ki_1024, ki_13849, ki_25173, ki_65535, ki_65536, ki_100000, ki_100001, ki_2147483647, ki_2147483648, kl_0, kl_1, kl_2, kl_9223372036854775808, ki_add, ki_sub, ki_mul, ki_neg, kl_add, kl_sub, kl_mul, kl_neg, ki_i2l, kl_l2i, ki_lt, ki_le, ki_eq, kcmp_eq, kcmp_lt, kcmp_le, kcmp_gt, kcmp_ge, Option.bind_some, Option.map_some, kbool0, kbool1, if_pos, if_neg, if_true, if_false, Int.neg_neg, Int.sub_zero, Int.add_zero, Int.zero_add, true_and, and_true, false_and, and_false, false_or, or_false, true_or, or_true, ne_eq, not_false_eq_true, not_true_eq_false]
    · rw [if_neg e]
      simp (disch := omega) only [f_X0_madeMeets, b_X0_madeMeets_66, hX.o72_0, t73, a, ki_0, ki_1, ki_2, ki_3, ki_4, ki_5, ki_6, ki_7, ki_8, ki_9, ki_10, ki_11, ki_12, ki_13, ki_18, ki_20, ki_24, ki_32, ki_36, ki_45, ki_47, ki_48, ki_50, ki_57, ki_60, ki_63, ki_99, ki_100, ki_101, ki_120, ki_255, ki_468, ki_1000, ki_1024, ki_13849, ki_25173, ki_65535, ki_65536, ki_100000, ki_100001, ki_2147483647, ki_2147483648, kl_0, kl_1, kl_2, kl_9223372036854775808, ki_add, ki_sub, ki_mul, ki_neg, kl_add, kl_sub, kl_mul, kl_neg, ki_i2l, kl_l2i, ki_lt, ki_le, ki_eq, kcmp_eq, kcmp_lt, kcmp_le, kcmp_gt, kcmp_ge, Option.bind_some, Option.map_some, kbool0, kbool1, if_pos, if_neg, if_true, if_false, Int.neg_neg, Int.sub_zero, Int.add_zero, Int.zero_add, true_and, and_true, false_and, and_false, false_or, or_false, true_or, or_true, ne_eq, not_false_eq_true, not_true_eq_false]
  · rw [smM_2]
    by_cases N2 : 2 ≤ N
    · have d0 : gi ν 75 0 = mkC N U c 0 ∧ 1 ≤ mkC N U c 0 ∧ mkC N U c 0 ≤ 36 := h.2 0 (by omega)
      have a : jaI Y ν 75 20 (ki 0) = some (ki (gi ν 75 0)) := kaI hX.t73.ac (x := 0) (by omega) (by omega)
      rw [d0.1] at a
      by_cases e : mkC N U c 0 = v
      · rw [if_pos ⟨N2, e⟩]
        generalize mkC N U c 0 = q at *
        simp (disch := omega) only [f_X0_madeMeets, b_X0_madeMeets_93, g, hX.o72_0, t73c, a, ki_0, ki_1, ki_2, ki_3, ki_4, ki_5, ki_6, ki_7, ki_8, ki_9, ki_10, ki_11, ki_12, ki_13, ki_18, ki_20, ki_24, ki_32, ki_36, ki_45, ki_47, ki_48, ki_50, ki_57, ki_60, ki_63, ki_99, ki_100, ki_101, ki_120, ki_255, ki_468, ki_1000, ki_1024, ki_13849, ki_25173, ki_65535, ki_65536, ki_100000, ki_100001, ki_2147483647, ki_2147483648, kl_0, kl_1, kl_2, kl_9223372036854775808, ki_add, ki_sub, ki_mul, ki_neg, kl_add, kl_sub, kl_mul, kl_neg, ki_i2l, kl_l2i, ki_lt, ki_le, ki_eq, kcmp_eq, kcmp_lt, kcmp_le, kcmp_gt, kcmp_ge, Option.bind_some, Option.map_some, kbool0, kbool1, if_pos, if_neg, if_true, if_false, Int.neg_neg, Int.sub_zero, Int.add_zero, Int.zero_add, true_and, and_true, false_and, and_false, false_or, or_false, true_or, or_true, ne_eq, not_false_eq_true, not_true_eq_false]
      · rw [if_neg (fun z => e z.2)]
        generalize mkC N U c 0 = q at *
        simp (disch := omega) only [f_X0_madeMeets, b_X0_madeMeets_92, b_X0_madeMeets_93, g, hX.o72_0, t73c, a, ki_0, ki_1, ki_2, ki_3, ki_4, ki_5, ki_6, ki_7, ki_8, ki_9, ki_10, ki_11, ki_12, ki_13, ki_18, ki_20, ki_24, ki_32, ki_36, ki_45, ki_47, ki_48, ki_50, ki_57, ki_60, ki_63, ki_99, ki_100, ki_101, ki_120, ki_255, ki_468, ki_1000, ki_1024, ki_13849, ki_25173, ki_65535, ki_65536, ki_100000, ki_100001, ki_2147483647, ki_2147483648, kl_0, kl_1, kl_2, kl_9223372036854775808, ki_add, ki_sub, ki_mul, ki_neg, kl_add, kl_sub, kl_mul, kl_neg, ki_i2l, kl_l2i, ki_lt, ki_le, ki_eq, kcmp_eq, kcmp_lt, kcmp_le, kcmp_gt, kcmp_ge, Option.bind_some, Option.map_some, kbool0, kbool1, if_pos, if_neg, if_true, if_false, Int.neg_neg, Int.sub_zero, Int.add_zero, Int.zero_add, true_and, and_true, false_and, and_false, false_or, or_false, true_or, or_true, ne_eq, not_false_eq_true, not_true_eq_false]
    · rw [if_neg (fun z => N2 z.1)]
      simp (disch := omega) only [f_X0_madeMeets, b_X0_madeMeets_92, b_X0_madeMeets_93, g, ki_0, ki_1, ki_2, ki_3, ki_4, ki_5, ki_6, ki_7, ki_8, ki_9, ki_10, ki_11, ki_12, ki_13, ki_18, ki_20, ki_24, ki_32, ki_36, ki_45, ki_47, ki_48, ki_50, ki_57, ki_60, ki_63, ki_99, ki_100, ki_101, ki_120, ki_255, ki_468, ki_1000, ki_1024, ki_13849, ki_25173, ki_65535, ki_65536, ki_100000, ki_100001, ki_2147483647, ki_2147483648, kl_0, kl_1, kl_2, kl_9223372036854775808, ki_add, ki_sub, ki_mul, ki_neg, kl_add, kl_sub, kl_mul, kl_neg, ki_i2l, kl_l2i, ki_lt, ki_le, ki_eq, kcmp_eq, kcmp_lt, kcmp_le, kcmp_gt, kcmp_ge, Option.bind_some, Option.map_some, kbool0, kbool1, if_pos, if_neg, if_true, if_false, Int.neg_neg, Int.sub_zero, Int.add_zero, Int.zero_add, true_and, and_true, false_and, and_false, false_or, or_false, true_or, or_true, ne_eq, not_false_eq_true, not_true_eq_false]
  · have T := X10_areWhole hX.t73 hB (k := (N : Int) - 1) (by omega) (by rw [hI.2.2.2]; omega)
    rw [aw_is N1 N3 (B := mkA N U c) (D := mkC N U c) (fun i hi => h.1 i hi) (fun i hi => h.2 i hi), ← smM_3 (v := v)] at T
    rcases smM_two N U 3 v c with e | e
    · rw [e] at T ⊢
      simp (disch := omega) only [f_X0_madeMeets, g, hX.o72_0, krcv hX.t73.y, T, ki_0, ki_1, ki_2, ki_3, ki_4, ki_5, ki_6, ki_7, ki_8, ki_9, ki_10, ki_11, ki_12, ki_13, ki_18, ki_20, ki_24, ki_32, ki_36, ki_45, ki_47, ki_48, ki_50, ki_57, ki_60, ki_63, ki_99, ki_100, ki_101, ki_120, ki_255, ki_468, ki_1000, ki_1024, ki_13849, ki_25173, ki_65535, ki_65536, ki_100000, ki_100001, ki_2147483647, ki_2147483648, kl_0, kl_1, kl_2, kl_9223372036854775808, ki_add, ki_sub, ki_mul, ki_neg, kl_add, kl_sub, kl_mul, kl_neg, ki_i2l, kl_l2i, ki_lt, ki_le, ki_eq, kcmp_eq, kcmp_lt, kcmp_le, kcmp_gt, kcmp_ge, Option.bind_some, Option.map_some, kbool0, kbool1, if_pos, if_neg, if_true, if_false, Int.neg_neg, Int.sub_zero, Int.add_zero, Int.zero_add, true_and, and_true, false_and, and_false, false_or, or_false, true_or, or_true, ne_eq, not_false_eq_true, not_true_eq_false]
    · rw [e] at T ⊢
      simp (disch := omega) only [f_X0_madeMeets, g, hX.o72_0, krcv hX.t73.y, T, ki_0, ki_1, ki_2, ki_3, ki_4, ki_5, ki_6, ki_7, ki_8, ki_9, ki_10, ki_11, ki_12, ki_13, ki_18, ki_20, ki_24, ki_32, ki_36, ki_45, ki_47, ki_48, ki_50, ki_57, ki_60, ki_63, ki_99, ki_100, ki_101, ki_120, ki_255, ki_468, ki_1000, ki_1024, ki_13849, ki_25173, ki_65535, ki_65536, ki_100000, ki_100001, ki_2147483647, ki_2147483648, kl_0, kl_1, kl_2, kl_9223372036854775808, ki_add, ki_sub, ki_mul, ki_neg, kl_add, kl_sub, kl_mul, kl_neg, ki_i2l, kl_l2i, ki_lt, ki_le, ki_eq, kcmp_eq, kcmp_lt, kcmp_le, kcmp_gt, kcmp_ge, Option.bind_some, Option.map_some, kbool0, kbool1, if_pos, if_neg, if_true, if_false, Int.neg_neg, Int.sub_zero, Int.add_zero, Int.zero_add, true_and, and_true, false_and, and_false, false_or, or_false, true_or, or_true, ne_eq, not_false_eq_true, not_true_eq_false]
/-! OPS: some -/
theorem ok_some {L : Nat} {xs : Nat → Int32} {n : Nat} {Y : jY} {μ : jM} (h : Inv L xs n Y μ) : so_some (Inv L xs) n Y μ := by
  have hX := h.x
  have hM := h.m
  intro a1 a2
  obtain ⟨w, w1, w2, rfl⟩ := ki_is a1
  obtain ⟨v, v1, v2, rfl⟩ := ki_is a2
  obtain ⟨q1, q2, q3, q4, q5⟩ := h.q
  have e0 := X11_hasTones hX
  have g := kM.g10 hM
  have gx := kN.gr hX.n10
  rw [q1] at e0 gx
  by_cases hw : 0 ≤ w ∧ w ≤ 3
  · by_cases hz : gi μ 95 10 = 0
    · refine ⟨(ki (-1), μ), (ki (-1), μ), ?_, fun _ => rfl, ?_, rfl, h⟩
      · simp (disch := omega) only [f_X11_some, b_X11_some_19, X11_within, f_X11_countTables, krcv (kX.y1 hX), e0, ki_0, ki_1, ki_2, ki_3, ki_4, ki_5, ki_6, ki_7, ki_8, ki_9, ki_10, ki_11, ki_12, ki_13, ki_18, ki_20, ki_24, ki_32, ki_36, ki_45, ki_47, ki_48, ki_50, ki_57, ki_60, ki_63, ki_99, ki_100, ki_101, ki_120, ki_255, ki_468, ki_1000, ki_1024, ki_13849, ki_25173, ki_65535, ki_65536, ki_100000, ki_100001, ki_2147483647, ki_2147483648, kl_0, kl_1, kl_2, kl_9223372036854775808, ki_add, ki_sub, ki_mul, ki_neg, kl_add, kl_sub, kl_mul, kl_neg, ki_i2l, kl_l2i, ki_lt, ki_le, ki_eq, kcmp_eq, kcmp_lt, kcmp_le, kcmp_gt, kcmp_ge, Option.bind_some, Option.map_some, kbool0, kbool1, if_pos, if_neg, if_true, if_false, Int.neg_neg, Int.sub_zero, Int.add_zero, Int.zero_add, true_and, and_true, false_and, and_false, false_or, or_false, true_or, or_true, ne_eq, not_false_eq_true, not_true_eq_false]
      · simp (disch := omega) only [f_X12_some, b_X12_some_16, g, ki_0, ki_1, ki_2, ki_3, ki_4, ki_5, ki_6, ki_7, ki_8, ki_9, ki_10, ki_11, ki_12, ki_13, ki_18, ki_20, ki_24, ki_32, ki_36, ki_45, ki_47, ki_48, ki_50, ki_57, ki_60, ki_63, ki_99, ki_100, ki_101, ki_120, ki_255, ki_468, ki_1000, ki_1024, ki_13849, ki_25173, ki_65535, ki_65536, ki_100000, ki_100001, ki_2147483647, ki_2147483648, kl_0, kl_1, kl_2, kl_9223372036854775808, ki_add, ki_sub, ki_mul, ki_neg, kl_add, kl_sub, kl_mul, kl_neg, ki_i2l, kl_l2i, ki_lt, ki_le, ki_eq, kcmp_eq, kcmp_lt, kcmp_le, kcmp_gt, kcmp_ge, Option.bind_some, Option.map_some, kbool0, kbool1, if_pos, if_neg, if_true, if_false, Int.neg_neg, Int.sub_zero, Int.add_zero, Int.zero_add, true_and, and_true, false_and, and_false, false_or, or_false, true_or, or_true, ne_eq, not_false_eq_true, not_true_eq_false]
    · by_cases h3 : gi μ 95 10 ≤ 3
      · obtain ⟨N, U, W, N1, N3, eN, bU, u1, lk, ⟨ν, c1, kf, hI⟩, M⟩ := h.allB hz h3
        have hXν := hX.to kf
        obtain ⟨ξ, c2, kf2⟩ := X11_countLoop hXν N1 N3 (M := smM N U w v) hI bU (w := w) (v := v) (fun c ν hX hI _ _ _ hD => X0_some hX N1 N3 hI hD hw.1 hw.2 v1 v2) (fun c _ _ _ => smM_two N U w v c)
        rw [ki_0] at c2
        have kf3 : kF 27 78 μ ξ := kf.trans (kf2.mono (by omega) (by omega))
        have hMξ := hM.to kf3
        obtain ⟨ω, d1, kg, kp, en, r1, r2, tr⟩ := M ξ (fun i a b => kf3.1 i (by omega)) hMξ
        have hMω := hMξ.to kg
        have gξ := kM.g10 hMξ
        rw [kf3.gi (by omega)] at gξ
        obtain ⟨η, d2, fy⟩ := cnt_gen (Y := Y) N1 N3 (U := U) (M := smM N U w v) (F := fun (s : Int32 × jM) => b_X12_some_35 Y 95 (ki w) (ki v) s.1 s.2) (fun v' ν ω' r hν e1 e2 => ⟨fun e => by
          subst e
          simp (disch := omega) only [b_X12_some_35, krcv hMω.y, e1, ki_0, ki_1, ki_2, ki_3, ki_4, ki_5, ki_6, ki_7, ki_8, ki_9, ki_10, ki_11, ki_12, ki_13, ki_18, ki_20, ki_24, ki_32, ki_36, ki_45, ki_47, ki_48, ki_50, ki_57, ki_60, ki_63, ki_99, ki_100, ki_101, ki_120, ki_255, ki_468, ki_1000, ki_1024, ki_13849, ki_25173, ki_65535, ki_65536, ki_100000, ki_100001, ki_2147483647, ki_2147483648, kl_0, kl_1, kl_2, kl_9223372036854775808, ki_add, ki_sub, ki_mul, ki_neg, kl_add, kl_sub, kl_mul, kl_neg, ki_i2l, kl_l2i, ki_lt, ki_le, ki_eq, kcmp_eq, kcmp_lt, kcmp_le, kcmp_gt, kcmp_ge, Option.bind_some, Option.map_some, kbool0, kbool1, if_pos, if_neg, if_true, if_false, Int.neg_neg, Int.sub_zero, Int.add_zero, Int.zero_add, true_and, and_true, false_and, and_false, false_or, or_false, true_or, or_true, ne_eq, not_false_eq_true, not_true_eq_false], fun c hc0 hc1 hmk hfo e => by
          subst e
          have f2 := hν.trans e2
          have hl := X12_isSome (hMω.to f2.1) N1 N3 (by rw [f2.n]; exact en) hc0 hc1 hmk (foN_rd N1 N3 hfo) u1 (fun e => by
            rw [f2.1.gi (by omega), gi_cell (kp.2.1 99 (by unfold pers; omega)), kf3.gi (by omega)]
            exact (lk.1 e).1) hw.1 hw.2 v1 v2
          rcases smM_two N U w v c with t | t
          · rw [t] at hl ⊢
            simp (disch := omega) only [b_X12_some_35, b_X12_some_57, krcv hMω.y, e1, hl, ki_0, ki_1, ki_2, ki_3, ki_4, ki_5, ki_6, ki_7, ki_8, ki_9, ki_10, ki_11, ki_12, ki_13, ki_18, ki_20, ki_24, ki_32, ki_36, ki_45, ki_47, ki_48, ki_50, ki_57, ki_60, ki_63, ki_99, ki_100, ki_101, ki_120, ki_255, ki_468, ki_1000, ki_1024, ki_13849, ki_25173, ki_65535, ki_65536, ki_100000, ki_100001, ki_2147483647, ki_2147483648, kl_0, kl_1, kl_2, kl_9223372036854775808, ki_add, ki_sub, ki_mul, ki_neg, kl_add, kl_sub, kl_mul, kl_neg, ki_i2l, kl_l2i, ki_lt, ki_le, ki_eq, kcmp_eq, kcmp_lt, kcmp_le, kcmp_gt, kcmp_ge, Option.bind_some, Option.map_some, kbool0, kbool1, if_pos, if_neg, if_true, if_false, Int.neg_neg, Int.sub_zero, Int.add_zero, Int.zero_add, true_and, and_true, false_and, and_false, false_or, or_false, true_or, or_true, ne_eq, not_false_eq_true, not_true_eq_false]
          · rw [t] at hl ⊢
            simp (disch := omega) only [b_X12_some_35, b_X12_some_57, krcv hMω.y, e1, hl, ki_0, ki_1, ki_2, ki_3, ki_4, ki_5, ki_6, ki_7, ki_8, ki_9, ki_10, ki_11, ki_12, ki_13, ki_18, ki_20, ki_24, ki_32, ki_36, ki_45, ki_47, ki_48, ki_50, ki_57, ki_60, ki_63, ki_99, ki_100, ki_101, ki_120, ki_255, ki_468, ki_1000, ki_1024, ki_13849, ki_25173, ki_65535, ki_65536, ki_100000, ki_100001, ki_2147483647, ki_2147483648, kl_0, kl_1, kl_2, kl_9223372036854775808, ki_add, ki_sub, ki_mul, ki_neg, kl_add, kl_sub, kl_mul, kl_neg, ki_i2l, kl_l2i, ki_lt, ki_le, ki_eq, kcmp_eq, kcmp_lt, kcmp_le, kcmp_gt, kcmp_ge, Option.bind_some, Option.map_some, kbool0, kbool1, if_pos, if_neg, if_true, if_false, Int.neg_neg, Int.sub_zero, Int.add_zero, Int.zero_add, true_and, and_true, false_and, and_false, false_or, or_false, true_or, or_true, ne_eq, not_false_eq_true, not_true_eq_false]⟩) hMω en r1 bU u1 tr
        generalize smF (ctG N U (smM N U w v)) (cdN N) = s at *
        refine ⟨(ki s, ξ), (ki s, η), ?_, fun j => congrFun (kf3.1 0 (by omega)) j, ?_, rfl, h.to (((kP.of_rows (kf3.mono (by omega) (by omega))).trans kp).trans fy.kP)⟩
        · simp (disch := omega) only [f_X11_some, b_X11_some_19, X11_within, f_X11_countTables, krcv (kX.y1 hX), kX.o1_3 hX, kS.gn (kX.now hX), gx, e0, c1, c2, ki_0, ki_1, ki_2, ki_3, ki_4, ki_5, ki_6, ki_7, ki_8, ki_9, ki_10, ki_11, ki_12, ki_13, ki_18, ki_20, ki_24, ki_32, ki_36, ki_45, ki_47, ki_48, ki_50, ki_57, ki_60, ki_63, ki_99, ki_100, ki_101, ki_120, ki_255, ki_468, ki_1000, ki_1024, ki_13849, ki_25173, ki_65535, ki_65536, ki_100000, ki_100001, ki_2147483647, ki_2147483648, kl_0, kl_1, kl_2, kl_9223372036854775808, ki_add, ki_sub, ki_mul, ki_neg, kl_add, kl_sub, kl_mul, kl_neg, ki_i2l, kl_l2i, ki_lt, ki_le, ki_eq, kcmp_eq, kcmp_lt, kcmp_le, kcmp_gt, kcmp_ge, Option.bind_some, Option.map_some, kbool0, kbool1, if_pos, if_neg, if_true, if_false, Int.neg_neg, Int.sub_zero, Int.add_zero, Int.zero_add, true_and, and_true, false_and, and_false, false_or, or_false, true_or, or_true, ne_eq, not_false_eq_true, not_true_eq_false]
        · simp (disch := omega) only [f_X12_some, X12_in, krcv (kM.y hM), gξ, d1, ki_0, ki_1, ki_2, ki_3, ki_4, ki_5, ki_6, ki_7, ki_8, ki_9, ki_10, ki_11, ki_12, ki_13, ki_18, ki_20, ki_24, ki_32, ki_36, ki_45, ki_47, ki_48, ki_50, ki_57, ki_60, ki_63, ki_99, ki_100, ki_101, ki_120, ki_255, ki_468, ki_1000, ki_1024, ki_13849, ki_25173, ki_65535, ki_65536, ki_100000, ki_100001, ki_2147483647, ki_2147483648, kl_0, kl_1, kl_2, kl_9223372036854775808, ki_add, ki_sub, ki_mul, ki_neg, kl_add, kl_sub, kl_mul, kl_neg, ki_i2l, kl_l2i, ki_lt, ki_le, ki_eq, kcmp_eq, kcmp_lt, kcmp_le, kcmp_gt, kcmp_ge, Option.bind_some, Option.map_some, kbool0, kbool1, if_pos, if_neg, if_true, if_false, Int.neg_neg, Int.sub_zero, Int.add_zero, Int.zero_add, true_and, and_true, false_and, and_false, false_or, or_false, true_or, or_true, ne_eq, not_false_eq_true, not_true_eq_false]
          exact d2
      · refine ⟨(ki (-2), μ), (ki (-2), μ), ?_, fun _ => rfl, ?_, rfl, h⟩
        · simp (disch := omega) only [f_X11_some, b_X11_some_19, X11_within, f_X11_countTables, krcv (kX.y1 hX), kX.o1_3 hX, kS.gn (kX.now hX), gx, e0, ki_0, ki_1, ki_2, ki_3, ki_4, ki_5, ki_6, ki_7, ki_8, ki_9, ki_10, ki_11, ki_12, ki_13, ki_18, ki_20, ki_24, ki_32, ki_36, ki_45, ki_47, ki_48, ki_50, ki_57, ki_60, ki_63, ki_99, ki_100, ki_101, ki_120, ki_255, ki_468, ki_1000, ki_1024, ki_13849, ki_25173, ki_65535, ki_65536, ki_100000, ki_100001, ki_2147483647, ki_2147483648, kl_0, kl_1, kl_2, kl_9223372036854775808, ki_add, ki_sub, ki_mul, ki_neg, kl_add, kl_sub, kl_mul, kl_neg, ki_i2l, kl_l2i, ki_lt, ki_le, ki_eq, kcmp_eq, kcmp_lt, kcmp_le, kcmp_gt, kcmp_ge, Option.bind_some, Option.map_some, kbool0, kbool1, if_pos, if_neg, if_true, if_false, Int.neg_neg, Int.sub_zero, Int.add_zero, Int.zero_add, true_and, and_true, false_and, and_false, false_or, or_false, true_or, or_true, ne_eq, not_false_eq_true, not_true_eq_false]
        · simp (disch := omega) only [f_X12_some, X12_in, g, ki_0, ki_1, ki_2, ki_3, ki_4, ki_5, ki_6, ki_7, ki_8, ki_9, ki_10, ki_11, ki_12, ki_13, ki_18, ki_20, ki_24, ki_32, ki_36, ki_45, ki_47, ki_48, ki_50, ki_57, ki_60, ki_63, ki_99, ki_100, ki_101, ki_120, ki_255, ki_468, ki_1000, ki_1024, ki_13849, ki_25173, ki_65535, ki_65536, ki_100000, ki_100001, ki_2147483647, ki_2147483648, kl_0, kl_1, kl_2, kl_9223372036854775808, ki_add, ki_sub, ki_mul, ki_neg, kl_add, kl_sub, kl_mul, kl_neg, ki_i2l, kl_l2i, ki_lt, ki_le, ki_eq, kcmp_eq, kcmp_lt, kcmp_le, kcmp_gt, kcmp_ge, Option.bind_some, Option.map_some, kbool0, kbool1, if_pos, if_neg, if_true, if_false, Int.neg_neg, Int.sub_zero, Int.add_zero, Int.zero_add, true_and, and_true, false_and, and_false, false_or, or_false, true_or, or_true, ne_eq, not_false_eq_true, not_true_eq_false]
  · refine ⟨(ki (-1), μ), (ki (-1), μ), ?_, fun _ => rfl, ?_, rfl, h⟩
    · simp (disch := omega) only [f_X11_some, b_X11_some_19, X11_within, ki_0, ki_1, ki_2, ki_3, ki_4, ki_5, ki_6, ki_7, ki_8, ki_9, ki_10, ki_11, ki_12, ki_13, ki_18, ki_20, ki_24, ki_32, ki_36, ki_45, ki_47, ki_48, ki_50, ki_57, ki_60, ki_63, ki_99, ki_100, ki_101, ki_120, ki_255, ki_468, ki_1000, ki_1024, ki_13849, ki_25173, ki_65535, ki_65536, ki_100000, ki_100001, ki_2147483647, ki_2147483648, kl_0, kl_1, kl_2, kl_9223372036854775808, ki_add, ki_sub, ki_mul, ki_neg, kl_add, kl_sub, kl_mul, kl_neg, ki_i2l, kl_l2i, ki_lt, ki_le, ki_eq, kcmp_eq, kcmp_lt, kcmp_le, kcmp_gt, kcmp_ge, Option.bind_some, Option.map_some, kbool0, kbool1, if_pos, if_neg, if_true, if_false, Int.neg_neg, Int.sub_zero, Int.add_zero, Int.zero_add, true_and, and_true, false_and, and_false, false_or, or_false, true_or, or_true, ne_eq, not_false_eq_true, not_true_eq_false]
    · by_cases hz : gi μ 95 10 = 0
      · simp (disch := omega) only [f_X12_some, b_X12_some_16, g, ki_0, ki_1, ki_2, ki_3, ki_4, ki_5, ki_6, ki_7, ki_8, ki_9, ki_10, ki_11, ki_12, ki_13, ki_18, ki_20, ki_24, ki_32, ki_36, ki_45, ki_47, ki_48, ki_50, ki_57, ki_60, ki_63, ki_99, ki_100, ki_101, ki_120, ki_255, ki_468, ki_1000, ki_1024, ki_13849, ki_25173, ki_65535, ki_65536, ki_100000, ki_100001, ki_2147483647, ki_2147483648, kl_0, kl_1, kl_2, kl_9223372036854775808, ki_add, ki_sub, ki_mul, ki_neg, kl_add, kl_sub, kl_mul, kl_neg, ki_i2l, kl_l2i, ki_lt, ki_le, ki_eq, kcmp_eq, kcmp_lt, kcmp_le, kcmp_gt, kcmp_ge, Option.bind_some, Option.map_some, kbool0, kbool1, if_pos, if_neg, if_true, if_false, Int.neg_neg, Int.sub_zero, Int.add_zero, Int.zero_add, true_and, and_true, false_and, and_false, false_or, or_false, true_or, or_true, ne_eq, not_false_eq_true, not_true_eq_false]
      · simp (disch := omega) only [f_X12_some, b_X12_some_16, X12_in, g, ki_0, ki_1, ki_2, ki_3, ki_4, ki_5, ki_6, ki_7, ki_8, ki_9, ki_10, ki_11, ki_12, ki_13, ki_18, ki_20, ki_24, ki_32, ki_36, ki_45, ki_47, ki_48, ki_50, ki_57, ki_60, ki_63, ki_99, ki_100, ki_101, ki_120, ki_255, ki_468, ki_1000, ki_1024, ki_13849, ki_25173, ki_65535, ki_65536, ki_100000, ki_100001, ki_2147483647, ki_2147483648, kl_0, kl_1, kl_2, kl_9223372036854775808, ki_add, ki_sub, ki_mul, ki_neg, kl_add, kl_sub, kl_mul, kl_neg, ki_i2l, kl_l2i, ki_lt, ki_le, ki_eq, kcmp_eq, kcmp_lt, kcmp_le, kcmp_gt, kcmp_ge, Option.bind_some, Option.map_some, kbool0, kbool1, if_pos, if_neg, if_true, if_false, Int.neg_neg, Int.sub_zero, Int.add_zero, Int.zero_add, true_and, and_true, false_and, and_false, false_or, or_false, true_or, or_true, ne_eq, not_false_eq_true, not_true_eq_false]
