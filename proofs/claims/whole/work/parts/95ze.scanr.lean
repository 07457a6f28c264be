/-! TEXTS: a token taken by the reference -/
def scM (ω : jM) (a c d : Int) (f g : Int → Int) : Prop := gi ω 95 2 = a ∧ gi ω 95 8 = c ∧ gi ω 95 9 = d ∧ (∀ x : Int, 0 ≤ x → x < c → gi ω 97 x = f x) ∧ ∀ x : Int, 0 ≤ x → x < d → gi ω 98 x = g x
theorem scM.k {ω ν : jM} {a b c d : Int} {f g : Int → Int} (h : scM ω a c d f g) (k : frK ω ν) (e : gi ν 95 2 = b) : scM ν b c d f g := by
  obtain ⟨h1, h2, h3, h4, h5⟩ := h
  have e8 : gi ν 95 8 = gi ω 95 8 := gi_slot (k := 8) (k.2 8 (by omega) (by omega) (by omega))
  have e9 : gi ν 95 9 = gi ω 95 9 := gi_slot (k := 9) (k.2 9 (by omega) (by omega) (by omega))
  exact ⟨e, e8.trans h2, e9.trans h3, fun x p q => by rw [k.1.gi (by omega)]; exact h4 x p q, fun x p q => by rw [k.1.gi (by omega)]; exact h5 x p q⟩
theorem X12_wrong {Y : jY} {ω : jM} (hM : kM Y ω) {b k : Int} (e : gi ω 95 4 = b) (b0 : 0 ≤ b) (b6 : b ≤ 60) (k0 : 0 ≤ k) (k5 : k ≤ 5) : f_X12_wrong Y 95 (ki k) ω = some (ki (-1000 * k - b), ω) := by
  have g := kM.g4 hM
  rw [e] at g
  simp (disch := omega) only [f_X12_wrong, g, ki_0, ki_1, ki_2, ki_3, ki_4, ki_5, ki_6, ki_7, ki_8, ki_9, ki_10, ki_11, ki_12, ki_13, ki_18, ki_20, ki_24, ki_32, ki_36, ki_45, ki_47, ki_48, ki_50, ki_57, ki_60, ki_63, ki_99, ki_100, ki_101, ki_120, ki_255, ki_468, ki_1000, ki_1024, ki_13849, ki_25173, ki_65535, ki_65536, ki_100000, ki_100001, ki_2147483647, ki_2147483648, kl_0, kl_1, kl_2, kl_9223372036854775808, ki_add, ki_sub, ki_mul, ki_neg, kl_add, kl_sub, kl_mul, kl_neg, ki_i2l, kl_l2i, ki_lt, ki_le, ki_eq, kcmp_eq, kcmp_lt, kcmp_le, kcmp_gt, kcmp_ge, Option.bind_some, Option.map_some, kbool0, kbool1, if_pos, if_neg, if_true, if_false, Int.neg_neg, Int.sub_zero, Int.add_zero, Int.zero_add, true_and, and_true, false_and, and_false, false_or, or_false, true_or, or_true, ne_eq, not_false_eq_true, not_true_eq_false]
theorem X12_put0 {Y : jY} {ω : jM} (hM : kM Y ω) {a c d v : Int} {f g : Int → Int} (h : scM ω a c d f g) (c0 : 0 ≤ c) (c5 : c < 5) (e5 : gi ω 95 5 = v) (v1 : -1000 ≤ v) (v2 : v ≤ 1000) : ∃ ν, (∀ z p, b_X12_reads_300 Y 95 z p ω = b_X12_reads_323 Y 95 z p ν) ∧ frR ω ν ∧ scM ν a (c + 1) d (stf f c v) g := by
  obtain ⟨h1, h2, h3, h4, h5⟩ := h
  have g8 := kM.g8 hM
  rw [h2] at g8
  have g5 := kM.g5 hM
  rw [e5] at g5
  have F1 : kF 95 99 ω (jw ω 97 c.toNat (.int (ki v))) := kF_I ((kM.a97 hM).2.2.2 _ (by omega)) (by omega) (by omega)
  have w1 := fun a x => gi_jw (μ := ω) (o := 97) (k := c.toNat) (v := v) a x (by omega) (by omega)
  have d1 : ∀ i, i ≠ 97 → jw ω 97 c.toNat (.int (ki v)) i = ω i := fun i hi => jw_cell hi
  have hM1 := hM.to F1
  generalize hω1 : jw ω 97 c.toNat (.int (ki v)) = ω1 at *
  have g8' := kM.g8 hM1
  rw [w1, if_neg (by omega), h2] at g8'
  have F2 : kF 95 99 ω1 (jw ω1 95 8 (.int (ki (c + 1)))) := kF_I (kM.i8 hM1) (by omega) (by omega)
  have w2 := fun a x => gi_jw (μ := ω1) (o := 95) (k := 8) (v := c + 1) a x (by omega) (by omega)
  have d2 : ∀ i, i ≠ 95 → jw ω1 95 8 (.int (ki (c + 1))) i = ω1 i := fun i hi => jw_cell hi
  have d3 : ∀ j, j ≠ 8 → jw ω1 95 8 (.int (ki (c + 1))) 95 j = ω1 95 j := fun j hj => jw_slot hj
  generalize hω2 : jw ω1 95 8 (.int (ki (c + 1))) = ω2 at *
  refine ⟨ω2, fun z p => ?_, ⟨F1.trans F2, by rw [d2 96 (by omega), d1 96 (by omega)], fun j _ _ _ j8 _ => by rw [d3 j j8, d1 95 (by omega)]⟩, ?_, ?_, ?_, fun x x1 x2 => ?_, fun x x1 x2 => ?_⟩
  · clear w1 w2 d1 d2 d3
    simp (disch := omega) only [b_X12_reads_300, kM.o6 hM, g8, g5, kasI (kM.a97 hM), hω1, g8', kM.p hM, hω2, ki_0, ki_1, ki_2, ki_3, ki_4, ki_5, ki_6, ki_7, ki_8, ki_9, ki_10, ki_11, ki_12, ki_13, ki_18, ki_20, ki_24, ki_32, ki_36, ki_45, ki_47, ki_48, ki_50, ki_57, ki_60, ki_63, ki_99, ki_100, ki_101, ki_120, ki_255, ki_468, ki_1000, ki_1024, ki_13849, ki_25173, ki_65535, ki_65536, ki_100000, ki_100001, ki_2147483647, ki_2147483648, kl_0, kl_1, kl_2, kl_9223372036854775808, ki_add, ki_sub, ki_mul, ki_neg, kl_add, kl_sub, kl_mul, kl_neg, ki_i2l, kl_l2i, ki_lt, ki_le, ki_eq, kcmp_eq, kcmp_lt, kcmp_le, kcmp_gt, kcmp_ge, Option.bind_some, Option.map_some, kbool0, kbool1, if_pos, if_neg, if_true, if_false, Int.neg_neg, Int.sub_zero, Int.add_zero, Int.zero_add, true_and, and_true, false_and, and_false, false_or, or_false, true_or, or_true, ne_eq, not_false_eq_true, not_true_eq_false]
  · rw [w2, if_neg (by decide), w1, if_neg (by omega)]; exact h1
  · rw [w2, if_pos ⟨rfl, rfl⟩]
  · rw [w2, if_neg (by decide), w1, if_neg (by omega)]; exact h3
  · rw [w2, if_neg (by omega), w1]
    unfold stf
    by_cases e : x = c
    · rw [if_pos e, if_pos ⟨rfl, by omega⟩]
    · rw [if_neg e, if_neg (by omega)]
      exact h4 x x1 (by omega)
  · rw [w2, if_neg (by omega), w1, if_neg (by omega)]
    exact h5 x x1 x2
theorem X12_put1 {Y : jY} {ω : jM} (hM : kM Y ω) {a c d v : Int} {f g : Int → Int} (h : scM ω a c d f g) (d0 : 0 ≤ d) (d4 : d < 4) (e5 : gi ω 95 5 = v) (v1 : -1000 ≤ v) (v2 : v ≤ 1000) : ∃ ν, (∀ z p, b_X12_reads_197 Y 95 z p ω = b_X12_reads_323 Y 95 z p ν) ∧ frR ω ν ∧ scM ν a c (d + 1) f (stf g d v) := by
  obtain ⟨h1, h2, h3, h4, h5⟩ := h
  have g8 := kM.g9 hM
  rw [h3] at g8
  have g5 := kM.g5 hM
  rw [e5] at g5
  have F1 : kF 95 99 ω (jw ω 98 d.toNat (.int (ki v))) := kF_I ((kM.a98 hM).2.2.2 _ (by omega)) (by omega) (by omega)
  have w1 := fun a x => gi_jw (μ := ω) (o := 98) (k := d.toNat) (v := v) a x (by omega) (by omega)
  have d1 : ∀ i, i ≠ 98 → jw ω 98 d.toNat (.int (ki v)) i = ω i := fun i hi => jw_cell hi
  have hM1 := hM.to F1
  generalize hω1 : jw ω 98 d.toNat (.int (ki v)) = ω1 at *
  have g8' := kM.g9 hM1
  rw [w1, if_neg (by omega), h3] at g8'
  have F2 : kF 95 99 ω1 (jw ω1 95 9 (.int (ki (d + 1)))) := kF_I (kM.i9 hM1) (by omega) (by omega)
  have w2 := fun a x => gi_jw (μ := ω1) (o := 95) (k := 9) (v := d + 1) a x (by omega) (by omega)
  have d2 : ∀ i, i ≠ 95 → jw ω1 95 9 (.int (ki (d + 1))) i = ω1 i := fun i hi => jw_cell hi
  have d3 : ∀ j, j ≠ 9 → jw ω1 95 9 (.int (ki (d + 1))) 95 j = ω1 95 j := fun j hj => jw_slot hj
  generalize hω2 : jw ω1 95 9 (.int (ki (d + 1))) = ω2 at *
  refine ⟨ω2, fun z p => ?_, ⟨F1.trans F2, by rw [d2 96 (by omega), d1 96 (by omega)], fun j _ _ _ _ j9 => by rw [d3 j j9, d1 95 (by omega)]⟩, ?_, ?_, ?_, fun x x1 x2 => ?_, fun x x1 x2 => ?_⟩
  · clear w1 w2 d1 d2 d3
    simp (disch := omega) only [b_X12_reads_197, kM.o7 hM, g8, g5, kasI (kM.a98 hM), hω1, g8', kM.p hM, hω2, ki_0, ki_1, ki_2, ki_3, ki_4, ki_5, ki_6, ki_7, ki_8, ki_9, ki_10, ki_11, ki_12, ki_13, ki_18, ki_20, ki_24, ki_32, ki_36, ki_45, ki_47, ki_48, ki_50, ki_57, ki_60, ki_63, ki_99, ki_100, ki_101, ki_120, ki_255, ki_468, ki_1000, ki_1024, ki_13849, ki_25173, ki_65535, ki_65536, ki_100000, ki_100001, ki_2147483647, ki_2147483648, kl_0, kl_1, kl_2, kl_9223372036854775808, ki_add, ki_sub, ki_mul, ki_neg, kl_add, kl_sub, kl_mul, kl_neg, ki_i2l, kl_l2i, ki_lt, ki_le, ki_eq, kcmp_eq, kcmp_lt, kcmp_le, kcmp_gt, kcmp_ge, Option.bind_some, Option.map_some, kbool0, kbool1, if_pos, if_neg, if_true, if_false, Int.neg_neg, Int.sub_zero, Int.add_zero, Int.zero_add, true_and, and_true, false_and, and_false, false_or, or_false, true_or, or_true, ne_eq, not_false_eq_true, not_true_eq_false]
  · rw [w2, if_neg (by decide), w1, if_neg (by omega)]; exact h1
  · rw [w2, if_neg (by decide), w1, if_neg (by omega)]; exact h2
  · rw [w2, if_pos ⟨rfl, rfl⟩]
  · rw [w2, if_neg (by omega), w1, if_neg (by omega)]
    exact h4 x x1 x2
  · rw [w2, if_neg (by omega), w1]
    unfold stf
    by_cases e : x = d
    · rw [if_pos e, if_pos ⟨rfl, by omega⟩]
    · rw [if_neg e, if_neg (by omega)]
      exact h5 x x1 (by omega)
set_option maxHeartbeats 1000000 in
theorem X12_num0 {Y : jY} {ω : jM} (hM : kM Y ω) {z a b c d v : Int} {f g : Int → Int} (h : scM ω a c d f g) (w : scW z 0 c d f g) (e4 : gi ω 95 4 = b) (b0 : 0 ≤ b) (b6 : b ≤ 60) (e5 : gi ω 95 5 = v) (v1 : -1000 ≤ v) (v2 : v ≤ 1000) : ∃ ν, frR ω ν ∧ (rF z c f v = 0 → b_X12_reads_48 Y 95 (ki z) (ki 0) (ki 1) ω = b_X12_reads_323 Y 95 (ki z) (ki 0) ν ∧ scM ν a (c + 1) d (stf f c v) g) ∧ (rF z c f v ≠ 0 → b_X12_reads_48 Y 95 (ki z) (ki 0) (ki 1) ω = some (.inr (ki (-1000 * rF z c f v - b), ν))) := by
  obtain ⟨⟨hz, hp, c0, c1, d0, w1, w2⟩, w3, w4⟩ := w
  have g5 := kM.g5 hM
  rw [e5] at g5
  have g8 := kM.g8 hM
  rw [h.2.1] at g8
  by_cases t : v < -6 ∨ 6 < v
  · have r : rF z c f v = 2 := if_pos t
    rw [r]
    refine ⟨ω, frR.refl, fun e => by omega, fun _ => ?_⟩
    have W := X12_wrong hM (k := 2) e4 b0 b6 (by omega) (by omega)
    clear r w3 w4 h
    simp (disch := omega) only [b_X12_reads_48, b_X12_reads_256, X12_in, g5, krcv hM.y, W, ki_0, ki_1, ki_2, ki_3, ki_4, ki_5, ki_6, ki_7, ki_8, ki_9, ki_10, ki_11, ki_12, ki_13, ki_18, ki_20, ki_24, ki_32, ki_36, ki_45, ki_47, ki_48, ki_50, ki_57, ki_60, ki_63, ki_99, ki_100, ki_101, ki_120, ki_255, ki_468, ki_1000, ki_1024, ki_13849, ki_25173, ki_65535, ki_65536, ki_100000, ki_100001, ki_2147483647, ki_2147483648, kl_0, kl_1, kl_2, kl_9223372036854775808, ki_add, ki_sub, ki_mul, ki_neg, kl_add, kl_sub, kl_mul, kl_neg, ki_i2l, kl_l2i, ki_lt, ki_le, ki_eq, kcmp_eq, kcmp_lt, kcmp_le, kcmp_gt, kcmp_ge, Option.bind_some, Option.map_some, kbool0, kbool1, if_pos, if_neg, if_true, if_false, Int.neg_neg, Int.sub_zero, Int.add_zero, Int.zero_add, true_and, and_true, false_and, and_false, false_or, or_false, true_or, or_true, ne_eq, not_false_eq_true, not_true_eq_false]
  · by_cases s : 5 - z ≤ c
    · have r : rF z c f v = 3 := by
        unfold rF
        rw [if_neg t, if_pos s]
      rw [r]
      refine ⟨ω, frR.refl, fun e => by omega, fun _ => ?_⟩
      have W := X12_wrong hM (k := 3) e4 b0 b6 (by omega) (by omega)
      clear r w3 w4 h
      rcases hz with rfl | rfl
      · simp (disch := omega) only [b_X12_reads_48, b_X12_reads_256, X12_in, g5, g8, krcv hM.y, W, ki_0, ki_1, ki_2, ki_3, ki_4, ki_5, ki_6, ki_7, ki_8, ki_9, ki_10, ki_11, ki_12, ki_13, ki_18, ki_20, ki_24, ki_32, ki_36, ki_45, ki_47, ki_48, ki_50, ki_57, ki_60, ki_63, ki_99, ki_100, ki_101, ki_120, ki_255, ki_468, ki_1000, ki_1024, ki_13849, ki_25173, ki_65535, ki_65536, ki_100000, ki_100001, ki_2147483647, ki_2147483648, kl_0, kl_1, kl_2, kl_9223372036854775808, ki_add, ki_sub, ki_mul, ki_neg, kl_add, kl_sub, kl_mul, kl_neg, ki_i2l, kl_l2i, ki_lt, ki_le, ki_eq, kcmp_eq, kcmp_lt, kcmp_le, kcmp_gt, kcmp_ge, Option.bind_some, Option.map_some, kbool0, kbool1, if_pos, if_neg, if_true, if_false, Int.neg_neg, Int.sub_zero, Int.add_zero, Int.zero_add, true_and, and_true, false_and, and_false, false_or, or_false, true_or, or_true, ne_eq, not_false_eq_true, not_true_eq_false]
      · simp (disch := omega) only [b_X12_reads_48, b_X12_reads_256, X12_in, g5, g8, krcv hM.y, W, ki_0, ki_1, ki_2, ki_3, ki_4, ki_5, ki_6, ki_7, ki_8, ki_9, ki_10, ki_11, ki_12, ki_13, ki_18, ki_20, ki_24, ki_32, ki_36, ki_45, ki_47, ki_48, ki_50, ki_57, ki_60, ki_63, ki_99, ki_100, ki_101, ki_120, ki_255, ki_468, ki_1000, ki_1024, ki_13849, ki_25173, ki_65535, ki_65536, ki_100000, ki_100001, ki_2147483647, ki_2147483648, kl_0, kl_1, kl_2, kl_9223372036854775808, ki_add, ki_sub, ki_mul, ki_neg, kl_add, kl_sub, kl_mul, kl_neg, ki_i2l, kl_l2i, ki_lt, ki_le, ki_eq, kcmp_eq, kcmp_lt, kcmp_le, kcmp_gt, kcmp_ge, Option.bind_some, Option.map_some, kbool0, kbool1, if_pos, if_neg, if_true, if_false, Int.neg_neg, Int.sub_zero, Int.add_zero, Int.zero_add, true_and, and_true, false_and, and_false, false_or, or_false, true_or, or_true, ne_eq, not_false_eq_true, not_true_eq_false]
    · by_cases u : z = 1 ∧ 0 < c ∧ v ≤ f (c - 1)
      · have r : rF z c f v = 4 := by
          unfold rF
          rw [if_neg t, if_neg s, if_pos u]
        rw [r]
        refine ⟨ω, frR.refl, fun e => by omega, fun _ => ?_⟩
        have W := X12_wrong hM (k := 4) e4 b0 b6 (by omega) (by omega)
        obtain ⟨rfl, u2, u3⟩ := u
        have x := kaI (kM.a97 hM) (x := c - 1) (by omega) (by omega)
        rw [h.2.2.2.1 (c - 1) (by omega) (by omega)] at x
        have bf := w3 (c - 1) (by omega) (by omega)
        clear r w3 w4 h
        generalize f (c - 1) = y at *
        simp (disch := omega) only [b_X12_reads_48, b_X12_reads_256, X12_in, g5, g8, kM.o6 hM, x, krcv hM.y, W, ki_0, ki_1, ki_2, ki_3, ki_4, ki_5, ki_6, ki_7, ki_8, ki_9, ki_10, ki_11, ki_12, ki_13, ki_18, ki_20, ki_24, ki_32, ki_36, ki_45, ki_47, ki_48, ki_50, ki_57, ki_60, ki_63, ki_99, ki_100, ki_101, ki_120, ki_255, ki_468, ki_1000, ki_1024, ki_13849, ki_25173, ki_65535, ki_65536, ki_100000, ki_100001, ki_2147483647, ki_2147483648, kl_0, kl_1, kl_2, kl_9223372036854775808, ki_add, ki_sub, ki_mul, ki_neg, kl_add, kl_sub, kl_mul, kl_neg, ki_i2l, kl_l2i, ki_lt, ki_le, ki_eq, kcmp_eq, kcmp_lt, kcmp_le, kcmp_gt, kcmp_ge, Option.bind_some, Option.map_some, kbool0, kbool1, if_pos, if_neg, if_true, if_false, Int.neg_neg, Int.sub_zero, Int.add_zero, Int.zero_add, true_and, and_true, false_and, and_false, false_or, or_false, true_or, or_true, ne_eq, not_false_eq_true, not_true_eq_false]
      · have r : rF z c f v = 0 := by
          unfold rF
          rw [if_neg t, if_neg s, if_neg u]
        rw [r]
        obtain ⟨ν, p1, p2, p3⟩ := X12_put0 hM h c0 (by omega) e5 v1 v2
        refine ⟨ν, p2, fun _ => ⟨?_, p3⟩, fun e => absurd rfl e⟩
        rcases hz with rfl | rfl
        · clear r w3 w4 h p3 u
          simp (disch := omega) only [b_X12_reads_48, b_X12_reads_256, X12_in, g5, g8, p1, ki_0, ki_1, ki_2, ki_3, ki_4, ki_5, ki_6, ki_7, ki_8, ki_9, ki_10, ki_11, ki_12, ki_13, ki_18, ki_20, ki_24, ki_32, ki_36, ki_45, ki_47, ki_48, ki_50, ki_57, ki_60, ki_63, ki_99, ki_100, ki_101, ki_120, ki_255, ki_468, ki_1000, ki_1024, ki_13849, ki_25173, ki_65535, ki_65536, ki_100000, ki_100001, ki_2147483647, ki_2147483648, kl_0, kl_1, kl_2, kl_9223372036854775808, ki_add, ki_sub, ki_mul, ki_neg, kl_add, kl_sub, kl_mul, kl_neg, ki_i2l, kl_l2i, ki_lt, ki_le, ki_eq, kcmp_eq, kcmp_lt, kcmp_le, kcmp_gt, kcmp_ge, Option.bind_some, Option.map_some, kbool0, kbool1, if_pos, if_neg, if_true, if_false, Int.neg_neg, Int.sub_zero, Int.add_zero, Int.zero_add, true_and, and_true, false_and, and_false, false_or, or_false, true_or, or_true, ne_eq, not_false_eq_true, not_true_eq_false]
        · by_cases u2 : 0 < c
          · have x := kaI (kM.a97 hM) (x := c - 1) (by omega) (by omega)
            rw [h.2.2.2.1 (c - 1) (by omega) (by omega)] at x
            have bf := w3 (c - 1) (by omega) (by omega)
            clear r w3 w4 h p3
            generalize f (c - 1) = y at *
            simp (disch := omega) only [b_X12_reads_48, b_X12_reads_256, X12_in, g5, g8, kM.o6 hM, x, p1, ki_0, ki_1, ki_2, ki_3, ki_4, ki_5, ki_6, ki_7, ki_8, ki_9, ki_10, ki_11, ki_12, ki_13, ki_18, ki_20, ki_24, ki_32, ki_36, ki_45, ki_47, ki_48, ki_50, ki_57, ki_60, ki_63, ki_99, ki_100, ki_101, ki_120, ki_255, ki_468, ki_1000, ki_1024, ki_13849, ki_25173, ki_65535, ki_65536, ki_100000, ki_100001, ki_2147483647, ki_2147483648, kl_0, kl_1, kl_2, kl_9223372036854775808, ki_add, ki_sub, ki_mul, ki_neg, kl_add, kl_sub, kl_mul, kl_neg, ki_i2l, kl_l2i, ki_lt, ki_le, ki_eq, kcmp_eq, kcmp_lt, kcmp_le, kcmp_gt, kcmp_ge, Option.bind_some, Option.map_some, kbool0, kbool1, if_pos, if_neg, if_true, if_false, Int.neg_neg, Int.sub_zero, Int.add_zero, Int.zero_add, true_and, and_true, false_and, and_false, false_or, or_false, true_or, or_true, ne_eq, not_false_eq_true, not_true_eq_false]
          · clear r w3 w4 h p3 u
            simp (disch := omega) only [b_X12_reads_48, b_X12_reads_256, X12_in, g5, g8, p1, ki_0, ki_1, ki_2, ki_3, ki_4, ki_5, ki_6, ki_7, ki_8, ki_9, ki_10, ki_11, ki_12, ki_13, ki_18, ki_20, ki_24, ki_32, ki_36, ki_45, ki_47, ki_48, ki_50, ki_57, ki_60, ki_63, ki_99, ki_100, ki_101, ki_120, ki_255, ki_468, ki_1000, ki_1024, ki_13849, ki_25173, ki_65535, ki_65536, ki_100000, ki_100001, ki_2147483647, ki_2147483648, kl_0, kl_1, kl_2, kl_9223372036854775808, ki_add, ki_sub, ki_mul, ki_neg, kl_add, kl_sub, kl_mul, kl_neg, ki_i2l, kl_l2i, ki_lt, ki_le, ki_eq, kcmp_eq, kcmp_lt, kcmp_le, kcmp_gt, kcmp_ge, Option.bind_some, Option.map_some, kbool0, kbool1, if_pos, if_neg, if_true, if_false, Int.neg_neg, Int.sub_zero, Int.add_zero, Int.zero_add, true_and, and_true, false_and, and_false, false_or, or_false, true_or, or_true, ne_eq, not_false_eq_true, not_true_eq_false]
set_option maxHeartbeats 2000000 in
theorem X12_num1 {Y : jY} {ω : jM} (hM : kM Y ω) {z a b c d v : Int} {f g : Int → Int} (h : scM ω a c d f g) (w : scW z 1 c d f g) (e4 : gi ω 95 4 = b) (b0 : 0 ≤ b) (b6 : b ≤ 60) (e5 : gi ω 95 5 = v) (v1 : -1000 ≤ v) (v2 : v ≤ 1000) : ∃ ν, frR ω ν ∧ (rS z c d f g v = 0 → b_X12_reads_48 Y 95 (ki z) (ki 1) (ki 1) ω = b_X12_reads_323 Y 95 (ki z) (ki 1) ν ∧ scM ν a c (d + 1) f (stf g d v)) ∧ (rS z c d f g v ≠ 0 → b_X12_reads_48 Y 95 (ki z) (ki 1) (ki 1) ω = some (.inr (ki (-1000 * rS z c d f g v - b), ν))) := by
  obtain ⟨⟨hz, hp, c0, c1, d0, w1, w2⟩, w3, w4⟩ := w
  have w2 := w2 rfl
  have g5 := kM.g5 hM
  rw [e5] at g5
  have g8 := kM.g8 hM
  rw [h.2.1] at g8
  have g9 := kM.g9 hM
  rw [h.2.2.1] at g9
  by_cases t : (z = 0 ∧ (v < 1 ∨ 36 < v)) ∨ (z = 1 ∧ (v < -6 ∨ 6 < v))
  · have r : rS z c d f g v = 2 := if_pos t
    rw [r]
    refine ⟨ω, frR.refl, fun e => by omega, fun _ => ?_⟩
    have W := X12_wrong hM (k := 2) e4 b0 b6 (by omega) (by omega)
    clear r w3 w4 h
    rcases hz with rfl | rfl
    · simp (disch := omega) only [b_X12_reads_48, b_X12_reads_76, b_X12_reads_87, X12_in, g5, krcv hM.y, W, ki_0, ki_1, ki_2, ki_3, ki_4, ki_5, ki_6, ki_7, ki_8, ki_9, ki_10, ki_11, ki_12, ki_13, ki_18, ki_20, ki_24, ki_32, ki_36, ki_45, ki_47, ki_48, ki_50, ki_57, ki_60, ki_63, ki_99, ki_100, ki_101, ki_120, ki_255, ki_468, ki_1000, ki_1024, ki_13849, ki_25173, ki_65535, ki_65536, ki_100000, ki_100001, ki_2147483647, ki_2147483648, kl_0, kl_1, kl_2, kl_9223372036854775808, ki_add, ki_sub, ki_mul, ki_neg, kl_add, kl_sub, kl_mul, kl_neg, ki_i2l, kl_l2i, ki_lt, ki_le, ki_eq, kcmp_eq, kcmp_lt, kcmp_le, kcmp_gt, kcmp_ge, Option.bind_some, Option.map_some, kbool0, kbool1, if_pos, if_neg, if_true, if_false, Int.neg_neg, Int.sub_zero, Int.add_zero, Int.zero_add, true_and, and_true, false_and, and_false, false_or, or_false, true_or, or_true, ne_eq, not_false_eq_true, not_true_eq_false]
    · simp (disch := omega) only [b_X12_reads_48, b_X12_reads_76, b_X12_reads_87, X12_in, g5, krcv hM.y, W, ki_0, ki_1, ki_2, ki_3, ki_4, ki_5, ki_6, ki_7, ki_8, ki_9, ki_10, ki_11, ki_12, ki_13, ki_18, ki_20, ki_24, ki_32, ki_36, ki_45, ki_47, ki_48, ki_50, ki_57, ki_60, ki_63, ki_99, ki_100, ki_101, ki_120, ki_255, ki_468, ki_1000, ki_1024, ki_13849, ki_25173, ki_65535, ki_65536, ki_100000, ki_100001, ki_2147483647, ki_2147483648, kl_0, kl_1, kl_2, kl_9223372036854775808, ki_add, ki_sub, ki_mul, ki_neg, kl_add, kl_sub, kl_mul, kl_neg, ki_i2l, kl_l2i, ki_lt, ki_le, ki_eq, kcmp_eq, kcmp_lt, kcmp_le, kcmp_gt, kcmp_ge, Option.bind_some, Option.map_some, kbool0, kbool1, if_pos, if_neg, if_true, if_false, Int.neg_neg, Int.sub_zero, Int.add_zero, Int.zero_add, true_and, and_true, false_and, and_false, false_or, or_false, true_or, or_true, ne_eq, not_false_eq_true, not_true_eq_false]
  · by_cases s : c - 1 ≤ d
    · have r : rS z c d f g v = 3 := by
        unfold rS
        rw [if_neg t, if_pos s]
      rw [r]
      refine ⟨ω, frR.refl, fun e => by omega, fun _ => ?_⟩
      have W := X12_wrong hM (k := 3) e4 b0 b6 (by omega) (by omega)
      clear r w3 w4 h
      rcases hz with rfl | rfl
      · simp (disch := omega) only [b_X12_reads_48, b_X12_reads_76, b_X12_reads_87, X12_in, g5, g8, g9, krcv hM.y, W, ki_0, ki_1, ki_2, ki_3, ki_4, ki_5, ki_6, ki_7, ki_8, ki_9, ki_10, ki_11, ki_12, ki_13, ki_18, ki_20, ki_24, ki_32, ki_36, ki_45, ki_47, ki_48, ki_50, ki_57, ki_60, ki_63, ki_99, ki_100, ki_101, ki_120, ki_255, ki_468, ki_1000, ki_1024, ki_13849, ki_25173, ki_65535, ki_65536, ki_100000, ki_100001, ki_2147483647, ki_2147483648, kl_0, kl_1, kl_2, kl_9223372036854775808, ki_add, ki_sub, ki_mul, ki_neg, kl_add, kl_sub, kl_mul, kl_neg, ki_i2l, kl_l2i, ki_lt, ki_le, ki_eq, kcmp_eq, kcmp_lt, kcmp_le, kcmp_gt, kcmp_ge, Option.bind_some, Option.map_some, kbool0, kbool1, if_pos, if_neg, if_true, if_false, Int.neg_neg, Int.sub_zero, Int.add_zero, Int.zero_add, true_and, and_true, false_and, and_false, false_or, or_false, true_or, or_true, ne_eq, not_false_eq_true, not_true_eq_false]
      · simp (disch := omega) only [b_X12_reads_48, b_X12_reads_76, b_X12_reads_87, X12_in, g5, g8, g9, krcv hM.y, W, ki_0, ki_1, ki_2, ki_3, ki_4, ki_5, ki_6, ki_7, ki_8, ki_9, ki_10, ki_11, ki_12, ki_13, ki_18, ki_20, ki_24, ki_32, ki_36, ki_45, ki_47, ki_48, ki_50, ki_57, ki_60, ki_63, ki_99, ki_100, ki_101, ki_120, ki_255, ki_468, ki_1000, ki_1024, ki_13849, ki_25173, ki_65535, ki_65536, ki_100000, ki_100001, ki_2147483647, ki_2147483648, kl_0, kl_1, kl_2, kl_9223372036854775808, ki_add, ki_sub, ki_mul, ki_neg, kl_add, kl_sub, kl_mul, kl_neg, ki_i2l, kl_l2i, ki_lt, ki_le, ki_eq, kcmp_eq, kcmp_lt, kcmp_le, kcmp_gt, kcmp_ge, Option.bind_some, Option.map_some, kbool0, kbool1, if_pos, if_neg, if_true, if_false, Int.neg_neg, Int.sub_zero, Int.add_zero, Int.zero_add, true_and, and_true, false_and, and_false, false_or, or_false, true_or, or_true, ne_eq, not_false_eq_true, not_true_eq_false]
    · have a0 := kaI (kM.a97 hM) (x := d) (by omega) (by omega)
      rw [h.2.2.2.1 d (by omega) (by omega)] at a0
      have a1 := kaI (kM.a97 hM) (x := d + 1) (by omega) (by omega)
      rw [h.2.2.2.1 (d + 1) (by omega) (by omega)] at a1
      have y0 := w3 d (by omega) (by omega)
      have y1 := w3 (d + 1) (by omega) (by omega)
      by_cases u : z = 1 ∧ 0 < d ∧ v ≤ g (d - 1)
      · have r : rS z c d f g v = 4 := by
          unfold rS
          rw [if_neg t, if_neg s, if_pos u]
        rw [r]
        refine ⟨ω, frR.refl, fun e => by omega, fun _ => ?_⟩
        have W := X12_wrong hM (k := 4) e4 b0 b6 (by omega) (by omega)
        obtain ⟨rfl, u2, u3⟩ := u
        have x := kaI (kM.a98 hM) (x := d - 1) (by omega) (by omega)
        rw [h.2.2.2.2 (d - 1) (by omega) (by omega)] at x
        have bf := (w4 (d - 1) (by omega) (by omega)).1
        clear r w3 w4 h
        generalize g (d - 1) = y at *
        simp (disch := omega) only [b_X12_reads_48, b_X12_reads_76, b_X12_reads_87, X12_in, g5, g8, g9, kM.o7 hM, x, krcv hM.y, W, ki_0, ki_1, ki_2, ki_3, ki_4, ki_5, ki_6, ki_7, ki_8, ki_9, ki_10, ki_11, ki_12, ki_13, ki_18, ki_20, ki_24, ki_32, ki_36, ki_45, ki_47, ki_48, ki_50, ki_57, ki_60, ki_63, ki_99, ki_100, ki_101, ki_120, ki_255, ki_468, ki_1000, ki_1024, ki_13849, ki_25173, ki_65535, ki_65536, ki_100000, ki_100001, ki_2147483647, ki_2147483648, kl_0, kl_1, kl_2, kl_9223372036854775808, ki_add, ki_sub, ki_mul, ki_neg, kl_add, kl_sub, kl_mul, kl_neg, ki_i2l, kl_l2i, ki_lt, ki_le, ki_eq, kcmp_eq, kcmp_lt, kcmp_le, kcmp_gt, kcmp_ge, Option.bind_some, Option.map_some, kbool0, kbool1, if_pos, if_neg, if_true, if_false, Int.neg_neg, Int.sub_zero, Int.add_zero, Int.zero_add, true_and, and_true, false_and, and_false, false_or, or_false, true_or, or_true, ne_eq, not_false_eq_true, not_true_eq_false]
      · by_cases k : z = 1 ∧ (v ≤ f d ∨ f (d + 1) ≤ v)
        · have r : rS z c d f g v = 5 := by
            unfold rS
            rw [if_neg t, if_neg s, if_neg u, if_pos k]
          rw [r]
          refine ⟨ω, frR.refl, fun e => by omega, fun _ => ?_⟩
          have W := X12_wrong hM (k := 5) e4 b0 b6 (by omega) (by omega)
          obtain ⟨rfl, k2⟩ := k
          by_cases u2 : 0 < d
          · have x := kaI (kM.a98 hM) (x := d - 1) (by omega) (by omega)
            rw [h.2.2.2.2 (d - 1) (by omega) (by omega)] at x
            have bf := (w4 (d - 1) (by omega) (by omega)).1
            clear r w3 w4 h
            generalize g (d - 1) = y at *
            generalize f d = k0 at *
            generalize f (d + 1) = k1 at *
            by_cases u3 : v ≤ k0
            · simp (disch := omega) only [b_X12_reads_48, b_X12_reads_76, b_X12_reads_87, b_X12_reads_153, b_X12_reads_191, X12_in, g5, g8, g9, kM.o6 hM, kM.o7 hM, x, a0, krcv hM.y, W, ki_0, ki_1, ki_2, ki_3, ki_4, ki_5, ki_6, ki_7, ki_8, ki_9, ki_10, ki_11, ki_12, ki_13, ki_18, ki_20, ki_24, ki_32, ki_36, ki_45, ki_47, ki_48, ki_50, ki_57, ki_60, ki_63, ki_99, ki_100, ki_101, ki_120, ki_255, ki_468, ki_1000, ki_1024, ki_13849, ki_25173, ki_65535, ki_65536, ki_100000, ki_100001, ki_2147483647, ki_2147483648, kl_0, kl_1, kl_2, kl_9223372036854775808, ki_add, ki_sub, ki_mul, ki_neg, kl_add, kl_sub, kl_mul, kl_neg, ki_i2l, kl_l2i, ki_lt, ki_le, ki_eq, kcmp_eq, kcmp_lt, kcmp_le, kcmp_gt, kcmp_ge, Option.bind_some, Option.map_some, kbool0, kbool1, if_pos, if_neg, if_true, if_false, Int.neg_neg, Int.sub_zero, Int.add_zero, Int.zero_add, true_and, and_true, false_and, and_false, false_or, or_false, true_or, or_true, ne_eq, not_false_eq_true, not_true_eq_false]
            · simp (disch := omega) only [b_X12_reads_48, b_X12_reads_76, b_X12_reads_87, b_X12_reads_153, b_X12_reads_191, X12_in, g5, g8, g9, kM.o6 hM, kM.o7 hM, x, a0, a1, krcv hM.y, W, ki_0, ki_1, ki_2, ki_3, ki_4, ki_5, ki_6, ki_7, ki_8, ki_9, ki_10, ki_11, ki_12, ki_13, ki_18, ki_20, ki_24, ki_32, ki_36, ki_45, ki_47, ki_48, ki_50, ki_57, ki_60, ki_63, ki_99, ki_100, ki_101, ki_120, ki_255, ki_468, ki_1000, ki_1024, ki_13849, ki_25173, ki_65535, ki_65536, ki_100000, ki_100001, ki_2147483647, ki_2147483648, kl_0, kl_1, kl_2, kl_9223372036854775808, ki_add, ki_sub, ki_mul, ki_neg, kl_add, kl_sub, kl_mul, kl_neg, ki_i2l, kl_l2i, ki_lt, ki_le, ki_eq, kcmp_eq, kcmp_lt, kcmp_le, kcmp_gt, kcmp_ge, Option.bind_some, Option.map_some, kbool0, kbool1, if_pos, if_neg, if_true, if_false, Int.neg_neg, Int.sub_zero, Int.add_zero, Int.zero_add, true_and, and_true, false_and, and_false, false_or, or_false, true_or, or_true, ne_eq, not_false_eq_true, not_true_eq_false]
          · clear r w3 w4 h u
            generalize f d = k0 at *
            generalize f (d + 1) = k1 at *
            by_cases u3 : v ≤ k0
            · simp (disch := omega) only [b_X12_reads_48, b_X12_reads_76, b_X12_reads_87, b_X12_reads_153, b_X12_reads_191, X12_in, g5, g8, g9, kM.o6 hM, a0, krcv hM.y, W, ki_0, ki_1, ki_2, ki_3, ki_4, ki_5, ki_6, ki_7, ki_8, ki_9, ki_10, ki_11, ki_12, ki_13, ki_18, ki_20, ki_24, ki_32, ki_36, ki_45, ki_47, ki_48, ki_50, ki_57, ki_60, ki_63, ki_99, ki_100, ki_101, ki_120, ki_255, ki_468, ki_1000, ki_1024, ki_13849, ki_25173, ki_65535, ki_65536, ki_100000, ki_100001, ki_2147483647, ki_2147483648, kl_0, kl_1, kl_2, kl_9223372036854775808, ki_add, ki_sub, ki_mul, ki_neg, kl_add, kl_sub, kl_mul, kl_neg, ki_i2l, kl_l2i, ki_lt, ki_le, ki_eq, kcmp_eq, kcmp_lt, kcmp_le, kcmp_gt, kcmp_ge, Option.bind_some, Option.map_some, kbool0, kbool1, if_pos, if_neg, if_true, if_false, Int.neg_neg, Int.sub_zero, Int.add_zero, Int.zero_add, true_and, and_true, false_and, and_false, false_or, or_false, true_or, or_true, ne_eq, not_false_eq_true, not_true_eq_false]
            · simp (disch := omega) only [b_X12_reads_48, b_X12_reads_76, b_X12_reads_87, b_X12_reads_153, b_X12_reads_191, X12_in, g5, g8, g9, kM.o6 hM, a0, a1, krcv hM.y, W, ki_0, ki_1, ki_2, ki_3, ki_4, ki_5, ki_6, ki_7, ki_8, ki_9, ki_10, ki_11, ki_12, ki_13, ki_18, ki_20, ki_24, ki_32, ki_36, ki_45, ki_47, ki_48, ki_50, ki_57, ki_60, ki_63, ki_99, ki_100, ki_101, ki_120, ki_255, ki_468, ki_1000, ki_1024, ki_13849, ki_25173, ki_65535, ki_65536, ki_100000, ki_100001, ki_2147483647, ki_2147483648, kl_0, kl_1, kl_2, kl_9223372036854775808, ki_add, ki_sub, ki_mul, ki_neg, kl_add, kl_sub, kl_mul, kl_neg, ki_i2l, kl_l2i, ki_lt, ki_le, ki_eq, kcmp_eq, kcmp_lt, kcmp_le, kcmp_gt, kcmp_ge, Option.bind_some, Option.map_some, kbool0, kbool1, if_pos, if_neg, if_true, if_false, Int.neg_neg, Int.sub_zero, Int.add_zero, Int.zero_add, true_and, and_true, false_and, and_false, false_or, or_false, true_or, or_true, ne_eq, not_false_eq_true, not_true_eq_false]
        · have r : rS z c d f g v = 0 := by
            unfold rS
            rw [if_neg t, if_neg s, if_neg u, if_neg k]
          rw [r]
          obtain ⟨ν, p1, p2, p3⟩ := X12_put1 hM h d0 (by omega) e5 v1 v2
          refine ⟨ν, p2, fun _ => ⟨?_, p3⟩, fun e => absurd rfl e⟩
          rcases hz with rfl | rfl
          · clear r w3 w4 h p3 u k a0 a1 y0 y1
            simp (disch := omega) only [b_X12_reads_48, b_X12_reads_76, b_X12_reads_87, b_X12_reads_153, b_X12_reads_191, X12_in, g5, g8, g9, p1, ki_0, ki_1, ki_2, ki_3, ki_4, ki_5, ki_6, ki_7, ki_8, ki_9, ki_10, ki_11, ki_12, ki_13, ki_18, ki_20, ki_24, ki_32, ki_36, ki_45, ki_47, ki_48, ki_50, ki_57, ki_60, ki_63, ki_99, ki_100, ki_101, ki_120, ki_255, ki_468, ki_1000, ki_1024, ki_13849, ki_25173, ki_65535, ki_65536, ki_100000, ki_100001, ki_2147483647, ki_2147483648, kl_0, kl_1, kl_2, kl_9223372036854775808, ki_add, ki_sub, ki_mul, ki_neg, kl_add, kl_sub, kl_mul, kl_neg, ki_i2l, kl_l2i, ki_lt, ki_le, ki_eq, kcmp_eq, kcmp_lt, kcmp_le, kcmp_gt, kcmp_ge, Option.bind_some, Option.map_some, kbool0, kbool1, if_pos, if_neg, if_true, if_false, Int.neg_neg, Int.sub_zero, Int.add_zero, Int.zero_add, true_and, and_true, false_and, and_false, false_or, or_false, true_or, or_true, ne_eq, not_false_eq_true, not_true_eq_false]
          · by_cases u2 : 0 < d
            · have x := kaI (kM.a98 hM) (x := d - 1) (by omega) (by omega)
              rw [h.2.2.2.2 (d - 1) (by omega) (by omega)] at x
              have bf := (w4 (d - 1) (by omega) (by omega)).1
              clear r w3 w4 h p3
              generalize g (d - 1) = y at *
              generalize f d = k0 at *
              generalize f (d + 1) = k1 at *
              simp (disch := omega) only [b_X12_reads_48, b_X12_reads_76, b_X12_reads_87, b_X12_reads_153, b_X12_reads_191, X12_in, g5, g8, g9, kM.o6 hM, kM.o7 hM, x, a0, a1, p1, ki_0, ki_1, ki_2, ki_3, ki_4, ki_5, ki_6, ki_7, ki_8, ki_9, ki_10, ki_11, ki_12, ki_13, ki_18, ki_20, ki_24, ki_32, ki_36, ki_45, ki_47, ki_48, ki_50, ki_57, ki_60, ki_63, ki_99, ki_100, ki_101, ki_120, ki_255, ki_468, ki_1000, ki_1024, ki_13849, ki_25173, ki_65535, ki_65536, ki_100000, ki_100001, ki_2147483647, ki_2147483648, kl_0, kl_1, kl_2, kl_9223372036854775808, ki_add, ki_sub, ki_mul, ki_neg, kl_add, kl_sub, kl_mul, kl_neg, ki_i2l, kl_l2i, ki_lt, ki_le, ki_eq, kcmp_eq, kcmp_lt, kcmp_le, kcmp_gt, kcmp_ge, Option.bind_some, Option.map_some, kbool0, kbool1, if_pos, if_neg, if_true, if_false, Int.neg_neg, Int.sub_zero, Int.add_zero, Int.zero_add, true_and, and_true, false_and, and_false, false_or, or_false, true_or, or_true, ne_eq, not_false_eq_true, not_true_eq_false]
            · clear r w3 w4 h p3 u
              generalize f d = k0 at *
              generalize f (d + 1) = k1 at *
              simp (disch := omega) only [b_X12_reads_48, b_X12_reads_76, b_X12_reads_87, b_X12_reads_153, b_X12_reads_191, X12_in, g5, g8, g9, kM.o6 hM, a0, a1, p1, ki_0, ki_1, ki_2, ki_3, ki_4, ki_5, ki_6, ki_7, ki_8, ki_9, ki_10, ki_11, ki_12, ki_13, ki_18, ki_20, ki_24, ki_32, ki_36, ki_45, ki_47, ki_48, ki_50, ki_57, ki_60, ki_63, ki_99, ki_100, ki_101, ki_120, ki_255, ki_468, ki_1000, ki_1024, ki_13849, ki_25173, ki_65535, ki_65536, ki_100000, ki_100001, ki_2147483647, ki_2147483648, kl_0, kl_1, kl_2, kl_9223372036854775808, ki_add, ki_sub, ki_mul, ki_neg, kl_add, kl_sub, kl_mul, kl_neg, ki_i2l, kl_l2i, ki_lt, ki_le, ki_eq, kcmp_eq, kcmp_lt, kcmp_le, kcmp_gt, kcmp_ge, Option.bind_some, Option.map_some, kbool0, kbool1, if_pos, if_neg, if_true, if_false, Int.neg_neg, Int.sub_zero, Int.add_zero, Int.zero_add, true_and, and_true, false_and, and_false, false_or, or_false, true_or, or_true, ne_eq, not_false_eq_true, not_true_eq_false]
/-- the other kinds -/
theorem X12_rd1 {Y : jY} {ω : jM} {z p : Int} : b_X12_reads_17 Y 95 (ki z) (ki p) (ki 1) ω = b_X12_reads_48 Y 95 (ki z) (ki p) (ki 1) ω := by
  simp (disch := omega) only [b_X12_reads_17, ki_0, ki_1, ki_2, ki_3, ki_4, ki_5, ki_6, ki_7, ki_8, ki_9, ki_10, ki_11, ki_12, ki_13, ki_18, ki_20, ki_24, ki_32, ki_36, ki_45, ki_47, ki_48, ki_50, ki_57, ki_60, ki_63, ki_99, ki_100, ki_101, ki_120, ki_255, ki_468, ki_1000, ki_1024, ki_13849, ki_25173, ki_65535, ki_65536, ki_100000, ki_100001, ki_2147483647, ki_2147483648, kl_0, kl_1, kl_2, kl_9223372036854775808, ki_add, ki_sub, ki_mul, ki_neg, kl_add, kl_sub, kl_mul, kl_neg, ki_i2l, kl_l2i, ki_lt, ki_le, ki_eq, kcmp_eq, kcmp_lt, kcmp_le, kcmp_gt, kcmp_ge, Option.bind_some, Option.map_some, kbool0, kbool1, if_pos, if_neg, if_true, if_false, Int.neg_neg, Int.sub_zero, Int.add_zero, Int.zero_add, true_and, and_true, false_and, and_false, false_or, or_false, true_or, or_true, ne_eq, not_false_eq_true, not_true_eq_false]
theorem X12_rd3 {Y : jY} {ω : jM} (hM : kM Y ω) {z p b : Int} (e : gi ω 95 4 = b) (b0 : 0 ≤ b) (b6 : b ≤ 60) : b_X12_reads_17 Y 95 (ki z) (ki p) (ki 3) ω = some (.inr (ki (-1000 * 1 - b), ω)) := by
  have W := X12_wrong hM (k := 1) e b0 b6 (by omega) (by omega)
  generalize -1000 * 1 - b = r at *
  simp (disch := omega) only [b_X12_reads_17, b_X12_reads_42, krcv hM.y, W, ki_0, ki_1, ki_2, ki_3, ki_4, ki_5, ki_6, ki_7, ki_8, ki_9, ki_10, ki_11, ki_12, ki_13, ki_18, ki_20, ki_24, ki_32, ki_36, ki_45, ki_47, ki_48, ki_50, ki_57, ki_60, ki_63, ki_99, ki_100, ki_101, ki_120, ki_255, ki_468, ki_1000, ki_1024, ki_13849, ki_25173, ki_65535, ki_65536, ki_100000, ki_100001, ki_2147483647, ki_2147483648, kl_0, kl_1, kl_2, kl_9223372036854775808, ki_add, ki_sub, ki_mul, ki_neg, kl_add, kl_sub, kl_mul, kl_neg, ki_i2l, kl_l2i, ki_lt, ki_le, ki_eq, kcmp_eq, kcmp_lt, kcmp_le, kcmp_gt, kcmp_ge, Option.bind_some, Option.map_some, kbool0, kbool1, if_pos, if_neg, if_true, if_false, Int.neg_neg, Int.sub_zero, Int.add_zero, Int.zero_add, true_and, and_true, false_and, and_false, false_or, or_false, true_or, or_true, ne_eq, not_false_eq_true, not_true_eq_false]
theorem X12_rd2 {Y : jY} {ω : jM} (hM : kM Y ω) {z p b a c d : Int} {f g : Int → Int} (h : scM ω a c d f g) (hp : p = 0 ∨ p = 1) (c0 : 0 ≤ c) (c5 : c ≤ 5) (e : gi ω 95 4 = b) (b0 : 0 ≤ b) (b6 : b ≤ 60) : (p = 0 ∧ 0 < c → b_X12_reads_17 Y 95 (ki z) (ki p) (ki 2) ω = b_X12_reads_323 Y 95 (ki z) (ki 1) ω) ∧ (¬ (p = 0 ∧ 0 < c) → b_X12_reads_17 Y 95 (ki z) (ki p) (ki 2) ω = some (.inr (ki (-1000 * 1 - b), ω))) := by
  have W := X12_wrong hM (k := 1) e b0 b6 (by omega) (by omega)
  have g8 := kM.g8 hM
  rw [h.2.1] at g8
  clear h
  constructor
  · rintro ⟨rfl, k⟩
    clear W
    simp (disch := omega) only [b_X12_reads_17, b_X12_reads_48, g8, ki_0, ki_1, ki_2, ki_3, ki_4, ki_5, ki_6, ki_7, ki_8, ki_9, ki_10, ki_11, ki_12, ki_13, ki_18, ki_20, ki_24, ki_32, ki_36, ki_45, ki_47, ki_48, ki_50, ki_57, ki_60, ki_63, ki_99, ki_100, ki_101, ki_120, ki_255, ki_468, ki_1000, ki_1024, ki_13849, ki_25173, ki_65535, ki_65536, ki_100000, ki_100001, ki_2147483647, ki_2147483648, kl_0, kl_1, kl_2, kl_9223372036854775808, ki_add, ki_sub, ki_mul, ki_neg, kl_add, kl_sub, kl_mul, kl_neg, ki_i2l, kl_l2i, ki_lt, ki_le, ki_eq, kcmp_eq, kcmp_lt, kcmp_le, kcmp_gt, kcmp_ge, Option.bind_some, Option.map_some, kbool0, kbool1, if_pos, if_neg, if_true, if_false, Int.neg_neg, Int.sub_zero, Int.add_zero, Int.zero_add, true_and, and_true, false_and, and_false, false_or, or_false, true_or, or_true, ne_eq, not_false_eq_true, not_true_eq_false]
  · intro k
    generalize -1000 * 1 - b = r at *
    rcases hp with rfl | rfl
    · simp (disch := omega) only [b_X12_reads_17, b_X12_reads_42, g8, krcv hM.y, W, ki_0, ki_1, ki_2, ki_3, ki_4, ki_5, ki_6, ki_7, ki_8, ki_9, ki_10, ki_11, ki_12, ki_13, ki_18, ki_20, ki_24, ki_32, ki_36, ki_45, ki_47, ki_48, ki_50, ki_57, ki_60, ki_63, ki_99, ki_100, ki_101, ki_120, ki_255, ki_468, ki_1000, ki_1024, ki_13849, ki_25173, ki_65535, ki_65536, ki_100000, ki_100001, ki_2147483647, ki_2147483648, kl_0, kl_1, kl_2, kl_9223372036854775808, ki_add, ki_sub, ki_mul, ki_neg, kl_add, kl_sub, kl_mul, kl_neg, ki_i2l, kl_l2i, ki_lt, ki_le, ki_eq, kcmp_eq, kcmp_lt, kcmp_le, kcmp_gt, kcmp_ge, Option.bind_some, Option.map_some, kbool0, kbool1, if_pos, if_neg, if_true, if_false, Int.neg_neg, Int.sub_zero, Int.add_zero, Int.zero_add, true_and, and_true, false_and, and_false, false_or, or_false, true_or, or_true, ne_eq, not_false_eq_true, not_true_eq_false]
    · simp (disch := omega) only [b_X12_reads_17, b_X12_reads_42, krcv hM.y, W, ki_0, ki_1, ki_2, ki_3, ki_4, ki_5, ki_6, ki_7, ki_8, ki_9, ki_10, ki_11, ki_12, ki_13, ki_18, ki_20, ki_24, ki_32, ki_36, ki_45, ki_47, ki_48, ki_50, ki_57, ki_60, ki_63, ki_99, ki_100, ki_101, ki_120, ki_255, ki_468, ki_1000, ki_1024, ki_13849, ki_25173, ki_65535, ki_65536, ki_100000, ki_100001, ki_2147483647, ki_2147483648, kl_0, kl_1, kl_2, kl_9223372036854775808, ki_add, ki_sub, ki_mul, ki_neg, kl_add, kl_sub, kl_mul, kl_neg, ki_i2l, kl_l2i, ki_lt, ki_le, ki_eq, kcmp_eq, kcmp_lt, kcmp_le, kcmp_gt, kcmp_ge, Option.bind_some, Option.map_some, kbool0, kbool1, if_pos, if_neg, if_true, if_false, Int.neg_neg, Int.sub_zero, Int.add_zero, Int.zero_add, true_and, and_true, false_and, and_false, false_or, or_false, true_or, or_true, ne_eq, not_false_eq_true, not_true_eq_false]
theorem X12_rd0 {Y : jY} {ω : jM} (hM : kM Y ω) {z p b a c d : Int} {f g : Int → Int} (h : scM ω a c d f g) (w : scW z p c d f g) (e : gi ω 95 4 = b) (b0 : 0 ≤ b) (b6 : b ≤ 60) : b_X12_reads_17 Y 95 (ki z) (ki p) (ki 0) ω = some (.inr (ki (if p = 1 ∧ d = c - 1 then 0 else -1000 - b), ω)) := by
  obtain ⟨⟨hz, hp, c0, c1, d0, w1, w2⟩, w3, w4⟩ := w
  have W := X12_wrong hM (k := 1) e b0 b6 (by omega) (by omega)
  rw [show -1000 * 1 - b = -1000 - b by omega] at W
  have g8 := kM.g8 hM
  rw [h.2.1] at g8
  have g9 := kM.g9 hM
  rw [h.2.2.1] at g9
  clear h w3 w4
  generalize -1000 - b = r at *
  rcases hp with rfl | rfl
  · rw [if_neg (by omega)]
    simp (disch := omega) only [b_X12_reads_17, b_X12_reads_348, b_X12_reads_357, krcv hM.y, W, ki_0, ki_1, ki_2, ki_3, ki_4, ki_5, ki_6, ki_7, ki_8, ki_9, ki_10, ki_11, ki_12, ki_13, ki_18, ki_20, ki_24, ki_32, ki_36, ki_45, ki_47, ki_48, ki_50, ki_57, ki_60, ki_63, ki_99, ki_100, ki_101, ki_120, ki_255, ki_468, ki_1000, ki_1024, ki_13849, ki_25173, ki_65535, ki_65536, ki_100000, ki_100001, ki_2147483647, ki_2147483648, kl_0, kl_1, kl_2, kl_9223372036854775808, ki_add, ki_sub, ki_mul, ki_neg, kl_add, kl_sub, kl_mul, kl_neg, ki_i2l, kl_l2i, ki_lt, ki_le, ki_eq, kcmp_eq, kcmp_lt, kcmp_le, kcmp_gt, kcmp_ge, Option.bind_some, Option.map_some, kbool0, kbool1, if_pos, if_neg, if_true, if_false, Int.neg_neg, Int.sub_zero, Int.add_zero, Int.zero_add, true_and, and_true, false_and, and_false, false_or, or_false, true_or, or_true, ne_eq, not_false_eq_true, not_true_eq_false]
  · have w2 := w2 rfl
    by_cases k : d = c - 1
    · rw [if_pos ⟨rfl, k⟩]
      simp (disch := omega) only [b_X12_reads_17, b_X12_reads_357, g8, g9, ki_0, ki_1, ki_2, ki_3, ki_4, ki_5, ki_6, ki_7, ki_8, ki_9, ki_10, ki_11, ki_12, ki_13, ki_18, ki_20, ki_24, ki_32, ki_36, ki_45, ki_47, ki_48, ki_50, ki_57, ki_60, ki_63, ki_99, ki_100, ki_101, ki_120, ki_255, ki_468, ki_1000, ki_1024, ki_13849, ki_25173, ki_65535, ki_65536, ki_100000, ki_100001, ki_2147483647, ki_2147483648, kl_0, kl_1, kl_2, kl_9223372036854775808, ki_add, ki_sub, ki_mul, ki_neg, kl_add, kl_sub, kl_mul, kl_neg, ki_i2l, kl_l2i, ki_lt, ki_le, ki_eq, kcmp_eq, kcmp_lt, kcmp_le, kcmp_gt, kcmp_ge, Option.bind_some, Option.map_some, kbool0, kbool1, if_pos, if_neg, if_true, if_false, Int.neg_neg, Int.sub_zero, Int.add_zero, Int.zero_add, true_and, and_true, false_and, and_false, false_or, or_false, true_or, or_true, ne_eq, not_false_eq_true, not_true_eq_false]
    · rw [if_neg (fun q => k q.2)]
      simp (disch := omega) only [b_X12_reads_17, b_X12_reads_348, b_X12_reads_357, g8, g9, krcv hM.y, W, ki_0, ki_1, ki_2, ki_3, ki_4, ki_5, ki_6, ki_7, ki_8, ki_9, ki_10, ki_11, ki_12, ki_13, ki_18, ki_20, ki_24, ki_32, ki_36, ki_45, ki_47, ki_48, ki_50, ki_57, ki_60, ki_63, ki_99, ki_100, ki_101, ki_120, ki_255, ki_468, ki_1000, ki_1024, ki_13849, ki_25173, ki_65535, ki_65536, ki_100000, ki_100001, ki_2147483647, ki_2147483648, kl_0, kl_1, kl_2, kl_9223372036854775808, ki_add, ki_sub, ki_mul, ki_neg, kl_add, kl_sub, kl_mul, kl_neg, ki_i2l, kl_l2i, ki_lt, ki_le, ki_eq, kcmp_eq, kcmp_lt, kcmp_le, kcmp_gt, kcmp_ge, Option.bind_some, Option.map_some, kbool0, kbool1, if_pos, if_neg, if_true, if_false, Int.neg_neg, Int.sub_zero, Int.add_zero, Int.zero_add, true_and, and_true, false_and, and_false, false_or, or_false, true_or, or_true, ne_eq, not_false_eq_true, not_true_eq_false]
