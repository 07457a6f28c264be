/-! OPS: change, both -/
def chC (how R : Int) (A : Int → Int) (x : Int) : Int := if how = 0 then A (R - 1 - x) else if how ≤ 2 then A x + (3 - 2 * how) else A (x + (how - 3))
def chD (how R : Int) (C : Int → Int) (x : Int) : Int := if how = 0 then C (R - 2 - x) else if how ≤ 2 then C x else C (x + (how - 3))
theorem X12_ch5 {Y : jY} {μ : jM} (hM : kM Y μ) {d R how : Int} (d0 : 0 ≤ d) (d3 : d ≤ 3) (eR : gi μ 108 d = R) (h1 : 1 ≤ R) (h5 : R ≤ 5) (hh : 0 ≤ how ∧ how ≤ 2) (hr : ∀ x : Int, 0 ≤ x → x < R → -6 ≤ mA μ d x ∧ mA μ d x ≤ 6) {b : Int} (hb : b = if how = 0 then 0 else 3 - 2 * how) : ∃ ν, jit jF (fun (s : Int32 × jM) => b_X12_change_186 Y 95 (ki d) (ki how) (ki R) (ki b) s.1 s.2) ((0 : Int32), μ) = some (ki R, ν) ∧ rowsM μ ν d R (chC how R (mA μ d)) (chD how R (mC μ d)) := by
  have hb1 : -1 ≤ b ∧ b ≤ 1 := by split at hb <;> omega
  have W : ∀ i : Nat, (i : Int) ≤ R → kF 109 110 μ (wr μ 109 (5 * d).toNat (fun x => mA μ d x + b) i) ∧ ∀ x : Int, 0 ≤ x → gi (wr μ 109 (5 * d).toNat (fun x => mA μ d x + b) i) 109 x = if 5 * d ≤ x ∧ x < 5 * d + i then mA μ d (x - 5 * d) + b else gi μ 109 x := by
    intro i hi
    refine ⟨wr_kF (by omega) (by omega) i (fun j hj => (kM.a109 hM).2.2.2 _ (by omega)), fun x hx => ?_⟩
    rw [wr_gi (g := fun x => mA μ d x + b) i (fun j hj => by have := hr j (by omega) (by omega); omega) x hx, toNat_cast (by omega)]
  obtain ⟨w1, w2⟩ := W R.toNat (by omega)
  have last : ∃ ν, jit jF (fun (s : Int32 × jM) => b_X12_change_222 Y 95 (ki d) (ki how) (ki R) s.1 s.2) ((0 : Int32), wr μ 109 (5 * d).toNat (fun x => mA μ d x + b) R.toNat) = some (ki R, ν) ∧ rowsM μ ν d R (chC how R (mA μ d)) (chD how R (mC μ d)) := by
    generalize wr μ 109 (5 * d).toNat (fun x => mA μ d x + b) R.toNat = ξ at *
    by_cases e : how = 0
    · subst e
      rw [if_pos rfl] at hb
      subst hb
      obtain ⟨ν, c, k, t1, t2, t3, t4⟩ := X12_ch3 (hM.to w1) d0 d3 h1 h5
      refine ⟨ν, c, (w1.mono (by omega) (by omega)).trans (k.mono (by omega) (by omega)), by rw [k.gi (by omega), w1.gi (by omega), eR], fun e e0 e3 ed => ⟨by rw [k.gi (by omega), w1.gi (by omega)], fun x x0 x5 => ?_, fun x x0 x5 => ?_⟩, fun x x0 x1 => ?_, fun x x0 x1 => ?_⟩
      · show gi ν 109 (5 * e + x) = gi μ 109 (5 * e + x)
        rw [t1 _ (by omega) (by omega), w2 _ (by omega), if_neg (by omega)]
      · show gi ν 110 (5 * e + x) = gi μ 110 (5 * e + x)
        rw [t3 _ (by omega) (by omega), w1.gi (by omega)]
      · show gi ν 109 (5 * d + x) = chC 0 R (mA μ d) x
        unfold chC
        rw [t2 x x0 x1, w2 _ (by omega), if_pos (by omega), if_pos rfl, show 5 * d + (R - 1 - x) - 5 * d = R - 1 - x by omega, Int.add_zero]
      · show gi ν 110 (5 * d + x) = chD 0 R (mC μ d) x
        unfold chD
        rw [t4 x x0 x1, w1.gi (by omega), if_pos rfl, show R - 1 - 1 - x = R - 2 - x by omega]
        rfl
    · rw [if_neg e] at hb
      subst hb
      refine ⟨ξ, X12_ch4 h1 h5 (by omega), w1.mono (by omega) (by omega), by rw [w1.gi (by omega), eR], fun e e0 e3 ed => ⟨by rw [w1.gi (by omega)], fun x x0 x5 => ?_, fun x x0 x5 => ?_⟩, fun x x0 x1 => ?_, fun x x0 x1 => ?_⟩
      · show gi ξ 109 (5 * e + x) = gi μ 109 (5 * e + x)
        rw [w2 _ (by omega), if_neg (by omega)]
      · show gi ξ 110 (5 * e + x) = gi μ 110 (5 * e + x)
        rw [w1.gi (by omega)]
      · show gi ξ 109 (5 * d + x) = chC how R (mA μ d) x
        unfold chC
        rw [w2 _ (by omega), if_pos (by omega), if_neg e, if_pos hh.2, show 5 * d + x - 5 * d = x by omega]
      · show gi ξ 110 (5 * d + x) = chD how R (mC μ d) x
        unfold chD
        rw [w1.gi (by omega), if_neg e, if_pos hh.2]
        rfl
  obtain ⟨ν, c, rw_⟩ := last
  refine ⟨ν, ?_, rw_⟩
  refine jit_run (fun i => (ki i, wr μ 109 (5 * d).toNat (fun x => mA μ d x + b) i)) _ R.toNat rfl (by omega) (fun i hi => ?_) ?_
  · obtain ⟨y1, y2⟩ := W i (by omega)
    have y3 : mA (wr μ 109 (5 * d).toNat (fun x => mA μ d x + b) i) d i = mA μ d i := by
      show gi _ 109 (5 * d + i) = gi μ 109 (5 * d + i)
      rw [y2 _ (by omega), if_neg (by omega)]
    simp only [wr]
    generalize wr μ 109 (5 * d).toNat (fun x => mA μ d x + b) i = ξ at *
    have m1 := hM.to y1
    have q := X12_a m1 (d := d) (i := i) d0 d3 (by omega) (by omega)
    rw [y3] at q
    have s1 := fun v => kasI (v := v) (kM.a109 m1) (x := 5 * d + i) (by omega) (by omega)
    simp (disch := omega) only [b_X12_change_186, kM.o27 m1, krcv (kM.y hM), q, s1, ki_0, ki_1, ki_2, ki_3, ki_4, ki_5, ki_6, ki_7, ki_8, ki_9, ki_10, ki_11, ki_12, ki_13, ki_18, ki_20, ki_24, ki_32, ki_36, ki_45, ki_47, ki_48, ki_50, ki_57, ki_60, ki_63, ki_99, ki_100, ki_101, ki_120, ki_255, ki_468, ki_1000, ki_1024, ki_13849, ki_25173, ki_65535, ki_65536, ki_100000, ki_100001, ki_2147483647, ki_2147483648, kl_0, kl_1, kl_2, kl_9223372036854775808, ki_add, ki_sub, ki_mul, ki_neg, kl_add, kl_sub, kl_mul, kl_neg, ki_i2l, kl_l2i, ki_lt, ki_le, ki_eq, kcmp_eq, kcmp_lt, kcmp_le, kcmp_gt, kcmp_ge, Option.bind_some, Option.map_some, kbool0, kbool1, if_pos, if_neg, if_true, if_false, Int.neg_neg, Int.sub_zero, Int.add_zero, Int.zero_add, true_and, and_true, false_and, and_false, false_or, or_false, true_or, or_true, ne_eq, not_false_eq_true, not_true_eq_false, Int.natCast_add, Int.natCast_one]
    rw [show (5 * d + (i : Int)).toNat = (5 * d).toNat + i by omega]
  · generalize wr μ 109 (5 * d).toNat (fun x => mA μ d x + b) R.toNat = ξ at *
    have E : b_X12_change_186 Y 95 (ki d) (ki how) (ki R) (ki b) (ki (R.toNat : Int)) ξ = (jit jF (fun (s : Int32 × jM) => b_X12_change_222 Y 95 (ki d) (ki how) (ki R) s.1 s.2) ((0 : Int32), ξ)).map (fun r => (.inr r)) := by
      simp (disch := omega) only [b_X12_change_186, ki_0, ki_1, ki_2, ki_3, ki_4, ki_5, ki_6, ki_7, ki_8, ki_9, ki_10, ki_11, ki_12, ki_13, ki_18, ki_20, ki_24, ki_32, ki_36, ki_45, ki_47, ki_48, ki_50, ki_57, ki_60, ki_63, ki_99, ki_100, ki_101, ki_120, ki_255, ki_468, ki_1000, ki_1024, ki_13849, ki_25173, ki_65535, ki_65536, ki_100000, ki_100001, ki_2147483647, ki_2147483648, kl_0, kl_1, kl_2, kl_9223372036854775808, ki_add, ki_sub, ki_mul, ki_neg, kl_add, kl_sub, kl_mul, kl_neg, ki_i2l, kl_l2i, ki_lt, ki_le, ki_eq, kcmp_eq, kcmp_lt, kcmp_le, kcmp_gt, kcmp_ge, Option.bind_some, Option.map_some, kbool0, kbool1, if_pos, if_neg, if_true, if_false, Int.neg_neg, Int.sub_zero, Int.add_zero, Int.zero_add, true_and, and_true, false_and, and_false, false_or, or_false, true_or, or_true, ne_eq, not_false_eq_true, not_true_eq_false]
    simp only [E, c]
    rfl
theorem X12_ch6 {Y : jY} {μ : jM} (hM : kM Y μ) {d R how : Int} (d0 : 0 ≤ d) (d3 : d ≤ 3) (eR : gi μ 108 d = R) (h1 : 1 ≤ R) (h5 : R ≤ 5) (hh : 0 ≤ how ∧ how ≤ 2) (hr : ∀ x : Int, 0 ≤ x → x < R → -6 ≤ mA μ d x ∧ mA μ d x ≤ 6) {b : Int} (hb : b = if how = 0 then 0 else 3 - 2 * how) : ((∀ x : Int, 0 ≤ x → x < R → -6 ≤ mA μ d x + b ∧ mA μ d x + b ≤ 6) ∧ ∃ ν, b_X12_change_146 Y 95 (ki d) (ki how) (ki R) (ki b) μ = some (ki R, ν) ∧ rowsM μ ν d R (chC how R (mA μ d)) (chD how R (mC μ d))) ∨ (¬ (∀ x : Int, 0 ≤ x → x < R → -6 ≤ mA μ d x + b ∧ mA μ d x + b ≤ 6) ∧ b_X12_change_146 Y 95 (ki d) (ki how) (ki R) (ki b) μ = some (ki (-3), μ)) := by
  have hb1 : -1 ≤ b ∧ b ≤ 1 := by split at hb <;> omega
  have main : ∃ r, b_X12_change_146 Y 95 (ki d) (ki how) (ki R) (ki b) μ = some r ∧ (((∀ x : Int, 0 ≤ x → x < R → -6 ≤ mA μ d x + b ∧ mA μ d x + b ≤ 6) ∧ r.1 = ki R ∧ rowsM μ r.2 d R (chC how R (mA μ d)) (chD how R (mC μ d))) ∨ (¬ (∀ x : Int, 0 ≤ x → x < R → -6 ≤ mA μ d x + b ∧ mA μ d x + b ≤ 6) ∧ r = (ki (-3), μ))) := by
    refine jit_inv (f := fun (s : Int32 × jM) => b_X12_change_151 Y 95 (ki d) (ki how) (ki R) (ki b) s.1 s.2) (fun i z => z = (ki i, μ) ∧ ∀ x : Int, 0 ≤ x → x < i → -6 ≤ mA μ d x + b ∧ mA μ d x + b ≤ 6) _ R.toNat (s := ((0 : Int32), μ)) ⟨rfl, fun x a b => by omega⟩ (by omega) (fun i z hi hz => ?_)
    obtain ⟨rfl, z1⟩ := hz
    by_cases e : i = R.toNat
    · obtain ⟨ν, c, h⟩ := X12_ch5 hM d0 d3 eR h1 h5 hh hr hb
      refine ⟨.inr (ki R, ν), ?_, Or.inl ⟨fun x p q => z1 x p (by omega), rfl, h⟩⟩
      have E : b_X12_change_151 Y 95 (ki d) (ki how) (ki R) (ki b) (ki i) μ = (jit jF (fun (s : Int32 × jM) => b_X12_change_186 Y 95 (ki d) (ki how) (ki R) (ki b) s.1 s.2) ((0 : Int32), μ)).map (fun r => (.inr r)) := by
        simp (disch := omega) only [b_X12_change_151, ki_0, ki_1, ki_2, ki_3, ki_4, ki_5, ki_6, ki_7, ki_8, ki_9, ki_10, ki_11, ki_12, ki_13, ki_18, ki_20, ki_24, ki_32, ki_36, ki_45, ki_47, ki_48, ki_50, ki_57, ki_60, ki_63, ki_99, ki_100, ki_101, ki_120, ki_255, ki_468, ki_1000, ki_1024, ki_13849, ki_25173, ki_65535, ki_65536, ki_100000, ki_100001, ki_2147483647, ki_2147483648, kl_0, kl_1, kl_2, kl_9223372036854775808, ki_add, ki_sub, ki_mul, ki_neg, kl_add, kl_sub, kl_mul, kl_neg, ki_i2l, kl_l2i, ki_lt, ki_le, ki_eq, kcmp_eq, kcmp_lt, kcmp_le, kcmp_gt, kcmp_ge, Option.bind_some, Option.map_some, kbool0, kbool1, if_pos, if_neg, if_true, if_false, Int.neg_neg, Int.sub_zero, Int.add_zero, Int.zero_add, true_and, and_true, false_and, and_false, false_or, or_false, true_or, or_true, ne_eq, not_false_eq_true, not_true_eq_false]
      simp only [E, c]
      rfl
    · have q := X12_a hM (d := d) (i := i) d0 d3 (by omega) (by omega)
      have r := hr i (by omega) (by omega)
      have cb := X12_canBe (Y := Y) (μ := μ) (b := 1) (v := mA μ d i + b) (by omega) (by omega) (by omega)
      by_cases c : -6 ≤ mA μ d i + b ∧ mA μ d i + b ≤ 6
      · rw [if_pos (by omega)] at cb
        refine ⟨.inl (ki ((i + 1 : Nat) : Int), μ), ?_, by omega, rfl, fun x p q => ?_⟩
        · simp (disch := omega) only [b_X12_change_151, krcv (kM.y hM), q, cb, ki_0, ki_1, ki_2, ki_3, ki_4, ki_5, ki_6, ki_7, ki_8, ki_9, ki_10, ki_11, ki_12, ki_13, ki_18, ki_20, ki_24, ki_32, ki_36, ki_45, ki_47, ki_48, ki_50, ki_57, ki_60, ki_63, ki_99, ki_100, ki_101, ki_120, ki_255, ki_468, ki_1000, ki_1024, ki_13849, ki_25173, ki_65535, ki_65536, ki_100000, ki_100001, ki_2147483647, ki_2147483648, kl_0, kl_1, kl_2, kl_9223372036854775808, ki_add, ki_sub, ki_mul, ki_neg, kl_add, kl_sub, kl_mul, kl_neg, ki_i2l, kl_l2i, ki_lt, ki_le, ki_eq, kcmp_eq, kcmp_lt, kcmp_le, kcmp_gt, kcmp_ge, Option.bind_some, Option.map_some, kbool0, kbool1, if_pos, if_neg, if_true, if_false, Int.neg_neg, Int.sub_zero, Int.add_zero, Int.zero_add, true_and, and_true, false_and, and_false, false_or, or_false, true_or, or_true, ne_eq, not_false_eq_true, not_true_eq_false, Int.natCast_add, Int.natCast_one]
        · by_cases f : x = i
          · subst f; exact c
          · exact z1 x p (by omega)
      · rw [if_neg (by omega)] at cb
        refine ⟨.inr (ki (-3), μ), ?_, Or.inr ⟨fun q => c (q i (by omega) (by omega)), rfl⟩⟩
        simp (disch := omega) only [b_X12_change_151, krcv (kM.y hM), q, cb, ki_0, ki_1, ki_2, ki_3, ki_4, ki_5, ki_6, ki_7, ki_8, ki_9, ki_10, ki_11, ki_12, ki_13, ki_18, ki_20, ki_24, ki_32, ki_36, ki_45, ki_47, ki_48, ki_50, ki_57, ki_60, ki_63, ki_99, ki_100, ki_101, ki_120, ki_255, ki_468, ki_1000, ki_1024, ki_13849, ki_25173, ki_65535, ki_65536, ki_100000, ki_100001, ki_2147483647, ki_2147483648, kl_0, kl_1, kl_2, kl_9223372036854775808, ki_add, ki_sub, ki_mul, ki_neg, kl_add, kl_sub, kl_mul, kl_neg, ki_i2l, kl_l2i, ki_lt, ki_le, ki_eq, kcmp_eq, kcmp_lt, kcmp_le, kcmp_gt, kcmp_ge, Option.bind_some, Option.map_some, kbool0, kbool1, if_pos, if_neg, if_true, if_false, Int.neg_neg, Int.sub_zero, Int.add_zero, Int.zero_add, true_and, and_true, false_and, and_false, false_or, or_false, true_or, or_true, ne_eq, not_false_eq_true, not_true_eq_false]
  obtain ⟨⟨r1, r2⟩, e, h⟩ := main
  rcases h with ⟨a, b1, b2⟩ | ⟨a, b1⟩
  · simp only [] at b1
    exact Or.inl ⟨a, r2, by rw [e, b1], b2⟩
  · exact Or.inr ⟨a, by rw [e, b1]⟩
theorem X12_ch7 {Y : jY} {μ : jM} (hM : kM Y μ) {d R how : Int} (d0 : 0 ≤ d) (d3 : d ≤ 3) (eR : gi μ 108 d = R) (h1 : 2 ≤ R) (h5 : R ≤ 5) (hh : 3 ≤ how ∧ how ≤ 4) : ∃ ν, jit jF (fun (s : Int32 × jM) => b_X12_change_48 Y 95 (ki d) (ki how) (ki R) s.1 s.2) ((0 : Int32), μ) = some (ki (R - 1), ν) ∧ rowsM μ ν d (R - 1) (chC how R (mA μ d)) (chD how R (mC μ d)) := by
  have fin : ∀ ξ : jM, kF 109 111 μ ξ → (∀ x : Int, 0 ≤ x → x < 20 → gi ξ 109 x = if 5 * d ≤ x ∧ x < 5 * d + R - 1 then gi μ 109 (x + (how - 3)) else gi μ 109 x) → (∀ x : Int, 0 ≤ x → x < 20 → gi ξ 110 x = if 5 * d ≤ x ∧ x < 5 * d + R - 2 then gi μ 110 (x + (how - 3)) else gi μ 110 x) → b_X12_change_115 Y 95 (ki d) (ki R) ξ = some (ki (R - 1), jw ξ 108 d.toNat (.int (ki (R - 1)))) ∧ rowsM μ (jw ξ 108 d.toNat (.int (ki (R - 1)))) d (R - 1) (chC how R (mA μ d)) (chD how R (mC μ d)) := by
    intro ξ k t1 t2
    have m1 := hM.to k
    have s1 := fun v => kasI (v := v) (kM.a108 m1) (x := d) (by omega) (by omega)
    have k2 : kF 108 109 ξ (jw ξ 108 d.toNat (.int (ki (R - 1)))) := kF_I ((kM.a108 m1).2.2.2 _ (by omega)) (by omega) (by omega)
    refine ⟨?_, (k.mono (by omega) (by omega)).trans (k2.mono (by omega) (by omega)), by rw [gi_jw _ _ (by omega) (by omega), if_pos ⟨rfl, rfl⟩], fun e e0 e3 ed => ⟨by rw [gi_jw _ _ (by omega) (by omega), if_neg (by omega), k.gi (by omega)], fun x x0 x5 => ?_, fun x x0 x5 => ?_⟩, fun x x0 x1 => ?_, fun x x0 x1 => ?_⟩
    · simp (disch := omega) only [b_X12_change_115, kM.o26 m1, s1, ki_0, ki_1, ki_2, ki_3, ki_4, ki_5, ki_6, ki_7, ki_8, ki_9, ki_10, ki_11, ki_12, ki_13, ki_18, ki_20, ki_24, ki_32, ki_36, ki_45, ki_47, ki_48, ki_50, ki_57, ki_60, ki_63, ki_99, ki_100, ki_101, ki_120, ki_255, ki_468, ki_1000, ki_1024, ki_13849, ki_25173, ki_65535, ki_65536, ki_100000, ki_100001, ki_2147483647, ki_2147483648, kl_0, kl_1, kl_2, kl_9223372036854775808, ki_add, ki_sub, ki_mul, ki_neg, kl_add, kl_sub, kl_mul, kl_neg, ki_i2l, kl_l2i, ki_lt, ki_le, ki_eq, kcmp_eq, kcmp_lt, kcmp_le, kcmp_gt, kcmp_ge, Option.bind_some, Option.map_some, kbool0, kbool1, if_pos, if_neg, if_true, if_false, Int.neg_neg, Int.sub_zero, Int.add_zero, Int.zero_add, true_and, and_true, false_and, and_false, false_or, or_false, true_or, or_true, ne_eq, not_false_eq_true, not_true_eq_false]
    · show gi _ 109 (5 * e + x) = gi μ 109 (5 * e + x)
      rw [k2.gi (by omega), t1 _ (by omega) (by omega), if_neg (by omega)]
    · show gi _ 110 (5 * e + x) = gi μ 110 (5 * e + x)
      rw [k2.gi (by omega), t2 _ (by omega) (by omega), if_neg (by omega)]
    · show gi _ 109 (5 * d + x) = chC how R (mA μ d) x
      unfold chC
      rw [k2.gi (by omega), t1 _ (by omega) (by omega), if_pos (by omega), if_neg (by omega), if_neg (by omega), Int.add_assoc]
      rfl
    · show gi _ 110 (5 * d + x) = chD how R (mC μ d) x
      unfold chD
      rw [k2.gi (by omega), t2 _ (by omega) (by omega), if_pos (by omega), if_neg (by omega), if_neg (by omega), Int.add_assoc]
      rfl
  by_cases w4 : how = 4
  · subst w4
    have main : ∃ r, jit jF (fun (s : Int32 × jM) => b_X12_change_48 Y 95 (ki d) (ki 4) (ki R) s.1 s.2) ((0 : Int32), μ) = some r ∧ r.1 = ki (R - 1) ∧ rowsM μ r.2 d (R - 1) (chC 4 R (mA μ d)) (chD 4 R (mC μ d)) := by
      refine jit_inv (f := fun (s : Int32 × jM) => b_X12_change_48 Y 95 (ki d) (ki 4) (ki R) s.1 s.2) (fun i z => z.1 = ki i ∧ kF 109 111 μ z.2 ∧ (∀ x : Int, 0 ≤ x → x < 20 → gi z.2 109 x = if 5 * d ≤ x ∧ x < 5 * d + i then gi μ 109 (x + 1) else gi μ 109 x) ∧ ∀ x : Int, 0 ≤ x → x < 20 → gi z.2 110 x = if 5 * d ≤ x ∧ x < 5 * d + i ∧ x < 5 * d + R - 2 then gi μ 110 (x + 1) else gi μ 110 x) _ (R - 1).toNat (s := ((0 : Int32), μ)) ⟨rfl, kF.refl, fun x a b => by rw [if_neg (by omega)], fun x a b => by rw [if_neg (by omega)]⟩ (by omega) (fun i z hi hz => ?_)
      obtain ⟨v, ν⟩ := z
      obtain ⟨rfl, z1, z2, z3⟩ := hz
      simp only [] at z1 z2 z3
      have m1 := hM.to z1
      by_cases e : i = (R - 1).toNat
      · obtain ⟨c, h⟩ := fin ν z1 (fun x a b => by
          rw [z2 x a b, show x + ((4 : Int) - 3) = x + 1 by omega]
          by_cases q : 5 * d ≤ x ∧ x < 5 * d + R - 1
          · rw [if_pos q, if_pos (by omega)]
          · rw [if_neg q, if_neg (by omega)]) (fun x a b => by
          rw [z3 x a b, show x + ((4 : Int) - 3) = x + 1 by omega]
          by_cases q : 5 * d ≤ x ∧ x < 5 * d + R - 2
          · rw [if_pos q, if_pos (by omega)]
          · rw [if_neg q, if_neg (by omega)])
        refine ⟨.inr (ki (R - 1), jw ν 108 d.toNat (.int (ki (R - 1)))), ?_, rfl, h⟩
        simp (disch := omega) only [b_X12_change_48, c, ki_0, ki_1, ki_2, ki_3, ki_4, ki_5, ki_6, ki_7, ki_8, ki_9, ki_10, ki_11, ki_12, ki_13, ki_18, ki_20, ki_24, ki_32, ki_36, ki_45, ki_47, ki_48, ki_50, ki_57, ki_60, ki_63, ki_99, ki_100, ki_101, ki_120, ki_255, ki_468, ki_1000, ki_1024, ki_13849, ki_25173, ki_65535, ki_65536, ki_100000, ki_100001, ki_2147483647, ki_2147483648, kl_0, kl_1, kl_2, kl_9223372036854775808, ki_add, ki_sub, ki_mul, ki_neg, kl_add, kl_sub, kl_mul, kl_neg, ki_i2l, kl_l2i, ki_lt, ki_le, ki_eq, kcmp_eq, kcmp_lt, kcmp_le, kcmp_gt, kcmp_ge, Option.bind_some, Option.map_some, kbool0, kbool1, if_pos, if_neg, if_true, if_false, Int.neg_neg, Int.sub_zero, Int.add_zero, Int.zero_add, true_and, and_true, false_and, and_false, false_or, or_false, true_or, or_true, ne_eq, not_false_eq_true, not_true_eq_false]
      · have q1 := X12_a m1 (d := d) (i := i + 1) d0 d3 (by omega) (by omega)
        have qe : mA ν d (i + 1) = gi μ 109 (5 * d + i + 1) := by
          show gi ν 109 (5 * d + ((i : Int) + 1)) = _
          rw [z2 _ (by omega) (by omega), if_neg (by omega), Int.add_assoc]
        rw [qe] at q1
        have s1 := fun v => kasI (v := v) (kM.a109 m1) (x := 5 * d + i) (by omega) (by omega)
        have kf1 : kF 109 111 ν (jw ν 109 (5 * d + i).toNat (.int (ki (gi μ 109 (5 * d + i + 1))))) := kF_I ((kM.a109 m1).2.2.2 _ (by omega)) (by omega) (by omega)
        have v1 : ∀ x : Int, 0 ≤ x → x < 20 → gi (jw ν 109 (5 * d + i).toNat (.int (ki (gi μ 109 (5 * d + i + 1))))) 109 x = if 5 * d ≤ x ∧ x < 5 * d + ((i + 1 : Nat) : Int) then gi μ 109 (x + 1) else gi μ 109 x := by
          intro x a b
          rw [gi_jw _ _ (gi_lo _ _ _) (gi_hi _ _ _)]
          by_cases q : x = 5 * d + i
          · rw [if_pos (by omega), if_pos (by omega), q]
          · rw [if_neg (by omega), z2 x a b]
            by_cases q2 : 5 * d ≤ x ∧ x < 5 * d + i
            · rw [if_pos q2, if_pos (by omega)]
            · rw [if_neg q2, if_neg (by omega)]
        have v2 : ∀ x : Int, gi (jw ν 109 (5 * d + i).toNat (.int (ki (gi μ 109 (5 * d + i + 1))))) 110 x = gi ν 110 x := fun x => by rw [gi_jw _ _ (gi_lo _ _ _) (gi_hi _ _ _), if_neg (by omega)]
        have m2 := m1.to kf1
        by_cases hl : (i : Int) = R - 2
        · refine ⟨.inl (ki ((i + 1 : Nat) : Int), jw ν 109 (5 * d + i).toNat (.int (ki (gi μ 109 (5 * d + i + 1))))), ?_, by omega, rfl, z1.trans kf1, v1, fun x a b => ?_⟩
          · simp (disch := omega) only [b_X12_change_48, b_X12_change_109, kM.o27 m1, krcv (kM.y m1), q1, s1, ki_0, ki_1, ki_2, ki_3, ki_4, ki_5, ki_6, ki_7, ki_8, ki_9, ki_10, ki_11, ki_12, ki_13, ki_18, ki_20, ki_24, ki_32, ki_36, ki_45, ki_47, ki_48, ki_50, ki_57, ki_60, ki_63, ki_99, ki_100, ki_101, ki_120, ki_255, ki_468, ki_1000, ki_1024, ki_13849, ki_25173, ki_65535, ki_65536, ki_100000, ki_100001, ki_2147483647, ki_2147483648, kl_0, kl_1, kl_2, kl_9223372036854775808, ki_add, ki_sub, ki_mul, ki_neg, kl_add, kl_sub, kl_mul, kl_neg, ki_i2l, kl_l2i, ki_lt, ki_le, ki_eq, kcmp_eq, kcmp_lt, kcmp_le, kcmp_gt, kcmp_ge, Option.bind_some, Option.map_some, kbool0, kbool1, if_pos, if_neg, if_true, if_false, Int.neg_neg, Int.sub_zero, Int.add_zero, Int.zero_add, true_and, and_true, false_and, and_false, false_or, or_false, true_or, or_true, ne_eq, not_false_eq_true, not_true_eq_false, Int.natCast_add, Int.natCast_one]
          · simp only []
            rw [v2, z3 x a b]
            by_cases q2 : 5 * d ≤ x ∧ x < 5 * d + i ∧ x < 5 * d + R - 2
            · rw [if_pos q2, if_pos (by omega)]
            · rw [if_neg q2, if_neg (by omega)]
        · have q3 := X12_c m2 (d := d) (i := i + 1) d0 d3 (by omega) (by omega)
          have qc : mC (jw ν 109 (5 * d + i).toNat (.int (ki (gi μ 109 (5 * d + i + 1))))) d (i + 1) = gi μ 110 (5 * d + i + 1) := by
            show gi _ 110 (5 * d + ((i : Int) + 1)) = _
            rw [v2, z3 _ (by omega) (by omega), if_neg (by omega), Int.add_assoc]
          rw [qc] at q3
          generalize hω : jw ν 109 (5 * d + i).toNat (.int (ki (gi μ 109 (5 * d + i + 1)))) = ω at *
          have s2 := fun v => kasI (v := v) (kM.a110 m2) (x := 5 * d + i) (by omega) (by omega)
          have kf2 : kF 109 111 ω (jw ω 110 (5 * d + i).toNat (.int (ki (gi μ 110 (5 * d + i + 1))))) := kF_I ((kM.a110 m2).2.2.2 _ (by omega)) (by omega) (by omega)
          refine ⟨.inl (ki ((i + 1 : Nat) : Int), jw ω 110 (5 * d + i).toNat (.int (ki (gi μ 110 (5 * d + i + 1))))), ?_, by omega, rfl, (z1.trans kf1).trans kf2, fun x a b => ?_, fun x a b => ?_⟩
          · simp (disch := omega) only [b_X12_change_48, b_X12_change_109, kM.o27 m1, krcv (kM.y m1), q1, s1, hω, kM.o28 m2, q3, s2, ki_0, ki_1, ki_2, ki_3, ki_4, ki_5, ki_6, ki_7, ki_8, ki_9, ki_10, ki_11, ki_12, ki_13, ki_18, ki_20, ki_24, ki_32, ki_36, ki_45, ki_47, ki_48, ki_50, ki_57, ki_60, ki_63, ki_99, ki_100, ki_101, ki_120, ki_255, ki_468, ki_1000, ki_1024, ki_13849, ki_25173, ki_65535, ki_65536, ki_100000, ki_100001, ki_2147483647, ki_2147483648, kl_0, kl_1, kl_2, kl_9223372036854775808, ki_add, ki_sub, ki_mul, ki_neg, kl_add, kl_sub, kl_mul, kl_neg, ki_i2l, kl_l2i, ki_lt, ki_le, ki_eq, kcmp_eq, kcmp_lt, kcmp_le, kcmp_gt, kcmp_ge, Option.bind_some, Option.map_some, kbool0, kbool1, if_pos, if_neg, if_true, if_false, Int.neg_neg, Int.sub_zero, Int.add_zero, Int.zero_add, true_and, and_true, false_and, and_false, false_or, or_false, true_or, or_true, ne_eq, not_false_eq_true, not_true_eq_false, Int.natCast_add, Int.natCast_one]
          · simp only []
            rw [gi_jw _ _ (gi_lo _ _ _) (gi_hi _ _ _), if_neg (by omega)]
            exact v1 x a b
          · simp only []
            rw [gi_jw _ _ (gi_lo _ _ _) (gi_hi _ _ _)]
            by_cases q : x = 5 * d + i
            · rw [if_pos (by omega), if_pos (by omega), q]
            · rw [if_neg (by omega), v2, z3 x a b]
              by_cases q2 : 5 * d ≤ x ∧ x < 5 * d + i ∧ x < 5 * d + R - 2
              · rw [if_pos q2, if_pos (by omega)]
              · rw [if_neg q2, if_neg (by omega)]
    obtain ⟨⟨r1, r2⟩, e, h1, h2⟩ := main
    simp only [] at h1
    exact ⟨r2, by rw [e, h1], h2⟩
  · have w3 : how = 3 := by omega
    subst w3
    obtain ⟨c, h⟩ := fin μ kF.refl (fun x a b => by rw [show x + ((3 : Int) - 3) = x by omega]; split <;> rfl) (fun x a b => by rw [show x + ((3 : Int) - 3) = x by omega]; split <;> rfl)
    refine ⟨_, ?_, h⟩
    refine jit_run (fun i => (ki i, μ)) _ 0 rfl (by omega) (fun i hi => by omega) ?_
    simp (disch := omega) only [b_X12_change_48, c, ki_0, ki_1, ki_2, ki_3, ki_4, ki_5, ki_6, ki_7, ki_8, ki_9, ki_10, ki_11, ki_12, ki_13, ki_18, ki_20, ki_24, ki_32, ki_36, ki_45, ki_47, ki_48, ki_50, ki_57, ki_60, ki_63, ki_99, ki_100, ki_101, ki_120, ki_255, ki_468, ki_1000, ki_1024, ki_13849, ki_25173, ki_65535, ki_65536, ki_100000, ki_100001, ki_2147483647, ki_2147483648, kl_0, kl_1, kl_2, kl_9223372036854775808, ki_add, ki_sub, ki_mul, ki_neg, kl_add, kl_sub, kl_mul, kl_neg, ki_i2l, kl_l2i, ki_lt, ki_le, ki_eq, kcmp_eq, kcmp_lt, kcmp_le, kcmp_gt, kcmp_ge, Option.bind_some, Option.map_some, kbool0, kbool1, if_pos, if_neg, if_true, if_false, Int.neg_neg, Int.sub_zero, Int.add_zero, Int.zero_add, true_and, and_true, false_and, and_false, false_or, or_false, true_or, or_true, ne_eq, not_false_eq_true, not_true_eq_false, Int.natCast_zero]
theorem chUpd {L : Nat} {xs : Nat → Int32} {n : Nat} {Y : jY} {μ : jM} (h : Inv L xs n Y μ) {d : Int} (d0 : 0 ≤ d) (d3 : d ≤ 3) {ν ω : jM} (k1 : kF (9 + 5 + 3 * d.toNat) (9 + 5 + 3 * d.toNat + 3) μ ν) {R : Int} {A C : Int → Int} (hr : rowsM ν ω d R A C) (h1 : 0 ≤ R) (h5 : R ≤ 5) (e0 : gi ν (9 + 5 + 3 * d.toNat) 0 = R) (eA : ∀ x : Int, 0 ≤ x → x < R → gi ν (9 + 5 + 3 * d.toNat + 1) x = A x ∧ -6 ≤ A x ∧ A x ≤ 6) (eC : ∀ x : Int, 0 ≤ x → x < R - 1 → gi ν (9 + 5 + 3 * d.toNat + 2) x = C x ∧ 1 ≤ C x ∧ C x ≤ 36) : Inv L xs n Y ω := by
  obtain ⟨k2, r0, ro, rA, rC⟩ := hr
  refine h.upd d0 d3 ((k1.mono (by omega) (by omega)).trans (k2.mono (by omega) (by omega))) (fun i i1 i2 i3 i4 i5 i6 => ?_) ?_ (fun q q0 q3 qd => ⟨?_, fun x x0 x5 => ?_, fun x x0 x5 => ?_⟩)
  · rw [k2.1 i (by omega), k1.1 i (by omega)]
  · unfold relT
    rw [k2.gi (by omega), e0, r0]
    refine ⟨rfl, h1, h5, fun x x0 x1 => ?_, fun x x0 x1 => ?_⟩
    · rw [k2.gi (by omega), rA x x0 x1]; exact eA x x0 x1
    · rw [k2.gi (by omega), rC x x0 x1]; exact eC x x0 x1
  · rw [(ro q q0 q3 qd).1, k1.gi (by omega)]
  · rw [(ro q q0 q3 qd).2.1 x x0 x5]; exact k1.gi (by omega) _
  · rw [(ro q q0 q3 qd).2.2 x x0 x5]; exact k1.gi (by omega) _
theorem ok_change {L : Nat} {xs : Nat → Int32} {n : Nat} {Y : jY} {μ : jM} (h : Inv L xs n Y μ) : so_change (Inv L xs) n Y μ := by
  have hX := h.x
  have hM := h.m
  intro a1 a2
  obtain ⟨d, d1, d2, rfl⟩ := ki_is a1
  obtain ⟨how, w1, w2, rfl⟩ := ki_is a2
  by_cases hd : 0 ≤ d ∧ d ≤ 3
  · obtain ⟨hT, hB, hMB, hR, hA, hC⟩ := h.d hd.1 hd.2; have hR0 := hMB.1; have hR5 := hMB.2.1
    by_cases hh : 0 ≤ how ∧ how ≤ 4
    · by_cases hz : gi μ 108 d = 0
      · refine ⟨(ki (-2), μ), (ki (-2), μ), ?_, fun _ => rfl, ?_, rfl, h⟩ <;> simp (disch := omega) only [f_X11_change, b_X11_change_16, b_X11_change_55, f_X12_change, b_X12_change_16, krcv (kX.y1 hX), kX.o1_3 hX, kS.gd (kX.now hX), kS.gt (kX.now hX), X11_within, X11_isDrawer, f_X11_isFilled, b_X11_isFilled_27, b_X11_isFilled_26, f_X11_isRow, b_X11_isRow_35, b_X11_isRow_34, f_X11_isPart, b_X11_isPart_14, b_X11_isPart_9, krcv (kM.y hM), kM.o26 hM, kaI (kM.a108 hM), X12_in, X12_isDrawer, kT.gr hT, krcv hT.y, hR, ki_0, ki_1, ki_2, ki_3, ki_4, ki_5, ki_6, ki_7, ki_8, ki_9, ki_10, ki_11, ki_12, ki_13, ki_18, ki_20, ki_24, ki_32, ki_36, ki_45, ki_47, ki_48, ki_50, ki_57, ki_60, ki_63, ki_99, ki_100, ki_101, ki_120, ki_255, ki_468, ki_1000, ki_1024, ki_13849, ki_25173, ki_65535, ki_65536, ki_100000, ki_100001, ki_2147483647, ki_2147483648, kl_0, kl_1, kl_2, kl_9223372036854775808, ki_add, ki_sub, ki_mul, ki_neg, kl_add, kl_sub, kl_mul, kl_neg, ki_i2l, kl_l2i, ki_lt, ki_le, ki_eq, kcmp_eq, kcmp_lt, kcmp_le, kcmp_gt, kcmp_ge, Option.bind_some, Option.map_some, kbool0, kbool1, if_pos, if_neg, if_true, if_false, Int.neg_neg, Int.sub_zero, Int.add_zero, Int.zero_add, true_and, and_true, false_and, and_false, false_or, or_false, true_or, or_true, ne_eq, not_false_eq_true, not_true_eq_false]
      · have T := X10_alter hT (how := how) hR (by omega) (by omega) hh (fun x p q => by rw [hA x p q]; exact hMB.2.2.1 x p q)
        have hr : ∀ x : Int, 0 ≤ x → x < gi μ 108 d → -6 ≤ mA μ d x ∧ mA μ d x ≤ 6 := hMB.2.2.1
        rcases T with ⟨e0, ν, c, k, t0, t1, t2⟩ | ⟨e0, ok, ν, c, k, t0, t1, t2⟩ | ⟨e0, ok, c⟩ | ⟨e0, e1, c⟩ | ⟨e0, e1, ν, c, k, t0, t1, t2⟩
        · have hM1 := hM.to k
          have gd := kT.gr (hT.to k)
          rw [t0] at gd
          have r1 := kaI (kM.a108 hM1) (x := d) (by omega) (by omega)
          rw [k.gi (by omega)] at r1
          have eA : mA ν d = mA μ d := funext fun x => k.gi (by omega) _
          have eC : mC ν d = mC μ d := funext fun x => k.gi (by omega) _
          have V := X12_ch6 hM1 (d := d) (R := gi μ 108 d) (how := how) (b := 0) hd.1 hd.2 (by rw [k.gi (by omega)]) (by omega) (by omega) (by omega) (by rw [eA]; exact hr) (by rw [if_pos e0])
          rw [eA, eC] at V
          rcases V with ⟨ok, ω, c2, rm⟩ | ⟨ok, _⟩
          · refine ⟨(ki (gi μ 108 d), ν), (ki (gi μ 108 d), ω), ?_, fun j => ?_, ?_, rfl, ?_⟩
            · simp (disch := omega) only [f_X11_change, b_X11_change_16, b_X11_change_55, f_X12_change, b_X12_change_16, krcv (kX.y1 hX), kX.o1_3 hX, kS.gd (kX.now hX), kS.gt (kX.now hX), X11_within, X11_isDrawer, f_X11_isFilled, b_X11_isFilled_27, b_X11_isFilled_26, f_X11_isRow, b_X11_isRow_35, b_X11_isRow_34, f_X11_isPart, b_X11_isPart_14, b_X11_isPart_9, kT.gr hT, krcv hT.y, hR, c, gd, ki_0, ki_1, ki_2, ki_3, ki_4, ki_5, ki_6, ki_7, ki_8, ki_9, ki_10, ki_11, ki_12, ki_13, ki_18, ki_20, ki_24, ki_32, ki_36, ki_45, ki_47, ki_48, ki_50, ki_57, ki_60, ki_63, ki_99, ki_100, ki_101, ki_120, ki_255, ki_468, ki_1000, ki_1024, ki_13849, ki_25173, ki_65535, ki_65536, ki_100000, ki_100001, ki_2147483647, ki_2147483648, kl_0, kl_1, kl_2, kl_9223372036854775808, ki_add, ki_sub, ki_mul, ki_neg, kl_add, kl_sub, kl_mul, kl_neg, ki_i2l, kl_l2i, ki_lt, ki_le, ki_eq, kcmp_eq, kcmp_lt, kcmp_le, kcmp_gt, kcmp_ge, Option.bind_some, Option.map_some, kbool0, kbool1, if_pos, if_neg, if_true, if_false, Int.neg_neg, Int.sub_zero, Int.add_zero, Int.zero_add, true_and, and_true, false_and, and_false, false_or, or_false, true_or, or_true, ne_eq, not_false_eq_true, not_true_eq_false]
            · show ν 0 j = μ 0 j
              rw [k.1 0 (by omega)]
            · subst e0
              simp (disch := omega) only [f_X11_change, b_X11_change_16, b_X11_change_55, f_X12_change, b_X12_change_16, X12_in, X12_isDrawer, kM.o26 hM1, r1, c2, ki_0, ki_1, ki_2, ki_3, ki_4, ki_5, ki_6, ki_7, ki_8, ki_9, ki_10, ki_11, ki_12, ki_13, ki_18, ki_20, ki_24, ki_32, ki_36, ki_45, ki_47, ki_48, ki_50, ki_57, ki_60, ki_63, ki_99, ki_100, ki_101, ki_120, ki_255, ki_468, ki_1000, ki_1024, ki_13849, ki_25173, ki_65535, ki_65536, ki_100000, ki_100001, ki_2147483647, ki_2147483648, kl_0, kl_1, kl_2, kl_9223372036854775808, ki_add, ki_sub, ki_mul, ki_neg, kl_add, kl_sub, kl_mul, kl_neg, ki_i2l, kl_l2i, ki_lt, ki_le, ki_eq, kcmp_eq, kcmp_lt, kcmp_le, kcmp_gt, kcmp_ge, Option.bind_some, Option.map_some, kbool0, kbool1, if_pos, if_neg, if_true, if_false, Int.neg_neg, Int.sub_zero, Int.add_zero, Int.zero_add, true_and, and_true, false_and, and_false, false_or, or_false, true_or, or_true, ne_eq, not_false_eq_true, not_true_eq_false]
            · refine chUpd h hd.1 hd.2 k rm (by omega) (by omega) t0 (fun x p q => ?_) (fun x p q => ?_)
              · unfold chC
                rw [t1 x p q, if_pos e0, hA _ (by omega) (by omega)]
                exact ⟨rfl, hr _ (by omega) (by omega)⟩
              · unfold chD
                rw [t2 x p q, if_pos e0, hC _ (by omega) (by omega)]
                exact ⟨rfl, hMB.2.2.2 _ (by omega) (by omega)⟩
          · exact absurd (fun x p q => by have := hr x p q; omega) ok
        · have hM1 := hM.to k
          have gd := kT.gr (hT.to k)
          rw [t0] at gd
          have r1 := kaI (kM.a108 hM1) (x := d) (by omega) (by omega)
          rw [k.gi (by omega)] at r1
          have eA : mA ν d = mA μ d := funext fun x => k.gi (by omega) _
          have eC : mC ν d = mC μ d := funext fun x => k.gi (by omega) _
          have V := X12_ch6 hM1 (d := d) (R := gi μ 108 d) (how := how) (b := 3 - 2 * how) hd.1 hd.2 (by rw [k.gi (by omega)]) (by omega) (by omega) (by omega) (by rw [eA]; exact hr) (by rw [if_neg (by omega)])
          rw [eA, eC] at V
          rcases V with ⟨_, ω, c2, rm⟩ | ⟨ok2, _⟩
          · refine ⟨(ki (gi μ 108 d), ν), (ki (gi μ 108 d), ω), ?_, fun j => ?_, ?_, rfl, ?_⟩
            · simp (disch := omega) only [f_X11_change, b_X11_change_16, b_X11_change_55, f_X12_change, b_X12_change_16, krcv (kX.y1 hX), kX.o1_3 hX, kS.gd (kX.now hX), kS.gt (kX.now hX), X11_within, X11_isDrawer, f_X11_isFilled, b_X11_isFilled_27, b_X11_isFilled_26, f_X11_isRow, b_X11_isRow_35, b_X11_isRow_34, f_X11_isPart, b_X11_isPart_14, b_X11_isPart_9, kT.gr hT, krcv hT.y, hR, c, gd, ki_0, ki_1, ki_2, ki_3, ki_4, ki_5, ki_6, ki_7, ki_8, ki_9, ki_10, ki_11, ki_12, ki_13, ki_18, ki_20, ki_24, ki_32, ki_36, ki_45, ki_47, ki_48, ki_50, ki_57, ki_60, ki_63, ki_99, ki_100, ki_101, ki_120, ki_255, ki_468, ki_1000, ki_1024, ki_13849, ki_25173, ki_65535, ki_65536, ki_100000, ki_100001, ki_2147483647, ki_2147483648, kl_0, kl_1, kl_2, kl_9223372036854775808, ki_add, ki_sub, ki_mul, ki_neg, kl_add, kl_sub, kl_mul, kl_neg, ki_i2l, kl_l2i, ki_lt, ki_le, ki_eq, kcmp_eq, kcmp_lt, kcmp_le, kcmp_gt, kcmp_ge, Option.bind_some, Option.map_some, kbool0, kbool1, if_pos, if_neg, if_true, if_false, Int.neg_neg, Int.sub_zero, Int.add_zero, Int.zero_add, true_and, and_true, false_and, and_false, false_or, or_false, true_or, or_true, ne_eq, not_false_eq_true, not_true_eq_false]
            · show ν 0 j = μ 0 j
              rw [k.1 0 (by omega)]
            · rcases e0 with rfl | rfl
              · have c3 : b_X12_change_146 Y 95 (ki d) (ki 1) (ki (gi μ 108 d)) (ki 1) ν = some (ki (gi μ 108 d), ω) := c2
                simp (disch := omega) only [f_X11_change, b_X11_change_16, b_X11_change_55, f_X12_change, b_X12_change_16, X12_in, X12_isDrawer, kM.o26 hM1, r1, c3, ki_0, ki_1, ki_2, ki_3, ki_4, ki_5, ki_6, ki_7, ki_8, ki_9, ki_10, ki_11, ki_12, ki_13, ki_18, ki_20, ki_24, ki_32, ki_36, ki_45, ki_47, ki_48, ki_50, ki_57, ki_60, ki_63, ki_99, ki_100, ki_101, ki_120, ki_255, ki_468, ki_1000, ki_1024, ki_13849, ki_25173, ki_65535, ki_65536, ki_100000, ki_100001, ki_2147483647, ki_2147483648, kl_0, kl_1, kl_2, kl_9223372036854775808, ki_add, ki_sub, ki_mul, ki_neg, kl_add, kl_sub, kl_mul, kl_neg, ki_i2l, kl_l2i, ki_lt, ki_le, ki_eq, kcmp_eq, kcmp_lt, kcmp_le, kcmp_gt, kcmp_ge, Option.bind_some, Option.map_some, kbool0, kbool1, if_pos, if_neg, if_true, if_false, Int.neg_neg, Int.sub_zero, Int.add_zero, Int.zero_add, true_and, and_true, false_and, and_false, false_or, or_false, true_or, or_true, ne_eq, not_false_eq_true, not_true_eq_false]
              · have c3 : b_X12_change_146 Y 95 (ki d) (ki 2) (ki (gi μ 108 d)) (ki (-1)) ν = some (ki (gi μ 108 d), ω) := c2
                simp (disch := omega) only [f_X11_change, b_X11_change_16, b_X11_change_55, f_X12_change, b_X12_change_16, X12_in, X12_isDrawer, kM.o26 hM1, r1, c3, ki_0, ki_1, ki_2, ki_3, ki_4, ki_5, ki_6, ki_7, ki_8, ki_9, ki_10, ki_11, ki_12, ki_13, ki_18, ki_20, ki_24, ki_32, ki_36, ki_45, ki_47, ki_48, ki_50, ki_57, ki_60, ki_63, ki_99, ki_100, ki_101, ki_120, ki_255, ki_468, ki_1000, ki_1024, ki_13849, ki_25173, ki_65535, ki_65536, ki_100000, ki_100001, ki_2147483647, ki_2147483648, kl_0, kl_1, kl_2, kl_9223372036854775808, ki_add, ki_sub, ki_mul, ki_neg, kl_add, kl_sub, kl_mul, kl_neg, ki_i2l, kl_l2i, ki_lt, ki_le, ki_eq, kcmp_eq, kcmp_lt, kcmp_le, kcmp_gt, kcmp_ge, Option.bind_some, Option.map_some, kbool0, kbool1, if_pos, if_neg, if_true, if_false, Int.neg_neg, Int.sub_zero, Int.add_zero, Int.zero_add, true_and, and_true, false_and, and_false, false_or, or_false, true_or, or_true, ne_eq, not_false_eq_true, not_true_eq_false]
            · refine chUpd h hd.1 hd.2 k rm (by omega) (by omega) t0 (fun x p q => ?_) (fun x p q => ?_)
              · unfold chC
                have := ok x p q
                rw [hA _ (by omega) (by omega)] at this
                rw [t1 x p q, if_neg (by omega), if_pos (by omega), hA _ (by omega) (by omega)]
                exact ⟨rfl, this⟩
              · unfold chD
                rw [t2 x p q, if_neg (by omega), if_pos (by omega), hC _ (by omega) (by omega)]
                exact ⟨rfl, hMB.2.2.2 _ (by omega) (by omega)⟩
          · exact absurd (fun x p q => by have := ok x p q; rw [hA x p q] at this; exact this) ok2
        · have V := X12_ch6 hM (d := d) (R := gi μ 108 d) (how := how) (b := 3 - 2 * how) hd.1 hd.2 rfl (by omega) (by omega) (by omega) hr (by rw [if_neg (by omega)])
          rcases V with ⟨ok2, _⟩ | ⟨_, c2⟩
          · exact absurd (fun x p q => by rw [hA x p q]; exact ok2 x p q) ok
          · refine ⟨(ki (-3), μ), (ki (-3), μ), ?_, fun j => rfl, ?_, rfl, h⟩
            · simp (disch := omega) only [f_X11_change, b_X11_change_16, b_X11_change_55, f_X12_change, b_X12_change_16, krcv (kX.y1 hX), kX.o1_3 hX, kS.gd (kX.now hX), kS.gt (kX.now hX), X11_within, X11_isDrawer, f_X11_isFilled, b_X11_isFilled_27, b_X11_isFilled_26, f_X11_isRow, b_X11_isRow_35, b_X11_isRow_34, f_X11_isPart, b_X11_isPart_14, b_X11_isPart_9, kT.gr hT, krcv hT.y, hR, c, ki_0, ki_1, ki_2, ki_3, ki_4, ki_5, ki_6, ki_7, ki_8, ki_9, ki_10, ki_11, ki_12, ki_13, ki_18, ki_20, ki_24, ki_32, ki_36, ki_45, ki_47, ki_48, ki_50, ki_57, ki_60, ki_63, ki_99, ki_100, ki_101, ki_120, ki_255, ki_468, ki_1000, ki_1024, ki_13849, ki_25173, ki_65535, ki_65536, ki_100000, ki_100001, ki_2147483647, ki_2147483648, kl_0, kl_1, kl_2, kl_9223372036854775808, ki_add, ki_sub, ki_mul, ki_neg, kl_add, kl_sub, kl_mul, kl_neg, ki_i2l, kl_l2i, ki_lt, ki_le, ki_eq, kcmp_eq, kcmp_lt, kcmp_le, kcmp_gt, kcmp_ge, Option.bind_some, Option.map_some, kbool0, kbool1, if_pos, if_neg, if_true, if_false, Int.neg_neg, Int.sub_zero, Int.add_zero, Int.zero_add, true_and, and_true, false_and, and_false, false_or, or_false, true_or, or_true, ne_eq, not_false_eq_true, not_true_eq_false]
            · rcases e0 with rfl | rfl
              · have c3 : b_X12_change_146 Y 95 (ki d) (ki 1) (ki (gi μ 108 d)) (ki 1) μ = some (ki (-3), μ) := c2
                simp (disch := omega) only [f_X11_change, b_X11_change_16, b_X11_change_55, f_X12_change, b_X12_change_16, X12_in, X12_isDrawer, kM.o26 hM, kaI (kM.a108 hM), c3, ki_0, ki_1, ki_2, ki_3, ki_4, ki_5, ki_6, ki_7, ki_8, ki_9, ki_10, ki_11, ki_12, ki_13, ki_18, ki_20, ki_24, ki_32, ki_36, ki_45, ki_47, ki_48, ki_50, ki_57, ki_60, ki_63, ki_99, ki_100, ki_101, ki_120, ki_255, ki_468, ki_1000, ki_1024, ki_13849, ki_25173, ki_65535, ki_65536, ki_100000, ki_100001, ki_2147483647, ki_2147483648, kl_0, kl_1, kl_2, kl_9223372036854775808, ki_add, ki_sub, ki_mul, ki_neg, kl_add, kl_sub, kl_mul, kl_neg, ki_i2l, kl_l2i, ki_lt, ki_le, ki_eq, kcmp_eq, kcmp_lt, kcmp_le, kcmp_gt, kcmp_ge, Option.bind_some, Option.map_some, kbool0, kbool1, if_pos, if_neg, if_true, if_false, Int.neg_neg, Int.sub_zero, Int.add_zero, Int.zero_add, true_and, and_true, false_and, and_false, false_or, or_false, true_or, or_true, ne_eq, not_false_eq_true, not_true_eq_false]
              · have c3 : b_X12_change_146 Y 95 (ki d) (ki 2) (ki (gi μ 108 d)) (ki (-1)) μ = some (ki (-3), μ) := c2
                simp (disch := omega) only [f_X11_change, b_X11_change_16, b_X11_change_55, f_X12_change, b_X12_change_16, X12_in, X12_isDrawer, kM.o26 hM, kaI (kM.a108 hM), c3, ki_0, ki_1, ki_2, ki_3, ki_4, ki_5, ki_6, ki_7, ki_8, ki_9, ki_10, ki_11, ki_12, ki_13, ki_18, ki_20, ki_24, ki_32, ki_36, ki_45, ki_47, ki_48, ki_50, ki_57, ki_60, ki_63, ki_99, ki_100, ki_101, ki_120, ki_255, ki_468, ki_1000, ki_1024, ki_13849, ki_25173, ki_65535, ki_65536, ki_100000, ki_100001, ki_2147483647, ki_2147483648, kl_0, kl_1, kl_2, kl_9223372036854775808, ki_add, ki_sub, ki_mul, ki_neg, kl_add, kl_sub, kl_mul, kl_neg, ki_i2l, kl_l2i, ki_lt, ki_le, ki_eq, kcmp_eq, kcmp_lt, kcmp_le, kcmp_gt, kcmp_ge, Option.bind_some, Option.map_some, kbool0, kbool1, if_pos, if_neg, if_true, if_false, Int.neg_neg, Int.sub_zero, Int.add_zero, Int.zero_add, true_and, and_true, false_and, and_false, false_or, or_false, true_or, or_true, ne_eq, not_false_eq_true, not_true_eq_false]
        · refine ⟨(ki (-3), μ), (ki (-3), μ), ?_, fun j => rfl, ?_, rfl, h⟩
          · simp (disch := omega) only [f_X11_change, b_X11_change_16, b_X11_change_55, f_X12_change, b_X12_change_16, krcv (kX.y1 hX), kX.o1_3 hX, kS.gd (kX.now hX), kS.gt (kX.now hX), X11_within, X11_isDrawer, f_X11_isFilled, b_X11_isFilled_27, b_X11_isFilled_26, f_X11_isRow, b_X11_isRow_35, b_X11_isRow_34, f_X11_isPart, b_X11_isPart_14, b_X11_isPart_9, kT.gr hT, krcv hT.y, hR, c, ki_0, ki_1, ki_2, ki_3, ki_4, ki_5, ki_6, ki_7, ki_8, ki_9, ki_10, ki_11, ki_12, ki_13, ki_18, ki_20, ki_24, ki_32, ki_36, ki_45, ki_47, ki_48, ki_50, ki_57, ki_60, ki_63, ki_99, ki_100, ki_101, ki_120, ki_255, ki_468, ki_1000, ki_1024, ki_13849, ki_25173, ki_65535, ki_65536, ki_100000, ki_100001, ki_2147483647, ki_2147483648, kl_0, kl_1, kl_2, kl_9223372036854775808, ki_add, ki_sub, ki_mul, ki_neg, kl_add, kl_sub, kl_mul, kl_neg, ki_i2l, kl_l2i, ki_lt, ki_le, ki_eq, kcmp_eq, kcmp_lt, kcmp_le, kcmp_gt, kcmp_ge, Option.bind_some, Option.map_some, kbool0, kbool1, if_pos, if_neg, if_true, if_false, Int.neg_neg, Int.sub_zero, Int.add_zero, Int.zero_add, true_and, and_true, false_and, and_false, false_or, or_false, true_or, or_true, ne_eq, not_false_eq_true, not_true_eq_false]
          · simp (disch := omega) only [f_X11_change, b_X11_change_16, b_X11_change_55, f_X12_change, b_X12_change_16, X12_in, X12_isDrawer, kM.o26 hM, kaI (kM.a108 hM), ki_0, ki_1, ki_2, ki_3, ki_4, ki_5, ki_6, ki_7, ki_8, ki_9, ki_10, ki_11, ki_12, ki_13, ki_18, ki_20, ki_24, ki_32, ki_36, ki_45, ki_47, ki_48, ki_50, ki_57, ki_60, ki_63, ki_99, ki_100, ki_101, ki_120, ki_255, ki_468, ki_1000, ki_1024, ki_13849, ki_25173, ki_65535, ki_65536, ki_100000, ki_100001, ki_2147483647, ki_2147483648, kl_0, kl_1, kl_2, kl_9223372036854775808, ki_add, ki_sub, ki_mul, ki_neg, kl_add, kl_sub, kl_mul, kl_neg, ki_i2l, kl_l2i, ki_lt, ki_le, ki_eq, kcmp_eq, kcmp_lt, kcmp_le, kcmp_gt, kcmp_ge, Option.bind_some, Option.map_some, kbool0, kbool1, if_pos, if_neg, if_true, if_false, Int.neg_neg, Int.sub_zero, Int.add_zero, Int.zero_add, true_and, and_true, false_and, and_false, false_or, or_false, true_or, or_true, ne_eq, not_false_eq_true, not_true_eq_false]
        · have hM1 := hM.to k
          have gd := kT.gr (hT.to k)
          rw [t0] at gd
          have r1 := kaI (kM.a108 hM1) (x := d) (by omega) (by omega)
          rw [k.gi (by omega)] at r1
          have eA : mA ν d = mA μ d := funext fun x => k.gi (by omega) _
          have eC : mC ν d = mC μ d := funext fun x => k.gi (by omega) _
          obtain ⟨ω, c2, rm⟩ := X12_ch7 hM1 (d := d) (R := gi μ 108 d) (how := how) hd.1 hd.2 (by rw [k.gi (by omega)]) e1 (by omega) (by omega)
          rw [eA, eC] at rm
          refine ⟨(ki (gi μ 108 d - 1), ν), (ki (gi μ 108 d - 1), ω), ?_, fun j => ?_, ?_, rfl, ?_⟩
          · simp (disch := omega) only [f_X11_change, b_X11_change_16, b_X11_change_55, f_X12_change, b_X12_change_16, krcv (kX.y1 hX), kX.o1_3 hX, kS.gd (kX.now hX), kS.gt (kX.now hX), X11_within, X11_isDrawer, f_X11_isFilled, b_X11_isFilled_27, b_X11_isFilled_26, f_X11_isRow, b_X11_isRow_35, b_X11_isRow_34, f_X11_isPart, b_X11_isPart_14, b_X11_isPart_9, kT.gr hT, krcv hT.y, hR, c, gd, ki_0, ki_1, ki_2, ki_3, ki_4, ki_5, ki_6, ki_7, ki_8, ki_9, ki_10, ki_11, ki_12, ki_13, ki_18, ki_20, ki_24, ki_32, ki_36, ki_45, ki_47, ki_48, ki_50, ki_57, ki_60, ki_63, ki_99, ki_100, ki_101, ki_120, ki_255, ki_468, ki_1000, ki_1024, ki_13849, ki_25173, ki_65535, ki_65536, ki_100000, ki_100001, ki_2147483647, ki_2147483648, kl_0, kl_1, kl_2, kl_9223372036854775808, ki_add, ki_sub, ki_mul, ki_neg, kl_add, kl_sub, kl_mul, kl_neg, ki_i2l, kl_l2i, ki_lt, ki_le, ki_eq, kcmp_eq, kcmp_lt, kcmp_le, kcmp_gt, kcmp_ge, Option.bind_some, Option.map_some, kbool0, kbool1, if_pos, if_neg, if_true, if_false, Int.neg_neg, Int.sub_zero, Int.add_zero, Int.zero_add, true_and, and_true, false_and, and_false, false_or, or_false, true_or, or_true, ne_eq, not_false_eq_true, not_true_eq_false]
          · show ν 0 j = μ 0 j
            rw [k.1 0 (by omega)]
          · simp (disch := omega) only [f_X11_change, b_X11_change_16, b_X11_change_55, f_X12_change, b_X12_change_16, X12_in, X12_isDrawer, kM.o26 hM1, r1, ki_0, ki_1, ki_2, ki_3, ki_4, ki_5, ki_6, ki_7, ki_8, ki_9, ki_10, ki_11, ki_12, ki_13, ki_18, ki_20, ki_24, ki_32, ki_36, ki_45, ki_47, ki_48, ki_50, ki_57, ki_60, ki_63, ki_99, ki_100, ki_101, ki_120, ki_255, ki_468, ki_1000, ki_1024, ki_13849, ki_25173, ki_65535, ki_65536, ki_100000, ki_100001, ki_2147483647, ki_2147483648, kl_0, kl_1, kl_2, kl_9223372036854775808, ki_add, ki_sub, ki_mul, ki_neg, kl_add, kl_sub, kl_mul, kl_neg, ki_i2l, kl_l2i, ki_lt, ki_le, ki_eq, kcmp_eq, kcmp_lt, kcmp_le, kcmp_gt, kcmp_ge, Option.bind_some, Option.map_some, kbool0, kbool1, if_pos, if_neg, if_true, if_false, Int.neg_neg, Int.sub_zero, Int.add_zero, Int.zero_add, true_and, and_true, false_and, and_false, false_or, or_false, true_or, or_true, ne_eq, not_false_eq_true, not_true_eq_false]
            exact c2
          · refine chUpd h hd.1 hd.2 k rm (by omega) (by omega) t0 (fun x p q => ?_) (fun x p q => ?_)
            · unfold chC
              rw [t1 x p q, if_neg (by omega), if_neg (by omega), hA _ (by omega) (by omega)]
              exact ⟨rfl, hr _ (by omega) (by omega)⟩
            · unfold chD
              rw [t2 x p (by omega), if_neg (by omega), if_neg (by omega), hC _ (by omega) (by omega)]
              exact ⟨rfl, hMB.2.2.2 _ (by omega) (by omega)⟩
    · refine ⟨(ki (-1), μ), (ki (-1), μ), ?_, fun _ => rfl, ?_, rfl, h⟩ <;> simp (disch := omega) only [f_X11_change, b_X11_change_16, b_X11_change_55, f_X12_change, b_X12_change_16, krcv (kX.y1 hX), kX.o1_3 hX, kS.gd (kX.now hX), kS.gt (kX.now hX), X11_within, X11_isDrawer, f_X11_isFilled, b_X11_isFilled_27, b_X11_isFilled_26, f_X11_isRow, b_X11_isRow_35, b_X11_isRow_34, f_X11_isPart, b_X11_isPart_14, b_X11_isPart_9, krcv (kM.y hM), kM.o26 hM, kaI (kM.a108 hM), X12_in, X12_isDrawer, ki_0, ki_1, ki_2, ki_3, ki_4, ki_5, ki_6, ki_7, ki_8, ki_9, ki_10, ki_11, ki_12, ki_13, ki_18, ki_20, ki_24, ki_32, ki_36, ki_45, ki_47, ki_48, ki_50, ki_57, ki_60, ki_63, ki_99, ki_100, ki_101, ki_120, ki_255, ki_468, ki_1000, ki_1024, ki_13849, ki_25173, ki_65535, ki_65536, ki_100000, ki_100001, ki_2147483647, ki_2147483648, kl_0, kl_1, kl_2, kl_9223372036854775808, ki_add, ki_sub, ki_mul, ki_neg, kl_add, kl_sub, kl_mul, kl_neg, ki_i2l, kl_l2i, ki_lt, ki_le, ki_eq, kcmp_eq, kcmp_lt, kcmp_le, kcmp_gt, kcmp_ge, Option.bind_some, Option.map_some, kbool0, kbool1, if_pos, if_neg, if_true, if_false, Int.neg_neg, Int.sub_zero, Int.add_zero, Int.zero_add, true_and, and_true, false_and, and_false, false_or, or_false, true_or, or_true, ne_eq, not_false_eq_true, not_true_eq_false]
  · refine ⟨(ki (-1), μ), (ki (-1), μ), ?_, fun _ => rfl, ?_, rfl, h⟩ <;> simp (disch := omega) only [f_X11_change, b_X11_change_16, b_X11_change_55, f_X12_change, b_X12_change_16, krcv (kX.y1 hX), kX.o1_3 hX, kS.gd (kX.now hX), kS.gt (kX.now hX), X11_within, X11_isDrawer, f_X11_isFilled, b_X11_isFilled_27, b_X11_isFilled_26, f_X11_isRow, b_X11_isRow_35, b_X11_isRow_34, f_X11_isPart, b_X11_isPart_14, b_X11_isPart_9, krcv (kM.y hM), kM.o26 hM, kaI (kM.a108 hM), X12_in, X12_isDrawer, ki_0, ki_1, ki_2, ki_3, ki_4, ki_5, ki_6, ki_7, ki_8, ki_9, ki_10, ki_11, ki_12, ki_13, ki_18, ki_20, ki_24, ki_32, ki_36, ki_45, ki_47, ki_48, ki_50, ki_57, ki_60, ki_63, ki_99, ki_100, ki_101, ki_120, ki_255, ki_468, ki_1000, ki_1024, ki_13849, ki_25173, ki_65535, ki_65536, ki_100000, ki_100001, ki_2147483647, ki_2147483648, kl_0, kl_1, kl_2, kl_9223372036854775808, ki_add, ki_sub, ki_mul, ki_neg, kl_add, kl_sub, kl_mul, kl_neg, ki_i2l, kl_l2i, ki_lt, ki_le, ki_eq, kcmp_eq, kcmp_lt, kcmp_le, kcmp_gt, kcmp_ge, Option.bind_some, Option.map_some, kbool0, kbool1, if_pos, if_neg, if_true, if_false, Int.neg_neg, Int.sub_zero, Int.add_zero, Int.zero_add, true_and, and_true, false_and, and_false, false_or, or_false, true_or, or_true, ne_eq, not_false_eq_true, not_true_eq_false]
