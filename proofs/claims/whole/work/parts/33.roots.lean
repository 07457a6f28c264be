/-! ROOTS cut to parts, whole roots -/
theorem kdiv {a b : Int} (h0 : 0 ≤ a) (h1 : a ≤ 2147483647) (h2 : 0 < b) (h3 : b ≤ 2147483647) : jdivI (ki a) (ki b) = some (ki (a / b)) := by
  unfold jdivI
  have e : ¬ ki b = 0 := by
    rw [ki_0, ki_eq (by omega) (by omega) (by omega) (by omega)]
    omega
  rw [if_neg e]
  have h := Int32.ofInt_tdiv (a := a) (b := b) (by show -2147483648 ≤ a; omega) (by show a ≤ 2147483647; omega) (by show -2147483648 ≤ b; omega) (by show b ≤ 2147483647; omega)
  rw [Int.tdiv_eq_ediv_of_nonneg h0] at h
  rw [show ki a / ki b = ki (a / b) from h.symm]
theorem krem {a b : Int} (h0 : 0 ≤ a) (h1 : a ≤ 2147483647) (h2 : 0 < b) (h3 : b ≤ 2147483647) : jremI (ki a) (ki b) = some (ki (a % b)) := by
  have h := kdiv h0 h1 h2 h3
  unfold jdivI at h
  unfold jremI
  have e : ¬ ki b = 0 := by
    rw [ki_0, ki_eq (by omega) (by omega) (by omega) (by omega)]
    omega
  rw [if_neg e] at h ⊢
  rw [Option.some.inj h, ki_mul, ki_sub]
  congr 2
  have := Int.emod_add_mul_ediv a b
  have h5 : a / b * b = b * (a / b) := Int.mul_comm _ _
  omega
def isRt (A C : Int → Int) (q fr : Int) (k : Nat) (i t : Int) : Prop := (rb A C t q fr k).1 ≤ i ∧ i < (rb A C (t + 1) q fr k).1
noncomputable def rt (A C : Int → Int) (q fr : Int) (k : Nat) (i : Int) : Int := Classical.epsilon (isRt A C q fr k i)
theorem rt_eq {A C : Int → Int} {q fr : Int} {k : Nat} {i t : Int} (hq : 0 < q) (hC : ∀ x, fr ≤ x → x < fr + k - 1 → 1 ≤ C x) (h : isRt A C q fr k i t) : rt A C q fr k i = t := by
  have h2 : isRt A C q fr k i (rt A C q fr k i) := Classical.epsilon_spec ⟨t, h⟩
  have m1 := @rb_mono A C
  rcases Int.lt_trichotomy (rt A C q fr k i) t with g | g | g
  · have := @rb_mono A C (rt A C q fr k i + 1) t q fr hq (by omega) k hC
    obtain ⟨h3, h4⟩ := h
    obtain ⟨h5, h6⟩ := h2
    omega
  · exact g
  · have := @rb_mono A C (t + 1) (rt A C q fr k i) q fr hq (by omega) k hC
    obtain ⟨h3, h4⟩ := h
    obtain ⟨h5, h6⟩ := h2
    omega
theorem p2s : ∀ j : Nat, j < 11 → (0 : Int) < 1024 / 2 ^ j ∧ (2048 : Int) / 2 ^ j = 2 * (1024 / 2 ^ j) ∧ (2048 : Int) / 2 ^ (j + 1) = 1024 / 2 ^ j ∧ (1024 : Int) / 2 ^ j / 2 = 1024 / 2 ^ (j + 1) ∧ (1024 : Int) / 2 ^ j ≤ 1024 := by decide
set_option maxRecDepth 4000 in
theorem X10_rootInParts {Y : jY} {μ : jM} {o : Nat} (hT : kT Y μ o) (hB : kTb μ o) {k i q : Int} (hk : 1 ≤ k) (hr : k ≤ gi μ o 0) (hi1 : 0 ≤ i) (hi2 : i < k) (hq1 : 1 ≤ q) (hq2 : q ≤ 50) :
    f_X10_rootInParts Y o (ki k) (ki i) (ki q) μ = some (ki (rt (gi μ (o + 1)) (gi μ (o + 2)) q 0 k.toNat i), μ) ∧ -(18 * q) ≤ rt (gi μ (o + 1)) (gi μ (o + 2)) q 0 k.toNat i ∧ rt (gi μ (o + 1)) (gi μ (o + 2)) q 0 k.toNat i ≤ 18 * q := by
  have hb5 := hB.2.1
  have hA := hB.A (fr := 0) (n := k.toNat) (Int.le_refl 0) (by omega)
  have hC := hB.C (fr := 0) (n := k.toNat) (Int.le_refl 0) (by omega)
  have hC1 : ∀ x, 0 ≤ x → x < 0 + (k.toNat : Int) - 1 → 1 ≤ gi μ (o + 2) x := fun x a b => (hC x a b).1
  have hfar := rb_far (A := gi μ (o + 1)) (C := gi μ (o + 2)) (p := 18 * q + 1) (q := q) (fr := 0) (k := k.toNat) (by omega) (by omega) hA hC
  have hnear := rb_near (A := gi μ (o + 1)) (C := gi μ (o + 2)) (p := -(18 * q)) (q := q) (fr := 0) (k := k.toNat) (by omega) (by omega) hA hC
  have mono : ∀ a b, a ≤ b → (rb (gi μ (o + 1)) (gi μ (o + 2)) a q 0 k.toNat).1 ≤ (rb (gi μ (o + 1)) (gi μ (o + 2)) b q 0 k.toNat).1 := fun a b h => rb_mono (by omega) h hC1
  have main : ∃ r, f_X10_rootInParts Y o (ki k) (ki i) (ki q) μ = some r ∧ (∃ t, r = (ki t, μ) ∧ -(18 * q) ≤ t ∧ t ≤ 18 * q ∧ isRt (gi μ (o + 1)) (gi μ (o + 2)) q 0 k.toNat i t) := by
    unfold f_X10_rootInParts
    refine jit_inv (fun j s => j ≤ 11 ∧ ∃ t : Int, s = (ki t, ki (1024 / 2 ^ j), μ) ∧ -(18 * q) ≤ t ∧ t ≤ 18 * q ∧ (rb (gi μ (o + 1)) (gi μ (o + 2)) t q 0 k.toNat).1 ≤ i ∧ i < (rb (gi μ (o + 1)) (gi μ (o + 2)) (t + 2048 / 2 ^ j) q 0 k.toNat).1) _ 11 ⟨by omega, -(18 * q), ?_, by omega, by omega, by omega, ?_⟩ (by omega) ?_
    · rw [ki_18, ki_neg, ki_mul]
      congr 2
      omega
    · have := mono (18 * q + 1) (-(18 * q) + 2048 / 2 ^ 0) (by omega)
      omega
    · rintro j s - ⟨hj, t, rfl, t1, t2, t3, t4⟩
      by_cases hj2 : j = 11
      · subst hj2
        refine ⟨.inr (ki t, μ), ?_, t, rfl, t1, t2, t3, ?_⟩
        · simp (disch := omega) only [b_X10_rootInParts_11, ki_0, ki_1, ki_2, ki_3, ki_4, ki_5, ki_6, ki_7, ki_8, ki_9, ki_10, ki_11, ki_12, ki_13, ki_18, ki_20, ki_24, ki_32, ki_36, ki_45, ki_47, ki_48, ki_50, ki_57, ki_60, ki_63, ki_99, ki_100, ki_101, ki_120, ki_255, ki_468, ki_1000, ki_1024, ki_13849, ki_25173, ki_65535, ki_65536, ki_100000, ki_100001, ki_2147483647, ki_2147483648, kl_0, kl_1, kl_2, kl_9223372036854775808, ki_add, ki_sub, ki_mul, ki_neg, kl_add, kl_sub, kl_mul, kl_neg, ki_i2l, kl_l2i, ki_lt, ki_le, ki_eq, kcmp_eq, kcmp_lt, kcmp_le, kcmp_gt, kcmp_ge, Option.bind_some, Option.map_some, kbool0, kbool1, if_pos, if_neg, Int.neg_neg, Int.sub_zero, Int.add_zero, Int.zero_add, true_and, and_true, ne_eq, not_false_eq_true, not_true_eq_false]
        · have : (2048 : Int) / 2 ^ 11 = 1 := by decide
          rw [this] at t4
          exact t4
      · obtain ⟨z1, z2, z3, z4, z5⟩ := p2s j (by omega)
        rw [z2] at t4
        generalize hst : (1024 : Int) / 2 ^ j = st at *
        have edn : jdivI (ki st) (ki 2) = some (ki (1024 / 2 ^ (j + 1))) := by rw [kdiv (by omega) (by omega) (by omega) (by omega), z4]
        by_cases h1 : 18 * q < t + st
        · refine ⟨.inl (ki t, ki (1024 / 2 ^ (j + 1)), μ), ?_, by omega, by omega, t, rfl, t1, t2, t3, ?_⟩
          · simp (disch := omega) only [b_X10_rootInParts_11, b_X10_rootInParts_50, edn, ki_0, ki_1, ki_2, ki_3, ki_4, ki_5, ki_6, ki_7, ki_8, ki_9, ki_10, ki_11, ki_12, ki_13, ki_18, ki_20, ki_24, ki_32, ki_36, ki_45, ki_47, ki_48, ki_50, ki_57, ki_60, ki_63, ki_99, ki_100, ki_101, ki_120, ki_255, ki_468, ki_1000, ki_1024, ki_13849, ki_25173, ki_65535, ki_65536, ki_100000, ki_100001, ki_2147483647, ki_2147483648, kl_0, kl_1, kl_2, kl_9223372036854775808, ki_add, ki_sub, ki_mul, ki_neg, kl_add, kl_sub, kl_mul, kl_neg, ki_i2l, kl_l2i, ki_lt, ki_le, ki_eq, kcmp_eq, kcmp_lt, kcmp_le, kcmp_gt, kcmp_ge, Option.bind_some, Option.map_some, kbool0, kbool1, if_pos, if_neg, Int.neg_neg, Int.sub_zero, Int.add_zero, Int.zero_add, true_and, and_true, ne_eq, not_false_eq_true, not_true_eq_false]
          · rw [z3]
            have := mono (18 * q + 1) (t + st) (by omega)
            omega
        · have e := X10_rootsBelow hT hB (k := k) (p := t + st) (q := q) (by omega) hr (by omega) (by omega) (by omega) hq2
          obtain ⟨g1, g2⟩ := rb_rng (gi μ (o + 1)) (gi μ (o + 2)) (t + st) q 0 k.toNat
          by_cases h2 : i < (rb (gi μ (o + 1)) (gi μ (o + 2)) (t + st) q 0 k.toNat).1
          · refine ⟨.inl (ki t, ki (1024 / 2 ^ (j + 1)), μ), ?_, by omega, by omega, t, rfl, t1, t2, t3, ?_⟩
            · simp (disch := omega) only [b_X10_rootInParts_11, b_X10_rootInParts_50, edn, e, kT.ga hT, kT.gc hT, kT.gr hT, kaI (kT.aa hT), kaI (kT.ac hT), kasI (kT.aa hT), kasI (kT.ac hT), krcv (kT.y hT), kT.pr hT, ki_0, ki_1, ki_2, ki_3, ki_4, ki_5, ki_6, ki_7, ki_8, ki_9, ki_10, ki_11, ki_12, ki_13, ki_18, ki_20, ki_24, ki_32, ki_36, ki_45, ki_47, ki_48, ki_50, ki_57, ki_60, ki_63, ki_99, ki_100, ki_101, ki_120, ki_255, ki_468, ki_1000, ki_1024, ki_13849, ki_25173, ki_65535, ki_65536, ki_100000, ki_100001, ki_2147483647, ki_2147483648, kl_0, kl_1, kl_2, kl_9223372036854775808, ki_add, ki_sub, ki_mul, ki_neg, kl_add, kl_sub, kl_mul, kl_neg, ki_i2l, kl_l2i, ki_lt, ki_le, ki_eq, kcmp_eq, kcmp_lt, kcmp_le, kcmp_gt, kcmp_ge, Option.bind_some, Option.map_some, kbool0, kbool1, if_pos, if_neg, Int.neg_neg, Int.sub_zero, Int.add_zero, Int.zero_add, true_and, and_true, ne_eq, not_false_eq_true, not_true_eq_false]
            · rw [z3]; exact h2
          · refine ⟨.inl (ki (t + st), ki (1024 / 2 ^ (j + 1)), μ), ?_, by omega, by omega, t + st, rfl, by omega, by omega, by omega, ?_⟩
            · simp (disch := omega) only [b_X10_rootInParts_11, b_X10_rootInParts_50, edn, e, kT.ga hT, kT.gc hT, kT.gr hT, kaI (kT.aa hT), kaI (kT.ac hT), kasI (kT.aa hT), kasI (kT.ac hT), krcv (kT.y hT), kT.pr hT, ki_0, ki_1, ki_2, ki_3, ki_4, ki_5, ki_6, ki_7, ki_8, ki_9, ki_10, ki_11, ki_12, ki_13, ki_18, ki_20, ki_24, ki_32, ki_36, ki_45, ki_47, ki_48, ki_50, ki_57, ki_60, ki_63, ki_99, ki_100, ki_101, ki_120, ki_255, ki_468, ki_1000, ki_1024, ki_13849, ki_25173, ki_65535, ki_65536, ki_100000, ki_100001, ki_2147483647, ki_2147483648, kl_0, kl_1, kl_2, kl_9223372036854775808, ki_add, ki_sub, ki_mul, ki_neg, kl_add, kl_sub, kl_mul, kl_neg, ki_i2l, kl_l2i, ki_lt, ki_le, ki_eq, kcmp_eq, kcmp_lt, kcmp_le, kcmp_gt, kcmp_ge, Option.bind_some, Option.map_some, kbool0, kbool1, if_pos, if_neg, Int.neg_neg, Int.sub_zero, Int.add_zero, Int.zero_add, true_and, and_true, ne_eq, not_false_eq_true, not_true_eq_false]
            · rw [z3]
              have e3 : t + st + st = t + 2 * st := by omega
              rw [e3]; exact t4
  obtain ⟨r, e, t, rfl, t1, t2, t3⟩ := main
  have := rt_eq (by omega) hC1 t3
  rw [this]
  exact ⟨e, t1, t2⟩
/-- how many of so many whole numbers from -20 on are roots -/
def zc (A C : Int → Int) (fr : Int) (k : Nat) : Nat → Int
  | 0 => 0
  | j + 1 => zc A C fr k j + if (pv A C (-20 + j) 1 fr k).2 = 0 then 1 else 0
theorem zc_succ (A C : Int → Int) (fr : Int) (k j : Nat) : zc A C fr k (j + 1) = zc A C fr k j + if (pv A C (-20 + j) 1 fr k).2 = 0 then 1 else 0 := rfl
theorem zc_rb {A C : Int → Int} {fr : Int} {k : Nat} (hk : 0 < k) (hC : ∀ x, fr ≤ x → x < fr + k - 1 → 1 ≤ C x) {a : Nat} : ∀ d : Nat, zc A C fr k (a + d) - zc A C fr k a ≤ (rb A C (-20 + (a + d : Nat)) 1 fr k).1 - (rb A C (-20 + (a : Nat)) 1 fr k).1 := by
  intro d
  induction d with
  | zero => rw [Nat.add_zero]; omega
  | succ d ih =>
    rw [← Nat.add_assoc, zc_succ]
    have m := rb_mono (A := A) (C := C) (p1 := -20 + (a + d : Nat)) (p2 := -20 + (a + d + 1 : Nat)) (q := 1) (fr := fr) (k := k) (by omega) (by omega) hC
    by_cases h : (pv A C (-20 + (a + d : Nat)) 1 fr k).2 = 0
    · have m2 := rb_root (A := A) (C := C) (p1 := -20 + (a + d : Nat)) (p2 := -20 + (a + d + 1 : Nat)) (q := 1) (fr := fr) (k := k) (by omega) (by omega) hk hC h
      rw [if_pos h]
      omega
    · rw [if_neg h]
      omega
theorem zc_rng (A C : Int → Int) (fr : Int) (k : Nat) : ∀ j : Nat, 0 ≤ zc A C fr k j ∧ zc A C fr k j ≤ j := by
  intro j
  induction j with
  | zero => simp [zc]
  | succ j ih =>
    rw [zc]
    split <;> omega
theorem zc_no {A C : Int → Int} {fr : Int} {k : Nat} (hA : ∀ x, fr ≤ x → x < fr + k → -6 ≤ A x ∧ A x ≤ 6) (hC : ∀ x, fr ≤ x → x < fr + k - 1 → 1 ≤ C x ∧ C x ≤ 36) : zc A C fr k 2 = 0 ∧ zc A C fr k 39 = zc A C fr k 41 := by
  have h0 := (rb_near (A := A) (C := C) (p := -20 + (0 : Nat)) (q := 1) (fr := fr) (k := k) (by omega) (by omega) hA hC).2
  have h1 := (rb_near (A := A) (C := C) (p := -20 + (1 : Nat)) (q := 1) (fr := fr) (k := k) (by omega) (by omega) hA hC).2
  have h2 := (rb_far (A := A) (C := C) (p := -20 + (39 : Nat)) (q := 1) (fr := fr) (k := k) (by omega) (by omega) hA hC).2
  have h3 := (rb_far (A := A) (C := C) (p := -20 + (40 : Nat)) (q := 1) (fr := fr) (k := k) (by omega) (by omega) hA hC).2
  refine ⟨?_, ?_⟩
  · rw [show (2 : Nat) = 0 + 1 + 1 from rfl, zc, zc, zc, if_neg h0, if_neg h1]; rfl
  · rw [zc_succ A C fr k 40, zc_succ A C fr k 39, if_neg h2, if_neg h3]; omega
theorem X10_wholeRoots {Y : jY} {μ : jM} {o : Nat} (hT : kT Y μ o) (hB : kTb μ o) {k : Int} (hk : 0 ≤ k) (hr : k ≤ gi μ o 0) : f_X10_wholeRoots Y o (ki k) μ = some (ki (zc (gi μ (o + 1)) (gi μ (o + 2)) 0 k.toNat 41), μ) := by
  have hb5 := hB.2.1
  obtain ⟨n1, n2⟩ := zc_no (A := gi μ (o + 1)) (C := gi μ (o + 2)) (fr := 0) (k := k.toNat) (hB.A (Int.le_refl 0) (by omega)) (hB.C (Int.le_refl 0) (by omega))
  rw [← n2]
  unfold f_X10_wholeRoots
  refine jit_run (fun i => (ki (zc (gi μ (o + 1)) (gi μ (o + 2)) 0 k.toNat (i + 2)), ki (-18 + i), μ)) _ 37 (by rw [n1]; rfl) (by omega) (fun i hi => ?_) ?_
  · have e := X10_valueAt hT hB (fr := 0) (k := k) (p := -18 + i) (q := 1) (by omega) hk (by omega) (by omega) (by omega) (by omega) (by omega)
    obtain ⟨v1, v2⟩ := pv_rng (A := gi μ (o + 1)) (C := gi μ (o + 2)) (p := -18 + i) (q := 1) (fr := 0) (n := k.toNat) (hB.A (Int.le_refl 0) (by omega)) (hB.C (Int.le_refl 0) (by omega)) (by omega) (by omega) (by omega) (by omega) (by omega) (i := k.toNat) (by omega)
    obtain ⟨z1, z2⟩ := zc_rng (gi μ (o + 1)) (gi μ (o + 2)) 0 k.toNat (i + 2)
    have ee : (-20 : Int) + (i + 2 : Nat) = -18 + i := by omega
    have es := zc_succ (gi μ (o + 1)) (gi μ (o + 2)) 0 k.toNat (i + 2)
    rw [ee] at es
    rw [show i + 1 + 2 = i + 2 + 1 from by omega, es]
    by_cases h : (pv (gi μ (o + 1)) (gi μ (o + 2)) (-18 + i) 1 0 k.toNat).2 = 0
    · rw [if_pos h]
      simp (disch := omega) only [b_X10_wholeRoots_27, b_X10_wholeRoots_5, e, kT.ga hT, kT.gc hT, kT.gr hT, kaI (kT.aa hT), kaI (kT.ac hT), kasI (kT.aa hT), kasI (kT.ac hT), krcv (kT.y hT), kT.pr hT, ki_0, ki_1, ki_2, ki_3, ki_4, ki_5, ki_6, ki_7, ki_8, ki_9, ki_10, ki_11, ki_12, ki_13, ki_18, ki_20, ki_24, ki_32, ki_36, ki_45, ki_47, ki_48, ki_50, ki_57, ki_60, ki_63, ki_99, ki_100, ki_101, ki_120, ki_255, ki_468, ki_1000, ki_1024, ki_13849, ki_25173, ki_65535, ki_65536, ki_100000, ki_100001, ki_2147483647, ki_2147483648, kl_0, kl_1, kl_2, kl_9223372036854775808, ki_add, ki_sub, ki_mul, ki_neg, kl_add, kl_sub, kl_mul, kl_neg, ki_i2l, kl_l2i, ki_lt, ki_le, ki_eq, kcmp_eq, kcmp_lt, kcmp_le, kcmp_gt, kcmp_ge, Option.bind_some, Option.map_some, kbool0, kbool1, if_pos, if_neg, Int.neg_neg, Int.sub_zero, Int.add_zero, Int.zero_add, true_and, and_true, ne_eq, not_false_eq_true, not_true_eq_false, Int.natCast_add, Int.natCast_one, Int.add_assoc]
    · rw [if_neg h]
      simp (disch := omega) only [b_X10_wholeRoots_27, b_X10_wholeRoots_5, e, kT.ga hT, kT.gc hT, kT.gr hT, kaI (kT.aa hT), kaI (kT.ac hT), kasI (kT.aa hT), kasI (kT.ac hT), krcv (kT.y hT), kT.pr hT, ki_0, ki_1, ki_2, ki_3, ki_4, ki_5, ki_6, ki_7, ki_8, ki_9, ki_10, ki_11, ki_12, ki_13, ki_18, ki_20, ki_24, ki_32, ki_36, ki_45, ki_47, ki_48, ki_50, ki_57, ki_60, ki_63, ki_99, ki_100, ki_101, ki_120, ki_255, ki_468, ki_1000, ki_1024, ki_13849, ki_25173, ki_65535, ki_65536, ki_100000, ki_100001, ki_2147483647, ki_2147483648, kl_0, kl_1, kl_2, kl_9223372036854775808, ki_add, ki_sub, ki_mul, ki_neg, kl_add, kl_sub, kl_mul, kl_neg, ki_i2l, kl_l2i, ki_lt, ki_le, ki_eq, kcmp_eq, kcmp_lt, kcmp_le, kcmp_gt, kcmp_ge, Option.bind_some, Option.map_some, kbool0, kbool1, if_pos, if_neg, Int.neg_neg, Int.sub_zero, Int.add_zero, Int.zero_add, true_and, and_true, ne_eq, not_false_eq_true, not_true_eq_false, Int.natCast_add, Int.natCast_one, Int.add_assoc]
  · simp (disch := omega) only [b_X10_wholeRoots_27, b_X10_wholeRoots_5, ki_0, ki_1, ki_2, ki_3, ki_4, ki_5, ki_6, ki_7, ki_8, ki_9, ki_10, ki_11, ki_12, ki_13, ki_18, ki_20, ki_24, ki_32, ki_36, ki_45, ki_47, ki_48, ki_50, ki_57, ki_60, ki_63, ki_99, ki_100, ki_101, ki_120, ki_255, ki_468, ki_1000, ki_1024, ki_13849, ki_25173, ki_65535, ki_65536, ki_100000, ki_100001, ki_2147483647, ki_2147483648, kl_0, kl_1, kl_2, kl_9223372036854775808, ki_add, ki_sub, ki_mul, ki_neg, kl_add, kl_sub, kl_mul, kl_neg, ki_i2l, kl_l2i, ki_lt, ki_le, ki_eq, kcmp_eq, kcmp_lt, kcmp_le, kcmp_gt, kcmp_ge, Option.bind_some, Option.map_some, kbool0, kbool1, if_pos, if_neg, Int.neg_neg, Int.sub_zero, Int.add_zero, Int.zero_add, true_and, and_true, ne_eq, not_false_eq_true, not_true_eq_false]
