/-! OPS: alike -/
def ev (f : Int → Int) (p : Int) : Int := f 0 + p * (f 1 + p * (f 2 + p * (f 3 + p * (f 4 + p * f 5))))
theorem ev_step (p a c f0 f1 f2 f3 f4 h0 h1 h2 h3 h4 h5 : Int) : (-a * f0 + 0 - c * h0) + p * ((-a * f1 + f0 - c * h1) + p * ((-a * f2 + f1 - c * h2) + p * ((-a * f3 + f2 - c * h3) + p * ((-a * f4 + f3 - c * h4) + p * (-a * 0 + f4 - c * h5))))) = (p - a) * (f0 + p * (f1 + p * (f2 + p * (f3 + p * (f4 + p * 0))))) - c * (h0 + p * (h1 + p * (h2 + p * (h3 + p * (h4 + p * h5))))) := by
  grind
theorem ev_pv {A C : Int → Int} {p : Int} : ∀ k : Nat, k ≤ 5 → pv A C p 1 0 k = (ev (pcs A C k).1 p, ev (pcs A C k).2 p) := by
  intro k
  induction k with
  | zero =>
    intro _
    simp [pv, pcs, ev]
  | succ k ih =>
    intro hk
    have e := ih (by omega)
    have h5 := (pcs_deg (A := A) (C := C) k 5 (by omega)).1
    simp only [pv]
    rw [e]
    refine Prod.ext rfl ?_
    simp only [ev, pcs]
    rw [h5]
    simp only [show ((0 : Int) ≤ 0) = True by simp, show ((1 : Int) ≤ 0) = False by simp, show ((2 : Int) ≤ 0) = False by simp, show ((3 : Int) ≤ 0) = False by simp, show ((4 : Int) ≤ 0) = False by simp, show ((5 : Int) ≤ 0) = False by simp, if_true, if_false, show (1 : Int) - 1 = 0 by rfl, show (2 : Int) - 1 = 1 by rfl, show (3 : Int) - 1 = 2 by rfl, show (4 : Int) - 1 = 3 by rfl, show (5 : Int) - 1 = 4 by rfl, Int.one_mul, Int.zero_add]
    exact (ev_step p (A k) (C ((k : Int) - 1)) _ _ _ _ _ _ _ _ _ _ _).symm
theorem pcs_lead {A C : Int → Int} : ∀ k : Nat, (pcs A C k).2 k = 1 := by
  intro k
  induction k with
  | zero => rfl
  | succ k ih =>
    simp only [pcs]
    rw [(pcs_deg (A := A) (C := C) k _ (by omega)).1, (pcs_deg (A := A) (C := C) k _ (by omega)).2, if_neg (by omega), show ((k + 1 : Nat) : Int) - 1 = k from by omega, ih]
    simp
def cof (A C A2 C2 : Int → Int) (n : Nat) : Nat → Int := fun j => if (pcs A C n).2 j = (pcs A2 C2 n).2 j then 1 else 0
def vlk (A C A2 C2 : Int → Int) (n : Nat) : Nat → Int := fun j => if (pv A C j 1 0 n).2 = (pv A2 C2 j 1 0 n).2 then 1 else 0
set_option maxHeartbeats 2000000 in
theorem coef_val {A C A2 C2 : Int → Int} {n : Nat} (hn : n ≤ 5) : al1 (cof A C A2 C2 n) (n + 1) = al1 (vlk A C A2 C2 n) n := by
  have h1 := al1_two (cof A C A2 C2 n) (n + 1)
  have h2 := al1_two (vlk A C A2 C2 n) n
  have e1 := al1_iff (p := cof A C A2 C2 n) (n + 1)
  have e2 := al1_iff (p := vlk A C A2 C2 n) n
  suffices (al1 (cof A C A2 C2 n) (n + 1) = 1) ↔ (al1 (vlk A C A2 C2 n) n = 1) by omega
  rw [e1, e2]
  have hc : ∀ i : Nat, (cof A C A2 C2 n i = 1) ↔ ((pcs A C n).2 i = (pcs A2 C2 n).2 i) := fun i => by
    unfold cof
    split <;> simp [*]
  have hv : ∀ i : Nat, (vlk A C A2 C2 n i = 1) ↔ (ev (pcs A C n).2 i = ev (pcs A2 C2 n).2 i) := fun i => by
    unfold vlk
    rw [ev_pv n hn, ev_pv n hn]
    split <;> simp_all
  have l1 := pcs_lead (A := A) (C := C) n
  have l2 := pcs_lead (A := A2) (C := C2) n
  have d1 := pcs_deg (A := A) (C := C) n
  have d2 := pcs_deg (A := A2) (C := C2) n
  generalize (pcs A C n).2 = f at *
  generalize (pcs A2 C2 n).2 = g at *
  constructor
  · intro h i hi
    rw [hv]
    have h := fun i hi => (hc i).1 (h i hi)
    have hh : ∀ x : Int, 0 ≤ x → f x = g x := fun x x0 => by
      by_cases hx : x ≤ n
      · have := h x.toNat (by omega)
        rw [Int.toNat_of_nonneg x0] at this
        exact this
      · rw [(d1 x (by omega)).1, (d2 x (by omega)).1]
    unfold ev
    rw [hh 0 (by omega), hh 1 (by omega), hh 2 (by omega), hh 3 (by omega), hh 4 (by omega), hh 5 (by omega)]
  · intro h i hi
    rw [hc]
    have h : ∀ x : Int, 0 ≤ x → x < n → ev f x = ev g x := fun x x0 x1 => by
      have := (hv x.toNat).1 (h x.toNat (by omega))
      rw [Int.toNat_of_nonneg x0] at this
      exact this
    suffices ∀ x : Int, 0 ≤ x → x ≤ n → f x = g x by exact this i (by omega) (by omega)
    intro x x0 x1
    unfold ev at h
    have z : ∀ x : Int, (n : Int) < x → f x = 0 ∧ g x = 0 := fun x hx => ⟨(d1 x hx).1, (d2 x hx).1⟩
    have hN5 : (n : Int) ≤ 5 := by omega
    have hN0 : 0 ≤ (n : Int) := by omega
    generalize (n : Int) = N at *
    rcases (by omega : N = 0 ∨ N = 1 ∨ N = 2 ∨ N = 3 ∨ N = 4 ∨ N = 5) with rfl | rfl | rfl | rfl | rfl | rfl
    · obtain rfl : x = 0 := by omega
      omega
    · have z2 := z 2 (by omega); have z3 := z 3 (by omega); have z4 := z 4 (by omega); have z5 := z 5 (by omega)
      have h0 := h 0 (by omega) (by omega)
      rcases (by omega : x = 0 ∨ x = 1) with rfl | rfl <;> omega
    · have z3 := z 3 (by omega); have z4 := z 4 (by omega); have z5 := z 5 (by omega)
      have h0 := h 0 (by omega) (by omega); have h1 := h 1 (by omega) (by omega)
      rcases (by omega : x = 0 ∨ x = 1 ∨ x = 2) with rfl | rfl | rfl <;> omega
    · have z4 := z 4 (by omega); have z5 := z 5 (by omega)
      have h0 := h 0 (by omega) (by omega); have h1 := h 1 (by omega) (by omega); have h2 := h 2 (by omega) (by omega)
      rcases (by omega : x = 0 ∨ x = 1 ∨ x = 2 ∨ x = 3) with rfl | rfl | rfl | rfl <;> omega
    · have z5 := z 5 (by omega)
      have h0 := h 0 (by omega) (by omega); have h1 := h 1 (by omega) (by omega); have h2 := h 2 (by omega) (by omega); have h3 := h 3 (by omega) (by omega)
      rcases (by omega : x = 0 ∨ x = 1 ∨ x = 2 ∨ x = 3 ∨ x = 4) with rfl | rfl | rfl | rfl | rfl <;> omega
    · have h0 := h 0 (by omega) (by omega); have h1 := h 1 (by omega) (by omega); have h2 := h 2 (by omega) (by omega); have h3 := h 3 (by omega) (by omega); have h4 := h 4 (by omega) (by omega)
      rcases (by omega : x = 0 ∨ x = 1 ∨ x = 2 ∨ x = 3 ∨ x = 4 ∨ x = 5) with rfl | rfl | rfl | rfl | rfl | rfl <;> omega
/-! turned -/
def tn (A C A2 C2 : Int → Int) (R : Int) : Int := if al1 (fun i => if A i = A2 (R - 1 - i) then 1 else 0) R.toNat = 1 then al1 (fun i => if C i = C2 (R - 2 - i) then 1 else 0) (R - 1).toNat else 0
theorem pos1 {P : Prop} [Decidable P] (h : (if P then (1 : Int) else 0) = 1) : P := by
  by_cases g : P
  · exact g
  · rw [if_neg g] at h; omega
theorem neg1 {P : Prop} [Decidable P] (h : (if P then (1 : Int) else 0) ≠ 1) : ¬ P := fun g => h (if_pos g)
set_option maxHeartbeats 1000000 in
theorem X10_isTurnOf {Y : jY} {μ : jM} {o o2 : Nat} (hT : kT Y μ o) (hB : kTb μ o) (hT2 : kT Y μ o2) (hB2 : kTb μ o2) (h1 : 1 ≤ gi μ o 0) : f_X10_isTurnOf Y o o2 μ = some (ki (if gi μ o 0 = gi μ o2 0 then tn (gi μ (o + 1)) (gi μ (o + 2)) (gi μ (o2 + 1)) (gi μ (o2 + 2)) (gi μ o 0) else 0), μ) := by
  have hb5 := hB.2.1
  have hc5 := hB2.2.1
  have hc0 := hB2.1
  by_cases hR : gi μ o 0 = gi μ o2 0
  · rw [if_pos hR]
    have i1 := jit_all (f := fun (s : Int32 × jM) => b_X10_isTurnOf_55 Y o o2 s.1 s.2) (μ := μ) (p := fun i => if gi μ (o + 2) i = gi μ (o2 + 2) (gi μ o 0 - 2 - i) then 1 else 0) (R := (gi μ o 0 - 1).toNat) (r0 := (ki 0, μ)) (r1 := (ki 1, μ)) (by omega) (fun i hi hp => ?_) (fun i hi hp => ?_) ?_
    · have i2 := jit_all (f := fun (s : Int32 × jM) => b_X10_isTurnOf_15 Y o o2 s.1 s.2) (μ := μ) (p := fun i => if gi μ (o + 1) i = gi μ (o2 + 1) (gi μ o 0 - 1 - i) then 1 else 0) (R := (gi μ o 0).toNat) (r0 := (ki 0, μ)) (r1 := if al1 (fun i => if gi μ (o + 2) i = gi μ (o2 + 2) (gi μ o 0 - 2 - i) then 1 else 0) (gi μ o 0 - 1).toNat = 1 then (ki 1, μ) else (ki 0, μ)) (by omega) (fun i hi hp => ?_) (fun i hi hp => ?_) ?_
      · simp (disch := omega) only [f_X10_isTurnOf, kT.gr hT, kT.gr hT2, ki_0, ki_1, ki_2, ki_3, ki_4, ki_5, ki_6, ki_7, ki_8, ki_9, ki_10, ki_11, ki_12, ki_13, ki_18, ki_20, ki_24, ki_32, ki_36, ki_45, ki_47, ki_48, ki_50, ki_57, ki_60, ki_63, ki_99, ki_100, ki_101, ki_120, ki_255, ki_468, ki_1000, ki_1024, ki_13849, ki_25173, ki_65535, ki_65536, ki_100000, ki_100001, ki_2147483647, ki_2147483648, kl_0, kl_1, kl_2, kl_9223372036854775808, ki_add, ki_sub, ki_mul, ki_neg, kl_add, kl_sub, kl_mul, kl_neg, ki_i2l, kl_l2i, ki_lt, ki_le, ki_eq, kcmp_eq, kcmp_lt, kcmp_le, kcmp_gt, kcmp_ge, Option.bind_some, Option.map_some, kbool0, kbool1, if_pos, if_neg, if_true, if_false, Int.neg_neg, Int.sub_zero, Int.add_zero, Int.zero_add, true_and, and_true, false_and, and_false, false_or, or_false, true_or, or_true, ne_eq, not_false_eq_true, not_true_eq_false]
        rw [i2]
        unfold tn
        have t1 := al1_two (fun i => if gi μ (o + 1) i = gi μ (o2 + 1) (gi μ o 0 - 1 - i) then 1 else 0) (gi μ o 0).toNat
        have t2 := al1_two (fun i => if gi μ (o + 2) i = gi μ (o2 + 2) (gi μ o 0 - 2 - i) then 1 else 0) (gi μ o 0 - 1).toNat
        rcases t1 with t1 | t1 <;> rcases t2 with t2 | t2 <;> simp only [t1, t2, show ¬ ((0 : Int) = 1) by omega, if_true, if_false]
      · have a1 := hB.2.2.1 i (by omega) (by omega)
        have a2 := hB2.2.2.1 (gi μ o 0 - 1 - i) (by omega) (by omega)
        have hp := pos1 hp
        simp (disch := omega) only [b_X10_isTurnOf_55, b_X10_isTurnOf_15, kT.ga hT, kT.gc hT, kT.gr hT, kaI (kT.aa hT), kaI (kT.ac hT), kasI (kT.aa hT), kasI (kT.ac hT), krcv (kT.y hT), kT.pr hT, kT.ga hT2, kT.gc hT2, kT.gr hT2, kaI (kT.aa hT2), kaI (kT.ac hT2), kasI (kT.aa hT2), kasI (kT.ac hT2), krcv (kT.y hT2), kT.pr hT2, ki_0, ki_1, ki_2, ki_3, ki_4, ki_5, ki_6, ki_7, ki_8, ki_9, ki_10, ki_11, ki_12, ki_13, ki_18, ki_20, ki_24, ki_32, ki_36, ki_45, ki_47, ki_48, ki_50, ki_57, ki_60, ki_63, ki_99, ki_100, ki_101, ki_120, ki_255, ki_468, ki_1000, ki_1024, ki_13849, ki_25173, ki_65535, ki_65536, ki_100000, ki_100001, ki_2147483647, ki_2147483648, kl_0, kl_1, kl_2, kl_9223372036854775808, ki_add, ki_sub, ki_mul, ki_neg, kl_add, kl_sub, kl_mul, kl_neg, ki_i2l, kl_l2i, ki_lt, ki_le, ki_eq, kcmp_eq, kcmp_lt, kcmp_le, kcmp_gt, kcmp_ge, Option.bind_some, Option.map_some, kbool0, kbool1, if_pos, if_neg, if_true, if_false, Int.neg_neg, Int.sub_zero, Int.add_zero, Int.zero_add, true_and, and_true, false_and, and_false, false_or, or_false, true_or, or_true, ne_eq, not_false_eq_true, not_true_eq_false, Int.natCast_add, Int.natCast_one]
      · have a1 := hB.2.2.1 i (by omega) (by omega)
        have a2 := hB2.2.2.1 (gi μ o 0 - 1 - i) (by omega) (by omega)
        have hp := neg1 hp
        simp (disch := omega) only [b_X10_isTurnOf_55, b_X10_isTurnOf_15, kT.ga hT, kT.gc hT, kT.gr hT, kaI (kT.aa hT), kaI (kT.ac hT), kasI (kT.aa hT), kasI (kT.ac hT), krcv (kT.y hT), kT.pr hT, kT.ga hT2, kT.gc hT2, kT.gr hT2, kaI (kT.aa hT2), kaI (kT.ac hT2), kasI (kT.aa hT2), kasI (kT.ac hT2), krcv (kT.y hT2), kT.pr hT2, ki_0, ki_1, ki_2, ki_3, ki_4, ki_5, ki_6, ki_7, ki_8, ki_9, ki_10, ki_11, ki_12, ki_13, ki_18, ki_20, ki_24, ki_32, ki_36, ki_45, ki_47, ki_48, ki_50, ki_57, ki_60, ki_63, ki_99, ki_100, ki_101, ki_120, ki_255, ki_468, ki_1000, ki_1024, ki_13849, ki_25173, ki_65535, ki_65536, ki_100000, ki_100001, ki_2147483647, ki_2147483648, kl_0, kl_1, kl_2, kl_9223372036854775808, ki_add, ki_sub, ki_mul, ki_neg, kl_add, kl_sub, kl_mul, kl_neg, ki_i2l, kl_l2i, ki_lt, ki_le, ki_eq, kcmp_eq, kcmp_lt, kcmp_le, kcmp_gt, kcmp_ge, Option.bind_some, Option.map_some, kbool0, kbool1, if_pos, if_neg, if_true, if_false, Int.neg_neg, Int.sub_zero, Int.add_zero, Int.zero_add, true_and, and_true, false_and, and_false, false_or, or_false, true_or, or_true, ne_eq, not_false_eq_true, not_true_eq_false, Int.natCast_add, Int.natCast_one]
      · have e : b_X10_isTurnOf_15 Y o o2 (ki ((gi μ o 0).toNat : Nat)) μ = (jit jF (fun (s : Int32 × jM) => b_X10_isTurnOf_55 Y o o2 s.1 s.2) (ki 0, μ)).map (fun r => (.inr r)) := by
          simp (disch := omega) only [b_X10_isTurnOf_15, kT.gr hT, ki_0, ki_1, ki_2, ki_3, ki_4, ki_5, ki_6, ki_7, ki_8, ki_9, ki_10, ki_11, ki_12, ki_13, ki_18, ki_20, ki_24, ki_32, ki_36, ki_45, ki_47, ki_48, ki_50, ki_57, ki_60, ki_63, ki_99, ki_100, ki_101, ki_120, ki_255, ki_468, ki_1000, ki_1024, ki_13849, ki_25173, ki_65535, ki_65536, ki_100000, ki_100001, ki_2147483647, ki_2147483648, kl_0, kl_1, kl_2, kl_9223372036854775808, ki_add, ki_sub, ki_mul, ki_neg, kl_add, kl_sub, kl_mul, kl_neg, ki_i2l, kl_l2i, ki_lt, ki_le, ki_eq, kcmp_eq, kcmp_lt, kcmp_le, kcmp_gt, kcmp_ge, Option.bind_some, Option.map_some, kbool0, kbool1, if_pos, if_neg, if_true, if_false, Int.neg_neg, Int.sub_zero, Int.add_zero, Int.zero_add, true_and, and_true, false_and, and_false, false_or, or_false, true_or, or_true, ne_eq, not_false_eq_true, not_true_eq_false]
        simp only [e, i1]
        rfl
    · have a1 := hB.2.2.2 i (by omega) (by omega)
      have a2 := hB2.2.2.2 (gi μ o 0 - 2 - i) (by omega) (by omega)
      have hp := pos1 hp
      simp (disch := omega) only [b_X10_isTurnOf_55, b_X10_isTurnOf_15, kT.ga hT, kT.gc hT, kT.gr hT, kaI (kT.aa hT), kaI (kT.ac hT), kasI (kT.aa hT), kasI (kT.ac hT), krcv (kT.y hT), kT.pr hT, kT.ga hT2, kT.gc hT2, kT.gr hT2, kaI (kT.aa hT2), kaI (kT.ac hT2), kasI (kT.aa hT2), kasI (kT.ac hT2), krcv (kT.y hT2), kT.pr hT2, ki_0, ki_1, ki_2, ki_3, ki_4, ki_5, ki_6, ki_7, ki_8, ki_9, ki_10, ki_11, ki_12, ki_13, ki_18, ki_20, ki_24, ki_32, ki_36, ki_45, ki_47, ki_48, ki_50, ki_57, ki_60, ki_63, ki_99, ki_100, ki_101, ki_120, ki_255, ki_468, ki_1000, ki_1024, ki_13849, ki_25173, ki_65535, ki_65536, ki_100000, ki_100001, ki_2147483647, ki_2147483648, kl_0, kl_1, kl_2, kl_9223372036854775808, ki_add, ki_sub, ki_mul, ki_neg, kl_add, kl_sub, kl_mul, kl_neg, ki_i2l, kl_l2i, ki_lt, ki_le, ki_eq, kcmp_eq, kcmp_lt, kcmp_le, kcmp_gt, kcmp_ge, Option.bind_some, Option.map_some, kbool0, kbool1, if_pos, if_neg, if_true, if_false, Int.neg_neg, Int.sub_zero, Int.add_zero, Int.zero_add, true_and, and_true, false_and, and_false, false_or, or_false, true_or, or_true, ne_eq, not_false_eq_true, not_true_eq_false, Int.natCast_add, Int.natCast_one]
    · have a1 := hB.2.2.2 i (by omega) (by omega)
      have a2 := hB2.2.2.2 (gi μ o 0 - 2 - i) (by omega) (by omega)
      have hp := neg1 hp
      simp (disch := omega) only [b_X10_isTurnOf_55, b_X10_isTurnOf_15, kT.ga hT, kT.gc hT, kT.gr hT, kaI (kT.aa hT), kaI (kT.ac hT), kasI (kT.aa hT), kasI (kT.ac hT), krcv (kT.y hT), kT.pr hT, kT.ga hT2, kT.gc hT2, kT.gr hT2, kaI (kT.aa hT2), kaI (kT.ac hT2), kasI (kT.aa hT2), kasI (kT.ac hT2), krcv (kT.y hT2), kT.pr hT2, ki_0, ki_1, ki_2, ki_3, ki_4, ki_5, ki_6, ki_7, ki_8, ki_9, ki_10, ki_11, ki_12, ki_13, ki_18, ki_20, ki_24, ki_32, ki_36, ki_45, ki_47, ki_48, ki_50, ki_57, ki_60, ki_63, ki_99, ki_100, ki_101, ki_120, ki_255, ki_468, ki_1000, ki_1024, ki_13849, ki_25173, ki_65535, ki_65536, ki_100000, ki_100001, ki_2147483647, ki_2147483648, kl_0, kl_1, kl_2, kl_9223372036854775808, ki_add, ki_sub, ki_mul, ki_neg, kl_add, kl_sub, kl_mul, kl_neg, ki_i2l, kl_l2i, ki_lt, ki_le, ki_eq, kcmp_eq, kcmp_lt, kcmp_le, kcmp_gt, kcmp_ge, Option.bind_some, Option.map_some, kbool0, kbool1, if_pos, if_neg, if_true, if_false, Int.neg_neg, Int.sub_zero, Int.add_zero, Int.zero_add, true_and, and_true, false_and, and_false, false_or, or_false, true_or, or_true, ne_eq, not_false_eq_true, not_true_eq_false, Int.natCast_add, Int.natCast_one]
    · simp (disch := omega) only [b_X10_isTurnOf_55, b_X10_isTurnOf_15, kT.ga hT, kT.gc hT, kT.gr hT, kaI (kT.aa hT), kaI (kT.ac hT), kasI (kT.aa hT), kasI (kT.ac hT), krcv (kT.y hT), kT.pr hT, ki_0, ki_1, ki_2, ki_3, ki_4, ki_5, ki_6, ki_7, ki_8, ki_9, ki_10, ki_11, ki_12, ki_13, ki_18, ki_20, ki_24, ki_32, ki_36, ki_45, ki_47, ki_48, ki_50, ki_57, ki_60, ki_63, ki_99, ki_100, ki_101, ki_120, ki_255, ki_468, ki_1000, ki_1024, ki_13849, ki_25173, ki_65535, ki_65536, ki_100000, ki_100001, ki_2147483647, ki_2147483648, kl_0, kl_1, kl_2, kl_9223372036854775808, ki_add, ki_sub, ki_mul, ki_neg, kl_add, kl_sub, kl_mul, kl_neg, ki_i2l, kl_l2i, ki_lt, ki_le, ki_eq, kcmp_eq, kcmp_lt, kcmp_le, kcmp_gt, kcmp_ge, Option.bind_some, Option.map_some, kbool0, kbool1, if_pos, if_neg, if_true, if_false, Int.neg_neg, Int.sub_zero, Int.add_zero, Int.zero_add, true_and, and_true, false_and, and_false, false_or, or_false, true_or, or_true, ne_eq, not_false_eq_true, not_true_eq_false]
  · rw [if_neg hR]
    simp (disch := omega) only [f_X10_isTurnOf, kT.gr hT, kT.gr hT2, ki_0, ki_1, ki_2, ki_3, ki_4, ki_5, ki_6, ki_7, ki_8, ki_9, ki_10, ki_11, ki_12, ki_13, ki_18, ki_20, ki_24, ki_32, ki_36, ki_45, ki_47, ki_48, ki_50, ki_57, ki_60, ki_63, ki_99, ki_100, ki_101, ki_120, ki_255, ki_468, ki_1000, ki_1024, ki_13849, ki_25173, ki_65535, ki_65536, ki_100000, ki_100001, ki_2147483647, ki_2147483648, kl_0, kl_1, kl_2, kl_9223372036854775808, ki_add, ki_sub, ki_mul, ki_neg, kl_add, kl_sub, kl_mul, kl_neg, ki_i2l, kl_l2i, ki_lt, ki_le, ki_eq, kcmp_eq, kcmp_lt, kcmp_le, kcmp_gt, kcmp_ge, Option.bind_some, Option.map_some, kbool0, kbool1, if_pos, if_neg, if_true, if_false, Int.neg_neg, Int.sub_zero, Int.add_zero, Int.zero_add, true_and, and_true, false_and, and_false, false_or, or_false, true_or, or_true, ne_eq, not_false_eq_true, not_true_eq_false]
set_option maxHeartbeats 1000000 in
theorem X12_isTurned {Y : jY} {μ : jM} (hM : kM Y μ) {d e : Int} (d1 : 0 ≤ d) (d2 : d ≤ 3) (e1 : 0 ≤ e) (e2 : e ≤ 3) (hB : kMb μ d) (hB2 : kMb μ e) (hR : gi μ 108 d = gi μ 108 e) (h1 : 1 ≤ gi μ 108 d) : f_X12_isTurned Y 95 (ki d) (ki e) μ = some (ki (tn (mA μ d) (mC μ d) (mA μ e) (mC μ e) (gi μ 108 d)), μ) := by
  have hb5 := hB.2.1
  have inner : ∀ v : Int, v = 0 ∨ v = 1 → jit jF (fun (s : Int32 × Int32 × jM) => b_X12_isTurned_61 Y 95 (ki d) (ki e) s.1 (ki (gi μ 108 d)) s.2.1 s.2.2) (ki v, ki 0, μ) = some (ki (if v = 1 then al1 (fun i => if mC μ d i = mC μ e (gi μ 108 d - 2 - i) then 1 else 0) (gi μ 108 d - 1).toNat else 0), μ) := by
    intro v hv
    refine jit_run (fun i => (ki (if v = 1 then al1 (fun i => if mC μ d i = mC μ e (gi μ 108 d - 2 - i) then 1 else 0) i else 0), ki i, μ)) _ (gi μ 108 d - 1).toNat ?_ (by omega) (fun i hi => ?_) ?_
    · rcases hv with rfl | rfl <;> rfl
    · have q1 := X12_c hM (d := d) (i := i) d1 d2 (by omega) (by omega)
      have q2 := X12_c hM (d := e) (i := gi μ 108 d - 2 - i) e1 e2 (by omega) (by omega)
      have c1 := hB.2.2.2 i (by omega) (by omega)
      have c2 := hB2.2.2.2 (gi μ 108 d - 2 - i) (by omega) (by omega)
      simp only [al1]
      rcases hv with rfl | rfl
      · simp (disch := omega) only [b_X12_isTurned_101, b_X12_isTurned_100, b_X12_isTurned_61, b_X12_isTurned_51, b_X12_isTurned_50, b_X12_isTurned_13, ki_0, ki_1, ki_2, ki_3, ki_4, ki_5, ki_6, ki_7, ki_8, ki_9, ki_10, ki_11, ki_12, ki_13, ki_18, ki_20, ki_24, ki_32, ki_36, ki_45, ki_47, ki_48, ki_50, ki_57, ki_60, ki_63, ki_99, ki_100, ki_101, ki_120, ki_255, ki_468, ki_1000, ki_1024, ki_13849, ki_25173, ki_65535, ki_65536, ki_100000, ki_100001, ki_2147483647, ki_2147483648, kl_0, kl_1, kl_2, kl_9223372036854775808, ki_add, ki_sub, ki_mul, ki_neg, kl_add, kl_sub, kl_mul, kl_neg, ki_i2l, kl_l2i, ki_lt, ki_le, ki_eq, kcmp_eq, kcmp_lt, kcmp_le, kcmp_gt, kcmp_ge, Option.bind_some, Option.map_some, kbool0, kbool1, if_pos, if_neg, if_true, if_false, Int.neg_neg, Int.sub_zero, Int.add_zero, Int.zero_add, true_and, and_true, false_and, and_false, false_or, or_false, true_or, or_true, ne_eq, not_false_eq_true, not_true_eq_false, Int.natCast_add, Int.natCast_one]
      · have tw := al1_two (fun i => if mC μ d i = mC μ e (gi μ 108 d - 2 - i) then 1 else 0) i
        generalize al1 (fun i => if mC μ d i = mC μ e (gi μ 108 d - 2 - i) then 1 else 0) i = w at *
        rcases tw with rfl | rfl
        · simp (disch := omega) only [b_X12_isTurned_101, b_X12_isTurned_100, b_X12_isTurned_61, b_X12_isTurned_51, b_X12_isTurned_50, b_X12_isTurned_13, ki_0, ki_1, ki_2, ki_3, ki_4, ki_5, ki_6, ki_7, ki_8, ki_9, ki_10, ki_11, ki_12, ki_13, ki_18, ki_20, ki_24, ki_32, ki_36, ki_45, ki_47, ki_48, ki_50, ki_57, ki_60, ki_63, ki_99, ki_100, ki_101, ki_120, ki_255, ki_468, ki_1000, ki_1024, ki_13849, ki_25173, ki_65535, ki_65536, ki_100000, ki_100001, ki_2147483647, ki_2147483648, kl_0, kl_1, kl_2, kl_9223372036854775808, ki_add, ki_sub, ki_mul, ki_neg, kl_add, kl_sub, kl_mul, kl_neg, ki_i2l, kl_l2i, ki_lt, ki_le, ki_eq, kcmp_eq, kcmp_lt, kcmp_le, kcmp_gt, kcmp_ge, Option.bind_some, Option.map_some, kbool0, kbool1, if_pos, if_neg, if_true, if_false, Int.neg_neg, Int.sub_zero, Int.add_zero, Int.zero_add, true_and, and_true, false_and, and_false, false_or, or_false, true_or, or_true, ne_eq, not_false_eq_true, not_true_eq_false, Int.natCast_add, Int.natCast_one, ite_self]
        · by_cases g : mC μ d i = mC μ e (gi μ 108 d - 2 - i)
          · simp (disch := omega) only [b_X12_isTurned_101, b_X12_isTurned_100, b_X12_isTurned_61, b_X12_isTurned_51, b_X12_isTurned_50, b_X12_isTurned_13, krcv (kM.y hM), q1, q2, if_pos g, ki_0, ki_1, ki_2, ki_3, ki_4, ki_5, ki_6, ki_7, ki_8, ki_9, ki_10, ki_11, ki_12, ki_13, ki_18, ki_20, ki_24, ki_32, ki_36, ki_45, ki_47, ki_48, ki_50, ki_57, ki_60, ki_63, ki_99, ki_100, ki_101, ki_120, ki_255, ki_468, ki_1000, ki_1024, ki_13849, ki_25173, ki_65535, ki_65536, ki_100000, ki_100001, ki_2147483647, ki_2147483648, kl_0, kl_1, kl_2, kl_9223372036854775808, ki_add, ki_sub, ki_mul, ki_neg, kl_add, kl_sub, kl_mul, kl_neg, ki_i2l, kl_l2i, ki_lt, ki_le, ki_eq, kcmp_eq, kcmp_lt, kcmp_le, kcmp_gt, kcmp_ge, Option.bind_some, Option.map_some, kbool0, kbool1, if_pos, if_neg, if_true, if_false, Int.neg_neg, Int.sub_zero, Int.add_zero, Int.zero_add, true_and, and_true, false_and, and_false, false_or, or_false, true_or, or_true, ne_eq, not_false_eq_true, not_true_eq_false, Int.natCast_add, Int.natCast_one]
          · simp (disch := omega) only [b_X12_isTurned_101, b_X12_isTurned_100, b_X12_isTurned_61, b_X12_isTurned_51, b_X12_isTurned_50, b_X12_isTurned_13, krcv (kM.y hM), q1, q2, if_neg g, ki_0, ki_1, ki_2, ki_3, ki_4, ki_5, ki_6, ki_7, ki_8, ki_9, ki_10, ki_11, ki_12, ki_13, ki_18, ki_20, ki_24, ki_32, ki_36, ki_45, ki_47, ki_48, ki_50, ki_57, ki_60, ki_63, ki_99, ki_100, ki_101, ki_120, ki_255, ki_468, ki_1000, ki_1024, ki_13849, ki_25173, ki_65535, ki_65536, ki_100000, ki_100001, ki_2147483647, ki_2147483648, kl_0, kl_1, kl_2, kl_9223372036854775808, ki_add, ki_sub, ki_mul, ki_neg, kl_add, kl_sub, kl_mul, kl_neg, ki_i2l, kl_l2i, ki_lt, ki_le, ki_eq, kcmp_eq, kcmp_lt, kcmp_le, kcmp_gt, kcmp_ge, Option.bind_some, Option.map_some, kbool0, kbool1, if_pos, if_neg, if_true, if_false, Int.neg_neg, Int.sub_zero, Int.add_zero, Int.zero_add, true_and, and_true, false_and, and_false, false_or, or_false, true_or, or_true, ne_eq, not_false_eq_true, not_true_eq_false, Int.natCast_add, Int.natCast_one]
    · have tw := al1_two (fun i => if mC μ d i = mC μ e (gi μ 108 d - 2 - i) then 1 else 0) (gi μ 108 d - 1).toNat
      rcases hv with rfl | rfl
      · simp (disch := omega) only [b_X12_isTurned_101, b_X12_isTurned_100, b_X12_isTurned_61, b_X12_isTurned_51, b_X12_isTurned_50, b_X12_isTurned_13, ki_0, ki_1, ki_2, ki_3, ki_4, ki_5, ki_6, ki_7, ki_8, ki_9, ki_10, ki_11, ki_12, ki_13, ki_18, ki_20, ki_24, ki_32, ki_36, ki_45, ki_47, ki_48, ki_50, ki_57, ki_60, ki_63, ki_99, ki_100, ki_101, ki_120, ki_255, ki_468, ki_1000, ki_1024, ki_13849, ki_25173, ki_65535, ki_65536, ki_100000, ki_100001, ki_2147483647, ki_2147483648, kl_0, kl_1, kl_2, kl_9223372036854775808, ki_add, ki_sub, ki_mul, ki_neg, kl_add, kl_sub, kl_mul, kl_neg, ki_i2l, kl_l2i, ki_lt, ki_le, ki_eq, kcmp_eq, kcmp_lt, kcmp_le, kcmp_gt, kcmp_ge, Option.bind_some, Option.map_some, kbool0, kbool1, if_pos, if_neg, if_true, if_false, Int.neg_neg, Int.sub_zero, Int.add_zero, Int.zero_add, true_and, and_true, false_and, and_false, false_or, or_false, true_or, or_true, ne_eq, not_false_eq_true, not_true_eq_false]
      · rcases tw with tw | tw <;> simp (disch := omega) only [b_X12_isTurned_101, b_X12_isTurned_100, b_X12_isTurned_61, b_X12_isTurned_51, b_X12_isTurned_50, b_X12_isTurned_13, tw, ki_0, ki_1, ki_2, ki_3, ki_4, ki_5, ki_6, ki_7, ki_8, ki_9, ki_10, ki_11, ki_12, ki_13, ki_18, ki_20, ki_24, ki_32, ki_36, ki_45, ki_47, ki_48, ki_50, ki_57, ki_60, ki_63, ki_99, ki_100, ki_101, ki_120, ki_255, ki_468, ki_1000, ki_1024, ki_13849, ki_25173, ki_65535, ki_65536, ki_100000, ki_100001, ki_2147483647, ki_2147483648, kl_0, kl_1, kl_2, kl_9223372036854775808, ki_add, ki_sub, ki_mul, ki_neg, kl_add, kl_sub, kl_mul, kl_neg, ki_i2l, kl_l2i, ki_lt, ki_le, ki_eq, kcmp_eq, kcmp_lt, kcmp_le, kcmp_gt, kcmp_ge, Option.bind_some, Option.map_some, kbool0, kbool1, if_pos, if_neg, if_true, if_false, Int.neg_neg, Int.sub_zero, Int.add_zero, Int.zero_add, true_and, and_true, false_and, and_false, false_or, or_false, true_or, or_true, ne_eq, not_false_eq_true, not_true_eq_false]
  simp (disch := omega) only [f_X12_isTurned, kM.o26 hM, kaI (kM.a108 hM), ki_0, ki_1, ki_2, ki_3, ki_4, ki_5, ki_6, ki_7, ki_8, ki_9, ki_10, ki_11, ki_12, ki_13, ki_18, ki_20, ki_24, ki_32, ki_36, ki_45, ki_47, ki_48, ki_50, ki_57, ki_60, ki_63, ki_99, ki_100, ki_101, ki_120, ki_255, ki_468, ki_1000, ki_1024, ki_13849, ki_25173, ki_65535, ki_65536, ki_100000, ki_100001, ki_2147483647, ki_2147483648, kl_0, kl_1, kl_2, kl_9223372036854775808, ki_add, ki_sub, ki_mul, ki_neg, kl_add, kl_sub, kl_mul, kl_neg, ki_i2l, kl_l2i, ki_lt, ki_le, ki_eq, kcmp_eq, kcmp_lt, kcmp_le, kcmp_gt, kcmp_ge, Option.bind_some, Option.map_some, kbool0, kbool1, if_pos, if_neg, if_true, if_false, Int.neg_neg, Int.sub_zero, Int.add_zero, Int.zero_add, true_and, and_true, false_and, and_false, false_or, or_false, true_or, or_true, ne_eq, not_false_eq_true, not_true_eq_false]
  refine jit_run (fun i => (ki (al1 (fun i => if mA μ d i = mA μ e (gi μ 108 d - 1 - i) then 1 else 0) i), ki i, μ)) _ (gi μ 108 d).toNat rfl (by omega) (fun i hi => ?_) ?_
  · have q1 := X12_a hM (d := d) (i := i) d1 d2 (by omega) (by omega)
    have q2 := X12_a hM (d := e) (i := gi μ 108 d - 1 - i) e1 e2 (by omega) (by omega)
    have c1 := hB.2.2.1 i (by omega) (by omega)
    have c2 := hB2.2.2.1 (gi μ 108 d - 1 - i) (by omega) (by omega)
    simp only [al1]
    have tw := al1_two (fun i => if mA μ d i = mA μ e (gi μ 108 d - 1 - i) then 1 else 0) i
    generalize al1 (fun i => if mA μ d i = mA μ e (gi μ 108 d - 1 - i) then 1 else 0) i = w at *
    rcases tw with rfl | rfl
    · simp (disch := omega) only [b_X12_isTurned_101, b_X12_isTurned_100, b_X12_isTurned_61, b_X12_isTurned_51, b_X12_isTurned_50, b_X12_isTurned_13, ki_0, ki_1, ki_2, ki_3, ki_4, ki_5, ki_6, ki_7, ki_8, ki_9, ki_10, ki_11, ki_12, ki_13, ki_18, ki_20, ki_24, ki_32, ki_36, ki_45, ki_47, ki_48, ki_50, ki_57, ki_60, ki_63, ki_99, ki_100, ki_101, ki_120, ki_255, ki_468, ki_1000, ki_1024, ki_13849, ki_25173, ki_65535, ki_65536, ki_100000, ki_100001, ki_2147483647, ki_2147483648, kl_0, kl_1, kl_2, kl_9223372036854775808, ki_add, ki_sub, ki_mul, ki_neg, kl_add, kl_sub, kl_mul, kl_neg, ki_i2l, kl_l2i, ki_lt, ki_le, ki_eq, kcmp_eq, kcmp_lt, kcmp_le, kcmp_gt, kcmp_ge, Option.bind_some, Option.map_some, kbool0, kbool1, if_pos, if_neg, if_true, if_false, Int.neg_neg, Int.sub_zero, Int.add_zero, Int.zero_add, true_and, and_true, false_and, and_false, false_or, or_false, true_or, or_true, ne_eq, not_false_eq_true, not_true_eq_false, Int.natCast_add, Int.natCast_one, ite_self]
    · by_cases g : mA μ d i = mA μ e (gi μ 108 d - 1 - i)
      · simp (disch := omega) only [b_X12_isTurned_101, b_X12_isTurned_100, b_X12_isTurned_61, b_X12_isTurned_51, b_X12_isTurned_50, b_X12_isTurned_13, krcv (kM.y hM), q1, q2, if_pos g, ki_0, ki_1, ki_2, ki_3, ki_4, ki_5, ki_6, ki_7, ki_8, ki_9, ki_10, ki_11, ki_12, ki_13, ki_18, ki_20, ki_24, ki_32, ki_36, ki_45, ki_47, ki_48, ki_50, ki_57, ki_60, ki_63, ki_99, ki_100, ki_101, ki_120, ki_255, ki_468, ki_1000, ki_1024, ki_13849, ki_25173, ki_65535, ki_65536, ki_100000, ki_100001, ki_2147483647, ki_2147483648, kl_0, kl_1, kl_2, kl_9223372036854775808, ki_add, ki_sub, ki_mul, ki_neg, kl_add, kl_sub, kl_mul, kl_neg, ki_i2l, kl_l2i, ki_lt, ki_le, ki_eq, kcmp_eq, kcmp_lt, kcmp_le, kcmp_gt, kcmp_ge, Option.bind_some, Option.map_some, kbool0, kbool1, if_pos, if_neg, if_true, if_false, Int.neg_neg, Int.sub_zero, Int.add_zero, Int.zero_add, true_and, and_true, false_and, and_false, false_or, or_false, true_or, or_true, ne_eq, not_false_eq_true, not_true_eq_false, Int.natCast_add, Int.natCast_one]
      · simp (disch := omega) only [b_X12_isTurned_101, b_X12_isTurned_100, b_X12_isTurned_61, b_X12_isTurned_51, b_X12_isTurned_50, b_X12_isTurned_13, krcv (kM.y hM), q1, q2, if_neg g, ki_0, ki_1, ki_2, ki_3, ki_4, ki_5, ki_6, ki_7, ki_8, ki_9, ki_10, ki_11, ki_12, ki_13, ki_18, ki_20, ki_24, ki_32, ki_36, ki_45, ki_47, ki_48, ki_50, ki_57, ki_60, ki_63, ki_99, ki_100, ki_101, ki_120, ki_255, ki_468, ki_1000, ki_1024, ki_13849, ki_25173, ki_65535, ki_65536, ki_100000, ki_100001, ki_2147483647, ki_2147483648, kl_0, kl_1, kl_2, kl_9223372036854775808, ki_add, ki_sub, ki_mul, ki_neg, kl_add, kl_sub, kl_mul, kl_neg, ki_i2l, kl_l2i, ki_lt, ki_le, ki_eq, kcmp_eq, kcmp_lt, kcmp_le, kcmp_gt, kcmp_ge, Option.bind_some, Option.map_some, kbool0, kbool1, if_pos, if_neg, if_true, if_false, Int.neg_neg, Int.sub_zero, Int.add_zero, Int.zero_add, true_and, and_true, false_and, and_false, false_or, or_false, true_or, or_true, ne_eq, not_false_eq_true, not_true_eq_false, Int.natCast_add, Int.natCast_one]
  · have tw := al1_two (fun i => if mA μ d i = mA μ e (gi μ 108 d - 1 - i) then 1 else 0) (gi μ 108 d).toNat
    have i2 := inner _ tw
    have ee : ∀ v, b_X12_isTurned_13 Y 95 (ki d) (ki e) (ki v) (ki (gi μ 108 d)) (ki ((gi μ 108 d).toNat : Nat)) μ = (jit jF (fun (s : Int32 × Int32 × jM) => b_X12_isTurned_61 Y 95 (ki d) (ki e) s.1 (ki (gi μ 108 d)) s.2.1 s.2.2) (ki v, ki 0, μ)).map (fun r => (.inr r)) := fun v => by
      simp (disch := omega) only [b_X12_isTurned_13, ki_0, ki_1, ki_2, ki_3, ki_4, ki_5, ki_6, ki_7, ki_8, ki_9, ki_10, ki_11, ki_12, ki_13, ki_18, ki_20, ki_24, ki_32, ki_36, ki_45, ki_47, ki_48, ki_50, ki_57, ki_60, ki_63, ki_99, ki_100, ki_101, ki_120, ki_255, ki_468, ki_1000, ki_1024, ki_13849, ki_25173, ki_65535, ki_65536, ki_100000, ki_100001, ki_2147483647, ki_2147483648, kl_0, kl_1, kl_2, kl_9223372036854775808, ki_add, ki_sub, ki_mul, ki_neg, kl_add, kl_sub, kl_mul, kl_neg, ki_i2l, kl_l2i, ki_lt, ki_le, ki_eq, kcmp_eq, kcmp_lt, kcmp_le, kcmp_gt, kcmp_ge, Option.bind_some, Option.map_some, kbool0, kbool1, if_pos, if_neg, if_true, if_false, Int.neg_neg, Int.sub_zero, Int.add_zero, Int.zero_add, true_and, and_true, false_and, and_false, false_or, or_false, true_or, or_true, ne_eq, not_false_eq_true, not_true_eq_false]
    simp only [ee, i2]
    rfl
noncomputable def msp (μ : jM) (d e j : Int) : Nat → Int := fun i => if mt μ d 50 j = mt μ e 50 i then 1 else 0
noncomputable def msh (μ : jM) (d e : Int) : Nat → Int
  | 0 => 0
  | j + 1 => msh μ d e j + an1 (msp μ d e j) (gi μ 108 e).toNat
theorem msh_rng (μ : jM) (d e : Int) : ∀ j : Nat, 0 ≤ msh μ d e j ∧ msh μ d e j ≤ j := by
  intro j
  induction j with
  | zero => simp [msh]
  | succ j ih =>
    rw [msh]
    have := an1_two (msp μ d e j) (gi μ 108 e).toNat
    omega
theorem Inv.shm {L : Nat} {xs : Nat → Int32} {n : Nat} {Y : jY} {μ : jM} (h : Inv L xs n Y μ) {d e : Int} (d1 : 0 ≤ d) (d2 : d ≤ 3) (e1 : 0 ≤ e) (e2 : e ≤ 3) : ∀ j, shr μ (9 + 5 + 3 * d.toNat) (9 + 5 + 3 * e.toNat) 50 j = msh μ d e j := by
  obtain ⟨hT, hB, hMB, hR, hA, hC⟩ := h.d e1 e2
  intro j
  induction j with
  | zero => rfl
  | succ j ih =>
    rw [shr, msh, ih, hR]
    congr 1
    refine an1_congr _ (fun i hi => ?_)
    unfold hasr msp
    rw [h.tre d1 d2, h.tre e1 e2]
    by_cases g : mt μ d 50 j = mt μ e 50 i
    · rw [if_pos g, if_pos g.symm]
    · rw [if_neg g, if_neg (fun q => g q.symm)]
set_option maxHeartbeats 2000000 in
theorem X12_alike2 {L : Nat} {xs : Nat → Int32} {n : Nat} {Y : jY} {μ : jM} (h : Inv L xs n Y μ) {d e : Int} (d1 : 0 ≤ d) (d2 : d ≤ 3) (e1 : 0 ≤ e) (e2 : e ≤ 3) : jit jF (fun (s : Int32 × Int32 × jM) => b_X12_alike_57 Y 95 (ki d) (ki e) s.1 s.2.1 s.2.2) (ki 0, ki 0, μ) = some (ki (msh μ d e (gi μ 108 d).toNat), μ) := by
  have hM := h.m
  obtain ⟨-, -, hMB, -, -, -⟩ := h.d d1 d2
  obtain ⟨-, -, hMB2, -, -, -⟩ := h.d e1 e2
  have hR0 := hMB.1
  have hR5 := hMB.2.1
  have hS0 := hMB2.1
  have hS5 := hMB2.2.1
  refine jit_run (fun i => (ki (msh μ d e i), ki i, μ)) _ (gi μ 108 d).toNat rfl (by omega) (fun j hj => ?_) ?_
  · have sr := msh_rng μ d e j
    have inner : jit jF (fun (s : Int32 × Int32 × jM) => b_X12_alike_74 Y 95 (ki d) (ki e) (ki (msh μ d e j)) (ki j) s.1 s.2.1 s.2.2) (ki 0, ki 0, μ) = some (.inl (ki (msh μ d e (j + 1)), ki (j + 1 : Nat), μ)) := by
      rw [msh]
      generalize msh μ d e j = z at *
      refine jit_run (fun i => (ki (an1 (msp μ d e j) i), ki i, μ)) _ (gi μ 108 e).toNat rfl (by omega) (fun i hi => ?_) ?_
      · have r1 := X12_rip h (d := d) (i := j) (q := 50) d1 d2 (by omega) (by omega) (by omega) (by omega)
        have r2 := X12_rip h (d := e) (i := i) (q := 50) e1 e2 (by omega) (by omega) (by omega) (by omega)
        have t1 := mt_rng h (d := d) (i := j) (q := 50) d1 d2 (by omega) (by omega) (by omega) (by omega)
        have t2 := mt_rng h (d := e) (i := i) (q := 50) e1 e2 (by omega) (by omega) (by omega) (by omega)
        have tw := an1_two (msp μ d e j) i
        rw [an1]
        have ep : msp μ d e j i = if mt μ d 50 j = mt μ e 50 i then 1 else 0 := rfl
        rw [ep]
        generalize an1 (msp μ d e j) i = w at *
        generalize mt μ d 50 j = w1 at *
        generalize mt μ e 50 i = w2 at *
        rcases tw with rfl | rfl
        · by_cases g : w1 = w2
          · rw [if_pos (if_pos g)]
            simp (disch := omega) only [b_X12_alike_23, b_X12_alike_43, b_X12_alike_328, b_X12_alike_310, b_X12_alike_309, b_X12_alike_261, b_X12_alike_211, b_X12_alike_198, b_X12_alike_150, b_X12_alike_130, b_X12_alike_125, b_X12_alike_74, b_X12_alike_57, krcv (kM.y hM), kM.o26 hM, kaI (kM.a108 hM), X12_in, X12_isDrawer, r1, r2, ki_0, ki_1, ki_2, ki_3, ki_4, ki_5, ki_6, ki_7, ki_8, ki_9, ki_10, ki_11, ki_12, ki_13, ki_18, ki_20, ki_24, ki_32, ki_36, ki_45, ki_47, ki_48, ki_50, ki_57, ki_60, ki_63, ki_99, ki_100, ki_101, ki_120, ki_255, ki_468, ki_1000, ki_1024, ki_13849, ki_25173, ki_65535, ki_65536, ki_100000, ki_100001, ki_2147483647, ki_2147483648, kl_0, kl_1, kl_2, kl_9223372036854775808, ki_add, ki_sub, ki_mul, ki_neg, kl_add, kl_sub, kl_mul, kl_neg, ki_i2l, kl_l2i, ki_lt, ki_le, ki_eq, kcmp_eq, kcmp_lt, kcmp_le, kcmp_gt, kcmp_ge, Option.bind_some, Option.map_some, kbool0, kbool1, if_pos, if_neg, if_true, if_false, Int.neg_neg, Int.sub_zero, Int.add_zero, Int.zero_add, true_and, and_true, false_and, and_false, false_or, or_false, true_or, or_true, ne_eq, not_false_eq_true, not_true_eq_false, Int.natCast_add, Int.natCast_one]
          · rw [if_neg (by rw [if_neg g]; omega)]
            simp (disch := omega) only [b_X12_alike_23, b_X12_alike_43, b_X12_alike_328, b_X12_alike_310, b_X12_alike_309, b_X12_alike_261, b_X12_alike_211, b_X12_alike_198, b_X12_alike_150, b_X12_alike_130, b_X12_alike_125, b_X12_alike_74, b_X12_alike_57, krcv (kM.y hM), kM.o26 hM, kaI (kM.a108 hM), X12_in, X12_isDrawer, r1, r2, ki_0, ki_1, ki_2, ki_3, ki_4, ki_5, ki_6, ki_7, ki_8, ki_9, ki_10, ki_11, ki_12, ki_13, ki_18, ki_20, ki_24, ki_32, ki_36, ki_45, ki_47, ki_48, ki_50, ki_57, ki_60, ki_63, ki_99, ki_100, ki_101, ki_120, ki_255, ki_468, ki_1000, ki_1024, ki_13849, ki_25173, ki_65535, ki_65536, ki_100000, ki_100001, ki_2147483647, ki_2147483648, kl_0, kl_1, kl_2, kl_9223372036854775808, ki_add, ki_sub, ki_mul, ki_neg, kl_add, kl_sub, kl_mul, kl_neg, ki_i2l, kl_l2i, ki_lt, ki_le, ki_eq, kcmp_eq, kcmp_lt, kcmp_le, kcmp_gt, kcmp_ge, Option.bind_some, Option.map_some, kbool0, kbool1, if_pos, if_neg, if_true, if_false, Int.neg_neg, Int.sub_zero, Int.add_zero, Int.zero_add, true_and, and_true, false_and, and_false, false_or, or_false, true_or, or_true, ne_eq, not_false_eq_true, not_true_eq_false, Int.natCast_add, Int.natCast_one]
        · simp (disch := omega) only [b_X12_alike_23, b_X12_alike_43, b_X12_alike_328, b_X12_alike_310, b_X12_alike_309, b_X12_alike_261, b_X12_alike_211, b_X12_alike_198, b_X12_alike_150, b_X12_alike_130, b_X12_alike_125, b_X12_alike_74, b_X12_alike_57, krcv (kM.y hM), kM.o26 hM, kaI (kM.a108 hM), X12_in, X12_isDrawer, ki_0, ki_1, ki_2, ki_3, ki_4, ki_5, ki_6, ki_7, ki_8, ki_9, ki_10, ki_11, ki_12, ki_13, ki_18, ki_20, ki_24, ki_32, ki_36, ki_45, ki_47, ki_48, ki_50, ki_57, ki_60, ki_63, ki_99, ki_100, ki_101, ki_120, ki_255, ki_468, ki_1000, ki_1024, ki_13849, ki_25173, ki_65535, ki_65536, ki_100000, ki_100001, ki_2147483647, ki_2147483648, kl_0, kl_1, kl_2, kl_9223372036854775808, ki_add, ki_sub, ki_mul, ki_neg, kl_add, kl_sub, kl_mul, kl_neg, ki_i2l, kl_l2i, ki_lt, ki_le, ki_eq, kcmp_eq, kcmp_lt, kcmp_le, kcmp_gt, kcmp_ge, Option.bind_some, Option.map_some, kbool0, kbool1, if_pos, if_neg, if_true, if_false, Int.neg_neg, Int.sub_zero, Int.add_zero, Int.zero_add, true_and, and_true, false_and, and_false, false_or, or_false, true_or, or_true, ne_eq, not_false_eq_true, not_true_eq_false, Int.natCast_add, Int.natCast_one, ite_self]
      · have tw := an1_two (msp μ d e j) (gi μ 108 e).toNat
        generalize an1 (msp μ d e j) (gi μ 108 e).toNat = w at *
        rcases tw with rfl | rfl <;> simp (disch := omega) only [b_X12_alike_23, b_X12_alike_43, b_X12_alike_328, b_X12_alike_310, b_X12_alike_309, b_X12_alike_261, b_X12_alike_211, b_X12_alike_198, b_X12_alike_150, b_X12_alike_130, b_X12_alike_125, b_X12_alike_74, b_X12_alike_57, krcv (kM.y hM), kM.o26 hM, kaI (kM.a108 hM), X12_in, X12_isDrawer, ki_0, ki_1, ki_2, ki_3, ki_4, ki_5, ki_6, ki_7, ki_8, ki_9, ki_10, ki_11, ki_12, ki_13, ki_18, ki_20, ki_24, ki_32, ki_36, ki_45, ki_47, ki_48, ki_50, ki_57, ki_60, ki_63, ki_99, ki_100, ki_101, ki_120, ki_255, ki_468, ki_1000, ki_1024, ki_13849, ki_25173, ki_65535, ki_65536, ki_100000, ki_100001, ki_2147483647, ki_2147483648, kl_0, kl_1, kl_2, kl_9223372036854775808, ki_add, ki_sub, ki_mul, ki_neg, kl_add, kl_sub, kl_mul, kl_neg, ki_i2l, kl_l2i, ki_lt, ki_le, ki_eq, kcmp_eq, kcmp_lt, kcmp_le, kcmp_gt, kcmp_ge, Option.bind_some, Option.map_some, kbool0, kbool1, if_pos, if_neg, if_true, if_false, Int.neg_neg, Int.sub_zero, Int.add_zero, Int.zero_add, true_and, and_true, false_and, and_false, false_or, or_false, true_or, or_true, ne_eq, not_false_eq_true, not_true_eq_false, Int.natCast_add, Int.natCast_one]
    have e : b_X12_alike_57 Y 95 (ki d) (ki e) (ki (msh μ d e j)) (ki j) μ = jit jF (fun (s : Int32 × Int32 × jM) => b_X12_alike_74 Y 95 (ki d) (ki e) (ki (msh μ d e j)) (ki j) s.1 s.2.1 s.2.2) (ki 0, ki 0, μ) := by
      simp (disch := omega) only [b_X12_alike_57, krcv (kM.y hM), kM.o26 hM, kaI (kM.a108 hM), X12_in, X12_isDrawer, ki_0, ki_1, ki_2, ki_3, ki_4, ki_5, ki_6, ki_7, ki_8, ki_9, ki_10, ki_11, ki_12, ki_13, ki_18, ki_20, ki_24, ki_32, ki_36, ki_45, ki_47, ki_48, ki_50, ki_57, ki_60, ki_63, ki_99, ki_100, ki_101, ki_120, ki_255, ki_468, ki_1000, ki_1024, ki_13849, ki_25173, ki_65535, ki_65536, ki_100000, ki_100001, ki_2147483647, ki_2147483648, kl_0, kl_1, kl_2, kl_9223372036854775808, ki_add, ki_sub, ki_mul, ki_neg, kl_add, kl_sub, kl_mul, kl_neg, ki_i2l, kl_l2i, ki_lt, ki_le, ki_eq, kcmp_eq, kcmp_lt, kcmp_le, kcmp_gt, kcmp_ge, Option.bind_some, Option.map_some, kbool0, kbool1, if_pos, if_neg, if_true, if_false, Int.neg_neg, Int.sub_zero, Int.add_zero, Int.zero_add, true_and, and_true, false_and, and_false, false_or, or_false, true_or, or_true, ne_eq, not_false_eq_true, not_true_eq_false]
    simp only [e, inner]
  · have sr := msh_rng μ d e (gi μ 108 d).toNat
    simp (disch := omega) only [b_X12_alike_57, krcv (kM.y hM), kM.o26 hM, kaI (kM.a108 hM), X12_in, X12_isDrawer, ki_0, ki_1, ki_2, ki_3, ki_4, ki_5, ki_6, ki_7, ki_8, ki_9, ki_10, ki_11, ki_12, ki_13, ki_18, ki_20, ki_24, ki_32, ki_36, ki_45, ki_47, ki_48, ki_50, ki_57, ki_60, ki_63, ki_99, ki_100, ki_101, ki_120, ki_255, ki_468, ki_1000, ki_1024, ki_13849, ki_25173, ki_65535, ki_65536, ki_100000, ki_100001, ki_2147483647, ki_2147483648, kl_0, kl_1, kl_2, kl_9223372036854775808, ki_add, ki_sub, ki_mul, ki_neg, kl_add, kl_sub, kl_mul, kl_neg, ki_i2l, kl_l2i, ki_lt, ki_le, ki_eq, kcmp_eq, kcmp_lt, kcmp_le, kcmp_gt, kcmp_ge, Option.bind_some, Option.map_some, kbool0, kbool1, if_pos, if_neg, if_true, if_false, Int.neg_neg, Int.sub_zero, Int.add_zero, Int.zero_add, true_and, and_true, false_and, and_false, false_or, or_false, true_or, or_true, ne_eq, not_false_eq_true, not_true_eq_false]
set_option maxHeartbeats 4000000 in
theorem X12_alike0 {L : Nat} {xs : Nat → Int32} {n : Nat} {Y : jY} {μ : jM} (h : Inv L xs n Y μ) {d e : Int} (d1 : 0 ≤ d) (d2 : d ≤ 3) (e1 : 0 ≤ e) (e2 : e ≤ 3) (hRR : gi μ 108 d = gi μ 108 e) : ∃ ζ ξ, f_X12_laysPoly Y 95 (ki d) (ki 0) μ = some ζ ∧ kP μ ξ ∧ jit jF (fun (s : Int32 × jM) => b_X12_alike_211 Y 95 (ki d) (ki e) (ki 1) s.1 s.2) (ki 0, ζ) = some (ki (al1 (cof (mA μ d) (mC μ d) (mA μ e) (mC μ e) (gi μ 108 d).toNat) ((gi μ 108 d).toNat + 1)), ξ) := by
  have hM := h.m
  obtain ⟨-, -, hMB, -, -, -⟩ := h.d d1 d2
  obtain ⟨-, -, hMB2, -, -, -⟩ := h.d e1 e2
  have hR0 := hMB.1
  have hR5 := hMB.2.1
  have b1 := hMB.pcs
  have b2 := hMB2.pcs
  have f1 := X12_laysPoly hM d1 d2 hMB
  have kf1 := wq_kF hM (A := mA μ d) (C := mC μ d) (gi μ 108 d).toNat (by omega)
  have g1 := (wq_gl (μ := μ) (by omega) b1 (gi μ 108 d).toNat (Nat.le_refl _)).1 (gi μ 108 d).toNat (Nat.le_refl _)
  generalize wq μ (mA μ d) (mC μ d) (gi μ 108 d).toNat = ζ at *
  have mζ := hM.to kf1
  have kw : ∀ i : Nat, i ≤ 6 → kF 118 119 ζ (wrl ζ 118 0 (pcs (mA μ d) (mC μ d) (gi μ 108 d).toNat).2 i) := fun i hi => wrl_kF (by omega) (by omega) i (fun j hj => by rw [Nat.zero_add]; exact (kM.a118 mζ).2.2.2 _ (by omega))
  have mω := mζ.to (kw ((gi μ 108 d).toNat + 1) (by omega))
  have kω : kF 117 119 μ (wrl ζ 118 0 (pcs (mA μ d) (mC μ d) (gi μ 108 d).toNat).2 ((gi μ 108 d).toNat + 1)) := (kf1.mono (by omega) (by omega)).trans ((kw _ (by omega)).mono (by omega) (by omega))
  have gω : ∀ x : Int, 0 ≤ x → x ≤ gi μ 108 d → gl (wrl ζ 118 0 (pcs (mA μ d) (mC μ d) (gi μ 108 d).toNat).2 ((gi μ 108 d).toNat + 1)) 118 x = (pcs (mA μ d) (mC μ d) (gi μ 108 d).toNat).2 x := fun x x0 x1 => by
    rw [wrl_gl _ (fun j _ => by have := b1 (gi μ 108 d).toNat (Nat.le_refl _) j; omega) x x0, if_pos (by omega), Int.natCast_zero, Int.sub_zero]
  have kpω := kP.of_scr (kω.mono (by omega) (by omega))
  have step : ∀ i : Nat, i < (gi μ 108 d).toNat + 1 → b_X12_alike_211 Y 95 (ki d) (ki e) (ki 1) (ki i) (wrl ζ 118 0 (pcs (mA μ d) (mC μ d) (gi μ 108 d).toNat).2 i) = some (.inl (ki (i + 1 : Nat), wrl ζ 118 0 (pcs (mA μ d) (mC μ d) (gi μ 108 d).toNat).2 (i + 1))) := by
    intro i hi
    have k1 := kw i (by omega)
    have k2 : kF 117 119 μ (wrl ζ 118 0 (pcs (mA μ d) (mC μ d) (gi μ 108 d).toNat).2 i) := (kf1.mono (by omega) (by omega)).trans (k1.mono (by omega) (by omega))
    simp only [wrl]
    have g2 := g1 i (by omega) (by omega)
    generalize wrl ζ 118 0 (pcs (mA μ d) (mC μ d) (gi μ 108 d).toNat).2 i = ν at *
    have m1 := hM.to k2
    have l1 := kaL (kM.a117 m1) (x := 6 * gi μ 108 d + i) (by omega) (by omega)
    rw [k1.gl (by omega), show 6 * gi μ 108 d + (i : Int) = 6 * (((gi μ 108 d).toNat : Nat) : Int) + i from by omega, g2, show 6 * (((gi μ 108 d).toNat : Nat) : Int) + (i : Int) = 6 * gi μ 108 d + i from by omega] at l1
    have s1 := fun v => kasL (v := v) (kM.a118 m1) (x := (i : Int)) (by omega) (by omega)
    have eR : gi ν 108 d = gi μ 108 d := k2.gi (by omega) _
    simp (disch := omega) only [b_X12_alike_211, kM.o26 m1, kaI (kM.a108 m1), eR, kM.o35 m1, kM.o36 m1, l1, s1, ki_0, ki_1, ki_2, ki_3, ki_4, ki_5, ki_6, ki_7, ki_8, ki_9, ki_10, ki_11, ki_12, ki_13, ki_18, ki_20, ki_24, ki_32, ki_36, ki_45, ki_47, ki_48, ki_50, ki_57, ki_60, ki_63, ki_99, ki_100, ki_101, ki_120, ki_255, ki_468, ki_1000, ki_1024, ki_13849, ki_25173, ki_65535, ki_65536, ki_100000, ki_100001, ki_2147483647, ki_2147483648, kl_0, kl_1, kl_2, kl_9223372036854775808, ki_add, ki_sub, ki_mul, ki_neg, kl_add, kl_sub, kl_mul, kl_neg, ki_i2l, kl_l2i, ki_lt, ki_le, ki_eq, kcmp_eq, kcmp_lt, kcmp_le, kcmp_gt, kcmp_ge, Option.bind_some, Option.map_some, kbool0, kbool1, if_pos, if_neg, if_true, if_false, Int.neg_neg, Int.sub_zero, Int.add_zero, Int.zero_add, true_and, and_true, false_and, and_false, false_or, or_false, true_or, or_true, ne_eq, not_false_eq_true, not_true_eq_false, Int.natCast_add, Int.natCast_one, Int.toNat_natCast, Nat.zero_add]
  have s0 : ζ = wrl ζ 118 0 (pcs (mA μ d) (mC μ d) (gi μ 108 d).toNat).2 0 := rfl
  have hlast : wrl ζ 118 0 (pcs (mA μ d) (mC μ d) (gi μ 108 d).toNat).2 ((gi μ 108 d).toNat + 1) = wrl ζ 118 0 (pcs (mA μ d) (mC μ d) (gi μ 108 d).toNat).2 ((gi μ 108 d).toNat + 1) := rfl
  obtain ⟨ω, hω⟩ : ∃ ω, ω = wrl ζ 118 0 (pcs (mA μ d) (mC μ d) (gi μ 108 d).toNat).2 ((gi μ 108 d).toNat + 1) := ⟨_, rfl⟩
  rw [← hω] at mω kω gω kpω
  have hI2 := h.to kpω
  obtain ⟨-, -, hMB3, -, -, -⟩ := hI2.d e1 e2
  have eR2 : gi ω 108 e = gi μ 108 e := kω.gi (by omega) _
  have eR3 : gi ω 108 d = gi μ 108 d := kω.gi (by omega) _
  have eA2 : mA ω e = mA μ e := funext fun x => kω.gi (by omega) _
  have eC2 : mC ω e = mC μ e := funext fun x => kω.gi (by omega) _
  have f2 := X12_laysPoly mω e1 e2 hMB3
  have kf2 := wq_kF mω (A := mA ω e) (C := mC ω e) (gi ω 108 e).toNat (by omega)
  have g3 := (wq_gl (μ := ω) (by omega) hMB3.pcs (gi ω 108 e).toNat (Nat.le_refl _)).1 (gi ω 108 e).toNat (Nat.le_refl _)
  rw [eA2, eC2, eR2, ← hRR] at f2 kf2 g3
  generalize wq ω (mA μ e) (mC μ e) (gi μ 108 d).toNat = ξ at *
  have mξ := mω.to kf2
  have eR4 : gi ξ 108 d = gi μ 108 d := by rw [kf2.gi (by omega), eR3]
  refine ⟨ζ, ξ, f1, kpω.trans (kP.of_scr (kf2.mono (by omega) (by omega))), ?_⟩
  have loop2 : jit jF (fun (s : Int32 × Int32 × jM) => b_X12_alike_261 Y 95 (ki d) s.1 s.2.1 s.2.2) (ki 1, ki 0, ξ) = some (ki (al1 (cof (mA μ d) (mC μ d) (mA μ e) (mC μ e) (gi μ 108 d).toNat) ((gi μ 108 d).toNat + 1)), ξ) := by
    refine jit_run (fun i => (ki (al1 (cof (mA μ d) (mC μ d) (mA μ e) (mC μ e) (gi μ 108 d).toNat) i), ki i, ξ)) _ ((gi μ 108 d).toNat + 1) rfl (by omega) (fun i hi => ?_) ?_
    · have q1 := kaL (kM.a118 mξ) (x := (i : Int)) (by omega) (by omega)
      rw [kf2.gl (by omega), gω i (by omega) (by omega)] at q1
      have q2 := kaL (kM.a117 mξ) (x := 6 * gi μ 108 d + i) (by omega) (by omega)
      rw [show 6 * gi μ 108 d + (i : Int) = 6 * (((gi μ 108 d).toNat : Nat) : Int) + i from by omega, g3 i (by omega) (by omega), show 6 * (((gi μ 108 d).toNat : Nat) : Int) + (i : Int) = 6 * gi μ 108 d + i from by omega] at q2
      have v1 := b1 (gi μ 108 d).toNat (Nat.le_refl _) i
      have v2 := b2 (gi μ 108 d).toNat (by omega) i
      have tw := al1_two (cof (mA μ d) (mC μ d) (mA μ e) (mC μ e) (gi μ 108 d).toNat) i
      rw [al1]
      have ep : cof (mA μ d) (mC μ d) (mA μ e) (mC μ e) (gi μ 108 d).toNat i = if (pcs (mA μ d) (mC μ d) (gi μ 108 d).toNat).2 i = (pcs (mA μ e) (mC μ e) (gi μ 108 d).toNat).2 i then 1 else 0 := rfl
      rw [ep]
      generalize al1 (cof (mA μ d) (mC μ d) (mA μ e) (mC μ e) (gi μ 108 d).toNat) i = w at *
      generalize (pcs (mA μ d) (mC μ d) (gi μ 108 d).toNat).2 (i : Int) = w1 at *
      generalize (pcs (mA μ e) (mC μ e) (gi μ 108 d).toNat).2 (i : Int) = w2 at *
      rcases tw with rfl | rfl
      · simp (disch := omega) only [b_X12_alike_261, b_X12_alike_309, b_X12_alike_310, kM.o26 mξ, kaI (kM.a108 mξ), eR4, ki_0, ki_1, ki_2, ki_3, ki_4, ki_5, ki_6, ki_7, ki_8, ki_9, ki_10, ki_11, ki_12, ki_13, ki_18, ki_20, ki_24, ki_32, ki_36, ki_45, ki_47, ki_48, ki_50, ki_57, ki_60, ki_63, ki_99, ki_100, ki_101, ki_120, ki_255, ki_468, ki_1000, ki_1024, ki_13849, ki_25173, ki_65535, ki_65536, ki_100000, ki_100001, ki_2147483647, ki_2147483648, kl_0, kl_1, kl_2, kl_9223372036854775808, ki_add, ki_sub, ki_mul, ki_neg, kl_add, kl_sub, kl_mul, kl_neg, ki_i2l, kl_l2i, ki_lt, ki_le, ki_eq, kcmp_eq, kcmp_lt, kcmp_le, kcmp_gt, kcmp_ge, Option.bind_some, Option.map_some, kbool0, kbool1, if_pos, if_neg, if_true, if_false, Int.neg_neg, Int.sub_zero, Int.add_zero, Int.zero_add, true_and, and_true, false_and, and_false, false_or, or_false, true_or, or_true, ne_eq, not_false_eq_true, not_true_eq_false, Int.natCast_add, Int.natCast_one, ite_self]
      · by_cases g : w1 = w2
        · rw [if_pos (if_pos g)]
          simp (disch := omega) only [b_X12_alike_261, b_X12_alike_309, b_X12_alike_310, kM.o26 mξ, kaI (kM.a108 mξ), eR4, kM.o35 mξ, kM.o36 mξ, q1, q2, ki_0, ki_1, ki_2, ki_3, ki_4, ki_5, ki_6, ki_7, ki_8, ki_9, ki_10, ki_11, ki_12, ki_13, ki_18, ki_20, ki_24, ki_32, ki_36, ki_45, ki_47, ki_48, ki_50, ki_57, ki_60, ki_63, ki_99, ki_100, ki_101, ki_120, ki_255, ki_468, ki_1000, ki_1024, ki_13849, ki_25173, ki_65535, ki_65536, ki_100000, ki_100001, ki_2147483647, ki_2147483648, kl_0, kl_1, kl_2, kl_9223372036854775808, ki_add, ki_sub, ki_mul, ki_neg, kl_add, kl_sub, kl_mul, kl_neg, ki_i2l, kl_l2i, ki_lt, ki_le, ki_eq, kcmp_eq, kcmp_lt, kcmp_le, kcmp_gt, kcmp_ge, Option.bind_some, Option.map_some, kbool0, kbool1, if_pos, if_neg, if_true, if_false, Int.neg_neg, Int.sub_zero, Int.add_zero, Int.zero_add, true_and, and_true, false_and, and_false, false_or, or_false, true_or, or_true, ne_eq, not_false_eq_true, not_true_eq_false, Int.natCast_add, Int.natCast_one]
        · rw [if_neg (by rw [if_neg g]; omega)]
          simp (disch := omega) only [b_X12_alike_261, b_X12_alike_309, b_X12_alike_310, kM.o26 mξ, kaI (kM.a108 mξ), eR4, kM.o35 mξ, kM.o36 mξ, q1, q2, ki_0, ki_1, ki_2, ki_3, ki_4, ki_5, ki_6, ki_7, ki_8, ki_9, ki_10, ki_11, ki_12, ki_13, ki_18, ki_20, ki_24, ki_32, ki_36, ki_45, ki_47, ki_48, ki_50, ki_57, ki_60, ki_63, ki_99, ki_100, ki_101, ki_120, ki_255, ki_468, ki_1000, ki_1024, ki_13849, ki_25173, ki_65535, ki_65536, ki_100000, ki_100001, ki_2147483647, ki_2147483648, kl_0, kl_1, kl_2, kl_9223372036854775808, ki_add, ki_sub, ki_mul, ki_neg, kl_add, kl_sub, kl_mul, kl_neg, ki_i2l, kl_l2i, ki_lt, ki_le, ki_eq, kcmp_eq, kcmp_lt, kcmp_le, kcmp_gt, kcmp_ge, Option.bind_some, Option.map_some, kbool0, kbool1, if_pos, if_neg, if_true, if_false, Int.neg_neg, Int.sub_zero, Int.add_zero, Int.zero_add, true_and, and_true, false_and, and_false, false_or, or_false, true_or, or_true, ne_eq, not_false_eq_true, not_true_eq_false, Int.natCast_add, Int.natCast_one]
    · have tw := al1_two (cof (mA μ d) (mC μ d) (mA μ e) (mC μ e) (gi μ 108 d).toNat) ((gi μ 108 d).toNat + 1)
      rcases tw with tw | tw <;> simp (disch := omega) only [b_X12_alike_261, b_X12_alike_328, kM.o26 mξ, kaI (kM.a108 mξ), eR4, tw, ki_0, ki_1, ki_2, ki_3, ki_4, ki_5, ki_6, ki_7, ki_8, ki_9, ki_10, ki_11, ki_12, ki_13, ki_18, ki_20, ki_24, ki_32, ki_36, ki_45, ki_47, ki_48, ki_50, ki_57, ki_60, ki_63, ki_99, ki_100, ki_101, ki_120, ki_255, ki_468, ki_1000, ki_1024, ki_13849, ki_25173, ki_65535, ki_65536, ki_100000, ki_100001, ki_2147483647, ki_2147483648, kl_0, kl_1, kl_2, kl_9223372036854775808, ki_add, ki_sub, ki_mul, ki_neg, kl_add, kl_sub, kl_mul, kl_neg, ki_i2l, kl_l2i, ki_lt, ki_le, ki_eq, kcmp_eq, kcmp_lt, kcmp_le, kcmp_gt, kcmp_ge, Option.bind_some, Option.map_some, kbool0, kbool1, if_pos, if_neg, if_true, if_false, Int.neg_neg, Int.sub_zero, Int.add_zero, Int.zero_add, true_and, and_true, false_and, and_false, false_or, or_false, true_or, or_true, ne_eq, not_false_eq_true, not_true_eq_false, Int.natCast_add, Int.natCast_one]
  refine jit_run (fun i => (ki i, wrl ζ 118 0 (pcs (mA μ d) (mC μ d) (gi μ 108 d).toNat).2 i)) _ ((gi μ 108 d).toNat + 1) rfl (by omega) step ?_
  have e : b_X12_alike_211 Y 95 (ki d) (ki e) (ki 1) (ki ((gi μ 108 d).toNat + 1 : Nat)) ω = (jit jF (fun (s : Int32 × Int32 × jM) => b_X12_alike_261 Y 95 (ki d) s.1 s.2.1 s.2.2) (ki 1, ki 0, ξ)).map (fun r => (.inr r)) := by
    simp (disch := omega) only [b_X12_alike_211, kM.o26 mω, kaI (kM.a108 mω), eR3, krcv (kM.y mω), f2, ki_0, ki_1, ki_2, ki_3, ki_4, ki_5, ki_6, ki_7, ki_8, ki_9, ki_10, ki_11, ki_12, ki_13, ki_18, ki_20, ki_24, ki_32, ki_36, ki_45, ki_47, ki_48, ki_50, ki_57, ki_60, ki_63, ki_99, ki_100, ki_101, ki_120, ki_255, ki_468, ki_1000, ki_1024, ki_13849, ki_25173, ki_65535, ki_65536, ki_100000, ki_100001, ki_2147483647, ki_2147483648, kl_0, kl_1, kl_2, kl_9223372036854775808, ki_add, ki_sub, ki_mul, ki_neg, kl_add, kl_sub, kl_mul, kl_neg, ki_i2l, kl_l2i, ki_lt, ki_le, ki_eq, kcmp_eq, kcmp_lt, kcmp_le, kcmp_gt, kcmp_ge, Option.bind_some, Option.map_some, kbool0, kbool1, if_pos, if_neg, if_true, if_false, Int.neg_neg, Int.sub_zero, Int.add_zero, Int.zero_add, true_and, and_true, false_and, and_false, false_or, or_false, true_or, or_true, ne_eq, not_false_eq_true, not_true_eq_false, Int.natCast_add, Int.natCast_one]
  simp only [← hω, e, loop2]
  rfl
set_option maxHeartbeats 4000000 in
theorem ok_alike {L : Nat} {xs : Nat → Int32} {n : Nat} {Y : jY} {μ : jM} (h : Inv L xs n Y μ) : so_alike (Inv L xs) n Y μ := by
  have hX := h.x
  have hM := h.m
  intro a1 a2 a3
  obtain ⟨d, d1, d2, rfl⟩ := ki_is a1
  obtain ⟨e, e1, e2, rfl⟩ := ki_is a2
  obtain ⟨q, q1, q2, rfl⟩ := ki_is a3
  by_cases hd : 0 ≤ d ∧ d ≤ 3
  · obtain ⟨hT, hB, hMB, hR, hA, hC⟩ := h.d hd.1 hd.2; have hR0 := hMB.1; have hR5 := hMB.2.1
    by_cases he : 0 ≤ e ∧ e ≤ 3
    · obtain ⟨hT2, hB2, hMB2, hR2, hA2, hC2⟩ := h.d he.1 he.2
      have hS0 := hMB2.1
      have hS5 := hMB2.2.1
      by_cases hq : 0 ≤ q ∧ q ≤ 2
      · by_cases hz : gi μ 108 d = 0
        · refine ⟨(ki (-2), μ), (ki (-2), μ), ?_, fun _ => rfl, ?_, rfl, h⟩ <;> simp (maxSteps := 2000000) (disch := omega) only [f_X11_alike, b_X11_alike_23, b_X11_alike_63, f_X12_alike, b_X12_alike_23, b_X12_alike_43, krcv (kX.y1 hX), kX.o1_3 hX, kS.gd (kX.now hX), kS.gt (kX.now hX), X11_within, X11_isDrawer, f_X11_isFilled, b_X11_isFilled_27, b_X11_isFilled_26, f_X11_isRow, b_X11_isRow_35, b_X11_isRow_34, f_X11_isPart, b_X11_isPart_14, b_X11_isPart_9, krcv (kM.y hM), kM.o26 hM, kaI (kM.a108 hM), X12_in, X12_isDrawer, kT.gr hT, kT.gr hT2, hR, hR2, ki_0, ki_1, ki_2, ki_3, ki_4, ki_5, ki_6, ki_7, ki_8, ki_9, ki_10, ki_11, ki_12, ki_13, ki_18, ki_20, ki_24, ki_32, ki_36, ki_45, ki_47, ki_48, ki_50, ki_57, ki_60, ki_63, ki_99, ki_100, ki_101, ki_120, ki_255, ki_468, ki_1000, ki_1024, ki_13849, ki_25173, ki_65535, ki_65536, ki_100000, ki_100001, ki_2147483647, ki_2147483648, kl_0, kl_1, kl_2, kl_9223372036854775808, ki_add, ki_sub, ki_mul, ki_neg, kl_add, kl_sub, kl_mul, kl_neg, ki_i2l, kl_l2i, ki_lt, ki_le, ki_eq, kcmp_eq, kcmp_lt, kcmp_le, kcmp_gt, kcmp_ge, Option.bind_some, Option.map_some, kbool0, kbool1, if_pos, if_neg, if_true, if_false, Int.neg_neg, Int.sub_zero, Int.add_zero, Int.zero_add, true_and, and_true, false_and, and_false, false_or, or_false, true_or, or_true, ne_eq, not_false_eq_true, not_true_eq_false]
        · by_cases hz2 : gi μ 108 e = 0
          · refine ⟨(ki (-2), μ), (ki (-2), μ), ?_, fun _ => rfl, ?_, rfl, h⟩ <;> simp (maxSteps := 2000000) (disch := omega) only [f_X11_alike, b_X11_alike_23, b_X11_alike_63, f_X12_alike, b_X12_alike_23, b_X12_alike_43, krcv (kX.y1 hX), kX.o1_3 hX, kS.gd (kX.now hX), kS.gt (kX.now hX), X11_within, X11_isDrawer, f_X11_isFilled, b_X11_isFilled_27, b_X11_isFilled_26, f_X11_isRow, b_X11_isRow_35, b_X11_isRow_34, f_X11_isPart, b_X11_isPart_14, b_X11_isPart_9, krcv (kM.y hM), kM.o26 hM, kaI (kM.a108 hM), X12_in, X12_isDrawer, kT.gr hT, kT.gr hT2, hR, hR2, ki_0, ki_1, ki_2, ki_3, ki_4, ki_5, ki_6, ki_7, ki_8, ki_9, ki_10, ki_11, ki_12, ki_13, ki_18, ki_20, ki_24, ki_32, ki_36, ki_45, ki_47, ki_48, ki_50, ki_57, ki_60, ki_63, ki_99, ki_100, ki_101, ki_120, ki_255, ki_468, ki_1000, ki_1024, ki_13849, ki_25173, ki_65535, ki_65536, ki_100000, ki_100001, ki_2147483647, ki_2147483648, kl_0, kl_1, kl_2, kl_9223372036854775808, ki_add, ki_sub, ki_mul, ki_neg, kl_add, kl_sub, kl_mul, kl_neg, ki_i2l, kl_l2i, ki_lt, ki_le, ki_eq, kcmp_eq, kcmp_lt, kcmp_le, kcmp_gt, kcmp_ge, Option.bind_some, Option.map_some, kbool0, kbool1, if_pos, if_neg, if_true, if_false, Int.neg_neg, Int.sub_zero, Int.add_zero, Int.zero_add, true_and, and_true, false_and, and_false, false_or, or_false, true_or, or_true, ne_eq, not_false_eq_true, not_true_eq_false]
          · by_cases hq2 : q = 2
            · subst hq2
              have f1 := X10_sharedRoots hT hB hT2 hB2 (q := 50) (by omega) (by omega)
              rw [h.shm hd.1 hd.2 he.1 he.2, hR] at f1
              have f2 := X12_alike2 h hd.1 hd.2 he.1 he.2
              generalize msh μ d e (gi μ 108 d).toNat = z at *
              refine ⟨(ki z, μ), (ki z, μ), ?_, fun _ => rfl, ?_, rfl, h⟩
              · simp (disch := omega) only [f_X11_alike, b_X11_alike_23, b_X11_alike_63, b_X11_alike_114, b_X11_alike_102, krcv (kX.y1 hX), kX.o1_3 hX, kS.gd (kX.now hX), kS.gt (kX.now hX), X11_within, X11_isDrawer, f_X11_isFilled, b_X11_isFilled_27, b_X11_isFilled_26, f_X11_isRow, b_X11_isRow_35, b_X11_isRow_34, f_X11_isPart, b_X11_isPart_14, b_X11_isPart_9, kT.gr hT, kT.gr hT2, krcv hT.y, hR, hR2, f1, ki_0, ki_1, ki_2, ki_3, ki_4, ki_5, ki_6, ki_7, ki_8, ki_9, ki_10, ki_11, ki_12, ki_13, ki_18, ki_20, ki_24, ki_32, ki_36, ki_45, ki_47, ki_48, ki_50, ki_57, ki_60, ki_63, ki_99, ki_100, ki_101, ki_120, ki_255, ki_468, ki_1000, ki_1024, ki_13849, ki_25173, ki_65535, ki_65536, ki_100000, ki_100001, ki_2147483647, ki_2147483648, kl_0, kl_1, kl_2, kl_9223372036854775808, ki_add, ki_sub, ki_mul, ki_neg, kl_add, kl_sub, kl_mul, kl_neg, ki_i2l, kl_l2i, ki_lt, ki_le, ki_eq, kcmp_eq, kcmp_lt, kcmp_le, kcmp_gt, kcmp_ge, Option.bind_some, Option.map_some, kbool0, kbool1, if_pos, if_neg, if_true, if_false, Int.neg_neg, Int.sub_zero, Int.add_zero, Int.zero_add, true_and, and_true, false_and, and_false, false_or, or_false, true_or, or_true, ne_eq, not_false_eq_true, not_true_eq_false]
              · simp (disch := omega) only [f_X12_alike, krcv (kM.y hM), kM.o26 hM, kaI (kM.a108 hM), X12_in, X12_isDrawer, ki_0, ki_1, ki_2, ki_3, ki_4, ki_5, ki_6, ki_7, ki_8, ki_9, ki_10, ki_11, ki_12, ki_13, ki_18, ki_20, ki_24, ki_32, ki_36, ki_45, ki_47, ki_48, ki_50, ki_57, ki_60, ki_63, ki_99, ki_100, ki_101, ki_120, ki_255, ki_468, ki_1000, ki_1024, ki_13849, ki_25173, ki_65535, ki_65536, ki_100000, ki_100001, ki_2147483647, ki_2147483648, kl_0, kl_1, kl_2, kl_9223372036854775808, ki_add, ki_sub, ki_mul, ki_neg, kl_add, kl_sub, kl_mul, kl_neg, ki_i2l, kl_l2i, ki_lt, ki_le, ki_eq, kcmp_eq, kcmp_lt, kcmp_le, kcmp_gt, kcmp_ge, Option.bind_some, Option.map_some, kbool0, kbool1, if_pos, if_neg, if_true, if_false, Int.neg_neg, Int.sub_zero, Int.add_zero, Int.zero_add, true_and, and_true, false_and, and_false, false_or, or_false, true_or, or_true, ne_eq, not_false_eq_true, not_true_eq_false]
                exact f2
            · by_cases hRR : gi μ 108 d = gi μ 108 e
              · by_cases hq1 : q = 1
                · subst hq1
                  have f1 := X10_isTurnOf hT hB hT2 hB2 (by omega)
                  have f2 := X12_isTurned hM hd.1 hd.2 he.1 he.2 hMB hMB2 hRR (by omega)
                  have f3 : tn (gi μ (9 + 5 + 3 * d.toNat + 1)) (gi μ (9 + 5 + 3 * d.toNat + 2)) (gi μ (9 + 5 + 3 * e.toNat + 1)) (gi μ (9 + 5 + 3 * e.toNat + 2)) (gi μ (9 + 5 + 3 * d.toNat) 0) = tn (mA μ d) (mC μ d) (mA μ e) (mC μ e) (gi μ 108 d) := by
                    unfold tn
                    rw [hR]
                    rw [al1_congr (p := fun i : Nat => if gi μ (9 + 5 + 3 * d.toNat + 1) i = gi μ (9 + 5 + 3 * e.toNat + 1) (gi μ 108 d - 1 - i) then 1 else 0) (p2 := fun i : Nat => if mA μ d i = mA μ e (gi μ 108 d - 1 - i) then 1 else 0) _ (fun i hi => by rw [hA i (by omega) (by omega), hA2 _ (by omega) (by omega)])]
                    rw [al1_congr (p := fun i : Nat => if gi μ (9 + 5 + 3 * d.toNat + 2) i = gi μ (9 + 5 + 3 * e.toNat + 2) (gi μ 108 d - 2 - i) then 1 else 0) (p2 := fun i : Nat => if mC μ d i = mC μ e (gi μ 108 d - 2 - i) then 1 else 0) _ (fun i hi => by rw [hC i (by omega) (by omega), hC2 _ (by omega) (by omega)])]
                  rw [f3, if_pos (by omega)] at f1
                  have tw : tn (mA μ d) (mC μ d) (mA μ e) (mC μ e) (gi μ 108 d) = 0 ∨ tn (mA μ d) (mC μ d) (mA μ e) (mC μ e) (gi μ 108 d) = 1 := by
                    unfold tn
                    split
                    · exact al1_two _ _
                    · exact Or.inl rfl
                  generalize tn (mA μ d) (mC μ d) (mA μ e) (mC μ e) (gi μ 108 d) = z at *
                  refine ⟨(ki z, μ), (ki z, μ), ?_, fun _ => rfl, ?_, rfl, h⟩
                  · rcases tw with rfl | rfl <;> simp (disch := omega) only [f_X11_alike, b_X11_alike_23, b_X11_alike_63, b_X11_alike_114, b_X11_alike_102, krcv (kX.y1 hX), kX.o1_3 hX, kS.gd (kX.now hX), kS.gt (kX.now hX), X11_within, X11_isDrawer, f_X11_isFilled, b_X11_isFilled_27, b_X11_isFilled_26, f_X11_isRow, b_X11_isRow_35, b_X11_isRow_34, f_X11_isPart, b_X11_isPart_14, b_X11_isPart_9, kT.gr hT, kT.gr hT2, krcv hT.y, hR, hR2, f1, ki_0, ki_1, ki_2, ki_3, ki_4, ki_5, ki_6, ki_7, ki_8, ki_9, ki_10, ki_11, ki_12, ki_13, ki_18, ki_20, ki_24, ki_32, ki_36, ki_45, ki_47, ki_48, ki_50, ki_57, ki_60, ki_63, ki_99, ki_100, ki_101, ki_120, ki_255, ki_468, ki_1000, ki_1024, ki_13849, ki_25173, ki_65535, ki_65536, ki_100000, ki_100001, ki_2147483647, ki_2147483648, kl_0, kl_1, kl_2, kl_9223372036854775808, ki_add, ki_sub, ki_mul, ki_neg, kl_add, kl_sub, kl_mul, kl_neg, ki_i2l, kl_l2i, ki_lt, ki_le, ki_eq, kcmp_eq, kcmp_lt, kcmp_le, kcmp_gt, kcmp_ge, Option.bind_some, Option.map_some, kbool0, kbool1, if_pos, if_neg, if_true, if_false, Int.neg_neg, Int.sub_zero, Int.add_zero, Int.zero_add, true_and, and_true, false_and, and_false, false_or, or_false, true_or, or_true, ne_eq, not_false_eq_true, not_true_eq_false]
                  · rcases tw with rfl | rfl <;> simp (disch := omega) only [f_X12_alike, b_X12_alike_198, krcv (kM.y hM), kM.o26 hM, kaI (kM.a108 hM), X12_in, X12_isDrawer, f2, ki_0, ki_1, ki_2, ki_3, ki_4, ki_5, ki_6, ki_7, ki_8, ki_9, ki_10, ki_11, ki_12, ki_13, ki_18, ki_20, ki_24, ki_32, ki_36, ki_45, ki_47, ki_48, ki_50, ki_57, ki_60, ki_63, ki_99, ki_100, ki_101, ki_120, ki_255, ki_468, ki_1000, ki_1024, ki_13849, ki_25173, ki_65535, ki_65536, ki_100000, ki_100001, ki_2147483647, ki_2147483648, kl_0, kl_1, kl_2, kl_9223372036854775808, ki_add, ki_sub, ki_mul, ki_neg, kl_add, kl_sub, kl_mul, kl_neg, ki_i2l, kl_l2i, ki_lt, ki_le, ki_eq, kcmp_eq, kcmp_lt, kcmp_le, kcmp_gt, kcmp_ge, Option.bind_some, Option.map_some, kbool0, kbool1, if_pos, if_neg, if_true, if_false, Int.neg_neg, Int.sub_zero, Int.add_zero, Int.zero_add, true_and, and_true, false_and, and_false, false_or, or_false, true_or, or_true, ne_eq, not_false_eq_true, not_true_eq_false]
                · obtain rfl : q = 0 := by omega
                  have f1 := X10_soundsLike hT hB hT2 hB2
                  obtain ⟨ζ, ξ, f2, f3, f4⟩ := X12_alike0 h hd.1 hd.2 he.1 he.2 hRR
                  rw [coef_val (by omega)] at f4
                  have f5 : al1 (alk μ (9 + 5 + 3 * d.toNat) (9 + 5 + 3 * e.toNat)) (gi μ (9 + 5 + 3 * d.toNat) 0).toNat = al1 (vlk (mA μ d) (mC μ d) (mA μ e) (mC μ e) (gi μ 108 d).toNat) (gi μ 108 d).toNat := by
                    rw [hR]
                    refine al1_congr _ (fun i hi => ?_)
                    unfold alk vlk
                    rw [hR]
                    rw [pv_congr (n := (gi μ 108 d).toNat) (A := gi μ (9 + 5 + 3 * d.toNat + 1)) (C := gi μ (9 + 5 + 3 * d.toNat + 2)) (A2 := mA μ d) (C2 := mC μ d) (fun x a b => hA x a (by omega)) (fun x a b => hC x a (by omega)) _ (Nat.le_refl _)]
                    rw [pv_congr (n := (gi μ 108 d).toNat) (A := gi μ (9 + 5 + 3 * e.toNat + 1)) (C := gi μ (9 + 5 + 3 * e.toNat + 2)) (A2 := mA μ e) (C2 := mC μ e) (fun x a b => hA2 x a (by omega)) (fun x a b => hC2 x a (by omega)) _ (Nat.le_refl _)]
                  rw [f5, if_pos (by omega)] at f1
                  have tw := al1_two (vlk (mA μ d) (mC μ d) (mA μ e) (mC μ e) (gi μ 108 d).toNat) (gi μ 108 d).toNat
                  generalize al1 (vlk (mA μ d) (mC μ d) (mA μ e) (mC μ e) (gi μ 108 d).toNat) (gi μ 108 d).toNat = z at *
                  refine ⟨(ki z, μ), (ki z, ξ), ?_, fun _ => rfl, ?_, rfl, h.to f3⟩
                  · rcases tw with rfl | rfl <;> simp (disch := omega) only [f_X11_alike, b_X11_alike_23, b_X11_alike_63, b_X11_alike_114, b_X11_alike_102, krcv (kX.y1 hX), kX.o1_3 hX, kS.gd (kX.now hX), kS.gt (kX.now hX), X11_within, X11_isDrawer, f_X11_isFilled, b_X11_isFilled_27, b_X11_isFilled_26, f_X11_isRow, b_X11_isRow_35, b_X11_isRow_34, f_X11_isPart, b_X11_isPart_14, b_X11_isPart_9, kT.gr hT, kT.gr hT2, krcv hT.y, hR, hR2, f1, ki_0, ki_1, ki_2, ki_3, ki_4, ki_5, ki_6, ki_7, ki_8, ki_9, ki_10, ki_11, ki_12, ki_13, ki_18, ki_20, ki_24, ki_32, ki_36, ki_45, ki_47, ki_48, ki_50, ki_57, ki_60, ki_63, ki_99, ki_100, ki_101, ki_120, ki_255, ki_468, ki_1000, ki_1024, ki_13849, ki_25173, ki_65535, ki_65536, ki_100000, ki_100001, ki_2147483647, ki_2147483648, kl_0, kl_1, kl_2, kl_9223372036854775808, ki_add, ki_sub, ki_mul, ki_neg, kl_add, kl_sub, kl_mul, kl_neg, ki_i2l, kl_l2i, ki_lt, ki_le, ki_eq, kcmp_eq, kcmp_lt, kcmp_le, kcmp_gt, kcmp_ge, Option.bind_some, Option.map_some, kbool0, kbool1, if_pos, if_neg, if_true, if_false, Int.neg_neg, Int.sub_zero, Int.add_zero, Int.zero_add, true_and, and_true, false_and, and_false, false_or, or_false, true_or, or_true, ne_eq, not_false_eq_true, not_true_eq_false]
                  · simp (disch := omega) only [f_X12_alike, krcv (kM.y hM), kM.o26 hM, kaI (kM.a108 hM), X12_in, X12_isDrawer, f2, ki_0, ki_1, ki_2, ki_3, ki_4, ki_5, ki_6, ki_7, ki_8, ki_9, ki_10, ki_11, ki_12, ki_13, ki_18, ki_20, ki_24, ki_32, ki_36, ki_45, ki_47, ki_48, ki_50, ki_57, ki_60, ki_63, ki_99, ki_100, ki_101, ki_120, ki_255, ki_468, ki_1000, ki_1024, ki_13849, ki_25173, ki_65535, ki_65536, ki_100000, ki_100001, ki_2147483647, ki_2147483648, kl_0, kl_1, kl_2, kl_9223372036854775808, ki_add, ki_sub, ki_mul, ki_neg, kl_add, kl_sub, kl_mul, kl_neg, ki_i2l, kl_l2i, ki_lt, ki_le, ki_eq, kcmp_eq, kcmp_lt, kcmp_le, kcmp_gt, kcmp_ge, Option.bind_some, Option.map_some, kbool0, kbool1, if_pos, if_neg, if_true, if_false, Int.neg_neg, Int.sub_zero, Int.add_zero, Int.zero_add, true_and, and_true, false_and, and_false, false_or, or_false, true_or, or_true, ne_eq, not_false_eq_true, not_true_eq_false]
                    exact f4
              · have f1 := X10_soundsLike hT hB hT2 hB2
                have f2 := X10_isTurnOf hT hB hT2 hB2 (by omega)
                rw [if_neg (by omega)] at f1 f2
                refine ⟨(ki 0, μ), (ki 0, μ), ?_, fun _ => rfl, ?_, rfl, h⟩
                · by_cases hq1 : q = 0
                  · simp (disch := omega) only [f_X11_alike, b_X11_alike_23, b_X11_alike_63, b_X11_alike_114, b_X11_alike_102, krcv (kX.y1 hX), kX.o1_3 hX, kS.gd (kX.now hX), kS.gt (kX.now hX), X11_within, X11_isDrawer, f_X11_isFilled, b_X11_isFilled_27, b_X11_isFilled_26, f_X11_isRow, b_X11_isRow_35, b_X11_isRow_34, f_X11_isPart, b_X11_isPart_14, b_X11_isPart_9, kT.gr hT, kT.gr hT2, krcv hT.y, hR, hR2, f1, f2, ki_0, ki_1, ki_2, ki_3, ki_4, ki_5, ki_6, ki_7, ki_8, ki_9, ki_10, ki_11, ki_12, ki_13, ki_18, ki_20, ki_24, ki_32, ki_36, ki_45, ki_47, ki_48, ki_50, ki_57, ki_60, ki_63, ki_99, ki_100, ki_101, ki_120, ki_255, ki_468, ki_1000, ki_1024, ki_13849, ki_25173, ki_65535, ki_65536, ki_100000, ki_100001, ki_2147483647, ki_2147483648, kl_0, kl_1, kl_2, kl_9223372036854775808, ki_add, ki_sub, ki_mul, ki_neg, kl_add, kl_sub, kl_mul, kl_neg, ki_i2l, kl_l2i, ki_lt, ki_le, ki_eq, kcmp_eq, kcmp_lt, kcmp_le, kcmp_gt, kcmp_ge, Option.bind_some, Option.map_some, kbool0, kbool1, if_pos, if_neg, if_true, if_false, Int.neg_neg, Int.sub_zero, Int.add_zero, Int.zero_add, true_and, and_true, false_and, and_false, false_or, or_false, true_or, or_true, ne_eq, not_false_eq_true, not_true_eq_false]
                  · simp (disch := omega) only [f_X11_alike, b_X11_alike_23, b_X11_alike_63, b_X11_alike_114, b_X11_alike_102, krcv (kX.y1 hX), kX.o1_3 hX, kS.gd (kX.now hX), kS.gt (kX.now hX), X11_within, X11_isDrawer, f_X11_isFilled, b_X11_isFilled_27, b_X11_isFilled_26, f_X11_isRow, b_X11_isRow_35, b_X11_isRow_34, f_X11_isPart, b_X11_isPart_14, b_X11_isPart_9, kT.gr hT, kT.gr hT2, krcv hT.y, hR, hR2, f1, f2, ki_0, ki_1, ki_2, ki_3, ki_4, ki_5, ki_6, ki_7, ki_8, ki_9, ki_10, ki_11, ki_12, ki_13, ki_18, ki_20, ki_24, ki_32, ki_36, ki_45, ki_47, ki_48, ki_50, ki_57, ki_60, ki_63, ki_99, ki_100, ki_101, ki_120, ki_255, ki_468, ki_1000, ki_1024, ki_13849, ki_25173, ki_65535, ki_65536, ki_100000, ki_100001, ki_2147483647, ki_2147483648, kl_0, kl_1, kl_2, kl_9223372036854775808, ki_add, ki_sub, ki_mul, ki_neg, kl_add, kl_sub, kl_mul, kl_neg, ki_i2l, kl_l2i, ki_lt, ki_le, ki_eq, kcmp_eq, kcmp_lt, kcmp_le, kcmp_gt, kcmp_ge, Option.bind_some, Option.map_some, kbool0, kbool1, if_pos, if_neg, if_true, if_false, Int.neg_neg, Int.sub_zero, Int.add_zero, Int.zero_add, true_and, and_true, false_and, and_false, false_or, or_false, true_or, or_true, ne_eq, not_false_eq_true, not_true_eq_false]
                · simp (disch := omega) only [f_X12_alike, krcv (kM.y hM), kM.o26 hM, kaI (kM.a108 hM), X12_in, X12_isDrawer, ki_0, ki_1, ki_2, ki_3, ki_4, ki_5, ki_6, ki_7, ki_8, ki_9, ki_10, ki_11, ki_12, ki_13, ki_18, ki_20, ki_24, ki_32, ki_36, ki_45, ki_47, ki_48, ki_50, ki_57, ki_60, ki_63, ki_99, ki_100, ki_101, ki_120, ki_255, ki_468, ki_1000, ki_1024, ki_13849, ki_25173, ki_65535, ki_65536, ki_100000, ki_100001, ki_2147483647, ki_2147483648, kl_0, kl_1, kl_2, kl_9223372036854775808, ki_add, ki_sub, ki_mul, ki_neg, kl_add, kl_sub, kl_mul, kl_neg, ki_i2l, kl_l2i, ki_lt, ki_le, ki_eq, kcmp_eq, kcmp_lt, kcmp_le, kcmp_gt, kcmp_ge, Option.bind_some, Option.map_some, kbool0, kbool1, if_pos, if_neg, if_true, if_false, Int.neg_neg, Int.sub_zero, Int.add_zero, Int.zero_add, true_and, and_true, false_and, and_false, false_or, or_false, true_or, or_true, ne_eq, not_false_eq_true, not_true_eq_false]
      · refine ⟨(ki (-1), μ), (ki (-1), μ), ?_, fun _ => rfl, ?_, rfl, h⟩ <;> simp (maxSteps := 2000000) (disch := omega) only [f_X11_alike, b_X11_alike_23, b_X11_alike_63, f_X12_alike, b_X12_alike_23, b_X12_alike_43, krcv (kX.y1 hX), kX.o1_3 hX, kS.gd (kX.now hX), kS.gt (kX.now hX), X11_within, X11_isDrawer, f_X11_isFilled, b_X11_isFilled_27, b_X11_isFilled_26, f_X11_isRow, b_X11_isRow_35, b_X11_isRow_34, f_X11_isPart, b_X11_isPart_14, b_X11_isPart_9, krcv (kM.y hM), kM.o26 hM, kaI (kM.a108 hM), X12_in, X12_isDrawer, ki_0, ki_1, ki_2, ki_3, ki_4, ki_5, ki_6, ki_7, ki_8, ki_9, ki_10, ki_11, ki_12, ki_13, ki_18, ki_20, ki_24, ki_32, ki_36, ki_45, ki_47, ki_48, ki_50, ki_57, ki_60, ki_63, ki_99, ki_100, ki_101, ki_120, ki_255, ki_468, ki_1000, ki_1024, ki_13849, ki_25173, ki_65535, ki_65536, ki_100000, ki_100001, ki_2147483647, ki_2147483648, kl_0, kl_1, kl_2, kl_9223372036854775808, ki_add, ki_sub, ki_mul, ki_neg, kl_add, kl_sub, kl_mul, kl_neg, ki_i2l, kl_l2i, ki_lt, ki_le, ki_eq, kcmp_eq, kcmp_lt, kcmp_le, kcmp_gt, kcmp_ge, Option.bind_some, Option.map_some, kbool0, kbool1, if_pos, if_neg, if_true, if_false, Int.neg_neg, Int.sub_zero, Int.add_zero, Int.zero_add, true_and, and_true, false_and, and_false, false_or, or_false, true_or, or_true, ne_eq, not_false_eq_true, not_true_eq_false]
    · refine ⟨(ki (-1), μ), (ki (-1), μ), ?_, fun _ => rfl, ?_, rfl, h⟩ <;> simp (maxSteps := 2000000) (disch := omega) only [f_X11_alike, b_X11_alike_23, b_X11_alike_63, f_X12_alike, b_X12_alike_23, b_X12_alike_43, krcv (kX.y1 hX), kX.o1_3 hX, kS.gd (kX.now hX), kS.gt (kX.now hX), X11_within, X11_isDrawer, f_X11_isFilled, b_X11_isFilled_27, b_X11_isFilled_26, f_X11_isRow, b_X11_isRow_35, b_X11_isRow_34, f_X11_isPart, b_X11_isPart_14, b_X11_isPart_9, krcv (kM.y hM), kM.o26 hM, kaI (kM.a108 hM), X12_in, X12_isDrawer, ki_0, ki_1, ki_2, ki_3, ki_4, ki_5, ki_6, ki_7, ki_8, ki_9, ki_10, ki_11, ki_12, ki_13, ki_18, ki_20, ki_24, ki_32, ki_36, ki_45, ki_47, ki_48, ki_50, ki_57, ki_60, ki_63, ki_99, ki_100, ki_101, ki_120, ki_255, ki_468, ki_1000, ki_1024, ki_13849, ki_25173, ki_65535, ki_65536, ki_100000, ki_100001, ki_2147483647, ki_2147483648, kl_0, kl_1, kl_2, kl_9223372036854775808, ki_add, ki_sub, ki_mul, ki_neg, kl_add, kl_sub, kl_mul, kl_neg, ki_i2l, kl_l2i, ki_lt, ki_le, ki_eq, kcmp_eq, kcmp_lt, kcmp_le, kcmp_gt, kcmp_ge, Option.bind_some, Option.map_some, kbool0, kbool1, if_pos, if_neg, if_true, if_false, Int.neg_neg, Int.sub_zero, Int.add_zero, Int.zero_add, true_and, and_true, false_and, and_false, false_or, or_false, true_or, or_true, ne_eq, not_false_eq_true, not_true_eq_false]
  · refine ⟨(ki (-1), μ), (ki (-1), μ), ?_, fun _ => rfl, ?_, rfl, h⟩ <;> simp (maxSteps := 2000000) (disch := omega) only [f_X11_alike, b_X11_alike_23, b_X11_alike_63, f_X12_alike, b_X12_alike_23, b_X12_alike_43, krcv (kX.y1 hX), kX.o1_3 hX, kS.gd (kX.now hX), kS.gt (kX.now hX), X11_within, X11_isDrawer, f_X11_isFilled, b_X11_isFilled_27, b_X11_isFilled_26, f_X11_isRow, b_X11_isRow_35, b_X11_isRow_34, f_X11_isPart, b_X11_isPart_14, b_X11_isPart_9, krcv (kM.y hM), kM.o26 hM, kaI (kM.a108 hM), X12_in, X12_isDrawer, ki_0, ki_1, ki_2, ki_3, ki_4, ki_5, ki_6, ki_7, ki_8, ki_9, ki_10, ki_11, ki_12, ki_13, ki_18, ki_20, ki_24, ki_32, ki_36, ki_45, ki_47, ki_48, ki_50, ki_57, ki_60, ki_63, ki_99, ki_100, ki_101, ki_120, ki_255, ki_468, ki_1000, ki_1024, ki_13849, ki_25173, ki_65535, ki_65536, ki_100000, ki_100001, ki_2147483647, ki_2147483648, kl_0, kl_1, kl_2, kl_9223372036854775808, ki_add, ki_sub, ki_mul, ki_neg, kl_add, kl_sub, kl_mul, kl_neg, ki_i2l, kl_l2i, ki_lt, ki_le, ki_eq, kcmp_eq, kcmp_lt, kcmp_le, kcmp_gt, kcmp_ge, Option.bind_some, Option.map_some, kbool0, kbool1, if_pos, if_neg, if_true, if_false, Int.neg_neg, Int.sub_zero, Int.add_zero, Int.zero_add, true_and, and_true, false_and, and_false, false_or, or_false, true_or, or_true, ne_eq, not_false_eq_true, not_true_eq_false]
