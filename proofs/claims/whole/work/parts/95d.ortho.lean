/-! THE POLYNOMIALS that come of the table: the class's rows -/
def orC (c : Option (Int × Int)) (v x : Int × Int) : Option (Int × Int) := match c with
  | none => some v
  | some c => (mF c x.1 x.2).bind fun w => aF v (-w.1) w.2
def orO (a : Int × Int) (c : Option (Int × Int)) (prev x y : Int × Int) : Option (Int × Int) := (mF a x.1 x.2).bind fun w => (aF prev (-w.1) w.2).bind fun v => orC c v y
def orL (a : Int × Int) (c : Option (Int × Int)) : Int × Int → Nat → List (Int × Int) → List (Int × Int) → Option (List (Int × Int))
  | _, 0, _, _ => some []
  | prev, n + 1, cu, e => (orO a c prev (gz cu 0) (gz e 0)).bind fun r => (orL a c (gz cu 0) n cu.tail e.tail).bind fun rs => some (r :: rs)
theorem gz_tail (l : List (Int × Int)) (j : Nat) : gz l.tail j = gz l (j + 1) := by
  cases l <;> rfl
theorem orL_spec {a : Int × Int} {c : Option (Int × Int)} : ∀ (n : Nat) (prev : Int × Int) (cu e rs : List (Int × Int)), orL a c prev n cu e = some rs → (∀ j, j < n → orO a c (if j = 0 then prev else gz cu (j - 1)) (gz cu j) (gz e j) = some (gz rs j)) ∧ ∀ j, n ≤ j → gz rs j = (0, 1) := by
  intro n
  induction n with
  | zero =>
    intro prev cu e rs h
    cases h
    exact ⟨fun j hj => by omega, fun j _ => rfl⟩
  | succ n ih =>
    intro prev cu e rs h
    simp only [orL, Option.bind_eq_some_iff] at h
    obtain ⟨r, e1, rs', e2, e3⟩ := h
    cases e3
    obtain ⟨i1, i2⟩ := ih _ _ _ _ e2
    refine ⟨fun j hj => ?_, fun j hj => ?_⟩
    · cases j with
      | zero => exact e1
      | succ j =>
        have := i1 j (by omega)
        simp only [gz_tail] at this
        rw [if_neg (by omega), Nat.add_sub_cancel, gz_s]
        cases j with
        | zero =>
          rw [if_pos rfl] at this
          exact this
        | succ j =>
          rw [if_neg (by omega)] at this
          exact this
    · obtain ⟨j, rfl⟩ : ∃ j', j = j' + 1 := ⟨j - 1, by omega⟩
      rw [gz_s]
      exact i2 j (by omega)
set_option maxHeartbeats 1000000 in
theorem X8_stepOn {Y : jY} {μ : jM} (hX : kX Y μ) {i : Nat} (hi : i ≤ 3) {A B C : Nat} (hA : isR3 A) (hB : isR3 B) (hC : isR3 C) (AC : A ≠ C) (BC : B ≠ C) {a : Int × Int} {c : Int × Int} {e cu rs : List (Int × Int)} (sa : frS μ (33 + i) a) (sc : 1 ≤ i → frS μ (38 + (i - 1)) c) (rA : rowR μ A (i + 2) (gz e)) (rB : rowR μ B (i + 2) (gz cu)) (T : orL a (if i = 0 then none else some c) (0, 1) (i + 2) cu e = some rs) : ∃ ν, f_X8_stepOn Y 31 (ki i) A B C μ = some ν ∧ frF C μ ν ∧ rowR ν C (i + 2) (gz rs) ∧ ∀ j, i + 2 ≤ j → j < 5 → ν (C + 1 + j) = μ (C + 1 + j) := by
  obtain ⟨T1, _⟩ := orL_spec _ _ _ _ _ T
  have hAr : 49 ≤ A ∧ A ≤ 61 := by unfold isR3 at hA; omega
  have hBr : 49 ≤ B ∧ B ≤ 61 := by unfold isR3 at hB; omega
  have hCr : 49 ≤ C ∧ C ≤ 61 := by unfold isR3 at hC; omega
  have dA : A + 5 < C ∨ C + 5 < A := by unfold isR3 at hA hC; omega
  have dB : B + 5 < C ∨ C + 5 < B := by unfold isR3 at hB hC; omega
  unfold f_X8_stepOn
  refine jit_inv (f := fun (s : Int32 × jM) => b_X8_stepOn_3 Y 31 (ki i) A B C s.1 s.2) (fun j z => z.1 = ki j ∧ frF C μ z.2 ∧ rowR z.2 C j (gz rs) ∧ ∀ x, i + 2 ≤ x → x < 5 → z.2 (C + 1 + x) = μ (C + 1 + x)) _ (i + 2) (s := ((0 : Int32), μ)) ⟨rfl, frF.refl, fun j hj => by omega, fun _ _ _ => rfl⟩ (by omega) (fun j z hj hz => ?_)
  obtain ⟨v, ν⟩ := z
  obtain ⟨rfl, z1, z2, z9⟩ := hz
  simp only [] at z1 z2 z9
  by_cases ej : j = i + 2
  · rw [ej] at z2
    refine ⟨.inr ν, ?_, z1, z2, z9⟩
    simp (disch := omega) only [b_X8_stepOn_3, ki_0, ki_1, ki_2, ki_3, ki_4, ki_5, ki_6, ki_7, ki_8, ki_9, ki_10, ki_11, ki_12, ki_13, ki_18, ki_20, ki_24, ki_32, ki_36, ki_45, ki_47, ki_48, ki_50, ki_57, ki_60, ki_63, ki_99, ki_100, ki_101, ki_120, ki_255, ki_468, ki_1000, ki_1024, ki_13849, ki_25173, ki_65535, ki_65536, ki_100000, ki_100001, ki_2147483647, ki_2147483648, kl_0, kl_1, kl_2, kl_9223372036854775808, ki_add, ki_sub, ki_mul, ki_neg, kl_add, kl_sub, kl_mul, kl_neg, ki_i2l, kl_l2i, ki_lt, ki_le, ki_eq, kcmp_eq, kcmp_lt, kcmp_le, kcmp_gt, kcmp_ge, Option.bind_some, Option.map_some, kbool0, kbool1, if_pos, if_neg, if_true, if_false, Int.neg_neg, Int.sub_zero, Int.add_zero, Int.zero_add, true_and, and_true, false_and, and_false, false_or, or_false, true_or, or_true, ne_eq, not_false_eq_true, not_true_eq_false]
  · have R0 := T1 j (by omega)
    simp only [orO, Option.bind_eq_some_iff] at R0
    obtain ⟨w, m1, v, m2, m3⟩ := R0
    have hXz := hX.to z1.1
    have kC := hXz.r3 hC
    have gC := kC.g (x := (j : Int)) (by omega) (by omega)
    rw [Int.toNat_natCast] at gC
    have S := X1_set1 (kC.f (j := j) (by omega)) (t := 0) okb_0
    have F1 : frF C μ (frw ν (C + 1 + j) (0, 1)) := z1.w (hX.r3 hC |>.f (j := j) (by omega)) (by omega)
    have pv : ∃ η, b_X8_stepOn_3 Y 31 (ki i) A B C (ki j) ν = b_X8_stepOn_40 Y 31 (ki i) A B C (ki j) η ∧ frF C μ η ∧ rowR η C j (gz rs) ∧ frS η (C + 1 + j) (if j = 0 then (0, 1) else gz cu (j - 1)) ∧ ∀ x, i + 2 ≤ x → x < 5 → η (C + 1 + x) = μ (C + 1 + x) := by
      by_cases j0 : j = 0
      · rw [if_pos j0]
        have j1 : (j : Int) ≤ 0 := by omega
        refine ⟨_, ?_, F1, fun i hi => by omega, frS.w okb_0 okb_1, fun x h1 h2 => by rw [frw_ne (by omega)]; exact z9 x h1 h2⟩
        simp (disch := omega) only [b_X8_stepOn_3, gC, krcv (kC.f (j := j) (by omega)).1, S, ki_0, ki_1, ki_2, ki_3, ki_4, ki_5, ki_6, ki_7, ki_8, ki_9, ki_10, ki_11, ki_12, ki_13, ki_18, ki_20, ki_24, ki_32, ki_36, ki_45, ki_47, ki_48, ki_50, ki_57, ki_60, ki_63, ki_99, ki_100, ki_101, ki_120, ki_255, ki_468, ki_1000, ki_1024, ki_13849, ki_25173, ki_65535, ki_65536, ki_100000, ki_100001, ki_2147483647, ki_2147483648, kl_0, kl_1, kl_2, kl_9223372036854775808, ki_add, ki_sub, ki_mul, ki_neg, kl_add, kl_sub, kl_mul, kl_neg, ki_i2l, kl_l2i, ki_lt, ki_le, ki_eq, kcmp_eq, kcmp_lt, kcmp_le, kcmp_gt, kcmp_ge, Option.bind_some, Option.map_some, kbool0, kbool1, if_pos, if_neg, if_true, if_false, Int.neg_neg, Int.sub_zero, Int.add_zero, Int.zero_add, true_and, and_true, false_and, and_false, false_or, or_false, true_or, or_true, ne_eq, not_false_eq_true, not_true_eq_false]
      · rw [if_neg j0]
        have hX1 := hX.to F1.1
        have kB := hX1.r3 hB
        have kC1 := hX1.r3 hC
        have gB := kB.g (x := (j : Int) - 1) (by omega) (by omega)
        have gC1 := kC1.g (x := (j : Int)) (by omega) (by omega)
        rw [Int.toNat_natCast] at gC1
        rw [show ((j : Int) - 1).toNat = j - 1 by omega] at gB
        have fB : frS (frw ν (C + 1 + j) (0, 1)) (B + 1 + (j - 1)) (gz cu (j - 1)) := (rB (j - 1) (by omega)).at (F1.2 _ (by omega) (by omega))
        have cp := X1_copy (kC1.f (j := j) (by omega)) (kB.f (j := j - 1) (by omega)) fB
        refine ⟨_, ?_, F1.w (hX.r3 hC |>.f (j := j) (by omega)) (by omega), fun i hi => ((z2 i hi).ne (by omega)).ne (by omega), frS.w fB.1 fB.2.1, fun x h1 h2 => by rw [frw_ne (by omega), frw_ne (by omega)]; exact z9 x h1 h2⟩
        simp (disch := omega) only [b_X8_stepOn_3, gC, krcv (kC.f (j := j) (by omega)).1, S, gB, gC1, cp, ki_0, ki_1, ki_2, ki_3, ki_4, ki_5, ki_6, ki_7, ki_8, ki_9, ki_10, ki_11, ki_12, ki_13, ki_18, ki_20, ki_24, ki_32, ki_36, ki_45, ki_47, ki_48, ki_50, ki_57, ki_60, ki_63, ki_99, ki_100, ki_101, ki_120, ki_255, ki_468, ki_1000, ki_1024, ki_13849, ki_25173, ki_65535, ki_65536, ki_100000, ki_100001, ki_2147483647, ki_2147483648, kl_0, kl_1, kl_2, kl_9223372036854775808, ki_add, ki_sub, ki_mul, ki_neg, kl_add, kl_sub, kl_mul, kl_neg, ki_i2l, kl_l2i, ki_lt, ki_le, ki_eq, kcmp_eq, kcmp_lt, kcmp_le, kcmp_gt, kcmp_ge, Option.bind_some, Option.map_some, kbool0, kbool1, if_pos, if_neg, if_true, if_false, Int.neg_neg, Int.sub_zero, Int.add_zero, Int.zero_add, true_and, and_true, false_and, and_false, false_or, or_false, true_or, or_true, ne_eq, not_false_eq_true, not_true_eq_false]
    obtain ⟨η, E, F2, r2, p2, z8⟩ := pv
    rw [E]
    clear E F1 S gC kC z9 z2 z1
    generalize (if j = 0 then (0, 1) else gz cu (j - 1)) = pr at *
    have hX2 := hX.to F2.1
    have ga := hX2.f32.g (x := (i : Int)) (by omega) (by omega)
    rw [Int.toNat_natCast] at ga
    have e2 := sa.at (F2.2 (33 + i) (by omega) (by omega))
    have cp := X1_copy hX2.f67 (hX2.f32.f (j := i) (by omega)) e2
    have F3 := F2.w (p := a) hX.f67 (Or.inl rfl)
    have r3 : rowR (frw η 67 a) C j (gz rs) := fun x hx => (r2 x hx).ne (by omega)
    have p3 := p2.ne (o := 67) (q := a) (by omega)
    have t3 : frS (frw η 67 a) 67 a := frS.w sa.1 sa.2.1
    have z7 : ∀ x, i + 2 ≤ x → x < 5 → frw η 67 a (C + 1 + x) = μ (C + 1 + x) := fun x h1 h2 => by rw [frw_ne (by omega)]; exact z8 x h1 h2
    generalize frw η 67 a = η3 at *
    have hX3 := hX.to F3.1
    have kB3 := hX3.r3 hB
    have gB3 := kB3.g (x := (j : Int)) (by omega) (by omega)
    rw [Int.toNat_natCast] at gB3
    have b3 := (rB j (by omega)).at (F3.2 _ (by omega) (by omega))
    have mu := X1_multiply hX3.f67 (kB3.f (j := j) (by omega)) t3 b3 m1
    have wo := mF_ok m1
    have F4 := F3.w (p := w) hX.f67 (Or.inl rfl)
    have r4 : rowR (frw η3 67 w) C j (gz rs) := fun x hx => (r3 x hx).ne (by omega)
    have p4 := p3.ne (o := 67) (q := w) (by omega)
    have t4 : frS (frw η3 67 w) 67 w := frS.w wo.1 wo.2
    have z6 : ∀ x, i + 2 ≤ x → x < 5 → frw η3 67 w (C + 1 + x) = μ (C + 1 + x) := fun x h1 h2 => by rw [frw_ne (by omega)]; exact z7 x h1 h2
    generalize frw η3 67 w = η4 at *
    have hX4 := hX.to F4.1
    have kC4 := hX4.r3 hC
    have gC4 := kC4.g (x := (j : Int)) (by omega) (by omega)
    rw [Int.toNat_natCast] at gC4
    have su := X1_subtract (kC4.f (j := j) (by omega)) hX4.f67 p4 t4 m2
    have yC := (kC4.f (j := j) (by omega)).1
    have vo := aF_ok m2
    have F5 := F4.w (o := C + 1 + j) (p := v) (hX.r3 hC |>.f (j := j) (by omega)) (by omega)
    have r5 : rowR (frw η4 (C + 1 + j) v) C j (gz rs) := fun x hx => (r4 x hx).ne (by omega)
    have p5 : frS (frw η4 (C + 1 + j) v) (C + 1 + j) v := frS.w vo.1 vo.2
    have z5 : ∀ x, i + 2 ≤ x → x < 5 → frw η4 (C + 1 + j) v (C + 1 + x) = μ (C + 1 + x) := fun x h1 h2 => by rw [frw_ne (by omega)]; exact z6 x h1 h2
    generalize frw η4 (C + 1 + j) v = η5 at *
    by_cases i0 : i = 0
    · subst i0
      rw [if_pos rfl] at m3
      cases m3
      refine ⟨.inl (ki ((j + 1 : Nat) : Int), η5), ?_, by omega, rfl, F5, fun x hx => ?_, z5⟩
      · simp (disch := omega) only [b_X8_stepOn_40, b_X8_stepOn_118, hX2.o31_9, hX2.o31_2, ga, krcv hX.f67.1, cp, hX3.o31_9, gB3, mu, gC4, hX4.o31_9, krcv yC, su, ki_0, ki_1, ki_2, ki_3, ki_4, ki_5, ki_6, ki_7, ki_8, ki_9, ki_10, ki_11, ki_12, ki_13, ki_18, ki_20, ki_24, ki_32, ki_36, ki_45, ki_47, ki_48, ki_50, ki_57, ki_60, ki_63, ki_99, ki_100, ki_101, ki_120, ki_255, ki_468, ki_1000, ki_1024, ki_13849, ki_25173, ki_65535, ki_65536, ki_100000, ki_100001, ki_2147483647, ki_2147483648, kl_0, kl_1, kl_2, kl_9223372036854775808, ki_add, ki_sub, ki_mul, ki_neg, kl_add, kl_sub, kl_mul, kl_neg, ki_i2l, kl_l2i, ki_lt, ki_le, ki_eq, kcmp_eq, kcmp_lt, kcmp_le, kcmp_gt, kcmp_ge, Option.bind_some, Option.map_some, kbool0, kbool1, if_pos, if_neg, if_true, if_false, Int.neg_neg, Int.sub_zero, Int.add_zero, Int.zero_add, true_and, and_true, false_and, and_false, false_or, or_false, true_or, or_true, ne_eq, not_false_eq_true, not_true_eq_false, Int.natCast_add, Int.natCast_one]
      · by_cases ij : x = j
        · rw [ij]
          exact p5
        · exact r5 x (by omega)
    · rw [if_neg i0] at m3
      simp only [orC, Option.bind_eq_some_iff] at m3
      obtain ⟨w2, m4, m5⟩ := m3
      have sc0 := sc (by omega)
      have hX5 := hX.to F5.1
      have gc := hX5.f37.g (x := (i : Int) - 1) (by omega) (by omega)
      rw [show ((i : Int) - 1).toNat = i - 1 by omega] at gc
      have e5 := sc0.at (F5.2 (38 + (i - 1)) (by omega) (by omega))
      have cp5 := X1_copy hX5.f67 (hX5.f37.f (j := i - 1) (by omega)) e5
      have F6 := F5.w (p := c) hX.f67 (Or.inl rfl)
      have r6 : rowR (frw η5 67 c) C j (gz rs) := fun x hx => (r5 x hx).ne (by omega)
      have p6 := p5.ne (o := 67) (q := c) (by omega)
      have t6 : frS (frw η5 67 c) 67 c := frS.w sc0.1 sc0.2.1
      have z4 : ∀ x, i + 2 ≤ x → x < 5 → frw η5 67 c (C + 1 + x) = μ (C + 1 + x) := fun x h1 h2 => by rw [frw_ne (by omega)]; exact z5 x h1 h2
      generalize frw η5 67 c = η6 at *
      have hX6 := hX.to F6.1
      have kA6 := hX6.r3 hA
      have gA6 := kA6.g (x := (j : Int)) (by omega) (by omega)
      rw [Int.toNat_natCast] at gA6
      have a6 := (rA j (by omega)).at (F6.2 _ (by omega) (by omega))
      have mu6 := X1_multiply hX6.f67 (kA6.f (j := j) (by omega)) t6 a6 m4
      have wo2 := mF_ok m4
      have F7 := F6.w (p := w2) hX.f67 (Or.inl rfl)
      have r7 : rowR (frw η6 67 w2) C j (gz rs) := fun x hx => (r6 x hx).ne (by omega)
      have p7 := p6.ne (o := 67) (q := w2) (by omega)
      have t7 : frS (frw η6 67 w2) 67 w2 := frS.w wo2.1 wo2.2
      have z3 : ∀ x, i + 2 ≤ x → x < 5 → frw η6 67 w2 (C + 1 + x) = μ (C + 1 + x) := fun x h1 h2 => by rw [frw_ne (by omega)]; exact z4 x h1 h2
      generalize frw η6 67 w2 = η7 at *
      have hX7 := hX.to F7.1
      have kC7 := hX7.r3 hC
      have gC7 := kC7.g (x := (j : Int)) (by omega) (by omega)
      rw [Int.toNat_natCast] at gC7
      have su7 := X1_subtract (kC7.f (j := j) (by omega)) hX7.f67 p7 t7 m5
      have ro := aF_ok m5
      have F8 := F7.w (o := C + 1 + j) (p := gz rs j) (hX.r3 hC |>.f (j := j) (by omega)) (by omega)
      refine ⟨.inl (ki ((j + 1 : Nat) : Int), frw η7 (C + 1 + j) (gz rs j)), ?_, by omega, rfl, F8, fun x hx => ?_, fun x h1 h2 => by simp only []; rw [frw_ne (by omega)]; exact z3 x h1 h2⟩
      · simp (disch := omega) only [b_X8_stepOn_40, b_X8_stepOn_118, hX2.o31_9, hX2.o31_2, ga, krcv hX.f67.1, cp, hX3.o31_9, gB3, mu, gC4, hX4.o31_9, krcv yC, su, hX5.o31_9, hX5.o31_3, gc, cp5, hX6.o31_9, gA6, mu6, gC7, hX7.o31_9, su7, ki_0, ki_1, ki_2, ki_3, ki_4, ki_5, ki_6, ki_7, ki_8, ki_9, ki_10, ki_11, ki_12, ki_13, ki_18, ki_20, ki_24, ki_32, ki_36, ki_45, ki_47, ki_48, ki_50, ki_57, ki_60, ki_63, ki_99, ki_100, ki_101, ki_120, ki_255, ki_468, ki_1000, ki_1024, ki_13849, ki_25173, ki_65535, ki_65536, ki_100000, ki_100001, ki_2147483647, ki_2147483648, kl_0, kl_1, kl_2, kl_9223372036854775808, ki_add, ki_sub, ki_mul, ki_neg, kl_add, kl_sub, kl_mul, kl_neg, ki_i2l, kl_l2i, ki_lt, ki_le, ki_eq, kcmp_eq, kcmp_lt, kcmp_le, kcmp_gt, kcmp_ge, Option.bind_some, Option.map_some, kbool0, kbool1, if_pos, if_neg, if_true, if_false, Int.neg_neg, Int.sub_zero, Int.add_zero, Int.zero_add, true_and, and_true, false_and, and_false, false_or, or_false, true_or, or_true, ne_eq, not_false_eq_true, not_true_eq_false, Int.natCast_add, Int.natCast_one]
      · by_cases ij : x = j
        · rw [ij]
          exact frS.w ro.1 ro.2
        · exact (r7 x (by omega)).ne (by omega)
def orT (as cs : List (Int × Int)) : Nat → Option (List (Int × Int) × List (Int × Int))
  | 0 => some ([], [(1, 1)])
  | i + 1 => (orT as cs i).bind fun q => (orL (gz as i) (if i = 0 then none else some (gz cs (i - 1))) (0, 1) (i + 2) q.2 q.1).bind fun r => some (q.2, r)
theorem orT_pre {as cs : List (Int × Int)} {i : Nat} {q : List (Int × Int) × List (Int × Int)} : ∀ d : Nat, orT as cs (i + d) = some q → ∃ s, orT as cs i = some s := by
  intro d
  induction d generalizing q with
  | zero => intro h; exact ⟨q, h⟩
  | succ d ih =>
    intro h
    rw [← Nat.add_assoc, orT, Option.bind_eq_some_iff] at h
    obtain ⟨s, h1, _⟩ := h
    exact ih h1
def tabC (μ : jM) (N : Nat) (as cs : List (Int × Int)) : Prop := gi μ 31 1 = (N : Int) ∧ (∀ j, j < N → frS μ (33 + j) (gz as j)) ∧ (∀ j, j + 1 < N → frS μ (38 + j) (gz cs j))
theorem tabC.at {μ ν : jM} {N : Nat} {as cs : List (Int × Int)} (h : tabC μ N as cs) (N4 : N ≤ 4) (e : ∀ i, 31 ≤ i → i < 41 → ν i = μ i) : tabC ν N as cs := ⟨by rw [gi_cell (e 31 (by omega) (by omega))]; exact h.1, fun j hj => (h.2.1 j hj).at (e _ (by omega) (by omega)), fun j hj => (h.2.2 j hj).at (e _ (by omega) (by omega))⟩
set_option maxHeartbeats 1000000 in
theorem X8_orthogonal {Y : jY} {μ : jM} (hX : kX Y μ) {N k : Nat} (N4 : N ≤ 4) (kN : k ≤ N) {as cs : List (Int × Int)} (t : tabC μ N as cs) {q : List (Int × Int) × List (Int × Int)} (T : orT as cs k = some q) : ∃ R ν, f_X8_orthogonal Y 31 (ki k) μ = some (R, ν) ∧ kF 49 72 μ ν ∧ isR3 R ∧ rowR ν R 5 (gz q.2) := by
  have loop2 : ∀ ξ : jM, kF 49 72 μ ξ → rowR ξ 49 5 (fun _ => (0, 1)) → rowR ξ 55 5 (gz [(1, 1)]) → rowR ξ 61 5 (fun _ => (0, 1)) → ∃ r, jit jF (fun (s : Nat × Nat × Nat × Int32 × jM) => b_X8_orthogonal_71 Y 31 (ki k) s.1 s.2.1 s.2.2.1 s.2.2.2.1 s.2.2.2.2) (49, 55, 61, (0 : Int32), ξ) = some r ∧ kF 49 72 μ r.2 ∧ isR3 r.1 ∧ rowR r.2 r.1 5 (gz q.2) := by
    intro ξ kξ rA rB rC
    refine jit_inv (f := fun (s : Nat × Nat × Nat × Int32 × jM) => b_X8_orthogonal_71 Y 31 (ki k) s.1 s.2.1 s.2.2.1 s.2.2.2.1 s.2.2.2.2) (fun i z => z.2.2.2.1 = ki i ∧ isR3 z.1 ∧ isR3 z.2.1 ∧ isR3 z.2.2.1 ∧ z.1 ≠ z.2.1 ∧ z.1 ≠ z.2.2.1 ∧ z.2.1 ≠ z.2.2.1 ∧ kF 49 72 μ z.2.2.2.2 ∧ ∃ p la, orT as cs i = some p ∧ rowR z.2.2.2.2 z.1 5 (gz p.1) ∧ rowR z.2.2.2.2 z.2.1 5 (gz p.2) ∧ rowR z.2.2.2.2 z.2.2.1 5 (gz la) ∧ ∀ j, i < j → gz p.1 j = (0, 1) ∧ gz p.2 j = (0, 1) ∧ gz la j = (0, 1)) _ k (s := (49, 55, 61, (0 : Int32), ξ)) ⟨rfl, Or.inl rfl, Or.inr (Or.inl rfl), Or.inr (Or.inr rfl), by show (49 : Nat) ≠ 55; decide, by show (49 : Nat) ≠ 61; decide, by show (55 : Nat) ≠ 61; decide, kξ, ([], [(1, 1)]), [], rfl, rA, rB, rC, fun j hj => ⟨rfl, ?_, rfl⟩⟩ (by omega) (fun i z hi hz => ?_)
    · obtain ⟨j, rfl⟩ : ∃ j', j = j' + 1 := ⟨j - 1, by omega⟩
      rfl
    obtain ⟨A, B, C, v, ν⟩ := z
    obtain ⟨rfl, hA, hB, hC, AB, AC, BC, z1, p, la, z2, z3, z4, z5, z6⟩ := hz
    simp only [] at hA hB hC AB AC BC z1 z3 z4 z5
    have hXz := hX.to z1
    have gN := hXz.g31_1
    rw [z1.gi (by omega), t.1] at gN
    by_cases e : i = k
    · subst e
      rw [T] at z2
      cases z2
      refine ⟨.inr (B, ν), ?_, z1, hB, z4⟩
      simp (disch := omega) only [b_X8_orthogonal_71, b_X8_orthogonal_114, ki_0, ki_1, ki_2, ki_3, ki_4, ki_5, ki_6, ki_7, ki_8, ki_9, ki_10, ki_11, ki_12, ki_13, ki_18, ki_20, ki_24, ki_32, ki_36, ki_45, ki_47, ki_48, ki_50, ki_57, ki_60, ki_63, ki_99, ki_100, ki_101, ki_120, ki_255, ki_468, ki_1000, ki_1024, ki_13849, ki_25173, ki_65535, ki_65536, ki_100000, ki_100001, ki_2147483647, ki_2147483648, kl_0, kl_1, kl_2, kl_9223372036854775808, ki_add, ki_sub, ki_mul, ki_neg, kl_add, kl_sub, kl_mul, kl_neg, ki_i2l, kl_l2i, ki_lt, ki_le, ki_eq, kcmp_eq, kcmp_lt, kcmp_le, kcmp_gt, kcmp_ge, Option.bind_some, Option.map_some, kbool0, kbool1, if_pos, if_neg, if_true, if_false, Int.neg_neg, Int.sub_zero, Int.add_zero, Int.zero_add, true_and, and_true, false_and, and_false, false_or, or_false, true_or, or_true, ne_eq, not_false_eq_true, not_true_eq_false]
    · obtain ⟨p', e1⟩ : ∃ s, orT as cs (i + 1) = some s := orT_pre (k - (i + 1)) (by rw [show i + 1 + (k - (i + 1)) = k by omega]; exact T)
      have e1' := e1
      rw [orT, z2, Option.bind_some, Option.bind_eq_some_iff] at e1'
      obtain ⟨rs, e2, e3⟩ := e1'
      cases e3
      have hAr : 49 ≤ A ∧ A ≤ 61 := by unfold isR3 at hA; omega
      have hBr : 49 ≤ B ∧ B ≤ 61 := by unfold isR3 at hB; omega
      have hCr : 49 ≤ C ∧ C ≤ 61 := by unfold isR3 at hC; omega
      have dA : A + 5 < C ∨ C + 5 < A := by unfold isR3 at hA hC; omega
      have dB : B + 5 < C ∨ C + 5 < B := by unfold isR3 at hB hC; omega
      have t' := t.at N4 (fun x h1 h2 => z1.1 x (by omega))
      obtain ⟨ω, f1, f2, f3, f4⟩ := X8_stepOn hXz (i := i) (by omega) hA hB hC AC BC (a := gz as i) (c := gz cs (i - 1)) (e := p.1) (cu := p.2) (rs := rs) (t'.2.1 i (by omega)) (fun h => t'.2.2 (i - 1) (by omega)) (fun j hj => z3 j (by omega)) (fun j hj => z4 j (by omega)) e2
      refine ⟨.inl (B, C, A, ki ((i + 1 : Nat) : Int), ω), ?_, by omega, rfl, hB, hC, hA, BC, fun h => AB h.symm, fun h => AC h.symm, z1.trans f2.1, (p.2, rs), p.1, e1, ?_, ?_, ?_, fun j hj => ⟨(z6 j (by omega)).2.1, (orL_spec _ _ _ _ _ e2).2 j (by omega), (z6 j (by omega)).1⟩⟩
      · simp (disch := omega) only [b_X8_orthogonal_71, gN, krcv hX.y31, f1, ki_0, ki_1, ki_2, ki_3, ki_4, ki_5, ki_6, ki_7, ki_8, ki_9, ki_10, ki_11, ki_12, ki_13, ki_18, ki_20, ki_24, ki_32, ki_36, ki_45, ki_47, ki_48, ki_50, ki_57, ki_60, ki_63, ki_99, ki_100, ki_101, ki_120, ki_255, ki_468, ki_1000, ki_1024, ki_13849, ki_25173, ki_65535, ki_65536, ki_100000, ki_100001, ki_2147483647, ki_2147483648, kl_0, kl_1, kl_2, kl_9223372036854775808, ki_add, ki_sub, ki_mul, ki_neg, kl_add, kl_sub, kl_mul, kl_neg, ki_i2l, kl_l2i, ki_lt, ki_le, ki_eq, kcmp_eq, kcmp_lt, kcmp_le, kcmp_gt, kcmp_ge, Option.bind_some, Option.map_some, kbool0, kbool1, if_pos, if_neg, if_true, if_false, Int.neg_neg, Int.sub_zero, Int.add_zero, Int.zero_add, true_and, and_true, false_and, and_false, false_or, or_false, true_or, or_true, ne_eq, not_false_eq_true, not_true_eq_false, Int.natCast_add, Int.natCast_one]
      · exact fun j hj => (z4 j hj).at (f2.2 _ (by omega) (by omega))
      · show rowR ω C 5 (gz rs)
        intro j hj
        by_cases h2 : j < i + 2
        · exact f3 j h2
        · have := z5 j hj
          rw [(z6 j (by omega)).2.2] at this
          rw [(orL_spec _ _ _ _ _ e2).2 j (by omega)]
          exact this.at (f4 j (by omega) (by omega))
      · exact fun j hj => (z3 j hj).at (f2.2 _ (by omega) (by omega))
  obtain ⟨r, g1, g2, g3, g4⟩ : ∃ r, f_X8_orthogonal Y 31 (ki k) μ = some r ∧ kF 49 72 μ r.2 ∧ isR3 r.1 ∧ rowR r.2 r.1 5 (gz q.2) := by
    have E : f_X8_orthogonal Y 31 (ki k) μ = jit jF (fun (s : Int32 × jM) => b_X8_orthogonal_19 Y 31 (ki k) 49 55 61 s.1 s.2) ((0 : Int32), μ) := by
      simp only [f_X8_orthogonal, hX.o31_6, hX.o31_7, hX.o31_8, Option.bind_some]
    rw [E]
    refine jit_inv (f := fun (s : Int32 × jM) => b_X8_orthogonal_19 Y 31 (ki k) 49 55 61 s.1 s.2) (fun j z => z.1 = ki j ∧ kF 49 72 μ z.2 ∧ rowR z.2 49 j (fun _ => (0, 1)) ∧ rowR z.2 55 j (gz [(1, 1)]) ∧ rowR z.2 61 j (fun _ => (0, 1))) _ 5 (s := ((0 : Int32), μ)) ⟨rfl, kF.refl, fun j hj => by omega, fun j hj => by omega, fun j hj => by omega⟩ (by omega) (fun j z hj hz => ?_)
    obtain ⟨v, ν⟩ := z
    obtain ⟨rfl, z1, z2, z3, z4⟩ := hz
    simp only [] at z1 z2 z3 z4
    by_cases e : j = 5
    · subst e
      obtain ⟨r, g1, g2⟩ := loop2 ν z1 z2 z3 z4
      refine ⟨.inr r, ?_, g2⟩
      have E2 : b_X8_orthogonal_19 Y 31 (ki k) 49 55 61 (ki ((5 : Nat) : Int)) ν = (jit jF (fun (s : Nat × Nat × Nat × Int32 × jM) => b_X8_orthogonal_71 Y 31 (ki k) s.1 s.2.1 s.2.2.1 s.2.2.2.1 s.2.2.2.2) (49, 55, 61, (0 : Int32), ν)).map (fun r => (.inr r)) := by
        simp (disch := omega) only [b_X8_orthogonal_19, ki_0, ki_1, ki_2, ki_3, ki_4, ki_5, ki_6, ki_7, ki_8, ki_9, ki_10, ki_11, ki_12, ki_13, ki_18, ki_20, ki_24, ki_32, ki_36, ki_45, ki_47, ki_48, ki_50, ki_57, ki_60, ki_63, ki_99, ki_100, ki_101, ki_120, ki_255, ki_468, ki_1000, ki_1024, ki_13849, ki_25173, ki_65535, ki_65536, ki_100000, ki_100001, ki_2147483647, ki_2147483648, kl_0, kl_1, kl_2, kl_9223372036854775808, ki_add, ki_sub, ki_mul, ki_neg, kl_add, kl_sub, kl_mul, kl_neg, ki_i2l, kl_l2i, ki_lt, ki_le, ki_eq, kcmp_eq, kcmp_lt, kcmp_le, kcmp_gt, kcmp_ge, Option.bind_some, Option.map_some, kbool0, kbool1, if_pos, if_neg, if_true, if_false, Int.neg_neg, Int.sub_zero, Int.add_zero, Int.zero_add, true_and, and_true, false_and, and_false, false_or, or_false, true_or, or_true, ne_eq, not_false_eq_true, not_true_eq_false]
      simp only [E2, g1]
      rfl
    · have hXz := hX.to z1
      have y1 := (hXz.f49.f (j := j) (by omega))
      have y2 := (hXz.f55.f (j := j) (by omega))
      have y3 := (hXz.f61.f (j := j) (by omega))
      have h1 := hXz.f49.g (x := (j : Int)) (by omega) (by omega)
      rw [Int.toNat_natCast] at h1
      have S1 := X1_set1 y1 (t := 0) okb_0
      have k1 : kF 49 72 μ (frw ν (49 + 1 + j) (0, 1)) := z1.trans (kF_fr y1 (by omega) (by omega))
      have a1 : rowR (frw ν (49 + 1 + j) (0, 1)) 49 (j + 1) (fun _ => (0, 1)) := fun x hx => by
        by_cases xj : x = j
        · rw [xj]; exact frS.w okb_0 okb_1
        · exact (z2 x (by omega)).ne (by omega)
      have b1 : rowR (frw ν (49 + 1 + j) (0, 1)) 55 j (gz [(1, 1)]) := fun x hx => (z3 x hx).ne (by omega)
      have c1 : rowR (frw ν (49 + 1 + j) (0, 1)) 61 j (fun _ => (0, 1)) := fun x hx => (z4 x hx).ne (by omega)
      generalize frw ν (49 + 1 + j) (0, 1) = ν1 at *
      have hX1 := hX.to k1
      have h2 := hX1.f55.g (x := (j : Int)) (by omega) (by omega)
      rw [Int.toNat_natCast] at h2
      obtain ⟨t1, ht1, ht2, ht3⟩ : ∃ t1 : Int, okb t1 ∧ gz [(1, 1)] j = (t1, 1) ∧ (j = 0 ∧ t1 = 1 ∨ j ≠ 0 ∧ t1 = 0) := by
        by_cases j0 : j = 0
        · subst j0
          exact ⟨1, okb_1, rfl, Or.inl ⟨rfl, rfl⟩⟩
        · obtain ⟨j', rfl⟩ : ∃ j', j = j' + 1 := ⟨j - 1, by omega⟩
          exact ⟨0, okb_0, rfl, Or.inr ⟨j0, rfl⟩⟩
      have S2 := X1_set1 (hX1.f55.f (j := j) (by omega)) (t := t1) ht1
      have k2 : kF 49 72 μ (frw ν1 (55 + 1 + j) (t1, 1)) := k1.trans (kF_fr (hX1.f55.f (j := j) (by omega)) (by omega) (by omega))
      have a2 : rowR (frw ν1 (55 + 1 + j) (t1, 1)) 49 (j + 1) (fun _ => (0, 1)) := fun x hx => (a1 x hx).ne (by omega)
      have b2 : rowR (frw ν1 (55 + 1 + j) (t1, 1)) 55 (j + 1) (gz [(1, 1)]) := fun x hx => by
        by_cases xj : x = j
        · rw [xj, ht2]; exact frS.w ht1 okb_1
        · exact (b1 x (by omega)).ne (by omega)
      have c2 : rowR (frw ν1 (55 + 1 + j) (t1, 1)) 61 j (fun _ => (0, 1)) := fun x hx => (c1 x hx).ne (by omega)
      generalize frw ν1 (55 + 1 + j) (t1, 1) = ν2 at *
      have hX2 := hX.to k2
      have h3 := hX2.f61.g (x := (j : Int)) (by omega) (by omega)
      rw [Int.toNat_natCast] at h3
      have S3 := X1_set1 (hX2.f61.f (j := j) (by omega)) (t := 0) okb_0
      refine ⟨.inl (ki ((j + 1 : Nat) : Int), frw ν2 (61 + 1 + j) (0, 1)), ?_, by omega, rfl, k2.trans (kF_fr (hX2.f61.f (j := j) (by omega)) (by omega) (by omega)), fun x hx => (a2 x hx).ne (by omega), fun x hx => (b2 x hx).ne (by omega), fun x hx => ?_⟩
      · rcases ht3 with ⟨j0, rfl⟩ | ⟨j0, rfl⟩
        · simp (disch := omega) only [b_X8_orthogonal_19, b_X8_orthogonal_48, h1, h2, h3, krcv y1.1, krcv y2.1, krcv y3.1, S1, S2, S3, ki_0, ki_1, ki_2, ki_3, ki_4, ki_5, ki_6, ki_7, ki_8, ki_9, ki_10, ki_11, ki_12, ki_13, ki_18, ki_20, ki_24, ki_32, ki_36, ki_45, ki_47, ki_48, ki_50, ki_57, ki_60, ki_63, ki_99, ki_100, ki_101, ki_120, ki_255, ki_468, ki_1000, ki_1024, ki_13849, ki_25173, ki_65535, ki_65536, ki_100000, ki_100001, ki_2147483647, ki_2147483648, kl_0, kl_1, kl_2, kl_9223372036854775808, ki_add, ki_sub, ki_mul, ki_neg, kl_add, kl_sub, kl_mul, kl_neg, ki_i2l, kl_l2i, ki_lt, ki_le, ki_eq, kcmp_eq, kcmp_lt, kcmp_le, kcmp_gt, kcmp_ge, Option.bind_some, Option.map_some, kbool0, kbool1, if_pos, if_neg, if_true, if_false, Int.neg_neg, Int.sub_zero, Int.add_zero, Int.zero_add, true_and, and_true, false_and, and_false, false_or, or_false, true_or, or_true, ne_eq, not_false_eq_true, not_true_eq_false, Int.natCast_add, Int.natCast_one]
        · simp (disch := omega) only [b_X8_orthogonal_19, b_X8_orthogonal_48, h1, h2, h3, krcv y1.1, krcv y2.1, krcv y3.1, S1, S2, S3, ki_0, ki_1, ki_2, ki_3, ki_4, ki_5, ki_6, ki_7, ki_8, ki_9, ki_10, ki_11, ki_12, ki_13, ki_18, ki_20, ki_24, ki_32, ki_36, ki_45, ki_47, ki_48, ki_50, ki_57, ki_60, ki_63, ki_99, ki_100, ki_101, ki_120, ki_255, ki_468, ki_1000, ki_1024, ki_13849, ki_25173, ki_65535, ki_65536, ki_100000, ki_100001, ki_2147483647, ki_2147483648, kl_0, kl_1, kl_2, kl_9223372036854775808, ki_add, ki_sub, ki_mul, ki_neg, kl_add, kl_sub, kl_mul, kl_neg, ki_i2l, kl_l2i, ki_lt, ki_le, ki_eq, kcmp_eq, kcmp_lt, kcmp_le, kcmp_gt, kcmp_ge, Option.bind_some, Option.map_some, kbool0, kbool1, if_pos, if_neg, if_true, if_false, Int.neg_neg, Int.sub_zero, Int.add_zero, Int.zero_add, true_and, and_true, false_and, and_false, false_or, or_false, true_or, or_true, ne_eq, not_false_eq_true, not_true_eq_false, Int.natCast_add, Int.natCast_one]
      · by_cases xj : x = j
        · rw [xj]; exact frS.w okb_0 okb_1
        · exact (c2 x (by omega)).ne (by omega)
  obtain ⟨R, ν⟩ := r
  exact ⟨R, ν, g1, g2, g3, g4⟩
