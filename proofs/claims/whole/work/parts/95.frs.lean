/-! FRACTIONS in their cells: copying, adding, rows -/
def frS (μ : jM) (o : Nat) (p : Int × Int) : Prop := okb p.1 ∧ okb p.2 ∧ μ o 0 = .long (kl p.1) ∧ μ o 1 = .long (kl p.2)
theorem frS.w {μ : jM} {o : Nat} {p : Int × Int} (h1 : okb p.1) (h2 : okb p.2) : frS (frw μ o p) o p := ⟨h1, h2, frw_0, frw_1⟩
theorem frS.ne {μ : jM} {o i : Nat} {p q : Int × Int} (h : frS μ i p) (e : i ≠ o) : frS (frw μ o q) i p := ⟨h.1, h.2.1, by rw [frw_ne e]; exact h.2.2.1, by rw [frw_ne e]; exact h.2.2.2⟩
theorem frS.at {μ ν : jM} {i : Nat} {p : Int × Int} (h : frS μ i p) (e : ν i = μ i) : frS ν i p := ⟨h.1, h.2.1, by rw [e]; exact h.2.2.1, by rw [e]; exact h.2.2.2⟩
theorem frS.to {μ ν : jM} {i lo hi : Nat} {p : Int × Int} (h : frS μ i p) (k : kF lo hi μ ν) (e : i < lo ∨ hi ≤ i) : frS ν i p := h.at (k.1 i e)
theorem frS.g0 {Y : jY} {μ : jM} {o : Nat} {p : Int × Int} (h : frS μ o p) (hF : kFr Y μ o) : jgL Y μ o 1 0 = some (kl p.1) := kgLv (k := 0) hF.1 h.2.2.1
theorem frS.g1 {Y : jY} {μ : jM} {o : Nat} {p : Int × Int} (h : frS μ o p) (hF : kFr Y μ o) : jgL Y μ o 1 1 = some (kl p.2) := kgLv (k := 1) hF.1 h.2.2.2
theorem X1_set1 {Y : jY} {μ : jM} {o : Nat} (h : kFr Y μ o) {t : Int} (ht : okb t) : f_X1_set Y o (kl t) (kl 1) μ = some (frw μ o (t, 1)) := by
  have e := X1_set h ht okb_1
  have c : cd t 1 = 1 := by unfold cd; rw [show (1 : Int).natAbs = 1 from rfl, Nat.gcd_one_right]; rfl
  have f : fset t 1 = (t, 1) := by
    unfold fset
    rw [if_neg (by omega), if_pos (by omega), c]
    show (t.tdiv 1, (1 : Int).tdiv 1) = (t, 1)
    rw [Int.tdiv_one, Int.tdiv_one]
  rw [f] at e
  exact e
theorem X1_copy {Y : jY} {μ : jM} {o f : Nat} (h : kFr Y μ o) (hf : kFr Y μ f) {q : Int × Int} (e : frS μ f q) : f_X1_copy Y o f μ = some (frw μ o q) := by
  have pr := fun (μ2 : jM) (k : Nat) (v : Value) => kput (μ := μ2) (k := k) (v := v) h.1 h.2.1
  have g0 := e.g0 hf
  have g1 : jgL Y (jw μ o 0 (.long (kl q.1))) f 1 1 = some (kl q.2) := kgLv (k := 1) hf.1 (by rw [jw_ne _ _ (by omega)]; exact e.2.2.2)
  simp only [f_X1_copy, g0, pr, g1, Option.bind_some, frw]
theorem X1_multiply {Y : jY} {μ : jM} {o f : Nat} (h : kFr Y μ o) (hf : kFr Y μ f) {p q r : Int × Int} (ep : frS μ o p) (eq : frS μ f q) (e : mF p q.1 q.2 = some r) : f_X1_multiply Y o f μ = some (frw μ o r) := by
  rw [mF_eq] at e
  simp only [f_X1_multiply, eq.g0 hf, eq.g1 hf, Option.bind_some, krcv h.1, X1_multiply_ h ep.2.2.1 ep.2.2.2 ep.1 ep.2.1 eq.1 eq.2.1 e]
theorem X1_divide {Y : jY} {μ : jM} {o f : Nat} (h : kFr Y μ o) (hf : kFr Y μ f) {p q r : Int × Int} (ep : frS μ o p) (eq : frS μ f q) (e : mF p q.2 q.1 = some r) : f_X1_divide Y o f μ = some (frw μ o r) := by
  rw [mF_eq] at e
  simp only [f_X1_divide, eq.g0 hf, eq.g1 hf, Option.bind_some, krcv h.1, X1_multiply_ h ep.2.2.1 ep.2.2.2 ep.1 ep.2.1 eq.2.1 eq.1 e]
theorem X1_add {Y : jY} {μ : jM} {o f : Nat} (h : kFr Y μ o) (hf : kFr Y μ f) {p q r : Int × Int} (ep : frS μ o p) (eq : frS μ f q) (e : aF p q.1 q.2 = some r) : f_X1_add Y o f μ = some (frw μ o r) := by
  rw [aF_eq] at e
  simp only [f_X1_add, eq.g0 hf, eq.g1 hf, Option.bind_some, krcv h.1, X1_add_ h ep.2.2.1 ep.2.2.2 ep.2.1 eq.2.1 e]
theorem X1_subtract {Y : jY} {μ : jM} {o f : Nat} (h : kFr Y μ o) (hf : kFr Y μ f) {p q r : Int × Int} (ep : frS μ o p) (eq : frS μ f q) (e : aF p (-q.1) q.2 = some r) : f_X1_subtract Y o f μ = some (frw μ o r) := by
  rw [aF_eq] at e
  simp only [f_X1_subtract, eq.g0 hf, eq.g1 hf, Option.bind_some, kl_neg, krcv h.1, X1_add_ h ep.2.2.1 ep.2.2.2 ep.2.1 eq.2.1 e]
theorem mF_ok {p : Int × Int} {t b : Int} {q : Int × Int} (e : mF p t b = some q) : okb q.1 ∧ okb q.2 := by
  rw [mF_eq] at e
  exact fmulO_ok e
theorem aF_ok {p : Int × Int} {t b : Int} {q : Int × Int} (e : aF p t b = some q) : okb q.1 ∧ okb q.2 := by
  rw [aF_eq] at e
  exact faddO_ok e
theorem kFA.f {Y : jY} {μ : jM} {a n : Nat} (h : kFA Y μ a n) {j : Nat} (hj : j < n) : kFr Y μ (a + 1 + j) := (h.2.2 j hj).2
theorem kFA.g {Y : jY} {μ : jM} {a n : Nat} (h : kFA Y μ a n) {x : Int} (h0 : 0 ≤ x) (h1 : x < n) : jaO Y μ a 23 (ki x) = some (a + 1 + x.toNat) := by
  have := h.2.1
  unfold jaO
  rw [h.1, if_pos rfl, kjix h0 (by show x < (n : Int); omega) (by show n ≤ 1000; omega), Option.bind_some, (h.2.2 x.toNat (by omega)).1]
  rfl
theorem kFA.l {Y : jY} {μ : jM} {a n : Nat} (h : kFA Y μ a n) : jlen Y a 23 = some (ki n) := by
  unfold jlen
  rw [h.1, if_pos rfl]
  rfl
/-- a row of fractions -/
def rowR (μ : jM) (R n : Nat) (L : Nat → Int × Int) : Prop := ∀ j, j < n → frS μ (R + 1 + j) (L j)
theorem rowR.at {μ ν : jM} {R n : Nat} {L : Nat → Int × Int} (h : rowR μ R n L) (e : ∀ j, j < n → ν (R + 1 + j) = μ (R + 1 + j)) : rowR ν R n L := fun j hj => (h j hj).at (e j hj)
theorem rowR.to {μ ν : jM} {R n lo hi : Nat} {L : Nat → Int × Int} (h : rowR μ R n L) (k : kF lo hi μ ν) (e : R + n < lo ∨ hi ≤ R + 1) : rowR ν R n L := h.at fun j hj => k.1 _ (by omega)
/-- only one row of the three, and the work, have changed -/
def frF (R : Nat) (μ ν : jM) : Prop := kF 49 72 μ ν ∧ ∀ i, i ≠ 67 → (i ≤ R ∨ R + 5 < i) → ν i = μ i
theorem frF.refl {R : Nat} {μ : jM} : frF R μ μ := ⟨kF.refl, fun _ _ _ => rfl⟩
theorem frF.w {R o : Nat} {μ ν : jM} {Y : jY} {p : Int × Int} (h : frF R μ ν) (hF : kFr Y μ o) (ho : o = 67 ∨ (R < o ∧ o ≤ R + 5 ∧ 49 ≤ R ∧ R ≤ 61)) : frF R μ (frw ν o p) := by
  refine ⟨h.1.trans ((frw_kF (hF.to h.1)).mono (by omega) (by omega)), fun i a b => ?_⟩
  rw [frw_ne (by omega)]
  exact h.2 i a b
def isR3 (R : Nat) : Prop := R = 49 ∨ R = 55 ∨ R = 61
theorem kX.r3 {Y : jY} {μ : jM} (h : kX Y μ) {R : Nat} (e : isR3 R) : kFA Y μ R 5 := by
  rcases e with rfl | rfl | rfl
  · exact h.f49
  · exact h.f55
  · exact h.f61
def lrO (s prev l h : Int × Int) : Option (Int × Int) := (mF s l.1 l.2).bind fun w => (aF prev (-w.1) w.2).bind fun v => aF v (-h.1) h.2
theorem X8_leaveRest {Y : jY} {μ : jM} (hX : kX Y μ) {A B C sc : Nat} (hA : isR3 A) (hB : isR3 B) (hC : isR3 C) (AC : A ≠ C) (BC : B ≠ C) {cnt : Nat} (c5 : cnt ≤ 5) {s : Int × Int} {Hf Lf Rf : Nat → Int × Int} (rA : rowR μ A cnt Hf) (rB : rowR μ B cnt Lf) (hsc : sc < 49) (kS0 : kFr Y μ sc) (es : frS μ sc s) (hR : ∀ j, j < cnt → lrO s (if j = 0 then (0, 1) else Lf (j - 1)) (Lf j) (Hf j) = some (Rf j)) : ∃ ν, f_X8_leaveRest Y 31 A B C (ki cnt) sc μ = some ν ∧ frF C μ ν ∧ rowR ν C cnt Rf := by
  unfold f_X8_leaveRest
  refine jit_inv (f := fun (s : Int32 × jM) => b_X8_leaveRest_3 Y 31 A B C (ki cnt) sc s.1 s.2) (fun j z => z.1 = ki j ∧ frF C μ z.2 ∧ rowR z.2 C j Rf) _ cnt (s := ((0 : Int32), μ)) ⟨rfl, frF.refl, fun j hj => by omega⟩ (by omega) (fun j z hj hz => ?_)
  obtain ⟨v, ν⟩ := z
  obtain ⟨rfl, z1, z2⟩ := hz
  simp only [] at z1 z2
  by_cases e : j = cnt
  · rw [e] at z2
    refine ⟨.inr ν, ?_, z1, z2⟩
    simp (disch := omega) only [b_X8_leaveRest_3, ki_0, ki_1, ki_2, ki_3, ki_4, ki_5, ki_6, ki_7, ki_8, ki_9, ki_10, ki_11, ki_12, ki_13, ki_18, ki_20, ki_24, ki_32, ki_36, ki_45, ki_47, ki_48, ki_50, ki_57, ki_60, ki_63, ki_99, ki_100, ki_101, ki_120, ki_255, ki_468, ki_1000, ki_1024, ki_13849, ki_25173, ki_65535, ki_65536, ki_100000, ki_100001, ki_2147483647, ki_2147483648, kl_0, kl_1, kl_2, kl_9223372036854775808, ki_add, ki_sub, ki_mul, ki_neg, kl_add, kl_sub, kl_mul, kl_neg, ki_i2l, kl_l2i, ki_lt, ki_le, ki_eq, kcmp_eq, kcmp_lt, kcmp_le, kcmp_gt, kcmp_ge, Option.bind_some, Option.map_some, kbool0, kbool1, if_pos, if_neg, if_true, if_false, Int.neg_neg, Int.sub_zero, Int.add_zero, Int.zero_add, true_and, and_true, false_and, and_false, false_or, or_false, true_or, or_true, ne_eq, not_false_eq_true, not_true_eq_false]
  · have R0 := hR j (by omega)
    simp only [lrO, Option.bind_eq_some_iff] at R0
    obtain ⟨w, m1, v, m2, m3⟩ := R0
    have hAr : 49 ≤ A ∧ A ≤ 61 := by unfold isR3 at hA; omega
    have hBr : 49 ≤ B ∧ B ≤ 61 := by unfold isR3 at hB; omega
    have hCr : 49 ≤ C ∧ C ≤ 61 := by unfold isR3 at hC; omega
    have dA : A + 5 < C ∨ C + 5 < A := by unfold isR3 at hA hC; omega
    have dB : B + 5 < C ∨ C + 5 < B := by unfold isR3 at hB hC; omega
    have hXz := hX.to z1.1
    have kC := hXz.r3 hC
    have gC := kC.g (x := (j : Int)) (by omega) (by omega)
    rw [Int.toNat_natCast] at gC
    have S := X1_set1 (kC.f (j := j) (by omega)) (t := 0) okb_0
    have F1 : frF C μ (frw ν (C + 1 + j) (0, 1)) := z1.w (hX.r3 hC |>.f (j := j) (by omega)) (by omega)
    have pv : ∃ η, b_X8_leaveRest_3 Y 31 A B C (ki cnt) sc (ki j) ν = b_X8_leaveRest_37 Y 31 A B C (ki cnt) sc (ki j) η ∧ frF C μ η ∧ rowR η C j Rf ∧ frS η (C + 1 + j) (if j = 0 then (0, 1) else Lf (j - 1)) := by
      by_cases j0 : j = 0
      · rw [if_pos j0]
        have j1 : (j : Int) ≤ 0 := by omega
        refine ⟨_, ?_, F1, fun i hi => by omega, frS.w okb_0 okb_1⟩
        simp (disch := omega) only [b_X8_leaveRest_3, gC, krcv (kC.f (j := j) (by omega)).1, S, ki_0, ki_1, ki_2, ki_3, ki_4, ki_5, ki_6, ki_7, ki_8, ki_9, ki_10, ki_11, ki_12, ki_13, ki_18, ki_20, ki_24, ki_32, ki_36, ki_45, ki_47, ki_48, ki_50, ki_57, ki_60, ki_63, ki_99, ki_100, ki_101, ki_120, ki_255, ki_468, ki_1000, ki_1024, ki_13849, ki_25173, ki_65535, ki_65536, ki_100000, ki_100001, ki_2147483647, ki_2147483648, kl_0, kl_1, kl_2, kl_9223372036854775808, ki_add, ki_sub, ki_mul, ki_neg, kl_add, kl_sub, kl_mul, kl_neg, ki_i2l, kl_l2i, ki_lt, ki_le, ki_eq, kcmp_eq, kcmp_lt, kcmp_le, kcmp_gt, kcmp_ge, Option.bind_some, Option.map_some, kbool0, kbool1, if_pos, if_neg, if_true, if_false, Int.neg_neg, Int.sub_zero, Int.add_zero, Int.zero_add, true_and, and_true, false_and, and_false, false_or, or_false, true_or, or_true, ne_eq, not_false_eq_true, not_true_eq_false]
      · rw [if_neg j0]
        have hX1 := hX.to F1.1
        have kB := hX1.r3 hB
        have kC1 := hX1.r3 hC
        have gB := kB.g (x := (j : Int) - 1) (by omega) (by omega)
        have gC1 := kC1.g (x := (j : Int)) (by omega) (by omega)
        rw [Int.toNat_natCast] at gC1
        rw [show ((j : Int) - 1).toNat = j - 1 by omega] at gB
        have fB : frS (frw ν (C + 1 + j) (0, 1)) (B + 1 + (j - 1)) (Lf (j - 1)) := (rB (j - 1) (by omega)).at (F1.2 _ (by omega) (by omega))
        have cp := X1_copy (kC1.f (j := j) (by omega)) (kB.f (j := j - 1) (by omega)) fB
        refine ⟨_, ?_, F1.w (hX.r3 hC |>.f (j := j) (by omega)) (by omega), fun i hi => ((z2 i hi).ne (by omega)).ne (by omega), frS.w fB.1 fB.2.1⟩
        simp (disch := omega) only [b_X8_leaveRest_3, gC, krcv (kC.f (j := j) (by omega)).1, S, gB, gC1, cp, ki_0, ki_1, ki_2, ki_3, ki_4, ki_5, ki_6, ki_7, ki_8, ki_9, ki_10, ki_11, ki_12, ki_13, ki_18, ki_20, ki_24, ki_32, ki_36, ki_45, ki_47, ki_48, ki_50, ki_57, ki_60, ki_63, ki_99, ki_100, ki_101, ki_120, ki_255, ki_468, ki_1000, ki_1024, ki_13849, ki_25173, ki_65535, ki_65536, ki_100000, ki_100001, ki_2147483647, ki_2147483648, kl_0, kl_1, kl_2, kl_9223372036854775808, ki_add, ki_sub, ki_mul, ki_neg, kl_add, kl_sub, kl_mul, kl_neg, ki_i2l, kl_l2i, ki_lt, ki_le, ki_eq, kcmp_eq, kcmp_lt, kcmp_le, kcmp_gt, kcmp_ge, Option.bind_some, Option.map_some, kbool0, kbool1, if_pos, if_neg, if_true, if_false, Int.neg_neg, Int.sub_zero, Int.add_zero, Int.zero_add, true_and, and_true, false_and, and_false, false_or, or_false, true_or, or_true, ne_eq, not_false_eq_true, not_true_eq_false]
    obtain ⟨η, E, F2, r2, p2⟩ := pv
    generalize (if j = 0 then (0, 1) else Lf (j - 1)) = pr at *
    have hX2 := hX.to F2.1
    have kA2 := hX2.r3 hA
    have kB2 := hX2.r3 hB
    have w2 := hX2.f67
    have e2 := es.at (F2.2 sc (by omega) (by omega))
    have cp := X1_copy w2 (kS0.to F2.1) e2
    have F3 := F2.w (p := s) hX.f67 (Or.inl rfl)
    have hX3 := hX.to F3.1
    have kB3 := hX3.r3 hB
    have gB3 := kB3.g (x := (j : Int)) (by omega) (by omega)
    rw [Int.toNat_natCast] at gB3
    have b3 := (rB j (by omega)).at (F3.2 _ (by omega) (by omega))
    have mu := X1_multiply hX3.f67 (kB3.f (j := j) (by omega)) (frS.w es.1 es.2.1) b3 m1
    have F4 := F3.w (p := w) hX.f67 (Or.inl rfl)
    have hX4 := hX.to F4.1
    have kC4 := hX4.r3 hC
    have gC4 := kC4.g (x := (j : Int)) (by omega) (by omega)
    rw [Int.toNat_natCast] at gC4
    have wo := mF_ok m1
    have su := X1_subtract (kC4.f (j := j) (by omega)) hX4.f67 ((p2.ne (by omega)).ne (by omega)) (frS.w wo.1 wo.2) m2
    have F5 := F4.w (o := C + 1 + j) (p := v) (hX.r3 hC |>.f (j := j) (by omega)) (by omega)
    have hX5 := hX.to F5.1
    have kC5 := hX5.r3 hC
    have kA5 := hX5.r3 hA
    have gC5 := kC5.g (x := (j : Int)) (by omega) (by omega)
    rw [Int.toNat_natCast] at gC5
    have gA5 := kA5.g (x := (j : Int)) (by omega) (by omega)
    rw [Int.toNat_natCast] at gA5
    have a5 := (rA j (by omega)).at (F5.2 _ (by omega) (by omega))
    have vo := aF_ok m2
    have ro := aF_ok m3
    have su2 := X1_subtract (kC5.f (j := j) (by omega)) (kA5.f (j := j) (by omega)) (frS.w vo.1 vo.2) a5 m3
    have F6 := F5.w (o := C + 1 + j) (p := Rf j) (hX.r3 hC |>.f (j := j) (by omega)) (by omega)
    have r6 : rowR (frw (frw (frw (frw η 67 s) 67 w) (C + 1 + j) v) (C + 1 + j) (Rf j)) C (j + 1) Rf := fun i hi => by
      by_cases ij : i = j
      · rw [ij]
        exact frS.w ro.1 ro.2
      · exact ((((r2 i (by omega)).ne (by omega)).ne (by omega)).ne (by omega)).ne (by omega)
    refine ⟨.inl (ki ((j + 1 : Nat) : Int), frw (frw (frw (frw η 67 s) 67 w) (C + 1 + j) v) (C + 1 + j) (Rf j)), ?_, by omega, rfl, F6, r6⟩
    rw [E]
    simp (disch := omega) only [b_X8_leaveRest_37, hX2.o31_9, hX3.o31_9, hX4.o31_9, cp, gB3, mu, gC4, su, gC5, gA5, su2, krcv hX.f67.1, krcv (kC4.f (j := j) (by omega)).1, ki_0, ki_1, ki_2, ki_3, ki_4, ki_5, ki_6, ki_7, ki_8, ki_9, ki_10, ki_11, ki_12, ki_13, ki_18, ki_20, ki_24, ki_32, ki_36, ki_45, ki_47, ki_48, ki_50, ki_57, ki_60, ki_63, ki_99, ki_100, ki_101, ki_120, ki_255, ki_468, ki_1000, ki_1024, ki_13849, ki_25173, ki_65535, ki_65536, ki_100000, ki_100001, ki_2147483647, ki_2147483648, kl_0, kl_1, kl_2, kl_9223372036854775808, ki_add, ki_sub, ki_mul, ki_neg, kl_add, kl_sub, kl_mul, kl_neg, ki_i2l, kl_l2i, ki_lt, ki_le, ki_eq, kcmp_eq, kcmp_lt, kcmp_le, kcmp_gt, kcmp_ge, Option.bind_some, Option.map_some, kbool0, kbool1, if_pos, if_neg, if_true, if_false, Int.neg_neg, Int.sub_zero, Int.add_zero, Int.zero_add, true_and, and_true, false_and, and_false, false_or, or_false, true_or, or_true, ne_eq, not_false_eq_true, not_true_eq_false, Int.natCast_add, Int.natCast_one]
theorem X8_divideAll {Y : jY} {μ : jM} (hX : kX Y μ) {C sc : Nat} (hC : isR3 C) {cnt : Nat} (c5 : cnt ≤ 5) {s : Int × Int} {Rf Tf : Nat → Int × Int} (rC : rowR μ C cnt Rf) (hsc : sc < 49) (kS0 : kFr Y μ sc) (es : frS μ sc s) (hR : ∀ j, j < cnt → mF (Rf j) s.2 s.1 = some (Tf j)) : ∃ ν, f_X8_divideAll Y C (ki cnt) sc μ = some ν ∧ frF C μ ν ∧ rowR ν C cnt Tf := by
  unfold f_X8_divideAll
  have hCr : 49 ≤ C ∧ C ≤ 61 := by unfold isR3 at hC; omega
  refine jit_inv (f := fun (s : Int32 × jM) => b_X8_divideAll_2 Y C (ki cnt) sc s.1 s.2) (fun j z => z.1 = ki j ∧ frF C μ z.2 ∧ rowR z.2 C j Tf ∧ ∀ i, j ≤ i → i < cnt → frS z.2 (C + 1 + i) (Rf i)) _ cnt (s := ((0 : Int32), μ)) ⟨rfl, frF.refl, fun j hj => by omega, fun i _ hi => rC i hi⟩ (by omega) (fun j z hj hz => ?_)
  obtain ⟨v, ν⟩ := z
  obtain ⟨rfl, z1, z2, z3⟩ := hz
  simp only [] at z1 z2 z3
  by_cases e : j = cnt
  · rw [e] at z2
    refine ⟨.inr ν, ?_, z1, z2⟩
    simp (disch := omega) only [b_X8_divideAll_2, ki_0, ki_1, ki_2, ki_3, ki_4, ki_5, ki_6, ki_7, ki_8, ki_9, ki_10, ki_11, ki_12, ki_13, ki_18, ki_20, ki_24, ki_32, ki_36, ki_45, ki_47, ki_48, ki_50, ki_57, ki_60, ki_63, ki_99, ki_100, ki_101, ki_120, ki_255, ki_468, ki_1000, ki_1024, ki_13849, ki_25173, ki_65535, ki_65536, ki_100000, ki_100001, ki_2147483647, ki_2147483648, kl_0, kl_1, kl_2, kl_9223372036854775808, ki_add, ki_sub, ki_mul, ki_neg, kl_add, kl_sub, kl_mul, kl_neg, ki_i2l, kl_l2i, ki_lt, ki_le, ki_eq, kcmp_eq, kcmp_lt, kcmp_le, kcmp_gt, kcmp_ge, Option.bind_some, Option.map_some, kbool0, kbool1, if_pos, if_neg, if_true, if_false, Int.neg_neg, Int.sub_zero, Int.add_zero, Int.zero_add, true_and, and_true, false_and, and_false, false_or, or_false, true_or, or_true, ne_eq, not_false_eq_true, not_true_eq_false]
  · have hXz := hX.to z1.1
    have kC := hXz.r3 hC
    have gC := kC.g (x := (j : Int)) (by omega) (by omega)
    rw [Int.toNat_natCast] at gC
    have m := hR j (by omega)
    have mo := mF_ok m
    have D := X1_divide (kC.f (j := j) (by omega)) (kS0.to z1.1) (z3 j (by omega) (by omega)) (es.at (z1.2 sc (by omega) (by omega))) m
    have F := z1.w (o := C + 1 + j) (p := Tf j) (hX.r3 hC |>.f (j := j) (by omega)) (by omega)
    refine ⟨.inl (ki ((j + 1 : Nat) : Int), frw ν (C + 1 + j) (Tf j)), ?_, by omega, rfl, F, fun i hi => ?_, fun i hi hi2 => (z3 i (by omega) hi2).ne (by omega)⟩
    · simp (disch := omega) only [b_X8_divideAll_2, gC, D, krcv (kC.f (j := j) (by omega)).1, ki_0, ki_1, ki_2, ki_3, ki_4, ki_5, ki_6, ki_7, ki_8, ki_9, ki_10, ki_11, ki_12, ki_13, ki_18, ki_20, ki_24, ki_32, ki_36, ki_45, ki_47, ki_48, ki_50, ki_57, ki_60, ki_63, ki_99, ki_100, ki_101, ki_120, ki_255, ki_468, ki_1000, ki_1024, ki_13849, ki_25173, ki_65535, ki_65536, ki_100000, ki_100001, ki_2147483647, ki_2147483648, kl_0, kl_1, kl_2, kl_9223372036854775808, ki_add, ki_sub, ki_mul, ki_neg, kl_add, kl_sub, kl_mul, kl_neg, ki_i2l, kl_l2i, ki_lt, ki_le, ki_eq, kcmp_eq, kcmp_lt, kcmp_le, kcmp_gt, kcmp_ge, Option.bind_some, Option.map_some, kbool0, kbool1, if_pos, if_neg, if_true, if_false, Int.neg_neg, Int.sub_zero, Int.add_zero, Int.zero_add, true_and, and_true, false_and, and_false, false_or, or_false, true_or, or_true, ne_eq, not_false_eq_true, not_true_eq_false, Int.natCast_add, Int.natCast_one]
    · by_cases ij : i = j
      · rw [ij]
        exact frS.w mo.1 mo.2
      · exact (z2 i (by omega)).ne (by omega)
