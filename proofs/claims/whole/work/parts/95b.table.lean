/-! THE TONES' TABLE in fractions: rebuilding it -/
theorem kALlen {Y : jY} {a n : Nat} {μ : jM} (h : kAL Y μ a n) : jlen Y a 21 = some (ki n) := by
  unfold jlen
  rw [h.1, if_pos rfl]
  rfl
theorem X8_setWhole {Y : jY} {μ : jM} (hX : kX Y μ) {C arr na : Nat} (hC : isR3 C) {cnt : Nat} (c5 : cnt ≤ 5) (cn : cnt ≤ na) (hA : kAL Y μ arr na) (ha : arr < 49) {U : Int → Int} (hU : rowK μ arr cnt U) (oU : ∀ j : Nat, j < cnt → okb (U j)) : ∃ ν, f_X8_setWhole Y C arr (ki cnt) μ = some ν ∧ frF C μ ν ∧ rowR ν C cnt (fun j => (U j, 1)) := by
  unfold f_X8_setWhole
  have hCr : 49 ≤ C ∧ C ≤ 61 := by unfold isR3 at hC; omega
  have na1 := hA.2.2.1
  refine jit_inv (f := fun (s : Int32 × jM) => b_X8_setWhole_2 Y C arr (ki cnt) s.1 s.2) (fun j z => z.1 = ki j ∧ frF C μ z.2 ∧ rowR z.2 C j (fun j => (U j, 1))) _ cnt (s := ((0 : Int32), μ)) ⟨rfl, frF.refl, fun j hj => by omega⟩ (by omega) (fun j z hj hz => ?_)
  obtain ⟨v, ν⟩ := z
  obtain ⟨rfl, z1, z2⟩ := hz
  simp only [] at z1 z2
  by_cases e : j = cnt
  · rw [e] at z2
    refine ⟨.inr ν, ?_, z1, z2⟩
    simp (disch := omega) only [b_X8_setWhole_2, b_X8_setWhole_35, ki_0, ki_1, ki_2, ki_3, ki_4, ki_5, ki_6, ki_7, ki_8, ki_9, ki_10, ki_11, ki_12, ki_13, ki_18, ki_20, ki_24, ki_32, ki_36, ki_45, ki_47, ki_48, ki_50, ki_57, ki_60, ki_63, ki_99, ki_100, ki_101, ki_120, ki_255, ki_468, ki_1000, ki_1024, ki_13849, ki_25173, ki_65535, ki_65536, ki_100000, ki_100001, ki_2147483647, ki_2147483648, kl_0, kl_1, kl_2, kl_9223372036854775808, ki_add, ki_sub, ki_mul, ki_neg, kl_add, kl_sub, kl_mul, kl_neg, ki_i2l, kl_l2i, ki_lt, ki_le, ki_eq, kcmp_eq, kcmp_lt, kcmp_le, kcmp_gt, kcmp_ge, Option.bind_some, Option.map_some, kbool0, kbool1, if_pos, if_neg, if_true, if_false, Int.neg_neg, Int.sub_zero, Int.add_zero, Int.zero_add, true_and, and_true, false_and, and_false, false_or, or_false, true_or, or_true, ne_eq, not_false_eq_true, not_true_eq_false]
  · have hXz := hX.to z1.1
    have kC := hXz.r3 hC
    have gC := kC.g (x := (j : Int)) (by omega) (by omega)
    rw [Int.toNat_natCast] at gC
    have l1 := kC.l
    have l2 := kALlen (hA.to z1.1)
    have q := kaLv (hA.to z1.1) (x := (j : Int)) (by omega) (by omega) ((hU.cell (z1.2 arr (by omega) (by omega))) (j : Int) (by omega) (by omega))
    have S := X1_set1 (kC.f (j := j) (by omega)) (oU j (by omega))
    have F := z1.w (o := C + 1 + j) (p := (U j, 1)) (hX.r3 hC |>.f (j := j) (by omega)) (by omega)
    refine ⟨.inl (ki ((j + 1 : Nat) : Int), frw ν (C + 1 + j) (U j, 1)), ?_, by omega, rfl, F, fun i hi => ?_⟩
    · simp (disch := omega) only [b_X8_setWhole_2, gC, l1, l2, q, S, krcv (kC.f (j := j) (by omega)).1, ki_0, ki_1, ki_2, ki_3, ki_4, ki_5, ki_6, ki_7, ki_8, ki_9, ki_10, ki_11, ki_12, ki_13, ki_18, ki_20, ki_24, ki_32, ki_36, ki_45, ki_47, ki_48, ki_50, ki_57, ki_60, ki_63, ki_99, ki_100, ki_101, ki_120, ki_255, ki_468, ki_1000, ki_1024, ki_13849, ki_25173, ki_65535, ki_65536, ki_100000, ki_100001, ki_2147483647, ki_2147483648, kl_0, kl_1, kl_2, kl_9223372036854775808, ki_add, ki_sub, ki_mul, ki_neg, kl_add, kl_sub, kl_mul, kl_neg, ki_i2l, kl_l2i, ki_lt, ki_le, ki_eq, kcmp_eq, kcmp_lt, kcmp_le, kcmp_gt, kcmp_ge, Option.bind_some, Option.map_some, kbool0, kbool1, if_pos, if_neg, if_true, if_false, Int.neg_neg, Int.sub_zero, Int.add_zero, Int.zero_add, true_and, and_true, false_and, and_false, false_or, or_false, true_or, or_true, ne_eq, not_false_eq_true, not_true_eq_false, Int.natCast_add, Int.natCast_one]
    · by_cases ij : i = j
      · rw [ij]
        exact frS.w (oU j (by omega)) okb_1
      · exact (z2 i (by omega)).ne (by omega)
def gz (l : List (Int × Int)) (j : Nat) : Int × Int := l.getD j (0, 1)
theorem gz_0 (x : Int × Int) (l : List (Int × Int)) : gz (x :: l) 0 = x := rfl
theorem gz_s (x : Int × Int) (l : List (Int × Int)) (j : Nat) : gz (x :: l) (j + 1) = gz l j := rfl
def lrL (s : Int × Int) : Int × Int → Nat → List (Int × Int) → List (Int × Int) → Option (List (Int × Int))
  | prev, n + 1, l :: ls, h :: hs => (lrO s prev l h).bind fun r => (lrL s l n ls hs).bind fun rs => some (r :: rs)
  | _, 0, _, _ => some []
  | _, _ + 1, _, _ => none
theorem lrL_spec {s : Int × Int} : ∀ (n : Nat) (prev : Int × Int) (ls hs rs : List (Int × Int)), lrL s prev n ls hs = some rs → ∀ j, j < n → lrO s (if j = 0 then prev else gz ls (j - 1)) (gz ls j) (gz hs j) = some (gz rs j) := by
  intro n
  induction n with
  | zero => intro prev ls hs rs _ j hj; omega
  | succ n ih =>
    intro prev ls hs rs e j hj
    cases ls with
    | nil => simp [lrL] at e
    | cons l ls =>
      cases hs with
      | nil => simp [lrL] at e
      | cons h hs =>
        simp only [lrL, Option.bind_eq_some_iff] at e
        obtain ⟨r, e1, rs', e2, e3⟩ := e
        cases e3
        cases j with
        | zero => exact e1
        | succ j =>
          have := ih l ls hs rs' e2 j (by omega)
          rw [if_neg (by omega), gz_s, gz_s, gz_s, Nat.add_sub_cancel]
          cases j with
          | zero => exact this
          | succ j =>
            rw [if_neg (by omega)] at this
            exact this
def dvL (s : Int × Int) : Nat → List (Int × Int) → Option (List (Int × Int))
  | n + 1, r :: rs => (mF r s.2 s.1).bind fun t => (dvL s n rs).bind fun ts => some (t :: ts)
  | 0, _ => some []
  | _ + 1, [] => none
theorem dvL_spec {s : Int × Int} : ∀ (n : Nat) (rs ts : List (Int × Int)), dvL s n rs = some ts → ∀ j, j < n → mF (gz rs j) s.2 s.1 = some (gz ts j) := by
  intro n
  induction n with
  | zero => intro rs ts _ j hj; omega
  | succ n ih =>
    intro rs ts e j hj
    cases rs with
    | nil => simp [dvL] at e
    | cons r rs =>
      simp only [dvL, Option.bind_eq_some_iff] at e
      obtain ⟨t, e1, ts', e2, e3⟩ := e
      cases e3
      cases j with
      | zero => exact e1
      | succ j => exact ih rs ts' e2 j (by omega)
def tbL : Nat → List (Int × Int) → List (Int × Int) → Option (List (Int × Int) × List (Int × Int))
  | 0, _, _ => some ([], [])
  | 1, hs, _ => (aF (0, 1) (-(gz hs 0).1) (gz hs 0).2).bind fun a => some ([a], [])
  | d + 2, hs, ls => (aF (gz ls d) (-(gz hs (d + 1)).1) (gz hs (d + 1)).2).bind fun a => (lrL a (0, 1) (d + 1) ls hs).bind fun rs => (dvL (gz rs d) (d + 1) rs).bind fun ts => (tbL (d + 1) ls ts).bind fun q => some (a :: q.1, gz rs d :: q.2)
theorem kF_fr {Y : jY} {μ : jM} {o lo hi : Nat} {p : Int × Int} (h : kFr Y μ o) (h1 : lo ≤ o) (h2 : o < hi) : kF lo hi μ (frw μ o p) := (frw_kF h).mono h1 (by omega)
theorem X8_rstep {Y : jY} {ν : jM} (hX : kX Y ν) {N i d : Nat} (eN : gi ν 31 1 = (N : Int)) (N4 : N ≤ 4) (ed : i + (d + 1) = N) {A B C : Nat} (hA : isR3 A) (hB : isR3 B) (hC : isR3 C) (AB : A ≠ B) (AC : A ≠ C) (BC : B ≠ C) {hs ls qa qc : List (Int × Int)} (rA : rowR ν A (d + 2) (gz hs)) (rB : rowR ν B (d + 1) (gz ls)) (T : tbL (d + 1) hs ls = some (qa, qc)) : ∃ A' B' C' ν' hs' ls' qa' qc', b_X8_rebuild_70 Y 31 A B C (ki i) ν = some (.inl (A', B', C', ki ((i + 1 : Nat) : Int), ν')) ∧ isR3 A' ∧ isR3 B' ∧ isR3 C' ∧ A' ≠ B' ∧ A' ≠ C' ∧ B' ≠ C' ∧ rowR ν' A' (d + 1) (gz hs') ∧ rowR ν' B' d (gz ls') ∧ tbL d hs' ls' = some (qa', qc') ∧ (∀ j, gz qa (j + 1) = gz qa' j) ∧ (∀ j, gz qc (j + 1) = gz qc' j) ∧ frS ν' (33 + i) (gz qa 0) ∧ (1 ≤ d → frS ν' (38 + i) (gz qc 0)) ∧ kF 33 72 ν ν' ∧ ∀ x, x < 49 → x ≠ 33 + i → x ≠ 38 + i → ν' x = ν x := by
  have hAr : 49 ≤ A ∧ A ≤ 61 := by unfold isR3 at hA; omega
  have hBr : 49 ≤ B ∧ B ≤ 61 := by unfold isR3 at hB; omega
  have hCr : 49 ≤ C ∧ C ≤ 61 := by unfold isR3 at hC; omega
  have dA : A + 5 < C ∨ C + 5 < A := by unfold isR3 at hA hC; omega
  have dB : B + 5 < C ∨ C + 5 < B := by unfold isR3 at hB hC; omega
  have gN := hX.g31_1
  rw [eN] at gN
  have ga := hX.f32.g (x := (i : Int)) (by omega) (by omega)
  rw [Int.toNat_natCast] at ga
  have fa := hX.f32.f (j := i) (by omega)
  have S := X1_set1 fa (t := 0) okb_0
  have k1 : kF 33 72 ν (frw ν (33 + i) (0, 1)) := kF_fr fa (by omega) (by omega)
  have s1 : frS (frw ν (33 + i) (0, 1)) (33 + i) (0, 1) := frS.w okb_0 okb_1
  have n1 : ∀ x, x ≠ 33 + i → frw ν (33 + i) (0, 1) x = ν x := fun x hx => frw_ne hx
  cases d with
  | zero =>
    simp only [tbL, Option.bind_eq_some_iff] at T
    obtain ⟨a, T1, T2⟩ := T
    cases T2
    have hX1 := hX.to k1
    have kA := hX1.r3 hA
    have gA : jaO Y (frw ν (33 + i) (0, 1)) A 23 (ki 0) = some (A + 1 + 0) := kA.g (x := 0) (by omega) (by omega)
    have t0 : (N : Int) - i - 1 = 0 := by omega
    have ga1 := hX1.f32.g (x := (i : Int)) (by omega) (by omega)
    rw [Int.toNat_natCast] at ga1
    have hA0 := (rA 0 (by omega)).at (n1 _ (by omega))
    have su := X1_subtract (hX1.f32.f (j := i) (by omega)) (kA.f (j := 0) (by omega)) s1 hA0 T1
    have ao := aF_ok T1
    generalize frw ν (33 + i) (0, 1) = ν1 at *
    have k2 : kF 33 72 ν1 (frw ν1 (33 + i) a) := kF_fr (hX1.f32.f (j := i) (by omega)) (by omega) (by omega)
    refine ⟨A, B, C, frw ν1 (33 + i) a, hs, ls, [], [], ?_, hA, hB, hC, AB, AC, BC, ?_, fun j hj => by omega, rfl, fun j => rfl, fun j => rfl, frS.w ao.1 ao.2, fun h => by omega, k1.trans k2, fun x a b c => by rw [frw_ne b, n1 x b]⟩
    · simp (disch := omega) only [b_X8_rebuild_70, b_X8_rebuild_122, b_X8_rebuild_208, gN, hX.o31_2, ga, krcv fa.1, S, hX1.o31_2, ga1, t0, gA, su, ki_0, ki_1, ki_2, ki_3, ki_4, ki_5, ki_6, ki_7, ki_8, ki_9, ki_10, ki_11, ki_12, ki_13, ki_18, ki_20, ki_24, ki_32, ki_36, ki_45, ki_47, ki_48, ki_50, ki_57, ki_60, ki_63, ki_99, ki_100, ki_101, ki_120, ki_255, ki_468, ki_1000, ki_1024, ki_13849, ki_25173, ki_65535, ki_65536, ki_100000, ki_100001, ki_2147483647, ki_2147483648, kl_0, kl_1, kl_2, kl_9223372036854775808, ki_add, ki_sub, ki_mul, ki_neg, kl_add, kl_sub, kl_mul, kl_neg, ki_i2l, kl_l2i, ki_lt, ki_le, ki_eq, kcmp_eq, kcmp_lt, kcmp_le, kcmp_gt, kcmp_ge, Option.bind_some, Option.map_some, kbool0, kbool1, if_pos, if_neg, if_true, if_false, Int.neg_neg, Int.sub_zero, Int.add_zero, Int.zero_add, true_and, and_true, false_and, and_false, false_or, or_false, true_or, or_true, ne_eq, not_false_eq_true, not_true_eq_false, Int.natCast_add, Int.natCast_one]
    · exact fun j hj => ((rA j (by omega)).at (n1 _ (by omega))).ne (by omega)
  | succ d =>
    simp only [tbL, Option.bind_eq_some_iff] at T
    obtain ⟨a, T1, rs, T2, ts, T3, q, T4, T5⟩ := T
    cases T5
    have hX1 := hX.to k1
    have kB := hX1.r3 hB
    have gB := kB.g (x := (d : Int)) (by omega) (by omega)
    rw [Int.toNat_natCast] at gB
    have ga1 := hX1.f32.g (x := (i : Int)) (by omega) (by omega)
    rw [Int.toNat_natCast] at ga1
    have hB1 := (rB d (by omega)).at (n1 _ (by omega))
    have cp := X1_copy (hX1.f32.f (j := i) (by omega)) (kB.f (j := d) (by omega)) hB1
    generalize frw ν (33 + i) (0, 1) = ν1 at *
    have k2 : kF 33 72 ν (frw ν1 (33 + i) (gz ls d)) := k1.trans (kF_fr (hX1.f32.f (j := i) (by omega)) (by omega) (by omega))
    have s2 : frS (frw ν1 (33 + i) (gz ls d)) (33 + i) (gz ls d) := frS.w hB1.1 hB1.2.1
    have n2 : ∀ x, x ≠ 33 + i → frw ν1 (33 + i) (gz ls d) x = ν x := fun x hx => by rw [frw_ne hx, n1 x hx]
    generalize frw ν1 (33 + i) (gz ls d) = ν2 at *
    have hX2 := hX.to k2
    have kA2 := hX2.r3 hA
    have gA2 := kA2.g (x := (d : Int) + 1) (by omega) (by omega)
    rw [show ((d : Int) + 1).toNat = d + 1 by omega] at gA2
    have ga2 := hX2.f32.g (x := (i : Int)) (by omega) (by omega)
    rw [Int.toNat_natCast] at ga2
    have hA2 := (rA (d + 1) (by omega)).at (n2 _ (by omega))
    have su := X1_subtract (hX2.f32.f (j := i) (by omega)) (kA2.f (j := d + 1) (by omega)) s2 hA2 T1
    have ao := aF_ok T1
    have k3 : kF 33 72 ν (frw ν2 (33 + i) a) := k2.trans (kF_fr (hX2.f32.f (j := i) (by omega)) (by omega) (by omega))
    have s3 : frS (frw ν2 (33 + i) a) (33 + i) a := frS.w ao.1 ao.2
    have n3 : ∀ x, x ≠ 33 + i → frw ν2 (33 + i) a x = ν x := fun x hx => by rw [frw_ne hx, n2 x hx]
    generalize frw ν2 (33 + i) a = ν3 at *
    have hX3 := hX.to k3
    have ga3 := hX3.f32.g (x := (i : Int)) (by omega) (by omega)
    rw [Int.toNat_natCast] at ga3
    obtain ⟨ν4, c4, F4, r4⟩ := X8_leaveRest hX3 hA hB hC AC BC (cnt := d + 1) (by omega) (s := a) (sc := 33 + i) (Hf := gz hs) (Lf := gz ls) (Rf := gz rs) (fun j hj => (rA j (by omega)).at (n3 _ (by omega))) (fun j hj => (rB j (by omega)).at (n3 _ (by omega))) (by omega) (hX3.f32.f (j := i) (by omega)) s3 (lrL_spec (d + 1) (0, 1) ls hs rs T2)
    have hX4 := hX3.to F4.1
    have kC4 := hX4.r3 hC
    have gC4 := kC4.g (x := (d : Int)) (by omega) (by omega)
    rw [Int.toNat_natCast] at gC4
    have gc4 := hX4.f37.g (x := (i : Int)) (by omega) (by omega)
    rw [Int.toNat_natCast] at gc4
    have r4d := r4 d (by omega)
    have cp4 := X1_copy (hX4.f37.f (j := i) (by omega)) (kC4.f (j := d) (by omega)) r4d
    have k5 : kF 33 72 ν (frw ν4 (38 + i) (gz rs d)) := (k3.trans (F4.1.mono (by omega) (by omega))).trans (kF_fr (hX4.f37.f (j := i) (by omega)) (by omega) (by omega))
    have s5 : frS (frw ν4 (38 + i) (gz rs d)) (38 + i) (gz rs d) := frS.w r4d.1 r4d.2.1
    have n5 : ∀ x, x ≠ 33 + i → x ≠ 38 + i → x ≠ 67 → (x ≤ C ∨ C + 5 < x) → frw ν4 (38 + i) (gz rs d) x = ν x := fun x h1 h2 h3 h4 => by rw [frw_ne h2, F4.2 x h3 h4, n3 x h1]
    have s5a : frS (frw ν4 (38 + i) (gz rs d)) (33 + i) a := (s3.at (F4.2 _ (by omega) (by omega))).ne (by omega)
    have r5 : rowR (frw ν4 (38 + i) (gz rs d)) C (d + 1) (gz rs) := fun j hj => (r4 j hj).ne (by omega)
    generalize frw ν4 (38 + i) (gz rs d) = ν5 at *
    have hX5 := hX.to k5
    have gc5 := hX5.f37.g (x := (i : Int)) (by omega) (by omega)
    rw [Int.toNat_natCast] at gc5
    obtain ⟨ν6, c6, F6, r6⟩ := X8_divideAll hX5 hC (cnt := d + 1) (by omega) (sc := 38 + i) (s := gz rs d) (Rf := gz rs) (Tf := gz ts) r5 (by omega) (hX5.f37.f (j := i) (by omega)) s5 (dvL_spec (d + 1) rs ts T3)
    have k6 := k5.trans (F6.1.mono (lo' := 33) (hi' := 72) (by omega) (by omega))
    refine ⟨B, C, A, ν6, ls, ts, q.1, q.2, ?_, hB, hC, hA, BC, fun h => AB h.symm, fun h => AC h.symm, ?_, r6, T4, fun j => rfl, fun j => rfl, s5a.at (F6.2 _ (by omega) (by omega)), fun _ => s5.at (F6.2 _ (by omega) (by omega)), k6, fun x a b c => by rw [F6.2 x (by omega) (by omega), n5 x b c (by omega) (by omega)]⟩
    · rw [Int.natCast_add, Int.natCast_one] at c4 c6
      have t1 : ((N : Int) - i) - 2 = d := by omega
      have t2 : ((N : Int) - i) - 1 = (d : Int) + 1 := by omega
      simp (disch := omega) only [b_X8_rebuild_70, b_X8_rebuild_122, b_X8_rebuild_208, gN, hX.o31_2, ga, krcv fa.1, S, hX1.o31_2, ga1, gB, cp, hX2.o31_2, ga2, gA2, su, hX3.o31_2, ga3, c4, krcv hX.y31, hX4.o31_3, gc4, gC4, cp4, krcv (hX4.f37.f (j := i) (by omega)).1, hX5.o31_3, gc5, c6, t1, t2, ki_0, ki_1, ki_2, ki_3, ki_4, ki_5, ki_6, ki_7, ki_8, ki_9, ki_10, ki_11, ki_12, ki_13, ki_18, ki_20, ki_24, ki_32, ki_36, ki_45, ki_47, ki_48, ki_50, ki_57, ki_60, ki_63, ki_99, ki_100, ki_101, ki_120, ki_255, ki_468, ki_1000, ki_1024, ki_13849, ki_25173, ki_65535, ki_65536, ki_100000, ki_100001, ki_2147483647, ki_2147483648, kl_0, kl_1, kl_2, kl_9223372036854775808, ki_add, ki_sub, ki_mul, ki_neg, kl_add, kl_sub, kl_mul, kl_neg, ki_i2l, kl_l2i, ki_lt, ki_le, ki_eq, kcmp_eq, kcmp_lt, kcmp_le, kcmp_gt, kcmp_ge, Option.bind_some, Option.map_some, kbool0, kbool1, if_pos, if_neg, if_true, if_false, Int.neg_neg, Int.sub_zero, Int.add_zero, Int.zero_add, true_and, and_true, false_and, and_false, false_or, or_false, true_or, or_true, ne_eq, not_false_eq_true, not_true_eq_false, Int.natCast_add, Int.natCast_one]
    · exact fun j hj => (rB j (by omega)).at (by rw [F6.2 _ (by omega) (by omega), n5 _ (by omega) (by omega) (by omega) (by omega)])
def wholes (U : Int → Int) (n : Nat) : List (Int × Int) := (List.range n).map fun (j : Nat) => (U (j : Int), 1)
theorem gz_wholes {U : Int → Int} {n j : Nat} (h : j < n) : gz (wholes U n) j = (U (j : Int), 1) := by
  unfold gz wholes
  simp [List.getD, List.getElem?_map, List.getElem?_range h]
/-- the class's table of the tones -/
theorem X8_rebuild {Y : jY} {μ μ1 : jM} (hX : kX Y μ) {N : Nat} (N1 : 1 ≤ N) (N4 : N ≤ 4) {U W : Int → Int} (c1 : f_X7_rebuild Y 27 10 μ = some μ1) (kf : kF 27 31 μ μ1) (e0 : gi μ1 27 0 = (N : Int)) (t1 : rowK μ1 28 ((N : Int) + 1) U) (t2 : rowK μ1 29 (N : Int) W) (oU : ∀ j : Nat, j < N + 1 → okb (U j)) (oW : ∀ j : Nat, j < N → okb (W j)) {as cs : List (Int × Int)} (T : tbL N (wholes U (N + 1)) (wholes W N) = some (as, cs)) : ∃ ν, f_X8_rebuild Y 31 10 μ = some ν ∧ kF 27 72 μ ν ∧ gi ν 31 1 = (N : Int) ∧ (∀ j, j < N → frS ν (33 + j) (gz as j)) ∧ (∀ j, j + 1 < N → frS ν (38 + j) (gz cs j)) := by
  have hX1 := hX.to kf
  have g0 := hX1.g27_0
  rw [e0] at g0
  have k2 : kF 27 72 μ (jw μ1 31 1 (.int (ki N))) := (kf.mono (by omega) (by omega)).trans (kF_I hX1.i31_1 (by omega) (by omega))
  have hX2 := hX.to k2
  have e2 : gi (jw μ1 31 1 (.int (ki N))) 31 1 = (N : Int) := gi_is (j := 1) (jw_same _ _ _ _) (by omega) (by omega)
  have n2 : ∀ x, x ≠ 31 → jw μ1 31 1 (.int (ki N)) x = μ1 x := fun x hx => jw_cell hx
  have p2 := hX1.p31 (μ2 := μ1) (k := 1) (v := .int (ki N))
  have g2 := hX2.g31_1
  rw [e2] at g2
  generalize jw μ1 31 1 (.int (ki N)) = μ2 at *
  obtain ⟨μ3, c3, F3, r3⟩ := X8_setWhole hX2 (C := 49) (Or.inl rfl) (cnt := N + 1) (by omega) (by omega) hX2.a28 (by omega) (U := U) (by rw [Int.natCast_add, Int.natCast_one]; exact t1.cell (n2 28 (by omega))) oU
  have hX3 := hX2.to F3.1
  have g3 := hX3.g31_1
  rw [F3.1.gi (by omega), e2] at g3
  obtain ⟨μ4, c4, F4, r4⟩ := X8_setWhole hX3 (C := 55) (Or.inr (Or.inl rfl)) (cnt := N) (by omega) (by omega) hX3.a29 (by omega) (U := W) (t2.cell (by rw [F3.2 29 (by omega) (by omega), n2 29 (by omega)])) oW
  have k4 := (k2.trans (F3.1.mono (lo' := 27) (hi' := 72) (by omega) (by omega))).trans (F4.1.mono (lo' := 27) (hi' := 72) (by omega) (by omega))
  have e4 : gi μ4 31 1 = (N : Int) := by rw [F4.1.gi (by omega), F3.1.gi (by omega), e2]
  have E : f_X8_rebuild Y 31 10 μ = jit jF (fun (s : Nat × Nat × Nat × Int32 × jM) => b_X8_rebuild_70 Y 31 s.1 s.2.1 s.2.2.1 s.2.2.2.1 s.2.2.2.2) (49, 55, 61, (0 : Int32), μ4) := by
    rw [Int.natCast_add, Int.natCast_one] at c3
    simp (disch := omega) only [f_X8_rebuild, hX.o31_0, krcv hX.y27, c1, hX1.o31_0, g0, p2, hX2.o31_6, hX2.o31_7, hX2.o31_8, hX2.o31_0, hX2.o27_1, g2, c3, hX3.o31_0, hX3.o27_2, g3, c4, ki_0, ki_1, ki_2, ki_3, ki_4, ki_5, ki_6, ki_7, ki_8, ki_9, ki_10, ki_11, ki_12, ki_13, ki_18, ki_20, ki_24, ki_32, ki_36, ki_45, ki_47, ki_48, ki_50, ki_57, ki_60, ki_63, ki_99, ki_100, ki_101, ki_120, ki_255, ki_468, ki_1000, ki_1024, ki_13849, ki_25173, ki_65535, ki_65536, ki_100000, ki_100001, ki_2147483647, ki_2147483648, kl_0, kl_1, kl_2, kl_9223372036854775808, ki_add, ki_sub, ki_mul, ki_neg, kl_add, kl_sub, kl_mul, kl_neg, ki_i2l, kl_l2i, ki_lt, ki_le, ki_eq, kcmp_eq, kcmp_lt, kcmp_le, kcmp_gt, kcmp_ge, Option.bind_some, Option.map_some, kbool0, kbool1, if_pos, if_neg, if_true, if_false, Int.neg_neg, Int.sub_zero, Int.add_zero, Int.zero_add, true_and, and_true, false_and, and_false, false_or, or_false, true_or, or_true, ne_eq, not_false_eq_true, not_true_eq_false]
  rw [E]
  refine jit_inv (f := fun (s : Nat × Nat × Nat × Int32 × jM) => b_X8_rebuild_70 Y 31 s.1 s.2.1 s.2.2.1 s.2.2.2.1 s.2.2.2.2) (fun i z => z.2.2.2.1 = ki i ∧ isR3 z.1 ∧ isR3 z.2.1 ∧ isR3 z.2.2.1 ∧ z.1 ≠ z.2.1 ∧ z.1 ≠ z.2.2.1 ∧ z.2.1 ≠ z.2.2.1 ∧ kF 27 72 μ z.2.2.2.2 ∧ gi z.2.2.2.2 31 1 = (N : Int) ∧ (∀ j, j < i → frS z.2.2.2.2 (33 + j) (gz as j)) ∧ (∀ j, j < i → j + 1 < N → frS z.2.2.2.2 (38 + j) (gz cs j)) ∧ ∃ hs ls qa qc, rowR z.2.2.2.2 z.1 (N - i + 1) (gz hs) ∧ rowR z.2.2.2.2 z.2.1 (N - i) (gz ls) ∧ tbL (N - i) hs ls = some (qa, qc) ∧ (∀ j, gz as (i + j) = gz qa j) ∧ (∀ j, gz cs (i + j) = gz qc j)) _ N (s := (49, 55, 61, (0 : Int32), μ4)) ⟨rfl, Or.inl rfl, Or.inr (Or.inl rfl), Or.inr (Or.inr rfl), by show (49 : Nat) ≠ 55; decide, by show (49 : Nat) ≠ 61; decide, by show (55 : Nat) ≠ 61; decide, k4, e4, fun j hj => by omega, fun j hj => by omega, _, _, as, cs, ?_, ?_, T, fun j => by rw [Nat.zero_add], fun j => by rw [Nat.zero_add]⟩ (by omega) (fun i z hi hz => ?_)
  · intro j hj
    have := (r3 j (by omega)).at (F4.2 (49 + 1 + j) (by omega) (by omega))
    rw [gz_wholes (by omega)]
    exact this
  · intro j hj
    rw [gz_wholes (by omega)]
    exact r4 j (by omega)
  · obtain ⟨A, B, C, v, ν⟩ := z
    obtain ⟨rfl, hA, hB, hC, AB, AC, BC, z1, z2, z3, z4, hs, ls, qa, qc, z5, z6, z7, z8, z9⟩ := hz
    simp only [] at hA hB hC AB AC BC z1 z2 z3 z4 z5 z6 z7 z8 z9
    by_cases e : i = N
    · subst e
      have gN := (hX.to z1).g31_1
      rw [z2] at gN
      refine ⟨.inr ν, ?_, z1, z2, z3, fun j hj => z4 j (by omega) hj⟩
      simp (disch := omega) only [b_X8_rebuild_70, gN, ki_0, ki_1, ki_2, ki_3, ki_4, ki_5, ki_6, ki_7, ki_8, ki_9, ki_10, ki_11, ki_12, ki_13, ki_18, ki_20, ki_24, ki_32, ki_36, ki_45, ki_47, ki_48, ki_50, ki_57, ki_60, ki_63, ki_99, ki_100, ki_101, ki_120, ki_255, ki_468, ki_1000, ki_1024, ki_13849, ki_25173, ki_65535, ki_65536, ki_100000, ki_100001, ki_2147483647, ki_2147483648, kl_0, kl_1, kl_2, kl_9223372036854775808, ki_add, ki_sub, ki_mul, ki_neg, kl_add, kl_sub, kl_mul, kl_neg, ki_i2l, kl_l2i, ki_lt, ki_le, ki_eq, kcmp_eq, kcmp_lt, kcmp_le, kcmp_gt, kcmp_ge, Option.bind_some, Option.map_some, kbool0, kbool1, if_pos, if_neg, if_true, if_false, Int.neg_neg, Int.sub_zero, Int.add_zero, Int.zero_add, true_and, and_true, false_and, and_false, false_or, or_false, true_or, or_true, ne_eq, not_false_eq_true, not_true_eq_false]
    · obtain ⟨d, hd⟩ : ∃ d, N - i = d + 1 := ⟨N - i - 1, by omega⟩
      rw [hd] at z5 z6 z7
      obtain ⟨A', B', C', ν', hs', ls', qa', qc', s1, s2, s3, s4, s5, s6, s7, s8, s9, s10, s11, s12, s13, s14, s15, s16⟩ := X8_rstep (i := i) (d := d) (hX.to z1) z2 N4 (by omega) hA hB hC AB AC BC z5 z6 z7
      refine ⟨_, s1, by omega, rfl, s2, s3, s4, s5, s6, s7, z1.trans (s15.mono (by omega) (by omega)), ?_, fun j hj => ?_, fun j hj hj2 => ?_, hs', ls', qa', qc', ?_, ?_, ?_, fun j => ?_, fun j => ?_⟩
      · show gi ν' 31 1 = (N : Int)
        rw [s15.gi (by omega), z2]
      · show frS ν' (33 + j) (gz as j)
        by_cases ij : j = i
        · have := z8 0
          rw [Nat.add_zero] at this
          rw [ij, this]
          exact s13
        · exact (z3 j (by omega)).at (s16 _ (by omega) (by omega) (by omega))
      · show frS ν' (38 + j) (gz cs j)
        by_cases ij : j = i
        · have := z9 0
          rw [Nat.add_zero] at this
          rw [ij, this]
          exact s14 (by omega)
        · exact (z4 j (by omega) hj2).at (s16 _ (by omega) (by omega) (by omega))
      · rw [show N - (i + 1) + 1 = d + 1 by omega]
        exact s8
      · rw [show N - (i + 1) = d by omega]
        exact s9
      · rw [show N - (i + 1) = d by omega]
        exact s10
      · rw [show i + 1 + j = i + (j + 1) by omega, z8, s11]
      · rw [show i + 1 + j = i + (j + 1) by omega, z9, s12]
