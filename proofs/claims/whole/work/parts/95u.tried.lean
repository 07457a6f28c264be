/-! ALL TABLES: the reference tries one after the other -/
def frY (μ ν : jM) : Prop := kF 95 96 μ ν ∧ ∀ j, (j < 42 ∨ 46 < j) → ν 95 j = μ 95 j
theorem frY.refl {μ : jM} : frY μ μ := ⟨kF.refl, fun _ _ => rfl⟩
theorem frY.trans {μ ν ω : jM} (h : frY μ ν) (k : frY ν ω) : frY μ ω := ⟨h.1.trans k.1, fun j a => by rw [k.2 j a, h.2 j a]⟩
theorem frY.kP {μ ν : jM} (h : frY μ ν) : kP μ ν := ⟨h.1.mono (by omega) (by omega), fun i hi => h.1.1 i (by unfold pers at hi; omega), h.2 1 (by omega), h.2 10 (by omega), h.2 25 (by omega)⟩
theorem frY.n {μ ν : jM} (h : frY μ ν) : gi ν 95 10 = gi μ 95 10 := by
  unfold gi
  rw [show (10 : Int).toNat = 10 from rfl, h.2 10 (by omega)]
theorem frY.w {Y : jY} {μ : jM} (hM : kM Y μ) {k : Nat} (h1 : 42 ≤ k) (h2 : k ≤ 46) (v : Int) : frY μ (jw μ 95 k (.int (ki v))) := by
  have i : isI μ 95 k := by
    have : k = 42 ∨ k = 43 ∨ k = 44 ∨ k = 45 ∨ k = 46 := by omega
    rcases this with rfl | rfl | rfl | rfl | rfl
    · exact hM.i42
    · exact hM.i43
    · exact hM.i44
    · exact hM.i45
    · exact hM.i46
  exact ⟨kF_I i (by omega) (by omega), fun j hj => by rw [jw_ne _ _ (by omega)]⟩
theorem gj {μ : jM} {k : Nat} {v : Int} (x : Int) (h1 : -2147483648 ≤ v) (h2 : v ≤ 2147483647) : gi (jw μ 95 k (.int (ki v))) 95 x = if x.toNat = k then v else gi μ 95 x := by
  rw [gi_jw 95 x h1 h2]
  by_cases e : x.toNat = k
  · rw [if_pos ⟨rfl, e⟩, if_pos e]
  · rw [if_neg (fun q => e q.2), if_neg e]
/-- what has been tried: the codes below c -/
def tr3 (μ : jM) (c : Int) : Prop := (c = 0 ∧ gi μ 95 42 = -6 ∧ gi μ 95 43 = -6 ∧ gi μ 95 45 = 0) ∨ (1 ≤ c ∧ gi μ 95 42 = (c - 1) / 468 - 6 ∧ gi μ 95 43 = (c - 1) / 36 % 13 - 6 ∧ gi μ 95 45 = (c - 1) % 36 + 1)
theorem X12_steps {Y : jY} {μ : jM} (hM : kM Y μ) {c : Int} (c0 : 0 ≤ c) (c1 : c ≤ 6084) (h : tr3 μ c) : ∃ ν, f_X12_steps Y 95 μ = some ν ∧ frY μ ν ∧ gi ν 95 42 = c / 468 - 6 ∧ gi ν 95 43 = c / 36 % 13 - 6 ∧ gi ν 95 45 = c % 36 + 1 := by
  have g42 := kM.g42 hM
  have g43 := kM.g43 hM
  have g45 := kM.g45 hM
  obtain ⟨x, hx⟩ : ∃ x, x = gi μ 95 42 := ⟨_, rfl⟩
  obtain ⟨y, hy⟩ : ∃ y, y = gi μ 95 43 := ⟨_, rfl⟩
  obtain ⟨z, hz⟩ : ∃ z, z = gi μ 95 45 := ⟨_, rfl⟩
  unfold tr3 at h
  rw [← hx, ← hy, ← hz] at h
  have bz : 0 ≤ z ∧ z ≤ 36 := by omega
  have by_ : -6 ≤ y ∧ y ≤ 6 := by omega
  have bx : -6 ≤ x ∧ x ≤ 6 := by omega
  have F1 := frY.w (Y := Y) hM (k := 45) (by omega) (by omega) (z + 1)
  have v1 := fun a => gj (μ := μ) (k := 45) (v := z + 1) a (by omega) (by omega)
  generalize hμ1 : jw μ 95 45 (.int (ki (z + 1))) = μ1 at *
  have hM1 := hM.to F1.1
  have g45' := kM.g45 hM1
  rw [show gi μ1 95 45 = z + 1 from by rw [v1]; rfl] at g45'
  have g43' := kM.g43 hM1
  have e43 : gi μ1 95 43 = y := by rw [v1, hy]; rfl
  have e42 : gi μ1 95 42 = x := by rw [v1, hx]; rfl
  have e45 : gi μ1 95 45 = z + 1 := by rw [v1]; rfl
  rw [← hz] at g45
  by_cases h36 : z + 1 ≤ 36
  · refine ⟨μ1, ?_, F1, by rw [e42]; omega, by rw [e43]; omega, by rw [e45]; omega⟩
    simp (disch := omega) only [f_X12_steps, g45, kM.p hM, hμ1, g45', ki_0, ki_1, ki_2, ki_3, ki_4, ki_5, ki_6, ki_7, ki_8, ki_9, ki_10, ki_11, ki_12, ki_13, ki_18, ki_20, ki_24, ki_32, ki_36, ki_45, ki_47, ki_48, ki_50, ki_57, ki_60, ki_63, ki_99, ki_100, ki_101, ki_120, ki_255, ki_468, ki_1000, ki_1024, ki_13849, ki_25173, ki_65535, ki_65536, ki_100000, ki_100001, ki_2147483647, ki_2147483648, kl_0, kl_1, kl_2, kl_9223372036854775808, ki_add, ki_sub, ki_mul, ki_neg, kl_add, kl_sub, kl_mul, kl_neg, ki_i2l, kl_l2i, ki_lt, ki_le, ki_eq, kcmp_eq, kcmp_lt, kcmp_le, kcmp_gt, kcmp_ge, Option.bind_some, Option.map_some, kbool0, kbool1, if_pos, if_neg, if_true, if_false, Int.neg_neg, Int.sub_zero, Int.add_zero, Int.zero_add, true_and, and_true, false_and, and_false, false_or, or_false, true_or, or_true, ne_eq, not_false_eq_true, not_true_eq_false]
  · have F2 := frY.w (Y := Y) hM1 (k := 45) (by omega) (by omega) 1
    have v2 := fun a => gj (μ := μ1) (k := 45) (v := 1) a (by omega) (by omega)
    generalize hμ2 : jw μ1 95 45 (.int (ki 1)) = μ2 at *
    have hM2 := hM1.to F2.1
    have g43a := kM.g43 hM2
    rw [show gi μ2 95 43 = y from by rw [v2]; exact e43] at g43a
    have F3 := frY.w (Y := Y) hM2 (k := 43) (by omega) (by omega) (y + 1)
    have v3 := fun a => gj (μ := μ2) (k := 43) (v := y + 1) a (by omega) (by omega)
    generalize hμ3 : jw μ2 95 43 (.int (ki (y + 1))) = μ3 at *
    have hM3 := hM2.to F3.1
    have f43 : gi μ3 95 43 = y + 1 := by rw [v3]; rfl
    have f42 : gi μ3 95 42 = x := by rw [v3]; exact (v2 42).trans e42
    have f45 : gi μ3 95 45 = 1 := by rw [v3]; exact v2 45
    have g43b := kM.g43 hM3
    rw [show gi μ3 95 43 = y + 1 from f43] at g43b
    have F03 := (F1.trans F2).trans F3
    by_cases h6 : y + 1 ≤ 6
    · refine ⟨μ3, ?_, F03, by rw [f42]; omega, by rw [f43]; omega, by rw [f45]; omega⟩
      simp (disch := omega) only [f_X12_steps, g45, kM.p hM, hμ1, g45', hμ2, g43a, hμ3, g43b, ki_0, ki_1, ki_2, ki_3, ki_4, ki_5, ki_6, ki_7, ki_8, ki_9, ki_10, ki_11, ki_12, ki_13, ki_18, ki_20, ki_24, ki_32, ki_36, ki_45, ki_47, ki_48, ki_50, ki_57, ki_60, ki_63, ki_99, ki_100, ki_101, ki_120, ki_255, ki_468, ki_1000, ki_1024, ki_13849, ki_25173, ki_65535, ki_65536, ki_100000, ki_100001, ki_2147483647, ki_2147483648, kl_0, kl_1, kl_2, kl_9223372036854775808, ki_add, ki_sub, ki_mul, ki_neg, kl_add, kl_sub, kl_mul, kl_neg, ki_i2l, kl_l2i, ki_lt, ki_le, ki_eq, kcmp_eq, kcmp_lt, kcmp_le, kcmp_gt, kcmp_ge, Option.bind_some, Option.map_some, kbool0, kbool1, if_pos, if_neg, if_true, if_false, Int.neg_neg, Int.sub_zero, Int.add_zero, Int.zero_add, true_and, and_true, false_and, and_false, false_or, or_false, true_or, or_true, ne_eq, not_false_eq_true, not_true_eq_false]
    · have F4 := frY.w (Y := Y) hM3 (k := 43) (by omega) (by omega) (-6)
      have v4 := fun a => gj (μ := μ3) (k := 43) (v := -6) a (by omega) (by omega)
      generalize hμ4 : jw μ3 95 43 (.int (ki (-6))) = μ4 at *
      have hM4 := hM3.to F4.1
      have g42a := kM.g42 hM4
      rw [show gi μ4 95 42 = x from by rw [v4]; exact f42] at g42a
      have F5 := frY.w (Y := Y) hM4 (k := 42) (by omega) (by omega) (x + 1)
      have v5 := fun a => gj (μ := μ4) (k := 42) (v := x + 1) a (by omega) (by omega)
      generalize hμ5 : jw μ4 95 42 (.int (ki (x + 1))) = μ5 at *
      have k43 : gi μ5 95 43 = -6 := by rw [v5]; exact v4 43
      have k42 : gi μ5 95 42 = x + 1 := by rw [v5]; rfl
      have k45 : gi μ5 95 45 = 1 := by rw [v5]; exact (v4 45).trans f45
      refine ⟨μ5, ?_, (F03.trans F4).trans F5, by rw [k42]; omega, by rw [k43]; omega, by rw [k45]; omega⟩
      simp (disch := omega) only [f_X12_steps, g45, kM.p hM, hμ1, g45', hμ2, g43a, hμ3, g43b, hμ4, g42a, hμ5, ki_0, ki_1, ki_2, ki_3, ki_4, ki_5, ki_6, ki_7, ki_8, ki_9, ki_10, ki_11, ki_12, ki_13, ki_18, ki_20, ki_24, ki_32, ki_36, ki_45, ki_47, ki_48, ki_50, ki_57, ki_60, ki_63, ki_99, ki_100, ki_101, ki_120, ki_255, ki_468, ki_1000, ki_1024, ki_13849, ki_25173, ki_65535, ki_65536, ki_100000, ki_100001, ki_2147483647, ki_2147483648, kl_0, kl_1, kl_2, kl_9223372036854775808, ki_add, ki_sub, ki_mul, ki_neg, kl_add, kl_sub, kl_mul, kl_neg, ki_i2l, kl_l2i, ki_lt, ki_le, ki_eq, kcmp_eq, kcmp_lt, kcmp_le, kcmp_gt, kcmp_ge, Option.bind_some, Option.map_some, kbool0, kbool1, if_pos, if_neg, if_true, if_false, Int.neg_neg, Int.sub_zero, Int.add_zero, Int.zero_add, true_and, and_true, false_and, and_false, false_or, or_false, true_or, or_true, ne_eq, not_false_eq_true, not_true_eq_false]
theorem l2i_neg {a : Int} : (-(kl a)).toInt32 = ki (-a) := by
  rw [kl_neg, kl_l2i]
/-- the third of three: the last numbers, looked at -/
theorem X12_isTable {Y : jY} {μ : jM} (hM : kM Y μ) {U : Int → Int} (hU : rowK μ 101 (((3 : Nat) : Int) + 1) U) (bU : ∀ j : Nat, j ≤ 3 → (U j).natAbs ≤ 1000000) {c : Int} (c0 : 0 ≤ c) (c1 : c < 6084) (e42 : gi μ 95 42 = c / 468 - 6) (e43 : gi μ 95 43 = c / 36 % 13 - 6) (e45 : gi μ 95 45 = c % 36 + 1) : ∃ (r : Int) (ν : jM), f_X12_isTable Y 95 μ = some (ki r, ν) ∧ frY μ ν ∧ (∀ x : Int, x.toNat ≠ 44 → x.toNat ≠ 46 → gi ν 95 x = gi μ 95 x) ∧ ((r = 0 ∧ ¬ mk 3 U c) ∨ (r = 1 ∧ mk 3 U c ∧ gi ν 95 44 = mkA 3 U c 2 ∧ gi ν 95 46 = mkC 3 U c 1)) := by
  obtain ⟨x, hx⟩ : ∃ x, x = c / 468 - 6 := ⟨_, rfl⟩
  obtain ⟨y, hy⟩ : ∃ y, y = c / 36 % 13 - 6 := ⟨_, rfl⟩
  obtain ⟨z, hz⟩ : ∃ z, z = c % 36 + 1 := ⟨_, rfl⟩
  have bx : -6 ≤ x ∧ x ≤ 6 := by omega
  have by_ : -6 ≤ y ∧ y ≤ 6 := by omega
  have bz : 1 ≤ z ∧ z ≤ 36 := by omega
  have b0 : (U 0).natAbs ≤ 1000000 := bU 0 (by omega)
  have b1 : (U 1).natAbs ≤ 1000000 := bU 1 (by omega)
  have b2 : (U 2).natAbs ≤ 1000000 := bU 2 (by omega)
  have L : laA 3 U (cdA 3 c) = -(U 2) - x - y := by
    show -(U 2) - (0 + cdA 3 c 0 + cdA 3 c 1) = _
    rw [show cdA 3 c 0 = x from hx.symm, show cdA 3 c 1 = y from hy.symm]
    omega
  obtain ⟨w, hw⟩ : ∃ w, w = -(U 2) - x - y := ⟨_, rfl⟩
  rw [← hw] at L
  have A0 : roA 3 U (cdA 3 c) 0 = x := by
    show cdA 3 c 0 = x
    exact hx.symm
  have A1 : roA 3 U (cdA 3 c) 1 = y := by
    show cdA 3 c 1 = y
    exact hy.symm
  have A2 : roA 3 U (cdA 3 c) 2 = w := by
    show laA 3 U (cdA 3 c) = w
    exact L
  have P : pA (roA 3 U (cdA 3 c)) 3 = x * y + x * w + y * w := by
    show 0 + 0 + (0 + roA 3 U (cdA 3 c) 1 * roA 3 U (cdA 3 c) 0) + (0 + roA 3 U (cdA 3 c) 2 * roA 3 U (cdA 3 c) 0 + roA 3 U (cdA 3 c) 2 * roA 3 U (cdA 3 c) 1) = _
    rw [A0, A1, A2]
    grind
  have M : laC 3 U (cdA 3 c) (cdC c) = x * y + x * w + y * w - z - U 1 := by
    show -(U 1) + pA (roA 3 U (cdA 3 c)) 3 - (0 + cdC c 0) = _
    rw [P, show cdC c 0 = z from hz.symm]
    omega
  obtain ⟨v, hv⟩ : ∃ v, v = x * y + x * w + y * w - z - U 1 := ⟨_, rfl⟩
  rw [← hv] at M
  have C0 : roC 3 U (cdA 3 c) (cdC c) 0 = z := by
    show cdC c 0 = z
    exact hz.symm
  have C1 : roC 3 U (cdA 3 c) (cdC c) 1 = v := by
    show laC 3 U (cdA 3 c) (cdC c) = v
    exact M
  have V : (pv (roA 3 U (cdA 3 c)) (roC 3 U (cdA 3 c) (cdC c)) 0 1 0 3).2 = -(x * y * w - z * w - v * x) := by
    show (0 - 1 * roA 3 U (cdA 3 c) 2) * ((0 - 1 * roA 3 U (cdA 3 c) 1) * ((0 - 1 * roA 3 U (cdA 3 c) 0) * 1 - 1 * 1 * roC 3 U (cdA 3 c) (cdC c) (0 + ((0 : Nat) : Int) - 1) * 0) - 1 * 1 * roC 3 U (cdA 3 c) (cdC c) 0 * 1) - 1 * 1 * roC 3 U (cdA 3 c) (cdC c) 1 * ((0 - 1 * roA 3 U (cdA 3 c) 0) * 1 - 1 * 1 * roC 3 U (cdA 3 c) (cdC c) (0 + ((0 : Nat) : Int) - 1) * 0) = _
    rw [A0, A1, A2, C0, C1, Int.mul_zero]
    grind
  have I : mk 3 U c ↔ (-6 ≤ w ∧ w ≤ 6) ∧ (1 ≤ v ∧ v ≤ 36) ∧ x * y * w - z * w - v * x = -(U 0) := by
    unfold mk mkP
    rw [L, M, V]
    constructor
    · rintro ⟨h1, h2, h3⟩
      exact ⟨h1, h2 (by omega), by omega⟩
    · rintro ⟨h1, h2, h3⟩
      exact ⟨h1, fun _ => h2, by omega⟩
  have m1 : mkA 3 U c 2 = w := A2
  have m2 : mkC 3 U c 1 = v := C1
  rw [I, m1, m2]
  clear I m1 m2 V C0 C1 M P A0 A1 A2 L
  rw [← hx] at e42
  rw [← hy] at e43
  rw [← hz] at e45
  clear hx hy hz
  have bw : -3000000 ≤ w ∧ w ≤ 3000000 := by omega
  have p1 := mulB (a := x) (b := y) (A := 6) (B := 6) (by omega) (by omega) (by omega) (by omega)
  have p2 := mulB (a := x) (b := w) (A := 6) (B := 3000000) (by omega) (by omega) (by omega) (by omega)
  have p3 := mulB (a := y) (b := w) (A := 6) (B := 3000000) (by omega) (by omega) (by omega) (by omega)
  have bv : -100000000 ≤ v ∧ v ≤ 100000000 := by rw [hv]; omega
  have g42 := kM.g42 hM
  have g43 := kM.g43 hM
  rw [e42] at g42
  rw [e43] at g43
  have u2 := kaLv (kM.a101 hM) (x := 2) (by omega) (by omega) (hU 2 (by omega) (by omega))
  have F1 := frY.w (Y := Y) hM (k := 44) (by omega) (by omega) w
  have v1 := fun a => gj (μ := μ) (k := 44) (v := w) a (by omega) (by omega)
  have hk1 : kF 95 96 μ (jw μ 95 44 (.int (ki w))) := F1.1
  generalize hμ1 : jw μ 95 44 (.int (ki w)) = μ1 at *
  have hM1 := hM.to F1.1
  have i42 := kM.g42 hM1
  have i43 := kM.g43 hM1
  have i44 := kM.g44 hM1
  have i45 := kM.g45 hM1
  rw [show gi μ1 95 42 = x from by rw [v1]; exact e42] at i42
  rw [show gi μ1 95 43 = y from by rw [v1]; exact e43] at i43
  rw [show gi μ1 95 44 = w from by rw [v1]; rfl] at i44
  rw [show gi μ1 95 45 = z from by rw [v1]; exact e45] at i45
  have u1 := kaLv (kM.a101 hM1) (x := 1) (by omega) (by omega) ((hU.to F1.1 (by omega)) 1 (by omega) (by omega))
  have F2 := frY.w (Y := Y) hM1 (k := 46) (by omega) (by omega) v
  have v2 := fun a => gj (μ := μ1) (k := 46) (v := v) a (by omega) (by omega)
  generalize hμ2 : jw μ1 95 46 (.int (ki v)) = μ2 at *
  have hM2 := hM1.to F2.1
  have j42 := kM.g42 hM2
  have j43 := kM.g43 hM2
  have j44 := kM.g44 hM2
  have j45 := kM.g45 hM2
  have j46 := kM.g46 hM2
  have k44 : gi μ2 95 44 = w := by rw [v2]; exact (v1 44).trans rfl
  have k46 : gi μ2 95 46 = v := by rw [v2]; rfl
  rw [show gi μ2 95 42 = x from by rw [v2]; exact (v1 42).trans e42] at j42
  rw [show gi μ2 95 43 = y from by rw [v2]; exact (v1 43).trans e43] at j43
  rw [show gi μ2 95 44 = w from k44] at j44
  rw [show gi μ2 95 45 = z from by rw [v2]; exact (v1 45).trans e45] at j45
  rw [show gi μ2 95 46 = v from k46] at j46
  have u0 := kaLv (kM.a101 hM2) (x := 0) (by omega) (by omega) ((hU.to (F1.1.trans F2.1) (by omega)) 0 (by omega) (by omega))
  have fr : ∀ a : Int, a.toNat ≠ 44 → a.toNat ≠ 46 → gi μ2 95 a = gi μ 95 a := fun a h1 h2 => by rw [v2, if_neg h2, v1, if_neg h1]
  have head : f_X12_isTable Y 95 μ = (f_X12_in Y (ki w) (ki (-6)) (ki 6) μ2).bind fun r17 => if r17.1 = ki 0 then b_X12_isTable_145 Y r17.2 else (jgI Y r17.2 95 12 46).bind fun x18 => (f_X12_in Y x18 (ki 1) (ki 36) r17.2).bind fun r19 => if r19.1 = ki 0 then b_X12_isTable_145 Y r19.2 else (jgI Y r19.2 95 12 42).bind fun x20 => (jgI Y r19.2 95 12 43).bind fun x21 => (jgI Y r19.2 95 12 44).bind fun x22 => (jgI Y r19.2 95 12 45).bind fun x23 => (jgI Y r19.2 95 12 44).bind fun x24 => (jgI Y r19.2 95 12 46).bind fun x25 => (jgI Y r19.2 95 12 42).bind fun x26 => (jgO Y r19.2 95 12 13).bind fun x27 => (jaL Y r19.2 x27 21 (ki 0)).bind fun x28 => if lg_cmp ((x20 * x21 * x22 - x23 * x24 - x25 * x26).toInt64) (-x28) = ki 0 then b_X12_isTable_146 Y (ki 1) r19.2 else b_X12_isTable_145 Y r19.2 := by
    have w1 : ki (-(U 2)) - ki x - ki y = ki w := by rw [ki_sub, ki_sub, hw]
    have w2 : ki x * ki y + ki x * ki w + ki y * ki w - ki z - ki (U 1) = ki v := by rw [ki_mul, ki_mul, ki_mul, ki_add, ki_add, ki_sub, ki_sub, hv]
    simp only [f_X12_isTable, kM.o13 hM, ki_2, u2, Option.bind_some, g42, g43, l2i_neg, w1, kM.p hM, hμ1, i42, i43, i44, i45, kM.o13 hM1, ki_1, u1, kl_l2i, w2, hμ2, j44, ki_neg, ki_6, ki_36, ki_0]
    rfl
  rw [head]
  by_cases h1 : -6 ≤ w ∧ w ≤ 6
  · by_cases h2 : 1 ≤ v ∧ v ≤ 36
    · have q1 := mulB (a := x * y) (b := w) (A := 36) (B := 6) (by omega) (by omega) (by omega) (by omega)
      have q2 := mulB (a := z) (b := w) (A := 36) (B := 6) (by omega) (by omega) (by omega) (by omega)
      have q3 := mulB (a := v) (b := x) (A := 36) (B := 6) (by omega) (by omega) (by omega) (by omega)
      obtain ⟨T, hT⟩ : ∃ T, T = x * y * w - z * w - v * x := ⟨_, rfl⟩
      have e64 : (ki (x * y * w - z * w - v * x)).toInt64 = kl T := by rw [hT]; exact ki_i2l (by omega) (by omega)
      have wT : ki x * ki y * ki w - ki z * ki w - ki v * ki x = ki T := by rw [ki_mul, ki_mul, ki_mul, ki_mul, ki_sub, ki_sub, hT]
      have bT : -100000 ≤ T ∧ T ≤ 100000 := by omega
      rw [← hT]
      by_cases e : T = -(U 0)
      · refine ⟨1, μ2, ?_, F1.trans F2, fr, Or.inr ⟨rfl, ⟨h1, h2, e⟩, k44, k46⟩⟩
        clear hT p1 p2 p3 q1 q2 q3 hv
        generalize U 0 = a0 at *
        simp (disch := omega) only [X12_in, b_X12_isTable_146, j46, j42, j43, j44, j45, kM.o13 hM2, u0, wT, e64, ki_0, ki_1, ki_2, ki_3, ki_4, ki_5, ki_6, ki_7, ki_8, ki_9, ki_10, ki_11, ki_12, ki_13, ki_18, ki_20, ki_24, ki_32, ki_36, ki_45, ki_47, ki_48, ki_50, ki_57, ki_60, ki_63, ki_99, ki_100, ki_101, ki_120, ki_255, ki_468, ki_1000, ki_1024, ki_13849, ki_25173, ki_65535, ki_65536, ki_100000, ki_100001, ki_2147483647, ki_2147483648, kl_0, kl_1, kl_2, kl_9223372036854775808, ki_add, ki_sub, ki_mul, ki_neg, kl_add, kl_sub, kl_mul, kl_neg, ki_i2l, kl_l2i, ki_lt, ki_le, ki_eq, kcmp_eq, kcmp_lt, kcmp_le, kcmp_gt, kcmp_ge, Option.bind_some, Option.map_some, kbool0, kbool1, if_pos, if_neg, if_true, if_false, Int.neg_neg, Int.sub_zero, Int.add_zero, Int.zero_add, true_and, and_true, false_and, and_false, false_or, or_false, true_or, or_true, ne_eq, not_false_eq_true, not_true_eq_false]
      · refine ⟨0, μ2, ?_, F1.trans F2, fr, Or.inl ⟨rfl, fun q => e q.2.2⟩⟩
        clear hT p1 p2 p3 q1 q2 q3 hv
        generalize U 0 = a0 at *
        simp (disch := omega) only [X12_in, b_X12_isTable_145, b_X12_isTable_146, j46, j42, j43, j44, j45, kM.o13 hM2, u0, wT, e64, ki_0, ki_1, ki_2, ki_3, ki_4, ki_5, ki_6, ki_7, ki_8, ki_9, ki_10, ki_11, ki_12, ki_13, ki_18, ki_20, ki_24, ki_32, ki_36, ki_45, ki_47, ki_48, ki_50, ki_57, ki_60, ki_63, ki_99, ki_100, ki_101, ki_120, ki_255, ki_468, ki_1000, ki_1024, ki_13849, ki_25173, ki_65535, ki_65536, ki_100000, ki_100001, ki_2147483647, ki_2147483648, kl_0, kl_1, kl_2, kl_9223372036854775808, ki_add, ki_sub, ki_mul, ki_neg, kl_add, kl_sub, kl_mul, kl_neg, ki_i2l, kl_l2i, ki_lt, ki_le, ki_eq, kcmp_eq, kcmp_lt, kcmp_le, kcmp_gt, kcmp_ge, Option.bind_some, Option.map_some, kbool0, kbool1, if_pos, if_neg, if_true, if_false, Int.neg_neg, Int.sub_zero, Int.add_zero, Int.zero_add, true_and, and_true, false_and, and_false, false_or, or_false, true_or, or_true, ne_eq, not_false_eq_true, not_true_eq_false]
    · refine ⟨0, μ2, ?_, F1.trans F2, fr, Or.inl ⟨rfl, fun q => h2 q.2.1⟩⟩
      clear p1 p2 p3 hv
      simp (disch := omega) only [X12_in, b_X12_isTable_145, b_X12_isTable_146, j46, ki_0, ki_1, ki_2, ki_3, ki_4, ki_5, ki_6, ki_7, ki_8, ki_9, ki_10, ki_11, ki_12, ki_13, ki_18, ki_20, ki_24, ki_32, ki_36, ki_45, ki_47, ki_48, ki_50, ki_57, ki_60, ki_63, ki_99, ki_100, ki_101, ki_120, ki_255, ki_468, ki_1000, ki_1024, ki_13849, ki_25173, ki_65535, ki_65536, ki_100000, ki_100001, ki_2147483647, ki_2147483648, kl_0, kl_1, kl_2, kl_9223372036854775808, ki_add, ki_sub, ki_mul, ki_neg, kl_add, kl_sub, kl_mul, kl_neg, ki_i2l, kl_l2i, ki_lt, ki_le, ki_eq, kcmp_eq, kcmp_lt, kcmp_le, kcmp_gt, kcmp_ge, Option.bind_some, Option.map_some, kbool0, kbool1, if_pos, if_neg, if_true, if_false, Int.neg_neg, Int.sub_zero, Int.add_zero, Int.zero_add, true_and, and_true, false_and, and_false, false_or, or_false, true_or, or_true, ne_eq, not_false_eq_true, not_true_eq_false]
  · refine ⟨0, μ2, ?_, F1.trans F2, fr, Or.inl ⟨rfl, fun q => h1 q.1⟩⟩
    clear p1 p2 p3 hv
    simp (disch := omega) only [X12_in, b_X12_isTable_145, b_X12_isTable_146, ki_0, ki_1, ki_2, ki_3, ki_4, ki_5, ki_6, ki_7, ki_8, ki_9, ki_10, ki_11, ki_12, ki_13, ki_18, ki_20, ki_24, ki_32, ki_36, ki_45, ki_47, ki_48, ki_50, ki_57, ki_60, ki_63, ki_99, ki_100, ki_101, ki_120, ki_255, ki_468, ki_1000, ki_1024, ki_13849, ki_25173, ki_65535, ki_65536, ki_100000, ki_100001, ki_2147483647, ki_2147483648, kl_0, kl_1, kl_2, kl_9223372036854775808, ki_add, ki_sub, ki_mul, ki_neg, kl_add, kl_sub, kl_mul, kl_neg, ki_i2l, kl_l2i, ki_lt, ki_le, ki_eq, kcmp_eq, kcmp_lt, kcmp_le, kcmp_gt, kcmp_ge, Option.bind_some, Option.map_some, kbool0, kbool1, if_pos, if_neg, if_true, if_false, Int.neg_neg, Int.sub_zero, Int.add_zero, Int.zero_add, true_and, and_true, false_and, and_false, false_or, or_false, true_or, or_true, ne_eq, not_false_eq_true, not_true_eq_false]
