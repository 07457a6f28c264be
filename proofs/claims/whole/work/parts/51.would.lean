/-! OPS: would; a table copied and changed, one changed and changed back -/
noncomputable def cpM (μ : jM) (s o : Nat) : jM := wr (wr (jw μ s 0 (.int (ki (gi μ o 0)))) (s + 1) 0 (gi μ (o + 1)) 5) (s + 2) 0 (gi μ (o + 2)) 4
theorem cpM_kF {Y : jY} {μ : jM} {s o : Nat} (hS : kT Y μ s) : kF s (s + 3) μ (cpM μ s o) := by
  have k1 : kF s (s + 3) μ (jw μ s 0 (.int (ki (gi μ o 0)))) := kF_I hS.ir (by omega) (by omega)
  have k2 : kF s (s + 3) (jw μ s 0 (.int (ki (gi μ o 0)))) (wr (jw μ s 0 (.int (ki (gi μ o 0)))) (s + 1) 0 (gi μ (o + 1)) 5) := wr_kF (by omega) (by omega) 5 (fun j hj => k1.I (hS.aa.2.2.2 _ (by omega)))
  have k3 : kF s (s + 3) (wr (jw μ s 0 (.int (ki (gi μ o 0)))) (s + 1) 0 (gi μ (o + 1)) 5) (cpM μ s o) := wr_kF (by omega) (by omega) 4 (fun j hj => (k1.trans k2).I (hS.ac.2.2.2 _ (by omega)))
  exact (k1.trans k2).trans k3
theorem cpM_0 {μ : jM} {s o : Nat} : gi (cpM μ s o) s 0 = gi μ o 0 := by
  unfold cpM
  rw [wr_other (by omega), wr_other (by omega), gi_jw _ _ (gi_lo _ _ _) (gi_hi _ _ _), if_pos ⟨rfl, rfl⟩]
theorem cpM_1 {μ : jM} {s o : Nat} {x : Int} (h0 : 0 ≤ x) (h1 : x < 5) : gi (cpM μ s o) (s + 1) x = gi μ (o + 1) x := by
  unfold cpM
  rw [wr_other (by omega), wr_gi 5 (fun j _ => ⟨gi_lo _ _ _, gi_hi _ _ _⟩) x h0, if_pos (by omega), Int.natCast_zero, Int.sub_zero]
theorem cpM_2 {μ : jM} {s o : Nat} {x : Int} (h0 : 0 ≤ x) (h1 : x < 4) : gi (cpM μ s o) (s + 2) x = gi μ (o + 2) x := by
  unfold cpM
  rw [wr_gi 4 (fun j _ => ⟨gi_lo _ _ _, gi_hi _ _ _⟩) x h0, if_pos (by omega), Int.natCast_zero, Int.sub_zero]
set_option maxHeartbeats 1000000 in
theorem X10_copy {Y : jY} {μ : jM} {s o : Nat} (hT : kT Y μ o) (hS : kT Y μ s) (hd : o + 2 < s ∨ s + 2 < o) : f_X10_copy Y s o μ = some (cpM μ s o) := by
  have k1 : kF s (s + 3) μ (jw μ s 0 (.int (ki (gi μ o 0)))) := kF_I hS.ir (by omega) (by omega)
  have main : jit jF (fun (z : Int32 × jM) => b_X10_copy_10 Y s o z.1 z.2) ((0 : Int32), jw μ s 0 (.int (ki (gi μ o 0)))) = some (cpM μ s o) := by
    refine jit_run (fun i => (ki i, wr (jw μ s 0 (.int (ki (gi μ o 0)))) (s + 1) 0 (gi μ (o + 1)) i)) _ 5 rfl (by omega) (fun i hi => ?_) ?_
    · have k2 : kF s (s + 3) (jw μ s 0 (.int (ki (gi μ o 0)))) (wr (jw μ s 0 (.int (ki (gi μ o 0)))) (s + 1) 0 (gi μ (o + 1)) i) := wr_kF (by omega) (by omega) i (fun j hj => k1.I (hS.aa.2.2.2 _ (by omega)))
      have k3 := k1.trans k2
      simp only [wr]
      generalize wr (jw μ s 0 (.int (ki (gi μ o 0)))) (s + 1) 0 (gi μ (o + 1)) i = ν at *
      have t1 := hT.to k3
      have t2 := hS.to k3
      have e1 := kaI t1.aa (x := (i : Int)) (by omega) (by omega)
      rw [k3.gi (by omega)] at e1
      have e2 := fun v => kasI (v := v) t2.aa (x := (i : Int)) (by omega) (by omega)
      simp (disch := omega) only [b_X10_copy_10, kT.ga t1, kT.ga t2, e1, e2, ki_0, ki_1, ki_2, ki_3, ki_4, ki_5, ki_6, ki_7, ki_8, ki_9, ki_10, ki_11, ki_12, ki_13, ki_18, ki_20, ki_24, ki_32, ki_36, ki_45, ki_47, ki_48, ki_50, ki_57, ki_60, ki_63, ki_99, ki_100, ki_101, ki_120, ki_255, ki_468, ki_1000, ki_1024, ki_13849, ki_25173, ki_65535, ki_65536, ki_100000, ki_100001, ki_2147483647, ki_2147483648, kl_0, kl_1, kl_2, kl_9223372036854775808, ki_add, ki_sub, ki_mul, ki_neg, kl_add, kl_sub, kl_mul, kl_neg, ki_i2l, kl_l2i, ki_lt, ki_le, ki_eq, kcmp_eq, kcmp_lt, kcmp_le, kcmp_gt, kcmp_ge, Option.bind_some, Option.map_some, kbool0, kbool1, if_pos, if_neg, if_true, if_false, Int.neg_neg, Int.sub_zero, Int.add_zero, Int.zero_add, true_and, and_true, false_and, and_false, false_or, or_false, true_or, or_true, ne_eq, not_false_eq_true, not_true_eq_false, Int.natCast_add, Int.natCast_one, Int.toNat_natCast, Nat.zero_add]
    · have inner : jit jF (fun (z : Int32 × jM) => b_X10_copy_35 Y s o z.1 z.2) ((0 : Int32), wr (jw μ s 0 (.int (ki (gi μ o 0)))) (s + 1) 0 (gi μ (o + 1)) 5) = some (cpM μ s o) := by
        have k2 : kF s (s + 3) μ (wr (jw μ s 0 (.int (ki (gi μ o 0)))) (s + 1) 0 (gi μ (o + 1)) 5) := k1.trans (wr_kF (by omega) (by omega) 5 (fun j hj => k1.I (hS.aa.2.2.2 _ (by omega))))
        unfold cpM
        generalize wr (jw μ s 0 (.int (ki (gi μ o 0)))) (s + 1) 0 (gi μ (o + 1)) 5 = ξ at *
        refine jit_run (fun i => (ki i, wr ξ (s + 2) 0 (gi μ (o + 2)) i)) _ 4 rfl (by omega) (fun i hi => ?_) ?_
        · have k3 : kF s (s + 3) μ (wr ξ (s + 2) 0 (gi μ (o + 2)) i) := k2.trans (wr_kF (by omega) (by omega) i (fun j hj => k2.I (hS.ac.2.2.2 _ (by omega))))
          simp only [wr]
          generalize wr ξ (s + 2) 0 (gi μ (o + 2)) i = ν at *
          have t1 := hT.to k3
          have t2 := hS.to k3
          have e1 := kaI t1.ac (x := (i : Int)) (by omega) (by omega)
          rw [k3.gi (by omega)] at e1
          have e2 := fun v => kasI (v := v) t2.ac (x := (i : Int)) (by omega) (by omega)
          simp (disch := omega) only [b_X10_copy_35, kT.gc t1, kT.gc t2, e1, e2, ki_0, ki_1, ki_2, ki_3, ki_4, ki_5, ki_6, ki_7, ki_8, ki_9, ki_10, ki_11, ki_12, ki_13, ki_18, ki_20, ki_24, ki_32, ki_36, ki_45, ki_47, ki_48, ki_50, ki_57, ki_60, ki_63, ki_99, ki_100, ki_101, ki_120, ki_255, ki_468, ki_1000, ki_1024, ki_13849, ki_25173, ki_65535, ki_65536, ki_100000, ki_100001, ki_2147483647, ki_2147483648, kl_0, kl_1, kl_2, kl_9223372036854775808, ki_add, ki_sub, ki_mul, ki_neg, kl_add, kl_sub, kl_mul, kl_neg, ki_i2l, kl_l2i, ki_lt, ki_le, ki_eq, kcmp_eq, kcmp_lt, kcmp_le, kcmp_gt, kcmp_ge, Option.bind_some, Option.map_some, kbool0, kbool1, if_pos, if_neg, if_true, if_false, Int.neg_neg, Int.sub_zero, Int.add_zero, Int.zero_add, true_and, and_true, false_and, and_false, false_or, or_false, true_or, or_true, ne_eq, not_false_eq_true, not_true_eq_false, Int.natCast_add, Int.natCast_one, Int.toNat_natCast, Nat.zero_add]
        · simp (disch := omega) only [b_X10_copy_35, ki_0, ki_1, ki_2, ki_3, ki_4, ki_5, ki_6, ki_7, ki_8, ki_9, ki_10, ki_11, ki_12, ki_13, ki_18, ki_20, ki_24, ki_32, ki_36, ki_45, ki_47, ki_48, ki_50, ki_57, ki_60, ki_63, ki_99, ki_100, ki_101, ki_120, ki_255, ki_468, ki_1000, ki_1024, ki_13849, ki_25173, ki_65535, ki_65536, ki_100000, ki_100001, ki_2147483647, ki_2147483648, kl_0, kl_1, kl_2, kl_9223372036854775808, ki_add, ki_sub, ki_mul, ki_neg, kl_add, kl_sub, kl_mul, kl_neg, ki_i2l, kl_l2i, ki_lt, ki_le, ki_eq, kcmp_eq, kcmp_lt, kcmp_le, kcmp_gt, kcmp_ge, Option.bind_some, Option.map_some, kbool0, kbool1, if_pos, if_neg, if_true, if_false, Int.neg_neg, Int.sub_zero, Int.add_zero, Int.zero_add, true_and, and_true, false_and, and_false, false_or, or_false, true_or, or_true, ne_eq, not_false_eq_true, not_true_eq_false]
      have e : b_X10_copy_10 Y s o (ki ((5 : Nat) : Int)) (wr (jw μ s 0 (.int (ki (gi μ o 0)))) (s + 1) 0 (gi μ (o + 1)) 5) = (jit jF (fun (z : Int32 × jM) => b_X10_copy_35 Y s o z.1 z.2) ((0 : Int32), wr (jw μ s 0 (.int (ki (gi μ o 0)))) (s + 1) 0 (gi μ (o + 1)) 5)).map (fun r => (.inr r)) := rfl
      simp only [e, inner]
      rfl
  simp only [f_X10_copy, kT.gr hT, kT.pr hS, Option.bind_some]
  exact main
/-- a function changed at one place, if the two are the same -/
def up (b c : Int) (f : Int → Int) (i v : Int) : Int → Int := fun x => if b = c ∧ x = i then v else f x
noncomputable def cuM (μ : jM) (s o : Nat) (b i v : Int) : jM := jw (cpM μ s o) (if b = 1 then s + 1 else s + 2) i.toNat (.int (ki v))
theorem cuM_kF {Y : jY} {μ : jM} {s o : Nat} (hS : kT Y μ s) {b i v : Int} (hb : b = 0 ∨ b = 1) (hi1 : 0 ≤ i) (hi2 : i < 4 + b) : kF s (s + 3) μ (cuM μ s o b i v) := by
  have k := cpM_kF (o := o) hS
  refine k.trans (kF_I (k.I ?_) (by split <;> omega) (by split <;> omega))
  rcases hb with rfl | rfl
  · exact hS.ac.2.2.2 _ (by omega)
  · exact hS.aa.2.2.2 _ (by omega)
theorem cuM_0 {μ : jM} {s o : Nat} {b i v : Int} : gi (cuM μ s o b i v) s 0 = gi μ o 0 := by
  unfold cuM
  rw [gi_cell (jw_cell (by split <;> omega)), cpM_0]
theorem cuM_1 {μ : jM} {s o : Nat} {b i v : Int} (v1 : -2147483648 ≤ v) (v2 : v ≤ 2147483647) (hi1 : 0 ≤ i) {x : Int} (h0 : 0 ≤ x) (h1 : x < 5) : gi (cuM μ s o b i v) (s + 1) x = up b 1 (gi μ (o + 1)) i v x := by
  unfold cuM up
  rw [gi_jw _ _ v1 v2, cpM_1 h0 h1]
  by_cases hb : b = 1
  · rw [if_pos hb]
    by_cases e : x = i
    · rw [if_pos (by omega), if_pos (by omega)]
    · rw [if_neg (by omega), if_neg (by omega)]
  · rw [if_neg hb, if_neg (by omega), if_neg (by omega)]
theorem cuM_2 {μ : jM} {s o : Nat} {b i v : Int} (hb : b = 0 ∨ b = 1) (v1 : -2147483648 ≤ v) (v2 : v ≤ 2147483647) (hi1 : 0 ≤ i) {x : Int} (h0 : 0 ≤ x) (h1 : x < 4) : gi (cuM μ s o b i v) (s + 2) x = up b 0 (gi μ (o + 2)) i v x := by
  unfold cuM up
  rw [gi_jw _ _ v1 v2, cpM_2 h0 h1]
  by_cases hb1 : b = 1
  · rw [if_pos hb1, if_neg (by omega), if_neg (by omega)]
  · rw [if_neg hb1]
    by_cases e : x = i
    · rw [if_pos (by omega), if_pos (by omega)]
    · rw [if_neg (by omega), if_neg (by omega)]
theorem cuM_kTb {μ : jM} {s o : Nat} {b i v : Int} (hB : kTb μ o) (hb : b = 0 ∨ b = 1) (hi1 : 0 ≤ i) (hv : (b = 0 ∧ 1 ≤ v ∧ v ≤ 36) ∨ (b = 1 ∧ -6 ≤ v ∧ v ≤ 6)) : kTb (cuM μ s o b i v) s := by
  unfold kTb
  rw [cuM_0]
  refine ⟨hB.1, hB.2.1, fun x a c => ?_, fun x a c => ?_⟩
  · rw [cuM_1 (by omega) (by omega) hi1 a (by have := hB.2.1; omega)]
    have := hB.2.2.1 x a c
    unfold up
    split <;> omega
  · rw [cuM_2 hb (by omega) (by omega) hi1 a (by have := hB.2.1; omega)]
    have := hB.2.2.2 x a c
    unfold up
    split <;> omega
/-- the reference's table, changed -/
noncomputable def puM (μ : jM) (d b i v : Int) : jM := jw μ (if b = 1 then 109 else 110) (5 * d + i).toNat (.int (ki v))
theorem puM_kF {Y : jY} {μ : jM} (hM : kM Y μ) {d b i v : Int} (d1 : 0 ≤ d) (d2 : d ≤ 3) (hi1 : 0 ≤ i) (hi2 : i < 5) : kF 109 111 μ (puM μ d b i v) := by
  refine kF_I ?_ (by split <;> omega) (by split <;> omega)
  split
  · exact hM.a109.2.2.2 _ (by omega)
  · exact hM.a110.2.2.2 _ (by omega)
theorem puM_A {μ : jM} {d b i v : Int} (v1 : -2147483648 ≤ v) (v2 : v ≤ 2147483647) (d1 : 0 ≤ d) (hi1 : 0 ≤ i) {x : Int} (h0 : 0 ≤ x) : mA (puM μ d b i v) d x = up b 1 (mA μ d) i v x := by
  unfold mA puM up
  rw [gi_jw _ _ v1 v2]
  by_cases hb : b = 1
  · rw [if_pos hb]
    by_cases e : x = i
    · rw [if_pos (by omega), if_pos (by omega)]
    · rw [if_neg (by omega), if_neg (by omega)]
  · rw [if_neg hb, if_neg (by omega), if_neg (by omega)]
theorem puM_C {μ : jM} {d b i v : Int} (hb : b = 0 ∨ b = 1) (v1 : -2147483648 ≤ v) (v2 : v ≤ 2147483647) (d1 : 0 ≤ d) (hi1 : 0 ≤ i) {x : Int} (h0 : 0 ≤ x) : mC (puM μ d b i v) d x = up b 0 (mC μ d) i v x := by
  unfold mC puM up
  rw [gi_jw _ _ v1 v2]
  by_cases hb1 : b = 1
  · rw [if_pos hb1, if_neg (by omega), if_neg (by omega)]
  · rw [if_neg hb1]
    by_cases e : x = i
    · rw [if_pos (by omega), if_pos (by omega)]
    · rw [if_neg (by omega), if_neg (by omega)]
theorem puM_R {μ : jM} {d b i v : Int} {a : Nat} (h : a ≠ 109) (h2 : a ≠ 110) (x : Int) : gi (puM μ d b i v) a x = gi μ a x := gi_cell (jw_cell (by split <;> omega)) x
theorem puM_kMb {μ : jM} {d b i v : Int} (hB : kMb μ d) (d1 : 0 ≤ d) (hb : b = 0 ∨ b = 1) (hi1 : 0 ≤ i) (hv : (b = 0 ∧ 1 ≤ v ∧ v ≤ 36) ∨ (b = 1 ∧ -6 ≤ v ∧ v ≤ 6)) : kMb (puM μ d b i v) d := by
  unfold kMb
  rw [puM_R (by omega) (by omega)]
  refine ⟨hB.1, hB.2.1, fun x a c => ?_, fun x a c => ?_⟩
  · rw [puM_A (by omega) (by omega) d1 hi1 a]
    have := hB.2.2.1 x a c
    unfold up
    split <;> omega
  · rw [puM_C hb (by omega) (by omega) d1 hi1 a]
    have := hB.2.2.2 x a c
    unfold up
    split <;> omega
/-- changed back -/
theorem puM_back {Y : jY} {μ ξ : jM} (hM : kM Y μ) {d b i v : Int} (d1 : 0 ≤ d) (d2 : d ≤ 3) (hb : b = 0 ∨ b = 1) (hi1 : 0 ≤ i) (hi2 : i < 5) (hc : ∀ a, a = 109 ∨ a = 110 → ξ a = puM μ d b i v a) : ∀ a, a = 109 ∨ a = 110 → puM ξ d b i (if b = 1 then mA μ d i else mC μ d i) a = μ a := by
  intro a ha
  funext j
  unfold puM
  by_cases e : a = (if b = 1 then 109 else 110) ∧ j = (5 * d + i).toNat
  · obtain ⟨e1, e2⟩ := e
    rw [e1, e2, jw_same]
    rcases hb with rfl | rfl
    · simp only [show ¬ ((0 : Int) = 1) by omega, if_false]
      have := gi_at (hM.a110.2.2.2 (5 * d + i).toNat (by omega))
      rw [this, Int.toNat_of_nonneg (by omega)]
      rfl
    · simp only [if_true]
      have := gi_at (hM.a109.2.2.2 (5 * d + i).toNat (by omega))
      rw [this, Int.toNat_of_nonneg (by omega)]
      rfl
  · rw [jw_ne _ _ e, hc a ha]
    unfold puM
    rw [jw_ne _ _ e]
theorem kP.of_both {μ ζ : jM} (k : kF 0 123 μ ζ) (hc : ∀ i, i ≠ 95 → pers i → ζ i = μ i) (h95 : ζ 95 = μ 95) : kP μ ζ := ⟨k, fun i hi => hc i (by unfold pers at hi; omega) hi, by rw [h95], by rw [h95], by rw [h95]⟩
/-- what the class's spare table is worth -/
theorem X10_spare {L : Nat} {xs : Nat → Int32} {n : Nat} {Y : jY} {μ : jM} (h : Inv L xs n Y μ) {d b i v : Int} (d1 : 0 ≤ d) (d2 : d ≤ 3) (hb : b = 0 ∨ b = 1) (hi1 : 0 ≤ i) (hi2 : i ≤ gi μ 108 d - 2 + b) (hv : (b = 0 ∧ 1 ≤ v ∧ v ≤ 36) ∨ (b = 1 ∧ -6 ≤ v ∧ v ≤ 6)) :
    ∃ ν ξ : jM, f_X10_copy Y 88 (9 + 5 + 3 * d.toNat) μ = some ν ∧ f_X10_setNumber Y 88 (ki b) (ki i) (ki v) ν = some ξ ∧ kX Y ν ∧ kX Y ξ ∧ kP μ ξ ∧ kT Y ξ 88 ∧ kTb ξ 88 ∧ gi ξ 88 0 = gi μ 108 d ∧ (∀ x, 0 ≤ x → x < gi μ 108 d → gi ξ 89 x = up b 1 (mA μ d) i v x) ∧ (∀ x, 0 ≤ x → x < gi μ 108 d - 1 → gi ξ 90 x = up b 0 (mC μ d) i v x) ∧ kF 88 91 μ ξ := by
  have hX := h.x
  obtain ⟨hT, hB, hMB, hR, hA, hC⟩ := h.d d1 d2
  have hR0 := hMB.1
  have hR5 := hMB.2.1
  have h88 := hX.t88
  have e1 := X10_copy hT h88 (by omega)
  have k1 := cpM_kF (o := 9 + 5 + 3 * d.toNat) h88
  have e2 := X10_setNumber (h88.to k1) (b := b) (i := i) (v := v) hi1 (by omega) hb
  have k2 : kF 88 91 μ (cuM μ 88 (9 + 5 + 3 * d.toNat) b i v) := cuM_kF (o := 9 + 5 + 3 * d.toNat) (v := v) h88 hb hi1 (by omega)
  refine ⟨cpM μ 88 (9 + 5 + 3 * d.toNat), cuM μ 88 (9 + 5 + 3 * d.toNat) b i v, e1, e2, hX.to k1, hX.to k2, kP.of_rows (k2.mono (by omega) (by omega)), h88.to k2, cuM_kTb hB hb hi1 hv, ?_, fun x x0 x1 => ?_, fun x x0 x1 => ?_, k2⟩
  · rw [cuM_0, hR]
  · have := cuM_1 (μ := μ) (s := 88) (o := 9 + 5 + 3 * d.toNat) (b := b) (i := i) (v := v) (by omega) (by omega) hi1 x0 (by omega)
    rw [this]
    unfold up
    rw [hA x x0 x1]
  · have := cuM_2 (μ := μ) (s := 88) (o := 9 + 5 + 3 * d.toNat) (b := b) (i := i) (v := v) hb (by omega) (by omega) hi1 x0 (by omega)
    rw [this]
    unfold up
    rw [hC x x0 x1]
set_option maxHeartbeats 4000000 in
theorem ok_would {L : Nat} {xs : Nat → Int32} {n : Nat} {Y : jY} {μ : jM} (h : Inv L xs n Y μ) : so_would (Inv L xs) n Y μ := by
  have hX := h.x
  have hM := h.m
  intro a1 a2 a3 a4 a5 hb0
  obtain ⟨d, d1, d2, rfl⟩ := ki_is a1
  obtain ⟨b, hb, rfl⟩ := ki_bool hb0
  obtain ⟨i, i1, i2, rfl⟩ := ki_is a3
  obtain ⟨v, v1, v2, rfl⟩ := ki_is a4
  obtain ⟨j, j1, j2, rfl⟩ := ki_is a5
  by_cases hd : 0 ≤ d ∧ d ≤ 3
  · obtain ⟨hT, hB, hMB, hR, hA, hC⟩ := h.d hd.1 hd.2; have hR0 := hMB.1; have hR5 := hMB.2.1
    by_cases hz : gi μ 108 d = 0
    · refine ⟨(kl (-9223372036854775808), μ), (kl (-9223372036854775808), μ), ?_, fun _ => rfl, ?_, rfl, h⟩ <;> simp (disch := omega) only [f_X11_would, b_X11_would_55, f_X12_would, b_X12_would_50, b_X12_would_73, krcv (kX.y1 hX), kX.o1_3 hX, kS.gd (kX.now hX), kS.gt (kX.now hX), X11_within, X11_isDrawer, f_X11_isFilled, b_X11_isFilled_27, b_X11_isFilled_26, f_X11_isRow, b_X11_isRow_35, b_X11_isRow_34, f_X11_isPart, b_X11_isPart_14, b_X11_isPart_9, krcv (kM.y hM), kM.o26 hM, kaI (kM.a108 hM), X12_in, X12_isDrawer, kT.gr hT, krcv hT.y, hR, ki_0, ki_1, ki_2, ki_3, ki_4, ki_5, ki_6, ki_7, ki_8, ki_9, ki_10, ki_11, ki_12, ki_13, ki_18, ki_20, ki_24, ki_32, ki_36, ki_45, ki_47, ki_48, ki_50, ki_57, ki_60, ki_63, ki_99, ki_100, ki_101, ki_120, ki_255, ki_468, ki_1000, ki_1024, ki_13849, ki_25173, ki_65535, ki_65536, ki_100000, ki_100001, ki_2147483647, ki_2147483648, kl_0, kl_1, kl_2, kl_9223372036854775808, ki_add, ki_sub, ki_mul, ki_neg, kl_add, kl_sub, kl_mul, kl_neg, ki_i2l, kl_l2i, ki_lt, ki_le, ki_eq, kcmp_eq, kcmp_lt, kcmp_le, kcmp_gt, kcmp_ge, Option.bind_some, Option.map_some, kbool0, kbool1, if_pos, if_neg, if_true, if_false, Int.neg_neg, Int.sub_zero, Int.add_zero, Int.zero_add, true_and, and_true, false_and, and_false, false_or, or_false, true_or, or_true, ne_eq, not_false_eq_true, not_true_eq_false]
    · have e1 := X10_hasNumber hT (b := b) (i := i) (by omega) (by omega) i1 i2 hb
      have e2 := X12_isEntry hM (d := d) (b := b) (i := i) hd.1 hd.2 (by omega) (by omega) i1 i2 hb
      rw [hR] at e1
      by_cases hg : 0 ≤ i ∧ i ≤ gi μ 108 d - 2 + b
      · have e4 := X10_canBe (Y := Y) (μ := μ) (b := b) (v := v) v1 v2 hb
        have e5 := X12_canBe (Y := Y) (μ := μ) (b := b) (v := v) v1 v2 hb
        rw [if_pos hg] at e1 e2
        by_cases hv : (b = 0 ∧ 1 ≤ v ∧ v ≤ 36) ∨ (b = 1 ∧ -6 ≤ v ∧ v ≤ 6)
        · rw [if_pos hv] at e4 e5
          by_cases hj : 0 ≤ j ∧ j ≤ gi μ 108 d
          · obtain ⟨ν, ξ, c1, c2, c3, c4, c5, c6, c7, c8, c9, c10, c11⟩ := X10_spare h hd.1 hd.2 hb hg.1 hg.2 hv
            have c12 := X4_multiplyOut c4 c6 c7 (by omega) c4.y78
            have kf := wm_kF c4 (A := gi ξ (88 + 1)) (C := gi ξ (88 + 2)) (gi ξ 88 0).toNat (by omega)
            have kp := wm_kP c4 (A := gi ξ (88 + 1)) (C := gi ξ (88 + 2)) (k := (gi ξ 88 0).toNat) (by omega)
            have gv := wm_gl (μ := ξ) c7.pcs (gi ξ 88 0).toNat (by omega) (gi ξ 88 0).toNat (by omega) j hj.1 (by omega)
            rw [c8] at c12 kf kp gv
            rw [pcs_congr (n := (gi μ 108 d).toNat) (fun x a b => c9 x a (by omega)) (fun x a b => c10 x a (by omega)) (gi μ 108 d).toNat (by omega)] at gv
            generalize wm ξ (gi ξ (88 + 1)) (gi ξ (88 + 2)) (gi μ 108 d).toNat = χ at *
            have kall : kF 27 95 μ χ := (c11.mono (by omega) (by omega)).trans (kf.mono (by omega) (by omega))
            have c13 := c4.to kf
            have c14 : gi χ 88 0 = gi μ 108 d := by rw [kf.gi (by omega), c8]
            have t14 := kT.gr (c6.to kf)
            rw [c14] at t14
            have h2 := h.to (c5.trans kp)
            have hM2 := h2.m
            obtain ⟨-, -, hMB2, -, -, -⟩ := h2.d hd.1 hd.2
            have eR2 : gi χ 108 d = gi μ 108 d := kall.gi (by omega) _
            have eA2 : mA χ d = mA μ d := funext fun x => kall.gi (by omega) _
            have eC2 : mC χ d = mC μ d := funext fun x => kall.gi (by omega) _
            have e2' := X12_isEntry hM2 (d := d) (b := b) (i := i) hd.1 hd.2 (by omega) (by omega) i1 i2 hb
            rw [eR2, if_pos hg] at e2'
            have e5' := X12_canBe (Y := Y) (μ := χ) (b := b) (v := v) v1 v2 hb
            rw [if_pos hv] at e5'
            have p1 := X12_puts hM2 (d := d) (b := b) (i := i) (v := v) hd.1 hd.2 hg.1 (by omega) hb
            have p2 := puM_kF hM2 (d := d) (b := b) (i := i) (v := v) hd.1 hd.2 hg.1 (by omega)
            have p3 := puM_kMb (μ := χ) (d := d) (b := b) (i := i) (v := v) hMB2 hd.1 hb hg.1 hv
            have p4 := X12_laysPoly (hM2.to p2) hd.1 hd.2 p3
            have p5 := (wq_gl (μ := puM χ d b i v) (n := (gi (puM χ d b i v) 108 d).toNat) (by rw [puM_R (by omega) (by omega)]; omega) p3.pcs (gi (puM χ d b i v) 108 d).toNat (Nat.le_refl _)).1 (gi μ 108 d).toNat (by rw [puM_R (by omega) (by omega)]; omega) j hj.1 (by omega)
            have p6 := wq_kF (hM2.to p2) (A := mA (puM χ d b i v) d) (C := mC (puM χ d b i v) d) (gi (puM χ d b i v) 108 d).toNat (by rw [puM_R (by omega) (by omega)]; omega)
            have p7 : ∀ a, a ≠ 109 → a ≠ 110 → puM χ d b i v a = χ a := fun a q1 q2 => jw_cell (by split <;> omega)
            rw [pcs_congr (n := (gi μ 108 d).toNat) (fun x a _ => puM_A (b := b) (v := v) (by omega) (by omega) hd.1 hg.1 a) (fun x a _ => puM_C (v := v) hb (by omega) (by omega) hd.1 hg.1 a) (gi μ 108 d).toNat (by omega), eA2, eC2] at p5
            have p8 := puM_back (ξ := wq (puM χ d b i v) (mA (puM χ d b i v) d) (mC (puM χ d b i v) d) (gi (puM χ d b i v) 108 d).toNat) hM2 (d := d) (b := b) (i := i) (v := v) hd.1 hd.2 hb hg.1 (by omega) (fun a q => p6.1 a (by omega))
            rw [show jw χ (if b = 1 then 109 else 110) (5 * d + i).toNat (.int (ki v)) = puM χ d b i v from rfl] at p1
            generalize wq (puM χ d b i v) (mA (puM χ d b i v) d) (mC (puM χ d b i v) d) (gi (puM χ d b i v) 108 d).toNat = ζ at *
            have p9 := (hM2.to p2).to p6
            have p10 := X12_puts p9 (d := d) (b := b) (i := i) (v := if b = 1 then mA χ d i else mC χ d i) hd.1 hd.2 hg.1 (by omega) hb
            rw [show jw ζ (if b = 1 then 109 else 110) (5 * d + i).toNat (.int (ki (if b = 1 then mA χ d i else mC χ d i))) = puM ζ d b i (if b = 1 then mA χ d i else mC χ d i) from rfl] at p10
            have p11 := puM_kF p9 (d := d) (b := b) (i := i) (v := if b = 1 then mA χ d i else mC χ d i) hd.1 hd.2 hg.1 (by omega)
            have q1 := X12_a hM2 (d := d) (i := i) hd.1 hd.2 hg.1 (by omega)
            have q2 := X12_c hM2 (d := d) (i := i) hd.1 hd.2 hg.1 (by omega)
            have p12 : ∀ a, a ≠ 109 → a ≠ 110 → puM ζ d b i (if b = 1 then mA χ d i else mC χ d i) a = ζ a := fun a q1 q2 => jw_cell (by split <;> omega)
            have p13 : gl (puM ζ d b i (if b = 1 then mA χ d i else mC χ d i)) 117 (6 * ((gi μ 108 d).toNat : Nat) + j) = gl ζ 117 (6 * ((gi μ 108 d).toNat : Nat) + j) := gl_cell (p12 117 (by omega) (by omega)) _
            have p14 : gi (puM ζ d b i (if b = 1 then mA χ d i else mC χ d i)) 108 d = gi μ 108 d := by
              rw [gi_cell (p12 108 (by omega) (by omega)), p6.gi (by omega), gi_cell (p7 108 (by omega) (by omega)), eR2]
            rw [p5] at p13
            have hM3 := p9.to p11
            have kend : kP χ (puM ζ d b i (if b = 1 then mA χ d i else mC χ d i)) := by
              refine kP.of_both (((p2.mono (by omega) (by omega) : kF 0 123 _ _).trans (p6.mono (by omega) (by omega))).trans (p11.mono (by omega) (by omega))) (fun a ha hp => ?_) ?_
              · by_cases e : a = 109 ∨ a = 110
                · exact p8 a e
                · rw [p12 a (by omega) (by omega), p6.1 a (by unfold pers at hp; omega), p7 a (by omega) (by omega)]
              · rw [p12 95 (by omega) (by omega), p6.1 95 (by omega), p7 95 (by omega) (by omega)]
            have h3 := h2.to kend
            generalize puM ζ d b i (if b = 1 then mA χ d i else mC χ d i) = ω at *
            have l1 := kaL (kM.a117 hM3) (x := 6 * gi μ 108 d + j) (by omega) (by omega)
            rw [show 6 * gi μ 108 d + j = 6 * (((gi μ 108 d).toNat : Nat) : Int) + j from by omega, p13, show 6 * (((gi μ 108 d).toNat : Nat) : Int) + j = 6 * gi μ 108 d + j from by omega] at l1
            have r0 := c13.r79 (k := (gi μ 108 d).toNat) (by omega)
            rw [← ki_nat (by omega)] at r0
            have l0 := kaL (c13.a80s (k := (gi μ 108 d).toNat) (by omega)) (x := j) hj.1 (by omega)
            rw [gv] at l0
            generalize (pcs (up b 1 (mA μ d) i v) (up b 0 (mC μ d) i v) (gi μ 108 d).toNat).2 j = w at *
            refine ⟨(kl w, χ), (kl w, ω), ?_, fun j => congrFun ((c5.trans kp).2.1 0 (Or.inl (by omega))) j, ?_, rfl, h3⟩
            · simp (disch := omega) only [f_X11_would, b_X11_would_55, krcv (kX.y1 hX), kX.o1_3 hX, kS.gd (kX.now hX), kS.gt (kX.now hX), X11_within, X11_isDrawer, f_X11_isFilled, b_X11_isFilled_27, b_X11_isFilled_26, f_X11_isRow, b_X11_isRow_35, b_X11_isRow_34, f_X11_isPart, b_X11_isPart_14, b_X11_isPart_9, kT.gr hT, krcv hT.y, hR, e1, e4, kX.o1_10 hX, krcv hX.t88.y, c1, kX.o1_10 c3, c2, kX.o1_9 c4, kX.o1_10 c4, krcv c4.y78, c12, kX.o1_9 c13, kX.o78_0 c13, kX.o1_10 c13, t14, r0, l0, ki_0, ki_1, ki_2, ki_3, ki_4, ki_5, ki_6, ki_7, ki_8, ki_9, ki_10, ki_11, ki_12, ki_13, ki_18, ki_20, ki_24, ki_32, ki_36, ki_45, ki_47, ki_48, ki_50, ki_57, ki_60, ki_63, ki_99, ki_100, ki_101, ki_120, ki_255, ki_468, ki_1000, ki_1024, ki_13849, ki_25173, ki_65535, ki_65536, ki_100000, ki_100001, ki_2147483647, ki_2147483648, kl_0, kl_1, kl_2, kl_9223372036854775808, ki_add, ki_sub, ki_mul, ki_neg, kl_add, kl_sub, kl_mul, kl_neg, ki_i2l, kl_l2i, ki_lt, ki_le, ki_eq, kcmp_eq, kcmp_lt, kcmp_le, kcmp_gt, kcmp_ge, Option.bind_some, Option.map_some, kbool0, kbool1, if_pos, if_neg, if_true, if_false, Int.neg_neg, Int.sub_zero, Int.add_zero, Int.zero_add, true_and, and_true, false_and, and_false, false_or, or_false, true_or, or_true, ne_eq, not_false_eq_true, not_true_eq_false]
            · rcases hb with rfl | rfl
              · simp only [show ¬ ((0 : Int) = 1) by omega, if_false] at *
                simp (disch := omega) only [f_X12_would, b_X12_would_50, b_X12_would_73, krcv (kM.y hM2), kM.o26 hM2, kaI (kM.a108 hM2), X12_in, X12_isDrawer, eR2, e2', e5', q2, p1, p4, p10, kM.o35 hM3, kM.o26 hM3, kaI (kM.a108 hM3), p14, l1, ki_0, ki_1, ki_2, ki_3, ki_4, ki_5, ki_6, ki_7, ki_8, ki_9, ki_10, ki_11, ki_12, ki_13, ki_18, ki_20, ki_24, ki_32, ki_36, ki_45, ki_47, ki_48, ki_50, ki_57, ki_60, ki_63, ki_99, ki_100, ki_101, ki_120, ki_255, ki_468, ki_1000, ki_1024, ki_13849, ki_25173, ki_65535, ki_65536, ki_100000, ki_100001, ki_2147483647, ki_2147483648, kl_0, kl_1, kl_2, kl_9223372036854775808, ki_add, ki_sub, ki_mul, ki_neg, kl_add, kl_sub, kl_mul, kl_neg, ki_i2l, kl_l2i, ki_lt, ki_le, ki_eq, kcmp_eq, kcmp_lt, kcmp_le, kcmp_gt, kcmp_ge, Option.bind_some, Option.map_some, kbool0, kbool1, if_pos, if_neg, if_true, if_false, Int.neg_neg, Int.sub_zero, Int.add_zero, Int.zero_add, true_and, and_true, false_and, and_false, false_or, or_false, true_or, or_true, ne_eq, not_false_eq_true, not_true_eq_false]
              · simp only [if_true] at *
                simp (disch := omega) only [f_X12_would, b_X12_would_50, b_X12_would_73, krcv (kM.y hM2), kM.o26 hM2, kaI (kM.a108 hM2), X12_in, X12_isDrawer, eR2, e2', e5', q1, p1, p4, p10, kM.o35 hM3, kM.o26 hM3, kaI (kM.a108 hM3), p14, l1, ki_0, ki_1, ki_2, ki_3, ki_4, ki_5, ki_6, ki_7, ki_8, ki_9, ki_10, ki_11, ki_12, ki_13, ki_18, ki_20, ki_24, ki_32, ki_36, ki_45, ki_47, ki_48, ki_50, ki_57, ki_60, ki_63, ki_99, ki_100, ki_101, ki_120, ki_255, ki_468, ki_1000, ki_1024, ki_13849, ki_25173, ki_65535, ki_65536, ki_100000, ki_100001, ki_2147483647, ki_2147483648, kl_0, kl_1, kl_2, kl_9223372036854775808, ki_add, ki_sub, ki_mul, ki_neg, kl_add, kl_sub, kl_mul, kl_neg, ki_i2l, kl_l2i, ki_lt, ki_le, ki_eq, kcmp_eq, kcmp_lt, kcmp_le, kcmp_gt, kcmp_ge, Option.bind_some, Option.map_some, kbool0, kbool1, if_pos, if_neg, if_true, if_false, Int.neg_neg, Int.sub_zero, Int.add_zero, Int.zero_add, true_and, and_true, false_and, and_false, false_or, or_false, true_or, or_true, ne_eq, not_false_eq_true, not_true_eq_false]
          · refine ⟨(kl (-9223372036854775808), μ), (kl (-9223372036854775808), μ), ?_, fun _ => rfl, ?_, rfl, h⟩ <;> simp (disch := omega) only [f_X11_would, b_X11_would_55, f_X12_would, b_X12_would_50, b_X12_would_73, krcv (kX.y1 hX), kX.o1_3 hX, kS.gd (kX.now hX), kS.gt (kX.now hX), X11_within, X11_isDrawer, f_X11_isFilled, b_X11_isFilled_27, b_X11_isFilled_26, f_X11_isRow, b_X11_isRow_35, b_X11_isRow_34, f_X11_isPart, b_X11_isPart_14, b_X11_isPart_9, krcv (kM.y hM), kM.o26 hM, kaI (kM.a108 hM), X12_in, X12_isDrawer, kT.gr hT, krcv hT.y, hR, e1, e2, e4, e5, ki_0, ki_1, ki_2, ki_3, ki_4, ki_5, ki_6, ki_7, ki_8, ki_9, ki_10, ki_11, ki_12, ki_13, ki_18, ki_20, ki_24, ki_32, ki_36, ki_45, ki_47, ki_48, ki_50, ki_57, ki_60, ki_63, ki_99, ki_100, ki_101, ki_120, ki_255, ki_468, ki_1000, ki_1024, ki_13849, ki_25173, ki_65535, ki_65536, ki_100000, ki_100001, ki_2147483647, ki_2147483648, kl_0, kl_1, kl_2, kl_9223372036854775808, ki_add, ki_sub, ki_mul, ki_neg, kl_add, kl_sub, kl_mul, kl_neg, ki_i2l, kl_l2i, ki_lt, ki_le, ki_eq, kcmp_eq, kcmp_lt, kcmp_le, kcmp_gt, kcmp_ge, Option.bind_some, Option.map_some, kbool0, kbool1, if_pos, if_neg, if_true, if_false, Int.neg_neg, Int.sub_zero, Int.add_zero, Int.zero_add, true_and, and_true, false_and, and_false, false_or, or_false, true_or, or_true, ne_eq, not_false_eq_true, not_true_eq_false]
        · rw [if_neg hv] at e4 e5
          refine ⟨(kl (-9223372036854775808), μ), (kl (-9223372036854775808), μ), ?_, fun _ => rfl, ?_, rfl, h⟩ <;> simp (disch := omega) only [f_X11_would, b_X11_would_55, f_X12_would, b_X12_would_50, b_X12_would_73, krcv (kX.y1 hX), kX.o1_3 hX, kS.gd (kX.now hX), kS.gt (kX.now hX), X11_within, X11_isDrawer, f_X11_isFilled, b_X11_isFilled_27, b_X11_isFilled_26, f_X11_isRow, b_X11_isRow_35, b_X11_isRow_34, f_X11_isPart, b_X11_isPart_14, b_X11_isPart_9, krcv (kM.y hM), kM.o26 hM, kaI (kM.a108 hM), X12_in, X12_isDrawer, kT.gr hT, krcv hT.y, hR, e1, e2, e4, e5, ki_0, ki_1, ki_2, ki_3, ki_4, ki_5, ki_6, ki_7, ki_8, ki_9, ki_10, ki_11, ki_12, ki_13, ki_18, ki_20, ki_24, ki_32, ki_36, ki_45, ki_47, ki_48, ki_50, ki_57, ki_60, ki_63, ki_99, ki_100, ki_101, ki_120, ki_255, ki_468, ki_1000, ki_1024, ki_13849, ki_25173, ki_65535, ki_65536, ki_100000, ki_100001, ki_2147483647, ki_2147483648, kl_0, kl_1, kl_2, kl_9223372036854775808, ki_add, ki_sub, ki_mul, ki_neg, kl_add, kl_sub, kl_mul, kl_neg, ki_i2l, kl_l2i, ki_lt, ki_le, ki_eq, kcmp_eq, kcmp_lt, kcmp_le, kcmp_gt, kcmp_ge, Option.bind_some, Option.map_some, kbool0, kbool1, if_pos, if_neg, if_true, if_false, Int.neg_neg, Int.sub_zero, Int.add_zero, Int.zero_add, true_and, and_true, false_and, and_false, false_or, or_false, true_or, or_true, ne_eq, not_false_eq_true, not_true_eq_false]
      · rw [if_neg hg] at e1 e2
        refine ⟨(kl (-9223372036854775808), μ), (kl (-9223372036854775808), μ), ?_, fun _ => rfl, ?_, rfl, h⟩ <;> simp (disch := omega) only [f_X11_would, b_X11_would_55, f_X12_would, b_X12_would_50, b_X12_would_73, krcv (kX.y1 hX), kX.o1_3 hX, kS.gd (kX.now hX), kS.gt (kX.now hX), X11_within, X11_isDrawer, f_X11_isFilled, b_X11_isFilled_27, b_X11_isFilled_26, f_X11_isRow, b_X11_isRow_35, b_X11_isRow_34, f_X11_isPart, b_X11_isPart_14, b_X11_isPart_9, krcv (kM.y hM), kM.o26 hM, kaI (kM.a108 hM), X12_in, X12_isDrawer, kT.gr hT, krcv hT.y, hR, e1, e2, ki_0, ki_1, ki_2, ki_3, ki_4, ki_5, ki_6, ki_7, ki_8, ki_9, ki_10, ki_11, ki_12, ki_13, ki_18, ki_20, ki_24, ki_32, ki_36, ki_45, ki_47, ki_48, ki_50, ki_57, ki_60, ki_63, ki_99, ki_100, ki_101, ki_120, ki_255, ki_468, ki_1000, ki_1024, ki_13849, ki_25173, ki_65535, ki_65536, ki_100000, ki_100001, ki_2147483647, ki_2147483648, kl_0, kl_1, kl_2, kl_9223372036854775808, ki_add, ki_sub, ki_mul, ki_neg, kl_add, kl_sub, kl_mul, kl_neg, ki_i2l, kl_l2i, ki_lt, ki_le, ki_eq, kcmp_eq, kcmp_lt, kcmp_le, kcmp_gt, kcmp_ge, Option.bind_some, Option.map_some, kbool0, kbool1, if_pos, if_neg, if_true, if_false, Int.neg_neg, Int.sub_zero, Int.add_zero, Int.zero_add, true_and, and_true, false_and, and_false, false_or, or_false, true_or, or_true, ne_eq, not_false_eq_true, not_true_eq_false]
  · refine ⟨(kl (-9223372036854775808), μ), (kl (-9223372036854775808), μ), ?_, fun _ => rfl, ?_, rfl, h⟩ <;> simp (disch := omega) only [f_X11_would, b_X11_would_55, f_X12_would, b_X12_would_50, b_X12_would_73, krcv (kX.y1 hX), kX.o1_3 hX, kS.gd (kX.now hX), kS.gt (kX.now hX), X11_within, X11_isDrawer, f_X11_isFilled, b_X11_isFilled_27, b_X11_isFilled_26, f_X11_isRow, b_X11_isRow_35, b_X11_isRow_34, f_X11_isPart, b_X11_isPart_14, b_X11_isPart_9, krcv (kM.y hM), kM.o26 hM, kaI (kM.a108 hM), X12_in, X12_isDrawer, ki_0, ki_1, ki_2, ki_3, ki_4, ki_5, ki_6, ki_7, ki_8, ki_9, ki_10, ki_11, ki_12, ki_13, ki_18, ki_20, ki_24, ki_32, ki_36, ki_45, ki_47, ki_48, ki_50, ki_57, ki_60, ki_63, ki_99, ki_100, ki_101, ki_120, ki_255, ki_468, ki_1000, ki_1024, ki_13849, ki_25173, ki_65535, ki_65536, ki_100000, ki_100001, ki_2147483647, ki_2147483648, kl_0, kl_1, kl_2, kl_9223372036854775808, ki_add, ki_sub, ki_mul, ki_neg, kl_add, kl_sub, kl_mul, kl_neg, ki_i2l, kl_l2i, ki_lt, ki_le, ki_eq, kcmp_eq, kcmp_lt, kcmp_le, kcmp_gt, kcmp_ge, Option.bind_some, Option.map_some, kbool0, kbool1, if_pos, if_neg, if_true, if_false, Int.neg_neg, Int.sub_zero, Int.add_zero, Int.zero_add, true_and, and_true, false_and, and_false, false_or, or_false, true_or, or_true, ne_eq, not_false_eq_true, not_true_eq_false]
