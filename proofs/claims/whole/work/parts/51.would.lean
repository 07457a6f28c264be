/-! OPS: would; a table copied and changed, one changed and changed back -/
noncomputable def cpM (μ : jM) (s o : Nat) : jM := wr (wr (jw μ s 0 (.int (ki (gi μ o 0)))) (s + 1) 0 (gi μ (o + 1)) 5) (s + 2) 0 (gi μ (o + 2)) 4
theorem cpM_kF {Y : jY} {μ : jM} {s o : Nat} (hS : kT Y μ s) : kF s (s + 3) μ (cpM μ s o) := by
  have k1 : kF s (s + 3) μ (jw μ s 0 (.int (ki (gi μ o 0)))) := kF_I hS.ir (by omega) (by omega)
  have k2 : kF s (s + 3) (jw μ s 0 (.int (ki (gi μ o 0)))) (wr (jw μ s 0 (.int (ki (gi μ o 0)))) (s + 1) 0 (gi μ (o + 1)) 5) := wr_kF (by omega) (by omega) 5 (fun j hj => k1.I (hS.aa.2.2.2 _ (by omega)))
  have k3 : kF s (s + 3) (wr (jw μ s 0 (.int (ki (gi μ o 0)))) (s + 1) 0 (gi μ (o + 1)) 5) (cpM μ s o) := wr_kF (by omega) (by omega) 4 (fun j hj => (k1.trans k2).I (hS.ac.2.2.2 _ (by omega)))
  exact (k1.trans k2).trans k3
theorem cpM_0 {μ : jM} {s o : Nat} : gi (cpM μ s o) s 0 = gi μ o 0 := by
  unfold cpM
  rw [wr_other (by omega), wr_other (by omega), gi_jw _ _ (gi_lo _ _ _) (gi_hi _ _ _), if_pos ⟨rfl, rfl⟩]
theorem cpM_1 {μ : jM} {s o : Nat} {x : Int} (h0 : 0 ≤ x) (h1 : x < 5) : gi (cpM μ s o) (s + 1) x = gi μ (o + 1) x := by
  unfold cpM
  rw [wr_other (by omega), wr_gi 5 (fun j _ => ⟨gi_lo _ _ _, gi_hi _ _ _⟩) x h0, if_pos (by omega), Int.natCast_zero, Int.sub_zero]
theorem cpM_2 {μ : jM} {s o : Nat} {x : Int} (h0 : 0 ≤ x) (h1 : x < 4) : gi (cpM μ s o) (s + 2) x = gi μ (o + 2) x := by
  unfold cpM
  rw [wr_gi 4 (fun j _ => ⟨gi_lo _ _ _, gi_hi _ _ _⟩) x h0, if_pos (by omega), Int.natCast_zero, Int.sub_zero]
set_option maxHeartbeats 1000000 in
theorem X10_copy {Y : jY} {μ : jM} {s o : Nat} (hT : kT Y μ o) (hS : kT Y μ s) (hd : o + 2 < s ∨ s + 2 < o) : f_X10_copy Y s o μ = some (cpM μ s o) := by
  have k1 : kF s (s + 3) μ (jw μ s 0 (.int (ki (gi μ o 0)))) := kF_I hS.ir (by omega) (by omega)
  have main : jit jF (fun (z : Int32 × jM) => b_X10_copy_10 Y s o z.1 z.2) ((0 : Int32), jw μ s 0 (.int (ki (gi μ o 0)))) = some (cpM μ s o) := by
    refine jit_run (fun i => (ki i, wr (jw μ s 0 (.int (ki (gi μ o 0)))) (s + 1) 0 (gi μ (o + 1)) i)) _ 5 rfl (by omega) (fun i hi => ?_) ?_
    · have k2 : kF s (s + 3) (jw μ s 0 (.int (ki (gi μ o 0)))) (wr (jw μ s 0 (.int (ki (gi μ o 0)))) (s + 1) 0 (gi μ (o + 1)) i) := wr_kF (by omega) (by omega) i (fun j hj => k1.I (hS.aa.2.2.2 _ (by omega)))
      have k3 := k1.trans k2
      simp only [wr]
      generalize wr (jw μ s 0 (.int (ki (gi μ o 0)))) (s + 1) 0 (gi μ (o + 1)) i = ν at *
      have t1 := hT.to k3
      have t2 := hS.to k3
      have e1 := kaI t1.aa (x := (i : Int)) (by omega) (by omega)
      rw [k3.gi (by omega)] at e1
      have e2 := fun v => kasI (v := v) t2.aa (x := (i : Int)) (by omega) (by omega)
      simp (disch := omega) only [b_X10_copy_10, kT.ga t1, kT.ga t2, e1, e2, ki_0, ki_1, ki_2, ki_3, ki_4, ki_5, ki_6, ki_7, ki_8, ki_9, ki_10, ki_11, ki_12, ki_13, ki_18, ki_20, ki_24, ki_32, ki_36, ki_45, ki_47, ki_48, ki_50, ki_57, ki_60, ki_63, ki_99, ki_100, ki_101, ki_120, ki_255, ki_468, ki_1000, ki_1024, ki_13849, ki_25173, ki_65535, ki_65536, ki_100000, ki_100001, ki_2147483647, ki_2147483648, kl_0, kl_1, kl_2, kl_9223372036854775808, ki_add, ki_sub, ki_mul, ki_neg, kl_add, kl_sub, kl_mul, kl_neg, ki_i2l, kl_l2i, ki_lt, ki_le, ki_eq, kcmp_eq, kcmp_lt, kcmp_le, kcmp_gt, kcmp_ge, Option.bind_some, Option.map_some, kbool0, kbool1, if_pos, if_neg, if_true, if_false, Int.neg_neg, Int.sub_zero, Int.add_zero, Int.zero_add, true_and, and_true, false_and, and_false, false_or, or_false, true_or, or_true, ne_eq, not_false_eq_true, not_true_eq_false, Int.natCast_add, Int.natCast_one, Int.toNat_natCast, Nat.zero_add]
    · have inner : jit jF (fun (z : Int32 × jM) => b_X10_copy_35 Y s o z.1 z.2) ((0 : Int32), wr (jw μ s 0 (.int (ki (gi μ o 0)))) (s + 1) 0 (gi μ (o + 1)) 5) = some (cpM μ s o) := by
        have k2 : kF s (s + 3) μ (wr (jw μ s 0 (.int (ki (gi μ o 0)))) (s + 1) 0 (gi μ (o + 1)) 5) := k1.trans (wr_kF (by omega) (by omega) 5 (fun j hj => k1.I (hS.aa.2.2.2 _ (by omega))))
        unfold cpM
        generalize wr (jw μ s 0 (.int (ki (gi μ o 0)))) (s + 1) 0 (gi μ (o + 1)) 5 = ξ at *
        refine jit_run (fun i => (ki i, wr ξ (s + 2) 0 (gi μ (o + 2)) i)) _ 4 rfl (by omega) (fun i hi => ?_) ?_
        · have k3 : kF s (s + 3) μ (wr ξ (s + 2) 0 (gi μ (o + 2)) i) := k2.trans (wr_kF (by omega) (by omega) i (fun j hj => k2.I (hS.ac.2.2.2 _ (by omega))))
          simp only [wr]
          generalize wr ξ (s + 2) 0 (gi μ (o + 2)) i = ν at *
          have t1 := hT.to k3
          have t2 := hS.to k3
          have e1 := kaI t1.ac (x := (i : Int)) (by omega) (by omega)
          rw [k3.gi (by omega)] at e1
          have e2 := fun v => kasI (v := v) t2.ac (x := (i : Int)) (by omega) (by omega)
          simp (disch := omega) only [b_X10_copy_35, kT.gc t1, kT.gc t2, e1, e2, ki_0, ki_1, ki_2, ki_3, ki_4, ki_5, ki_6, ki_7, ki_8, ki_9, ki_10, ki_11, ki_12, ki_13, ki_18, ki_20, ki_24, ki_32, ki_36, ki_45, ki_47, ki_48, ki_50, ki_57, ki_60, ki_63, ki_99, ki_100, ki_101, ki_120, ki_255, ki_468, ki_1000, ki_1024, ki_13849, ki_25173, ki_65535, ki_65536, ki_100000, ki_100001, ki_2147483647, ki_2147483648, kl_0, kl_1, kl_2, kl_9223372036854775808, ki_add, ki_sub, ki_mul, ki_neg, kl_add, kl_sub, kl_mul, kl_neg, ki_i2l, kl_l2i, ki_lt, ki_le, ki_eq, kcmp_eq, kcmp_lt, kcmp_le, kcmp_gt, kcmp_ge, Option.bind_some, Option.map_some, kbool0, kbool1, if_pos, if_neg, if_true, if_false, Int.neg_neg, Int.sub_zero, Int.add_zero, Int.zero_add, true_and, and_true, false_and, and_false, false_or, or_false, true_or, or_true, ne_eq, not_false_eq_true, not_true_eq_false, Int.natCast_add, Int.natCast_one, Int.toNat_natCast, Nat.zero_add]
        · simp (disch := omega) only [b_X10_copy_35, ki_0, ki_1, ki_2, ki_3, ki_4, ki_5, ki_6, ki_7, ki_8, ki_9, ki_10, ki_11, ki_12, ki_13, ki_18, ki_20, ki_24, ki_32, ki_36, ki_45, ki_47, ki_48, ki_50, ki_57, ki_60, ki_63, ki_99, ki_100, ki_101, ki_120, ki_255, ki_468, ki_1000, ki_1024, ki_13849, ki_25173, ki_65535, ki_65536, ki_100000, ki_100001, ki_2147483647, ki_2147483648, kl_0, kl_1, kl_2, kl_9223372036854775808, ki_add, ki_sub, ki_mul, ki_neg, kl_add, kl_sub, kl_mul, kl_neg, ki_i2l, kl_l2i, ki_lt, ki_le, ki_eq, kcmp_eq, kcmp_lt, kcmp_le, kcmp_gt, kcmp_ge, Option.bind_some, Option.map_some, kbool0, kbool1, if_pos, if_neg, if_true, if_false, Int.neg_neg, Int.sub_zero, Int.add_zero, Int.zero_add, true_and, and_true, false_and, and_false, false_or, or_false, true_or, or_true, ne_eq, not_false_eq_true, not_true_eq_false]
      have e : b_X10_copy_10 Y s o (ki ((5 : Nat) : Int)) (wr (jw μ s 0 (.int (ki (gi μ o 0)))) (s + 1) 0 (gi μ (o + 1)) 5) = (jit jF (fun (z : Int32 × jM) => b_X10_copy_35 Y s o z.1 z.2) ((0 : Int32), wr (jw μ s 0 (.int (ki (gi μ o 0)))) (s + 1) 0 (gi μ (o + 1)) 5)).map (fun r => (.inr r)) := rfl
      simp only [e, inner]
      rfl
  simp only [f_X10_copy, kT.gr hT, kT.pr hS, Option.bind_some]
  exact main
/-- a function changed at one place, if the two are the same -/
def up (b c : Int) (f : Int → Int) (i v : Int) : Int → Int := fun x => if b = c ∧ x = i then v else f x
noncomputable def cuM (μ : jM) (s o : Nat) (b i v : Int) : jM := jw (cpM μ s o) (if b = 1 then s + 1 else s + 2) i.toNat (.int (ki v))
theorem cuM_kF {Y : jY} {μ : jM} {s o : Nat} (hS : kT Y μ s) {b i v : Int} (hb : b = 0 ∨ b = 1) (hi1 : 0 ≤ i) (hi2 : i < 4 + b) : kF s (s + 3) μ (cuM μ s o b i v) := by
  have k := cpM_kF (o := o) hS
  refine k.trans (kF_I (k.I ?_) (by split <;> omega) (by split <;> omega))
  rcases hb with rfl | rfl
  · exact hS.ac.2.2.2 _ (by omega)
  · exact hS.aa.2.2.2 _ (by omega)
theorem cuM_0 {μ : jM} {s o : Nat} {b i v : Int} : gi (cuM μ s o b i v) s 0 = gi μ o 0 := by
  unfold cuM
  rw [gi_cell (jw_cell (by split <;> omega)), cpM_0]
theorem cuM_1 {μ : jM} {s o : Nat} {b i v : Int} (v1 : -2147483648 ≤ v) (v2 : v ≤ 2147483647) (hi1 : 0 ≤ i) {x : Int} (h0 : 0 ≤ x) (h1 : x < 5) : gi (cuM μ s o b i v) (s + 1) x = up b 1 (gi μ (o + 1)) i v x := by
  unfold cuM up
  rw [gi_jw _ _ v1 v2, cpM_1 h0 h1]
  by_cases hb : b = 1
  · rw [if_pos hb]
    by_cases e : x = i
    · rw [if_pos (by omega), if_pos (by omega)]
    · rw [if_neg (by omega), if_neg (by omega)]
  · rw [if_neg hb, if_neg (by omega), if_neg (by omega)]
theorem cuM_2 {μ : jM} {s o : Nat} {b i v : Int} (hb : b = 0 ∨ b = 1) (v1 : -2147483648 ≤ v) (v2 : v ≤ 2147483647) (hi1 : 0 ≤ i) {x : Int} (h0 : 0 ≤ x) (h1 : x < 4) : gi (cuM μ s o b i v) (s + 2) x = up b 0 (gi μ (o + 2)) i v x := by
  unfold cuM up
  rw [gi_jw _ _ v1 v2, cpM_2 h0 h1]
  by_cases hb1 : b = 1
  · rw [if_pos hb1, if_neg (by omega), if_neg (by omega)]
  · rw [if_neg hb1]
    by_cases e : x = i
    · rw [if_pos (by omega), if_pos (by omega)]
    · rw [if_neg (by omega), if_neg (by omega)]
theorem cuM_kTb {μ : jM} {s o : Nat} {b i v : Int} (hB : kTb μ o) (hb : b = 0 ∨ b = 1) (hi1 : 0 ≤ i) (hv : (b = 0 ∧ 1 ≤ v ∧ v ≤ 36) ∨ (b = 1 ∧ -6 ≤ v ∧ v ≤ 6)) : kTb (cuM μ s o b i v) s := by
  unfold kTb
  rw [cuM_0]
  refine ⟨hB.1, hB.2.1, fun x a c => ?_, fun x a c => ?_⟩
  · rw [cuM_1 (by omega) (by omega) hi1 a (by have := hB.2.1; omega)]
    have := hB.2.2.1 x a c
    unfold up
    split <;> omega
  · rw [cuM_2 hb (by omega) (by omega) hi1 a (by have := hB.2.1; omega)]
    have := hB.2.2.2 x a c
    unfold up
    split <;> omega
/-- the reference's table, changed -/
noncomputable def puM (μ : jM) (d b i v : Int) : jM := jw μ (if b = 1 then 109 else 110) (5 * d + i).toNat (.int (ki v))
theorem puM_kF {Y : jY} {μ : jM} (hM : kM Y μ) {d b i v : Int} (d1 : 0 ≤ d) (d2 : d ≤ 3) (hi1 : 0 ≤ i) (hi2 : i < 5) : kF 109 111 μ (puM μ d b i v) := by
  refine kF_I ?_ (by split <;> omega) (by split <;> omega)
  split
  · exact hM.a109.2.2.2 _ (by omega)
  · exact hM.a110.2.2.2 _ (by omega)
theorem puM_A {μ : jM} {d b i v : Int} (v1 : -2147483648 ≤ v) (v2 : v ≤ 2147483647) (d1 : 0 ≤ d) (hi1 : 0 ≤ i) {x : Int} (h0 : 0 ≤ x) : mA (puM μ d b i v) d x = up b 1 (mA μ d) i v x := by
  unfold mA puM up
  rw [gi_jw _ _ v1 v2]
  by_cases hb : b = 1
  · rw [if_pos hb]
    by_cases e : x = i
    · rw [if_pos (by omega), if_pos (by omega)]
    · rw [if_neg (by omega), if_neg (by omega)]
  · rw [if_neg hb, if_neg (by omega), if_neg (by omega)]
theorem puM_C {μ : jM} {d b i v : Int} (hb : b = 0 ∨ b = 1) (v1 : -2147483648 ≤ v) (v2 : v ≤ 2147483647) (d1 : 0 ≤ d) (hi1 : 0 ≤ i) {x : Int} (h0 : 0 ≤ x) : mC (puM μ d b i v) d x = up b 0 (mC μ d) i v x := by
  unfold mC puM up
  rw [gi_jw _ _ v1 v2]
  by_cases hb1 : b = 1
  · rw [if_pos hb1, if_neg (by omega), if_neg (by omega)]
  · rw [if_neg hb1]
    by_cases e : x = i
    · rw [if_pos (by omega), if_pos (by omega)]
    · rw [if_neg (by omega), if_neg (by omega)]
theorem puM_R {μ : jM} {d b i v : Int} {a : Nat} (h : a ≠ 109) (h2 : a ≠ 110) (x : Int) : gi (puM μ d b i v) a x = gi μ a x := gi_cell (jw_cell (by split <;> omega)) x
theorem puM_kMb {μ : jM} {d b i v : Int} (hB : kMb μ d) (d1 : 0 ≤ d) (hb : b = 0 ∨ b = 1) (hi1 : 0 ≤ i) (hv : (b = 0 ∧ 1 ≤ v ∧ v ≤ 36) ∨ (b = 1 ∧ -6 ≤ v ∧ v ≤ 6)) : kMb (puM μ d b i v) d := by
  unfold kMb
  rw [puM_R (by omega) (by omega)]
  refine ⟨hB.1, hB.2.1, fun x a c => ?_, fun x a c => ?_⟩
  · rw [puM_A (by omega) (by omega) d1 hi1 a]
    have := hB.2.2.1 x a c
    unfold up
    split <;> omega
  · rw [puM_C hb (by omega) (by omega) d1 hi1 a]
    have := hB.2.2.2 x a c
    unfold up
    split <;> omega
/-- changed back -/
theorem puM_back {Y : jY} {μ ξ : jM} (hM : kM Y μ) {d b i v : Int} (d1 : 0 ≤ d) (d2 : d ≤ 3) (hb : b = 0 ∨ b = 1) (hi1 : 0 ≤ i) (hi2 : i < 5) (hc : ∀ a, a = 109 ∨ a = 110 → ξ a = puM μ d b i v a) : ∀ a, a = 109 ∨ a = 110 → puM ξ d b i (if b = 1 then mA μ d i else mC μ d i) a = μ a := by
  intro a ha
  funext j
  unfold puM
  by_cases e : a = (if b = 1 then 109 else 110) ∧ j = (5 * d + i).toNat
  · obtain ⟨e1, e2⟩ := e
    rw [e1, e2, jw_same]
    rcases hb with rfl | rfl
    · simp only [show ¬ ((0 : Int) = 1) by omega, if_false]
      have := gi_at (hM.a110.2.2.2 (5 * d + i).toNat (by omega))
      rw [this, Int.toNat_of_nonneg (by omega)]
      rfl
    · simp only [if_true]
      have := gi_at (hM.a109.2.2.2 (5 * d + i).toNat (by omega))
      rw [this, Int.toNat_of_nonneg (by omega)]
      rfl
  · rw [jw_ne _ _ e, hc a ha]
    unfold puM
    rw [jw_ne _ _ e]
