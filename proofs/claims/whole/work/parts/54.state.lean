/-! COPIES of tones and of a whole state -/
noncomputable def cnM (μ : jM) (s o : Nat) : jM := wr (wr (jw μ s 0 (.int (ki (gi μ o 0)))) (s + 1) 0 (gi μ (o + 1)) 4) (s + 2) 0 (gi μ (o + 2)) 3
theorem cnM_kF {Y : jY} {μ : jM} {s o : Nat} (hS : kN Y μ s) : kF s (s + 3) μ (cnM μ s o) := by
  have k1 : kF s (s + 3) μ (jw μ s 0 (.int (ki (gi μ o 0)))) := kF_I hS.ir (by omega) (by omega)
  have k2 : kF s (s + 3) (jw μ s 0 (.int (ki (gi μ o 0)))) (wr (jw μ s 0 (.int (ki (gi μ o 0)))) (s + 1) 0 (gi μ (o + 1)) 4) := wr_kF (by omega) (by omega) 4 (fun j hj => k1.I (hS.aa.2.2.2 _ (by omega)))
  have k3 : kF s (s + 3) (wr (jw μ s 0 (.int (ki (gi μ o 0)))) (s + 1) 0 (gi μ (o + 1)) 4) (cnM μ s o) := wr_kF (by omega) (by omega) 3 (fun j hj => (k1.trans k2).I (hS.ac.2.2.2 _ (by omega)))
  exact (k1.trans k2).trans k3
theorem cnM_0 {μ : jM} {s o : Nat} : gi (cnM μ s o) s 0 = gi μ o 0 := by
  unfold cnM
  rw [wr_other (by omega), wr_other (by omega), gi_jw _ _ (gi_lo _ _ _) (gi_hi _ _ _), if_pos ⟨rfl, rfl⟩]
theorem cnM_1 {μ : jM} {s o : Nat} {x : Int} (h0 : 0 ≤ x) (h1 : x < 4) : gi (cnM μ s o) (s + 1) x = gi μ (o + 1) x := by
  unfold cnM
  rw [wr_other (by omega), wr_gi 4 (fun j _ => ⟨gi_lo _ _ _, gi_hi _ _ _⟩) x h0, if_pos (by omega), Int.natCast_zero, Int.sub_zero]
theorem cnM_2 {μ : jM} {s o : Nat} {x : Int} (h0 : 0 ≤ x) (h1 : x < 3) : gi (cnM μ s o) (s + 2) x = gi μ (o + 2) x := by
  unfold cnM
  rw [wr_gi 3 (fun j _ => ⟨gi_lo _ _ _, gi_hi _ _ _⟩) x h0, if_pos (by omega), Int.natCast_zero, Int.sub_zero]
set_option maxHeartbeats 1000000 in
theorem X9_copy {Y : jY} {μ : jM} {s o : Nat} (hT : kN Y μ o) (hS : kN Y μ s) (hd : o + 2 < s ∨ s + 2 < o) : f_X9_copy Y s o μ = some (cnM μ s o) := by
  have k1 : kF s (s + 3) μ (jw μ s 0 (.int (ki (gi μ o 0)))) := kF_I hS.ir (by omega) (by omega)
  have main : jit jF (fun (z : Int32 × jM) => b_X9_copy_10 Y s o z.1 z.2) ((0 : Int32), jw μ s 0 (.int (ki (gi μ o 0)))) = some (cnM μ s o) := by
    refine jit_run (fun i => (ki i, wr (jw μ s 0 (.int (ki (gi μ o 0)))) (s + 1) 0 (gi μ (o + 1)) i)) _ 4 rfl (by omega) (fun i hi => ?_) ?_
    · have k2 : kF s (s + 3) (jw μ s 0 (.int (ki (gi μ o 0)))) (wr (jw μ s 0 (.int (ki (gi μ o 0)))) (s + 1) 0 (gi μ (o + 1)) i) := wr_kF (by omega) (by omega) i (fun j hj => k1.I (hS.aa.2.2.2 _ (by omega)))
      have k3 := k1.trans k2
      simp only [wr]
      generalize wr (jw μ s 0 (.int (ki (gi μ o 0)))) (s + 1) 0 (gi μ (o + 1)) i = ν at *
      have t1 := hT.to k3
      have t2 := hS.to k3
      have e1 := kaI t1.aa (x := (i : Int)) (by omega) (by omega)
      rw [k3.gi (by omega)] at e1
      have e2 := fun v => kasI (v := v) t2.aa (x := (i : Int)) (by omega) (by omega)
      simp (disch := omega) only [b_X9_copy_10, kN.ga t1, kN.ga t2, e1, e2, ki_0, ki_1, ki_2, ki_3, ki_4, ki_5, ki_6, ki_7, ki_8, ki_9, ki_10, ki_11, ki_12, ki_13, ki_18, ki_20, ki_24, ki_32, ki_36, ki_45, ki_47, ki_48, ki_50, ki_57, ki_60, ki_63, ki_99, ki_100, ki_101, ki_120, ki_255, ki_468, ki_1000, ki_1024, ki_13849, ki_25173, ki_65535, ki_65536, ki_100000, ki_100001, ki_2147483647, ki_2147483648, kl_0, kl_1, kl_2, kl_9223372036854775808, ki_add, ki_sub, ki_mul, ki_neg, kl_add, kl_sub, kl_mul, kl_neg, ki_i2l, kl_l2i, ki_lt, ki_le, ki_eq, kcmp_eq, kcmp_lt, kcmp_le, kcmp_gt, kcmp_ge, Option.bind_some, Option.map_some, kbool0, kbool1, if_pos, if_neg, if_true, if_false, Int.neg_neg, Int.sub_zero, Int.add_zero, Int.zero_add, true_and, and_true, false_and, and_false, false_or, or_false, true_or, or_true, ne_eq, not_false_eq_true, not_true_eq_false, Int.natCast_add, Int.natCast_one, Int.toNat_natCast, Nat.zero_add]
    · have inner : jit jF (fun (z : Int32 × jM) => b_X9_copy_35 Y s o z.1 z.2) ((0 : Int32), wr (jw μ s 0 (.int (ki (gi μ o 0)))) (s + 1) 0 (gi μ (o + 1)) 4) = some (cnM μ s o) := by
        have k2 : kF s (s + 3) μ (wr (jw μ s 0 (.int (ki (gi μ o 0)))) (s + 1) 0 (gi μ (o + 1)) 4) := k1.trans (wr_kF (by omega) (by omega) 4 (fun j hj => k1.I (hS.aa.2.2.2 _ (by omega))))
        unfold cnM
        generalize wr (jw μ s 0 (.int (ki (gi μ o 0)))) (s + 1) 0 (gi μ (o + 1)) 4 = ξ at *
        refine jit_run (fun i => (ki i, wr ξ (s + 2) 0 (gi μ (o + 2)) i)) _ 3 rfl (by omega) (fun i hi => ?_) ?_
        · have k3 : kF s (s + 3) μ (wr ξ (s + 2) 0 (gi μ (o + 2)) i) := k2.trans (wr_kF (by omega) (by omega) i (fun j hj => k2.I (hS.ac.2.2.2 _ (by omega))))
          simp only [wr]
          generalize wr ξ (s + 2) 0 (gi μ (o + 2)) i = ν at *
          have t1 := hT.to k3
          have t2 := hS.to k3
          have e1 := kaI t1.ac (x := (i : Int)) (by omega) (by omega)
          rw [k3.gi (by omega)] at e1
          have e2 := fun v => kasI (v := v) t2.ac (x := (i : Int)) (by omega) (by omega)
          simp (disch := omega) only [b_X9_copy_35, kN.gc t1, kN.gc t2, e1, e2, ki_0, ki_1, ki_2, ki_3, ki_4, ki_5, ki_6, ki_7, ki_8, ki_9, ki_10, ki_11, ki_12, ki_13, ki_18, ki_20, ki_24, ki_32, ki_36, ki_45, ki_47, ki_48, ki_50, ki_57, ki_60, ki_63, ki_99, ki_100, ki_101, ki_120, ki_255, ki_468, ki_1000, ki_1024, ki_13849, ki_25173, ki_65535, ki_65536, ki_100000, ki_100001, ki_2147483647, ki_2147483648, kl_0, kl_1, kl_2, kl_9223372036854775808, ki_add, ki_sub, ki_mul, ki_neg, kl_add, kl_sub, kl_mul, kl_neg, ki_i2l, kl_l2i, ki_lt, ki_le, ki_eq, kcmp_eq, kcmp_lt, kcmp_le, kcmp_gt, kcmp_ge, Option.bind_some, Option.map_some, kbool0, kbool1, if_pos, if_neg, if_true, if_false, Int.neg_neg, Int.sub_zero, Int.add_zero, Int.zero_add, true_and, and_true, false_and, and_false, false_or, or_false, true_or, or_true, ne_eq, not_false_eq_true, not_true_eq_false, Int.natCast_add, Int.natCast_one, Int.toNat_natCast, Nat.zero_add]
        · simp (disch := omega) only [b_X9_copy_35, ki_0, ki_1, ki_2, ki_3, ki_4, ki_5, ki_6, ki_7, ki_8, ki_9, ki_10, ki_11, ki_12, ki_13, ki_18, ki_20, ki_24, ki_32, ki_36, ki_45, ki_47, ki_48, ki_50, ki_57, ki_60, ki_63, ki_99, ki_100, ki_101, ki_120, ki_255, ki_468, ki_1000, ki_1024, ki_13849, ki_25173, ki_65535, ki_65536, ki_100000, ki_100001, ki_2147483647, ki_2147483648, kl_0, kl_1, kl_2, kl_9223372036854775808, ki_add, ki_sub, ki_mul, ki_neg, kl_add, kl_sub, kl_mul, kl_neg, ki_i2l, kl_l2i, ki_lt, ki_le, ki_eq, kcmp_eq, kcmp_lt, kcmp_le, kcmp_gt, kcmp_ge, Option.bind_some, Option.map_some, kbool0, kbool1, if_pos, if_neg, if_true, if_false, Int.neg_neg, Int.sub_zero, Int.add_zero, Int.zero_add, true_and, and_true, false_and, and_false, false_or, or_false, true_or, or_true, ne_eq, not_false_eq_true, not_true_eq_false]
      have e : b_X9_copy_10 Y s o (ki ((4 : Nat) : Int)) (wr (jw μ s 0 (.int (ki (gi μ o 0)))) (s + 1) 0 (gi μ (o + 1)) 4) = (jit jF (fun (z : Int32 × jM) => b_X9_copy_35 Y s o z.1 z.2) ((0 : Int32), wr (jw μ s 0 (.int (ki (gi μ o 0)))) (s + 1) 0 (gi μ (o + 1)) 4)).map (fun r => (.inr r)) := rfl
      simp only [e, inner]
      rfl
  simp only [f_X9_copy, kN.gr hT, kN.pr hS, Option.bind_some]
  exact main
def sameT (μ ν : jM) (s o : Nat) : Prop := gi ν s 0 = gi μ o 0 ∧ (∀ x, 0 ≤ x → x < 5 → gi ν (s + 1) x = gi μ (o + 1) x) ∧ ∀ x, 0 ≤ x → x < 4 → gi ν (s + 2) x = gi μ (o + 2) x
theorem X3_copy {Y : jY} {μ : jM} {s o : Nat} (hS : kS Y μ s) (hO : kS Y μ o) (hd : o + 17 ≤ s ∨ s + 17 ≤ o) : ∃ ν, f_X3_copy Y s o μ = some ν ∧ kF s (s + 17) μ ν ∧ gi ν (s + 1) 0 = gi μ (o + 1) 0 ∧ (∀ x, 0 ≤ x → x < 4 → gi ν (s + 2) x = gi μ (o + 2) x) ∧ (∀ x, 0 ≤ x → x < 3 → gi ν (s + 3) x = gi μ (o + 3) x) ∧ ∀ d : Nat, d < 4 → sameT μ ν (s + 5 + 3 * d) (o + 5 + 3 * d) := by
  have e0 := X9_copy hO.n hS.n (by omega)
  have k0 := cnM_kF (o := o + 1) hS.n
  have c0 : gi (cnM μ (s + 1) (o + 1)) (s + 1) 0 = gi μ (o + 1) 0 := cnM_0
  have c1 : ∀ x, 0 ≤ x → x < 4 → gi (cnM μ (s + 1) (o + 1)) (s + 2) x = gi μ (o + 2) x := fun x a b => cnM_1 a b
  have c2 : ∀ x, 0 ≤ x → x < 3 → gi (cnM μ (s + 1) (o + 1)) (s + 3) x = gi μ (o + 3) x := fun x a b => cnM_2 a b
  simp only [f_X3_copy, kS.gn hS, kS.gn hO, krcv (kN.y hS.n), e0, Option.bind_some]
  generalize cnM μ (s + 1) (o + 1) = ξ at *
  obtain ⟨ν, e, h⟩ := jit_inv (f := fun (z : Int32 × jM) => b_X3_copy_13 Y s o z.1 z.2) (fun i z => z.1 = ki i ∧ kF s (s + 17) μ z.2 ∧ (∀ a, a < s + 5 → z.2 a = ξ a) ∧ ∀ d : Nat, d < i → sameT μ z.2 (s + 5 + 3 * d) (o + 5 + 3 * d)) (fun ν => kF s (s + 17) μ ν ∧ (∀ a, a < s + 5 → ν a = ξ a) ∧ ∀ d : Nat, d < 4 → sameT μ ν (s + 5 + 3 * d) (o + 5 + 3 * d)) 4 (s := ((0 : Int32), ξ)) ⟨rfl, k0.mono (by omega) (by omega), fun _ _ => rfl, fun d hd => by omega⟩ (by omega) (fun i z hi hz => by
    obtain ⟨v, ν⟩ := z
    obtain ⟨rfl, z1, z2, z3⟩ := hz
    simp only [] at z1 z2 z3
    by_cases h4 : i = 4
    · subst h4
      refine ⟨.inr ν, ?_, z1, z2, z3⟩
      simp (disch := omega) only [b_X3_copy_13, ki_0, ki_1, ki_2, ki_3, ki_4, ki_5, ki_6, ki_7, ki_8, ki_9, ki_10, ki_11, ki_12, ki_13, ki_18, ki_20, ki_24, ki_32, ki_36, ki_45, ki_47, ki_48, ki_50, ki_57, ki_60, ki_63, ki_99, ki_100, ki_101, ki_120, ki_255, ki_468, ki_1000, ki_1024, ki_13849, ki_25173, ki_65535, ki_65536, ki_100000, ki_100001, ki_2147483647, ki_2147483648, kl_0, kl_1, kl_2, kl_9223372036854775808, ki_add, ki_sub, ki_mul, ki_neg, kl_add, kl_sub, kl_mul, kl_neg, ki_i2l, kl_l2i, ki_lt, ki_le, ki_eq, kcmp_eq, kcmp_lt, kcmp_le, kcmp_gt, kcmp_ge, Option.bind_some, Option.map_some, kbool0, kbool1, if_pos, if_neg, if_true, if_false, Int.neg_neg, Int.sub_zero, Int.add_zero, Int.zero_add, true_and, and_true, false_and, and_false, false_or, or_false, true_or, or_true, ne_eq, not_false_eq_true, not_true_eq_false]
    · have hs := hS.to z1
      have ho := hO.to z1
      have t1 := hs.t (d := i) (by omega) (by omega)
      have t2 := ho.t (d := i) (by omega) (by omega)
      have q1 := hs.gt (d := i) (by omega) (by omega)
      have q2 := ho.gt (d := i) (by omega) (by omega)
      rw [Int.toNat_natCast] at t1 t2 q1 q2
      have f := X10_copy t2 t1 (by omega)
      have kf := cpM_kF (o := o + 5 + 3 * i) t1
      refine ⟨.inl (ki ((i + 1 : Nat) : Int), cpM ν (s + 5 + 3 * i) (o + 5 + 3 * i)), ?_, by omega, rfl, z1.trans (kf.mono (by omega) (by omega)), fun a ha => ?_, fun d hd => ?_⟩
      · simp (disch := omega) only [b_X3_copy_13, kS.gd hs, kS.gd ho, q1, q2, krcv t1.y, f, ki_0, ki_1, ki_2, ki_3, ki_4, ki_5, ki_6, ki_7, ki_8, ki_9, ki_10, ki_11, ki_12, ki_13, ki_18, ki_20, ki_24, ki_32, ki_36, ki_45, ki_47, ki_48, ki_50, ki_57, ki_60, ki_63, ki_99, ki_100, ki_101, ki_120, ki_255, ki_468, ki_1000, ki_1024, ki_13849, ki_25173, ki_65535, ki_65536, ki_100000, ki_100001, ki_2147483647, ki_2147483648, kl_0, kl_1, kl_2, kl_9223372036854775808, ki_add, ki_sub, ki_mul, ki_neg, kl_add, kl_sub, kl_mul, kl_neg, ki_i2l, kl_l2i, ki_lt, ki_le, ki_eq, kcmp_eq, kcmp_lt, kcmp_le, kcmp_gt, kcmp_ge, Option.bind_some, Option.map_some, kbool0, kbool1, if_pos, if_neg, if_true, if_false, Int.neg_neg, Int.sub_zero, Int.add_zero, Int.zero_add, true_and, and_true, false_and, and_false, false_or, or_false, true_or, or_true, ne_eq, not_false_eq_true, not_true_eq_false, Int.natCast_add, Int.natCast_one]
      · simp only []
        rw [kf.1 a (by omega)]
        exact z2 a ha
      · simp only []
        by_cases e : d = i
        · subst e
          refine ⟨?_, fun x x0 x1 => ?_, fun x x0 x1 => ?_⟩
          · rw [cpM_0, z1.gi (by omega)]
          · rw [cpM_1 x0 x1, z1.gi (by omega)]
          · rw [cpM_2 x0 x1, z1.gi (by omega)]
        · obtain ⟨y1, y2, y3⟩ := z3 d (by omega)
          refine ⟨?_, fun x x0 x1 => ?_, fun x x0 x1 => ?_⟩
          · rw [kf.gi (by omega)]; exact y1
          · rw [kf.gi (by omega)]; exact y2 x x0 x1
          · rw [kf.gi (by omega)]; exact y3 x x0 x1)
  refine ⟨ν, e, h.1, ?_, fun x a b => ?_, fun x a b => ?_, h.2.2⟩
  · rw [gi_cell (h.2.1 _ (by omega))]; exact c0
  · rw [gi_cell (h.2.1 _ (by omega))]; exact c1 x a b
  · rw [gi_cell (h.2.1 _ (by omega))]; exact c2 x a b
