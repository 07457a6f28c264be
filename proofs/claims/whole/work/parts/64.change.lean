/-! OPS: change -/
def turned (μ ν : jM) (a : Nat) (b c i : Int) : Prop := kF a (a + 1) μ ν ∧ (∀ x, 0 ≤ x → x < b ∨ b + c ≤ x → gi ν a x = gi μ a x) ∧ ∀ x, 0 ≤ x → x < c → gi ν a (b + x) = if x < i ∨ c - 1 - i < x then gi μ a (b + (c - 1 - x)) else gi μ a (b + x)
theorem turned.start {μ : jM} {a : Nat} {b c : Int} : turned μ μ a b c 0 := ⟨kF.refl, fun _ _ _ => rfl, fun x x0 x1 => by rw [if_neg (by omega)]⟩
theorem turned.step {Y : jY} {μ ν : jM} {a n : Nat} {b c i : Int} (h : turned μ ν a b c i) (hA : kAI Y μ a n) (i0 : 0 ≤ i) (hi : i < c - 1 - i) (b0 : 0 ≤ b) (hn : b + c ≤ n) : turned μ (jw (jw ν a (b + i).toNat (.int (ki (gi μ a (b + (c - 1 - i)))))) a (b + (c - 1 - i)).toNat (.int (ki (gi μ a (b + i))))) a b c (i + 1) := by
  obtain ⟨h1, h2, h3⟩ := h
  have k1 : kF a (a + 1) ν (jw ν a (b + i).toNat (.int (ki (gi μ a (b + (c - 1 - i)))))) := kF_I (h1.I (hA.2.2.2 _ (by omega))) (by omega) (by omega)
  have k2 : kF a (a + 1) (jw ν a (b + i).toNat (.int (ki (gi μ a (b + (c - 1 - i)))))) (jw (jw ν a (b + i).toNat (.int (ki (gi μ a (b + (c - 1 - i)))))) a (b + (c - 1 - i)).toNat (.int (ki (gi μ a (b + i))))) := kF_I ((h1.trans k1).I (hA.2.2.2 _ (by omega))) (by omega) (by omega)
  have val : ∀ x : Int, 0 ≤ x → gi (jw (jw ν a (b + i).toNat (.int (ki (gi μ a (b + (c - 1 - i)))))) a (b + (c - 1 - i)).toNat (.int (ki (gi μ a (b + i))))) a x = if x = b + (c - 1 - i) then gi μ a (b + i) else if x = b + i then gi μ a (b + (c - 1 - i)) else gi ν a x := by
    intro x hx
    rw [gi_jw _ _ (gi_lo _ _ _) (gi_hi _ _ _), gi_jw _ _ (gi_lo _ _ _) (gi_hi _ _ _)]
    by_cases e1 : x = b + (c - 1 - i)
    · rw [if_pos (by omega), if_pos e1]
    · rw [if_neg (by omega), if_neg e1]
      by_cases e2 : x = b + i
      · rw [if_pos (by omega), if_pos e2]
      · rw [if_neg (by omega), if_neg e2]
  refine ⟨(h1.trans k1).trans k2, fun x x0 x1 => ?_, fun x x0 x1 => ?_⟩
  · rw [val x x0, if_neg (by omega), if_neg (by omega)]
    exact h2 x x0 x1
  · rw [val _ (by omega)]
    by_cases e1 : x = c - 1 - i
    · rw [if_pos (by omega), if_pos (by omega), show c - 1 - x = i by omega]
    · rw [if_neg (by omega)]
      by_cases e2 : x = i
      · rw [if_pos (by omega), if_pos (by omega), e2]
      · rw [if_neg (by omega), h3 x x0 x1]
        by_cases e3 : x < i ∨ c - 1 - i < x
        · rw [if_pos e3, if_pos (by omega)]
        · rw [if_neg e3, if_neg (by omega)]
theorem turned.done {μ ν : jM} {a : Nat} {b c i : Int} (h : turned μ ν a b c i) (hi : c - 1 - i ≤ i) {x : Int} (x0 : 0 ≤ x) (x1 : x < c) : gi ν a (b + x) = gi μ a (b + (c - 1 - x)) := by
  rw [h.2.2 x x0 x1]
  by_cases e3 : x < i ∨ c - 1 - i < x
  · rw [if_pos e3]
  · rw [if_neg e3, show c - 1 - x = x by omega]
theorem turned.at {μ ν : jM} {a : Nat} {b c i : Int} (h : turned μ ν a b c i) {x : Int} (x0 : i ≤ x) (x1 : x ≤ c - 1 - i) (i0 : 0 ≤ i) : gi ν a (b + x) = gi μ a (b + x) := by
  rw [h.2.2 x (by omega) (by omega), if_neg (by omega)]
theorem X10_turnRound {Y : jY} {μ : jM} {a n : Nat} (hA : kAI Y μ a n) {c : Int} (h0 : 0 ≤ c) (h1 : c ≤ n) : ∃ ν, f_X10_turnRound Y a (ki c) μ = some ν ∧ kF a (a + 1) μ ν ∧ ∀ x, 0 ≤ x → x < c → gi ν a x = gi μ a (c - 1 - x) := by
  have hn := hA.2.2.1
  have main : ∃ ν, f_X10_turnRound Y a (ki c) μ = some ν ∧ kF a (a + 1) μ ν ∧ ∀ x, 0 ≤ x → x < c → gi ν a (0 + x) = gi μ a (0 + (c - 1 - x)) := by
    unfold f_X10_turnRound
    rw [show ki c - (1 : Int32) = ki (c - 1) from ki_sub c 1]
    refine jit_inv (f := fun (s : Int32 × Int32 × jM) => b_X10_turnRound_6 Y a s.1 s.2.1 s.2.2) (fun i z => (i : Int) ≤ c - i + 1 ∧ z.1 = ki i ∧ z.2.1 = ki (c - 1 - i) ∧ turned μ z.2.2 a 0 c i) _ (c.toNat + 1) (s := ((0 : Int32), ki (c - 1), μ)) ⟨by omega, rfl, by rw [Int.natCast_zero, Int.sub_zero], turned.start⟩ (by omega) (fun i z hi hz => ?_)
    obtain ⟨v, w, ν⟩ := z
    obtain ⟨z0, rfl, rfl, z1⟩ := hz
    simp only [] at z1
    by_cases e : c - 1 - i ≤ i
    · refine ⟨.inr ν, ?_, z1.1, fun x p q => z1.done e p q⟩
      simp (disch := omega) only [b_X10_turnRound_6, ki_0, ki_1, ki_2, ki_3, ki_4, ki_5, ki_6, ki_7, ki_8, ki_9, ki_10, ki_11, ki_12, ki_13, ki_18, ki_20, ki_24, ki_32, ki_36, ki_45, ki_47, ki_48, ki_50, ki_57, ki_60, ki_63, ki_99, ki_100, ki_101, ki_120, ki_255, ki_468, ki_1000, ki_1024, ki_13849, ki_25173, ki_65535, ki_65536, ki_100000, ki_100001, ki_2147483647, ki_2147483648, kl_0, kl_1, kl_2, kl_9223372036854775808, ki_add, ki_sub, ki_mul, ki_neg, kl_add, kl_sub, kl_mul, kl_neg, ki_i2l, kl_l2i, ki_lt, ki_le, ki_eq, kcmp_eq, kcmp_lt, kcmp_le, kcmp_gt, kcmp_ge, Option.bind_some, Option.map_some, kbool0, kbool1, if_pos, if_neg, if_true, if_false, Int.neg_neg, Int.sub_zero, Int.add_zero, Int.zero_add, true_and, and_true, false_and, and_false, false_or, or_false, true_or, or_true, ne_eq, not_false_eq_true, not_true_eq_false]
    · have hA1 := hA.to z1.1
      have q1 := kaI hA1 (x := (i : Int)) (by omega) (by omega)
      have q2 := kaI hA1 (x := c - 1 - i) (by omega) (by omega)
      have w1 := z1.at (x := (i : Int)) (by omega) (by omega) (by omega)
      have w2 := z1.at (x := c - 1 - i) (by omega) (by omega) (by omega)
      rw [Int.zero_add] at w1 w2
      rw [w1] at q1
      rw [w2] at q2
      have T := z1.step hA (by omega) (by omega) (by omega) (by omega)
      rw [Int.zero_add, Int.zero_add] at T
      have s1 := fun v => kasI (v := v) hA1 (x := (i : Int)) (by omega) (by omega)
      have kf1 : kF a (a + 1) ν (jw ν a (i : Int).toNat (.int (ki (gi μ a (c - 1 - i))))) := kF_I (hA1.2.2.2 _ (by omega)) (by omega) (by omega)
      have s2 := fun v => kasI (v := v) (hA1.to kf1) (x := c - 1 - i) (by omega) (by omega)
      refine ⟨.inl (ki ((i + 1 : Nat) : Int), ki (c - 1 - ((i + 1 : Nat) : Int)), jw (jw ν a (i : Int).toNat (.int (ki (gi μ a (c - 1 - i))))) a (c - 1 - i).toNat (.int (ki (gi μ a i)))), ?_, by omega, by omega, rfl, rfl, T⟩
      simp (disch := omega) only [b_X10_turnRound_6, q1, q2, s1, s2, ki_0, ki_1, ki_2, ki_3, ki_4, ki_5, ki_6, ki_7, ki_8, ki_9, ki_10, ki_11, ki_12, ki_13, ki_18, ki_20, ki_24, ki_32, ki_36, ki_45, ki_47, ki_48, ki_50, ki_57, ki_60, ki_63, ki_99, ki_100, ki_101, ki_120, ki_255, ki_468, ki_1000, ki_1024, ki_13849, ki_25173, ki_65535, ki_65536, ki_100000, ki_100001, ki_2147483647, ki_2147483648, kl_0, kl_1, kl_2, kl_9223372036854775808, ki_add, ki_sub, ki_mul, ki_neg, kl_add, kl_sub, kl_mul, kl_neg, ki_i2l, kl_l2i, ki_lt, ki_le, ki_eq, kcmp_eq, kcmp_lt, kcmp_le, kcmp_gt, kcmp_ge, Option.bind_some, Option.map_some, kbool0, kbool1, if_pos, if_neg, if_true, if_false, Int.neg_neg, Int.sub_zero, Int.add_zero, Int.zero_add, true_and, and_true, false_and, and_false, false_or, or_false, true_or, or_true, ne_eq, not_false_eq_true, not_true_eq_false, Int.natCast_add, Int.natCast_one]
      rw [show c - 1 - (i : Int) + -1 = c - 1 - ((i : Int) + 1) by omega]
  obtain ⟨ν, e, k, h⟩ := main
  refine ⟨ν, e, k, fun x p q => ?_⟩
  have := h x p q
  rw [Int.zero_add, Int.zero_add] at this
  exact this
theorem X10_raise {Y : jY} {μ : jM} {o : Nat} (hT : kT Y μ o) {R b : Int} (eR : gi μ o 0 = R) (h0 : 0 ≤ R) (h5 : R ≤ 5) (hb : -1 ≤ b ∧ b ≤ 1) (hr : ∀ x : Int, 0 ≤ x → x < R → -6 ≤ gi μ (o + 1) x ∧ gi μ (o + 1) x ≤ 6) : ((∀ x : Int, 0 ≤ x → x < R → -6 ≤ gi μ (o + 1) x + b ∧ gi μ (o + 1) x + b ≤ 6) ∧ ∃ ν, f_X10_raise Y o (ki b) μ = some (ki 1, ν) ∧ kF (o + 1) (o + 2) μ ν ∧ ∀ x : Int, 0 ≤ x → x < R → gi ν (o + 1) x = gi μ (o + 1) x + b) ∨ (¬ (∀ x : Int, 0 ≤ x → x < R → -6 ≤ gi μ (o + 1) x + b ∧ gi μ (o + 1) x + b ≤ 6) ∧ f_X10_raise Y o (ki b) μ = some (ki 0, μ)) := by
  have g := kT.gr hT
  rw [eR] at g
  have main : ∃ r, f_X10_raise Y o (ki b) μ = some r ∧ (((∀ x : Int, 0 ≤ x → x < R → -6 ≤ gi μ (o + 1) x + b ∧ gi μ (o + 1) x + b ≤ 6) ∧ r.1 = ki 1 ∧ kF (o + 1) (o + 2) μ r.2 ∧ ∀ x : Int, 0 ≤ x → x < R → gi r.2 (o + 1) x = gi μ (o + 1) x + b) ∨ (¬ (∀ x : Int, 0 ≤ x → x < R → -6 ≤ gi μ (o + 1) x + b ∧ gi μ (o + 1) x + b ≤ 6) ∧ r = (ki 0, μ))) := by
    refine jit_inv (f := fun (s : Int32 × jM) => b_X10_raise_2 Y o (ki b) s.1 s.2) (fun i z => z = (ki i, μ) ∧ ∀ x : Int, 0 ≤ x → x < i → -6 ≤ gi μ (o + 1) x + b ∧ gi μ (o + 1) x + b ≤ 6) _ R.toNat (s := ((0 : Int32), μ)) ⟨rfl, fun x a b => by omega⟩ (by omega) (fun i z hi hz => ?_)
    obtain ⟨rfl, z1⟩ := hz
    by_cases e : i = R.toNat
    · have hg : ∀ x : Int, 0 ≤ x → x < R → -1000 ≤ gi μ (o + 1) x + b ∧ gi μ (o + 1) x + b ≤ 1000 := fun x p q => by have := hr x p q; omega
      have W := wr_all hT.aa (g := fun x => gi μ (o + 1) x + b) (c := R) (by omega) hg
      have inner : jit jF (fun (s : Int32 × jM) => b_X10_raise_35 Y o (ki b) s.1 s.2) ((0 : Int32), μ) = some (ki 1, wr μ (o + 1) 0 (fun x => gi μ (o + 1) x + b) R.toNat) := by
        refine jit_run (fun i => (ki i, wr μ (o + 1) 0 (fun x => gi μ (o + 1) x + b) i)) _ R.toNat rfl (by omega) (fun i hi => ?_) ?_
        · obtain ⟨w1, w2⟩ := W i (by omega)
          have w3 := w2 i (by omega)
          rw [if_neg (by omega)] at w3
          simp only [wr]
          generalize wr μ (o + 1) 0 (fun x => gi μ (o + 1) x + b) i = ν at *
          have t1 := hT.to w1
          have g := kT.gr t1
          rw [w1.gi (by omega), eR] at g
          have e1 := kaI t1.aa (x := (i : Int)) (by omega) (by omega)
          rw [w3] at e1
          have e2 := fun v => kasI (v := v) t1.aa (x := (i : Int)) (by omega) (by omega)
          simp (disch := omega) only [b_X10_raise_35, kT.ga t1, g, e1, e2, ki_0, ki_1, ki_2, ki_3, ki_4, ki_5, ki_6, ki_7, ki_8, ki_9, ki_10, ki_11, ki_12, ki_13, ki_18, ki_20, ki_24, ki_32, ki_36, ki_45, ki_47, ki_48, ki_50, ki_57, ki_60, ki_63, ki_99, ki_100, ki_101, ki_120, ki_255, ki_468, ki_1000, ki_1024, ki_13849, ki_25173, ki_65535, ki_65536, ki_100000, ki_100001, ki_2147483647, ki_2147483648, kl_0, kl_1, kl_2, kl_9223372036854775808, ki_add, ki_sub, ki_mul, ki_neg, kl_add, kl_sub, kl_mul, kl_neg, ki_i2l, kl_l2i, ki_lt, ki_le, ki_eq, kcmp_eq, kcmp_lt, kcmp_le, kcmp_gt, kcmp_ge, Option.bind_some, Option.map_some, kbool0, kbool1, if_pos, if_neg, if_true, if_false, Int.neg_neg, Int.sub_zero, Int.add_zero, Int.zero_add, true_and, and_true, false_and, and_false, false_or, or_false, true_or, or_true, ne_eq, not_false_eq_true, not_true_eq_false, Int.natCast_add, Int.natCast_one, Int.toNat_natCast, Nat.zero_add]
        · obtain ⟨w1, w2⟩ := W R.toNat (by omega)
          generalize wr μ (o + 1) 0 (fun x => gi μ (o + 1) x + b) R.toNat = ν at *
          have g := kT.gr (hT.to w1)
          rw [w1.gi (by omega), eR] at g
          simp (disch := omega) only [b_X10_raise_35, g, ki_0, ki_1, ki_2, ki_3, ki_4, ki_5, ki_6, ki_7, ki_8, ki_9, ki_10, ki_11, ki_12, ki_13, ki_18, ki_20, ki_24, ki_32, ki_36, ki_45, ki_47, ki_48, ki_50, ki_57, ki_60, ki_63, ki_99, ki_100, ki_101, ki_120, ki_255, ki_468, ki_1000, ki_1024, ki_13849, ki_25173, ki_65535, ki_65536, ki_100000, ki_100001, ki_2147483647, ki_2147483648, kl_0, kl_1, kl_2, kl_9223372036854775808, ki_add, ki_sub, ki_mul, ki_neg, kl_add, kl_sub, kl_mul, kl_neg, ki_i2l, kl_l2i, ki_lt, ki_le, ki_eq, kcmp_eq, kcmp_lt, kcmp_le, kcmp_gt, kcmp_ge, Option.bind_some, Option.map_some, kbool0, kbool1, if_pos, if_neg, if_true, if_false, Int.neg_neg, Int.sub_zero, Int.add_zero, Int.zero_add, true_and, and_true, false_and, and_false, false_or, or_false, true_or, or_true, ne_eq, not_false_eq_true, not_true_eq_false]
      obtain ⟨w1, w2⟩ := W R.toNat (by omega)
      refine ⟨.inr (ki 1, wr μ (o + 1) 0 (fun x => gi μ (o + 1) x + b) R.toNat), ?_, Or.inl ⟨fun x p q => z1 x p (by omega), rfl, w1, fun x p q => by simp only []; rw [w2 x p, if_pos (by omega)]⟩⟩
      have E : b_X10_raise_2 Y o (ki b) (ki i) μ = (jit jF (fun (s : Int32 × jM) => b_X10_raise_35 Y o (ki b) s.1 s.2) ((0 : Int32), μ)).map (fun r => (.inr r)) := by
        simp (disch := omega) only [b_X10_raise_2, g, ki_0, ki_1, ki_2, ki_3, ki_4, ki_5, ki_6, ki_7, ki_8, ki_9, ki_10, ki_11, ki_12, ki_13, ki_18, ki_20, ki_24, ki_32, ki_36, ki_45, ki_47, ki_48, ki_50, ki_57, ki_60, ki_63, ki_99, ki_100, ki_101, ki_120, ki_255, ki_468, ki_1000, ki_1024, ki_13849, ki_25173, ki_65535, ki_65536, ki_100000, ki_100001, ki_2147483647, ki_2147483648, kl_0, kl_1, kl_2, kl_9223372036854775808, ki_add, ki_sub, ki_mul, ki_neg, kl_add, kl_sub, kl_mul, kl_neg, ki_i2l, kl_l2i, ki_lt, ki_le, ki_eq, kcmp_eq, kcmp_lt, kcmp_le, kcmp_gt, kcmp_ge, Option.bind_some, Option.map_some, kbool0, kbool1, if_pos, if_neg, if_true, if_false, Int.neg_neg, Int.sub_zero, Int.add_zero, Int.zero_add, true_and, and_true, false_and, and_false, false_or, or_false, true_or, or_true, ne_eq, not_false_eq_true, not_true_eq_false]
      simp only [E, inner]
      rfl
    · have q := kaI hT.aa (x := (i : Int)) (by omega) (by omega)
      have r := hr i (by omega) (by omega)
      have cb := X10_canBe (Y := Y) (μ := μ) (b := 1) (v := gi μ (o + 1) i + b) (by omega) (by omega) (by omega)
      by_cases c : -6 ≤ gi μ (o + 1) i + b ∧ gi μ (o + 1) i + b ≤ 6
      · rw [if_pos (by omega)] at cb
        refine ⟨.inl (ki ((i + 1 : Nat) : Int), μ), ?_, by omega, rfl, fun x p q => ?_⟩
        · simp (disch := omega) only [b_X10_raise_2, kT.ga hT, g, q, cb, ki_0, ki_1, ki_2, ki_3, ki_4, ki_5, ki_6, ki_7, ki_8, ki_9, ki_10, ki_11, ki_12, ki_13, ki_18, ki_20, ki_24, ki_32, ki_36, ki_45, ki_47, ki_48, ki_50, ki_57, ki_60, ki_63, ki_99, ki_100, ki_101, ki_120, ki_255, ki_468, ki_1000, ki_1024, ki_13849, ki_25173, ki_65535, ki_65536, ki_100000, ki_100001, ki_2147483647, ki_2147483648, kl_0, kl_1, kl_2, kl_9223372036854775808, ki_add, ki_sub, ki_mul, ki_neg, kl_add, kl_sub, kl_mul, kl_neg, ki_i2l, kl_l2i, ki_lt, ki_le, ki_eq, kcmp_eq, kcmp_lt, kcmp_le, kcmp_gt, kcmp_ge, Option.bind_some, Option.map_some, kbool0, kbool1, if_pos, if_neg, if_true, if_false, Int.neg_neg, Int.sub_zero, Int.add_zero, Int.zero_add, true_and, and_true, false_and, and_false, false_or, or_false, true_or, or_true, ne_eq, not_false_eq_true, not_true_eq_false, Int.natCast_add, Int.natCast_one]
        · by_cases f : x = i
          · subst f; exact c
          · exact z1 x p (by omega)
      · rw [if_neg (by omega)] at cb
        refine ⟨.inr (ki 0, μ), ?_, Or.inr ⟨fun q => c (q i (by omega) (by omega)), rfl⟩⟩
        simp (disch := omega) only [b_X10_raise_2, kT.ga hT, g, q, cb, ki_0, ki_1, ki_2, ki_3, ki_4, ki_5, ki_6, ki_7, ki_8, ki_9, ki_10, ki_11, ki_12, ki_13, ki_18, ki_20, ki_24, ki_32, ki_36, ki_45, ki_47, ki_48, ki_50, ki_57, ki_60, ki_63, ki_99, ki_100, ki_101, ki_120, ki_255, ki_468, ki_1000, ki_1024, ki_13849, ki_25173, ki_65535, ki_65536, ki_100000, ki_100001, ki_2147483647, ki_2147483648, kl_0, kl_1, kl_2, kl_9223372036854775808, ki_add, ki_sub, ki_mul, ki_neg, kl_add, kl_sub, kl_mul, kl_neg, ki_i2l, kl_l2i, ki_lt, ki_le, ki_eq, kcmp_eq, kcmp_lt, kcmp_le, kcmp_gt, kcmp_ge, Option.bind_some, Option.map_some, kbool0, kbool1, if_pos, if_neg, if_true, if_false, Int.neg_neg, Int.sub_zero, Int.add_zero, Int.zero_add, true_and, and_true, false_and, and_false, false_or, or_false, true_or, or_true, ne_eq, not_false_eq_true, not_true_eq_false]
  obtain ⟨⟨r1, r2⟩, e, h⟩ := main
  rcases h with ⟨a, b1, b2, b3⟩ | ⟨a, b1⟩
  · simp only [] at b1
    exact Or.inl ⟨a, r2, by rw [e, b1], b2, b3⟩
  · exact Or.inr ⟨a, by rw [e, b1]⟩
theorem X10_dropFirst {Y : jY} {μ : jM} {a n : Nat} (hA : kAI Y μ a n) (h1 : 1 ≤ n) : ∃ ν, f_X10_dropFirst Y a μ = some ν ∧ kF a (a + 1) μ ν ∧ ∀ x : Int, 0 ≤ x → x + 1 < n → gi ν a x = gi μ a (x + 1) := by
  have hn := hA.2.2.1
  have W : ∀ i : Nat, i < n → kF a (a + 1) μ (wr μ a 0 (fun x => gi μ a (x + 1)) i) ∧ ∀ x : Int, 0 ≤ x → gi (wr μ a 0 (fun x => gi μ a (x + 1)) i) a x = if x < i then gi μ a (x + 1) else gi μ a x := by
    intro i hi
    refine ⟨wr_kF (by omega) (by omega) i (fun j hj => hA.2.2.2 _ (by omega)), fun x hx => ?_⟩
    rw [wr_gi (g := fun x => gi μ a (x + 1)) i (fun j hj => ⟨gi_lo _ _ _, gi_hi _ _ _⟩) x hx]
    by_cases e : x < i
    · rw [if_pos (by omega), if_pos e, Int.natCast_zero, Int.sub_zero]
    · rw [if_neg (by omega), if_neg e]
  obtain ⟨w1, w2⟩ := W (n - 1) (by omega)
  refine ⟨wr μ a 0 (fun x => gi μ a (x + 1)) (n - 1), ?_, w1, fun x p q => by rw [w2 x p, if_pos (by omega)]⟩
  refine jit_run (fun i => (ki i, wr μ a 0 (fun x => gi μ a (x + 1)) i)) _ (n - 1) rfl (by omega) (fun i hi => ?_) ?_
  · obtain ⟨y1, y2⟩ := W i (by omega)
    have y3 := y2 (i + 1) (by omega)
    rw [if_neg (by omega)] at y3
    simp only [wr]
    generalize wr μ a 0 (fun x => gi μ a (x + 1)) i = ν at *
    have t1 := hA.to y1
    have ql := klen t1
    have e1 := kaI t1 (x := (i : Int) + 1) (by omega) (by omega)
    rw [y3] at e1
    have e2 := fun v => kasI (v := v) t1 (x := (i : Int)) (by omega) (by omega)
    simp (disch := omega) only [b_X10_dropFirst_2, ql, e1, e2, ki_0, ki_1, ki_2, ki_3, ki_4, ki_5, ki_6, ki_7, ki_8, ki_9, ki_10, ki_11, ki_12, ki_13, ki_18, ki_20, ki_24, ki_32, ki_36, ki_45, ki_47, ki_48, ki_50, ki_57, ki_60, ki_63, ki_99, ki_100, ki_101, ki_120, ki_255, ki_468, ki_1000, ki_1024, ki_13849, ki_25173, ki_65535, ki_65536, ki_100000, ki_100001, ki_2147483647, ki_2147483648, kl_0, kl_1, kl_2, kl_9223372036854775808, ki_add, ki_sub, ki_mul, ki_neg, kl_add, kl_sub, kl_mul, kl_neg, ki_i2l, kl_l2i, ki_lt, ki_le, ki_eq, kcmp_eq, kcmp_lt, kcmp_le, kcmp_gt, kcmp_ge, Option.bind_some, Option.map_some, kbool0, kbool1, if_pos, if_neg, if_true, if_false, Int.neg_neg, Int.sub_zero, Int.add_zero, Int.zero_add, true_and, and_true, false_and, and_false, false_or, or_false, true_or, or_true, ne_eq, not_false_eq_true, not_true_eq_false, Int.natCast_add, Int.natCast_one, Int.toNat_natCast, Nat.zero_add]
  · generalize wr μ a 0 (fun x => gi μ a (x + 1)) (n - 1) = ν at *
    have ql := klen (hA.to w1)
    simp (disch := omega) only [b_X10_dropFirst_2, ql, ki_0, ki_1, ki_2, ki_3, ki_4, ki_5, ki_6, ki_7, ki_8, ki_9, ki_10, ki_11, ki_12, ki_13, ki_18, ki_20, ki_24, ki_32, ki_36, ki_45, ki_47, ki_48, ki_50, ki_57, ki_60, ki_63, ki_99, ki_100, ki_101, ki_120, ki_255, ki_468, ki_1000, ki_1024, ki_13849, ki_25173, ki_65535, ki_65536, ki_100000, ki_100001, ki_2147483647, ki_2147483648, kl_0, kl_1, kl_2, kl_9223372036854775808, ki_add, ki_sub, ki_mul, ki_neg, kl_add, kl_sub, kl_mul, kl_neg, ki_i2l, kl_l2i, ki_lt, ki_le, ki_eq, kcmp_eq, kcmp_lt, kcmp_le, kcmp_gt, kcmp_ge, Option.bind_some, Option.map_some, kbool0, kbool1, if_pos, if_neg, if_true, if_false, Int.neg_neg, Int.sub_zero, Int.add_zero, Int.zero_add, true_and, and_true, false_and, and_false, false_or, or_false, true_or, or_true, ne_eq, not_false_eq_true, not_true_eq_false]
