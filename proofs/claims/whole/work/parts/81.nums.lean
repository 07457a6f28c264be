/-! WHAT TONES make in whole numbers: polynomials, moments -/
def rowK (ν : jM) (a : Nat) (R : Int) (p : Int → Int) : Prop := ∀ x : Int, 0 ≤ x → x < R → ν a x.toNat = .long (kl (p x))
theorem kaLv {Y : jY} {μ : jM} {a n : Nat} (h : kAL Y μ a n) {x : Int} (h0 : 0 ≤ x) (h1 : x < n) {v : Int64} (e : μ a x.toNat = .long v) : jaL Y μ a 21 (ki x) = some v := by
  unfold jaL
  rw [h.1, if_pos rfl, kjix h0 h1 h.2.2.1, Option.bind_some, e]
  rfl
theorem rowK.cell {μ ν : jM} {a : Nat} {R : Int} {p : Int → Int} (h : rowK μ a R p) (e : ν a = μ a) : rowK ν a R p := fun x x0 x1 => by rw [e]; exact h x x0 x1
theorem rowK.to {μ ν : jM} {a lo hi : Nat} {R : Int} {p : Int → Int} (h : rowK μ a R p) (k : kF lo hi μ ν) (hl : a < lo ∨ hi ≤ a) : rowK ν a R p := h.cell (k.1 a hl)
theorem jw_at {μ : jM} {a : Nat} {x i : Int} {v : Value} (x0 : 0 ≤ x) (i0 : 0 ≤ i) : jw μ a i.toNat v a x.toNat = if x = i then v else μ a x.toNat := by
  by_cases e : x = i
  · rw [if_pos e, e, jw_same]
  · rw [if_neg e, jw_ne _ _ (by omega)]
def tp (l : Int → Int) : Nat → Int → Int
  | 0, j => if j = 0 then 1 else 0
  | i + 1, j => (if j ≤ 0 then 0 else tp l i (j - 1)) - l i * tp l i j
theorem tp_hi (l : Int → Int) : ∀ (i : Nat) (j : Int), (i : Int) < j → tp l i j = 0 := by
  intro i
  induction i with
  | zero => intro j h; exact if_neg (by omega)
  | succ i ih =>
    intro j h
    rw [tp, if_neg (by omega), ih (j - 1) (by omega), ih j (by omega), Int.mul_zero, Int.sub_zero]
set_option maxHeartbeats 1000000 in
theorem X7_multiplyOut {Y : jY} {μ : jM} {r a n m : Nat} (hR : kAI Y μ r n) (hA : kAL Y μ a m) (hra : r ≠ a) {c : Int} (c0 : 0 ≤ c) (cn : c ≤ n) (cm : c < m) {l : Int → Int} (hl : ∀ x : Int, 0 ≤ x → x < c → gi μ r x = l x ∧ -1000 ≤ l x ∧ l x ≤ 1000) : ∃ ν, f_X7_multiplyOut Y r (ki c) a μ = some ν ∧ kF a (a + 1) μ ν ∧ rowK ν a (c + 1) (tp l c.toNat) := by
  have hm := hA.2.2.1
  have k0 : kF a (a + 1) μ (jw μ a (0 : Int).toNat (.long (kl 1))) := kF_L (hA.2.2.2 _ (by omega)) (by omega) (by omega)
  have s0 := fun v => kasL (v := v) hA (x := 0) (by omega) (by omega)
  have t0 : rowK (jw μ a (0 : Int).toNat (.long (kl 1))) a (((0 : Nat) : Int) + 1) (tp l 0) := fun x x0 x1 => by
    have : x = 0 := by omega
    subst this
    exact jw_same _ _ _ _
  simp only [f_X7_multiplyOut, ki_0, kl_1, s0, Option.bind_some]
  generalize jw μ a (0 : Int).toNat (.long (kl 1)) = ξ at *
  refine jit_inv (f := fun (s : Int32 × jM) => b_X7_multiplyOut_6 Y r (ki c) a s.1 s.2) (fun i z => z.1 = ki i ∧ kF a (a + 1) μ z.2 ∧ rowK z.2 a ((i : Int) + 1) (tp l i)) _ c.toNat (s := (ki 0, ξ)) ⟨rfl, k0, t0⟩ (by omega) (fun i z hi hz => ?_)
  obtain ⟨v, ν⟩ := z
  obtain ⟨rfl, z1, z2⟩ := hz
  simp only [] at z1 z2
  by_cases e : i = c.toNat
  · refine ⟨.inr ν, ?_, z1, ?_⟩
    · simp (disch := omega) only [b_X7_multiplyOut_6, ki_0, ki_1, ki_2, ki_3, ki_4, ki_5, ki_6, ki_7, ki_8, ki_9, ki_10, ki_11, ki_12, ki_13, ki_18, ki_20, ki_24, ki_32, ki_36, ki_45, ki_47, ki_48, ki_50, ki_57, ki_60, ki_63, ki_99, ki_100, ki_101, ki_120, ki_255, ki_468, ki_1000, ki_1024, ki_13849, ki_25173, ki_65535, ki_65536, ki_100000, ki_100001, ki_2147483647, ki_2147483648, kl_0, kl_1, kl_2, kl_9223372036854775808, ki_add, ki_sub, ki_mul, ki_neg, kl_add, kl_sub, kl_mul, kl_neg, ki_i2l, kl_l2i, ki_lt, ki_le, ki_eq, kcmp_eq, kcmp_lt, kcmp_le, kcmp_gt, kcmp_ge, Option.bind_some, Option.map_some, kbool0, kbool1, if_pos, if_neg, if_true, if_false, Int.neg_neg, Int.sub_zero, Int.add_zero, Int.zero_add, true_and, and_true, false_and, and_false, false_or, or_false, true_or, or_true, ne_eq, not_false_eq_true, not_true_eq_false]
    · rw [← e]
      rw [show (c : Int) + 1 = (i : Int) + 1 by omega]
      exact z2
  · have hA1 := hA.to z1
    have s1 := fun v => kasL (v := v) hA1 (x := (i : Int) + 1) (by omega) (by omega)
    have k1 : kF a (a + 1) ν (jw ν a ((i : Int) + 1).toNat (.long (kl 0))) := kF_L (hA1.2.2.2 _ (by omega)) (by omega) (by omega)
    have li := hl i (by omega) (by omega)
    have inner : ∃ ω, jit jF (fun (s : Int32 × jM) => b_X7_multiplyOut_22 Y r (ki c) a (ki i) s.1 s.2) (ki ((i : Int) + 1), jw ν a ((i : Int) + 1).toNat (.long (kl 0))) = some (.inl (ki ((i : Int) + 1), ω)) ∧ kF a (a + 1) μ ω ∧ rowK ω a (((i + 1 : Nat) : Int) + 1) (tp l (i + 1)) := by
      obtain ⟨r2, f1, ω, rfl, f2⟩ := jit_inv (f := fun (s : Int32 × jM) => b_X7_multiplyOut_22 Y r (ki c) a (ki i) s.1 s.2) (fun t z => z.1 = ki ((i : Int) + 1 - t) ∧ kF a (a + 1) μ z.2 ∧ (∀ x : Int, (i : Int) + 1 - t < x → x < (i : Int) + 2 → z.2 a x.toNat = .long (kl (tp l (i + 1) x))) ∧ ∀ x : Int, 0 ≤ x → x ≤ (i : Int) + 1 - t → z.2 a x.toNat = .long (kl (tp l i x))) (fun q => ∃ ω, q = .inl (ki ((i : Int) + 1), ω) ∧ kF a (a + 1) μ ω ∧ rowK ω a (((i + 1 : Nat) : Int) + 1) (tp l (i + 1))) (i + 1) (s := (ki ((i : Int) + 1), jw ν a ((i : Int) + 1).toNat (.long (kl 0)))) ⟨by rw [Int.natCast_zero, Int.sub_zero], z1.trans k1, fun x a b => by omega, fun x x0 x1 => by
        simp only []
        rw [jw_at x0 (by omega)]
        by_cases f : x = (i : Int) + 1
        · rw [if_pos f, f, tp_hi l i _ (by omega)]
        · rw [if_neg f]
          exact z2 x x0 (by omega)⟩ (by omega) (fun t z ht hz => by
        obtain ⟨v, ξ⟩ := z
        obtain ⟨rfl, y1, y2, y3⟩ := hz
        simp only [] at y1 y2 y3
        have hA2 := hA.to y1
        have hR2 := hR.to y1
        have q1 := kaI hR2 (x := (i : Int)) (by omega) (by omega)
        rw [y1.gi (by omega), li.1] at q1
        by_cases g : t = i + 1
        · have q2 := kaLv hA2 (x := 0) (by omega) (by omega) (y3 0 (by omega) (by omega))
          have s2 := fun v => kasL (v := v) hA2 (x := 0) (by omega) (by omega)
          have k2 : kF a (a + 1) ξ (jw ξ a (0 : Int).toNat (.long (kl (tp l (i + 1) 0)))) := kF_L (hA2.2.2.2 _ (by omega)) (by omega) (by omega)
          have ev : tp l (i + 1) 0 = -l i * tp l i 0 := by rw [tp, if_pos (by omega), Int.zero_sub, Int.neg_mul]
          refine ⟨.inr (.inl (ki ((i : Int) + 1), jw ξ a (0 : Int).toNat (.long (kl (tp l (i + 1) 0))))), ?_, _, rfl, y1.trans k2, fun x x0 x1 => ?_⟩
          · rw [ev]
            simp (disch := omega) only [b_X7_multiplyOut_22, q1, q2, s2, ki_0, ki_1, ki_2, ki_3, ki_4, ki_5, ki_6, ki_7, ki_8, ki_9, ki_10, ki_11, ki_12, ki_13, ki_18, ki_20, ki_24, ki_32, ki_36, ki_45, ki_47, ki_48, ki_50, ki_57, ki_60, ki_63, ki_99, ki_100, ki_101, ki_120, ki_255, ki_468, ki_1000, ki_1024, ki_13849, ki_25173, ki_65535, ki_65536, ki_100000, ki_100001, ki_2147483647, ki_2147483648, kl_0, kl_1, kl_2, kl_9223372036854775808, ki_add, ki_sub, ki_mul, ki_neg, kl_add, kl_sub, kl_mul, kl_neg, ki_i2l, kl_l2i, ki_lt, ki_le, ki_eq, kcmp_eq, kcmp_lt, kcmp_le, kcmp_gt, kcmp_ge, Option.bind_some, Option.map_some, kbool0, kbool1, if_pos, if_neg, if_true, if_false, Int.neg_neg, Int.sub_zero, Int.add_zero, Int.zero_add, true_and, and_true, false_and, and_false, false_or, or_false, true_or, or_true, ne_eq, not_false_eq_true, not_true_eq_false]
          · rw [jw_at x0 (by omega)]
            by_cases f : x = 0
            · rw [if_pos f, f]
            · rw [if_neg f]
              exact y2 x (by omega) (by omega)
        · have q2 := kaLv hA2 (x := (i : Int) + 1 - t) (by omega) (by omega) (y3 _ (by omega) (by omega))
          have q3 := kaLv hA2 (x := (i : Int) + 1 - t - 1) (by omega) (by omega) (y3 _ (by omega) (by omega))
          have s2 := fun v => kasL (v := v) hA2 (x := (i : Int) + 1 - t) (by omega) (by omega)
          have k2 : kF a (a + 1) ξ (jw ξ a ((i : Int) + 1 - t).toNat (.long (kl (tp l (i + 1) ((i : Int) + 1 - t))))) := kF_L (hA2.2.2.2 _ (by omega)) (by omega) (by omega)
          have ev : tp l (i + 1) ((i : Int) + 1 - t) = tp l i ((i : Int) + 1 - t - 1) - l i * tp l i ((i : Int) + 1 - t) := by rw [tp, if_neg (by omega)]
          refine ⟨.inl (ki ((i : Int) + 1 - ((t + 1 : Nat) : Int)), jw ξ a ((i : Int) + 1 - t).toNat (.long (kl (tp l (i + 1) ((i : Int) + 1 - t))))), ?_, by omega, rfl, y1.trans k2, fun x x0 x1 => ?_, fun x x0 x1 => ?_⟩
          · rw [ev]
            simp (disch := omega) only [b_X7_multiplyOut_22, q1, q2, q3, s2, ki_0, ki_1, ki_2, ki_3, ki_4, ki_5, ki_6, ki_7, ki_8, ki_9, ki_10, ki_11, ki_12, ki_13, ki_18, ki_20, ki_24, ki_32, ki_36, ki_45, ki_47, ki_48, ki_50, ki_57, ki_60, ki_63, ki_99, ki_100, ki_101, ki_120, ki_255, ki_468, ki_1000, ki_1024, ki_13849, ki_25173, ki_65535, ki_65536, ki_100000, ki_100001, ki_2147483647, ki_2147483648, kl_0, kl_1, kl_2, kl_9223372036854775808, ki_add, ki_sub, ki_mul, ki_neg, kl_add, kl_sub, kl_mul, kl_neg, ki_i2l, kl_l2i, ki_lt, ki_le, ki_eq, kcmp_eq, kcmp_lt, kcmp_le, kcmp_gt, kcmp_ge, Option.bind_some, Option.map_some, kbool0, kbool1, if_pos, if_neg, if_true, if_false, Int.neg_neg, Int.sub_zero, Int.add_zero, Int.zero_add, true_and, and_true, false_and, and_false, false_or, or_false, true_or, or_true, ne_eq, not_false_eq_true, not_true_eq_false]
            rw [show (i : Int) + 1 - (t : Int) + -1 = (i : Int) + 1 - ((t + 1 : Nat) : Int) by omega]
          · simp only []
            rw [jw_at (by omega) (by omega)]
            by_cases f : x = (i : Int) + 1 - t
            · rw [if_pos f, f]
            · rw [if_neg f]
              exact y2 x (by omega) x1
          · simp only []
            rw [jw_at x0 (by omega), if_neg (by omega)]
            exact y3 x x0 (by omega))
      exact ⟨ω, f1, f2⟩
    obtain ⟨ω, f1, f2, f3⟩ := inner
    refine ⟨.inl (ki ((i : Int) + 1), ω), ?_, by omega, by rw [Int.natCast_add, Int.natCast_one], f2, f3⟩
    simp (disch := omega) only [b_X7_multiplyOut_6, s1, ki_0, ki_1, ki_2, ki_3, ki_4, ki_5, ki_6, ki_7, ki_8, ki_9, ki_10, ki_11, ki_12, ki_13, ki_18, ki_20, ki_24, ki_32, ki_36, ki_45, ki_47, ki_48, ki_50, ki_57, ki_60, ki_63, ki_99, ki_100, ki_101, ki_120, ki_255, ki_468, ki_1000, ki_1024, ki_13849, ki_25173, ki_65535, ki_65536, ki_100000, ki_100001, ki_2147483647, ki_2147483648, kl_0, kl_1, kl_2, kl_9223372036854775808, ki_add, ki_sub, ki_mul, ki_neg, kl_add, kl_sub, kl_mul, kl_neg, ki_i2l, kl_l2i, ki_lt, ki_le, ki_eq, kcmp_eq, kcmp_lt, kcmp_le, kcmp_gt, kcmp_ge, Option.bind_some, Option.map_some, kbool0, kbool1, if_pos, if_neg, if_true, if_false, Int.neg_neg, Int.sub_zero, Int.add_zero, Int.zero_add, true_and, and_true, false_and, and_false, false_or, or_false, true_or, or_true, ne_eq, not_false_eq_true, not_true_eq_false]
    exact f1
/-- the reference's: a factor more -/
theorem X12_times {Y : jY} {μ : jM} {a m : Nat} (hA : kAL Y μ a m) {i : Nat} (him : i + 1 < m) {l : Int → Int} (hl : -1000 ≤ l i ∧ l i ≤ 1000) (h : rowK μ a ((i : Int) + 1) (tp l i)) : ∃ ν, f_X12_times Y a (ki i) (ki (l i)) μ = some ν ∧ kF a (a + 1) μ ν ∧ rowK ν a (((i + 1 : Nat) : Int) + 1) (tp l (i + 1)) := by
  have hm := hA.2.2.1
  have q0 := kaLv hA (x := (i : Int)) (by omega) (by omega) (h i (by omega) (by omega))
  have s0 := fun v => kasL (v := v) hA (x := (i : Int) + 1) (by omega) (by omega)
  have k0 : kF a (a + 1) μ (jw μ a ((i : Int) + 1).toNat (.long (kl (tp l i i)))) := kF_L (hA.2.2.2 _ (by omega)) (by omega) (by omega)
  have e1 : tp l (i + 1) ((i : Int) + 1) = tp l i i := by
    rw [tp, if_neg (by omega), tp_hi l i ((i : Int) + 1) (by omega), Int.mul_zero, Int.sub_zero, show (i : Int) + 1 - 1 = i by omega]
  simp (disch := omega) only [f_X12_times, q0, s0, ki_0, ki_1, ki_2, ki_3, ki_4, ki_5, ki_6, ki_7, ki_8, ki_9, ki_10, ki_11, ki_12, ki_13, ki_18, ki_20, ki_24, ki_32, ki_36, ki_45, ki_47, ki_48, ki_50, ki_57, ki_60, ki_63, ki_99, ki_100, ki_101, ki_120, ki_255, ki_468, ki_1000, ki_1024, ki_13849, ki_25173, ki_65535, ki_65536, ki_100000, ki_100001, ki_2147483647, ki_2147483648, kl_0, kl_1, kl_2, kl_9223372036854775808, ki_add, ki_sub, ki_mul, ki_neg, kl_add, kl_sub, kl_mul, kl_neg, ki_i2l, kl_l2i, ki_lt, ki_le, ki_eq, kcmp_eq, kcmp_lt, kcmp_le, kcmp_gt, kcmp_ge, Option.bind_some, Option.map_some, kbool0, kbool1, if_pos, if_neg, if_true, if_false, Int.neg_neg, Int.sub_zero, Int.add_zero, Int.zero_add, true_and, and_true, false_and, and_false, false_or, or_false, true_or, or_true, ne_eq, not_false_eq_true, not_true_eq_false]
  refine jit_inv (f := fun (s : Int32 × jM) => b_X12_times_10 Y a (ki (l i)) s.1 s.2) (fun t z => z.1 = ki ((i : Int) - t) ∧ kF a (a + 1) μ z.2 ∧ (∀ x : Int, (i : Int) - t < x → x < (i : Int) + 2 → z.2 a x.toNat = .long (kl (tp l (i + 1) x))) ∧ ∀ x : Int, 0 ≤ x → x ≤ (i : Int) - t → z.2 a x.toNat = .long (kl (tp l i x))) _ i (s := (ki (i : Int), jw μ a ((i : Int) + 1).toNat (.long (kl (tp l i i))))) ⟨by rw [Int.natCast_zero, Int.sub_zero], k0, fun x a b => ?_, fun x x0 x1 => ?_⟩ (by omega) (fun t z ht hz => ?_)
  · have : x = (i : Int) + 1 := by omega
    subst this
    simp only []
    rw [jw_same, e1]
  · simp only []
    rw [jw_at x0 (by omega), if_neg (by omega)]
    exact h x x0 (by omega)
  · obtain ⟨v, ξ⟩ := z
    obtain ⟨rfl, y1, y2, y3⟩ := hz
    simp only [] at y1 y2 y3
    have hA2 := hA.to y1
    by_cases g : t = i
    · have q2 := kaLv hA2 (x := 0) (by omega) (by omega) (y3 0 (by omega) (by omega))
      have s2 := fun v => kasL (v := v) hA2 (x := 0) (by omega) (by omega)
      have k2 : kF a (a + 1) ξ (jw ξ a (0 : Int).toNat (.long (kl (tp l (i + 1) 0)))) := kF_L (hA2.2.2.2 _ (by omega)) (by omega) (by omega)
      have ev : tp l (i + 1) 0 = -l i * tp l i 0 := by rw [tp, if_pos (by omega), Int.zero_sub, Int.neg_mul]
      refine ⟨.inr (jw ξ a (0 : Int).toNat (.long (kl (tp l (i + 1) 0)))), ?_, y1.trans k2, fun x x0 x1 => ?_⟩
      · rw [ev]
        simp (disch := omega) only [b_X12_times_10, q2, s2, ki_0, ki_1, ki_2, ki_3, ki_4, ki_5, ki_6, ki_7, ki_8, ki_9, ki_10, ki_11, ki_12, ki_13, ki_18, ki_20, ki_24, ki_32, ki_36, ki_45, ki_47, ki_48, ki_50, ki_57, ki_60, ki_63, ki_99, ki_100, ki_101, ki_120, ki_255, ki_468, ki_1000, ki_1024, ki_13849, ki_25173, ki_65535, ki_65536, ki_100000, ki_100001, ki_2147483647, ki_2147483648, kl_0, kl_1, kl_2, kl_9223372036854775808, ki_add, ki_sub, ki_mul, ki_neg, kl_add, kl_sub, kl_mul, kl_neg, ki_i2l, kl_l2i, ki_lt, ki_le, ki_eq, kcmp_eq, kcmp_lt, kcmp_le, kcmp_gt, kcmp_ge, Option.bind_some, Option.map_some, kbool0, kbool1, if_pos, if_neg, if_true, if_false, Int.neg_neg, Int.sub_zero, Int.add_zero, Int.zero_add, true_and, and_true, false_and, and_false, false_or, or_false, true_or, or_true, ne_eq, not_false_eq_true, not_true_eq_false]
      · rw [jw_at x0 (by omega)]
        by_cases f : x = 0
        · rw [if_pos f, f]
        · rw [if_neg f]
          exact y2 x (by omega) (by omega)
    · have q2 := kaLv hA2 (x := (i : Int) - t) (by omega) (by omega) (y3 _ (by omega) (by omega))
      have q3 := kaLv hA2 (x := (i : Int) - t - 1) (by omega) (by omega) (y3 _ (by omega) (by omega))
      have s2 := fun v => kasL (v := v) hA2 (x := (i : Int) - t) (by omega) (by omega)
      have k2 : kF a (a + 1) ξ (jw ξ a ((i : Int) - t).toNat (.long (kl (tp l (i + 1) ((i : Int) - t))))) := kF_L (hA2.2.2.2 _ (by omega)) (by omega) (by omega)
      have ev : tp l (i + 1) ((i : Int) - t) = tp l i ((i : Int) - t - 1) - l i * tp l i ((i : Int) - t) := by rw [tp, if_neg (by omega)]
      refine ⟨.inl (ki ((i : Int) - ((t + 1 : Nat) : Int)), jw ξ a ((i : Int) - t).toNat (.long (kl (tp l (i + 1) ((i : Int) - t))))), ?_, by omega, rfl, y1.trans k2, fun x x0 x1 => ?_, fun x x0 x1 => ?_⟩
      · rw [ev]
        simp (disch := omega) only [b_X12_times_10, q2, q3, s2, ki_0, ki_1, ki_2, ki_3, ki_4, ki_5, ki_6, ki_7, ki_8, ki_9, ki_10, ki_11, ki_12, ki_13, ki_18, ki_20, ki_24, ki_32, ki_36, ki_45, ki_47, ki_48, ki_50, ki_57, ki_60, ki_63, ki_99, ki_100, ki_101, ki_120, ki_255, ki_468, ki_1000, ki_1024, ki_13849, ki_25173, ki_65535, ki_65536, ki_100000, ki_100001, ki_2147483647, ki_2147483648, kl_0, kl_1, kl_2, kl_9223372036854775808, ki_add, ki_sub, ki_mul, ki_neg, kl_add, kl_sub, kl_mul, kl_neg, ki_i2l, kl_l2i, ki_lt, ki_le, ki_eq, kcmp_eq, kcmp_lt, kcmp_le, kcmp_gt, kcmp_ge, Option.bind_some, Option.map_some, kbool0, kbool1, if_pos, if_neg, if_true, if_false, Int.neg_neg, Int.sub_zero, Int.add_zero, Int.zero_add, true_and, and_true, false_and, and_false, false_or, or_false, true_or, or_true, ne_eq, not_false_eq_true, not_true_eq_false]
        rw [show (i : Int) - (t : Int) + -1 = (i : Int) - ((t + 1 : Nat) : Int) by omega]
      · simp only []
        rw [jw_at (by omega) (by omega)]
        by_cases f : x = (i : Int) - t
        · rw [if_pos f, f]
        · rw [if_neg f]
          exact y2 x (by omega) x1
      · simp only []
        rw [jw_at x0 (by omega), if_neg (by omega)]
        exact y3 x x0 (by omega)
/-- moments: from the two polynomials -/
def vf (N : Int) (U W f : Int → Int) (k : Nat) : Nat → Int
  | 0 => if (k : Int) < N then W (N - 1 - k) else 0
  | j + 1 => vf N U W f k j - U (N - ((j : Int) + 1)) * f ((k : Int) - ((j : Int) + 1))
def moT (N : Int) (U W : Int → Int) : Nat → Int → Int
  | 0 => fun _ => 0
  | k + 1 => fun x => if x = k then vf N U W (moT N U W k) k (min k N.toNat) else moT N U W k x
theorem vf_congr {N : Int} {U W f g : Int → Int} {k : Nat} : ∀ j : Nat, j ≤ k → (∀ x : Int, 0 ≤ x → x < k → f x = g x) → vf N U W f k j = vf N U W g k j := by
  intro j
  induction j with
  | zero => intro _ _; rfl
  | succ j ih =>
    intro hj h
    rw [vf, ih (by omega) h, h _ (by omega) (by omega), vf]
theorem moT_stay (N : Int) (U W : Int → Int) (k : Nat) {x : Int} (hx : x < k) : ∀ d : Nat, moT N U W (k + d) x = moT N U W k x := by
  intro d
  induction d with
  | zero => rfl
  | succ d ih =>
    rw [← Nat.add_assoc]
    show (if x = ((k + d : Nat) : Int) then vf N U W (moT N U W (k + d)) (k + d) (min (k + d) N.toNat) else moT N U W (k + d) x) = _
    rw [if_neg (by omega), ih]
set_option maxHeartbeats 1000000 in
theorem X7_rebuild {Y : jY} {μ : jM} (hX : kX Y μ) {N : Int} {l m : Int → Int} (e0 : gi μ 10 0 = N) (h1 : 1 ≤ N) (h4 : N ≤ 4) (hl : ∀ x : Int, 0 ≤ x → x < N → gi μ 11 x = l x ∧ -1000 ≤ l x ∧ l x ≤ 1000) (hm : ∀ x : Int, 0 ≤ x → x < N - 1 → gi μ 12 x = m x ∧ -1000 ≤ m x ∧ m x ≤ 1000) : ∃ ν, f_X7_rebuild Y 27 10 μ = some ν ∧ kF 27 31 μ ν ∧ gi ν 27 0 = N ∧ rowK ν 28 (N + 1) (tp l N.toNat) ∧ rowK ν 29 N (tp m (N - 1).toNat) ∧ rowK ν 30 8 (moT N (tp l N.toNat) (tp m (N - 1).toNat) 8) := by
  have g := kN.gr hX.n10
  rw [e0] at g
  have k0 : kF 27 31 μ (jw μ 27 0 (.int (ki N))) := kF_I hX.i27_0 (by omega) (by omega)
  have w0 : gi (jw μ 27 0 (.int (ki N))) 27 0 = N := by rw [gi_jw _ _ (by omega) (by omega), if_pos ⟨rfl, rfl⟩]
  have pr := fun v => hX.p27 (μ2 := μ) (k := 0) (v := v)
  generalize hξ : jw μ 27 0 (.int (ki N)) = ξ at *
  have hX0 := hX.to k0
  have g0 := kX.g27_0 hX0
  rw [w0] at g0
  obtain ⟨ν1, c1, k1, t1⟩ := X7_multiplyOut hX0.n10.aa hX0.a28 (by omega) (c := N) (l := l) (by omega) (by omega) (by omega) (fun x a b => by rw [k0.gi (by omega)]; exact hl x a b)
  have k01 := k0.trans (k1.mono (lo' := 27) (hi' := 31) (by omega) (by omega))
  have hX1 := hX.to k01
  have g1 := kX.g27_0 hX1
  rw [k1.gi (by omega), w0] at g1
  obtain ⟨ν2, c2, k2, t2⟩ := X7_multiplyOut hX1.n10.ac hX1.a29 (by omega) (c := N - 1) (l := m) (by omega) (by show N - 1 ≤ ((3 : Nat) : Int); omega) (by show N - 1 < ((4 : Nat) : Int); omega) (fun x a b => by rw [k01.gi (by omega)]; exact hm x a b)
  have k02 := k01.trans (k2.mono (lo' := 27) (hi' := 31) (by omega) (by omega))
  have t1' := t1.to k2 (by omega)
  rw [show N - 1 + 1 = N by omega] at t2
  have w2 : gi ν2 27 0 = N := by rw [k2.gi (by omega), k1.gi (by omega), w0]
  have main : ∃ ω, jit jF (fun (s : Int32 × jM) => b_X7_rebuild_42 Y 27 s.1 s.2) ((0 : Int32), ν2) = some ω ∧ kF 30 31 ν2 ω ∧ rowK ω 30 8 (moT N (tp l N.toNat) (tp m (N - 1).toNat) 8) := by
    clear c1 c2 pr hξ
    generalize tp l N.toNat = U at *
    generalize tp m (N - 1).toNat = W at *
    refine jit_inv (f := fun (s : Int32 × jM) => b_X7_rebuild_42 Y 27 s.1 s.2) (fun k z => z.1 = ki k ∧ kF 30 31 ν2 z.2 ∧ rowK z.2 30 k (moT N U W k)) _ 8 (s := ((0 : Int32), ν2)) ⟨rfl, kF.refl, fun x a b => by omega⟩ (by omega) (fun k z hk hz => ?_)
    obtain ⟨v, ν⟩ := z
    obtain ⟨rfl, z1, z2⟩ := hz
    simp only [] at z1 z2
    have kz := k02.trans (z1.mono (lo' := 27) (hi' := 31) (by omega) (by omega))
    have hXz := hX.to kz
    have gz := kX.g27_0 hXz
    rw [z1.gi (by omega), w2] at gz
    by_cases e8 : k = 8
    · subst e8
      refine ⟨.inr ν, ?_, z1, z2⟩
      simp (disch := omega) only [b_X7_rebuild_42, ki_0, ki_1, ki_2, ki_3, ki_4, ki_5, ki_6, ki_7, ki_8, ki_9, ki_10, ki_11, ki_12, ki_13, ki_18, ki_20, ki_24, ki_32, ki_36, ki_45, ki_47, ki_48, ki_50, ki_57, ki_60, ki_63, ki_99, ki_100, ki_101, ki_120, ki_255, ki_468, ki_1000, ki_1024, ki_13849, ki_25173, ki_65535, ki_65536, ki_100000, ki_100001, ki_2147483647, ki_2147483648, kl_0, kl_1, kl_2, kl_9223372036854775808, ki_add, ki_sub, ki_mul, ki_neg, kl_add, kl_sub, kl_mul, kl_neg, ki_i2l, kl_l2i, ki_lt, ki_le, ki_eq, kcmp_eq, kcmp_lt, kcmp_le, kcmp_gt, kcmp_ge, Option.bind_some, Option.map_some, kbool0, kbool1, if_pos, if_neg, if_true, if_false, Int.neg_neg, Int.sub_zero, Int.add_zero, Int.zero_add, true_and, and_true, false_and, and_false, false_or, or_false, true_or, or_true, ne_eq, not_false_eq_true, not_true_eq_false]
    · have s1 := fun v => kasL (v := v) hXz.a30 (x := (k : Int)) (by omega) (by omega)
      have inner : jit jF (fun (s : Int64 × Int32 × jM) => b_X7_rebuild_77 Y 27 (ki k) s.1 s.2.1 s.2.2) (kl (vf N U W (moT N U W k) k 0), (1 : Int32), ν) = some (.inl (ki ((k + 1 : Nat) : Int), jw ν 30 k (.long (kl (vf N U W (moT N U W k) k (min k N.toNat)))))) := by
        refine jit_run (fun j => (kl (vf N U W (moT N U W k) k j), ki ((j : Int) + 1), ν)) _ (min k N.toNat) rfl (by omega) (fun j hj => ?_) ?_
        · have q1 := kaLv hXz.a28 (x := N - ((j : Int) + 1)) (by omega) (by omega) ((t1'.to z1 (by omega)) _ (by omega) (by omega))
          have q2 := kaLv hXz.a30 (x := (k : Int) - ((j : Int) + 1)) (by omega) (by omega) (z2 _ (by omega) (by omega))
          simp (disch := omega) only [b_X7_rebuild_77, gz, kX.o27_1 hXz, kX.o27_3 hXz, q1, q2, ki_0, ki_1, ki_2, ki_3, ki_4, ki_5, ki_6, ki_7, ki_8, ki_9, ki_10, ki_11, ki_12, ki_13, ki_18, ki_20, ki_24, ki_32, ki_36, ki_45, ki_47, ki_48, ki_50, ki_57, ki_60, ki_63, ki_99, ki_100, ki_101, ki_120, ki_255, ki_468, ki_1000, ki_1024, ki_13849, ki_25173, ki_65535, ki_65536, ki_100000, ki_100001, ki_2147483647, ki_2147483648, kl_0, kl_1, kl_2, kl_9223372036854775808, ki_add, ki_sub, ki_mul, ki_neg, kl_add, kl_sub, kl_mul, kl_neg, ki_i2l, kl_l2i, ki_lt, ki_le, ki_eq, kcmp_eq, kcmp_lt, kcmp_le, kcmp_gt, kcmp_ge, Option.bind_some, Option.map_some, kbool0, kbool1, if_pos, if_neg, if_true, if_false, Int.neg_neg, Int.sub_zero, Int.add_zero, Int.zero_add, true_and, and_true, false_and, and_false, false_or, or_false, true_or, or_true, ne_eq, not_false_eq_true, not_true_eq_false, vf, Int.natCast_add, Int.natCast_one]
        · by_cases hkN : (k : Int) ≤ N
          · rw [show min k N.toNat = k by omega]
            simp (disch := omega) only [b_X7_rebuild_77, b_X7_rebuild_123, kX.o27_3 hXz, s1, ki_0, ki_1, ki_2, ki_3, ki_4, ki_5, ki_6, ki_7, ki_8, ki_9, ki_10, ki_11, ki_12, ki_13, ki_18, ki_20, ki_24, ki_32, ki_36, ki_45, ki_47, ki_48, ki_50, ki_57, ki_60, ki_63, ki_99, ki_100, ki_101, ki_120, ki_255, ki_468, ki_1000, ki_1024, ki_13849, ki_25173, ki_65535, ki_65536, ki_100000, ki_100001, ki_2147483647, ki_2147483648, kl_0, kl_1, kl_2, kl_9223372036854775808, ki_add, ki_sub, ki_mul, ki_neg, kl_add, kl_sub, kl_mul, kl_neg, ki_i2l, kl_l2i, ki_lt, ki_le, ki_eq, kcmp_eq, kcmp_lt, kcmp_le, kcmp_gt, kcmp_ge, Option.bind_some, Option.map_some, kbool0, kbool1, if_pos, if_neg, if_true, if_false, Int.neg_neg, Int.sub_zero, Int.add_zero, Int.zero_add, true_and, and_true, false_and, and_false, false_or, or_false, true_or, or_true, ne_eq, not_false_eq_true, not_true_eq_false, Int.natCast_add, Int.natCast_one, Int.toNat_natCast]
          · rw [show min k N.toNat = N.toNat by omega]
            simp (disch := omega) only [b_X7_rebuild_77, b_X7_rebuild_123, gz, kX.o27_3 hXz, s1, ki_0, ki_1, ki_2, ki_3, ki_4, ki_5, ki_6, ki_7, ki_8, ki_9, ki_10, ki_11, ki_12, ki_13, ki_18, ki_20, ki_24, ki_32, ki_36, ki_45, ki_47, ki_48, ki_50, ki_57, ki_60, ki_63, ki_99, ki_100, ki_101, ki_120, ki_255, ki_468, ki_1000, ki_1024, ki_13849, ki_25173, ki_65535, ki_65536, ki_100000, ki_100001, ki_2147483647, ki_2147483648, kl_0, kl_1, kl_2, kl_9223372036854775808, ki_add, ki_sub, ki_mul, ki_neg, kl_add, kl_sub, kl_mul, kl_neg, ki_i2l, kl_l2i, ki_lt, ki_le, ki_eq, kcmp_eq, kcmp_lt, kcmp_le, kcmp_gt, kcmp_ge, Option.bind_some, Option.map_some, kbool0, kbool1, if_pos, if_neg, if_true, if_false, Int.neg_neg, Int.sub_zero, Int.add_zero, Int.zero_add, true_and, and_true, false_and, and_false, false_or, or_false, true_or, or_true, ne_eq, not_false_eq_true, not_true_eq_false, Int.natCast_add, Int.natCast_one, Int.toNat_natCast]
      have kf : kF 30 31 ν (jw ν 30 k (.long (kl (vf N U W (moT N U W k) k (min k N.toNat))))) := kF_L (hXz.a30.2.2.2 _ (by omega)) (by omega) (by omega)
      refine ⟨.inl (ki ((k + 1 : Nat) : Int), jw ν 30 k (.long (kl (vf N U W (moT N U W k) k (min k N.toNat))))), ?_, by omega, rfl, z1.trans kf, fun x x0 x1 => ?_⟩
      · have e := inner
        by_cases hkN : (k : Int) < N
        · have q1 := kaLv hXz.a29 (x := N - 1 - k) (by omega) (by omega) ((t2.to z1 (by omega)) _ (by omega) (by omega))
          have v0 : vf N U W (moT N U W k) k 0 = W (N - 1 - k) := if_pos hkN
          rw [v0] at e
          simp (disch := omega) only [b_X7_rebuild_42, b_X7_rebuild_73, gz, kX.o27_2 hXz, q1, ki_0, ki_1, ki_2, ki_3, ki_4, ki_5, ki_6, ki_7, ki_8, ki_9, ki_10, ki_11, ki_12, ki_13, ki_18, ki_20, ki_24, ki_32, ki_36, ki_45, ki_47, ki_48, ki_50, ki_57, ki_60, ki_63, ki_99, ki_100, ki_101, ki_120, ki_255, ki_468, ki_1000, ki_1024, ki_13849, ki_25173, ki_65535, ki_65536, ki_100000, ki_100001, ki_2147483647, ki_2147483648, kl_0, kl_1, kl_2, kl_9223372036854775808, ki_add, ki_sub, ki_mul, ki_neg, kl_add, kl_sub, kl_mul, kl_neg, ki_i2l, kl_l2i, ki_lt, ki_le, ki_eq, kcmp_eq, kcmp_lt, kcmp_le, kcmp_gt, kcmp_ge, Option.bind_some, Option.map_some, kbool0, kbool1, if_pos, if_neg, if_true, if_false, Int.neg_neg, Int.sub_zero, Int.add_zero, Int.zero_add, true_and, and_true, false_and, and_false, false_or, or_false, true_or, or_true, ne_eq, not_false_eq_true, not_true_eq_false]
          exact e
        · have v0 : vf N U W (moT N U W k) k 0 = 0 := if_neg hkN
          rw [v0] at e
          simp (disch := omega) only [b_X7_rebuild_42, b_X7_rebuild_73, gz, ki_0, ki_1, ki_2, ki_3, ki_4, ki_5, ki_6, ki_7, ki_8, ki_9, ki_10, ki_11, ki_12, ki_13, ki_18, ki_20, ki_24, ki_32, ki_36, ki_45, ki_47, ki_48, ki_50, ki_57, ki_60, ki_63, ki_99, ki_100, ki_101, ki_120, ki_255, ki_468, ki_1000, ki_1024, ki_13849, ki_25173, ki_65535, ki_65536, ki_100000, ki_100001, ki_2147483647, ki_2147483648, kl_0, kl_1, kl_2, kl_9223372036854775808, ki_add, ki_sub, ki_mul, ki_neg, kl_add, kl_sub, kl_mul, kl_neg, ki_i2l, kl_l2i, ki_lt, ki_le, ki_eq, kcmp_eq, kcmp_lt, kcmp_le, kcmp_gt, kcmp_ge, Option.bind_some, Option.map_some, kbool0, kbool1, if_pos, if_neg, if_true, if_false, Int.neg_neg, Int.sub_zero, Int.add_zero, Int.zero_add, true_and, and_true, false_and, and_false, false_or, or_false, true_or, or_true, ne_eq, not_false_eq_true, not_true_eq_false]
          exact e
      · simp only []
        have := jw_at (μ := ν) (a := 30) (x := x) (i := (k : Int)) (v := .long (kl (vf N U W (moT N U W k) k (min k N.toNat)))) x0 (by omega)
        rw [Int.toNat_natCast] at this
        rw [this]
        simp only [moT]
        by_cases f : x = k
        · rw [if_pos f, if_pos f]
        · rw [if_neg f, if_neg f]
          exact z2 x x0 (by omega)
  obtain ⟨ω, c3, k3, t3⟩ := main
  refine ⟨ω, ?_, k02.trans (k3.mono (by omega) (by omega)), by rw [k3.gi (by omega), w2], t1'.to k3 (by omega), t2.to k3 (by omega), t3⟩
  simp (disch := omega) only [f_X7_rebuild, g, pr, hξ, kN.ga hX0.n10, g0, kX.o27_1 hX0, c1, kN.gc hX1.n10, g1, kX.o27_2 hX1, c2, ki_0, ki_1, ki_2, ki_3, ki_4, ki_5, ki_6, ki_7, ki_8, ki_9, ki_10, ki_11, ki_12, ki_13, ki_18, ki_20, ki_24, ki_32, ki_36, ki_45, ki_47, ki_48, ki_50, ki_57, ki_60, ki_63, ki_99, ki_100, ki_101, ki_120, ki_255, ki_468, ki_1000, ki_1024, ki_13849, ki_25173, ki_65535, ki_65536, ki_100000, ki_100001, ki_2147483647, ki_2147483648, kl_0, kl_1, kl_2, kl_9223372036854775808, ki_add, ki_sub, ki_mul, ki_neg, kl_add, kl_sub, kl_mul, kl_neg, ki_i2l, kl_l2i, ki_lt, ki_le, ki_eq, kcmp_eq, kcmp_lt, kcmp_le, kcmp_gt, kcmp_ge, Option.bind_some, Option.map_some, kbool0, kbool1, if_pos, if_neg, if_true, if_false, Int.neg_neg, Int.sub_zero, Int.add_zero, Int.zero_add, true_and, and_true, false_and, and_false, false_or, or_false, true_or, or_true, ne_eq, not_false_eq_true, not_true_eq_false]
  exact c3
