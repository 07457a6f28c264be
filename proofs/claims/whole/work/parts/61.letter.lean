/-! TEXTS told: letter, read -/
def at0 : List Int → Nat → Int
  | [], _ => 0
  | a :: _, 0 => a
  | _ :: t, i + 1 => at0 t i
theorem at0_app : ∀ (t s : List Int) (i : Nat), i < t.length → at0 (t ++ s) i = at0 t i := by
  intro t
  induction t with
  | nil => intro s i h; exact absurd h (by simp)
  | cons a t ih =>
    intro s i h
    cases i with
    | zero => rfl
    | succ i => exact ih s i (by simpa using h)
theorem at0_end : ∀ (t : List Int) (b : Int), at0 (t ++ [b]) t.length = b := by
  intro t
  induction t with
  | nil => intro b; rfl
  | cons a t ih => intro b; exact ih b
def dgA (v : Int) : List Int := (if 9 < v then [48 + v / 10] else []) ++ [48 + v % 10]
def dg (v : Int) : List Int := if v < 0 then [45] ++ dgA (-v) else dgA v
def rowT (g : Int → Int) : Nat → List Int
  | 0 => []
  | i + 1 => (if i = 0 then rowT g i else rowT g i ++ [32]) ++ dg (g i)
def textT (a c : Int → Int) (n m : Nat) : List Int := rowT a n ++ [47] ++ rowT c m
theorem dgA_len (v : Int) : (dgA v).length ≤ 2 := by
  unfold dgA
  split <;> simp
theorem dgA_pos (v : Int) : 1 ≤ (dgA v).length := by
  unfold dgA
  split <;> simp
theorem dg_len {v : Int} (h1 : -9 ≤ v) : (dg v).length ≤ 2 := by
  unfold dg
  split
  · have : dgA (-v) = [48 + -v % 10] := by
      unfold dgA
      rw [if_neg (by omega)]
      rfl
    rw [this]
    simp
  · exact dgA_len v
theorem rowT_len {g : Int → Int} : ∀ i : Nat, (∀ x : Nat, x < i → -9 ≤ g x) → (rowT g i).length ≤ 3 * i := by
  intro i
  induction i with
  | zero => intro _; simp [rowT]
  | succ i ih =>
    intro h
    have a := ih (fun x hx => h x (by omega))
    have b := dg_len (h i (by omega))
    unfold rowT
    split
    · rw [List.length_append]; omega
    · rw [List.length_append, List.length_append, List.length_singleton]; omega
theorem rowT_congr {g k : Int → Int} : ∀ i : Nat, (∀ x : Nat, x < i → g x = k x) → rowT g i = rowT k i := by
  intro i
  induction i with
  | zero => intro _; rfl
  | succ i ih =>
    intro h
    unfold rowT
    rw [ih (fun x hx => h x (by omega)), h i (by omega)]
/-- the class's letters -/
def ltX (μ : jM) (t : List Int) : Prop := gi μ 7 1 = t.length ∧ ∀ i : Nat, i < t.length → gi μ 8 i = at0 t i
theorem klen {Y : jY} {a n : Nat} {μ : jM} (h : kAI Y μ a n) : jlen Y a 20 = some (ki n) := by
  unfold jlen
  rw [h.1, if_pos rfl]
  have := h.2.2.1
  show some (nI n) = some (ki n)
  rfl
theorem X2_addByte {Y : jY} {μ : jM} (hX : kX Y μ) {t : List Int} (ht : ltX μ t) (hl : t.length < 60) {b : Int} (h1 : -1000 ≤ b) (h2 : b ≤ 1000) : ∃ ν, f_X2_addByte Y 7 (ki b) μ = some ν ∧ kF 7 9 μ ν ∧ ltX ν (t ++ [b]) := by
  have g := kX.g7_1 hX
  rw [ht.1] at g
  have q := klen hX.a8
  have s := fun v => kasI (v := v) hX.a8 (x := (t.length : Int)) (by omega) (by omega)
  have kf1 : kF 7 9 μ (jw μ 8 t.length (.int (ki b))) := kF_I (hX.a8.2.2.2 _ (by omega)) (by omega) (by omega)
  have hX2 := hX.to kf1
  have g2 := kX.g7_1 hX2
  rw [gi_jw _ _ (by omega) (by omega), if_neg (by omega), ht.1] at g2
  have kf2 : kF 7 9 (jw μ 8 t.length (.int (ki b))) (jw (jw μ 8 t.length (.int (ki b))) 7 1 (.int (ki ((t.length : Int) + 1)))) := kF_I hX2.i7_1 (by omega) (by omega)
  refine ⟨jw (jw μ 8 t.length (.int (ki b))) 7 1 (.int (ki ((t.length : Int) + 1))), ?_, kf1.trans kf2, ?_, fun i hi => ?_⟩
  · simp (disch := omega) only [f_X2_addByte, b_X2_addByte_32, g, kX.o7_0 hX, q, s, Int.toNat_natCast, g2, kX.p7 hX, ki_0, ki_1, ki_2, ki_3, ki_4, ki_5, ki_6, ki_7, ki_8, ki_9, ki_10, ki_11, ki_12, ki_13, ki_18, ki_20, ki_24, ki_32, ki_36, ki_45, ki_47, ki_48, ki_50, ki_57, ki_60, ki_63, ki_99, ki_100, ki_101, ki_120, ki_255, ki_468, ki_1000, ki_1024, ki_13849, ki_25173, ki_65535, ki_65536, ki_100000, ki_100001, ki_2147483647, ki_2147483648, kl_0, kl_1, kl_2, kl_9223372036854775808, ki_add, ki_sub, ki_mul, ki_neg, kl_add, kl_sub, kl_mul, kl_neg, ki_i2l, kl_l2i, ki_lt, ki_le, ki_eq, kcmp_eq, kcmp_lt, kcmp_le, kcmp_gt, kcmp_ge, Option.bind_some, Option.map_some, kbool0, kbool1, if_pos, if_neg, if_true, if_false, Int.neg_neg, Int.sub_zero, Int.add_zero, Int.zero_add, true_and, and_true, false_and, and_false, false_or, or_false, true_or, or_true, ne_eq, not_false_eq_true, not_true_eq_false]
  · rw [gi_jw _ _ (by omega) (by omega), if_pos ⟨rfl, rfl⟩, List.length_append, List.length_singleton]
    omega
  · rw [List.length_append, List.length_singleton] at hi
    rw [gi_jw _ _ (by omega) (by omega), if_neg (by omega), gi_jw _ _ (by omega) (by omega), Int.toNat_natCast]
    by_cases e : i = t.length
    · subst e
      rw [if_pos ⟨rfl, rfl⟩, at0_end]
    · rw [if_neg (by omega), ht.2 i (by omega), at0_app t [b] i (by omega)]
theorem kabsI {a : Int} (h1 : -2147483647 ≤ a) (h2 : a ≤ 2147483647) : jabsI (ki a) = ki (if 0 ≤ a then a else -a) := by
  unfold jabsI
  by_cases e : 0 ≤ a
  · simp (disch := omega) only [ki_0, ki_1, ki_2, ki_3, ki_4, ki_5, ki_6, ki_7, ki_8, ki_9, ki_10, ki_11, ki_12, ki_13, ki_18, ki_20, ki_24, ki_32, ki_36, ki_45, ki_47, ki_48, ki_50, ki_57, ki_60, ki_63, ki_99, ki_100, ki_101, ki_120, ki_255, ki_468, ki_1000, ki_1024, ki_13849, ki_25173, ki_65535, ki_65536, ki_100000, ki_100001, ki_2147483647, ki_2147483648, kl_0, kl_1, kl_2, kl_9223372036854775808, ki_add, ki_sub, ki_mul, ki_neg, kl_add, kl_sub, kl_mul, kl_neg, ki_i2l, kl_l2i, ki_lt, ki_le, ki_eq, kcmp_eq, kcmp_lt, kcmp_le, kcmp_gt, kcmp_ge, Option.bind_some, Option.map_some, kbool0, kbool1, if_pos, if_neg, if_true, if_false, Int.neg_neg, Int.sub_zero, Int.add_zero, Int.zero_add, true_and, and_true, false_and, and_false, false_or, or_false, true_or, or_true, ne_eq, not_false_eq_true, not_true_eq_false]
  · simp (disch := omega) only [ki_0, ki_1, ki_2, ki_3, ki_4, ki_5, ki_6, ki_7, ki_8, ki_9, ki_10, ki_11, ki_12, ki_13, ki_18, ki_20, ki_24, ki_32, ki_36, ki_45, ki_47, ki_48, ki_50, ki_57, ki_60, ki_63, ki_99, ki_100, ki_101, ki_120, ki_255, ki_468, ki_1000, ki_1024, ki_13849, ki_25173, ki_65535, ki_65536, ki_100000, ki_100001, ki_2147483647, ki_2147483648, kl_0, kl_1, kl_2, kl_9223372036854775808, ki_add, ki_sub, ki_mul, ki_neg, kl_add, kl_sub, kl_mul, kl_neg, ki_i2l, kl_l2i, ki_lt, ki_le, ki_eq, kcmp_eq, kcmp_lt, kcmp_le, kcmp_gt, kcmp_ge, Option.bind_some, Option.map_some, kbool0, kbool1, if_pos, if_neg, if_true, if_false, Int.neg_neg, Int.sub_zero, Int.add_zero, Int.zero_add, true_and, and_true, false_and, and_false, false_or, or_false, true_or, or_true, ne_eq, not_false_eq_true, not_true_eq_false, Int.zero_sub]
theorem X2_addNumber1 {Y : jY} {μ : jM} (hX : kX Y μ) {t : List Int} (ht : ltX μ t) {v : Int} (hl : t.length + 2 ≤ 60) (h1 : -99 ≤ v) (h2 : v ≤ 99) : ∃ ν, b_X2_addNumber_10 Y 7 (ki v) μ = some ν ∧ kF 7 9 μ ν ∧ ltX ν (t ++ dgA (if 0 ≤ v then v else -v)) := by
  have ha := kabsI (a := v) (by omega) (by omega)
  have hw : 0 ≤ (if 0 ≤ v then v else -v) ∧ (if 0 ≤ v then v else -v) ≤ 99 := by
    split <;> omega
  generalize (if 0 ≤ v then v else -v) = w at *
  unfold dgA
  have r := krem (a := w) (b := 10) hw.1 (by omega) (by omega) (by omega)
  by_cases e : 9 < w
  · obtain ⟨ν1, c1, k1, t1⟩ := X2_addByte hX ht (b := 48 + w / 10) (by omega) (by omega) (by omega)
    obtain ⟨ν2, c2, k2, t2⟩ := X2_addByte (hX.to k1) t1 (b := 48 + w % 10) (by rw [List.length_append, List.length_singleton]; omega) (by omega) (by omega)
    have d := kdiv (a := w) (b := 10) hw.1 (by omega) (by omega) (by omega)
    have r2 := krem (a := w / 10) (b := 10) (by omega) (by omega) (by omega) (by omega)
    rw [show w / 10 % 10 = w / 10 by omega] at r2
    refine ⟨ν2, ?_, k1.trans k2, ?_⟩
    · simp (disch := omega) only [b_X2_addNumber_10, b_X2_addNumber_35, ha, d, r, r2, krcv (kX.y7 hX), c1, c2, ki_0, ki_1, ki_2, ki_3, ki_4, ki_5, ki_6, ki_7, ki_8, ki_9, ki_10, ki_11, ki_12, ki_13, ki_18, ki_20, ki_24, ki_32, ki_36, ki_45, ki_47, ki_48, ki_50, ki_57, ki_60, ki_63, ki_99, ki_100, ki_101, ki_120, ki_255, ki_468, ki_1000, ki_1024, ki_13849, ki_25173, ki_65535, ki_65536, ki_100000, ki_100001, ki_2147483647, ki_2147483648, kl_0, kl_1, kl_2, kl_9223372036854775808, ki_add, ki_sub, ki_mul, ki_neg, kl_add, kl_sub, kl_mul, kl_neg, ki_i2l, kl_l2i, ki_lt, ki_le, ki_eq, kcmp_eq, kcmp_lt, kcmp_le, kcmp_gt, kcmp_ge, Option.bind_some, Option.map_some, kbool0, kbool1, if_pos, if_neg, if_true, if_false, Int.neg_neg, Int.sub_zero, Int.add_zero, Int.zero_add, true_and, and_true, false_and, and_false, false_or, or_false, true_or, or_true, ne_eq, not_false_eq_true, not_true_eq_false]
    · rw [if_pos e, ← List.append_assoc]
      exact t2
  · obtain ⟨ν2, c2, k2, t2⟩ := X2_addByte hX ht (b := 48 + w % 10) (by omega) (by omega) (by omega)
    refine ⟨ν2, ?_, k2, ?_⟩
    · simp (disch := omega) only [b_X2_addNumber_10, b_X2_addNumber_35, ha, r, krcv (kX.y7 hX), c2, ki_0, ki_1, ki_2, ki_3, ki_4, ki_5, ki_6, ki_7, ki_8, ki_9, ki_10, ki_11, ki_12, ki_13, ki_18, ki_20, ki_24, ki_32, ki_36, ki_45, ki_47, ki_48, ki_50, ki_57, ki_60, ki_63, ki_99, ki_100, ki_101, ki_120, ki_255, ki_468, ki_1000, ki_1024, ki_13849, ki_25173, ki_65535, ki_65536, ki_100000, ki_100001, ki_2147483647, ki_2147483648, kl_0, kl_1, kl_2, kl_9223372036854775808, ki_add, ki_sub, ki_mul, ki_neg, kl_add, kl_sub, kl_mul, kl_neg, ki_i2l, kl_l2i, ki_lt, ki_le, ki_eq, kcmp_eq, kcmp_lt, kcmp_le, kcmp_gt, kcmp_ge, Option.bind_some, Option.map_some, kbool0, kbool1, if_pos, if_neg, if_true, if_false, Int.neg_neg, Int.sub_zero, Int.add_zero, Int.zero_add, true_and, and_true, false_and, and_false, false_or, or_false, true_or, or_true, ne_eq, not_false_eq_true, not_true_eq_false]
    · rw [if_neg e]
      exact t2
theorem X2_addNumber {Y : jY} {μ : jM} (hX : kX Y μ) {t : List Int} (ht : ltX μ t) {v : Int} (hl : t.length + 3 ≤ 60) (h1 : -99 ≤ v) (h2 : v ≤ 99) : ∃ ν, f_X2_addNumber Y 7 (ki v) μ = some ν ∧ kF 7 9 μ ν ∧ ltX ν (t ++ dg v) := by
  unfold dg
  by_cases e : 0 ≤ v
  · obtain ⟨ν, c, k, t1⟩ := X2_addNumber1 hX ht (v := v) (by omega) h1 h2
    rw [if_pos e] at t1
    refine ⟨ν, ?_, k, ?_⟩
    · simp (disch := omega) only [f_X2_addNumber, c, ki_0, ki_1, ki_2, ki_3, ki_4, ki_5, ki_6, ki_7, ki_8, ki_9, ki_10, ki_11, ki_12, ki_13, ki_18, ki_20, ki_24, ki_32, ki_36, ki_45, ki_47, ki_48, ki_50, ki_57, ki_60, ki_63, ki_99, ki_100, ki_101, ki_120, ki_255, ki_468, ki_1000, ki_1024, ki_13849, ki_25173, ki_65535, ki_65536, ki_100000, ki_100001, ki_2147483647, ki_2147483648, kl_0, kl_1, kl_2, kl_9223372036854775808, ki_add, ki_sub, ki_mul, ki_neg, kl_add, kl_sub, kl_mul, kl_neg, ki_i2l, kl_l2i, ki_lt, ki_le, ki_eq, kcmp_eq, kcmp_lt, kcmp_le, kcmp_gt, kcmp_ge, Option.bind_some, Option.map_some, kbool0, kbool1, if_pos, if_neg, if_true, if_false, Int.neg_neg, Int.sub_zero, Int.add_zero, Int.zero_add, true_and, and_true, false_and, and_false, false_or, or_false, true_or, or_true, ne_eq, not_false_eq_true, not_true_eq_false]
    · rw [if_neg (by omega)]
      exact t1
  · obtain ⟨ν1, c1, k1, t1⟩ := X2_addByte hX ht (b := 45) (by omega) (by omega) (by omega)
    obtain ⟨ν, c, k, t2⟩ := X2_addNumber1 (hX.to k1) t1 (v := v) (by rw [List.length_append, List.length_singleton]; omega) h1 h2
    rw [if_neg e] at t2
    refine ⟨ν, ?_, k1.trans k, ?_⟩
    · simp (disch := omega) only [f_X2_addNumber, krcv (kX.y7 hX), c1, c, ki_0, ki_1, ki_2, ki_3, ki_4, ki_5, ki_6, ki_7, ki_8, ki_9, ki_10, ki_11, ki_12, ki_13, ki_18, ki_20, ki_24, ki_32, ki_36, ki_45, ki_47, ki_48, ki_50, ki_57, ki_60, ki_63, ki_99, ki_100, ki_101, ki_120, ki_255, ki_468, ki_1000, ki_1024, ki_13849, ki_25173, ki_65535, ki_65536, ki_100000, ki_100001, ki_2147483647, ki_2147483648, kl_0, kl_1, kl_2, kl_9223372036854775808, ki_add, ki_sub, ki_mul, ki_neg, kl_add, kl_sub, kl_mul, kl_neg, ki_i2l, kl_l2i, ki_lt, ki_le, ki_eq, kcmp_eq, kcmp_lt, kcmp_le, kcmp_gt, kcmp_ge, Option.bind_some, Option.map_some, kbool0, kbool1, if_pos, if_neg, if_true, if_false, Int.neg_neg, Int.sub_zero, Int.add_zero, Int.zero_add, true_and, and_true, false_and, and_false, false_or, or_false, true_or, or_true, ne_eq, not_false_eq_true, not_true_eq_false]
    · rw [if_pos (by omega), ← List.append_assoc]
      exact t2
theorem X2_addRow {Y : jY} {μ : jM} (hX : kX Y μ) {a n : Nat} (hA : kAI Y μ a n) (ha : a < 7 ∨ 9 ≤ a) {t : List Int} (ht : ltX μ t) {g : Int → Int} {c : Int} (h0 : 0 ≤ c) (hc : c ≤ n) (hl : t.length + 3 * c ≤ 57) (hg : ∀ x : Int, 0 ≤ x → x < c → gi μ a x = g x ∧ -9 ≤ g x ∧ g x ≤ 99) : ∃ ν, f_X2_addRow Y 7 a (ki c) μ = some ν ∧ kF 7 9 μ ν ∧ ltX ν (t ++ rowT g c.toNat) := by
  have hn := hA.2.2.1
  refine jit_inv (f := fun (s : Int32 × jM) => b_X2_addRow_2 Y 7 a (ki c) s.1 s.2) (fun i z => z.1 = ki i ∧ kF 7 9 μ z.2 ∧ ltX z.2 (t ++ rowT g i)) _ c.toNat (s := ((0 : Int32), μ)) ⟨rfl, kF.refl, by show ltX μ (t ++ []); rw [List.append_nil]; exact ht⟩ (by omega) (fun i z hi hz => ?_)
  obtain ⟨w, ν⟩ := z
  obtain ⟨rfl, z1, z2⟩ := hz
  simp only [] at z1 z2
  by_cases e : i = c.toNat
  · refine ⟨.inr ν, ?_, z1, by rw [← e]; exact z2⟩
    simp (disch := omega) only [b_X2_addRow_2, b_X2_addRow_36, ki_0, ki_1, ki_2, ki_3, ki_4, ki_5, ki_6, ki_7, ki_8, ki_9, ki_10, ki_11, ki_12, ki_13, ki_18, ki_20, ki_24, ki_32, ki_36, ki_45, ki_47, ki_48, ki_50, ki_57, ki_60, ki_63, ki_99, ki_100, ki_101, ki_120, ki_255, ki_468, ki_1000, ki_1024, ki_13849, ki_25173, ki_65535, ki_65536, ki_100000, ki_100001, ki_2147483647, ki_2147483648, kl_0, kl_1, kl_2, kl_9223372036854775808, ki_add, ki_sub, ki_mul, ki_neg, kl_add, kl_sub, kl_mul, kl_neg, ki_i2l, kl_l2i, ki_lt, ki_le, ki_eq, kcmp_eq, kcmp_lt, kcmp_le, kcmp_gt, kcmp_ge, Option.bind_some, Option.map_some, kbool0, kbool1, if_pos, if_neg, if_true, if_false, Int.neg_neg, Int.sub_zero, Int.add_zero, Int.zero_add, true_and, and_true, false_and, and_false, false_or, or_false, true_or, or_true, ne_eq, not_false_eq_true, not_true_eq_false]
  · have hX1 := hX.to z1
    have hA1 := hA.to z1
    have q := kaI hA1 (x := (i : Int)) (by omega) (by omega)
    have hgi := hg i (by omega) (by omega)
    rw [z1.gi ha, hgi.1] at q
    have ql := klen hA1
    have hrl := rowT_len (g := g) i (fun x hx => (hg x (by omega) (by omega)).2.1)
    have hlen : (t ++ rowT g i).length ≤ t.length + 3 * i := by rw [List.length_append]; omega
    by_cases e0 : i = 0
    · obtain ⟨ν2, c2, k2, t2⟩ := X2_addNumber hX1 z2 (v := g i) (by omega) (by omega) (by omega)
      refine ⟨.inl (ki ((i + 1 : Nat) : Int), ν2), ?_, by omega, rfl, z1.trans k2, ?_⟩
      · simp (disch := omega) only [b_X2_addRow_2, b_X2_addRow_23, q, ql, krcv (kX.y7 hX), c2, ki_0, ki_1, ki_2, ki_3, ki_4, ki_5, ki_6, ki_7, ki_8, ki_9, ki_10, ki_11, ki_12, ki_13, ki_18, ki_20, ki_24, ki_32, ki_36, ki_45, ki_47, ki_48, ki_50, ki_57, ki_60, ki_63, ki_99, ki_100, ki_101, ki_120, ki_255, ki_468, ki_1000, ki_1024, ki_13849, ki_25173, ki_65535, ki_65536, ki_100000, ki_100001, ki_2147483647, ki_2147483648, kl_0, kl_1, kl_2, kl_9223372036854775808, ki_add, ki_sub, ki_mul, ki_neg, kl_add, kl_sub, kl_mul, kl_neg, ki_i2l, kl_l2i, ki_lt, ki_le, ki_eq, kcmp_eq, kcmp_lt, kcmp_le, kcmp_gt, kcmp_ge, Option.bind_some, Option.map_some, kbool0, kbool1, if_pos, if_neg, if_true, if_false, Int.neg_neg, Int.sub_zero, Int.add_zero, Int.zero_add, true_and, and_true, false_and, and_false, false_or, or_false, true_or, or_true, ne_eq, not_false_eq_true, not_true_eq_false, Int.natCast_add, Int.natCast_one]
      · show ltX ν2 (t ++ rowT g (i + 1))
        unfold rowT
        rw [if_pos e0, ← List.append_assoc]
        exact t2
    · obtain ⟨ν1, c1, k1, t1⟩ := X2_addByte hX1 z2 (b := 32) (by omega) (by omega) (by omega)
      have hA2 := hA1.to k1
      have q2 := kaI hA2 (x := (i : Int)) (by omega) (by omega)
      rw [k1.gi ha, z1.gi ha, hgi.1] at q2
      obtain ⟨ν2, c2, k2, t2⟩ := X2_addNumber (hX1.to k1) t1 (v := g i) (by rw [List.length_append, List.length_singleton]; omega) (by omega) (by omega)
      refine ⟨.inl (ki ((i + 1 : Nat) : Int), ν2), ?_, by omega, rfl, (z1.trans k1).trans k2, ?_⟩
      · simp (disch := omega) only [b_X2_addRow_2, b_X2_addRow_23, q2, ql, krcv (kX.y7 hX), c1, c2, ki_0, ki_1, ki_2, ki_3, ki_4, ki_5, ki_6, ki_7, ki_8, ki_9, ki_10, ki_11, ki_12, ki_13, ki_18, ki_20, ki_24, ki_32, ki_36, ki_45, ki_47, ki_48, ki_50, ki_57, ki_60, ki_63, ki_99, ki_100, ki_101, ki_120, ki_255, ki_468, ki_1000, ki_1024, ki_13849, ki_25173, ki_65535, ki_65536, ki_100000, ki_100001, ki_2147483647, ki_2147483648, kl_0, kl_1, kl_2, kl_9223372036854775808, ki_add, ki_sub, ki_mul, ki_neg, kl_add, kl_sub, kl_mul, kl_neg, ki_i2l, kl_l2i, ki_lt, ki_le, ki_eq, kcmp_eq, kcmp_lt, kcmp_le, kcmp_gt, kcmp_ge, Option.bind_some, Option.map_some, kbool0, kbool1, if_pos, if_neg, if_true, if_false, Int.neg_neg, Int.sub_zero, Int.add_zero, Int.zero_add, true_and, and_true, false_and, and_false, false_or, or_false, true_or, or_true, ne_eq, not_false_eq_true, not_true_eq_false, Int.natCast_add, Int.natCast_one]
      · show ltX ν2 (t ++ rowT g (i + 1))
        unfold rowT
        rw [if_neg e0, ← List.append_assoc, ← List.append_assoc]
        exact t2
theorem X2_tell {Y : jY} {μ : jM} (hX : kX Y μ) {a b n m : Nat} (hA : kAI Y μ a n) (hB : kAI Y μ b m) (ha : a < 7 ∨ 9 ≤ a) (hb : b < 7 ∨ 9 ≤ b) {g k : Int → Int} {c : Int} (h1 : 1 ≤ c) (hc : c ≤ n) (h5 : c ≤ 5) (hcm : c - 1 ≤ m) (hg : ∀ x : Int, 0 ≤ x → x < c → gi μ a x = g x ∧ -9 ≤ g x ∧ g x ≤ 99) (hk : ∀ x : Int, 0 ≤ x → x < c - 1 → gi μ b x = k x ∧ -9 ≤ k x ∧ k x ≤ 99) : ∃ ν, f_X2_tell Y 7 a (ki c) b μ = some ν ∧ kF 7 9 μ ν ∧ ltX ν (textT g k c.toNat (c - 1).toNat) := by
  have k0 : kF 7 9 μ (jw μ 7 1 (.int (ki 0))) := kF_I hX.i7_1 (by omega) (by omega)
  have t0 : ltX (jw μ 7 1 (.int (ki 0))) [] := ⟨by rw [gi_jw _ _ (by omega) (by omega), if_pos ⟨rfl, rfl⟩]; rfl, fun i hi => absurd hi (by simp)⟩
  obtain ⟨ν1, c1, k1, t1⟩ := X2_addRow (hX.to k0) (hA.to k0) ha t0 (g := g) (c := c) (by omega) hc (by show ((0 : Nat) : Int) + 3 * c ≤ 57; omega) (fun x p q => by rw [k0.gi ha]; exact hg x p q)
  have r1 := rowT_len (g := g) c.toNat (fun x hx => (hg x (by omega) (by omega)).2.1)
  rw [List.nil_append] at t1
  obtain ⟨ν2, c2, k2, t2⟩ := X2_addByte ((hX.to k0).to k1) t1 (b := 47) (by omega) (by omega) (by omega)
  have k012 := (k0.trans k1).trans k2
  obtain ⟨ν3, c3, k3, t3⟩ := X2_addRow (hX.to k012) (hB.to k012) hb t2 (g := k) (c := c - 1) (by omega) hcm (by rw [List.length_append, List.length_singleton]; omega) (fun x p q => by rw [k012.gi hb]; exact hk x p q)
  refine ⟨ν3, ?_, k012.trans k3, t3⟩
  simp (disch := omega) only [f_X2_tell, kX.p7 hX, krcv (kX.y7 hX), c1, c2, c3, ki_0, ki_1, ki_2, ki_3, ki_4, ki_5, ki_6, ki_7, ki_8, ki_9, ki_10, ki_11, ki_12, ki_13, ki_18, ki_20, ki_24, ki_32, ki_36, ki_45, ki_47, ki_48, ki_50, ki_57, ki_60, ki_63, ki_99, ki_100, ki_101, ki_120, ki_255, ki_468, ki_1000, ki_1024, ki_13849, ki_25173, ki_65535, ki_65536, ki_100000, ki_100001, ki_2147483647, ki_2147483648, kl_0, kl_1, kl_2, kl_9223372036854775808, ki_add, ki_sub, ki_mul, ki_neg, kl_add, kl_sub, kl_mul, kl_neg, ki_i2l, kl_l2i, ki_lt, ki_le, ki_eq, kcmp_eq, kcmp_lt, kcmp_le, kcmp_gt, kcmp_ge, Option.bind_some, Option.map_some, kbool0, kbool1, if_pos, if_neg, if_true, if_false, Int.neg_neg, Int.sub_zero, Int.add_zero, Int.zero_add, true_and, and_true, false_and, and_false, false_or, or_false, true_or, or_true, ne_eq, not_false_eq_true, not_true_eq_false]
theorem X2_at {Y : jY} {μ : jM} (hX : kX Y μ) {t : List Int} (ht : ltX μ t) (hl : t.length ≤ 60) {k : Int} (h1 : -1 ≤ k) (h2 : k ≤ 2147483647) : f_X2_at Y 7 (ki k) μ = some (ki (if k = -1 then (t.length : Int) else if k < t.length then at0 t k.toNat else -3), μ) := by
  have g := kX.g7_1 hX
  rw [ht.1] at g
  by_cases e : k = -1
  · simp (disch := omega) only [f_X2_at, g, ki_0, ki_1, ki_2, ki_3, ki_4, ki_5, ki_6, ki_7, ki_8, ki_9, ki_10, ki_11, ki_12, ki_13, ki_18, ki_20, ki_24, ki_32, ki_36, ki_45, ki_47, ki_48, ki_50, ki_57, ki_60, ki_63, ki_99, ki_100, ki_101, ki_120, ki_255, ki_468, ki_1000, ki_1024, ki_13849, ki_25173, ki_65535, ki_65536, ki_100000, ki_100001, ki_2147483647, ki_2147483648, kl_0, kl_1, kl_2, kl_9223372036854775808, ki_add, ki_sub, ki_mul, ki_neg, kl_add, kl_sub, kl_mul, kl_neg, ki_i2l, kl_l2i, ki_lt, ki_le, ki_eq, kcmp_eq, kcmp_lt, kcmp_le, kcmp_gt, kcmp_ge, Option.bind_some, Option.map_some, kbool0, kbool1, if_pos, if_neg, if_true, if_false, Int.neg_neg, Int.sub_zero, Int.add_zero, Int.zero_add, true_and, and_true, false_and, and_false, false_or, or_false, true_or, or_true, ne_eq, not_false_eq_true, not_true_eq_false]
  · by_cases e2 : k < t.length
    · have q := kaI hX.a8 (x := k) (by omega) (by omega)
      have w := ht.2 k.toNat (by omega)
      rw [toNat_cast (by omega)] at w
      rw [w] at q
      simp (disch := omega) only [f_X2_at, b_X2_at_35, X11_within, g, kX.o7_0 hX, q, ki_0, ki_1, ki_2, ki_3, ki_4, ki_5, ki_6, ki_7, ki_8, ki_9, ki_10, ki_11, ki_12, ki_13, ki_18, ki_20, ki_24, ki_32, ki_36, ki_45, ki_47, ki_48, ki_50, ki_57, ki_60, ki_63, ki_99, ki_100, ki_101, ki_120, ki_255, ki_468, ki_1000, ki_1024, ki_13849, ki_25173, ki_65535, ki_65536, ki_100000, ki_100001, ki_2147483647, ki_2147483648, kl_0, kl_1, kl_2, kl_9223372036854775808, ki_add, ki_sub, ki_mul, ki_neg, kl_add, kl_sub, kl_mul, kl_neg, ki_i2l, kl_l2i, ki_lt, ki_le, ki_eq, kcmp_eq, kcmp_lt, kcmp_le, kcmp_gt, kcmp_ge, Option.bind_some, Option.map_some, kbool0, kbool1, if_pos, if_neg, if_true, if_false, Int.neg_neg, Int.sub_zero, Int.add_zero, Int.zero_add, true_and, and_true, false_and, and_false, false_or, or_false, true_or, or_true, ne_eq, not_false_eq_true, not_true_eq_false]
    · simp (disch := omega) only [f_X2_at, b_X2_at_35, X11_within, g, ki_0, ki_1, ki_2, ki_3, ki_4, ki_5, ki_6, ki_7, ki_8, ki_9, ki_10, ki_11, ki_12, ki_13, ki_18, ki_20, ki_24, ki_32, ki_36, ki_45, ki_47, ki_48, ki_50, ki_57, ki_60, ki_63, ki_99, ki_100, ki_101, ki_120, ki_255, ki_468, ki_1000, ki_1024, ki_13849, ki_25173, ki_65535, ki_65536, ki_100000, ki_100001, ki_2147483647, ki_2147483648, kl_0, kl_1, kl_2, kl_9223372036854775808, ki_add, ki_sub, ki_mul, ki_neg, kl_add, kl_sub, kl_mul, kl_neg, ki_i2l, kl_l2i, ki_lt, ki_le, ki_eq, kcmp_eq, kcmp_lt, kcmp_le, kcmp_gt, kcmp_ge, Option.bind_some, Option.map_some, kbool0, kbool1, if_pos, if_neg, if_true, if_false, Int.neg_neg, Int.sub_zero, Int.add_zero, Int.zero_add, true_and, and_true, false_and, and_false, false_or, or_false, true_or, or_true, ne_eq, not_false_eq_true, not_true_eq_false]
/-- the reference's letters: how many, which is wanted, that one -/
def ltM (μ : jM) (t : List Int) (w : Int) : Prop := gi μ 95 22 = t.length ∧ gi μ 95 23 = w ∧ (0 ≤ w → w < t.length → gi μ 95 24 = at0 t w.toNat)
def kW (μ ν : jM) : Prop := kF 95 96 μ ν ∧ ∀ j, j ≠ 22 → j ≠ 23 → j ≠ 24 → ν 95 j = μ 95 j
theorem kW.trans {a b c : jM} (h : kW a b) (k : kW b c) : kW a c := ⟨h.1.trans k.1, fun j p q r => (k.2 j p q r).trans (h.2 j p q r)⟩
theorem kW.refl {a : jM} : kW a a := ⟨kF.refl, fun _ _ _ _ => rfl⟩
theorem kW.jw {μ : jM} {k : Nat} {v : Int} (h : isI μ 95 k) (hk : k = 22 ∨ k = 23 ∨ k = 24) : kW μ (jw μ 95 k (.int (ki v))) := ⟨kF_I h (by omega) (by omega), fun j p q r => jw_ne μ _ (by omega)⟩
theorem kW.kP {μ ν : jM} (h : kW μ ν) : kP μ ν := ⟨h.1.mono (by omega) (by omega), fun i hi => h.1.1 i (by unfold pers at hi; omega), h.2 1 (by omega) (by omega) (by omega), h.2 10 (by omega) (by omega) (by omega), h.2 25 (by omega) (by omega) (by omega)⟩
theorem X12_writes {Y : jY} {μ : jM} (hM : kM Y μ) {t : List Int} {w : Int} (ht : ltM μ t w) (hl : t.length < 60) {b : Int} (h1 : -1000 ≤ b) (h2 : b ≤ 1000) (w1 : -1 ≤ w) (w2 : w ≤ 2147483647) : ∃ ν, f_X12_writes Y 95 (ki b) μ = some ν ∧ kW μ ν ∧ ltM ν (t ++ [b]) w := by
  have g := kM.g22 hM
  have g3 := kM.g23 hM
  rw [ht.1] at g
  rw [ht.2.1] at g3
  by_cases e : (t.length : Int) = w
  · have k1 : kW μ (jw μ 95 24 (.int (ki b))) := kW.jw hM.i24 (by omega)
    have g2 := kM.g22 (hM.to k1.1)
    rw [gi_jw _ _ (by omega) (by omega), if_neg (by omega), ht.1] at g2
    have k2 : kW (jw μ 95 24 (.int (ki b))) (jw (jw μ 95 24 (.int (ki b))) 95 22 (.int (ki ((t.length : Int) + 1)))) := kW.jw (hM.to k1.1).i22 (by omega)
    refine ⟨jw (jw μ 95 24 (.int (ki b))) 95 22 (.int (ki ((t.length : Int) + 1))), ?_, k1.trans k2, ?_, ?_, fun p q => ?_⟩
    · simp (disch := omega) only [f_X12_writes, b_X12_writes_16, g, g3, g2, kM.p hM, ki_0, ki_1, ki_2, ki_3, ki_4, ki_5, ki_6, ki_7, ki_8, ki_9, ki_10, ki_11, ki_12, ki_13, ki_18, ki_20, ki_24, ki_32, ki_36, ki_45, ki_47, ki_48, ki_50, ki_57, ki_60, ki_63, ki_99, ki_100, ki_101, ki_120, ki_255, ki_468, ki_1000, ki_1024, ki_13849, ki_25173, ki_65535, ki_65536, ki_100000, ki_100001, ki_2147483647, ki_2147483648, kl_0, kl_1, kl_2, kl_9223372036854775808, ki_add, ki_sub, ki_mul, ki_neg, kl_add, kl_sub, kl_mul, kl_neg, ki_i2l, kl_l2i, ki_lt, ki_le, ki_eq, kcmp_eq, kcmp_lt, kcmp_le, kcmp_gt, kcmp_ge, Option.bind_some, Option.map_some, kbool0, kbool1, if_pos, if_neg, if_true, if_false, Int.neg_neg, Int.sub_zero, Int.add_zero, Int.zero_add, true_and, and_true, false_and, and_false, false_or, or_false, true_or, or_true, ne_eq, not_false_eq_true, not_true_eq_false]
    · rw [gi_jw _ _ (by omega) (by omega), if_pos ⟨rfl, rfl⟩, List.length_append, List.length_singleton]
      omega
    · rw [gi_jw _ _ (by omega) (by omega), if_neg (by omega), gi_jw _ _ (by omega) (by omega), if_neg (by omega), ht.2.1]
    · rw [gi_jw _ _ (by omega) (by omega), if_neg (by omega), gi_jw _ _ (by omega) (by omega), if_pos ⟨rfl, rfl⟩, ← e, Int.toNat_natCast, at0_end]
  · have k2 : kW μ (jw μ 95 22 (.int (ki ((t.length : Int) + 1)))) := kW.jw hM.i22 (by omega)
    refine ⟨jw μ 95 22 (.int (ki ((t.length : Int) + 1))), ?_, k2, ?_, ?_, fun p q => ?_⟩
    · simp (disch := omega) only [f_X12_writes, b_X12_writes_16, g, g3, kM.p hM, ki_0, ki_1, ki_2, ki_3, ki_4, ki_5, ki_6, ki_7, ki_8, ki_9, ki_10, ki_11, ki_12, ki_13, ki_18, ki_20, ki_24, ki_32, ki_36, ki_45, ki_47, ki_48, ki_50, ki_57, ki_60, ki_63, ki_99, ki_100, ki_101, ki_120, ki_255, ki_468, ki_1000, ki_1024, ki_13849, ki_25173, ki_65535, ki_65536, ki_100000, ki_100001, ki_2147483647, ki_2147483648, kl_0, kl_1, kl_2, kl_9223372036854775808, ki_add, ki_sub, ki_mul, ki_neg, kl_add, kl_sub, kl_mul, kl_neg, ki_i2l, kl_l2i, ki_lt, ki_le, ki_eq, kcmp_eq, kcmp_lt, kcmp_le, kcmp_gt, kcmp_ge, Option.bind_some, Option.map_some, kbool0, kbool1, if_pos, if_neg, if_true, if_false, Int.neg_neg, Int.sub_zero, Int.add_zero, Int.zero_add, true_and, and_true, false_and, and_false, false_or, or_false, true_or, or_true, ne_eq, not_false_eq_true, not_true_eq_false]
    · rw [gi_jw _ _ (by omega) (by omega), if_pos ⟨rfl, rfl⟩, List.length_append, List.length_singleton]
      omega
    · rw [gi_jw _ _ (by omega) (by omega), if_neg (by omega), ht.2.1]
    · rw [List.length_append, List.length_singleton] at q
      rw [gi_jw _ _ (by omega) (by omega), if_neg (by omega), ht.2.2 p (by omega), at0_app t [b] w.toNat (by omega)]
theorem X12_writesNumber1 {Y : jY} {μ : jM} (hM : kM Y μ) {t : List Int} {w : Int} (ht : ltM μ t w) (hl : t.length + 2 ≤ 60) {v : Int} (h1 : 0 ≤ v) (h2 : v ≤ 99) (w1 : -1 ≤ w) (w2 : w ≤ 2147483647) : ∃ ν, b_X12_writesNumber_20 Y 95 (ki v) μ = some ν ∧ kW μ ν ∧ ltM ν (t ++ dgA v) w := by
  unfold dgA
  have r := krem (a := v) (b := 10) h1 (by omega) (by omega) (by omega)
  by_cases e : 9 < v
  · obtain ⟨ν1, c1, k1, t1⟩ := X12_writes hM ht (b := 48 + v / 10) (by omega) (by omega) (by omega) w1 w2
    obtain ⟨ν2, c2, k2, t2⟩ := X12_writes (hM.to k1.1) t1 (b := 48 + v % 10) (by rw [List.length_append, List.length_singleton]; omega) (by omega) (by omega) w1 w2
    have d := kdiv (a := v) (b := 10) h1 (by omega) (by omega) (by omega)
    refine ⟨ν2, ?_, k1.trans k2, ?_⟩
    · simp (disch := omega) only [b_X12_writesNumber_20, b_X12_writesNumber_38, d, r, krcv (kM.y hM), c1, c2, ki_0, ki_1, ki_2, ki_3, ki_4, ki_5, ki_6, ki_7, ki_8, ki_9, ki_10, ki_11, ki_12, ki_13, ki_18, ki_20, ki_24, ki_32, ki_36, ki_45, ki_47, ki_48, ki_50, ki_57, ki_60, ki_63, ki_99, ki_100, ki_101, ki_120, ki_255, ki_468, ki_1000, ki_1024, ki_13849, ki_25173, ki_65535, ki_65536, ki_100000, ki_100001, ki_2147483647, ki_2147483648, kl_0, kl_1, kl_2, kl_9223372036854775808, ki_add, ki_sub, ki_mul, ki_neg, kl_add, kl_sub, kl_mul, kl_neg, ki_i2l, kl_l2i, ki_lt, ki_le, ki_eq, kcmp_eq, kcmp_lt, kcmp_le, kcmp_gt, kcmp_ge, Option.bind_some, Option.map_some, kbool0, kbool1, if_pos, if_neg, if_true, if_false, Int.neg_neg, Int.sub_zero, Int.add_zero, Int.zero_add, true_and, and_true, false_and, and_false, false_or, or_false, true_or, or_true, ne_eq, not_false_eq_true, not_true_eq_false]
    · rw [if_pos e, ← List.append_assoc]
      exact t2
  · obtain ⟨ν2, c2, k2, t2⟩ := X12_writes hM ht (b := 48 + v % 10) (by omega) (by omega) (by omega) w1 w2
    refine ⟨ν2, ?_, k2, ?_⟩
    · simp (disch := omega) only [b_X12_writesNumber_20, b_X12_writesNumber_38, r, krcv (kM.y hM), c2, ki_0, ki_1, ki_2, ki_3, ki_4, ki_5, ki_6, ki_7, ki_8, ki_9, ki_10, ki_11, ki_12, ki_13, ki_18, ki_20, ki_24, ki_32, ki_36, ki_45, ki_47, ki_48, ki_50, ki_57, ki_60, ki_63, ki_99, ki_100, ki_101, ki_120, ki_255, ki_468, ki_1000, ki_1024, ki_13849, ki_25173, ki_65535, ki_65536, ki_100000, ki_100001, ki_2147483647, ki_2147483648, kl_0, kl_1, kl_2, kl_9223372036854775808, ki_add, ki_sub, ki_mul, ki_neg, kl_add, kl_sub, kl_mul, kl_neg, ki_i2l, kl_l2i, ki_lt, ki_le, ki_eq, kcmp_eq, kcmp_lt, kcmp_le, kcmp_gt, kcmp_ge, Option.bind_some, Option.map_some, kbool0, kbool1, if_pos, if_neg, if_true, if_false, Int.neg_neg, Int.sub_zero, Int.add_zero, Int.zero_add, true_and, and_true, false_and, and_false, false_or, or_false, true_or, or_true, ne_eq, not_false_eq_true, not_true_eq_false]
    · rw [if_neg e]
      exact t2
theorem X12_writesNumber {Y : jY} {μ : jM} (hM : kM Y μ) {t : List Int} {w : Int} (ht : ltM μ t w) (hl : t.length + 3 ≤ 60) {v : Int} (h1 : -99 ≤ v) (h2 : v ≤ 99) (w1 : -1 ≤ w) (w2 : w ≤ 2147483647) : ∃ ν, f_X12_writesNumber Y 95 (ki v) μ = some ν ∧ kW μ ν ∧ ltM ν (t ++ dg v) w := by
  unfold dg
  by_cases e : 0 ≤ v
  · obtain ⟨ν, c, k, t1⟩ := X12_writesNumber1 hM ht (v := v) (by omega) e h2 w1 w2
    refine ⟨ν, ?_, k, ?_⟩
    · simp (disch := omega) only [f_X12_writesNumber, b_X12_writesNumber_10, c, ki_0, ki_1, ki_2, ki_3, ki_4, ki_5, ki_6, ki_7, ki_8, ki_9, ki_10, ki_11, ki_12, ki_13, ki_18, ki_20, ki_24, ki_32, ki_36, ki_45, ki_47, ki_48, ki_50, ki_57, ki_60, ki_63, ki_99, ki_100, ki_101, ki_120, ki_255, ki_468, ki_1000, ki_1024, ki_13849, ki_25173, ki_65535, ki_65536, ki_100000, ki_100001, ki_2147483647, ki_2147483648, kl_0, kl_1, kl_2, kl_9223372036854775808, ki_add, ki_sub, ki_mul, ki_neg, kl_add, kl_sub, kl_mul, kl_neg, ki_i2l, kl_l2i, ki_lt, ki_le, ki_eq, kcmp_eq, kcmp_lt, kcmp_le, kcmp_gt, kcmp_ge, Option.bind_some, Option.map_some, kbool0, kbool1, if_pos, if_neg, if_true, if_false, Int.neg_neg, Int.sub_zero, Int.add_zero, Int.zero_add, true_and, and_true, false_and, and_false, false_or, or_false, true_or, or_true, ne_eq, not_false_eq_true, not_true_eq_false]
    · rw [if_neg (by omega)]
      exact t1
  · obtain ⟨ν1, c1, k1, t1⟩ := X12_writes hM ht (b := 45) (by omega) (by omega) (by omega) w1 w2
    obtain ⟨ν, c, k, t2⟩ := X12_writesNumber1 (hM.to k1.1) t1 (v := -v) (by rw [List.length_append, List.length_singleton]; omega) (by omega) (by omega) w1 w2
    refine ⟨ν, ?_, k1.trans k, ?_⟩
    · simp (disch := omega) only [f_X12_writesNumber, b_X12_writesNumber_10, krcv (kM.y hM), c1, c, ki_0, ki_1, ki_2, ki_3, ki_4, ki_5, ki_6, ki_7, ki_8, ki_9, ki_10, ki_11, ki_12, ki_13, ki_18, ki_20, ki_24, ki_32, ki_36, ki_45, ki_47, ki_48, ki_50, ki_57, ki_60, ki_63, ki_99, ki_100, ki_101, ki_120, ki_255, ki_468, ki_1000, ki_1024, ki_13849, ki_25173, ki_65535, ki_65536, ki_100000, ki_100001, ki_2147483647, ki_2147483648, kl_0, kl_1, kl_2, kl_9223372036854775808, ki_add, ki_sub, ki_mul, ki_neg, kl_add, kl_sub, kl_mul, kl_neg, ki_i2l, kl_l2i, ki_lt, ki_le, ki_eq, kcmp_eq, kcmp_lt, kcmp_le, kcmp_gt, kcmp_ge, Option.bind_some, Option.map_some, kbool0, kbool1, if_pos, if_neg, if_true, if_false, Int.neg_neg, Int.sub_zero, Int.add_zero, Int.zero_add, true_and, and_true, false_and, and_false, false_or, or_false, true_or, or_true, ne_eq, not_false_eq_true, not_true_eq_false]
    · rw [if_pos (by omega), ← List.append_assoc]
      exact t2
