/-! OPS: table -/
theorem jw_comm {μ : jM} {a b k j : Nat} {v w : Value} (h : a ≠ b) : jw (jw μ a k v) b j w = jw (jw μ b j w) a k v := by
  funext i m
  unfold jw
  by_cases h1 : i = b ∧ m = j
  · rw [if_pos h1, if_neg (by omega), if_pos h1]
  · rw [if_neg h1]
    by_cases h2 : i = a ∧ m = k
    · rw [if_pos h2, if_pos h2]
    · rw [if_neg h2, if_neg h2, if_neg h1]
theorem wr_comm {μ : jM} {a b k off : Nat} {v : Value} {g : Int → Int} (h : a ≠ b) : ∀ i, wr (jw μ a k v) b off g i = jw (wr μ b off g i) a k v := by
  intro i
  induction i with
  | zero => rfl
  | succ i ih => rw [wr, ih, wr, jw_comm h]
def bgM (μ : jM) (o : Nat) (n : Int) : jM := wr (wr (jw μ o 0 (.int (ki n))) (o + 1) 0 (fun _ => 0) 5) (o + 2) 0 (fun _ => 1) 4
theorem bgM_kF {Y : jY} {μ : jM} {o : Nat} (hT : kT Y μ o) (n : Int) : kF o (o + 3) μ (bgM μ o n) := by
  have k1 : kF o (o + 3) μ (jw μ o 0 (.int (ki n))) := kF_I hT.ir (Nat.le_refl _) (by omega)
  have k2 : kF o (o + 3) (jw μ o 0 (.int (ki n))) (wr (jw μ o 0 (.int (ki n))) (o + 1) 0 (fun _ => 0) 5) := wr_kF (by omega) (by omega) 5 (fun j hj => (hT.to k1).aa.2.2.2 _ (by omega))
  exact (k1.trans k2).trans (wr_kF (by omega) (by omega) 4 (fun j hj => ((hT.to k1).to k2).ac.2.2.2 _ (by omega)))
theorem bgM_gi {μ : jM} {o : Nat} {n : Int} (h1 : -2147483648 ≤ n) (h2 : n ≤ 2147483647) : gi (bgM μ o n) o 0 = n ∧ (∀ x : Int, 0 ≤ x → x < 5 → gi (bgM μ o n) (o + 1) x = 0) ∧ ∀ x : Int, 0 ≤ x → x < 4 → gi (bgM μ o n) (o + 2) x = 1 := by
  unfold bgM
  refine ⟨?_, fun x x1 x2 => ?_, fun x x1 x2 => ?_⟩
  · rw [wr_other (by omega), wr_other (by omega), gi_jw _ _ h1 h2, if_pos ⟨rfl, rfl⟩]
  · rw [wr_other (by omega), wr_gi 5 (fun j hj => by omega) x x1, if_pos (by omega)]
  · rw [wr_gi 4 (fun j hj => by omega) x x1, if_pos (by omega)]
theorem X10_begin2 {Y : jY} {ν : jM} {o : Nat} (hT : kT Y ν o) : jit jF (fun (s : Int32 × jM) => b_X10_begin_27 Y o s.1 s.2) (ki 0, ν) = some (wr ν (o + 2) 0 (fun _ => 1) 4) := by
  have k3 : ∀ i, i ≤ 4 → kF o (o + 3) ν (wr ν (o + 2) 0 (fun _ => 1) i) := fun i hi => wr_kF (by omega) (by omega) i (fun j hj => hT.ac.2.2.2 _ (by omega))
  refine jit_run (fun i => (ki i, wr ν (o + 2) 0 (fun _ => 1) i)) _ 4 rfl (by omega) (fun i hi => ?_) ?_
  · have hTi := hT.to (k3 i (by omega))
    simp (disch := omega) only [b_X10_begin_27, kT.ga hTi, kT.gc hTi, kT.gr hTi, kaI (kT.aa hTi), kaI (kT.ac hTi), kasI (kT.aa hTi), kasI (kT.ac hTi), krcv (kT.y hTi), kT.pr hTi, ki_0, ki_1, ki_2, ki_3, ki_4, ki_5, ki_6, ki_7, ki_8, ki_9, ki_10, ki_11, ki_12, ki_13, ki_18, ki_20, ki_24, ki_32, ki_36, ki_45, ki_47, ki_48, ki_50, ki_57, ki_60, ki_63, ki_99, ki_100, ki_101, ki_120, ki_255, ki_468, ki_1000, ki_1024, ki_13849, ki_25173, ki_65535, ki_65536, ki_100000, ki_100001, ki_2147483647, ki_2147483648, kl_0, kl_1, kl_2, kl_9223372036854775808, ki_add, ki_sub, ki_mul, ki_neg, kl_add, kl_sub, kl_mul, kl_neg, ki_i2l, kl_l2i, ki_lt, ki_le, ki_eq, kcmp_eq, kcmp_lt, kcmp_le, kcmp_gt, kcmp_ge, Option.bind_some, Option.map_some, kbool0, kbool1, if_pos, if_neg, if_true, if_false, Int.neg_neg, Int.sub_zero, Int.add_zero, Int.zero_add, true_and, and_true, false_and, and_false, false_or, or_false, true_or, or_true, ne_eq, not_false_eq_true, not_true_eq_false, wr, Nat.zero_add, Int.toNat_natCast, Int.natCast_add, Int.natCast_one]
  · simp (disch := omega) only [b_X10_begin_27, ki_0, ki_1, ki_2, ki_3, ki_4, ki_5, ki_6, ki_7, ki_8, ki_9, ki_10, ki_11, ki_12, ki_13, ki_18, ki_20, ki_24, ki_32, ki_36, ki_45, ki_47, ki_48, ki_50, ki_57, ki_60, ki_63, ki_99, ki_100, ki_101, ki_120, ki_255, ki_468, ki_1000, ki_1024, ki_13849, ki_25173, ki_65535, ki_65536, ki_100000, ki_100001, ki_2147483647, ki_2147483648, kl_0, kl_1, kl_2, kl_9223372036854775808, ki_add, ki_sub, ki_mul, ki_neg, kl_add, kl_sub, kl_mul, kl_neg, ki_i2l, kl_l2i, ki_lt, ki_le, ki_eq, kcmp_eq, kcmp_lt, kcmp_le, kcmp_gt, kcmp_ge, Option.bind_some, Option.map_some, kbool0, kbool1, if_pos, if_neg, if_true, if_false, Int.neg_neg, Int.sub_zero, Int.add_zero, Int.zero_add, true_and, and_true, false_and, and_false, false_or, or_false, true_or, or_true, ne_eq, not_false_eq_true, not_true_eq_false]
theorem X10_begin1 {Y : jY} {ν : jM} {o : Nat} (hT : kT Y ν o) : jit jF (fun (s : Int32 × jM) => b_X10_begin_7 Y o s.1 s.2) (ki 0, ν) = some (wr (wr ν (o + 1) 0 (fun _ => 0) 5) (o + 2) 0 (fun _ => 1) 4) := by
  have k2 : ∀ i, i ≤ 5 → kF o (o + 3) ν (wr ν (o + 1) 0 (fun _ => 0) i) := fun i hi => wr_kF (by omega) (by omega) i (fun j hj => hT.aa.2.2.2 _ (by omega))
  have e := X10_begin2 (hT.to (k2 5 (Nat.le_refl _)))
  refine jit_run (fun i => (ki i, wr ν (o + 1) 0 (fun _ => 0) i)) _ 5 rfl (by omega) (fun i hi => ?_) ?_
  · have hTi := hT.to (k2 i (by omega))
    simp (disch := omega) only [b_X10_begin_7, kT.ga hTi, kT.gc hTi, kT.gr hTi, kaI (kT.aa hTi), kaI (kT.ac hTi), kasI (kT.aa hTi), kasI (kT.ac hTi), krcv (kT.y hTi), kT.pr hTi, ki_0, ki_1, ki_2, ki_3, ki_4, ki_5, ki_6, ki_7, ki_8, ki_9, ki_10, ki_11, ki_12, ki_13, ki_18, ki_20, ki_24, ki_32, ki_36, ki_45, ki_47, ki_48, ki_50, ki_57, ki_60, ki_63, ki_99, ki_100, ki_101, ki_120, ki_255, ki_468, ki_1000, ki_1024, ki_13849, ki_25173, ki_65535, ki_65536, ki_100000, ki_100001, ki_2147483647, ki_2147483648, kl_0, kl_1, kl_2, kl_9223372036854775808, ki_add, ki_sub, ki_mul, ki_neg, kl_add, kl_sub, kl_mul, kl_neg, ki_i2l, kl_l2i, ki_lt, ki_le, ki_eq, kcmp_eq, kcmp_lt, kcmp_le, kcmp_gt, kcmp_ge, Option.bind_some, Option.map_some, kbool0, kbool1, if_pos, if_neg, if_true, if_false, Int.neg_neg, Int.sub_zero, Int.add_zero, Int.zero_add, true_and, and_true, false_and, and_false, false_or, or_false, true_or, or_true, ne_eq, not_false_eq_true, not_true_eq_false, wr, Nat.zero_add, Int.toNat_natCast, Int.natCast_add, Int.natCast_one]
  · generalize wr ν (o + 1) 0 (fun _ => 0) 5 = ν2 at *
    simp (disch := omega) only [b_X10_begin_7, ki_0, ki_1, ki_2, ki_3, ki_4, ki_5, ki_6, ki_7, ki_8, ki_9, ki_10, ki_11, ki_12, ki_13, ki_18, ki_20, ki_24, ki_32, ki_36, ki_45, ki_47, ki_48, ki_50, ki_57, ki_60, ki_63, ki_99, ki_100, ki_101, ki_120, ki_255, ki_468, ki_1000, ki_1024, ki_13849, ki_25173, ki_65535, ki_65536, ki_100000, ki_100001, ki_2147483647, ki_2147483648, kl_0, kl_1, kl_2, kl_9223372036854775808, ki_add, ki_sub, ki_mul, ki_neg, kl_add, kl_sub, kl_mul, kl_neg, ki_i2l, kl_l2i, ki_lt, ki_le, ki_eq, kcmp_eq, kcmp_lt, kcmp_le, kcmp_gt, kcmp_ge, Option.bind_some, Option.map_some, kbool0, kbool1, if_pos, if_neg, if_true, if_false, Int.neg_neg, Int.sub_zero, Int.add_zero, Int.zero_add, true_and, and_true, false_and, and_false, false_or, or_false, true_or, or_true, ne_eq, not_false_eq_true, not_true_eq_false]
    rw [e]
    rfl
theorem X10_begin {Y : jY} {μ : jM} {o : Nat} (hT : kT Y μ o) (n : Int) : f_X10_begin Y o (ki n) μ = some (bgM μ o n) := by
  have k1 : kF o (o + 3) μ (jw μ o 0 (.int (ki n))) := kF_I hT.ir (Nat.le_refl _) (by omega)
  unfold f_X10_begin
  rw [hT.pr, Option.bind_some]
  exact X10_begin1 (hT.to k1)
def tbM (μ : jM) (d n : Int) : jM := wr (wr (jw μ 108 d.toNat (.int (ki n))) 109 (5 * d).toNat (fun _ => 0) 5) 110 (5 * d).toNat (fun _ => 1) 5
theorem kM.a109i {Y : jY} {μ : jM} (h : kM Y μ) {j : Nat} (hj : j < 20) : isI μ 109 j := h.a109.2.2.2 j hj
theorem kM.a110i {Y : jY} {μ : jM} (h : kM Y μ) {j : Nat} (hj : j < 20) : isI μ 110 j := h.a110.2.2.2 j hj
theorem kM.a108i {Y : jY} {μ : jM} (h : kM Y μ) {j : Nat} (hj : j < 4) : isI μ 108 j := h.a108.2.2.2 j hj
theorem tbM_kF {Y : jY} {μ : jM} (hM : kM Y μ) {d n : Int} (d1 : 0 ≤ d) (d2 : d ≤ 3) {i j : Nat} (hi : i ≤ 5) (hj : j ≤ 5) : kF 108 111 μ (wr (wr (jw μ 108 d.toNat (.int (ki n))) 109 (5 * d).toNat (fun _ => 0) i) 110 (5 * d).toNat (fun _ => 1) j) := by
  have k1 : kF 108 111 μ (jw μ 108 d.toNat (.int (ki n))) := kF_I (hM.a108i (by omega)) (by omega) (by omega)
  have k2 : kF 108 111 (jw μ 108 d.toNat (.int (ki n))) (wr (jw μ 108 d.toNat (.int (ki n))) 109 (5 * d).toNat (fun _ => 0) i) := wr_kF (by omega) (by omega) i (fun j hj => (hM.to k1).a109i (by omega))
  exact (k1.trans k2).trans (wr_kF (by omega) (by omega) j (fun j hj => ((hM.to k1).to k2).a110i (by omega)))
theorem X12_table2 {Y : jY} {ν : jM} (hM : kM Y ν) {d : Int} (d1 : 0 ≤ d) (d2 : d ≤ 3) : jit jF (fun (s : Int32 × jM) => b_X12_table_27 Y 95 (ki d) s.1 s.2) (ki 0, ν) = some (ki 1, wr (wr ν 109 (5 * d).toNat (fun _ => 0) 5) 110 (5 * d).toNat (fun _ => 1) 5) := by
  refine jit_run (fun i => (ki i, wr (wr ν 109 (5 * d).toNat (fun _ => 0) i) 110 (5 * d).toNat (fun _ => 1) i)) _ 5 rfl (by omega) (fun i hi => ?_) ?_
  · have k1 : kF 108 111 ν (wr ν 109 (5 * d).toNat (fun _ => 0) i) := wr_kF (by omega) (by omega) i (fun j hj => hM.a109i (by omega))
    have k2 : kF 108 111 (wr ν 109 (5 * d).toNat (fun _ => 0) i) (wr (wr ν 109 (5 * d).toNat (fun _ => 0) i) 110 (5 * d).toNat (fun _ => 1) i) := wr_kF (by omega) (by omega) i (fun j hj => (hM.to k1).a110i (by omega))
    have hMi := (hM.to k1).to k2
    have k3 : kF 108 111 (wr (wr ν 109 (5 * d).toNat (fun _ => 0) i) 110 (5 * d).toNat (fun _ => 1) i) (jw (wr (wr ν 109 (5 * d).toNat (fun _ => 0) i) 110 (5 * d).toNat (fun _ => 1) i) 109 (5 * d + i).toNat (.int (ki 0))) := kF_I (hMi.a109i (by omega)) (by omega) (by omega)
    have hMj := hMi.to k3
    have e3 : (5 * d + (i : Int)).toNat = (5 * d).toNat + i := by omega
    rw [e3] at hMj
    simp only [wr]
    rw [wr_comm (by decide)]
    simp (disch := omega) only [b_X12_table_27, kM.o27 hMi, kM.o28 hMj, kasI (kM.a109 hMi), kasI (kM.a110 hMj), ki_0, ki_1, ki_2, ki_3, ki_4, ki_5, ki_6, ki_7, ki_8, ki_9, ki_10, ki_11, ki_12, ki_13, ki_18, ki_20, ki_24, ki_32, ki_36, ki_45, ki_47, ki_48, ki_50, ki_57, ki_60, ki_63, ki_99, ki_100, ki_101, ki_120, ki_255, ki_468, ki_1000, ki_1024, ki_13849, ki_25173, ki_65535, ki_65536, ki_100000, ki_100001, ki_2147483647, ki_2147483648, kl_0, kl_1, kl_2, kl_9223372036854775808, ki_add, ki_sub, ki_mul, ki_neg, kl_add, kl_sub, kl_mul, kl_neg, ki_i2l, kl_l2i, ki_lt, ki_le, ki_eq, kcmp_eq, kcmp_lt, kcmp_le, kcmp_gt, kcmp_ge, Option.bind_some, Option.map_some, kbool0, kbool1, if_pos, if_neg, if_true, if_false, Int.neg_neg, Int.sub_zero, Int.add_zero, Int.zero_add, true_and, and_true, false_and, and_false, false_or, or_false, true_or, or_true, ne_eq, not_false_eq_true, not_true_eq_false, Int.natCast_add, Int.natCast_one, e3]
  · generalize wr (wr ν 109 (5 * d).toNat (fun _ => 0) 5) 110 (5 * d).toNat (fun _ => 1) 5 = ν2 at *
    simp (disch := omega) only [b_X12_table_27, ki_0, ki_1, ki_2, ki_3, ki_4, ki_5, ki_6, ki_7, ki_8, ki_9, ki_10, ki_11, ki_12, ki_13, ki_18, ki_20, ki_24, ki_32, ki_36, ki_45, ki_47, ki_48, ki_50, ki_57, ki_60, ki_63, ki_99, ki_100, ki_101, ki_120, ki_255, ki_468, ki_1000, ki_1024, ki_13849, ki_25173, ki_65535, ki_65536, ki_100000, ki_100001, ki_2147483647, ki_2147483648, kl_0, kl_1, kl_2, kl_9223372036854775808, ki_add, ki_sub, ki_mul, ki_neg, kl_add, kl_sub, kl_mul, kl_neg, ki_i2l, kl_l2i, ki_lt, ki_le, ki_eq, kcmp_eq, kcmp_lt, kcmp_le, kcmp_gt, kcmp_ge, Option.bind_some, Option.map_some, kbool0, kbool1, if_pos, if_neg, if_true, if_false, Int.neg_neg, Int.sub_zero, Int.add_zero, Int.zero_add, true_and, and_true, false_and, and_false, false_or, or_false, true_or, or_true, ne_eq, not_false_eq_true, not_true_eq_false]
theorem X12_table {Y : jY} {μ : jM} (hM : kM Y μ) {d n : Int} (d1 : 0 ≤ d) (d2 : d ≤ 3) (n1 : 1 ≤ n) (n2 : n ≤ 5) : f_X12_table Y 95 (ki d) (ki n) μ = some (ki 1, tbM μ d n) := by
  have e := X12_table2 (hM.to (kF_I (lo := 108) (hi := 111) (o := 108) (k := d.toNat) (v := ki n) (hM.a108i (by omega)) (by omega) (by omega))) d1 d2
  simp (disch := omega) only [f_X12_table, X12_isDrawer, X12_in, krcv (kM.y hM), kM.o26 hM, kM.o27 hM, kM.o28 hM, kaI (kM.a108 hM), kaI (kM.a109 hM), kaI (kM.a110 hM), kasI (kM.a108 hM), kasI (kM.a109 hM), kasI (kM.a110 hM), ki_0, ki_1, ki_2, ki_3, ki_4, ki_5, ki_6, ki_7, ki_8, ki_9, ki_10, ki_11, ki_12, ki_13, ki_18, ki_20, ki_24, ki_32, ki_36, ki_45, ki_47, ki_48, ki_50, ki_57, ki_60, ki_63, ki_99, ki_100, ki_101, ki_120, ki_255, ki_468, ki_1000, ki_1024, ki_13849, ki_25173, ki_65535, ki_65536, ki_100000, ki_100001, ki_2147483647, ki_2147483648, kl_0, kl_1, kl_2, kl_9223372036854775808, ki_add, ki_sub, ki_mul, ki_neg, kl_add, kl_sub, kl_mul, kl_neg, ki_i2l, kl_l2i, ki_lt, ki_le, ki_eq, kcmp_eq, kcmp_lt, kcmp_le, kcmp_gt, kcmp_ge, Option.bind_some, Option.map_some, kbool0, kbool1, if_pos, if_neg, if_true, if_false, Int.neg_neg, Int.sub_zero, Int.add_zero, Int.zero_add, true_and, and_true, false_and, and_false, false_or, or_false, true_or, or_true, ne_eq, not_false_eq_true, not_true_eq_false]
  rw [e]
  rfl
theorem tbM_gi {μ : jM} {d n : Int} (d1 : 0 ≤ d) (d2 : d ≤ 3) (h1 : -2147483648 ≤ n) (h2 : n ≤ 2147483647) : (∀ e : Int, 0 ≤ e → gi (tbM μ d n) 108 e = if e = d then n else gi μ 108 e) ∧ (∀ e x : Int, 0 ≤ e → e ≤ 3 → 0 ≤ x → x < 5 → mA (tbM μ d n) e x = if e = d then 0 else mA μ e x) ∧ ∀ e x : Int, 0 ≤ e → e ≤ 3 → 0 ≤ x → x < 5 → mC (tbM μ d n) e x = if e = d then 1 else mC μ e x := by
  unfold tbM
  refine ⟨fun e e1 => ?_, fun e x e1 e2 x1 x2 => ?_, fun e x e1 e2 x1 x2 => ?_⟩
  · rw [wr_other (by decide), wr_other (by decide), gi_jw _ _ h1 h2]
    by_cases h : e = d
    · rw [if_pos h, if_pos (by omega)]
    · rw [if_neg h, if_neg (by omega)]
  · unfold mA
    rw [wr_other (by decide), wr_gi 5 (fun j hj => by omega) _ (by omega), gi_cell (jw_cell (by decide))]
    by_cases h : e = d
    · rw [if_pos h, if_pos (by omega)]
    · rw [if_neg h, if_neg (by omega)]
  · unfold mC
    rw [wr_gi 5 (fun j hj => by omega) _ (by omega), wr_other (by decide), gi_cell (jw_cell (by decide))]
    by_cases h : e = d
    · rw [if_pos h, if_pos (by omega)]
    · rw [if_neg h, if_neg (by omega)]
theorem ok_table {L : Nat} {xs : Nat → Int32} {n : Nat} {Y : jY} {μ : jM} (h : Inv L xs n Y μ) : so_table (Inv L xs) n Y μ := by
  have hX := h.x
  have hM := h.m
  intro a1 a2
  obtain ⟨d, d1, d2, rfl⟩ := ki_is a1
  obtain ⟨k, k1, k2, rfl⟩ := ki_is a2
  by_cases hd : 0 ≤ d ∧ d ≤ 3
  · obtain ⟨hT, hB, hMB, hR, hA, hC⟩ := h.d hd.1 hd.2; have hR0 := hMB.1; have hR5 := hMB.2.1
    by_cases hk : 1 ≤ k ∧ k ≤ 5
    · have e1 := X10_begin hT k
      have f1 := bgM_kF hT k
      have e2 := X12_table (hM.to f1) (d := d) (n := k) hd.1 hd.2 hk.1 hk.2
      have f2 : kF 108 111 (bgM μ (9 + 5 + 3 * d.toNat) k) (tbM (bgM μ (9 + 5 + 3 * d.toNat) k) d k) := tbM_kF (hM.to f1) hd.1 hd.2 (Nat.le_refl _) (Nat.le_refl _)
      obtain ⟨g1, g2, g3⟩ := tbM_gi (μ := bgM μ (9 + 5 + 3 * d.toNat) k) (d := d) (n := k) hd.1 hd.2 (by omega) (by omega)
      obtain ⟨b1, b2, b3⟩ := bgM_gi (μ := μ) (o := 9 + 5 + 3 * d.toNat) (n := k) (by omega) (by omega)
      refine ⟨(ki 1, bgM μ (9 + 5 + 3 * d.toNat) k), (ki 1, tbM (bgM μ (9 + 5 + 3 * d.toNat) k) d k), ?_, fun j => congrFun (f1.1 0 (by omega)) j, e2, rfl, ?_⟩
      · simp (disch := omega) only [f_X11_table, krcv (kX.y1 hX), kX.o1_3 hX, kS.gd (kX.now hX), kS.gt (kX.now hX), X11_within, X11_isDrawer, f_X11_isFilled, b_X11_isFilled_27, b_X11_isFilled_26, f_X11_isRow, b_X11_isRow_35, b_X11_isRow_34, f_X11_isPart, b_X11_isPart_14, b_X11_isPart_9, kT.gr hT, krcv hT.y, hR, e1, ki_0, ki_1, ki_2, ki_3, ki_4, ki_5, ki_6, ki_7, ki_8, ki_9, ki_10, ki_11, ki_12, ki_13, ki_18, ki_20, ki_24, ki_32, ki_36, ki_45, ki_47, ki_48, ki_50, ki_57, ki_60, ki_63, ki_99, ki_100, ki_101, ki_120, ki_255, ki_468, ki_1000, ki_1024, ki_13849, ki_25173, ki_65535, ki_65536, ki_100000, ki_100001, ki_2147483647, ki_2147483648, kl_0, kl_1, kl_2, kl_9223372036854775808, ki_add, ki_sub, ki_mul, ki_neg, kl_add, kl_sub, kl_mul, kl_neg, ki_i2l, kl_l2i, ki_lt, ki_le, ki_eq, kcmp_eq, kcmp_lt, kcmp_le, kcmp_gt, kcmp_ge, Option.bind_some, Option.map_some, kbool0, kbool1, if_pos, if_neg, if_true, if_false, Int.neg_neg, Int.sub_zero, Int.add_zero, Int.zero_add, true_and, and_true, false_and, and_false, false_or, or_false, true_or, or_true, ne_eq, not_false_eq_true, not_true_eq_false]
      · refine h.upd hd.1 hd.2 ((f1.mono (by omega) (by omega)).trans (f2.mono (by omega) (by omega))) (fun j j1 j2 j3 j4 j5 j6 => (f2.1 j (by omega)).trans (f1.1 j (by omega))) ?_ (fun e e1 e2 e3 => ⟨?_, fun x x1 x2 => ?_, fun x x1 x2 => ?_⟩)
        · unfold relT
          rw [g1 d hd.1, if_pos rfl, f2.gi (by omega), b1]
          refine ⟨rfl, by omega, by omega, fun x x1 x2 => ?_, fun x x1 x2 => ?_⟩
          · rw [g2 d x hd.1 hd.2 x1 (by omega), if_pos rfl, f2.gi (by omega), b2 x x1 (by omega)]
            omega
          · rw [g3 d x hd.1 hd.2 x1 (by omega), if_pos rfl, f2.gi (by omega), b3 x x1 (by omega)]
            omega
        · rw [g1 e e1, if_neg e3, f1.gi (by omega)]
        · rw [g2 e x e1 e2 x1 x2, if_neg e3]
          unfold mA
          rw [f1.gi (by omega)]
        · rw [g3 e x e1 e2 x1 x2, if_neg e3]
          unfold mC
          rw [f1.gi (by omega)]
    · refine ⟨(ki 0, μ), (ki 0, μ), ?_, fun _ => rfl, ?_, rfl, h⟩ <;> simp (disch := omega) only [f_X11_table, b_X11_table_16, f_X12_table, b_X12_table_16, b_X12_table_27, krcv (kX.y1 hX), kX.o1_3 hX, kS.gd (kX.now hX), kS.gt (kX.now hX), X11_within, X11_isDrawer, f_X11_isFilled, b_X11_isFilled_27, b_X11_isFilled_26, f_X11_isRow, b_X11_isRow_35, b_X11_isRow_34, f_X11_isPart, b_X11_isPart_14, b_X11_isPart_9, krcv (kM.y hM), kM.o26 hM, kaI (kM.a108 hM), X12_in, X12_isDrawer, kT.gr hT, krcv hT.y, hR, ki_0, ki_1, ki_2, ki_3, ki_4, ki_5, ki_6, ki_7, ki_8, ki_9, ki_10, ki_11, ki_12, ki_13, ki_18, ki_20, ki_24, ki_32, ki_36, ki_45, ki_47, ki_48, ki_50, ki_57, ki_60, ki_63, ki_99, ki_100, ki_101, ki_120, ki_255, ki_468, ki_1000, ki_1024, ki_13849, ki_25173, ki_65535, ki_65536, ki_100000, ki_100001, ki_2147483647, ki_2147483648, kl_0, kl_1, kl_2, kl_9223372036854775808, ki_add, ki_sub, ki_mul, ki_neg, kl_add, kl_sub, kl_mul, kl_neg, ki_i2l, kl_l2i, ki_lt, ki_le, ki_eq, kcmp_eq, kcmp_lt, kcmp_le, kcmp_gt, kcmp_ge, Option.bind_some, Option.map_some, kbool0, kbool1, if_pos, if_neg, if_true, if_false, Int.neg_neg, Int.sub_zero, Int.add_zero, Int.zero_add, true_and, and_true, false_and, and_false, false_or, or_false, true_or, or_true, ne_eq, not_false_eq_true, not_true_eq_false]
  · refine ⟨(ki 0, μ), (ki 0, μ), ?_, fun _ => rfl, ?_, rfl, h⟩ <;> simp (disch := omega) only [f_X11_table, b_X11_table_16, f_X12_table, b_X12_table_16, b_X12_table_27, krcv (kX.y1 hX), kX.o1_3 hX, kS.gd (kX.now hX), kS.gt (kX.now hX), X11_within, X11_isDrawer, f_X11_isFilled, b_X11_isFilled_27, b_X11_isFilled_26, f_X11_isRow, b_X11_isRow_35, b_X11_isRow_34, f_X11_isPart, b_X11_isPart_14, b_X11_isPart_9, krcv (kM.y hM), kM.o26 hM, kaI (kM.a108 hM), X12_in, X12_isDrawer, ki_0, ki_1, ki_2, ki_3, ki_4, ki_5, ki_6, ki_7, ki_8, ki_9, ki_10, ki_11, ki_12, ki_13, ki_18, ki_20, ki_24, ki_32, ki_36, ki_45, ki_47, ki_48, ki_50, ki_57, ki_60, ki_63, ki_99, ki_100, ki_101, ki_120, ki_255, ki_468, ki_1000, ki_1024, ki_13849, ki_25173, ki_65535, ki_65536, ki_100000, ki_100001, ki_2147483647, ki_2147483648, kl_0, kl_1, kl_2, kl_9223372036854775808, ki_add, ki_sub, ki_mul, ki_neg, kl_add, kl_sub, kl_mul, kl_neg, ki_i2l, kl_l2i, ki_lt, ki_le, ki_eq, kcmp_eq, kcmp_lt, kcmp_le, kcmp_gt, kcmp_ge, Option.bind_some, Option.map_some, kbool0, kbool1, if_pos, if_neg, if_true, if_false, Int.neg_neg, Int.sub_zero, Int.add_zero, Int.zero_add, true_and, and_true, false_and, and_false, false_or, or_false, true_or, or_true, ne_eq, not_false_eq_true, not_true_eq_false]
