/-! OPS: draws, in the reference; a drawer changed, with fields of the reference -/
theorem kgI_jw {Y : jY} {μ : jM} {o ci k : Nat} {v : Int32} (hY : (Y o).1 = ci) : jgI Y (jw μ o k (.int v)) o ci k = some v := by
  unfold jgI
  rw [if_pos hY, jw_same]
  rfl
theorem jw_over {μ : jM} {o k : Nat} {v w : Value} : jw (jw μ o k v) o k w = jw μ o k w := by
  funext i j
  unfold jw
  split <;> rfl
theorem Inv.upd3 {L : Nat} {xs : Nat → Int32} {n : Nat} {Y : jY} {μ μ' : jM} (h : Inv L xs n Y μ) {d : Int} (d1 : 0 ≤ d) (d2 : d ≤ 3) (k : kF 0 123 μ μ') (hc : ∀ i, i ≠ 9 + 5 + 3 * d.toNat → i ≠ 9 + 5 + 3 * d.toNat + 1 → i ≠ 9 + 5 + 3 * d.toNat + 2 → i ≠ 95 → i ≠ 108 → i ≠ 109 → i ≠ 110 → pers i → μ' i = μ i) (h1 : μ' 95 1 = μ 95 1) (h10 : μ' 95 10 = μ 95 10) (h25 : μ' 95 25 = μ 95 25)
    (hn : relT μ' (9 + 5 + 3 * d.toNat) (gi μ' 108 d) (mA μ' d) (mC μ' d)) (ho : ∀ e : Int, 0 ≤ e → e ≤ 3 → e ≠ d → gi μ' 108 e = gi μ 108 e ∧ (∀ x, 0 ≤ x → x < 5 → mA μ' e x = mA μ e x) ∧ ∀ x, 0 ≤ x → x < 5 → mC μ' e x = mC μ e x) : Inv L xs n Y μ' := by
  have hb : ∀ i, i = 9 + 5 + 3 * d.toNat ∨ i = 9 + 5 + 3 * d.toNat + 1 ∨ i = 9 + 5 + 3 * d.toNat + 2 ∨ i = 108 ∨ i = 109 ∨ i = 110 ∨ ¬ (i = 9 + 5 + 3 * d.toNat ∨ i = 9 + 5 + 3 * d.toNat + 1 ∨ i = 9 + 5 + 3 * d.toNat + 2 ∨ i = 108 ∨ i = 109 ∨ i = 110) := fun i => by omega
  let μa : jM := fun i => if i = 9 + 5 + 3 * d.toNat ∨ i = 9 + 5 + 3 * d.toNat + 1 ∨ i = 9 + 5 + 3 * d.toNat + 2 ∨ i = 108 ∨ i = 109 ∨ i = 110 then μ i else μ' i
  have ha : ∀ i, i = 9 + 5 + 3 * d.toNat ∨ i = 9 + 5 + 3 * d.toNat + 1 ∨ i = 9 + 5 + 3 * d.toNat + 2 ∨ i = 108 ∨ i = 109 ∨ i = 110 → μa i = μ i := fun i hi => if_pos hi
  have hna : ∀ i, ¬ (i = 9 + 5 + 3 * d.toNat ∨ i = 9 + 5 + 3 * d.toNat + 1 ∨ i = 9 + 5 + 3 * d.toNat + 2 ∨ i = 108 ∨ i = 109 ∨ i = 110) → μa i = μ' i := fun i hi => if_neg hi
  have kA : kF 0 123 μ μa := by
    refine ⟨fun i hi => ?_, fun i j => ?_⟩
    · rw [hna i (by omega)]; exact k.1 i hi
    · by_cases e : i = 9 + 5 + 3 * d.toNat ∨ i = 9 + 5 + 3 * d.toNat + 1 ∨ i = 9 + 5 + 3 * d.toNat + 2 ∨ i = 108 ∨ i = 109 ∨ i = 110
      · unfold isI isL
        rw [ha i e]
        exact ⟨id, id, fun _ => id, id⟩
      · have := k.2 i j
        unfold isI isL at this ⊢
        rw [hna i e]
        exact this
  have kB : kF 0 123 μa μ' := by
    refine ⟨fun i hi => ?_, fun i j => ?_⟩
    · rw [hna i (by omega)]
    · by_cases e : i = 9 + 5 + 3 * d.toNat ∨ i = 9 + 5 + 3 * d.toNat + 1 ∨ i = 9 + 5 + 3 * d.toNat + 2 ∨ i = 108 ∨ i = 109 ∨ i = 110
      · have := k.2 i j
        unfold isI isL at this ⊢
        rw [ha i e]
        exact this
      · unfold isI isL
        rw [hna i e]
        exact ⟨id, id, fun _ => id, id⟩
  have hI : Inv L xs n Y μa := by
    refine h.to ⟨kA, fun i hi => ?_, ?_, ?_, ?_⟩
    · by_cases e : i = 9 + 5 + 3 * d.toNat ∨ i = 9 + 5 + 3 * d.toNat + 1 ∨ i = 9 + 5 + 3 * d.toNat + 2 ∨ i = 108 ∨ i = 109 ∨ i = 110
      · exact ha i e
      · rw [hna i e]
        exact hc i (by omega) (by omega) (by omega) (by unfold pers at hi; omega) (by omega) (by omega) (by omega) hi
    · rw [hna 95 (by omega)]; exact h1
    · rw [hna 95 (by omega)]; exact h10
    · rw [hna 95 (by omega)]; exact h25
  refine hI.upd d1 d2 kB (fun i i1 i2 i3 i4 i5 i6 => (hna i (by omega)).symm) hn (fun e e1 e2 e3 => ?_)
  obtain ⟨g1, g2, g3⟩ := ho e e1 e2 e3
  refine ⟨?_, fun x x1 x2 => ?_, fun x x1 x2 => ?_⟩
  · rw [g1, gi_cell (ha 108 (by omega))]
  · rw [g2 x x1 x2]
    unfold mA
    rw [gi_cell (ha 109 (by omega))]
  · rw [g3 x x1 x2]
    unfold mC
    rw [gi_cell (ha 110 (by omega))]
theorem kF.j95 {μ : jM} {Y : jY} (hM : kM Y μ) {v : Int32} : kF 95 123 μ (jw μ 95 41 (.int v)) := kF_I hM.i41 (by omega) (by omega)
theorem X12_draw {Y : jY} {μ : jM} (hM : kM Y μ) {x m : Int} (hx : gi μ 95 41 = x) (x1 : 0 ≤ x) (x2 : x ≤ 65535) (m1 : 1 ≤ m) (m2 : m ≤ 36) : f_X12_draw Y 95 (ki m) μ = some (ki ((25173 * x + 13849) % 65536 / 4 % m), jw μ 95 41 (.int (ki ((25173 * x + 13849) % 65536)))) := by
  have e := kM.g41 hM
  rw [hx] at e
  have l1 : 0 ≤ (25173 * x + 13849) % 65536 := by omega
  have l2 : (25173 * x + 13849) % 65536 ≤ 65535 := by omega
  have e1 : jremI (ki (25173 * x + 13849)) (ki 65536) = some (ki ((25173 * x + 13849) % 65536)) := krem (by omega) (by omega) (by omega) (by omega)
  simp only [f_X12_draw, e, ki_0, ki_1, ki_2, ki_3, ki_4, ki_5, ki_6, ki_7, ki_8, ki_9, ki_10, ki_11, ki_12, ki_13, ki_18, ki_20, ki_24, ki_32, ki_36, ki_45, ki_47, ki_48, ki_50, ki_57, ki_60, ki_63, ki_99, ki_100, ki_101, ki_120, ki_255, ki_468, ki_1000, ki_1024, ki_13849, ki_25173, ki_65535, ki_65536, ki_100000, ki_100001, ki_2147483647, ki_2147483648, kl_0, kl_1, kl_2, kl_9223372036854775808, ki_add, ki_sub, ki_mul, ki_neg, kl_add, kl_sub, kl_mul, kl_neg, ki_i2l, kl_l2i, Option.bind_some, e1, kM.p hM]
  generalize (25173 * x + 13849) % 65536 = y at *
  have e2 : jremI (ki (y / 4)) (ki m) = some (ki (y / 4 % m)) := krem (by omega) (by omega) (by omega) (by omega)
  simp (disch := omega) only [kgI_jw hM.y, kdiv, e2, Option.bind_some]
theorem X12_draws2 {Y : jY} {ν : jM} (hM : kM Y ν) {d n s : Int} (d1 : 0 ≤ d) (d2 : d ≤ 3) (n1 : 1 ≤ n) (n2 : n ≤ 5) (s1 : 0 ≤ s) (s2 : s ≤ 65535) : jit jF (fun (q : Int32 × jM) => b_X12_draws_72 Y 95 (ki d) (ki n) q.1 q.2) (ki 0, jw ν 95 41 (.int (ki (lcg s n.toNat)))) = some (ki (lcg s (n.toNat + (n.toNat - 1))), wr (jw ν 95 41 (.int (ki (lcg s (n.toNat + (n.toNat - 1)))))) 110 (5 * d).toNat (dwC s n.toNat) (n.toNat - 1)) := by
  have K : ∀ i v, i ≤ n.toNat - 1 → kF 95 123 ν (wr (jw ν 95 41 (.int v)) 110 (5 * d).toNat (dwC s n.toNat) i) := fun i v hi => (kF.j95 hM).trans (wr_kF (by omega) (by omega) i (fun j hj => (hM.to (kF.j95 hM)).a110i (by omega)))
  refine jit_run (fun i => (ki i, wr (jw ν 95 41 (.int (ki (lcg s (n.toNat + i))))) 110 (5 * d).toNat (dwC s n.toNat) i)) _ (n.toNat - 1) rfl (by omega) (fun i hi => ?_) ?_
  · have l1 := lcg_rng s1 s2 (n.toNat + i)
    have hMi := hM.to (K i (ki (lcg s (n.toNat + i))) (by omega))
    have hMj := hM.to (K i (ki (lcg s (n.toNat + i + 1))) (by omega))
    have ex : gi (wr (jw ν 95 41 (.int (ki (lcg s (n.toNat + i))))) 110 (5 * d).toNat (dwC s n.toNat) i) 95 41 = lcg s (n.toNat + i) := by
      rw [wr_other (by decide), gi_jw _ _ (by omega) (by omega), if_pos ⟨rfl, rfl⟩]
    have e := X12_draw hMi ex l1.1 l1.2 (m := 36) (by omega) (by omega)
    have l3 : (25173 * lcg s (n.toNat + i) + 13849) % 65536 = lcg s (n.toNat + i + 1) := rfl
    have l4 : dwC s n.toNat (i : Int) = lcg s (n.toNat + i + 1) / 4 % 36 + 1 := rfl
    rw [l3, ← wr_comm (by decide), jw_over] at e
    have e3 : (5 * d + (i : Int)).toNat = (5 * d).toNat + i := by omega
    simp only [wr]
    rw [l4, ← Nat.add_assoc]
    simp (disch := omega) only [b_X12_draws_72, kM.o28 hMi, krcv hM.y, e, kasI (kM.a110 hMj), ki_0, ki_1, ki_2, ki_3, ki_4, ki_5, ki_6, ki_7, ki_8, ki_9, ki_10, ki_11, ki_12, ki_13, ki_18, ki_20, ki_24, ki_32, ki_36, ki_45, ki_47, ki_48, ki_50, ki_57, ki_60, ki_63, ki_99, ki_100, ki_101, ki_120, ki_255, ki_468, ki_1000, ki_1024, ki_13849, ki_25173, ki_65535, ki_65536, ki_100000, ki_100001, ki_2147483647, ki_2147483648, kl_0, kl_1, kl_2, kl_9223372036854775808, ki_add, ki_sub, ki_mul, ki_neg, kl_add, kl_sub, kl_mul, kl_neg, ki_i2l, kl_l2i, ki_lt, ki_le, ki_eq, kcmp_eq, kcmp_lt, kcmp_le, kcmp_gt, kcmp_ge, Option.bind_some, Option.map_some, kbool0, kbool1, if_pos, if_neg, if_true, if_false, Int.neg_neg, Int.sub_zero, Int.add_zero, Int.zero_add, true_and, and_true, false_and, and_false, false_or, or_false, true_or, or_true, ne_eq, not_false_eq_true, not_true_eq_false, Int.natCast_add, Int.natCast_one, e3]
  · have l1 := lcg_rng s1 s2 (n.toNat + (n.toNat - 1))
    have hMi := hM.to (K (n.toNat - 1) (ki (lcg s (n.toNat + (n.toNat - 1)))) (by omega))
    have ex : gi (wr (jw ν 95 41 (.int (ki (lcg s (n.toNat + (n.toNat - 1)))))) 110 (5 * d).toNat (dwC s n.toNat) (n.toNat - 1)) 95 41 = lcg s (n.toNat + (n.toNat - 1)) := by
      rw [wr_other (by decide), gi_jw _ _ (by omega) (by omega), if_pos ⟨rfl, rfl⟩]
    have e := kM.g41 hMi
    rw [ex] at e
    simp (disch := omega) only [b_X12_draws_72, e, ki_0, ki_1, ki_2, ki_3, ki_4, ki_5, ki_6, ki_7, ki_8, ki_9, ki_10, ki_11, ki_12, ki_13, ki_18, ki_20, ki_24, ki_32, ki_36, ki_45, ki_47, ki_48, ki_50, ki_57, ki_60, ki_63, ki_99, ki_100, ki_101, ki_120, ki_255, ki_468, ki_1000, ki_1024, ki_13849, ki_25173, ki_65535, ki_65536, ki_100000, ki_100001, ki_2147483647, ki_2147483648, kl_0, kl_1, kl_2, kl_9223372036854775808, ki_add, ki_sub, ki_mul, ki_neg, kl_add, kl_sub, kl_mul, kl_neg, ki_i2l, kl_l2i, ki_lt, ki_le, ki_eq, kcmp_eq, kcmp_lt, kcmp_le, kcmp_gt, kcmp_ge, Option.bind_some, Option.map_some, kbool0, kbool1, if_pos, if_neg, if_true, if_false, Int.neg_neg, Int.sub_zero, Int.add_zero, Int.zero_add, true_and, and_true, false_and, and_false, false_or, or_false, true_or, or_true, ne_eq, not_false_eq_true, not_true_eq_false]
def drM (μ : jM) (d n s : Int) : jM := wr (jw (wr (jw μ 108 d.toNat (.int (ki n))) 109 (5 * d).toNat (dwA s) n.toNat) 95 41 (.int (ki (lcg s (n.toNat + (n.toNat - 1)))))) 110 (5 * d).toNat (dwC s n.toNat) (n.toNat - 1)
theorem X12_draws1 {Y : jY} {ν : jM} (hM : kM Y ν) {d n s : Int} (d1 : 0 ≤ d) (d2 : d ≤ 3) (n1 : 1 ≤ n) (n2 : n ≤ 5) (s1 : 0 ≤ s) (s2 : s ≤ 65535) : jit jF (fun (q : Int32 × jM) => b_X12_draws_37 Y 95 (ki d) (ki n) q.1 q.2) (ki 0, jw ν 95 41 (.int (ki s))) = some (ki (lcg s (n.toNat + (n.toNat - 1))), wr (jw (wr ν 109 (5 * d).toNat (dwA s) n.toNat) 95 41 (.int (ki (lcg s (n.toNat + (n.toNat - 1)))))) 110 (5 * d).toNat (dwC s n.toNat) (n.toNat - 1)) := by
  have K : ∀ i v, i ≤ n.toNat → kF 95 123 ν (wr (jw ν 95 41 (.int v)) 109 (5 * d).toNat (dwA s) i) := fun i v hi => (kF.j95 hM).trans (wr_kF (by omega) (by omega) i (fun j hj => (hM.to (kF.j95 hM)).a109i (by omega)))
  have K2 : kF 95 123 ν (wr ν 109 (5 * d).toNat (dwA s) n.toNat) := wr_kF (by omega) (by omega) _ (fun j hj => hM.a109i (by omega))
  have e2 := X12_draws2 (hM.to K2) (d := d) (n := n) d1 d2 n1 n2 s1 s2
  refine jit_run (fun i => (ki i, wr (jw ν 95 41 (.int (ki (lcg s i)))) 109 (5 * d).toNat (dwA s) i)) _ n.toNat rfl (by omega) (fun i hi => ?_) ?_
  · have l1 := lcg_rng s1 s2 i
    have hMi := hM.to (K i (ki (lcg s i)) (by omega))
    have hMj := hM.to (K i (ki (lcg s (i + 1))) (by omega))
    have ex : gi (wr (jw ν 95 41 (.int (ki (lcg s i)))) 109 (5 * d).toNat (dwA s) i) 95 41 = lcg s i := by
      rw [wr_other (by decide), gi_jw _ _ (by omega) (by omega), if_pos ⟨rfl, rfl⟩]
    have e := X12_draw hMi ex l1.1 l1.2 (m := 13) (by omega) (by omega)
    have l3 : (25173 * lcg s i + 13849) % 65536 = lcg s (i + 1) := rfl
    have l4 : dwA s (i : Int) = lcg s (i + 1) / 4 % 13 - 6 := rfl
    rw [l3, ← wr_comm (by decide), jw_over] at e
    have e3 : (5 * d + (i : Int)).toNat = (5 * d).toNat + i := by omega
    simp only [wr]
    rw [l4]
    simp (disch := omega) only [b_X12_draws_37, kM.o27 hMi, krcv hM.y, e, kasI (kM.a109 hMj), ki_0, ki_1, ki_2, ki_3, ki_4, ki_5, ki_6, ki_7, ki_8, ki_9, ki_10, ki_11, ki_12, ki_13, ki_18, ki_20, ki_24, ki_32, ki_36, ki_45, ki_47, ki_48, ki_50, ki_57, ki_60, ki_63, ki_99, ki_100, ki_101, ki_120, ki_255, ki_468, ki_1000, ki_1024, ki_13849, ki_25173, ki_65535, ki_65536, ki_100000, ki_100001, ki_2147483647, ki_2147483648, kl_0, kl_1, kl_2, kl_9223372036854775808, ki_add, ki_sub, ki_mul, ki_neg, kl_add, kl_sub, kl_mul, kl_neg, ki_i2l, kl_l2i, ki_lt, ki_le, ki_eq, kcmp_eq, kcmp_lt, kcmp_le, kcmp_gt, kcmp_ge, Option.bind_some, Option.map_some, kbool0, kbool1, if_pos, if_neg, if_true, if_false, Int.neg_neg, Int.sub_zero, Int.add_zero, Int.zero_add, true_and, and_true, false_and, and_false, false_or, or_false, true_or, or_true, ne_eq, not_false_eq_true, not_true_eq_false, Int.natCast_add, Int.natCast_one, e3]
  · rw [wr_comm (by decide)]
    simp (disch := omega) only [b_X12_draws_37, ki_0, ki_1, ki_2, ki_3, ki_4, ki_5, ki_6, ki_7, ki_8, ki_9, ki_10, ki_11, ki_12, ki_13, ki_18, ki_20, ki_24, ki_32, ki_36, ki_45, ki_47, ki_48, ki_50, ki_57, ki_60, ki_63, ki_99, ki_100, ki_101, ki_120, ki_255, ki_468, ki_1000, ki_1024, ki_13849, ki_25173, ki_65535, ki_65536, ki_100000, ki_100001, ki_2147483647, ki_2147483648, kl_0, kl_1, kl_2, kl_9223372036854775808, ki_add, ki_sub, ki_mul, ki_neg, kl_add, kl_sub, kl_mul, kl_neg, ki_i2l, kl_l2i, ki_lt, ki_le, ki_eq, kcmp_eq, kcmp_lt, kcmp_le, kcmp_gt, kcmp_ge, Option.bind_some, Option.map_some, kbool0, kbool1, if_pos, if_neg, if_true, if_false, Int.neg_neg, Int.sub_zero, Int.add_zero, Int.zero_add, true_and, and_true, false_and, and_false, false_or, or_false, true_or, or_true, ne_eq, not_false_eq_true, not_true_eq_false]
    rw [e2]
    rfl
theorem X12_draws {Y : jY} {μ : jM} (hM : kM Y μ) {d n s : Int} (d1 : 0 ≤ d) (d2 : d ≤ 3) (n1 : 1 ≤ n) (n2 : n ≤ 5) : f_X12_draws Y 95 (ki d) (ki n) (ki s) μ = some (ki (lcg (s % 65536) (n.toNat + (n.toNat - 1))), drM μ d n (s % 65536)) := by
  have k1 : kF 95 123 μ (jw μ 108 d.toNat (.int (ki n))) := kF_I (hM.a108i (by omega)) (by omega) (by omega)
  have e := X12_draws1 (hM.to k1) (d := d) (n := n) (s := s % 65536) d1 d2 n1 n2 (by omega) (by omega)
  have hM1 := hM.to (kF.j95 hM (v := ki (s % 65536)))
  simp (disch := omega) only [f_X12_draws, X12_isDrawer, X12_in, kmask16, kM.p hM, kM.o26 hM1, kasI (kM.a108 hM1), ki_0, ki_1, ki_2, ki_3, ki_4, ki_5, ki_6, ki_7, ki_8, ki_9, ki_10, ki_11, ki_12, ki_13, ki_18, ki_20, ki_24, ki_32, ki_36, ki_45, ki_47, ki_48, ki_50, ki_57, ki_60, ki_63, ki_99, ki_100, ki_101, ki_120, ki_255, ki_468, ki_1000, ki_1024, ki_13849, ki_25173, ki_65535, ki_65536, ki_100000, ki_100001, ki_2147483647, ki_2147483648, kl_0, kl_1, kl_2, kl_9223372036854775808, ki_add, ki_sub, ki_mul, ki_neg, kl_add, kl_sub, kl_mul, kl_neg, ki_i2l, kl_l2i, ki_lt, ki_le, ki_eq, kcmp_eq, kcmp_lt, kcmp_le, kcmp_gt, kcmp_ge, Option.bind_some, Option.map_some, kbool0, kbool1, if_pos, if_neg, if_true, if_false, Int.neg_neg, Int.sub_zero, Int.add_zero, Int.zero_add, true_and, and_true, false_and, and_false, false_or, or_false, true_or, or_true, ne_eq, not_false_eq_true, not_true_eq_false]
  rw [jw_comm (by decide), e]
  rfl
theorem ok_draws {L : Nat} {xs : Nat → Int32} {n : Nat} {Y : jY} {μ : jM} (h : Inv L xs n Y μ) : so_draws (Inv L xs) n Y μ := by
  have hX := h.x
  have hM := h.m
  intro a1 a2 a3
  obtain ⟨d, d1, d2, rfl⟩ := ki_is a1
  obtain ⟨k, k1, k2, rfl⟩ := ki_is a2
  obtain ⟨s, s1, s2, rfl⟩ := ki_is a3
  by_cases hd : 0 ≤ d ∧ d ≤ 3
  · obtain ⟨hT, hB, hMB, hR, hA, hC⟩ := h.d hd.1 hd.2; have hR0 := hMB.1; have hR5 := hMB.2.1
    by_cases hk : 1 ≤ k ∧ k ≤ 5
    · have e1 := X10_draw hT (n := k) s hk.1 hk.2
      have hs1 : 0 ≤ s % 65536 := by omega
      have hs2 : s % 65536 ≤ 65535 := by omega
      have m1 : kF 0 123 μ (jw μ (9 + 5 + 3 * d.toNat) 0 (.int (ki k))) := kF_I hT.ir (by omega) (by omega)
      have m2 : kF 0 123 (jw μ (9 + 5 + 3 * d.toNat) 0 (.int (ki k))) (wr (jw μ (9 + 5 + 3 * d.toNat) 0 (.int (ki k))) (9 + 5 + 3 * d.toNat + 1) 0 (dwA (s % 65536)) k.toNat) := wr_kF (by omega) (by omega) _ (fun j hj => (hT.to m1).aa.2.2.2 _ (by omega))
      have m3 := m1.trans m2
      have m4 : kF 0 123 (wr (jw μ (9 + 5 + 3 * d.toNat) 0 (.int (ki k))) (9 + 5 + 3 * d.toNat + 1) 0 (dwA (s % 65536)) k.toNat) (wr (wr (jw μ (9 + 5 + 3 * d.toNat) 0 (.int (ki k))) (9 + 5 + 3 * d.toNat + 1) 0 (dwA (s % 65536)) k.toNat) (9 + 5 + 3 * d.toNat + 2) 0 (dwC (s % 65536) k.toNat) (k.toNat - 1)) := wr_kF (by omega) (by omega) _ (fun j hj => (hT.to m3).ac.2.2.2 _ (by omega))
      have m5 := m3.trans m4
      have c1 : ∀ i, i ≠ 9 + 5 + 3 * d.toNat → i ≠ 9 + 5 + 3 * d.toNat + 1 → i ≠ 9 + 5 + 3 * d.toNat + 2 → wr (wr (jw μ (9 + 5 + 3 * d.toNat) 0 (.int (ki k))) (9 + 5 + 3 * d.toNat + 1) 0 (dwA (s % 65536)) k.toNat) (9 + 5 + 3 * d.toNat + 2) 0 (dwC (s % 65536) k.toNat) (k.toNat - 1) i = μ i := fun i i1 i2 i3 => by rw [wr_cell i3, wr_cell i2, jw_cell i1]
      have t0 : gi (wr (wr (jw μ (9 + 5 + 3 * d.toNat) 0 (.int (ki k))) (9 + 5 + 3 * d.toNat + 1) 0 (dwA (s % 65536)) k.toNat) (9 + 5 + 3 * d.toNat + 2) 0 (dwC (s % 65536) k.toNat) (k.toNat - 1)) (9 + 5 + 3 * d.toNat) 0 = k := by
        rw [wr_other (by omega), wr_other (by omega), gi_jw _ _ (by omega) (by omega), if_pos ⟨rfl, rfl⟩]
      have t1 : ∀ x : Int, 0 ≤ x → x < k → gi (wr (wr (jw μ (9 + 5 + 3 * d.toNat) 0 (.int (ki k))) (9 + 5 + 3 * d.toNat + 1) 0 (dwA (s % 65536)) k.toNat) (9 + 5 + 3 * d.toNat + 2) 0 (dwC (s % 65536) k.toNat) (k.toNat - 1)) (9 + 5 + 3 * d.toNat + 1) x = dwA (s % 65536) x := fun x x1 x2 => by
        rw [wr_other (by omega), wr_gi _ (fun j hj => by have := dwA_rng (s % 65536) j; omega) x x1, if_pos (by omega)]
        simp
      have t2 : ∀ x : Int, 0 ≤ x → x < k - 1 → gi (wr (wr (jw μ (9 + 5 + 3 * d.toNat) 0 (.int (ki k))) (9 + 5 + 3 * d.toNat + 1) 0 (dwA (s % 65536)) k.toNat) (9 + 5 + 3 * d.toNat + 2) 0 (dwC (s % 65536) k.toNat) (k.toNat - 1)) (9 + 5 + 3 * d.toNat + 2) x = dwC (s % 65536) k.toNat x := fun x x1 x2 => by
        rw [wr_gi _ (fun j hj => by have := dwC_rng (s % 65536) k.toNat j; omega) x x1, if_pos (by omega)]
        simp
      generalize wr (wr (jw μ (9 + 5 + 3 * d.toNat) 0 (.int (ki k))) (9 + 5 + 3 * d.toNat + 1) 0 (dwA (s % 65536)) k.toNat) (9 + 5 + 3 * d.toNat + 2) 0 (dwC (s % 65536) k.toNat) (k.toNat - 1) = μ1 at *
      have hM1 := hM.to m5
      have e2 := X12_draws hM1 (d := d) (n := k) (s := s) hd.1 hd.2 hk.1 hk.2
      have q1 : kF 95 123 μ1 (jw μ1 108 d.toNat (.int (ki k))) := kF_I (hM1.a108i (by omega)) (by omega) (by omega)
      have q2 : kF 95 123 (jw μ1 108 d.toNat (.int (ki k))) (wr (jw μ1 108 d.toNat (.int (ki k))) 109 (5 * d).toNat (dwA (s % 65536)) k.toNat) := wr_kF (by omega) (by omega) _ (fun j hj => (hM1.to q1).a109i (by omega))
      have q3 := q1.trans q2
      have q4 := q3.trans (kF.j95 (hM1.to q3) (v := ki (lcg (s % 65536) (k.toNat + (k.toNat - 1)))))
      have q5 : kF 95 123 μ1 (drM μ1 d k (s % 65536)) := q4.trans (wr_kF (by omega) (by omega) _ (fun j hj => (hM1.to q4).a110i (by omega)))
      have p0 : ∀ e : Int, 0 ≤ e → gi (drM μ1 d k (s % 65536)) 108 e = if e = d then k else gi μ1 108 e := fun e e1 => by
        unfold drM
        rw [wr_other (by decide), gi_cell (jw_cell (by decide)), wr_other (by decide), gi_jw _ _ (by omega) (by omega)]
        by_cases g : e = d
        · rw [if_pos g, if_pos (by omega)]
        · rw [if_neg g, if_neg (by omega)]
      have p1 : ∀ e x : Int, 0 ≤ e → e ≤ 3 → 0 ≤ x → x < 5 → mA (drM μ1 d k (s % 65536)) e x = if e = d ∧ x < k then dwA (s % 65536) x else mA μ1 e x := fun e x e1 e2 x1 x2 => by
        unfold drM mA
        rw [wr_other (by decide), gi_cell (jw_cell (by decide)), wr_gi _ (fun j hj => by have := dwA_rng (s % 65536) j; omega) _ (by omega), gi_cell (jw_cell (by decide))]
        by_cases g : e = d ∧ x < k
        · rw [if_pos g, if_pos (by omega)]
          congr 1
          omega
        · rw [if_neg g, if_neg (by omega)]
      have p2 : ∀ e x : Int, 0 ≤ e → e ≤ 3 → 0 ≤ x → x < 5 → mC (drM μ1 d k (s % 65536)) e x = if e = d ∧ x < k - 1 then dwC (s % 65536) k.toNat x else mC μ1 e x := fun e x e1 e2 x1 x2 => by
        unfold drM mC
        rw [wr_gi _ (fun j hj => by have := dwC_rng (s % 65536) k.toNat j; omega) _ (by omega), gi_cell (jw_cell (by decide)), wr_other (by decide), gi_cell (jw_cell (by decide))]
        by_cases g : e = d ∧ x < k - 1
        · rw [if_pos g, if_pos (by omega)]
          congr 1
          omega
        · rw [if_neg g, if_neg (by omega)]
      have p3 : ∀ i, i ≠ 95 → i ≠ 108 → i ≠ 109 → i ≠ 110 → drM μ1 d k (s % 65536) i = μ1 i := fun i i1 i2 i3 i4 => by
        unfold drM
        rw [wr_cell i4, jw_cell i1, wr_cell i3, jw_cell i2]
      have p4 : ∀ j, j ≠ 41 → drM μ1 d k (s % 65536) 95 j = μ1 95 j := fun j hj => by
        unfold drM
        rw [wr_cell (by decide), jw_slot hj, wr_cell (by decide), jw_cell (by decide)]
      refine ⟨(ki (lcg (s % 65536) (k.toNat + (k.toNat - 1))), μ1), (ki (lcg (s % 65536) (k.toNat + (k.toNat - 1))), drM μ1 d k (s % 65536)), ?_, fun j => congrFun (c1 0 (by omega) (by omega) (by omega)) j, e2, rfl, ?_⟩
      · simp (disch := omega) only [f_X11_draws, krcv (kX.y1 hX), kX.o1_3 hX, kS.gd (kX.now hX), kS.gt (kX.now hX), X11_within, X11_isDrawer, f_X11_isFilled, b_X11_isFilled_27, b_X11_isFilled_26, f_X11_isRow, b_X11_isRow_35, b_X11_isRow_34, f_X11_isPart, b_X11_isPart_14, b_X11_isPart_9, kT.gr hT, krcv hT.y, hR, e1, ki_0, ki_1, ki_2, ki_3, ki_4, ki_5, ki_6, ki_7, ki_8, ki_9, ki_10, ki_11, ki_12, ki_13, ki_18, ki_20, ki_24, ki_32, ki_36, ki_45, ki_47, ki_48, ki_50, ki_57, ki_60, ki_63, ki_99, ki_100, ki_101, ki_120, ki_255, ki_468, ki_1000, ki_1024, ki_13849, ki_25173, ki_65535, ki_65536, ki_100000, ki_100001, ki_2147483647, ki_2147483648, kl_0, kl_1, kl_2, kl_9223372036854775808, ki_add, ki_sub, ki_mul, ki_neg, kl_add, kl_sub, kl_mul, kl_neg, ki_i2l, kl_l2i, ki_lt, ki_le, ki_eq, kcmp_eq, kcmp_lt, kcmp_le, kcmp_gt, kcmp_ge, Option.bind_some, Option.map_some, kbool0, kbool1, if_pos, if_neg, if_true, if_false, Int.neg_neg, Int.sub_zero, Int.add_zero, Int.zero_add, true_and, and_true, false_and, and_false, false_or, or_false, true_or, or_true, ne_eq, not_false_eq_true, not_true_eq_false]
      · generalize drM μ1 d k (s % 65536) = μ2 at *
        have c95 : μ1 95 = μ 95 := c1 95 (by omega) (by omega) (by omega)
        refine h.upd3 hd.1 hd.2 (m5.trans (q5.mono (by omega) (by omega))) (fun j j1 j2 j3 j4 j5 j6 j7 j8 => (p3 j j4 j5 j6 j7).trans (c1 j j1 j2 j3)) ((p4 1 (by decide)).trans (congrFun c95 1)) ((p4 10 (by decide)).trans (congrFun c95 10)) ((p4 25 (by decide)).trans (congrFun c95 25)) ?_ (fun e e1 e2 e3 => ⟨?_, fun x x1 x2 => ?_, fun x x1 x2 => ?_⟩)
        · unfold relT
          rw [p0 d hd.1, if_pos rfl, gi_cell (p3 _ (by omega) (by omega) (by omega) (by omega)), t0]
          refine ⟨rfl, by omega, by omega, fun x x1 x2 => ?_, fun x x1 x2 => ?_⟩
          · rw [p1 d x hd.1 hd.2 x1 (by omega), if_pos ⟨rfl, x2⟩, gi_cell (p3 _ (by omega) (by omega) (by omega) (by omega)), t1 x x1 x2]
            exact ⟨rfl, dwA_rng _ _⟩
          · rw [p2 d x hd.1 hd.2 x1 (by omega), if_pos ⟨rfl, x2⟩, gi_cell (p3 _ (by omega) (by omega) (by omega) (by omega)), t2 x x1 x2]
            exact ⟨rfl, dwC_rng _ _ _⟩
        · rw [p0 e e1, if_neg e3, gi_cell (c1 108 (by omega) (by omega) (by omega))]
        · rw [p1 e x e1 e2 x1 x2, if_neg (fun q => e3 q.1)]
          unfold mA
          rw [gi_cell (c1 109 (by omega) (by omega) (by omega))]
        · rw [p2 e x e1 e2 x1 x2, if_neg (fun q => e3 q.1)]
          unfold mC
          rw [gi_cell (c1 110 (by omega) (by omega) (by omega))]
    · refine ⟨(ki (-1), μ), (ki (-1), μ), ?_, fun _ => rfl, ?_, rfl, h⟩ <;> simp (disch := omega) only [f_X11_draws, b_X11_draws_16, f_X12_draws, b_X12_draws_16, b_X12_draws_72, b_X12_draws_37, krcv (kX.y1 hX), kX.o1_3 hX, kS.gd (kX.now hX), kS.gt (kX.now hX), X11_within, X11_isDrawer, f_X11_isFilled, b_X11_isFilled_27, b_X11_isFilled_26, f_X11_isRow, b_X11_isRow_35, b_X11_isRow_34, f_X11_isPart, b_X11_isPart_14, b_X11_isPart_9, krcv (kM.y hM), kM.o26 hM, kaI (kM.a108 hM), X12_in, X12_isDrawer, kT.gr hT, krcv hT.y, hR, ki_0, ki_1, ki_2, ki_3, ki_4, ki_5, ki_6, ki_7, ki_8, ki_9, ki_10, ki_11, ki_12, ki_13, ki_18, ki_20, ki_24, ki_32, ki_36, ki_45, ki_47, ki_48, ki_50, ki_57, ki_60, ki_63, ki_99, ki_100, ki_101, ki_120, ki_255, ki_468, ki_1000, ki_1024, ki_13849, ki_25173, ki_65535, ki_65536, ki_100000, ki_100001, ki_2147483647, ki_2147483648, kl_0, kl_1, kl_2, kl_9223372036854775808, ki_add, ki_sub, ki_mul, ki_neg, kl_add, kl_sub, kl_mul, kl_neg, ki_i2l, kl_l2i, ki_lt, ki_le, ki_eq, kcmp_eq, kcmp_lt, kcmp_le, kcmp_gt, kcmp_ge, Option.bind_some, Option.map_some, kbool0, kbool1, if_pos, if_neg, if_true, if_false, Int.neg_neg, Int.sub_zero, Int.add_zero, Int.zero_add, true_and, and_true, false_and, and_false, false_or, or_false, true_or, or_true, ne_eq, not_false_eq_true, not_true_eq_false]
  · refine ⟨(ki (-1), μ), (ki (-1), μ), ?_, fun _ => rfl, ?_, rfl, h⟩ <;> simp (disch := omega) only [f_X11_draws, b_X11_draws_16, f_X12_draws, b_X12_draws_16, b_X12_draws_72, b_X12_draws_37, krcv (kX.y1 hX), kX.o1_3 hX, kS.gd (kX.now hX), kS.gt (kX.now hX), X11_within, X11_isDrawer, f_X11_isFilled, b_X11_isFilled_27, b_X11_isFilled_26, f_X11_isRow, b_X11_isRow_35, b_X11_isRow_34, f_X11_isPart, b_X11_isPart_14, b_X11_isPart_9, krcv (kM.y hM), kM.o26 hM, kaI (kM.a108 hM), X12_in, X12_isDrawer, ki_0, ki_1, ki_2, ki_3, ki_4, ki_5, ki_6, ki_7, ki_8, ki_9, ki_10, ki_11, ki_12, ki_13, ki_18, ki_20, ki_24, ki_32, ki_36, ki_45, ki_47, ki_48, ki_50, ki_57, ki_60, ki_63, ki_99, ki_100, ki_101, ki_120, ki_255, ki_468, ki_1000, ki_1024, ki_13849, ki_25173, ki_65535, ki_65536, ki_100000, ki_100001, ki_2147483647, ki_2147483648, kl_0, kl_1, kl_2, kl_9223372036854775808, ki_add, ki_sub, ki_mul, ki_neg, kl_add, kl_sub, kl_mul, kl_neg, ki_i2l, kl_l2i, ki_lt, ki_le, ki_eq, kcmp_eq, kcmp_lt, kcmp_le, kcmp_gt, kcmp_ge, Option.bind_some, Option.map_some, kbool0, kbool1, if_pos, if_neg, if_true, if_false, Int.neg_neg, Int.sub_zero, Int.add_zero, Int.zero_add, true_and, and_true, false_and, and_false, false_or, or_false, true_or, or_true, ne_eq, not_false_eq_true, not_true_eq_false]
