/-! OPS: draws; masks -/
theorem kmaskN (a : Int) (k : Nat) (hk : k ≤ 30) : (ki a &&& Int32.ofNat (2 ^ k - 1)).toInt = a % (2 ^ k : Nat) := by
  have hp : 2 ^ k ≤ 2 ^ 30 := Nat.pow_le_pow_right (by decide) hk
  have hp1 : 0 < 2 ^ k := Nat.pow_pos (by decide)
  have e1 : (ki a &&& Int32.ofNat (2 ^ k - 1)).toBitVec.toNat = (a % 2 ^ 32).toNat % 2 ^ k := by
    rw [Int32.toBitVec_and, BitVec.toNat_and]
    show (BitVec.ofInt 32 a).toNat &&& (BitVec.ofNat 32 (2 ^ k - 1)).toNat = _
    rw [BitVec.toNat_ofInt, BitVec.toNat_ofNat, Nat.mod_eq_of_lt (show 2 ^ k - 1 < 2 ^ 32 by omega), Nat.and_two_pow_sub_one_eq_mod]
    rfl
  have hlt : (a % 2 ^ 32).toNat % 2 ^ k < 2 ^ k := Nat.mod_lt _ hp1
  have e2 : (ki a &&& Int32.ofNat (2 ^ k - 1)).toInt = (((a % 2 ^ 32).toNat % 2 ^ k : Nat) : Int) := by
    show (ki a &&& Int32.ofNat (2 ^ k - 1)).toBitVec.toInt = _
    rw [BitVec.toInt_eq_toNat_of_lt (by rw [e1]; omega), e1]
  rw [e2]
  have h3 : 0 ≤ a % 2 ^ 32 := Int.emod_nonneg _ (by decide)
  rw [Int.natCast_emod, Int.toNat_of_nonneg h3]
  have h4 : ((2 ^ k : Nat) : Int) ∣ 2 ^ 32 := by
    have : (2 ^ k : Nat) ∣ 2 ^ 32 := Nat.pow_dvd_pow 2 (by omega)
    exact_mod_cast this
  exact Int.emod_emod_of_dvd a h4
theorem kmask16 (a : Int) : ki a &&& ki 65535 = ki (a % 65536) := by
  have h := kmaskN a 16 (by decide)
  rw [← Int32.toInt_inj]
  have e : ki 65535 = Int32.ofNat (2 ^ 16 - 1) := rfl
  rw [e, h, ki_toInt (by omega) (by omega)]
  rfl
theorem kmask8 (a : Int) : ki a &&& ki 255 = ki (a % 256) := by
  have h := kmaskN a 8 (by decide)
  rw [← Int32.toInt_inj]
  have e : ki 255 = Int32.ofNat (2 ^ 8 - 1) := rfl
  rw [e, h, ki_toInt (by omega) (by omega)]
  rfl
/-- the numbers drawn, from a start -/
def lcg (s : Int) : Nat → Int
  | 0 => s
  | i + 1 => (25173 * lcg s i + 13849) % 65536
theorem lcg_rng {s : Int} (h1 : 0 ≤ s) (h2 : s ≤ 65535) : ∀ i, 0 ≤ lcg s i ∧ lcg s i ≤ 65535 := by
  intro i
  cases i with
  | zero => exact ⟨h1, h2⟩
  | succ i => simp only [lcg]; omega
def dwA (s : Int) : Int → Int := fun x => lcg s (x.toNat + 1) / 4 % 13 - 6
def dwC (s : Int) (n : Nat) : Int → Int := fun x => lcg s (n + (x.toNat + 1)) / 4 % 36 + 1
theorem dwA_rng (s x : Int) : -6 ≤ dwA s x ∧ dwA s x ≤ 6 := by unfold dwA; omega
theorem dwC_rng (s : Int) (n : Nat) (x : Int) : 1 ≤ dwC s n x ∧ dwC s n x ≤ 36 := by unfold dwC; omega
theorem X10_drawnBehind {Y : jY} {μ : jM} {x : Int} : f_X10_drawnBehind Y (ki x) μ = some (ki ((25173 * x + 13849) % 65536), μ) := by
  simp only [f_X10_drawnBehind, ki_0, ki_1, ki_2, ki_3, ki_4, ki_5, ki_6, ki_7, ki_8, ki_9, ki_10, ki_11, ki_12, ki_13, ki_18, ki_20, ki_24, ki_32, ki_36, ki_45, ki_47, ki_48, ki_50, ki_57, ki_60, ki_63, ki_99, ki_100, ki_101, ki_120, ki_255, ki_468, ki_1000, ki_1024, ki_13849, ki_25173, ki_65535, ki_65536, ki_100000, ki_100001, ki_2147483647, ki_2147483648, kl_0, kl_1, kl_2, kl_9223372036854775808, ki_add, ki_sub, ki_mul, ki_neg, kl_add, kl_sub, kl_mul, kl_neg, ki_i2l, kl_l2i, kmask16]
theorem X10_draw2 {Y : jY} {ν : jM} {o : Nat} (hT : kT Y ν o) {n s : Int} (n1 : 1 ≤ n) (n2 : n ≤ 5) (s1 : 0 ≤ s) (s2 : s ≤ 65535) : jit jF (fun (q : Int32 × Int32 × jM) => b_X10_draw_49 Y o (ki n) q.1 q.2.1 q.2.2) (ki (lcg s n.toNat), ki 0, ν) = some (ki (lcg s (n.toNat + (n.toNat - 1))), wr ν (o + 2) 0 (dwC s n.toNat) (n.toNat - 1)) := by
  have k2 : ∀ i, i ≤ n.toNat - 1 → kF o (o + 3) ν (wr ν (o + 2) 0 (dwC s n.toNat) i) := fun i hi => wr_kF (by omega) (by omega) i (fun j hj => hT.ac.2.2.2 _ (by omega))
  refine jit_run (fun i => (ki (lcg s (n.toNat + i)), ki i, wr ν (o + 2) 0 (dwC s n.toNat) i)) _ (n.toNat - 1) rfl (by omega) (fun i hi => ?_) ?_
  · have hTi := hT.to (k2 i (by omega))
    have l1 := lcg_rng s1 s2 (n.toNat + i)
    have l2 := lcg_rng s1 s2 (n.toNat + i + 1)
    have l3 : (25173 * lcg s (n.toNat + i) + 13849) % 65536 = lcg s (n.toNat + i + 1) := rfl
    have l4 : dwC s n.toNat (i : Int) = lcg s (n.toNat + i + 1) / 4 % 36 + 1 := rfl
    simp only [wr, Nat.zero_add]
    rw [l4, ← Nat.add_assoc]
    simp (disch := omega) only [b_X10_draw_49, X10_drawnBehind, l3, kdiv, krem, kT.ga hTi, kT.gc hTi, kT.gr hTi, kaI (kT.aa hTi), kaI (kT.ac hTi), kasI (kT.aa hTi), kasI (kT.ac hTi), krcv (kT.y hTi), kT.pr hTi, ki_0, ki_1, ki_2, ki_3, ki_4, ki_5, ki_6, ki_7, ki_8, ki_9, ki_10, ki_11, ki_12, ki_13, ki_18, ki_20, ki_24, ki_32, ki_36, ki_45, ki_47, ki_48, ki_50, ki_57, ki_60, ki_63, ki_99, ki_100, ki_101, ki_120, ki_255, ki_468, ki_1000, ki_1024, ki_13849, ki_25173, ki_65535, ki_65536, ki_100000, ki_100001, ki_2147483647, ki_2147483648, kl_0, kl_1, kl_2, kl_9223372036854775808, ki_add, ki_sub, ki_mul, ki_neg, kl_add, kl_sub, kl_mul, kl_neg, ki_i2l, kl_l2i, ki_lt, ki_le, ki_eq, kcmp_eq, kcmp_lt, kcmp_le, kcmp_gt, kcmp_ge, Option.bind_some, Option.map_some, kbool0, kbool1, if_pos, if_neg, if_true, if_false, Int.neg_neg, Int.sub_zero, Int.add_zero, Int.zero_add, true_and, and_true, false_and, and_false, false_or, or_false, true_or, or_true, ne_eq, not_false_eq_true, not_true_eq_false, Int.toNat_natCast, Int.natCast_add, Int.natCast_one]
  · simp (disch := omega) only [b_X10_draw_49, ki_0, ki_1, ki_2, ki_3, ki_4, ki_5, ki_6, ki_7, ki_8, ki_9, ki_10, ki_11, ki_12, ki_13, ki_18, ki_20, ki_24, ki_32, ki_36, ki_45, ki_47, ki_48, ki_50, ki_57, ki_60, ki_63, ki_99, ki_100, ki_101, ki_120, ki_255, ki_468, ki_1000, ki_1024, ki_13849, ki_25173, ki_65535, ki_65536, ki_100000, ki_100001, ki_2147483647, ki_2147483648, kl_0, kl_1, kl_2, kl_9223372036854775808, ki_add, ki_sub, ki_mul, ki_neg, kl_add, kl_sub, kl_mul, kl_neg, ki_i2l, kl_l2i, ki_lt, ki_le, ki_eq, kcmp_eq, kcmp_lt, kcmp_le, kcmp_gt, kcmp_ge, Option.bind_some, Option.map_some, kbool0, kbool1, if_pos, if_neg, if_true, if_false, Int.neg_neg, Int.sub_zero, Int.add_zero, Int.zero_add, true_and, and_true, false_and, and_false, false_or, or_false, true_or, or_true, ne_eq, not_false_eq_true, not_true_eq_false]
theorem X10_draw {Y : jY} {μ : jM} {o : Nat} (hT : kT Y μ o) {n : Int} (s : Int) (n1 : 1 ≤ n) (n2 : n ≤ 5) : f_X10_draw Y o (ki n) (ki s) μ = some (ki (lcg (s % 65536) (n.toNat + (n.toNat - 1))), wr (wr (jw μ o 0 (.int (ki n))) (o + 1) 0 (dwA (s % 65536)) n.toNat) (o + 2) 0 (dwC (s % 65536) n.toNat) (n.toNat - 1)) := by
  have k1 : kF o (o + 3) μ (jw μ o 0 (.int (ki n))) := kF_I hT.ir (Nat.le_refl _) (by omega)
  have hT1 := hT.to k1
  have hs1 : 0 ≤ s % 65536 := by omega
  have hs2 : s % 65536 ≤ 65535 := by omega
  unfold f_X10_draw
  rw [hT.pr, Option.bind_some, ki_65535, kmask16, ki_0]
  generalize jw μ o 0 (.int (ki n)) = ν at *
  generalize s % 65536 = s0 at *
  have k2 : ∀ i, i ≤ n.toNat → kF o (o + 3) ν (wr ν (o + 1) 0 (dwA s0) i) := fun i hi => wr_kF (by omega) (by omega) i (fun j hj => hT1.aa.2.2.2 _ (by omega))
  have e := X10_draw2 (hT1.to (k2 n.toNat (Nat.le_refl _))) (n := n) n1 n2 hs1 hs2
  refine jit_run (fun i => (ki (lcg s0 i), ki i, wr ν (o + 1) 0 (dwA s0) i)) _ n.toNat rfl (by omega) (fun i hi => ?_) ?_
  · have hTi := hT1.to (k2 i (by omega))
    have l1 := lcg_rng hs1 hs2 i
    have l2 := lcg_rng hs1 hs2 (i + 1)
    have l3 : (25173 * lcg s0 i + 13849) % 65536 = lcg s0 (i + 1) := rfl
    have l4 : dwA s0 (i : Int) = lcg s0 (i + 1) / 4 % 13 - 6 := rfl
    simp only [wr, Nat.zero_add]
    rw [l4]
    simp (disch := omega) only [b_X10_draw_13, X10_drawnBehind, l3, kdiv, krem, kT.ga hTi, kT.gc hTi, kT.gr hTi, kaI (kT.aa hTi), kaI (kT.ac hTi), kasI (kT.aa hTi), kasI (kT.ac hTi), krcv (kT.y hTi), kT.pr hTi, ki_0, ki_1, ki_2, ki_3, ki_4, ki_5, ki_6, ki_7, ki_8, ki_9, ki_10, ki_11, ki_12, ki_13, ki_18, ki_20, ki_24, ki_32, ki_36, ki_45, ki_47, ki_48, ki_50, ki_57, ki_60, ki_63, ki_99, ki_100, ki_101, ki_120, ki_255, ki_468, ki_1000, ki_1024, ki_13849, ki_25173, ki_65535, ki_65536, ki_100000, ki_100001, ki_2147483647, ki_2147483648, kl_0, kl_1, kl_2, kl_9223372036854775808, ki_add, ki_sub, ki_mul, ki_neg, kl_add, kl_sub, kl_mul, kl_neg, ki_i2l, kl_l2i, ki_lt, ki_le, ki_eq, kcmp_eq, kcmp_lt, kcmp_le, kcmp_gt, kcmp_ge, Option.bind_some, Option.map_some, kbool0, kbool1, if_pos, if_neg, if_true, if_false, Int.neg_neg, Int.sub_zero, Int.add_zero, Int.zero_add, true_and, and_true, false_and, and_false, false_or, or_false, true_or, or_true, ne_eq, not_false_eq_true, not_true_eq_false, Int.toNat_natCast, Int.natCast_add, Int.natCast_one]
  · simp (disch := omega) only [b_X10_draw_13, ki_0, ki_1, ki_2, ki_3, ki_4, ki_5, ki_6, ki_7, ki_8, ki_9, ki_10, ki_11, ki_12, ki_13, ki_18, ki_20, ki_24, ki_32, ki_36, ki_45, ki_47, ki_48, ki_50, ki_57, ki_60, ki_63, ki_99, ki_100, ki_101, ki_120, ki_255, ki_468, ki_1000, ki_1024, ki_13849, ki_25173, ki_65535, ki_65536, ki_100000, ki_100001, ki_2147483647, ki_2147483648, kl_0, kl_1, kl_2, kl_9223372036854775808, ki_add, ki_sub, ki_mul, ki_neg, kl_add, kl_sub, kl_mul, kl_neg, ki_i2l, kl_l2i, ki_lt, ki_le, ki_eq, kcmp_eq, kcmp_lt, kcmp_le, kcmp_gt, kcmp_ge, Option.bind_some, Option.map_some, kbool0, kbool1, if_pos, if_neg, if_true, if_false, Int.neg_neg, Int.sub_zero, Int.add_zero, Int.zero_add, true_and, and_true, false_and, and_false, false_or, or_false, true_or, or_true, ne_eq, not_false_eq_true, not_true_eq_false]
    rw [e]
    rfl
