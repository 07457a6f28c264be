/-! WHOLE TABLES: what a cell of a table holds, its polynomials -/
theorem kmul {a b A B : Int} (h1 : -A ≤ a) (h2 : a ≤ A) (h3 : -B ≤ b) (h4 : b ≤ B) : -(A * B) ≤ a * b ∧ a * b ≤ A * B := by
  have h5 : (a * b).natAbs ≤ A.toNat * B.toNat := by
    rw [Int.natAbs_mul]
    exact Nat.mul_le_mul (by omega) (by omega)
  have h6 : ((A.toNat * B.toNat : Nat) : Int) = A * B := by
    rw [Int.natCast_mul, Int.toNat_of_nonneg (by omega), Int.toNat_of_nonneg (by omega)]
  omega
def kT (Y : jY) (μ : jM) (o : Nat) : Prop := Y o = (10, 3) ∧ o ≠ 0 ∧ isI μ o 0 ∧ μ o 1 = .ref (o + 1) ∧ μ o 2 = .ref (o + 2) ∧ kAI Y μ (o + 1) 5 ∧ kAI Y μ (o + 2) 4
theorem kT.to {Y : jY} {μ μ' : jM} {o lo hi : Nat} (h : kT Y μ o) (k : kF lo hi μ μ') : kT Y μ' o := ⟨h.1, h.2.1, k.I h.2.2.1, k.R h.2.2.2.1, k.R h.2.2.2.2.1, h.2.2.2.2.2.1.to k, h.2.2.2.2.2.2.to k⟩
theorem kT.y {Y : jY} {μ : jM} {o : Nat} (h : kT Y μ o) : (Y o).1 = 10 := by rw [h.1]
theorem kT.nz {Y : jY} {μ : jM} {o : Nat} (h : kT Y μ o) : o ≠ 0 := h.2.1
theorem kT.ir {Y : jY} {μ : jM} {o : Nat} (h : kT Y μ o) : isI μ o 0 := h.2.2.1
theorem kT.aa {Y : jY} {μ : jM} {o : Nat} (h : kT Y μ o) : kAI Y μ (o + 1) 5 := h.2.2.2.2.2.1
theorem kT.ac {Y : jY} {μ : jM} {o : Nat} (h : kT Y μ o) : kAI Y μ (o + 2) 4 := h.2.2.2.2.2.2
theorem kT.ga {Y : jY} {μ : jM} {o : Nat} (h : kT Y μ o) : jgO Y μ o 10 1 = some (o + 1) := kgO h.y h.2.2.2.1
theorem kT.gc {Y : jY} {μ : jM} {o : Nat} (h : kT Y μ o) : jgO Y μ o 10 2 = some (o + 2) := kgO h.y h.2.2.2.2.1
theorem kT.gr {Y : jY} {μ : jM} {o : Nat} (h : kT Y μ o) : jgI Y μ o 10 0 = some (ki (gi μ o 0)) := kgI h.y h.2.2.1
theorem kT.pr {Y : jY} {μ : jM} {o : Nat} (h : kT Y μ o) (v : Value) : jput Y μ o 10 0 v = some (jw μ o 0 v) := kput h.y h.2.1
/-- what stands in a table: its rows and numbers are within their bounds -/
def kTb (μ : jM) (o : Nat) : Prop := 0 ≤ gi μ o 0 ∧ gi μ o 0 ≤ 5 ∧ (∀ x : Int, 0 ≤ x → x < gi μ o 0 → -6 ≤ gi μ (o + 1) x ∧ gi μ (o + 1) x ≤ 6) ∧ ∀ x : Int, 0 ≤ x → x < gi μ o 0 - 1 → 1 ≤ gi μ (o + 2) x ∧ gi μ (o + 2) x ≤ 36
theorem kTb.to {μ μ' : jM} {o lo hi : Nat} (h : kTb μ o) (k : kF lo hi μ μ') (hd : o + 2 < lo ∨ hi ≤ o) : kTb μ' o := by
  unfold kTb
  rw [k.gi (i := o) (by omega)]
  refine ⟨h.1, h.2.1, fun x h0 h1 => ?_, fun x h0 h1 => ?_⟩
  · rw [k.gi (i := o + 1) (by omega)]; exact h.2.2.1 x h0 h1
  · rw [k.gi (i := o + 2) (by omega)]; exact h.2.2.2 x h0 h1
/-- the polynomials at p through q, times q to their height: the one ahead, this one -/
def pv (A C : Int → Int) (p q fr : Int) : Nat → Int × Int
  | 0 => (0, 1)
  | k + 1 => ((pv A C p q fr k).2, (p - q * A (fr + k)) * (pv A C p q fr k).2 - q * q * C (fr + k - 1) * (pv A C p q fr k).1)
set_option maxRecDepth 4000 in
theorem X10_valueBehind {Y : jY} {μ : jM} {o : Nat} (hT : kT Y μ o) {r b v p q : Int} (h0 : 0 ≤ r) (h1 : r < 5) (hb : r = 0 → b = 0) (hp1 : -3000 ≤ p) (hp2 : p ≤ 3000) (hq1 : 0 ≤ q) (hq2 : q ≤ 50) (hA1 : -6 ≤ gi μ (o + 1) r) (hA2 : gi μ (o + 1) r ≤ 6) :
    f_X10_valueBehind Y o (ki r) (kl b) (kl v) (ki p) (ki q) μ = some (kl ((p - q * gi μ (o + 1) r) * v - q * q * gi μ (o + 2) (r - 1) * b), μ) := by
  obtain ⟨m1, m2⟩ := kmul (a := q) (b := gi μ (o + 1) r) (A := 50) (B := 6) (by omega) (by omega) (by omega) (by omega)
  have c1 := gi_lo μ (o + 2) (r - 1)
  have c2 := gi_hi μ (o + 2) (r - 1)
  by_cases hr : r = 0
  · subst hr
    rw [hb rfl]
    simp (disch := omega) only [f_X10_valueBehind, b_X10_valueBehind_49, kT.ga hT, kT.gc hT, kT.gr hT, kaI (kT.aa hT), kaI (kT.ac hT), kasI (kT.aa hT), kasI (kT.ac hT), krcv (kT.y hT), kT.pr hT, ki_0, ki_1, ki_2, ki_3, ki_4, ki_5, ki_6, ki_7, ki_8, ki_9, ki_10, ki_11, ki_12, ki_13, ki_18, ki_20, ki_24, ki_32, ki_36, ki_45, ki_47, ki_48, ki_50, ki_57, ki_60, ki_63, ki_99, ki_100, ki_101, ki_120, ki_255, ki_468, ki_1000, ki_1024, ki_13849, ki_25173, ki_65535, ki_65536, ki_100000, ki_100001, ki_2147483647, ki_2147483648, kl_0, kl_1, kl_2, kl_9223372036854775808, ki_add, ki_sub, ki_mul, ki_neg, kl_add, kl_sub, kl_mul, kl_neg, ki_i2l, kl_l2i, ki_lt, ki_le, ki_eq, kcmp_eq, kcmp_lt, kcmp_le, kcmp_gt, kcmp_ge, Option.bind_some, Option.map_some, kbool0, kbool1, if_pos, if_neg, Int.neg_neg, Int.sub_zero, Int.add_zero, Int.zero_add, true_and, and_true, ne_eq, not_false_eq_true, not_true_eq_false]
    simp
  · simp (disch := omega) only [f_X10_valueBehind, b_X10_valueBehind_49, kT.ga hT, kT.gc hT, kT.gr hT, kaI (kT.aa hT), kaI (kT.ac hT), kasI (kT.aa hT), kasI (kT.ac hT), krcv (kT.y hT), kT.pr hT, ki_0, ki_1, ki_2, ki_3, ki_4, ki_5, ki_6, ki_7, ki_8, ki_9, ki_10, ki_11, ki_12, ki_13, ki_18, ki_20, ki_24, ki_32, ki_36, ki_45, ki_47, ki_48, ki_50, ki_57, ki_60, ki_63, ki_99, ki_100, ki_101, ki_120, ki_255, ki_468, ki_1000, ki_1024, ki_13849, ki_25173, ki_65535, ki_65536, ki_100000, ki_100001, ki_2147483647, ki_2147483648, kl_0, kl_1, kl_2, kl_9223372036854775808, ki_add, ki_sub, ki_mul, ki_neg, kl_add, kl_sub, kl_mul, kl_neg, ki_i2l, kl_l2i, ki_lt, ki_le, ki_eq, kcmp_eq, kcmp_lt, kcmp_le, kcmp_gt, kcmp_ge, Option.bind_some, Option.map_some, kbool0, kbool1, if_pos, if_neg, Int.neg_neg, Int.sub_zero, Int.add_zero, Int.zero_add, true_and, and_true, ne_eq, not_false_eq_true, not_true_eq_false]
theorem pv_bd {A C : Int → Int} {p q fr : Int} {n : Nat} (hA : ∀ x, fr ≤ x → x < fr + n → -6 ≤ A x ∧ A x ≤ 6) (hC : ∀ x, fr ≤ x → x < fr + n - 1 → 1 ≤ C x ∧ C x ≤ 36) (hp1 : -3000 ≤ p) (hp2 : p ≤ 3000) (hq1 : 0 ≤ q) (hq2 : q ≤ 50) :
    ∀ i : Nat, i ≤ n → -(4000 ^ i) ≤ (pv A C p q fr i).2 ∧ (pv A C p q fr i).2 ≤ 4000 ^ i ∧ -(4000 ^ i) ≤ 4000 * (pv A C p q fr i).1 ∧ 4000 * (pv A C p q fr i).1 ≤ 4000 ^ i := by
  intro i
  induction i with
  | zero => intro _; simp [pv]
  | succ i ih =>
    intro hi
    obtain ⟨h1, h2, h3, h4⟩ := ih (by omega)
    obtain ⟨a1, a2⟩ := hA (fr + i) (by omega) (by omega)
    obtain ⟨m1, m2⟩ := kmul (a := q) (b := A (fr + i)) (A := 50) (B := 6) (by omega) (by omega) (by omega) (by omega)
    obtain ⟨m3, m4⟩ := kmul (a := p - q * A (fr + i)) (b := (pv A C p q fr i).2) (A := 3300) (B := 4000 ^ i) (by omega) (by omega) (by omega) (by omega)
    have hq : q * q ≤ 2500 ∧ 0 ≤ q * q := by
      obtain ⟨z1, z2⟩ := kmul (a := q) (b := q) (A := 50) (B := 50) (by omega) (by omega) (by omega) (by omega)
      have z3 := Int.mul_nonneg hq1 hq1
      omega
    have hcc : -(90000 * (pv A C p q fr i).1.natAbs) ≤ q * q * C (fr + i - 1) * (pv A C p q fr i).1 ∧ q * q * C (fr + i - 1) * (pv A C p q fr i).1 ≤ 90000 * (pv A C p q fr i).1.natAbs := by
      by_cases hz : i = 0
      · subst hz; simp [pv]
      · obtain ⟨c1, c2⟩ := hC (fr + i - 1) (by omega) (by omega)
        obtain ⟨d1, d2⟩ := kmul (a := q * q) (b := C (fr + i - 1)) (A := 2500) (B := 36) (by omega) (by omega) (by omega) (by omega)
        exact kmul (A := 90000) (by omega) (by omega) (by omega) (by omega)
    rw [Int.pow_succ]
    simp only [pv]
    omega
theorem pow5 {i : Nat} (h : i ≤ 5) : (4000 : Int) ^ i ≤ 1024000000000000000 := by
  have : ∀ i : Nat, i < 6 → (4000 : Int) ^ i ≤ 1024000000000000000 := by decide
  exact this i (by omega)
theorem pv_rng {A C : Int → Int} {p q fr : Int} {n : Nat} (hA : ∀ x, fr ≤ x → x < fr + n → -6 ≤ A x ∧ A x ≤ 6) (hC : ∀ x, fr ≤ x → x < fr + n - 1 → 1 ≤ C x ∧ C x ≤ 36) (hp1 : -3000 ≤ p) (hp2 : p ≤ 3000) (hq1 : 0 ≤ q) (hq2 : q ≤ 50) (hn : n ≤ 5) {i : Nat} (hi : i ≤ n) :
    -1024000000000000000 ≤ (pv A C p q fr i).2 ∧ (pv A C p q fr i).2 ≤ 1024000000000000000 := by
  obtain ⟨h1, h2, -⟩ := pv_bd hA hC hp1 hp2 hq1 hq2 i hi
  have := pow5 (i := i) (by omega)
  omega
theorem pv_zero {A C : Int → Int} {p q fr : Int} {i : Nat} (h0 : 0 ≤ fr) (h : fr + i = 0) : (pv A C p q fr i).1 = 0 := by
  have : i = 0 := by omega
  subst this
  rfl
theorem kTb.A {μ : jM} {o : Nat} (h : kTb μ o) {fr : Int} {n : Nat} (h0 : 0 ≤ fr) (h1 : fr + n ≤ gi μ o 0) : ∀ x, fr ≤ x → x < fr + n → -6 ≤ gi μ (o + 1) x ∧ gi μ (o + 1) x ≤ 6 := fun x a b => h.2.2.1 x (by omega) (by omega)
theorem kTb.C {μ : jM} {o : Nat} (h : kTb μ o) {fr : Int} {n : Nat} (h0 : 0 ≤ fr) (h1 : fr + n ≤ gi μ o 0) : ∀ x, fr ≤ x → x < fr + n - 1 → 1 ≤ gi μ (o + 2) x ∧ gi μ (o + 2) x ≤ 36 := fun x a b => h.2.2.2 x (by omega) (by omega)
theorem X10_valueAt {Y : jY} {μ : jM} {o : Nat} (hT : kT Y μ o) (hB : kTb μ o) {fr k p q : Int} (h0 : 0 ≤ fr) (hk : 0 ≤ k) (hr : fr + k ≤ gi μ o 0) (hp1 : -3000 ≤ p) (hp2 : p ≤ 3000) (hq1 : 0 ≤ q) (hq2 : q ≤ 50) :
    f_X10_valueAt Y o (ki fr) (ki k) (ki p) (ki q) μ = some (kl (pv (gi μ (o + 1)) (gi μ (o + 2)) p q fr k.toNat).2, μ) := by
  have hb5 := hB.2.1
  unfold f_X10_valueAt
  refine jit_run (fun i => (kl (pv (gi μ (o + 1)) (gi μ (o + 2)) p q fr i).1, kl (pv (gi μ (o + 1)) (gi μ (o + 2)) p q fr i).2, ki (fr + i), μ)) _ k.toNat (by simp only [pv, Int.natCast_zero, Int.add_zero]; rfl) (by omega) (fun i hi => ?_) ?_
  · have hA := hB.2.2.1 (fr + i) (by omega) (by omega)
    have e := X10_valueBehind hT (r := fr + i) (b := (pv (gi μ (o + 1)) (gi μ (o + 2)) p q fr i).1) (v := (pv (gi μ (o + 1)) (gi μ (o + 2)) p q fr i).2) (p := p) (q := q) (by omega) (by omega) (pv_zero h0) hp1 hp2 hq1 hq2 hA.1 hA.2
    simp (disch := omega) only [b_X10_valueAt_9, b_X10_valueAt_55, kT.ga hT, kT.gc hT, kT.gr hT, kaI (kT.aa hT), kaI (kT.ac hT), kasI (kT.aa hT), kasI (kT.ac hT), krcv (kT.y hT), kT.pr hT, e, ki_0, ki_1, ki_2, ki_3, ki_4, ki_5, ki_6, ki_7, ki_8, ki_9, ki_10, ki_11, ki_12, ki_13, ki_18, ki_20, ki_24, ki_32, ki_36, ki_45, ki_47, ki_48, ki_50, ki_57, ki_60, ki_63, ki_99, ki_100, ki_101, ki_120, ki_255, ki_468, ki_1000, ki_1024, ki_13849, ki_25173, ki_65535, ki_65536, ki_100000, ki_100001, ki_2147483647, ki_2147483648, kl_0, kl_1, kl_2, kl_9223372036854775808, ki_add, ki_sub, ki_mul, ki_neg, kl_add, kl_sub, kl_mul, kl_neg, ki_i2l, kl_l2i, ki_lt, ki_le, ki_eq, kcmp_eq, kcmp_lt, kcmp_le, kcmp_gt, kcmp_ge, Option.bind_some, Option.map_some, kbool0, kbool1, if_pos, if_neg, Int.neg_neg, Int.sub_zero, Int.add_zero, Int.zero_add, true_and, and_true, ne_eq, not_false_eq_true, not_true_eq_false]
    simp only [pv, Int.natCast_add, Int.natCast_one, Int.add_assoc]
  · simp (disch := omega) only [b_X10_valueAt_9, b_X10_valueAt_55, kT.ga hT, kT.gc hT, kT.gr hT, kaI (kT.aa hT), kaI (kT.ac hT), kasI (kT.aa hT), kasI (kT.ac hT), krcv (kT.y hT), kT.pr hT, ki_0, ki_1, ki_2, ki_3, ki_4, ki_5, ki_6, ki_7, ki_8, ki_9, ki_10, ki_11, ki_12, ki_13, ki_18, ki_20, ki_24, ki_32, ki_36, ki_45, ki_47, ki_48, ki_50, ki_57, ki_60, ki_63, ki_99, ki_100, ki_101, ki_120, ki_255, ki_468, ki_1000, ki_1024, ki_13849, ki_25173, ki_65535, ki_65536, ki_100000, ki_100001, ki_2147483647, ki_2147483648, kl_0, kl_1, kl_2, kl_9223372036854775808, ki_add, ki_sub, ki_mul, ki_neg, kl_add, kl_sub, kl_mul, kl_neg, ki_i2l, kl_l2i, ki_lt, ki_le, ki_eq, kcmp_eq, kcmp_lt, kcmp_le, kcmp_gt, kcmp_ge, Option.bind_some, Option.map_some, kbool0, kbool1, if_pos, if_neg, Int.neg_neg, Int.sub_zero, Int.add_zero, Int.zero_add, true_and, and_true, ne_eq, not_false_eq_true, not_true_eq_false]
/-- how many roots lie below p through q: the signs that stay, one by one; the second: whether the last sign is taken for above 0 -/
def rb (A C : Int → Int) (p q fr : Int) : Nat → Int × Int
  | 0 => (0, 1)
  | k + 1 => if ((rb A C p q fr k).2 = 1 ∧ 0 < (pv A C p q fr (k + 1)).2) ∨ ((rb A C p q fr k).2 = 0 ∧ (pv A C p q fr (k + 1)).2 < 0) then ((rb A C p q fr k).1 + 1, (rb A C p q fr k).2) else ((rb A C p q fr k).1, 1 - (rb A C p q fr k).2)
theorem rb_two (A C : Int → Int) (p q fr : Int) : ∀ k, (rb A C p q fr k).2 = 0 ∨ (rb A C p q fr k).2 = 1 := by
  intro k
  induction k with
  | zero => exact Or.inr rfl
  | succ k ih =>
    simp only [rb]
    split
    · exact ih
    · rcases ih with h | h <;> simp [h]
theorem rb_rng (A C : Int → Int) (p q fr : Int) : ∀ k : Nat, 0 ≤ (rb A C p q fr k).1 ∧ (rb A C p q fr k).1 ≤ k := by
  intro k
  induction k with
  | zero => simp [rb]
  | succ k ih =>
    simp only [rb]
    split <;> simp only [] <;> omega
set_option maxRecDepth 4000 in
theorem X10_rootsBelow {Y : jY} {μ : jM} {o : Nat} (hT : kT Y μ o) (hB : kTb μ o) {k p q : Int} (hk : 0 ≤ k) (hr : k ≤ gi μ o 0) (hp1 : -3000 ≤ p) (hp2 : p ≤ 3000) (hq1 : 0 ≤ q) (hq2 : q ≤ 50) :
    f_X10_rootsBelow Y o (ki k) (ki p) (ki q) μ = some (ki (rb (gi μ (o + 1)) (gi μ (o + 2)) p q 0 k.toNat).1, μ) := by
  have hb5 := hB.2.1
  unfold f_X10_rootsBelow
  refine jit_run (fun i => (ki (rb (gi μ (o + 1)) (gi μ (o + 2)) p q 0 i).1, ki (rb (gi μ (o + 1)) (gi μ (o + 2)) p q 0 i).2, kl (pv (gi μ (o + 1)) (gi μ (o + 2)) p q 0 i).1, kl (pv (gi μ (o + 1)) (gi μ (o + 2)) p q 0 i).2, ki i, μ)) _ k.toNat rfl (by omega) (fun i hi => ?_) ?_
  · have hA := hB.2.2.1 (i : Int) (by omega) (by omega)
    have e := X10_valueBehind hT (r := (i : Int)) (b := (pv (gi μ (o + 1)) (gi μ (o + 2)) p q 0 i).1) (v := (pv (gi μ (o + 1)) (gi μ (o + 2)) p q 0 i).2) (p := p) (q := q) (by omega) (by omega) (fun h => pv_zero (Int.le_refl 0) (by omega)) hp1 hp2 hq1 hq2 hA.1 hA.2
    obtain ⟨v1, v2⟩ := pv_rng (A := gi μ (o + 1)) (C := gi μ (o + 2)) (p := p) (q := q) (fr := 0) (n := k.toNat) (hB.A (Int.le_refl 0) (by omega)) (hB.C (Int.le_refl 0) (by omega)) hp1 hp2 hq1 hq2 (by omega) (i := i + 1) (by omega)
    have ev : (p - q * gi μ (o + 1) (i : Int)) * (pv (gi μ (o + 1)) (gi μ (o + 2)) p q 0 i).2 - q * q * gi μ (o + 2) ((i : Int) - 1) * (pv (gi μ (o + 1)) (gi μ (o + 2)) p q 0 i).1 = (pv (gi μ (o + 1)) (gi μ (o + 2)) p q 0 (i + 1)).2 := by
      simp only [pv, Int.zero_add]
    rw [ev] at e
    have ew : (pv (gi μ (o + 1)) (gi μ (o + 2)) p q 0 (i + 1)).1 = (pv (gi μ (o + 1)) (gi μ (o + 2)) p q 0 i).2 := rfl
    obtain ⟨r1, r2⟩ := rb_rng (gi μ (o + 1)) (gi μ (o + 2)) p q 0 i
    simp only [rb, ew, Int.natCast_add, Int.natCast_one]
    generalize (pv (gi μ (o + 1)) (gi μ (o + 2)) p q 0 (i + 1)).2 = w at e v1 v2 ⊢
    have hi2 : (i : Int) < k := by omega
    rcases rb_two (gi μ (o + 1)) (gi μ (o + 2)) p q 0 i with h | h <;> simp only [h] <;> rcases Int.lt_trichotomy w 0 with hw | hw | hw <;>
      simp (disch := omega) only [b_X10_rootsBelow_15, b_X10_rootsBelow_115, b_X10_rootsBelow_101, b_X10_rootsBelow_99, b_X10_rootsBelow_76, kT.ga hT, kT.gc hT, kT.gr hT, kaI (kT.aa hT), kaI (kT.ac hT), kasI (kT.aa hT), kasI (kT.ac hT), krcv (kT.y hT), kT.pr hT, e, ki_0, ki_1, ki_2, ki_3, ki_4, ki_5, ki_6, ki_7, ki_8, ki_9, ki_10, ki_11, ki_12, ki_13, ki_18, ki_20, ki_24, ki_32, ki_36, ki_45, ki_47, ki_48, ki_50, ki_57, ki_60, ki_63, ki_99, ki_100, ki_101, ki_120, ki_255, ki_468, ki_1000, ki_1024, ki_13849, ki_25173, ki_65535, ki_65536, ki_100000, ki_100001, ki_2147483647, ki_2147483648, kl_0, kl_1, kl_2, kl_9223372036854775808, ki_add, ki_sub, ki_mul, ki_neg, kl_add, kl_sub, kl_mul, kl_neg, ki_i2l, kl_l2i, ki_lt, ki_le, ki_eq, kcmp_eq, kcmp_lt, kcmp_le, kcmp_gt, kcmp_ge, Option.bind_some, Option.map_some, kbool0, kbool1, if_pos, if_neg, Int.neg_neg, Int.sub_zero, Int.add_zero, Int.zero_add, true_and, and_true, ne_eq, not_false_eq_true, not_true_eq_false] <;> rfl
  · simp (disch := omega) only [b_X10_rootsBelow_15, b_X10_rootsBelow_115, kT.ga hT, kT.gc hT, kT.gr hT, kaI (kT.aa hT), kaI (kT.ac hT), kasI (kT.aa hT), kasI (kT.ac hT), krcv (kT.y hT), kT.pr hT, ki_0, ki_1, ki_2, ki_3, ki_4, ki_5, ki_6, ki_7, ki_8, ki_9, ki_10, ki_11, ki_12, ki_13, ki_18, ki_20, ki_24, ki_32, ki_36, ki_45, ki_47, ki_48, ki_50, ki_57, ki_60, ki_63, ki_99, ki_100, ki_101, ki_120, ki_255, ki_468, ki_1000, ki_1024, ki_13849, ki_25173, ki_65535, ki_65536, ki_100000, ki_100001, ki_2147483647, ki_2147483648, kl_0, kl_1, kl_2, kl_9223372036854775808, ki_add, ki_sub, ki_mul, ki_neg, kl_add, kl_sub, kl_mul, kl_neg, ki_i2l, kl_l2i, ki_lt, ki_le, ki_eq, kcmp_eq, kcmp_lt, kcmp_le, kcmp_gt, kcmp_ge, Option.bind_some, Option.map_some, kbool0, kbool1, if_pos, if_neg, Int.neg_neg, Int.sub_zero, Int.add_zero, Int.zero_add, true_and, and_true, ne_eq, not_false_eq_true, not_true_eq_false]
