/-! COEFFICIENTS of the polynomials; how the class and the reference lay them out -/
def wrl (μ : jM) (a off : Nat) (g : Int → Int) : Nat → jM
  | 0 => μ
  | i + 1 => jw (wrl μ a off g i) a (off + i) (.long (kl (g i)))
theorem wrl_cell {μ : jM} {a off : Nat} {g : Int → Int} {b : Nat} (h : b ≠ a) : ∀ i, wrl μ a off g i b = μ b := by
  intro i
  induction i with
  | zero => rfl
  | succ i ih => rw [wrl, jw_cell h, ih]
theorem wrl_kF {μ : jM} {a off lo hi : Nat} {g : Int → Int} (h1 : lo ≤ a) (h2 : a < hi) : ∀ i : Nat, (∀ j, j < i → isL μ a (off + j)) → kF lo hi μ (wrl μ a off g i) := by
  intro i
  induction i with
  | zero => intro _; exact kF.refl
  | succ i ih =>
    intro h
    have k := ih (fun j hj => h j (by omega))
    exact k.trans (kF_L (k.L (h i (by omega))) h1 h2)
theorem wrl_gl {μ : jM} {a off : Nat} {g : Int → Int} : ∀ i : Nat, (∀ j : Nat, j < i → -9223372036854775808 ≤ g j ∧ g j ≤ 9223372036854775807) → ∀ x : Int, 0 ≤ x → gl (wrl μ a off g i) a x = if (off : Int) ≤ x ∧ x < off + i then g (x - off) else gl μ a x := by
  intro i
  induction i with
  | zero =>
    intro _ x _
    rw [wrl, if_neg (by omega)]
  | succ i ih =>
    intro h x hx
    have hg := h i (by omega)
    rw [wrl, gl_jw a x hg.1 hg.2, ih (fun j hj => h j (by omega)) x hx]
    by_cases e : x.toNat = off + i
    · rw [if_pos ⟨rfl, e⟩, if_pos (by omega)]
      congr 1
      omega
    · rw [if_neg (fun q => e q.2)]
      by_cases e2 : (off : Int) ≤ x ∧ x < off + i
      · rw [if_pos e2, if_pos (by omega)]
      · rw [if_neg e2, if_neg (by omega)]
theorem wrl_other {μ : jM} {a off : Nat} {g : Int → Int} {b : Nat} (h : b ≠ a) (i : Nat) (x : Int) : gl (wrl μ a off g i) b x = gl μ b x := gl_cell (wrl_cell h i) x
/-- the coefficients: of the polynomial behind, of this one -/
def pcs (A C : Int → Int) : Nat → (Int → Int) × (Int → Int)
  | 0 => (fun _ => 0, fun j => if j = 0 then 1 else 0)
  | k + 1 => ((pcs A C k).2, fun j => -A k * (pcs A C k).2 j + (if j ≤ 0 then 0 else (pcs A C k).2 (j - 1)) - C ((k : Int) - 1) * (pcs A C k).1 j)
theorem pcs_congr {A C A2 C2 : Int → Int} {n : Nat} (hA : ∀ x, 0 ≤ x → x < (n : Int) → A x = A2 x) (hC : ∀ x, 0 ≤ x → x < (n : Int) - 1 → C x = C2 x) : ∀ i : Nat, i ≤ n → pcs A C i = pcs A2 C2 i := by
  intro i
  induction i with
  | zero => intro _; rfl
  | succ i ih =>
    intro hi
    have ih := ih (by omega)
    simp only [pcs]
    rw [ih, hA i (by omega) (by omega)]
    by_cases h : i = 0
    · subst h
      simp [pcs]
    · rw [hC ((i : Int) - 1) (by omega) (by omega)]
theorem pcs_bd {A C : Int → Int} {n : Nat} (hA : ∀ x, 0 ≤ x → x < (n : Int) → -6 ≤ A x ∧ A x ≤ 6) (hC : ∀ x, 0 ≤ x → x < (n : Int) - 1 → 1 ≤ C x ∧ C x ≤ 36) :
    ∀ i : Nat, i ≤ n → ∀ j : Int, -(50 ^ i) ≤ (pcs A C i).2 j ∧ (pcs A C i).2 j ≤ 50 ^ i ∧ -(50 ^ i) ≤ 50 * (pcs A C i).1 j ∧ 50 * (pcs A C i).1 j ≤ 50 ^ i := by
  intro i
  induction i with
  | zero =>
    intro _ j
    simp only [pcs]
    split <;> omega
  | succ i ih =>
    intro hi j
    obtain ⟨h1, h2, h3, h4⟩ := ih (by omega) j
    obtain ⟨h5, h6, -, -⟩ := ih (by omega) (j - 1)
    obtain ⟨a1, a2⟩ := hA i (by omega) (by omega)
    obtain ⟨m1, m2⟩ := kmul (a := -A i) (b := (pcs A C i).2 j) (A := 6) (B := 50 ^ i) (by omega) (by omega) (by omega) (by omega)
    have hcc : -(36 * (((pcs A C i).1 j).natAbs : Int)) ≤ C ((i : Int) - 1) * (pcs A C i).1 j ∧ C ((i : Int) - 1) * (pcs A C i).1 j ≤ 36 * (((pcs A C i).1 j).natAbs : Int) := by
      by_cases hz : i = 0
      · subst hz; simp [pcs]
      · obtain ⟨c1, c2⟩ := hC ((i : Int) - 1) (by omega) (by omega)
        exact kmul (by omega) (by omega) (by omega) (by omega)
    rw [Int.pow_succ]
    simp only [pcs]
    split <;> omega
theorem pow50 {i : Nat} (h : i ≤ 5) : (50 : Int) ^ i ≤ 312500000 := by
  have : ∀ i : Nat, i < 6 → (50 : Int) ^ i ≤ 312500000 := by decide
  exact this i (by omega)
theorem pcs_rng {A C : Int → Int} {n : Nat} (hA : ∀ x, 0 ≤ x → x < (n : Int) → -6 ≤ A x ∧ A x ≤ 6) (hC : ∀ x, 0 ≤ x → x < (n : Int) - 1 → 1 ≤ C x ∧ C x ≤ 36) (hn : n ≤ 5) {i : Nat} (hi : i ≤ n) (j : Int) : -312500000 ≤ (pcs A C i).2 j ∧ (pcs A C i).2 j ≤ 312500000 := by
  obtain ⟨h1, h2, -⟩ := pcs_bd hA hC i hi j
  have := pow50 (i := i) (by omega)
  omega
/-- nothing stands above the highest power -/
theorem pcs_deg {A C : Int → Int} : ∀ k : Nat, ∀ j : Int, (k : Int) < j → (pcs A C k).2 j = 0 ∧ (pcs A C k).1 j = 0 := by
  intro k
  induction k with
  | zero =>
    intro j hj
    simp only [pcs]
    exact ⟨if_neg (by omega), trivial⟩
  | succ k ih =>
    intro j hj
    obtain ⟨h1, h2⟩ := ih j (by omega)
    obtain ⟨h3, -⟩ := ih (j - 1) (by omega)
    simp only [pcs]
    rw [h1, h2, if_neg (by omega), h3]
    simp
/-! the class -/
theorem kX.r79 {Y : jY} {μ : jM} (h : kX Y μ) {k : Nat} (hk : k ≤ 5) : jaO Y μ 79 26 (ki k) = some (80 + k) := by
  have e : μ 79 k = .ref (80 + k) := by
    have : ∀ k, k < 6 → (79, k, 80 + k) ∈ kXr := by decide
    exact h.2.1 (79, k, 80 + k) (this k (by omega))
  unfold jaO
  rw [h.y79, if_pos rfl, kjix (by omega) (by show (k : Int) < ((6 : Nat) : Int); omega) (by decide), Option.bind_some, Int.toNat_natCast, e]
  rfl
theorem kX.a80s {Y : jY} {μ : jM} (h : kX Y μ) {k : Nat} (hk : k ≤ 5) : kAL Y μ (80 + k) 6 := by
  have : ∀ k, k < 6 → (80 + k, 6) ∈ kXal := by decide
  exact h.2.2.2.2.1 (80 + k, 6) (this k (by omega))
def wm (μ : jM) (A C : Int → Int) : Nat → jM
  | 0 => wrl μ 80 0 (pcs A C 0).2 6
  | k + 1 => wrl (wm μ A C k) (80 + (k + 1)) 0 (pcs A C (k + 1)).2 6
theorem wm_kF {Y : jY} {μ : jM} (hX : kX Y μ) {A C : Int → Int} : ∀ k, k ≤ 5 → kF 80 86 μ (wm μ A C k) := by
  intro k
  induction k with
  | zero => intro _; exact wrl_kF (by omega) (by omega) 6 (fun j hj => by rw [Nat.zero_add]; exact (hX.a80s (k := 0) (by omega)).2.2.2 j hj)
  | succ k ih =>
    intro hk
    have h := ih (by omega)
    exact h.trans (wrl_kF (by omega) (by omega) 6 (fun j hj => by rw [Nat.zero_add]; exact h.L ((hX.a80s hk).2.2.2 j hj)))
theorem wm_gl {μ : jM} {A C : Int → Int} {n : Nat} (hb : ∀ i : Nat, i ≤ n → ∀ j : Int, -312500000 ≤ (pcs A C i).2 j ∧ (pcs A C i).2 j ≤ 312500000) : ∀ k, k ≤ n → ∀ i, i ≤ k → ∀ x : Int, 0 ≤ x → x < 6 → gl (wm μ A C k) (80 + i) x = (pcs A C i).2 x := by
  intro k
  induction k with
  | zero =>
    intro _ i hi x h0 h1
    obtain rfl : i = 0 := by omega
    rw [wm, wrl_gl 6 (fun j _ => by have := hb 0 (by omega) j; omega) x h0, if_pos (by omega), Int.natCast_zero, Int.sub_zero]
  | succ k ih =>
    intro hk i hi x h0 h1
    rw [wm]
    by_cases e : i = k + 1
    · subst e
      rw [wrl_gl 6 (fun j _ => by have := hb (k + 1) (by omega) j; omega) x h0, if_pos (by omega), Int.natCast_zero, Int.sub_zero]
    · rw [wrl_other (by omega)]
      exact ih (by omega) i (by omega) x h0 h1
set_option maxHeartbeats 2000000 in
theorem X4_multiplyOut {Y : jY} {μ : jM} {o : Nat} (hX : kX Y μ) (hT : kT Y μ o) (hB : kTb μ o) (ho : o + 2 < 80 ∨ 86 ≤ o) (h78 : (Y 78).1 = 4) :
    f_X4_multiplyOut Y 78 o μ = some (wm μ (gi μ (o + 1)) (gi μ (o + 2)) (gi μ o 0).toNat) := by
  have hR0 := hB.1
  have hR5 := hB.2.1
  have hb : ∀ i : Nat, i ≤ (gi μ o 0).toNat → ∀ j : Int, -312500000 ≤ (pcs (gi μ (o + 1)) (gi μ (o + 2)) i).2 j ∧ (pcs (gi μ (o + 1)) (gi μ (o + 2)) i).2 j ≤ 312500000 := fun i hi j =>
    pcs_rng (n := (gi μ o 0).toNat) (fun x a b => hB.2.2.1 x a (by omega)) (fun x a b => hB.2.2.2 x a (by omega)) (by omega) hi j
  have q00 := hX.r79 (k := 0) (by omega)
  have eA : ∀ {ν : jM}, kF 80 86 μ ν → ∀ x, gi ν (o + 1) x = gi μ (o + 1) x := fun k x => k.gi (by omega) x
  have eC : ∀ {ν : jM}, kF 80 86 μ ν → ∀ x, gi ν (o + 2) x = gi μ (o + 2) x := fun k x => k.gi (by omega) x
  have eR : ∀ {ν : jM}, kF 80 86 μ ν → gi ν o 0 = gi μ o 0 := fun k => k.gi (by omega) 0
  have main : jit jF (fun (s : Int32 × jM) => b_X4_multiplyOut_32 Y 78 o s.1 s.2) ((0 : Int32), wrl μ 80 0 (pcs (gi μ (o + 1)) (gi μ (o + 2)) 0).2 6) = some (wm μ (gi μ (o + 1)) (gi μ (o + 2)) (gi μ o 0).toNat) := by
    refine jit_run (fun k => (ki k, wm μ (gi μ (o + 1)) (gi μ (o + 2)) k)) _ (gi μ o 0).toNat rfl (by omega) (fun k hk => ?_) ?_
    · have kf := wm_kF hX (A := gi μ (o + 1)) (C := gi μ (o + 2)) k (by omega)
      have t1 := hT.to kf
      have e1 := kT.gr t1
      rw [eR kf] at e1
      have inner : jit jF (fun (s : Int32 × jM) => b_X4_multiplyOut_42 Y 78 o (ki k) s.1 s.2) ((0 : Int32), wm μ (gi μ (o + 1)) (gi μ (o + 2)) k) = some (.inl (ki ((k + 1 : Nat) : Int), wm μ (gi μ (o + 1)) (gi μ (o + 2)) (k + 1))) := by
        refine jit_run (fun j => (ki j, wrl (wm μ (gi μ (o + 1)) (gi μ (o + 2)) k) (80 + (k + 1)) 0 (pcs (gi μ (o + 1)) (gi μ (o + 2)) (k + 1)).2 j)) _ 6 rfl (by omega) (fun j hj => ?_) ?_
        · have kg : kF 80 86 μ (wrl (wm μ (gi μ (o + 1)) (gi μ (o + 2)) k) (80 + (k + 1)) 0 (pcs (gi μ (o + 1)) (gi μ (o + 2)) (k + 1)).2 j) := kf.trans (wrl_kF (by omega) (by omega) j (fun i hi => by rw [Nat.zero_add]; exact kf.L ((hX.a80s (k := k + 1) (by omega)).2.2.2 i (by omega))))
          have gv : ∀ i, i ≤ k → ∀ x : Int, 0 ≤ x → x < 6 → gl (wrl (wm μ (gi μ (o + 1)) (gi μ (o + 2)) k) (80 + (k + 1)) 0 (pcs (gi μ (o + 1)) (gi μ (o + 2)) (k + 1)).2 j) (80 + i) x = (pcs (gi μ (o + 1)) (gi μ (o + 2)) i).2 x := fun i hi x x0 x1 => by
            rw [wrl_other (by omega)]
            exact wm_gl hb k (by omega) i hi x x0 x1
          have hpc : (pcs (gi μ (o + 1)) (gi μ (o + 2)) (k + 1)).2 (j : Int) = -gi μ (o + 1) k * (pcs (gi μ (o + 1)) (gi μ (o + 2)) k).2 j + (if (j : Int) ≤ 0 then 0 else (pcs (gi μ (o + 1)) (gi μ (o + 2)) k).2 ((j : Int) - 1)) - gi μ (o + 2) ((k : Int) - 1) * (pcs (gi μ (o + 1)) (gi μ (o + 2)) k).1 j := rfl
          have hp1 : 0 < k → (pcs (gi μ (o + 1)) (gi μ (o + 2)) k).1 = (pcs (gi μ (o + 1)) (gi μ (o + 2)) (k - 1)).2 := fun h => by
            obtain ⟨k, rfl⟩ : ∃ m, k = m + 1 := ⟨k - 1, by omega⟩
            rfl
          simp only [wrl]
          rw [hpc]
          generalize wrl (wm μ (gi μ (o + 1)) (gi μ (o + 2)) k) (80 + (k + 1)) 0 (pcs (gi μ (o + 1)) (gi μ (o + 2)) (k + 1)).2 j = ν at *
          have x1 := hX.to kg
          have t2 := hT.to kg
          have q0 := x1.r79 (k := k) (by omega)
          have q1 := x1.r79 (k := k + 1) (by omega)
          have l0 := kaL (x1.a80s (k := k) (by omega)) (x := (j : Int)) (by omega) (by omega)
          rw [gv k (by omega) j (by omega) (by omega)] at l0
          have s1 := fun v => kasL (v := v) (x1.a80s (k := k + 1) (by omega)) (x := (j : Int)) (by omega) (by omega)
          have g1 := gi_lo μ (o + 1) k
          have A1 := hB.2.2.1 k (by omega) (by omega)
          rw [Int.natCast_add, Int.natCast_one] at q1
          have hz : k = 0 → (pcs (gi μ (o + 1)) (gi μ (o + 2)) k).1 j = 0 := fun h => by rw [h]; rfl
          by_cases hj0 : (j : Int) ≤ 0
          · rw [if_pos hj0]
            by_cases hk0 : (k : Int) ≤ 0
            · rw [hz (by omega), Int.mul_zero]
              simp (disch := omega) only [b_X4_multiplyOut_42, b_X4_multiplyOut_85, b_X4_multiplyOut_114, kT.ga t2, kT.gc t2, kT.gr t2, kaI (kT.aa t2), kaI (kT.ac t2), kasI (kT.aa t2), kasI (kT.ac t2), krcv (kT.y t2), kT.pr t2, eA kg, eC kg, eR kg, kX.o78_0 x1, q0, q1, l0, s1, ki_0, ki_1, ki_2, ki_3, ki_4, ki_5, ki_6, ki_7, ki_8, ki_9, ki_10, ki_11, ki_12, ki_13, ki_18, ki_20, ki_24, ki_32, ki_36, ki_45, ki_47, ki_48, ki_50, ki_57, ki_60, ki_63, ki_99, ki_100, ki_101, ki_120, ki_255, ki_468, ki_1000, ki_1024, ki_13849, ki_25173, ki_65535, ki_65536, ki_100000, ki_100001, ki_2147483647, ki_2147483648, kl_0, kl_1, kl_2, kl_9223372036854775808, ki_add, ki_sub, ki_mul, ki_neg, kl_add, kl_sub, kl_mul, kl_neg, ki_i2l, kl_l2i, ki_lt, ki_le, ki_eq, kcmp_eq, kcmp_lt, kcmp_le, kcmp_gt, kcmp_ge, Option.bind_some, Option.map_some, kbool0, kbool1, if_pos, if_neg, if_true, if_false, Int.neg_neg, Int.sub_zero, Int.add_zero, Int.zero_add, true_and, and_true, false_and, and_false, false_or, or_false, true_or, or_true, ne_eq, not_false_eq_true, not_true_eq_false, Int.natCast_add, Int.natCast_one, Int.toNat_natCast, Nat.zero_add]
            · have q2 := x1.r79 (k := k - 1) (by omega)
              have l2 := kaL (x1.a80s (k := k - 1) (by omega)) (x := (j : Int)) (by omega) (by omega)
              rw [gv (k - 1) (by omega) _ (by omega) (by omega), ← hp1 (by omega)] at l2
              have C1 := hB.2.2.2 ((k : Int) - 1) (by omega) (by omega)
              rw [show ((k - 1 : Nat) : Int) = (k : Int) - 1 from by omega] at q2
              simp (disch := omega) only [b_X4_multiplyOut_42, b_X4_multiplyOut_85, b_X4_multiplyOut_114, kT.ga t2, kT.gc t2, kT.gr t2, kaI (kT.aa t2), kaI (kT.ac t2), kasI (kT.aa t2), kasI (kT.ac t2), krcv (kT.y t2), kT.pr t2, eA kg, eC kg, eR kg, kX.o78_0 x1, q0, q1, l0, s1, ki_0, ki_1, ki_2, ki_3, ki_4, ki_5, ki_6, ki_7, ki_8, ki_9, ki_10, ki_11, ki_12, ki_13, ki_18, ki_20, ki_24, ki_32, ki_36, ki_45, ki_47, ki_48, ki_50, ki_57, ki_60, ki_63, ki_99, ki_100, ki_101, ki_120, ki_255, ki_468, ki_1000, ki_1024, ki_13849, ki_25173, ki_65535, ki_65536, ki_100000, ki_100001, ki_2147483647, ki_2147483648, kl_0, kl_1, kl_2, kl_9223372036854775808, ki_add, ki_sub, ki_mul, ki_neg, kl_add, kl_sub, kl_mul, kl_neg, ki_i2l, kl_l2i, ki_lt, ki_le, ki_eq, kcmp_eq, kcmp_lt, kcmp_le, kcmp_gt, kcmp_ge, Option.bind_some, Option.map_some, kbool0, kbool1, if_pos, if_neg, if_true, if_false, Int.neg_neg, Int.sub_zero, Int.add_zero, Int.zero_add, true_and, and_true, false_and, and_false, false_or, or_false, true_or, or_true, ne_eq, not_false_eq_true, not_true_eq_false, Int.natCast_add, Int.natCast_one, Int.toNat_natCast, Nat.zero_add, q2, l2]
          · have l1 := kaL (x1.a80s (k := k) (by omega)) (x := (j : Int) - 1) (by omega) (by omega)
            rw [gv k (by omega) ((j : Int) - 1) (by omega) (by omega)] at l1
            rw [if_neg hj0]
            by_cases hk0 : (k : Int) ≤ 0
            · rw [hz (by omega), Int.mul_zero]
              simp (disch := omega) only [b_X4_multiplyOut_42, b_X4_multiplyOut_85, b_X4_multiplyOut_114, kT.ga t2, kT.gc t2, kT.gr t2, kaI (kT.aa t2), kaI (kT.ac t2), kasI (kT.aa t2), kasI (kT.ac t2), krcv (kT.y t2), kT.pr t2, eA kg, eC kg, eR kg, kX.o78_0 x1, q0, q1, l0, s1, ki_0, ki_1, ki_2, ki_3, ki_4, ki_5, ki_6, ki_7, ki_8, ki_9, ki_10, ki_11, ki_12, ki_13, ki_18, ki_20, ki_24, ki_32, ki_36, ki_45, ki_47, ki_48, ki_50, ki_57, ki_60, ki_63, ki_99, ki_100, ki_101, ki_120, ki_255, ki_468, ki_1000, ki_1024, ki_13849, ki_25173, ki_65535, ki_65536, ki_100000, ki_100001, ki_2147483647, ki_2147483648, kl_0, kl_1, kl_2, kl_9223372036854775808, ki_add, ki_sub, ki_mul, ki_neg, kl_add, kl_sub, kl_mul, kl_neg, ki_i2l, kl_l2i, ki_lt, ki_le, ki_eq, kcmp_eq, kcmp_lt, kcmp_le, kcmp_gt, kcmp_ge, Option.bind_some, Option.map_some, kbool0, kbool1, if_pos, if_neg, if_true, if_false, Int.neg_neg, Int.sub_zero, Int.add_zero, Int.zero_add, true_and, and_true, false_and, and_false, false_or, or_false, true_or, or_true, ne_eq, not_false_eq_true, not_true_eq_false, Int.natCast_add, Int.natCast_one, Int.toNat_natCast, Nat.zero_add, l1]
            · have q2 := x1.r79 (k := k - 1) (by omega)
              have l2 := kaL (x1.a80s (k := k - 1) (by omega)) (x := (j : Int)) (by omega) (by omega)
              rw [gv (k - 1) (by omega) _ (by omega) (by omega), ← hp1 (by omega)] at l2
              have C1 := hB.2.2.2 ((k : Int) - 1) (by omega) (by omega)
              rw [show ((k - 1 : Nat) : Int) = (k : Int) - 1 from by omega] at q2
              simp (disch := omega) only [b_X4_multiplyOut_42, b_X4_multiplyOut_85, b_X4_multiplyOut_114, kT.ga t2, kT.gc t2, kT.gr t2, kaI (kT.aa t2), kaI (kT.ac t2), kasI (kT.aa t2), kasI (kT.ac t2), krcv (kT.y t2), kT.pr t2, eA kg, eC kg, eR kg, kX.o78_0 x1, q0, q1, l0, s1, ki_0, ki_1, ki_2, ki_3, ki_4, ki_5, ki_6, ki_7, ki_8, ki_9, ki_10, ki_11, ki_12, ki_13, ki_18, ki_20, ki_24, ki_32, ki_36, ki_45, ki_47, ki_48, ki_50, ki_57, ki_60, ki_63, ki_99, ki_100, ki_101, ki_120, ki_255, ki_468, ki_1000, ki_1024, ki_13849, ki_25173, ki_65535, ki_65536, ki_100000, ki_100001, ki_2147483647, ki_2147483648, kl_0, kl_1, kl_2, kl_9223372036854775808, ki_add, ki_sub, ki_mul, ki_neg, kl_add, kl_sub, kl_mul, kl_neg, ki_i2l, kl_l2i, ki_lt, ki_le, ki_eq, kcmp_eq, kcmp_lt, kcmp_le, kcmp_gt, kcmp_ge, Option.bind_some, Option.map_some, kbool0, kbool1, if_pos, if_neg, if_true, if_false, Int.neg_neg, Int.sub_zero, Int.add_zero, Int.zero_add, true_and, and_true, false_and, and_false, false_or, or_false, true_or, or_true, ne_eq, not_false_eq_true, not_true_eq_false, Int.natCast_add, Int.natCast_one, Int.toNat_natCast, Nat.zero_add, l1, q2, l2]
        · simp (disch := omega) only [b_X4_multiplyOut_42, ki_0, ki_1, ki_2, ki_3, ki_4, ki_5, ki_6, ki_7, ki_8, ki_9, ki_10, ki_11, ki_12, ki_13, ki_18, ki_20, ki_24, ki_32, ki_36, ki_45, ki_47, ki_48, ki_50, ki_57, ki_60, ki_63, ki_99, ki_100, ki_101, ki_120, ki_255, ki_468, ki_1000, ki_1024, ki_13849, ki_25173, ki_65535, ki_65536, ki_100000, ki_100001, ki_2147483647, ki_2147483648, kl_0, kl_1, kl_2, kl_9223372036854775808, ki_add, ki_sub, ki_mul, ki_neg, kl_add, kl_sub, kl_mul, kl_neg, ki_i2l, kl_l2i, ki_lt, ki_le, ki_eq, kcmp_eq, kcmp_lt, kcmp_le, kcmp_gt, kcmp_ge, Option.bind_some, Option.map_some, kbool0, kbool1, if_pos, if_neg, if_true, if_false, Int.neg_neg, Int.sub_zero, Int.add_zero, Int.zero_add, true_and, and_true, false_and, and_false, false_or, or_false, true_or, or_true, ne_eq, not_false_eq_true, not_true_eq_false, Int.natCast_add, Int.natCast_one, wm]
      simp (disch := omega) only [b_X4_multiplyOut_32, e1, ki_0, ki_1, ki_2, ki_3, ki_4, ki_5, ki_6, ki_7, ki_8, ki_9, ki_10, ki_11, ki_12, ki_13, ki_18, ki_20, ki_24, ki_32, ki_36, ki_45, ki_47, ki_48, ki_50, ki_57, ki_60, ki_63, ki_99, ki_100, ki_101, ki_120, ki_255, ki_468, ki_1000, ki_1024, ki_13849, ki_25173, ki_65535, ki_65536, ki_100000, ki_100001, ki_2147483647, ki_2147483648, kl_0, kl_1, kl_2, kl_9223372036854775808, ki_add, ki_sub, ki_mul, ki_neg, kl_add, kl_sub, kl_mul, kl_neg, ki_i2l, kl_l2i, ki_lt, ki_le, ki_eq, kcmp_eq, kcmp_lt, kcmp_le, kcmp_gt, kcmp_ge, Option.bind_some, Option.map_some, kbool0, kbool1, if_pos, if_neg, if_true, if_false, Int.neg_neg, Int.sub_zero, Int.add_zero, Int.zero_add, true_and, and_true, false_and, and_false, false_or, or_false, true_or, or_true, ne_eq, not_false_eq_true, not_true_eq_false]
      exact inner
    · have kf := wm_kF hX (A := gi μ (o + 1)) (C := gi μ (o + 2)) (gi μ o 0).toNat (by omega)
      have e1 := kT.gr (hT.to kf)
      rw [eR kf] at e1
      simp (disch := omega) only [b_X4_multiplyOut_32, e1, ki_0, ki_1, ki_2, ki_3, ki_4, ki_5, ki_6, ki_7, ki_8, ki_9, ki_10, ki_11, ki_12, ki_13, ki_18, ki_20, ki_24, ki_32, ki_36, ki_45, ki_47, ki_48, ki_50, ki_57, ki_60, ki_63, ki_99, ki_100, ki_101, ki_120, ki_255, ki_468, ki_1000, ki_1024, ki_13849, ki_25173, ki_65535, ki_65536, ki_100000, ki_100001, ki_2147483647, ki_2147483648, kl_0, kl_1, kl_2, kl_9223372036854775808, ki_add, ki_sub, ki_mul, ki_neg, kl_add, kl_sub, kl_mul, kl_neg, ki_i2l, kl_l2i, ki_lt, ki_le, ki_eq, kcmp_eq, kcmp_lt, kcmp_le, kcmp_gt, kcmp_ge, Option.bind_some, Option.map_some, kbool0, kbool1, if_pos, if_neg, if_true, if_false, Int.neg_neg, Int.sub_zero, Int.add_zero, Int.zero_add, true_and, and_true, false_and, and_false, false_or, or_false, true_or, or_true, ne_eq, not_false_eq_true, not_true_eq_false]
  unfold f_X4_multiplyOut
  refine jit_run (fun i => (ki i, wrl μ 80 0 (pcs (gi μ (o + 1)) (gi μ (o + 2)) 0).2 i)) _ 6 rfl (by omega) (fun i hi => ?_) ?_
  · have kg : kF 80 86 μ (wrl μ 80 0 (pcs (gi μ (o + 1)) (gi μ (o + 2)) 0).2 i) := wrl_kF (by omega) (by omega) i (fun j hj => by rw [Nat.zero_add]; exact (hX.a80s (k := 0) (by omega)).2.2.2 j (by omega))
    have hpc : (pcs (gi μ (o + 1)) (gi μ (o + 2)) 0).2 (i : Int) = if (i : Int) = 0 then 1 else 0 := rfl
    simp only [wrl]
    rw [hpc]
    generalize wrl μ 80 0 (pcs (gi μ (o + 1)) (gi μ (o + 2)) 0).2 i = ν at *
    have x1 := hX.to kg
    have q0 : jaO Y ν 79 26 (ki 0) = some 80 := x1.r79 (k := 0) (by omega)
    have s1 : ∀ v, jas Y ν 80 21 (ki i) v = some (jw ν 80 (i : Int).toNat v) := fun v => kasL (v := v) (x1.a80s (k := 0) (by omega)) (x := (i : Int)) (by omega) (by omega)
    by_cases hi0 : (i : Int) = 0
    · rw [if_pos hi0]
      simp (disch := omega) only [b_X4_multiplyOut_2, b_X4_multiplyOut_23, kX.o78_0 x1, q0, s1, ki_0, ki_1, ki_2, ki_3, ki_4, ki_5, ki_6, ki_7, ki_8, ki_9, ki_10, ki_11, ki_12, ki_13, ki_18, ki_20, ki_24, ki_32, ki_36, ki_45, ki_47, ki_48, ki_50, ki_57, ki_60, ki_63, ki_99, ki_100, ki_101, ki_120, ki_255, ki_468, ki_1000, ki_1024, ki_13849, ki_25173, ki_65535, ki_65536, ki_100000, ki_100001, ki_2147483647, ki_2147483648, kl_0, kl_1, kl_2, kl_9223372036854775808, ki_add, ki_sub, ki_mul, ki_neg, kl_add, kl_sub, kl_mul, kl_neg, ki_i2l, kl_l2i, ki_lt, ki_le, ki_eq, kcmp_eq, kcmp_lt, kcmp_le, kcmp_gt, kcmp_ge, Option.bind_some, Option.map_some, kbool0, kbool1, if_pos, if_neg, if_true, if_false, Int.neg_neg, Int.sub_zero, Int.add_zero, Int.zero_add, true_and, and_true, false_and, and_false, false_or, or_false, true_or, or_true, ne_eq, not_false_eq_true, not_true_eq_false, Int.natCast_add, Int.natCast_one, Int.toNat_natCast, Nat.zero_add]
    · rw [if_neg hi0]
      simp (disch := omega) only [b_X4_multiplyOut_2, b_X4_multiplyOut_23, kX.o78_0 x1, q0, s1, ki_0, ki_1, ki_2, ki_3, ki_4, ki_5, ki_6, ki_7, ki_8, ki_9, ki_10, ki_11, ki_12, ki_13, ki_18, ki_20, ki_24, ki_32, ki_36, ki_45, ki_47, ki_48, ki_50, ki_57, ki_60, ki_63, ki_99, ki_100, ki_101, ki_120, ki_255, ki_468, ki_1000, ki_1024, ki_13849, ki_25173, ki_65535, ki_65536, ki_100000, ki_100001, ki_2147483647, ki_2147483648, kl_0, kl_1, kl_2, kl_9223372036854775808, ki_add, ki_sub, ki_mul, ki_neg, kl_add, kl_sub, kl_mul, kl_neg, ki_i2l, kl_l2i, ki_lt, ki_le, ki_eq, kcmp_eq, kcmp_lt, kcmp_le, kcmp_gt, kcmp_ge, Option.bind_some, Option.map_some, kbool0, kbool1, if_pos, if_neg, if_true, if_false, Int.neg_neg, Int.sub_zero, Int.add_zero, Int.zero_add, true_and, and_true, false_and, and_false, false_or, or_false, true_or, or_true, ne_eq, not_false_eq_true, not_true_eq_false, Int.natCast_add, Int.natCast_one, Int.toNat_natCast, Nat.zero_add]
  · have e : b_X4_multiplyOut_2 Y 78 o (ki ((6 : Nat) : Int)) (wrl μ 80 0 (pcs (gi μ (o + 1)) (gi μ (o + 2)) 0).2 6) = (jit jF (fun (s : Int32 × jM) => b_X4_multiplyOut_32 Y 78 o s.1 s.2) ((0 : Int32), wrl μ 80 0 (pcs (gi μ (o + 1)) (gi μ (o + 2)) 0).2 6)).map (fun r => (.inr r)) := rfl
    rw [e, main]
    rfl
/-! the reference -/
def wq (μ : jM) (A C : Int → Int) : Nat → jM
  | 0 => wrl (wrl μ 117 0 (fun _ => 0) 36) 117 0 (fun _ => 1) 1
  | k + 1 => wrl (wq μ A C k) 117 (6 * (k + 1)) (pcs A C (k + 1)).2 (k + 2)
theorem wq_kF {Y : jY} {μ : jM} (hM : kM Y μ) {A C : Int → Int} : ∀ k, k ≤ 5 → kF 117 118 μ (wq μ A C k) := by
  have hL := (kM.a117 hM).2.2.2
  intro k
  induction k with
  | zero =>
    intro _
    have h : kF 117 118 μ (wrl μ 117 0 (fun _ => 0) 36) := wrl_kF (by omega) (by omega) 36 (fun j hj => hL _ (by omega))
    exact h.trans (wrl_kF (by omega) (by omega) 1 (fun j hj => h.L (hL _ (by omega))))
  | succ k ih =>
    intro hk
    have h := ih (by omega)
    exact h.trans (wrl_kF (by omega) (by omega) (k + 2) (fun j hj => h.L (hL _ (by omega))))
theorem wq_gl {μ : jM} {A C : Int → Int} {n : Nat} (hn : n ≤ 5) (hb : ∀ i : Nat, i ≤ n → ∀ j : Int, -312500000 ≤ (pcs A C i).2 j ∧ (pcs A C i).2 j ≤ 312500000) : ∀ k, k ≤ n → (∀ i : Nat, i ≤ k → ∀ x : Int, 0 ≤ x → x < 6 → gl (wq μ A C k) 117 (6 * i + x) = (pcs A C i).2 x) ∧ ∀ x : Int, 6 * k + 6 ≤ x → x < 36 → gl (wq μ A C k) 117 x = 0 := by
  intro k
  induction k with
  | zero =>
    intro _
    refine ⟨fun i hi x h0 h1 => ?_, fun x h0 h1 => ?_⟩
    · obtain rfl : i = 0 := by omega
      simp only [wq]
      rw [wrl_gl 1 (fun j _ => by omega) _ (by omega), wrl_gl 36 (fun j _ => by omega) _ (by omega)]
      simp only [pcs]
      by_cases e : x = 0
      · rw [if_pos (by omega), if_pos e]
      · rw [if_neg (by omega), if_pos (by omega), if_neg e]
    · simp only [wq]
      rw [wrl_gl 1 (fun j _ => by omega) _ (by omega), wrl_gl 36 (fun j _ => by omega) _ (by omega), if_neg (by omega), if_pos (by omega)]
  | succ k ih =>
    intro hk
    obtain ⟨h1, h2⟩ := ih (by omega)
    refine ⟨fun i hi x x0 x1 => ?_, fun x x0 x1 => ?_⟩
    · simp only [wq]
      rw [wrl_gl (k + 2) (fun j _ => by have := hb (k + 1) (by omega) j; omega) _ (by omega)]
      by_cases e : i = k + 1
      · subst e
        by_cases e2 : x < (k : Int) + 2
        · rw [if_pos (by omega)]
          exact congrArg _ (by omega)
        · rw [if_neg (by omega), h2 _ (by omega) (by omega), (pcs_deg (k + 1) x (by omega)).1]
      · rw [if_neg (by omega)]
        exact h1 i (by omega) x x0 x1
    · simp only [wq]
      rw [wrl_gl (k + 2) (fun j _ => by have := hb (k + 1) (by omega) j; omega) _ (by omega), if_neg (by omega)]
      exact h2 x (by omega) x1
set_option maxHeartbeats 2000000 in
theorem X12_laysPoly {Y : jY} {μ : jM} (hM : kM Y μ) {d : Int} (d1 : 0 ≤ d) (d2 : d ≤ 3) (hB : kMb μ d) :
    f_X12_laysPoly Y 95 (ki d) (ki 0) μ = some (wq μ (mA μ d) (mC μ d) (gi μ 108 d).toNat) := by
  have hR0 := hB.1
  have hR5 := hB.2.1
  have hL := (kM.a117 hM).2.2.2
  have hb : ∀ i : Nat, i ≤ (gi μ 108 d).toNat → ∀ j : Int, -312500000 ≤ (pcs (mA μ d) (mC μ d) i).2 j ∧ (pcs (mA μ d) (mC μ d) i).2 j ≤ 312500000 := fun i hi j =>
    pcs_rng (n := (gi μ 108 d).toNat) (fun x a b => hB.2.2.1 x a (by omega)) (fun x a b => hB.2.2.2 x a (by omega)) (by omega) hi j
  have eA : ∀ {ν : jM}, kF 117 118 μ ν → mA ν d = mA μ d := fun k => funext fun x => k.gi (by omega) _
  have eC : ∀ {ν : jM}, kF 117 118 μ ν → mC ν d = mC μ d := fun k => funext fun x => k.gi (by omega) _
  have eR : ∀ {ν : jM}, kF 117 118 μ ν → gi ν 108 d = gi μ 108 d := fun k => k.gi (by omega) _
  have main : jit jF (fun (s : Int32 × jM) => b_X12_laysPoly_30 Y 95 (ki d) (ki 0) s.1 s.2) (ki 1, wq μ (mA μ d) (mC μ d) 0) = some (wq μ (mA μ d) (mC μ d) (gi μ 108 d).toNat) := by
    refine jit_run (fun k => (ki (1 + k), wq μ (mA μ d) (mC μ d) k)) _ (gi μ 108 d).toNat rfl (by omega) (fun k hk => ?_) ?_
    · have kf := wq_kF hM (A := mA μ d) (C := mC μ d) k (by omega)
      have t1 := hM.to kf
      have inner : jit jF (fun (s : Int32 × jM) => b_X12_laysPoly_45 Y 95 (ki d) (ki 0) (ki (1 + (k : Int))) s.1 s.2) ((0 : Int32), wq μ (mA μ d) (mC μ d) k) = some (.inl (ki (1 + ((k + 1 : Nat) : Int)), wq μ (mA μ d) (mC μ d) (k + 1))) := by
        refine jit_run (fun j => (ki j, wrl (wq μ (mA μ d) (mC μ d) k) 117 (6 * (k + 1)) (pcs (mA μ d) (mC μ d) (k + 1)).2 j)) _ (k + 2) rfl (by omega) (fun j hj => ?_) ?_
        · have kg : kF 117 118 μ (wrl (wq μ (mA μ d) (mC μ d) k) 117 (6 * (k + 1)) (pcs (mA μ d) (mC μ d) (k + 1)).2 j) := kf.trans (wrl_kF (by omega) (by omega) j (fun i hi => kf.L (hL _ (by omega))))
          have gv : ∀ i : Nat, i ≤ k → ∀ x : Int, 0 ≤ x → x < 6 → gl (wrl (wq μ (mA μ d) (mC μ d) k) 117 (6 * (k + 1)) (pcs (mA μ d) (mC μ d) (k + 1)).2 j) 117 (6 * i + x) = (pcs (mA μ d) (mC μ d) i).2 x := fun i hi x x0 x1 => by
            rw [wrl_gl j (fun j _ => by have := hb (k + 1) (by omega) j; omega) _ (by omega), if_neg (by omega)]
            exact (wq_gl (by omega) hb k (by omega)).1 i hi x x0 x1
          have hpc : (pcs (mA μ d) (mC μ d) (k + 1)).2 (j : Int) = -mA μ d k * (pcs (mA μ d) (mC μ d) k).2 j + (if (j : Int) ≤ 0 then 0 else (pcs (mA μ d) (mC μ d) k).2 ((j : Int) - 1)) - mC μ d ((k : Int) - 1) * (pcs (mA μ d) (mC μ d) k).1 j := rfl
          have hp1 : 0 < k → (pcs (mA μ d) (mC μ d) k).1 = (pcs (mA μ d) (mC μ d) (k - 1)).2 := fun h => by
            obtain ⟨k, rfl⟩ : ∃ m, k = m + 1 := ⟨k - 1, by omega⟩
            rfl
          simp only [wrl]
          rw [hpc]
          generalize wrl (wq μ (mA μ d) (mC μ d) k) 117 (6 * (k + 1)) (pcs (mA μ d) (mC μ d) (k + 1)).2 j = ν at *
          have m1 := hM.to kg
          have mm := fun r => @krcv (Int32 × jM) Y 95 12 r hM.y
          have qa := X12_a m1 (d := d) (i := (k : Int)) d1 d2 (by omega) (by omega)
          have oo := kM.o35 m1
          have l0 := kaL (kM.a117 m1) (x := 6 * (k : Int) + j) (by omega) (by omega)
          rw [gv k (by omega) j (by omega) (by omega)] at l0
          have s1 := fun v => kasL (v := v) (kM.a117 m1) (x := 6 * (1 + (k : Int)) + j) (by omega) (by omega)
          rw [eA kg] at qa
          have A1 := hB.2.2.1 k (by omega) (by omega)
          have hz : k = 0 → (pcs (mA μ d) (mC μ d) k).1 j = 0 := fun h => by rw [h]; rfl
          have n1 : 1 + (k : Int) - 1 = k := by omega
          have n2 : 1 + (k : Int) - 2 = (k : Int) - 1 := by omega
          have n3 : (6 * (1 + (k : Int)) + j).toNat = 6 * (k + 1) + j := by omega
          have n4 : ∀ x : Int, 1 + (k : Int) + 1 = 1 + (k + 1) := fun _ => by omega
          rw [Int.neg_mul]
          by_cases hj0 : (j : Int) ≤ 0
          · rw [if_pos hj0]
            by_cases hk0 : (k : Int) ≤ 0
            · rw [hz (by omega), Int.mul_zero, show -(mA μ d k * (pcs (mA μ d) (mC μ d) k).2 j) + 0 - 0 = 0 - mA μ d k * (pcs (mA μ d) (mC μ d) k).2 j from by omega]
              simp (disch := omega) only [b_X12_laysPoly_45, b_X12_laysPoly_76, b_X12_laysPoly_159, mm, oo, qa, l0, s1, n1, n2, n3, ki_0, ki_1, ki_2, ki_3, ki_4, ki_5, ki_6, ki_7, ki_8, ki_9, ki_10, ki_11, ki_12, ki_13, ki_18, ki_20, ki_24, ki_32, ki_36, ki_45, ki_47, ki_48, ki_50, ki_57, ki_60, ki_63, ki_99, ki_100, ki_101, ki_120, ki_255, ki_468, ki_1000, ki_1024, ki_13849, ki_25173, ki_65535, ki_65536, ki_100000, ki_100001, ki_2147483647, ki_2147483648, kl_0, kl_1, kl_2, kl_9223372036854775808, ki_add, ki_sub, ki_mul, ki_neg, kl_add, kl_sub, kl_mul, kl_neg, ki_i2l, kl_l2i, ki_lt, ki_le, ki_eq, kcmp_eq, kcmp_lt, kcmp_le, kcmp_gt, kcmp_ge, Option.bind_some, Option.map_some, kbool0, kbool1, if_pos, if_neg, if_true, if_false, Int.neg_neg, Int.sub_zero, Int.add_zero, Int.zero_add, true_and, and_true, false_and, and_false, false_or, or_false, true_or, or_true, ne_eq, not_false_eq_true, not_true_eq_false, Int.natCast_add, Int.natCast_one, Int.toNat_natCast]
            · have qc := X12_c m1 (d := d) (i := (k : Int) - 1) d1 d2 (by omega) (by omega)
              rw [eC kg] at qc
              have C1 := hB.2.2.2 ((k : Int) - 1) (by omega) (by omega)
              have l2 := kaL (kM.a117 m1) (x := 6 * ((k : Int) - 1) + j) (by omega) (by omega)
              rw [show 6 * ((k : Int) - 1) + j = 6 * ((k - 1 : Nat) : Int) + j from by omega, gv (k - 1) (by omega) _ (by omega) (by omega), ← hp1 (by omega), show 6 * ((k - 1 : Nat) : Int) + j = 6 * ((k : Int) - 1) + j from by omega] at l2
              rw [show -(mA μ d k * (pcs (mA μ d) (mC μ d) k).2 j) + 0 = 0 - mA μ d k * (pcs (mA μ d) (mC μ d) k).2 j from by omega]
              simp (disch := omega) only [b_X12_laysPoly_45, b_X12_laysPoly_76, b_X12_laysPoly_159, mm, oo, qa, l0, s1, n1, n2, n3, ki_0, ki_1, ki_2, ki_3, ki_4, ki_5, ki_6, ki_7, ki_8, ki_9, ki_10, ki_11, ki_12, ki_13, ki_18, ki_20, ki_24, ki_32, ki_36, ki_45, ki_47, ki_48, ki_50, ki_57, ki_60, ki_63, ki_99, ki_100, ki_101, ki_120, ki_255, ki_468, ki_1000, ki_1024, ki_13849, ki_25173, ki_65535, ki_65536, ki_100000, ki_100001, ki_2147483647, ki_2147483648, kl_0, kl_1, kl_2, kl_9223372036854775808, ki_add, ki_sub, ki_mul, ki_neg, kl_add, kl_sub, kl_mul, kl_neg, ki_i2l, kl_l2i, ki_lt, ki_le, ki_eq, kcmp_eq, kcmp_lt, kcmp_le, kcmp_gt, kcmp_ge, Option.bind_some, Option.map_some, kbool0, kbool1, if_pos, if_neg, if_true, if_false, Int.neg_neg, Int.sub_zero, Int.add_zero, Int.zero_add, true_and, and_true, false_and, and_false, false_or, or_false, true_or, or_true, ne_eq, not_false_eq_true, not_true_eq_false, Int.natCast_add, Int.natCast_one, Int.toNat_natCast, qc, l2]
          · rw [if_neg hj0]
            have l1 := kaL (kM.a117 m1) (x := 6 * (k : Int) + j - 1) (by omega) (by omega)
            rw [show 6 * (k : Int) + j - 1 = 6 * (k : Int) + (j - 1) from by omega, gv k (by omega) ((j : Int) - 1) (by omega) (by omega), show 6 * (k : Int) + (j - 1) = 6 * (k : Int) + j - 1 from by omega] at l1
            by_cases hk0 : (k : Int) ≤ 0
            · rw [hz (by omega), Int.mul_zero, show -(mA μ d k * (pcs (mA μ d) (mC μ d) k).2 j) + (pcs (mA μ d) (mC μ d) k).2 ((j : Int) - 1) - 0 = (pcs (mA μ d) (mC μ d) k).2 ((j : Int) - 1) - mA μ d k * (pcs (mA μ d) (mC μ d) k).2 j from by omega]
              simp (disch := omega) only [b_X12_laysPoly_45, b_X12_laysPoly_76, b_X12_laysPoly_159, mm, oo, qa, l0, s1, n1, n2, n3, ki_0, ki_1, ki_2, ki_3, ki_4, ki_5, ki_6, ki_7, ki_8, ki_9, ki_10, ki_11, ki_12, ki_13, ki_18, ki_20, ki_24, ki_32, ki_36, ki_45, ki_47, ki_48, ki_50, ki_57, ki_60, ki_63, ki_99, ki_100, ki_101, ki_120, ki_255, ki_468, ki_1000, ki_1024, ki_13849, ki_25173, ki_65535, ki_65536, ki_100000, ki_100001, ki_2147483647, ki_2147483648, kl_0, kl_1, kl_2, kl_9223372036854775808, ki_add, ki_sub, ki_mul, ki_neg, kl_add, kl_sub, kl_mul, kl_neg, ki_i2l, kl_l2i, ki_lt, ki_le, ki_eq, kcmp_eq, kcmp_lt, kcmp_le, kcmp_gt, kcmp_ge, Option.bind_some, Option.map_some, kbool0, kbool1, if_pos, if_neg, if_true, if_false, Int.neg_neg, Int.sub_zero, Int.add_zero, Int.zero_add, true_and, and_true, false_and, and_false, false_or, or_false, true_or, or_true, ne_eq, not_false_eq_true, not_true_eq_false, Int.natCast_add, Int.natCast_one, Int.toNat_natCast, l1]
            · have qc := X12_c m1 (d := d) (i := (k : Int) - 1) d1 d2 (by omega) (by omega)
              rw [eC kg] at qc
              have C1 := hB.2.2.2 ((k : Int) - 1) (by omega) (by omega)
              have l2 := kaL (kM.a117 m1) (x := 6 * ((k : Int) - 1) + j) (by omega) (by omega)
              rw [show 6 * ((k : Int) - 1) + j = 6 * ((k - 1 : Nat) : Int) + j from by omega, gv (k - 1) (by omega) _ (by omega) (by omega), ← hp1 (by omega), show 6 * ((k - 1 : Nat) : Int) + j = 6 * ((k : Int) - 1) + j from by omega] at l2
              rw [show -(mA μ d k * (pcs (mA μ d) (mC μ d) k).2 j) + (pcs (mA μ d) (mC μ d) k).2 ((j : Int) - 1) = (pcs (mA μ d) (mC μ d) k).2 ((j : Int) - 1) - mA μ d k * (pcs (mA μ d) (mC μ d) k).2 j from by omega]
              simp (disch := omega) only [b_X12_laysPoly_45, b_X12_laysPoly_76, b_X12_laysPoly_159, mm, oo, qa, l0, s1, n1, n2, n3, ki_0, ki_1, ki_2, ki_3, ki_4, ki_5, ki_6, ki_7, ki_8, ki_9, ki_10, ki_11, ki_12, ki_13, ki_18, ki_20, ki_24, ki_32, ki_36, ki_45, ki_47, ki_48, ki_50, ki_57, ki_60, ki_63, ki_99, ki_100, ki_101, ki_120, ki_255, ki_468, ki_1000, ki_1024, ki_13849, ki_25173, ki_65535, ki_65536, ki_100000, ki_100001, ki_2147483647, ki_2147483648, kl_0, kl_1, kl_2, kl_9223372036854775808, ki_add, ki_sub, ki_mul, ki_neg, kl_add, kl_sub, kl_mul, kl_neg, ki_i2l, kl_l2i, ki_lt, ki_le, ki_eq, kcmp_eq, kcmp_lt, kcmp_le, kcmp_gt, kcmp_ge, Option.bind_some, Option.map_some, kbool0, kbool1, if_pos, if_neg, if_true, if_false, Int.neg_neg, Int.sub_zero, Int.add_zero, Int.zero_add, true_and, and_true, false_and, and_false, false_or, or_false, true_or, or_true, ne_eq, not_false_eq_true, not_true_eq_false, Int.natCast_add, Int.natCast_one, Int.toNat_natCast, l1, qc, l2]
        · simp (disch := omega) only [b_X12_laysPoly_45, ki_0, ki_1, ki_2, ki_3, ki_4, ki_5, ki_6, ki_7, ki_8, ki_9, ki_10, ki_11, ki_12, ki_13, ki_18, ki_20, ki_24, ki_32, ki_36, ki_45, ki_47, ki_48, ki_50, ki_57, ki_60, ki_63, ki_99, ki_100, ki_101, ki_120, ki_255, ki_468, ki_1000, ki_1024, ki_13849, ki_25173, ki_65535, ki_65536, ki_100000, ki_100001, ki_2147483647, ki_2147483648, kl_0, kl_1, kl_2, kl_9223372036854775808, ki_add, ki_sub, ki_mul, ki_neg, kl_add, kl_sub, kl_mul, kl_neg, ki_i2l, kl_l2i, ki_lt, ki_le, ki_eq, kcmp_eq, kcmp_lt, kcmp_le, kcmp_gt, kcmp_ge, Option.bind_some, Option.map_some, kbool0, kbool1, if_pos, if_neg, if_true, if_false, Int.neg_neg, Int.sub_zero, Int.add_zero, Int.zero_add, true_and, and_true, false_and, and_false, false_or, or_false, true_or, or_true, ne_eq, not_false_eq_true, not_true_eq_false, Int.natCast_add, Int.natCast_one, wq, show 1 + (k : Int) + 1 = 1 + ((k : Int) + 1) from by omega]
      simp (disch := omega) only [b_X12_laysPoly_30, kM.o26 t1, kaI (kM.a108 t1), eR kf, ki_0, ki_1, ki_2, ki_3, ki_4, ki_5, ki_6, ki_7, ki_8, ki_9, ki_10, ki_11, ki_12, ki_13, ki_18, ki_20, ki_24, ki_32, ki_36, ki_45, ki_47, ki_48, ki_50, ki_57, ki_60, ki_63, ki_99, ki_100, ki_101, ki_120, ki_255, ki_468, ki_1000, ki_1024, ki_13849, ki_25173, ki_65535, ki_65536, ki_100000, ki_100001, ki_2147483647, ki_2147483648, kl_0, kl_1, kl_2, kl_9223372036854775808, ki_add, ki_sub, ki_mul, ki_neg, kl_add, kl_sub, kl_mul, kl_neg, ki_i2l, kl_l2i, ki_lt, ki_le, ki_eq, kcmp_eq, kcmp_lt, kcmp_le, kcmp_gt, kcmp_ge, Option.bind_some, Option.map_some, kbool0, kbool1, if_pos, if_neg, if_true, if_false, Int.neg_neg, Int.sub_zero, Int.add_zero, Int.zero_add, true_and, and_true, false_and, and_false, false_or, or_false, true_or, or_true, ne_eq, not_false_eq_true, not_true_eq_false]
      exact inner
    · have kf := wq_kF hM (A := mA μ d) (C := mC μ d) (gi μ 108 d).toNat (by omega)
      have t1 := hM.to kf
      simp (disch := omega) only [b_X12_laysPoly_30, kM.o26 t1, kaI (kM.a108 t1), eR kf, ki_0, ki_1, ki_2, ki_3, ki_4, ki_5, ki_6, ki_7, ki_8, ki_9, ki_10, ki_11, ki_12, ki_13, ki_18, ki_20, ki_24, ki_32, ki_36, ki_45, ki_47, ki_48, ki_50, ki_57, ki_60, ki_63, ki_99, ki_100, ki_101, ki_120, ki_255, ki_468, ki_1000, ki_1024, ki_13849, ki_25173, ki_65535, ki_65536, ki_100000, ki_100001, ki_2147483647, ki_2147483648, kl_0, kl_1, kl_2, kl_9223372036854775808, ki_add, ki_sub, ki_mul, ki_neg, kl_add, kl_sub, kl_mul, kl_neg, ki_i2l, kl_l2i, ki_lt, ki_le, ki_eq, kcmp_eq, kcmp_lt, kcmp_le, kcmp_gt, kcmp_ge, Option.bind_some, Option.map_some, kbool0, kbool1, if_pos, if_neg, if_true, if_false, Int.neg_neg, Int.sub_zero, Int.add_zero, Int.zero_add, true_and, and_true, false_and, and_false, false_or, or_false, true_or, or_true, ne_eq, not_false_eq_true, not_true_eq_false]
  unfold f_X12_laysPoly
  refine jit_run (fun i => (ki i, wrl μ 117 0 (fun _ => 0) i)) _ 36 rfl (by omega) (fun i hi => ?_) ?_
  · have kg : kF 117 118 μ (wrl μ 117 0 (fun _ => 0) i) := wrl_kF (by omega) (by omega) i (fun j hj => hL _ (by omega))
    simp only [wrl]
    generalize wrl μ 117 0 (fun _ => 0) i = ν at *
    have m1 := hM.to kg
    have s1 := fun v => kasL (v := v) (kM.a117 m1) (x := (i : Int)) (by omega) (by omega)
    simp (disch := omega) only [b_X12_laysPoly_2, kM.o35 m1, s1, ki_0, ki_1, ki_2, ki_3, ki_4, ki_5, ki_6, ki_7, ki_8, ki_9, ki_10, ki_11, ki_12, ki_13, ki_18, ki_20, ki_24, ki_32, ki_36, ki_45, ki_47, ki_48, ki_50, ki_57, ki_60, ki_63, ki_99, ki_100, ki_101, ki_120, ki_255, ki_468, ki_1000, ki_1024, ki_13849, ki_25173, ki_65535, ki_65536, ki_100000, ki_100001, ki_2147483647, ki_2147483648, kl_0, kl_1, kl_2, kl_9223372036854775808, ki_add, ki_sub, ki_mul, ki_neg, kl_add, kl_sub, kl_mul, kl_neg, ki_i2l, kl_l2i, ki_lt, ki_le, ki_eq, kcmp_eq, kcmp_lt, kcmp_le, kcmp_gt, kcmp_ge, Option.bind_some, Option.map_some, kbool0, kbool1, if_pos, if_neg, if_true, if_false, Int.neg_neg, Int.sub_zero, Int.add_zero, Int.zero_add, true_and, and_true, false_and, and_false, false_or, or_false, true_or, or_true, ne_eq, not_false_eq_true, not_true_eq_false, Int.natCast_add, Int.natCast_one, Int.toNat_natCast, Nat.zero_add]
  · have kg : kF 117 118 μ (wrl μ 117 0 (fun _ => 0) 36) := wrl_kF (by omega) (by omega) 36 (fun j hj => hL _ (by omega))
    have e : wq μ (mA μ d) (mC μ d) 0 = jw (wrl μ 117 0 (fun _ => 0) 36) 117 0 (.long (kl 1)) := rfl
    rw [e] at main
    generalize wrl μ 117 0 (fun _ => 0) 36 = ν at *
    have m1 := hM.to kg
    have s1 : ∀ v, jas Y ν 117 21 (ki 0) v = some (jw ν 117 0 v) := fun v => kasL (v := v) (kM.a117 m1) (x := 0) (by omega) (by omega)
    simp (disch := omega) only [b_X12_laysPoly_2, kM.o35 m1, s1, ki_0, ki_1, ki_2, ki_3, ki_4, ki_5, ki_6, ki_7, ki_8, ki_9, ki_10, ki_11, ki_12, ki_13, ki_18, ki_20, ki_24, ki_32, ki_36, ki_45, ki_47, ki_48, ki_50, ki_57, ki_60, ki_63, ki_99, ki_100, ki_101, ki_120, ki_255, ki_468, ki_1000, ki_1024, ki_13849, ki_25173, ki_65535, ki_65536, ki_100000, ki_100001, ki_2147483647, ki_2147483648, kl_0, kl_1, kl_2, kl_9223372036854775808, ki_add, ki_sub, ki_mul, ki_neg, kl_add, kl_sub, kl_mul, kl_neg, ki_i2l, kl_l2i, ki_lt, ki_le, ki_eq, kcmp_eq, kcmp_lt, kcmp_le, kcmp_gt, kcmp_ge, Option.bind_some, Option.map_some, kbool0, kbool1, if_pos, if_neg, if_true, if_false, Int.neg_neg, Int.sub_zero, Int.add_zero, Int.zero_add, true_and, and_true, false_and, and_false, false_or, or_false, true_or, or_true, ne_eq, not_false_eq_true, not_true_eq_false]
    rw [main]
    rfl
