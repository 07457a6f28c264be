/-! THE TABLE in the class, the rows in the reference -/
theorem Inv.rows {L : Nat} {xs : Nat → Int32} {n : Nat} {Y : jY} {μ : jM} (h : Inv L xs n Y μ) (hN : gi μ 95 10 ≠ 0) {l m : Int → Int} (hl : ∀ x : Int, 0 ≤ x → x < gi μ 95 10 → gi μ 99 x = l x) (hm : ∀ x : Int, 0 ≤ x → x < gi μ 95 10 - 1 → gi μ 100 x = m x) {N : Nat} (eN : N = (gi μ 95 10).toNat) {U W f : Int → Int} (eU : U = l5 (tp l N)) (eW : W = l5 (tp m (N - 1))) (ef : f = l5 (moT N U W 8)) : (∃ ν, f_X7_rebuild Y 27 10 μ = some ν ∧ kF 27 31 μ ν ∧ gi ν 27 0 = (N : Int) ∧ rowK ν 28 ((N : Int) + 1) U ∧ rowK ν 29 (N : Int) W ∧ rowK ν 30 8 f) ∧ ∀ ν : jM, (∀ i, 95 ≤ i → i < 123 → ν i = μ i) → kM Y ν → ∃ ω, f_X12_laysTones Y 95 ν = some ω ∧ kF 101 104 ν ω ∧ rowK ω 101 ((N : Int) + 1) U ∧ rowK ω 102 (N : Int) W ∧ rowK ω 103 8 f := by
  obtain ⟨q1, q2, q3, q4, q5⟩ := h.q
  have R2 : ∀ x : Int, 0 ≤ x → x < gi μ 95 10 - 1 → -1000 ≤ gi μ 100 x ∧ gi μ 100 x ≤ 1000 := fun x a c => by have := q5 x a c; have := q4 x a (by omega); have := q4 (x + 1) (by omega) (by omega); omega
  have eN2 : (N : Int) = gi μ 95 10 := by omega
  have em : (gi μ 95 10 - 1).toNat = N - 1 := by omega
  have hU : ∀ x : Int, 0 ≤ x → x ≤ 7 → U x = tp l N x := fun x a b => by rw [eU]; exact l5_is a b
  have hW : ∀ x : Int, 0 ≤ x → x ≤ 7 → W x = tp m (N - 1) x := fun x a b => by rw [eW]; exact l5_is a b
  have hf : ∀ x : Int, 0 ≤ x → x ≤ 7 → f x = moT (gi μ 95 10) (tp l N) (tp m (N - 1)) 8 x := fun x a b => by
    rw [ef, l5_is a b, eN2]
    exact moT_uw (by omega) hU hW 8 x
  refine ⟨?_, fun ν hc hMν => ?_⟩
  · obtain ⟨ν, c1, kf, w0, t1, t2, t3⟩ := X7_rebuild h.x (N := gi μ 95 10) (l := l) (m := m) q1 (by omega) q3 (fun x a b => by have := q4 x a b; have := hl x a b; omega) (fun x a b => by have := q5 x a b; have := hm x a b; have := R2 x a b; omega)
    rw [em, ← eN] at t3
    rw [← eN] at t1
    rw [em] at t2
    rw [eN2]
    exact ⟨ν, c1, kf, w0, fun x a b => by rw [hU x a (by omega)]; exact t1 x a b, fun x a b => by rw [hW x a (by omega)]; exact t2 x a b, fun x a b => by rw [hf x a (by omega)]; exact t3 x a b⟩
  · obtain ⟨ω, c2, kf2, u1, u2, u3⟩ := X12_laysTones hMν (N := gi μ 95 10) (l := l) (m := m) (by rw [gi_cell (hc 95 (by omega) (by omega))]) (by omega) q3 (fun x a b => by rw [gi_cell (hc 99 (by omega) (by omega))]; have := q4 x a b; have := hl x a b; omega) (fun x a b => by rw [gi_cell (hc 100 (by omega) (by omega))]; have := R2 x a b; have := hm x a b; omega)
    rw [em, ← eN] at u3
    rw [← eN] at u1
    rw [em] at u2
    rw [eN2]
    exact ⟨ω, c2, kf2, fun x a b => by rw [hU x a (by omega)]; exact u1 x a b, fun x a b => by rw [hW x a (by omega)]; exact u2 x a b, fun x a b => by rw [hf x a (by omega)]; exact u3 x a b⟩
theorem Inv.num {L : Nat} {xs : Nat → Int32} {n : Nat} {Y : jY} {μ : jM} (h : Inv L xs n Y μ) (hN : gi μ 95 10 ≠ 0) {K : Nat → (Int → Int) → (Int → Int) → (Int → Int) → Bool} (hP : allQ (fun n l m => withN n l m (K n))) : ∃ (N : Nat) (U W f : Int → Int), 1 ≤ N ∧ N ≤ 4 ∧ gi μ 95 10 = (N : Int) ∧ K N U W f = true ∧ (∃ ν, f_X7_rebuild Y 27 10 μ = some ν ∧ kF 27 31 μ ν ∧ gi ν 27 0 = (N : Int) ∧ rowK ν 28 ((N : Int) + 1) U ∧ rowK ν 29 (N : Int) W ∧ rowK ν 30 8 f) ∧ ∀ ν : jM, (∀ i, 95 ≤ i → i < 123 → ν i = μ i) → kM Y ν → ∃ ω, f_X12_laysTones Y 95 ν = some ω ∧ kF 101 104 ν ω ∧ rowK ω 101 ((N : Int) + 1) U ∧ rowK ω 102 (N : Int) W ∧ rowK ω 103 8 f := by
  obtain ⟨q1, q2, q3, q4, q5⟩ := h.q
  obtain ⟨l, m, hl, hm, P⟩ := h.all hN hP
  simp only [withN, f8_eq] at P
  exact ⟨(gi μ 95 10).toNat, _, _, _, by omega, by omega, (toNat_cast q2).symm, P, h.rows hN hl hm rfl rfl rfl rfl⟩
theorem all_rng {n : Nat} {p : Nat → Bool} (h : (List.range n).all p = true) {i : Nat} (hi : i < n) : p i = true := by
  rw [List.all_eq_true] at h
  exact h i (List.mem_range.2 hi)
/-- the table in the class, the rows in the reference, and what is known of them -/
theorem Inv.tab {L : Nat} {xs : Nat → Int32} {n : Nat} {Y : jY} {μ : jM} (h : Inv L xs n Y μ) (hN : gi μ 95 10 ≠ 0) : ∃ (N : Nat) (U W f : Int → Int) (as cs : List (Int × Int)), 1 ≤ N ∧ N ≤ 4 ∧ gi μ 95 10 = (N : Int) ∧ (semB N U f as cs = true ∧ cxK N U f = true ∧ ∀ j : Nat, j < 5 → okb (U j)) ∧ ∃ ν, f_X8_rebuild Y 31 10 μ = some ν ∧ kF 27 72 μ ν ∧ tabC ν N as cs ∧ ∀ ξ : jM, (∀ i, 95 ≤ i → i < 123 → ξ i = μ i) → kM Y ξ → ∃ ω, f_X12_laysTones Y 95 ξ = some ω ∧ kF 101 104 ξ ω ∧ rowK ω 101 ((N : Int) + 1) U ∧ rowK ω 102 (N : Int) W ∧ rowK ω 103 8 f := by
  obtain ⟨N, U, W, f, N1, N4, eN, P, ⟨μ1, c1, kf, w0, t1, t2, t3⟩, M⟩ := h.num hN (K := tabK) tab_all
  unfold tabK tabB at P
  rw [Bool.and_eq_true, Bool.and_eq_true] at P
  obtain ⟨⟨P1, P2⟩, P3⟩ := P
  cases T : tbL N (wholes U (N + 1)) (wholes W N) with
  | none => rw [T] at P3; cases P3
  | some q =>
    rw [T] at P3
    simp only [Bool.and_eq_true] at P3
    obtain ⟨P4, P5⟩ := P3
    obtain ⟨ν, e1, e2, e3⟩ := X8_rebuild h.x N1 N4 c1 kf w0 t1 t2 (fun j hj => okB_iff.1 (all_rng P1 (i := j) (by omega))) (fun j hj => okB_iff.1 (all_rng P2 (i := j) (by omega))) (as := q.1) (cs := q.2) T
    exact ⟨N, U, W, f, q.1, q.2, N1, N4, eN, ⟨P4, P5, fun j hj => okB_iff.1 (all_rng P1 (i := j) hj)⟩, ν, e1, e2, e3, M⟩
theorem X12_power {Y : jY} {μ : jM} (hM : kM Y μ) {f : Int → Int} (hf : rowK μ 103 8 f) {k j : Int} (k0 : 0 ≤ k) (k3 : k ≤ 3) (j0 : 0 ≤ j) (jk : j ≤ k) : f_X12_power Y 95 (ki k) (ki j) μ = some (kl (pw f k j), μ) := by
  have q := X12_minor hM hf (k := k) (s := 0) (v := j) k0 (by omega) (by omega) (by omega) j0 (by omega) (by omega)
  have r : jremI (ki (k - j)) (ki 2) = some (ki ((k - j).tmod 2)) := by
    have : k - j = 0 ∨ k - j = 1 ∨ k - j = 2 ∨ k - j = 3 := by omega
    rcases this with e | e | e | e <;> rw [e] <;> decide
  have r2 : (k - j).tmod 2 = 0 ∨ (k - j).tmod 2 = 1 := by
    have : k - j = 0 ∨ k - j = 1 ∨ k - j = 2 ∨ k - j = 3 := by omega
    rcases this with e | e | e | e <;> rw [e] <;> decide
  unfold pw
  generalize (k - j).tmod 2 = t at *
  rcases r2 with rfl | rfl
  · simp (disch := omega) only [f_X12_power, b_X12_power_22, krcv hM.y, q, r, ki_0, ki_1, ki_2, ki_3, ki_4, ki_5, ki_6, ki_7, ki_8, ki_9, ki_10, ki_11, ki_12, ki_13, ki_18, ki_20, ki_24, ki_32, ki_36, ki_45, ki_47, ki_48, ki_50, ki_57, ki_60, ki_63, ki_99, ki_100, ki_101, ki_120, ki_255, ki_468, ki_1000, ki_1024, ki_13849, ki_25173, ki_65535, ki_65536, ki_100000, ki_100001, ki_2147483647, ki_2147483648, kl_0, kl_1, kl_2, kl_9223372036854775808, ki_add, ki_sub, ki_mul, ki_neg, kl_add, kl_sub, kl_mul, kl_neg, ki_i2l, kl_l2i, ki_lt, ki_le, ki_eq, kcmp_eq, kcmp_lt, kcmp_le, kcmp_gt, kcmp_ge, Option.bind_some, Option.map_some, kbool0, kbool1, if_pos, if_neg, if_true, if_false, Int.neg_neg, Int.sub_zero, Int.add_zero, Int.zero_add, true_and, and_true, false_and, and_false, false_or, or_false, true_or, or_true, ne_eq, not_false_eq_true, not_true_eq_false]
  · simp (disch := omega) only [f_X12_power, b_X12_power_22, krcv hM.y, q, r, ki_0, ki_1, ki_2, ki_3, ki_4, ki_5, ki_6, ki_7, ki_8, ki_9, ki_10, ki_11, ki_12, ki_13, ki_18, ki_20, ki_24, ki_32, ki_36, ki_45, ki_47, ki_48, ki_50, ki_57, ki_60, ki_63, ki_99, ki_100, ki_101, ki_120, ki_255, ki_468, ki_1000, ki_1024, ki_13849, ki_25173, ki_65535, ki_65536, ki_100000, ki_100001, ki_2147483647, ki_2147483648, kl_0, kl_1, kl_2, kl_9223372036854775808, ki_add, ki_sub, ki_mul, ki_neg, kl_add, kl_sub, kl_mul, kl_neg, ki_i2l, kl_l2i, ki_lt, ki_le, ki_eq, kcmp_eq, kcmp_lt, kcmp_le, kcmp_gt, kcmp_ge, Option.bind_some, Option.map_some, kbool0, kbool1, if_pos, if_neg, if_true, if_false, Int.neg_neg, Int.sub_zero, Int.add_zero, Int.zero_add, true_and, and_true, false_and, and_false, false_or, or_false, true_or, or_true, ne_eq, not_false_eq_true, not_true_eq_false]
