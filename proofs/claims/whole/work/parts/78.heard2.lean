/-! OPS: heard, the class's side; between -/
theorem il {A C : Int → Int} {n : Nat} (h2 : 2 ≤ n) (h4 : n ≤ 4) (hA : ∀ x : Int, 0 ≤ x → x < n → -6 ≤ A x ∧ A x ≤ 6) (hC : ∀ x : Int, 0 ≤ x → x < n - 1 → 1 ≤ C x ∧ C x ≤ 36) (h : zc A C 0 n 41 = n) (h1 : zc A C 1 (n - 1) 41 = n - 1) {i : Nat} (hi : (i : Int) < n - 1) : rt A C 1 0 n i < rt A C 1 1 (n - 1) i ∧ rt A C 1 1 (n - 1) i < rt A C 1 0 n (i + 1) := by
  have hA0 : ∀ x : Int, 0 ≤ x → x < 0 + n → -6 ≤ A x ∧ A x ≤ 6 := fun x a b => hA x a (by omega)
  have hC0 : ∀ x : Int, 0 ≤ x → x < 0 + n - 1 → 1 ≤ C x ∧ C x ≤ 36 := fun x a b => hC x a (by omega)
  have hA1 : ∀ x : Int, 1 ≤ x → x < 1 + (n - 1 : Nat) → -6 ≤ A x ∧ A x ≤ 6 := fun x a b => hA x (by omega) (by omega)
  have hC1 : ∀ x : Int, 1 ≤ x → x < 1 + (n - 1 : Nat) - 1 → 1 ≤ C x ∧ C x ≤ 36 := fun x a b => hC x (by omega) (by omega)
  have hC11 : ∀ x : Int, 1 ≤ x → x < 1 + (n - 1 : Nat) - 1 → 1 ≤ C x := fun x a b => (hC1 x a b).1
  have F : ∀ j : Nat, j < n → ∃ v : Nat, zc A C 0 n v = j ∧ rt A C 1 0 n j = -20 + v ∧ ((rb A C (rt A C 1 0 n j) 1 1 (n - 1)).1 - j) % 2 = 0 ∧ (pv A C (rt A C 1 0 n j) 1 1 (n - 1)).2 ≠ 0 := fun j hj => by
    obtain ⟨v, v1, v2, v3, v4, v5⟩ := full_rt (by omega) hA0 hC0 h (j := (j : Int)) (by omega) (by omega)
    obtain ⟨p1, p2⟩ := q_par h2 h4 (fun y a b => (hC y a b).1) v3
    rw [v5] at p1
    exact ⟨v, v2, v4, by rw [v4]; exact p1, by rw [v4]; exact p2⟩
  have mono : ∀ j : Nat, j + 1 < n → rt A C 1 0 n j < rt A C 1 0 n ((j + 1 : Nat) : Int) := fun j hj => by
    obtain ⟨v, a1, a2, _⟩ := F j (by omega)
    obtain ⟨w, b1, b2, _⟩ := F (j + 1) hj
    have := zc_less (A := A) (C := C) (fr := 0) (k := n) (u := v) (v := w) (by rw [a1, b1]; omega)
    rw [a2, b2]
    omega
  have bm : ∀ j : Nat, j + 1 < n → (rb A C (rt A C 1 0 n j) 1 1 (n - 1)).1 ≤ (rb A C (rt A C 1 0 n ((j + 1 : Nat) : Int)) 1 1 (n - 1)).1 := fun j hj => rb_mono (by omega) (by have := mono j hj; omega) hC11
  have br := fun j : Nat => rb_rng A C (rt A C 1 0 n j) 1 1 (n - 1)
  have lo : ∀ j : Nat, j < n → (j : Int) ≤ (rb A C (rt A C 1 0 n j) 1 1 (n - 1)).1 := by
    intro j
    induction j with
    | zero => intro _; exact (br 0).1
    | succ j ih =>
      intro hj
      have a := ih (by omega)
      have b := bm j hj
      obtain ⟨_, _, _, c, _⟩ := F (j + 1) hj
      omega
  have hi' : ∀ d : Nat, d < n → (rb A C (rt A C 1 0 n ((n - 1 - d : Nat) : Int)) 1 1 (n - 1)).1 ≤ ((n - 1 - d : Nat) : Int) := by
    intro d
    induction d with
    | zero => intro _; exact (br (n - 1)).2
    | succ d ih =>
      intro hd
      have a := ih (by omega)
      have b := bm (n - 1 - (d + 1)) (by omega)
      rw [show n - 1 - (d + 1) + 1 = n - 1 - d by omega] at b
      obtain ⟨_, _, _, c, _⟩ := F (n - 1 - (d + 1)) (by omega)
      omega
  have eq : ∀ j : Nat, j < n → (rb A C (rt A C 1 0 n j) 1 1 (n - 1)).1 = j := fun j hj => by
    have a := lo j hj
    have b := hi' (n - 1 - j) (by omega)
    rw [show n - 1 - (n - 1 - j) = j by omega] at b
    omega
  obtain ⟨w, w1, w2, w3, w4, w5⟩ := full_rt (fr := 1) (k := n - 1) (by omega) hA1 hC1 (by omega) (j := (i : Int)) (by omega) (by omega)
  obtain ⟨_, _, _, _, n1⟩ := F i (by omega)
  rw [← w4] at w3 w5
  constructor
  · rcases Int.lt_trichotomy (rt A C 1 0 n i) (rt A C 1 1 (n - 1) i) with g | g | g
    · exact g
    · rw [g] at n1
      exact absurd w3 n1
    · have := rb_root (A := A) (C := C) (q := 1) (fr := 1) (k := n - 1) (by omega) g (by omega) hC11 w3
      rw [eq i (by omega), w5] at this
      omega
  · by_cases g : rt A C 1 1 (n - 1) i < rt A C 1 0 n (i + 1)
    · exact g
    · have := rb_mono (A := A) (C := C) (p1 := rt A C 1 0 n (i + 1)) (p2 := rt A C 1 1 (n - 1) i) (q := 1) (fr := 1) (k := n - 1) (by omega) (by omega) hC11
      have e := eq (i + 1) (by omega)
      rw [Int.natCast_add, Int.natCast_one] at e
      rw [e, w5] at this
      omega
theorem zc_none (A C : Int → Int) (fr : Int) : ∀ j : Nat, zc A C fr 0 j = 0 := by
  intro j
  induction j with
  | zero => rfl
  | succ j ih => rw [zc_succ, ih, if_neg (by show ¬ ((1 : Int) = 0); omega)]; rfl
set_option maxHeartbeats 1000000 in
theorem X9_hearRoots {Y : jY} {μ : jM} {o a len : Nat} (hT : kT Y μ o) (hB : kTb μ o) (hA : kAI Y μ a len) (hoa : o + 2 < a) {fr k : Int} (f0 : 0 ≤ fr) (k0 : 0 ≤ k) (hr : fr + k ≤ gi μ o 0) (kl' : k ≤ len) {A C : Int → Int} (eA : ∀ x : Int, 0 ≤ x → x < gi μ o 0 → gi μ (o + 1) x = A x) (eC : ∀ x : Int, 0 ≤ x → x < gi μ o 0 - 1 → gi μ (o + 2) x = C x) : ∃ ν, f_X9_hearRoots Y o (ki fr) (ki k) a μ = some (ki (if zc A C fr k.toNat 27 - zc A C fr k.toNat 14 = k then 1 else 0), ν) ∧ kF a (a + 1) μ ν ∧ ∀ j : Int, 0 ≤ j → j < zc A C fr k.toNat 27 - zc A C fr k.toNat 14 → ∃ v : Nat, 14 ≤ v ∧ v < 27 ∧ gi ν a j = -20 + v ∧ (pv A C (-20 + v) 1 fr k.toNat).2 = 0 ∧ zc A C fr k.toNat v = zc A C fr k.toNat 14 + j := by
  have hb5 := hB.2.1
  have hn := hA.2.2.1
  have cA : ∀ x, fr ≤ x → x < fr + k.toNat → gi μ (o + 1) x = A x := fun x p q => eA x (by omega) (by omega)
  have cC : ∀ x, fr ≤ x → x < fr + k.toNat - 1 → gi μ (o + 2) x = C x := fun x p q => eC x (by omega) (by omega)
  have hC1 : ∀ x, fr ≤ x → x < fr + k.toNat - 1 → 1 ≤ C x := fun x p q => by rw [← cC x p q]; exact (hB.C f0 (by omega) x p q).1
  have cap : ∀ i : Nat, zc A C fr k.toNat (14 + i) - zc A C fr k.toNat 14 ≤ k := fun i => by
    by_cases e : k = 0
    · rw [e]
      show zc A C fr 0 _ - zc A C fr 0 _ ≤ 0
      rw [zc_none, zc_none]
      omega
    · have := zc_cap (A := A) (C := C) (fr := fr) (k := k.toNat) (by omega) hC1 14 i
      omega
  obtain ⟨⟨r1, r2⟩, e, h1, h2, h3⟩ := jit_inv (f := fun (s : Int32 × Int32 × jM) => b_X9_hearRoots_7 Y o (ki fr) (ki k) a s.1 s.2.1 s.2.2) (fun i z => z.1 = ki (zc A C fr k.toNat (14 + i) - zc A C fr k.toNat 14) ∧ z.2.1 = ki (-6 + (i : Int)) ∧ kF a (a + 1) μ z.2.2 ∧ ∀ j : Int, 0 ≤ j → j < zc A C fr k.toNat (14 + i) - zc A C fr k.toNat 14 → ∃ v : Nat, 14 ≤ v ∧ v < 14 + i ∧ gi z.2.2 a j = -20 + v ∧ (pv A C (-20 + v) 1 fr k.toNat).2 = 0 ∧ zc A C fr k.toNat v = zc A C fr k.toNat 14 + j)
    (fun r => r.1 = ki (if zc A C fr k.toNat 27 - zc A C fr k.toNat 14 = k then 1 else 0) ∧ kF a (a + 1) μ r.2 ∧ ∀ j : Int, 0 ≤ j → j < zc A C fr k.toNat 27 - zc A C fr k.toNat 14 → ∃ v : Nat, 14 ≤ v ∧ v < 27 ∧ gi r.2 a j = -20 + v ∧ (pv A C (-20 + v) 1 fr k.toNat).2 = 0 ∧ zc A C fr k.toNat v = zc A C fr k.toNat 14 + j) 13 (s := ((0 : Int32), (-6 : Int32), μ)) ⟨by show (0 : Int32) = ki _; rw [show zc A C fr k.toNat (14 + 0) - zc A C fr k.toNat 14 = 0 by rw [show (14 + 0 : Nat) = 14 from rfl]; omega]; rfl, rfl, kF.refl, fun j p q => by rw [show (14 + 0 : Nat) = 14 from rfl] at q; omega⟩ (by omega) (fun i z hi hz => by
    obtain ⟨c, x, ν⟩ := z
    obtain ⟨rfl, rfl, z1, z2⟩ := hz
    simp only [] at z1 z2
    have b1 := zc_up A C fr k.toNat 14 i
    have b2 := cap i
    have u0 : 0 ≤ zc A C fr k.toNat (14 + i) - zc A C fr k.toNat 14 := by omega
    by_cases e13 : i = 13
    · subst e13
      refine ⟨.inr (ki (if zc A C fr k.toNat 27 - zc A C fr k.toNat 14 = k then 1 else 0), ν), ?_, rfl, z1, z2⟩
      have b3 : zc A C fr k.toNat (14 + 13) = zc A C fr k.toNat 27 := rfl
      rw [b3] at b1 b2 u0 ⊢
      by_cases q : zc A C fr k.toNat 27 - zc A C fr k.toNat 14 = k
      · rw [if_pos q, q]
        simp (disch := omega) only [b_X9_hearRoots_7, b_X9_hearRoots_67, ki_0, ki_1, ki_2, ki_3, ki_4, ki_5, ki_6, ki_7, ki_8, ki_9, ki_10, ki_11, ki_12, ki_13, ki_18, ki_20, ki_24, ki_32, ki_36, ki_45, ki_47, ki_48, ki_50, ki_57, ki_60, ki_63, ki_99, ki_100, ki_101, ki_120, ki_255, ki_468, ki_1000, ki_1024, ki_13849, ki_25173, ki_65535, ki_65536, ki_100000, ki_100001, ki_2147483647, ki_2147483648, kl_0, kl_1, kl_2, kl_9223372036854775808, ki_add, ki_sub, ki_mul, ki_neg, kl_add, kl_sub, kl_mul, kl_neg, ki_i2l, kl_l2i, ki_lt, ki_le, ki_eq, kcmp_eq, kcmp_lt, kcmp_le, kcmp_gt, kcmp_ge, Option.bind_some, Option.map_some, kbool0, kbool1, if_pos, if_neg, if_true, if_false, Int.neg_neg, Int.sub_zero, Int.add_zero, Int.zero_add, true_and, and_true, false_and, and_false, false_or, or_false, true_or, or_true, ne_eq, not_false_eq_true, not_true_eq_false]
      · rw [if_neg q]
        generalize zc A C fr k.toNat 27 - zc A C fr k.toNat 14 = u at *
        simp (disch := omega) only [b_X9_hearRoots_7, b_X9_hearRoots_67, ki_0, ki_1, ki_2, ki_3, ki_4, ki_5, ki_6, ki_7, ki_8, ki_9, ki_10, ki_11, ki_12, ki_13, ki_18, ki_20, ki_24, ki_32, ki_36, ki_45, ki_47, ki_48, ki_50, ki_57, ki_60, ki_63, ki_99, ki_100, ki_101, ki_120, ki_255, ki_468, ki_1000, ki_1024, ki_13849, ki_25173, ki_65535, ki_65536, ki_100000, ki_100001, ki_2147483647, ki_2147483648, kl_0, kl_1, kl_2, kl_9223372036854775808, ki_add, ki_sub, ki_mul, ki_neg, kl_add, kl_sub, kl_mul, kl_neg, ki_i2l, kl_l2i, ki_lt, ki_le, ki_eq, kcmp_eq, kcmp_lt, kcmp_le, kcmp_gt, kcmp_ge, Option.bind_some, Option.map_some, kbool0, kbool1, if_pos, if_neg, if_true, if_false, Int.neg_neg, Int.sub_zero, Int.add_zero, Int.zero_add, true_and, and_true, false_and, and_false, false_or, or_false, true_or, or_true, ne_eq, not_false_eq_true, not_true_eq_false]
    · have hT1 := hT.to z1
      have hB1 := hB.to z1 (by omega)
      have hA1 := hA.to z1
      have V := X10_valueAt hT1 hB1 (fr := fr) (k := k) (p := -6 + i) (q := 1) f0 k0 (by rw [z1.gi (by omega)]; exact hr) (by omega) (by omega) (by omega) (by omega)
      have R := pv_rng (A := A) (C := C) (p := -6 + i) (q := 1) (fr := fr) (n := k.toNat) (fun x p q => by rw [← cA x p q]; exact hB.A f0 (by omega) x p q) (fun x p q => by rw [← cC x p q]; exact hB.C f0 (by omega) x p q) (by omega) (by omega) (by omega) (by omega) (by omega) (i := k.toNat) (by omega)
      rw [show gi ν (o + 1) = gi μ (o + 1) from funext (fun x => z1.gi (by omega) x), show gi ν (o + 2) = gi μ (o + 2) from funext (fun x => z1.gi (by omega) x), pv_congr cA cC k.toNat (Nat.le_refl _)] at V
      have zs := zc_succ A C fr k.toNat (14 + i)
      rw [show (-20 : Int) + ((14 + i : Nat) : Int) = -6 + i by omega] at zs
      have cp := cap (i + 1)
      rw [← Nat.add_assoc, zs] at cp
      have ql := klen hA1
      by_cases q : (pv A C (-6 + i) 1 fr k.toNat).2 = 0
      · rw [if_pos q] at zs cp
        rw [q] at V
        have s1 := fun v => kasI (v := v) hA1 (x := zc A C fr k.toNat (14 + i) - zc A C fr k.toNat 14) (by omega) (by omega)
        have kf : kF a (a + 1) ν (jw ν a (zc A C fr k.toNat (14 + i) - zc A C fr k.toNat 14).toNat (.int (ki (-6 + i)))) := kF_I (hA1.2.2.2 _ (by omega)) (by omega) (by omega)
        refine ⟨.inl (ki (zc A C fr k.toNat (14 + (i + 1)) - zc A C fr k.toNat 14), ki (-6 + ((i + 1 : Nat) : Int)), jw ν a (zc A C fr k.toNat (14 + i) - zc A C fr k.toNat 14).toNat (.int (ki (-6 + i)))), ?_, by omega, rfl, rfl, z1.trans kf, fun j p r => ?_⟩
        · rw [← Nat.add_assoc, zs, show zc A C fr k.toNat (14 + i) + 1 - zc A C fr k.toNat 14 = zc A C fr k.toNat (14 + i) - zc A C fr k.toNat 14 + 1 by omega]
          have u2 : zc A C fr k.toNat (14 + i) - zc A C fr k.toNat 14 + 1 ≤ k := by omega
          generalize zc A C fr k.toNat (14 + i) - zc A C fr k.toNat 14 = u at *
          simp (disch := omega) only [b_X9_hearRoots_7, b_X9_hearRoots_50, ql, V, krcv hT.y, s1, ki_0, ki_1, ki_2, ki_3, ki_4, ki_5, ki_6, ki_7, ki_8, ki_9, ki_10, ki_11, ki_12, ki_13, ki_18, ki_20, ki_24, ki_32, ki_36, ki_45, ki_47, ki_48, ki_50, ki_57, ki_60, ki_63, ki_99, ki_100, ki_101, ki_120, ki_255, ki_468, ki_1000, ki_1024, ki_13849, ki_25173, ki_65535, ki_65536, ki_100000, ki_100001, ki_2147483647, ki_2147483648, kl_0, kl_1, kl_2, kl_9223372036854775808, ki_add, ki_sub, ki_mul, ki_neg, kl_add, kl_sub, kl_mul, kl_neg, ki_i2l, kl_l2i, ki_lt, ki_le, ki_eq, kcmp_eq, kcmp_lt, kcmp_le, kcmp_gt, kcmp_ge, Option.bind_some, Option.map_some, kbool0, kbool1, if_pos, if_neg, if_true, if_false, Int.neg_neg, Int.sub_zero, Int.add_zero, Int.zero_add, true_and, and_true, false_and, and_false, false_or, or_false, true_or, or_true, ne_eq, not_false_eq_true, not_true_eq_false, Int.natCast_add, Int.natCast_one, Int.add_assoc]
        · rw [← Nat.add_assoc, zs] at r
          simp only []
          by_cases ej : j = zc A C fr k.toNat (14 + i) - zc A C fr k.toNat 14
          · refine ⟨14 + i, by omega, by omega, ?_, ?_, by omega⟩
            · rw [gi_jw _ _ (by omega) (by omega), if_pos ⟨rfl, by omega⟩]
              omega
            · rw [show (-20 : Int) + ((14 + i : Nat) : Int) = -6 + i by omega]
              exact q
          · obtain ⟨v, v1, v2, v3, v4, v5⟩ := z2 j p (by omega)
            refine ⟨v, v1, by omega, ?_, v4, v5⟩
            rw [gi_jw _ _ (by omega) (by omega), if_neg (by omega)]
            exact v3
      · rw [if_neg q] at zs cp
        refine ⟨.inl (ki (zc A C fr k.toNat (14 + (i + 1)) - zc A C fr k.toNat 14), ki (-6 + ((i + 1 : Nat) : Int)), ν), ?_, by omega, rfl, rfl, z1, fun j p r => ?_⟩
        · rw [← Nat.add_assoc, zs, Int.add_zero]
          generalize (pv A C (-6 + i) 1 fr k.toNat).2 = w at *
          by_cases ek : zc A C fr k.toNat (14 + i) - zc A C fr k.toNat 14 = k
          · generalize zc A C fr k.toNat (14 + i) - zc A C fr k.toNat 14 = u at *
            simp (disch := omega) only [b_X9_hearRoots_7, b_X9_hearRoots_50, ki_0, ki_1, ki_2, ki_3, ki_4, ki_5, ki_6, ki_7, ki_8, ki_9, ki_10, ki_11, ki_12, ki_13, ki_18, ki_20, ki_24, ki_32, ki_36, ki_45, ki_47, ki_48, ki_50, ki_57, ki_60, ki_63, ki_99, ki_100, ki_101, ki_120, ki_255, ki_468, ki_1000, ki_1024, ki_13849, ki_25173, ki_65535, ki_65536, ki_100000, ki_100001, ki_2147483647, ki_2147483648, kl_0, kl_1, kl_2, kl_9223372036854775808, ki_add, ki_sub, ki_mul, ki_neg, kl_add, kl_sub, kl_mul, kl_neg, ki_i2l, kl_l2i, ki_lt, ki_le, ki_eq, kcmp_eq, kcmp_lt, kcmp_le, kcmp_gt, kcmp_ge, Option.bind_some, Option.map_some, kbool0, kbool1, if_pos, if_neg, if_true, if_false, Int.neg_neg, Int.sub_zero, Int.add_zero, Int.zero_add, true_and, and_true, false_and, and_false, false_or, or_false, true_or, or_true, ne_eq, not_false_eq_true, not_true_eq_false, Int.natCast_add, Int.natCast_one, Int.add_assoc]
          · generalize zc A C fr k.toNat (14 + i) - zc A C fr k.toNat 14 = u at *
            simp (disch := omega) only [b_X9_hearRoots_7, b_X9_hearRoots_50, ql, V, krcv hT.y, ki_0, ki_1, ki_2, ki_3, ki_4, ki_5, ki_6, ki_7, ki_8, ki_9, ki_10, ki_11, ki_12, ki_13, ki_18, ki_20, ki_24, ki_32, ki_36, ki_45, ki_47, ki_48, ki_50, ki_57, ki_60, ki_63, ki_99, ki_100, ki_101, ki_120, ki_255, ki_468, ki_1000, ki_1024, ki_13849, ki_25173, ki_65535, ki_65536, ki_100000, ki_100001, ki_2147483647, ki_2147483648, kl_0, kl_1, kl_2, kl_9223372036854775808, ki_add, ki_sub, ki_mul, ki_neg, kl_add, kl_sub, kl_mul, kl_neg, ki_i2l, kl_l2i, ki_lt, ki_le, ki_eq, kcmp_eq, kcmp_lt, kcmp_le, kcmp_gt, kcmp_ge, Option.bind_some, Option.map_some, kbool0, kbool1, if_pos, if_neg, if_true, if_false, Int.neg_neg, Int.sub_zero, Int.add_zero, Int.zero_add, true_and, and_true, false_and, and_false, false_or, or_false, true_or, or_true, ne_eq, not_false_eq_true, not_true_eq_false, Int.natCast_add, Int.natCast_one, Int.add_assoc]
        · rw [← Nat.add_assoc, zs, Int.add_zero] at r
          obtain ⟨v, v1, v2, v3, v4, v5⟩ := z2 j p r
          exact ⟨v, v1, by omega, v3, v4, v5⟩)
  simp only [] at h1
  exact ⟨r2, by rw [← h1]; exact e, h2, h3⟩
