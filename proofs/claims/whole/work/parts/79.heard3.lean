/-! OPS: heard -/
set_option maxHeartbeats 1000000 in
theorem X9_hear {Y : jY} {μ : jM} (hX : kX Y μ) {o : Nat} (hT : kT Y μ o) (hB : kTb μ o) (ho : o + 2 < 91) {R : Int} {A C : Int → Int} (eR : gi μ o 0 = R) (h1 : 1 ≤ R) (eA : ∀ x : Int, 0 ≤ x → x < R → gi μ (o + 1) x = A x) (eC : ∀ x : Int, 0 ≤ x → x < R - 1 → gi μ (o + 2) x = C x) :
    (¬ (R ≤ 4 ∧ zc A C 0 R.toNat 27 - zc A C 0 R.toNat 14 = R ∧ zc A C 1 (R - 1).toNat 27 - zc A C 1 (R - 1).toNat 14 = R - 1) ∧ ∃ ν, f_X9_hear Y 91 o μ = some (ki 0, ν) ∧ kF 91 94 μ ν) ∨
    ((R ≤ 4 ∧ zc A C 0 R.toNat 27 - zc A C 0 R.toNat 14 = R ∧ zc A C 1 (R - 1).toNat 27 - zc A C 1 (R - 1).toNat 14 = R - 1) ∧ ∃ ν, f_X9_hear Y 91 o μ = some (ki 1, ν) ∧ kF 91 94 μ ν ∧ gi ν 91 0 = R ∧ (∀ j : Int, 0 ≤ j → j < R → ∃ v : Nat, 14 ≤ v ∧ v < 27 ∧ gi ν 92 j = -20 + v ∧ (pv A C (-20 + v) 1 0 R.toNat).2 = 0 ∧ zc A C 0 R.toNat v = zc A C 0 R.toNat 14 + j) ∧ ∀ j : Int, 0 ≤ j → j < R - 1 → ∃ v : Nat, 14 ≤ v ∧ v < 27 ∧ gi ν 93 j = -20 + v ∧ (pv A C (-20 + v) 1 1 (R - 1).toNat).2 = 0 ∧ zc A C 1 (R - 1).toNat v = zc A C 1 (R - 1).toNat 14 + j) := by
  have hb5 := hB.2.1
  rw [eR] at hb5
  have g := kT.gr hT
  rw [eR] at g
  by_cases h4 : R ≤ 4
  · have k0 : kF 91 94 μ (jw μ 91 0 (.int (ki R))) := kF_I hX.n91.ir (by omega) (by omega)
    have hX0 := hX.to k0
    have g0 := kN.gr hX0.n91
    have w0 : gi (jw μ 91 0 (.int (ki R))) 91 0 = R := by rw [gi_jw _ _ (by omega) (by omega), if_pos ⟨rfl, rfl⟩]
    rw [w0] at g0
    have pr := fun v => kN.pr hX.n91 (μ2 := μ) v
    have c0 : ∀ i, i ≠ 91 → jw μ 91 0 (.int (ki R)) i = μ i := fun i hi => jw_cell hi
    generalize hξ : jw μ 91 0 (.int (ki R)) = ξ at *
    have eR0 : gi ξ o 0 = R := by rw [gi_cell (c0 o (by omega)), eR]
    obtain ⟨ν1, r1, k1, t1⟩ := X9_hearRoots (hT.to k0) (hB.to k0 (by omega)) hX0.n91.aa (by omega) (fr := 0) (k := R) (A := A) (C := C) (by omega) (by omega) (by omega) h4 (fun x p q => by rw [gi_cell (c0 _ (by omega))]; exact eA x p (by omega)) (fun x p q => by rw [gi_cell (c0 _ (by omega))]; exact eC x p (by omega))
    have k01 := k0.trans (k1.mono (lo' := 91) (hi' := 94) (by omega) (by omega))
    by_cases e0 : zc A C 0 R.toNat 27 - zc A C 0 R.toNat 14 = R
    · rw [if_pos e0] at r1
      rw [e0] at t1
      have hX1 := hX.to k01
      have g1 := kN.gr hX1.n91
      rw [k1.gi (by omega), w0] at g1
      obtain ⟨ν2, r2, k2, t2⟩ := X9_hearRoots (hT.to k01) (hB.to k01 (by omega)) hX1.n91.ac (by omega) (fr := 1) (k := R - 1) (A := A) (C := C) (by omega) (by omega) (by rw [k1.gi (by omega)]; omega) (by show R - 1 ≤ ((3 : Nat) : Int); omega) (fun x p q => by rw [k1.gi (by omega), gi_cell (c0 _ (by omega))]; rw [k1.gi (by omega)] at q; exact eA x p (by omega)) (fun x p q => by rw [k1.gi (by omega), gi_cell (c0 _ (by omega))]; rw [k1.gi (by omega)] at q; exact eC x p (by omega))
      have k012 := k01.trans (k2.mono (lo' := 91) (hi' := 94) (by omega) (by omega))
      by_cases e1 : zc A C 1 (R - 1).toNat 27 - zc A C 1 (R - 1).toNat 14 = R - 1
      · rw [if_pos e1] at r2
        rw [e1] at t2
        refine Or.inr ⟨⟨h4, e0, e1⟩, ν2, ?_, k012, by rw [k2.gi (by omega), k1.gi (by omega), w0], fun j p q => ?_, t2⟩
        · simp (disch := omega) only [f_X9_hear, b_X9_hear_57, b_X9_hear_56, g, pr, hξ, g0, kN.ga hX0.n91, r1, g1, kN.gc hX1.n91, r2, ki_0, ki_1, ki_2, ki_3, ki_4, ki_5, ki_6, ki_7, ki_8, ki_9, ki_10, ki_11, ki_12, ki_13, ki_18, ki_20, ki_24, ki_32, ki_36, ki_45, ki_47, ki_48, ki_50, ki_57, ki_60, ki_63, ki_99, ki_100, ki_101, ki_120, ki_255, ki_468, ki_1000, ki_1024, ki_13849, ki_25173, ki_65535, ki_65536, ki_100000, ki_100001, ki_2147483647, ki_2147483648, kl_0, kl_1, kl_2, kl_9223372036854775808, ki_add, ki_sub, ki_mul, ki_neg, kl_add, kl_sub, kl_mul, kl_neg, ki_i2l, kl_l2i, ki_lt, ki_le, ki_eq, kcmp_eq, kcmp_lt, kcmp_le, kcmp_gt, kcmp_ge, Option.bind_some, Option.map_some, kbool0, kbool1, if_pos, if_neg, if_true, if_false, Int.neg_neg, Int.sub_zero, Int.add_zero, Int.zero_add, true_and, and_true, false_and, and_false, false_or, or_false, true_or, or_true, ne_eq, not_false_eq_true, not_true_eq_false]
        · obtain ⟨v, v1, v2, v3, v4⟩ := t1 j p q
          exact ⟨v, v1, v2, by rw [k2.gi (by omega)]; exact v3, v4⟩
      · rw [if_neg e1] at r2
        refine Or.inl ⟨by omega, ν2, ?_, k012⟩
        simp (disch := omega) only [f_X9_hear, b_X9_hear_57, b_X9_hear_56, g, pr, hξ, g0, kN.ga hX0.n91, r1, g1, kN.gc hX1.n91, r2, ki_0, ki_1, ki_2, ki_3, ki_4, ki_5, ki_6, ki_7, ki_8, ki_9, ki_10, ki_11, ki_12, ki_13, ki_18, ki_20, ki_24, ki_32, ki_36, ki_45, ki_47, ki_48, ki_50, ki_57, ki_60, ki_63, ki_99, ki_100, ki_101, ki_120, ki_255, ki_468, ki_1000, ki_1024, ki_13849, ki_25173, ki_65535, ki_65536, ki_100000, ki_100001, ki_2147483647, ki_2147483648, kl_0, kl_1, kl_2, kl_9223372036854775808, ki_add, ki_sub, ki_mul, ki_neg, kl_add, kl_sub, kl_mul, kl_neg, ki_i2l, kl_l2i, ki_lt, ki_le, ki_eq, kcmp_eq, kcmp_lt, kcmp_le, kcmp_gt, kcmp_ge, Option.bind_some, Option.map_some, kbool0, kbool1, if_pos, if_neg, if_true, if_false, Int.neg_neg, Int.sub_zero, Int.add_zero, Int.zero_add, true_and, and_true, false_and, and_false, false_or, or_false, true_or, or_true, ne_eq, not_false_eq_true, not_true_eq_false]
    · rw [if_neg e0] at r1
      refine Or.inl ⟨by omega, ν1, ?_, k01⟩
      simp (disch := omega) only [f_X9_hear, b_X9_hear_57, b_X9_hear_56, g, pr, hξ, g0, kN.ga hX0.n91, r1, ki_0, ki_1, ki_2, ki_3, ki_4, ki_5, ki_6, ki_7, ki_8, ki_9, ki_10, ki_11, ki_12, ki_13, ki_18, ki_20, ki_24, ki_32, ki_36, ki_45, ki_47, ki_48, ki_50, ki_57, ki_60, ki_63, ki_99, ki_100, ki_101, ki_120, ki_255, ki_468, ki_1000, ki_1024, ki_13849, ki_25173, ki_65535, ki_65536, ki_100000, ki_100001, ki_2147483647, ki_2147483648, kl_0, kl_1, kl_2, kl_9223372036854775808, ki_add, ki_sub, ki_mul, ki_neg, kl_add, kl_sub, kl_mul, kl_neg, ki_i2l, kl_l2i, ki_lt, ki_le, ki_eq, kcmp_eq, kcmp_lt, kcmp_le, kcmp_gt, kcmp_ge, Option.bind_some, Option.map_some, kbool0, kbool1, if_pos, if_neg, if_true, if_false, Int.neg_neg, Int.sub_zero, Int.add_zero, Int.zero_add, true_and, and_true, false_and, and_false, false_or, or_false, true_or, or_true, ne_eq, not_false_eq_true, not_true_eq_false]
  · refine Or.inl ⟨by omega, μ, ?_, kF.refl⟩
    simp (disch := omega) only [f_X9_hear, g, ki_0, ki_1, ki_2, ki_3, ki_4, ki_5, ki_6, ki_7, ki_8, ki_9, ki_10, ki_11, ki_12, ki_13, ki_18, ki_20, ki_24, ki_32, ki_36, ki_45, ki_47, ki_48, ki_50, ki_57, ki_60, ki_63, ki_99, ki_100, ki_101, ki_120, ki_255, ki_468, ki_1000, ki_1024, ki_13849, ki_25173, ki_65535, ki_65536, ki_100000, ki_100001, ki_2147483647, ki_2147483648, kl_0, kl_1, kl_2, kl_9223372036854775808, ki_add, ki_sub, ki_mul, ki_neg, kl_add, kl_sub, kl_mul, kl_neg, ki_i2l, kl_l2i, ki_lt, ki_le, ki_eq, kcmp_eq, kcmp_lt, kcmp_le, kcmp_gt, kcmp_ge, Option.bind_some, Option.map_some, kbool0, kbool1, if_pos, if_neg, if_true, if_false, Int.neg_neg, Int.sub_zero, Int.add_zero, Int.zero_add, true_and, and_true, false_and, and_false, false_or, or_false, true_or, or_true, ne_eq, not_false_eq_true, not_true_eq_false]
set_option maxHeartbeats 2000000 in
theorem X12_heard1 {Y : jY} {μ : jM} (hM : kM Y μ) {d R : Int} (d0 : 0 ≤ d) (d3 : d ≤ 3) (hB : kMb μ d) (eR : gi μ 108 d = R) (h1 : 1 ≤ R) (h4 : R ≤ 4) {L M : Int → Int} (hL : ∀ x : Int, 0 ≤ x → x < R → L x = rt (mA μ d) (mC μ d) 1 0 R.toNat x) (hM' : ∀ x : Int, 0 ≤ x → x < R - 1 → M x = rt (mA μ d) (mC μ d) 1 1 (R - 1).toNat x) : ∃ ν r, jit jF (fun (s : Int32 × jM) => b_X12_heard_59 Y 95 (ki d) (ki R) s.1 s.2) ((0 : Int32), μ) = some (r, ν) ∧ ((¬ (-6 ≤ L 0 ∧ L (R - 1) ≤ 6) ∧ r = ki (-3) ∧ kF 97 99 μ ν) ∨ ((-6 ≤ L 0 ∧ L (R - 1) ≤ 6) ∧ r = ki R ∧ kF 95 101 μ ν ∧ (∀ j, j ≠ 10 → ν 95 j = μ 95 j) ∧ ν 96 = μ 96 ∧ gi ν 95 10 = R ∧ (∀ x : Int, 0 ≤ x → x < R → gi ν 99 x = L x) ∧ ∀ x : Int, 0 ≤ x → x < R - 1 → gi ν 100 x = M x)) := by
  have rL : ∀ x : Int, 0 ≤ x → x < R → (∀ ν : jM, kF 95 101 μ ν → f_X12_rootOf Y 95 (ki d) (ki 0) (ki R) (ki x) (ki 1) ν = some (ki (L x), ν)) ∧ -1000 ≤ L x ∧ L x ≤ 1000 := fun x p q => by
    have q2 := (X12_rootOf hM (d := d) (fr := 0) (k := R) (i := x) (q := 1) d0 d3 hB (by omega) (by omega) (by omega) p q (by omega) (by omega)).2
    refine ⟨fun ν k => ?_, by rw [hL x p q]; omega⟩
    have hBν : kMb ν d := by
      have eA : mA ν d = mA μ d := funext fun x => k.gi (by omega) _
      have eC : mC ν d = mC μ d := funext fun x => k.gi (by omega) _
      unfold kMb
      rw [eA, eC, k.gi (by omega)]
      exact hB
    have e := (X12_rootOf (hM.to k) (d := d) (fr := 0) (k := R) (i := x) (q := 1) d0 d3 hBν (by omega) (by omega) (by rw [k.gi (by omega)]; omega) p q (by omega) (by omega)).1
    rw [show mA ν d = mA μ d from funext fun x => k.gi (by omega) _, show mC ν d = mC μ d from funext fun x => k.gi (by omega) _, ← hL x p q] at e
    exact e
  have rM : ∀ x : Int, 0 ≤ x → x < R - 1 → (∀ ν : jM, kF 95 101 μ ν → f_X12_rootOf Y 95 (ki d) (ki 1) (ki (R - 1)) (ki x) (ki 1) ν = some (ki (M x), ν)) ∧ -1000 ≤ M x ∧ M x ≤ 1000 := fun x p q => by
    have q2 := (X12_rootOf hM (d := d) (fr := 1) (k := R - 1) (i := x) (q := 1) d0 d3 hB (by omega) (by omega) (by omega) p q (by omega) (by omega)).2
    refine ⟨fun ν k => ?_, by rw [hM' x p q]; omega⟩
    have hBν : kMb ν d := by
      have eA : mA ν d = mA μ d := funext fun x => k.gi (by omega) _
      have eC : mC ν d = mC μ d := funext fun x => k.gi (by omega) _
      unfold kMb
      rw [eA, eC, k.gi (by omega)]
      exact hB
    have e := (X12_rootOf (hM.to k) (d := d) (fr := 1) (k := R - 1) (i := x) (q := 1) d0 d3 hBν (by omega) (by omega) (by rw [k.gi (by omega)]; omega) p q (by omega) (by omega)).1
    rw [show mA ν d = mA μ d from funext fun x => k.gi (by omega) _, show mC ν d = mC μ d from funext fun x => k.gi (by omega) _, ← hM' x p q] at e
    exact e
  have s4 : ∀ ξ : jM, kF 95 101 μ ξ → (∀ x : Int, 0 ≤ x → x < R - 1 → gi ξ 98 x = M x) → ∃ ν, jit jF (fun (s : Int32 × jM) => b_X12_heard_176 Y 95 (ki R) s.1 s.2) ((0 : Int32), ξ) = some (ki R, ν) ∧ kF 100 101 ξ ν ∧ ∀ x : Int, 0 ≤ x → x < R - 1 → gi ν 100 x = M x := by
    intro ξ k hx
    have hMx := hM.to k
    have W := wr_all (kM.a100 hMx) (g := M) (c := R - 1) (by show R - 1 ≤ ((3 : Nat) : Int); omega) (fun x p q => (rM x p q).2)
    refine ⟨wr ξ 100 0 M (R - 1).toNat, ?_, (W _ (by omega)).1, fun x a b => by rw [(W _ (by omega)).2 x a, if_pos (by omega)]⟩
    refine jit_run (fun i => (ki i, wr ξ 100 0 M i)) _ (R - 1).toNat rfl (by omega) (fun i hi => ?_) ?_
    · have w1 := (W i (by omega)).1
      simp only [wr]
      generalize wr ξ 100 0 M i = ν at *
      have t1 := hMx.to w1
      have e1 := kaI (kM.a98 t1) (x := (i : Int)) (by omega) (by omega)
      rw [w1.gi (by omega), hx i (by omega) (by omega)] at e1
      have e2 := fun v => kasI (v := v) (kM.a100 t1) (x := (i : Int)) (by omega) (by omega)
      simp (disch := omega) only [b_X12_heard_176, kM.o12 t1, kM.o7 t1, e1, e2, ki_0, ki_1, ki_2, ki_3, ki_4, ki_5, ki_6, ki_7, ki_8, ki_9, ki_10, ki_11, ki_12, ki_13, ki_18, ki_20, ki_24, ki_32, ki_36, ki_45, ki_47, ki_48, ki_50, ki_57, ki_60, ki_63, ki_99, ki_100, ki_101, ki_120, ki_255, ki_468, ki_1000, ki_1024, ki_13849, ki_25173, ki_65535, ki_65536, ki_100000, ki_100001, ki_2147483647, ki_2147483648, kl_0, kl_1, kl_2, kl_9223372036854775808, ki_add, ki_sub, ki_mul, ki_neg, kl_add, kl_sub, kl_mul, kl_neg, ki_i2l, kl_l2i, ki_lt, ki_le, ki_eq, kcmp_eq, kcmp_lt, kcmp_le, kcmp_gt, kcmp_ge, Option.bind_some, Option.map_some, kbool0, kbool1, if_pos, if_neg, if_true, if_false, Int.neg_neg, Int.sub_zero, Int.add_zero, Int.zero_add, true_and, and_true, false_and, and_false, false_or, or_false, true_or, or_true, ne_eq, not_false_eq_true, not_true_eq_false, Int.natCast_add, Int.natCast_one, Int.toNat_natCast, Nat.zero_add]
    · simp (disch := omega) only [b_X12_heard_176, ki_0, ki_1, ki_2, ki_3, ki_4, ki_5, ki_6, ki_7, ki_8, ki_9, ki_10, ki_11, ki_12, ki_13, ki_18, ki_20, ki_24, ki_32, ki_36, ki_45, ki_47, ki_48, ki_50, ki_57, ki_60, ki_63, ki_99, ki_100, ki_101, ki_120, ki_255, ki_468, ki_1000, ki_1024, ki_13849, ki_25173, ki_65535, ki_65536, ki_100000, ki_100001, ki_2147483647, ki_2147483648, kl_0, kl_1, kl_2, kl_9223372036854775808, ki_add, ki_sub, ki_mul, ki_neg, kl_add, kl_sub, kl_mul, kl_neg, ki_i2l, kl_l2i, ki_lt, ki_le, ki_eq, kcmp_eq, kcmp_lt, kcmp_le, kcmp_gt, kcmp_ge, Option.bind_some, Option.map_some, kbool0, kbool1, if_pos, if_neg, if_true, if_false, Int.neg_neg, Int.sub_zero, Int.add_zero, Int.zero_add, true_and, and_true, false_and, and_false, false_or, or_false, true_or, or_true, ne_eq, not_false_eq_true, not_true_eq_false]
  have s3 : ∀ ξ : jM, kF 95 101 μ ξ → (∀ x : Int, 0 ≤ x → x < R → gi ξ 97 x = L x) → (∀ x : Int, 0 ≤ x → x < R - 1 → gi ξ 98 x = M x) → ∃ ν, jit jF (fun (s : Int32 × jM) => b_X12_heard_151 Y 95 (ki R) s.1 s.2) ((0 : Int32), ξ) = some (ki R, ν) ∧ kF 99 101 ξ ν ∧ (∀ x : Int, 0 ≤ x → x < R → gi ν 99 x = L x) ∧ ∀ x : Int, 0 ≤ x → x < R - 1 → gi ν 100 x = M x := by
    intro ξ k hy hx
    have hMx := hM.to k
    have W := wr_all (kM.a99 hMx) (g := L) (c := R) (by show R ≤ ((4 : Nat) : Int); omega) (fun x p q => (rL x p q).2)
    have w1 := (W R.toNat (by omega)).1
    have w2 := (W R.toNat (by omega)).2
    obtain ⟨ν, f1, f2, f3⟩ := s4 (wr ξ 99 0 L R.toNat) (k.trans (w1.mono (by omega) (by omega))) (fun x a b => by rw [w1.gi (by omega)]; exact hx x a b)
    refine ⟨ν, ?_, (w1.mono (by omega) (by omega)).trans (f2.mono (by omega) (by omega)), fun x a b => by rw [f2.gi (by omega), w2 x a, if_pos (by omega)], f3⟩
    refine jit_run (fun i => (ki i, wr ξ 99 0 L i)) _ R.toNat rfl (by omega) (fun i hi => ?_) ?_
    · have w1 := (W i (by omega)).1
      simp only [wr]
      generalize wr ξ 99 0 L i = ν at *
      have t1 := hMx.to w1
      have e1 := kaI (kM.a97 t1) (x := (i : Int)) (by omega) (by omega)
      rw [w1.gi (by omega), hy i (by omega) (by omega)] at e1
      have e2 := fun v => kasI (v := v) (kM.a99 t1) (x := (i : Int)) (by omega) (by omega)
      simp (disch := omega) only [b_X12_heard_151, kM.o11 t1, kM.o6 t1, e1, e2, ki_0, ki_1, ki_2, ki_3, ki_4, ki_5, ki_6, ki_7, ki_8, ki_9, ki_10, ki_11, ki_12, ki_13, ki_18, ki_20, ki_24, ki_32, ki_36, ki_45, ki_47, ki_48, ki_50, ki_57, ki_60, ki_63, ki_99, ki_100, ki_101, ki_120, ki_255, ki_468, ki_1000, ki_1024, ki_13849, ki_25173, ki_65535, ki_65536, ki_100000, ki_100001, ki_2147483647, ki_2147483648, kl_0, kl_1, kl_2, kl_9223372036854775808, ki_add, ki_sub, ki_mul, ki_neg, kl_add, kl_sub, kl_mul, kl_neg, ki_i2l, kl_l2i, ki_lt, ki_le, ki_eq, kcmp_eq, kcmp_lt, kcmp_le, kcmp_gt, kcmp_ge, Option.bind_some, Option.map_some, kbool0, kbool1, if_pos, if_neg, if_true, if_false, Int.neg_neg, Int.sub_zero, Int.add_zero, Int.zero_add, true_and, and_true, false_and, and_false, false_or, or_false, true_or, or_true, ne_eq, not_false_eq_true, not_true_eq_false, Int.natCast_add, Int.natCast_one, Int.toNat_natCast, Nat.zero_add]
    · generalize wr ξ 99 0 L R.toNat = η at *
      have e : b_X12_heard_151 Y 95 (ki R) (ki (R.toNat : Int)) η = (jit jF (fun (s : Int32 × jM) => b_X12_heard_176 Y 95 (ki R) s.1 s.2) ((0 : Int32), η)).map (fun r => (.inr r)) := by
        simp (disch := omega) only [b_X12_heard_151, ki_0, ki_1, ki_2, ki_3, ki_4, ki_5, ki_6, ki_7, ki_8, ki_9, ki_10, ki_11, ki_12, ki_13, ki_18, ki_20, ki_24, ki_32, ki_36, ki_45, ki_47, ki_48, ki_50, ki_57, ki_60, ki_63, ki_99, ki_100, ki_101, ki_120, ki_255, ki_468, ki_1000, ki_1024, ki_13849, ki_25173, ki_65535, ki_65536, ki_100000, ki_100001, ki_2147483647, ki_2147483648, kl_0, kl_1, kl_2, kl_9223372036854775808, ki_add, ki_sub, ki_mul, ki_neg, kl_add, kl_sub, kl_mul, kl_neg, ki_i2l, kl_l2i, ki_lt, ki_le, ki_eq, kcmp_eq, kcmp_lt, kcmp_le, kcmp_gt, kcmp_ge, Option.bind_some, Option.map_some, kbool0, kbool1, if_pos, if_neg, if_true, if_false, Int.neg_neg, Int.sub_zero, Int.add_zero, Int.zero_add, true_and, and_true, false_and, and_false, false_or, or_false, true_or, or_true, ne_eq, not_false_eq_true, not_true_eq_false]
      simp only [e, f1]
      rfl
  have s2 : ∀ ξ : jM, kF 97 98 μ ξ → (∀ x : Int, 0 ≤ x → x < R → gi ξ 97 x = L x) → ∃ ν r, jit jF (fun (s : Int32 × jM) => b_X12_heard_87 Y 95 (ki d) (ki R) s.1 s.2) ((0 : Int32), ξ) = some (r, ν) ∧ ((¬ (-6 ≤ L 0 ∧ L (R - 1) ≤ 6) ∧ r = ki (-3) ∧ kF 97 99 μ ν) ∨ ((-6 ≤ L 0 ∧ L (R - 1) ≤ 6) ∧ r = ki R ∧ kF 95 101 μ ν ∧ (∀ j, j ≠ 10 → ν 95 j = μ 95 j) ∧ ν 96 = μ 96 ∧ gi ν 95 10 = R ∧ (∀ x : Int, 0 ≤ x → x < R → gi ν 99 x = L x) ∧ ∀ x : Int, 0 ≤ x → x < R - 1 → gi ν 100 x = M x)) := by
    intro ξ k hy
    have hMx := hM.to k
    have W := wr_all (kM.a98 hMx) (g := M) (c := R - 1) (by show R - 1 ≤ ((4 : Nat) : Int); omega) (fun x p q => (rM x p q).2)
    have w1 := (W (R - 1).toNat (by omega)).1
    have w2 := (W (R - 1).toNat (by omega)).2
    have run : ∀ (rr : Int32 × jM), b_X12_heard_87 Y 95 (ki d) (ki R) (ki ((R - 1).toNat : Int)) (wr ξ 98 0 M (R - 1).toNat) = some (.inr rr) → jit jF (fun (s : Int32 × jM) => b_X12_heard_87 Y 95 (ki d) (ki R) s.1 s.2) ((0 : Int32), ξ) = some rr := by
      intro rr hrr
      refine jit_run (fun i => (ki i, wr ξ 98 0 M i)) _ (R - 1).toNat rfl (by omega) (fun i hi => ?_) hrr
      have w1 := (W i (by omega)).1
      simp only [wr]
      generalize wr ξ 98 0 M i = ν at *
      have t1 := hMx.to w1
      have e1 := (rM i (by omega) (by omega)).1 ν ((k.mono (by omega) (by omega)).trans (w1.mono (by omega) (by omega)))
      have e2 := fun v => kasI (v := v) (kM.a98 t1) (x := (i : Int)) (by omega) (by omega)
      simp (disch := omega) only [b_X12_heard_87, kM.o7 t1, krcv (kM.y hM), e1, e2, ki_0, ki_1, ki_2, ki_3, ki_4, ki_5, ki_6, ki_7, ki_8, ki_9, ki_10, ki_11, ki_12, ki_13, ki_18, ki_20, ki_24, ki_32, ki_36, ki_45, ki_47, ki_48, ki_50, ki_57, ki_60, ki_63, ki_99, ki_100, ki_101, ki_120, ki_255, ki_468, ki_1000, ki_1024, ki_13849, ki_25173, ki_65535, ki_65536, ki_100000, ki_100001, ki_2147483647, ki_2147483648, kl_0, kl_1, kl_2, kl_9223372036854775808, ki_add, ki_sub, ki_mul, ki_neg, kl_add, kl_sub, kl_mul, kl_neg, ki_i2l, kl_l2i, ki_lt, ki_le, ki_eq, kcmp_eq, kcmp_lt, kcmp_le, kcmp_gt, kcmp_ge, Option.bind_some, Option.map_some, kbool0, kbool1, if_pos, if_neg, if_true, if_false, Int.neg_neg, Int.sub_zero, Int.add_zero, Int.zero_add, true_and, and_true, false_and, and_false, false_or, or_false, true_or, or_true, ne_eq, not_false_eq_true, not_true_eq_false, Int.natCast_add, Int.natCast_one, Int.toNat_natCast, Nat.zero_add]
    have k2 : kF 97 99 μ (wr ξ 98 0 M (R - 1).toNat) := (k.mono (by omega) (by omega)).trans (w1.mono (by omega) (by omega))
    have l0 := (rL 0 (by omega) (by omega)).2
    have l1 := (rL (R - 1) (by omega) (by omega)).2
    generalize hη : wr ξ 98 0 M (R - 1).toNat = η at *
    have hMη := hM.to k2
    have p1 := kaI (kM.a97 hMη) (x := 0) (by omega) (by omega)
    have p2 := kaI (kM.a97 hMη) (x := R - 1) (by omega) (by omega)
    rw [w1.gi (by omega), hy _ (by omega) (by omega)] at p1 p2
    by_cases c : -6 ≤ L 0 ∧ L (R - 1) ≤ 6
    · have k3 : kF 95 96 η (jw η 95 10 (.int (ki R))) := kF_I hMη.i10 (by omega) (by omega)
      have pp := fun v => kM.p hMη (μ' := η) (k := 10) (v := v)
      have kk : kF 95 101 μ (jw η 95 10 (.int (ki R))) := (k2.mono (by omega) (by omega)).trans (k3.mono (by omega) (by omega))
      obtain ⟨ν, f1, f2, f3, f4⟩ := s3 (jw η 95 10 (.int (ki R))) kk (fun x a b => by rw [k3.gi (by omega), w1.gi (by omega)]; exact hy x a b) (fun x a b => by rw [k3.gi (by omega), w2 x a, if_pos (by omega)])
      refine ⟨ν, ki R, run (ki R, ν) ?_, Or.inr ⟨c, rfl, kk.trans (f2.mono (by omega) (by omega)), fun j hj => ?_, ?_, ?_, f3, f4⟩⟩
      · have e : b_X12_heard_87 Y 95 (ki d) (ki R) (ki ((R - 1).toNat : Int)) η = (jit jF (fun (s : Int32 × jM) => b_X12_heard_151 Y 95 (ki R) s.1 s.2) ((0 : Int32), jw η 95 10 (.int (ki R)))).map (fun r => (.inr r)) := by
          simp (disch := omega) only [b_X12_heard_87, kM.o6 hMη, p1, p2, pp, ki_0, ki_1, ki_2, ki_3, ki_4, ki_5, ki_6, ki_7, ki_8, ki_9, ki_10, ki_11, ki_12, ki_13, ki_18, ki_20, ki_24, ki_32, ki_36, ki_45, ki_47, ki_48, ki_50, ki_57, ki_60, ki_63, ki_99, ki_100, ki_101, ki_120, ki_255, ki_468, ki_1000, ki_1024, ki_13849, ki_25173, ki_65535, ki_65536, ki_100000, ki_100001, ki_2147483647, ki_2147483648, kl_0, kl_1, kl_2, kl_9223372036854775808, ki_add, ki_sub, ki_mul, ki_neg, kl_add, kl_sub, kl_mul, kl_neg, ki_i2l, kl_l2i, ki_lt, ki_le, ki_eq, kcmp_eq, kcmp_lt, kcmp_le, kcmp_gt, kcmp_ge, Option.bind_some, Option.map_some, kbool0, kbool1, if_pos, if_neg, if_true, if_false, Int.neg_neg, Int.sub_zero, Int.add_zero, Int.zero_add, true_and, and_true, false_and, and_false, false_or, or_false, true_or, or_true, ne_eq, not_false_eq_true, not_true_eq_false]
        simp only [e, f1]
        rfl
      · rw [f2.1 95 (by omega), jw_ne _ _ (by omega), k2.1 95 (by omega)]
      · rw [f2.1 96 (by omega), k3.1 96 (by omega), k2.1 96 (by omega)]
      · rw [f2.gi (by omega), gi_jw _ _ (by omega) (by omega), if_pos ⟨rfl, rfl⟩]
    · refine ⟨η, ki (-3), run (ki (-3), η) ?_, Or.inl ⟨c, rfl, k2⟩⟩
      by_cases c1 : -6 ≤ L 0
      · simp (disch := omega) only [b_X12_heard_87, b_X12_heard_141, kM.o6 hMη, p1, p2, ki_0, ki_1, ki_2, ki_3, ki_4, ki_5, ki_6, ki_7, ki_8, ki_9, ki_10, ki_11, ki_12, ki_13, ki_18, ki_20, ki_24, ki_32, ki_36, ki_45, ki_47, ki_48, ki_50, ki_57, ki_60, ki_63, ki_99, ki_100, ki_101, ki_120, ki_255, ki_468, ki_1000, ki_1024, ki_13849, ki_25173, ki_65535, ki_65536, ki_100000, ki_100001, ki_2147483647, ki_2147483648, kl_0, kl_1, kl_2, kl_9223372036854775808, ki_add, ki_sub, ki_mul, ki_neg, kl_add, kl_sub, kl_mul, kl_neg, ki_i2l, kl_l2i, ki_lt, ki_le, ki_eq, kcmp_eq, kcmp_lt, kcmp_le, kcmp_gt, kcmp_ge, Option.bind_some, Option.map_some, kbool0, kbool1, if_pos, if_neg, if_true, if_false, Int.neg_neg, Int.sub_zero, Int.add_zero, Int.zero_add, true_and, and_true, false_and, and_false, false_or, or_false, true_or, or_true, ne_eq, not_false_eq_true, not_true_eq_false]
      · simp (disch := omega) only [b_X12_heard_87, b_X12_heard_141, kM.o6 hMη, p1, p2, ki_0, ki_1, ki_2, ki_3, ki_4, ki_5, ki_6, ki_7, ki_8, ki_9, ki_10, ki_11, ki_12, ki_13, ki_18, ki_20, ki_24, ki_32, ki_36, ki_45, ki_47, ki_48, ki_50, ki_57, ki_60, ki_63, ki_99, ki_100, ki_101, ki_120, ki_255, ki_468, ki_1000, ki_1024, ki_13849, ki_25173, ki_65535, ki_65536, ki_100000, ki_100001, ki_2147483647, ki_2147483648, kl_0, kl_1, kl_2, kl_9223372036854775808, ki_add, ki_sub, ki_mul, ki_neg, kl_add, kl_sub, kl_mul, kl_neg, ki_i2l, kl_l2i, ki_lt, ki_le, ki_eq, kcmp_eq, kcmp_lt, kcmp_le, kcmp_gt, kcmp_ge, Option.bind_some, Option.map_some, kbool0, kbool1, if_pos, if_neg, if_true, if_false, Int.neg_neg, Int.sub_zero, Int.add_zero, Int.zero_add, true_and, and_true, false_and, and_false, false_or, or_false, true_or, or_true, ne_eq, not_false_eq_true, not_true_eq_false]
  have W := wr_all (kM.a97 hM) (g := L) (c := R) (by show R ≤ ((5 : Nat) : Int); omega) (fun x p q => (rL x p q).2)
  have w1 := (W R.toNat (by omega)).1
  have w2 := (W R.toNat (by omega)).2
  obtain ⟨ν, r, f1, f2⟩ := s2 (wr μ 97 0 L R.toNat) w1 (fun x a b => by rw [w2 x a, if_pos (by omega)])
  refine ⟨ν, r, ?_, f2⟩
  refine jit_run (fun i => (ki i, wr μ 97 0 L i)) _ R.toNat rfl (by omega) (fun i hi => ?_) ?_
  · have w1 := (W i (by omega)).1
    simp only [wr]
    generalize wr μ 97 0 L i = ν at *
    have t1 := hM.to w1
    have e1 := (rL i (by omega) (by omega)).1 ν (w1.mono (by omega) (by omega))
    have e2 := fun v => kasI (v := v) (kM.a97 t1) (x := (i : Int)) (by omega) (by omega)
    simp (disch := omega) only [b_X12_heard_59, kM.o6 t1, krcv (kM.y hM), e1, e2, ki_0, ki_1, ki_2, ki_3, ki_4, ki_5, ki_6, ki_7, ki_8, ki_9, ki_10, ki_11, ki_12, ki_13, ki_18, ki_20, ki_24, ki_32, ki_36, ki_45, ki_47, ki_48, ki_50, ki_57, ki_60, ki_63, ki_99, ki_100, ki_101, ki_120, ki_255, ki_468, ki_1000, ki_1024, ki_13849, ki_25173, ki_65535, ki_65536, ki_100000, ki_100001, ki_2147483647, ki_2147483648, kl_0, kl_1, kl_2, kl_9223372036854775808, ki_add, ki_sub, ki_mul, ki_neg, kl_add, kl_sub, kl_mul, kl_neg, ki_i2l, kl_l2i, ki_lt, ki_le, ki_eq, kcmp_eq, kcmp_lt, kcmp_le, kcmp_gt, kcmp_ge, Option.bind_some, Option.map_some, kbool0, kbool1, if_pos, if_neg, if_true, if_false, Int.neg_neg, Int.sub_zero, Int.add_zero, Int.zero_add, true_and, and_true, false_and, and_false, false_or, or_false, true_or, or_true, ne_eq, not_false_eq_true, not_true_eq_false, Int.natCast_add, Int.natCast_one, Int.toNat_natCast, Nat.zero_add]
  · generalize wr μ 97 0 L R.toNat = η at *
    have e : b_X12_heard_59 Y 95 (ki d) (ki R) (ki (R.toNat : Int)) η = (jit jF (fun (s : Int32 × jM) => b_X12_heard_87 Y 95 (ki d) (ki R) s.1 s.2) ((0 : Int32), η)).map (fun r => (.inr r)) := by
      simp (disch := omega) only [b_X12_heard_59, ki_0, ki_1, ki_2, ki_3, ki_4, ki_5, ki_6, ki_7, ki_8, ki_9, ki_10, ki_11, ki_12, ki_13, ki_18, ki_20, ki_24, ki_32, ki_36, ki_45, ki_47, ki_48, ki_50, ki_57, ki_60, ki_63, ki_99, ki_100, ki_101, ki_120, ki_255, ki_468, ki_1000, ki_1024, ki_13849, ki_25173, ki_65535, ki_65536, ki_100000, ki_100001, ki_2147483647, ki_2147483648, kl_0, kl_1, kl_2, kl_9223372036854775808, ki_add, ki_sub, ki_mul, ki_neg, kl_add, kl_sub, kl_mul, kl_neg, ki_i2l, kl_l2i, ki_lt, ki_le, ki_eq, kcmp_eq, kcmp_lt, kcmp_le, kcmp_gt, kcmp_ge, Option.bind_some, Option.map_some, kbool0, kbool1, if_pos, if_neg, if_true, if_false, Int.neg_neg, Int.sub_zero, Int.add_zero, Int.zero_add, true_and, and_true, false_and, and_false, false_or, or_false, true_or, or_true, ne_eq, not_false_eq_true, not_true_eq_false]
    simp only [e, f1]
    rfl
