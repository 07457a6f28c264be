/-! OPS: heard, both -/
theorem kP.of_row {μ ν : jM} (h : kF 97 99 μ ν) : kP μ ν := ⟨h.mono (by omega) (by omega), fun i hi => h.1 i (by unfold pers at hi; omega), by rw [h.1 95 (by omega)], by rw [h.1 95 (by omega)], by rw [h.1 95 (by omega)]⟩
/-- all whole, within 6: so many of these -/
theorem near_all {A C : Int → Int} {fr : Int} {k : Nat} (hA : ∀ x, fr ≤ x → x < fr + k → -6 ≤ A x ∧ A x ≤ 6) (hC : ∀ x, fr ≤ x → x < fr + k - 1 → 1 ≤ C x ∧ C x ≤ 36) (h : zc A C fr k 41 = k) (h0 : 0 < k → -6 ≤ rt A C 1 fr k 0) (h1 : 0 < k → rt A C 1 fr k (k - 1) ≤ 6) : zc A C fr k 27 - zc A C fr k 14 = k := by
  by_cases hk : 0 < k
  · have z14 : zc A C fr k 14 = 0 := by
      by_cases e : 0 < zc A C fr k 14
      · obtain ⟨v, v1, v2, v3⟩ := zc_at A C fr k 14 0 (by omega) e
        have := root_is hk hA hC h (v := v) (by omega) v3
        rw [v2] at this
        have := h0 hk
        omega
      · have := zc_up A C fr k 0 14
        rw [show 0 + 14 = 14 by omega] at this
        have z0 : zc A C fr k 0 = 0 := rfl
        omega
    obtain ⟨v, v1, v2, v3, v4, v5⟩ := full_rt hk hA hC h (j := (k : Int) - 1) (by omega) (by omega)
    have b := h1 hk
    have u := zc_up A C fr k (v + 1) (27 - (v + 1))
    rw [show v + 1 + (27 - (v + 1)) = 27 by omega, zc_succ, if_pos v3] at u
    have c := zc_cap hk (fun x a b => (hC x a b).1) 0 27 (A := A) (C := C)
    rw [show 0 + 27 = 27 by omega] at c
    have z0 : zc A C fr k 0 = 0 := rfl
    omega
  · have : k = 0 := by omega
    subst this
    rw [zc_none, zc_none]
    rfl
theorem near_full {A C : Int → Int} {fr : Int} {k : Nat} (hC : ∀ x, fr ≤ x → x < fr + k - 1 → 1 ≤ C x) (h : zc A C fr k 27 - zc A C fr k 14 = k) : zc A C fr k 41 = k ∧ zc A C fr k 14 = 0 := by
  by_cases hk : 0 < k
  · have c := zc_cap hk hC 0 41 (A := A)
    have u1 := zc_up A C fr k 0 14
    have u2 := zc_up A C fr k 27 14
    rw [show 0 + 14 = 14 by omega] at u1
    rw [show 0 + 41 = 41 by omega] at c
    rw [show 27 + 14 = 41 by omega] at u2
    have z0 : zc A C fr k 0 = 0 := rfl
    omega
  · have : k = 0 := by omega
    subst this
    rw [zc_none, zc_none]
    exact ⟨rfl, rfl⟩
set_option maxHeartbeats 2000000 in
theorem ok_heard {L : Nat} {xs : Nat → Int32} {n : Nat} {Y : jY} {μ : jM} (h : Inv L xs n Y μ) : so_heard (Inv L xs) n Y μ := by
  have hX := h.x
  have hM := h.m
  intro a1
  obtain ⟨d, d1, d2, rfl⟩ := ki_is a1
  by_cases hd : 0 ≤ d ∧ d ≤ 3
  · obtain ⟨hT, hB, hMB, hR, hA, hC⟩ := h.d hd.1 hd.2; have hR0 := hMB.1; have hR5 := hMB.2.1
    by_cases hz : gi μ 108 d = 0
    · refine ⟨(ki (-2), μ), (ki (-2), μ), ?_, fun _ => rfl, ?_, rfl, h⟩ <;> simp (disch := omega) only [f_X11_heard, f_X12_heard, b_X12_heard_54, krcv (kX.y1 hX), kX.o1_3 hX, kS.gd (kX.now hX), kS.gt (kX.now hX), X11_within, X11_isDrawer, f_X11_isFilled, b_X11_isFilled_27, b_X11_isFilled_26, f_X11_isRow, b_X11_isRow_35, b_X11_isRow_34, f_X11_isPart, b_X11_isPart_14, b_X11_isPart_9, krcv (kM.y hM), kM.o26 hM, kaI (kM.a108 hM), X12_in, X12_isDrawer, kT.gr hT, krcv hT.y, hR, ki_0, ki_1, ki_2, ki_3, ki_4, ki_5, ki_6, ki_7, ki_8, ki_9, ki_10, ki_11, ki_12, ki_13, ki_18, ki_20, ki_24, ki_32, ki_36, ki_45, ki_47, ki_48, ki_50, ki_57, ki_60, ki_63, ki_99, ki_100, ki_101, ki_120, ki_255, ki_468, ki_1000, ki_1024, ki_13849, ki_25173, ki_65535, ki_65536, ki_100000, ki_100001, ki_2147483647, ki_2147483648, kl_0, kl_1, kl_2, kl_9223372036854775808, ki_add, ki_sub, ki_mul, ki_neg, kl_add, kl_sub, kl_mul, kl_neg, ki_i2l, kl_l2i, ki_lt, ki_le, ki_eq, kcmp_eq, kcmp_lt, kcmp_le, kcmp_gt, kcmp_ge, Option.bind_some, Option.map_some, kbool0, kbool1, if_pos, if_neg, if_true, if_false, Int.neg_neg, Int.sub_zero, Int.add_zero, Int.zero_add, true_and, and_true, false_and, and_false, false_or, or_false, true_or, or_true, ne_eq, not_false_eq_true, not_true_eq_false]
    · have T := X9_hear hX hT hB (by omega) (R := gi μ 108 d) (A := mA μ d) (C := mC μ d) hR (by omega) hA hC
      have hAm := hMB.2.2.1
      have hCm := hMB.2.2.2
      have fail : ∀ ν : jM, kF 91 94 μ ν → f_X9_hear Y 91 (9 + 5 + 3 * d.toNat) μ = some (ki 0, ν) → ¬ (gi μ 108 d ≤ 4 ∧ zc (mA μ d) (mC μ d) 0 (gi μ 108 d).toNat 27 - zc (mA μ d) (mC μ d) 0 (gi μ 108 d).toNat 14 = gi μ 108 d ∧ zc (mA μ d) (mC μ d) 1 (gi μ 108 d - 1).toNat 27 - zc (mA μ d) (mC μ d) 1 (gi μ 108 d - 1).toNat 14 = gi μ 108 d - 1) → ∃ (z1 z2 : Int32 × jM), f_X11_heard Y 1 (ki d) μ = some z1 ∧ (∀ j, z1.2 0 j = μ 0 j) ∧ f_X12_heard Y 95 (ki d) z1.2 = some z2 ∧ z1.1 = z2.1 ∧ Inv L xs n Y z2.2 := by
        intro ν k c nS
        have hM1 := hM.to k
        have g1 := kaI (kM.a108 hM1) (x := d) (by omega) (by omega)
        rw [k.gi (by omega)] at g1
        have fin1 : f_X11_heard Y 1 (ki d) μ = some (ki (-3), ν) := by
          simp (disch := omega) only [f_X11_heard, krcv (kX.y1 hX), kX.o1_3 hX, kS.gd (kX.now hX), kS.gt (kX.now hX), X11_within, X11_isDrawer, f_X11_isFilled, b_X11_isFilled_27, b_X11_isFilled_26, f_X11_isRow, b_X11_isRow_35, b_X11_isRow_34, f_X11_isPart, b_X11_isPart_14, b_X11_isPart_9, kX.o1_11 hX, krcv (kN.y hX.n91), kT.gr hT, hR, c, ki_0, ki_1, ki_2, ki_3, ki_4, ki_5, ki_6, ki_7, ki_8, ki_9, ki_10, ki_11, ki_12, ki_13, ki_18, ki_20, ki_24, ki_32, ki_36, ki_45, ki_47, ki_48, ki_50, ki_57, ki_60, ki_63, ki_99, ki_100, ki_101, ki_120, ki_255, ki_468, ki_1000, ki_1024, ki_13849, ki_25173, ki_65535, ki_65536, ki_100000, ki_100001, ki_2147483647, ki_2147483648, kl_0, kl_1, kl_2, kl_9223372036854775808, ki_add, ki_sub, ki_mul, ki_neg, kl_add, kl_sub, kl_mul, kl_neg, ki_i2l, kl_l2i, ki_lt, ki_le, ki_eq, kcmp_eq, kcmp_lt, kcmp_le, kcmp_gt, kcmp_ge, Option.bind_some, Option.map_some, kbool0, kbool1, if_pos, if_neg, if_true, if_false, Int.neg_neg, Int.sub_zero, Int.add_zero, Int.zero_add, true_and, and_true, false_and, and_false, false_or, or_false, true_or, or_true, ne_eq, not_false_eq_true, not_true_eq_false]
        have h0 : ∀ j, ν 0 j = μ 0 j := fun j => congrFun (k.1 0 (by omega)) j
        have eA : mA ν d = mA μ d := funext fun x => k.gi (by omega) _
        have eC : mC ν d = mC μ d := funext fun x => k.gi (by omega) _
        have hBν : kMb ν d := by
          unfold kMb
          rw [eA, eC, k.gi (by omega)]
          exact hMB
        by_cases h4 : gi μ 108 d ≤ 4
        · have q0 := X12_wholeOf hM1 (d := d) (fr := 0) (k := gi μ 108 d) hd.1 hd.2 hBν (by omega) (by omega) (by rw [k.gi (by omega)]; omega)
          have q1 := X12_wholeOf hM1 (d := d) (fr := 1) (k := gi μ 108 d - 1) hd.1 hd.2 hBν (by omega) (by omega) (by rw [k.gi (by omega)]; omega)
          rw [eA, eC] at q0 q1
          have cp0 := zc_cap (A := mA μ d) (C := mC μ d) (fr := 0) (k := (gi μ 108 d).toNat) (by omega) (fun x a b => (hCm x a (by omega)).1) 0 41
          have zz : zc (mA μ d) (mC μ d) 0 (gi μ 108 d).toNat 0 = 0 := rfl
          have zz1 : zc (mA μ d) (mC μ d) 1 (gi μ 108 d - 1).toNat 0 = 0 := rfl
          have n0 := zc_rng (mA μ d) (mC μ d) 0 (gi μ 108 d).toNat 41
          have n1 := zc_rng (mA μ d) (mC μ d) 1 (gi μ 108 d - 1).toNat 41
          rw [show 0 + 41 = 41 by omega] at cp0
          by_cases w0 : zc (mA μ d) (mC μ d) 0 (gi μ 108 d).toNat 41 < gi μ 108 d
          · refine ⟨(ki (-3), ν), (ki (-3), ν), fin1, h0, ?_, rfl, h.to (kP.of_rows (k.mono (by omega) (by omega)))⟩
            generalize zc (mA μ d) (mC μ d) 0 (gi μ 108 d).toNat 41 = w at *
            simp (disch := omega) only [f_X11_heard, f_X12_heard, b_X12_heard_54, X12_in, X12_isDrawer, krcv (kM.y hM), kM.o26 hM1, g1, q0, ki_0, ki_1, ki_2, ki_3, ki_4, ki_5, ki_6, ki_7, ki_8, ki_9, ki_10, ki_11, ki_12, ki_13, ki_18, ki_20, ki_24, ki_32, ki_36, ki_45, ki_47, ki_48, ki_50, ki_57, ki_60, ki_63, ki_99, ki_100, ki_101, ki_120, ki_255, ki_468, ki_1000, ki_1024, ki_13849, ki_25173, ki_65535, ki_65536, ki_100000, ki_100001, ki_2147483647, ki_2147483648, kl_0, kl_1, kl_2, kl_9223372036854775808, ki_add, ki_sub, ki_mul, ki_neg, kl_add, kl_sub, kl_mul, kl_neg, ki_i2l, kl_l2i, ki_lt, ki_le, ki_eq, kcmp_eq, kcmp_lt, kcmp_le, kcmp_gt, kcmp_ge, Option.bind_some, Option.map_some, kbool0, kbool1, if_pos, if_neg, if_true, if_false, Int.neg_neg, Int.sub_zero, Int.add_zero, Int.zero_add, true_and, and_true, false_and, and_false, false_or, or_false, true_or, or_true, ne_eq, not_false_eq_true, not_true_eq_false]
          · by_cases w1 : zc (mA μ d) (mC μ d) 1 (gi μ 108 d - 1).toNat 41 < gi μ 108 d - 1
            · refine ⟨(ki (-3), ν), (ki (-3), ν), fin1, h0, ?_, rfl, h.to (kP.of_rows (k.mono (by omega) (by omega)))⟩
              generalize zc (mA μ d) (mC μ d) 0 (gi μ 108 d).toNat 41 = w at *
              generalize zc (mA μ d) (mC μ d) 1 (gi μ 108 d - 1).toNat 41 = w' at *
              simp (disch := omega) only [f_X11_heard, f_X12_heard, b_X12_heard_54, X12_in, X12_isDrawer, krcv (kM.y hM), kM.o26 hM1, g1, q0, q1, ki_0, ki_1, ki_2, ki_3, ki_4, ki_5, ki_6, ki_7, ki_8, ki_9, ki_10, ki_11, ki_12, ki_13, ki_18, ki_20, ki_24, ki_32, ki_36, ki_45, ki_47, ki_48, ki_50, ki_57, ki_60, ki_63, ki_99, ki_100, ki_101, ki_120, ki_255, ki_468, ki_1000, ki_1024, ki_13849, ki_25173, ki_65535, ki_65536, ki_100000, ki_100001, ki_2147483647, ki_2147483648, kl_0, kl_1, kl_2, kl_9223372036854775808, ki_add, ki_sub, ki_mul, ki_neg, kl_add, kl_sub, kl_mul, kl_neg, ki_i2l, kl_l2i, ki_lt, ki_le, ki_eq, kcmp_eq, kcmp_lt, kcmp_le, kcmp_gt, kcmp_ge, Option.bind_some, Option.map_some, kbool0, kbool1, if_pos, if_neg, if_true, if_false, Int.neg_neg, Int.sub_zero, Int.add_zero, Int.zero_add, true_and, and_true, false_and, and_false, false_or, or_false, true_or, or_true, ne_eq, not_false_eq_true, not_true_eq_false]
            · have f0 : zc (mA μ d) (mC μ d) 0 (gi μ 108 d).toNat 41 = ((gi μ 108 d).toNat : Int) := by omega
              have f1 : zc (mA μ d) (mC μ d) 1 (gi μ 108 d - 1).toNat 41 = ((gi μ 108 d - 1).toNat : Int) := by
                by_cases e1 : gi μ 108 d = 1
                · rw [e1]
                  exact zc_none _ _ _ _
                · have cp1 := zc_cap (A := mA μ d) (C := mC μ d) (fr := 1) (k := (gi μ 108 d - 1).toNat) (by omega) (fun x a b => (hCm x (by omega) (by omega)).1) 0 41
                  rw [show 0 + 41 = 41 by omega] at cp1
                  omega
              obtain ⟨ω, r, c2, hr⟩ := X12_heard1 hM1 (d := d) (R := gi μ 108 d) hd.1 hd.2 hBν (by rw [k.gi (by omega)]) (by omega) h4 (L := fun x => rt (mA μ d) (mC μ d) 1 0 (gi μ 108 d).toNat x) (M := fun x => rt (mA μ d) (mC μ d) 1 1 (gi μ 108 d - 1).toNat x) (fun x _ _ => by rw [eA, eC]) (fun x _ _ => by rw [eA, eC])
              have fin2 : f_X12_heard Y 95 (ki d) ν = some (r, ω) := by
                generalize zc (mA μ d) (mC μ d) 0 (gi μ 108 d).toNat 41 = w at *
                generalize zc (mA μ d) (mC μ d) 1 (gi μ 108 d - 1).toNat 41 = w' at *
                simp (disch := omega) only [f_X11_heard, f_X12_heard, b_X12_heard_54, X12_in, X12_isDrawer, krcv (kM.y hM), kM.o26 hM1, g1, q0, q1, ki_0, ki_1, ki_2, ki_3, ki_4, ki_5, ki_6, ki_7, ki_8, ki_9, ki_10, ki_11, ki_12, ki_13, ki_18, ki_20, ki_24, ki_32, ki_36, ki_45, ki_47, ki_48, ki_50, ki_57, ki_60, ki_63, ki_99, ki_100, ki_101, ki_120, ki_255, ki_468, ki_1000, ki_1024, ki_13849, ki_25173, ki_65535, ki_65536, ki_100000, ki_100001, ki_2147483647, ki_2147483648, kl_0, kl_1, kl_2, kl_9223372036854775808, ki_add, ki_sub, ki_mul, ki_neg, kl_add, kl_sub, kl_mul, kl_neg, ki_i2l, kl_l2i, ki_lt, ki_le, ki_eq, kcmp_eq, kcmp_lt, kcmp_le, kcmp_gt, kcmp_ge, Option.bind_some, Option.map_some, kbool0, kbool1, if_pos, if_neg, if_true, if_false, Int.neg_neg, Int.sub_zero, Int.add_zero, Int.zero_add, true_and, and_true, false_and, and_false, false_or, or_false, true_or, or_true, ne_eq, not_false_eq_true, not_true_eq_false]
                exact c2
              rcases hr with ⟨_, rfl, kω⟩ | ⟨⟨b1, b2⟩, _⟩
              · exact ⟨(ki (-3), ν), (ki (-3), ω), fin1, h0, fin2, rfl, h.to ((kP.of_rows (k.mono (by omega) (by omega))).trans (kP.of_row kω))⟩
              · exfalso
                refine nS ⟨h4, ?_, ?_⟩
                · have := near_all (A := mA μ d) (C := mC μ d) (fr := 0) (k := (gi μ 108 d).toNat) (fun x a b => hAm x a (by omega)) (fun x a b => hCm x a (by omega)) f0 (fun _ => b1) (fun _ => by rw [toNat_cast (by omega)]; exact b2)
                  omega
                · have := near_all (A := mA μ d) (C := mC μ d) (fr := 1) (k := (gi μ 108 d - 1).toNat) (fun x a b => hAm x (by omega) (by omega)) (fun x a b => hCm x (by omega) (by omega)) f1 (fun hk => ?_) (fun hk => ?_)
                  · omega
                  · have i1 := (il (A := mA μ d) (C := mC μ d) (n := (gi μ 108 d).toNat) (by omega) (by omega) (fun x a b => hAm x a (by omega)) (fun x a b => hCm x a (by omega)) f0 (by rw [show (gi μ 108 d).toNat - 1 = (gi μ 108 d - 1).toNat by omega]; omega) (i := 0) (by omega)).1
                    rw [show (gi μ 108 d).toNat - 1 = (gi μ 108 d - 1).toNat by omega] at i1
                    simp only [Int.natCast_zero] at i1
                    omega
                  · have i1 := (il (A := mA μ d) (C := mC μ d) (n := (gi μ 108 d).toNat) (by omega) (by omega) (fun x a b => hAm x a (by omega)) (fun x a b => hCm x a (by omega)) f0 (by rw [show (gi μ 108 d).toNat - 1 = (gi μ 108 d - 1).toNat by omega]; omega) (i := (gi μ 108 d - 2).toNat) (by omega)).2
                    rw [show (gi μ 108 d).toNat - 1 = (gi μ 108 d - 1).toNat by omega, show ((gi μ 108 d - 2).toNat : Int) + 1 = gi μ 108 d - 1 by omega, show ((gi μ 108 d - 2).toNat : Int) = ((gi μ 108 d - 1).toNat : Int) - 1 by omega] at i1
                    omega
        · refine ⟨(ki (-3), ν), (ki (-3), ν), fin1, h0, ?_, rfl, h.to (kP.of_rows (k.mono (by omega) (by omega)))⟩
          simp (disch := omega) only [f_X11_heard, f_X12_heard, b_X12_heard_54, X12_in, X12_isDrawer, kM.o26 hM1, g1, ki_0, ki_1, ki_2, ki_3, ki_4, ki_5, ki_6, ki_7, ki_8, ki_9, ki_10, ki_11, ki_12, ki_13, ki_18, ki_20, ki_24, ki_32, ki_36, ki_45, ki_47, ki_48, ki_50, ki_57, ki_60, ki_63, ki_99, ki_100, ki_101, ki_120, ki_255, ki_468, ki_1000, ki_1024, ki_13849, ki_25173, ki_65535, ki_65536, ki_100000, ki_100001, ki_2147483647, ki_2147483648, kl_0, kl_1, kl_2, kl_9223372036854775808, ki_add, ki_sub, ki_mul, ki_neg, kl_add, kl_sub, kl_mul, kl_neg, ki_i2l, kl_l2i, ki_lt, ki_le, ki_eq, kcmp_eq, kcmp_lt, kcmp_le, kcmp_gt, kcmp_ge, Option.bind_some, Option.map_some, kbool0, kbool1, if_pos, if_neg, if_true, if_false, Int.neg_neg, Int.sub_zero, Int.add_zero, Int.zero_add, true_and, and_true, false_and, and_false, false_or, or_false, true_or, or_true, ne_eq, not_false_eq_true, not_true_eq_false]
      rcases T with ⟨nS, ν, c, k⟩ | ⟨⟨h4, s0, s1⟩, ν, c, k, w0, w1, w2⟩
      · exact fail ν k c nS
      · have hM1 := hM.to k
        have hX1 := hX.to k
        obtain ⟨ν2, c2, k2, x0, x1, x2⟩ := X9_copy2 hX1.n91 hX1.n10 (by omega)
        have hX2 := hX1.to k2
        have hM2 := hM1.to k2
        have gx := kN.gr hX2.n10
        rw [x0, w0] at gx
        have k02 : kF 0 95 μ ν2 := (k.mono (by omega) (by omega)).trans (k2.mono (by omega) (by omega))
        have fin1 : f_X11_heard Y 1 (ki d) μ = some (ki (gi μ 108 d), ν2) := by
          clear s0 s1 w1 w2 fail
          simp (disch := omega) only [f_X11_heard, krcv (kX.y1 hX), kX.o1_3 hX, kS.gd (kX.now hX), kS.gt (kX.now hX), X11_within, X11_isDrawer, f_X11_isFilled, b_X11_isFilled_27, b_X11_isFilled_26, f_X11_isRow, b_X11_isRow_35, b_X11_isRow_34, f_X11_isPart, b_X11_isPart_14, b_X11_isPart_9, kX.o1_11 hX, krcv (kN.y hX.n91), krcv (kN.y hX.n10), kT.gr hT, hR, c, kX.o1_3 hX1, kX.o1_11 hX1, kS.gn (kX.now hX1), c2, kX.o1_3 hX2, kS.gn (kX.now hX2), gx, ki_0, ki_1, ki_2, ki_3, ki_4, ki_5, ki_6, ki_7, ki_8, ki_9, ki_10, ki_11, ki_12, ki_13, ki_18, ki_20, ki_24, ki_32, ki_36, ki_45, ki_47, ki_48, ki_50, ki_57, ki_60, ki_63, ki_99, ki_100, ki_101, ki_120, ki_255, ki_468, ki_1000, ki_1024, ki_13849, ki_25173, ki_65535, ki_65536, ki_100000, ki_100001, ki_2147483647, ki_2147483648, kl_0, kl_1, kl_2, kl_9223372036854775808, ki_add, ki_sub, ki_mul, ki_neg, kl_add, kl_sub, kl_mul, kl_neg, ki_i2l, kl_l2i, ki_lt, ki_le, ki_eq, kcmp_eq, kcmp_lt, kcmp_le, kcmp_gt, kcmp_ge, Option.bind_some, Option.map_some, kbool0, kbool1, if_pos, if_neg, if_true, if_false, Int.neg_neg, Int.sub_zero, Int.add_zero, Int.zero_add, true_and, and_true, false_and, and_false, false_or, or_false, true_or, or_true, ne_eq, not_false_eq_true, not_true_eq_false]
        have h0 : ∀ j, ν2 0 j = μ 0 j := fun j => by rw [k2.1 0 (by omega), k.1 0 (by omega)]
        have g2 := kaI (kM.a108 hM2) (x := d) (by omega) (by omega)
        rw [k2.gi (by omega), k.gi (by omega)] at g2
        have eA : mA ν2 d = mA μ d := funext fun x => (k2.gi (by omega) _).trans (k.gi (by omega) _)
        have eC : mC ν2 d = mC μ d := funext fun x => (k2.gi (by omega) _).trans (k.gi (by omega) _)
        have e108 : gi ν2 108 d = gi μ 108 d := by rw [k2.gi (by omega), k.gi (by omega)]
        have hBν : kMb ν2 d := by
          unfold kMb
          rw [eA, eC, e108]
          exact hMB
        have q0 := X12_wholeOf hM2 (d := d) (fr := 0) (k := gi μ 108 d) hd.1 hd.2 hBν (by omega) (by omega) (by rw [e108]; omega)
        have q1 := X12_wholeOf hM2 (d := d) (fr := 1) (k := gi μ 108 d - 1) hd.1 hd.2 hBν (by omega) (by omega) (by rw [e108]; omega)
        obtain ⟨ω, r, c3, hr⟩ := X12_heard1 hM2 (d := d) (R := gi μ 108 d) hd.1 hd.2 hBν e108 (by omega) h4 (L := fun x => rt (mA μ d) (mC μ d) 1 0 (gi μ 108 d).toNat x) (M := fun x => rt (mA μ d) (mC μ d) 1 1 (gi μ 108 d - 1).toNat x) (fun x _ _ => by rw [eA, eC]) (fun x _ _ => by rw [eA, eC])
        rw [eA, eC] at q0 q1
        clear eA eC
        have F0 := near_full (A := mA μ d) (C := mC μ d) (fr := 0) (k := (gi μ 108 d).toNat) (fun x a b => (hCm x a (by omega)).1) (by omega)
        have F1 := near_full (A := mA μ d) (C := mC μ d) (fr := 1) (k := (gi μ 108 d - 1).toNat) (fun x a b => (hCm x (by omega) (by omega)).1) (by omega)
        clear s0 s1 fail
        rw [F0.1] at q0
        rw [F1.1] at q1
        have eL : ∀ j : Int, 0 ≤ j → j < gi μ 108 d → gi ν 92 j = rt (mA μ d) (mC μ d) 1 0 (gi μ 108 d).toNat j ∧ -6 ≤ rt (mA μ d) (mC μ d) 1 0 (gi μ 108 d).toNat j ∧ rt (mA μ d) (mC μ d) 1 0 (gi μ 108 d).toNat j ≤ 6 := fun j p q => by
          obtain ⟨v, v1, v2, v3, v4, v5⟩ := w1 j p q
          have := root_is (A := mA μ d) (C := mC μ d) (fr := 0) (k := (gi μ 108 d).toNat) (by omega) (fun x a b => hAm x a (by omega)) (fun x a b => hCm x a (by omega)) F0.1 (v := v) (by omega) v4
          rw [v5, F0.2, Int.zero_add] at this
          rw [this, v3]
          omega
        have eM : ∀ j : Int, 0 ≤ j → j < gi μ 108 d - 1 → gi ν 93 j = rt (mA μ d) (mC μ d) 1 1 (gi μ 108 d - 1).toNat j := fun j p q => by
          obtain ⟨v, v1, v2, v3, v4, v5⟩ := w2 j p q
          have := root_is (A := mA μ d) (C := mC μ d) (fr := 1) (k := (gi μ 108 d - 1).toNat) (by omega) (fun x a b => hAm x (by omega) (by omega)) (fun x a b => hCm x (by omega) (by omega)) F1.1 (v := v) (by omega) v4
          rw [v5, F1.2, Int.zero_add] at this
          rw [this, v3]
        have hil : ∀ j : Int, 0 ≤ j → j < gi μ 108 d - 1 → rt (mA μ d) (mC μ d) 1 0 (gi μ 108 d).toNat j < rt (mA μ d) (mC μ d) 1 1 (gi μ 108 d - 1).toNat j ∧ rt (mA μ d) (mC μ d) 1 1 (gi μ 108 d - 1).toNat j < rt (mA μ d) (mC μ d) 1 0 (gi μ 108 d).toNat (j + 1) := fun j p q => by
          have i1 := il (A := mA μ d) (C := mC μ d) (n := (gi μ 108 d).toNat) (by omega) (by omega) (fun x a b => hAm x a (by omega)) (fun x a b => hCm x a (by omega)) F0.1 (by rw [show (gi μ 108 d).toNat - 1 = (gi μ 108 d - 1).toNat by omega]; omega) (i := j.toNat) (by omega)
          rw [show (gi μ 108 d).toNat - 1 = (gi μ 108 d - 1).toNat by omega, toNat_cast p] at i1
          exact i1
        clear w1 w2 F0 F1
        generalize rt (mA μ d) (mC μ d) 1 0 (gi μ 108 d).toNat = LL at *
        generalize rt (mA μ d) (mC μ d) 1 1 (gi μ 108 d - 1).toNat = MM at *
        have fin2 : f_X12_heard Y 95 (ki d) ν2 = some (r, ω) := by
          clear eL eM hil hr
          simp (disch := omega) only [f_X11_heard, f_X12_heard, b_X12_heard_54, X12_in, X12_isDrawer, krcv (kM.y hM), kM.o26 hM2, g2, q0, q1, ki_0, ki_1, ki_2, ki_3, ki_4, ki_5, ki_6, ki_7, ki_8, ki_9, ki_10, ki_11, ki_12, ki_13, ki_18, ki_20, ki_24, ki_32, ki_36, ki_45, ki_47, ki_48, ki_50, ki_57, ki_60, ki_63, ki_99, ki_100, ki_101, ki_120, ki_255, ki_468, ki_1000, ki_1024, ki_13849, ki_25173, ki_65535, ki_65536, ki_100000, ki_100001, ki_2147483647, ki_2147483648, kl_0, kl_1, kl_2, kl_9223372036854775808, ki_add, ki_sub, ki_mul, ki_neg, kl_add, kl_sub, kl_mul, kl_neg, ki_i2l, kl_l2i, ki_lt, ki_le, ki_eq, kcmp_eq, kcmp_lt, kcmp_le, kcmp_gt, kcmp_ge, Option.bind_some, Option.map_some, kbool0, kbool1, if_pos, if_neg, if_true, if_false, Int.neg_neg, Int.sub_zero, Int.add_zero, Int.zero_add, true_and, and_true, false_and, and_false, false_or, or_false, true_or, or_true, ne_eq, not_false_eq_true, not_true_eq_false]
          exact c3
        clear q0 q1 c3 c2 c
        rcases hr with ⟨nb, _⟩ | ⟨_, rfl, kω, y95, y96, y10, yL, yM⟩
        · exact absurd ⟨(eL 0 (by omega) (by omega)).2.1, (eL (gi μ 108 d - 1) (by omega) (by omega)).2.2⟩ nb
        · refine ⟨(ki (gi μ 108 d), ν2), (ki (gi μ 108 d), ω), fin1, h0, fin2, rfl, ?_⟩
          refine Inv.updN (μ' := ω) h ((k02.mono (by omega) (by omega)).trans (kω.mono (by omega) (by omega))) (fun i pi i1 i2 i3 i4 i5 => ?_) ?_ ?_ ?_
          · unfold pers at pi
            by_cases e96 : i = 96
            · subst e96
              rw [y96, k2.1 96 (by omega), k.1 96 (by omega)]
            · rw [kω.1 i (by omega), k2.1 i (by omega), k.1 i (by omega)]
          · rw [y95 1 (by omega), k2.1 95 (by omega), k.1 95 (by omega)]
          · rw [y95 25 (by omega), k2.1 95 (by omega), k.1 95 (by omega)]
          · unfold relQ
            rw [y10, kω.gi (by omega), x0, w0]
            refine ⟨rfl, by omega, h4, fun x p q => ?_, fun x p q => ?_⟩
            · rw [kω.gi (by omega), x1 x p (by omega), yL x p q]
              exact eL x p q
            · rw [kω.gi (by omega), x2 x p (by omega), yM x p q, yL x p (by omega), yL (x + 1) (by omega) (by omega)]
              exact ⟨eM x p q, hil x p q⟩
  · refine ⟨(ki (-1), μ), (ki (-1), μ), ?_, fun _ => rfl, ?_, rfl, h⟩ <;> simp (disch := omega) only [f_X11_heard, f_X12_heard, b_X12_heard_54, krcv (kX.y1 hX), kX.o1_3 hX, kS.gd (kX.now hX), kS.gt (kX.now hX), X11_within, X11_isDrawer, f_X11_isFilled, b_X11_isFilled_27, b_X11_isFilled_26, f_X11_isRow, b_X11_isRow_35, b_X11_isRow_34, f_X11_isPart, b_X11_isPart_14, b_X11_isPart_9, krcv (kM.y hM), kM.o26 hM, kaI (kM.a108 hM), X12_in, X12_isDrawer, ki_0, ki_1, ki_2, ki_3, ki_4, ki_5, ki_6, ki_7, ki_8, ki_9, ki_10, ki_11, ki_12, ki_13, ki_18, ki_20, ki_24, ki_32, ki_36, ki_45, ki_47, ki_48, ki_50, ki_57, ki_60, ki_63, ki_99, ki_100, ki_101, ki_120, ki_255, ki_468, ki_1000, ki_1024, ki_13849, ki_25173, ki_65535, ki_65536, ki_100000, ki_100001, ki_2147483647, ki_2147483648, kl_0, kl_1, kl_2, kl_9223372036854775808, ki_add, ki_sub, ki_mul, ki_neg, kl_add, kl_sub, kl_mul, kl_neg, ki_i2l, kl_l2i, ki_lt, ki_le, ki_eq, kcmp_eq, kcmp_lt, kcmp_le, kcmp_gt, kcmp_ge, Option.bind_some, Option.map_some, kbool0, kbool1, if_pos, if_neg, if_true, if_false, Int.neg_neg, Int.sub_zero, Int.add_zero, Int.zero_add, true_and, and_true, false_and, and_false, false_or, or_false, true_or, or_true, ne_eq, not_false_eq_true, not_true_eq_false]
