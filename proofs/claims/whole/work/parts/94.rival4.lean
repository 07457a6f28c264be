/-! OPS: rivals, both -/
theorem rvS_two {f code : Int → Int} {lo : Int} {s : Int × Int} (s0 : -1 ≤ s.2) (s1 : s.2 ≤ 100000) : ∀ t : Nat, (∀ i : Nat, i < t → -1 ≤ code (lo + i) ∧ code (lo + i) ≤ 100000) → -1 ≤ (rvS f code lo s t).2 ∧ (rvS f code lo s t).2 ≤ 100000 := by
  intro t
  induction t with
  | zero => intro _; exact ⟨s0, s1⟩
  | succ t ih =>
    intro h
    have a := ih (fun i hi => h i (by omega))
    have b := h t (by omega)
    rw [rvS]
    split
    · simp only []
      split
      · exact b
      · exact a
    · exact a
theorem rvT_two {A C : Int → Int} {R w : Int} (h5 : R ≤ 5) : ∀ p : Nat, (p : Int) ≤ 2 * R - 1 → -1 ≤ (rvT A C R w p).2 ∧ (rvT A C R w p).2 ≤ 100000 := by
  intro p
  induction p with
  | zero => intro _; exact ⟨Int.le_refl _, by show (-1 : Int) ≤ 100000; omega⟩
  | succ p ih =>
    intro hp
    have a := ih (by omega)
    rw [rvT]
    refine rvS_two a.1 a.2 _ (fun i hi => ?_)
    have q := (pLN (R := R) (p := p) i hi)
    have q2 := q.2.2
    unfold pB at q2
    unfold pC
    split
    · rename_i e
      rw [if_pos e] at q2
      omega
    · rename_i e
      rw [if_neg e] at q2
      omega
theorem X12_rivals1 {Y : jY} {μ : jM} (hM : kM Y μ) {d w fb : Int} (d0 : 0 ≤ d) (d3 : d ≤ 3) (hMB : kMb μ d) (w0 : 0 ≤ w) (w2 : w ≤ 2) (hf : fb = 0 ∨ fb = 1) (hR1 : 1 ≤ gi μ 108 d) : jit jF (fun (z : Int32 × Int32 × Int32 × jM) => b_X12_rivals_39 Y 95 (ki d) (ki w) (ki fb) z.1 z.2.1 z.2.2.1 z.2.2.2) ((0 : Int32), (-1 : Int32), (0 : Int32), μ) = some (ki (if fb = 0 then (rvT (mA μ d) (mC μ d) (gi μ 108 d) w (2 * gi μ 108 d - 1).toNat).1 else (rvT (mA μ d) (mC μ d) (gi μ 108 d) w (2 * gi μ 108 d - 1).toNat).2), μ) := by
  have b5 := hMB.2.1
  refine jit_run (fun p => (ki (rvT (mA μ d) (mC μ d) (gi μ 108 d) w p).1, ki (rvT (mA μ d) (mC μ d) (gi μ 108 d) w p).2, ki p, μ)) _ (2 * gi μ 108 d - 1).toNat rfl (by omega) (fun p hp => ?_) ?_
  · have rng := rvT_rng (A := mA μ d) (C := mC μ d) (R := gi μ 108 d) (w := w) p
    have rng2 := rvT_two (A := mA μ d) (C := mC μ d) (R := gi μ 108 d) (w := w) b5 p (by omega)
    have e := X12_rivals2 hM d0 d3 hMB w0 w2 (fb := fb) (p := (p : Int)) (by omega) (by omega) (s := rvT (mA μ d) (mC μ d) (gi μ 108 d) w p) (by omega) (by omega) rng2.1 rng2.2
    rw [Int.natCast_add, Int.natCast_one]
    exact e
  · have g := kaI (kM.a108 hM) (x := d) d0 (by omega)
    have c1 : (2 : Int32) * ki (gi μ 108 d) - (1 : Int32) ≤ ki ((2 * gi μ 108 d - 1).toNat : Int) := by
      rw [ki_2, ki_1, ki_mul, ki_sub, ki_le (by omega) (by omega) (by omega) (by omega)]
      omega
    show b_X12_rivals_39 Y 95 (ki d) (ki w) (ki fb) _ _ (ki ((2 * gi μ 108 d - 1).toNat : Int)) μ = _
    unfold b_X12_rivals_39
    rw [kM.o26 hM, Option.bind_some, g, Option.bind_some, if_pos c1]
    rcases hf with rfl | rfl
    · have c0 : ki 0 = (0 : Int32) := rfl
      rw [if_pos c0, if_pos rfl]
      rfl
    · have c0 : ¬ (ki 1 = (0 : Int32)) := by decide
      rw [if_neg c0, if_neg (by omega)]
      rfl
theorem ok_rivals {L : Nat} {xs : Nat → Int32} {n : Nat} {Y : jY} {μ : jM} (h : Inv L xs n Y μ) : so_rivals (Inv L xs) n Y μ := by
  have hX := h.x
  have hM := h.m
  intro a1 a2 a3 hb0
  obtain ⟨d, d1, d2, rfl⟩ := ki_is a1
  obtain ⟨w, w1, w2, rfl⟩ := ki_is a2
  obtain ⟨fb, hf, rfl⟩ := ki_bool hb0
  by_cases hd : 0 ≤ d ∧ d ≤ 3
  · obtain ⟨hT, hB, hMB, hR, hA, hC⟩ := h.d hd.1 hd.2; have hR0 := hMB.1; have hR5 := hMB.2.1
    by_cases hw : 0 ≤ w ∧ w ≤ 2
    · by_cases hz : gi μ 108 d = 0
      · refine ⟨(ki (-2), μ), (ki (-2), μ), ?_, fun _ => rfl, ?_, rfl, h⟩ <;> simp (disch := omega) only [f_X11_rivals, b_X11_rivals_16, f_X12_rivals, b_X12_rivals_16, krcv (kX.y1 hX), kX.o1_3 hX, kS.gd (kX.now hX), kS.gt (kX.now hX), X11_within, X11_isDrawer, f_X11_isFilled, b_X11_isFilled_27, b_X11_isFilled_26, f_X11_isRow, b_X11_isRow_35, b_X11_isRow_34, f_X11_isPart, b_X11_isPart_14, b_X11_isPart_9, krcv (kM.y hM), kM.o26 hM, kaI (kM.a108 hM), X12_in, X12_isDrawer, kT.gr hT, krcv hT.y, hR, ki_0, ki_1, ki_2, ki_3, ki_4, ki_5, ki_6, ki_7, ki_8, ki_9, ki_10, ki_11, ki_12, ki_13, ki_18, ki_20, ki_24, ki_32, ki_36, ki_45, ki_47, ki_48, ki_50, ki_57, ki_60, ki_63, ki_99, ki_100, ki_101, ki_120, ki_255, ki_468, ki_1000, ki_1024, ki_13849, ki_25173, ki_65535, ki_65536, ki_100000, ki_100001, ki_2147483647, ki_2147483648, kl_0, kl_1, kl_2, kl_9223372036854775808, ki_add, ki_sub, ki_mul, ki_neg, kl_add, kl_sub, kl_mul, kl_neg, ki_i2l, kl_l2i, ki_lt, ki_le, ki_eq, kcmp_eq, kcmp_lt, kcmp_le, kcmp_gt, kcmp_ge, Option.bind_some, Option.map_some, kbool0, kbool1, if_pos, if_neg, if_true, if_false, Int.neg_neg, Int.sub_zero, Int.add_zero, Int.zero_add, true_and, and_true, false_and, and_false, false_or, or_false, true_or, or_true, ne_eq, not_false_eq_true, not_true_eq_false]
      · obtain ⟨ω, c1, kf⟩ := X11_rivals1 h hd.1 hd.2 hw.1 hw.2 hf (by omega)
        have hM1 := hM.to kf
        have eA : mA ω d = mA μ d := funext fun x => kf.gi (by omega) _
        have eC : mC ω d = mC μ d := funext fun x => kf.gi (by omega) _
        have e108 : gi ω 108 d = gi μ 108 d := kf.gi (by omega) _
        have hBω : kMb ω d := by
          unfold kMb
          rw [eA, eC, e108]
          exact hMB
        have c2 := X12_rivals1 hM1 hd.1 hd.2 hBω hw.1 hw.2 hf (by rw [e108]; omega)
        rw [eA, eC, e108] at c2
        have g := kaI (kM.a108 hM1) (x := d) (by omega) (by omega)
        rw [e108] at g
        generalize (if fb = 0 then (rvT (mA μ d) (mC μ d) (gi μ 108 d) w (2 * gi μ 108 d - 1).toNat).1 else (rvT (mA μ d) (mC μ d) (gi μ 108 d) w (2 * gi μ 108 d - 1).toNat).2) = v at *
        refine ⟨(ki v, ω), (ki v, ω), ?_, fun m => congrFun (kf.1 0 (by omega)) m, ?_, rfl, h.to (kP.of_rows (kf.mono (by omega) (by omega)))⟩
        · simp (disch := omega) only [f_X11_rivals, b_X11_rivals_16, f_X12_rivals, b_X12_rivals_16, krcv (kX.y1 hX), kX.o1_3 hX, kS.gd (kX.now hX), kS.gt (kX.now hX), X11_within, X11_isDrawer, f_X11_isFilled, b_X11_isFilled_27, b_X11_isFilled_26, f_X11_isRow, b_X11_isRow_35, b_X11_isRow_34, f_X11_isPart, b_X11_isPart_14, b_X11_isPart_9, kT.gr hT, krcv hT.y, hR, ki_0, ki_1, ki_2, ki_3, ki_4, ki_5, ki_6, ki_7, ki_8, ki_9, ki_10, ki_11, ki_12, ki_13, ki_18, ki_20, ki_24, ki_32, ki_36, ki_45, ki_47, ki_48, ki_50, ki_57, ki_60, ki_63, ki_99, ki_100, ki_101, ki_120, ki_255, ki_468, ki_1000, ki_1024, ki_13849, ki_25173, ki_65535, ki_65536, ki_100000, ki_100001, ki_2147483647, ki_2147483648, kl_0, kl_1, kl_2, kl_9223372036854775808, ki_add, ki_sub, ki_mul, ki_neg, kl_add, kl_sub, kl_mul, kl_neg, ki_i2l, kl_l2i, ki_lt, ki_le, ki_eq, kcmp_eq, kcmp_lt, kcmp_le, kcmp_gt, kcmp_ge, Option.bind_some, Option.map_some, kbool0, kbool1, if_pos, if_neg, if_true, if_false, Int.neg_neg, Int.sub_zero, Int.add_zero, Int.zero_add, true_and, and_true, false_and, and_false, false_or, or_false, true_or, or_true, ne_eq, not_false_eq_true, not_true_eq_false]
          exact c1
        · simp (disch := omega) only [f_X11_rivals, b_X11_rivals_16, f_X12_rivals, b_X12_rivals_16, X12_in, X12_isDrawer, kM.o26 hM1, g, ki_0, ki_1, ki_2, ki_3, ki_4, ki_5, ki_6, ki_7, ki_8, ki_9, ki_10, ki_11, ki_12, ki_13, ki_18, ki_20, ki_24, ki_32, ki_36, ki_45, ki_47, ki_48, ki_50, ki_57, ki_60, ki_63, ki_99, ki_100, ki_101, ki_120, ki_255, ki_468, ki_1000, ki_1024, ki_13849, ki_25173, ki_65535, ki_65536, ki_100000, ki_100001, ki_2147483647, ki_2147483648, kl_0, kl_1, kl_2, kl_9223372036854775808, ki_add, ki_sub, ki_mul, ki_neg, kl_add, kl_sub, kl_mul, kl_neg, ki_i2l, kl_l2i, ki_lt, ki_le, ki_eq, kcmp_eq, kcmp_lt, kcmp_le, kcmp_gt, kcmp_ge, Option.bind_some, Option.map_some, kbool0, kbool1, if_pos, if_neg, if_true, if_false, Int.neg_neg, Int.sub_zero, Int.add_zero, Int.zero_add, true_and, and_true, false_and, and_false, false_or, or_false, true_or, or_true, ne_eq, not_false_eq_true, not_true_eq_false]
          exact c2
    · refine ⟨(ki (-1), μ), (ki (-1), μ), ?_, fun _ => rfl, ?_, rfl, h⟩ <;> simp (disch := omega) only [f_X11_rivals, b_X11_rivals_16, f_X12_rivals, b_X12_rivals_16, krcv (kX.y1 hX), kX.o1_3 hX, kS.gd (kX.now hX), kS.gt (kX.now hX), X11_within, X11_isDrawer, f_X11_isFilled, b_X11_isFilled_27, b_X11_isFilled_26, f_X11_isRow, b_X11_isRow_35, b_X11_isRow_34, f_X11_isPart, b_X11_isPart_14, b_X11_isPart_9, krcv (kM.y hM), kM.o26 hM, kaI (kM.a108 hM), X12_in, X12_isDrawer, ki_0, ki_1, ki_2, ki_3, ki_4, ki_5, ki_6, ki_7, ki_8, ki_9, ki_10, ki_11, ki_12, ki_13, ki_18, ki_20, ki_24, ki_32, ki_36, ki_45, ki_47, ki_48, ki_50, ki_57, ki_60, ki_63, ki_99, ki_100, ki_101, ki_120, ki_255, ki_468, ki_1000, ki_1024, ki_13849, ki_25173, ki_65535, ki_65536, ki_100000, ki_100001, ki_2147483647, ki_2147483648, kl_0, kl_1, kl_2, kl_9223372036854775808, ki_add, ki_sub, ki_mul, ki_neg, kl_add, kl_sub, kl_mul, kl_neg, ki_i2l, kl_l2i, ki_lt, ki_le, ki_eq, kcmp_eq, kcmp_lt, kcmp_le, kcmp_gt, kcmp_ge, Option.bind_some, Option.map_some, kbool0, kbool1, if_pos, if_neg, if_true, if_false, Int.neg_neg, Int.sub_zero, Int.add_zero, Int.zero_add, true_and, and_true, false_and, and_false, false_or, or_false, true_or, or_true, ne_eq, not_false_eq_true, not_true_eq_false]
  · refine ⟨(ki (-1), μ), (ki (-1), μ), ?_, fun _ => rfl, ?_, rfl, h⟩ <;> simp (disch := omega) only [f_X11_rivals, b_X11_rivals_16, f_X12_rivals, b_X12_rivals_16, krcv (kX.y1 hX), kX.o1_3 hX, kS.gd (kX.now hX), kS.gt (kX.now hX), X11_within, X11_isDrawer, f_X11_isFilled, b_X11_isFilled_27, b_X11_isFilled_26, f_X11_isRow, b_X11_isRow_35, b_X11_isRow_34, f_X11_isPart, b_X11_isPart_14, b_X11_isPart_9, krcv (kM.y hM), kM.o26 hM, kaI (kM.a108 hM), X12_in, X12_isDrawer, ki_0, ki_1, ki_2, ki_3, ki_4, ki_5, ki_6, ki_7, ki_8, ki_9, ki_10, ki_11, ki_12, ki_13, ki_18, ki_20, ki_24, ki_32, ki_36, ki_45, ki_47, ki_48, ki_50, ki_57, ki_60, ki_63, ki_99, ki_100, ki_101, ki_120, ki_255, ki_468, ki_1000, ki_1024, ki_13849, ki_25173, ki_65535, ki_65536, ki_100000, ki_100001, ki_2147483647, ki_2147483648, kl_0, kl_1, kl_2, kl_9223372036854775808, ki_add, ki_sub, ki_mul, ki_neg, kl_add, kl_sub, kl_mul, kl_neg, ki_i2l, kl_l2i, ki_lt, ki_le, ki_eq, kcmp_eq, kcmp_lt, kcmp_le, kcmp_gt, kcmp_ge, Option.bind_some, Option.map_some, kbool0, kbool1, if_pos, if_neg, if_true, if_false, Int.neg_neg, Int.sub_zero, Int.add_zero, Int.zero_add, true_and, and_true, false_and, and_false, false_or, or_false, true_or, or_true, ne_eq, not_false_eq_true, not_true_eq_false]
