/-! OPS: put, table -/
set_option maxHeartbeats 2000000 in
theorem ok_put {L : Nat} {xs : Nat → Int32} {n : Nat} {Y : jY} {μ : jM} (h : Inv L xs n Y μ) : so_put (Inv L xs) n Y μ := by
  have hX := h.x
  have hM := h.m
  intro a1 a2 a3 a4 hb0
  obtain ⟨d, d1, d2, rfl⟩ := ki_is a1
  obtain ⟨b, hb, rfl⟩ := ki_bool hb0
  obtain ⟨i, i1, i2, rfl⟩ := ki_is a3
  obtain ⟨v, v1, v2, rfl⟩ := ki_is a4
  by_cases hd : 0 ≤ d ∧ d ≤ 3
  · obtain ⟨hT, hB, hMB, hR, hA, hC⟩ := h.d hd.1 hd.2; have hR0 := hMB.1; have hR5 := hMB.2.1
    by_cases hz : gi μ 108 d = 0
    · refine ⟨(ki (-100), μ), (ki (-100), μ), ?_, fun _ => rfl, ?_, rfl, h⟩ <;> simp (disch := omega) only [f_X11_put, f_X12_put, b_X12_put_66, krcv (kX.y1 hX), kX.o1_3 hX, kS.gd (kX.now hX), kS.gt (kX.now hX), X11_within, X11_isDrawer, f_X11_isFilled, b_X11_isFilled_27, b_X11_isFilled_26, f_X11_isRow, b_X11_isRow_35, b_X11_isRow_34, f_X11_isPart, b_X11_isPart_14, b_X11_isPart_9, krcv (kM.y hM), kM.o26 hM, kaI (kM.a108 hM), X12_in, X12_isDrawer, kT.gr hT, krcv hT.y, hR, ki_0, ki_1, ki_2, ki_3, ki_4, ki_5, ki_6, ki_7, ki_8, ki_9, ki_10, ki_11, ki_12, ki_13, ki_18, ki_20, ki_24, ki_32, ki_36, ki_45, ki_47, ki_48, ki_50, ki_57, ki_60, ki_63, ki_99, ki_100, ki_101, ki_120, ki_255, ki_468, ki_1000, ki_1024, ki_13849, ki_25173, ki_65535, ki_65536, ki_100000, ki_100001, ki_2147483647, ki_2147483648, kl_0, kl_1, kl_2, kl_9223372036854775808, ki_add, ki_sub, ki_mul, ki_neg, kl_add, kl_sub, kl_mul, kl_neg, ki_i2l, kl_l2i, ki_lt, ki_le, ki_eq, kcmp_eq, kcmp_lt, kcmp_le, kcmp_gt, kcmp_ge, Option.bind_some, Option.map_some, kbool0, kbool1, if_pos, if_neg, if_true, if_false, Int.neg_neg, Int.sub_zero, Int.add_zero, Int.zero_add, true_and, and_true, false_and, and_false, false_or, or_false, true_or, or_true, ne_eq, not_false_eq_true, not_true_eq_false]
    · have e1 := X10_hasNumber hT (b := b) (i := i) (by omega) (by omega) i1 i2 hb
      have e2 := X12_isEntry hM (d := d) (b := b) (i := i) hd.1 hd.2 (by omega) (by omega) i1 i2 hb
      rw [hR] at e1
      by_cases hg : 0 ≤ i ∧ i ≤ gi μ 108 d - 2 + b
      · have e3 := X10_numberAt hT (b := b) (i := i) hg.1 (by omega) hb
        have e4 := X10_canBe (Y := Y) (μ := μ) (b := b) (v := v) v1 v2 hb
        have e5 := X12_canBe (Y := Y) (μ := μ) (b := b) (v := v) v1 v2 hb
        rw [if_pos hg] at e1 e2
        by_cases hv : (b = 0 ∧ 1 ≤ v ∧ v ≤ 36) ∨ (b = 1 ∧ -6 ≤ v ∧ v ≤ 6)
        · rw [if_pos hv] at e4 e5
          have e6 := X10_setNumber hT (b := b) (i := i) (v := v) hg.1 (by omega) hb
          have hk1 : kF 0 123 μ (jw μ (if b = 1 then 9 + 5 + 3 * d.toNat + 1 else 9 + 5 + 3 * d.toNat + 2) i.toNat (.int (ki v))) := by
            refine kF_I ?_ (Nat.zero_le _) (by split <;> omega)
            rcases hb with rfl | rfl
            · exact hT.ac.2.2.2 i.toNat (by omega)
            · exact hT.aa.2.2.2 i.toNat (by omega)
          have hM1 := hM.to hk1
          have e7 := X12_puts hM1 (d := d) (b := b) (i := i) (v := v) hd.1 hd.2 hg.1 (by omega) hb
          have hsame : ∀ a x, a = 109 ∨ a = 110 ∨ a = 108 → gi (jw μ (if b = 1 then 9 + 5 + 3 * d.toNat + 1 else 9 + 5 + 3 * d.toNat + 2) i.toNat (.int (ki v))) a x = gi μ a x := fun a x ha => gi_cell (jw_cell (by split <;> omega)) x
          have e8 := X12_a hM1 (d := d) (i := i) hd.1 hd.2 hg.1 (by omega)
          have e9 := X12_c hM1 (d := d) (i := i) hd.1 hd.2 hg.1 (by omega)
          have eA : mA (jw μ (if b = 1 then 9 + 5 + 3 * d.toNat + 1 else 9 + 5 + 3 * d.toNat + 2) i.toNat (.int (ki v))) d i = mA μ d i := hsame 109 _ (by omega)
          have eC : mC (jw μ (if b = 1 then 9 + 5 + 3 * d.toNat + 1 else 9 + 5 + 3 * d.toNat + 2) i.toNat (.int (ki v))) d i = mC μ d i := hsame 110 _ (by omega)
          rw [eA] at e8
          rw [eC] at e9
          have e10 := X12_isEntry hM1 (d := d) (b := b) (i := i) hd.1 hd.2 (by rw [hsame 108 d (by omega)]; omega) (by rw [hsame 108 d (by omega)]; omega) i1 i2 hb
          rw [hsame 108 d (by omega), if_pos hg] at e10
          have e11 := X12_canBe (Y := Y) (μ := jw μ (if b = 1 then 9 + 5 + 3 * d.toNat + 1 else 9 + 5 + 3 * d.toNat + 2) i.toNat (.int (ki v))) (b := b) (v := v) v1 v2 hb
          rw [if_pos hv] at e11
          have eR := hsame 108 d (by omega)
          have hk2 : kF 0 123 (jw μ (if b = 1 then 9 + 5 + 3 * d.toNat + 1 else 9 + 5 + 3 * d.toNat + 2) i.toNat (.int (ki v))) (jw (jw μ (if b = 1 then 9 + 5 + 3 * d.toNat + 1 else 9 + 5 + 3 * d.toNat + 2) i.toNat (.int (ki v))) (if b = 1 then 109 else 110) (5 * d + i).toNat (.int (ki v))) := by
            refine kF_I ?_ (Nat.zero_le _) (by split <;> omega)
            rcases hb with rfl | rfl
            · exact hM1.a110.2.2.2 _ (by omega)
            · exact hM1.a109.2.2.2 _ (by omega)
          have hInv : Inv L xs n Y (jw (jw μ (if b = 1 then 9 + 5 + 3 * d.toNat + 1 else 9 + 5 + 3 * d.toNat + 2) i.toNat (.int (ki v))) (if b = 1 then 109 else 110) (5 * d + i).toNat (.int (ki v))) := by
            refine h.upd hd.1 hd.2 (hk1.trans hk2) (fun j j1 j2 j3 j4 j5 j6 => by rw [jw_cell (by split <;> omega), jw_cell (by split <;> omega)]) ?_ (fun e e1 e2 e3 => ⟨?_, fun x x1 x2 => ?_, fun x x1 x2 => ?_⟩)
            · unfold relT
              have g0 : ∀ a x, gi (jw (jw μ (if b = 1 then 9 + 5 + 3 * d.toNat + 1 else 9 + 5 + 3 * d.toNat + 2) i.toNat (.int (ki v))) (if b = 1 then 109 else 110) (5 * d + i).toNat (.int (ki v))) a x = if a = (if b = 1 then 109 else 110) ∧ x.toNat = (5 * d + i).toNat then v else if a = (if b = 1 then 9 + 5 + 3 * d.toNat + 1 else 9 + 5 + 3 * d.toNat + 2) ∧ x.toNat = i.toNat then v else gi μ a x := fun a x => by rw [gi_jw a x v1 v2, gi_jw a x v1 v2]
              simp only [mA, mC, g0]
              rcases hb with rfl | rfl
              · simp only [show ¬ ((0 : Int) = 1) by omega, if_false]
                refine ⟨?_, ?_, ?_, fun x x1 x2 => ?_, fun x x1 x2 => ?_⟩
                · rw [if_neg (by omega), if_neg (by omega), if_neg (by omega), if_neg (by omega)]; exact hR
                · rw [if_neg (by omega), if_neg (by omega)]; omega
                · rw [if_neg (by omega), if_neg (by omega)]; omega
                · rw [if_neg (by omega), if_neg (by omega)] at x2
                  rw [if_neg (by omega), if_neg (by omega), if_neg (by omega), if_neg (by omega)]
                  exact ⟨hA x x1 x2, hMB.2.2.1 x x1 x2⟩
                · rw [if_neg (by omega), if_neg (by omega)] at x2
                  by_cases hxi : x = i
                  · subst hxi
                    simp (disch := omega) only [if_pos, if_neg, and_self, if_true]
                    exact ⟨trivial, by omega⟩
                  · rw [if_neg (by omega), if_neg (by omega), if_neg (by omega), if_neg (by omega)]
                    exact ⟨hC x x1 x2, hMB.2.2.2 x x1 x2⟩
              · simp only [if_true]
                refine ⟨?_, ?_, ?_, fun x x1 x2 => ?_, fun x x1 x2 => ?_⟩
                · rw [if_neg (by omega), if_neg (by omega), if_neg (by omega), if_neg (by omega)]; exact hR
                · rw [if_neg (by omega), if_neg (by omega)]; omega
                · rw [if_neg (by omega), if_neg (by omega)]; omega
                · rw [if_neg (by omega), if_neg (by omega)] at x2
                  by_cases hxi : x = i
                  · subst hxi
                    simp (disch := omega) only [if_pos, if_neg, and_self, if_true]
                    exact ⟨trivial, by omega⟩
                  · rw [if_neg (by omega), if_neg (by omega), if_neg (by omega), if_neg (by omega)]
                    exact ⟨hA x x1 x2, hMB.2.2.1 x x1 x2⟩
                · rw [if_neg (by omega), if_neg (by omega)] at x2
                  rw [if_neg (by omega), if_neg (by omega), if_neg (by omega), if_neg (by omega)]
                  exact ⟨hC x x1 x2, hMB.2.2.2 x x1 x2⟩
            · rw [gi_jw _ _ v1 v2, gi_jw _ _ v1 v2, if_neg (by split <;> omega), if_neg (by split <;> omega)]
            · unfold mA
              rw [gi_jw _ _ v1 v2, gi_jw _ _ v1 v2, if_neg (by omega), if_neg (by split <;> omega)]
            · unfold mC
              rw [gi_jw _ _ v1 v2, gi_jw _ _ v1 v2, if_neg (by omega), if_neg (by split <;> omega)]
          refine ⟨(ki (if b = 1 then mA μ d i else mC μ d i), jw μ (if b = 1 then 9 + 5 + 3 * d.toNat + 1 else 9 + 5 + 3 * d.toNat + 2) i.toNat (.int (ki v))), (ki (if b = 1 then mA μ d i else mC μ d i), jw (jw μ (if b = 1 then 9 + 5 + 3 * d.toNat + 1 else 9 + 5 + 3 * d.toNat + 2) i.toNat (.int (ki v))) (if b = 1 then 109 else 110) (5 * d + i).toNat (.int (ki v))), ?_, fun j => congrFun (jw_cell (by split <;> omega)) j, ?_, rfl, hInv⟩
          · rcases hb with rfl | rfl
            · have e4' := hC i hg.1 (by omega)
              simp only [show ¬ ((0 : Int) = 1) by omega, if_false] at *
              rw [e4'] at e3
              simp (disch := omega) only [f_X11_put, krcv (kX.y1 hX), kX.o1_3 hX, kS.gd (kX.now hX), kS.gt (kX.now hX), X11_within, X11_isDrawer, f_X11_isFilled, b_X11_isFilled_27, b_X11_isFilled_26, f_X11_isRow, b_X11_isRow_35, b_X11_isRow_34, f_X11_isPart, b_X11_isPart_14, b_X11_isPart_9, kT.gr hT, krcv hT.y, hR, e1, e3, e4, e6, ki_0, ki_1, ki_2, ki_3, ki_4, ki_5, ki_6, ki_7, ki_8, ki_9, ki_10, ki_11, ki_12, ki_13, ki_18, ki_20, ki_24, ki_32, ki_36, ki_45, ki_47, ki_48, ki_50, ki_57, ki_60, ki_63, ki_99, ki_100, ki_101, ki_120, ki_255, ki_468, ki_1000, ki_1024, ki_13849, ki_25173, ki_65535, ki_65536, ki_100000, ki_100001, ki_2147483647, ki_2147483648, kl_0, kl_1, kl_2, kl_9223372036854775808, ki_add, ki_sub, ki_mul, ki_neg, kl_add, kl_sub, kl_mul, kl_neg, ki_i2l, kl_l2i, ki_lt, ki_le, ki_eq, kcmp_eq, kcmp_lt, kcmp_le, kcmp_gt, kcmp_ge, Option.bind_some, Option.map_some, kbool0, kbool1, if_pos, if_neg, if_true, if_false, Int.neg_neg, Int.sub_zero, Int.add_zero, Int.zero_add, true_and, and_true, false_and, and_false, false_or, or_false, true_or, or_true, ne_eq, not_false_eq_true, not_true_eq_false]
            · have e4' := hA i hg.1 (by omega)
              simp only [if_true] at *
              rw [e4'] at e3
              simp (disch := omega) only [f_X11_put, krcv (kX.y1 hX), kX.o1_3 hX, kS.gd (kX.now hX), kS.gt (kX.now hX), X11_within, X11_isDrawer, f_X11_isFilled, b_X11_isFilled_27, b_X11_isFilled_26, f_X11_isRow, b_X11_isRow_35, b_X11_isRow_34, f_X11_isPart, b_X11_isPart_14, b_X11_isPart_9, kT.gr hT, krcv hT.y, hR, e1, e3, e4, e6, ki_0, ki_1, ki_2, ki_3, ki_4, ki_5, ki_6, ki_7, ki_8, ki_9, ki_10, ki_11, ki_12, ki_13, ki_18, ki_20, ki_24, ki_32, ki_36, ki_45, ki_47, ki_48, ki_50, ki_57, ki_60, ki_63, ki_99, ki_100, ki_101, ki_120, ki_255, ki_468, ki_1000, ki_1024, ki_13849, ki_25173, ki_65535, ki_65536, ki_100000, ki_100001, ki_2147483647, ki_2147483648, kl_0, kl_1, kl_2, kl_9223372036854775808, ki_add, ki_sub, ki_mul, ki_neg, kl_add, kl_sub, kl_mul, kl_neg, ki_i2l, kl_l2i, ki_lt, ki_le, ki_eq, kcmp_eq, kcmp_lt, kcmp_le, kcmp_gt, kcmp_ge, Option.bind_some, Option.map_some, kbool0, kbool1, if_pos, if_neg, if_true, if_false, Int.neg_neg, Int.sub_zero, Int.add_zero, Int.zero_add, true_and, and_true, false_and, and_false, false_or, or_false, true_or, or_true, ne_eq, not_false_eq_true, not_true_eq_false]
          · have hM0 := hM
            clear hM
            have hM := hM1
            rcases hb with rfl | rfl
            · simp only [show ¬ ((0 : Int) = 1) by omega, if_false] at *
              simp (disch := omega) only [f_X12_put, b_X12_put_66, krcv (kM.y hM), kM.o26 hM, kaI (kM.a108 hM), X12_in, X12_isDrawer, eR, e7, e9, e10, e11, ki_0, ki_1, ki_2, ki_3, ki_4, ki_5, ki_6, ki_7, ki_8, ki_9, ki_10, ki_11, ki_12, ki_13, ki_18, ki_20, ki_24, ki_32, ki_36, ki_45, ki_47, ki_48, ki_50, ki_57, ki_60, ki_63, ki_99, ki_100, ki_101, ki_120, ki_255, ki_468, ki_1000, ki_1024, ki_13849, ki_25173, ki_65535, ki_65536, ki_100000, ki_100001, ki_2147483647, ki_2147483648, kl_0, kl_1, kl_2, kl_9223372036854775808, ki_add, ki_sub, ki_mul, ki_neg, kl_add, kl_sub, kl_mul, kl_neg, ki_i2l, kl_l2i, ki_lt, ki_le, ki_eq, kcmp_eq, kcmp_lt, kcmp_le, kcmp_gt, kcmp_ge, Option.bind_some, Option.map_some, kbool0, kbool1, if_pos, if_neg, if_true, if_false, Int.neg_neg, Int.sub_zero, Int.add_zero, Int.zero_add, true_and, and_true, false_and, and_false, false_or, or_false, true_or, or_true, ne_eq, not_false_eq_true, not_true_eq_false]
            · simp only [if_true] at *
              simp (disch := omega) only [f_X12_put, b_X12_put_66, krcv (kM.y hM), kM.o26 hM, kaI (kM.a108 hM), X12_in, X12_isDrawer, eR, e7, e8, e10, e11, ki_0, ki_1, ki_2, ki_3, ki_4, ki_5, ki_6, ki_7, ki_8, ki_9, ki_10, ki_11, ki_12, ki_13, ki_18, ki_20, ki_24, ki_32, ki_36, ki_45, ki_47, ki_48, ki_50, ki_57, ki_60, ki_63, ki_99, ki_100, ki_101, ki_120, ki_255, ki_468, ki_1000, ki_1024, ki_13849, ki_25173, ki_65535, ki_65536, ki_100000, ki_100001, ki_2147483647, ki_2147483648, kl_0, kl_1, kl_2, kl_9223372036854775808, ki_add, ki_sub, ki_mul, ki_neg, kl_add, kl_sub, kl_mul, kl_neg, ki_i2l, kl_l2i, ki_lt, ki_le, ki_eq, kcmp_eq, kcmp_lt, kcmp_le, kcmp_gt, kcmp_ge, Option.bind_some, Option.map_some, kbool0, kbool1, if_pos, if_neg, if_true, if_false, Int.neg_neg, Int.sub_zero, Int.add_zero, Int.zero_add, true_and, and_true, false_and, and_false, false_or, or_false, true_or, or_true, ne_eq, not_false_eq_true, not_true_eq_false]
        · rw [if_neg hv] at e4 e5
          refine ⟨(ki (-101), μ), (ki (-101), μ), ?_, fun _ => rfl, ?_, rfl, h⟩ <;> simp (disch := omega) only [f_X11_put, f_X12_put, b_X12_put_66, krcv (kX.y1 hX), kX.o1_3 hX, kS.gd (kX.now hX), kS.gt (kX.now hX), X11_within, X11_isDrawer, f_X11_isFilled, b_X11_isFilled_27, b_X11_isFilled_26, f_X11_isRow, b_X11_isRow_35, b_X11_isRow_34, f_X11_isPart, b_X11_isPart_14, b_X11_isPart_9, krcv (kM.y hM), kM.o26 hM, kaI (kM.a108 hM), X12_in, X12_isDrawer, kT.gr hT, krcv hT.y, hR, e1, e2, e4, e5, ki_0, ki_1, ki_2, ki_3, ki_4, ki_5, ki_6, ki_7, ki_8, ki_9, ki_10, ki_11, ki_12, ki_13, ki_18, ki_20, ki_24, ki_32, ki_36, ki_45, ki_47, ki_48, ki_50, ki_57, ki_60, ki_63, ki_99, ki_100, ki_101, ki_120, ki_255, ki_468, ki_1000, ki_1024, ki_13849, ki_25173, ki_65535, ki_65536, ki_100000, ki_100001, ki_2147483647, ki_2147483648, kl_0, kl_1, kl_2, kl_9223372036854775808, ki_add, ki_sub, ki_mul, ki_neg, kl_add, kl_sub, kl_mul, kl_neg, ki_i2l, kl_l2i, ki_lt, ki_le, ki_eq, kcmp_eq, kcmp_lt, kcmp_le, kcmp_gt, kcmp_ge, Option.bind_some, Option.map_some, kbool0, kbool1, if_pos, if_neg, if_true, if_false, Int.neg_neg, Int.sub_zero, Int.add_zero, Int.zero_add, true_and, and_true, false_and, and_false, false_or, or_false, true_or, or_true, ne_eq, not_false_eq_true, not_true_eq_false]
      · rw [if_neg hg] at e1 e2
        refine ⟨(ki (-99), μ), (ki (-99), μ), ?_, fun _ => rfl, ?_, rfl, h⟩ <;> simp (disch := omega) only [f_X11_put, f_X12_put, b_X12_put_66, krcv (kX.y1 hX), kX.o1_3 hX, kS.gd (kX.now hX), kS.gt (kX.now hX), X11_within, X11_isDrawer, f_X11_isFilled, b_X11_isFilled_27, b_X11_isFilled_26, f_X11_isRow, b_X11_isRow_35, b_X11_isRow_34, f_X11_isPart, b_X11_isPart_14, b_X11_isPart_9, krcv (kM.y hM), kM.o26 hM, kaI (kM.a108 hM), X12_in, X12_isDrawer, kT.gr hT, krcv hT.y, hR, e1, e2, ki_0, ki_1, ki_2, ki_3, ki_4, ki_5, ki_6, ki_7, ki_8, ki_9, ki_10, ki_11, ki_12, ki_13, ki_18, ki_20, ki_24, ki_32, ki_36, ki_45, ki_47, ki_48, ki_50, ki_57, ki_60, ki_63, ki_99, ki_100, ki_101, ki_120, ki_255, ki_468, ki_1000, ki_1024, ki_13849, ki_25173, ki_65535, ki_65536, ki_100000, ki_100001, ki_2147483647, ki_2147483648, kl_0, kl_1, kl_2, kl_9223372036854775808, ki_add, ki_sub, ki_mul, ki_neg, kl_add, kl_sub, kl_mul, kl_neg, ki_i2l, kl_l2i, ki_lt, ki_le, ki_eq, kcmp_eq, kcmp_lt, kcmp_le, kcmp_gt, kcmp_ge, Option.bind_some, Option.map_some, kbool0, kbool1, if_pos, if_neg, if_true, if_false, Int.neg_neg, Int.sub_zero, Int.add_zero, Int.zero_add, true_and, and_true, false_and, and_false, false_or, or_false, true_or, or_true, ne_eq, not_false_eq_true, not_true_eq_false]
  · refine ⟨(ki (-99), μ), (ki (-99), μ), ?_, fun _ => rfl, ?_, rfl, h⟩ <;> simp (disch := omega) only [f_X11_put, f_X12_put, b_X12_put_66, krcv (kX.y1 hX), kX.o1_3 hX, kS.gd (kX.now hX), kS.gt (kX.now hX), X11_within, X11_isDrawer, f_X11_isFilled, b_X11_isFilled_27, b_X11_isFilled_26, f_X11_isRow, b_X11_isRow_35, b_X11_isRow_34, f_X11_isPart, b_X11_isPart_14, b_X11_isPart_9, krcv (kM.y hM), kM.o26 hM, kaI (kM.a108 hM), X12_in, X12_isDrawer, ki_0, ki_1, ki_2, ki_3, ki_4, ki_5, ki_6, ki_7, ki_8, ki_9, ki_10, ki_11, ki_12, ki_13, ki_18, ki_20, ki_24, ki_32, ki_36, ki_45, ki_47, ki_48, ki_50, ki_57, ki_60, ki_63, ki_99, ki_100, ki_101, ki_120, ki_255, ki_468, ki_1000, ki_1024, ki_13849, ki_25173, ki_65535, ki_65536, ki_100000, ki_100001, ki_2147483647, ki_2147483648, kl_0, kl_1, kl_2, kl_9223372036854775808, ki_add, ki_sub, ki_mul, ki_neg, kl_add, kl_sub, kl_mul, kl_neg, ki_i2l, kl_l2i, ki_lt, ki_le, ki_eq, kcmp_eq, kcmp_lt, kcmp_le, kcmp_gt, kcmp_ge, Option.bind_some, Option.map_some, kbool0, kbool1, if_pos, if_neg, if_true, if_false, Int.neg_neg, Int.sub_zero, Int.add_zero, Int.zero_add, true_and, and_true, false_and, and_false, false_or, or_false, true_or, or_true, ne_eq, not_false_eq_true, not_true_eq_false]
