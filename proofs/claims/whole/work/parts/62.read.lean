/-! OPS: letter, read -/
def ansT (t : List Int) (k : Int) : Int := if k = -1 then (t.length : Int) else if k < t.length then at0 t k.toNat else -3
theorem ltM.ans {Y : jY} {μ : jM} {t : List Int} {w : Int} (hM : kM Y μ) (ht : ltM μ t w) (hl : t.length ≤ 60) (w1 : -1 ≤ w) (w2 : w ≤ 2147483647) {α : Type} (f : Int32 → jM → Option α) : (if ki w = ki (-1) then (jgI Y μ 95 12 22).bind fun x4 => f x4 μ else (jgI Y μ 95 12 22).bind fun x2 => if x2 ≤ ki w then f (ki (-3)) μ else (jgI Y μ 95 12 24).bind fun x3 => f x3 μ) = f (ki (ansT t w)) μ := by
  have g := kM.g22 hM
  have g4 := kM.g24 hM
  rw [ht.1] at g
  unfold ansT
  by_cases e : w = -1
  · simp (disch := omega) only [g, ki_0, ki_1, ki_2, ki_3, ki_4, ki_5, ki_6, ki_7, ki_8, ki_9, ki_10, ki_11, ki_12, ki_13, ki_18, ki_20, ki_24, ki_32, ki_36, ki_45, ki_47, ki_48, ki_50, ki_57, ki_60, ki_63, ki_99, ki_100, ki_101, ki_120, ki_255, ki_468, ki_1000, ki_1024, ki_13849, ki_25173, ki_65535, ki_65536, ki_100000, ki_100001, ki_2147483647, ki_2147483648, kl_0, kl_1, kl_2, kl_9223372036854775808, ki_add, ki_sub, ki_mul, ki_neg, kl_add, kl_sub, kl_mul, kl_neg, ki_i2l, kl_l2i, ki_lt, ki_le, ki_eq, kcmp_eq, kcmp_lt, kcmp_le, kcmp_gt, kcmp_ge, Option.bind_some, Option.map_some, kbool0, kbool1, if_pos, if_neg, if_true, if_false, Int.neg_neg, Int.sub_zero, Int.add_zero, Int.zero_add, true_and, and_true, false_and, and_false, false_or, or_false, true_or, or_true, ne_eq, not_false_eq_true, not_true_eq_false]
  · by_cases e2 : w < t.length
    · rw [ht.2.2 (by omega) e2] at g4
      simp (disch := omega) only [g, g4, ki_0, ki_1, ki_2, ki_3, ki_4, ki_5, ki_6, ki_7, ki_8, ki_9, ki_10, ki_11, ki_12, ki_13, ki_18, ki_20, ki_24, ki_32, ki_36, ki_45, ki_47, ki_48, ki_50, ki_57, ki_60, ki_63, ki_99, ki_100, ki_101, ki_120, ki_255, ki_468, ki_1000, ki_1024, ki_13849, ki_25173, ki_65535, ki_65536, ki_100000, ki_100001, ki_2147483647, ki_2147483648, kl_0, kl_1, kl_2, kl_9223372036854775808, ki_add, ki_sub, ki_mul, ki_neg, kl_add, kl_sub, kl_mul, kl_neg, ki_i2l, kl_l2i, ki_lt, ki_le, ki_eq, kcmp_eq, kcmp_lt, kcmp_le, kcmp_gt, kcmp_ge, Option.bind_some, Option.map_some, kbool0, kbool1, if_pos, if_neg, if_true, if_false, Int.neg_neg, Int.sub_zero, Int.add_zero, Int.zero_add, true_and, and_true, false_and, and_false, false_or, or_false, true_or, or_true, ne_eq, not_false_eq_true, not_true_eq_false]
    · simp (disch := omega) only [g, ki_0, ki_1, ki_2, ki_3, ki_4, ki_5, ki_6, ki_7, ki_8, ki_9, ki_10, ki_11, ki_12, ki_13, ki_18, ki_20, ki_24, ki_32, ki_36, ki_45, ki_47, ki_48, ki_50, ki_57, ki_60, ki_63, ki_99, ki_100, ki_101, ki_120, ki_255, ki_468, ki_1000, ki_1024, ki_13849, ki_25173, ki_65535, ki_65536, ki_100000, ki_100001, ki_2147483647, ki_2147483648, kl_0, kl_1, kl_2, kl_9223372036854775808, ki_add, ki_sub, ki_mul, ki_neg, kl_add, kl_sub, kl_mul, kl_neg, ki_i2l, kl_l2i, ki_lt, ki_le, ki_eq, kcmp_eq, kcmp_lt, kcmp_le, kcmp_gt, kcmp_ge, Option.bind_some, Option.map_some, kbool0, kbool1, if_pos, if_neg, if_true, if_false, Int.neg_neg, Int.sub_zero, Int.add_zero, Int.zero_add, true_and, and_true, false_and, and_false, false_or, or_false, true_or, or_true, ne_eq, not_false_eq_true, not_true_eq_false]
theorem ltM.start {Y : jY} {μ : jM} (hM : kM Y μ) {w : Int} (w1 : -1 ≤ w) (w2 : w ≤ 2147483647) : kW μ (jw (jw μ 95 22 (.int (ki 0))) 95 23 (.int (ki w))) ∧ ltM (jw (jw μ 95 22 (.int (ki 0))) 95 23 (.int (ki w))) [] w := by
  have k1 : kW μ (jw μ 95 22 (.int (ki 0))) := kW.jw hM.i22 (by omega)
  have k2 : kW (jw μ 95 22 (.int (ki 0))) (jw (jw μ 95 22 (.int (ki 0))) 95 23 (.int (ki w))) := kW.jw (hM.to k1.1).i23 (by omega)
  refine ⟨k1.trans k2, ?_, ?_, fun p q => ?_⟩
  · rw [gi_jw _ _ (by omega) (by omega), if_neg (by omega), gi_jw _ _ (by omega) (by omega), if_pos ⟨rfl, rfl⟩]
    rfl
  · rw [gi_jw _ _ (by omega) (by omega), if_pos ⟨rfl, rfl⟩]
  · exact absurd q (by show ¬ (w < ((0 : Nat) : Int)); omega)
theorem kW.gi10 {a b : jM} (h : kW a b) : gi b 95 10 = gi a 95 10 := gi_slot (k := 10) (h.2 10 (by omega) (by omega) (by omega))
set_option maxHeartbeats 1000000 in
theorem X12_letter1 {Y : jY} {μ : jM} (hM : kM Y μ) {N w : Int} {g k : Int → Int} (e0 : gi μ 95 10 = N) (h1 : 1 ≤ N) (h4 : N ≤ 4) (hg : ∀ x : Int, 0 ≤ x → x < N → gi μ 99 x = g x ∧ -9 ≤ g x ∧ g x ≤ 99) (hk : ∀ x : Int, 0 ≤ x → x < N - 1 → gi μ 100 x = k x ∧ -9 ≤ k x ∧ k x ≤ 99) (w1 : -1 ≤ w) (w2 : w ≤ 2147483647) (ht : ltM μ [] w) : ∃ ν, jit jF (fun (s : Int32 × jM) => b_X12_letter_26 Y 95 (ki w) s.1 s.2) ((0 : Int32), μ) = some (ki (ansT (textT g k N.toNat (N - 1).toNat) w), ν) ∧ kW μ ν := by
  have main : ∃ r, jit jF (fun (s : Int32 × jM) => b_X12_letter_26 Y 95 (ki w) s.1 s.2) ((0 : Int32), μ) = some r ∧ r.1 = ki (ansT (textT g k N.toNat (N - 1).toNat) w) ∧ kW μ r.2 := by
    refine jit_inv (f := fun (s : Int32 × jM) => b_X12_letter_26 Y 95 (ki w) s.1 s.2) (fun i z => z.1 = ki i ∧ kW μ z.2 ∧ ltM z.2 (rowT g i) w) _ N.toNat (s := ((0 : Int32), μ)) ⟨rfl, kW.refl, ht⟩ (by omega) (fun i z hi hz => ?_)
    obtain ⟨v, ν⟩ := z
    obtain ⟨rfl, z1, z2⟩ := hz
    simp only [] at z1 z2
    have hM1 := hM.to z1.1
    have g10 := kM.g10 hM1
    rw [z1.gi10, e0] at g10
    have hrl := rowT_len (g := g) i (fun x hx => (hg x (by omega) (by omega)).2.1)
    by_cases e : i = N.toNat
    · obtain ⟨ν1, c1, k1, t1⟩ := X12_writes hM1 z2 (b := 47) (by omega) (by omega) (by omega) w1 w2
      have inner : ∃ r, jit jF (fun (s : Int32 × jM) => b_X12_letter_68 Y 95 (ki w) s.1 s.2) ((0 : Int32), ν1) = some r ∧ r.1 = ki (ansT (textT g k N.toNat (N - 1).toNat) w) ∧ kW μ r.2 := by
        refine jit_inv (f := fun (s : Int32 × jM) => b_X12_letter_68 Y 95 (ki w) s.1 s.2) (fun j z => z.1 = ki j ∧ kW μ z.2 ∧ ltM z.2 (rowT g N.toNat ++ [47] ++ rowT k j) w) _ (N - 1).toNat (s := ((0 : Int32), ν1)) ⟨rfl, z1.trans k1, by show ltM ν1 (rowT g N.toNat ++ [47] ++ []) w; rw [List.append_nil, ← e]; exact t1⟩ (by omega) (fun j z hj hz => ?_)
        obtain ⟨v, ξ⟩ := z
        obtain ⟨rfl, y1, y2⟩ := hz
        simp only [] at y1 y2
        have hMx := hM.to y1.1
        have gx := kM.g10 hMx
        rw [y1.gi10, e0] at gx
        have hrj := rowT_len (g := k) j (fun x hx => (hk x (by omega) (by omega)).2.1)
        rw [e] at hrl
        have hlen : (rowT g N.toNat ++ [47] ++ rowT k j).length ≤ 3 * N.toNat + 1 + 3 * j := by rw [List.length_append, List.length_append, List.length_singleton]; omega
        by_cases f : j = (N - 1).toNat
        · refine ⟨.inr (ki (ansT (textT g k N.toNat (N - 1).toNat) w), ξ), ?_, rfl, y1⟩
          have A := ltM.ans hMx y2 (by omega) w1 w2 (fun x μ => (b_X12_letter_133 Y x μ).map (fun r => (.inr r : (Int32 × jM) ⊕ (Int32 × jM))))
          rw [f] at A
          have E : b_X12_letter_68 Y 95 (ki w) (ki j) ξ = (if ki w = ki (-1) then (jgI Y ξ 95 12 22).bind fun x4 => (b_X12_letter_133 Y x4 ξ).map (fun r => (.inr r)) else (jgI Y ξ 95 12 22).bind fun x2 => if x2 ≤ ki w then (b_X12_letter_133 Y (ki (-3)) ξ).map (fun r => (.inr r)) else (jgI Y ξ 95 12 24).bind fun x3 => (b_X12_letter_133 Y x3 ξ).map (fun r => (.inr r))) := by
            unfold b_X12_letter_68
            rw [gx, Option.bind_some, if_pos (by simp (disch := omega) only [ki_0, ki_1, ki_2, ki_3, ki_4, ki_5, ki_6, ki_7, ki_8, ki_9, ki_10, ki_11, ki_12, ki_13, ki_18, ki_20, ki_24, ki_32, ki_36, ki_45, ki_47, ki_48, ki_50, ki_57, ki_60, ki_63, ki_99, ki_100, ki_101, ki_120, ki_255, ki_468, ki_1000, ki_1024, ki_13849, ki_25173, ki_65535, ki_65536, ki_100000, ki_100001, ki_2147483647, ki_2147483648, kl_0, kl_1, kl_2, kl_9223372036854775808, ki_add, ki_sub, ki_mul, ki_neg, kl_add, kl_sub, kl_mul, kl_neg, ki_i2l, kl_l2i, ki_lt, ki_le, ki_eq, kcmp_eq, kcmp_lt, kcmp_le, kcmp_gt, kcmp_ge, Option.bind_some, Option.map_some, kbool0, kbool1, if_pos, if_neg, if_true, if_false, Int.neg_neg, Int.sub_zero, Int.add_zero, Int.zero_add, true_and, and_true, false_and, and_false, false_or, or_false, true_or, or_true, ne_eq, not_false_eq_true, not_true_eq_false]; omega)]
            rfl
          simp only [E]
          rw [A]
          rfl
        · have q := kaI (kM.a100 hMx) (x := (j : Int)) (by omega) (by omega)
          rw [y1.1.gi (by omega), (hk j (by omega) (by omega)).1] at q
          have hkj := hk j (by omega) (by omega)
          by_cases f0 : j = 0
          · obtain ⟨ν2, c2, k2, t2⟩ := X12_writesNumber hMx y2 (v := k j) (by omega) (by omega) (by omega) w1 w2
            refine ⟨.inl (ki ((j + 1 : Nat) : Int), ν2), ?_, by omega, rfl, y1.trans k2, ?_⟩
            · simp (disch := omega) only [b_X12_letter_68, b_X12_letter_88, gx, q, kM.o12 hMx, krcv (kM.y hM), c2, ki_0, ki_1, ki_2, ki_3, ki_4, ki_5, ki_6, ki_7, ki_8, ki_9, ki_10, ki_11, ki_12, ki_13, ki_18, ki_20, ki_24, ki_32, ki_36, ki_45, ki_47, ki_48, ki_50, ki_57, ki_60, ki_63, ki_99, ki_100, ki_101, ki_120, ki_255, ki_468, ki_1000, ki_1024, ki_13849, ki_25173, ki_65535, ki_65536, ki_100000, ki_100001, ki_2147483647, ki_2147483648, kl_0, kl_1, kl_2, kl_9223372036854775808, ki_add, ki_sub, ki_mul, ki_neg, kl_add, kl_sub, kl_mul, kl_neg, ki_i2l, kl_l2i, ki_lt, ki_le, ki_eq, kcmp_eq, kcmp_lt, kcmp_le, kcmp_gt, kcmp_ge, Option.bind_some, Option.map_some, kbool0, kbool1, if_pos, if_neg, if_true, if_false, Int.neg_neg, Int.sub_zero, Int.add_zero, Int.zero_add, true_and, and_true, false_and, and_false, false_or, or_false, true_or, or_true, ne_eq, not_false_eq_true, not_true_eq_false, Int.natCast_add, Int.natCast_one]
            · show ltM ν2 (rowT g N.toNat ++ [47] ++ rowT k (j + 1)) w
              rw [rowT, if_pos f0, ← List.append_assoc]
              exact t2
          · obtain ⟨ν3, c3, k3, t3⟩ := X12_writes hMx y2 (b := 32) (by omega) (by omega) (by omega) w1 w2
            have hM3 := hMx.to k3.1
            have q3 := kaI (kM.a100 hM3) (x := (j : Int)) (by omega) (by omega)
            rw [k3.1.gi (by omega), y1.1.gi (by omega), hkj.1] at q3
            obtain ⟨ν2, c2, k2, t2⟩ := X12_writesNumber hM3 t3 (v := k j) (by rw [List.length_append, List.length_singleton]; omega) (by omega) (by omega) w1 w2
            refine ⟨.inl (ki ((j + 1 : Nat) : Int), ν2), ?_, by omega, rfl, (y1.trans k3).trans k2, ?_⟩
            · simp (disch := omega) only [b_X12_letter_68, b_X12_letter_88, gx, q3, kM.o12 hM3, krcv (kM.y hM), c3, c2, ki_0, ki_1, ki_2, ki_3, ki_4, ki_5, ki_6, ki_7, ki_8, ki_9, ki_10, ki_11, ki_12, ki_13, ki_18, ki_20, ki_24, ki_32, ki_36, ki_45, ki_47, ki_48, ki_50, ki_57, ki_60, ki_63, ki_99, ki_100, ki_101, ki_120, ki_255, ki_468, ki_1000, ki_1024, ki_13849, ki_25173, ki_65535, ki_65536, ki_100000, ki_100001, ki_2147483647, ki_2147483648, kl_0, kl_1, kl_2, kl_9223372036854775808, ki_add, ki_sub, ki_mul, ki_neg, kl_add, kl_sub, kl_mul, kl_neg, ki_i2l, kl_l2i, ki_lt, ki_le, ki_eq, kcmp_eq, kcmp_lt, kcmp_le, kcmp_gt, kcmp_ge, Option.bind_some, Option.map_some, kbool0, kbool1, if_pos, if_neg, if_true, if_false, Int.neg_neg, Int.sub_zero, Int.add_zero, Int.zero_add, true_and, and_true, false_and, and_false, false_or, or_false, true_or, or_true, ne_eq, not_false_eq_true, not_true_eq_false, Int.natCast_add, Int.natCast_one]
            · show ltM ν2 (rowT g N.toNat ++ [47] ++ rowT k (j + 1)) w
              rw [rowT, if_neg f0, ← List.append_assoc, ← List.append_assoc]
              exact t2
      obtain ⟨r, f1, f2, f3⟩ := inner
      refine ⟨.inr r, ?_, f2, f3⟩
      have E : b_X12_letter_26 Y 95 (ki w) (ki i) ν = (jit jF (fun (s : Int32 × jM) => b_X12_letter_68 Y 95 (ki w) s.1 s.2) ((0 : Int32), ν1)).map (fun r => (.inr r)) := by
        simp (disch := omega) only [b_X12_letter_26, g10, krcv (kM.y hM), c1, ki_0, ki_1, ki_2, ki_3, ki_4, ki_5, ki_6, ki_7, ki_8, ki_9, ki_10, ki_11, ki_12, ki_13, ki_18, ki_20, ki_24, ki_32, ki_36, ki_45, ki_47, ki_48, ki_50, ki_57, ki_60, ki_63, ki_99, ki_100, ki_101, ki_120, ki_255, ki_468, ki_1000, ki_1024, ki_13849, ki_25173, ki_65535, ki_65536, ki_100000, ki_100001, ki_2147483647, ki_2147483648, kl_0, kl_1, kl_2, kl_9223372036854775808, ki_add, ki_sub, ki_mul, ki_neg, kl_add, kl_sub, kl_mul, kl_neg, ki_i2l, kl_l2i, ki_lt, ki_le, ki_eq, kcmp_eq, kcmp_lt, kcmp_le, kcmp_gt, kcmp_ge, Option.bind_some, Option.map_some, kbool0, kbool1, if_pos, if_neg, if_true, if_false, Int.neg_neg, Int.sub_zero, Int.add_zero, Int.zero_add, true_and, and_true, false_and, and_false, false_or, or_false, true_or, or_true, ne_eq, not_false_eq_true, not_true_eq_false]
      simp only [E, f1]
      rfl
    · have q := kaI (kM.a99 hM1) (x := (i : Int)) (by omega) (by omega)
      have hgi := hg i (by omega) (by omega)
      rw [z1.1.gi (by omega), hgi.1] at q
      by_cases f0 : i = 0
      · obtain ⟨ν2, c2, k2, t2⟩ := X12_writesNumber hM1 z2 (v := g i) (by omega) (by omega) (by omega) w1 w2
        refine ⟨.inl (ki ((i + 1 : Nat) : Int), ν2), ?_, by omega, rfl, z1.trans k2, ?_⟩
        · simp (disch := omega) only [b_X12_letter_26, b_X12_letter_44, g10, q, kM.o11 hM1, krcv (kM.y hM), c2, ki_0, ki_1, ki_2, ki_3, ki_4, ki_5, ki_6, ki_7, ki_8, ki_9, ki_10, ki_11, ki_12, ki_13, ki_18, ki_20, ki_24, ki_32, ki_36, ki_45, ki_47, ki_48, ki_50, ki_57, ki_60, ki_63, ki_99, ki_100, ki_101, ki_120, ki_255, ki_468, ki_1000, ki_1024, ki_13849, ki_25173, ki_65535, ki_65536, ki_100000, ki_100001, ki_2147483647, ki_2147483648, kl_0, kl_1, kl_2, kl_9223372036854775808, ki_add, ki_sub, ki_mul, ki_neg, kl_add, kl_sub, kl_mul, kl_neg, ki_i2l, kl_l2i, ki_lt, ki_le, ki_eq, kcmp_eq, kcmp_lt, kcmp_le, kcmp_gt, kcmp_ge, Option.bind_some, Option.map_some, kbool0, kbool1, if_pos, if_neg, if_true, if_false, Int.neg_neg, Int.sub_zero, Int.add_zero, Int.zero_add, true_and, and_true, false_and, and_false, false_or, or_false, true_or, or_true, ne_eq, not_false_eq_true, not_true_eq_false, Int.natCast_add, Int.natCast_one]
        · show ltM ν2 (rowT g (i + 1)) w
          rw [rowT, if_pos f0]
          exact t2
      · obtain ⟨ν3, c3, k3, t3⟩ := X12_writes hM1 z2 (b := 32) (by omega) (by omega) (by omega) w1 w2
        have hM3 := hM1.to k3.1
        have q3 := kaI (kM.a99 hM3) (x := (i : Int)) (by omega) (by omega)
        rw [k3.1.gi (by omega), z1.1.gi (by omega), hgi.1] at q3
        obtain ⟨ν2, c2, k2, t2⟩ := X12_writesNumber hM3 t3 (v := g i) (by rw [List.length_append, List.length_singleton]; omega) (by omega) (by omega) w1 w2
        refine ⟨.inl (ki ((i + 1 : Nat) : Int), ν2), ?_, by omega, rfl, (z1.trans k3).trans k2, ?_⟩
        · simp (disch := omega) only [b_X12_letter_26, b_X12_letter_44, g10, q3, kM.o11 hM3, krcv (kM.y hM), c3, c2, ki_0, ki_1, ki_2, ki_3, ki_4, ki_5, ki_6, ki_7, ki_8, ki_9, ki_10, ki_11, ki_12, ki_13, ki_18, ki_20, ki_24, ki_32, ki_36, ki_45, ki_47, ki_48, ki_50, ki_57, ki_60, ki_63, ki_99, ki_100, ki_101, ki_120, ki_255, ki_468, ki_1000, ki_1024, ki_13849, ki_25173, ki_65535, ki_65536, ki_100000, ki_100001, ki_2147483647, ki_2147483648, kl_0, kl_1, kl_2, kl_9223372036854775808, ki_add, ki_sub, ki_mul, ki_neg, kl_add, kl_sub, kl_mul, kl_neg, ki_i2l, kl_l2i, ki_lt, ki_le, ki_eq, kcmp_eq, kcmp_lt, kcmp_le, kcmp_gt, kcmp_ge, Option.bind_some, Option.map_some, kbool0, kbool1, if_pos, if_neg, if_true, if_false, Int.neg_neg, Int.sub_zero, Int.add_zero, Int.zero_add, true_and, and_true, false_and, and_false, false_or, or_false, true_or, or_true, ne_eq, not_false_eq_true, not_true_eq_false, Int.natCast_add, Int.natCast_one]
        · show ltM ν2 (rowT g (i + 1)) w
          rw [rowT, if_neg f0]
          exact t2
  obtain ⟨⟨r1, r2⟩, e, f1, f2⟩ := main
  simp only [] at f1 f2
  exact ⟨r2, by rw [e, f1], f2⟩
theorem textT_len {g k : Int → Int} {n m : Nat} (hn : n ≤ 5) (hm : m ≤ 4) (hg : ∀ x : Nat, x < n → -9 ≤ g x) (hk : ∀ x : Nat, x < m → -9 ≤ k x) : (textT g k n m).length ≤ 60 := by
  have a := rowT_len n hg
  have b := rowT_len m hk
  unfold textT
  rw [List.length_append, List.length_append, List.length_singleton]
  omega
theorem kP.of_letters {μ μ' : jM} (h : kF 7 9 μ μ') : kP μ μ' := kP.of_reader (h.mono (by omega) (by omega))
theorem ok_letter {L : Nat} {xs : Nat → Int32} {n : Nat} {Y : jY} {μ : jM} (h : Inv L xs n Y μ) : so_letter (Inv L xs) n Y μ := by
  have hX := h.x
  have hM := h.m
  intro a1
  obtain ⟨w, w1, w2, rfl⟩ := ki_is a1
  obtain ⟨q1, q2, q3, q4, q5⟩ := h.q
  have e0 := X11_hasTones hX
  have g := kM.g10 hM
  have gx := kN.gr hX.n10
  rw [q1] at e0 gx
  by_cases hz : gi μ 95 10 = 0
  · refine ⟨(ki (-1), μ), (ki (-1), μ), ?_, fun _ => rfl, ?_, rfl, h⟩
    · simp (disch := omega) only [f_X11_letter, b_X11_letter_12, krcv (kX.y1 hX), e0, ki_0, ki_1, ki_2, ki_3, ki_4, ki_5, ki_6, ki_7, ki_8, ki_9, ki_10, ki_11, ki_12, ki_13, ki_18, ki_20, ki_24, ki_32, ki_36, ki_45, ki_47, ki_48, ki_50, ki_57, ki_60, ki_63, ki_99, ki_100, ki_101, ki_120, ki_255, ki_468, ki_1000, ki_1024, ki_13849, ki_25173, ki_65535, ki_65536, ki_100000, ki_100001, ki_2147483647, ki_2147483648, kl_0, kl_1, kl_2, kl_9223372036854775808, ki_add, ki_sub, ki_mul, ki_neg, kl_add, kl_sub, kl_mul, kl_neg, ki_i2l, kl_l2i, ki_lt, ki_le, ki_eq, kcmp_eq, kcmp_lt, kcmp_le, kcmp_gt, kcmp_ge, Option.bind_some, Option.map_some, kbool0, kbool1, if_pos, if_neg, if_true, if_false, Int.neg_neg, Int.sub_zero, Int.add_zero, Int.zero_add, true_and, and_true, false_and, and_false, false_or, or_false, true_or, or_true, ne_eq, not_false_eq_true, not_true_eq_false]
    · simp (disch := omega) only [f_X12_letter, b_X12_letter_12, g, ki_0, ki_1, ki_2, ki_3, ki_4, ki_5, ki_6, ki_7, ki_8, ki_9, ki_10, ki_11, ki_12, ki_13, ki_18, ki_20, ki_24, ki_32, ki_36, ki_45, ki_47, ki_48, ki_50, ki_57, ki_60, ki_63, ki_99, ki_100, ki_101, ki_120, ki_255, ki_468, ki_1000, ki_1024, ki_13849, ki_25173, ki_65535, ki_65536, ki_100000, ki_100001, ki_2147483647, ki_2147483648, kl_0, kl_1, kl_2, kl_9223372036854775808, ki_add, ki_sub, ki_mul, ki_neg, kl_add, kl_sub, kl_mul, kl_neg, ki_i2l, kl_l2i, ki_lt, ki_le, ki_eq, kcmp_eq, kcmp_lt, kcmp_le, kcmp_gt, kcmp_ge, Option.bind_some, Option.map_some, kbool0, kbool1, if_pos, if_neg, if_true, if_false, Int.neg_neg, Int.sub_zero, Int.add_zero, Int.zero_add, true_and, and_true, false_and, and_false, false_or, or_false, true_or, or_true, ne_eq, not_false_eq_true, not_true_eq_false]
  · by_cases hw : -1 ≤ w
    · have R2 : ∀ x : Int, 0 ≤ x → x < gi μ 95 10 - 1 → -9 ≤ gi μ 100 x ∧ gi μ 100 x ≤ 99 := fun x a c => by have := q5 x a c; have := q4 x a (by omega); have := q4 (x + 1) (by omega) (by omega); omega
      obtain ⟨ν1, c1, k1, t1⟩ := X2_tell hX hX.n10.aa hX.n10.ac (by omega) (by omega) (g := gi μ 99) (k := gi μ 100) (c := gi μ 95 10) (by omega) (by omega) (by omega) (by omega) (fun x a c => ⟨(q4 x a c).1, by have := q4 x a c; omega, by have := q4 x a c; omega⟩) (fun x a c => ⟨(q5 x a c).1, R2 x a c⟩)
      have hl : (textT (gi μ 99) (gi μ 100) (gi μ 95 10).toNat (gi μ 95 10 - 1).toNat).length ≤ 60 := textT_len (by omega) (by omega) (fun x hx => by have := q4 x (by omega) (by omega); omega) (fun x hx => (R2 x (by omega) (by omega)).1)
      have c2 := X2_at (hX.to k1) t1 hl hw w2
      have hM1 := hM.to k1
      have g1 := kM.g10 hM1
      rw [k1.gi (by omega)] at g1
      obtain ⟨s1, s2⟩ := ltM.start hM1 hw w2
      obtain ⟨ν2, c3, k3⟩ := X12_letter1 (hM1.to s1.1) (N := gi μ 95 10) (w := w) (g := gi μ 99) (k := gi μ 100) (by rw [s1.gi10, k1.gi (by omega)]) (by omega) q3 (fun x a c => by rw [s1.1.gi (by omega), k1.gi (by omega)]; have := q4 x a c; omega) (fun x a c => by rw [s1.1.gi (by omega), k1.gi (by omega)]; exact ⟨rfl, R2 x a c⟩) hw w2 s2
      refine ⟨(ki (ansT (textT (gi μ 99) (gi μ 100) (gi μ 95 10).toNat (gi μ 95 10 - 1).toNat) w), ν1), (_, ν2), ?_, fun j => ?_, ?_, rfl, h.to ((kP.of_letters k1).trans (s1.kP.trans k3.kP))⟩
      · unfold ansT
        simp (disch := omega) only [f_X11_letter, krcv (kX.y1 hX), kX.o1_2 hX, kX.o1_3 hX, kS.gn (kX.now hX), kN.ga hX.n10, kN.gc hX.n10, gx, krcv (kX.y7 hX), e0, c1, kX.o1_2 (hX.to k1), c2, ki_0, ki_1, ki_2, ki_3, ki_4, ki_5, ki_6, ki_7, ki_8, ki_9, ki_10, ki_11, ki_12, ki_13, ki_18, ki_20, ki_24, ki_32, ki_36, ki_45, ki_47, ki_48, ki_50, ki_57, ki_60, ki_63, ki_99, ki_100, ki_101, ki_120, ki_255, ki_468, ki_1000, ki_1024, ki_13849, ki_25173, ki_65535, ki_65536, ki_100000, ki_100001, ki_2147483647, ki_2147483648, kl_0, kl_1, kl_2, kl_9223372036854775808, ki_add, ki_sub, ki_mul, ki_neg, kl_add, kl_sub, kl_mul, kl_neg, ki_i2l, kl_l2i, ki_lt, ki_le, ki_eq, kcmp_eq, kcmp_lt, kcmp_le, kcmp_gt, kcmp_ge, Option.bind_some, Option.map_some, kbool0, kbool1, if_pos, if_neg, if_true, if_false, Int.neg_neg, Int.sub_zero, Int.add_zero, Int.zero_add, true_and, and_true, false_and, and_false, false_or, or_false, true_or, or_true, ne_eq, not_false_eq_true, not_true_eq_false]
      · show ν1 0 j = μ 0 j
        rw [k1.1 0 (by omega)]
      · simp (disch := omega) only [f_X12_letter, g1, kM.p hM, ki_0, ki_1, ki_2, ki_3, ki_4, ki_5, ki_6, ki_7, ki_8, ki_9, ki_10, ki_11, ki_12, ki_13, ki_18, ki_20, ki_24, ki_32, ki_36, ki_45, ki_47, ki_48, ki_50, ki_57, ki_60, ki_63, ki_99, ki_100, ki_101, ki_120, ki_255, ki_468, ki_1000, ki_1024, ki_13849, ki_25173, ki_65535, ki_65536, ki_100000, ki_100001, ki_2147483647, ki_2147483648, kl_0, kl_1, kl_2, kl_9223372036854775808, ki_add, ki_sub, ki_mul, ki_neg, kl_add, kl_sub, kl_mul, kl_neg, ki_i2l, kl_l2i, ki_lt, ki_le, ki_eq, kcmp_eq, kcmp_lt, kcmp_le, kcmp_gt, kcmp_ge, Option.bind_some, Option.map_some, kbool0, kbool1, if_pos, if_neg, if_true, if_false, Int.neg_neg, Int.sub_zero, Int.add_zero, Int.zero_add, true_and, and_true, false_and, and_false, false_or, or_false, true_or, or_true, ne_eq, not_false_eq_true, not_true_eq_false]
        exact c3
    · refine ⟨(ki (-1), μ), (ki (-1), μ), ?_, fun _ => rfl, ?_, rfl, h⟩
      · simp (disch := omega) only [f_X11_letter, b_X11_letter_12, krcv (kX.y1 hX), e0, ki_0, ki_1, ki_2, ki_3, ki_4, ki_5, ki_6, ki_7, ki_8, ki_9, ki_10, ki_11, ki_12, ki_13, ki_18, ki_20, ki_24, ki_32, ki_36, ki_45, ki_47, ki_48, ki_50, ki_57, ki_60, ki_63, ki_99, ki_100, ki_101, ki_120, ki_255, ki_468, ki_1000, ki_1024, ki_13849, ki_25173, ki_65535, ki_65536, ki_100000, ki_100001, ki_2147483647, ki_2147483648, kl_0, kl_1, kl_2, kl_9223372036854775808, ki_add, ki_sub, ki_mul, ki_neg, kl_add, kl_sub, kl_mul, kl_neg, ki_i2l, kl_l2i, ki_lt, ki_le, ki_eq, kcmp_eq, kcmp_lt, kcmp_le, kcmp_gt, kcmp_ge, Option.bind_some, Option.map_some, kbool0, kbool1, if_pos, if_neg, if_true, if_false, Int.neg_neg, Int.sub_zero, Int.add_zero, Int.zero_add, true_and, and_true, false_and, and_false, false_or, or_false, true_or, or_true, ne_eq, not_false_eq_true, not_true_eq_false]
      · simp (disch := omega) only [f_X12_letter, b_X12_letter_12, g, ki_0, ki_1, ki_2, ki_3, ki_4, ki_5, ki_6, ki_7, ki_8, ki_9, ki_10, ki_11, ki_12, ki_13, ki_18, ki_20, ki_24, ki_32, ki_36, ki_45, ki_47, ki_48, ki_50, ki_57, ki_60, ki_63, ki_99, ki_100, ki_101, ki_120, ki_255, ki_468, ki_1000, ki_1024, ki_13849, ki_25173, ki_65535, ki_65536, ki_100000, ki_100001, ki_2147483647, ki_2147483648, kl_0, kl_1, kl_2, kl_9223372036854775808, ki_add, ki_sub, ki_mul, ki_neg, kl_add, kl_sub, kl_mul, kl_neg, ki_i2l, kl_l2i, ki_lt, ki_le, ki_eq, kcmp_eq, kcmp_lt, kcmp_le, kcmp_gt, kcmp_ge, Option.bind_some, Option.map_some, kbool0, kbool1, if_pos, if_neg, if_true, if_false, Int.neg_neg, Int.sub_zero, Int.add_zero, Int.zero_add, true_and, and_true, false_and, and_false, false_or, or_false, true_or, or_true, ne_eq, not_false_eq_true, not_true_eq_false]
set_option maxHeartbeats 1000000 in
theorem X12_read1 {Y : jY} {μ : jM} (hM : kM Y μ) {d N w : Int} (d0 : 0 ≤ d) (d3 : d ≤ 3) (e0 : gi μ 108 d = N) (h1 : 1 ≤ N) (h4 : N ≤ 5) (hg : ∀ x : Int, 0 ≤ x → x < N → -9 ≤ mA μ d x ∧ mA μ d x ≤ 99) (hk : ∀ x : Int, 0 ≤ x → x < N - 1 → -9 ≤ mC μ d x ∧ mC μ d x ≤ 99) (w1 : -1 ≤ w) (w2 : w ≤ 2147483647) (ht : ltM μ [] w) : ∃ ν, jit jF (fun (s : Int32 × jM) => b_X12_read_38 Y 95 (ki d) (ki w) s.1 s.2) ((0 : Int32), μ) = some (ki (ansT (textT (mA μ d) (mC μ d) N.toNat (N - 1).toNat) w), ν) ∧ kW μ ν := by
  have hgl : ∀ x : Int, 0 ≤ x → x < N → True := fun _ _ _ => trivial
  have main : ∃ r, jit jF (fun (s : Int32 × jM) => b_X12_read_38 Y 95 (ki d) (ki w) s.1 s.2) ((0 : Int32), μ) = some r ∧ r.1 = ki (ansT (textT (mA μ d) (mC μ d) N.toNat (N - 1).toNat) w) ∧ kW μ r.2 := by
    refine jit_inv (f := fun (s : Int32 × jM) => b_X12_read_38 Y 95 (ki d) (ki w) s.1 s.2) (fun i z => z.1 = ki i ∧ kW μ z.2 ∧ ltM z.2 (rowT (mA μ d) i) w) _ N.toNat (s := ((0 : Int32), μ)) ⟨rfl, kW.refl, ht⟩ (by omega) (fun i z hi hz => ?_)
    obtain ⟨v, ν⟩ := z
    obtain ⟨rfl, z1, z2⟩ := hz
    simp only [] at z1 z2
    have hM1 := hM.to z1.1
    have g10 := kaI (kM.a108 hM1) (x := d) (by omega) (by omega)
    rw [z1.1.gi (by omega), e0] at g10
    have hrl := rowT_len (g := mA μ d) i (fun x hx => (hg x (by omega) (by omega)).1)
    by_cases e : i = N.toNat
    · obtain ⟨ν1, c1, k1, t1⟩ := X12_writes hM1 z2 (b := 47) (by omega) (by omega) (by omega) w1 w2
      have inner : ∃ r, jit jF (fun (s : Int32 × jM) => b_X12_read_82 Y 95 (ki d) (ki w) s.1 s.2) ((0 : Int32), ν1) = some r ∧ r.1 = ki (ansT (textT (mA μ d) (mC μ d) N.toNat (N - 1).toNat) w) ∧ kW μ r.2 := by
        refine jit_inv (f := fun (s : Int32 × jM) => b_X12_read_82 Y 95 (ki d) (ki w) s.1 s.2) (fun j z => z.1 = ki j ∧ kW μ z.2 ∧ ltM z.2 (rowT (mA μ d) N.toNat ++ [47] ++ rowT (mC μ d) j) w) _ (N - 1).toNat (s := ((0 : Int32), ν1)) ⟨rfl, z1.trans k1, by show ltM ν1 (rowT (mA μ d) N.toNat ++ [47] ++ []) w; rw [List.append_nil, ← e]; exact t1⟩ (by omega) (fun j z hj hz => ?_)
        obtain ⟨v, ξ⟩ := z
        obtain ⟨rfl, y1, y2⟩ := hz
        simp only [] at y1 y2
        have hMx := hM.to y1.1
        have gx := kaI (kM.a108 hMx) (x := d) (by omega) (by omega)
        rw [y1.1.gi (by omega), e0] at gx
        have hrj := rowT_len (g := mC μ d) j (fun x hx => (hk x (by omega) (by omega)).1)
        rw [e] at hrl
        have hlen : (rowT (mA μ d) N.toNat ++ [47] ++ rowT (mC μ d) j).length ≤ 3 * N.toNat + 1 + 3 * j := by rw [List.length_append, List.length_append, List.length_singleton]; omega
        by_cases f : j = (N - 1).toNat
        · refine ⟨.inr (ki (ansT (textT (mA μ d) (mC μ d) N.toNat (N - 1).toNat) w), ξ), ?_, rfl, y1⟩
          have A := ltM.ans hMx y2 (by omega) w1 w2 (fun x μ => (b_X12_read_149 Y x μ).map (fun r => (.inr r : (Int32 × jM) ⊕ (Int32 × jM))))
          rw [f] at A
          have E : b_X12_read_82 Y 95 (ki d) (ki w) (ki j) ξ = (if ki w = ki (-1) then (jgI Y ξ 95 12 22).bind fun x4 => (b_X12_read_149 Y x4 ξ).map (fun r => (.inr r)) else (jgI Y ξ 95 12 22).bind fun x2 => if x2 ≤ ki w then (b_X12_read_149 Y (ki (-3)) ξ).map (fun r => (.inr r)) else (jgI Y ξ 95 12 24).bind fun x3 => (b_X12_read_149 Y x3 ξ).map (fun r => (.inr r))) := by
            unfold b_X12_read_82
            rw [kM.o26 hMx, Option.bind_some, gx, Option.bind_some, if_pos (by simp (disch := omega) only [ki_0, ki_1, ki_2, ki_3, ki_4, ki_5, ki_6, ki_7, ki_8, ki_9, ki_10, ki_11, ki_12, ki_13, ki_18, ki_20, ki_24, ki_32, ki_36, ki_45, ki_47, ki_48, ki_50, ki_57, ki_60, ki_63, ki_99, ki_100, ki_101, ki_120, ki_255, ki_468, ki_1000, ki_1024, ki_13849, ki_25173, ki_65535, ki_65536, ki_100000, ki_100001, ki_2147483647, ki_2147483648, kl_0, kl_1, kl_2, kl_9223372036854775808, ki_add, ki_sub, ki_mul, ki_neg, kl_add, kl_sub, kl_mul, kl_neg, ki_i2l, kl_l2i, ki_lt, ki_le, ki_eq, kcmp_eq, kcmp_lt, kcmp_le, kcmp_gt, kcmp_ge, Option.bind_some, Option.map_some, kbool0, kbool1, if_pos, if_neg, if_true, if_false, Int.neg_neg, Int.sub_zero, Int.add_zero, Int.zero_add, true_and, and_true, false_and, and_false, false_or, or_false, true_or, or_true, ne_eq, not_false_eq_true, not_true_eq_false]; omega)]
            rfl
          simp only [E]
          rw [A]
          rfl
        · have q := X12_c hMx (d := d) (i := j) d0 d3 (by omega) (by omega)
          have qe : mC ξ d j = mC μ d j := y1.1.gi (by omega) _
          rw [qe] at q
          have hkj := hk j (by omega) (by omega)
          by_cases f0 : j = 0
          · obtain ⟨ν2, c2, k2, t2⟩ := X12_writesNumber hMx y2 (v := mC μ d j) (by omega) (by omega) (by omega) w1 w2
            refine ⟨.inl (ki ((j + 1 : Nat) : Int), ν2), ?_, by omega, rfl, y1.trans k2, ?_⟩
            · simp (disch := omega) only [b_X12_read_82, b_X12_read_104, gx, q, kM.o26 hMx, krcv (kM.y hM), c2, ki_0, ki_1, ki_2, ki_3, ki_4, ki_5, ki_6, ki_7, ki_8, ki_9, ki_10, ki_11, ki_12, ki_13, ki_18, ki_20, ki_24, ki_32, ki_36, ki_45, ki_47, ki_48, ki_50, ki_57, ki_60, ki_63, ki_99, ki_100, ki_101, ki_120, ki_255, ki_468, ki_1000, ki_1024, ki_13849, ki_25173, ki_65535, ki_65536, ki_100000, ki_100001, ki_2147483647, ki_2147483648, kl_0, kl_1, kl_2, kl_9223372036854775808, ki_add, ki_sub, ki_mul, ki_neg, kl_add, kl_sub, kl_mul, kl_neg, ki_i2l, kl_l2i, ki_lt, ki_le, ki_eq, kcmp_eq, kcmp_lt, kcmp_le, kcmp_gt, kcmp_ge, Option.bind_some, Option.map_some, kbool0, kbool1, if_pos, if_neg, if_true, if_false, Int.neg_neg, Int.sub_zero, Int.add_zero, Int.zero_add, true_and, and_true, false_and, and_false, false_or, or_false, true_or, or_true, ne_eq, not_false_eq_true, not_true_eq_false, Int.natCast_add, Int.natCast_one]
            · show ltM ν2 (rowT (mA μ d) N.toNat ++ [47] ++ rowT (mC μ d) (j + 1)) w
              rw [rowT, if_pos f0, ← List.append_assoc]
              exact t2
          · obtain ⟨ν3, c3, k3, t3⟩ := X12_writes hMx y2 (b := 32) (by omega) (by omega) (by omega) w1 w2
            have hM3 := hMx.to k3.1
            have q3 := X12_c hM3 (d := d) (i := j) d0 d3 (by omega) (by omega)
            have qe3 : mC ν3 d j = mC μ d j := (k3.1.gi (by omega) _).trans qe
            rw [qe3] at q3
            obtain ⟨ν2, c2, k2, t2⟩ := X12_writesNumber hM3 t3 (v := mC μ d j) (by rw [List.length_append, List.length_singleton]; omega) (by omega) (by omega) w1 w2
            refine ⟨.inl (ki ((j + 1 : Nat) : Int), ν2), ?_, by omega, rfl, (y1.trans k3).trans k2, ?_⟩
            · simp (disch := omega) only [b_X12_read_82, b_X12_read_104, gx, q3, kM.o26 hMx, krcv (kM.y hM), c3, c2, ki_0, ki_1, ki_2, ki_3, ki_4, ki_5, ki_6, ki_7, ki_8, ki_9, ki_10, ki_11, ki_12, ki_13, ki_18, ki_20, ki_24, ki_32, ki_36, ki_45, ki_47, ki_48, ki_50, ki_57, ki_60, ki_63, ki_99, ki_100, ki_101, ki_120, ki_255, ki_468, ki_1000, ki_1024, ki_13849, ki_25173, ki_65535, ki_65536, ki_100000, ki_100001, ki_2147483647, ki_2147483648, kl_0, kl_1, kl_2, kl_9223372036854775808, ki_add, ki_sub, ki_mul, ki_neg, kl_add, kl_sub, kl_mul, kl_neg, ki_i2l, kl_l2i, ki_lt, ki_le, ki_eq, kcmp_eq, kcmp_lt, kcmp_le, kcmp_gt, kcmp_ge, Option.bind_some, Option.map_some, kbool0, kbool1, if_pos, if_neg, if_true, if_false, Int.neg_neg, Int.sub_zero, Int.add_zero, Int.zero_add, true_and, and_true, false_and, and_false, false_or, or_false, true_or, or_true, ne_eq, not_false_eq_true, not_true_eq_false, Int.natCast_add, Int.natCast_one]
            · show ltM ν2 (rowT (mA μ d) N.toNat ++ [47] ++ rowT (mC μ d) (j + 1)) w
              rw [rowT, if_neg f0, ← List.append_assoc, ← List.append_assoc]
              exact t2
      obtain ⟨r, f1, f2, f3⟩ := inner
      refine ⟨.inr r, ?_, f2, f3⟩
      have E : b_X12_read_38 Y 95 (ki d) (ki w) (ki i) ν = (jit jF (fun (s : Int32 × jM) => b_X12_read_82 Y 95 (ki d) (ki w) s.1 s.2) ((0 : Int32), ν1)).map (fun r => (.inr r)) := by
        simp (disch := omega) only [b_X12_read_38, g10, kM.o26 hM1, krcv (kM.y hM), c1, ki_0, ki_1, ki_2, ki_3, ki_4, ki_5, ki_6, ki_7, ki_8, ki_9, ki_10, ki_11, ki_12, ki_13, ki_18, ki_20, ki_24, ki_32, ki_36, ki_45, ki_47, ki_48, ki_50, ki_57, ki_60, ki_63, ki_99, ki_100, ki_101, ki_120, ki_255, ki_468, ki_1000, ki_1024, ki_13849, ki_25173, ki_65535, ki_65536, ki_100000, ki_100001, ki_2147483647, ki_2147483648, kl_0, kl_1, kl_2, kl_9223372036854775808, ki_add, ki_sub, ki_mul, ki_neg, kl_add, kl_sub, kl_mul, kl_neg, ki_i2l, kl_l2i, ki_lt, ki_le, ki_eq, kcmp_eq, kcmp_lt, kcmp_le, kcmp_gt, kcmp_ge, Option.bind_some, Option.map_some, kbool0, kbool1, if_pos, if_neg, if_true, if_false, Int.neg_neg, Int.sub_zero, Int.add_zero, Int.zero_add, true_and, and_true, false_and, and_false, false_or, or_false, true_or, or_true, ne_eq, not_false_eq_true, not_true_eq_false]
      simp only [E, f1]
      rfl
    · have q := X12_a hM1 (d := d) (i := i) d0 d3 (by omega) (by omega)
      have qe : mA ν d i = mA μ d i := z1.1.gi (by omega) _
      rw [qe] at q
      have hgi := hg i (by omega) (by omega)
      by_cases f0 : i = 0
      · obtain ⟨ν2, c2, k2, t2⟩ := X12_writesNumber hM1 z2 (v := mA μ d i) (by omega) (by omega) (by omega) w1 w2
        refine ⟨.inl (ki ((i + 1 : Nat) : Int), ν2), ?_, by omega, rfl, z1.trans k2, ?_⟩
        · simp (disch := omega) only [b_X12_read_38, b_X12_read_58, g10, q, kM.o26 hM1, krcv (kM.y hM), c2, ki_0, ki_1, ki_2, ki_3, ki_4, ki_5, ki_6, ki_7, ki_8, ki_9, ki_10, ki_11, ki_12, ki_13, ki_18, ki_20, ki_24, ki_32, ki_36, ki_45, ki_47, ki_48, ki_50, ki_57, ki_60, ki_63, ki_99, ki_100, ki_101, ki_120, ki_255, ki_468, ki_1000, ki_1024, ki_13849, ki_25173, ki_65535, ki_65536, ki_100000, ki_100001, ki_2147483647, ki_2147483648, kl_0, kl_1, kl_2, kl_9223372036854775808, ki_add, ki_sub, ki_mul, ki_neg, kl_add, kl_sub, kl_mul, kl_neg, ki_i2l, kl_l2i, ki_lt, ki_le, ki_eq, kcmp_eq, kcmp_lt, kcmp_le, kcmp_gt, kcmp_ge, Option.bind_some, Option.map_some, kbool0, kbool1, if_pos, if_neg, if_true, if_false, Int.neg_neg, Int.sub_zero, Int.add_zero, Int.zero_add, true_and, and_true, false_and, and_false, false_or, or_false, true_or, or_true, ne_eq, not_false_eq_true, not_true_eq_false, Int.natCast_add, Int.natCast_one]
        · show ltM ν2 (rowT (mA μ d) (i + 1)) w
          rw [rowT, if_pos f0]
          exact t2
      · obtain ⟨ν3, c3, k3, t3⟩ := X12_writes hM1 z2 (b := 32) (by omega) (by omega) (by omega) w1 w2
        have hM3 := hM1.to k3.1
        have q3 := X12_a hM3 (d := d) (i := i) d0 d3 (by omega) (by omega)
        have qe3 : mA ν3 d i = mA μ d i := (k3.1.gi (by omega) _).trans qe
        rw [qe3] at q3
        obtain ⟨ν2, c2, k2, t2⟩ := X12_writesNumber hM3 t3 (v := mA μ d i) (by rw [List.length_append, List.length_singleton]; omega) (by omega) (by omega) w1 w2
        refine ⟨.inl (ki ((i + 1 : Nat) : Int), ν2), ?_, by omega, rfl, (z1.trans k3).trans k2, ?_⟩
        · simp (disch := omega) only [b_X12_read_38, b_X12_read_58, g10, q3, kM.o26 hM1, krcv (kM.y hM), c3, c2, ki_0, ki_1, ki_2, ki_3, ki_4, ki_5, ki_6, ki_7, ki_8, ki_9, ki_10, ki_11, ki_12, ki_13, ki_18, ki_20, ki_24, ki_32, ki_36, ki_45, ki_47, ki_48, ki_50, ki_57, ki_60, ki_63, ki_99, ki_100, ki_101, ki_120, ki_255, ki_468, ki_1000, ki_1024, ki_13849, ki_25173, ki_65535, ki_65536, ki_100000, ki_100001, ki_2147483647, ki_2147483648, kl_0, kl_1, kl_2, kl_9223372036854775808, ki_add, ki_sub, ki_mul, ki_neg, kl_add, kl_sub, kl_mul, kl_neg, ki_i2l, kl_l2i, ki_lt, ki_le, ki_eq, kcmp_eq, kcmp_lt, kcmp_le, kcmp_gt, kcmp_ge, Option.bind_some, Option.map_some, kbool0, kbool1, if_pos, if_neg, if_true, if_false, Int.neg_neg, Int.sub_zero, Int.add_zero, Int.zero_add, true_and, and_true, false_and, and_false, false_or, or_false, true_or, or_true, ne_eq, not_false_eq_true, not_true_eq_false, Int.natCast_add, Int.natCast_one]
        · show ltM ν2 (rowT (mA μ d) (i + 1)) w
          rw [rowT, if_neg f0]
          exact t2
  obtain ⟨⟨r1, r2⟩, e, f1, f2⟩ := main
  simp only [] at f1 f2
  exact ⟨r2, by rw [e, f1], f2⟩
theorem ok_read {L : Nat} {xs : Nat → Int32} {n : Nat} {Y : jY} {μ : jM} (h : Inv L xs n Y μ) : so_read (Inv L xs) n Y μ := by
  have hX := h.x
  have hM := h.m
  intro a1 a2
  obtain ⟨d, d1, d2, rfl⟩ := ki_is a1
  obtain ⟨w, w1, w2, rfl⟩ := ki_is a2
  by_cases hd : 0 ≤ d ∧ d ≤ 3
  · obtain ⟨hT, hB, hMB, hR, hA, hC⟩ := h.d hd.1 hd.2; have hR0 := hMB.1; have hR5 := hMB.2.1
    by_cases hw : -1 ≤ w
    · by_cases hz : gi μ 108 d = 0
      · refine ⟨(ki (-2), μ), (ki (-2), μ), ?_, fun _ => rfl, ?_, rfl, h⟩ <;> simp (disch := omega) only [f_X11_read, b_X11_read_12, f_X12_read, b_X12_read_12, krcv (kX.y1 hX), kX.o1_3 hX, kS.gd (kX.now hX), kS.gt (kX.now hX), X11_within, X11_isDrawer, f_X11_isFilled, b_X11_isFilled_27, b_X11_isFilled_26, f_X11_isRow, b_X11_isRow_35, b_X11_isRow_34, f_X11_isPart, b_X11_isPart_14, b_X11_isPart_9, krcv (kM.y hM), kM.o26 hM, kaI (kM.a108 hM), X12_in, X12_isDrawer, kT.gr hT, krcv hT.y, hR, ki_0, ki_1, ki_2, ki_3, ki_4, ki_5, ki_6, ki_7, ki_8, ki_9, ki_10, ki_11, ki_12, ki_13, ki_18, ki_20, ki_24, ki_32, ki_36, ki_45, ki_47, ki_48, ki_50, ki_57, ki_60, ki_63, ki_99, ki_100, ki_101, ki_120, ki_255, ki_468, ki_1000, ki_1024, ki_13849, ki_25173, ki_65535, ki_65536, ki_100000, ki_100001, ki_2147483647, ki_2147483648, kl_0, kl_1, kl_2, kl_9223372036854775808, ki_add, ki_sub, ki_mul, ki_neg, kl_add, kl_sub, kl_mul, kl_neg, ki_i2l, kl_l2i, ki_lt, ki_le, ki_eq, kcmp_eq, kcmp_lt, kcmp_le, kcmp_gt, kcmp_ge, Option.bind_some, Option.map_some, kbool0, kbool1, if_pos, if_neg, if_true, if_false, Int.neg_neg, Int.sub_zero, Int.add_zero, Int.zero_add, true_and, and_true, false_and, and_false, false_or, or_false, true_or, or_true, ne_eq, not_false_eq_true, not_true_eq_false]
      · have R1 : ∀ x : Int, 0 ≤ x → x < gi μ 108 d → -9 ≤ mA μ d x ∧ mA μ d x ≤ 99 := fun x a c => by have := hMB.2.2.1 x a c; omega
        have R2 : ∀ x : Int, 0 ≤ x → x < gi μ 108 d - 1 → -9 ≤ mC μ d x ∧ mC μ d x ≤ 99 := fun x a c => by have := hMB.2.2.2 x a c; omega
        obtain ⟨ν1, c1, k1, t1⟩ := X2_tell hX hT.aa hT.ac (by omega) (by omega) (g := mA μ d) (k := mC μ d) (c := gi μ 108 d) (by omega) (by omega) (by omega) (by omega) (fun x a c => ⟨hA x a c, R1 x a c⟩) (fun x a c => ⟨hC x a c, R2 x a c⟩)
        have hl : (textT (mA μ d) (mC μ d) (gi μ 108 d).toNat (gi μ 108 d - 1).toNat).length ≤ 60 := textT_len (by omega) (by omega) (fun x hx => (R1 x (by omega) (by omega)).1) (fun x hx => (R2 x (by omega) (by omega)).1)
        have c2 := X2_at (hX.to k1) t1 hl hw w2
        have hM1 := hM.to k1
        have g1 := kaI (kM.a108 hM1) (x := d) (by omega) (by omega)
        rw [k1.gi (by omega)] at g1
        obtain ⟨s1, s2⟩ := ltM.start hM1 hw w2
        have eA : mA (jw (jw ν1 95 22 (.int (ki 0))) 95 23 (.int (ki w))) d = mA μ d := funext fun x => (s1.1.gi (by omega) _).trans (k1.gi (by omega) _)
        have eC : mC (jw (jw ν1 95 22 (.int (ki 0))) 95 23 (.int (ki w))) d = mC μ d := funext fun x => (s1.1.gi (by omega) _).trans (k1.gi (by omega) _)
        obtain ⟨ν2, c3, k3⟩ := X12_read1 (hM1.to s1.1) (d := d) (N := gi μ 108 d) (w := w) hd.1 hd.2 (by rw [s1.1.gi (by omega), k1.gi (by omega)]) (by omega) (by omega) (fun x a c => by rw [eA]; exact R1 x a c) (fun x a c => by rw [eC]; exact R2 x a c) hw w2 s2
        rw [eA, eC] at c3
        refine ⟨(ki (ansT (textT (mA μ d) (mC μ d) (gi μ 108 d).toNat (gi μ 108 d - 1).toNat) w), ν1), (_, ν2), ?_, fun j => ?_, ?_, rfl, h.to ((kP.of_letters k1).trans (s1.kP.trans k3.kP))⟩
        · unfold ansT
          simp (disch := omega) only [f_X11_read, b_X11_read_12, f_X12_read, b_X12_read_12, krcv (kX.y1 hX), kX.o1_3 hX, kS.gd (kX.now hX), kS.gt (kX.now hX), X11_within, X11_isDrawer, f_X11_isFilled, b_X11_isFilled_27, b_X11_isFilled_26, f_X11_isRow, b_X11_isRow_35, b_X11_isRow_34, f_X11_isPart, b_X11_isPart_14, b_X11_isPart_9, kX.o1_2 hX, kT.gr hT, kT.ga hT, kT.gc hT, hR, krcv (kX.y7 hX), c1, kX.o1_2 (hX.to k1), c2, ki_0, ki_1, ki_2, ki_3, ki_4, ki_5, ki_6, ki_7, ki_8, ki_9, ki_10, ki_11, ki_12, ki_13, ki_18, ki_20, ki_24, ki_32, ki_36, ki_45, ki_47, ki_48, ki_50, ki_57, ki_60, ki_63, ki_99, ki_100, ki_101, ki_120, ki_255, ki_468, ki_1000, ki_1024, ki_13849, ki_25173, ki_65535, ki_65536, ki_100000, ki_100001, ki_2147483647, ki_2147483648, kl_0, kl_1, kl_2, kl_9223372036854775808, ki_add, ki_sub, ki_mul, ki_neg, kl_add, kl_sub, kl_mul, kl_neg, ki_i2l, kl_l2i, ki_lt, ki_le, ki_eq, kcmp_eq, kcmp_lt, kcmp_le, kcmp_gt, kcmp_ge, Option.bind_some, Option.map_some, kbool0, kbool1, if_pos, if_neg, if_true, if_false, Int.neg_neg, Int.sub_zero, Int.add_zero, Int.zero_add, true_and, and_true, false_and, and_false, false_or, or_false, true_or, or_true, ne_eq, not_false_eq_true, not_true_eq_false]
        · show ν1 0 j = μ 0 j
          rw [k1.1 0 (by omega)]
        · simp (disch := omega) only [f_X11_read, b_X11_read_12, f_X12_read, b_X12_read_12, X12_in, X12_isDrawer, g1, kM.o26 hM1, kM.p hM, ki_0, ki_1, ki_2, ki_3, ki_4, ki_5, ki_6, ki_7, ki_8, ki_9, ki_10, ki_11, ki_12, ki_13, ki_18, ki_20, ki_24, ki_32, ki_36, ki_45, ki_47, ki_48, ki_50, ki_57, ki_60, ki_63, ki_99, ki_100, ki_101, ki_120, ki_255, ki_468, ki_1000, ki_1024, ki_13849, ki_25173, ki_65535, ki_65536, ki_100000, ki_100001, ki_2147483647, ki_2147483648, kl_0, kl_1, kl_2, kl_9223372036854775808, ki_add, ki_sub, ki_mul, ki_neg, kl_add, kl_sub, kl_mul, kl_neg, ki_i2l, kl_l2i, ki_lt, ki_le, ki_eq, kcmp_eq, kcmp_lt, kcmp_le, kcmp_gt, kcmp_ge, Option.bind_some, Option.map_some, kbool0, kbool1, if_pos, if_neg, if_true, if_false, Int.neg_neg, Int.sub_zero, Int.add_zero, Int.zero_add, true_and, and_true, false_and, and_false, false_or, or_false, true_or, or_true, ne_eq, not_false_eq_true, not_true_eq_false]
          exact c3
    · refine ⟨(ki (-1), μ), (ki (-1), μ), ?_, fun _ => rfl, ?_, rfl, h⟩ <;> simp (disch := omega) only [f_X11_read, b_X11_read_12, f_X12_read, b_X12_read_12, krcv (kX.y1 hX), kX.o1_3 hX, kS.gd (kX.now hX), kS.gt (kX.now hX), X11_within, X11_isDrawer, f_X11_isFilled, b_X11_isFilled_27, b_X11_isFilled_26, f_X11_isRow, b_X11_isRow_35, b_X11_isRow_34, f_X11_isPart, b_X11_isPart_14, b_X11_isPart_9, krcv (kM.y hM), kM.o26 hM, kaI (kM.a108 hM), X12_in, X12_isDrawer, kT.gr hT, krcv hT.y, hR, ki_0, ki_1, ki_2, ki_3, ki_4, ki_5, ki_6, ki_7, ki_8, ki_9, ki_10, ki_11, ki_12, ki_13, ki_18, ki_20, ki_24, ki_32, ki_36, ki_45, ki_47, ki_48, ki_50, ki_57, ki_60, ki_63, ki_99, ki_100, ki_101, ki_120, ki_255, ki_468, ki_1000, ki_1024, ki_13849, ki_25173, ki_65535, ki_65536, ki_100000, ki_100001, ki_2147483647, ki_2147483648, kl_0, kl_1, kl_2, kl_9223372036854775808, ki_add, ki_sub, ki_mul, ki_neg, kl_add, kl_sub, kl_mul, kl_neg, ki_i2l, kl_l2i, ki_lt, ki_le, ki_eq, kcmp_eq, kcmp_lt, kcmp_le, kcmp_gt, kcmp_ge, Option.bind_some, Option.map_some, kbool0, kbool1, if_pos, if_neg, if_true, if_false, Int.neg_neg, Int.sub_zero, Int.add_zero, Int.zero_add, true_and, and_true, false_and, and_false, false_or, or_false, true_or, or_true, ne_eq, not_false_eq_true, not_true_eq_false]
  · refine ⟨(ki (-1), μ), (ki (-1), μ), ?_, fun _ => rfl, ?_, rfl, h⟩ <;> simp (disch := omega) only [f_X11_read, b_X11_read_12, f_X12_read, b_X12_read_12, krcv (kX.y1 hX), kX.o1_3 hX, kS.gd (kX.now hX), kS.gt (kX.now hX), X11_within, X11_isDrawer, f_X11_isFilled, b_X11_isFilled_27, b_X11_isFilled_26, f_X11_isRow, b_X11_isRow_35, b_X11_isRow_34, f_X11_isPart, b_X11_isPart_14, b_X11_isPart_9, krcv (kM.y hM), kM.o26 hM, kaI (kM.a108 hM), X12_in, X12_isDrawer, ki_0, ki_1, ki_2, ki_3, ki_4, ki_5, ki_6, ki_7, ki_8, ki_9, ki_10, ki_11, ki_12, ki_13, ki_18, ki_20, ki_24, ki_32, ki_36, ki_45, ki_47, ki_48, ki_50, ki_57, ki_60, ki_63, ki_99, ki_100, ki_101, ki_120, ki_255, ki_468, ki_1000, ki_1024, ki_13849, ki_25173, ki_65535, ki_65536, ki_100000, ki_100001, ki_2147483647, ki_2147483648, kl_0, kl_1, kl_2, kl_9223372036854775808, ki_add, ki_sub, ki_mul, ki_neg, kl_add, kl_sub, kl_mul, kl_neg, ki_i2l, kl_l2i, ki_lt, ki_le, ki_eq, kcmp_eq, kcmp_lt, kcmp_le, kcmp_gt, kcmp_ge, Option.bind_some, Option.map_some, kbool0, kbool1, if_pos, if_neg, if_true, if_false, Int.neg_neg, Int.sub_zero, Int.add_zero, Int.zero_add, true_and, and_true, false_and, and_false, false_or, or_false, true_or, or_true, ne_eq, not_false_eq_true, not_true_eq_false]
