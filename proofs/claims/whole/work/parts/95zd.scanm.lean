/-! TEXTS: what the reference makes of a text -/
def rdy (Y : jY) (T : Int → Int) (L : Int) (ω : jM) : Prop := kM Y ω ∧ gi ω 95 3 = L ∧ (0 ≤ L ∧ L ≤ 60) ∧ (∀ x, 0 ≤ T x ∧ T x ≤ 255) ∧ ∀ x : Int, 0 ≤ x → x < L → gi ω 96 x % 256 = T x
def frK (μ ν : jM) : Prop := kF 95 96 μ ν ∧ ∀ j, j ≠ 2 → j ≠ 4 → j ≠ 5 → ν 95 j = μ 95 j
theorem frK.refl {μ : jM} : frK μ μ := ⟨kF.refl, fun _ _ _ _ => rfl⟩
theorem frK.trans {μ ν ω : jM} (h : frK μ ν) (k : frK ν ω) : frK μ ω := ⟨h.1.trans k.1, fun j a b c => by rw [k.2 j a b c, h.2 j a b c]⟩
def frR (μ ν : jM) : Prop := kF 95 99 μ ν ∧ ν 96 = μ 96 ∧ ∀ j, j ≠ 2 → j ≠ 4 → j ≠ 5 → j ≠ 8 → j ≠ 9 → ν 95 j = μ 95 j
theorem frR.refl {μ : jM} : frR μ μ := ⟨kF.refl, rfl, fun _ _ _ _ _ _ => rfl⟩
theorem frR.trans {μ ν ω : jM} (h : frR μ ν) (k : frR ν ω) : frR μ ω := ⟨h.1.trans k.1, by rw [k.2.1, h.2.1], fun j a b c d e => by rw [k.2.2 j a b c d e, h.2.2 j a b c d e]⟩
theorem frK.r {μ ν : jM} (h : frK μ ν) : frR μ ν := ⟨h.1.mono (by omega) (by omega), h.1.1 96 (by omega), fun j a b c _ _ => h.2 j a b c⟩
theorem frK.w {Y : jY} {μ : jM} (hM : kM Y μ) {k : Nat} (hk : k = 2 ∨ k = 4 ∨ k = 5) (v : Int) : frK μ (jw μ 95 k (.int (ki v))) := by
  have i : isI μ 95 k := by
    rcases hk with rfl | rfl | rfl
    · exact hM.i2
    · exact hM.i4
    · exact hM.i5
  exact ⟨kF_I i (by omega) (by omega), fun j a b c => by rw [jw_ne _ _ (by omega)]⟩
theorem rdy.to {Y : jY} {T : Int → Int} {L : Int} {ω ν : jM} (h : rdy Y T L ω) (k : frR ω ν) : rdy Y T L ν := by
  obtain ⟨h1, h2, h3, h4, h5⟩ := h
  have e : gi ν 95 3 = gi ω 95 3 := gi_slot (k := 3) (k.2.2 3 (by omega) (by omega) (by omega) (by omega) (by omega))
  exact ⟨h1.to k.1, e.trans h2, h3, h4, fun x a b => by rw [gi_cell k.2.1]; exact h5 x a b⟩
theorem X12_byteAt {Y : jY} {T : Int → Int} {L : Int} {ω : jM} (h : rdy Y T L ω) {x : Int} (x0 : 0 ≤ x) (x1 : x ≤ 100) : f_X12_byteAt Y 95 (ki x) ω = some (ki (if x < L then T x else -1), ω) := by
  obtain ⟨h1, h2, h3, h4, h5⟩ := h
  have g := kM.g3 h1
  rw [h2] at g
  by_cases c : x < L
  · rw [if_pos c]
    have a := kaB (kM.a96 h1) (x := x) x0 (by omega)
    have t := h5 x x0 c
    rw [← t]
    clear t
    generalize gi ω 96 x = v at *
    simp (disch := omega) only [f_X12_byteAt, b_X12_byteAt_22, g, kM.o0 h1, a, kmask8, ki_0, ki_1, ki_2, ki_3, ki_4, ki_5, ki_6, ki_7, ki_8, ki_9, ki_10, ki_11, ki_12, ki_13, ki_18, ki_20, ki_24, ki_32, ki_36, ki_45, ki_47, ki_48, ki_50, ki_57, ki_60, ki_63, ki_99, ki_100, ki_101, ki_120, ki_255, ki_468, ki_1000, ki_1024, ki_13849, ki_25173, ki_65535, ki_65536, ki_100000, ki_100001, ki_2147483647, ki_2147483648, kl_0, kl_1, kl_2, kl_9223372036854775808, ki_add, ki_sub, ki_mul, ki_neg, kl_add, kl_sub, kl_mul, kl_neg, ki_i2l, kl_l2i, ki_lt, ki_le, ki_eq, kcmp_eq, kcmp_lt, kcmp_le, kcmp_gt, kcmp_ge, Option.bind_some, Option.map_some, kbool0, kbool1, if_pos, if_neg, if_true, if_false, Int.neg_neg, Int.sub_zero, Int.add_zero, Int.zero_add, true_and, and_true, false_and, and_false, false_or, or_false, true_or, or_true, ne_eq, not_false_eq_true, not_true_eq_false]
  · rw [if_neg c]
    simp (disch := omega) only [f_X12_byteAt, b_X12_byteAt_22, g, ki_0, ki_1, ki_2, ki_3, ki_4, ki_5, ki_6, ki_7, ki_8, ki_9, ki_10, ki_11, ki_12, ki_13, ki_18, ki_20, ki_24, ki_32, ki_36, ki_45, ki_47, ki_48, ki_50, ki_57, ki_60, ki_63, ki_99, ki_100, ki_101, ki_120, ki_255, ki_468, ki_1000, ki_1024, ki_13849, ki_25173, ki_65535, ki_65536, ki_100000, ki_100001, ki_2147483647, ki_2147483648, kl_0, kl_1, kl_2, kl_9223372036854775808, ki_add, ki_sub, ki_mul, ki_neg, kl_add, kl_sub, kl_mul, kl_neg, ki_i2l, kl_l2i, ki_lt, ki_le, ki_eq, kcmp_eq, kcmp_lt, kcmp_le, kcmp_gt, kcmp_ge, Option.bind_some, Option.map_some, kbool0, kbool1, if_pos, if_neg, if_true, if_false, Int.neg_neg, Int.sub_zero, Int.add_zero, Int.zero_add, true_and, and_true, false_and, and_false, false_or, or_false, true_or, or_true, ne_eq, not_false_eq_true, not_true_eq_false]
theorem X12_isDig {Y : jY} {ω : jM} {c : Int} (c0 : -1000 ≤ c) (c1 : c ≤ 1000) : f_X12_isDigit Y (ki c) ω = some (ki (if 48 ≤ c ∧ c ≤ 57 then 1 else 0), ω) := by
  by_cases a : 48 ≤ c ∧ c ≤ 57
  · rw [if_pos a]
    simp (disch := omega) only [f_X12_isDigit, b_X12_isDigit_17, ki_0, ki_1, ki_2, ki_3, ki_4, ki_5, ki_6, ki_7, ki_8, ki_9, ki_10, ki_11, ki_12, ki_13, ki_18, ki_20, ki_24, ki_32, ki_36, ki_45, ki_47, ki_48, ki_50, ki_57, ki_60, ki_63, ki_99, ki_100, ki_101, ki_120, ki_255, ki_468, ki_1000, ki_1024, ki_13849, ki_25173, ki_65535, ki_65536, ki_100000, ki_100001, ki_2147483647, ki_2147483648, kl_0, kl_1, kl_2, kl_9223372036854775808, ki_add, ki_sub, ki_mul, ki_neg, kl_add, kl_sub, kl_mul, kl_neg, ki_i2l, kl_l2i, ki_lt, ki_le, ki_eq, kcmp_eq, kcmp_lt, kcmp_le, kcmp_gt, kcmp_ge, Option.bind_some, Option.map_some, kbool0, kbool1, if_pos, if_neg, if_true, if_false, Int.neg_neg, Int.sub_zero, Int.add_zero, Int.zero_add, true_and, and_true, false_and, and_false, false_or, or_false, true_or, or_true, ne_eq, not_false_eq_true, not_true_eq_false]
  · rw [if_neg a]
    by_cases b : c < 48
    · simp (disch := omega) only [f_X12_isDigit, b_X12_isDigit_16, b_X12_isDigit_17, ki_0, ki_1, ki_2, ki_3, ki_4, ki_5, ki_6, ki_7, ki_8, ki_9, ki_10, ki_11, ki_12, ki_13, ki_18, ki_20, ki_24, ki_32, ki_36, ki_45, ki_47, ki_48, ki_50, ki_57, ki_60, ki_63, ki_99, ki_100, ki_101, ki_120, ki_255, ki_468, ki_1000, ki_1024, ki_13849, ki_25173, ki_65535, ki_65536, ki_100000, ki_100001, ki_2147483647, ki_2147483648, kl_0, kl_1, kl_2, kl_9223372036854775808, ki_add, ki_sub, ki_mul, ki_neg, kl_add, kl_sub, kl_mul, kl_neg, ki_i2l, kl_l2i, ki_lt, ki_le, ki_eq, kcmp_eq, kcmp_lt, kcmp_le, kcmp_gt, kcmp_ge, Option.bind_some, Option.map_some, kbool0, kbool1, if_pos, if_neg, if_true, if_false, Int.neg_neg, Int.sub_zero, Int.add_zero, Int.zero_add, true_and, and_true, false_and, and_false, false_or, or_false, true_or, or_true, ne_eq, not_false_eq_true, not_true_eq_false]
    · simp (disch := omega) only [f_X12_isDigit, b_X12_isDigit_16, b_X12_isDigit_17, ki_0, ki_1, ki_2, ki_3, ki_4, ki_5, ki_6, ki_7, ki_8, ki_9, ki_10, ki_11, ki_12, ki_13, ki_18, ki_20, ki_24, ki_32, ki_36, ki_45, ki_47, ki_48, ki_50, ki_57, ki_60, ki_63, ki_99, ki_100, ki_101, ki_120, ki_255, ki_468, ki_1000, ki_1024, ki_13849, ki_25173, ki_65535, ki_65536, ki_100000, ki_100001, ki_2147483647, ki_2147483648, kl_0, kl_1, kl_2, kl_9223372036854775808, ki_add, ki_sub, ki_mul, ki_neg, kl_add, kl_sub, kl_mul, kl_neg, ki_i2l, kl_l2i, ki_lt, ki_le, ki_eq, kcmp_eq, kcmp_lt, kcmp_le, kcmp_gt, kcmp_ge, Option.bind_some, Option.map_some, kbool0, kbool1, if_pos, if_neg, if_true, if_false, Int.neg_neg, Int.sub_zero, Int.add_zero, Int.zero_add, true_and, and_true, false_and, and_false, false_or, or_false, true_or, or_true, ne_eq, not_false_eq_true, not_true_eq_false]
set_option maxHeartbeats 1000000 in
theorem X12_digLoop {Y : jY} {T : Int → Int} {L : Int} {ω : jM} (h : rdy Y T L ω) {s y e b : Int} {j : Nat} (s0 : 0 ≤ s) (sy : y = s + j) (ye : y ≤ e) (eL : e ≤ L) (hd : ∀ x, s ≤ x → x < e → 48 ≤ T x ∧ T x ≤ 57) (hn : e < L → ¬ (48 ≤ T e ∧ T e ≤ 57)) (hb : b = 0 ∨ b = 1) (e2 : gi ω 95 2 = y) (e5 : gi ω 95 5 = rv T s j) : ∃ ν, jit jF (fun (q : jM) => b_X12_token_152 Y 95 (ki b) q) ω = some (ki 1, ν) ∧ frK ω ν ∧ gi ν 95 2 = e ∧ gi ν 95 4 = gi ω 95 4 ∧ gi ν 95 5 = if b = 1 then -(rv T s (e - s).toNat) else rv T s (e - s).toNat := by
  have L6 := h.2.2.1
  obtain ⟨r, r1, ν, rfl, r2⟩ := jit_inv (f := fun (q : jM) => b_X12_token_152 Y 95 (ki b) q) (fun t z => frK ω z ∧ gi z 95 2 = y + t ∧ gi z 95 4 = gi ω 95 4 ∧ gi z 95 5 = rv T s (j + t)) (fun r => ∃ ν, r = (ki 1, ν) ∧ frK ω ν ∧ gi ν 95 2 = e ∧ gi ν 95 4 = gi ω 95 4 ∧ gi ν 95 5 = if b = 1 then -(rv T s (e - s).toNat) else rv T s (e - s).toNat) (e - y).toNat (s := ω) ⟨frK.refl, by omega, rfl, e5⟩ (by omega) (fun t z ht hz => by
    obtain ⟨z1, z2, z3, z4⟩ := hz
    have hz := h.to z1.r
    have h1 := hz.1
    have g2 := kM.g2 h1
    rw [z2] at g2
    have g5 := kM.g5 h1
    rw [z4] at g5
    obtain ⟨x, hx⟩ : ∃ x, x = y + (t : Int) := ⟨_, rfl⟩
    rw [← hx] at g2 z2
    have bt := X12_byteAt hz (x := x) (by omega) (by omega)
    have bn := (nv_rv (T := T) (s := s) (j + t) (fun x a b => hd x a (by omega))).1.2.2
    by_cases c : x < e
    · have dv := hd x (by omega) c
      rw [if_pos (by omega)] at bt
      have dg := X12_isDig (Y := Y) (ω := z) (c := T x) (by omega) (by omega)
      rw [if_pos dv] at dg
      have e1 : rv T s (j + (t + 1)) = if 99 < rv T s (j + t) then rv T s (j + t) else 10 * rv T s (j + t) + T (s + ((j + t : Nat) : Int)) - 48 := rfl
      rw [show s + ((j + t : Nat) : Int) = x by omega] at e1
      obtain ⟨w, hw⟩ : ∃ w, w = rv T s (j + (t + 1)) := ⟨_, rfl⟩
      rw [← hw] at e1 ⊢
      generalize rv T s (j + t) = m at *
      generalize T x = v at *
      have K1 := frK.w h1 (k := 5) (by omega) w
      have v1 := fun a => gj (μ := z) (k := 5) (v := w) a (by split at e1 <;> omega) (by split at e1 <;> omega)
      generalize hz1 : jw z 95 5 (.int (ki w)) = ζ1 at *
      have hM1 := h1.to K1.1
      have g2' := kM.g2 hM1
      rw [show gi ζ1 95 2 = x from by rw [v1]; exact z2] at g2'
      have K2 := frK.w hM1 (k := 2) (by omega) (x + 1)
      have v2 := fun a => gj (μ := ζ1) (k := 2) (v := x + 1) a (by omega) (by omega)
      generalize hz2 : jw ζ1 95 2 (.int (ki (x + 1))) = ζ2 at *
      refine ⟨.inl ζ2, ?_, by omega, (z1.trans K1).trans K2, ?_, ?_, ?_⟩
      · clear v1 v2 hd
        by_cases q : 99 < m
        · rw [if_pos q] at e1
          subst e1
          simp (disch := omega) only [b_X12_token_152, b_X12_token_202, b_X12_token_235, krcv h1.y, g2, bt, dg, g5, kM.p h1, hz1, g2', kM.p hM1, hz2, ki_0, ki_1, ki_2, ki_3, ki_4, ki_5, ki_6, ki_7, ki_8, ki_9, ki_10, ki_11, ki_12, ki_13, ki_18, ki_20, ki_24, ki_32, ki_36, ki_45, ki_47, ki_48, ki_50, ki_57, ki_60, ki_63, ki_99, ki_100, ki_101, ki_120, ki_255, ki_468, ki_1000, ki_1024, ki_13849, ki_25173, ki_65535, ki_65536, ki_100000, ki_100001, ki_2147483647, ki_2147483648, kl_0, kl_1, kl_2, kl_9223372036854775808, ki_add, ki_sub, ki_mul, ki_neg, kl_add, kl_sub, kl_mul, kl_neg, ki_i2l, kl_l2i, ki_lt, ki_le, ki_eq, kcmp_eq, kcmp_lt, kcmp_le, kcmp_gt, kcmp_ge, Option.bind_some, Option.map_some, kbool0, kbool1, if_pos, if_neg, if_true, if_false, Int.neg_neg, Int.sub_zero, Int.add_zero, Int.zero_add, true_and, and_true, false_and, and_false, false_or, or_false, true_or, or_true, ne_eq, not_false_eq_true, not_true_eq_false]
        · rw [if_neg q] at e1
          subst e1
          simp (disch := omega) only [b_X12_token_152, b_X12_token_202, b_X12_token_235, krcv h1.y, g2, bt, dg, g5, kM.p h1, hz1, g2', kM.p hM1, hz2, ki_0, ki_1, ki_2, ki_3, ki_4, ki_5, ki_6, ki_7, ki_8, ki_9, ki_10, ki_11, ki_12, ki_13, ki_18, ki_20, ki_24, ki_32, ki_36, ki_45, ki_47, ki_48, ki_50, ki_57, ki_60, ki_63, ki_99, ki_100, ki_101, ki_120, ki_255, ki_468, ki_1000, ki_1024, ki_13849, ki_25173, ki_65535, ki_65536, ki_100000, ki_100001, ki_2147483647, ki_2147483648, kl_0, kl_1, kl_2, kl_9223372036854775808, ki_add, ki_sub, ki_mul, ki_neg, kl_add, kl_sub, kl_mul, kl_neg, ki_i2l, kl_l2i, ki_lt, ki_le, ki_eq, kcmp_eq, kcmp_lt, kcmp_le, kcmp_gt, kcmp_ge, Option.bind_some, Option.map_some, kbool0, kbool1, if_pos, if_neg, if_true, if_false, Int.neg_neg, Int.sub_zero, Int.add_zero, Int.zero_add, true_and, and_true, false_and, and_false, false_or, or_false, true_or, or_true, ne_eq, not_false_eq_true, not_true_eq_false]
      · rw [v2]
        show x + 1 = _
        omega
      · rw [v2]
        exact (v1 4).trans z3
      · rw [v2]
        exact (v1 5).trans rfl
    · have ex : x = e := by omega
      subst ex
      obtain ⟨v, hv⟩ : ∃ v, v = (if x < L then T x else -1) := ⟨_, rfl⟩
      rw [← hv] at bt
      have tx := h.2.2.2.1 x
      have vb : -1 ≤ v ∧ v ≤ 255 := by
        rw [hv]
        split <;> omega
      have nd : ¬ (48 ≤ v ∧ v ≤ 57) := by
        by_cases q : x < L
        · rw [hv, if_pos q]; exact hn q
        · rw [hv, if_neg q]; omega
      clear hv
      have dg := X12_isDig (Y := Y) (ω := z) (c := v) (by omega) (by omega)
      rw [if_neg nd] at dg
      have et : j + t = (x - s).toNat := by omega
      rw [et] at g5 bn
      generalize rv T s (x - s).toNat = m at *
      have K1 := frK.w h1 (k := 5) (by omega) (if b = 1 then -m else m)
      have v1 := fun a => gj (μ := z) (k := 5) (v := if b = 1 then -m else m) a (by split <;> omega) (by split <;> omega)
      clear hd hn z4
      refine ⟨.inr (ki 1, jw z 95 5 (.int (ki (if b = 1 then -m else m)))), ?_, jw z 95 5 (.int (ki (if b = 1 then -m else m))), rfl, z1.trans K1, (v1 2).trans z2, (v1 4).trans z3, (v1 5).trans rfl⟩
      clear v1 K1
      rcases hb with rfl | rfl
      · rw [if_neg (by omega)]
        simp (disch := omega) only [b_X12_token_152, b_X12_token_202, b_X12_token_235, krcv h1.y, g2, bt, dg, g5, kM.p h1, ki_0, ki_1, ki_2, ki_3, ki_4, ki_5, ki_6, ki_7, ki_8, ki_9, ki_10, ki_11, ki_12, ki_13, ki_18, ki_20, ki_24, ki_32, ki_36, ki_45, ki_47, ki_48, ki_50, ki_57, ki_60, ki_63, ki_99, ki_100, ki_101, ki_120, ki_255, ki_468, ki_1000, ki_1024, ki_13849, ki_25173, ki_65535, ki_65536, ki_100000, ki_100001, ki_2147483647, ki_2147483648, kl_0, kl_1, kl_2, kl_9223372036854775808, ki_add, ki_sub, ki_mul, ki_neg, kl_add, kl_sub, kl_mul, kl_neg, ki_i2l, kl_l2i, ki_lt, ki_le, ki_eq, kcmp_eq, kcmp_lt, kcmp_le, kcmp_gt, kcmp_ge, Option.bind_some, Option.map_some, kbool0, kbool1, if_pos, if_neg, if_true, if_false, Int.neg_neg, Int.sub_zero, Int.add_zero, Int.zero_add, true_and, and_true, false_and, and_false, false_or, or_false, true_or, or_true, ne_eq, not_false_eq_true, not_true_eq_false]
      · rw [if_pos rfl]
        simp (disch := omega) only [b_X12_token_152, b_X12_token_202, b_X12_token_235, krcv h1.y, g2, bt, dg, g5, kM.p h1, ki_0, ki_1, ki_2, ki_3, ki_4, ki_5, ki_6, ki_7, ki_8, ki_9, ki_10, ki_11, ki_12, ki_13, ki_18, ki_20, ki_24, ki_32, ki_36, ki_45, ki_47, ki_48, ki_50, ki_57, ki_60, ki_63, ki_99, ki_100, ki_101, ki_120, ki_255, ki_468, ki_1000, ki_1024, ki_13849, ki_25173, ki_65535, ki_65536, ki_100000, ki_100001, ki_2147483647, ki_2147483648, kl_0, kl_1, kl_2, kl_9223372036854775808, ki_add, ki_sub, ki_mul, ki_neg, kl_add, kl_sub, kl_mul, kl_neg, ki_i2l, kl_l2i, ki_lt, ki_le, ki_eq, kcmp_eq, kcmp_lt, kcmp_le, kcmp_gt, kcmp_ge, Option.bind_some, Option.map_some, kbool0, kbool1, if_pos, if_neg, if_true, if_false, Int.neg_neg, Int.sub_zero, Int.add_zero, Int.zero_add, true_and, and_true, false_and, and_false, false_or, or_false, true_or, or_true, ne_eq, not_false_eq_true, not_true_eq_false])
  exact ⟨ν, r1, r2⟩
/-- a token that isn't a blank, nor the end -/
theorem X12_tokHead {Y : jY} {T : Int → Int} {L : Int} {ω : jM} (h : rdy Y T L ω) {a : Int} (a0 : 0 ≤ a) (aL : a < L) (e2 : gi ω 95 2 = a) (c : T a ≠ 32) : ∃ ν, frK ω ν ∧ gi ν 95 2 = a + 1 ∧ gi ν 95 4 = a ∧ (T a = 47 → b_X12_token_0 Y 95 ω = some (.inr (ki 2, ν))) ∧ (T a = 45 → ∀ w, w = (if a + 1 < L then T (a + 1) else -1) → (48 ≤ w ∧ w ≤ 57 → b_X12_token_0 Y 95 ω = (b_X12_token_93 Y 95 (ki 45) (ki 1) ν).map (fun r => (Sum.inr r : jM ⊕ (Int32 × jM)))) ∧ (¬ (48 ≤ w ∧ w ≤ 57) → b_X12_token_0 Y 95 ω = (b_X12_token_92 Y 95 (ki 45) ν).map (fun r => (Sum.inr r : jM ⊕ (Int32 × jM))))) ∧ (T a ≠ 45 → T a ≠ 47 → b_X12_token_0 Y 95 ω = (b_X12_token_92 Y 95 (ki (T a)) ν).map (fun r => (Sum.inr r : jM ⊕ (Int32 × jM)))) := by
  have hM := h.1
  have L6 := h.2.2.1
  have bv := h.2.2.2.1 a
  have g2 := kM.g2 hM
  rw [e2] at g2
  have bt := X12_byteAt h (x := a) a0 (by omega)
  rw [if_pos aL] at bt
  have K1 := frK.w hM (k := 4) (by omega) a
  have v1 := fun x => gj (μ := ω) (k := 4) (v := a) x (by omega) (by omega)
  generalize hω1 : jw ω 95 4 (.int (ki a)) = ω1 at *
  have h1 := h.to K1.r
  have hM1 := h1.1
  have g2a := kM.g2 hM1
  rw [show gi ω1 95 2 = a from by rw [v1]; exact e2] at g2a
  have bt1 := X12_byteAt h1 (x := a) a0 (by omega)
  rw [if_pos aL] at bt1
  have K2 := frK.w hM1 (k := 2) (by omega) (a + 1)
  have v2 := fun x => gj (μ := ω1) (k := 2) (v := a + 1) x (by omega) (by omega)
  generalize hω2 : jw ω1 95 2 (.int (ki (a + 1))) = ω2 at *
  have h2 := h1.to K2.r
  have hM2 := h2.1
  have g2b := kM.g2 hM2
  rw [show gi ω2 95 2 = a + 1 from by rw [v2]; rfl] at g2b
  have bt2 := X12_byteAt h2 (x := a + 1) (by omega) (by omega)
  have bw := h.2.2.2.1 (a + 1)
  have f2 : gi ω2 95 2 = a + 1 := by rw [v2]; rfl
  have f4 : gi ω2 95 4 = a := by rw [v2]; exact (v1 4).trans rfl
  clear v1 v2
  refine ⟨ω2, K1.trans K2, f2, f4, fun q => ?_, fun q w hw => ?_, fun q1 q2 => ?_⟩
  · rw [q] at bt bt1
    simp (disch := omega) only [b_X12_token_0, krcv hM.y, g2, bt, kM.p hM, hω1, g2a, bt1, kM.p hM1, hω2, ki_0, ki_1, ki_2, ki_3, ki_4, ki_5, ki_6, ki_7, ki_8, ki_9, ki_10, ki_11, ki_12, ki_13, ki_18, ki_20, ki_24, ki_32, ki_36, ki_45, ki_47, ki_48, ki_50, ki_57, ki_60, ki_63, ki_99, ki_100, ki_101, ki_120, ki_255, ki_468, ki_1000, ki_1024, ki_13849, ki_25173, ki_65535, ki_65536, ki_100000, ki_100001, ki_2147483647, ki_2147483648, kl_0, kl_1, kl_2, kl_9223372036854775808, ki_add, ki_sub, ki_mul, ki_neg, kl_add, kl_sub, kl_mul, kl_neg, ki_i2l, kl_l2i, ki_lt, ki_le, ki_eq, kcmp_eq, kcmp_lt, kcmp_le, kcmp_gt, kcmp_ge, Option.bind_some, Option.map_some, kbool0, kbool1, if_pos, if_neg, if_true, if_false, Int.neg_neg, Int.sub_zero, Int.add_zero, Int.zero_add, true_and, and_true, false_and, and_false, false_or, or_false, true_or, or_true, ne_eq, not_false_eq_true, not_true_eq_false]
  · rw [q] at bt bt1
    rw [← hw] at bt2
    have wb : -1 ≤ w ∧ w ≤ 255 := by
      rw [hw]
      split <;> omega
    have dg := X12_isDig (Y := Y) (ω := ω2) (c := w) (by omega) (by omega)
    clear hw
    constructor
    · intro d
      rw [if_pos d] at dg
      simp (disch := omega) only [b_X12_token_0, krcv hM.y, g2, bt, kM.p hM, hω1, g2a, bt1, kM.p hM1, hω2, g2b, bt2, dg, ki_0, ki_1, ki_2, ki_3, ki_4, ki_5, ki_6, ki_7, ki_8, ki_9, ki_10, ki_11, ki_12, ki_13, ki_18, ki_20, ki_24, ki_32, ki_36, ki_45, ki_47, ki_48, ki_50, ki_57, ki_60, ki_63, ki_99, ki_100, ki_101, ki_120, ki_255, ki_468, ki_1000, ki_1024, ki_13849, ki_25173, ki_65535, ki_65536, ki_100000, ki_100001, ki_2147483647, ki_2147483648, kl_0, kl_1, kl_2, kl_9223372036854775808, ki_add, ki_sub, ki_mul, ki_neg, kl_add, kl_sub, kl_mul, kl_neg, ki_i2l, kl_l2i, ki_lt, ki_le, ki_eq, kcmp_eq, kcmp_lt, kcmp_le, kcmp_gt, kcmp_ge, Option.bind_some, Option.map_some, kbool0, kbool1, if_pos, if_neg, if_true, if_false, Int.neg_neg, Int.sub_zero, Int.add_zero, Int.zero_add, true_and, and_true, false_and, and_false, false_or, or_false, true_or, or_true, ne_eq, not_false_eq_true, not_true_eq_false]
    · intro d
      rw [if_neg d] at dg
      simp (disch := omega) only [b_X12_token_0, krcv hM.y, g2, bt, kM.p hM, hω1, g2a, bt1, kM.p hM1, hω2, g2b, bt2, dg, ki_0, ki_1, ki_2, ki_3, ki_4, ki_5, ki_6, ki_7, ki_8, ki_9, ki_10, ki_11, ki_12, ki_13, ki_18, ki_20, ki_24, ki_32, ki_36, ki_45, ki_47, ki_48, ki_50, ki_57, ki_60, ki_63, ki_99, ki_100, ki_101, ki_120, ki_255, ki_468, ki_1000, ki_1024, ki_13849, ki_25173, ki_65535, ki_65536, ki_100000, ki_100001, ki_2147483647, ki_2147483648, kl_0, kl_1, kl_2, kl_9223372036854775808, ki_add, ki_sub, ki_mul, ki_neg, kl_add, kl_sub, kl_mul, kl_neg, ki_i2l, kl_l2i, ki_lt, ki_le, ki_eq, kcmp_eq, kcmp_lt, kcmp_le, kcmp_gt, kcmp_ge, Option.bind_some, Option.map_some, kbool0, kbool1, if_pos, if_neg, if_true, if_false, Int.neg_neg, Int.sub_zero, Int.add_zero, Int.zero_add, true_and, and_true, false_and, and_false, false_or, or_false, true_or, or_true, ne_eq, not_false_eq_true, not_true_eq_false]
  · generalize T a = v at *
    simp (disch := omega) only [b_X12_token_0, krcv hM.y, g2, bt, kM.p hM, hω1, g2a, bt1, kM.p hM1, hω2, ki_0, ki_1, ki_2, ki_3, ki_4, ki_5, ki_6, ki_7, ki_8, ki_9, ki_10, ki_11, ki_12, ki_13, ki_18, ki_20, ki_24, ki_32, ki_36, ki_45, ki_47, ki_48, ki_50, ki_57, ki_60, ki_63, ki_99, ki_100, ki_101, ki_120, ki_255, ki_468, ki_1000, ki_1024, ki_13849, ki_25173, ki_65535, ki_65536, ki_100000, ki_100001, ki_2147483647, ki_2147483648, kl_0, kl_1, kl_2, kl_9223372036854775808, ki_add, ki_sub, ki_mul, ki_neg, kl_add, kl_sub, kl_mul, kl_neg, ki_i2l, kl_l2i, ki_lt, ki_le, ki_eq, kcmp_eq, kcmp_lt, kcmp_le, kcmp_gt, kcmp_ge, Option.bind_some, Option.map_some, kbool0, kbool1, if_pos, if_neg, if_true, if_false, Int.neg_neg, Int.sub_zero, Int.add_zero, Int.zero_add, true_and, and_true, false_and, and_false, false_or, or_false, true_or, or_true, ne_eq, not_false_eq_true, not_true_eq_false]
theorem X12_tokBlank {Y : jY} {T : Int → Int} {L : Int} {ω : jM} (h : rdy Y T L ω) {a : Int} (a0 : 0 ≤ a) (aL : a < L) (e2 : gi ω 95 2 = a) (c : T a = 32) : ∃ ν, b_X12_token_0 Y 95 ω = some (.inl ν) ∧ frK ω ν ∧ gi ν 95 2 = a + 1 := by
  have hM := h.1
  have L6 := h.2.2.1
  have g2 := kM.g2 hM
  rw [e2] at g2
  have bt := X12_byteAt h (x := a) a0 (by omega)
  rw [if_pos aL, c] at bt
  have v1 := gj (μ := ω) (k := 2) (v := a + 1) 2 (by omega) (by omega)
  refine ⟨jw ω 95 2 (.int (ki (a + 1))), ?_, frK.w hM (by omega) _, v1.trans rfl⟩
  clear v1
  simp (disch := omega) only [b_X12_token_0, krcv hM.y, g2, bt, kM.p hM, ki_0, ki_1, ki_2, ki_3, ki_4, ki_5, ki_6, ki_7, ki_8, ki_9, ki_10, ki_11, ki_12, ki_13, ki_18, ki_20, ki_24, ki_32, ki_36, ki_45, ki_47, ki_48, ki_50, ki_57, ki_60, ki_63, ki_99, ki_100, ki_101, ki_120, ki_255, ki_468, ki_1000, ki_1024, ki_13849, ki_25173, ki_65535, ki_65536, ki_100000, ki_100001, ki_2147483647, ki_2147483648, kl_0, kl_1, kl_2, kl_9223372036854775808, ki_add, ki_sub, ki_mul, ki_neg, kl_add, kl_sub, kl_mul, kl_neg, ki_i2l, kl_l2i, ki_lt, ki_le, ki_eq, kcmp_eq, kcmp_lt, kcmp_le, kcmp_gt, kcmp_ge, Option.bind_some, Option.map_some, kbool0, kbool1, if_pos, if_neg, if_true, if_false, Int.neg_neg, Int.sub_zero, Int.add_zero, Int.zero_add, true_and, and_true, false_and, and_false, false_or, or_false, true_or, or_true, ne_eq, not_false_eq_true, not_true_eq_false]
theorem X12_tokEnd {Y : jY} {T : Int → Int} {L : Int} {ω : jM} (h : rdy Y T L ω) (e2 : gi ω 95 2 = L) : ∃ ν, b_X12_token_0 Y 95 ω = some (.inr (ki 0, ν)) ∧ frK ω ν ∧ gi ν 95 4 = L := by
  have hM := h.1
  have L6 := h.2.2.1
  have g2 := kM.g2 hM
  rw [e2] at g2
  have bt := X12_byteAt h (x := L) (by omega) (by omega)
  rw [if_neg (by omega)] at bt
  have K1 := frK.w hM (k := 4) (by omega) L
  have v1 := fun x => gj (μ := ω) (k := 4) (v := L) x (by omega) (by omega)
  generalize hω1 : jw ω 95 4 (.int (ki L)) = ω1 at *
  have h1 := h.to K1.r
  have g2a := kM.g2 h1.1
  rw [show gi ω1 95 2 = L from by rw [v1]; exact e2] at g2a
  have bt1 := X12_byteAt h1 (x := L) (by omega) (by omega)
  rw [if_neg (by omega)] at bt1
  refine ⟨ω1, ?_, K1, (v1 4).trans rfl⟩
  clear v1
  simp (disch := omega) only [b_X12_token_0, krcv hM.y, g2, bt, kM.p hM, hω1, g2a, bt1, ki_0, ki_1, ki_2, ki_3, ki_4, ki_5, ki_6, ki_7, ki_8, ki_9, ki_10, ki_11, ki_12, ki_13, ki_18, ki_20, ki_24, ki_32, ki_36, ki_45, ki_47, ki_48, ki_50, ki_57, ki_60, ki_63, ki_99, ki_100, ki_101, ki_120, ki_255, ki_468, ki_1000, ki_1024, ki_13849, ki_25173, ki_65535, ki_65536, ki_100000, ki_100001, ki_2147483647, ki_2147483648, kl_0, kl_1, kl_2, kl_9223372036854775808, ki_add, ki_sub, ki_mul, ki_neg, kl_add, kl_sub, kl_mul, kl_neg, ki_i2l, kl_l2i, ki_lt, ki_le, ki_eq, kcmp_eq, kcmp_lt, kcmp_le, kcmp_gt, kcmp_ge, Option.bind_some, Option.map_some, kbool0, kbool1, if_pos, if_neg, if_true, if_false, Int.neg_neg, Int.sub_zero, Int.add_zero, Int.zero_add, true_and, and_true, false_and, and_false, false_or, or_false, true_or, or_true, ne_eq, not_false_eq_true, not_true_eq_false]
def nmM (T : Int → Int) (a e : Int) : Int := if T a = 45 then -(rv T (a + 1) (e - (a + 1)).toNat) else rv T a (e - a).toNat
theorem X12_tokNum {Y : jY} {T : Int → Int} {L : Int} {ω : jM} (h : rdy Y T L ω) {a s e : Int} (a0 : 0 ≤ a) (aL : a < L) (e2 : gi ω 95 2 = a) (hs : s = if T a = 45 then a + 1 else a) (se : s < e) (eL : e ≤ L) (hd : ∀ x, s ≤ x → x < e → 48 ≤ T x ∧ T x ≤ 57) (hn : e < L → ¬ (48 ≤ T e ∧ T e ≤ 57)) (hb : T a = 45 → 0 < a → ¬ (48 ≤ T (a - 1) ∧ T (a - 1) ≤ 57)) : ∃ ν, b_X12_token_0 Y 95 ω = some (.inr (ki 1, ν)) ∧ frK ω ν ∧ gi ν 95 2 = e ∧ gi ν 95 4 = a ∧ gi ν 95 5 = nmM T a e := by
  have L6 := h.2.2.1
  unfold nmM
  by_cases c : T a = 45
  · rw [if_pos c] at hs ⊢
    subst hs
    obtain ⟨ω2, K2, f2, f4, _, H, _⟩ := X12_tokHead h a0 aL e2 (by omega)
    have dw := hd (a + 1) (by omega) se
    have H2 := (H c _ rfl).1
    rw [if_pos (by omega)] at H2
    have H3 := H2 dw
    have h2 := h.to K2.r
    have hM2 := h2.1
    have K3 := frK.w hM2 (k := 5) (by omega) 0
    have v3 := fun x => gj (μ := ω2) (k := 5) (v := 0) x (by omega) (by omega)
    generalize hω3 : jw ω2 95 5 (.int (ki 0)) = ω3 at *
    have h3 := h2.to K3.r
    obtain ⟨ν, r1, r2, r3, r4, r5⟩ := X12_digLoop (j := 0) (y := a + 1) (b := 1) h3 (s := a + 1) (by omega) (by omega) (by omega) eL hd hn (Or.inr rfl) (by rw [v3]; exact f2) (by rw [v3]; rfl)
    rw [if_pos rfl] at r5
    refine ⟨ν, ?_, (K2.trans K3).trans r2, r3, by rw [r4, v3]; exact f4, r5⟩
    rw [H3]
    have g4 := kM.g4 hM2
    rw [f4] at g4
    have dg := X12_isDig (Y := Y) (ω := ω2) (c := 45) (by omega) (by omega)
    rw [if_neg (by omega)] at dg
    have E : b_X12_token_93 Y 95 (ki 45) (ki 1) ω2 = jit jF (fun (q : jM) => b_X12_token_152 Y 95 (ki 1) q) ω3 := by
      clear r1 hd hn H H2 H3 v3
      by_cases q : 0 < a
      · have bt := X12_byteAt h2 (x := a - 1) (by omega) (by omega)
        rw [if_pos (by omega)] at bt
        have nb := hb c q
        have tb := h.2.2.2.1 (a - 1)
        clear hb
        generalize T (a - 1) = v at *
        have dg2 := X12_isDig (Y := Y) (ω := ω2) (c := v) (by omega) (by omega)
        rw [if_neg nb] at dg2
        simp (disch := omega) only [b_X12_token_92, b_X12_token_93, b_X12_token_107, b_X12_token_136, b_X12_token_149, dg, g4, krcv hM2.y, bt, dg2, kM.p hM2, hω3, ki_0, ki_1, ki_2, ki_3, ki_4, ki_5, ki_6, ki_7, ki_8, ki_9, ki_10, ki_11, ki_12, ki_13, ki_18, ki_20, ki_24, ki_32, ki_36, ki_45, ki_47, ki_48, ki_50, ki_57, ki_60, ki_63, ki_99, ki_100, ki_101, ki_120, ki_255, ki_468, ki_1000, ki_1024, ki_13849, ki_25173, ki_65535, ki_65536, ki_100000, ki_100001, ki_2147483647, ki_2147483648, kl_0, kl_1, kl_2, kl_9223372036854775808, ki_add, ki_sub, ki_mul, ki_neg, kl_add, kl_sub, kl_mul, kl_neg, ki_i2l, kl_l2i, ki_lt, ki_le, ki_eq, kcmp_eq, kcmp_lt, kcmp_le, kcmp_gt, kcmp_ge, Option.bind_some, Option.map_some, kbool0, kbool1, if_pos, if_neg, if_true, if_false, Int.neg_neg, Int.sub_zero, Int.add_zero, Int.zero_add, true_and, and_true, false_and, and_false, false_or, or_false, true_or, or_true, ne_eq, not_false_eq_true, not_true_eq_false]
      · clear hb
        simp (disch := omega) only [b_X12_token_92, b_X12_token_93, b_X12_token_107, b_X12_token_136, b_X12_token_149, dg, g4, kM.p hM2, hω3, ki_0, ki_1, ki_2, ki_3, ki_4, ki_5, ki_6, ki_7, ki_8, ki_9, ki_10, ki_11, ki_12, ki_13, ki_18, ki_20, ki_24, ki_32, ki_36, ki_45, ki_47, ki_48, ki_50, ki_57, ki_60, ki_63, ki_99, ki_100, ki_101, ki_120, ki_255, ki_468, ki_1000, ki_1024, ki_13849, ki_25173, ki_65535, ki_65536, ki_100000, ki_100001, ki_2147483647, ki_2147483648, kl_0, kl_1, kl_2, kl_9223372036854775808, ki_add, ki_sub, ki_mul, ki_neg, kl_add, kl_sub, kl_mul, kl_neg, ki_i2l, kl_l2i, ki_lt, ki_le, ki_eq, kcmp_eq, kcmp_lt, kcmp_le, kcmp_gt, kcmp_ge, Option.bind_some, Option.map_some, kbool0, kbool1, if_pos, if_neg, if_true, if_false, Int.neg_neg, Int.sub_zero, Int.add_zero, Int.zero_add, true_and, and_true, false_and, and_false, false_or, or_false, true_or, or_true, ne_eq, not_false_eq_true, not_true_eq_false]
    rw [E, r1]
    rfl
  · rw [if_neg c] at hs ⊢
    subst hs
    have dv := hd s (Int.le_refl s) se
    obtain ⟨ω2, K2, f2, f4, _, _, H⟩ := X12_tokHead h a0 aL e2 (by omega)
    have H3 := H c (by omega)
    have h2 := h.to K2.r
    have hM2 := h2.1
    have K3 := frK.w hM2 (k := 5) (by omega) (T s - 48)
    have v3 := fun x => gj (μ := ω2) (k := 5) (v := T s - 48) x (by omega) (by omega)
    generalize hω3 : jw ω2 95 5 (.int (ki (T s - 48))) = ω3 at *
    have h3 := h2.to K3.r
    have rv1 : rv T s 1 = T s - 48 := by
      have : rv T s (0 + 1) = if 99 < rv T s 0 then rv T s 0 else 10 * rv T s 0 + T (s + ((0 : Nat) : Int)) - 48 := rfl
      rw [show s + ((0 : Nat) : Int) = s by omega, show rv T s 0 = 0 from rfl, if_neg (by omega)] at this
      rw [show (1 : Nat) = 0 + 1 from rfl, this]
      omega
    obtain ⟨ν, r1, r2, r3, r4, r5⟩ := X12_digLoop (j := 1) (y := s + 1) (b := 0) h3 (s := s) a0 (by omega) (by omega) eL hd hn (Or.inl rfl) (by rw [v3]; exact f2) (by rw [v3, rv1]; rfl)
    rw [if_neg (by omega)] at r5
    refine ⟨ν, ?_, (K2.trans K3).trans r2, r3, by rw [r4, v3]; exact f4, r5⟩
    rw [H3]
    have dg := X12_isDig (Y := Y) (ω := ω2) (c := T s) (by omega) (by omega)
    rw [if_pos dv] at dg
    have E : b_X12_token_92 Y 95 (ki (T s)) ω2 = jit jF (fun (q : jM) => b_X12_token_152 Y 95 (ki 0) q) ω3 := by
      clear r1 hd hn H H3 v3 rv1 r5
      generalize T s = v at *
      simp (disch := omega) only [b_X12_token_92, b_X12_token_93, b_X12_token_107, b_X12_token_136, b_X12_token_149, dg, kM.p hM2, hω3, ki_0, ki_1, ki_2, ki_3, ki_4, ki_5, ki_6, ki_7, ki_8, ki_9, ki_10, ki_11, ki_12, ki_13, ki_18, ki_20, ki_24, ki_32, ki_36, ki_45, ki_47, ki_48, ki_50, ki_57, ki_60, ki_63, ki_99, ki_100, ki_101, ki_120, ki_255, ki_468, ki_1000, ki_1024, ki_13849, ki_25173, ki_65535, ki_65536, ki_100000, ki_100001, ki_2147483647, ki_2147483648, kl_0, kl_1, kl_2, kl_9223372036854775808, ki_add, ki_sub, ki_mul, ki_neg, kl_add, kl_sub, kl_mul, kl_neg, ki_i2l, kl_l2i, ki_lt, ki_le, ki_eq, kcmp_eq, kcmp_lt, kcmp_le, kcmp_gt, kcmp_ge, Option.bind_some, Option.map_some, kbool0, kbool1, if_pos, if_neg, if_true, if_false, Int.neg_neg, Int.sub_zero, Int.add_zero, Int.zero_add, true_and, and_true, false_and, and_false, false_or, or_false, true_or, or_true, ne_eq, not_false_eq_true, not_true_eq_false]
    rw [E, r1]
    rfl
theorem X12_tokJunk {Y : jY} {T : Int → Int} {L : Int} {ω : jM} (h : rdy Y T L ω) {a : Int} (a0 : 0 ≤ a) (aL : a < L) (e2 : gi ω 95 2 = a) (c1 : T a ≠ 32) (c2 : T a ≠ 47) (c3 : ¬ (48 ≤ T a ∧ T a ≤ 57)) (hb : T a = 45 → (0 < a ∧ 48 ≤ T (a - 1) ∧ T (a - 1) ≤ 57) ∨ (a + 1 < L → ¬ (48 ≤ T (a + 1) ∧ T (a + 1) ≤ 57))) : ∃ ν, b_X12_token_0 Y 95 ω = some (.inr (ki 3, ν)) ∧ frK ω ν ∧ gi ν 95 4 = a := by
  have L6 := h.2.2.1
  obtain ⟨ω2, K2, f2, f4, _, H, H0⟩ := X12_tokHead h a0 aL e2 c1
  have h2 := h.to K2.r
  have hM2 := h2.1
  refine ⟨ω2, ?_, K2, f4⟩
  have bv := h.2.2.2.1 a
  have dg := X12_isDig (Y := Y) (ω := ω2) (c := T a) (by omega) (by omega)
  rw [if_neg c3] at dg
  by_cases c : T a = 45
  · rw [c] at dg
    obtain ⟨Hd, Hn⟩ := H c _ rfl
    by_cases w : 48 ≤ (if a + 1 < L then T (a + 1) else -1) ∧ (if a + 1 < L then T (a + 1) else -1) ≤ 57
    · rw [Hd w]
      have aw : a + 1 < L := by
        by_cases q : a + 1 < L
        · exact q
        · rw [if_neg q] at w
          omega
      rw [if_pos aw] at w
      rcases hb c with q | q
      · have g4 := kM.g4 hM2
        rw [f4] at g4
        have bt := X12_byteAt h2 (x := a - 1) (by omega) (by omega)
        rw [if_pos (by omega)] at bt
        have q1 := q.1
        have q2 := q.2
        clear hb w H H0 Hd Hn q
        generalize T (a - 1) = v at *
        have dg2 := X12_isDig (Y := Y) (ω := ω2) (c := v) (by omega) (by omega)
        rw [if_pos q2] at dg2
        simp (disch := omega) only [b_X12_token_92, b_X12_token_93, b_X12_token_107, b_X12_token_136, b_X12_token_149, dg, g4, krcv hM2.y, bt, dg2, ki_0, ki_1, ki_2, ki_3, ki_4, ki_5, ki_6, ki_7, ki_8, ki_9, ki_10, ki_11, ki_12, ki_13, ki_18, ki_20, ki_24, ki_32, ki_36, ki_45, ki_47, ki_48, ki_50, ki_57, ki_60, ki_63, ki_99, ki_100, ki_101, ki_120, ki_255, ki_468, ki_1000, ki_1024, ki_13849, ki_25173, ki_65535, ki_65536, ki_100000, ki_100001, ki_2147483647, ki_2147483648, kl_0, kl_1, kl_2, kl_9223372036854775808, ki_add, ki_sub, ki_mul, ki_neg, kl_add, kl_sub, kl_mul, kl_neg, ki_i2l, kl_l2i, ki_lt, ki_le, ki_eq, kcmp_eq, kcmp_lt, kcmp_le, kcmp_gt, kcmp_ge, Option.bind_some, Option.map_some, kbool0, kbool1, if_pos, if_neg, if_true, if_false, Int.neg_neg, Int.sub_zero, Int.add_zero, Int.zero_add, true_and, and_true, false_and, and_false, false_or, or_false, true_or, or_true, ne_eq, not_false_eq_true, not_true_eq_false]
      · exact absurd w (q aw)
    · rw [Hn w]
      clear hb w H H0 Hd Hn
      simp (disch := omega) only [b_X12_token_92, b_X12_token_93, b_X12_token_107, b_X12_token_136, b_X12_token_149, dg, ki_0, ki_1, ki_2, ki_3, ki_4, ki_5, ki_6, ki_7, ki_8, ki_9, ki_10, ki_11, ki_12, ki_13, ki_18, ki_20, ki_24, ki_32, ki_36, ki_45, ki_47, ki_48, ki_50, ki_57, ki_60, ki_63, ki_99, ki_100, ki_101, ki_120, ki_255, ki_468, ki_1000, ki_1024, ki_13849, ki_25173, ki_65535, ki_65536, ki_100000, ki_100001, ki_2147483647, ki_2147483648, kl_0, kl_1, kl_2, kl_9223372036854775808, ki_add, ki_sub, ki_mul, ki_neg, kl_add, kl_sub, kl_mul, kl_neg, ki_i2l, kl_l2i, ki_lt, ki_le, ki_eq, kcmp_eq, kcmp_lt, kcmp_le, kcmp_gt, kcmp_ge, Option.bind_some, Option.map_some, kbool0, kbool1, if_pos, if_neg, if_true, if_false, Int.neg_neg, Int.sub_zero, Int.add_zero, Int.zero_add, true_and, and_true, false_and, and_false, false_or, or_false, true_or, or_true, ne_eq, not_false_eq_true, not_true_eq_false]
  · rw [H0 c c2]
    clear hb H H0
    generalize T a = v at *
    simp (disch := omega) only [b_X12_token_92, b_X12_token_93, b_X12_token_107, b_X12_token_136, b_X12_token_149, dg, ki_0, ki_1, ki_2, ki_3, ki_4, ki_5, ki_6, ki_7, ki_8, ki_9, ki_10, ki_11, ki_12, ki_13, ki_18, ki_20, ki_24, ki_32, ki_36, ki_45, ki_47, ki_48, ki_50, ki_57, ki_60, ki_63, ki_99, ki_100, ki_101, ki_120, ki_255, ki_468, ki_1000, ki_1024, ki_13849, ki_25173, ki_65535, ki_65536, ki_100000, ki_100001, ki_2147483647, ki_2147483648, kl_0, kl_1, kl_2, kl_9223372036854775808, ki_add, ki_sub, ki_mul, ki_neg, kl_add, kl_sub, kl_mul, kl_neg, ki_i2l, kl_l2i, ki_lt, ki_le, ki_eq, kcmp_eq, kcmp_lt, kcmp_le, kcmp_gt, kcmp_ge, Option.bind_some, Option.map_some, kbool0, kbool1, if_pos, if_neg, if_true, if_false, Int.neg_neg, Int.sub_zero, Int.add_zero, Int.zero_add, true_and, and_true, false_and, and_false, false_or, or_false, true_or, or_true, ne_eq, not_false_eq_true, not_true_eq_false]
