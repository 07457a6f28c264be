/-! OPS: chain, mass: the reference's chain -/
def frC (μ ν : jM) : Prop := kF 95 108 μ ν ∧ (∀ j, j ≠ 16 → j ≠ 17 → ν 95 j = μ 95 j) ∧ ∀ i, 96 ≤ i → i < 104 → ν i = μ i
theorem frC.refl {μ : jM} : frC μ μ := ⟨kF.refl, fun _ _ _ => rfl, fun _ _ _ => rfl⟩
theorem frC.trans {μ ν ω : jM} (h : frC μ ν) (k : frC ν ω) : frC μ ω := ⟨h.1.trans k.1, fun j a b => by rw [k.2.1 j a b, h.2.1 j a b], fun i a b => by rw [k.2.2 i a b, h.2.2 i a b]⟩
theorem frm.C {μ ν : jM} {p : Int × Int} (h : frm μ ν p) : frC μ ν := ⟨h.1.mono (by omega) (by omega), h.2.1, fun i a _ => h.1.1 i (by omega)⟩
theorem frC.n {μ ν : jM} (h : frC μ ν) : gi ν 95 10 = gi μ 95 10 := by
  unfold gi
  rw [show (10 : Int).toNat = 10 from rfl, h.2.1 10 (by omega) (by omega)]
theorem frC.kP {μ ν : jM} (h : frC μ ν) : kP μ ν := ⟨h.1.mono (by omega) (by omega), fun i hi => by
  unfold pers at hi
  by_cases a : i < 95 ∨ 108 ≤ i
  · exact h.1.1 i a
  · exact h.2.2 i (by omega) (by omega), h.2.1 1 (by omega) (by omega), h.2.1 10 (by omega) (by omega), h.2.1 25 (by omega) (by omega)⟩
/-- one cell of the chain's arrays is written -/
theorem frC.w {Y : jY} {μ : jM} (hM : kM Y μ) {a : Nat} (ha : a = 104 ∨ a = 105 ∨ a = 106 ∨ a = 107) {i : Nat} (hi : i < 3) (v : Int) : frC μ (jw μ a i (.long (kl v))) ∧ jas Y μ a 21 (ki i) (.long (kl v)) = some (jw μ a i (.long (kl v))) := by
  have hL : kAL Y μ a 3 := by
    rcases ha with rfl | rfl | rfl | rfl
    · exact hM.a104
    · exact hM.a105
    · exact hM.a106
    · exact hM.a107
  have s := kasL (v := .long (kl v)) hL (x := (i : Int)) (by omega) (by omega)
  rw [Int.toNat_natCast] at s
  exact ⟨⟨kF_L (hL.2.2.2 i hi) (by omega) (by omega), fun j _ _ => by rw [jw_ne _ _ (by omega)], fun x _ _ => jw_cell (by omega)⟩, s⟩
def cell4 (ν : jM) (i : Nat) (v : (Int × Int) × (Int × Int)) : Prop := ν 104 i = .long (kl v.1.1) ∧ ν 105 i = .long (kl v.1.2) ∧ ν 106 i = .long (kl v.2.1) ∧ ν 107 i = .long (kl v.2.2) ∧ (okb v.1.1 ∧ okb v.1.2) ∧ okb v.2.1 ∧ okb v.2.2
theorem jaLn {Y : jY} {μ : jM} {a n : Nat} (h : kAL Y μ a n) {i : Nat} (hi : i < n) {v : Int64} (e : μ a i = .long v) : jaL Y μ a 21 (ki i) = some v := kaLv h (x := (i : Int)) (by omega) (by omega) (by rw [Int.toNat_natCast]; exact e)
set_option maxHeartbeats 1000000 in
theorem X12_chainStep {Y : jY} {μ : jM} (hM : kM Y μ) {N : Nat} {U f : Int → Int} (eN : gi μ 95 10 = (N : Int)) (N1 : 1 ≤ N) (N3 : N ≤ 3) (hU : rowK μ 101 ((N : Int) + 1) U) (hf : rowK μ 103 8 f) {i : Nat} (hi : i < N) {m : Int × Int} (m16 : μ 95 16 = .long (kl m.1)) (m17 : μ 95 17 = .long (kl m.2)) (om : okb m.1 ∧ okb m.2) {a t s : Int × Int} (ea : tA f U N i = some a) (et : mM a m.1 m.2 = some t) {v' : (Int × Int) × (Int × Int)} (h' : i + 1 < N → cell4 μ (i + 1) v' ∧ aM t (-v'.2.1) v'.2.2 = some s) (hl : i + 1 = N → s = t) : ∃ ν, b_X12_laysChain_156 Y 95 (ki i) μ = some (.inl (ki ((i : Int) + -1), ν)) ∧ frC μ ν ∧ cell4 ν i (m, s) ∧ ∀ x, x ≠ i → ∀ o, 104 ≤ o → o < 108 → ν o x = μ o x := by
  have g16 := kgLv (k := 16) hM.y m16
  obtain ⟨F1, s1⟩ := frC.w (Y := Y) hM (a := 104) (Or.inl rfl) (i := i) (by omega) m.1
  have v1 : jw μ 104 i (.long (kl m.1)) 104 i = .long (kl m.1) := jw_same _ _ _ _
  have n1 : ∀ o x, (o ≠ 104 ∨ x ≠ i) → jw μ 104 i (.long (kl m.1)) o x = μ o x := fun o x hx => jw_ne _ _ (by omega)
  generalize jw μ 104 i (.long (kl m.1)) = μ1 at *
  have hM1 := hM.to F1.1
  have g17 : jgL Y μ1 95 12 17 = some (kl m.2) := kgLv (k := 17) hM.y (by rw [n1 _ _ (by omega)]; exact m17)
  obtain ⟨F2, s2⟩ := frC.w (Y := Y) hM1 (a := 105) (Or.inr (Or.inl rfl)) (i := i) (by omega) m.2
  have v2 : jw μ1 105 i (.long (kl m.2)) 105 i = .long (kl m.2) := jw_same _ _ _ _
  have n2 : ∀ o x, (o ≠ 105 ∨ x ≠ i) → jw μ1 105 i (.long (kl m.2)) o x = μ1 o x := fun o x hx => jw_ne _ _ (by omega)
  generalize jw μ1 105 i (.long (kl m.2)) = μ2 at *
  have F02 := F1.trans F2
  have hM2 := hM.to F02.1
  obtain ⟨μ3, c3, f3, oa⟩ := X12_laysA hM2 (by rw [F02.n]; exact eN) (by omega) (by omega) (hf.cell (F02.2.2 103 (by omega) (by omega))) (hU.cell (F02.2.2 101 (by omega) (by omega))) (i := (i : Int)) (by omega) (by omega) ea
  have F03 := F02.trans f3.C
  have hM3 := hM.to F03.1
  have q9 := jaLn hM3.a104 (i := i) (by omega) (v := kl m.1) (by rw [f3.1.1 104 (by omega), n2 _ _ (by omega)]; exact v1)
  have q11 := jaLn hM3.a105 (i := i) (by omega) (v := kl m.2) (by rw [f3.1.1 105 (by omega)]; exact v2)
  obtain ⟨μ4, c4, f4⟩ := X12_multiplies hM3 f3.2.2.1 f3.2.2.2 oa.1 oa.2 om.1 om.2 et
  have ot := mM_ok et
  have F04 := F03.trans f4.C
  have hM4 := hM.to F04.1
  have gN := kM.g10 hM4
  rw [F04.n, eN] at gN
  have keep4 : ∀ o x, 104 ≤ o → o < 108 → μ4 o x = μ2 o x := fun o x h1 h2 => by rw [f4.1.1 o (by omega), f3.1.1 o (by omega)]
  have B : ∃ μ5, b_X12_laysChain_156 Y 95 (ki i) μ = b_X12_laysChain_228 Y 95 (ki i) μ5 ∧ frC μ4 μ5 ∧ μ5 95 16 = .long (kl s.1) ∧ μ5 95 17 = .long (kl s.2) ∧ (okb s.1 ∧ okb s.2) ∧ ∀ o, 96 ≤ o → μ5 o = μ4 o := by
    by_cases il : i + 1 = N
    · have e := hl il
      subst e
      refine ⟨μ4, ?_, frC.refl, f4.2.2.1, f4.2.2.2, ot, fun _ _ => rfl⟩
      simp (disch := omega) only [b_X12_laysChain_156, kM.o18 hM, kM.o19 hM1, g16, g17, s1, s2, krcv hM.y, c3, kM.o18 hM3, kM.o19 hM3, q9, q11, c4, gN, ki_0, ki_1, ki_2, ki_3, ki_4, ki_5, ki_6, ki_7, ki_8, ki_9, ki_10, ki_11, ki_12, ki_13, ki_18, ki_20, ki_24, ki_32, ki_36, ki_45, ki_47, ki_48, ki_50, ki_57, ki_60, ki_63, ki_99, ki_100, ki_101, ki_120, ki_255, ki_468, ki_1000, ki_1024, ki_13849, ki_25173, ki_65535, ki_65536, ki_100000, ki_100001, ki_2147483647, ki_2147483648, kl_0, kl_1, kl_2, kl_9223372036854775808, ki_add, ki_sub, ki_mul, ki_neg, kl_add, kl_sub, kl_mul, kl_neg, ki_i2l, kl_l2i, ki_lt, ki_le, ki_eq, kcmp_eq, kcmp_lt, kcmp_le, kcmp_gt, kcmp_ge, Option.bind_some, Option.map_some, kbool0, kbool1, if_pos, if_neg, if_true, if_false, Int.neg_neg, Int.sub_zero, Int.add_zero, Int.zero_add, true_and, and_true, false_and, and_false, false_or, or_false, true_or, or_true, ne_eq, not_false_eq_true, not_true_eq_false]
    · obtain ⟨⟨w1, w2, w3, w4, w5, w6, w7⟩, es⟩ := h' (by omega)
      have e1 : (i : Int) + 1 = ((i + 1 : Nat) : Int) := by omega
      have p15 := jaLn hM4.a106 (i := i + 1) (by omega) (v := kl v'.2.1) (by rw [keep4 _ _ (by omega) (by omega), n2 _ _ (by omega), n1 _ _ (by omega)]; exact w3)
      have p17 := jaLn hM4.a107 (i := i + 1) (by omega) (v := kl v'.2.2) (by rw [keep4 _ _ (by omega) (by omega), n2 _ _ (by omega), n1 _ _ (by omega)]; exact w4)
      obtain ⟨μ5, c5, f5⟩ := X12_adds hM4 f4.2.2.1 f4.2.2.2 ot.2 (okb_neg w6) w7 es
      refine ⟨μ5, ?_, f5.C, f5.2.2.1, f5.2.2.2, aM_ok es, fun o ho => f5.1.1 o (by omega)⟩
      rw [← e1] at p15 p17
      simp (disch := omega) only [b_X12_laysChain_156, kM.o18 hM, kM.o19 hM1, g16, g17, s1, s2, krcv hM.y, c3, kM.o18 hM3, kM.o19 hM3, q9, q11, c4, gN, kM.o20 hM4, kM.o21 hM4, p15, p17, c5, ki_0, ki_1, ki_2, ki_3, ki_4, ki_5, ki_6, ki_7, ki_8, ki_9, ki_10, ki_11, ki_12, ki_13, ki_18, ki_20, ki_24, ki_32, ki_36, ki_45, ki_47, ki_48, ki_50, ki_57, ki_60, ki_63, ki_99, ki_100, ki_101, ki_120, ki_255, ki_468, ki_1000, ki_1024, ki_13849, ki_25173, ki_65535, ki_65536, ki_100000, ki_100001, ki_2147483647, ki_2147483648, kl_0, kl_1, kl_2, kl_9223372036854775808, ki_add, ki_sub, ki_mul, ki_neg, kl_add, kl_sub, kl_mul, kl_neg, ki_i2l, kl_l2i, ki_lt, ki_le, ki_eq, kcmp_eq, kcmp_lt, kcmp_le, kcmp_gt, kcmp_ge, Option.bind_some, Option.map_some, kbool0, kbool1, if_pos, if_neg, if_true, if_false, Int.neg_neg, Int.sub_zero, Int.add_zero, Int.zero_add, true_and, and_true, false_and, and_false, false_or, or_false, true_or, or_true, ne_eq, not_false_eq_true, not_true_eq_false]
  obtain ⟨μ5, E, F5, h16, h17, os, n5⟩ := B
  rw [E]
  have F05 := F04.trans F5
  have hM5 := hM.to F05.1
  have k16 := kgLv (k := 16) hM5.y h16
  obtain ⟨F6, s6⟩ := frC.w (Y := Y) hM5 (a := 106) (Or.inr (Or.inr (Or.inl rfl))) (i := i) (by omega) s.1
  have v6 : jw μ5 106 i (.long (kl s.1)) 106 i = .long (kl s.1) := jw_same _ _ _ _
  have n6 : ∀ o x, (o ≠ 106 ∨ x ≠ i) → jw μ5 106 i (.long (kl s.1)) o x = μ5 o x := fun o x hx => jw_ne _ _ (by omega)
  generalize jw μ5 106 i (.long (kl s.1)) = μ6 at *
  have F06 := F05.trans F6
  have hM6 := hM.to F06.1
  have k17 : jgL Y μ6 95 12 17 = some (kl s.2) := kgLv (k := 17) hM.y (by rw [n6 _ _ (by omega)]; exact h17)
  obtain ⟨F7, s7⟩ := frC.w (Y := Y) hM6 (a := 107) (Or.inr (Or.inr (Or.inr rfl))) (i := i) (by omega) s.2
  have v7 : jw μ6 107 i (.long (kl s.2)) 107 i = .long (kl s.2) := jw_same _ _ _ _
  have n7 : ∀ o x, (o ≠ 107 ∨ x ≠ i) → jw μ6 107 i (.long (kl s.2)) o x = μ6 o x := fun o x hx => jw_ne _ _ (by omega)
  refine ⟨jw μ6 107 i (.long (kl s.2)), ?_, F06.trans F7, ⟨?_, ?_, ?_, v7, om, os⟩, fun x hx o h1 h2 => ?_⟩
  · simp (disch := omega) only [b_X12_laysChain_228, kM.o20 hM5, k16, s6, kM.o21 hM6, k17, s7, ki_0, ki_1, ki_2, ki_3, ki_4, ki_5, ki_6, ki_7, ki_8, ki_9, ki_10, ki_11, ki_12, ki_13, ki_18, ki_20, ki_24, ki_32, ki_36, ki_45, ki_47, ki_48, ki_50, ki_57, ki_60, ki_63, ki_99, ki_100, ki_101, ki_120, ki_255, ki_468, ki_1000, ki_1024, ki_13849, ki_25173, ki_65535, ki_65536, ki_100000, ki_100001, ki_2147483647, ki_2147483648, kl_0, kl_1, kl_2, kl_9223372036854775808, ki_add, ki_sub, ki_mul, ki_neg, kl_add, kl_sub, kl_mul, kl_neg, ki_i2l, kl_l2i, ki_lt, ki_le, ki_eq, kcmp_eq, kcmp_lt, kcmp_le, kcmp_gt, kcmp_ge, Option.bind_some, Option.map_some, kbool0, kbool1, if_pos, if_neg, if_true, if_false, Int.neg_neg, Int.sub_zero, Int.add_zero, Int.zero_add, true_and, and_true, false_and, and_false, false_or, or_false, true_or, or_true, ne_eq, not_false_eq_true, not_true_eq_false]
  · rw [n7 _ _ (by omega), n6 _ _ (by omega), n5 _ (by omega), keep4 _ _ (by omega) (by omega), n2 _ _ (by omega)]
    exact v1
  · rw [n7 _ _ (by omega), n6 _ _ (by omega), n5 _ (by omega), keep4 _ _ (by omega) (by omega)]
    exact v2
  · rw [n7 _ _ (by omega)]
    exact v6
  · rw [n7 _ _ (by omega), n6 _ _ (by omega), n5 _ (by omega), keep4 _ _ (by omega) (by omega), n2 _ _ (by omega), n1 _ _ (by omega)]
theorem sO_11 : sO 1 1 = some (1, 1) := by decide +kernel
theorem hgM_pre {N : Nat} {f U : Int → Int} {k : Nat} {q : (Int × Int) × (Int × Int)} : ∀ d : Nat, hgM N f U (k + d) = some q → ∃ s, hgM N f U k = some s := by
  intro d
  induction d generalizing q with
  | zero => intro h; exact ⟨q, h⟩
  | succ d ih =>
    intro h
    rw [← Nat.add_assoc, hgM, Option.bind_eq_some_iff] at h
    obtain ⟨s, h1, _⟩ := h
    exact ih h1
set_option maxHeartbeats 1000000 in
theorem X12_chainLoop {Y : jY} {μ : jM} (hM : kM Y μ) {N : Nat} {U f : Int → Int} (eN : gi μ 95 10 = (N : Int)) (N1 : 1 ≤ N) (N3 : N ≤ 3) (hU : rowK μ 101 ((N : Int) + 1) U) (hf : rowK μ 103 8 f) {last : (Int × Int) × (Int × Int)} (H : hgM N f U (N - 1) = some last) : ∃ r : Int32 × jM, jit jF (fun (s : Int32 × jM) => b_X12_laysChain_30 Y 95 s.1 s.2) (ki ((N : Int) - 1), μ) = some r ∧ r.1 = ki 1 ∧ frC μ r.2 ∧ ∀ j, j < N → ∃ v, hgM N f U j = some v ∧ cell4 r.2 (N - 1 - j) v := by
  refine jit_inv (f := fun (s : Int32 × jM) => b_X12_laysChain_30 Y 95 s.1 s.2) (fun j z => z.1 = ki ((N : Int) - 1 - j) ∧ frC μ z.2 ∧ ∀ i, i < j → ∃ v, hgM N f U i = some v ∧ cell4 z.2 (N - 1 - i) v) _ N (s := (ki ((N : Int) - 1), μ)) ⟨by rw [show (N : Int) - 1 - ((0 : Nat) : Int) = (N : Int) - 1 by omega], frC.refl, fun i hi => by omega⟩ (by omega) (fun j z hj hz => ?_)
  obtain ⟨v, ν⟩ := z
  obtain ⟨rfl, z1, z2⟩ := hz
  simp only [] at z1 z2
  have hMz := hM.to z1.1
  have gN := kM.g10 hMz
  rw [z1.n, eN] at gN
  have hUz := hU.cell (z1.2.2 101 (by omega) (by omega))
  have hfz := hf.cell (z1.2.2 103 (by omega) (by omega))
  have eNz : gi ν 95 10 = (N : Int) := by rw [z1.n]; exact eN
  by_cases e : j = N
  · refine ⟨.inr (ki 1, ν), ?_, rfl, z1, fun i hi => z2 i (by omega)⟩
    simp (disch := omega) only [b_X12_laysChain_30, ki_0, ki_1, ki_2, ki_3, ki_4, ki_5, ki_6, ki_7, ki_8, ki_9, ki_10, ki_11, ki_12, ki_13, ki_18, ki_20, ki_24, ki_32, ki_36, ki_45, ki_47, ki_48, ki_50, ki_57, ki_60, ki_63, ki_99, ki_100, ki_101, ki_120, ki_255, ki_468, ki_1000, ki_1024, ki_13849, ki_25173, ki_65535, ki_65536, ki_100000, ki_100001, ki_2147483647, ki_2147483648, kl_0, kl_1, kl_2, kl_9223372036854775808, ki_add, ki_sub, ki_mul, ki_neg, kl_add, kl_sub, kl_mul, kl_neg, ki_i2l, kl_l2i, ki_lt, ki_le, ki_eq, kcmp_eq, kcmp_lt, kcmp_le, kcmp_gt, kcmp_ge, Option.bind_some, Option.map_some, kbool0, kbool1, if_pos, if_neg, if_true, if_false, Int.neg_neg, Int.sub_zero, Int.add_zero, Int.zero_add, true_and, and_true, false_and, and_false, false_or, or_false, true_or, or_true, ne_eq, not_false_eq_true, not_true_eq_false]
  · obtain ⟨i, hi⟩ : ∃ i, i = N - 1 - j := ⟨_, rfl⟩
    have ei : (N : Int) - 1 - j = i := by omega
    rw [ei]
    cases j with
    | zero =>
      obtain ⟨q', e1⟩ : ∃ s, hgM N f U 0 = some s := hgM_pre (N - 1) (by rw [Nat.zero_add]; exact H)
      have e1' := e1
      simp only [hgM, Option.bind_eq_some_iff] at e1'
      obtain ⟨a, b1, s, b2, b3⟩ := e1'
      cases b3
      have ei2 : N - 1 = i := by omega
      rw [ei2] at b1
      obtain ⟨μ1, c1, f1⟩ := X12_set hMz sO_11
      have hM1 := hMz.to f1.1
      obtain ⟨ω, c2, c3, c4, c5⟩ := X12_chainStep hM1 (by rw [f1.C.n]; exact eNz) N1 N3 (hUz.to f1.1 (by omega)) (hfz.to f1.1 (by omega)) (i := i) (by omega) f1.2.2.1 f1.2.2.2 ⟨okb_1, okb_1⟩ b1 b2 (v' := ((0, 0), (0, 0))) (s := s) (fun h => by omega) (fun _ => rfl)
      refine ⟨.inl (ki ((i : Int) + -1), ω), ?_, by omega, by rw [show (N : Int) - 1 - ((0 + 1 : Nat) : Int) = (i : Int) + -1 by omega], (z1.trans f1.C).trans c3, fun x hx => ?_⟩
      · simp (disch := omega) only [b_X12_laysChain_30, gN, krcv hM.y, kl_1, c1, ki_0, ki_1, ki_2, ki_3, ki_4, ki_5, ki_6, ki_7, ki_8, ki_9, ki_10, ki_11, ki_12, ki_13, ki_18, ki_20, ki_24, ki_32, ki_36, ki_45, ki_47, ki_48, ki_50, ki_57, ki_60, ki_63, ki_99, ki_100, ki_101, ki_120, ki_255, ki_468, ki_1000, ki_1024, ki_13849, ki_25173, ki_65535, ki_65536, ki_100000, ki_100001, ki_2147483647, ki_2147483648, kl_0, kl_1, kl_2, kl_9223372036854775808, ki_add, ki_sub, ki_mul, ki_neg, kl_add, kl_sub, kl_mul, kl_neg, ki_i2l, kl_l2i, ki_lt, ki_le, ki_eq, kcmp_eq, kcmp_lt, kcmp_le, kcmp_gt, kcmp_ge, Option.bind_some, Option.map_some, kbool0, kbool1, if_pos, if_neg, if_true, if_false, Int.neg_neg, Int.sub_zero, Int.add_zero, Int.zero_add, true_and, and_true, false_and, and_false, false_or, or_false, true_or, or_true, ne_eq, not_false_eq_true, not_true_eq_false]
        exact c2
      · have : x = 0 := by omega
        subst this
        refine ⟨_, e1, ?_⟩
        rw [show N - 1 - 0 = i by omega]
        exact c4
    | succ j =>
      obtain ⟨q', e1⟩ : ∃ s, hgM N f U (j + 1) = some s := hgM_pre (N - 1 - (j + 1)) (by rw [show j + 1 + (N - 1 - (j + 1)) = N - 1 by omega]; exact H)
      obtain ⟨q, e2, cl⟩ := z2 j (by omega)
      have e1' := e1
      simp only [hgM, e2, Option.bind_some, Option.bind_eq_some_iff] at e1'
      obtain ⟨p0, b0, p1, b1, p2, b2, c, b3, p3, b4, m, b5, a, b6, t, b7, s, b8, b9⟩ := e1'
      cases b9
      have ei2 : N - 2 - j = i := by omega
      have ei3 : N - 1 - j = i + 1 := by omega
      rw [ei2] at b3 b6
      rw [ei3] at cl
      obtain ⟨w1, w2, w3, w4, w5, w6, w7⟩ := cl
      have e3 : (i : Int) + 1 = ((i + 1 : Nat) : Int) := by omega
      have x4 := jaLn hMz.a106 (i := i + 1) (by omega) w3
      have x6 := jaLn hMz.a107 (i := i + 1) (by omega) w4
      obtain ⟨μ1, c1, f1⟩ := X12_set hMz b0
      have o0 := sO_ok b0
      have hM1 := hMz.to f1.1
      have x9 := jaLn hM1.a106 (i := i + 1) (by omega) (by rw [f1.1.1 106 (by omega)]; exact w3)
      have x11 := jaLn hM1.a107 (i := i + 1) (by omega) (by rw [f1.1.1 107 (by omega)]; exact w4)
      obtain ⟨μ2, c2, f2⟩ := X12_multiplies hM1 f1.2.2.1 f1.2.2.2 o0.1 o0.2 w6 w7 b1
      have o1 := mM_ok b1
      have hM2 := hM1.to f2.1
      have f02 := f1.trans f2
      have x14 := jaLn hM2.a105 (i := i + 1) (by omega) (by rw [f02.1.1 105 (by omega)]; exact w2)
      have x16 := jaLn hM2.a104 (i := i + 1) (by omega) (by rw [f02.1.1 104 (by omega)]; exact w1)
      obtain ⟨μ3, c3, f3⟩ := X12_multiplies hM2 f2.2.2.1 f2.2.2.2 o1.1 o1.2 w5.2 w5.1 b2
      have o2 := mM_ok b2
      have hM3 := hM2.to f3.1
      have f03 := f02.trans f3
      have x18 := kgLv (k := 16) hM3.y f3.2.2.1
      have x19 := kgLv (k := 17) hM3.y f3.2.2.2
      obtain ⟨μ4, c4, f4, oc⟩ := X12_laysC hM3 (hfz.to f03.1 (by omega)) (i := (i : Int)) (by omega) (by omega) b3
      have hM4 := hM3.to f4.1
      have f04 := f03.trans f4
      have x21 := kgLv (k := 16) hM4.y f4.2.2.1
      have x22 := kgLv (k := 17) hM4.y f4.2.2.2
      obtain ⟨μ5, c5, f5⟩ := X12_set hM4 b4
      have o3 := sO_ok b4
      have hM5 := hM4.to f5.1
      have f05 := f04.trans f5
      obtain ⟨μ6, c6, f6⟩ := X12_multiplies hM5 f5.2.2.1 f5.2.2.2 o3.1 o3.2 oc.2 oc.1 b5
      have o4 := mM_ok b5
      have hM6 := hM5.to f6.1
      have f06 := f05.trans f6
      have n6 : ∀ o, 104 ≤ o → μ6 o = ν o := fun o ho => f06.1.1 o (by omega)
      obtain ⟨ω, c7, c8, c9, ca⟩ := X12_chainStep hM6 (by rw [f06.C.n]; exact eNz) N1 N3 (hUz.to f06.1 (by omega)) (hfz.to f06.1 (by omega)) (i := i) (by omega) f6.2.2.1 f6.2.2.2 o4 b6 b7 (v' := q) (s := s) (fun h => ⟨⟨by rw [n6 _ (by omega)]; exact w1, by rw [n6 _ (by omega)]; exact w2, by rw [n6 _ (by omega)]; exact w3, by rw [n6 _ (by omega)]; exact w4, w5, w6, w7⟩, b8⟩) (fun h => by omega)
      refine ⟨.inl (ki ((i : Int) + -1), ω), ?_, by omega, by rw [show (N : Int) - 1 - ((j + 1 + 1 : Nat) : Int) = (i : Int) + -1 by omega], (z1.trans f06.C).trans c8, fun x hx => ?_⟩
      · rw [← e3] at x4 x6 x9 x11 x14 x16
        simp (disch := omega) only [b_X12_laysChain_30, gN, krcv hM.y, kM.o20 hMz, kM.o21 hMz, x4, x6, c1, kM.o20 hM1, kM.o21 hM1, x9, x11, c2, kM.o19 hM2, kM.o18 hM2, x14, x16, c3, x18, x19, c4, x21, x22, c5, c6, ki_0, ki_1, ki_2, ki_3, ki_4, ki_5, ki_6, ki_7, ki_8, ki_9, ki_10, ki_11, ki_12, ki_13, ki_18, ki_20, ki_24, ki_32, ki_36, ki_45, ki_47, ki_48, ki_50, ki_57, ki_60, ki_63, ki_99, ki_100, ki_101, ki_120, ki_255, ki_468, ki_1000, ki_1024, ki_13849, ki_25173, ki_65535, ki_65536, ki_100000, ki_100001, ki_2147483647, ki_2147483648, kl_0, kl_1, kl_2, kl_9223372036854775808, ki_add, ki_sub, ki_mul, ki_neg, kl_add, kl_sub, kl_mul, kl_neg, ki_i2l, kl_l2i, ki_lt, ki_le, ki_eq, kcmp_eq, kcmp_lt, kcmp_le, kcmp_gt, kcmp_ge, Option.bind_some, Option.map_some, kbool0, kbool1, if_pos, if_neg, if_true, if_false, Int.neg_neg, Int.sub_zero, Int.add_zero, Int.zero_add, true_and, and_true, false_and, and_false, false_or, or_false, true_or, or_true, ne_eq, not_false_eq_true, not_true_eq_false]
        exact c7
      · by_cases xj : x = j + 1
        · refine ⟨_, by rw [xj]; exact e1, ?_⟩
          rw [show N - 1 - x = i by omega]
          exact c9
        · obtain ⟨v, y1, y2⟩ := z2 x (by omega)
          refine ⟨v, y1, ?_⟩
          obtain ⟨u1, u2, u3, u4, u5⟩ := y2
          have k := fun o (h1 : 104 ≤ o) (h2 : o < 108) => ca (N - 1 - x) (by omega) o h1 h2
          show cell4 ω (N - 1 - x) v
          refine ⟨?_, ?_, ?_, ?_, u5⟩
          · rw [k 104 (by omega) (by omega), n6 _ (by omega)]; exact u1
          · rw [k 105 (by omega) (by omega), n6 _ (by omega)]; exact u2
          · rw [k 106 (by omega) (by omega), n6 _ (by omega)]; exact u3
          · rw [k 107 (by omega) (by omega), n6 _ (by omega)]; exact u4
