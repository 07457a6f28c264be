/-! OPS: fraction: the reference's side -/
def frx (μ ν : jM) : Prop := kF 95 96 μ ν ∧ ∀ j, j ≠ 16 → j ≠ 17 → ν 95 j = μ 95 j
theorem frx.refl {μ : jM} : frx μ μ := ⟨kF.refl, fun _ _ _ => rfl⟩
theorem frx.trans {μ ν ω : jM} (h : frx μ ν) (k : frx ν ω) : frx μ ω := ⟨h.1.trans k.1, fun j a b => by rw [k.2 j a b, h.2 j a b]⟩
theorem frm.x {μ ν : jM} {p : Int × Int} (h : frm μ ν p) : frx μ ν := ⟨h.1, h.2.1⟩
theorem frx.kP {μ ν : jM} (h : frx μ ν) : kP μ ν := ⟨h.1.mono (by omega) (by omega), fun i hi => h.1.1 i (by unfold pers at hi; omega), h.2 1 (by omega) (by omega), h.2 10 (by omega) (by omega), h.2 25 (by omega) (by omega)⟩
theorem frx.n {μ ν : jM} (h : frx μ ν) : gi ν 95 10 = gi μ 95 10 := by
  unfold gi
  rw [show (10 : Int).toNat = 10 from rfl, h.2 10 (by omega) (by omega)]
theorem gF_1 {t : Int} : gF t 1 = 1 := by
  rw [gF_eq]
  unfold cd
  rw [show (1 : Int).natAbs = 1 from rfl, Nat.gcd_one_right]
  rfl
theorem isZ_t {x : Int} (h : x ≠ 0) : isZ x = false := by
  cases e : isZ x with
  | false => rfl
  | true =>
    unfold isZ at e
    split at e
    · exact absurd rfl h
    · cases e
theorem dF_1 {t : Int} : dF t 1 = t := by
  rw [dF_eq]
  exact Int.tdiv_one t
theorem aM_1 {p : Int × Int} {t : Int} (h : p.2 ≠ 0) : aM p t 1 = aF p t 1 := by
  unfold aM
  rw [isZ_t h, gF_1, dF_1, dF_1]
  rfl
theorem mM_red {p : Int × Int} {t b : Int} (h : p.2 ≠ 0) (hb : b ≠ 0) (hc : Nat.gcd t.natAbs b.natAbs = 1) : mM p t b = mF p t b := by
  have g : gF t b = 1 := by
    rw [gF_eq]
    unfold cd
    rw [hc]
    rfl
  unfold mM
  rw [isZ_t h, isZ_t hb, g, dF_1, dF_1]
  rfl
theorem fq.iff {p q : Int × Int} {T M T' M' : Int} (h : fq p T M) (k : fq q T' M') : p = q ↔ T * M' = T' * M := by
  constructor
  · intro e
    subst e
    have e1 := h.2.2.2
    have e2 := k.2.2.2
    have p0 := h.2.1
    have : p.2 * (T * M') = p.2 * (T' * M) := by grind
    exact Int.eq_of_mul_eq_mul_left (by omega) this
  · intro e
    exact (h.to k.1 e).uniq k
/-- A less x, in the reference's fields -/
theorem X12_aLess {Y : jY} {μ : jM} (hM : kM Y μ) {N : Nat} {U f : Int → Int} (eN : gi μ 95 10 = (N : Int)) (N1 : 1 ≤ N) (N4 : N ≤ 4) (hU : rowK μ 101 ((N : Int) + 1) U) (hf : rowK μ 103 8 f) {i x : Int} (i0 : 0 ≤ i) (iN : i < N) (x1 : -20 ≤ x) (x2 : x ≤ 20) {q : Int × Int} (e : tA f U N i = some q) {n d : Int} (hq : fq q n d) (ow : okb (x * d - n)) (od : okb d) : ∃ μ1 ν r, (f_X12_laysA Y 95 (ki i) μ = some μ1 ∧ f_X12_adds Y 95 (kl (-x)) (kl 1) μ1 = some ν) ∧ frm μ ν r ∧ fq r (-(x * d - n)) d ∧ okb r.1 ∧ okb r.2 := by
  obtain ⟨μ1, c1, f1, o1, o2⟩ := X12_laysA hM eN (by omega) (by omega) hf hU i0 iN e
  have hM1 := hM.to f1.1
  have q0 : fq (x, 1) (x * d) d := fq.w.to hq.1 (by grind)
  obtain ⟨r, a1, a2⟩ := hq.sub q0 (by rw [show n - x * d = -(x * d - n) by omega]; exact okb_neg ow) od
  rw [show n - x * d = -(x * d - n) by omega] at a2
  have a3 : aM q (-x) 1 = some r := by rw [aM_1 (by have := hq.2.1; omega)]; exact a1
  obtain ⟨μ2, c2, f2⟩ := X12_adds hM1 f1.2.2.1 f1.2.2.2 o2 (t := -x) (b := 1) ⟨by omega, by omega⟩ okb_1 a3
  have ok := aF_ok a1
  exact ⟨μ1, μ2, r, ⟨c1, c2⟩, f1.trans f2, a2, ok.1, ok.2⟩
theorem X12_isNothing_0 {Y : jY} {μ : jM} (hM : kM Y μ) {N : Nat} {U f : Int → Int} (eN : gi μ 95 10 = (N : Int)) (N4 : N ≤ 4) (hU : rowK μ 101 ((N : Int) + 1) U) (hf : rowK μ 103 8 f) {k x : Int} (k0 : 1 ≤ k) (kN : k ≤ N) (o : okb (eV N U f k x)) : f_X12_isNothing Y 95 (ki k) (ki 0) (kl x) μ = some (ki (if eV N U f k x = 0 then 1 else 0), μ) := by
  have v := X12_valueOf hM N4 eN hU hf (k := k) (x := x) (by omega) kN
  unfold okb at o
  generalize eV N U f k x = E at *
  by_cases z : E = 0
  · simp (disch := omega) only [f_X12_isNothing, b_X12_isNothing_20, krcv hM.y, v, ki_0, ki_1, ki_2, ki_3, ki_4, ki_5, ki_6, ki_7, ki_8, ki_9, ki_10, ki_11, ki_12, ki_13, ki_18, ki_20, ki_24, ki_32, ki_36, ki_45, ki_47, ki_48, ki_50, ki_57, ki_60, ki_63, ki_99, ki_100, ki_101, ki_120, ki_255, ki_468, ki_1000, ki_1024, ki_13849, ki_25173, ki_65535, ki_65536, ki_100000, ki_100001, ki_2147483647, ki_2147483648, kl_0, kl_1, kl_2, kl_9223372036854775808, ki_add, ki_sub, ki_mul, ki_neg, kl_add, kl_sub, kl_mul, kl_neg, ki_i2l, kl_l2i, ki_lt, ki_le, ki_eq, kcmp_eq, kcmp_lt, kcmp_le, kcmp_gt, kcmp_ge, Option.bind_some, Option.map_some, kbool0, kbool1, if_pos, if_neg, if_true, if_false, Int.neg_neg, Int.sub_zero, Int.add_zero, Int.zero_add, true_and, and_true, false_and, and_false, false_or, or_false, true_or, or_true, ne_eq, not_false_eq_true, not_true_eq_false]
  · simp (disch := omega) only [f_X12_isNothing, b_X12_isNothing_20, krcv hM.y, v, ki_0, ki_1, ki_2, ki_3, ki_4, ki_5, ki_6, ki_7, ki_8, ki_9, ki_10, ki_11, ki_12, ki_13, ki_18, ki_20, ki_24, ki_32, ki_36, ki_45, ki_47, ki_48, ki_50, ki_57, ki_60, ki_63, ki_99, ki_100, ki_101, ki_120, ki_255, ki_468, ki_1000, ki_1024, ki_13849, ki_25173, ki_65535, ki_65536, ki_100000, ki_100001, ki_2147483647, ki_2147483648, kl_0, kl_1, kl_2, kl_9223372036854775808, ki_add, ki_sub, ki_mul, ki_neg, kl_add, kl_sub, kl_mul, kl_neg, ki_i2l, kl_l2i, ki_lt, ki_le, ki_eq, kcmp_eq, kcmp_lt, kcmp_le, kcmp_gt, kcmp_ge, Option.bind_some, Option.map_some, kbool0, kbool1, if_pos, if_neg, if_true, if_false, Int.neg_neg, Int.sub_zero, Int.add_zero, Int.zero_add, true_and, and_true, false_and, and_false, false_or, or_false, true_or, or_true, ne_eq, not_false_eq_true, not_true_eq_false]
theorem X12_isNothing_1 {Y : jY} {μ : jM} (hM : kM Y μ) {N : Nat} {U f : Int → Int} (eN : gi μ 95 10 = (N : Int)) (N4 : N ≤ 4) (hU : rowK μ 101 ((N : Int) + 1) U) (hf : rowK μ 103 8 f) {k x : Int} (k0 : 1 ≤ k) (kN : k ≤ N) (o : okb (gV N U f k x)) : f_X12_isNothing Y 95 (ki k) (ki 1) (kl x) μ = some (ki (if gV N U f k x = 0 then 1 else 0), μ) := by
  have v := X12_laterOf hM N4 eN hU hf (k := k) (x := x) (by omega) kN
  unfold okb at o
  generalize gV N U f k x = E at *
  by_cases z : E = 0
  · simp (disch := omega) only [f_X12_isNothing, b_X12_isNothing_42, krcv hM.y, v, ki_0, ki_1, ki_2, ki_3, ki_4, ki_5, ki_6, ki_7, ki_8, ki_9, ki_10, ki_11, ki_12, ki_13, ki_18, ki_20, ki_24, ki_32, ki_36, ki_45, ki_47, ki_48, ki_50, ki_57, ki_60, ki_63, ki_99, ki_100, ki_101, ki_120, ki_255, ki_468, ki_1000, ki_1024, ki_13849, ki_25173, ki_65535, ki_65536, ki_100000, ki_100001, ki_2147483647, ki_2147483648, kl_0, kl_1, kl_2, kl_9223372036854775808, ki_add, ki_sub, ki_mul, ki_neg, kl_add, kl_sub, kl_mul, kl_neg, ki_i2l, kl_l2i, ki_lt, ki_le, ki_eq, kcmp_eq, kcmp_lt, kcmp_le, kcmp_gt, kcmp_ge, Option.bind_some, Option.map_some, kbool0, kbool1, if_pos, if_neg, if_true, if_false, Int.neg_neg, Int.sub_zero, Int.add_zero, Int.zero_add, true_and, and_true, false_and, and_false, false_or, or_false, true_or, or_true, ne_eq, not_false_eq_true, not_true_eq_false]
  · simp (disch := omega) only [f_X12_isNothing, b_X12_isNothing_42, krcv hM.y, v, ki_0, ki_1, ki_2, ki_3, ki_4, ki_5, ki_6, ki_7, ki_8, ki_9, ki_10, ki_11, ki_12, ki_13, ki_18, ki_20, ki_24, ki_32, ki_36, ki_45, ki_47, ki_48, ki_50, ki_57, ki_60, ki_63, ki_99, ki_100, ki_101, ki_120, ki_255, ki_468, ki_1000, ki_1024, ki_13849, ki_25173, ki_65535, ki_65536, ki_100000, ki_100001, ki_2147483647, ki_2147483648, kl_0, kl_1, kl_2, kl_9223372036854775808, ki_add, ki_sub, ki_mul, ki_neg, kl_add, kl_sub, kl_mul, kl_neg, ki_i2l, kl_l2i, ki_lt, ki_le, ki_eq, kcmp_eq, kcmp_lt, kcmp_le, kcmp_gt, kcmp_ge, Option.bind_some, Option.map_some, kbool0, kbool1, if_pos, if_neg, if_true, if_false, Int.neg_neg, Int.sub_zero, Int.add_zero, Int.zero_add, true_and, and_true, false_and, and_false, false_or, or_false, true_or, or_true, ne_eq, not_false_eq_true, not_true_eq_false]
theorem X12_isNothing_l {Y : jY} {μ : jM} (hM : kM Y μ) {N : Nat} {U f : Int → Int} (eN : gi μ 95 10 = (N : Int)) (N1 : 1 ≤ N) (N4 : N ≤ 4) (hU : rowK μ 101 ((N : Int) + 1) U) (hf : rowK μ 103 8 f) {k x : Int} (k0 : 3 ≤ k) (kN : k ≤ N) (x1 : -20 ≤ x) (x2 : x ≤ 20) {q : Int × Int} (e : tA f U N (k - 1) = some q) {n d : Int} (hq : fq q n d) (ow : okb (x * d - n)) (od : okb d) : ∃ ν, f_X12_isNothing Y 95 (ki k) (ki (k - 1)) (kl x) μ = some (ki (if x * d - n = 0 then 1 else 0), ν) ∧ frx μ ν := by
  obtain ⟨μ1, ν, r, ⟨d1, d3⟩, c2, c3, c4, c5⟩ := X12_aLess hM eN N1 N4 hU hf (i := k - 1) (by omega) (by omega) x1 x2 e hq ow od
  have hMν := hM.to c2.1
  have g16 := kgLv (k := 16) hMν.y c2.2.2.1
  have z := c3.z
  unfold okb at c4
  refine ⟨ν, ?_, c2.x⟩
  by_cases w : x * d - n = 0
  · have w1 : r.1 = 0 := z.2 (by omega)
    rw [if_pos w]
    generalize r.1 = t at *
    simp (disch := omega) only [f_X12_isNothing, b_X12_isNothing_78, krcv hM.y, ki_sub, ki_1, d1, d3, g16, ki_0, ki_1, ki_2, ki_3, ki_4, ki_5, ki_6, ki_7, ki_8, ki_9, ki_10, ki_11, ki_12, ki_13, ki_18, ki_20, ki_24, ki_32, ki_36, ki_45, ki_47, ki_48, ki_50, ki_57, ki_60, ki_63, ki_99, ki_100, ki_101, ki_120, ki_255, ki_468, ki_1000, ki_1024, ki_13849, ki_25173, ki_65535, ki_65536, ki_100000, ki_100001, ki_2147483647, ki_2147483648, kl_0, kl_1, kl_2, kl_9223372036854775808, ki_add, ki_sub, ki_mul, ki_neg, kl_add, kl_sub, kl_mul, kl_neg, ki_i2l, kl_l2i, ki_lt, ki_le, ki_eq, kcmp_eq, kcmp_lt, kcmp_le, kcmp_gt, kcmp_ge, Option.bind_some, Option.map_some, kbool0, kbool1, if_pos, if_neg, if_true, if_false, Int.neg_neg, Int.sub_zero, Int.add_zero, Int.zero_add, true_and, and_true, false_and, and_false, false_or, or_false, true_or, or_true, ne_eq, not_false_eq_true, not_true_eq_false]
  · have w1 : r.1 ≠ 0 := fun h => w (by have := z.1 h; omega)
    rw [if_neg w]
    generalize r.1 = t at *
    simp (disch := omega) only [f_X12_isNothing, b_X12_isNothing_78, krcv hM.y, ki_sub, ki_1, d1, d3, g16, ki_0, ki_1, ki_2, ki_3, ki_4, ki_5, ki_6, ki_7, ki_8, ki_9, ki_10, ki_11, ki_12, ki_13, ki_18, ki_20, ki_24, ki_32, ki_36, ki_45, ki_47, ki_48, ki_50, ki_57, ki_60, ki_63, ki_99, ki_100, ki_101, ki_120, ki_255, ki_468, ki_1000, ki_1024, ki_13849, ki_25173, ki_65535, ki_65536, ki_100000, ki_100001, ki_2147483647, ki_2147483648, kl_0, kl_1, kl_2, kl_9223372036854775808, ki_add, ki_sub, ki_mul, ki_neg, kl_add, kl_sub, kl_mul, kl_neg, ki_i2l, kl_l2i, ki_lt, ki_le, ki_eq, kcmp_eq, kcmp_lt, kcmp_le, kcmp_gt, kcmp_ge, Option.bind_some, Option.map_some, kbool0, kbool1, if_pos, if_neg, if_true, if_false, Int.neg_neg, Int.sub_zero, Int.add_zero, Int.zero_add, true_and, and_true, false_and, and_false, false_or, or_false, true_or, or_true, ne_eq, not_false_eq_true, not_true_eq_false]
theorem X12_isNothing_2 {Y : jY} {μ : jM} (hM : kM Y μ) {U f : Int → Int} (eN : gi μ 95 10 = ((4 : Nat) : Int)) (hU : rowK μ 101 (((4 : Nat) : Int) + 1) U) (hf : rowK μ 103 8 f) {x : Int} (x1 : -20 ≤ x) (x2 : x ≤ 20) {q3 q2 c : Int × Int} (e3 : tA f U 4 3 = some q3) (e2 : tA f U 4 2 = some q2) (ec : tC f 2 = some c) {n3 d3 n2 d2 cT cM : Int} (h3 : fq q3 n3 d3) (h2 : fq q2 n2 d2) (hc : fq c cT cM) (o3 : okb (x * d3 - n3)) (od3 : okb d3) (o2 : okb (x * d2 - n2)) (od2 : okb d2) (om : okb ((x * d2 - n2) * (x * d3 - n3))) (od : okb (d2 * d3)) : ∃ ν, f_X12_isNothing Y 95 (ki 4) (ki 2) (kl x) μ = some (ki (if cT * (d2 * d3) = (x * d2 - n2) * (x * d3 - n3) * cM then 1 else 0), ν) ∧ frx μ ν := by
  obtain ⟨μ1, ν1, r3, ⟨d1, d3'⟩, f1, p1, oa, ob⟩ := X12_aLess hM eN (by omega) (by omega) hU hf (i := 3) (by omega) (by omega) x1 x2 e3 h3 o3 od3
  have hM1 := hM.to f1.1
  have g16 := kgLv (k := 16) hM1.y f1.2.2.1
  have g17 := kgLv (k := 17) hM1.y f1.2.2.2
  obtain ⟨μ3, ν2, r2, ⟨e1, e3'⟩, f2, p2, oc, oe⟩ := X12_aLess hM1 (by rw [f1.x.n]; exact eN) (by omega) (by omega) (hU.to f1.1 (by omega)) (hf.to f1.1 (by omega)) (i := 2) (by omega) (by omega) x1 x2 e2 h2 o2 od2
  have hM2 := hM1.to f2.1
  obtain ⟨r, m1, m2⟩ := p2.mul p1 (T := (x * d2 - n2) * (x * d3 - n3)) (M := d2 * d3) (Int.mul_ne_zero h2.1 h3.1) (by grind) om od
  rw [← mM_red (by have := p2.2.1; omega) (by have := p1.2.1; omega) p1.2.2.1] at m1
  obtain ⟨ν3, c3, f3⟩ := X12_multiplies hM2 f2.2.2.1 f2.2.2.2 oc oe oa ob m1
  have hM3 := hM2.to f3.1
  have k16 := kgLv (k := 16) hM3.y f3.2.2.1
  have k17 := kgLv (k := 17) hM3.y f3.2.2.2
  have k03 := (f1.1.trans f2.1).trans f3.1
  obtain ⟨ν4, c4, f4, og, oh⟩ := X12_laysC hM3 (hf.to k03 (by omega)) (i := 2) (by omega) (by omega) ec
  have hM4 := hM3.to f4.1
  have l16 := kgLv (k := 16) hM4.y f4.2.2.1
  have l17 := kgLv (k := 17) hM4.y f4.2.2.2
  have ro := mM_ok m1
  have I := hc.iff m2
  refine ⟨ν4, ?_, ((f1.trans f2).trans f3).x.trans f4.x⟩
  have ext : c = r ↔ c.1 = r.1 ∧ c.2 = r.2 := ⟨fun h => by rw [h]; exact ⟨rfl, rfl⟩, fun h => Prod.ext h.1 h.2⟩
  obtain ⟨ro1, ro2⟩ := ro
  unfold okb at og oh ro1 ro2
  have go : f_X12_isNothing Y 95 (ki 4) (ki 2) (kl x) μ = if (lg_cmp (kl c.1) (kl r.1)) = ki 0 then (if (lg_cmp (kl c.2) (kl r.2)) = ki 0 then b_X12_isNothing_153 Y (1 : Int32) ν4 else b_X12_isNothing_152 Y ν4) else b_X12_isNothing_152 Y ν4 := by
    have e41 : (4 : Int) - 1 = 3 := by omega
    simp (disch := omega) only [f_X12_isNothing, krcv hM.y, ki_sub, ki_1, ki_2, e41, d1, d3', g16, g17, e1, e3', c3, k16, k17, c4, l16, l17, ki_0, ki_1, ki_2, ki_3, ki_4, ki_5, ki_6, ki_7, ki_8, ki_9, ki_10, ki_11, ki_12, ki_13, ki_18, ki_20, ki_24, ki_32, ki_36, ki_45, ki_47, ki_48, ki_50, ki_57, ki_60, ki_63, ki_99, ki_100, ki_101, ki_120, ki_255, ki_468, ki_1000, ki_1024, ki_13849, ki_25173, ki_65535, ki_65536, ki_100000, ki_100001, ki_2147483647, ki_2147483648, kl_0, kl_1, kl_2, kl_9223372036854775808, ki_add, ki_sub, ki_mul, ki_neg, kl_add, kl_sub, kl_mul, kl_neg, ki_i2l, kl_l2i, ki_lt, ki_le, ki_eq, kcmp_eq, kcmp_lt, kcmp_le, kcmp_gt, kcmp_ge, Option.bind_some, Option.map_some, kbool0, kbool1, if_pos, if_neg, if_true, if_false, Int.neg_neg, Int.sub_zero, Int.add_zero, Int.zero_add, true_and, and_true, false_and, and_false, false_or, or_false, true_or, or_true, ne_eq, not_false_eq_true, not_true_eq_false]
  rw [go]
  have I2 : cT * (d2 * d3) = (x * d2 - n2) * (x * d3 - n3) * cM ↔ c.1 = r.1 ∧ c.2 = r.2 := I.symm.trans ext
  clear I ext
  generalize c.1 = u1 at *
  generalize c.2 = u2 at *
  generalize r.1 = v1 at *
  generalize r.2 = v2 at *
  by_cases z1 : u1 = v1
  · by_cases z2 : u2 = v2
    · rw [if_pos (I2.2 ⟨z1, z2⟩)]
      simp (disch := omega) only [b_X12_isNothing_153, ki_0, ki_1, ki_2, ki_3, ki_4, ki_5, ki_6, ki_7, ki_8, ki_9, ki_10, ki_11, ki_12, ki_13, ki_18, ki_20, ki_24, ki_32, ki_36, ki_45, ki_47, ki_48, ki_50, ki_57, ki_60, ki_63, ki_99, ki_100, ki_101, ki_120, ki_255, ki_468, ki_1000, ki_1024, ki_13849, ki_25173, ki_65535, ki_65536, ki_100000, ki_100001, ki_2147483647, ki_2147483648, kl_0, kl_1, kl_2, kl_9223372036854775808, ki_add, ki_sub, ki_mul, ki_neg, kl_add, kl_sub, kl_mul, kl_neg, ki_i2l, kl_l2i, ki_lt, ki_le, ki_eq, kcmp_eq, kcmp_lt, kcmp_le, kcmp_gt, kcmp_ge, Option.bind_some, Option.map_some, kbool0, kbool1, if_pos, if_neg, if_true, if_false, Int.neg_neg, Int.sub_zero, Int.add_zero, Int.zero_add, true_and, and_true, false_and, and_false, false_or, or_false, true_or, or_true, ne_eq, not_false_eq_true, not_true_eq_false]
    · rw [if_neg (fun h => z2 (I2.1 h).2)]
      simp (disch := omega) only [b_X12_isNothing_152, b_X12_isNothing_153, ki_0, ki_1, ki_2, ki_3, ki_4, ki_5, ki_6, ki_7, ki_8, ki_9, ki_10, ki_11, ki_12, ki_13, ki_18, ki_20, ki_24, ki_32, ki_36, ki_45, ki_47, ki_48, ki_50, ki_57, ki_60, ki_63, ki_99, ki_100, ki_101, ki_120, ki_255, ki_468, ki_1000, ki_1024, ki_13849, ki_25173, ki_65535, ki_65536, ki_100000, ki_100001, ki_2147483647, ki_2147483648, kl_0, kl_1, kl_2, kl_9223372036854775808, ki_add, ki_sub, ki_mul, ki_neg, kl_add, kl_sub, kl_mul, kl_neg, ki_i2l, kl_l2i, ki_lt, ki_le, ki_eq, kcmp_eq, kcmp_lt, kcmp_le, kcmp_gt, kcmp_ge, Option.bind_some, Option.map_some, kbool0, kbool1, if_pos, if_neg, if_true, if_false, Int.neg_neg, Int.sub_zero, Int.add_zero, Int.zero_add, true_and, and_true, false_and, and_false, false_or, or_false, true_or, or_true, ne_eq, not_false_eq_true, not_true_eq_false]
  · rw [if_neg (fun h => z1 (I2.1 h).1)]
    simp (disch := omega) only [b_X12_isNothing_152, b_X12_isNothing_153, ki_0, ki_1, ki_2, ki_3, ki_4, ki_5, ki_6, ki_7, ki_8, ki_9, ki_10, ki_11, ki_12, ki_13, ki_18, ki_20, ki_24, ki_32, ki_36, ki_45, ki_47, ki_48, ki_50, ki_57, ki_60, ki_63, ki_99, ki_100, ki_101, ki_120, ki_255, ki_468, ki_1000, ki_1024, ki_13849, ki_25173, ki_65535, ki_65536, ki_100000, ki_100001, ki_2147483647, ki_2147483648, kl_0, kl_1, kl_2, kl_9223372036854775808, ki_add, ki_sub, ki_mul, ki_neg, kl_add, kl_sub, kl_mul, kl_neg, ki_i2l, kl_l2i, ki_lt, ki_le, ki_eq, kcmp_eq, kcmp_lt, kcmp_le, kcmp_gt, kcmp_ge, Option.bind_some, Option.map_some, kbool0, kbool1, if_pos, if_neg, if_true, if_false, Int.neg_neg, Int.sub_zero, Int.add_zero, Int.zero_add, true_and, and_true, false_and, and_false, false_or, or_false, true_or, or_true, ne_eq, not_false_eq_true, not_true_eq_false]
/-- the reference's loop over the divisors -/
theorem X12_fracLoop {Y : jY} {μ : jM} (hM : kM Y μ) {N : Nat} {U f : Int → Int} (eN : gi μ 95 10 = (N : Int)) (N4 : N ≤ 4) (hU : rowK μ 101 ((N : Int) + 1) U) (hf : rowK μ 103 8 f) {k : Nat} {x w : Int} (k1 : 1 ≤ k) (kN : k ≤ N) (x1 : -20 ≤ x) (x2 : x ≤ 20) (hw : w = 0 ∨ w = 1) (oG : okb (gV N U f k x)) (oE : okb (eV N U f k x)) {Z : Nat → Prop} (hZ0 : Z 0 ↔ eV N U f k x = 0) (hZ : ∀ j : Nat, j < k → ∀ ν : jM, frx μ ν → ∃ (b : Int) (ω : jM), f_X12_isNothing Y 95 (ki k) (ki j) (kl x) ν = some (ki b, ω) ∧ frx ν ω ∧ ((b = 1 ∧ Z j) ∨ (b = 0 ∧ ¬ Z j))) : ∃ r : Int64 × jM, jit jF (fun (s : Int32 × jM) => b_X12_fraction_50 Y 95 (ki k) (ki x) (ki w) s.1 s.2) ((0 : Int32), μ) = some r ∧ frx μ r.2 ∧ (((∃ j, j < k ∧ Z j) ∧ r.1 = kl (-2)) ∨ ((∀ j, j < k → ¬ Z j) ∧ r.1 = kl (if w = 0 then (fset (gV N U f k x) (eV N U f k x)).1 else (fset (gV N U f k x) (eV N U f k x)).2))) := by
  have x64 : (ki x).toInt64 = kl x := ki_i2l (by omega) (by omega)
  refine jit_inv (f := fun (s : Int32 × jM) => b_X12_fraction_50 Y 95 (ki k) (ki x) (ki w) s.1 s.2) (fun j z => z.1 = ki j ∧ frx μ z.2 ∧ ∀ i, i < j → ¬ Z i) _ k (s := ((0 : Int32), μ)) ⟨rfl, frx.refl, fun i hi => by omega⟩ (by omega) (fun j z hj hz => ?_)
  obtain ⟨v, ν⟩ := z
  obtain ⟨rfl, z1, z2⟩ := hz
  simp only [] at z1
  have hMν := hM.to z1.1
  by_cases e : j = k
  · subst e
    have l := X12_laterOf hMν N4 (by rw [z1.n]; exact eN) (hU.to z1.1 (by omega)) (hf.to z1.1 (by omega)) (k := j) (x := x) (by omega) (by omega)
    have v := X12_valueOf hMν N4 (by rw [z1.n]; exact eN) (hU.to z1.1 (by omega)) (hf.to z1.1 (by omega)) (k := j) (x := x) (by omega) (by omega)
    have E0 : eV N U f j x ≠ 0 := fun h => z2 0 (by omega) (hZ0.2 h)
    obtain ⟨ω, s1, s2⟩ := X12_sets hMν oG oE E0
    have hMω := hMν.to s2.1
    have tl := X12_told_f hMω s2.2.2.1 s2.2.2.2 hw
    refine ⟨.inr (kl (if w = 0 then (fset (gV N U f j x) (eV N U f j x)).1 else (fset (gV N U f j x) (eV N U f j x)).2), ω), ?_, z1.trans s2.x, Or.inr ⟨z2, rfl⟩⟩
    generalize fset (gV N U f j x) (eV N U f j x) = p at *
    generalize (if w = 0 then p.1 else p.2) = t at *
    simp (disch := omega) only [b_X12_fraction_50, x64, krcv hM.y, l, v, s1, tl, ki_0, ki_1, ki_2, ki_3, ki_4, ki_5, ki_6, ki_7, ki_8, ki_9, ki_10, ki_11, ki_12, ki_13, ki_18, ki_20, ki_24, ki_32, ki_36, ki_45, ki_47, ki_48, ki_50, ki_57, ki_60, ki_63, ki_99, ki_100, ki_101, ki_120, ki_255, ki_468, ki_1000, ki_1024, ki_13849, ki_25173, ki_65535, ki_65536, ki_100000, ki_100001, ki_2147483647, ki_2147483648, kl_0, kl_1, kl_2, kl_9223372036854775808, ki_add, ki_sub, ki_mul, ki_neg, kl_add, kl_sub, kl_mul, kl_neg, ki_i2l, kl_l2i, ki_lt, ki_le, ki_eq, kcmp_eq, kcmp_lt, kcmp_le, kcmp_gt, kcmp_ge, Option.bind_some, Option.map_some, kbool0, kbool1, if_pos, if_neg, if_true, if_false, Int.neg_neg, Int.sub_zero, Int.add_zero, Int.zero_add, true_and, and_true, false_and, and_false, false_or, or_false, true_or, or_true, ne_eq, not_false_eq_true, not_true_eq_false]
  · obtain ⟨b, ω, s1, s2, s3⟩ := hZ j (by omega) ν z1
    rcases s3 with ⟨rfl, s4⟩ | ⟨rfl, s4⟩
    · refine ⟨.inr (kl (-2), ω), ?_, z1.trans s2, Or.inl ⟨⟨j, by omega, s4⟩, rfl⟩⟩
      simp (disch := omega) only [b_X12_fraction_50, x64, krcv hM.y, s1, ki_0, ki_1, ki_2, ki_3, ki_4, ki_5, ki_6, ki_7, ki_8, ki_9, ki_10, ki_11, ki_12, ki_13, ki_18, ki_20, ki_24, ki_32, ki_36, ki_45, ki_47, ki_48, ki_50, ki_57, ki_60, ki_63, ki_99, ki_100, ki_101, ki_120, ki_255, ki_468, ki_1000, ki_1024, ki_13849, ki_25173, ki_65535, ki_65536, ki_100000, ki_100001, ki_2147483647, ki_2147483648, kl_0, kl_1, kl_2, kl_9223372036854775808, ki_add, ki_sub, ki_mul, ki_neg, kl_add, kl_sub, kl_mul, kl_neg, ki_i2l, kl_l2i, ki_lt, ki_le, ki_eq, kcmp_eq, kcmp_lt, kcmp_le, kcmp_gt, kcmp_ge, Option.bind_some, Option.map_some, kbool0, kbool1, if_pos, if_neg, if_true, if_false, Int.neg_neg, Int.sub_zero, Int.add_zero, Int.zero_add, true_and, and_true, false_and, and_false, false_or, or_false, true_or, or_true, ne_eq, not_false_eq_true, not_true_eq_false]
    · refine ⟨.inl (ki ((j + 1 : Nat) : Int), ω), ?_, by omega, rfl, z1.trans s2, fun i hi => ?_⟩
      · simp (disch := omega) only [b_X12_fraction_50, x64, krcv hM.y, s1, ki_0, ki_1, ki_2, ki_3, ki_4, ki_5, ki_6, ki_7, ki_8, ki_9, ki_10, ki_11, ki_12, ki_13, ki_18, ki_20, ki_24, ki_32, ki_36, ki_45, ki_47, ki_48, ki_50, ki_57, ki_60, ki_63, ki_99, ki_100, ki_101, ki_120, ki_255, ki_468, ki_1000, ki_1024, ki_13849, ki_25173, ki_65535, ki_65536, ki_100000, ki_100001, ki_2147483647, ki_2147483648, kl_0, kl_1, kl_2, kl_9223372036854775808, ki_add, ki_sub, ki_mul, ki_neg, kl_add, kl_sub, kl_mul, kl_neg, ki_i2l, kl_l2i, ki_lt, ki_le, ki_eq, kcmp_eq, kcmp_lt, kcmp_le, kcmp_gt, kcmp_ge, Option.bind_some, Option.map_some, kbool0, kbool1, if_pos, if_neg, if_true, if_false, Int.neg_neg, Int.sub_zero, Int.add_zero, Int.zero_add, true_and, and_true, false_and, and_false, false_or, or_false, true_or, or_true, ne_eq, not_false_eq_true, not_true_eq_false, Int.natCast_add, Int.natCast_one]
      · by_cases ij : i = j
        · rw [ij]; exact s4
        · exact z2 i (by omega)
