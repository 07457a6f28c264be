/-! THE TONES' TABLE, the reference's: determinants, sums, A and C as fractions -/
theorem cd_dvdr (a b : Int) : (cd a b : Int) ∣ b := by
  rw [← Int.natAbs_dvd_natAbs, Int.natAbs_natCast]
  unfold cd
  by_cases h : Nat.gcd a.natAbs b.natAbs = 0
  · rw [h]
    exact Nat.one_dvd _
  · rw [Nat.max_eq_right (by omega)]
    exact Nat.gcd_dvd_right _ _
theorem cd_comm (a b : Int) : cd a b = cd b a := by
  unfold cd
  rw [Nat.gcd_comm]
theorem cd_dvdl (a b : Int) : (cd a b : Int) ∣ a := by
  rw [cd_comm]
  exact cd_dvdr b a
theorem tdiv_ne {a g : Int} (h : g ∣ a) (g0 : g ≠ 0) (a0 : a ≠ 0) : a.tdiv g ≠ 0 := by
  obtain ⟨c, rfl⟩ := h
  rw [Int.mul_tdiv_cancel_left _ g0]
  intro e
  rw [e] at a0
  exact a0 (Int.mul_zero g)
def isZ (x : Int) : Bool := match x with
  | Int.ofNat 0 => true
  | _ => false
theorem isZ_f {x : Int} (h : isZ x = false) : x ≠ 0 := by
  intro e
  rw [e] at h
  cases h
def sO (t b : Int) : Option (Int × Int) := cond (isZ b) none (goF t b)
def mM (p : Int × Int) (t b : Int) : Option (Int × Int) := cond (isZ b) none (cond (isZ p.2) none (mF p (dF t (gF t b)) (dF b (gF t b))))
def aM (p : Int × Int) (t b : Int) : Option (Int × Int) := cond (isZ b) none (cond (isZ p.2) none (aF p (dF t (gF t b)) (dF b (gF t b))))
theorem goF_some {t b : Int} {q : Int × Int} (e : goF t b = some q) : okb t ∧ okb b ∧ q = fset t b := by
  rw [goF_eq] at e
  split at e
  · rename_i c
    rw [Bool.and_eq_true, okB_iff, okB_iff] at c
    cases e
    exact ⟨c.1, c.2, rfl⟩
  · cases e
theorem sO_some {t b : Int} {q : Int × Int} (e : sO t b = some q) : okb t ∧ okb b ∧ b ≠ 0 ∧ q = fset t b := by
  unfold sO at e
  cases h : isZ b with
  | true => rw [h] at e; cases e
  | false =>
    rw [h] at e
    have := goF_some e
    exact ⟨this.1, this.2.1, isZ_f h, this.2.2⟩
theorem sO_ok {t b : Int} {q : Int × Int} (e : sO t b = some q) : okb q.1 ∧ okb q.2 := by
  obtain ⟨h1, h2, _, rfl⟩ := sO_some e
  exact fset_ok h1 h2
theorem frm.trans {μ ν ω : jM} {p q : Int × Int} (h : frm μ ν p) (k : frm ν ω q) : frm μ ω q := ⟨h.1.trans k.1, fun j a b => by rw [k.2.1 j a b, h.2.1 j a b], k.2.2⟩
theorem X12_set {Y : jY} {μ : jM} (hM : kM Y μ) {t b : Int} {q : Int × Int} (e : sO t b = some q) : ∃ ν, f_X12_sets Y 95 (kl t) (kl b) μ = some ν ∧ frm μ ν q := by
  obtain ⟨h1, h2, h3, rfl⟩ := sO_some e
  exact X12_sets hM h1 h2 h3
theorem common_cd {a b : Int} (h : a ≠ 0 ∨ b ≠ 0) : (Nat.gcd a.natAbs b.natAbs : Int) = cd a b := by
  unfold cd
  have : 0 < Nat.gcd a.natAbs b.natAbs := by
    rcases h with h | h
    · exact Nat.gcd_pos_of_pos_left _ (by omega)
    · exact Nat.gcd_pos_of_pos_right _ (by omega)
  omega
theorem X12_two_w {Y : jY} {μ : jM} (hM : kM Y μ) {T B : Int} (hT : okb T) (hB : okb B) (B0 : B ≠ 0) : ∃ ν, f_X12_reduces Y 95 (jw (jw μ 95 16 (.long (kl T))) 95 17 (.long (kl B))) = some ν ∧ frm μ ν (fset T B) := by
  have k1 : kF 95 96 μ (jw μ 95 16 (.long (kl T))) := kF_L hM.l16 (by omega) (by omega)
  have hM1 := hM.to k1
  have k2 : kF 95 96 (jw μ 95 16 (.long (kl T))) (jw (jw μ 95 16 (.long (kl T))) 95 17 (.long (kl B))) := kF_L hM1.l17 (by omega) (by omega)
  obtain ⟨ν, f1, f2, f3, f4⟩ := X12_reduces (hM1.to k2) (t := T) (b := B) (by rw [jw_ne _ _ (by omega), jw_same]) (jw_same _ _ _ _) hT hB B0
  exact ⟨ν, f1, (k1.trans k2).trans f2, fun j p q => by rw [f3 j p q, jw_ne _ _ (by omega), jw_ne _ _ (by omega)], f4⟩
theorem X12_multiplies {Y : jY} {μ : jM} (hM : kM Y μ) {p : Int × Int} (h0 : μ 95 16 = .long (kl p.1)) (h1 : μ 95 17 = .long (kl p.2)) (o0 : okb p.1) (o1 : okb p.2) {t b : Int} (ht : okb t) (hb : okb b) {q : Int × Int} (e : mM p t b = some q) : ∃ ν, f_X12_multiplies Y 95 (kl t) (kl b) μ = some ν ∧ frm μ ν q := by
  unfold mM at e
  cases z1 : isZ b with
  | true => rw [z1] at e; cases e
  | false =>
    cases z2 : isZ p.2 with
    | true => rw [z1, z2] at e; cases e
    | false =>
      rw [z1, z2] at e
      have b0 := isZ_f z1
      have p0 := isZ_f z2
      have e' : mF p (dF t (gF t b)) (dF b (gF t b)) = some q := e
      rw [mF_eq, dF_eq, dF_eq, gF_eq] at e'
      have g16 := kgLv (k := 16) hM.y h0
      have g17 := kgLv (k := 17) hM.y h1
      have c1 := X12_common (Y := Y) (μ := μ) ht hb
      rw [common_cd (Or.inr b0)] at c1
      have d1 := kdivL ht (cd_ok ht hb) (cd_ne t b)
      have d2 := kdivL hb (cd_ok ht hb) (cd_ne t b)
      have b1 := tdiv_ne (cd_dvdr t b) (cd_ne t b) b0
      have ot := tdiv_ok (b := cd t b) ht
      have ob := tdiv_ok (b := cd t b) hb
      generalize t.tdiv (cd t b) = t' at *
      generalize b.tdiv (cd t b) = b' at *
      have c2 := X12_common (Y := Y) (μ := μ) o0 ob
      rw [common_cd (Or.inr b1)] at c2
      have c3 := X12_common (Y := Y) (μ := μ) ot o1
      rw [common_cd (Or.inr p0)] at c3
      have d3 := kdivL o0 (cd_ok o0 ob) (cd_ne p.1 b')
      have d4 := kdivL ot (cd_ok ot o1) (cd_ne t' p.2)
      have d5 := kdivL o1 (cd_ok ot o1) (cd_ne t' p.2)
      have d6 := kdivL ob (cd_ok o0 ob) (cd_ne p.1 b')
      have B0 : p.2.tdiv (cd t' p.2) * b'.tdiv (cd p.1 b') ≠ 0 := Int.mul_ne_zero (tdiv_ne (cd_dvdr t' p.2) (cd_ne _ _) p0) (tdiv_ne (cd_dvdr p.1 b') (cd_ne _ _) b1)
      simp only [fmulO] at e'
      split at e'
      · rename_i c
        rw [Bool.and_eq_true, okB_iff, okB_iff] at c
        cases e'
        have g17' := fun v => kgLv (Y := Y) (k := 17) (v := kl p.2) (μ := jw μ 95 16 v) hM.y (by rw [jw_ne _ _ (by omega)]; exact h1)
        obtain ⟨ν, f1, f2⟩ := X12_two_w hM c.1 c.2 B0
        refine ⟨ν, ?_, f2⟩
        simp only [f_X12_multiplies, g16, g17, c1, c2, c3, d1, d2, d3, d4, d5, d6, kM.p hM, g17', kl_mul, Option.bind_some, krcv hM.y, f1]
      · cases e'
theorem X12_adds {Y : jY} {μ : jM} (hM : kM Y μ) {p : Int × Int} (h0 : μ 95 16 = .long (kl p.1)) (h1 : μ 95 17 = .long (kl p.2)) (o1 : okb p.2) {t b : Int} (ht : okb t) (hb : okb b) {q : Int × Int} (e : aM p t b = some q) : ∃ ν, f_X12_adds Y 95 (kl t) (kl b) μ = some ν ∧ frm μ ν q := by
  unfold aM at e
  cases z1 : isZ b with
  | true => rw [z1] at e; cases e
  | false =>
    cases z2 : isZ p.2 with
    | true => rw [z1, z2] at e; cases e
    | false =>
      rw [z1, z2] at e
      have b0 := isZ_f z1
      have p0 := isZ_f z2
      have e' : aF p (dF t (gF t b)) (dF b (gF t b)) = some q := e
      rw [aF_eq, dF_eq, dF_eq, gF_eq] at e'
      have g16 := kgLv (k := 16) hM.y h0
      have g17 := kgLv (k := 17) hM.y h1
      have c1 := X12_common (Y := Y) (μ := μ) ht hb
      rw [common_cd (Or.inr b0)] at c1
      have d1 := kdivL ht (cd_ok ht hb) (cd_ne t b)
      have d2 := kdivL hb (cd_ok ht hb) (cd_ne t b)
      have b1 := tdiv_ne (cd_dvdr t b) (cd_ne t b) b0
      have ob := tdiv_ok (b := cd t b) hb
      generalize t.tdiv (cd t b) = t' at *
      generalize b.tdiv (cd t b) = b' at *
      have c2 := X12_common (Y := Y) (μ := μ) o1 ob
      rw [common_cd (Or.inr b1)] at c2
      have d3 := kdivL ob (cd_ok o1 ob) (cd_ne p.2 b')
      have d4 := kdivL o1 (cd_ok o1 ob) (cd_ne p.2 b')
      have B0 : p.2.tdiv (cd p.2 b') * b' ≠ 0 := Int.mul_ne_zero (tdiv_ne (cd_dvdl p.2 b') (cd_ne _ _) p0) b1
      simp only [faddO] at e'
      split at e'
      · rename_i c
        rw [Bool.and_eq_true, okB_iff, okB_iff] at c
        cases e'
        have g17' := fun v => kgLv (Y := Y) (k := 17) (v := kl p.2) (μ := jw μ 95 16 v) hM.y (by rw [jw_ne _ _ (by omega)]; exact h1)
        obtain ⟨ν, f1, f2⟩ := X12_two_w hM c.1 c.2 B0
        refine ⟨ν, ?_, f2⟩
        simp only [f_X12_adds, g16, g17, c1, c2, d1, d2, d3, d4, kM.p hM, g17', kl_mul, kl_add, Option.bind_some, krcv hM.y, f1]
      · cases e'
def DD (f : Int → Int) (k : Int) : Int := mMin f k 0 k
theorem X12_hankel {Y : jY} {μ : jM} (hM : kM Y μ) {f : Int → Int} (hf : rowK μ 103 8 f) {k : Int} (k0 : 0 ≤ k) (k4 : k ≤ 4) : f_X12_hankel Y 95 (ki k) μ = some (kl (DD f k), μ) := by
  have q := X12_minor hM hf (k := k) (s := 0) (v := k) k0 k4 (by omega) (by omega) k0 k4 (fun h => h)
  simp only [f_X12_hankel, ki_0, krcv hM.y, q, Option.bind_some]
  rfl
def sT (f U : Int → Int) (N i : Int) : Option (Int × Int) := if i = N then sO (-(U (N - 1))) 1 else if i = 0 then some (0, 1) else sO (mMin f i 0 (i - 1)) (DD f i)
theorem fset_01 : fset 0 1 = (0, 1) := by decide +kernel
theorem sT_ok {f U : Int → Int} {N i : Int} {q : Int × Int} (e : sT f U N i = some q) : okb q.1 ∧ okb q.2 := by
  unfold sT at e
  split at e
  · exact sO_ok e
  · split at e
    · cases e
      exact ⟨okb_0, okb_1⟩
    · exact sO_ok e
theorem X12_sumTo {Y : jY} {μ : jM} (hM : kM Y μ) {f U : Int → Int} {N : Int} (eN : gi μ 95 10 = N) (N1 : 1 ≤ N) (N4 : N ≤ 4) (hf : rowK μ 103 8 f) (hU : rowK μ 101 (N + 1) U) {i : Int} (i0 : 0 ≤ i) (iN : i ≤ N) {q : Int × Int} (e : sT f U N i = some q) : ∃ ν, f_X12_sumTo Y 95 (ki i) μ = some ν ∧ frm μ ν q := by
  have g := kM.g10 hM
  rw [eN] at g
  unfold sT at e
  by_cases h1 : i = N
  · rw [if_pos h1] at e
    subst h1
    have q1 := kaLv (kM.a101 hM) (x := i - 1) (by omega) (by omega) (hU (i - 1) (by omega) (by omega))
    obtain ⟨ν, f1, f2⟩ := X12_set hM e
    refine ⟨ν, ?_, f2⟩
    simp (disch := omega) only [f_X12_sumTo, b_X12_sumTo_59, g, kM.o13 hM, q1, krcv hM.y, f1, ki_0, ki_1, ki_2, ki_3, ki_4, ki_5, ki_6, ki_7, ki_8, ki_9, ki_10, ki_11, ki_12, ki_13, ki_18, ki_20, ki_24, ki_32, ki_36, ki_45, ki_47, ki_48, ki_50, ki_57, ki_60, ki_63, ki_99, ki_100, ki_101, ki_120, ki_255, ki_468, ki_1000, ki_1024, ki_13849, ki_25173, ki_65535, ki_65536, ki_100000, ki_100001, ki_2147483647, ki_2147483648, kl_0, kl_1, kl_2, kl_9223372036854775808, ki_add, ki_sub, ki_mul, ki_neg, kl_add, kl_sub, kl_mul, kl_neg, ki_i2l, kl_l2i, ki_lt, ki_le, ki_eq, kcmp_eq, kcmp_lt, kcmp_le, kcmp_gt, kcmp_ge, Option.bind_some, Option.map_some, kbool0, kbool1, if_pos, if_neg, if_true, if_false, Int.neg_neg, Int.sub_zero, Int.add_zero, Int.zero_add, true_and, and_true, false_and, and_false, false_or, or_false, true_or, or_true, ne_eq, not_false_eq_true, not_true_eq_false]
  · rw [if_neg h1] at e
    by_cases h2 : i = 0
    · rw [if_pos h2] at e
      cases e
      subst h2
      obtain ⟨ν, f1, f2⟩ := X12_sets hM (t := 0) (b := 1) okb_0 okb_1 (by omega)
      rw [fset_01] at f2
      refine ⟨ν, ?_, f2⟩
      simp (disch := omega) only [f_X12_sumTo, b_X12_sumTo_59, g, krcv hM.y, f1, ki_0, ki_1, ki_2, ki_3, ki_4, ki_5, ki_6, ki_7, ki_8, ki_9, ki_10, ki_11, ki_12, ki_13, ki_18, ki_20, ki_24, ki_32, ki_36, ki_45, ki_47, ki_48, ki_50, ki_57, ki_60, ki_63, ki_99, ki_100, ki_101, ki_120, ki_255, ki_468, ki_1000, ki_1024, ki_13849, ki_25173, ki_65535, ki_65536, ki_100000, ki_100001, ki_2147483647, ki_2147483648, kl_0, kl_1, kl_2, kl_9223372036854775808, ki_add, ki_sub, ki_mul, ki_neg, kl_add, kl_sub, kl_mul, kl_neg, ki_i2l, kl_l2i, ki_lt, ki_le, ki_eq, kcmp_eq, kcmp_lt, kcmp_le, kcmp_gt, kcmp_ge, Option.bind_some, Option.map_some, kbool0, kbool1, if_pos, if_neg, if_true, if_false, Int.neg_neg, Int.sub_zero, Int.add_zero, Int.zero_add, true_and, and_true, false_and, and_false, false_or, or_false, true_or, or_true, ne_eq, not_false_eq_true, not_true_eq_false]
    · rw [if_neg h2] at e
      have q1 := X12_minor hM hf (k := i) (s := 0) (v := i - 1) i0 (by omega) (by omega) (by omega) (by omega) (by omega) (by omega)
      have q2 := X12_hankel hM hf (k := i) i0 (by omega)
      obtain ⟨ν, f1, f2⟩ := X12_set hM e
      refine ⟨ν, ?_, f2⟩
      simp (disch := omega) only [f_X12_sumTo, b_X12_sumTo_59, g, krcv hM.y, q1, q2, f1, ki_0, ki_1, ki_2, ki_3, ki_4, ki_5, ki_6, ki_7, ki_8, ki_9, ki_10, ki_11, ki_12, ki_13, ki_18, ki_20, ki_24, ki_32, ki_36, ki_45, ki_47, ki_48, ki_50, ki_57, ki_60, ki_63, ki_99, ki_100, ki_101, ki_120, ki_255, ki_468, ki_1000, ki_1024, ki_13849, ki_25173, ki_65535, ki_65536, ki_100000, ki_100001, ki_2147483647, ki_2147483648, kl_0, kl_1, kl_2, kl_9223372036854775808, ki_add, ki_sub, ki_mul, ki_neg, kl_add, kl_sub, kl_mul, kl_neg, ki_i2l, kl_l2i, ki_lt, ki_le, ki_eq, kcmp_eq, kcmp_lt, kcmp_le, kcmp_gt, kcmp_ge, Option.bind_some, Option.map_some, kbool0, kbool1, if_pos, if_neg, if_true, if_false, Int.neg_neg, Int.sub_zero, Int.add_zero, Int.zero_add, true_and, and_true, false_and, and_false, false_or, or_false, true_or, or_true, ne_eq, not_false_eq_true, not_true_eq_false]
def tA (f U : Int → Int) (N i : Int) : Option (Int × Int) := (sT f U N i).bind fun s => (sT f U N (i + 1)).bind fun t => aM t (-s.1) s.2
def tC (f : Int → Int) (i : Int) : Option (Int × Int) := (sO (DD f (i + 2)) (DD f (i + 1))).bind fun p => cond (Nat.ble (DD f i).natAbs 4611686018427387904) (mM p (DD f i) (DD f (i + 1))) none
theorem okb_neg {x : Int} (h : okb x) : okb (-x) := by
  unfold okb at *
  omega
theorem aM_ok {p : Int × Int} {t b : Int} {q : Int × Int} (e : aM p t b = some q) : okb q.1 ∧ okb q.2 := by
  unfold aM at e
  cases z1 : isZ b with
  | true => rw [z1] at e; cases e
  | false =>
    cases z2 : isZ p.2 with
    | true => rw [z1, z2] at e; cases e
    | false =>
      rw [z1, z2] at e
      exact aF_ok e
theorem mM_ok {p : Int × Int} {t b : Int} {q : Int × Int} (e : mM p t b = some q) : okb q.1 ∧ okb q.2 := by
  unfold mM at e
  cases z1 : isZ b with
  | true => rw [z1] at e; cases e
  | false =>
    cases z2 : isZ p.2 with
    | true => rw [z1, z2] at e; cases e
    | false =>
      rw [z1, z2] at e
      exact mF_ok e
theorem X12_laysA {Y : jY} {μ : jM} (hM : kM Y μ) {f U : Int → Int} {N : Int} (eN : gi μ 95 10 = N) (N1 : 1 ≤ N) (N4 : N ≤ 4) (hf : rowK μ 103 8 f) (hU : rowK μ 101 (N + 1) U) {i : Int} (i0 : 0 ≤ i) (iN : i < N) {q : Int × Int} (e : tA f U N i = some q) : ∃ ν, f_X12_laysA Y 95 (ki i) μ = some ν ∧ frm μ ν q ∧ okb q.1 ∧ okb q.2 := by
  simp only [tA, Option.bind_eq_some_iff] at e
  obtain ⟨s, e1, t, e2, e3⟩ := e
  obtain ⟨μ1, c1, f1⟩ := X12_sumTo hM eN N1 N4 hf hU i0 (by omega) e1
  have hM1 := hM.to f1.1
  have g16 := kgLv (k := 16) hM1.y f1.2.2.1
  have g17 := kgLv (k := 17) hM1.y f1.2.2.2
  obtain ⟨μ2, c2, f2⟩ := X12_sumTo hM1 (by rw [gi, f1.2.1 _ (by decide) (by decide)]; exact eN) N1 N4 (hf.to f1.1 (by omega)) (hU.to f1.1 (by omega)) (i := i + 1) (by omega) (by omega) e2
  have hM2 := hM1.to f2.1
  have so := sT_ok e1
  obtain ⟨μ3, c3, f3⟩ := X12_adds hM2 f2.2.2.1 f2.2.2.2 (sT_ok e2).2 (okb_neg so.1) so.2 e3
  refine ⟨μ3, ?_, (f1.trans f2).trans f3, aM_ok e3⟩
  simp only [f_X12_laysA, krcv hM.y, c1, g16, g17, ki_1, ki_add, c2, kl_neg, c3, Option.bind_some]
theorem X12_laysC {Y : jY} {μ : jM} (hM : kM Y μ) {f : Int → Int} (hf : rowK μ 103 8 f) {i : Int} (i0 : 0 ≤ i) (i2 : i ≤ 2) {q : Int × Int} (e : tC f i = some q) : ∃ ν, f_X12_laysC Y 95 (ki i) μ = some ν ∧ frm μ ν q ∧ okb q.1 ∧ okb q.2 := by
  simp only [tC, Option.bind_eq_some_iff] at e
  obtain ⟨p, e1, e2⟩ := e
  cases z : Nat.ble (DD f i).natAbs 4611686018427387904 with
  | false => rw [z] at e2; cases e2
  | true =>
    rw [z] at e2
    have e2' : mM p (DD f i) (DD f (i + 1)) = some q := e2
    have oi : okb (DD f i) := okB_iff.1 z
    have h1 := X12_hankel hM hf (k := i + 2) (by omega) (by omega)
    have h2 := X12_hankel hM hf (k := i + 1) (by omega) (by omega)
    obtain ⟨μ1, c1, f1⟩ := X12_set hM e1
    have hM1 := hM.to f1.1
    have h3 := X12_hankel hM1 (hf.to f1.1 (by omega)) (k := i) (by omega) (by omega)
    have h4 := X12_hankel hM1 (hf.to f1.1 (by omega)) (k := i + 1) (by omega) (by omega)
    have so := sO_ok e1
    obtain ⟨μ2, c2, f2⟩ := X12_multiplies hM1 f1.2.2.1 f1.2.2.2 so.1 so.2 oi (sO_some e1).2.1 e2'
    refine ⟨μ2, ?_, f1.trans f2, mM_ok e2'⟩
    simp only [f_X12_laysC, krcv hM.y, ki_1, ki_2, ki_add, h1, h2, c1, h3, h4, c2, Option.bind_some]
