/-! OPS: inverse -/
theorem pv_small {A C : Int → Int} {fr : Int} {n : Nat} (hA : ∀ x, fr ≤ x → x < fr + n → -6 ≤ A x ∧ A x ≤ 6) (hC : ∀ x, fr ≤ x → x < fr + n - 1 → 1 ≤ C x ∧ C x ≤ 36) : ∀ i : Nat, i ≤ n → (pv A C 0 1 fr i).2.natAbs ≤ 10 ^ i ∧ (pv A C 0 1 fr (i + 1)).1.natAbs ≤ 10 ^ i := by
  intro i
  induction i using Nat.strongRecOn with
  | ind i ih =>
    intro hi
    have main : (pv A C 0 1 fr i).2.natAbs ≤ 10 ^ i := by
      match i, ih, hi with
      | 0, _, _ => exact Nat.le_refl _
      | i + 1, ih, hi =>
        obtain ⟨h1, _⟩ := ih i (by omega) (by omega)
        have a := hA (fr + i) (by omega) (by omega)
        have m1 : ((0 - 1 * A (fr + i)) * (pv A C 0 1 fr i).2).natAbs ≤ 6 * 10 ^ i := nb_mul (by omega) h1
        match i, ih, hi, h1, a, m1 with
        | 0, _, _, _, a, _ =>
          show ((0 - 1 * A (fr + (0 : Nat))) * 1 - 1 * 1 * C (fr + (0 : Nat) - 1) * 0).natAbs ≤ 10
          omega
        | i + 1, ih, hi, h1, a, m1 =>
          obtain ⟨_, h2⟩ := ih i (by omega) (by omega)
          have c := hC (fr + (i + 1 : Nat) - 1) (by omega) (by omega)
          have m2 : (1 * 1 * C (fr + (i + 1 : Nat) - 1) * (pv A C 0 1 fr (i + 1)).1).natAbs ≤ 36 * 10 ^ i := nb_mul (by omega) h2
          have := nb_sub m1 m2
          have e1 : 10 ^ (i + 1) = 10 * 10 ^ i := by rw [Nat.pow_succ]; omega
          have e2 : 10 ^ (i + 1 + 1) = 100 * 10 ^ i := by rw [Nat.pow_succ, e1]; omega
          show ((0 - 1 * A (fr + (i + 1 : Nat))) * (pv A C 0 1 fr (i + 1)).2 - 1 * 1 * C (fr + (i + 1 : Nat) - 1) * (pv A C 0 1 fr (i + 1)).1).natAbs ≤ _
          omega
    exact ⟨main, main⟩
def ivQ (r0 : Int × Int) (C : Int → Int) (lo : Int) : Nat → Option (Int × Int)
  | 0 => mF r0 r0.1 r0.2
  | s + 1 => (ivQ r0 C lo s).bind fun q => mF q (C (lo + s)) 1
def ivT (t : Int) (C : Int → Int) (lo : Int) : Nat → Int
  | 0 => t * t
  | s + 1 => ivT t C lo s * C (lo + s)
def p36 : Nat → Nat
  | 0 => 1
  | s + 1 => p36 s * 36
theorem ivT_bd {t : Int} {C : Int → Int} {lo : Int} {B : Nat} (ht : t.natAbs ≤ B) : ∀ s : Nat, (∀ x : Nat, x < s → 1 ≤ C (lo + x) ∧ C (lo + x) ≤ 36) → (ivT t C lo s).natAbs ≤ B * B * p36 s := by
  intro s
  induction s with
  | zero => intro _; rw [p36, Nat.mul_one]; exact nb_mul ht ht
  | succ s ih =>
    intro h
    have c := h s (by omega)
    rw [ivT, p36, ← Nat.mul_assoc]
    exact nb_mul (ih (fun x hx => h x (by omega))) (by omega)
theorem ivQ_is {t b : Int} {C : Int → Int} {lo : Int} (b0 : b ≠ 0) (ht : t.natAbs ≤ 10000) (hb : b.natAbs ≤ 100000) : ∀ s : Nat, s ≤ 4 → (∀ x : Nat, x < s → 1 ≤ C (lo + x) ∧ C (lo + x) ≤ 36) → ∃ q, ivQ (fset t b) C lo s = some q ∧ fq q (ivT t C lo s) (b * b) := by
  have bb : b * b ≠ 0 := Int.mul_ne_zero b0 b0
  have obb : okb (b * b) := okb_nb (nb_mul hb hb) (by decide)
  intro s
  induction s with
  | zero =>
    intro _ _
    have f := fset_fq (T := t) b0
    exact f.mul f (T := t * t) bb rfl (okb_nb (nb_mul ht ht) (by decide)) obb
  | succ s ih =>
    intro hs h
    obtain ⟨q, e, f⟩ := ih (by omega) (fun x hx => h x (by omega))
    have bd := ivT_bd ht (s + 1) h
    have p : p36 (s + 1) ≤ 1679616 := by
      have : ∀ s, s ≤ 4 → p36 s ≤ 1679616 := by decide
      exact this (s + 1) hs
    have ok : okb (ivT t C lo (s + 1)) := okb_nb bd (by
      have := Nat.mul_le_mul_left (10000 * 10000) p
      omega)
    obtain ⟨r, e2, f2⟩ := f.mul (fq.w (t := C (lo + s))) (T := ivT t C lo (s + 1)) bb (by rw [ivT, Int.mul_one]) ok obb
    exact ⟨r, by rw [ivQ, e]; exact e2, f2⟩
theorem ivQ_ok {r0 : Int × Int} {C : Int → Int} {lo : Int} {s : Nat} {q : Int × Int} (h : ivQ r0 C lo s = some q) : okb q.1 ∧ okb q.2 := by
  cases s with
  | zero => exact mF_ok h
  | succ s =>
    rw [ivQ, Option.bind_eq_some_iff] at h
    obtain ⟨p, _, h2⟩ := h
    exact mF_ok h2
theorem mF_snd {p : Int × Int} {t b : Int} {q : Int × Int} (h : mF p t b = some q) : q.2 ≠ 0 := by
  rw [mF_eq] at h
  simp only [fmulO] at h
  split at h
  · cases h
    by_cases z : p.2.tdiv (cd t p.2) * b.tdiv (cd p.1 b) = 0
    · unfold fset
      rw [if_pos z]
      decide
    · have := (fset_fq (T := p.1.tdiv (cd p.1 b) * t.tdiv (cd t p.2)) z).2.1
      omega
  · cases h
theorem ivQ_snd {r0 : Int × Int} {C : Int → Int} {lo : Int} {s : Nat} {q : Int × Int} (h : ivQ r0 C lo s = some q) : q.2 ≠ 0 := by
  cases s with
  | zero => exact mF_snd h
  | succ s =>
    rw [ivQ, Option.bind_eq_some_iff] at h
    obtain ⟨p, _, h2⟩ := h
    exact mF_snd h2
theorem ivQ_pre {r0 : Int × Int} {C : Int → Int} {lo : Int} {s : Nat} {q : Int × Int} : ∀ d : Nat, ivQ r0 C lo (s + d) = some q → ∃ p, ivQ r0 C lo s = some p := by
  intro d
  induction d generalizing q with
  | zero => intro h; exact ⟨q, h⟩
  | succ d ih =>
    intro h
    rw [← Nat.add_assoc, ivQ, Option.bind_eq_some_iff] at h
    obtain ⟨p, h1, _⟩ := h
    exact ih h1
/-- what is told: nothing, or a fraction -/
def ivR (A C : Int → Int) (R lo hi : Int) : Int := (pv A C 0 1 0 lo.toNat).2 * (pv A C 0 1 (hi + 1) (R - hi - 1).toNat).2
set_option maxHeartbeats 1000000 in
theorem X10_invert {Y : jY} {μ : jM} {o : Nat} (hT : kT Y μ o) (hB : kTb μ o) (ho : o + 2 < 94) (hF : kFr Y μ 94) {i j lo hi R : Int} (hR : gi μ o 0 = R) (l0 : 0 ≤ lo) (lh : lo ≤ hi) (hh : hi < R) (e1 : jminI (ki i) (ki j) = ki lo) (e2 : jmaxI (ki i) (ki j) = ki hi) {A C : Int → Int} (hA : gi μ (o + 1) = A) (hC : gi μ (o + 2) = C) {q : Int × Int} (hq : (pv A C 0 1 0 R.toNat).2 ≠ 0 → (lo = hi → q = fset (-(ivR A C R lo hi)) (pv A C 0 1 0 R.toNat).2) ∧ (lo ≠ hi → ivQ (fset (ivR A C R lo hi) (pv A C 0 1 0 R.toNat).2) C lo (hi - lo).toNat = some q)) (op : (pv A C 0 1 0 R.toNat).2.natAbs ≤ 100000) (or : (ivR A C R lo hi).natAbs ≤ 10000) : ∃ ν, f_X10_invert Y o (ki i) (ki j) 94 μ = some (ki (if (pv A C 0 1 0 R.toNat).2 = 0 then 0 else 1), ν) ∧ kF 94 95 μ ν ∧ ((pv A C 0 1 0 R.toNat).2 ≠ 0 → frS ν 94 q) := by
  have R0 := hB.1
  have R5 := hB.2.1
  have g := kT.gr hT
  rw [hR] at g R0 R5
  have v1 := X10_valueAt hT hB (fr := 0) (k := R) (p := 0) (q := 1) (by omega) (by omega) (by omega) (by omega) (by omega) (by omega) (by omega)
  have v2 := X10_valueAt hT hB (fr := 0) (k := lo) (p := 0) (q := 1) (by omega) (by omega) (by omega) (by omega) (by omega) (by omega) (by omega)
  have v3 := X10_valueAt hT hB (fr := hi + 1) (k := R - hi - 1) (p := 0) (q := 1) (by omega) (by omega) (by omega) (by omega) (by omega) (by omega) (by omega)
  rw [hA, hC] at v1 v2 v3
  unfold ivR at *
  have cb := hB.2.2.2
  rw [hR, hC] at cb
  generalize (pv A C 0 1 0 R.toNat).2 = P at *
  generalize (pv A C 0 1 0 lo.toNat).2 = u at *
  generalize (pv A C 0 1 (hi + 1) (R - hi - 1).toNat).2 = v at *
  by_cases p0 : P = 0
  · rw [if_pos p0]
    refine ⟨μ, ?_, kF.refl, fun h => absurd p0 h⟩
    simp (disch := omega) only [f_X10_invert, g, krcv hT.y, v1, ki_0, ki_1, ki_2, ki_3, ki_4, ki_5, ki_6, ki_7, ki_8, ki_9, ki_10, ki_11, ki_12, ki_13, ki_18, ki_20, ki_24, ki_32, ki_36, ki_45, ki_47, ki_48, ki_50, ki_57, ki_60, ki_63, ki_99, ki_100, ki_101, ki_120, ki_255, ki_468, ki_1000, ki_1024, ki_13849, ki_25173, ki_65535, ki_65536, ki_100000, ki_100001, ki_2147483647, ki_2147483648, kl_0, kl_1, kl_2, kl_9223372036854775808, ki_add, ki_sub, ki_mul, ki_neg, kl_add, kl_sub, kl_mul, kl_neg, ki_i2l, kl_l2i, ki_lt, ki_le, ki_eq, kcmp_eq, kcmp_lt, kcmp_le, kcmp_gt, kcmp_ge, Option.bind_some, Option.map_some, kbool0, kbool1, if_pos, if_neg, if_true, if_false, Int.neg_neg, Int.sub_zero, Int.add_zero, Int.zero_add, true_and, and_true, false_and, and_false, false_or, or_false, true_or, or_true, ne_eq, not_false_eq_true, not_true_eq_false]
  · rw [if_neg p0]
    obtain ⟨q1, q2⟩ := hq p0
    have oP := okb_nb op (by decide)
    by_cases e : lo = hi
    · have S := X1_set hF (t := -(u * v)) (b := P) (okb_neg (okb_nb or (by decide))) oP
      rw [← q1 e] at S
      have so := fset_ok (t := -(u * v)) (b := P) (okb_neg (okb_nb or (by decide))) oP
      rw [← q1 e] at so
      refine ⟨frw μ 94 q, ?_, frw_kF hF, fun _ => frS.w so.1 so.2⟩
      have e3 : jmaxI (ki i) (ki j) = ki lo := by rw [e2, e]
      subst e
      simp (disch := omega) only [f_X10_invert, g, krcv hT.y, v1, e1, e2, v2, v3, krcv hF.1, S, ki_0, ki_1, ki_2, ki_3, ki_4, ki_5, ki_6, ki_7, ki_8, ki_9, ki_10, ki_11, ki_12, ki_13, ki_18, ki_20, ki_24, ki_32, ki_36, ki_45, ki_47, ki_48, ki_50, ki_57, ki_60, ki_63, ki_99, ki_100, ki_101, ki_120, ki_255, ki_468, ki_1000, ki_1024, ki_13849, ki_25173, ki_65535, ki_65536, ki_100000, ki_100001, ki_2147483647, ki_2147483648, kl_0, kl_1, kl_2, kl_9223372036854775808, ki_add, ki_sub, ki_mul, ki_neg, kl_add, kl_sub, kl_mul, kl_neg, ki_i2l, kl_l2i, ki_lt, ki_le, ki_eq, kcmp_eq, kcmp_lt, kcmp_le, kcmp_gt, kcmp_ge, Option.bind_some, Option.map_some, kbool0, kbool1, if_pos, if_neg, if_true, if_false, Int.neg_neg, Int.sub_zero, Int.add_zero, Int.zero_add, true_and, and_true, false_and, and_false, false_or, or_false, true_or, or_true, ne_eq, not_false_eq_true, not_true_eq_false]
    · have q2 := q2 e
      have S := X1_set hF (t := u * v) (b := P) (okb_nb or (by decide)) oP
      have so := fset_ok (t := u * v) (b := P) (okb_nb or (by decide)) oP
      have f1 : frS (frw μ 94 (fset (u * v) P)) 94 (fset (u * v) P) := frS.w so.1 so.2
      have k1 : kF 94 95 μ (frw μ 94 (fset (u * v) P)) := frw_kF hF
      generalize frw μ 94 (fset (u * v) P) = μ1 at *
      generalize fset (u * v) P = r0 at *
      have hF1 := hF.to k1
      obtain ⟨p1, t1⟩ : ∃ p, ivQ r0 C lo 0 = some p := ivQ_pre (hi - lo).toNat (by rw [Nat.zero_add]; exact q2)
      have t1' : mF r0 r0.1 r0.2 = some p1 := t1
      have m1 := X1_multiply_ hF1 f1.2.2.1 f1.2.2.2 f1.1 f1.2.1 f1.1 f1.2.1 (by rw [← mF_eq]; exact t1')
      have po := mF_ok t1'
      have k2 := k1.trans (frw_kF (p := p1) hF1)
      have E : f_X10_invert Y o (ki i) (ki j) 94 μ = jit jF (fun (s : Int32 × jM) => b_X10_invert_109 Y o 94 (ki hi) s.1 s.2) (ki lo, frw μ1 94 p1) := by
        simp (disch := omega) only [f_X10_invert, g, krcv hT.y, v1, e1, e2, v2, v3, krcv hF.1, S, f1.g0 hF1, f1.g1 hF1, m1, ki_0, ki_1, ki_2, ki_3, ki_4, ki_5, ki_6, ki_7, ki_8, ki_9, ki_10, ki_11, ki_12, ki_13, ki_18, ki_20, ki_24, ki_32, ki_36, ki_45, ki_47, ki_48, ki_50, ki_57, ki_60, ki_63, ki_99, ki_100, ki_101, ki_120, ki_255, ki_468, ki_1000, ki_1024, ki_13849, ki_25173, ki_65535, ki_65536, ki_100000, ki_100001, ki_2147483647, ki_2147483648, kl_0, kl_1, kl_2, kl_9223372036854775808, ki_add, ki_sub, ki_mul, ki_neg, kl_add, kl_sub, kl_mul, kl_neg, ki_i2l, kl_l2i, ki_lt, ki_le, ki_eq, kcmp_eq, kcmp_lt, kcmp_le, kcmp_gt, kcmp_ge, Option.bind_some, Option.map_some, kbool0, kbool1, if_pos, if_neg, if_true, if_false, Int.neg_neg, Int.sub_zero, Int.add_zero, Int.zero_add, true_and, and_true, false_and, and_false, false_or, or_false, true_or, or_true, ne_eq, not_false_eq_true, not_true_eq_false]
      rw [E]
      obtain ⟨r, w1, ν, rfl, w2, w3⟩ := jit_inv (f := fun (s : Int32 × jM) => b_X10_invert_109 Y o 94 (ki hi) s.1 s.2) (fun s z => z.1 = ki (lo + s) ∧ kF 94 95 μ z.2 ∧ ∃ p, ivQ r0 C lo s = some p ∧ frS z.2 94 p) (fun r => ∃ ν, r = (ki 1, ν) ∧ kF 94 95 μ ν ∧ frS ν 94 q) (hi - lo).toNat (s := (ki lo, frw μ1 94 p1)) ⟨by rw [show lo + ((0 : Nat) : Int) = lo by omega], k2, p1, t1, frS.w po.1 po.2⟩ (by omega) (fun s z hs hz => by
        obtain ⟨vv, ν⟩ := z
        obtain ⟨rfl, z1, p, z2, z3⟩ := hz
        simp only [] at z1 z3
        have hFz := hF.to z1
        have hTz := hT.to z1
        by_cases es : s = (hi - lo).toNat
        · subst es
          rw [q2] at z2
          cases z2
          refine ⟨.inr (ki 1, ν), ?_, ν, rfl, z1, z3⟩
          simp (disch := omega) only [b_X10_invert_109, ki_0, ki_1, ki_2, ki_3, ki_4, ki_5, ki_6, ki_7, ki_8, ki_9, ki_10, ki_11, ki_12, ki_13, ki_18, ki_20, ki_24, ki_32, ki_36, ki_45, ki_47, ki_48, ki_50, ki_57, ki_60, ki_63, ki_99, ki_100, ki_101, ki_120, ki_255, ki_468, ki_1000, ki_1024, ki_13849, ki_25173, ki_65535, ki_65536, ki_100000, ki_100001, ki_2147483647, ki_2147483648, kl_0, kl_1, kl_2, kl_9223372036854775808, ki_add, ki_sub, ki_mul, ki_neg, kl_add, kl_sub, kl_mul, kl_neg, ki_i2l, kl_l2i, ki_lt, ki_le, ki_eq, kcmp_eq, kcmp_lt, kcmp_le, kcmp_gt, kcmp_ge, Option.bind_some, Option.map_some, kbool0, kbool1, if_pos, if_neg, if_true, if_false, Int.neg_neg, Int.sub_zero, Int.add_zero, Int.zero_add, true_and, and_true, false_and, and_false, false_or, or_false, true_or, or_true, ne_eq, not_false_eq_true, not_true_eq_false]
        · obtain ⟨p', t2⟩ : ∃ p, ivQ r0 C lo (s + 1) = some p := ivQ_pre ((hi - lo).toNat - (s + 1)) (by rw [show s + 1 + ((hi - lo).toNat - (s + 1)) = (hi - lo).toNat by omega]; exact q2)
          have t3 := t2
          rw [ivQ, z2, Option.bind_some] at t3
          have c := cb (lo + s) (by omega) (by omega)
          have gc := kaI hTz.ac (x := lo + s) (by omega) (by omega)
          rw [z1.gi (by omega), hC] at gc
          have c64 : (ki (C (lo + s))).toInt64 = kl (C (lo + s)) := ki_i2l (by omega) (by omega)
          have m2 := X1_multiply_ hFz z3.2.2.1 z3.2.2.2 z3.1 z3.2.1 (t := C (lo + s)) (b := 1) ⟨by omega, by omega⟩ okb_1 (by rw [← mF_eq]; exact t3)
          have po2 := mF_ok t3
          refine ⟨.inl (ki (lo + ((s + 1 : Nat) : Int)), frw ν 94 p'), ?_, by omega, rfl, z1.trans (frw_kF hFz), p', t2, frS.w po2.1 po2.2⟩
          generalize C (lo + s) = cc at *
          simp (disch := omega) only [b_X10_invert_109, hTz.gc, gc, c64, krcv hF.1, m2, ki_0, ki_1, ki_2, ki_3, ki_4, ki_5, ki_6, ki_7, ki_8, ki_9, ki_10, ki_11, ki_12, ki_13, ki_18, ki_20, ki_24, ki_32, ki_36, ki_45, ki_47, ki_48, ki_50, ki_57, ki_60, ki_63, ki_99, ki_100, ki_101, ki_120, ki_255, ki_468, ki_1000, ki_1024, ki_13849, ki_25173, ki_65535, ki_65536, ki_100000, ki_100001, ki_2147483647, ki_2147483648, kl_0, kl_1, kl_2, kl_9223372036854775808, ki_add, ki_sub, ki_mul, ki_neg, kl_add, kl_sub, kl_mul, kl_neg, ki_i2l, kl_l2i, ki_lt, ki_le, ki_eq, kcmp_eq, kcmp_lt, kcmp_le, kcmp_gt, kcmp_ge, Option.bind_some, Option.map_some, kbool0, kbool1, if_pos, if_neg, if_true, if_false, Int.neg_neg, Int.sub_zero, Int.add_zero, Int.zero_add, true_and, and_true, false_and, and_false, false_or, or_false, true_or, or_true, ne_eq, not_false_eq_true, not_true_eq_false, Int.natCast_add, Int.natCast_one, Int.add_assoc])
      exact ⟨ν, w1, w2, fun _ => w3⟩
set_option maxHeartbeats 1000000 in
theorem X12_inverse {Y : jY} {μ : jM} (hM : kM Y μ) {d i j lo hi R w : Int} (d0 : 0 ≤ d) (d3 : d ≤ 3) (hR : gi μ 108 d = R) (R5 : R ≤ 5) (i0 : 0 ≤ i) (i1 : i < R) (j0 : 0 ≤ j) (j1 : j < R) (hw : w = 0 ∨ w = 1) (hl : lo = if i ≤ j then i else j) (hh : hi = if i ≤ j then j else i) (cb : ∀ x, 0 ≤ x → x < R - 1 → 1 ≤ mC μ d x ∧ mC μ d x ≤ 36) {q : Int × Int} (hq : (pv (mA μ d) (mC μ d) 0 1 0 R.toNat).2 ≠ 0 → (lo = hi → q = fset (-(ivR (mA μ d) (mC μ d) R lo hi)) (pv (mA μ d) (mC μ d) 0 1 0 R.toNat).2) ∧ (lo ≠ hi → ivQ (fset (ivR (mA μ d) (mC μ d) R lo hi) (pv (mA μ d) (mC μ d) 0 1 0 R.toNat).2) (mC μ d) lo (hi - lo).toNat = some q)) (op : (pv (mA μ d) (mC μ d) 0 1 0 R.toNat).2.natAbs ≤ 100000) (or : (ivR (mA μ d) (mC μ d) R lo hi).natAbs ≤ 10000) : ∃ ν, f_X12_inverse Y 95 (ki d) (ki i) (ki j) (ki w) μ = some (kl (if (pv (mA μ d) (mC μ d) 0 1 0 R.toNat).2 = 0 then -2 else if w = 0 then q.1 else q.2), ν) ∧ frx μ ν := by
  have g := kaI (kM.a108 hM) (x := d) d0 (by omega)
  rw [hR] at g
  have lo0 : 0 ≤ lo := by rw [hl]; split <;> omega
  have lh : lo ≤ hi := by rw [hl, hh]; split <;> omega
  have hiR : hi < R := by rw [hh]; split <;> omega
  have v1 := X12_valueAt hM (d := d) (fr := 0) (k := R) (x := 0) d0 d3 (by omega) (by omega) (by omega)
  have v2 := X12_valueAt hM (d := d) (fr := 0) (k := lo) (x := 0) d0 d3 (by omega) (by omega) (by omega)
  have v3 := X12_valueAt hM (d := d) (fr := hi + 1) (k := R - hi - 1) (x := 0) d0 d3 (by omega) (by omega) (by omega)
  unfold ivR at *
  have C5 : ∀ x, 0 ≤ x → x < 5 → ∀ ν : jM, frx μ ν → f_X12_c Y 95 (ki d) (ki x) ν = some (ki (mC μ d x), ν) := fun x a b ν hν => by
    have := X12_c (hM.to hν.1) (d := d) (i := x) d0 d3 a b
    have e : mC ν d x = mC μ d x := by
      unfold mC
      exact hν.1.gi (by omega) _
    rw [e] at this
    exact this
  generalize (pv (mA μ d) (mC μ d) 0 1 0 R.toNat).2 = P at *
  generalize (pv (mA μ d) (mC μ d) 0 1 0 lo.toNat).2 = u at *
  generalize (pv (mA μ d) (mC μ d) 0 1 (hi + 1) (R - hi - 1).toNat).2 = v at *
  generalize mC μ d = C at *
  by_cases p0 : P = 0
  · rw [if_pos p0]
    refine ⟨μ, ?_, frx.refl⟩
    simp (disch := omega) only [f_X12_inverse, X12_isDrawer, X12_in, krcv hM.y, kM.o26 hM, g, v1, ki_0, ki_1, ki_2, ki_3, ki_4, ki_5, ki_6, ki_7, ki_8, ki_9, ki_10, ki_11, ki_12, ki_13, ki_18, ki_20, ki_24, ki_32, ki_36, ki_45, ki_47, ki_48, ki_50, ki_57, ki_60, ki_63, ki_99, ki_100, ki_101, ki_120, ki_255, ki_468, ki_1000, ki_1024, ki_13849, ki_25173, ki_65535, ki_65536, ki_100000, ki_100001, ki_2147483647, ki_2147483648, kl_0, kl_1, kl_2, kl_9223372036854775808, ki_add, ki_sub, ki_mul, ki_neg, kl_add, kl_sub, kl_mul, kl_neg, ki_i2l, kl_l2i, ki_lt, ki_le, ki_eq, kcmp_eq, kcmp_lt, kcmp_le, kcmp_gt, kcmp_ge, Option.bind_some, Option.map_some, kbool0, kbool1, if_pos, if_neg, if_true, if_false, Int.neg_neg, Int.sub_zero, Int.add_zero, Int.zero_add, true_and, and_true, false_and, and_false, false_or, or_false, true_or, or_true, ne_eq, not_false_eq_true, not_true_eq_false]
  · rw [if_neg p0]
    obtain ⟨q1, q2⟩ := hq p0
    have oP := okb_nb op (by decide)
    have E : f_X12_inverse Y 95 (ki d) (ki i) (ki j) (ki w) μ = b_X12_inverse_114 Y 95 (ki d) (ki i) (ki j) (ki w) (ki R) (kl P) (ki lo) (ki hi) μ := by
      by_cases ij : i ≤ j
      · rw [if_pos ij] at hl hh
        rw [hl, hh]
        by_cases ji : j ≤ i
        · have : i = j := by omega
          simp (disch := omega) only [f_X12_inverse, b_X12_inverse_102, X12_isDrawer, X12_in, krcv hM.y, kM.o26 hM, g, v1, ki_0, ki_1, ki_2, ki_3, ki_4, ki_5, ki_6, ki_7, ki_8, ki_9, ki_10, ki_11, ki_12, ki_13, ki_18, ki_20, ki_24, ki_32, ki_36, ki_45, ki_47, ki_48, ki_50, ki_57, ki_60, ki_63, ki_99, ki_100, ki_101, ki_120, ki_255, ki_468, ki_1000, ki_1024, ki_13849, ki_25173, ki_65535, ki_65536, ki_100000, ki_100001, ki_2147483647, ki_2147483648, kl_0, kl_1, kl_2, kl_9223372036854775808, ki_add, ki_sub, ki_mul, ki_neg, kl_add, kl_sub, kl_mul, kl_neg, ki_i2l, kl_l2i, ki_lt, ki_le, ki_eq, kcmp_eq, kcmp_lt, kcmp_le, kcmp_gt, kcmp_ge, Option.bind_some, Option.map_some, kbool0, kbool1, if_pos, if_neg, if_true, if_false, Int.neg_neg, Int.sub_zero, Int.add_zero, Int.zero_add, true_and, and_true, false_and, and_false, false_or, or_false, true_or, or_true, ne_eq, not_false_eq_true, not_true_eq_false]
          rw [this]
        · simp (disch := omega) only [f_X12_inverse, b_X12_inverse_102, X12_isDrawer, X12_in, krcv hM.y, kM.o26 hM, g, v1, ki_0, ki_1, ki_2, ki_3, ki_4, ki_5, ki_6, ki_7, ki_8, ki_9, ki_10, ki_11, ki_12, ki_13, ki_18, ki_20, ki_24, ki_32, ki_36, ki_45, ki_47, ki_48, ki_50, ki_57, ki_60, ki_63, ki_99, ki_100, ki_101, ki_120, ki_255, ki_468, ki_1000, ki_1024, ki_13849, ki_25173, ki_65535, ki_65536, ki_100000, ki_100001, ki_2147483647, ki_2147483648, kl_0, kl_1, kl_2, kl_9223372036854775808, ki_add, ki_sub, ki_mul, ki_neg, kl_add, kl_sub, kl_mul, kl_neg, ki_i2l, kl_l2i, ki_lt, ki_le, ki_eq, kcmp_eq, kcmp_lt, kcmp_le, kcmp_gt, kcmp_ge, Option.bind_some, Option.map_some, kbool0, kbool1, if_pos, if_neg, if_true, if_false, Int.neg_neg, Int.sub_zero, Int.add_zero, Int.zero_add, true_and, and_true, false_and, and_false, false_or, or_false, true_or, or_true, ne_eq, not_false_eq_true, not_true_eq_false]
      · rw [if_neg ij] at hl hh
        rw [hl, hh]
        simp (disch := omega) only [f_X12_inverse, b_X12_inverse_102, X12_isDrawer, X12_in, krcv hM.y, kM.o26 hM, g, v1, ki_0, ki_1, ki_2, ki_3, ki_4, ki_5, ki_6, ki_7, ki_8, ki_9, ki_10, ki_11, ki_12, ki_13, ki_18, ki_20, ki_24, ki_32, ki_36, ki_45, ki_47, ki_48, ki_50, ki_57, ki_60, ki_63, ki_99, ki_100, ki_101, ki_120, ki_255, ki_468, ki_1000, ki_1024, ki_13849, ki_25173, ki_65535, ki_65536, ki_100000, ki_100001, ki_2147483647, ki_2147483648, kl_0, kl_1, kl_2, kl_9223372036854775808, ki_add, ki_sub, ki_mul, ki_neg, kl_add, kl_sub, kl_mul, kl_neg, ki_i2l, kl_l2i, ki_lt, ki_le, ki_eq, kcmp_eq, kcmp_lt, kcmp_le, kcmp_gt, kcmp_ge, Option.bind_some, Option.map_some, kbool0, kbool1, if_pos, if_neg, if_true, if_false, Int.neg_neg, Int.sub_zero, Int.add_zero, Int.zero_add, true_and, and_true, false_and, and_false, false_or, or_false, true_or, or_true, ne_eq, not_false_eq_true, not_true_eq_false]
    rw [E]
    by_cases e : lo = hi
    · have ij : i = j := by rw [hl, hh] at e; split at e <;> omega
      have tl0 := fun (ω : jM) (r : Int × Int) (f : frm μ ω r) => X12_told_f (hM.to f.1) f.2.2.1 f.2.2.2 hw
      obtain ⟨ω, s1, s2⟩ := X12_sets hM (t := -(u * v)) (b := P) (okb_neg (okb_nb or (by decide))) oP p0
      rw [← q1 e] at s2
      have tl := tl0 ω q s2
      refine ⟨ω, ?_, s2.x⟩
      generalize (if w = 0 then q.1 else q.2) = t at *
      rw [Int.neg_mul_eq_neg_mul] at s1
      simp (disch := omega) only [b_X12_inverse_114, krcv hM.y, v2, v3, s1, tl, ki_0, ki_1, ki_2, ki_3, ki_4, ki_5, ki_6, ki_7, ki_8, ki_9, ki_10, ki_11, ki_12, ki_13, ki_18, ki_20, ki_24, ki_32, ki_36, ki_45, ki_47, ki_48, ki_50, ki_57, ki_60, ki_63, ki_99, ki_100, ki_101, ki_120, ki_255, ki_468, ki_1000, ki_1024, ki_13849, ki_25173, ki_65535, ki_65536, ki_100000, ki_100001, ki_2147483647, ki_2147483648, kl_0, kl_1, kl_2, kl_9223372036854775808, ki_add, ki_sub, ki_mul, ki_neg, kl_add, kl_sub, kl_mul, kl_neg, ki_i2l, kl_l2i, ki_lt, ki_le, ki_eq, kcmp_eq, kcmp_lt, kcmp_le, kcmp_gt, kcmp_ge, Option.bind_some, Option.map_some, kbool0, kbool1, if_pos, if_neg, if_true, if_false, Int.neg_neg, Int.sub_zero, Int.add_zero, Int.zero_add, true_and, and_true, false_and, and_false, false_or, or_false, true_or, or_true, ne_eq, not_false_eq_true, not_true_eq_false]
    · have ij : ¬ i = j := by
        intro z
        apply e
        rw [hl, hh, if_pos (by omega), if_pos (by omega)]
        exact z
      have q2 := q2 e
      obtain ⟨ω, s1, s2⟩ := X12_sets hM (t := u * v) (b := P) (okb_nb or (by decide)) oP p0
      have so := fset_ok (t := u * v) (b := P) (okb_nb or (by decide)) oP
      have sf := fset_fq (T := u * v) p0
      generalize fset (u * v) P = r0 at *
      have hMω := hM.to s2.1
      have g16 := kgLv (k := 16) hMω.y s2.2.2.1
      have g17 := kgLv (k := 17) hMω.y s2.2.2.2
      obtain ⟨p1, t1⟩ : ∃ p, ivQ r0 C lo 0 = some p := ivQ_pre (hi - lo).toNat (by rw [Nat.zero_add]; exact q2)
      have t1' : mF r0 r0.1 r0.2 = some p1 := t1
      rw [← mM_red (by have := sf.2.1; omega) (by have := sf.2.1; omega) sf.2.2.1] at t1'
      obtain ⟨ω2, m1, m2⟩ := X12_multiplies hMω s2.2.2.1 s2.2.2.2 so.1 so.2 so.1 so.2 t1'
      have E2 : b_X12_inverse_114 Y 95 (ki d) (ki i) (ki j) (ki w) (ki R) (kl P) (ki lo) (ki hi) μ = jit jF (fun (s : Int32 × jM) => b_X12_inverse_205 Y 95 (ki d) (ki w) (ki hi) s.1 s.2) (ki lo, ω2) := by
        simp (disch := omega) only [b_X12_inverse_114, krcv hM.y, v2, v3, s1, g16, g17, m1, ki_0, ki_1, ki_2, ki_3, ki_4, ki_5, ki_6, ki_7, ki_8, ki_9, ki_10, ki_11, ki_12, ki_13, ki_18, ki_20, ki_24, ki_32, ki_36, ki_45, ki_47, ki_48, ki_50, ki_57, ki_60, ki_63, ki_99, ki_100, ki_101, ki_120, ki_255, ki_468, ki_1000, ki_1024, ki_13849, ki_25173, ki_65535, ki_65536, ki_100000, ki_100001, ki_2147483647, ki_2147483648, kl_0, kl_1, kl_2, kl_9223372036854775808, ki_add, ki_sub, ki_mul, ki_neg, kl_add, kl_sub, kl_mul, kl_neg, ki_i2l, kl_l2i, ki_lt, ki_le, ki_eq, kcmp_eq, kcmp_lt, kcmp_le, kcmp_gt, kcmp_ge, Option.bind_some, Option.map_some, kbool0, kbool1, if_pos, if_neg, if_true, if_false, Int.neg_neg, Int.sub_zero, Int.add_zero, Int.zero_add, true_and, and_true, false_and, and_false, false_or, or_false, true_or, or_true, ne_eq, not_false_eq_true, not_true_eq_false]
      rw [E2]
      obtain ⟨r, w1, ν, rfl, w2⟩ := jit_inv (f := fun (s : Int32 × jM) => b_X12_inverse_205 Y 95 (ki d) (ki w) (ki hi) s.1 s.2) (fun s z => z.1 = ki (lo + s) ∧ ∃ p, ivQ r0 C lo s = some p ∧ frm μ z.2 p) (fun r => ∃ ν, r = (kl (if w = 0 then q.1 else q.2), ν) ∧ frx μ ν) (hi - lo).toNat (s := (ki lo, ω2)) ⟨by rw [show lo + ((0 : Nat) : Int) = lo by omega], p1, t1, s2.trans m2⟩ (by omega) (fun s z hs hz => by
        obtain ⟨vv, ν⟩ := z
        obtain ⟨rfl, p, z2, z3⟩ := hz
        simp only [] at z3
        have hMz := hM.to z3.1
        have po := ivQ_ok z2
        by_cases es : s = (hi - lo).toNat
        · subst es
          rw [q2] at z2
          cases z2
          have tl := X12_told_f hMz z3.2.2.1 z3.2.2.2 hw
          refine ⟨.inr (kl (if w = 0 then q.1 else q.2), ν), ?_, ν, rfl, z3.x⟩
          generalize (if w = 0 then q.1 else q.2) = tt at *
          simp (disch := omega) only [b_X12_inverse_205, krcv hM.y, tl, ki_0, ki_1, ki_2, ki_3, ki_4, ki_5, ki_6, ki_7, ki_8, ki_9, ki_10, ki_11, ki_12, ki_13, ki_18, ki_20, ki_24, ki_32, ki_36, ki_45, ki_47, ki_48, ki_50, ki_57, ki_60, ki_63, ki_99, ki_100, ki_101, ki_120, ki_255, ki_468, ki_1000, ki_1024, ki_13849, ki_25173, ki_65535, ki_65536, ki_100000, ki_100001, ki_2147483647, ki_2147483648, kl_0, kl_1, kl_2, kl_9223372036854775808, ki_add, ki_sub, ki_mul, ki_neg, kl_add, kl_sub, kl_mul, kl_neg, ki_i2l, kl_l2i, ki_lt, ki_le, ki_eq, kcmp_eq, kcmp_lt, kcmp_le, kcmp_gt, kcmp_ge, Option.bind_some, Option.map_some, kbool0, kbool1, if_pos, if_neg, if_true, if_false, Int.neg_neg, Int.sub_zero, Int.add_zero, Int.zero_add, true_and, and_true, false_and, and_false, false_or, or_false, true_or, or_true, ne_eq, not_false_eq_true, not_true_eq_false]
        · obtain ⟨p', t2⟩ : ∃ p, ivQ r0 C lo (s + 1) = some p := ivQ_pre ((hi - lo).toNat - (s + 1)) (by rw [show s + 1 + ((hi - lo).toNat - (s + 1)) = (hi - lo).toNat by omega]; exact q2)
          have t3 := t2
          rw [ivQ, z2, Option.bind_some] at t3
          have c := cb (lo + s) (by omega) (by omega)
          have gc := C5 (lo + s) (by omega) (by omega) ν z3.x
          have c64 : (ki (C (lo + s))).toInt64 = kl (C (lo + s)) := ki_i2l (by omega) (by omega)
          rw [← mM_red (ivQ_snd z2) (by omega) (Nat.gcd_one_right _)] at t3
          obtain ⟨ν2, n1, n2⟩ := X12_multiplies hMz z3.2.2.1 z3.2.2.2 po.1 po.2 (t := C (lo + s)) (b := 1) ⟨by omega, by omega⟩ okb_1 t3
          refine ⟨.inl (ki (lo + ((s + 1 : Nat) : Int)), ν2), ?_, by omega, rfl, p', t2, z3.trans n2⟩
          generalize C (lo + s) = cc at *
          simp (disch := omega) only [b_X12_inverse_205, krcv hM.y, gc, c64, n1, ki_0, ki_1, ki_2, ki_3, ki_4, ki_5, ki_6, ki_7, ki_8, ki_9, ki_10, ki_11, ki_12, ki_13, ki_18, ki_20, ki_24, ki_32, ki_36, ki_45, ki_47, ki_48, ki_50, ki_57, ki_60, ki_63, ki_99, ki_100, ki_101, ki_120, ki_255, ki_468, ki_1000, ki_1024, ki_13849, ki_25173, ki_65535, ki_65536, ki_100000, ki_100001, ki_2147483647, ki_2147483648, kl_0, kl_1, kl_2, kl_9223372036854775808, ki_add, ki_sub, ki_mul, ki_neg, kl_add, kl_sub, kl_mul, kl_neg, ki_i2l, kl_l2i, ki_lt, ki_le, ki_eq, kcmp_eq, kcmp_lt, kcmp_le, kcmp_gt, kcmp_ge, Option.bind_some, Option.map_some, kbool0, kbool1, if_pos, if_neg, if_true, if_false, Int.neg_neg, Int.sub_zero, Int.add_zero, Int.zero_add, true_and, and_true, false_and, and_false, false_or, or_false, true_or, or_true, ne_eq, not_false_eq_true, not_true_eq_false, Int.natCast_add, Int.natCast_one, Int.add_assoc])
      exact ⟨ν, w1, w2⟩
theorem ivQ_congr {r0 : Int × Int} {C C2 : Int → Int} {lo : Int} : ∀ s : Nat, (∀ x : Nat, x < s → C (lo + x) = C2 (lo + x)) → ivQ r0 C lo s = ivQ r0 C2 lo s := by
  intro s
  induction s with
  | zero => intro _; rfl
  | succ s ih =>
    intro h
    rw [ivQ, ivQ, ih (fun x hx => h x (by omega)), h s (by omega)]
set_option maxHeartbeats 1000000 in
theorem ok_inverse {L : Nat} {xs : Nat → Int32} {n : Nat} {Y : jY} {μ : jM} (h : Inv L xs n Y μ) : so_inverse (Inv L xs) n Y μ := by
  have hX := h.x
  have hM := h.m
  intro a1 a2 a3 a4
  obtain ⟨d, d1, d2, rfl⟩ := ki_is a1
  obtain ⟨i, i1, i2, rfl⟩ := ki_is a2
  obtain ⟨j, j1, j2, rfl⟩ := ki_is a3
  obtain ⟨w, w1, w2, rfl⟩ := ki_is a4
  by_cases hd : 0 ≤ d ∧ d ≤ 3
  · obtain ⟨hT, hB, hMB, hR, hA, hC⟩ := h.d hd.1 hd.2; have hR0 := hMB.1; have hR5 := hMB.2.1
    by_cases hz : gi μ 108 d = 0
    · refine ⟨(kl (-9223372036854775808), μ), (kl (-9223372036854775808), μ), ?_, fun _ => rfl, ?_, rfl, h⟩ <;> simp (disch := omega) only [f_X11_inverse, b_X11_inverse_34, f_X12_inverse, b_X12_inverse_58, krcv (kX.y1 hX), kX.o1_3 hX, kS.gd (kX.now hX), kS.gt (kX.now hX), X11_within, X11_isDrawer, f_X11_isFilled, b_X11_isFilled_27, b_X11_isFilled_26, f_X11_isRow, b_X11_isRow_35, b_X11_isRow_34, f_X11_isPart, b_X11_isPart_14, b_X11_isPart_9, krcv (kM.y hM), kM.o26 hM, kaI (kM.a108 hM), X12_in, X12_isDrawer, kT.gr hT, krcv hT.y, hR, ki_0, ki_1, ki_2, ki_3, ki_4, ki_5, ki_6, ki_7, ki_8, ki_9, ki_10, ki_11, ki_12, ki_13, ki_18, ki_20, ki_24, ki_32, ki_36, ki_45, ki_47, ki_48, ki_50, ki_57, ki_60, ki_63, ki_99, ki_100, ki_101, ki_120, ki_255, ki_468, ki_1000, ki_1024, ki_13849, ki_25173, ki_65535, ki_65536, ki_100000, ki_100001, ki_2147483647, ki_2147483648, kl_0, kl_1, kl_2, kl_9223372036854775808, ki_add, ki_sub, ki_mul, ki_neg, kl_add, kl_sub, kl_mul, kl_neg, ki_i2l, kl_l2i, ki_lt, ki_le, ki_eq, kcmp_eq, kcmp_lt, kcmp_le, kcmp_gt, kcmp_ge, Option.bind_some, Option.map_some, kbool0, kbool1, if_pos, if_neg, if_true, if_false, Int.neg_neg, Int.sub_zero, Int.add_zero, Int.zero_add, true_and, and_true, false_and, and_false, false_or, or_false, true_or, or_true, ne_eq, not_false_eq_true, not_true_eq_false]
    · by_cases hi : 0 ≤ i ∧ i ≤ gi μ 108 d - 1
      · by_cases hj : 0 ≤ j ∧ j ≤ gi μ 108 d - 1
        · by_cases hw : w = 0 ∨ w = 1
          · have ip := X11_isPart (Y := Y) (μ := μ) w1 w2
            rw [if_pos hw] at ip
            obtain ⟨R, eR⟩ : ∃ R, R = gi μ 108 d := ⟨_, rfl⟩
            obtain ⟨lo, elo⟩ : ∃ lo, lo = if i ≤ j then i else j := ⟨_, rfl⟩
            obtain ⟨hi', ehi⟩ : ∃ hi', hi' = if i ≤ j then j else i := ⟨_, rfl⟩
            have lo0 : 0 ≤ lo := by rw [elo]; split <;> omega
            have lh : lo ≤ hi' := by rw [elo, ehi]; split <;> omega
            have hiR : hi' < R := by rw [ehi]; split <;> omega
            have bA : ∀ x, 0 ≤ x → x < R → -6 ≤ mA μ d x ∧ mA μ d x ≤ 6 := fun x a b => hMB.2.2.1 x a (by omega)
            have bC : ∀ x, 0 ≤ x → x < R - 1 → 1 ≤ mC μ d x ∧ mC μ d x ≤ 36 := fun x a b => hMB.2.2.2 x a (by omega)
            have sP := (pv_small (A := mA μ d) (C := mC μ d) (fr := 0) (n := R.toNat) (fun x a b => bA x a (by omega)) (fun x a b => bC x a (by omega)) R.toNat (Nat.le_refl _)).1
            have sU := (pv_small (A := mA μ d) (C := mC μ d) (fr := 0) (n := lo.toNat) (fun x a b => bA x a (by omega)) (fun x a b => bC x a (by omega)) lo.toNat (Nat.le_refl _)).1
            have sV := (pv_small (A := mA μ d) (C := mC μ d) (fr := hi' + 1) (n := (R - hi' - 1).toNat) (fun x a b => bA x (by omega) (by omega)) (fun x a b => bC x (by omega) (by omega)) (R - hi' - 1).toNat (Nat.le_refl _)).1
            have t10 : ∀ k, k ≤ 5 → 10 ^ k ≤ 100000 := by decide
            have op : (pv (mA μ d) (mC μ d) 0 1 0 R.toNat).2.natAbs ≤ 100000 := Nat.le_trans sP (t10 _ (by omega))
            have or : (ivR (mA μ d) (mC μ d) R lo hi').natAbs ≤ 10000 := by
              have m := nb_mul sU sV
              have : ∀ a, a ≤ 4 → ∀ b, b ≤ 4 → a + b ≤ 4 → 10 ^ a * 10 ^ b ≤ 10000 := by decide
              exact Nat.le_trans m (this _ (by omega) _ (by omega) (by omega))
            have eP : (pv (gi μ (9 + 5 + 3 * d.toNat + 1)) (gi μ (9 + 5 + 3 * d.toNat + 2)) 0 1 0 R.toNat).2 = (pv (mA μ d) (mC μ d) 0 1 0 R.toNat).2 := by
              rw [pv_congr (n := R.toNat) (fun x a b => hA x a (by omega)) (fun x a b => hC x a (by omega)) R.toNat (Nat.le_refl _)]
            have eV : ivR (gi μ (9 + 5 + 3 * d.toNat + 1)) (gi μ (9 + 5 + 3 * d.toNat + 2)) R lo hi' = ivR (mA μ d) (mC μ d) R lo hi' := by
              unfold ivR
              rw [pv_congr (n := lo.toNat) (fun x a b => hA x a (by omega)) (fun x a b => hC x a (by omega)) lo.toNat (Nat.le_refl _), pv_congr (n := (R - hi' - 1).toNat) (fun x a b => hA x (by omega) (by omega)) (fun x a b => hC x (by omega) (by omega)) (R - hi' - 1).toNat (Nat.le_refl _)]
            have Q : ∃ q, (pv (mA μ d) (mC μ d) 0 1 0 R.toNat).2 ≠ 0 → (lo = hi' → q = fset (-(ivR (mA μ d) (mC μ d) R lo hi')) (pv (mA μ d) (mC μ d) 0 1 0 R.toNat).2) ∧ (lo ≠ hi' → ivQ (fset (ivR (mA μ d) (mC μ d) R lo hi') (pv (mA μ d) (mC μ d) 0 1 0 R.toNat).2) (mC μ d) lo (hi' - lo).toNat = some q) := by
              by_cases p0 : (pv (mA μ d) (mC μ d) 0 1 0 R.toNat).2 = 0
              · exact ⟨(0, 1), fun h => absurd p0 h⟩
              · by_cases e : lo = hi'
                · exact ⟨_, fun _ => ⟨fun _ => rfl, fun h => absurd e h⟩⟩
                · obtain ⟨q, q1, _⟩ := ivQ_is (C := mC μ d) (lo := lo) p0 or op (hi' - lo).toNat (by omega) (fun x hx => bC (lo + x) (by omega) (by omega))
                  exact ⟨q, fun _ => ⟨fun h => absurd h e, fun _ => q1⟩⟩
            obtain ⟨q, hq⟩ := Q
            have eQ : ivQ (fset (ivR (mA μ d) (mC μ d) R lo hi') (pv (mA μ d) (mC μ d) 0 1 0 R.toNat).2) (gi μ (9 + 5 + 3 * d.toNat + 2)) lo (hi' - lo).toNat = ivQ (fset (ivR (mA μ d) (mC μ d) R lo hi') (pv (mA μ d) (mC μ d) 0 1 0 R.toNat).2) (mC μ d) lo (hi' - lo).toNat := ivQ_congr _ (fun x hx => hC (lo + x) (by omega) (by omega))
            obtain ⟨ν, c1, kf, fr⟩ := X10_invert hT hB (by omega) hX.f94 (i := i) (j := j) (lo := lo) (hi := hi') (R := R) (by rw [hR, eR]) lo0 lh hiR (by
              rw [kmin (by omega) (by omega) (by omega) (by omega), elo]
              congr 1
              split <;> split <;> omega) (by
              rw [kmax (by omega) (by omega) (by omega) (by omega), ehi]
              congr 1
              split <;> split <;> omega) rfl rfl (q := q) (by rw [eP, eV, eQ]; exact hq) (by rw [eP]; exact op) (by rw [eV]; exact or)
            rw [eP] at c1 fr
            have hX1 := hX.to kf
            have hM1 := hM.to kf
            have eR1 : gi ν 108 d = R := by rw [kf.gi (by omega), eR]
            have eA1 : mA ν d = mA μ d := funext fun x => kf.gi (by omega) _
            have eC1 : mC ν d = mC μ d := funext fun x => kf.gi (by omega) _
            obtain ⟨ω, c2, fx⟩ := X12_inverse hM1 (d := d) (i := i) (j := j) (lo := lo) (hi := hi') (R := R) (w := w) hd.1 hd.2 eR1 (by omega) hi.1 (by omega) hj.1 (by omega) hw elo ehi (by rw [eC1]; exact bC) (q := q) (by rw [eA1, eC1]; exact hq) (by rw [eA1, eC1]; exact op) (by rw [eA1, eC1]; exact or)
            rw [eA1, eC1] at c2
            have fin : kP μ ω := (kP.of_frac kf).trans fx.kP
            generalize (pv (mA μ d) (mC μ d) 0 1 0 R.toNat).2 = P at *
            by_cases p0 : P = 0
            · rw [if_pos p0] at c1 c2
              refine ⟨(kl (-2), ν), (kl (-2), ω), ?_, fun m => congrFun (kf.1 0 (by omega)) m, c2, rfl, h.to fin⟩
              clear hq eQ eP eV op or sP sU sV
              clear c2 ip
              rcases hw with rfl | rfl
              · simp (disch := omega) only [f_X11_inverse, b_X11_inverse_74, krcv (kX.y1 hX), kX.o1_3 hX, kS.gd (kX.now hX), kS.gt (kX.now hX), X11_within, X11_isDrawer, f_X11_isFilled, b_X11_isFilled_27, b_X11_isFilled_26, f_X11_isRow, b_X11_isRow_35, b_X11_isRow_34, f_X11_isPart, b_X11_isPart_14, b_X11_isPart_9, kX.o1_12 hX, kT.gr hT, krcv hT.y, hR, c1, ki_0, ki_1, ki_2, ki_3, ki_4, ki_5, ki_6, ki_7, ki_8, ki_9, ki_10, ki_11, ki_12, ki_13, ki_18, ki_20, ki_24, ki_32, ki_36, ki_45, ki_47, ki_48, ki_50, ki_57, ki_60, ki_63, ki_99, ki_100, ki_101, ki_120, ki_255, ki_468, ki_1000, ki_1024, ki_13849, ki_25173, ki_65535, ki_65536, ki_100000, ki_100001, ki_2147483647, ki_2147483648, kl_0, kl_1, kl_2, kl_9223372036854775808, ki_add, ki_sub, ki_mul, ki_neg, kl_add, kl_sub, kl_mul, kl_neg, ki_i2l, kl_l2i, ki_lt, ki_le, ki_eq, kcmp_eq, kcmp_lt, kcmp_le, kcmp_gt, kcmp_ge, Option.bind_some, Option.map_some, kbool0, kbool1, if_pos, if_neg, if_true, if_false, Int.neg_neg, Int.sub_zero, Int.add_zero, Int.zero_add, true_and, and_true, false_and, and_false, false_or, or_false, true_or, or_true, ne_eq, not_false_eq_true, not_true_eq_false]
              · simp (disch := omega) only [f_X11_inverse, b_X11_inverse_74, krcv (kX.y1 hX), kX.o1_3 hX, kS.gd (kX.now hX), kS.gt (kX.now hX), X11_within, X11_isDrawer, f_X11_isFilled, b_X11_isFilled_27, b_X11_isFilled_26, f_X11_isRow, b_X11_isRow_35, b_X11_isRow_34, f_X11_isPart, b_X11_isPart_14, b_X11_isPart_9, kX.o1_12 hX, kT.gr hT, krcv hT.y, hR, c1, ki_0, ki_1, ki_2, ki_3, ki_4, ki_5, ki_6, ki_7, ki_8, ki_9, ki_10, ki_11, ki_12, ki_13, ki_18, ki_20, ki_24, ki_32, ki_36, ki_45, ki_47, ki_48, ki_50, ki_57, ki_60, ki_63, ki_99, ki_100, ki_101, ki_120, ki_255, ki_468, ki_1000, ki_1024, ki_13849, ki_25173, ki_65535, ki_65536, ki_100000, ki_100001, ki_2147483647, ki_2147483648, kl_0, kl_1, kl_2, kl_9223372036854775808, ki_add, ki_sub, ki_mul, ki_neg, kl_add, kl_sub, kl_mul, kl_neg, ki_i2l, kl_l2i, ki_lt, ki_le, ki_eq, kcmp_eq, kcmp_lt, kcmp_le, kcmp_gt, kcmp_ge, Option.bind_some, Option.map_some, kbool0, kbool1, if_pos, if_neg, if_true, if_false, Int.neg_neg, Int.sub_zero, Int.add_zero, Int.zero_add, true_and, and_true, false_and, and_false, false_or, or_false, true_or, or_true, ne_eq, not_false_eq_true, not_true_eq_false]
            · rw [if_neg p0] at c1 c2
              have f := fr p0
              have pt := X1_part hX1.f94 f.2.2.1 f.2.2.2 hw
              refine ⟨(kl (if w = 0 then q.1 else q.2), ν), (kl (if w = 0 then q.1 else q.2), ω), ?_, fun m => congrFun (kf.1 0 (by omega)) m, c2, rfl, h.to fin⟩
              clear hq eQ eP eV op or sP sU sV c2
              generalize (if w = 0 then q.1 else q.2) = tt at *
              clear ip
              rcases hw with rfl | rfl
              · simp (disch := omega) only [f_X11_inverse, b_X11_inverse_74, krcv (kX.y1 hX), kX.o1_3 hX, kS.gd (kX.now hX), kS.gt (kX.now hX), X11_within, X11_isDrawer, f_X11_isFilled, b_X11_isFilled_27, b_X11_isFilled_26, f_X11_isRow, b_X11_isRow_35, b_X11_isRow_34, f_X11_isPart, b_X11_isPart_14, b_X11_isPart_9, kX.o1_12 hX, kX.o1_12 hX1, krcv hX.f94.1, kT.gr hT, krcv hT.y, hR, c1, pt, ki_0, ki_1, ki_2, ki_3, ki_4, ki_5, ki_6, ki_7, ki_8, ki_9, ki_10, ki_11, ki_12, ki_13, ki_18, ki_20, ki_24, ki_32, ki_36, ki_45, ki_47, ki_48, ki_50, ki_57, ki_60, ki_63, ki_99, ki_100, ki_101, ki_120, ki_255, ki_468, ki_1000, ki_1024, ki_13849, ki_25173, ki_65535, ki_65536, ki_100000, ki_100001, ki_2147483647, ki_2147483648, kl_0, kl_1, kl_2, kl_9223372036854775808, ki_add, ki_sub, ki_mul, ki_neg, kl_add, kl_sub, kl_mul, kl_neg, ki_i2l, kl_l2i, ki_lt, ki_le, ki_eq, kcmp_eq, kcmp_lt, kcmp_le, kcmp_gt, kcmp_ge, Option.bind_some, Option.map_some, kbool0, kbool1, if_pos, if_neg, if_true, if_false, Int.neg_neg, Int.sub_zero, Int.add_zero, Int.zero_add, true_and, and_true, false_and, and_false, false_or, or_false, true_or, or_true, ne_eq, not_false_eq_true, not_true_eq_false]
              · simp (disch := omega) only [f_X11_inverse, b_X11_inverse_74, krcv (kX.y1 hX), kX.o1_3 hX, kS.gd (kX.now hX), kS.gt (kX.now hX), X11_within, X11_isDrawer, f_X11_isFilled, b_X11_isFilled_27, b_X11_isFilled_26, f_X11_isRow, b_X11_isRow_35, b_X11_isRow_34, f_X11_isPart, b_X11_isPart_14, b_X11_isPart_9, kX.o1_12 hX, kX.o1_12 hX1, krcv hX.f94.1, kT.gr hT, krcv hT.y, hR, c1, pt, ki_0, ki_1, ki_2, ki_3, ki_4, ki_5, ki_6, ki_7, ki_8, ki_9, ki_10, ki_11, ki_12, ki_13, ki_18, ki_20, ki_24, ki_32, ki_36, ki_45, ki_47, ki_48, ki_50, ki_57, ki_60, ki_63, ki_99, ki_100, ki_101, ki_120, ki_255, ki_468, ki_1000, ki_1024, ki_13849, ki_25173, ki_65535, ki_65536, ki_100000, ki_100001, ki_2147483647, ki_2147483648, kl_0, kl_1, kl_2, kl_9223372036854775808, ki_add, ki_sub, ki_mul, ki_neg, kl_add, kl_sub, kl_mul, kl_neg, ki_i2l, kl_l2i, ki_lt, ki_le, ki_eq, kcmp_eq, kcmp_lt, kcmp_le, kcmp_gt, kcmp_ge, Option.bind_some, Option.map_some, kbool0, kbool1, if_pos, if_neg, if_true, if_false, Int.neg_neg, Int.sub_zero, Int.add_zero, Int.zero_add, true_and, and_true, false_and, and_false, false_or, or_false, true_or, or_true, ne_eq, not_false_eq_true, not_true_eq_false]
          · refine ⟨(kl (-9223372036854775808), μ), (kl (-9223372036854775808), μ), ?_, fun _ => rfl, ?_, rfl, h⟩ <;> simp (disch := omega) only [f_X11_inverse, b_X11_inverse_34, f_X12_inverse, b_X12_inverse_58, krcv (kX.y1 hX), kX.o1_3 hX, kS.gd (kX.now hX), kS.gt (kX.now hX), X11_within, X11_isDrawer, f_X11_isFilled, b_X11_isFilled_27, b_X11_isFilled_26, f_X11_isRow, b_X11_isRow_35, b_X11_isRow_34, f_X11_isPart, b_X11_isPart_14, b_X11_isPart_9, krcv (kM.y hM), kM.o26 hM, kaI (kM.a108 hM), X12_in, X12_isDrawer, kT.gr hT, krcv hT.y, hR, ki_0, ki_1, ki_2, ki_3, ki_4, ki_5, ki_6, ki_7, ki_8, ki_9, ki_10, ki_11, ki_12, ki_13, ki_18, ki_20, ki_24, ki_32, ki_36, ki_45, ki_47, ki_48, ki_50, ki_57, ki_60, ki_63, ki_99, ki_100, ki_101, ki_120, ki_255, ki_468, ki_1000, ki_1024, ki_13849, ki_25173, ki_65535, ki_65536, ki_100000, ki_100001, ki_2147483647, ki_2147483648, kl_0, kl_1, kl_2, kl_9223372036854775808, ki_add, ki_sub, ki_mul, ki_neg, kl_add, kl_sub, kl_mul, kl_neg, ki_i2l, kl_l2i, ki_lt, ki_le, ki_eq, kcmp_eq, kcmp_lt, kcmp_le, kcmp_gt, kcmp_ge, Option.bind_some, Option.map_some, kbool0, kbool1, if_pos, if_neg, if_true, if_false, Int.neg_neg, Int.sub_zero, Int.add_zero, Int.zero_add, true_and, and_true, false_and, and_false, false_or, or_false, true_or, or_true, ne_eq, not_false_eq_true, not_true_eq_false]
        · refine ⟨(kl (-9223372036854775808), μ), (kl (-9223372036854775808), μ), ?_, fun _ => rfl, ?_, rfl, h⟩ <;> simp (disch := omega) only [f_X11_inverse, b_X11_inverse_34, f_X12_inverse, b_X12_inverse_58, krcv (kX.y1 hX), kX.o1_3 hX, kS.gd (kX.now hX), kS.gt (kX.now hX), X11_within, X11_isDrawer, f_X11_isFilled, b_X11_isFilled_27, b_X11_isFilled_26, f_X11_isRow, b_X11_isRow_35, b_X11_isRow_34, f_X11_isPart, b_X11_isPart_14, b_X11_isPart_9, krcv (kM.y hM), kM.o26 hM, kaI (kM.a108 hM), X12_in, X12_isDrawer, kT.gr hT, krcv hT.y, hR, ki_0, ki_1, ki_2, ki_3, ki_4, ki_5, ki_6, ki_7, ki_8, ki_9, ki_10, ki_11, ki_12, ki_13, ki_18, ki_20, ki_24, ki_32, ki_36, ki_45, ki_47, ki_48, ki_50, ki_57, ki_60, ki_63, ki_99, ki_100, ki_101, ki_120, ki_255, ki_468, ki_1000, ki_1024, ki_13849, ki_25173, ki_65535, ki_65536, ki_100000, ki_100001, ki_2147483647, ki_2147483648, kl_0, kl_1, kl_2, kl_9223372036854775808, ki_add, ki_sub, ki_mul, ki_neg, kl_add, kl_sub, kl_mul, kl_neg, ki_i2l, kl_l2i, ki_lt, ki_le, ki_eq, kcmp_eq, kcmp_lt, kcmp_le, kcmp_gt, kcmp_ge, Option.bind_some, Option.map_some, kbool0, kbool1, if_pos, if_neg, if_true, if_false, Int.neg_neg, Int.sub_zero, Int.add_zero, Int.zero_add, true_and, and_true, false_and, and_false, false_or, or_false, true_or, or_true, ne_eq, not_false_eq_true, not_true_eq_false]
      · refine ⟨(kl (-9223372036854775808), μ), (kl (-9223372036854775808), μ), ?_, fun _ => rfl, ?_, rfl, h⟩ <;> simp (disch := omega) only [f_X11_inverse, b_X11_inverse_34, f_X12_inverse, b_X12_inverse_58, krcv (kX.y1 hX), kX.o1_3 hX, kS.gd (kX.now hX), kS.gt (kX.now hX), X11_within, X11_isDrawer, f_X11_isFilled, b_X11_isFilled_27, b_X11_isFilled_26, f_X11_isRow, b_X11_isRow_35, b_X11_isRow_34, f_X11_isPart, b_X11_isPart_14, b_X11_isPart_9, krcv (kM.y hM), kM.o26 hM, kaI (kM.a108 hM), X12_in, X12_isDrawer, kT.gr hT, krcv hT.y, hR, ki_0, ki_1, ki_2, ki_3, ki_4, ki_5, ki_6, ki_7, ki_8, ki_9, ki_10, ki_11, ki_12, ki_13, ki_18, ki_20, ki_24, ki_32, ki_36, ki_45, ki_47, ki_48, ki_50, ki_57, ki_60, ki_63, ki_99, ki_100, ki_101, ki_120, ki_255, ki_468, ki_1000, ki_1024, ki_13849, ki_25173, ki_65535, ki_65536, ki_100000, ki_100001, ki_2147483647, ki_2147483648, kl_0, kl_1, kl_2, kl_9223372036854775808, ki_add, ki_sub, ki_mul, ki_neg, kl_add, kl_sub, kl_mul, kl_neg, ki_i2l, kl_l2i, ki_lt, ki_le, ki_eq, kcmp_eq, kcmp_lt, kcmp_le, kcmp_gt, kcmp_ge, Option.bind_some, Option.map_some, kbool0, kbool1, if_pos, if_neg, if_true, if_false, Int.neg_neg, Int.sub_zero, Int.add_zero, Int.zero_add, true_and, and_true, false_and, and_false, false_or, or_false, true_or, or_true, ne_eq, not_false_eq_true, not_true_eq_false]
  · refine ⟨(kl (-9223372036854775808), μ), (kl (-9223372036854775808), μ), ?_, fun _ => rfl, ?_, rfl, h⟩ <;> simp (disch := omega) only [f_X11_inverse, b_X11_inverse_34, f_X12_inverse, b_X12_inverse_58, krcv (kX.y1 hX), kX.o1_3 hX, kS.gd (kX.now hX), kS.gt (kX.now hX), X11_within, X11_isDrawer, f_X11_isFilled, b_X11_isFilled_27, b_X11_isFilled_26, f_X11_isRow, b_X11_isRow_35, b_X11_isRow_34, f_X11_isPart, b_X11_isPart_14, b_X11_isPart_9, krcv (kM.y hM), kM.o26 hM, kaI (kM.a108 hM), X12_in, X12_isDrawer, ki_0, ki_1, ki_2, ki_3, ki_4, ki_5, ki_6, ki_7, ki_8, ki_9, ki_10, ki_11, ki_12, ki_13, ki_18, ki_20, ki_24, ki_32, ki_36, ki_45, ki_47, ki_48, ki_50, ki_57, ki_60, ki_63, ki_99, ki_100, ki_101, ki_120, ki_255, ki_468, ki_1000, ki_1024, ki_13849, ki_25173, ki_65535, ki_65536, ki_100000, ki_100001, ki_2147483647, ki_2147483648, kl_0, kl_1, kl_2, kl_9223372036854775808, ki_add, ki_sub, ki_mul, ki_neg, kl_add, kl_sub, kl_mul, kl_neg, ki_i2l, kl_l2i, ki_lt, ki_le, ki_eq, kcmp_eq, kcmp_lt, kcmp_le, kcmp_gt, kcmp_ge, Option.bind_some, Option.map_some, kbool0, kbool1, if_pos, if_neg, if_true, if_false, Int.neg_neg, Int.sub_zero, Int.add_zero, Int.zero_add, true_and, and_true, false_and, and_false, false_or, or_false, true_or, or_true, ne_eq, not_false_eq_true, not_true_eq_false]
