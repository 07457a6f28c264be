/-! OPS: rivals -/
def rvM (A C : Int → Int) (R w : Int) : Int := if (w = 0 ∧ zc A C 0 R.toNat 41 = R) ∨ (w = 1 ∧ (pv A C 0 1 0 R.toNat).2 = 0) ∨ (w = 2 ∧ (rb A C 0 1 0 R.toNat).1 = 0) then 1 else 0
theorem rvM_two (A C : Int → Int) (R w : Int) : rvM A C R w = 0 ∨ rvM A C R w = 1 := by
  unfold rvM
  split <;> omega
theorem rvM_congr {A C A2 C2 : Int → Int} {R w : Int} (h0 : 0 ≤ R) (hA : ∀ x, 0 ≤ x → x < R → A x = A2 x) (hC : ∀ x, 0 ≤ x → x < R - 1 → C x = C2 x) : rvM A C R w = rvM A2 C2 R w := by
  unfold rvM
  have a1 : ∀ x, 0 ≤ x → x < 0 + (R.toNat : Int) → A x = A2 x := fun x p q => hA x p (by omega)
  have c1 : ∀ x, 0 ≤ x → x < 0 + (R.toNat : Int) - 1 → C x = C2 x := fun x p q => hC x p (by omega)
  rw [zc_congr a1 c1 41, pv_congr a1 c1 R.toNat (Nat.le_refl _), rb_congr a1 c1 R.toNat (Nat.le_refl _)]
def rvV (A C : Int → Int) (R w b i v : Int) : Int := if v = (if b = 1 then A i else C i) then 0 else rvM (up b 1 A i v) (up b 0 C i v) R w
theorem rvV_two (A C : Int → Int) (R w b i v : Int) : rvV A C R w b i v = 0 ∨ rvV A C R w b i v = 1 := by
  unfold rvV
  generalize (if b = 1 then A i else C i) = u
  split
  · exact Or.inl rfl
  · exact rvM_two _ _ _ _
theorem X11_isRival {L : Nat} {xs : Nat → Int32} {n : Nat} {Y : jY} {μ : jM} (h : Inv L xs n Y μ) {d w b i v : Int} (d0 : 0 ≤ d) (d3 : d ≤ 3) (w0 : 0 ≤ w) (w2 : w ≤ 2) (hb : b = 0 ∨ b = 1) (i0 : 0 ≤ i) (i1 : i ≤ gi μ 108 d - 2 + b) (hv : (b = 0 ∧ 1 ≤ v ∧ v ≤ 36) ∨ (b = 1 ∧ -6 ≤ v ∧ v ≤ 6)) : ∃ ξ, f_X11_isRival Y 1 (9 + 5 + 3 * d.toNat) (ki b) (ki i) (ki v) (ki w) μ = some (ki (rvV (mA μ d) (mC μ d) (gi μ 108 d) w b i v), ξ) ∧ kF 88 91 μ ξ := by
  obtain ⟨hT, hB, hMB, hR, hA, hC⟩ := h.d d0 d3
  have b0 := hMB.1
  have b5 := hMB.2.1
  have N := X10_numberAt hT (b := b) (i := i) i0 (by omega) hb
  have en : (if b = 1 then gi μ (9 + 5 + 3 * d.toNat + 1) i else gi μ (9 + 5 + 3 * d.toNat + 2) i) = (if b = 1 then mA μ d i else mC μ d i) := by
    rcases hb with rfl | rfl
    · rw [if_neg (by omega), if_neg (by omega)]; exact hC i i0 (by omega)
    · rw [if_pos rfl, if_pos rfl]; exact hA i i0 (by omega)
  rw [en] at N
  have r1 : -2147483648 ≤ (if b = 1 then mA μ d i else mC μ d i) := by split; exact mA_lo _ _ _; exact mC_lo _ _ _
  have r2 : (if b = 1 then mA μ d i else mC μ d i) ≤ 2147483647 := by split; exact mA_hi _ _ _; exact mC_hi _ _ _
  unfold rvV
  by_cases e : v = (if b = 1 then mA μ d i else mC μ d i)
  · rw [if_pos e]
    refine ⟨μ, ?_, kF.refl⟩
    rw [← e] at N
    simp (disch := omega) only [f_X11_isRival, krcv hT.y, N, ki_0, ki_1, ki_2, ki_3, ki_4, ki_5, ki_6, ki_7, ki_8, ki_9, ki_10, ki_11, ki_12, ki_13, ki_18, ki_20, ki_24, ki_32, ki_36, ki_45, ki_47, ki_48, ki_50, ki_57, ki_60, ki_63, ki_99, ki_100, ki_101, ki_120, ki_255, ki_468, ki_1000, ki_1024, ki_13849, ki_25173, ki_65535, ki_65536, ki_100000, ki_100001, ki_2147483647, ki_2147483648, kl_0, kl_1, kl_2, kl_9223372036854775808, ki_add, ki_sub, ki_mul, ki_neg, kl_add, kl_sub, kl_mul, kl_neg, ki_i2l, kl_l2i, ki_lt, ki_le, ki_eq, kcmp_eq, kcmp_lt, kcmp_le, kcmp_gt, kcmp_ge, Option.bind_some, Option.map_some, kbool0, kbool1, if_pos, if_neg, if_true, if_false, Int.neg_neg, Int.sub_zero, Int.add_zero, Int.zero_add, true_and, and_true, false_and, and_false, false_or, or_false, true_or, or_true, ne_eq, not_false_eq_true, not_true_eq_false]
  · rw [if_neg e]
    generalize (if b = 1 then mA μ d i else mC μ d i) = u at *
    obtain ⟨ν, ξ, c1, c2, hXν, hXξ, kp, hT88, hB88, g0, gA, gC, kf⟩ := X10_spare h d0 d3 hb i0 i1 hv
    have Mt := X10_meets hT88 hB88 w0 w2
    have ee : rvM (gi ξ (88 + 1)) (gi ξ (88 + 2)) (gi ξ 88 0) w = rvM (up b 1 (mA μ d) i v) (up b 0 (mC μ d) i v) (gi μ 108 d) w := by
      rw [g0]
      exact rvM_congr b0 gA gC
    have Mt2 : f_X10_meets Y 88 (ki w) ξ = some (ki (rvM (up b 1 (mA μ d) i v) (up b 0 (mC μ d) i v) (gi μ 108 d) w), ξ) := by rw [← ee]; exact Mt
    have t2 := rvM_two (up b 1 (mA μ d) i v) (up b 0 (mC μ d) i v) (gi μ 108 d) w
    clear Mt ee
    generalize rvM (up b 1 (mA μ d) i v) (up b 0 (mC μ d) i v) (gi μ 108 d) w = z at *
    refine ⟨ξ, ?_, kf⟩
    have jb := kboolI t2
    simp (disch := omega) only [f_X11_isRival, krcv hT.y, krcv hT88.y, N, kX.o1_10 h.x, kX.o1_10 hXν, kX.o1_10 hXξ, c1, c2, Mt2, jb, ki_0, ki_1, ki_2, ki_3, ki_4, ki_5, ki_6, ki_7, ki_8, ki_9, ki_10, ki_11, ki_12, ki_13, ki_18, ki_20, ki_24, ki_32, ki_36, ki_45, ki_47, ki_48, ki_50, ki_57, ki_60, ki_63, ki_99, ki_100, ki_101, ki_120, ki_255, ki_468, ki_1000, ki_1024, ki_13849, ki_25173, ki_65535, ki_65536, ki_100000, ki_100001, ki_2147483647, ki_2147483648, kl_0, kl_1, kl_2, kl_9223372036854775808, ki_add, ki_sub, ki_mul, ki_neg, kl_add, kl_sub, kl_mul, kl_neg, ki_i2l, kl_l2i, ki_lt, ki_le, ki_eq, kcmp_eq, kcmp_lt, kcmp_le, kcmp_gt, kcmp_ge, Option.bind_some, Option.map_some, kbool0, kbool1, if_pos, if_neg, if_true, if_false, Int.neg_neg, Int.sub_zero, Int.add_zero, Int.zero_add, true_and, and_true, false_and, and_false, false_or, or_false, true_or, or_true, ne_eq, not_false_eq_true, not_true_eq_false]
/-- counted so far, and the first one told -/
def rvS (f : Int → Int) (code : Int → Int) (lo : Int) (s : Int × Int) : Nat → Int × Int
  | 0 => s
  | t + 1 => if f (lo + t) = 1 then ((rvS f code lo s t).1 + 1, if (rvS f code lo s t).2 = -1 then code (lo + t) else (rvS f code lo s t).2) else rvS f code lo s t
theorem rvS_stay {f code : Int → Int} {lo : Int} {s : Int × Int} {t : Nat} (h : (rvS f code lo s t).2 ≠ -1) : ∀ d : Nat, (rvS f code lo s (t + d)).2 = (rvS f code lo s t).2 := by
  intro d
  induction d with
  | zero => rfl
  | succ d ih =>
    rw [← Nat.add_assoc, rvS]
    split
    · simp only []
      rw [ih, if_neg h]
    · exact ih
theorem rvS_rng {f code : Int → Int} {lo : Int} {s : Int × Int} : ∀ t : Nat, s.1 ≤ (rvS f code lo s t).1 ∧ (rvS f code lo s t).1 ≤ s.1 + t := by
  intro t
  induction t with
  | zero => exact ⟨Int.le_refl _, by show s.1 ≤ s.1 + ((0 : Nat) : Int); omega⟩
  | succ t ih =>
    rw [rvS]
    split
    · simp only []
      omega
    · omega
def pB (R : Int) (p : Int) : Int := if p < R then 1 else 0
def pI (R : Int) (p : Int) : Int := if p < R then p else p - R
def pL (R : Int) (p : Int) : Int := if p < R then -6 else 1
def pN (R : Int) (p : Int) : Nat := if p < R then 13 else 36
def pC (R : Int) (p v : Int) : Int := if p < R then 100 * p + v + 6 else 1000 + 100 * (p - R) + v
def rvT (A C : Int → Int) (R w : Int) : Nat → Int × Int
  | 0 => (0, -1)
  | p + 1 => rvS (fun v => rvV A C R w (pB R p) (pI R p) v) (pC R p) (pL R p) (rvT A C R w p) (pN R p)
theorem rvT_stay {A C : Int → Int} {R w : Int} {p : Nat} (h : (rvT A C R w p).2 ≠ -1) : ∀ d : Nat, (rvT A C R w (p + d)).2 = (rvT A C R w p).2 := by
  intro d
  induction d with
  | zero => rfl
  | succ d ih =>
    rw [← Nat.add_assoc, rvT]
    have e : (rvS (fun v => rvV A C R w (pB R (p + d : Nat)) (pI R (p + d : Nat)) v) (pC R (p + d : Nat)) (pL R (p + d : Nat)) (rvT A C R w (p + d)) 0) = rvT A C R w (p + d) := rfl
    have := rvS_stay (f := fun v => rvV A C R w (pB R (p + d : Nat)) (pI R (p + d : Nat)) v) (code := pC R (p + d : Nat)) (lo := pL R (p + d : Nat)) (s := rvT A C R w (p + d)) (t := 0) (by rw [e, ih]; exact h) (pN R (p + d : Nat))
    rw [Nat.zero_add, e] at this
    rw [this, ih]
theorem pN_le (R p : Int) : pN R p ≤ 36 := by
  unfold pN
  split <;> omega
theorem rvT_rng {A C : Int → Int} {R w : Int} : ∀ p : Nat, 0 ≤ (rvT A C R w p).1 ∧ (rvT A C R w p).1 ≤ 36 * p := by
  intro p
  induction p with
  | zero => exact ⟨Int.le_refl _, Int.le_refl _⟩
  | succ p ih =>
    have a := rvS_rng (f := fun v => rvV A C R w (pB R p) (pI R p) v) (code := pC R p) (lo := pL R p) (s := rvT A C R w p) (pN R p)
    have b := pN_le R p
    rw [rvT]
    omega
