/-! OPS: kernel -/
/-- what stands in the class before the k-th square -/
def sqS (N : Nat) (U f : Int → Int) (x : Int) (k : Nat) (ν : jM) : Prop := (∃ p, frS ν 94 p ∧ fq p (kFv N U f x k) (DD f k)) ∧ (∃ p, frS ν 68 p ∧ fq p (eV N U f ((k : Int) - 1) x) (dm f k)) ∧ (∃ p, frS ν 69 p ∧ fq p (eV N U f k x) (dlN N f k)) ∧ ∃ p, frS ν 71 p ∧ fq p (DD f k) (dm f k)
def frQ (μ ν : jM) : Prop := kF 67 95 μ ν ∧ ∀ o, o < 67 → ν o = μ o
theorem frQ.w {Y : jY} {μ ν : jM} {o : Nat} {p : Int × Int} (h : frQ μ ν) (hF : kFr Y ν o) (h1 : 67 ≤ o) (h2 : o < 95) : frQ μ (frw ν o p) := ⟨h.1.trans (kF_fr hF h1 h2), fun i hi => by rw [frw_ne (by omega), h.2 i hi]⟩
set_option maxHeartbeats 2000000 in
theorem sq_step {Y : jY} {μ ν : jM} (hX : kX Y μ) (F : frQ μ ν) {N k : Nat} (N4 : N ≤ 4) (kN : k < N) {U f : Int → Int} {x : Int} (x1 : -8 ≤ x) (x2 : x ≤ 8) {as cs : List (Int × Int)} (t : tabC μ N as cs) (S : semB N U f as cs = true) (Kx : kxP N U f x k) (I : sqS N U f x k ν) : ∃ ω, b_X8_addSquares_35 Y 31 (ki x) 94 (ki k) ν = some (.inl (ki ((k : Int) + 1), ω)) ∧ frQ μ ω ∧ (∃ p, frS ω 94 p ∧ fq p (kFv N U f x (k + 1)) (DD f ((k : Int) + 1))) ∧ (∃ p, frS ω 68 p ∧ fq p (eV N U f k x) (DD f k)) ∧ (∃ p, frS ω 69 p ∧ fq p (eV N U f ((k : Int) + 1) x) (dlN N f ((k : Int) + 1))) ∧ ∃ p, frS ω 71 p ∧ fq p (DD f ((k : Int) + 1)) (DD f k) := by
  obtain ⟨⟨pi, si, qi⟩, ⟨pb, sb, qb⟩, ⟨pv, sv, qv⟩, ⟨pp, sp, qp⟩⟩ := I
  obtain ⟨Dp, f0⟩ := sem_D S
  obtain ⟨⟨⟨⟨⟨⟨⟨⟨⟨⟨⟨⟨⟨⟨⟨h1, h2⟩, o1⟩, o2⟩, o3⟩, o4⟩, o5⟩, o6⟩, o7⟩, o8⟩, o9⟩, o10⟩, o11⟩, o12⟩, o13⟩, o14⟩ := Kx
  have D0 : DD f k ≠ 0 := by have := Dp k (by omega); omega
  have D10 : DD f ((k : Int) + 1) ≠ 0 := by have := Dp (k + 1) (by omega); rw [Int.natCast_add, Int.natCast_one] at this; omega
  have sa : fq (gz as k) (nN N U f k) (dN N f k) := sem_a S kN
  have hw : wN N U f x k = x * dN N f k - nN N U f k := rfl
  have hd : dN N f k = DD f k * dlN N f ((k : Int) + 1) := rfl
  rw [hd] at sa hw
  have d10 : dlN N f ((k : Int) + 1) ≠ 0 := by
    intro z
    have := sa.1
    rw [z, Int.mul_zero] at this
    exact this rfl
  rw [dlN_lt (by omega)] at qv
  have m0 : dm f k ≠ 0 := qb.1
  have cc : 1 ≤ k → fq (gz cs (k - 1)) (DD f ((k : Int) + 1) * dm f k) (DD f k * DD f k) := fun hk => by
    have q := sem_c S (i := k - 1) (by omega)
    rw [show k - 1 + 2 = k + 1 by omega, show k - 1 + 1 = k by omega, show ((k - 1 : Nat) : Int) = (k : Int) - 1 by omega, Int.natCast_add, Int.natCast_one] at q
    have e : dm f k = DD f ((k : Int) - 1) := if_neg (by omega)
    rw [e]
    exact q
  have z0 : k = 0 → eV N U f ((k : Int) - 1) x = 0 ∧ dm f k = 1 ∧ DD f k = 1 ∧ DD f ((k : Int) + 1) = 1 := fun hk => by
    subst hk
    exact ⟨rfl, rfl, rfl, f0⟩
  have ox : okb x := ⟨by omega, by omega⟩
  have x64 : (ki x).toInt64 = kl x := ki_i2l (by omega) (by omega)
  generalize DD f ((k : Int) + 1) = D1 at *
  generalize DD f (k : Int) = D at *
  generalize dlN N f ((k : Int) + 1) = d1 at *
  generalize dm f k = dk at *
  generalize eV N U f ((k : Int) - 1) x = E0 at *
  generalize eV N U f ((k : Int) + 1) x = E1 at *
  generalize eV N U f (k : Int) x = E at *
  generalize kFv N U f x (k + 1) = F' at *
  generalize kFv N U f x k = Fk at *
  generalize wN N U f x (k : Int) = w at *
  generalize nN N U f (k : Int) = nn at *
  have hXz := hX.to F.1
  have gN := hXz.g31_1
  have t' := t.at N4 (fun o a b => F.2 o (by omega))
  rw [t'.1] at gN
  -- product
  have A : ∃ η p, b_X8_addSquares_35 Y 31 (ki x) 94 (ki k) ν = b_X8_addSquares_62 Y 31 (ki x) 94 (ki k) η ∧ frQ μ η ∧ frS η 94 pi ∧ frS η 68 pb ∧ frS η 69 pv ∧ frS η 71 p ∧ fq p D1 D := by
    by_cases hk : (k : Int) ≤ 0
    · obtain ⟨_, y2, y3, y4⟩ := z0 (by omega)
      refine ⟨ν, pp, ?_, F, si, sb, sv, sp, ?_⟩
      · simp (disch := omega) only [b_X8_addSquares_35, gN, ki_0, ki_1, ki_2, ki_3, ki_4, ki_5, ki_6, ki_7, ki_8, ki_9, ki_10, ki_11, ki_12, ki_13, ki_18, ki_20, ki_24, ki_32, ki_36, ki_45, ki_47, ki_48, ki_50, ki_57, ki_60, ki_63, ki_99, ki_100, ki_101, ki_120, ki_255, ki_468, ki_1000, ki_1024, ki_13849, ki_25173, ki_65535, ki_65536, ki_100000, ki_100001, ki_2147483647, ki_2147483648, kl_0, kl_1, kl_2, kl_9223372036854775808, ki_add, ki_sub, ki_mul, ki_neg, kl_add, kl_sub, kl_mul, kl_neg, ki_i2l, kl_l2i, ki_lt, ki_le, ki_eq, kcmp_eq, kcmp_lt, kcmp_le, kcmp_gt, kcmp_ge, Option.bind_some, Option.map_some, kbool0, kbool1, if_pos, if_neg, if_true, if_false, Int.neg_neg, Int.sub_zero, Int.add_zero, Int.zero_add, true_and, and_true, false_and, and_false, false_or, or_false, true_or, or_true, ne_eq, not_false_eq_true, not_true_eq_false]
      · rw [y4, y3]
        rw [y3, y2] at qp
        exact qp
    · have gc := hXz.f37.g (x := (k : Int) - 1) (by omega) (by omega)
      rw [show ((k : Int) - 1).toNat = k - 1 by omega] at gc
      obtain ⟨r, m1, m2⟩ := qp.mul (cc (by omega)) (T := D1) (M := D) D0 (by grind) o14 o12
      have mu := X1_multiply hXz.f71 (hXz.f37.f (j := k - 1) (by omega)) sp (t'.2.2 (k - 1) (by omega)) m1
      have ro := mF_ok m1
      refine ⟨frw ν 71 r, r, ?_, F.w hXz.f71 (by omega) (by omega), si.ne (by omega), sb.ne (by omega), sv.ne (by omega), frS.w ro.1 ro.2, m2⟩
      simp (disch := omega) only [b_X8_addSquares_35, gN, hXz.o31_13, hXz.o31_3, gc, krcv hX.f71.1, mu, ki_0, ki_1, ki_2, ki_3, ki_4, ki_5, ki_6, ki_7, ki_8, ki_9, ki_10, ki_11, ki_12, ki_13, ki_18, ki_20, ki_24, ki_32, ki_36, ki_45, ki_47, ki_48, ki_50, ki_57, ki_60, ki_63, ki_99, ki_100, ki_101, ki_120, ki_255, ki_468, ki_1000, ki_1024, ki_13849, ki_25173, ki_65535, ki_65536, ki_100000, ki_100001, ki_2147483647, ki_2147483648, kl_0, kl_1, kl_2, kl_9223372036854775808, ki_add, ki_sub, ki_mul, ki_neg, kl_add, kl_sub, kl_mul, kl_neg, ki_i2l, kl_l2i, ki_lt, ki_le, ki_eq, kcmp_eq, kcmp_lt, kcmp_le, kcmp_gt, kcmp_ge, Option.bind_some, Option.map_some, kbool0, kbool1, if_pos, if_neg, if_true, if_false, Int.neg_neg, Int.sub_zero, Int.add_zero, Int.zero_add, true_and, and_true, false_and, and_false, false_or, or_false, true_or, or_true, ne_eq, not_false_eq_true, not_true_eq_false]
  obtain ⟨η, pr, EQ, F1, si, sb, sv, sp, qp⟩ := A
  rw [EQ]
  clear EQ hXz gN t'
  -- work = value * value / product
  have hX1 := hX.to F1.1
  have cp1 := X1_copy hX1.f67 hX1.f69 sv
  have F2 := F1.w (p := pv) hX1.f67 (by omega) (by omega)
  have w2 : frS (frw η 67 pv) 67 pv := frS.w sv.1 sv.2.1
  have si := si.ne (o := 67) (q := pv) (by omega)
  have sb := sb.ne (o := 67) (q := pv) (by omega)
  have sv := sv.ne (o := 67) (q := pv) (by omega)
  have sp := sp.ne (o := 67) (q := pv) (by omega)
  generalize frw η 67 pv = η2 at *
  have hX2 := hX.to F2.1
  obtain ⟨r1, m1, q1⟩ := qv.mul qv (T := E * E) (M := D * D) (Int.mul_ne_zero D0 D0) rfl o1 o7
  have mu1 := X1_multiply hX2.f67 hX2.f69 w2 sv m1
  have ro1 := mF_ok m1
  have F3 := F2.w (p := r1) hX2.f67 (by omega) (by omega)
  have w3 : frS (frw η2 67 r1) 67 r1 := frS.w ro1.1 ro1.2
  have si := si.ne (o := 67) (q := r1) (by omega)
  have sb := sb.ne (o := 67) (q := r1) (by omega)
  have sv := sv.ne (o := 67) (q := r1) (by omega)
  have sp := sp.ne (o := 67) (q := r1) (by omega)
  generalize frw η2 67 r1 = η3 at *
  have hX3 := hX.to F3.1
  obtain ⟨r2, m2, q2⟩ := q1.div qp D10 (T := E * E) (M := D * D1) (Int.mul_ne_zero D0 D10) (by grind) o1 o2
  have dv := X1_divide hX3.f67 hX3.f71 w3 sp m2
  have ro2 := mF_ok m2
  have F4 := F3.w (p := r2) hX3.f67 (by omega) (by omega)
  have w4 : frS (frw η3 67 r2) 67 r2 := frS.w ro2.1 ro2.2
  have si := si.ne (o := 67) (q := r2) (by omega)
  have sb := sb.ne (o := 67) (q := r2) (by omega)
  have sv := sv.ne (o := 67) (q := r2) (by omega)
  have sp := sp.ne (o := 67) (q := r2) (by omega)
  generalize frw η3 67 r2 = η4 at *
  -- into += work
  have hX4 := hX.to F4.1
  have qi' := qi.to (T' := Fk * D1) (M' := D * D1) (Int.mul_ne_zero D0 D10) (by grind)
  obtain ⟨r3, m3, q3⟩ := qi'.add q2 (by rw [← h1]; exact o3) o2
  rw [← h1] at q3
  have q3 := q3.to (T' := F') (M' := D1) D10 (by grind)
  have ad := X1_add hX4.f94 hX4.f67 si w4 m3
  have ro3 := aF_ok m3
  have F5 := F4.w (p := r3) hX4.f94 (by omega) (by omega)
  have si : frS (frw η4 94 r3) 94 r3 := frS.w ro3.1 ro3.2
  have sb := sb.ne (o := 94) (q := r3) (by omega)
  have sv := sv.ne (o := 94) (q := r3) (by omega)
  have sp := sp.ne (o := 94) (q := r3) (by omega)
  generalize frw η4 94 r3 = η5 at *
  -- next = (x - a) * value
  have hX5 := hX.to F5.1
  have st := X1_set1 hX5.f70 (t := x) ox
  have F6 := F5.w (p := (x, 1)) hX5.f70 (by omega) (by omega)
  have w6 : frS (frw η5 70 (x, 1)) 70 (x, 1) := frS.w ox okb_1
  have si := si.ne (o := 70) (q := (x, 1)) (by omega)
  have sb := sb.ne (o := 70) (q := (x, 1)) (by omega)
  have sv := sv.ne (o := 70) (q := (x, 1)) (by omega)
  have sp := sp.ne (o := 70) (q := (x, 1)) (by omega)
  generalize frw η5 70 (x, 1) = η6 at *
  have hX6 := hX.to F6.1
  have t6 := t.at N4 (fun o a b => F6.2 o (by omega))
  have ga := hX6.f32.g (x := (k : Int)) (by omega) (by omega)
  rw [Int.toNat_natCast] at ga
  have q0 : fq (x, 1) (x * (D * d1)) (D * d1) := fq.w.to sa.1 (by grind)
  obtain ⟨r4, m4, q4⟩ := q0.sub sa (by rw [← hw]; exact o8) o9
  rw [← hw] at q4
  have su := X1_subtract hX6.f70 (hX6.f32.f (j := k) (by omega)) w6 (t6.2.1 k kN) m4
  have ro4 := aF_ok m4
  have F7 := F6.w (p := r4) hX6.f70 (by omega) (by omega)
  have w7 : frS (frw η6 70 r4) 70 r4 := frS.w ro4.1 ro4.2
  have si := si.ne (o := 70) (q := r4) (by omega)
  have sb := sb.ne (o := 70) (q := r4) (by omega)
  have sv := sv.ne (o := 70) (q := r4) (by omega)
  have sp := sp.ne (o := 70) (q := r4) (by omega)
  generalize frw η6 70 r4 = η7 at *
  have hX7 := hX.to F7.1
  obtain ⟨r5, m5, q5⟩ := q4.mul qv (T := w * E) (M := D * D * d1) (Int.mul_ne_zero (Int.mul_ne_zero D0 D0) d10) (by grind) o4 o5
  have mu5 := X1_multiply hX7.f70 hX7.f69 w7 sv m5
  have ro5 := mF_ok m5
  have F8 := F7.w (p := r5) hX7.f70 (by omega) (by omega)
  have w8 : frS (frw η7 70 r5) 70 r5 := frS.w ro5.1 ro5.2
  have si := si.ne (o := 70) (q := r5) (by omega)
  have sb := sb.ne (o := 70) (q := r5) (by omega)
  have sv := sv.ne (o := 70) (q := r5) (by omega)
  have sp := sp.ne (o := 70) (q := r5) (by omega)
  generalize frw η7 70 r5 = η8 at *
  have hX8 := hX.to F8.1
  -- next -= c * before
  have B : ∃ ζ p, b_X8_addSquares_62 Y 31 (ki x) 94 (ki k) η = b_X8_addSquares_178 Y 31 (ki x) 94 (ki k) ζ ∧ frQ μ ζ ∧ frS ζ 94 r3 ∧ frS ζ 69 pv ∧ frS ζ 71 pr ∧ frS ζ 70 p ∧ fq p E1 d1 := by
    by_cases hk : (k : Int) ≤ 0
    · obtain ⟨y1, y2, y3, y4⟩ := z0 (by omega)
      refine ⟨η8, r5, ?_, F8, si, sv, sp, w8, q5.to d10 ?_⟩
      · simp (disch := omega) only [b_X8_addSquares_62, x64, hX1.o31_9, hX1.o31_11, cp1, krcv hX.f67.1, hX2.o31_9, hX2.o31_11, mu1, hX3.o31_9, hX3.o31_13, dv, hX4.o31_9, krcv hX.f94.1, ad, hX5.o31_12, krcv hX.f70.1, st, hX6.o31_12, hX6.o31_2, ga, su, hX7.o31_12, hX7.o31_11, mu5, ki_0, ki_1, ki_2, ki_3, ki_4, ki_5, ki_6, ki_7, ki_8, ki_9, ki_10, ki_11, ki_12, ki_13, ki_18, ki_20, ki_24, ki_32, ki_36, ki_45, ki_47, ki_48, ki_50, ki_57, ki_60, ki_63, ki_99, ki_100, ki_101, ki_120, ki_255, ki_468, ki_1000, ki_1024, ki_13849, ki_25173, ki_65535, ki_65536, ki_100000, ki_100001, ki_2147483647, ki_2147483648, kl_0, kl_1, kl_2, kl_9223372036854775808, ki_add, ki_sub, ki_mul, ki_neg, kl_add, kl_sub, kl_mul, kl_neg, ki_i2l, kl_l2i, ki_lt, ki_le, ki_eq, kcmp_eq, kcmp_lt, kcmp_le, kcmp_gt, kcmp_ge, Option.bind_some, Option.map_some, kbool0, kbool1, if_pos, if_neg, if_true, if_false, Int.neg_neg, Int.sub_zero, Int.add_zero, Int.zero_add, true_and, and_true, false_and, and_false, false_or, or_false, true_or, or_true, ne_eq, not_false_eq_true, not_true_eq_false]
      · rw [y1, Int.mul_zero, Int.sub_zero] at h2
        rw [h2]
        grind
    · have t8 := t.at N4 (fun o a b => F8.2 o (by omega))
      have gc := hX8.f37.g (x := (k : Int) - 1) (by omega) (by omega)
      rw [show ((k : Int) - 1).toNat = k - 1 by omega] at gc
      have sc := t8.2.2 (k - 1) (by omega)
      have cp8 := X1_copy hX8.f67 (hX8.f37.f (j := k - 1) (by omega)) sc
      have F9 := F8.w (p := gz cs (k - 1)) hX8.f67 (by omega) (by omega)
      have w9 : frS (frw η8 67 (gz cs (k - 1))) 67 (gz cs (k - 1)) := frS.w sc.1 sc.2.1
      have si := si.ne (o := 67) (q := gz cs (k - 1)) (by omega)
      have sb := sb.ne (o := 67) (q := gz cs (k - 1)) (by omega)
      have sv := sv.ne (o := 67) (q := gz cs (k - 1)) (by omega)
      have sp := sp.ne (o := 67) (q := gz cs (k - 1)) (by omega)
      have w8 := w8.ne (o := 67) (q := gz cs (k - 1)) (by omega)
      generalize frw η8 67 (gz cs (k - 1)) = η9 at *
      have hX9 := hX.to F9.1
      obtain ⟨r6, m6, q6⟩ := (cc (by omega)).mul qb (T := D1 * E0) (M := D * D) (Int.mul_ne_zero D0 D0) (by grind) o6 o7
      have mu6 := X1_multiply hX9.f67 hX9.f68 w9 sb m6
      have ro6 := mF_ok m6
      have Fa := F9.w (p := r6) hX9.f67 (by omega) (by omega)
      have wa : frS (frw η9 67 r6) 67 r6 := frS.w ro6.1 ro6.2
      have si := si.ne (o := 67) (q := r6) (by omega)
      have sv := sv.ne (o := 67) (q := r6) (by omega)
      have sp := sp.ne (o := 67) (q := r6) (by omega)
      have w8 := w8.ne (o := 67) (q := r6) (by omega)
      generalize frw η9 67 r6 = ηa at *
      have hXa := hX.to Fa.1
      have q6' := q6.to (T' := D1 * d1 * E0) (M' := D * D * d1) (Int.mul_ne_zero (Int.mul_ne_zero D0 D0) d10) (by grind)
      obtain ⟨r7, m7, q7⟩ := q5.sub q6' (by rw [h2]; exact o10) o5
      rw [h2] at q7
      have su7 := X1_subtract hXa.f70 hXa.f67 w8 wa m7
      have ro7 := aF_ok m7
      have Fb := Fa.w (p := r7) hXa.f70 (by omega) (by omega)
      refine ⟨frw ηa 70 r7, r7, ?_, Fb, si.ne (by omega), sv.ne (by omega), sp.ne (by omega), frS.w ro7.1 ro7.2, q7.to d10 (by grind)⟩
      simp (disch := omega) only [b_X8_addSquares_62, x64, hX1.o31_9, hX1.o31_11, cp1, krcv hX.f67.1, hX2.o31_9, hX2.o31_11, mu1, hX3.o31_9, hX3.o31_13, dv, hX4.o31_9, krcv hX.f94.1, ad, hX5.o31_12, krcv hX.f70.1, st, hX6.o31_12, hX6.o31_2, ga, su, hX7.o31_12, hX7.o31_11, mu5, hX8.o31_9, hX8.o31_3, gc, cp8, hX9.o31_9, hX9.o31_10, mu6, hXa.o31_12, hXa.o31_9, su7, ki_0, ki_1, ki_2, ki_3, ki_4, ki_5, ki_6, ki_7, ki_8, ki_9, ki_10, ki_11, ki_12, ki_13, ki_18, ki_20, ki_24, ki_32, ki_36, ki_45, ki_47, ki_48, ki_50, ki_57, ki_60, ki_63, ki_99, ki_100, ki_101, ki_120, ki_255, ki_468, ki_1000, ki_1024, ki_13849, ki_25173, ki_65535, ki_65536, ki_100000, ki_100001, ki_2147483647, ki_2147483648, kl_0, kl_1, kl_2, kl_9223372036854775808, ki_add, ki_sub, ki_mul, ki_neg, kl_add, kl_sub, kl_mul, kl_neg, ki_i2l, kl_l2i, ki_lt, ki_le, ki_eq, kcmp_eq, kcmp_lt, kcmp_le, kcmp_gt, kcmp_ge, Option.bind_some, Option.map_some, kbool0, kbool1, if_pos, if_neg, if_true, if_false, Int.neg_neg, Int.sub_zero, Int.add_zero, Int.zero_add, true_and, and_true, false_and, and_false, false_or, or_false, true_or, or_true, ne_eq, not_false_eq_true, not_true_eq_false]
  obtain ⟨ζ, pn, EQ, Fz, si, sv, sp, sn, qn⟩ := B
  rw [EQ]
  clear EQ
  have hXy := hX.to Fz.1
  have cpa := X1_copy hXy.f68 hXy.f69 sv
  have Fy := Fz.w (p := pv) hXy.f68 (by omega) (by omega)
  have sb : frS (frw ζ 68 pv) 68 pv := frS.w sv.1 sv.2.1
  have si := si.ne (o := 68) (q := pv) (by omega)
  have sp := sp.ne (o := 68) (q := pv) (by omega)
  have sn := sn.ne (o := 68) (q := pv) (by omega)
  generalize frw ζ 68 pv = ζ2 at *
  have hXx := hX.to Fy.1
  have cpb := X1_copy hXx.f69 hXx.f70 sn
  have Fx := Fy.w (p := pn) hXx.f69 (by omega) (by omega)
  refine ⟨frw ζ2 69 pn, ?_, Fx, ⟨r3, si.ne (by omega), q3⟩, ⟨pv, sb.ne (by omega), qv⟩, ⟨pn, frS.w sn.1 sn.2.1, qn⟩, pr, sp.ne (by omega), qp⟩
  simp (disch := omega) only [b_X8_addSquares_178, hXy.o31_10, hXy.o31_11, krcv hX.f68.1, cpa, hXx.o31_11, hXx.o31_12, krcv hX.f69.1, cpb, ki_0, ki_1, ki_2, ki_3, ki_4, ki_5, ki_6, ki_7, ki_8, ki_9, ki_10, ki_11, ki_12, ki_13, ki_18, ki_20, ki_24, ki_32, ki_36, ki_45, ki_47, ki_48, ki_50, ki_57, ki_60, ki_63, ki_99, ki_100, ki_101, ki_120, ki_255, ki_468, ki_1000, ki_1024, ki_13849, ki_25173, ki_65535, ki_65536, ki_100000, ki_100001, ki_2147483647, ki_2147483648, kl_0, kl_1, kl_2, kl_9223372036854775808, ki_add, ki_sub, ki_mul, ki_neg, kl_add, kl_sub, kl_mul, kl_neg, ki_i2l, kl_l2i, ki_lt, ki_le, ki_eq, kcmp_eq, kcmp_lt, kcmp_le, kcmp_gt, kcmp_ge, Option.bind_some, Option.map_some, kbool0, kbool1, if_pos, if_neg, if_true, if_false, Int.neg_neg, Int.sub_zero, Int.add_zero, Int.zero_add, true_and, and_true, false_and, and_false, false_or, or_false, true_or, or_true, ne_eq, not_false_eq_true, not_true_eq_false]
theorem X8_addSquares {Y : jY} {μ : jM} (hX : kX Y μ) {N : Nat} (N1 : 1 ≤ N) (N4 : N ≤ 4) {U f : Int → Int} {x : Int} (x1 : -8 ≤ x) (x2 : x ≤ 8) {as cs : List (Int × Int)} (t : tabC μ N as cs) (S : semB N U f as cs = true) (Kx : ∀ k, k < N → kxP N U f x k) : ∃ ν, f_X8_addSquares Y 31 (ki x) 94 μ = some ν ∧ kF 67 95 μ ν ∧ ∃ p, frS ν 94 p ∧ fq p (kFv N U f x N) (DD f N) := by
  have f00 : frQ μ μ := ⟨kF.refl, fun _ _ => rfl⟩
  have S1 := X1_set1 hX.f94 (t := 0) okb_0
  have F1 := f00.w (p := (0, 1)) hX.f94 (by omega) (by omega)
  have a1 : frS (frw μ 94 (0, 1)) 94 (0, 1) := frS.w okb_0 okb_1
  generalize frw μ 94 (0, 1) = μ1 at *
  have hX1 := hX.to F1.1
  have S2 := X1_set1 hX1.f68 (t := 0) okb_0
  have F2 := F1.w (p := (0, 1)) hX1.f68 (by omega) (by omega)
  have b1 : frS (frw μ1 68 (0, 1)) 68 (0, 1) := frS.w okb_0 okb_1
  have a1 := a1.ne (o := 68) (q := (0, 1)) (by omega)
  generalize frw μ1 68 (0, 1) = μ2 at *
  have hX2 := hX.to F2.1
  have S3 := X1_set1 hX2.f69 (t := 1) okb_1
  have F3 := F2.w (p := (1, 1)) hX2.f69 (by omega) (by omega)
  have c1 : frS (frw μ2 69 (1, 1)) 69 (1, 1) := frS.w okb_1 okb_1
  have a1 := a1.ne (o := 69) (q := (1, 1)) (by omega)
  have b1 := b1.ne (o := 69) (q := (1, 1)) (by omega)
  generalize frw μ2 69 (1, 1) = μ3 at *
  have hX3 := hX.to F3.1
  have S4 := X1_set1 hX3.f71 (t := 1) okb_1
  have F4 := F3.w (p := (1, 1)) hX3.f71 (by omega) (by omega)
  have d1 : frS (frw μ3 71 (1, 1)) 71 (1, 1) := frS.w okb_1 okb_1
  have a1 := a1.ne (o := 71) (q := (1, 1)) (by omega)
  have b1 := b1.ne (o := 71) (q := (1, 1)) (by omega)
  have c1 := c1.ne (o := 71) (q := (1, 1)) (by omega)
  generalize frw μ3 71 (1, 1) = μ4 at *
  have E : f_X8_addSquares Y 31 (ki x) 94 μ = jit jF (fun (s : Int32 × jM) => b_X8_addSquares_35 Y 31 (ki x) 94 s.1 s.2) ((0 : Int32), μ4) := by
    simp (disch := omega) only [f_X8_addSquares, krcv hX.f94.1, S1, hX1.o31_10, krcv hX.f68.1, S2, hX2.o31_11, krcv hX.f69.1, S3, hX3.o31_13, krcv hX.f71.1, S4, ki_0, ki_1, ki_2, ki_3, ki_4, ki_5, ki_6, ki_7, ki_8, ki_9, ki_10, ki_11, ki_12, ki_13, ki_18, ki_20, ki_24, ki_32, ki_36, ki_45, ki_47, ki_48, ki_50, ki_57, ki_60, ki_63, ki_99, ki_100, ki_101, ki_120, ki_255, ki_468, ki_1000, ki_1024, ki_13849, ki_25173, ki_65535, ki_65536, ki_100000, ki_100001, ki_2147483647, ki_2147483648, kl_0, kl_1, kl_2, kl_9223372036854775808, ki_add, ki_sub, ki_mul, ki_neg, kl_add, kl_sub, kl_mul, kl_neg, ki_i2l, kl_l2i, ki_lt, ki_le, ki_eq, kcmp_eq, kcmp_lt, kcmp_le, kcmp_gt, kcmp_ge, Option.bind_some, Option.map_some, kbool0, kbool1, if_pos, if_neg, if_true, if_false, Int.neg_neg, Int.sub_zero, Int.add_zero, Int.zero_add, true_and, and_true, false_and, and_false, false_or, or_false, true_or, or_true, ne_eq, not_false_eq_true, not_true_eq_false]
  rw [E]
  have e0 : eV N U f 0 x = 1 := eV_0 N1
  refine jit_inv (f := fun (s : Int32 × jM) => b_X8_addSquares_35 Y 31 (ki x) 94 s.1 s.2) (fun k z => z.1 = ki k ∧ frQ μ z.2 ∧ (∃ p, frS z.2 94 p ∧ fq p (kFv N U f x k) (DD f k)) ∧ (k < N → sqS N U f x k z.2)) _ N (s := ((0 : Int32), μ4)) ⟨rfl, F4, ⟨_, a1, fq.w⟩, fun _ => ⟨⟨_, a1, fq.w⟩, ⟨_, b1, fq.w⟩, ⟨_, c1, ?_⟩, ⟨_, d1, fq.w⟩⟩⟩ (by omega) (fun k z hk hz => ?_)
  · have e1 : dlN N f ((0 : Nat) : Int) = 1 := by
      rw [dlN_lt (by omega)]
      rfl
    rw [e1]
    show fq (1, 1) (eV N U f 0 x) 1
    rw [e0]
    exact fq.w
  · obtain ⟨v, ν⟩ := z
    obtain ⟨rfl, z1, z2, z3⟩ := hz
    simp only [] at z1 z2 z3
    by_cases e : k = N
    · subst e
      have gN := (hX.to z1.1).g31_1
      rw [(t.at N4 (fun o a b => z1.2 o (by omega))).1] at gN
      refine ⟨.inr ν, ?_, z1.1, z2⟩
      simp (disch := omega) only [b_X8_addSquares_35, gN, ki_0, ki_1, ki_2, ki_3, ki_4, ki_5, ki_6, ki_7, ki_8, ki_9, ki_10, ki_11, ki_12, ki_13, ki_18, ki_20, ki_24, ki_32, ki_36, ki_45, ki_47, ki_48, ki_50, ki_57, ki_60, ki_63, ki_99, ki_100, ki_101, ki_120, ki_255, ki_468, ki_1000, ki_1024, ki_13849, ki_25173, ki_65535, ki_65536, ki_100000, ki_100001, ki_2147483647, ki_2147483648, kl_0, kl_1, kl_2, kl_9223372036854775808, ki_add, ki_sub, ki_mul, ki_neg, kl_add, kl_sub, kl_mul, kl_neg, ki_i2l, kl_l2i, ki_lt, ki_le, ki_eq, kcmp_eq, kcmp_lt, kcmp_le, kcmp_gt, kcmp_ge, Option.bind_some, Option.map_some, kbool0, kbool1, if_pos, if_neg, if_true, if_false, Int.neg_neg, Int.sub_zero, Int.add_zero, Int.zero_add, true_and, and_true, false_and, and_false, false_or, or_false, true_or, or_true, ne_eq, not_false_eq_true, not_true_eq_false]
    · obtain ⟨ω, s1, s2, s3, s4, s5, s6⟩ := sq_step hX z1 N4 (by omega) x1 x2 t S (Kx k (by omega)) (z3 (by omega))
      have ek : ((k + 1 : Nat) : Int) = (k : Int) + 1 := by omega
      have em : dm f (k + 1) = DD f k := by
        unfold dm
        rw [if_neg (by omega), ek, Int.add_sub_cancel]
      refine ⟨_, s1, by omega, by rw [ek], s2, by rw [ek]; exact s3, fun hk2 => ⟨by rw [ek]; exact s3, ?_, by rw [ek]; exact s5, by rw [ek, em]; exact s6⟩⟩
      rw [em, ek, Int.add_sub_cancel]
      exact s4
theorem X12_kernel {Y : jY} {μ : jM} (hM : kM Y μ) {N : Nat} {U f : Int → Int} (eN : gi μ 95 10 = (N : Int)) (N1 : 1 ≤ N) (N4 : N ≤ 4) (hU : rowK μ 101 ((N : Int) + 1) U) (hf : rowK μ 103 8 f) {x w : Int} (x1 : -8 ≤ x) (x2 : x ≤ 8) (hw : w = 0 ∨ w = 1) (oF : okb (kFv N U f x N)) (oD : okb (DD f N)) (D0 : DD f N ≠ 0) : ∃ r : Int64 × jM, jit jF (fun (s : Int64 × Int32 × jM) => b_X12_kernel_46 Y 95 (ki x) (ki w) s.1 (0 : Int64) s.2.1 s.2.2) ((0 : Int64), ki N, μ) = some r ∧ frx μ r.2 ∧ r.1 = kl (if w = 0 then (fset (kFv N U f x N) (DD f N)).1 else (fset (kFv N U f x N) (DD f N)).2) := by
  have x64 : (ki x).toInt64 = kl x := ki_i2l (by omega) (by omega)
  have g := kM.g10 hM
  rw [eN] at g
  obtain ⟨k, rfl⟩ : ∃ k, N = k + 1 := ⟨N - 1, by omega⟩
  have eF : kFv (k + 1) U f x (k + 1) = dV (k + 1) U f ((k + 1 : Nat) : Int) x * eV (k + 1) U f k x - dV (k + 1) U f k x * eV (k + 1) U f ((k + 1 : Nat) : Int) x := by
    unfold kFv
    rw [if_neg (by omega), if_pos rfl, show ((k + 1 : Nat) : Int) - 1 = k by omega]
  have v1 := X12_valueOf hM N4 eN hU hf (k := (k : Int)) (x := x) (by omega) (by omega)
  have v2 := X12_valueOf hM N4 eN hU hf (k := ((k + 1 : Nat) : Int)) (x := x) (by omega) (by omega)
  have hk := X12_hankel hM hf (k := ((k + 1 : Nat) : Int)) (by omega) (by omega)
  obtain ⟨ω, s1, s2⟩ := X12_sets hM oF oD D0
  have hMω := hM.to s2.1
  have tl := X12_told_f hMω s2.2.2.1 s2.2.2.2 hw
  have inner : jit jF (fun (z : Int64 × Int32 × jM) => b_X12_kernel_82 Y 95 (ki x) (ki w) (kl (dV (k + 1) U f ((k + 1 : Nat) : Int) x)) z.1 z.2.1 z.2.2) ((0 : Int64), ki k, μ) = some (kl (if w = 0 then (fset (kFv (k + 1) U f x (k + 1)) (DD f ((k + 1 : Nat) : Int))).1 else (fset (kFv (k + 1) U f x (k + 1)) (DD f ((k + 1 : Nat) : Int))).2), ω) := by
    refine jit_run (fun i => (kl (dh (eC (k + 1) U f k) x k i), ki ((k : Int) - i), μ)) _ k (by rw [show (k : Int) - ((0 : Nat) : Int) = k by omega]; rfl) (by omega) (fun i hi => ?_) ?_
    · obtain ⟨_, c2⟩ := X12_coef hM N4 hU hf (k := (k : Int)) (j := (k : Int) - i) (by omega) (by omega) (by omega) (by omega)
      have c2 := c2 (by omega)
      have e1 : (k : Int) - ((i + 1 : Nat) : Int) = (k : Int) - i + -1 := by omega
      have i64 : (ki ((k : Int) - i)).toInt64 = kl ((k : Int) - i) := ki_i2l (by omega) (by omega)
      have ek : ((k + 1 : Nat) : Int) - 1 = k := by omega
      simp only [dh, e1]
      generalize dh (eC (k + 1) U f k) x k i = acc
      generalize eC (k + 1) U f k ((k : Int) - i) = c at *
      simp (disch := omega) only [b_X12_kernel_82, g, ek, i64, x64, krcv hM.y, c2, ki_0, ki_1, ki_2, ki_3, ki_4, ki_5, ki_6, ki_7, ki_8, ki_9, ki_10, ki_11, ki_12, ki_13, ki_18, ki_20, ki_24, ki_32, ki_36, ki_45, ki_47, ki_48, ki_50, ki_57, ki_60, ki_63, ki_99, ki_100, ki_101, ki_120, ki_255, ki_468, ki_1000, ki_1024, ki_13849, ki_25173, ki_65535, ki_65536, ki_100000, ki_100001, ki_2147483647, ki_2147483648, kl_0, kl_1, kl_2, kl_9223372036854775808, ki_add, ki_sub, ki_mul, ki_neg, kl_add, kl_sub, kl_mul, kl_neg, ki_i2l, kl_l2i, ki_lt, ki_le, ki_eq, kcmp_eq, kcmp_lt, kcmp_le, kcmp_gt, kcmp_ge, Option.bind_some, Option.map_some, kbool0, kbool1, if_pos, if_neg, if_true, if_false, Int.neg_neg, Int.sub_zero, Int.add_zero, Int.zero_add, true_and, and_true, false_and, and_false, false_or, or_false, true_or, or_true, ne_eq, not_false_eq_true, not_true_eq_false]
    · have ek : ((k + 1 : Nat) : Int) - 1 = k := by omega
      have ed : dh (eC (k + 1) U f k) x k k = dV (k + 1) U f k x := by
        unfold dV
        rw [Int.toNat_natCast]
      simp only [ed]
      rw [eF] at s1
      generalize hfs : fset (kFv (k + 1) U f x (k + 1)) (DD f ((k + 1 : Nat) : Int)) = p at *
      generalize (if w = 0 then p.1 else p.2) = tt at *
      clear hfs eF s2 oF
      generalize dV (k + 1) U f ((k + 1 : Nat) : Int) x = A at *
      generalize dV (k + 1) U f k x = B at *
      generalize eV (k + 1) U f ((k + 1 : Nat) : Int) x = C at *
      generalize eV (k + 1) U f k x = C2 at *
      generalize DD f ((k + 1 : Nat) : Int) = D at *
      simp (disch := omega) only [b_X12_kernel_82, g, ek, x64, krcv hM.y, v1, v2, hk, s1, tl, ki_0, ki_1, ki_2, ki_3, ki_4, ki_5, ki_6, ki_7, ki_8, ki_9, ki_10, ki_11, ki_12, ki_13, ki_18, ki_20, ki_24, ki_32, ki_36, ki_45, ki_47, ki_48, ki_50, ki_57, ki_60, ki_63, ki_99, ki_100, ki_101, ki_120, ki_255, ki_468, ki_1000, ki_1024, ki_13849, ki_25173, ki_65535, ki_65536, ki_100000, ki_100001, ki_2147483647, ki_2147483648, kl_0, kl_1, kl_2, kl_9223372036854775808, ki_add, ki_sub, ki_mul, ki_neg, kl_add, kl_sub, kl_mul, kl_neg, ki_i2l, kl_l2i, ki_lt, ki_le, ki_eq, kcmp_eq, kcmp_lt, kcmp_le, kcmp_gt, kcmp_ge, Option.bind_some, Option.map_some, kbool0, kbool1, if_pos, if_neg, if_true, if_false, Int.neg_neg, Int.sub_zero, Int.add_zero, Int.zero_add, true_and, and_true, false_and, and_false, false_or, or_false, true_or, or_true, ne_eq, not_false_eq_true, not_true_eq_false]
  refine ⟨(_, ω), ?_, s2.x, rfl⟩
  refine jit_run (fun i => (kl (dh (eC (k + 1) U f ((k + 1 : Nat) : Int)) x ((k + 1 : Nat) : Int) i), ki (((k + 1 : Nat) : Int) - i), μ)) _ (k + 1) (by rw [show ((k + 1 : Nat) : Int) - ((0 : Nat) : Int) = ((k + 1 : Nat) : Int) by omega]; rfl) (by omega) (fun i hi => ?_) ?_
  · obtain ⟨c1, _⟩ := X12_coef hM N4 hU hf (k := ((k + 1 : Nat) : Int)) (j := ((k + 1 : Nat) : Int) - i) (by omega) (by omega) (by omega) (by omega)
    have c1 := c1 rfl
    have e1 : ((k + 1 : Nat) : Int) - ((i + 1 : Nat) : Int) = ((k + 1 : Nat) : Int) - i + -1 := by omega
    have i64 : (ki (((k + 1 : Nat) : Int) - i)).toInt64 = kl (((k + 1 : Nat) : Int) - i) := ki_i2l (by omega) (by omega)
    simp only [dh, e1]
    generalize dh (eC (k + 1) U f ((k + 1 : Nat) : Int)) x ((k + 1 : Nat) : Int) i = acc
    generalize eC (k + 1) U f ((k + 1 : Nat) : Int) (((k + 1 : Nat) : Int) - i) = c at *
    simp (disch := omega) only [b_X12_kernel_46, i64, x64, kM.o13 hM, c1, ki_0, ki_1, ki_2, ki_3, ki_4, ki_5, ki_6, ki_7, ki_8, ki_9, ki_10, ki_11, ki_12, ki_13, ki_18, ki_20, ki_24, ki_32, ki_36, ki_45, ki_47, ki_48, ki_50, ki_57, ki_60, ki_63, ki_99, ki_100, ki_101, ki_120, ki_255, ki_468, ki_1000, ki_1024, ki_13849, ki_25173, ki_65535, ki_65536, ki_100000, ki_100001, ki_2147483647, ki_2147483648, kl_0, kl_1, kl_2, kl_9223372036854775808, ki_add, ki_sub, ki_mul, ki_neg, kl_add, kl_sub, kl_mul, kl_neg, ki_i2l, kl_l2i, ki_lt, ki_le, ki_eq, kcmp_eq, kcmp_lt, kcmp_le, kcmp_gt, kcmp_ge, Option.bind_some, Option.map_some, kbool0, kbool1, if_pos, if_neg, if_true, if_false, Int.neg_neg, Int.sub_zero, Int.add_zero, Int.zero_add, true_and, and_true, false_and, and_false, false_or, or_false, true_or, or_true, ne_eq, not_false_eq_true, not_true_eq_false]
  · have ed : dh (eC (k + 1) U f ((k + 1 : Nat) : Int)) x ((k + 1 : Nat) : Int) (k + 1) = dV (k + 1) U f ((k + 1 : Nat) : Int) x := by
      unfold dV
      rw [Int.toNat_natCast]
    simp only [ed]
    have E : b_X12_kernel_46 Y 95 (ki x) (ki w) (kl (dV (k + 1) U f ((k + 1 : Nat) : Int) x)) (0 : Int64) (ki (((k + 1 : Nat) : Int) - ((k + 1 : Nat) : Int))) μ = (jit jF (fun (z : Int64 × Int32 × jM) => b_X12_kernel_82 Y 95 (ki x) (ki w) (kl (dV (k + 1) U f ((k + 1 : Nat) : Int) x)) z.1 z.2.1 z.2.2) ((0 : Int64), ki k, μ)).map (fun r => (.inr r)) := by
      have ek : ((k + 1 : Nat) : Int) - 1 = k := by omega
      generalize dV (k + 1) U f ((k + 1 : Nat) : Int) x = A
      simp (disch := omega) only [b_X12_kernel_46, g, ek, ki_0, ki_1, ki_2, ki_3, ki_4, ki_5, ki_6, ki_7, ki_8, ki_9, ki_10, ki_11, ki_12, ki_13, ki_18, ki_20, ki_24, ki_32, ki_36, ki_45, ki_47, ki_48, ki_50, ki_57, ki_60, ki_63, ki_99, ki_100, ki_101, ki_120, ki_255, ki_468, ki_1000, ki_1024, ki_13849, ki_25173, ki_65535, ki_65536, ki_100000, ki_100001, ki_2147483647, ki_2147483648, kl_0, kl_1, kl_2, kl_9223372036854775808, ki_add, ki_sub, ki_mul, ki_neg, kl_add, kl_sub, kl_mul, kl_neg, ki_i2l, kl_l2i, ki_lt, ki_le, ki_eq, kcmp_eq, kcmp_lt, kcmp_le, kcmp_gt, kcmp_ge, Option.bind_some, Option.map_some, kbool0, kbool1, if_pos, if_neg, if_true, if_false, Int.neg_neg, Int.sub_zero, Int.add_zero, Int.zero_add, true_and, and_true, false_and, and_false, false_or, or_false, true_or, or_true, ne_eq, not_false_eq_true, not_true_eq_false]
    rw [E, inner]
    rfl
set_option maxHeartbeats 1000000 in
theorem ok_kernel {L : Nat} {xs : Nat → Int32} {n : Nat} {Y : jY} {μ : jM} (h : Inv L xs n Y μ) : so_kernel (Inv L xs) n Y μ := by
  have hX := h.x
  have hM := h.m
  intro a1 a2
  obtain ⟨x, x1, x2, rfl⟩ := ki_is a1
  obtain ⟨w, w1, w2, rfl⟩ := ki_is a2
  obtain ⟨q1, q2, q3, q4, q5⟩ := h.q
  have e0 := X11_hasTones hX
  have g := kM.g10 hM
  rw [q1] at e0
  have ip := X11_isPart (Y := Y) (μ := μ) w1 w2
  by_cases hz : gi μ 95 10 = 0
  · refine ⟨(kl (-9223372036854775808), μ), (kl (-9223372036854775808), μ), ?_, fun _ => rfl, ?_, rfl, h⟩
    · simp (disch := omega) only [f_X11_kernel, b_X11_kernel_25, krcv (kX.y1 hX), e0, ki_0, ki_1, ki_2, ki_3, ki_4, ki_5, ki_6, ki_7, ki_8, ki_9, ki_10, ki_11, ki_12, ki_13, ki_18, ki_20, ki_24, ki_32, ki_36, ki_45, ki_47, ki_48, ki_50, ki_57, ki_60, ki_63, ki_99, ki_100, ki_101, ki_120, ki_255, ki_468, ki_1000, ki_1024, ki_13849, ki_25173, ki_65535, ki_65536, ki_100000, ki_100001, ki_2147483647, ki_2147483648, kl_0, kl_1, kl_2, kl_9223372036854775808, ki_add, ki_sub, ki_mul, ki_neg, kl_add, kl_sub, kl_mul, kl_neg, ki_i2l, kl_l2i, ki_lt, ki_le, ki_eq, kcmp_eq, kcmp_lt, kcmp_le, kcmp_gt, kcmp_ge, Option.bind_some, Option.map_some, kbool0, kbool1, if_pos, if_neg, if_true, if_false, Int.neg_neg, Int.sub_zero, Int.add_zero, Int.zero_add, true_and, and_true, false_and, and_false, false_or, or_false, true_or, or_true, ne_eq, not_false_eq_true, not_true_eq_false]
    · simp (disch := omega) only [f_X12_kernel, b_X12_kernel_27, g, ki_0, ki_1, ki_2, ki_3, ki_4, ki_5, ki_6, ki_7, ki_8, ki_9, ki_10, ki_11, ki_12, ki_13, ki_18, ki_20, ki_24, ki_32, ki_36, ki_45, ki_47, ki_48, ki_50, ki_57, ki_60, ki_63, ki_99, ki_100, ki_101, ki_120, ki_255, ki_468, ki_1000, ki_1024, ki_13849, ki_25173, ki_65535, ki_65536, ki_100000, ki_100001, ki_2147483647, ki_2147483648, kl_0, kl_1, kl_2, kl_9223372036854775808, ki_add, ki_sub, ki_mul, ki_neg, kl_add, kl_sub, kl_mul, kl_neg, ki_i2l, kl_l2i, ki_lt, ki_le, ki_eq, kcmp_eq, kcmp_lt, kcmp_le, kcmp_gt, kcmp_ge, Option.bind_some, Option.map_some, kbool0, kbool1, if_pos, if_neg, if_true, if_false, Int.neg_neg, Int.sub_zero, Int.add_zero, Int.zero_add, true_and, and_true, false_and, and_false, false_or, or_false, true_or, or_true, ne_eq, not_false_eq_true, not_true_eq_false]
  · by_cases hx : -8 ≤ x ∧ x ≤ 8
    · by_cases hw : w = 0 ∨ w = 1
      · rw [if_pos hw] at ip
        obtain ⟨N, U, W, f, as, cs, N1, N4, eN, ⟨P2, P4, P1⟩, ν, c1, kf, t, M⟩ := h.tab hz
        have hXν := hX.to kf
        have Kx : ∀ k, k < N → kxP N U f x k := fun k hk => kx_at (sem_D P2).2 N1 N4 (sem_D P2).1 P4 hx.1 hx.2 hk
        obtain ⟨ν2, c2, kf2, p, p1, p2⟩ := X8_addSquares hXν N1 N4 hx.1 hx.2 t P2 Kx
        have kf3 : kF 27 95 μ ν2 := (kf.mono (by omega) (by omega)).trans (kf2.mono (by omega) (by omega))
        have hX2 := hX.to kf3
        have hM2 := hM.to kf3
        obtain ⟨ω, d1, kf4, u1, u2, u3⟩ := M ν2 (fun x a b => kf3.1 x (by omega)) hM2
        have hMω := hM2.to kf4
        have gν := kM.g10 hM2
        rw [kf3.gi (by omega)] at gν
        have gω := kM.g10 hMω
        rw [kf4.gi (by omega), kf3.gi (by omega), eN] at gω
        have eω : gi ω 95 10 = (N : Int) := by rw [kf4.gi (by omega), kf3.gi (by omega), eN]
        obtain ⟨k, rfl⟩ : ∃ k, N = k + 1 := ⟨N - 1, by omega⟩
        have Kl := Kx k (by omega)
        unfold kxP at Kl
        have ek : ((k : Nat) : Int) + 1 = ((k + 1 : Nat) : Int) := by omega
        rw [ek] at Kl
        obtain ⟨r, d2, fr, d3⟩ := X12_kernel hMω eω N1 N4 u1 u3 (w := w) hx.1 hx.2 hw Kl.1.2 Kl.2 p2.1
        have pe := p2.uniq (fset_fq (T := kFv (k + 1) U f x (k + 1)) p2.1)
        rw [← pe] at d3
        have pt := X1_part hX2.f94 p1.2.2.1 p1.2.2.2 hw
        obtain ⟨rv, rm⟩ := r
        simp only [] at d3 fr
        generalize (if w = 0 then p.1 else p.2) = v at *
        subst d3
        refine ⟨(kl v, ν2), (kl v, rm), ?_, fun j => congrFun (kf3.1 0 (by omega)) j, ?_, rfl, h.to (((kP.of_rows (kf3.mono (by omega) (by omega))).trans (kP.of_tones kf4)).trans fr.kP)⟩
        · simp (disch := omega) only [f_X11_kernel, X11_within, krcv (kX.y1 hX), krcv (kX.y31 hX), krcv hX.f94.1, kX.o1_3 hX, kX.o1_7 hX, kX.o1_7 hXν, kX.o1_12 hXν, kX.o1_12 hX2, kS.gn (kX.now hX), e0, ip, c1, c2, pt, ki_0, ki_1, ki_2, ki_3, ki_4, ki_5, ki_6, ki_7, ki_8, ki_9, ki_10, ki_11, ki_12, ki_13, ki_18, ki_20, ki_24, ki_32, ki_36, ki_45, ki_47, ki_48, ki_50, ki_57, ki_60, ki_63, ki_99, ki_100, ki_101, ki_120, ki_255, ki_468, ki_1000, ki_1024, ki_13849, ki_25173, ki_65535, ki_65536, ki_100000, ki_100001, ki_2147483647, ki_2147483648, kl_0, kl_1, kl_2, kl_9223372036854775808, ki_add, ki_sub, ki_mul, ki_neg, kl_add, kl_sub, kl_mul, kl_neg, ki_i2l, kl_l2i, ki_lt, ki_le, ki_eq, kcmp_eq, kcmp_lt, kcmp_le, kcmp_gt, kcmp_ge, Option.bind_some, Option.map_some, kbool0, kbool1, if_pos, if_neg, if_true, if_false, Int.neg_neg, Int.sub_zero, Int.add_zero, Int.zero_add, true_and, and_true, false_and, and_false, false_or, or_false, true_or, or_true, ne_eq, not_false_eq_true, not_true_eq_false]
        · have E : f_X12_kernel Y 95 (ki x) (ki w) ν2 = jit jF (fun (s : Int64 × Int32 × jM) => b_X12_kernel_46 Y 95 (ki x) (ki w) s.1 (0 : Int64) s.2.1 s.2.2) ((0 : Int64), ki ((k + 1 : Nat) : Int), ω) := by
            simp (disch := omega) only [f_X12_kernel, X12_in, krcv (kM.y hM), gν, gω, d1, ki_0, ki_1, ki_2, ki_3, ki_4, ki_5, ki_6, ki_7, ki_8, ki_9, ki_10, ki_11, ki_12, ki_13, ki_18, ki_20, ki_24, ki_32, ki_36, ki_45, ki_47, ki_48, ki_50, ki_57, ki_60, ki_63, ki_99, ki_100, ki_101, ki_120, ki_255, ki_468, ki_1000, ki_1024, ki_13849, ki_25173, ki_65535, ki_65536, ki_100000, ki_100001, ki_2147483647, ki_2147483648, kl_0, kl_1, kl_2, kl_9223372036854775808, ki_add, ki_sub, ki_mul, ki_neg, kl_add, kl_sub, kl_mul, kl_neg, ki_i2l, kl_l2i, ki_lt, ki_le, ki_eq, kcmp_eq, kcmp_lt, kcmp_le, kcmp_gt, kcmp_ge, Option.bind_some, Option.map_some, kbool0, kbool1, if_pos, if_neg, if_true, if_false, Int.neg_neg, Int.sub_zero, Int.add_zero, Int.zero_add, true_and, and_true, false_and, and_false, false_or, or_false, true_or, or_true, ne_eq, not_false_eq_true, not_true_eq_false]
          rw [E, d2]
      · rw [if_neg hw] at ip
        refine ⟨(kl (-9223372036854775808), μ), (kl (-9223372036854775808), μ), ?_, fun _ => rfl, ?_, rfl, h⟩
        · simp (disch := omega) only [f_X11_kernel, b_X11_kernel_25, X11_within, krcv (kX.y1 hX), e0, ip, ki_0, ki_1, ki_2, ki_3, ki_4, ki_5, ki_6, ki_7, ki_8, ki_9, ki_10, ki_11, ki_12, ki_13, ki_18, ki_20, ki_24, ki_32, ki_36, ki_45, ki_47, ki_48, ki_50, ki_57, ki_60, ki_63, ki_99, ki_100, ki_101, ki_120, ki_255, ki_468, ki_1000, ki_1024, ki_13849, ki_25173, ki_65535, ki_65536, ki_100000, ki_100001, ki_2147483647, ki_2147483648, kl_0, kl_1, kl_2, kl_9223372036854775808, ki_add, ki_sub, ki_mul, ki_neg, kl_add, kl_sub, kl_mul, kl_neg, ki_i2l, kl_l2i, ki_lt, ki_le, ki_eq, kcmp_eq, kcmp_lt, kcmp_le, kcmp_gt, kcmp_ge, Option.bind_some, Option.map_some, kbool0, kbool1, if_pos, if_neg, if_true, if_false, Int.neg_neg, Int.sub_zero, Int.add_zero, Int.zero_add, true_and, and_true, false_and, and_false, false_or, or_false, true_or, or_true, ne_eq, not_false_eq_true, not_true_eq_false]
        · simp (disch := omega) only [f_X12_kernel, b_X12_kernel_27, X12_in, g, ki_0, ki_1, ki_2, ki_3, ki_4, ki_5, ki_6, ki_7, ki_8, ki_9, ki_10, ki_11, ki_12, ki_13, ki_18, ki_20, ki_24, ki_32, ki_36, ki_45, ki_47, ki_48, ki_50, ki_57, ki_60, ki_63, ki_99, ki_100, ki_101, ki_120, ki_255, ki_468, ki_1000, ki_1024, ki_13849, ki_25173, ki_65535, ki_65536, ki_100000, ki_100001, ki_2147483647, ki_2147483648, kl_0, kl_1, kl_2, kl_9223372036854775808, ki_add, ki_sub, ki_mul, ki_neg, kl_add, kl_sub, kl_mul, kl_neg, ki_i2l, kl_l2i, ki_lt, ki_le, ki_eq, kcmp_eq, kcmp_lt, kcmp_le, kcmp_gt, kcmp_ge, Option.bind_some, Option.map_some, kbool0, kbool1, if_pos, if_neg, if_true, if_false, Int.neg_neg, Int.sub_zero, Int.add_zero, Int.zero_add, true_and, and_true, false_and, and_false, false_or, or_false, true_or, or_true, ne_eq, not_false_eq_true, not_true_eq_false]
    · refine ⟨(kl (-9223372036854775808), μ), (kl (-9223372036854775808), μ), ?_, fun _ => rfl, ?_, rfl, h⟩
      · simp (disch := omega) only [f_X11_kernel, b_X11_kernel_25, X11_within, krcv (kX.y1 hX), e0, ki_0, ki_1, ki_2, ki_3, ki_4, ki_5, ki_6, ki_7, ki_8, ki_9, ki_10, ki_11, ki_12, ki_13, ki_18, ki_20, ki_24, ki_32, ki_36, ki_45, ki_47, ki_48, ki_50, ki_57, ki_60, ki_63, ki_99, ki_100, ki_101, ki_120, ki_255, ki_468, ki_1000, ki_1024, ki_13849, ki_25173, ki_65535, ki_65536, ki_100000, ki_100001, ki_2147483647, ki_2147483648, kl_0, kl_1, kl_2, kl_9223372036854775808, ki_add, ki_sub, ki_mul, ki_neg, kl_add, kl_sub, kl_mul, kl_neg, ki_i2l, kl_l2i, ki_lt, ki_le, ki_eq, kcmp_eq, kcmp_lt, kcmp_le, kcmp_gt, kcmp_ge, Option.bind_some, Option.map_some, kbool0, kbool1, if_pos, if_neg, if_true, if_false, Int.neg_neg, Int.sub_zero, Int.add_zero, Int.zero_add, true_and, and_true, false_and, and_false, false_or, or_false, true_or, or_true, ne_eq, not_false_eq_true, not_true_eq_false]
      · simp (disch := omega) only [f_X12_kernel, b_X12_kernel_27, X12_in, g, ki_0, ki_1, ki_2, ki_3, ki_4, ki_5, ki_6, ki_7, ki_8, ki_9, ki_10, ki_11, ki_12, ki_13, ki_18, ki_20, ki_24, ki_32, ki_36, ki_45, ki_47, ki_48, ki_50, ki_57, ki_60, ki_63, ki_99, ki_100, ki_101, ki_120, ki_255, ki_468, ki_1000, ki_1024, ki_13849, ki_25173, ki_65535, ki_65536, ki_100000, ki_100001, ki_2147483647, ki_2147483648, kl_0, kl_1, kl_2, kl_9223372036854775808, ki_add, ki_sub, ki_mul, ki_neg, kl_add, kl_sub, kl_mul, kl_neg, ki_i2l, kl_l2i, ki_lt, ki_le, ki_eq, kcmp_eq, kcmp_lt, kcmp_le, kcmp_gt, kcmp_ge, Option.bind_some, Option.map_some, kbool0, kbool1, if_pos, if_neg, if_true, if_false, Int.neg_neg, Int.sub_zero, Int.add_zero, Int.zero_add, true_and, and_true, false_and, and_false, false_or, or_false, true_or, or_true, ne_eq, not_false_eq_true, not_true_eq_false]
