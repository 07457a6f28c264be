/-! OPS: fraction, both -/
theorem pick {P : Prop} {ω : jM} {μ : jM} [Decidable P] {o : Option (Int32 × jM)} (e : o = some (ki (if P then 1 else 0), ω)) (k : frx μ ω) : ∃ (b : Int) (ω : jM), o = some (ki b, ω) ∧ frx μ ω ∧ ((b = 1 ∧ P) ∨ (b = 0 ∧ ¬ P)) := by
  refine ⟨_, ω, e, k, ?_⟩
  by_cases p : P
  · rw [if_pos p]; exact Or.inl ⟨rfl, p⟩
  · rw [if_neg p]; exact Or.inr ⟨rfl, p⟩
def pZ (A B C D : Prop) : Nat → Prop
  | 0 => A
  | 1 => B
  | 2 => C
  | _ => D
theorem ring4 (a b c : Int) : a * b * (b * c * c) = a * (b * b) * (c * c) := by grind
theorem ring5 (r a b c w : Int) (h : r * (c * c) = w - a * (b * b)) (z : a * b * (b * c * c) = w * (c * c)) : r * (c * c) * (c * c) = 0 := by
  rw [h]
  grind
set_option maxHeartbeats 1000000 in
theorem frac_both {Y : jY} {N : Nat} {U f : Int → Int} {as cs : List (Int × Int)} (N1 : 1 ≤ N) (N4 : N ≤ 4) (oU : ∀ j : Nat, j < 5 → okb (U j)) (S : semB N U f as cs = true) {x : Int} (x1 : -20 ≤ x) (x2 : x ≤ 20) (Fx : cxK N U f = true) {k : Nat} (k1 : 1 ≤ k) (kN : k ≤ N) : ∃ Z : Nat → Prop, (Z 0 ↔ eV N U f k x = 0) ∧ okb (gV N U f k x) ∧ okb (eV N U f k x) ∧ (∀ ν : jM, kX Y ν → tabC ν N as cs → ∃ r : Int32 × jM, f_X8_cutShort Y 31 (ki k) (ki x) 94 ν = some r ∧ kF 67 95 ν r.2 ∧ ((r.1 = ki 0 ∧ ∃ j, j < k ∧ Z j) ∨ (r.1 = ki 1 ∧ (∀ j, j < k → ¬ Z j) ∧ ∃ p, frS r.2 94 p ∧ fq p (gV N U f k x) (eV N U f k x)))) ∧ ∀ μ : jM, kM Y μ → gi μ 95 10 = (N : Int) → rowK μ 101 ((N : Int) + 1) U → rowK μ 103 8 f → ∀ j : Nat, j < k → ∃ (b : Int) (ω : jM), f_X12_isNothing Y 95 (ki k) (ki j) (kl x) μ = some (ki b, ω) ∧ frx μ ω ∧ ((b = 1 ∧ Z j) ∨ (b = 0 ∧ ¬ Z j)) := by
  obtain ⟨Dp, f0⟩ := sem_D S
  have g1 := fP1_at f0 Fx x1 x2
  have g2 := fun (q : 2 ≤ N) => fP2_at f0 q Fx x1 x2
  have g3 := fun (q : 3 ≤ N) => fP3_at f0 q Fx x1 x2
  have En := en_of N1 N4 S Fx oU
  have q0 : fq (gz as 0) (nN N U f 0) (dN N f 0) := sem_a S (i := 0) (by omega)
  rw [dN_0 f0] at q0
  have hw0 : wN N U f x 0 = x * 1 - nN N U f 0 := by unfold wN; rw [dN_0 f0]
  have : k = 1 ∨ k = 2 ∨ k = 3 ∨ k = 4 := by omega
  rcases this with rfl | rfl | rfl | rfl
  · obtain ⟨⟨g1, g5⟩, g6⟩ := g1
    refine ⟨fun _ => eV N U f 1 x = 0, Iff.rfl, by show okb (gV N U f 1 x); rw [g5]; exact okb_1, by show okb (eV N U f 1 x); rw [g1]; exact g6, fun ν hX t => ?_, fun μ hM eN hU hf j hj => ?_⟩
    · obtain ⟨r, c1, c2, c3⟩ := cut_1 hX N4 kN x1 x2 t (E := eV N U f 1 x) q0 (by rw [g1, hw0]) (by rw [← hw0]; exact g6)
      refine ⟨r, c1, c2, ?_⟩
      rcases c3 with ⟨h1, h2⟩ | ⟨h1, h2, h3⟩
      · exact Or.inl ⟨h1, 0, by omega, h2⟩
      · refine Or.inr ⟨h1, fun _ _ => h2, ?_⟩
        show ∃ p, frS r.2 94 p ∧ fq p (gV N U f 1 x) (eV N U f 1 x)
        rw [g5]
        exact h3
    · have : j = 0 := by omega
      subst this
      exact pick (X12_isNothing_0 hM eN N4 hU hf (k := 1) (x := x) (by omega) (by omega) (by rw [g1]; exact g6)) frx.refl
  · have g2 := g2 (by omega)
    obtain ⟨⟨⟨⟨⟨h1, h2⟩, h3⟩, h4⟩, h5⟩, h6⟩ := g2
    have qa1 : fq (gz as 1) (nN N U f 1) (dN N f 1) := sem_a S (i := 1) (by omega)
    have hw1 : wN N U f x 1 = x * dlN N f 2 - nN N U f 1 := by unfold wN; rw [dN_1 f0]
    rw [dN_1 f0] at qa1
    have qc0 : fq (gz cs 0) (DD f 2 * DD f 0) (DD f 1 * DD f 1) := sem_c S (i := 0) (by omega)
    rw [DD_0, DD_1 f0, Int.mul_one, Int.mul_one] at qc0
    have oG : okb (gV N U f 2 x) := by rw [h1]; exact h3
    refine ⟨pZ (eV N U f 2 x = 0) (gV N U f 2 x = 0) False False, Iff.rfl, oG, h6, fun ν hX t => ?_, fun μ hM eN hU hf j hj => ?_⟩
    · obtain ⟨r, c1, c2, c3⟩ := cut_2 hX N4 kN x1 x2 t q0 qa1 qc0 hw0 hw1 h1 h2 g1.2 h3 h4 h5 h6
      refine ⟨r, c1, c2, ?_⟩
      rcases c3 with ⟨k1, k2⟩ | ⟨k1, k2, k3, k4⟩
      · refine Or.inl ⟨k1, ?_⟩
        rcases k2 with k2 | k2
        · exact ⟨1, by omega, k2⟩
        · exact ⟨0, by omega, k2⟩
      · refine Or.inr ⟨k1, fun j hj => ?_, k4⟩
        have : j = 0 ∨ j = 1 := by omega
        rcases this with rfl | rfl
        · exact k3
        · exact k2
    · have : j = 0 ∨ j = 1 := by omega
      rcases this with rfl | rfl
      · exact pick (P := eV N U f 2 x = 0) (X12_isNothing_0 hM eN N4 hU hf (k := 2) (x := x) (by omega) (by omega) h6) frx.refl
      · exact pick (P := gV N U f 2 x = 0) (X12_isNothing_1 hM eN N4 hU hf (k := 2) (x := x) (by omega) (by omega) oG) frx.refl
  · have g3 := g3 (by omega)
    obtain ⟨⟨⟨⟨⟨⟨⟨⟨⟨⟨h1, h2⟩, h3⟩, h4⟩, h5⟩, h6⟩, h7⟩, h8⟩, h9⟩, h10⟩, h11⟩ := g3
    have D2 := Dp 2 (by omega)
    have qa1 : fq (gz as 1) (nN N U f 1) (dN N f 1) := sem_a S (i := 1) (by omega)
    have hw1 : wN N U f x 1 = x * DD f 2 - nN N U f 1 := by unfold wN; rw [dN_1 f0, dlN_lt (by omega)]
    rw [dN_1 f0, dlN_lt (by omega)] at qa1
    have qa2 : fq (gz as 2) (nN N U f 2) (DD f 2 * dlN N f 3) := sem_a S (i := 2) (by omega)
    have hw2 : wN N U f x 2 = x * (DD f 2 * dlN N f 3) - nN N U f 2 := rfl
    have qc0 : fq (gz cs 0) (DD f 2 * DD f 0) (DD f 1 * DD f 1) := sem_c S (i := 0) (by omega)
    rw [DD_0, DD_1 f0, Int.mul_one, Int.mul_one] at qc0
    have qc1 : fq (gz cs 1) (DD f 3 * DD f 1) (DD f 2 * DD f 2) := sem_c S (i := 1) (by omega)
    rw [DD_1 f0, Int.mul_one] at qc1
    have P2 := En.1 2 (by omega)
    have D20 : DD f 2 ≠ 0 := by
      have : 0 < DD f 2 := D2
      omega
    refine ⟨pZ (eV N U f 3 x = 0) (gV N U f 3 x = 0) (x * (DD f 2 * dlN N f 3) - nN N U f 2 = 0) False, Iff.rfl, h10, h11, fun ν hX t => ?_, fun μ hM eN hU hf j hj => ?_⟩
    · obtain ⟨r, c1, c2, c3⟩ := cut_3 hX N4 kN x1 x2 t q0 qa1 qa2 qc0 qc1 D20 hw0 hw1 hw2 h1 h2 g1.2 h8 h3 h4 h5 h6 h7 h9 h10 h11
      refine ⟨r, c1, c2, ?_⟩
      rcases c3 with ⟨k1, k2⟩ | ⟨k1, k2, k3, k4, k5⟩
      · refine Or.inl ⟨k1, ?_⟩
        rcases k2 with k2 | k2 | k2
        · exact ⟨2, by omega, k2⟩
        · exact ⟨1, by omega, k2⟩
        · exact ⟨0, by omega, k2⟩
      · refine Or.inr ⟨k1, fun j hj => ?_, k5⟩
        have : j = 0 ∨ j = 1 ∨ j = 2 := by omega
        rcases this with rfl | rfl | rfl
        · exact k4
        · exact k3
        · exact k2
    · have : j = 0 ∨ j = 1 ∨ j = 2 := by omega
      rcases this with rfl | rfl | rfl
      · exact pick (P := eV N U f 3 x = 0) (X12_isNothing_0 hM eN N4 hU hf (k := 3) (x := x) (by omega) (by omega) h11) frx.refl
      · exact pick (P := gV N U f 3 x = 0) (X12_isNothing_1 hM eN N4 hU hf (k := 3) (x := x) (by omega) (by omega) h10) frx.refl
      · obtain ⟨ω, c1, c2⟩ := X12_isNothing_l hM eN N1 N4 hU hf (k := 3) (by omega) (by omega) x1 x2 P2 qa2 (by rw [← hw2]; exact h3) h4
        exact pick (P := x * (DD f 2 * dlN N f 3) - nN N U f 2 = 0) c1 c2
  · have N5 : N = 4 := by omega
    subst N5
    have g4 := fP4_at f0 Fx x1 x2
    obtain ⟨R, hR⟩ : ∃ R, R = wN 4 U f x 0 * gV 4 U f 4 x - eV 4 U f 4 x := ⟨_, rfl⟩
    rw [← hR] at g4
    obtain ⟨⟨⟨⟨⟨⟨⟨⟨⟨⟨⟨⟨⟨⟨⟨⟨⟨⟨h1, h2⟩, h3⟩, h4⟩, h5⟩, h6⟩, h7⟩, h8⟩, h9⟩, h10⟩, h11⟩, h12⟩, h13⟩, h14⟩, h15⟩, h16⟩, h17⟩, h18⟩, h19⟩ := g4
    have D2 : 0 < DD f 2 := Dp 2 (by omega)
    have D3 : 0 < DD f 3 := Dp 3 (by omega)
    have qa1 : fq (gz as 1) (nN 4 U f 1) (dN 4 f 1) := sem_a S (i := 1) (by omega)
    have hw1 : wN 4 U f x 1 = x * DD f 2 - nN 4 U f 1 := by unfold wN; rw [dN_1 f0, dlN_lt (by omega)]
    rw [dN_1 f0, dlN_lt (by omega)] at qa1
    have qa2 : fq (gz as 2) (nN 4 U f 2) (DD f 2 * dlN 4 f 3) := sem_a S (i := 2) (by omega)
    have hw2 : wN 4 U f x 2 = x * (DD f 2 * dlN 4 f 3) - nN 4 U f 2 := rfl
    rw [dlN_lt (by omega)] at qa2 hw2
    have qa3 : fq (gz as 3) (nN 4 U f 3) (DD f 3 * 1) := sem_a S (i := 3) (by omega)
    have hw3 : wN 4 U f x 3 = x * (DD f 3 * 1) - nN 4 U f 3 := rfl
    rw [Int.mul_one] at qa3 hw3
    have qc0 : fq (gz cs 0) (DD f 2 * DD f 0) (DD f 1 * DD f 1) := sem_c S (i := 0) (by omega)
    rw [DD_0, DD_1 f0, Int.mul_one, Int.mul_one] at qc0
    have qc1 : fq (gz cs 1) (DD f 3 * DD f 1) (DD f 2 * DD f 2) := sem_c S (i := 1) (by omega)
    rw [DD_1 f0, Int.mul_one] at qc1
    have qc2 : fq (gz cs 2) (DD f 4 * DD f 2) (DD f 3 * DD f 3) := sem_c S (i := 2) (by omega)
    have P2 := En.1 2 (by omega)
    have P3 := En.1 3 (by omega)
    have Q2 := En.2 2 (by omega)
    have D20 : DD f 2 ≠ 0 := by omega
    have D30 : DD f 3 ≠ 0 := by omega
    refine ⟨pZ (eV 4 U f 4 x = 0) (gV 4 U f 4 x = 0) (DD f 4 * DD f 2 * (DD f 2 * DD f 3 * DD f 3) = (x * (DD f 2 * DD f 3) - nN 4 U f 2) * (x * DD f 3 - nN 4 U f 3) * (DD f 3 * DD f 3)) (x * DD f 3 - nN 4 U f 3 = 0), Iff.rfl, h16, h17, fun ν hX t => ?_, fun μ hM eN hU hf j hj => ?_⟩
    · have RZ : R = 0 ↔ DD f 4 * DD f 2 * (DD f 2 * DD f 3 * DD f 3) = (x * (DD f 2 * DD f 3) - nN 4 U f 2) * (x * DD f 3 - nN 4 U f 3) * (DD f 3 * DD f 3) := by
        rw [← hw2, ← hw3]
        constructor
        · intro z
          rw [z, Int.zero_mul] at h1
          have e : wN 4 U f x 2 * wN 4 U f x 3 = DD f 4 * (DD f 2 * DD f 2) := by omega
          rw [e]
          exact ring4 _ _ _
        · intro z
          have e : R * (DD f 3 * DD f 3) * (DD f 3 * DD f 3) = 0 := ring5 _ _ _ _ _ h1 z
          rcases Int.mul_eq_zero.1 e with e | e
          · rcases Int.mul_eq_zero.1 e with e | e
            · exact e
            · exact absurd e (Int.mul_ne_zero D30 D30)
          · exact absurd e (Int.mul_ne_zero D30 D30)
      obtain ⟨r, c1, c2, c3⟩ := cut_4 hX x1 x2 t q0 qa1 qa2 qa3 qc0 qc1 qc2 D20 D30 hw0 hw1 hw2 hw3 hR h1 h2 g1.2 h12 h7 h3 h4 h5 h6 h8 h9 h10 h11 h13 h14 h15 h16 h17
      refine ⟨r, c1, c2, ?_⟩
      rcases c3 with ⟨k1, k2⟩ | ⟨k1, k2, k3, k4, k5, k6⟩
      · refine Or.inl ⟨k1, ?_⟩
        rcases k2 with k2 | k2 | k2 | k2
        · exact ⟨3, by omega, by show x * DD f 3 - nN 4 U f 3 = 0; rw [← hw3]; exact k2⟩
        · exact ⟨2, by omega, RZ.1 k2⟩
        · exact ⟨1, by omega, k2⟩
        · exact ⟨0, by omega, k2⟩
      · refine Or.inr ⟨k1, fun j hj => ?_, k6⟩
        have : j = 0 ∨ j = 1 ∨ j = 2 ∨ j = 3 := by omega
        rcases this with rfl | rfl | rfl | rfl
        · exact k5
        · exact k4
        · exact fun h => k3 (RZ.2 h)
        · show ¬ x * DD f 3 - nN 4 U f 3 = 0
          rw [← hw3]
          exact k2
    · have : j = 0 ∨ j = 1 ∨ j = 2 ∨ j = 3 := by omega
      rcases this with rfl | rfl | rfl | rfl
      · exact pick (P := eV 4 U f 4 x = 0) (X12_isNothing_0 hM eN N4 hU hf (k := 4) (x := x) (by omega) (by omega) h17) frx.refl
      · exact pick (P := gV 4 U f 4 x = 0) (X12_isNothing_1 hM eN N4 hU hf (k := 4) (x := x) (by omega) (by omega) h16) frx.refl
      · obtain ⟨ω, c1, c2⟩ := X12_isNothing_2 hM eN hU hf x1 x2 P3 P2 Q2 qa3 qa2 qc2 (by rw [← hw3]; exact h3) h4 (by rw [← hw2]; exact h7) h8 (by rw [← hw2, ← hw3]; exact h18) (by rw [show DD f 2 * DD f 3 * DD f 3 = DD f 2 * (DD f 3 * DD f 3) by grind]; exact h19)
        exact pick (P := DD f 4 * DD f 2 * (DD f 2 * DD f 3 * DD f 3) = (x * (DD f 2 * DD f 3) - nN 4 U f 2) * (x * DD f 3 - nN 4 U f 3) * (DD f 3 * DD f 3)) c1 c2
      · obtain ⟨ω, c1, c2⟩ := X12_isNothing_l hM eN N1 N4 hU hf (k := 4) (by omega) (by omega) x1 x2 P3 qa3 (by rw [← hw3]; exact h3) h4
        exact pick (P := x * DD f 3 - nN 4 U f 3 = 0) c1 c2
set_option maxHeartbeats 1000000 in
theorem ok_fraction {L : Nat} {xs : Nat → Int32} {n : Nat} {Y : jY} {μ : jM} (h : Inv L xs n Y μ) : so_fraction (Inv L xs) n Y μ := by
  have hX := h.x
  have hM := h.m
  intro a1 a2 a3
  obtain ⟨k, k1, k2, rfl⟩ := ki_is a1
  obtain ⟨x, x1, x2, rfl⟩ := ki_is a2
  obtain ⟨w, w1, w2, rfl⟩ := ki_is a3
  obtain ⟨q1, q2, q3, q4, q5⟩ := h.q
  have e0 := X11_hasTones hX
  have g := kM.g10 hM
  have gx := kN.gr hX.n10
  rw [q1] at e0 gx
  have ip := X11_isPart (Y := Y) (μ := μ) w1 w2
  by_cases hz : gi μ 95 10 = 0
  · refine ⟨(kl (-9223372036854775808), μ), (kl (-9223372036854775808), μ), ?_, fun _ => rfl, ?_, rfl, h⟩
    · simp (disch := omega) only [f_X11_fraction, b_X11_fraction_43, krcv (kX.y1 hX), kX.o1_3 hX, kS.gn (kX.now hX), gx, e0, ki_0, ki_1, ki_2, ki_3, ki_4, ki_5, ki_6, ki_7, ki_8, ki_9, ki_10, ki_11, ki_12, ki_13, ki_18, ki_20, ki_24, ki_32, ki_36, ki_45, ki_47, ki_48, ki_50, ki_57, ki_60, ki_63, ki_99, ki_100, ki_101, ki_120, ki_255, ki_468, ki_1000, ki_1024, ki_13849, ki_25173, ki_65535, ki_65536, ki_100000, ki_100001, ki_2147483647, ki_2147483648, kl_0, kl_1, kl_2, kl_9223372036854775808, ki_add, ki_sub, ki_mul, ki_neg, kl_add, kl_sub, kl_mul, kl_neg, ki_i2l, kl_l2i, ki_lt, ki_le, ki_eq, kcmp_eq, kcmp_lt, kcmp_le, kcmp_gt, kcmp_ge, Option.bind_some, Option.map_some, kbool0, kbool1, if_pos, if_neg, if_true, if_false, Int.neg_neg, Int.sub_zero, Int.add_zero, Int.zero_add, true_and, and_true, false_and, and_false, false_or, or_false, true_or, or_true, ne_eq, not_false_eq_true, not_true_eq_false]
    · simp (disch := omega) only [f_X12_fraction, b_X12_fraction_39, g, ki_0, ki_1, ki_2, ki_3, ki_4, ki_5, ki_6, ki_7, ki_8, ki_9, ki_10, ki_11, ki_12, ki_13, ki_18, ki_20, ki_24, ki_32, ki_36, ki_45, ki_47, ki_48, ki_50, ki_57, ki_60, ki_63, ki_99, ki_100, ki_101, ki_120, ki_255, ki_468, ki_1000, ki_1024, ki_13849, ki_25173, ki_65535, ki_65536, ki_100000, ki_100001, ki_2147483647, ki_2147483648, kl_0, kl_1, kl_2, kl_9223372036854775808, ki_add, ki_sub, ki_mul, ki_neg, kl_add, kl_sub, kl_mul, kl_neg, ki_i2l, kl_l2i, ki_lt, ki_le, ki_eq, kcmp_eq, kcmp_lt, kcmp_le, kcmp_gt, kcmp_ge, Option.bind_some, Option.map_some, kbool0, kbool1, if_pos, if_neg, if_true, if_false, Int.neg_neg, Int.sub_zero, Int.add_zero, Int.zero_add, true_and, and_true, false_and, and_false, false_or, or_false, true_or, or_true, ne_eq, not_false_eq_true, not_true_eq_false]
  · by_cases hk : 1 ≤ k ∧ k ≤ gi μ 95 10
    · by_cases hx : -20 ≤ x ∧ x ≤ 20
      · by_cases hw : w = 0 ∨ w = 1
        · rw [if_pos hw] at ip
          obtain ⟨N, U, W, f, as, cs, N1, N4, eN, ⟨P2, P4, P1⟩, ν, c1, kf, t, M⟩ := h.tab hz
          have hXν := hX.to kf
          obtain ⟨Z, Z0, oG, oE, FX, FM⟩ := frac_both (Y := Y) N1 N4 P1 P2 hx.1 hx.2 P4 (k := k.toNat) (by omega) (by omega)
          obtain ⟨r, c2, kf2, c3⟩ := FX ν hXν t
          rw [toNat_cast (by omega)] at c2
          have kf3 : kF 27 95 μ r.2 := (kf.mono (by omega) (by omega)).trans (kf2.mono (by omega) (by omega))
          have hX2 := hX.to kf3
          have hM2 := hM.to kf3
          obtain ⟨ω, d1, kf4, u1, u2, u3⟩ := M r.2 (fun x a b => kf3.1 x (by omega)) hM2
          have hMω := hM2.to kf4
          have gν := kM.g10 hM2
          rw [kf3.gi (by omega)] at gν
          have eω : gi ω 95 10 = (N : Int) := by rw [kf4.gi (by omega), kf3.gi (by omega), eN]
          obtain ⟨s, d2, fr, d3⟩ := X12_fracLoop hMω eω N4 u1 u3 (k := k.toNat) (x := x) (w := w) (by omega) (by omega) hx.1 hx.2 hw oG oE Z0 (fun j hj η hη => FM η (hMω.to hη.1) (by rw [hη.n]; exact eω) (u1.to hη.1 (by omega)) (u3.to hη.1 (by omega)) j hj)
          rw [toNat_cast (by omega)] at d2
          have cM : f_X12_fraction Y 95 (ki k) (ki x) (ki w) r.2 = some s := by
            rw [← d2]
            clear d3 FX FM Z0 c3 d2 oG oE
            simp (disch := omega) only [f_X12_fraction, X12_in, krcv (kM.y hM), gν, d1, ki_0, ki_1, ki_2, ki_3, ki_4, ki_5, ki_6, ki_7, ki_8, ki_9, ki_10, ki_11, ki_12, ki_13, ki_18, ki_20, ki_24, ki_32, ki_36, ki_45, ki_47, ki_48, ki_50, ki_57, ki_60, ki_63, ki_99, ki_100, ki_101, ki_120, ki_255, ki_468, ki_1000, ki_1024, ki_13849, ki_25173, ki_65535, ki_65536, ki_100000, ki_100001, ki_2147483647, ki_2147483648, kl_0, kl_1, kl_2, kl_9223372036854775808, ki_add, ki_sub, ki_mul, ki_neg, kl_add, kl_sub, kl_mul, kl_neg, ki_i2l, kl_l2i, ki_lt, ki_le, ki_eq, kcmp_eq, kcmp_lt, kcmp_le, kcmp_gt, kcmp_ge, Option.bind_some, Option.map_some, kbool0, kbool1, if_pos, if_neg, if_true, if_false, Int.neg_neg, Int.sub_zero, Int.add_zero, Int.zero_add, true_and, and_true, false_and, and_false, false_or, or_false, true_or, or_true, ne_eq, not_false_eq_true, not_true_eq_false]
          have fin : kP μ s.2 := ((kP.of_rows (kf3.mono (by omega) (by omega))).trans (kP.of_tones kf4)).trans fr.kP
          obtain ⟨rv, rm⟩ := r
          obtain ⟨sv, sm⟩ := s
          simp only [] at c3 d3 fin cM c2 hX2 kf3
          rcases c3 with ⟨rfl, z⟩ | ⟨rfl, z, p, p1, p2⟩
          · rcases d3 with ⟨_, rfl⟩ | ⟨z2, _⟩
            · refine ⟨(kl (-2), rm), (kl (-2), sm), ?_, fun j => congrFun (kf3.1 0 (by omega)) j, cM, rfl, h.to fin⟩
              simp (disch := omega) only [f_X11_fraction, b_X11_fraction_91, X11_within, krcv (kX.y1 hX), krcv (kX.y31 hX), kX.o1_3 hX, kX.o1_7 hX, kX.o1_7 hXν, kX.o1_12 hXν, kS.gn (kX.now hX), gx, e0, ip, c1, c2, ki_0, ki_1, ki_2, ki_3, ki_4, ki_5, ki_6, ki_7, ki_8, ki_9, ki_10, ki_11, ki_12, ki_13, ki_18, ki_20, ki_24, ki_32, ki_36, ki_45, ki_47, ki_48, ki_50, ki_57, ki_60, ki_63, ki_99, ki_100, ki_101, ki_120, ki_255, ki_468, ki_1000, ki_1024, ki_13849, ki_25173, ki_65535, ki_65536, ki_100000, ki_100001, ki_2147483647, ki_2147483648, kl_0, kl_1, kl_2, kl_9223372036854775808, ki_add, ki_sub, ki_mul, ki_neg, kl_add, kl_sub, kl_mul, kl_neg, ki_i2l, kl_l2i, ki_lt, ki_le, ki_eq, kcmp_eq, kcmp_lt, kcmp_le, kcmp_gt, kcmp_ge, Option.bind_some, Option.map_some, kbool0, kbool1, if_pos, if_neg, if_true, if_false, Int.neg_neg, Int.sub_zero, Int.add_zero, Int.zero_add, true_and, and_true, false_and, and_false, false_or, or_false, true_or, or_true, ne_eq, not_false_eq_true, not_true_eq_false]
            · obtain ⟨j, j1, j2⟩ := z
              exact absurd j2 (z2 j j1)
          · rcases d3 with ⟨z2, _⟩ | ⟨_, rfl⟩
            · obtain ⟨j, j1, j2⟩ := z2
              exact absurd j2 (z j j1)
            · have E0 : eV N U f k.toNat x ≠ 0 := p2.1
              have pe := p2.uniq (fset_fq (T := gV N U f k.toNat x) E0)
              rw [← pe] at cM
              have pt := X1_part hX2.f94 p1.2.2.1 p1.2.2.2 hw
              generalize (if w = 0 then p.1 else p.2) = v at *
              refine ⟨(kl v, rm), (kl v, sm), ?_, fun j => congrFun (kf3.1 0 (by omega)) j, cM, rfl, h.to fin⟩
              simp (disch := omega) only [f_X11_fraction, b_X11_fraction_91, X11_within, krcv (kX.y1 hX), krcv (kX.y31 hX), krcv hX.f94.1, kX.o1_3 hX, kX.o1_7 hX, kX.o1_7 hXν, kX.o1_12 hXν, kX.o1_12 hX2, kS.gn (kX.now hX), gx, e0, ip, c1, c2, pt, ki_0, ki_1, ki_2, ki_3, ki_4, ki_5, ki_6, ki_7, ki_8, ki_9, ki_10, ki_11, ki_12, ki_13, ki_18, ki_20, ki_24, ki_32, ki_36, ki_45, ki_47, ki_48, ki_50, ki_57, ki_60, ki_63, ki_99, ki_100, ki_101, ki_120, ki_255, ki_468, ki_1000, ki_1024, ki_13849, ki_25173, ki_65535, ki_65536, ki_100000, ki_100001, ki_2147483647, ki_2147483648, kl_0, kl_1, kl_2, kl_9223372036854775808, ki_add, ki_sub, ki_mul, ki_neg, kl_add, kl_sub, kl_mul, kl_neg, ki_i2l, kl_l2i, ki_lt, ki_le, ki_eq, kcmp_eq, kcmp_lt, kcmp_le, kcmp_gt, kcmp_ge, Option.bind_some, Option.map_some, kbool0, kbool1, if_pos, if_neg, if_true, if_false, Int.neg_neg, Int.sub_zero, Int.add_zero, Int.zero_add, true_and, and_true, false_and, and_false, false_or, or_false, true_or, or_true, ne_eq, not_false_eq_true, not_true_eq_false]
        · rw [if_neg hw] at ip
          refine ⟨(kl (-9223372036854775808), μ), (kl (-9223372036854775808), μ), ?_, fun _ => rfl, ?_, rfl, h⟩
          · simp (disch := omega) only [f_X11_fraction, b_X11_fraction_43, X11_within, krcv (kX.y1 hX), kX.o1_3 hX, kS.gn (kX.now hX), gx, e0, ip, ki_0, ki_1, ki_2, ki_3, ki_4, ki_5, ki_6, ki_7, ki_8, ki_9, ki_10, ki_11, ki_12, ki_13, ki_18, ki_20, ki_24, ki_32, ki_36, ki_45, ki_47, ki_48, ki_50, ki_57, ki_60, ki_63, ki_99, ki_100, ki_101, ki_120, ki_255, ki_468, ki_1000, ki_1024, ki_13849, ki_25173, ki_65535, ki_65536, ki_100000, ki_100001, ki_2147483647, ki_2147483648, kl_0, kl_1, kl_2, kl_9223372036854775808, ki_add, ki_sub, ki_mul, ki_neg, kl_add, kl_sub, kl_mul, kl_neg, ki_i2l, kl_l2i, ki_lt, ki_le, ki_eq, kcmp_eq, kcmp_lt, kcmp_le, kcmp_gt, kcmp_ge, Option.bind_some, Option.map_some, kbool0, kbool1, if_pos, if_neg, if_true, if_false, Int.neg_neg, Int.sub_zero, Int.add_zero, Int.zero_add, true_and, and_true, false_and, and_false, false_or, or_false, true_or, or_true, ne_eq, not_false_eq_true, not_true_eq_false]
          · simp (disch := omega) only [f_X12_fraction, b_X12_fraction_39, X12_in, g, ki_0, ki_1, ki_2, ki_3, ki_4, ki_5, ki_6, ki_7, ki_8, ki_9, ki_10, ki_11, ki_12, ki_13, ki_18, ki_20, ki_24, ki_32, ki_36, ki_45, ki_47, ki_48, ki_50, ki_57, ki_60, ki_63, ki_99, ki_100, ki_101, ki_120, ki_255, ki_468, ki_1000, ki_1024, ki_13849, ki_25173, ki_65535, ki_65536, ki_100000, ki_100001, ki_2147483647, ki_2147483648, kl_0, kl_1, kl_2, kl_9223372036854775808, ki_add, ki_sub, ki_mul, ki_neg, kl_add, kl_sub, kl_mul, kl_neg, ki_i2l, kl_l2i, ki_lt, ki_le, ki_eq, kcmp_eq, kcmp_lt, kcmp_le, kcmp_gt, kcmp_ge, Option.bind_some, Option.map_some, kbool0, kbool1, if_pos, if_neg, if_true, if_false, Int.neg_neg, Int.sub_zero, Int.add_zero, Int.zero_add, true_and, and_true, false_and, and_false, false_or, or_false, true_or, or_true, ne_eq, not_false_eq_true, not_true_eq_false]
      · refine ⟨(kl (-9223372036854775808), μ), (kl (-9223372036854775808), μ), ?_, fun _ => rfl, ?_, rfl, h⟩
        · simp (disch := omega) only [f_X11_fraction, b_X11_fraction_43, X11_within, krcv (kX.y1 hX), kX.o1_3 hX, kS.gn (kX.now hX), gx, e0, ki_0, ki_1, ki_2, ki_3, ki_4, ki_5, ki_6, ki_7, ki_8, ki_9, ki_10, ki_11, ki_12, ki_13, ki_18, ki_20, ki_24, ki_32, ki_36, ki_45, ki_47, ki_48, ki_50, ki_57, ki_60, ki_63, ki_99, ki_100, ki_101, ki_120, ki_255, ki_468, ki_1000, ki_1024, ki_13849, ki_25173, ki_65535, ki_65536, ki_100000, ki_100001, ki_2147483647, ki_2147483648, kl_0, kl_1, kl_2, kl_9223372036854775808, ki_add, ki_sub, ki_mul, ki_neg, kl_add, kl_sub, kl_mul, kl_neg, ki_i2l, kl_l2i, ki_lt, ki_le, ki_eq, kcmp_eq, kcmp_lt, kcmp_le, kcmp_gt, kcmp_ge, Option.bind_some, Option.map_some, kbool0, kbool1, if_pos, if_neg, if_true, if_false, Int.neg_neg, Int.sub_zero, Int.add_zero, Int.zero_add, true_and, and_true, false_and, and_false, false_or, or_false, true_or, or_true, ne_eq, not_false_eq_true, not_true_eq_false]
        · simp (disch := omega) only [f_X12_fraction, b_X12_fraction_39, X12_in, g, ki_0, ki_1, ki_2, ki_3, ki_4, ki_5, ki_6, ki_7, ki_8, ki_9, ki_10, ki_11, ki_12, ki_13, ki_18, ki_20, ki_24, ki_32, ki_36, ki_45, ki_47, ki_48, ki_50, ki_57, ki_60, ki_63, ki_99, ki_100, ki_101, ki_120, ki_255, ki_468, ki_1000, ki_1024, ki_13849, ki_25173, ki_65535, ki_65536, ki_100000, ki_100001, ki_2147483647, ki_2147483648, kl_0, kl_1, kl_2, kl_9223372036854775808, ki_add, ki_sub, ki_mul, ki_neg, kl_add, kl_sub, kl_mul, kl_neg, ki_i2l, kl_l2i, ki_lt, ki_le, ki_eq, kcmp_eq, kcmp_lt, kcmp_le, kcmp_gt, kcmp_ge, Option.bind_some, Option.map_some, kbool0, kbool1, if_pos, if_neg, if_true, if_false, Int.neg_neg, Int.sub_zero, Int.add_zero, Int.zero_add, true_and, and_true, false_and, and_false, false_or, or_false, true_or, or_true, ne_eq, not_false_eq_true, not_true_eq_false]
    · refine ⟨(kl (-9223372036854775808), μ), (kl (-9223372036854775808), μ), ?_, fun _ => rfl, ?_, rfl, h⟩
      · simp (disch := omega) only [f_X11_fraction, b_X11_fraction_43, X11_within, krcv (kX.y1 hX), kX.o1_3 hX, kS.gn (kX.now hX), gx, e0, ki_0, ki_1, ki_2, ki_3, ki_4, ki_5, ki_6, ki_7, ki_8, ki_9, ki_10, ki_11, ki_12, ki_13, ki_18, ki_20, ki_24, ki_32, ki_36, ki_45, ki_47, ki_48, ki_50, ki_57, ki_60, ki_63, ki_99, ki_100, ki_101, ki_120, ki_255, ki_468, ki_1000, ki_1024, ki_13849, ki_25173, ki_65535, ki_65536, ki_100000, ki_100001, ki_2147483647, ki_2147483648, kl_0, kl_1, kl_2, kl_9223372036854775808, ki_add, ki_sub, ki_mul, ki_neg, kl_add, kl_sub, kl_mul, kl_neg, ki_i2l, kl_l2i, ki_lt, ki_le, ki_eq, kcmp_eq, kcmp_lt, kcmp_le, kcmp_gt, kcmp_ge, Option.bind_some, Option.map_some, kbool0, kbool1, if_pos, if_neg, if_true, if_false, Int.neg_neg, Int.sub_zero, Int.add_zero, Int.zero_add, true_and, and_true, false_and, and_false, false_or, or_false, true_or, or_true, ne_eq, not_false_eq_true, not_true_eq_false]
      · simp (disch := omega) only [f_X12_fraction, b_X12_fraction_39, X12_in, g, ki_0, ki_1, ki_2, ki_3, ki_4, ki_5, ki_6, ki_7, ki_8, ki_9, ki_10, ki_11, ki_12, ki_13, ki_18, ki_20, ki_24, ki_32, ki_36, ki_45, ki_47, ki_48, ki_50, ki_57, ki_60, ki_63, ki_99, ki_100, ki_101, ki_120, ki_255, ki_468, ki_1000, ki_1024, ki_13849, ki_25173, ki_65535, ki_65536, ki_100000, ki_100001, ki_2147483647, ki_2147483648, kl_0, kl_1, kl_2, kl_9223372036854775808, ki_add, ki_sub, ki_mul, ki_neg, kl_add, kl_sub, kl_mul, kl_neg, ki_i2l, kl_l2i, ki_lt, ki_le, ki_eq, kcmp_eq, kcmp_lt, kcmp_le, kcmp_gt, kcmp_ge, Option.bind_some, Option.map_some, kbool0, kbool1, if_pos, if_neg, if_true, if_false, Int.neg_neg, Int.sub_zero, Int.add_zero, Int.zero_add, true_and, and_true, false_and, and_false, false_or, or_false, true_or, or_true, ne_eq, not_false_eq_true, not_true_eq_false]
