/-! OPS: census -/
def qA (a b : Int) : Int → Int := fun x => if x = 0 then a else b
def qz (a b c : Int) : Nat → Int
  | 0 => 0
  | j + 1 => qz a b c j + if (-20 + (j : Int) - a) * (-20 + (j : Int) - b) - c = 0 then 1 else 0
/-- the same in natural numbers, quicker to reckon -/
def qzN (A B c : Nat) : Nat → Nat
  | 0 => 0
  | j + 1 => cond (Nat.beq (Nat.add (Nat.mul (Nat.sub j A) (Nat.sub j B)) (Nat.mul (Nat.sub A j) (Nat.sub B j))) c) (Nat.succ (qzN A B c j)) (qzN A B c j)
def sqN (v : Nat) : Bool := (List.range 18).any fun s => Nat.beq (Nat.mul s s) v
def sqB (v : Int) : Bool := sqN v.toNat
def cenN (A B c : Nat) : Bool := cond (Nat.beq (qzN A B c 41) 2) (sqN (Nat.add (Nat.mul (Nat.add (Nat.sub A B) (Nat.sub B A)) (Nat.add (Nat.sub A B) (Nat.sub B A))) (Nat.mul 4 c))) (not (sqN (Nat.add (Nat.mul (Nat.add (Nat.sub A B) (Nat.sub B A)) (Nat.add (Nat.sub A B) (Nat.sub B A))) (Nat.mul 4 c))))
def cenR (A : Nat) : Bool := (List.range 13).all fun k => (List.range 36).all fun t => cenN A (Nat.add k 14) (Nat.succ t)
set_option maxRecDepth 100000 in
theorem cen_all : (cenR 14 = true ∧ cenR 15 = true ∧ cenR 16 = true ∧ cenR 17 = true ∧ cenR 18 = true ∧ cenR 19 = true ∧ cenR 20 = true) ∧ cenR 21 = true ∧ cenR 22 = true ∧ cenR 23 = true ∧ cenR 24 = true ∧ cenR 25 = true ∧ cenR 26 = true := by
  refine ⟨⟨?_, ?_, ?_, ?_, ?_, ?_, ?_⟩, ?_, ?_, ?_, ?_, ?_, ?_⟩ <;> decide +kernel
theorem cen_at {A B c : Nat} (a1 : 14 ≤ A) (a2 : A ≤ 26) (b1 : 14 ≤ B) (b2 : B ≤ 26) (c1 : 1 ≤ c) (c2 : c ≤ 36) : cenN A B c = true := by
  have R : cenR A = true := by
    obtain ⟨⟨h1, h2, h3, h4, h5, h6, h7⟩, h8, h9, h10, h11, h12, h13⟩ := cen_all
    have : A = 14 ∨ A = 15 ∨ A = 16 ∨ A = 17 ∨ A = 18 ∨ A = 19 ∨ A = 20 ∨ A = 21 ∨ A = 22 ∨ A = 23 ∨ A = 24 ∨ A = 25 ∨ A = 26 := by omega
    rcases this with rfl | rfl | rfl | rfl | rfl | rfl | rfl | rfl | rfl | rfl | rfl | rfl | rfl
    · exact h1
    · exact h2
    · exact h3
    · exact h4
    · exact h5
    · exact h6
    · exact h7
    · exact h8
    · exact h9
    · exact h10
    · exact h11
    · exact h12
    · exact h13
  unfold cenR at R
  rw [List.all_eq_true] at R
  have R2 := R (B - 14) (List.mem_range.2 (by omega))
  rw [List.all_eq_true] at R2
  have R3 := R2 (c - 1) (List.mem_range.2 (by omega))
  rw [show Nat.add (B - 14) 14 = B from by show B - 14 + 14 = B; omega, show Nat.succ (c - 1) = c from by omega] at R3
  exact R3
theorem qz_N {a b c : Int} {A B C : Nat} (hA : (A : Int) = 20 + a) (hB : (B : Int) = 20 + b) (hC : (C : Int) = c) (c1 : 1 ≤ c) : ∀ j : Nat, qz a b c j = (qzN A B C j : Nat) := by
  intro j
  induction j with
  | zero => rfl
  | succ j ih =>
    have e : (-20 + (j : Int) - a) * (-20 + (j : Int) - b) - c = 0 ↔ Nat.beq (Nat.add (Nat.mul (Nat.sub j A) (Nat.sub j B)) (Nat.mul (Nat.sub A j) (Nat.sub B j))) C = true := by
      rw [Nat.beq_eq]
      show _ ↔ (j - A) * (j - B) + (A - j) * (B - j) = C
      by_cases p : A ≤ j
      · rw [show A - j = 0 by omega, Nat.zero_mul, Nat.add_zero]
        by_cases q : B ≤ j
        · have e1 : (((j - A) * (j - B) : Nat) : Int) = (-20 + (j : Int) - a) * (-20 + (j : Int) - b) := by
            rw [Int.natCast_mul, show ((j - A : Nat) : Int) = -20 + (j : Int) - a by omega, show ((j - B : Nat) : Int) = -20 + (j : Int) - b by omega]
          omega
        · rw [show j - B = 0 by omega, Nat.mul_zero]
          have := Int.mul_nonneg (a := -20 + (j : Int) - a) (b := -(-20 + (j : Int) - b)) (by omega) (by omega)
          rw [Int.mul_neg] at this
          omega
      · rw [show j - A = 0 by omega, Nat.zero_mul, Nat.zero_add]
        by_cases q : j ≤ B
        · have e1 : (((A - j) * (B - j) : Nat) : Int) = (-20 + (j : Int) - a) * (-20 + (j : Int) - b) := by
            rw [Int.natCast_mul, show ((A - j : Nat) : Int) = -(-20 + (j : Int) - a) by omega, show ((B - j : Nat) : Int) = -(-20 + (j : Int) - b) by omega, Int.neg_mul_neg]
          omega
        · rw [show B - j = 0 by omega, Nat.mul_zero]
          have := Int.mul_nonneg (a := -(-20 + (j : Int) - a)) (b := -20 + (j : Int) - b) (by omega) (by omega)
          rw [Int.neg_mul] at this
          omega
    rw [qz, qzN, ih]
    by_cases h : (-20 + (j : Int) - a) * (-20 + (j : Int) - b) - c = 0
    · rw [if_pos h, e.1 h, cond_true]
      omega
    · have h2 : Nat.beq (Nat.add (Nat.mul (Nat.sub j A) (Nat.sub j B)) (Nat.mul (Nat.sub A j) (Nat.sub B j))) C = false := by
        cases z : Nat.beq (Nat.add (Nat.mul (Nat.sub j A) (Nat.sub j B)) (Nat.mul (Nat.sub A j) (Nat.sub B j))) C with
        | false => rfl
        | true => exact absurd (e.2 z) h
      rw [if_neg h, h2, cond_false, Int.add_zero]
theorem pv_q (a b c x : Int) : (pv (qA a b) (fun _ => c) x 1 0 2).2 = (x - a) * (x - b) - c := by
  show (x - 1 * qA a b (0 + (1 : Nat))) * ((x - 1 * qA a b (0 + (0 : Nat))) * 1 - 1 * 1 * c * 0) - 1 * 1 * c * 1 = _
  rw [show qA a b (0 + ((1 : Nat) : Int)) = b from if_neg (by omega), show qA a b (0 + ((0 : Nat) : Int)) = a from if_pos (by omega)]
  grind
theorem pv_q1 (a b c x : Int) : (pv (qA a b) (fun _ => c) x 1 0 1).2 = x - a := by
  show (x - 1 * qA a b (0 + (0 : Nat))) * 1 - 1 * 1 * c * 0 = _
  rw [show qA a b (0 + ((0 : Nat) : Int)) = a from if_pos (by omega)]
  omega
theorem zc_q (a b c : Int) : ∀ j : Nat, zc (qA a b) (fun _ => c) 0 2 j = qz a b c j := by
  intro j
  induction j with
  | zero => rfl
  | succ j ih => rw [zc, qz, ih, pv_q]
theorem rb_q {a b c : Int} (c1 : 1 ≤ c) : (rb (qA a b) (fun _ => c) 0 1 0 2).1 = 0 ↔ (0 ≤ a + b ∧ 0 ≤ a * b - c) := by
  have e1 : rb (qA a b) (fun _ => c) 0 1 0 1 = if 0 < 0 - a then (1, 1) else (0, 0) := by
    rw [rb, pv_q1, rb]
    by_cases h : 0 < 0 - a
    · rw [if_pos (Or.inl ⟨rfl, h⟩), if_pos h]
      rfl
    · rw [if_neg (by rintro (⟨_, q⟩ | ⟨q, _⟩) <;> first | exact h q | exact absurd q (by decide)), if_neg h]
      rfl
  have e2 : (0 - a) * (0 - b) = a * b := by grind
  rw [rb, pv_q, e1, e2]
  by_cases h : 0 < 0 - a
  · rw [if_pos h]
    constructor
    · intro q
      split at q
      · exact absurd q (by decide)
      · exact absurd q (by decide)
    · rintro ⟨q1, q2⟩
      have := Int.mul_nonneg (a := -a) (b := b) (by omega) (by omega)
      rw [Int.neg_mul] at this
      omega
  · rw [if_neg h]
    constructor
    · intro q
      have h2 : ¬ a * b - c < 0 := by
        intro z
        rw [if_pos (Or.inr ⟨rfl, z⟩)] at q
        exact absurd q (by decide)
      refine ⟨?_, by omega⟩
      by_cases hb : 0 ≤ b
      · omega
      · have := Int.mul_nonneg (a := a) (b := -b) (by omega) (by omega)
        rw [Int.mul_neg] at this
        omega
    · rintro ⟨q1, q2⟩
      rw [if_neg (by rintro (⟨q, _⟩ | ⟨_, q⟩) <;> first | exact absurd q (by decide) | omega)]
/-- the reference's condition -/
def cenM (a b c w : Int) : Int := if (w = 0 ∧ sqB ((a - b) * (a - b) + 4 * c) = true) ∨ (w = 1 ∧ 0 ≤ a + b ∧ 0 ≤ a * b - c) ∨ (w = 2 ∧ a * b - c = 0) then 1 else 0
theorem if_iff {P Q : Prop} [Decidable P] [Decidable Q] (h : P ↔ Q) : (if P then (1 : Int) else 0) = if Q then 1 else 0 := by
  by_cases q : Q
  · rw [if_pos (h.2 q), if_pos q]
  · rw [if_neg (fun p => q (h.1 p)), if_neg q]
theorem cen_is {a b c w : Int} (a1 : -6 ≤ a) (a2 : a ≤ 6) (b1 : -6 ≤ b) (b2 : b ≤ 6) (c1 : 1 ≤ c) (c2 : c ≤ 36) (w0 : 0 ≤ w) (w2 : w ≤ 2) : rvM (qA a b) (fun _ => c) 2 (if w = 0 then 0 else 3 - w) = cenM a b c w := by
  have N := cen_at (A := (20 + a).toNat) (B := (20 + b).toNat) (c := c.toNat) (by omega) (by omega) (by omega) (by omega) (by omega) (by omega)
  have Q := qz_N (a := a) (b := b) (c := c) (A := (20 + a).toNat) (B := (20 + b).toNat) (C := c.toNat) (by omega) (by omega) (by omega) c1 41
  have V : Nat.add (Nat.mul (Nat.add (Nat.sub (20 + a).toNat (20 + b).toNat) (Nat.sub (20 + b).toNat (20 + a).toNat)) (Nat.add (Nat.sub (20 + a).toNat (20 + b).toNat) (Nat.sub (20 + b).toNat (20 + a).toNat))) (Nat.mul 4 c.toNat) = ((a - b) * (a - b) + 4 * c).toNat := by
    show ((20 + a).toNat - (20 + b).toNat + ((20 + b).toNat - (20 + a).toNat)) * ((20 + a).toNat - (20 + b).toNat + ((20 + b).toNat - (20 + a).toNat)) + 4 * c.toNat = _
    obtain ⟨D, hD⟩ : ∃ D, D = (20 + a).toNat - (20 + b).toNat + ((20 + b).toNat - (20 + a).toNat) := ⟨_, rfl⟩
    rw [← hD]
    have e1 : ((D * D : Nat) : Int) = (a - b) * (a - b) := by
      rw [Int.natCast_mul]
      by_cases p : b ≤ a
      · rw [show (D : Int) = a - b by omega]
      · rw [show (D : Int) = -(a - b) by omega, Int.neg_mul_neg]
    omega
  unfold cenN at N
  rw [V] at N
  have p1 : qz a b c 41 = 2 ↔ sqB ((a - b) * (a - b) + 4 * c) = true := by
    unfold sqB
    rw [Q]
    cases z : Nat.beq (qzN (20 + a).toNat (20 + b).toNat c.toNat 41) 2 with
    | true =>
      rw [z, cond_true] at N
      have := Nat.eq_of_beq_eq_true z
      exact ⟨fun _ => N, fun _ => by omega⟩
    | false =>
      rw [z, cond_false] at N
      have ne := Nat.ne_of_beq_eq_false z
      rw [Bool.not_eq_true'] at N
      exact ⟨fun h => absurd (show qzN (20 + a).toNat (20 + b).toNat c.toNat 41 = 2 by omega) ne, fun h => by rw [N] at h; cases h⟩
  have p2 := rb_q (a := a) (b := b) c1
  have p3 : (0 - a) * (0 - b) = a * b := by grind
  unfold rvM cenM
  rw [show (2 : Int).toNat = 2 from rfl, zc_q, pv_q, p3]
  generalize (rb (qA a b) (fun _ => c) 0 1 0 2).1 = r1 at *
  generalize qz a b c 41 = r2 at *
  generalize a * b = ab at *
  refine if_iff ?_
  by_cases h0 : w = 0
  · rw [if_pos h0]
    constructor
    · rintro (⟨_, h⟩ | ⟨h, _⟩ | ⟨h, _⟩)
      · exact Or.inl ⟨h0, p1.1 h⟩
      · omega
      · omega
    · rintro (⟨_, h⟩ | ⟨h, _⟩ | ⟨h, _⟩)
      · exact Or.inl ⟨rfl, p1.2 h⟩
      · omega
      · omega
  · rw [if_neg h0]
    constructor
    · rintro (⟨h, _⟩ | ⟨h1, h⟩ | ⟨h1, h⟩)
      · omega
      · exact Or.inr (Or.inr ⟨by omega, h⟩)
      · exact Or.inr (Or.inl ⟨by omega, p2.1 h⟩)
    · rintro (⟨h, _⟩ | ⟨h1, h⟩ | ⟨h1, h⟩)
      · omega
      · exact Or.inr (Or.inr ⟨by omega, p2.2 h⟩)
      · exact Or.inr (Or.inl ⟨by omega, h⟩)
def cnI (f : Int → Int) : Nat → Int
  | 0 => 0
  | t + 1 => cnI f t + f ((t : Int) + 1)
theorem cnI_congr {f g : Int → Int} : ∀ t : Nat, (∀ x : Int, 1 ≤ x → x ≤ t → f x = g x) → cnI f t = cnI g t := by
  intro t
  induction t with
  | zero => intro _; rfl
  | succ t ih =>
    intro h
    rw [cnI, cnI, ih (fun x a b => h x a (by omega)), h _ (by omega) (by omega)]
def cnO (g : Int → Int) : Nat → Int
  | 0 => 0
  | t + 1 => cnO g t + g (-6 + (t : Int))
theorem X12_isSquare {Y : jY} {μ : jM} {v : Int} (v0 : 0 ≤ v) (v1 : v ≤ 288) : f_X12_isSquare Y (ki v) μ = some (ki (if sqB v = true then 1 else 0), μ) := by
  unfold f_X12_isSquare
  have h := jit_inv (f := fun (s : Int32 × jM) => b_X12_isSquare_2 Y (ki v) s.1 s.2) (fun k z => z = (ki k, μ) ∧ ∀ t : Nat, t < k → (t : Int) * t < v) (fun r => r = (ki (if sqB v = true then 1 else 0), μ)) 17 (s := ((0 : Int32), μ)) ⟨rfl, fun t ht => by omega⟩ (by omega) (fun k z hk hz => by
    obtain ⟨rfl, hz⟩ := hz
    have kk : (k : Int) * k ≤ 289 := by
      have : k * k ≤ 17 * 17 := Nat.mul_le_mul hk hk
      have e : ((k * k : Nat) : Int) = (k : Int) * k := Int.natCast_mul k k
      omega
    have k0 : 0 ≤ (k : Int) * k := Int.mul_nonneg (by omega) (by omega)
    by_cases e : v ≤ (k : Int) * k
    · by_cases e2 : (k : Int) * k = v
      · have s : sqB v = true := by
          unfold sqB sqN
          rw [List.any_eq_true]
          refine ⟨k, List.mem_range.2 (by omega), ?_⟩
          rw [Nat.beq_eq]
          show k * k = v.toNat
          have e3 : ((k * k : Nat) : Int) = (k : Int) * k := Int.natCast_mul k k
          omega
        refine ⟨.inr (ki 1, μ), ?_, by rw [s]; rfl⟩
        generalize hkk : (k : Int) * k = kk at *
        simp (disch := omega) only [b_X12_isSquare_2, b_X12_isSquare_28, ki_0, ki_1, ki_2, ki_3, ki_4, ki_5, ki_6, ki_7, ki_8, ki_9, ki_10, ki_11, ki_12, ki_13, ki_18, ki_20, ki_24, ki_32, ki_36, ki_45, ki_47, ki_48, ki_50, ki_57, ki_60, ki_63, ki_99, ki_100, ki_101, ki_120, ki_255, ki_468, ki_1000, ki_1024, ki_13849, ki_25173, ki_65535, ki_65536, ki_100000, ki_100001, ki_2147483647, ki_2147483648, kl_0, kl_1, kl_2, kl_9223372036854775808, ki_add, ki_sub, ki_mul, ki_neg, kl_add, kl_sub, kl_mul, kl_neg, ki_i2l, kl_l2i, ki_lt, ki_le, ki_eq, kcmp_eq, kcmp_lt, kcmp_le, kcmp_gt, kcmp_ge, Option.bind_some, Option.map_some, kbool0, kbool1, if_pos, if_neg, if_true, if_false, Int.neg_neg, Int.sub_zero, Int.add_zero, Int.zero_add, true_and, and_true, false_and, and_false, false_or, or_false, true_or, or_true, ne_eq, not_false_eq_true, not_true_eq_false, hkk]
      · have s : ¬ sqB v = true := by
          unfold sqB sqN
          rw [List.any_eq_true]
          rintro ⟨t, _, ht⟩
          rw [Nat.beq_eq] at ht
          have ht : t * t = v.toNat := ht
          have e4 : ((t * t : Nat) : Int) = (t : Int) * t := Int.natCast_mul t t
          by_cases tk : t < k
          · have := hz t tk
            omega
          · have : k * k ≤ t * t := Nat.mul_le_mul (by omega) (by omega)
            have e3 : ((k * k : Nat) : Int) = (k : Int) * k := Int.natCast_mul k k
            omega
        refine ⟨.inr (ki 0, μ), ?_, by rw [if_neg s]; rfl⟩
        generalize hkk : (k : Int) * k = kk at *
        simp (disch := omega) only [b_X12_isSquare_2, b_X12_isSquare_28, ki_0, ki_1, ki_2, ki_3, ki_4, ki_5, ki_6, ki_7, ki_8, ki_9, ki_10, ki_11, ki_12, ki_13, ki_18, ki_20, ki_24, ki_32, ki_36, ki_45, ki_47, ki_48, ki_50, ki_57, ki_60, ki_63, ki_99, ki_100, ki_101, ki_120, ki_255, ki_468, ki_1000, ki_1024, ki_13849, ki_25173, ki_65535, ki_65536, ki_100000, ki_100001, ki_2147483647, ki_2147483648, kl_0, kl_1, kl_2, kl_9223372036854775808, ki_add, ki_sub, ki_mul, ki_neg, kl_add, kl_sub, kl_mul, kl_neg, ki_i2l, kl_l2i, ki_lt, ki_le, ki_eq, kcmp_eq, kcmp_lt, kcmp_le, kcmp_gt, kcmp_ge, Option.bind_some, Option.map_some, kbool0, kbool1, if_pos, if_neg, if_true, if_false, Int.neg_neg, Int.sub_zero, Int.add_zero, Int.zero_add, true_and, and_true, false_and, and_false, false_or, or_false, true_or, or_true, ne_eq, not_false_eq_true, not_true_eq_false, hkk]
    · have k17 : k ≠ 17 := by
        intro q
        subst q
        omega
      refine ⟨.inl (ki ((k + 1 : Nat) : Int), μ), ?_, by omega, rfl, fun t ht => ?_⟩
      · generalize hkk : (k : Int) * k = kk at *
        simp (disch := omega) only [b_X12_isSquare_2, ki_0, ki_1, ki_2, ki_3, ki_4, ki_5, ki_6, ki_7, ki_8, ki_9, ki_10, ki_11, ki_12, ki_13, ki_18, ki_20, ki_24, ki_32, ki_36, ki_45, ki_47, ki_48, ki_50, ki_57, ki_60, ki_63, ki_99, ki_100, ki_101, ki_120, ki_255, ki_468, ki_1000, ki_1024, ki_13849, ki_25173, ki_65535, ki_65536, ki_100000, ki_100001, ki_2147483647, ki_2147483648, kl_0, kl_1, kl_2, kl_9223372036854775808, ki_add, ki_sub, ki_mul, ki_neg, kl_add, kl_sub, kl_mul, kl_neg, ki_i2l, kl_l2i, ki_lt, ki_le, ki_eq, kcmp_eq, kcmp_lt, kcmp_le, kcmp_gt, kcmp_ge, Option.bind_some, Option.map_some, kbool0, kbool1, if_pos, if_neg, if_true, if_false, Int.neg_neg, Int.sub_zero, Int.add_zero, Int.zero_add, true_and, and_true, false_and, and_false, false_or, or_false, true_or, or_true, ne_eq, not_false_eq_true, not_true_eq_false, hkk, Int.natCast_add, Int.natCast_one]
      · by_cases tk : t = k
        · rw [tk]; omega
        · exact hz t (by omega))
  obtain ⟨r, e, rfl⟩ := h
  exact e
theorem X12_cenM {Y : jY} {μ : jM} {s w cnt a c : Int} (s1 : -12 ≤ s) (s2 : s ≤ 12) (w0 : 0 ≤ w) (w2 : w ≤ 2) (a1 : -6 ≤ a) (a2 : a ≤ 6) (b1 : -6 ≤ s - a) (b2 : s - a ≤ 6) (c1 : 1 ≤ c) (c2 : c ≤ 36) : b_X12_census_44 Y (ki s) (ki w) (ki cnt) (ki a) (ki (s - a)) (ki c) μ = some (.inl (ki (cnt + cenM a (s - a) c w), ki (c + 1), μ)) := by
  have m1 := mulB (a := a) (b := s - a) (A := 6) (B := 6) (by omega) (by omega) (by omega) (by omega)
  have m2 := mulB (a := a - (s - a)) (b := a - (s - a)) (A := 12) (B := 12) (by omega) (by omega) (by omega) (by omega)
  have m3 : 0 ≤ (a - (s - a)) * (a - (s - a)) := by
    by_cases q : 0 ≤ a - (s - a)
    · exact Int.mul_nonneg q q
    · have := Int.mul_nonneg (a := -(a - (s - a))) (b := -(a - (s - a))) (by omega) (by omega)
      rw [Int.neg_mul_neg] at this
      exact this
  unfold cenM
  have sq := X12_isSquare (Y := Y) (μ := μ) (v := (a - (s - a)) * (a - (s - a)) + 4 * c) (by omega) (by omega)
  have : w = 0 ∨ w = 1 ∨ w = 2 := by omega
  rcases this with rfl | rfl | rfl
  · generalize hq : (a - (s - a)) * (a - (s - a)) = q at *
    by_cases e : sqB (q + 4 * c) = true
    · rw [if_pos e] at sq
      rw [if_pos (Or.inl ⟨rfl, e⟩)]
      simp (disch := omega) only [b_X12_census_44, b_X12_census_131, b_X12_census_144, X12_in, sq, hq, ki_0, ki_1, ki_2, ki_3, ki_4, ki_5, ki_6, ki_7, ki_8, ki_9, ki_10, ki_11, ki_12, ki_13, ki_18, ki_20, ki_24, ki_32, ki_36, ki_45, ki_47, ki_48, ki_50, ki_57, ki_60, ki_63, ki_99, ki_100, ki_101, ki_120, ki_255, ki_468, ki_1000, ki_1024, ki_13849, ki_25173, ki_65535, ki_65536, ki_100000, ki_100001, ki_2147483647, ki_2147483648, kl_0, kl_1, kl_2, kl_9223372036854775808, ki_add, ki_sub, ki_mul, ki_neg, kl_add, kl_sub, kl_mul, kl_neg, ki_i2l, kl_l2i, ki_lt, ki_le, ki_eq, kcmp_eq, kcmp_lt, kcmp_le, kcmp_gt, kcmp_ge, Option.bind_some, Option.map_some, kbool0, kbool1, if_pos, if_neg, if_true, if_false, Int.neg_neg, Int.sub_zero, Int.add_zero, Int.zero_add, true_and, and_true, false_and, and_false, false_or, or_false, true_or, or_true, ne_eq, not_false_eq_true, not_true_eq_false]
    · rw [if_neg e] at sq
      rw [if_neg (by rintro (⟨_, h⟩ | ⟨h, _⟩ | ⟨h, _⟩) <;> first | exact e h | omega)]
      simp (disch := omega) only [b_X12_census_44, b_X12_census_131, b_X12_census_144, X12_in, sq, hq, ki_0, ki_1, ki_2, ki_3, ki_4, ki_5, ki_6, ki_7, ki_8, ki_9, ki_10, ki_11, ki_12, ki_13, ki_18, ki_20, ki_24, ki_32, ki_36, ki_45, ki_47, ki_48, ki_50, ki_57, ki_60, ki_63, ki_99, ki_100, ki_101, ki_120, ki_255, ki_468, ki_1000, ki_1024, ki_13849, ki_25173, ki_65535, ki_65536, ki_100000, ki_100001, ki_2147483647, ki_2147483648, kl_0, kl_1, kl_2, kl_9223372036854775808, ki_add, ki_sub, ki_mul, ki_neg, kl_add, kl_sub, kl_mul, kl_neg, ki_i2l, kl_l2i, ki_lt, ki_le, ki_eq, kcmp_eq, kcmp_lt, kcmp_le, kcmp_gt, kcmp_ge, Option.bind_some, Option.map_some, kbool0, kbool1, if_pos, if_neg, if_true, if_false, Int.neg_neg, Int.sub_zero, Int.add_zero, Int.zero_add, true_and, and_true, false_and, and_false, false_or, or_false, true_or, or_true, ne_eq, not_false_eq_true, not_true_eq_false]
  · clear sq m2 m3
    rw [show a + (s - a) = s by omega]
    generalize hq : a * (s - a) = q at *
    by_cases e : 0 ≤ s
    · by_cases e2 : 0 ≤ q - c
      · rw [if_pos (Or.inr (Or.inl ⟨rfl, e, e2⟩))]
        simp (disch := omega) only [b_X12_census_44, b_X12_census_131, b_X12_census_144, X12_in, hq, ki_0, ki_1, ki_2, ki_3, ki_4, ki_5, ki_6, ki_7, ki_8, ki_9, ki_10, ki_11, ki_12, ki_13, ki_18, ki_20, ki_24, ki_32, ki_36, ki_45, ki_47, ki_48, ki_50, ki_57, ki_60, ki_63, ki_99, ki_100, ki_101, ki_120, ki_255, ki_468, ki_1000, ki_1024, ki_13849, ki_25173, ki_65535, ki_65536, ki_100000, ki_100001, ki_2147483647, ki_2147483648, kl_0, kl_1, kl_2, kl_9223372036854775808, ki_add, ki_sub, ki_mul, ki_neg, kl_add, kl_sub, kl_mul, kl_neg, ki_i2l, kl_l2i, ki_lt, ki_le, ki_eq, kcmp_eq, kcmp_lt, kcmp_le, kcmp_gt, kcmp_ge, Option.bind_some, Option.map_some, kbool0, kbool1, if_pos, if_neg, if_true, if_false, Int.neg_neg, Int.sub_zero, Int.add_zero, Int.zero_add, true_and, and_true, false_and, and_false, false_or, or_false, true_or, or_true, ne_eq, not_false_eq_true, not_true_eq_false]
      · rw [if_neg (by omega)]
        simp (disch := omega) only [b_X12_census_44, b_X12_census_117, b_X12_census_131, b_X12_census_144, X12_in, hq, ki_0, ki_1, ki_2, ki_3, ki_4, ki_5, ki_6, ki_7, ki_8, ki_9, ki_10, ki_11, ki_12, ki_13, ki_18, ki_20, ki_24, ki_32, ki_36, ki_45, ki_47, ki_48, ki_50, ki_57, ki_60, ki_63, ki_99, ki_100, ki_101, ki_120, ki_255, ki_468, ki_1000, ki_1024, ki_13849, ki_25173, ki_65535, ki_65536, ki_100000, ki_100001, ki_2147483647, ki_2147483648, kl_0, kl_1, kl_2, kl_9223372036854775808, ki_add, ki_sub, ki_mul, ki_neg, kl_add, kl_sub, kl_mul, kl_neg, ki_i2l, kl_l2i, ki_lt, ki_le, ki_eq, kcmp_eq, kcmp_lt, kcmp_le, kcmp_gt, kcmp_ge, Option.bind_some, Option.map_some, kbool0, kbool1, if_pos, if_neg, if_true, if_false, Int.neg_neg, Int.sub_zero, Int.add_zero, Int.zero_add, true_and, and_true, false_and, and_false, false_or, or_false, true_or, or_true, ne_eq, not_false_eq_true, not_true_eq_false]
    · rw [if_neg (by omega)]
      simp (disch := omega) only [b_X12_census_44, b_X12_census_117, b_X12_census_131, b_X12_census_144, X12_in, hq, ki_0, ki_1, ki_2, ki_3, ki_4, ki_5, ki_6, ki_7, ki_8, ki_9, ki_10, ki_11, ki_12, ki_13, ki_18, ki_20, ki_24, ki_32, ki_36, ki_45, ki_47, ki_48, ki_50, ki_57, ki_60, ki_63, ki_99, ki_100, ki_101, ki_120, ki_255, ki_468, ki_1000, ki_1024, ki_13849, ki_25173, ki_65535, ki_65536, ki_100000, ki_100001, ki_2147483647, ki_2147483648, kl_0, kl_1, kl_2, kl_9223372036854775808, ki_add, ki_sub, ki_mul, ki_neg, kl_add, kl_sub, kl_mul, kl_neg, ki_i2l, kl_l2i, ki_lt, ki_le, ki_eq, kcmp_eq, kcmp_lt, kcmp_le, kcmp_gt, kcmp_ge, Option.bind_some, Option.map_some, kbool0, kbool1, if_pos, if_neg, if_true, if_false, Int.neg_neg, Int.sub_zero, Int.add_zero, Int.zero_add, true_and, and_true, false_and, and_false, false_or, or_false, true_or, or_true, ne_eq, not_false_eq_true, not_true_eq_false]
  · clear sq m2 m3
    generalize hq : a * (s - a) = q at *
    by_cases e : q - c = 0
    · rw [if_pos (Or.inr (Or.inr ⟨rfl, e⟩))]
      simp (disch := omega) only [b_X12_census_44, b_X12_census_131, b_X12_census_144, X12_in, hq, ki_0, ki_1, ki_2, ki_3, ki_4, ki_5, ki_6, ki_7, ki_8, ki_9, ki_10, ki_11, ki_12, ki_13, ki_18, ki_20, ki_24, ki_32, ki_36, ki_45, ki_47, ki_48, ki_50, ki_57, ki_60, ki_63, ki_99, ki_100, ki_101, ki_120, ki_255, ki_468, ki_1000, ki_1024, ki_13849, ki_25173, ki_65535, ki_65536, ki_100000, ki_100001, ki_2147483647, ki_2147483648, kl_0, kl_1, kl_2, kl_9223372036854775808, ki_add, ki_sub, ki_mul, ki_neg, kl_add, kl_sub, kl_mul, kl_neg, ki_i2l, kl_l2i, ki_lt, ki_le, ki_eq, kcmp_eq, kcmp_lt, kcmp_le, kcmp_gt, kcmp_ge, Option.bind_some, Option.map_some, kbool0, kbool1, if_pos, if_neg, if_true, if_false, Int.neg_neg, Int.sub_zero, Int.add_zero, Int.zero_add, true_and, and_true, false_and, and_false, false_or, or_false, true_or, or_true, ne_eq, not_false_eq_true, not_true_eq_false]
    · rw [if_neg (by omega)]
      simp (disch := omega) only [b_X12_census_44, b_X12_census_131, b_X12_census_144, X12_in, hq, ki_0, ki_1, ki_2, ki_3, ki_4, ki_5, ki_6, ki_7, ki_8, ki_9, ki_10, ki_11, ki_12, ki_13, ki_18, ki_20, ki_24, ki_32, ki_36, ki_45, ki_47, ki_48, ki_50, ki_57, ki_60, ki_63, ki_99, ki_100, ki_101, ki_120, ki_255, ki_468, ki_1000, ki_1024, ki_13849, ki_25173, ki_65535, ki_65536, ki_100000, ki_100001, ki_2147483647, ki_2147483648, kl_0, kl_1, kl_2, kl_9223372036854775808, ki_add, ki_sub, ki_mul, ki_neg, kl_add, kl_sub, kl_mul, kl_neg, ki_i2l, kl_l2i, ki_lt, ki_le, ki_eq, kcmp_eq, kcmp_lt, kcmp_le, kcmp_gt, kcmp_ge, Option.bind_some, Option.map_some, kbool0, kbool1, if_pos, if_neg, if_true, if_false, Int.neg_neg, Int.sub_zero, Int.add_zero, Int.zero_add, true_and, and_true, false_and, and_false, false_or, or_false, true_or, or_true, ne_eq, not_false_eq_true, not_true_eq_false]
def cenG (s w : Int) (a : Int) : Int := if -6 ≤ s - a ∧ s - a ≤ 6 then cnI (fun c => cenM a (s - a) c w) 36 else 0
theorem X12_census {Y : jY} {μ : jM} {s w : Int} (s1 : -12 ≤ s) (s2 : s ≤ 12) (w0 : 0 ≤ w) (w2 : w ≤ 2) : f_X12_census Y 95 (ki s) (ki w) μ = some (ki (cnO (cenG s w) 13), μ) := by
  have F : f_X12_census Y 95 (ki s) (ki w) μ = jit jF (fun (z : Int32 × Int32 × jM) => b_X12_census_28 Y (ki s) (ki w) z.1 z.2.1 z.2.2) ((0 : Int32), (-6 : Int32), μ) := by
    simp (disch := omega) only [f_X12_census, X12_in, ki_0, ki_1, ki_2, ki_3, ki_4, ki_5, ki_6, ki_7, ki_8, ki_9, ki_10, ki_11, ki_12, ki_13, ki_18, ki_20, ki_24, ki_32, ki_36, ki_45, ki_47, ki_48, ki_50, ki_57, ki_60, ki_63, ki_99, ki_100, ki_101, ki_120, ki_255, ki_468, ki_1000, ki_1024, ki_13849, ki_25173, ki_65535, ki_65536, ki_100000, ki_100001, ki_2147483647, ki_2147483648, kl_0, kl_1, kl_2, kl_9223372036854775808, ki_add, ki_sub, ki_mul, ki_neg, kl_add, kl_sub, kl_mul, kl_neg, ki_i2l, kl_l2i, ki_lt, ki_le, ki_eq, kcmp_eq, kcmp_lt, kcmp_le, kcmp_gt, kcmp_ge, Option.bind_some, Option.map_some, kbool0, kbool1, if_pos, if_neg, if_true, if_false, Int.neg_neg, Int.sub_zero, Int.add_zero, Int.zero_add, true_and, and_true, false_and, and_false, false_or, or_false, true_or, or_true, ne_eq, not_false_eq_true, not_true_eq_false]
  rw [F]
  refine jit_run (fun t => (ki (cnO (cenG s w) t), ki (-6 + t), μ)) _ 13 rfl (by omega) (fun t ht => ?_) ?_
  · have E : b_X12_census_28 Y (ki s) (ki w) (ki (cnO (cenG s w) t)) (ki (-6 + t)) μ = jit jF (fun (z : Int32 × Int32 × jM) => b_X12_census_44 Y (ki s) (ki w) z.1 (ki (-6 + t)) (ki (s - (-6 + t))) z.2.1 z.2.2) (ki (cnO (cenG s w) t), (1 : Int32), μ) := by
      simp (disch := omega) only [b_X12_census_28, ki_0, ki_1, ki_2, ki_3, ki_4, ki_5, ki_6, ki_7, ki_8, ki_9, ki_10, ki_11, ki_12, ki_13, ki_18, ki_20, ki_24, ki_32, ki_36, ki_45, ki_47, ki_48, ki_50, ki_57, ki_60, ki_63, ki_99, ki_100, ki_101, ki_120, ki_255, ki_468, ki_1000, ki_1024, ki_13849, ki_25173, ki_65535, ki_65536, ki_100000, ki_100001, ki_2147483647, ki_2147483648, kl_0, kl_1, kl_2, kl_9223372036854775808, ki_add, ki_sub, ki_mul, ki_neg, kl_add, kl_sub, kl_mul, kl_neg, ki_i2l, kl_l2i, ki_lt, ki_le, ki_eq, kcmp_eq, kcmp_lt, kcmp_le, kcmp_gt, kcmp_ge, Option.bind_some, Option.map_some, kbool0, kbool1, if_pos, if_neg, if_true, if_false, Int.neg_neg, Int.sub_zero, Int.add_zero, Int.zero_add, true_and, and_true, false_and, and_false, false_or, or_false, true_or, or_true, ne_eq, not_false_eq_true, not_true_eq_false]
    simp only [E]
    rw [cnO]
    generalize cnO (cenG s w) t = cnt
    unfold cenG
    by_cases hb : -6 ≤ s - (-6 + (t : Int)) ∧ s - (-6 + (t : Int)) ≤ 6
    · rw [if_pos hb]
      refine jit_run (fun j => (ki (cnt + cnI (fun c => cenM (-6 + t) (s - (-6 + t)) c w) j), ki ((j : Int) + 1), μ)) _ 36 (by rw [cnI, Int.add_zero]; rfl) (by omega) (fun j hj => ?_) ?_
      · have q := X12_cenM (Y := Y) (μ := μ) (s := s) (w := w) (cnt := cnt + cnI (fun c => cenM (-6 + t) (s - (-6 + t)) c w) j) (a := -6 + t) (c := (j : Int) + 1) s1 s2 w0 w2 (by omega) (by omega) hb.1 hb.2 (by omega) (by omega)
        simp only [q, cnI, Int.add_assoc, Int.natCast_add, Int.natCast_one]
      · generalize cnI (fun c => cenM (-6 + t) (s - (-6 + t)) c w) 36 = z
        simp (disch := omega) only [b_X12_census_44, b_X12_census_152, ki_0, ki_1, ki_2, ki_3, ki_4, ki_5, ki_6, ki_7, ki_8, ki_9, ki_10, ki_11, ki_12, ki_13, ki_18, ki_20, ki_24, ki_32, ki_36, ki_45, ki_47, ki_48, ki_50, ki_57, ki_60, ki_63, ki_99, ki_100, ki_101, ki_120, ki_255, ki_468, ki_1000, ki_1024, ki_13849, ki_25173, ki_65535, ki_65536, ki_100000, ki_100001, ki_2147483647, ki_2147483648, kl_0, kl_1, kl_2, kl_9223372036854775808, ki_add, ki_sub, ki_mul, ki_neg, kl_add, kl_sub, kl_mul, kl_neg, ki_i2l, kl_l2i, ki_lt, ki_le, ki_eq, kcmp_eq, kcmp_lt, kcmp_le, kcmp_gt, kcmp_ge, Option.bind_some, Option.map_some, kbool0, kbool1, if_pos, if_neg, if_true, if_false, Int.neg_neg, Int.sub_zero, Int.add_zero, Int.zero_add, true_and, and_true, false_and, and_false, false_or, or_false, true_or, or_true, ne_eq, not_false_eq_true, not_true_eq_false, Int.natCast_add, Int.natCast_one, Int.add_assoc]
    · rw [if_neg hb]
      refine jit_run (fun j => (ki (cnt + 0), ki ((j : Int) + 1), μ)) _ 0 (by rw [Int.add_zero]; rfl) (by omega) (fun j hj => by omega) ?_
      simp (disch := omega) only [b_X12_census_44, b_X12_census_152, X12_in, ki_0, ki_1, ki_2, ki_3, ki_4, ki_5, ki_6, ki_7, ki_8, ki_9, ki_10, ki_11, ki_12, ki_13, ki_18, ki_20, ki_24, ki_32, ki_36, ki_45, ki_47, ki_48, ki_50, ki_57, ki_60, ki_63, ki_99, ki_100, ki_101, ki_120, ki_255, ki_468, ki_1000, ki_1024, ki_13849, ki_25173, ki_65535, ki_65536, ki_100000, ki_100001, ki_2147483647, ki_2147483648, kl_0, kl_1, kl_2, kl_9223372036854775808, ki_add, ki_sub, ki_mul, ki_neg, kl_add, kl_sub, kl_mul, kl_neg, ki_i2l, kl_l2i, ki_lt, ki_le, ki_eq, kcmp_eq, kcmp_lt, kcmp_le, kcmp_gt, kcmp_ge, Option.bind_some, Option.map_some, kbool0, kbool1, if_pos, if_neg, if_true, if_false, Int.neg_neg, Int.sub_zero, Int.add_zero, Int.zero_add, true_and, and_true, false_and, and_false, false_or, or_false, true_or, or_true, ne_eq, not_false_eq_true, not_true_eq_false, Int.natCast_add, Int.natCast_one, Int.add_assoc]
  · generalize cnO (cenG s w) 13 = z
    simp (disch := omega) only [b_X12_census_28, ki_0, ki_1, ki_2, ki_3, ki_4, ki_5, ki_6, ki_7, ki_8, ki_9, ki_10, ki_11, ki_12, ki_13, ki_18, ki_20, ki_24, ki_32, ki_36, ki_45, ki_47, ki_48, ki_50, ki_57, ki_60, ki_63, ki_99, ki_100, ki_101, ki_120, ki_255, ki_468, ki_1000, ki_1024, ki_13849, ki_25173, ki_65535, ki_65536, ki_100000, ki_100001, ki_2147483647, ki_2147483648, kl_0, kl_1, kl_2, kl_9223372036854775808, ki_add, ki_sub, ki_mul, ki_neg, kl_add, kl_sub, kl_mul, kl_neg, ki_i2l, kl_l2i, ki_lt, ki_le, ki_eq, kcmp_eq, kcmp_lt, kcmp_le, kcmp_gt, kcmp_ge, Option.bind_some, Option.map_some, kbool0, kbool1, if_pos, if_neg, if_true, if_false, Int.neg_neg, Int.sub_zero, Int.add_zero, Int.zero_add, true_and, and_true, false_and, and_false, false_or, or_false, true_or, or_true, ne_eq, not_false_eq_true, not_true_eq_false]
theorem X11_census {L : Nat} {xs : Nat → Int32} {n : Nat} {Y : jY} {μ : jM} (h : Inv L xs n Y μ) {s w : Int} (s1 : -12 ≤ s) (s2 : s ≤ 12) (w0 : 0 ≤ w) (w2 : w ≤ 2) : ∃ ν, f_X11_census Y 1 (ki s) (ki w) μ = some (ki (cnO (cenG s w) 13), ν) ∧ kF 88 91 μ ν := by
  have hX := h.x
  have hT := hX.t88
  have B := X10_begin hT 2
  have kB := bgM_kF hT 2
  have gB := (bgM_gi (μ := μ) (o := 88) (n := 2) (by omega) (by omega)).1
  have F : f_X11_census Y 1 (ki s) (ki w) μ = jit jF (fun (z : Int32 × Int32 × jM) => b_X11_census_36 Y 1 (ki s) (ki w) z.1 z.2.1 z.2.2) ((0 : Int32), (-6 : Int32), bgM μ 88 2) := by
    simp (disch := omega) only [f_X11_census, X11_within, kX.o1_10 hX, krcv hT.y, B, ki_0, ki_1, ki_2, ki_3, ki_4, ki_5, ki_6, ki_7, ki_8, ki_9, ki_10, ki_11, ki_12, ki_13, ki_18, ki_20, ki_24, ki_32, ki_36, ki_45, ki_47, ki_48, ki_50, ki_57, ki_60, ki_63, ki_99, ki_100, ki_101, ki_120, ki_255, ki_468, ki_1000, ki_1024, ki_13849, ki_25173, ki_65535, ki_65536, ki_100000, ki_100001, ki_2147483647, ki_2147483648, kl_0, kl_1, kl_2, kl_9223372036854775808, ki_add, ki_sub, ki_mul, ki_neg, kl_add, kl_sub, kl_mul, kl_neg, ki_i2l, kl_l2i, ki_lt, ki_le, ki_eq, kcmp_eq, kcmp_lt, kcmp_le, kcmp_gt, kcmp_ge, Option.bind_some, Option.map_some, kbool0, kbool1, if_pos, if_neg, if_true, if_false, Int.neg_neg, Int.sub_zero, Int.add_zero, Int.zero_add, true_and, and_true, false_and, and_false, false_or, or_false, true_or, or_true, ne_eq, not_false_eq_true, not_true_eq_false]
  rw [F]
  generalize bgM μ 88 2 = ξ at *
  obtain ⟨r, e, ν, rfl, hν⟩ := jit_inv (f := fun (z : Int32 × Int32 × jM) => b_X11_census_36 Y 1 (ki s) (ki w) z.1 z.2.1 z.2.2) (fun t z => z.1 = ki (cnO (cenG s w) t) ∧ z.2.1 = ki (-6 + t) ∧ kF 88 91 μ z.2.2 ∧ gi z.2.2 88 0 = 2) (fun r => ∃ ν, r = (ki (cnO (cenG s w) 13), ν) ∧ kF 88 91 μ ν) 13 (s := ((0 : Int32), (-6 : Int32), ξ)) ⟨rfl, rfl, kB, gB⟩ (by omega) (fun t z ht hz => by
    obtain ⟨u, v, η⟩ := z
    obtain ⟨rfl, rfl, z1, z2⟩ := hz
    simp only [] at z1 z2
    have hX1 := hX.to z1
    have hT1 := hX1.t88
    by_cases e : t = 13
    · subst e
      refine ⟨.inr (ki (cnO (cenG s w) 13), η), ?_, η, rfl, z1⟩
      generalize cnO (cenG s w) 13 = zz
      simp (disch := omega) only [b_X11_census_36, ki_0, ki_1, ki_2, ki_3, ki_4, ki_5, ki_6, ki_7, ki_8, ki_9, ki_10, ki_11, ki_12, ki_13, ki_18, ki_20, ki_24, ki_32, ki_36, ki_45, ki_47, ki_48, ki_50, ki_57, ki_60, ki_63, ki_99, ki_100, ki_101, ki_120, ki_255, ki_468, ki_1000, ki_1024, ki_13849, ki_25173, ki_65535, ki_65536, ki_100000, ki_100001, ki_2147483647, ki_2147483648, kl_0, kl_1, kl_2, kl_9223372036854775808, ki_add, ki_sub, ki_mul, ki_neg, kl_add, kl_sub, kl_mul, kl_neg, ki_i2l, kl_l2i, ki_lt, ki_le, ki_eq, kcmp_eq, kcmp_lt, kcmp_le, kcmp_gt, kcmp_ge, Option.bind_some, Option.map_some, kbool0, kbool1, if_pos, if_neg, if_true, if_false, Int.neg_neg, Int.sub_zero, Int.add_zero, Int.zero_add, true_and, and_true, false_and, and_false, false_or, or_false, true_or, or_true, ne_eq, not_false_eq_true, not_true_eq_false]
    · have cb := X10_canBe (Y := Y) (μ := η) (b := 1) (v := s - (-6 + t)) (by omega) (by omega) (Or.inr rfl)
      have cS : cnO (cenG s w) (t + 1) = cnO (cenG s w) t + cenG s w (-6 + t) := rfl
      generalize cnO (cenG s w) (t + 1) = c1 at *
      generalize cnO (cenG s w) t = cnt at *
      by_cases hb : -6 ≤ s - (-6 + (t : Int)) ∧ s - (-6 + (t : Int)) ≤ 6
      · rw [if_pos (Or.inr ⟨rfl, hb⟩)] at cb
        have k1 : kF 88 91 η (jw η 89 (0 : Int).toNat (.int (ki (-6 + t)))) := kF_I (hT1.aa.2.2.2 _ (by omega)) (by omega) (by omega)
        have wr1 : jas Y η 89 20 (ki 0) (.int (ki (-6 + t))) = some (jw η 89 (0 : Int).toNat (.int (ki (-6 + t)))) := kasI hT1.aa (x := 0) (by omega) (by omega)
        have ga1 : jgO Y η 88 10 1 = some 89 := hT1.ga
        have g1 : gi (jw η 89 (0 : Int).toNat (.int (ki (-6 + t)))) 89 0 = -6 + t := gi_is (j := 0) (jw_same _ _ _ _) (by omega) (by omega)
        have n1 : gi (jw η 89 (0 : Int).toNat (.int (ki (-6 + t)))) 88 0 = 2 := by rw [gi_cell (jw_cell (by omega))]; exact z2
        generalize jw η 89 (0 : Int).toNat (.int (ki (-6 + t))) = η1 at *
        have hX2 := hX1.to k1
        have hT2 := hX2.t88
        have k2 : kF 88 91 η1 (jw η1 89 (1 : Int).toNat (.int (ki (s - (-6 + t))))) := kF_I (hT2.aa.2.2.2 _ (by omega)) (by omega) (by omega)
        have wr2 : jas Y η1 89 20 (ki 1) (.int (ki (s - (-6 + t)))) = some (jw η1 89 (1 : Int).toNat (.int (ki (s - (-6 + t))))) := kasI hT2.aa (x := 1) (by omega) (by omega)
        have ga2 : jgO Y η1 88 10 1 = some 89 := hT2.ga
        have g2 : gi (jw η1 89 (1 : Int).toNat (.int (ki (s - (-6 + t))))) 89 1 = s - (-6 + t) := gi_is (j := 1) (jw_same _ _ _ _) (by omega) (by omega)
        have g3 : gi (jw η1 89 (1 : Int).toNat (.int (ki (s - (-6 + t))))) 89 0 = -6 + t := by
          unfold gi at g1 ⊢
          rw [jw_ne _ _ (by omega)]
          exact g1
        have n2 : gi (jw η1 89 (1 : Int).toNat (.int (ki (s - (-6 + t))))) 88 0 = 2 := by rw [gi_cell (jw_cell (by omega))]; exact n1
        generalize jw η1 89 (1 : Int).toNat (.int (ki (s - (-6 + t)))) = η2 at *
        have kz := (z1.trans k1).trans k2
        obtain ⟨r2, f1, ω, rfl, f2, f3⟩ := jit_inv (f := fun (z : Int32 × Int32 × jM) => b_X11_census_84 Y 1 (ki s) (ki w) z.1 (ki (-6 + t)) z.2.1 z.2.2) (fun j z => z.1 = ki (cnt + cnI (fun c => cenM (-6 + t) (s - (-6 + t)) c w) j) ∧ z.2.1 = ki ((j : Int) + 1) ∧ kF 88 91 μ z.2.2 ∧ gi z.2.2 88 0 = 2 ∧ gi z.2.2 89 0 = -6 + t ∧ gi z.2.2 89 1 = s - (-6 + t)) (fun r => ∃ ω, r = .inl (ki c1, ki (-6 + t + 1), ω) ∧ kF 88 91 μ ω ∧ gi ω 88 0 = 2) 36 (s := (ki cnt, (1 : Int32), η2)) ⟨by rw [cnI, Int.add_zero], rfl, kz, n2, g3, g2⟩ (by omega) (fun j z hj hz => by
          obtain ⟨u, v, ζ⟩ := z
          obtain ⟨rfl, rfl, y1, y2, y3, y4⟩ := hz
          simp only [] at y1 y2 y3 y4
          have hX3 := hX.to y1
          have hT3 := hX3.t88
          by_cases ej : j = 36
          · subst ej
            refine ⟨.inr (.inl (ki c1, ki (-6 + t + 1), ζ)), ?_, ζ, rfl, y1, y2⟩
            have : cenG s w (-6 + t) = cnI (fun c => cenM (-6 + t) (s - (-6 + t)) c w) 36 := if_pos hb
            rw [cS, this]
            generalize cnI (fun c => cenM (-6 + t) (s - (-6 + t)) c w) 36 = zz
            simp (disch := omega) only [b_X11_census_84, b_X11_census_132, ki_0, ki_1, ki_2, ki_3, ki_4, ki_5, ki_6, ki_7, ki_8, ki_9, ki_10, ki_11, ki_12, ki_13, ki_18, ki_20, ki_24, ki_32, ki_36, ki_45, ki_47, ki_48, ki_50, ki_57, ki_60, ki_63, ki_99, ki_100, ki_101, ki_120, ki_255, ki_468, ki_1000, ki_1024, ki_13849, ki_25173, ki_65535, ki_65536, ki_100000, ki_100001, ki_2147483647, ki_2147483648, kl_0, kl_1, kl_2, kl_9223372036854775808, ki_add, ki_sub, ki_mul, ki_neg, kl_add, kl_sub, kl_mul, kl_neg, ki_i2l, kl_l2i, ki_lt, ki_le, ki_eq, kcmp_eq, kcmp_lt, kcmp_le, kcmp_gt, kcmp_ge, Option.bind_some, Option.map_some, kbool0, kbool1, if_pos, if_neg, if_true, if_false, Int.neg_neg, Int.sub_zero, Int.add_zero, Int.zero_add, true_and, and_true, false_and, and_false, false_or, or_false, true_or, or_true, ne_eq, not_false_eq_true, not_true_eq_false]
          · have k3 : kF 88 91 ζ (jw ζ 90 (0 : Int).toNat (.int (ki ((j : Int) + 1)))) := kF_I (hT3.ac.2.2.2 _ (by omega)) (by omega) (by omega)
            have wr3 : jas Y ζ 90 20 (ki 0) (.int (ki ((j : Int) + 1))) = some (jw ζ 90 (0 : Int).toNat (.int (ki ((j : Int) + 1)))) := kasI hT3.ac (x := 0) (by omega) (by omega)
            have ga3 : jgO Y ζ 88 10 2 = some 90 := hT3.gc
            have g4 : gi (jw ζ 90 (0 : Int).toNat (.int (ki ((j : Int) + 1)))) 90 0 = (j : Int) + 1 := gi_is (j := 0) (jw_same _ _ _ _) (by omega) (by omega)
            have n4 : ∀ x y, x ≠ 90 → gi (jw ζ 90 (0 : Int).toNat (.int (ki ((j : Int) + 1)))) x y = gi ζ x y := fun x y hx => gi_cell (jw_cell hx) y
            generalize jw ζ 90 (0 : Int).toNat (.int (ki ((j : Int) + 1))) = ζ1 at *
            have hX4 := hX3.to k3
            have hT4 := hX4.t88
            have m0 := n4 88 0 (by omega)
            have m1 := n4 89 0 (by omega)
            have m2 := n4 89 1 (by omega)
            rw [y2] at m0
            rw [y3] at m1
            rw [y4] at m2
            have hB4 : kTb ζ1 88 := by
              refine ⟨by omega, by omega, fun x x0 x1 => ?_, fun x x0 x1 => ?_⟩
              · rw [m0] at x1
                have : x = 0 ∨ x = 1 := by omega
                rcases this with rfl | rfl
                · show -6 ≤ gi ζ1 89 0 ∧ gi ζ1 89 0 ≤ 6
                  omega
                · show -6 ≤ gi ζ1 89 1 ∧ gi ζ1 89 1 ≤ 6
                  omega
              · rw [m0] at x1
                have : x = 0 := by omega
                subst this
                show 1 ≤ gi ζ1 90 0 ∧ gi ζ1 90 0 ≤ 36
                omega
            have Mt := fun (u : Int) (u0 : 0 ≤ u) (u2 : u ≤ 2) => X10_meets hT4 hB4 (w := u) u0 u2
            have ee : ∀ u, rvM (gi ζ1 (88 + 1)) (gi ζ1 (88 + 2)) (gi ζ1 88 0) u = rvM (qA (-6 + t) (s - (-6 + t))) (fun _ => (j : Int) + 1) 2 u := by
              intro u
              rw [m0]
              refine rvM_congr (by omega) (fun x x0 x1 => ?_) (fun x x0 x1 => ?_)
              · have : x = 0 ∨ x = 1 := by omega
                rcases this with rfl | rfl
                · exact m1
                · exact m2
              · have : x = 0 := by omega
                subst this
                exact g4
            have Mt2 : f_X10_meets Y 88 (ki (if w = 0 then 0 else 3 - w)) ζ1 = some (ki (cenM (-6 + t) (s - (-6 + t)) ((j : Int) + 1) w), ζ1) := by
              rw [← cen_is (a := -6 + t) (b := s - (-6 + t)) (c := (j : Int) + 1) (w := w) (by omega) (by omega) hb.1 hb.2 (by omega) (by omega) w0 w2, ← ee]
              exact Mt _ (by split <;> omega) (by split <;> omega)
            have two : cenM (-6 + t) (s - (-6 + t)) ((j : Int) + 1) w = 0 ∨ cenM (-6 + t) (s - (-6 + t)) ((j : Int) + 1) w = 1 := by
              unfold cenM
              split <;> omega
            have cI : cnI (fun c => cenM (-6 + t) (s - (-6 + t)) c w) (j + 1) = cnI (fun c => cenM (-6 + t) (s - (-6 + t)) c w) j + cenM (-6 + t) (s - (-6 + t)) ((j : Int) + 1) w := rfl
            clear Mt ee
            generalize cnI (fun c => cenM (-6 + t) (s - (-6 + t)) c w) (j + 1) = d1 at *
            generalize cnI (fun c => cenM (-6 + t) (s - (-6 + t)) c w) j = d at *
            generalize cenM (-6 + t) (s - (-6 + t)) ((j : Int) + 1) w = q at *
            refine ⟨.inl (ki (cnt + d1), ki (((j + 1 : Nat) : Int) + 1), ζ1), ?_, by omega, rfl, rfl, y1.trans k3, m0, m1, m2⟩
            rw [cI]
            have : w = 0 ∨ w = 1 ∨ w = 2 := by omega
            rcases two with rfl | rfl <;> rcases this with rfl | rfl | rfl
            · rw [if_pos rfl] at Mt2
              simp (disch := omega) only [b_X11_census_84, b_X11_census_117, b_X11_census_126, kX.o1_10 hX3, kX.o1_10 hX4, ga3, wr3, krcv hT4.y, Mt2, ki_0, ki_1, ki_2, ki_3, ki_4, ki_5, ki_6, ki_7, ki_8, ki_9, ki_10, ki_11, ki_12, ki_13, ki_18, ki_20, ki_24, ki_32, ki_36, ki_45, ki_47, ki_48, ki_50, ki_57, ki_60, ki_63, ki_99, ki_100, ki_101, ki_120, ki_255, ki_468, ki_1000, ki_1024, ki_13849, ki_25173, ki_65535, ki_65536, ki_100000, ki_100001, ki_2147483647, ki_2147483648, kl_0, kl_1, kl_2, kl_9223372036854775808, ki_add, ki_sub, ki_mul, ki_neg, kl_add, kl_sub, kl_mul, kl_neg, ki_i2l, kl_l2i, ki_lt, ki_le, ki_eq, kcmp_eq, kcmp_lt, kcmp_le, kcmp_gt, kcmp_ge, Option.bind_some, Option.map_some, kbool0, kbool1, if_pos, if_neg, if_true, if_false, Int.neg_neg, Int.sub_zero, Int.add_zero, Int.zero_add, true_and, and_true, false_and, and_false, false_or, or_false, true_or, or_true, ne_eq, not_false_eq_true, not_true_eq_false, Int.natCast_add, Int.natCast_one, Int.add_assoc]
            · rw [if_neg (by omega)] at Mt2
              simp (disch := omega) only [b_X11_census_84, b_X11_census_117, b_X11_census_126, kX.o1_10 hX3, kX.o1_10 hX4, ga3, wr3, krcv hT4.y, Mt2, ki_0, ki_1, ki_2, ki_3, ki_4, ki_5, ki_6, ki_7, ki_8, ki_9, ki_10, ki_11, ki_12, ki_13, ki_18, ki_20, ki_24, ki_32, ki_36, ki_45, ki_47, ki_48, ki_50, ki_57, ki_60, ki_63, ki_99, ki_100, ki_101, ki_120, ki_255, ki_468, ki_1000, ki_1024, ki_13849, ki_25173, ki_65535, ki_65536, ki_100000, ki_100001, ki_2147483647, ki_2147483648, kl_0, kl_1, kl_2, kl_9223372036854775808, ki_add, ki_sub, ki_mul, ki_neg, kl_add, kl_sub, kl_mul, kl_neg, ki_i2l, kl_l2i, ki_lt, ki_le, ki_eq, kcmp_eq, kcmp_lt, kcmp_le, kcmp_gt, kcmp_ge, Option.bind_some, Option.map_some, kbool0, kbool1, if_pos, if_neg, if_true, if_false, Int.neg_neg, Int.sub_zero, Int.add_zero, Int.zero_add, true_and, and_true, false_and, and_false, false_or, or_false, true_or, or_true, ne_eq, not_false_eq_true, not_true_eq_false, Int.natCast_add, Int.natCast_one, Int.add_assoc]
            · rw [if_neg (by omega)] at Mt2
              simp (disch := omega) only [b_X11_census_84, b_X11_census_117, b_X11_census_126, kX.o1_10 hX3, kX.o1_10 hX4, ga3, wr3, krcv hT4.y, Mt2, ki_0, ki_1, ki_2, ki_3, ki_4, ki_5, ki_6, ki_7, ki_8, ki_9, ki_10, ki_11, ki_12, ki_13, ki_18, ki_20, ki_24, ki_32, ki_36, ki_45, ki_47, ki_48, ki_50, ki_57, ki_60, ki_63, ki_99, ki_100, ki_101, ki_120, ki_255, ki_468, ki_1000, ki_1024, ki_13849, ki_25173, ki_65535, ki_65536, ki_100000, ki_100001, ki_2147483647, ki_2147483648, kl_0, kl_1, kl_2, kl_9223372036854775808, ki_add, ki_sub, ki_mul, ki_neg, kl_add, kl_sub, kl_mul, kl_neg, ki_i2l, kl_l2i, ki_lt, ki_le, ki_eq, kcmp_eq, kcmp_lt, kcmp_le, kcmp_gt, kcmp_ge, Option.bind_some, Option.map_some, kbool0, kbool1, if_pos, if_neg, if_true, if_false, Int.neg_neg, Int.sub_zero, Int.add_zero, Int.zero_add, true_and, and_true, false_and, and_false, false_or, or_false, true_or, or_true, ne_eq, not_false_eq_true, not_true_eq_false, Int.natCast_add, Int.natCast_one, Int.add_assoc]
            · rw [if_pos rfl] at Mt2
              simp (disch := omega) only [b_X11_census_84, b_X11_census_117, b_X11_census_126, kX.o1_10 hX3, kX.o1_10 hX4, ga3, wr3, krcv hT4.y, Mt2, ki_0, ki_1, ki_2, ki_3, ki_4, ki_5, ki_6, ki_7, ki_8, ki_9, ki_10, ki_11, ki_12, ki_13, ki_18, ki_20, ki_24, ki_32, ki_36, ki_45, ki_47, ki_48, ki_50, ki_57, ki_60, ki_63, ki_99, ki_100, ki_101, ki_120, ki_255, ki_468, ki_1000, ki_1024, ki_13849, ki_25173, ki_65535, ki_65536, ki_100000, ki_100001, ki_2147483647, ki_2147483648, kl_0, kl_1, kl_2, kl_9223372036854775808, ki_add, ki_sub, ki_mul, ki_neg, kl_add, kl_sub, kl_mul, kl_neg, ki_i2l, kl_l2i, ki_lt, ki_le, ki_eq, kcmp_eq, kcmp_lt, kcmp_le, kcmp_gt, kcmp_ge, Option.bind_some, Option.map_some, kbool0, kbool1, if_pos, if_neg, if_true, if_false, Int.neg_neg, Int.sub_zero, Int.add_zero, Int.zero_add, true_and, and_true, false_and, and_false, false_or, or_false, true_or, or_true, ne_eq, not_false_eq_true, not_true_eq_false, Int.natCast_add, Int.natCast_one, Int.add_assoc]
            · rw [if_neg (by omega)] at Mt2
              simp (disch := omega) only [b_X11_census_84, b_X11_census_117, b_X11_census_126, kX.o1_10 hX3, kX.o1_10 hX4, ga3, wr3, krcv hT4.y, Mt2, ki_0, ki_1, ki_2, ki_3, ki_4, ki_5, ki_6, ki_7, ki_8, ki_9, ki_10, ki_11, ki_12, ki_13, ki_18, ki_20, ki_24, ki_32, ki_36, ki_45, ki_47, ki_48, ki_50, ki_57, ki_60, ki_63, ki_99, ki_100, ki_101, ki_120, ki_255, ki_468, ki_1000, ki_1024, ki_13849, ki_25173, ki_65535, ki_65536, ki_100000, ki_100001, ki_2147483647, ki_2147483648, kl_0, kl_1, kl_2, kl_9223372036854775808, ki_add, ki_sub, ki_mul, ki_neg, kl_add, kl_sub, kl_mul, kl_neg, ki_i2l, kl_l2i, ki_lt, ki_le, ki_eq, kcmp_eq, kcmp_lt, kcmp_le, kcmp_gt, kcmp_ge, Option.bind_some, Option.map_some, kbool0, kbool1, if_pos, if_neg, if_true, if_false, Int.neg_neg, Int.sub_zero, Int.add_zero, Int.zero_add, true_and, and_true, false_and, and_false, false_or, or_false, true_or, or_true, ne_eq, not_false_eq_true, not_true_eq_false, Int.natCast_add, Int.natCast_one, Int.add_assoc]
            · rw [if_neg (by omega)] at Mt2
              simp (disch := omega) only [b_X11_census_84, b_X11_census_117, b_X11_census_126, kX.o1_10 hX3, kX.o1_10 hX4, ga3, wr3, krcv hT4.y, Mt2, ki_0, ki_1, ki_2, ki_3, ki_4, ki_5, ki_6, ki_7, ki_8, ki_9, ki_10, ki_11, ki_12, ki_13, ki_18, ki_20, ki_24, ki_32, ki_36, ki_45, ki_47, ki_48, ki_50, ki_57, ki_60, ki_63, ki_99, ki_100, ki_101, ki_120, ki_255, ki_468, ki_1000, ki_1024, ki_13849, ki_25173, ki_65535, ki_65536, ki_100000, ki_100001, ki_2147483647, ki_2147483648, kl_0, kl_1, kl_2, kl_9223372036854775808, ki_add, ki_sub, ki_mul, ki_neg, kl_add, kl_sub, kl_mul, kl_neg, ki_i2l, kl_l2i, ki_lt, ki_le, ki_eq, kcmp_eq, kcmp_lt, kcmp_le, kcmp_gt, kcmp_ge, Option.bind_some, Option.map_some, kbool0, kbool1, if_pos, if_neg, if_true, if_false, Int.neg_neg, Int.sub_zero, Int.add_zero, Int.zero_add, true_and, and_true, false_and, and_false, false_or, or_false, true_or, or_true, ne_eq, not_false_eq_true, not_true_eq_false, Int.natCast_add, Int.natCast_one, Int.add_assoc])
        refine ⟨.inl (ki c1, ki (-6 + t + 1), ω), ?_, by omega, rfl, by rw [Int.natCast_add, Int.natCast_one, Int.add_assoc], f2, f3⟩
        have E : b_X11_census_36 Y 1 (ki s) (ki w) (ki cnt) (ki (-6 + t)) η = jit jF (fun (z : Int32 × Int32 × jM) => b_X11_census_84 Y 1 (ki s) (ki w) z.1 (ki (-6 + t)) z.2.1 z.2.2) (ki cnt, (1 : Int32), η2) := by
          simp (disch := omega) only [b_X11_census_36, cb, kX.o1_10 hX1, kX.o1_10 hX2, ga1, ga2, wr1, wr2, ki_0, ki_1, ki_2, ki_3, ki_4, ki_5, ki_6, ki_7, ki_8, ki_9, ki_10, ki_11, ki_12, ki_13, ki_18, ki_20, ki_24, ki_32, ki_36, ki_45, ki_47, ki_48, ki_50, ki_57, ki_60, ki_63, ki_99, ki_100, ki_101, ki_120, ki_255, ki_468, ki_1000, ki_1024, ki_13849, ki_25173, ki_65535, ki_65536, ki_100000, ki_100001, ki_2147483647, ki_2147483648, kl_0, kl_1, kl_2, kl_9223372036854775808, ki_add, ki_sub, ki_mul, ki_neg, kl_add, kl_sub, kl_mul, kl_neg, ki_i2l, kl_l2i, ki_lt, ki_le, ki_eq, kcmp_eq, kcmp_lt, kcmp_le, kcmp_gt, kcmp_ge, Option.bind_some, Option.map_some, kbool0, kbool1, if_pos, if_neg, if_true, if_false, Int.neg_neg, Int.sub_zero, Int.add_zero, Int.zero_add, true_and, and_true, false_and, and_false, false_or, or_false, true_or, or_true, ne_eq, not_false_eq_true, not_true_eq_false]
        simp only [E, f1]
      · rw [if_neg (by rintro (⟨h1, _⟩ | ⟨_, h1⟩) <;> first | omega | exact hb h1)] at cb
        refine ⟨.inl (ki c1, ki (-6 + t + 1), η), ?_, by omega, rfl, by rw [Int.natCast_add, Int.natCast_one, Int.add_assoc], z1, z2⟩
        have : cenG s w (-6 + t) = 0 := if_neg hb
        rw [cS, this, Int.add_zero]
        simp (disch := omega) only [b_X11_census_36, b_X11_census_132, cb, ki_0, ki_1, ki_2, ki_3, ki_4, ki_5, ki_6, ki_7, ki_8, ki_9, ki_10, ki_11, ki_12, ki_13, ki_18, ki_20, ki_24, ki_32, ki_36, ki_45, ki_47, ki_48, ki_50, ki_57, ki_60, ki_63, ki_99, ki_100, ki_101, ki_120, ki_255, ki_468, ki_1000, ki_1024, ki_13849, ki_25173, ki_65535, ki_65536, ki_100000, ki_100001, ki_2147483647, ki_2147483648, kl_0, kl_1, kl_2, kl_9223372036854775808, ki_add, ki_sub, ki_mul, ki_neg, kl_add, kl_sub, kl_mul, kl_neg, ki_i2l, kl_l2i, ki_lt, ki_le, ki_eq, kcmp_eq, kcmp_lt, kcmp_le, kcmp_gt, kcmp_ge, Option.bind_some, Option.map_some, kbool0, kbool1, if_pos, if_neg, if_true, if_false, Int.neg_neg, Int.sub_zero, Int.add_zero, Int.zero_add, true_and, and_true, false_and, and_false, false_or, or_false, true_or, or_true, ne_eq, not_false_eq_true, not_true_eq_false])
  exact ⟨ν, e, hν⟩
theorem ok_census {L : Nat} {xs : Nat → Int32} {n : Nat} {Y : jY} {μ : jM} (h : Inv L xs n Y μ) : so_census (Inv L xs) n Y μ := by
  have hX := h.x
  have hM := h.m
  intro a1 a2
  obtain ⟨s, s1, s2, rfl⟩ := ki_is a1
  obtain ⟨w, w1, w2, rfl⟩ := ki_is a2
  by_cases hs : -12 ≤ s ∧ s ≤ 12
  · by_cases hw : 0 ≤ w ∧ w ≤ 2
    · obtain ⟨ν, c1, kf⟩ := X11_census h hs.1 hs.2 hw.1 hw.2
      exact ⟨(_, ν), (_, ν), c1, fun j => congrFun (kf.1 0 (by omega)) j, X12_census hs.1 hs.2 hw.1 hw.2, rfl, h.to (kP.of_rows (kf.mono (by omega) (by omega)))⟩
    · refine ⟨(ki (-1), μ), (ki (-1), μ), ?_, fun _ => rfl, ?_, rfl, h⟩
      · simp (disch := omega) only [f_X11_census, b_X11_census_20, X11_within, ki_0, ki_1, ki_2, ki_3, ki_4, ki_5, ki_6, ki_7, ki_8, ki_9, ki_10, ki_11, ki_12, ki_13, ki_18, ki_20, ki_24, ki_32, ki_36, ki_45, ki_47, ki_48, ki_50, ki_57, ki_60, ki_63, ki_99, ki_100, ki_101, ki_120, ki_255, ki_468, ki_1000, ki_1024, ki_13849, ki_25173, ki_65535, ki_65536, ki_100000, ki_100001, ki_2147483647, ki_2147483648, kl_0, kl_1, kl_2, kl_9223372036854775808, ki_add, ki_sub, ki_mul, ki_neg, kl_add, kl_sub, kl_mul, kl_neg, ki_i2l, kl_l2i, ki_lt, ki_le, ki_eq, kcmp_eq, kcmp_lt, kcmp_le, kcmp_gt, kcmp_ge, Option.bind_some, Option.map_some, kbool0, kbool1, if_pos, if_neg, if_true, if_false, Int.neg_neg, Int.sub_zero, Int.add_zero, Int.zero_add, true_and, and_true, false_and, and_false, false_or, or_false, true_or, or_true, ne_eq, not_false_eq_true, not_true_eq_false]
      · simp (disch := omega) only [f_X12_census, b_X12_census_20, X12_in, ki_0, ki_1, ki_2, ki_3, ki_4, ki_5, ki_6, ki_7, ki_8, ki_9, ki_10, ki_11, ki_12, ki_13, ki_18, ki_20, ki_24, ki_32, ki_36, ki_45, ki_47, ki_48, ki_50, ki_57, ki_60, ki_63, ki_99, ki_100, ki_101, ki_120, ki_255, ki_468, ki_1000, ki_1024, ki_13849, ki_25173, ki_65535, ki_65536, ki_100000, ki_100001, ki_2147483647, ki_2147483648, kl_0, kl_1, kl_2, kl_9223372036854775808, ki_add, ki_sub, ki_mul, ki_neg, kl_add, kl_sub, kl_mul, kl_neg, ki_i2l, kl_l2i, ki_lt, ki_le, ki_eq, kcmp_eq, kcmp_lt, kcmp_le, kcmp_gt, kcmp_ge, Option.bind_some, Option.map_some, kbool0, kbool1, if_pos, if_neg, if_true, if_false, Int.neg_neg, Int.sub_zero, Int.add_zero, Int.zero_add, true_and, and_true, false_and, and_false, false_or, or_false, true_or, or_true, ne_eq, not_false_eq_true, not_true_eq_false]
  · refine ⟨(ki (-1), μ), (ki (-1), μ), ?_, fun _ => rfl, ?_, rfl, h⟩
    · simp (disch := omega) only [f_X11_census, b_X11_census_20, X11_within, ki_0, ki_1, ki_2, ki_3, ki_4, ki_5, ki_6, ki_7, ki_8, ki_9, ki_10, ki_11, ki_12, ki_13, ki_18, ki_20, ki_24, ki_32, ki_36, ki_45, ki_47, ki_48, ki_50, ki_57, ki_60, ki_63, ki_99, ki_100, ki_101, ki_120, ki_255, ki_468, ki_1000, ki_1024, ki_13849, ki_25173, ki_65535, ki_65536, ki_100000, ki_100001, ki_2147483647, ki_2147483648, kl_0, kl_1, kl_2, kl_9223372036854775808, ki_add, ki_sub, ki_mul, ki_neg, kl_add, kl_sub, kl_mul, kl_neg, ki_i2l, kl_l2i, ki_lt, ki_le, ki_eq, kcmp_eq, kcmp_lt, kcmp_le, kcmp_gt, kcmp_ge, Option.bind_some, Option.map_some, kbool0, kbool1, if_pos, if_neg, if_true, if_false, Int.neg_neg, Int.sub_zero, Int.add_zero, Int.zero_add, true_and, and_true, false_and, and_false, false_or, or_false, true_or, or_true, ne_eq, not_false_eq_true, not_true_eq_false]
    · simp (disch := omega) only [f_X12_census, b_X12_census_20, X12_in, ki_0, ki_1, ki_2, ki_3, ki_4, ki_5, ki_6, ki_7, ki_8, ki_9, ki_10, ki_11, ki_12, ki_13, ki_18, ki_20, ki_24, ki_32, ki_36, ki_45, ki_47, ki_48, ki_50, ki_57, ki_60, ki_63, ki_99, ki_100, ki_101, ki_120, ki_255, ki_468, ki_1000, ki_1024, ki_13849, ki_25173, ki_65535, ki_65536, ki_100000, ki_100001, ki_2147483647, ki_2147483648, kl_0, kl_1, kl_2, kl_9223372036854775808, ki_add, ki_sub, ki_mul, ki_neg, kl_add, kl_sub, kl_mul, kl_neg, ki_i2l, kl_l2i, ki_lt, ki_le, ki_eq, kcmp_eq, kcmp_lt, kcmp_le, kcmp_gt, kcmp_ge, Option.bind_some, Option.map_some, kbool0, kbool1, if_pos, if_neg, if_true, if_false, Int.neg_neg, Int.sub_zero, Int.add_zero, Int.zero_add, true_and, and_true, false_and, and_false, false_or, or_false, true_or, or_true, ne_eq, not_false_eq_true, not_true_eq_false]
