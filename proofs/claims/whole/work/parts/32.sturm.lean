/-! SIGNS: how many of them stay rises with the place -/
def sg (A C : Int → Int) (p q fr : Int) (k : Nat) : Int := 2 * (rb A C p q fr k).2 - 1
def su (A C : Int → Int) (p q fr : Int) (k : Nat) : Int := sg A C p q fr k * (pv A C p q fr (k + 1)).2
def sw (A C : Int → Int) (p q fr : Int) (k : Nat) : Int := sg A C p q fr k * (pv A C p q fr k).2
theorem sg_two (A C : Int → Int) (p q fr : Int) (k : Nat) : ((rb A C p q fr k).2 = 1 ∧ sg A C p q fr k = 1) ∨ ((rb A C p q fr k).2 = 0 ∧ sg A C p q fr k = -1) := by
  unfold sg
  rcases rb_two A C p q fr k with h | h <;> rw [h] <;> omega
theorem rb_su (A C : Int → Int) (p q fr : Int) (k : Nat) : rb A C p q fr (k + 1) = if 0 < su A C p q fr k then ((rb A C p q fr k).1 + 1, (rb A C p q fr k).2) else ((rb A C p q fr k).1, 1 - (rb A C p q fr k).2) := by
  have key : (((rb A C p q fr k).2 = 1 ∧ 0 < (pv A C p q fr (k + 1)).2) ∨ ((rb A C p q fr k).2 = 0 ∧ (pv A C p q fr (k + 1)).2 < 0)) ↔ 0 < su A C p q fr k := by
    unfold su
    rcases sg_two A C p q fr k with ⟨h, h2⟩ | ⟨h, h2⟩ <;> rw [h2, h] <;> omega
  rw [rb]
  by_cases h : 0 < su A C p q fr k
  · rw [if_pos h, if_pos (key.mpr h)]
  · rw [if_neg h, if_neg (fun q => h (key.mp q))]
theorem pv_one (A C : Int → Int) (p q fr : Int) (k : Nat) : (pv A C p q fr (k + 2)).2 = (p - q * A (fr + (k + 1 : Nat))) * (pv A C p q fr (k + 1)).2 - q * q * C (fr + k) * (pv A C p q fr k).2 := by
  have e : fr + (k + 1 : Nat) - 1 = fr + k := by omega
  have h : (pv A C p q fr (k + 2)).2 = (p - q * A (fr + (k + 1 : Nat))) * (pv A C p q fr (k + 1)).2 - q * q * C (fr + (k + 1 : Nat) - 1) * (pv A C p q fr (k + 1)).1 := rfl
  rw [h, e]
  rfl
/-- one step on: with the count, this value and the one ahead by their sign -/
theorem s_step (A C : Int → Int) (p q fr : Int) (k : Nat) :
    (0 < su A C p q fr k → (rb A C p q fr (k + 1)).1 = (rb A C p q fr k).1 + 1 ∧ sw A C p q fr (k + 1) = su A C p q fr k ∧ su A C p q fr (k + 1) = (p - q * A (fr + (k + 1 : Nat))) * su A C p q fr k - q * q * C (fr + k) * sw A C p q fr k) ∧
    (¬ 0 < su A C p q fr k → (rb A C p q fr (k + 1)).1 = (rb A C p q fr k).1 ∧ sw A C p q fr (k + 1) = -su A C p q fr k ∧ su A C p q fr (k + 1) = (p - q * A (fr + (k + 1 : Nat))) * (-su A C p q fr k) + q * q * C (fr + k) * sw A C p q fr k) := by
  have e := rb_su A C p q fr k
  constructor
  · intro h
    rw [if_pos h] at e
    have e2 : sg A C p q fr (k + 1) = sg A C p q fr k := by unfold sg; rw [e]
    refine ⟨by rw [e], ?_, ?_⟩
    · unfold sw su; rw [e2]
    · unfold su sw
      rw [e2, pv_one]
      grind
  · intro h
    rw [if_neg h] at e
    have e2 : sg A C p q fr (k + 1) = -sg A C p q fr k := by unfold sg; rw [e]; simp only []; omega
    refine ⟨by rw [e], ?_, ?_⟩
    · unfold sw su; rw [e2]; grind
    · unfold su sw
      rw [e2, pv_one]
      grind
theorem s_zero (A C : Int → Int) (p q fr : Int) : (rb A C p q fr 0).1 = 0 ∧ su A C p q fr 0 = p - q * A fr ∧ sw A C p q fr 0 = 1 := by
  refine ⟨rfl, ?_, ?_⟩
  · simp [su, sg, rb, pv]
  · simp [sw, sg, rb, pv]
/-- the one ahead isn't below 0, and both are not 0 -/
theorem s_inv {A C : Int → Int} {p q fr : Int} (hq : 0 < q) {n : Nat} (hC : ∀ x, fr ≤ x → x < fr + n - 1 → 1 ≤ C x) : ∀ k : Nat, k < n → 0 ≤ sw A C p q fr k ∧ (sw A C p q fr k = 0 → 0 < su A C p q fr k) := by
  intro k
  induction k with
  | zero =>
    intro _
    obtain ⟨-, h2, h3⟩ := s_zero A C p q fr
    rw [h3]
    omega
  | succ k ih =>
    intro hk
    obtain ⟨i1, i2⟩ := ih (by omega)
    obtain ⟨s1, s2⟩ := s_step A C p q fr k
    have hK : 0 < q * q * C (fr + k) := Int.mul_pos (Int.mul_pos hq hq) (by have := hC (fr + k) (by omega) (by omega); omega)
    by_cases h : 0 < su A C p q fr k
    · obtain ⟨e1, e2, e3⟩ := s1 h
      rw [e2]
      omega
    · obtain ⟨e1, e2, e3⟩ := s2 h
      rw [e2, e3]
      refine ⟨by omega, fun z => ?_⟩
      have z2 : su A C p q fr k = 0 := by omega
      have z3 : 0 < sw A C p q fr k := by
        rcases Int.lt_or_eq_of_le i1 with h | h
        · exact h
        · have := i2 h.symm; omega
      rw [z2]
      have := Int.mul_pos hK z3
      simpa using this
/-- farther right: more signs have stayed, or as many and the quotient is greater -/
theorem s_mono {A C : Int → Int} {p1 p2 q fr : Int} (hq : 0 < q) (hp : p1 < p2) {n : Nat} (hC : ∀ x, fr ≤ x → x < fr + n - 1 → 1 ≤ C x) : ∀ k : Nat, k < n →
    (rb A C p1 q fr k).1 < (rb A C p2 q fr k).1 ∨ ((rb A C p1 q fr k).1 = (rb A C p2 q fr k).1 ∧ su A C p1 q fr k * sw A C p2 q fr k < su A C p2 q fr k * sw A C p1 q fr k) := by
  intro k
  induction k with
  | zero =>
    intro _
    obtain ⟨a1, a2, a3⟩ := s_zero A C p1 q fr
    obtain ⟨b1, b2, b3⟩ := s_zero A C p2 q fr
    right
    rw [a1, a2, a3, b1, b2, b3]
    omega
  | succ k ih =>
    intro hk
    have ih := ih (by omega)
    obtain ⟨i1, i2⟩ := s_inv (A := A) (p := p1) hq hC k (by omega)
    obtain ⟨j1, j2⟩ := s_inv (A := A) (p := p2) hq hC k (by omega)
    obtain ⟨s1, s2⟩ := s_step A C p1 q fr k
    obtain ⟨t1, t2⟩ := s_step A C p2 q fr k
    have hK : 0 < q * q * C (fr + k) := Int.mul_pos (Int.mul_pos hq hq) (by have := hC (fr + k) (by omega) (by omega); omega)
    generalize q * q * C (fr + k) = K at *
    generalize q * A (fr + (k + 1 : Nat)) = a at *
    generalize su A C p1 q fr k = u1 at *
    generalize su A C p2 q fr k = u2 at *
    generalize sw A C p1 q fr k = w1 at *
    generalize sw A C p2 q fr k = w2 at *
    generalize (rb A C p1 q fr k).1 = n1 at *
    generalize (rb A C p2 q fr k).1 = n2 at *
    by_cases h1 : 0 < u1
    · obtain ⟨e1, e2, e3⟩ := s1 h1
      by_cases h2 : 0 < u2
      · obtain ⟨f1, f2, f3⟩ := t1 h2
        rcases ih with h | ⟨h, h3⟩
        · left; omega
        · right
          refine ⟨by omega, ?_⟩
          rw [e2, e3, f2, f3]
          have q1 : 0 < (p2 - p1) * (u1 * u2) := Int.mul_pos (by omega) (Int.mul_pos h1 h2)
          have q2 : 0 < K * (u2 * w1 - u1 * w2) := Int.mul_pos hK (by omega)
          have q3 : ((p2 - a) * u2 - K * w2) * u1 - ((p1 - a) * u1 - K * w1) * u2 = (p2 - p1) * (u1 * u2) + K * (u2 * w1 - u1 * w2) := by grind
          omega
      · obtain ⟨f1, f2, f3⟩ := t2 h2
        rcases ih with h | ⟨h, h3⟩
        · by_cases h4 : n1 + 1 < n2
          · left; omega
          · right
            refine ⟨by omega, ?_⟩
            rw [e2, e3, f2, f3]
            have hw2 : 0 < w2 := by
              rcases Int.lt_or_eq_of_le j1 with h | h
              · exact h
              · have := j2 h.symm; omega
            have q1 : 0 ≤ (p2 - p1) * (u1 * -u2) := Int.mul_nonneg (by omega) (Int.mul_nonneg (by omega) (by omega))
            have q2 : 0 < K * (w2 * u1) := Int.mul_pos hK (Int.mul_pos hw2 h1)
            have q3 : 0 ≤ K * (w1 * -u2) := Int.mul_nonneg (by omega) (Int.mul_nonneg i1 (by omega))
            have q4 : ((p2 - a) * -u2 + K * w2) * u1 - ((p1 - a) * u1 - K * w1) * -u2 = (p2 - p1) * (u1 * -u2) + K * (w2 * u1) + K * (w1 * -u2) := by grind
            omega
        · exfalso
          have q1 : 0 ≤ u1 * w2 := Int.mul_nonneg (by omega) j1
          have q2 : 0 ≤ -u2 * w1 := Int.mul_nonneg (by omega) i1
          have q3 : -u2 * w1 = -(u2 * w1) := Int.neg_mul u2 w1
          omega
    · obtain ⟨e1, e2, e3⟩ := s2 h1
      by_cases h2 : 0 < u2
      · obtain ⟨f1, f2, f3⟩ := t1 h2
        rcases ih with h | ⟨h, h3⟩ <;> left <;> omega
      · obtain ⟨f1, f2, f3⟩ := t2 h2
        rcases ih with h | ⟨h, h3⟩
        · left; omega
        · right
          refine ⟨by omega, ?_⟩
          rw [e2, e3, f2, f3]
          have q1 : 0 ≤ (p2 - p1) * (-u1 * -u2) := Int.mul_nonneg (by omega) (Int.mul_nonneg (by omega) (by omega))
          have q2 : 0 < K * (u2 * w1 - u1 * w2) := Int.mul_pos hK (by omega)
          have q3 : ((p2 - a) * -u2 + K * w2) * -u1 - ((p1 - a) * -u1 + K * w1) * -u2 = (p2 - p1) * (-u1 * -u2) + K * (u2 * w1 - u1 * w2) := by grind
          omega
theorem rb_mono {A C : Int → Int} {p1 p2 q fr : Int} (hq : 0 < q) (hp : p1 ≤ p2) {k : Nat} (hC : ∀ x, fr ≤ x → x < fr + k - 1 → 1 ≤ C x) : (rb A C p1 q fr k).1 ≤ (rb A C p2 q fr k).1 := by
  rcases Int.lt_or_eq_of_le hp with hp | hp
  · cases k with
    | zero => simp [rb]
    | succ k =>
      obtain ⟨i1, -⟩ := s_inv (A := A) (p := p1) hq hC k (by omega)
      obtain ⟨j1, -⟩ := s_inv (A := A) (p := p2) hq hC k (by omega)
      rw [rb_su, rb_su]
      rcases s_mono (A := A) hq hp hC k (by omega) with h | ⟨h, h3⟩
      · split <;> split <;> simp only [] <;> omega
      · by_cases h1 : 0 < su A C p1 q fr k
        · by_cases h2 : 0 < su A C p2 q fr k
          · rw [if_pos h1, if_pos h2]; simp only []; omega
          · exfalso
            have q1 : 0 ≤ su A C p1 q fr k * sw A C p2 q fr k := Int.mul_nonneg (by omega) j1
            have q2 : 0 ≤ -su A C p2 q fr k * sw A C p1 q fr k := Int.mul_nonneg (by omega) i1
            have q3 : -su A C p2 q fr k * sw A C p1 q fr k = -(su A C p2 q fr k * sw A C p1 q fr k) := Int.neg_mul _ _
            omega
        · rw [if_neg h1]
          split <;> simp only [] <;> omega
  · rw [hp]; omega
/-- behind a root there is one more -/
theorem rb_root {A C : Int → Int} {p1 p2 q fr : Int} (hq : 0 < q) (hp : p1 < p2) {k : Nat} (hk : 0 < k) (hC : ∀ x, fr ≤ x → x < fr + k - 1 → 1 ≤ C x) (h0 : (pv A C p1 q fr k).2 = 0) : (rb A C p1 q fr k).1 + 1 ≤ (rb A C p2 q fr k).1 := by
  cases k with
  | zero => omega
  | succ k =>
    have z : su A C p1 q fr k = 0 := by unfold su; rw [h0]; simp
    obtain ⟨i1, -⟩ := s_inv (A := A) (p := p1) hq hC k (by omega)
    rw [rb_su, rb_su, if_neg (by omega)]
    rcases s_mono (A := A) hq hp hC k (by omega) with h | ⟨h, h3⟩
    · split <;> simp only [] <;> omega
    · have h2 : 0 < su A C p2 q fr k := by
        rw [z] at h3
        by_cases h4 : 0 < su A C p2 q fr k
        · exact h4
        · exfalso
          have q2 : 0 ≤ -su A C p2 q fr k * sw A C p1 q fr k := Int.mul_nonneg (by omega) i1
          have q3 : -su A C p2 q fr k * sw A C p1 q fr k = -(su A C p2 q fr k * sw A C p1 q fr k) := Int.neg_mul _ _
          omega
      rw [if_pos h2]
      simp only []
      omega
/-- far right all are below, far left none -/
theorem s_far {A C : Int → Int} {p q fr : Int} (hq : 0 < q) (hp : 18 * q ≤ p) {n : Nat} (hA : ∀ x, fr ≤ x → x < fr + n → -6 ≤ A x ∧ A x ≤ 6) (hC : ∀ x, fr ≤ x → x < fr + n - 1 → 1 ≤ C x ∧ C x ≤ 36) : ∀ k : Nat, k < n → (rb A C p q fr k).1 = k ∧ 0 < sw A C p q fr k ∧ 6 * q * sw A C p q fr k ≤ su A C p q fr k := by
  intro k
  induction k with
  | zero =>
    intro hk
    obtain ⟨a1, a2, a3⟩ := s_zero A C p q fr
    obtain ⟨b1, b2⟩ := hA fr (by omega) (by omega)
    have := Int.mul_le_mul_of_nonneg_left b2 (by omega : 0 ≤ q)
    rw [a1, a2, a3]
    omega
  | succ k ih =>
    intro hk
    obtain ⟨i1, i2, i3⟩ := ih (by omega)
    obtain ⟨s1, -⟩ := s_step A C p q fr k
    have hu : 0 < su A C p q fr k := by
      have := Int.mul_pos (by omega : 0 < 6 * q) i2
      omega
    obtain ⟨e1, e2, e3⟩ := s1 hu
    obtain ⟨b1, b2⟩ := hA (fr + (k + 1 : Nat)) (by omega) (by omega)
    obtain ⟨c1, c2⟩ := hC (fr + k) (by omega) (by omega)
    have m1 := Int.mul_le_mul_of_nonneg_left b2 (by omega : 0 ≤ q)
    have hqq : 0 < q * q := Int.mul_pos hq hq
    rw [e1, e2, e3]
    refine ⟨by omega, hu, ?_⟩
    generalize A (fr + (k + 1 : Nat)) = a at *
    generalize C (fr + k) = c at *
    generalize su A C p q fr k = u at *
    generalize sw A C p q fr k = w at *
    have q1 : 12 * q * u ≤ (p - q * a) * u := Int.mul_le_mul_of_nonneg_right (by omega) (by omega)
    have q2 : q * q * c * w ≤ q * q * 36 * w := Int.mul_le_mul_of_nonneg_right (Int.mul_le_mul_of_nonneg_left c2 (by omega)) (by omega)
    have q3 : 6 * q * (6 * q * w) ≤ 6 * q * u := Int.mul_le_mul_of_nonneg_left i3 (by omega)
    have q4 : 6 * q * (6 * q * w) = q * q * 36 * w := by grind
    have q5 : 12 * q * u = 6 * q * u + 6 * q * u := by grind
    omega
theorem rb_far {A C : Int → Int} {p q fr : Int} (hq : 0 < q) (hp : 18 * q ≤ p) {k : Nat} (hA : ∀ x, fr ≤ x → x < fr + k → -6 ≤ A x ∧ A x ≤ 6) (hC : ∀ x, fr ≤ x → x < fr + k - 1 → 1 ≤ C x ∧ C x ≤ 36) : (rb A C p q fr k).1 = k ∧ (pv A C p q fr k).2 ≠ 0 := by
  cases k with
  | zero => simp [rb, pv]
  | succ k =>
    obtain ⟨h1, h2, h3⟩ := s_far hq hp hA hC k (by omega)
    have hu : 0 < su A C p q fr k := by
      have := Int.mul_pos (by omega : 0 < 6 * q) h2
      omega
    refine ⟨by rw [rb_su, if_pos hu]; simp only []; omega, fun z => ?_⟩
    unfold su at hu
    rw [z] at hu
    simp at hu
theorem s_near {A C : Int → Int} {p q fr : Int} (hq : 0 < q) (hp : p ≤ -(18 * q)) {n : Nat} (hA : ∀ x, fr ≤ x → x < fr + n → -6 ≤ A x ∧ A x ≤ 6) (hC : ∀ x, fr ≤ x → x < fr + n - 1 → 1 ≤ C x ∧ C x ≤ 36) : ∀ k : Nat, k < n → (rb A C p q fr k).1 = 0 ∧ 0 < sw A C p q fr k ∧ su A C p q fr k ≤ -(6 * q * sw A C p q fr k) := by
  intro k
  induction k with
  | zero =>
    intro hk
    obtain ⟨a1, a2, a3⟩ := s_zero A C p q fr
    obtain ⟨b1, b2⟩ := hA fr (by omega) (by omega)
    have := Int.mul_le_mul_of_nonneg_left b1 (by omega : 0 ≤ q)
    rw [a1, a2, a3]
    omega
  | succ k ih =>
    intro hk
    obtain ⟨i1, i2, i3⟩ := ih (by omega)
    obtain ⟨-, s2⟩ := s_step A C p q fr k
    have hu : 0 < -su A C p q fr k := by
      have := Int.mul_pos (by omega : 0 < 6 * q) i2
      omega
    obtain ⟨e1, e2, e3⟩ := s2 (by omega)
    obtain ⟨b1, b2⟩ := hA (fr + (k + 1 : Nat)) (by omega) (by omega)
    obtain ⟨c1, c2⟩ := hC (fr + k) (by omega) (by omega)
    have m1 := Int.mul_le_mul_of_nonneg_left b1 (by omega : 0 ≤ q)
    have hqq : 0 < q * q := Int.mul_pos hq hq
    rw [e1, e2, e3]
    refine ⟨by omega, hu, ?_⟩
    generalize A (fr + (k + 1 : Nat)) = a at *
    generalize C (fr + k) = c at *
    generalize su A C p q fr k = u at *
    generalize sw A C p q fr k = w at *
    have q1 : (p - q * a) * -u ≤ -(12 * q) * -u := Int.mul_le_mul_of_nonneg_right (by omega) (by omega)
    have q2 : q * q * c * w ≤ q * q * 36 * w := Int.mul_le_mul_of_nonneg_right (Int.mul_le_mul_of_nonneg_left c2 (by omega)) (by omega)
    have q3 : 6 * q * (6 * q * w) ≤ 6 * q * -u := Int.mul_le_mul_of_nonneg_left (by omega) (by omega)
    have q4 : 6 * q * (6 * q * w) = q * q * 36 * w := by grind
    have q5 : -(12 * q) * -u = -(6 * q * -u) - 6 * q * -u := by grind
    omega
theorem rb_near {A C : Int → Int} {p q fr : Int} (hq : 0 < q) (hp : p ≤ -(18 * q)) {k : Nat} (hA : ∀ x, fr ≤ x → x < fr + k → -6 ≤ A x ∧ A x ≤ 6) (hC : ∀ x, fr ≤ x → x < fr + k - 1 → 1 ≤ C x ∧ C x ≤ 36) : (rb A C p q fr k).1 = 0 ∧ (pv A C p q fr k).2 ≠ 0 := by
  cases k with
  | zero => simp [rb, pv]
  | succ k =>
    obtain ⟨h1, h2, h3⟩ := s_near hq hp hA hC k (by omega)
    have hu : su A C p q fr k < 0 := by
      have := Int.mul_pos (by omega : 0 < 6 * q) h2
      omega
    refine ⟨by rw [rb_su, if_neg (by omega)]; exact h1, fun z => ?_⟩
    unfold su at hu
    rw [z] at hu
    simp at hu
/-- the sign of the last one, by how many have stayed -/
theorem rb_par (A C : Int → Int) (p q fr : Int) : ∀ k : Nat, (k - (rb A C p q fr k).1) % 2 = 1 - (rb A C p q fr k).2 ∧ 0 ≤ sw A C p q fr k := by
  intro k
  induction k with
  | zero => simp [rb, sw, sg, pv]
  | succ k ih =>
    obtain ⟨s1, s2⟩ := s_step A C p q fr k
    have e := rb_su A C p q fr k
    rcases rb_two A C p q fr k with ht | ht
    all_goals
      by_cases h : 0 < su A C p q fr k
      · obtain ⟨e1, e2, e3⟩ := s1 h
        rw [if_pos h] at e
        rw [e2, e]
        simp only [Int.natCast_add, Int.natCast_one]
        omega
      · obtain ⟨e1, e2, e3⟩ := s2 h
        rw [if_neg h] at e
        rw [e2, e]
        simp only [Int.natCast_add, Int.natCast_one]
        omega
theorem pv_sign (A C : Int → Int) (p q fr : Int) (k : Nat) : ((k - (rb A C p q fr k).1) % 2 = 0 → 0 ≤ (pv A C p q fr k).2) ∧ ((k - (rb A C p q fr k).1) % 2 = 1 → (pv A C p q fr k).2 ≤ 0) := by
  obtain ⟨h1, h2⟩ := rb_par A C p q fr k
  unfold sw at h2
  rcases sg_two A C p q fr k with ⟨h, h3⟩ | ⟨h, h3⟩ <;> rw [h3] at h2 <;> omega
