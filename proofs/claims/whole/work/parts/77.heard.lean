/-! WHOLE ROOTS told one by one; those of the lower polynomial lie between -/
theorem zc_up (A C : Int → Int) (fr : Int) (k a : Nat) : ∀ d : Nat, zc A C fr k a ≤ zc A C fr k (a + d) := by
  intro d
  induction d with
  | zero => exact Int.le_refl _
  | succ d ih =>
    rw [← Nat.add_assoc, zc_succ]
    split <;> omega
theorem zc_cap {A C : Int → Int} {fr : Int} {k : Nat} (hk : 0 < k) (hC : ∀ x, fr ≤ x → x < fr + k - 1 → 1 ≤ C x) (a d : Nat) : zc A C fr k (a + d) - zc A C fr k a ≤ k := by
  have h := zc_rb (A := A) hk hC (a := a) d
  have h1 := (rb_rng A C (-20 + (a + d : Nat)) 1 fr k).2
  have h2 := (rb_rng A C (-20 + (a : Nat)) 1 fr k).1
  omega
theorem zc_at (A C : Int → Int) (fr : Int) (k : Nat) : ∀ n : Nat, ∀ j : Int, 0 ≤ j → j < zc A C fr k n → ∃ v : Nat, v < n ∧ zc A C fr k v = j ∧ (pv A C (-20 + v) 1 fr k).2 = 0 := by
  intro n
  induction n with
  | zero => intro j h0 h1; exact absurd h1 (by show ¬ j < 0; omega)
  | succ n ih =>
    intro j h0 h1
    rw [zc_succ] at h1
    by_cases h : j < zc A C fr k n
    · obtain ⟨v, a, b⟩ := ih j h0 h
      exact ⟨v, by omega, b⟩
    · by_cases e : (pv A C (-20 + n) 1 fr k).2 = 0
      · rw [if_pos e] at h1
        exact ⟨n, by omega, by omega, e⟩
      · rw [if_neg e] at h1
        omega
theorem full_rb {A C : Int → Int} {fr : Int} {k : Nat} (hk : 0 < k) (hA : ∀ x, fr ≤ x → x < fr + k → -6 ≤ A x ∧ A x ≤ 6) (hC : ∀ x, fr ≤ x → x < fr + k - 1 → 1 ≤ C x ∧ C x ≤ 36) (h : zc A C fr k 41 = k) {j : Nat} (hj : j ≤ 41) : (rb A C (-20 + (j : Nat)) 1 fr k).1 = zc A C fr k j := by
  have hC1 : ∀ x, fr ≤ x → x < fr + k - 1 → 1 ≤ C x := fun x a b => (hC x a b).1
  have a1 := zc_rb (A := A) hk hC1 (a := 0) j
  have a2 := zc_rb (A := A) hk hC1 (a := j) (41 - j)
  rw [show j + (41 - j) = 41 by omega] at a2
  rw [show 0 + j = j by omega] at a1
  have n1 := (rb_near (A := A) (C := C) (p := -20 + ((0 : Nat) : Int)) (q := 1) (fr := fr) (k := k) (by omega) (by omega) hA hC).1
  have n2 := (rb_far (A := A) (C := C) (p := -20 + ((41 : Nat) : Int)) (q := 1) (fr := fr) (k := k) (by omega) (by omega) hA hC).1
  have z0 : zc A C fr k 0 = 0 := rfl
  omega
/-- with as many whole roots as the height: the one with j below it -/
theorem root_is {A C : Int → Int} {fr : Int} {k : Nat} (hk : 0 < k) (hA : ∀ x, fr ≤ x → x < fr + k → -6 ≤ A x ∧ A x ≤ 6) (hC : ∀ x, fr ≤ x → x < fr + k - 1 → 1 ≤ C x ∧ C x ≤ 36) (h : zc A C fr k 41 = k) {v : Nat} (hv : v < 41) (h0 : (pv A C (-20 + v) 1 fr k).2 = 0) : rt A C 1 fr k (zc A C fr k v) = -20 + v := by
  refine rt_eq (by omega) (fun x a b => (hC x a b).1) ⟨?_, ?_⟩
  · rw [full_rb hk hA hC h (by omega)]
    exact Int.le_refl _
  · rw [show (-20 : Int) + (v : Int) + 1 = -20 + ((v + 1 : Nat) : Int) by omega, full_rb hk hA hC h (by omega), zc_succ, if_pos h0]
    omega
theorem full_rt {A C : Int → Int} {fr : Int} {k : Nat} (hk : 0 < k) (hA : ∀ x, fr ≤ x → x < fr + k → -6 ≤ A x ∧ A x ≤ 6) (hC : ∀ x, fr ≤ x → x < fr + k - 1 → 1 ≤ C x ∧ C x ≤ 36) (h : zc A C fr k 41 = k) {j : Int} (j0 : 0 ≤ j) (j1 : j < k) : ∃ v : Nat, v < 41 ∧ zc A C fr k v = j ∧ (pv A C (-20 + v) 1 fr k).2 = 0 ∧ rt A C 1 fr k j = -20 + v ∧ (rb A C (-20 + v) 1 fr k).1 = j := by
  obtain ⟨v, a, b, c⟩ := zc_at A C fr k 41 j j0 (by omega)
  refine ⟨v, a, b, c, ?_, ?_⟩
  · have := root_is hk hA hC h a c
    rw [b] at this
    exact this
  · rw [full_rb hk hA hC h (by omega), b]
theorem zc_less {A C : Int → Int} {fr : Int} {k u v : Nat} (h : zc A C fr k u < zc A C fr k v) : u < v := by
  by_cases e : u < v
  · exact e
  · have := zc_up A C fr k v (u - v)
    rw [show v + (u - v) = u by omega] at this
    omega
/-- the two polynomials at a root of the one of all rows -/
theorem pq {A C : Int → Int} {x : Int} {n : Nat} (h2 : 2 ≤ n) (h4 : n ≤ 4) (hC : ∀ y : Int, 0 ≤ y → y < n - 1 → 1 ≤ C y) (h0 : (pv A C x 1 0 n).2 = 0) : 0 < (pv A C x 1 0 (n - 1)).2 * (pv A C x 1 1 (n - 1)).2 := by
  have : n = 2 ∨ n = 3 ∨ n = 4 := by omega
  rcases this with rfl | rfl | rfl
  · have c0 := hC 0 (by omega) (by omega)
    have e : (pv A C x 1 0 1).2 * (pv A C x 1 1 1).2 = C 0 + (pv A C x 1 0 2).2 := by
      simp [pv]
      grind
    show 0 < (pv A C x 1 0 1).2 * (pv A C x 1 1 1).2
    rw [e, h0]
    omega
  · have c0 := hC 0 (by omega) (by omega)
    have c1 := hC 1 (by omega) (by omega)
    have e : (pv A C x 1 0 2).2 * (pv A C x 1 1 2).2 = C 0 * C 1 + (pv A C x 1 0 3).2 * (pv A C x 1 1 1).2 := by
      simp [pv]
      grind
    show 0 < (pv A C x 1 0 2).2 * (pv A C x 1 1 2).2
    rw [e, h0, Int.zero_mul, Int.add_zero]
    exact Int.mul_pos (by omega) (by omega)
  · have c0 := hC 0 (by omega) (by omega)
    have c1 := hC 1 (by omega) (by omega)
    have c2 := hC 2 (by omega) (by omega)
    have e : (pv A C x 1 0 3).2 * (pv A C x 1 1 3).2 = C 0 * C 1 * C 2 + (pv A C x 1 0 4).2 * (pv A C x 1 1 2).2 := by
      simp [pv]
      grind
    show 0 < (pv A C x 1 0 3).2 * (pv A C x 1 1 3).2
    rw [e, h0, Int.zero_mul, Int.add_zero]
    exact Int.mul_pos (Int.mul_pos (by omega) (by omega)) (by omega)
theorem sgn_par {A C : Int → Int} {x fr : Int} {k : Nat} (h : (pv A C x 1 fr k).2 ≠ 0) : (0 < (pv A C x 1 fr k).2 ∧ (k - (rb A C x 1 fr k).1) % 2 = 0) ∨ ((pv A C x 1 fr k).2 < 0 ∧ (k - (rb A C x 1 fr k).1) % 2 = 1) := by
  obtain ⟨p1, p2⟩ := pv_sign A C x 1 fr k
  by_cases e : (k - (rb A C x 1 fr k).1) % 2 = 0
  · have := p1 e
    exact Or.inl ⟨by omega, e⟩
  · have := p2 (by omega)
    exact Or.inr ⟨by omega, by omega⟩
/-- at a root with j below it the lower one has j below it, or two, four .. more or less -/
theorem q_par {A C : Int → Int} {x : Int} {n : Nat} (h2 : 2 ≤ n) (h4 : n ≤ 4) (hC : ∀ y : Int, 0 ≤ y → y < n - 1 → 1 ≤ C y) (h0 : (pv A C x 1 0 n).2 = 0) : ((rb A C x 1 1 (n - 1)).1 - (rb A C x 1 0 n).1) % 2 = 0 ∧ (pv A C x 1 1 (n - 1)).2 ≠ 0 := by
  have P := pq h2 h4 hC h0
  have n1 : (pv A C x 1 0 (n - 1)).2 ≠ 0 := fun e => by rw [e, Int.zero_mul] at P; omega
  have n2 : (pv A C x 1 1 (n - 1)).2 ≠ 0 := fun e => by rw [e, Int.mul_zero] at P; omega
  obtain ⟨m, rfl⟩ : ∃ m, n = m + 1 := ⟨n - 1, by omega⟩
  simp only [Nat.add_sub_cancel] at *
  have e : (rb A C x 1 0 (m + 1)).1 = (rb A C x 1 0 m).1 := by
    rw [rb_su]
    unfold su
    rw [h0, Int.mul_zero, if_neg (by omega)]
  refine ⟨?_, n2⟩
  rw [e]
  rcases sgn_par n1 with ⟨s1, t1⟩ | ⟨s1, t1⟩ <;> rcases sgn_par n2 with ⟨s2, t2⟩ | ⟨s2, t2⟩
  · omega
  · have := Int.mul_neg_of_pos_of_neg s1 s2
    omega
  · have := Int.mul_neg_of_neg_of_pos s1 s2
    omega
  · omega
