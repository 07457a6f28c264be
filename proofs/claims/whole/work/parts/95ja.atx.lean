/-! AT x: values, what binds them, how big they are -/
theorem cx_get {N : Nat} {U f : Int → Int} (h : cxK N U f = true) : cx1 N U f = true ∧ (2 ≤ N → cx2 N U f = true) ∧ (3 ≤ N → cx3 N U f = true) ∧ (4 ≤ N → cx4 U f = true) := by
  unfold cxK at h
  rw [Bool.and_eq_true] at h
  refine ⟨h.1, ?_⟩
  have h2 := h.2
  by_cases c2 : 2 ≤ N
  · rw [Nat.ble_eq_true_of_le c2] at h2
    have h3 := h2
    rw [cond_true, Bool.and_eq_true] at h3
    refine ⟨fun _ => h3.1, ?_⟩
    by_cases c3 : 3 ≤ N
    · have h4 := h3.2
      rw [Nat.ble_eq_true_of_le c3, cond_true, Bool.and_eq_true] at h4
      refine ⟨fun _ => h4.1, fun c4 => ?_⟩
      have h5 := h4.2
      rw [Nat.ble_eq_true_of_le c4, cond_true] at h5
      exact h5
    · exact ⟨fun q => absurd q c3, fun q => absurd q (by omega)⟩
  · exact ⟨fun q => absurd q c2, fun q => absurd q (by omega), fun q => absurd q (by omega)⟩
theorem nb_mul {a b : Int} {A B : Nat} (ha : a.natAbs ≤ A) (hb : b.natAbs ≤ B) : (a * b).natAbs ≤ A * B := by
  rw [Int.natAbs_mul]
  exact Nat.mul_le_mul ha hb
theorem nb_add {a b : Int} {A B : Nat} (ha : a.natAbs ≤ A) (hb : b.natAbs ≤ B) : (a + b).natAbs ≤ A + B := by omega
theorem nb_sub {a b : Int} {A B : Nat} (ha : a.natAbs ≤ A) (hb : b.natAbs ≤ B) : (a - b).natAbs ≤ A + B := by omega
theorem okb_nb {a : Int} {A : Nat} (ha : a.natAbs ≤ A) (hA : A ≤ 4611686018427387904) : okb a := by
  unfold okb
  omega
theorem eV_0 {N : Nat} {U f : Int → Int} {x : Int} (hN : 1 ≤ N) : eV N U f 0 x = 1 := by
  have : eC N U f 0 0 = 1 := by
    unfold eC
    rw [if_neg (by omega)]
    rfl
  show 0 * x + eC N U f 0 0 = 1
  rw [Int.zero_mul, Int.zero_add, this]
theorem eV_1 (N : Nat) (U f : Int → Int) (x : Int) : eV N U f 1 x = eC N U f 1 1 * x + eC N U f 1 0 := by
  show (0 * x + eC N U f 1 1) * x + eC N U f 1 0 = _
  rw [Int.zero_mul, Int.zero_add]
theorem eV_2 (N : Nat) (U f : Int → Int) (x : Int) : eV N U f 2 x = (eC N U f 2 2 * x + eC N U f 2 1) * x + eC N U f 2 0 := by
  show ((0 * x + eC N U f 2 2) * x + eC N U f 2 1) * x + eC N U f 2 0 = _
  rw [Int.zero_mul, Int.zero_add]
theorem eV_3 (N : Nat) (U f : Int → Int) (x : Int) : eV N U f 3 x = ((eC N U f 3 3 * x + eC N U f 3 2) * x + eC N U f 3 1) * x + eC N U f 3 0 := by
  show (((0 * x + eC N U f 3 3) * x + eC N U f 3 2) * x + eC N U f 3 1) * x + eC N U f 3 0 = _
  rw [Int.zero_mul, Int.zero_add]
theorem eV_4 (N : Nat) (U f : Int → Int) (x : Int) : eV N U f 4 x = (((eC N U f 4 4 * x + eC N U f 4 3) * x + eC N U f 4 2) * x + eC N U f 4 1) * x + eC N U f 4 0 := by
  show ((((0 * x + eC N U f 4 4) * x + eC N U f 4 3) * x + eC N U f 4 2) * x + eC N U f 4 1) * x + eC N U f 4 0 = _
  rw [Int.zero_mul, Int.zero_add]
theorem gV_1 (N : Nat) (U f : Int → Int) (x : Int) : gV N U f 1 x = gC N U f 1 0 := by
  show 0 * x + gC N U f 1 0 = _
  rw [Int.zero_mul, Int.zero_add]
theorem gV_2 (N : Nat) (U f : Int → Int) (x : Int) : gV N U f 2 x = gC N U f 2 1 * x + gC N U f 2 0 := by
  show (0 * x + gC N U f 2 1) * x + gC N U f 2 0 = _
  rw [Int.zero_mul, Int.zero_add]
theorem gV_3 (N : Nat) (U f : Int → Int) (x : Int) : gV N U f 3 x = (gC N U f 3 2 * x + gC N U f 3 1) * x + gC N U f 3 0 := by
  show ((0 * x + gC N U f 3 2) * x + gC N U f 3 1) * x + gC N U f 3 0 = _
  rw [Int.zero_mul, Int.zero_add]
theorem gV_4 (N : Nat) (U f : Int → Int) (x : Int) : gV N U f 4 x = ((gC N U f 4 3 * x + gC N U f 4 2) * x + gC N U f 4 1) * x + gC N U f 4 0 := by
  show (((0 * x + gC N U f 4 3) * x + gC N U f 4 2) * x + gC N U f 4 1) * x + gC N U f 4 0 = _
  rw [Int.zero_mul, Int.zero_add]
theorem dV_1 (N : Nat) (U f : Int → Int) (x : Int) : dV N U f 1 x = eC N U f 1 1 := by
  show 0 * x + 1 * eC N U f 1 1 = _
  omega
theorem dV_2 (N : Nat) (U f : Int → Int) (x : Int) : dV N U f 2 x = 2 * eC N U f 2 2 * x + eC N U f 2 1 := by
  show (0 * x + 2 * eC N U f 2 2) * x + 1 * eC N U f 2 1 = _
  rw [Int.zero_mul, Int.zero_add, Int.one_mul]
theorem dV_3 (N : Nat) (U f : Int → Int) (x : Int) : dV N U f 3 x = (3 * eC N U f 3 3 * x + 2 * eC N U f 3 2) * x + eC N U f 3 1 := by
  show ((0 * x + 3 * eC N U f 3 3) * x + 2 * eC N U f 3 2) * x + 1 * eC N U f 3 1 = _
  rw [Int.zero_mul, Int.zero_add, Int.one_mul]
theorem dV_4 (N : Nat) (U f : Int → Int) (x : Int) : dV N U f 4 x = ((4 * eC N U f 4 4 * x + 3 * eC N U f 4 3) * x + 2 * eC N U f 4 2) * x + eC N U f 4 1 := by
  show (((0 * x + 4 * eC N U f 4 4) * x + 3 * eC N U f 4 3) * x + 2 * eC N U f 4 2) * x + 1 * eC N U f 4 1 = _
  rw [Int.zero_mul, Int.zero_add, Int.one_mul]
theorem dlN_lt {N : Nat} {f : Int → Int} {k : Int} (h : k < N) : dlN N f k = DD f k := if_neg (by omega)
theorem dN_0 {N : Nat} {f : Int → Int} (f0 : f 0 = 1) : dN N f 0 = 1 := by
  unfold dN dlN
  rw [show DD f 0 = 1 from rfl, Int.one_mul, Int.zero_add]
  split
  · rfl
  · exact f0
theorem dN_1 {N : Nat} {f : Int → Int} (f0 : f 0 = 1) : dN N f 1 = dlN N f 2 := by
  unfold dN
  rw [show DD f 1 = 1 from f0, Int.one_mul]
  rfl
theorem cx1_is {N : Nat} {U f : Int → Int} (h : cx1 N U f = true) : eC N U f 1 1 = 1 ∧ eC N U f 1 0 = -nN N U f 0 ∧ gC N U f 1 0 = 1 ∧ (nN N U f 0).natAbs ≤ 6 := by
  simp only [cx1, fI_eq, Bool.and_eq_true] at h
  obtain ⟨⟨⟨h1, h2⟩, h3⟩, h4⟩ := h
  exact ⟨iE_is h1, iE_is h2, iE_is h3, bI_is h4⟩
theorem cx2_is {N : Nat} {U f : Int → Int} (h : cx2 N U f = true) : gC N U f 2 1 = dlN N f 2 ∧ gC N U f 2 0 = -nN N U f 1 ∧ eC N U f 2 2 = dlN N f 2 ∧ eC N U f 2 1 = -(nN N U f 1 + nN N U f 0 * dlN N f 2) ∧ eC N U f 2 0 = nN N U f 0 * nN N U f 1 - DD f 2 * dlN N f 2 ∧ (nN N U f 1).natAbs ≤ 72 ∧ (DD f 2).natAbs ≤ 36 ∧ (dlN N f 2).natAbs ≤ 36 := by
  simp only [cx2, fI_eq, Bool.and_eq_true] at h
  obtain ⟨⟨⟨⟨⟨⟨⟨h1, h2⟩, h3⟩, h4⟩, h5⟩, h6⟩, h7⟩, h8⟩ := h
  exact ⟨iE_is h1, iE_is h2, iE_is h3, iE_is h4, iE_is h5, bI_is h6, bI_is h7, bI_is h8⟩
theorem cx3_is {N : Nat} {U f : Int → Int} (h : cx3 N U f = true) : (gC N U f 3 2 = dlN N f 3 ∧ gC N U f 3 1 * (DD f 2 * DD f 2) = -(DD f 2 * nN N U f 2 + nN N U f 1 * (DD f 2 * dlN N f 3)) ∧ gC N U f 3 0 * (DD f 2 * DD f 2) = nN N U f 1 * nN N U f 2 - DD f 3 * dlN N f 3 ∧ eC N U f 3 3 = gC N U f 3 2 ∧ eC N U f 3 2 = gC N U f 3 1 - nN N U f 0 * gC N U f 3 2 ∧ eC N U f 3 1 = gC N U f 3 0 - nN N U f 0 * gC N U f 3 1 - DD f 2 * dlN N f 3 ∧ eC N U f 3 0 = nN N U f 2 - nN N U f 0 * gC N U f 3 0) ∧ (DD f 2 * dlN N f 3 * eC N U f 2 2 = eC N U f 3 3 * (DD f 2 * DD f 2) ∧ DD f 2 * dlN N f 3 * eC N U f 2 1 - nN N U f 2 * eC N U f 2 2 = eC N U f 3 2 * (DD f 2 * DD f 2) ∧ DD f 2 * dlN N f 3 * eC N U f 2 0 - nN N U f 2 * eC N U f 2 1 - DD f 3 * dlN N f 3 = eC N U f 3 1 * (DD f 2 * DD f 2) ∧ DD f 3 * dlN N f 3 * nN N U f 0 - nN N U f 2 * eC N U f 2 0 = eC N U f 3 0 * (DD f 2 * DD f 2)) ∧ ((nN N U f 2).natAbs ≤ 347760 ∧ (DD f 3).natAbs ≤ 6561 ∧ (dlN N f 3).natAbs ≤ 6561) ∧ ((gC N U f 3 2).natAbs ≤ 90000 ∧ (gC N U f 3 1).natAbs ≤ 90000 ∧ (gC N U f 3 0).natAbs ≤ 90000) ∧ (eC N U f 3 3).natAbs ≤ 358263 ∧ (eC N U f 3 2).natAbs ≤ 358263 ∧ (eC N U f 3 1).natAbs ≤ 358263 ∧ (eC N U f 3 0).natAbs ≤ 358263 := by
  simp only [cx3, fI_eq, Bool.and_eq_true] at h
  obtain ⟨⟨⟨⟨⟨⟨⟨⟨⟨⟨⟨⟨⟨⟨⟨⟨⟨⟨⟨⟨h1, h2⟩, h3⟩, h4⟩, h5⟩, h6⟩, h7⟩, h8⟩, h9⟩, h10⟩, h11⟩, h12⟩, h13⟩, h14⟩, h15⟩, h16⟩, h17⟩, h18⟩, h19⟩, h20⟩, h21⟩ := h
  exact ⟨⟨iE_is h1, iE_is h2, iE_is h3, iE_is h4, iE_is h5, iE_is h6, iE_is h7⟩, ⟨iE_is h8, iE_is h9, iE_is h10, iE_is h11⟩, ⟨bI_is h12, bI_is h13, bI_is h14⟩, ⟨bI_is h15, bI_is h16, bI_is h17⟩, bI_is h18, bI_is h19, bI_is h20, bI_is h21⟩
/-- the fourth one's second remainder -/
def rC (U f : Int → Int) (j : Nat) : Int := match j with
  | 0 => -(nN 4 U f 0 * gC 4 U f 4 0) - eC 4 U f 4 0
  | 1 => gC 4 U f 4 0 - nN 4 U f 0 * gC 4 U f 4 1 - eC 4 U f 4 1
  | _ => gC 4 U f 4 1 - nN 4 U f 0 * gC 4 U f 4 2 - eC 4 U f 4 2
theorem cx4_is {U f : Int → Int} (h : cx4 U f = true) : (gC 4 U f 4 3 = eC 4 U f 4 4 ∧ gC 4 U f 4 2 - nN 4 U f 0 * gC 4 U f 4 3 = eC 4 U f 4 3 ∧ rC U f 2 = DD f 2 ∧ rC U f 1 * (DD f 3 * DD f 3) = -(DD f 2 * DD f 3 * nN 4 U f 3 + nN 4 U f 2 * DD f 3) ∧ rC U f 0 * (DD f 3 * DD f 3) = nN 4 U f 2 * nN 4 U f 3 - DD f 4 * (DD f 2 * DD f 2)) ∧ (gC 4 U f 4 3 * (DD f 2 * DD f 2) = DD f 2 * rC U f 2 ∧ gC 4 U f 4 2 * (DD f 2 * DD f 2) = DD f 2 * rC U f 1 - nN 4 U f 1 * rC U f 2 ∧ gC 4 U f 4 1 * (DD f 2 * DD f 2) = DD f 2 * rC U f 0 - nN 4 U f 1 * rC U f 1 - DD f 3 ∧ gC 4 U f 4 0 * (DD f 2 * DD f 2) = nN 4 U f 3 - nN 4 U f 1 * rC U f 0) ∧ (DD f 3 * eC 4 U f 3 3 = eC 4 U f 4 4 * (DD f 3 * DD f 3) ∧ DD f 3 * eC 4 U f 3 2 - nN 4 U f 3 * eC 4 U f 3 3 = eC 4 U f 4 3 * (DD f 3 * DD f 3) ∧ DD f 3 * eC 4 U f 3 1 - nN 4 U f 3 * eC 4 U f 3 2 - DD f 4 * eC 4 U f 2 2 = eC 4 U f 4 2 * (DD f 3 * DD f 3) ∧ DD f 3 * eC 4 U f 3 0 - nN 4 U f 3 * eC 4 U f 3 1 - DD f 4 * eC 4 U f 2 1 = eC 4 U f 4 1 * (DD f 3 * DD f 3) ∧ -(nN 4 U f 3 * eC 4 U f 3 0) - DD f 4 * eC 4 U f 2 0 = eC 4 U f 4 0 * (DD f 3 * DD f 3)) ∧ (DD f 2 * cF 4 U f 4 = eC 4 U f 2 2 * eC 4 U f 2 2 ∧ DD f 2 * cF 4 U f 3 = 2 * (eC 4 U f 2 2 * eC 4 U f 2 1) ∧ DD f 2 * cF 4 U f 2 = DD f 3 + (2 * (eC 4 U f 2 2 * eC 4 U f 2 0) + eC 4 U f 2 1 * eC 4 U f 2 1) ∧ DD f 2 * cF 4 U f 1 = 2 * (eC 4 U f 2 1 * eC 4 U f 2 0) - 2 * (nN 4 U f 0 * DD f 3) ∧ DD f 2 * cF 4 U f 0 = DD f 3 * (DD f 2 + nN 4 U f 0 * nN 4 U f 0) + eC 4 U f 2 0 * eC 4 U f 2 0) ∧ ((nN 4 U f 3).natAbs ≤ 21870 ∧ (DD f 4).natAbs ≤ 10036224) ∧ ((gC 4 U f 4 3).natAbs ≤ 75 ∧ (gC 4 U f 4 2).natAbs ≤ 75 ∧ (gC 4 U f 4 1).natAbs ≤ 75 ∧ (gC 4 U f 4 0).natAbs ≤ 75) ∧ (eC 4 U f 4 4).natAbs ≤ 576 ∧ (eC 4 U f 4 3).natAbs ≤ 576 ∧ (eC 4 U f 4 2).natAbs ≤ 576 ∧ (eC 4 U f 4 1).natAbs ≤ 576 ∧ (eC 4 U f 4 0).natAbs ≤ 576 := by
  simp only [cx4, fI_eq, Bool.and_eq_true] at h
  obtain ⟨⟨⟨⟨⟨⟨⟨⟨⟨⟨⟨⟨⟨⟨⟨⟨⟨⟨⟨⟨⟨⟨⟨⟨⟨⟨⟨⟨⟨h1, h2⟩, h3⟩, h4⟩, h5⟩, h6⟩, h7⟩, h8⟩, h9⟩, h10⟩, h11⟩, h12⟩, h13⟩, h14⟩, h15⟩, h16⟩, h17⟩, h18⟩, h19⟩, h20⟩, h21⟩, h22⟩, h23⟩, h24⟩, h25⟩, h26⟩, h27⟩, h28⟩, h29⟩, h30⟩ := h
  exact ⟨⟨iE_is h1, iE_is h2, iE_is h3, iE_is h4, iE_is h5⟩, ⟨iE_is h6, iE_is h7, iE_is h8, iE_is h9⟩, ⟨iE_is h10, iE_is h11, iE_is h12, iE_is h13, iE_is h14⟩, ⟨iE_is h15, iE_is h16, iE_is h17, iE_is h18, iE_is h19⟩, ⟨bI_is h20, bI_is h21⟩, ⟨bI_is h22, bI_is h23, bI_is h24, bI_is h25⟩, bI_is h26, bI_is h27, bI_is h28, bI_is h29, bI_is h30⟩
