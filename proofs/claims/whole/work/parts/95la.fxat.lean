/-! AT x: what the fraction needs -/
def fP1 (N : Nat) (U f : Int → Int) (x : Int) : Prop := (eV N U f 1 x = wN N U f x 0 ∧ gV N U f 1 x = 1) ∧ okb (wN N U f x 0)
def fP2 (N : Nat) (U f : Int → Int) (x : Int) : Prop := ((((gV N U f 2 x = wN N U f x 1 ∧ eV N U f 2 x = wN N U f x 0 * gV N U f 2 x - DD f 2 * dlN N f 2) ∧ okb (wN N U f x 1)) ∧ okb (dlN N f 2)) ∧ okb (DD f 2 * dlN N f 2)) ∧ okb (eV N U f 2 x)
def fP3 (N : Nat) (U f : Int → Int) (x : Int) : Prop := (((((((((wN N U f x 1 * wN N U f x 2 - DD f 3 * dlN N f 3 = gV N U f 3 x * (DD f 2 * DD f 2) ∧ wN N U f x 0 * gV N U f 3 x - wN N U f x 2 = eV N U f 3 x) ∧ okb (wN N U f x 2)) ∧ okb (DD f 2 * dlN N f 3)) ∧ okb (DD f 3 * dlN N f 3)) ∧ okb (DD f 2 * wN N U f x 2)) ∧ okb (gV N U f 3 x * (DD f 2 * DD f 2))) ∧ okb (wN N U f x 1)) ∧ okb (DD f 2)) ∧ okb (gV N U f 3 x)) ∧ okb (eV N U f 3 x)
def fP4 (U f : Int → Int) (x R : Int) : Prop := (((((((((((((((((R * (DD f 3 * DD f 3) = wN 4 U f x 2 * wN 4 U f x 3 - DD f 4 * (DD f 2 * DD f 2) ∧ gV 4 U f 4 x * (DD f 2 * DD f 2) = wN 4 U f x 1 * R - wN 4 U f x 3) ∧ okb (wN 4 U f x 3)) ∧ okb (DD f 3)) ∧ okb (DD f 4 * DD f 2)) ∧ okb (DD f 3 * wN 4 U f x 3)) ∧ okb (wN 4 U f x 2)) ∧ okb (DD f 2 * DD f 3)) ∧ okb (DD f 2 * (DD f 3 * wN 4 U f x 3))) ∧ okb (R * (DD f 3 * DD f 3))) ∧ okb (DD f 2 * R)) ∧ okb (wN 4 U f x 1)) ∧ okb (DD f 2)) ∧ okb (gV 4 U f 4 x * (DD f 2 * DD f 2))) ∧ okb R) ∧ okb (gV 4 U f 4 x)) ∧ okb (eV 4 U f 4 x)) ∧ okb (wN 4 U f x 2 * wN 4 U f x 3)) ∧ okb (DD f 2 * (DD f 3 * DD f 3))
theorem fP1_at {N : Nat} {U f : Int → Int} (f0 : f 0 = 1) (C : cxK N U f = true) {x : Int} (x1 : -20 ≤ x) (x2 : x ≤ 20) : fP1 N U f x := by
  obtain ⟨a1, a2, a3, a4⟩ := cx1_is (cx_get C).1
  have hw0 : wN N U f x 0 = x * 1 - nN N U f 0 := by unfold wN; rw [dN_0 f0]
  refine ⟨⟨?_, ?_⟩, ?_⟩
  · rw [eV_1, a1, a2, hw0]
    omega
  · rw [gV_1, a3]
  · rw [hw0]
    exact ⟨by omega, by omega⟩
theorem fP2_at {N : Nat} {U f : Int → Int} (f0 : f 0 = 1) (N2 : 2 ≤ N) (C : cxK N U f = true) {x : Int} (x1 : -20 ≤ x) (x2 : x ≤ 20) : fP2 N U f x := by
  obtain ⟨a1, a2, a3, a4⟩ := cx1_is (cx_get C).1
  obtain ⟨b1, b2, b3, b4, b5, b6, b7, b8⟩ := cx2_is ((cx_get C).2.1 N2)
  have hw0 : wN N U f x 0 = x * 1 - nN N U f 0 := by unfold wN; rw [dN_0 f0]
  have hw1 : wN N U f x 1 = x * dlN N f 2 - nN N U f 1 := by unfold wN; rw [dN_1 f0]
  have bx : x.natAbs ≤ 20 := by omega
  have G : gV N U f 2 x = wN N U f x 1 := by rw [gV_2, b1, b2, hw1]; grind
  have bw1 : (wN N U f x 1).natAbs ≤ 20 * 36 + 72 := by rw [hw1]; exact nb_sub (nb_mul bx b8) b6
  have bw0 : (wN N U f x 0).natAbs ≤ 20 * 1 + 6 := by rw [hw0]; exact nb_sub (nb_mul bx (by decide)) a4
  have E : eV N U f 2 x = wN N U f x 0 * gV N U f 2 x - DD f 2 * dlN N f 2 := by rw [G, eV_2, b3, b4, b5, hw0, hw1]; grind
  refine ⟨⟨⟨⟨⟨G, E⟩, okb_nb bw1 (by decide)⟩, okb_nb b8 (by decide)⟩, okb_nb (nb_mul b7 b8) (by decide)⟩, ?_⟩
  rw [E, G]
  exact okb_nb (nb_sub (nb_mul bw0 bw1) (nb_mul b7 b8)) (by decide)
theorem fP3_at {N : Nat} {U f : Int → Int} (f0 : f 0 = 1) (N3 : 3 ≤ N) (C : cxK N U f = true) {x : Int} (x1 : -20 ≤ x) (x2 : x ≤ 20) : fP3 N U f x := by
  obtain ⟨a1, a2, a3, a4⟩ := cx1_is (cx_get C).1
  obtain ⟨b1, b2, b3, b4, b5, b6, b7, b8⟩ := cx2_is ((cx_get C).2.1 (by omega))
  obtain ⟨⟨c1, c2, c3, c4, c5, c6, c7⟩, _, ⟨d1, d2, d3⟩, ⟨e1, e2, e3⟩, _⟩ := cx3_is ((cx_get C).2.2.1 N3)
  have hw0 : wN N U f x 0 = x * 1 - nN N U f 0 := by unfold wN; rw [dN_0 f0]
  have hw1 : wN N U f x 1 = x * DD f 2 - nN N U f 1 := by unfold wN; rw [dN_1 f0, dlN_lt (by omega)]
  have hw2 : wN N U f x 2 = x * (DD f 2 * dlN N f 3) - nN N U f 2 := rfl
  have bx : x.natAbs ≤ 20 := by omega
  have bw0 : (wN N U f x 0).natAbs ≤ 20 * 1 + 6 := by rw [hw0]; exact nb_sub (nb_mul bx (by decide)) a4
  have bw1 : (wN N U f x 1).natAbs ≤ 20 * 36 + 72 := by rw [hw1]; exact nb_sub (nb_mul bx b7) b6
  have bw2 : (wN N U f x 2).natAbs ≤ 20 * (36 * 6561) + 347760 := by rw [hw2]; exact nb_sub (nb_mul bx (nb_mul b7 d3)) d1
  have bG : (gV N U f 3 x).natAbs ≤ (90000 * 20 + 90000) * 20 + 90000 := by rw [gV_3]; exact nb_add (nb_mul (nb_add (nb_mul e1 bx) e2) bx) e3
  have G : wN N U f x 1 * wN N U f x 2 - DD f 3 * dlN N f 3 = gV N U f 3 x * (DD f 2 * DD f 2) := by
    have t : gV N U f 3 x * (DD f 2 * DD f 2) = x * x * (gC N U f 3 2 * (DD f 2 * DD f 2)) + x * (gC N U f 3 1 * (DD f 2 * DD f 2)) + gC N U f 3 0 * (DD f 2 * DD f 2) := by rw [gV_3]; grind
    rw [t, c1, c2, c3, hw1, hw2]
    grind
  have E : wN N U f x 0 * gV N U f 3 x - wN N U f x 2 = eV N U f 3 x := by
    rw [gV_3, eV_3, c4, c5, c6, c7, hw0, hw2, ← c1]
    grind
  refine ⟨⟨⟨⟨⟨⟨⟨⟨⟨⟨G, E⟩, okb_nb bw2 (by decide)⟩, okb_nb (nb_mul b7 d3) (by decide)⟩, okb_nb (nb_mul d2 d3) (by decide)⟩, okb_nb (nb_mul b7 bw2) (by decide)⟩, okb_nb (nb_mul bG (nb_mul b7 b7)) (by decide)⟩, okb_nb bw1 (by decide)⟩, okb_nb b7 (by decide)⟩, okb_nb bG (by decide)⟩, ?_⟩
  rw [← E]
  exact okb_nb (nb_sub (nb_mul bw0 bG) bw2) (by decide)
theorem fP4_at {U f : Int → Int} (f0 : f 0 = 1) (C : cxK 4 U f = true) {x : Int} (x1 : -20 ≤ x) (x2 : x ≤ 20) : fP4 U f x (wN 4 U f x 0 * gV 4 U f 4 x - eV 4 U f 4 x) := by
  obtain ⟨a1, a2, a3, a4⟩ := cx1_is (cx_get C).1
  obtain ⟨b1, b2, b3, b4, b5, b6, b7, b8⟩ := cx2_is ((cx_get C).2.1 (by omega))
  obtain ⟨⟨c1, c2, c3, c4, c5, c6, c7⟩, _, ⟨d1, d2, d3⟩, ⟨e1, e2, e3⟩, _⟩ := cx3_is ((cx_get C).2.2.1 (by omega))
  obtain ⟨⟨h1, h2, h3, h4, h5⟩, ⟨i1, i2, i3, i4⟩, _, _, ⟨j1, j2⟩, ⟨k1, k2, k3, k4⟩, l1, l2, l3, l4, l5⟩ := cx4_is ((cx_get C).2.2.2 (by omega))
  have hw0 : wN 4 U f x 0 = x * 1 - nN 4 U f 0 := by unfold wN; rw [dN_0 f0]
  have hw1 : wN 4 U f x 1 = x * DD f 2 - nN 4 U f 1 := by unfold wN; rw [dN_1 f0, dlN_lt (by omega)]
  have hw2 : wN 4 U f x 2 = x * (DD f 2 * DD f 3) - nN 4 U f 2 := by
    show x * (DD f 2 * dlN 4 f 3) - nN 4 U f 2 = _
    rw [dlN_lt (by omega)]
  have hw3 : wN 4 U f x 3 = x * DD f 3 - nN 4 U f 3 := by
    show x * (DD f 3 * 1) - nN 4 U f 3 = _
    rw [Int.mul_one]
  have bx : x.natAbs ≤ 20 := by omega
  have bw0 : (wN 4 U f x 0).natAbs ≤ 20 * 1 + 6 := by rw [hw0]; exact nb_sub (nb_mul bx (by decide)) a4
  have bw1 : (wN 4 U f x 1).natAbs ≤ 20 * 36 + 72 := by rw [hw1]; exact nb_sub (nb_mul bx b7) b6
  have bw2 : (wN 4 U f x 2).natAbs ≤ 20 * (36 * 6561) + 347760 := by rw [hw2]; exact nb_sub (nb_mul bx (nb_mul b7 d2)) d1
  have bw3 : (wN 4 U f x 3).natAbs ≤ 20 * 6561 + 21870 := by rw [hw3]; exact nb_sub (nb_mul bx d2) j1
  have bG : (gV 4 U f 4 x).natAbs ≤ ((75 * 20 + 75) * 20 + 75) * 20 + 75 := by rw [gV_4]; exact nb_add (nb_mul (nb_add (nb_mul (nb_add (nb_mul k1 bx) k2) bx) k3) bx) k4
  have bE : (eV 4 U f 4 x).natAbs ≤ (((576 * 20 + 576) * 20 + 576) * 20 + 576) * 20 + 576 := by rw [eV_4]; exact nb_add (nb_mul (nb_add (nb_mul (nb_add (nb_mul (nb_add (nb_mul l1 bx) l2) bx) l3) bx) l4) bx) l5
  have R : wN 4 U f x 0 * gV 4 U f 4 x - eV 4 U f 4 x = (rC U f 2 * x + rC U f 1) * x + rC U f 0 := by
    rw [gV_4, eV_4, hw0, ← h1, ← h2]
    show _ = ((gC 4 U f 4 1 - nN 4 U f 0 * gC 4 U f 4 2 - eC 4 U f 4 2) * x + (gC 4 U f 4 0 - nN 4 U f 0 * gC 4 U f 4 1 - eC 4 U f 4 1)) * x + (-(nN 4 U f 0 * gC 4 U f 4 0) - eC 4 U f 4 0)
    grind
  have bR := nb_sub (nb_mul bw0 bG) bE
  have G1 : (wN 4 U f x 0 * gV 4 U f 4 x - eV 4 U f 4 x) * (DD f 3 * DD f 3) = wN 4 U f x 2 * wN 4 U f x 3 - DD f 4 * (DD f 2 * DD f 2) := by
    rw [R]
    have t : ((rC U f 2 * x + rC U f 1) * x + rC U f 0) * (DD f 3 * DD f 3) = x * x * (rC U f 2 * (DD f 3 * DD f 3)) + x * (rC U f 1 * (DD f 3 * DD f 3)) + rC U f 0 * (DD f 3 * DD f 3) := by grind
    rw [t, h3, h4, h5, hw2, hw3]
    grind
  have G2 : gV 4 U f 4 x * (DD f 2 * DD f 2) = wN 4 U f x 1 * (wN 4 U f x 0 * gV 4 U f 4 x - eV 4 U f 4 x) - wN 4 U f x 3 := by
    rw [R]
    have t : gV 4 U f 4 x * (DD f 2 * DD f 2) = x * x * x * (gC 4 U f 4 3 * (DD f 2 * DD f 2)) + x * x * (gC 4 U f 4 2 * (DD f 2 * DD f 2)) + x * (gC 4 U f 4 1 * (DD f 2 * DD f 2)) + gC 4 U f 4 0 * (DD f 2 * DD f 2) := by rw [gV_4]; grind
    rw [t, i1, i2, i3, i4, hw1, hw3]
    grind
  refine ⟨⟨⟨⟨⟨⟨⟨⟨⟨⟨⟨⟨⟨⟨⟨⟨⟨⟨G1, G2⟩, okb_nb bw3 (by decide)⟩, okb_nb d2 (by decide)⟩, okb_nb (nb_mul j2 b7) (by decide)⟩, okb_nb (nb_mul d2 bw3) (by decide)⟩, okb_nb bw2 (by decide)⟩, okb_nb (nb_mul b7 d2) (by decide)⟩, okb_nb (nb_mul b7 (nb_mul d2 bw3)) (by decide)⟩, okb_nb (nb_mul bR (nb_mul d2 d2)) (by decide)⟩, okb_nb (nb_mul b7 bR) (by decide)⟩, okb_nb bw1 (by decide)⟩, okb_nb b7 (by decide)⟩, okb_nb (nb_mul bG (nb_mul b7 b7)) (by decide)⟩, okb_nb bR (by decide)⟩, okb_nb bG (by decide)⟩, okb_nb bE (by decide)⟩, okb_nb (nb_mul bw2 bw3) (by decide)⟩, okb_nb (nb_mul b7 (nb_mul d2 d2)) (by decide)⟩
