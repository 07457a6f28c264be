/-! AT x: what the squares need -/
def kFv (N : Nat) (U f : Int → Int) (x : Int) (k : Nat) : Int := if k = 0 then 0 else if k = N then dV N U f N x * eV N U f ((k : Int) - 1) x - dV N U f ((k : Int) - 1) x * eV N U f N x else if k = 1 then 1 else if k = 2 then DD f 2 + eV N U f 1 x * eV N U f 1 x else (((cF N U f 4 * x + cF N U f 3) * x + cF N U f 2) * x + cF N U f 1) * x + cF N U f 0
def kP16 (D F' F D1 E w d1 E0 E1 : Int) : Prop := ((((((((((((((D * F' = F * D1 + E * E ∧ w * E - D1 * d1 * E0 = E1 * (D * D)) ∧ okb (E * E)) ∧ okb (D * D1)) ∧ okb (D * F')) ∧ okb (w * E)) ∧ okb (D * D * d1)) ∧ okb (D1 * E0)) ∧ okb (D * D)) ∧ okb w) ∧ okb (D * d1)) ∧ okb (E1 * (D * D))) ∧ okb E) ∧ okb D) ∧ okb F') ∧ okb D1
def kxP (N : Nat) (U f : Int → Int) (x : Int) (k : Nat) : Prop := kP16 (DD f k) (kFv N U f x (k + 1)) (kFv N U f x k) (DD f ((k : Int) + 1)) (eV N U f k x) (wN N U f x k) (dlN N f ((k : Int) + 1)) (eV N U f ((k : Int) - 1) x) (eV N U f ((k : Int) + 1) x)
/-- how big they are follows from how big the parts are -/
theorem kP16_of {D F' F D1 E w d1 E0 E1 : Int} {bD bF bD1 bE bw bd bE0 : Nat} (h1 : D * F' = F * D1 + E * E) (h2 : w * E - D1 * d1 * E0 = E1 * (D * D)) (D0 : 0 < D) (hD : D.natAbs ≤ bD) (hF : F.natAbs ≤ bF) (hD1 : D1.natAbs ≤ bD1) (hE : E.natAbs ≤ bE) (hw : w.natAbs ≤ bw) (hd : d1.natAbs ≤ bd) (hE0 : E0.natAbs ≤ bE0) (q1 : bE * bE ≤ 4611686018427387904) (q2 : bD * bD1 ≤ 4611686018427387904) (q3 : bF * bD1 + bE * bE ≤ 4611686018427387904) (q4 : bw * bE + bD1 * bd * bE0 ≤ 4611686018427387904) (q5 : bD * bD * bd ≤ 4611686018427387904) (q6 : bD1 * bE0 ≤ 4611686018427387904) (q7 : bD * bD ≤ 4611686018427387904) (q8 : bw ≤ 4611686018427387904) (q9 : bD * bd ≤ 4611686018427387904) (qa : bE ≤ 4611686018427387904) (qb : bD ≤ 4611686018427387904) (qc : bD1 ≤ 4611686018427387904) : kP16 D F' F D1 E w d1 E0 E1 := by
  have hF' : (D * F').natAbs ≤ bF * bD1 + bE * bE := by rw [h1]; exact nb_add (nb_mul hF hD1) (nb_mul hE hE)
  have hF2 : F'.natAbs ≤ bF * bD1 + bE * bE := by
    rw [Int.natAbs_mul] at hF'
    have : 1 * F'.natAbs ≤ D.natAbs * F'.natAbs := Nat.mul_le_mul_right _ (by omega)
    omega
  refine ⟨⟨⟨⟨⟨⟨⟨⟨⟨⟨⟨⟨⟨⟨⟨h1, h2⟩, okb_nb (nb_mul hE hE) q1⟩, okb_nb (nb_mul hD hD1) q2⟩, okb_nb hF' q3⟩, okb_nb (nb_mul hw hE) (by omega)⟩, okb_nb (nb_mul (nb_mul hD hD) hd) q5⟩, okb_nb (nb_mul hD1 hE0) q6⟩, okb_nb (nb_mul hD hD) q7⟩, okb_nb hw q8⟩, okb_nb (nb_mul hD hd) q9⟩, ?_⟩, okb_nb hE qa⟩, okb_nb hD qb⟩, okb_nb hF2 q3⟩, okb_nb hD1 qc⟩
  rw [← h2]
  exact okb_nb (nb_sub (nb_mul hw hE) (nb_mul (nb_mul hD1 hd) hE0)) q4
theorem nb_div {D F : Int} {B : Nat} (p : 0 < D) (h : (D * F).natAbs ≤ B) : F.natAbs ≤ B := by
  rw [Int.natAbs_mul] at h
  have : 1 * F.natAbs ≤ D.natAbs * F.natAbs := Nat.mul_le_mul_right _ (by omega)
  omega
theorem q_poly3 (a b c d x m : Int) : (((a * x + b) * x + c) * x + d) * m = x * x * x * (a * m) + x * x * (b * m) + x * (c * m) + d * m := by grind
theorem q_poly4 (a b c d e x m : Int) : ((((a * x + b) * x + c) * x + d) * x + e) * m = x * x * x * x * (a * m) + x * x * x * (b * m) + x * x * (c * m) + x * (d * m) + e * m := by grind
theorem q_poly4l (a b c d e x m : Int) : m * ((((a * x + b) * x + c) * x + d) * x + e) = x * x * x * x * (m * a) + x * x * x * (m * b) + x * x * (m * c) + x * (m * d) + m * e := by grind
theorem q_dpoly3 (a b c x m : Int) : ((3 * a * x + 2 * b) * x + c) * m = 3 * (x * x) * (a * m) + 2 * x * (b * m) + c * m := by grind
theorem q_dpoly4 (a b c d x m : Int) : (((4 * a * x + 3 * b) * x + 2 * c) * x + d) * m = 4 * (x * x * x) * (a * m) + 3 * (x * x) * (b * m) + 2 * x * (c * m) + d * m := by grind
theorem q_R3 (x D b2 b1 b0 n2 T n0 : Int) : x * x * x * (D * b2) + x * x * (D * b1 - n2 * b2) + x * (D * b0 - n2 * b1 - T) + (T * n0 - n2 * b0) = (x * D - n2) * ((b2 * x + b1) * x + b0) - T * (x - n0) := by grind
theorem q_R3' (x D b2 b1 b0 n2 T : Int) : 3 * (x * x) * (D * b2) + 2 * x * (D * b1 - n2 * b2) + (D * b0 - n2 * b1 - T) = D * ((b2 * x + b1) * x + b0) + (x * D - n2) * (2 * b2 * x + b1) - T := by grind
theorem q_R4 (x D c3 c2 c1 c0 b2 b1 b0 n T : Int) : x * x * x * x * (D * c3) + x * x * x * (D * c2 - n * c3) + x * x * (D * c1 - n * c2 - T * b2) + x * (D * c0 - n * c1 - T * b1) + (-(n * c0) - T * b0) = (x * D - n) * (((c3 * x + c2) * x + c1) * x + c0) - T * ((b2 * x + b1) * x + b0) := by grind
theorem q_R4' (x D c3 c2 c1 c0 b2 b1 n T : Int) : 4 * (x * x * x) * (D * c3) + 3 * (x * x) * (D * c2 - n * c3) + 2 * x * (D * c1 - n * c2 - T * b2) + (D * c0 - n * c1 - T * b1) = D * (((c3 * x + c2) * x + c1) * x + c0) + (x * D - n) * ((3 * c3 * x + 2 * c2) * x + c1) - T * (2 * b2 * x + b1) := by grind
theorem q_cF (x b2 b1 b0 D2 D3 n0 : Int) : x * x * x * x * (b2 * b2) + x * x * x * (2 * (b2 * b1)) + x * x * (D3 + (2 * (b2 * b0) + b1 * b1)) + x * (2 * (b1 * b0) - 2 * (n0 * D3)) + (D3 * (D2 + n0 * n0) + b0 * b0) = (D2 + (x - n0) * (x - n0)) * D3 + ((b2 * x + b1) * x + b0) * ((b2 * x + b1) * x + b0) := by grind
theorem q_W1 (x n0 n1 D : Int) : (2 * D * x + -(n1 + n0 * D)) * (x - n0) - ((D * x + -(n1 + n0 * D)) * x + (n0 * n1 - D * D)) = D * (D + (x - n0) * (x - n0)) := by grind
theorem q_F2 (x n0 n1 D : Int) : (2 * 1 * x + -(n1 + n0 * 1)) * (x - n0) - 1 * ((1 * x + -(n1 + n0 * 1)) * x + (n0 * n1 - D * 1)) = D + (x - n0) * (x - n0) := by grind
theorem q_k1 (x n0 n1 D d : Int) : (x * d - n1) * (x - n0) - D * d * 1 = ((d * x + -(n1 + n0 * d)) * x + (n0 * n1 - D * d)) * (1 * 1) := by grind
theorem q_a (m g e p d : Int) : m * (m * (d * e - g * p)) = d * (m * m) * e - g * (p * (m * m)) := by grind
theorem q_b (D E w g T A : Int) : (D * E + w * g - T) * E - g * (w * E - T * A) = D * (E * E) + T * (g * A - E) := by grind
theorem q_c (D F T E : Int) : D * (E * E) + T * (D * F) = D * (F * T + E * E) := by grind
theorem q_d (D C F : Int) : D * D * (C * F) = D * C * (D * F) := by grind
theorem q_e (D C F E : Int) : D * C * (E * E) + C * C * (D * F) = D * C * (F * C + E * E) := by grind
theorem q_f (m d e g p : Int) : m * m * (d * e - g * p) = d * (m * m) * e - g * (p * (m * m)) := by grind
theorem q_g (D E w g T h A : Int) : (D * E + w * g - T * h) * E - g * (w * E - T * A) = D * (E * E) + T * (g * A - h * E) := by grind
theorem q_h (D E T F : Int) : D * (E * E) + T * (D * F) = D * (F * T + E * E) := by grind
/-- the square's sum goes on, at the end of three and of four -/
theorem sq_end3 {D2 D3 F2 F3 E1 E2 P w g d : Int} (n : D2 ≠ 0) (G : F3 = d * E2 - g * P) (R : P * (D2 * D2) = w * E2 - D3 * E1) (R' : d * (D2 * D2) = D2 * E2 + w * g - D3) (W : g * E1 - E2 = D2 * F2) : D2 * F3 = F2 * D3 + E2 * E2 := by
  refine Int.eq_of_mul_eq_mul_left n ?_
  rw [G, q_a, R, R', q_b, W, q_c]
theorem sq_mid4 {D2 D3 F2 F3 E1 E2 E3 w g d : Int} (n : D2 ≠ 0) (R : E3 * (D2 * D2) = w * E2 - D3 * D3 * E1) (R' : d * (D2 * D2) = D2 * D3 * E2 + w * g - D3 * D3) (W : g * E1 - E2 = D2 * F2) (F : D2 * F3 = F2 * D3 + E2 * E2) : d * E2 - g * E3 = D3 * F3 := by
  refine Int.eq_of_mul_eq_mul_left (Int.mul_ne_zero n n) ?_
  rw [q_f, R, R', q_b, W, q_e, q_d, F]
theorem sq_end4 {D3 D4 F3 F4 E2 E3 P w g d h : Int} (n : D3 ≠ 0) (G : F4 = h * E3 - d * P) (R : P * (D3 * D3) = w * E3 - D4 * E2) (R' : h * (D3 * D3) = D3 * E3 + w * d - D4 * g) (W : d * E2 - g * E3 = D3 * F3) : D3 * F4 = F3 * D4 + E3 * E3 := by
  refine Int.eq_of_mul_eq_mul_left n ?_
  rw [G, q_a, R, R', q_g, W, q_h]
set_option maxHeartbeats 1000000 in
theorem kx_3 {U f : Int → Int} (f0 : f 0 = 1) (Dp : ∀ i : Nat, i ≤ 4 → 0 < DD f i) (C : cxK 4 U f = true) {x : Int} (x1 : -8 ≤ x) (x2 : x ≤ 8) : kxP 4 U f x 3 := by
  have bx : x.natAbs ≤ 8 := by omega
  have D2p : 0 < DD f 2 := Dp 2 (by omega)
  have D2n : DD f 2 ≠ 0 := by omega
  have D3p : 0 < DD f 3 := Dp 3 (by omega)
  have D3n : DD f 3 ≠ 0 := by omega
  obtain ⟨a1, a2, a3, a4⟩ := cx1_is (cx_get C).1
  have E1 : eV 4 U f 1 x = x - nN 4 U f 0 := by rw [eV_1, a1, a2, Int.one_mul]; rfl
  have bE1 : (eV 4 U f 1 x).natAbs ≤ 14 := by rw [E1]; exact nb_sub bx a4
  obtain ⟨b1, b2, b3, b4, b5, b6, b7, b8⟩ := cx2_is ((cx_get C).2.1 (by decide))
  obtain ⟨_, ⟨c1, c2, c3, c4⟩, ⟨d1, d2, d3⟩, _, l1, l2, l3, l4⟩ := cx3_is ((cx_get C).2.2.1 (by omega))
  obtain ⟨_, _, ⟨h10, h11, h12, h13, h14⟩, ⟨h15, h16, h17, h18, h19⟩, ⟨j1, j2⟩, _⟩ := cx4_is ((cx_get C).2.2.2 (by omega))
  have e2 : dlN 4 f 2 = DD f 2 := dlN_lt (by omega)
  have e3 : dlN 4 f 3 = DD f 3 := dlN_lt (by omega)
  rw [e2] at b3 b4 b5
  rw [e3] at c1 c2 c3 c4 d3
  have hw3 : wN 4 U f x 3 = x * DD f 3 - nN 4 U f 3 := by
    show x * (DD f 3 * 1) - nN 4 U f 3 = _
    rw [Int.mul_one]
  obtain ⟨w2, hw2⟩ : ∃ w2, w2 = x * (DD f 2 * DD f 3) - nN 4 U f 2 := ⟨_, rfl⟩
  have bw3 : (wN 4 U f x 3).natAbs ≤ 8 * 6561 + 21870 := by rw [hw3]; exact nb_sub (nb_mul bx d2) j1
  have E2 : eV 4 U f 2 x = (DD f 2 * x + -(nN 4 U f 1 + nN 4 U f 0 * DD f 2)) * x + (nN 4 U f 0 * nN 4 U f 1 - DD f 2 * DD f 2) := by rw [eV_2, b3, b4, b5]
  have bE2 : (eV 4 U f 2 x).natAbs ≤ (36 * 8 + (72 + 6 * 36)) * 8 + (6 * 72 + 36 * 36) := by
    rw [E2]
    refine nb_add (nb_mul (nb_add (nb_mul b7 bx) ?_) bx) (nb_sub (nb_mul a4 b6) (nb_mul b7 b7))
    rw [Int.natAbs_neg]
    exact nb_add b6 (nb_mul a4 b7)
  have bE3 : (eV 4 U f 3 x).natAbs ≤ ((358263 * 8 + 358263) * 8 + 358263) * 8 + 358263 := by rw [eV_3]; exact nb_add (nb_mul (nb_add (nb_mul (nb_add (nb_mul l1 bx) l2) bx) l3) bx) l4
  show kP16 (DD f 3) (kFv 4 U f x 4) (kFv 4 U f x 3) (DD f 4) (eV 4 U f 3 x) (wN 4 U f x 3) 1 (eV 4 U f 2 x) (eV 4 U f 4 x)
  have F2 : kFv 4 U f x 2 = DD f 2 + eV 4 U f 1 x * eV 4 U f 1 x := by
    unfold kFv
    rw [if_neg (by decide), if_neg (by decide), if_neg (by decide), if_pos rfl]
  have G3 : kFv 4 U f x 3 = (((cF 4 U f 4 * x + cF 4 U f 3) * x + cF 4 U f 2) * x + cF 4 U f 1) * x + cF 4 U f 0 := by
    unfold kFv
    rw [if_neg (by decide), if_neg (by decide), if_neg (by decide), if_neg (by decide)]
  have F3 : DD f 2 * kFv 4 U f x 3 = kFv 4 U f x 2 * DD f 3 + eV 4 U f 2 x * eV 4 U f 2 x := by
    rw [G3, q_poly4l, h15, h16, h17, h18, h19, F2, E1, eV_2]
    exact q_cF _ _ _ _ _ _ _
  have bF2 : (kFv 4 U f x 2).natAbs ≤ 36 + 14 * 14 := by rw [F2]; exact nb_add b7 (nb_mul bE1 bE1)
  have bF3 : (kFv 4 U f x 3).natAbs ≤ (36 + 14 * 14) * 6561 + ((36 * 8 + (72 + 6 * 36)) * 8 + (6 * 72 + 36 * 36)) * ((36 * 8 + (72 + 6 * 36)) * 8 + (6 * 72 + 36 * 36)) := by
    have t := nb_add (nb_mul bF2 d2) (nb_mul bE2 bE2)
    rw [← F3] at t
    exact nb_div D2p t
  have R3 : eV 4 U f 3 x * (DD f 2 * DD f 2) = w2 * eV 4 U f 2 x - DD f 3 * DD f 3 * eV 4 U f 1 x := by
    rw [eV_3, q_poly3, ← c1, ← c2, ← c3, ← c4, E1, hw2, eV_2]
    exact q_R3 _ _ _ _ _ _ _ _
  have R3' : dV 4 U f 3 x * (DD f 2 * DD f 2) = DD f 2 * DD f 3 * eV 4 U f 2 x + w2 * dV 4 U f 2 x - DD f 3 * DD f 3 := by
    rw [dV_3, q_dpoly3, ← c1, ← c2, ← c3, hw2, eV_2, dV_2]
    exact q_R3' _ _ _ _ _ _ _
  have W1 : dV 4 U f 2 x * eV 4 U f 1 x - eV 4 U f 2 x = DD f 2 * kFv 4 U f x 2 := by
    rw [F2, dV_2, b3, b4, E2, E1]
    exact q_W1 _ _ _ _
  have W2 : dV 4 U f 3 x * eV 4 U f 2 x - dV 4 U f 2 x * eV 4 U f 3 x = DD f 3 * kFv 4 U f x 3 := sq_mid4 D2n R3 R3' W1 F3
  have R4 : eV 4 U f 4 x * (DD f 3 * DD f 3) = wN 4 U f x 3 * eV 4 U f 3 x - DD f 4 * eV 4 U f 2 x := by
    rw [eV_4, q_poly4, ← h10, ← h11, ← h12, ← h13, ← h14, hw3, eV_3, eV_2]
    exact q_R4 _ _ _ _ _ _ _ _ _ _ _
  have R4' : dV 4 U f 4 x * (DD f 3 * DD f 3) = DD f 3 * eV 4 U f 3 x + wN 4 U f x 3 * dV 4 U f 3 x - DD f 4 * dV 4 U f 2 x := by
    rw [dV_4, q_dpoly4, ← h10, ← h11, ← h12, ← h13, hw3, eV_3, dV_3, dV_2]
    exact q_R4' _ _ _ _ _ _ _ _ _ _
  have G : kFv 4 U f x 4 = dV 4 U f 4 x * eV 4 U f 3 x - dV 4 U f 3 x * eV 4 U f 4 x := by
    unfold kFv
    rw [if_neg (by decide), if_pos rfl]
    rfl
  have F4 : DD f 3 * kFv 4 U f x 4 = kFv 4 U f x 3 * DD f 4 + eV 4 U f 3 x * eV 4 U f 3 x := sq_end4 D3n G R4 R4' W2
  refine kP16_of (bD := 6561) (bF := (36 + 14 * 14) * 6561 + ((36 * 8 + (72 + 6 * 36)) * 8 + (6 * 72 + 36 * 36)) * ((36 * 8 + (72 + 6 * 36)) * 8 + (6 * 72 + 36 * 36))) (bD1 := 10036224) (bE := ((358263 * 8 + 358263) * 8 + 358263) * 8 + 358263) (bw := 8 * 6561 + 21870) (bd := 1) (bE0 := (36 * 8 + (72 + 6 * 36)) * 8 + (6 * 72 + 36 * 36)) F4 ?_ D3p d2 bF3 j2 bE3 bw3 (by decide) bE2 (by decide) (by decide) (by decide) (by decide) (by decide) (by decide) (by decide) (by decide) (by decide) (by decide) (by decide) (by decide)
  rw [Int.mul_one]
  exact R4.symm
set_option maxHeartbeats 1000000 in
theorem kx_at {N : Nat} {U f : Int → Int} (f0 : f 0 = 1) (N1 : 1 ≤ N) (N4 : N ≤ 4) (Dp : ∀ i : Nat, i ≤ N → 0 < DD f i) (C : cxK N U f = true) {x : Int} (x1 : -8 ≤ x) (x2 : x ≤ 8) {k : Nat} (hk : k < N) : kxP N U f x k := by
  obtain ⟨a1, a2, a3, a4⟩ := cx1_is (cx_get C).1
  have bx : x.natAbs ≤ 8 := by omega
  have D1 : DD f 1 = 1 := f0
  have D0 : DD f 0 = 1 := rfl
  have hw0 : wN N U f x 0 = x * 1 - nN N U f 0 := by unfold wN; rw [dN_0 f0]
  have E1 : eV N U f 1 x = x - nN N U f 0 := by rw [eV_1, a1, a2]; omega
  have bE1 : (eV N U f 1 x).natAbs ≤ 14 := by rw [E1]; omega
  have E0 : eV N U f 0 x = 1 := eV_0 N1
  have F0 : kFv N U f x 0 = 0 := if_pos rfl
  have F1 : kFv N U f x 1 = 1 := by
    unfold kFv
    rw [if_neg (by omega)]
    by_cases h : 1 = N
    · subst h
      rw [if_pos rfl]
      show dV 1 U f 1 x * eV 1 U f 0 x - dV 1 U f 0 x * eV 1 U f 1 x = 1
      rw [dV_1, a1, E0, show dV 1 U f 0 x = 0 from rfl, Int.zero_mul]
      rfl
    · rw [if_neg h, if_pos rfl]
  have : k = 0 ∨ k = 1 ∨ k = 2 ∨ k = 3 := by omega
  rcases this with rfl | rfl | rfl | rfl
  · show kP16 (DD f 0) (kFv N U f x 1) (kFv N U f x 0) (DD f 1) (eV N U f 0 x) (wN N U f x 0) (dlN N f 1) 0 (eV N U f 1 x)
    have d1 : dlN N f 1 = 1 := by
      unfold dlN
      split
      · rfl
      · exact f0
    rw [D0, F1, F0, D1, E0, d1, hw0, E1]
    exact kP16_of (bD := 1) (bF := 0) (bD1 := 1) (bE := 1) (bw := 14) (bd := 1) (bE0 := 0) (by omega) (by omega) (by omega) (by decide) (by decide) (by decide) (by decide) (by omega) (by decide) (by decide) (by decide) (by decide) (by decide) (by decide) (by decide) (by decide) (by decide) (by decide) (by decide) (by decide) (by decide) (by decide)
  · obtain ⟨b1, b2, b3, b4, b5, b6, b7, b8⟩ := cx2_is ((cx_get C).2.1 (by omega))
    have hw1 : wN N U f x 1 = x * dlN N f 2 - nN N U f 1 := by unfold wN; rw [dN_1 f0]
    have bw1 : (wN N U f x 1).natAbs ≤ 8 * 36 + 72 := by rw [hw1]; exact nb_sub (nb_mul bx b8) b6
    show kP16 (DD f 1) (kFv N U f x 2) (kFv N U f x 1) (DD f 2) (eV N U f 1 x) (wN N U f x 1) (dlN N f 2) (eV N U f 0 x) (eV N U f 2 x)
    have F2 : kFv N U f x 2 = DD f 2 + eV N U f 1 x * eV N U f 1 x := by
      unfold kFv
      rw [if_neg (by omega)]
      by_cases h : 2 = N
      · subst h
        rw [if_pos rfl]
        show dV 2 U f 2 x * eV 2 U f 1 x - dV 2 U f 1 x * eV 2 U f 2 x = _
        have d2 : dlN 2 f 2 = 1 := if_pos rfl
        rw [d2] at b3 b4 b5
        rw [dV_2, dV_1, a1, eV_2, b3, b4, b5, E1]
        exact q_F2 _ _ _ _
      · rw [if_neg h, if_neg (by omega), if_pos rfl]
    rw [D1, F2, F1, E0]
    refine kP16_of (bD := 1) (bF := 1) (bD1 := 36) (bE := 14) (bw := 8 * 36 + 72) (bd := 36) (bE0 := 1) (by omega) ?_ (by omega) (by decide) (by decide) b7 bE1 bw1 b8 (by decide) (by decide) (by decide) (by decide) (by decide) (by decide) (by decide) (by decide) (by decide) (by decide) (by decide) (by decide) (by decide)
    rw [eV_2, b3, b4, b5, E1, hw1]
    exact q_k1 _ _ _ _ _
  · obtain ⟨b1, b2, b3, b4, b5, b6, b7, b8⟩ := cx2_is ((cx_get C).2.1 (by omega))
    obtain ⟨_, ⟨c1, c2, c3, c4⟩, ⟨d1, d2, d3⟩, _⟩ := cx3_is ((cx_get C).2.2.1 (by omega))
    have e2 : dlN N f 2 = DD f 2 := dlN_lt (by omega)
    rw [e2] at b3 b4 b5
    have D2p : 0 < DD f 2 := Dp 2 (by omega)
    have D2n : DD f 2 ≠ 0 := by omega
    have hw2 : wN N U f x 2 = x * (DD f 2 * dlN N f 3) - nN N U f 2 := rfl
    have bw2 : (wN N U f x 2).natAbs ≤ 8 * (36 * 6561) + 347760 := by rw [hw2]; exact nb_sub (nb_mul bx (nb_mul b7 d3)) d1
    have E2 : eV N U f 2 x = (DD f 2 * x + -(nN N U f 1 + nN N U f 0 * DD f 2)) * x + (nN N U f 0 * nN N U f 1 - DD f 2 * DD f 2) := by rw [eV_2, b3, b4, b5]
    have bE2 : (eV N U f 2 x).natAbs ≤ (36 * 8 + (72 + 6 * 36)) * 8 + (6 * 72 + 36 * 36) := by
      rw [E2]
      refine nb_add (nb_mul (nb_add (nb_mul b7 bx) ?_) bx) (nb_sub (nb_mul a4 b6) (nb_mul b7 b7))
      rw [Int.natAbs_neg]
      exact nb_add b6 (nb_mul a4 b7)
    show kP16 (DD f 2) (kFv N U f x 3) (kFv N U f x 2) (DD f 3) (eV N U f 2 x) (wN N U f x 2) (dlN N f 3) (eV N U f 1 x) (eV N U f 3 x)
    have F2 : kFv N U f x 2 = DD f 2 + eV N U f 1 x * eV N U f 1 x := by
      unfold kFv
      rw [if_neg (by omega), if_neg (by omega), if_neg (by omega), if_pos rfl]
    have R3 : eV N U f 3 x * (DD f 2 * DD f 2) = wN N U f x 2 * eV N U f 2 x - DD f 3 * dlN N f 3 * eV N U f 1 x := by
      rw [eV_3, q_poly3, ← c1, ← c2, ← c3, ← c4, E1, hw2, eV_2]
      exact q_R3 _ _ _ _ _ _ _ _
    have F3 : DD f 2 * kFv N U f x 3 = kFv N U f x 2 * DD f 3 + eV N U f 2 x * eV N U f 2 x := by
      by_cases h : 3 = N
      · subst h
        have G : kFv 3 U f x 3 = dV 3 U f 3 x * eV 3 U f 2 x - dV 3 U f 2 x * eV 3 U f 3 x := by
          unfold kFv
          rw [if_neg (by omega), if_pos rfl]
          rfl
        have dl : dlN 3 f 3 = 1 := if_pos rfl
        rw [dl] at c1 c2 c3 c4 R3 hw2
        simp only [Int.mul_one] at c1 c2 c3 c4 R3 hw2
        have R3' : dV 3 U f 3 x * (DD f 2 * DD f 2) = DD f 2 * eV 3 U f 2 x + wN 3 U f x 2 * dV 3 U f 2 x - DD f 3 := by
          rw [dV_3, q_dpoly3, ← c1, ← c2, ← c3, hw2, eV_2, dV_2]
          exact q_R3' _ _ _ _ _ _ _
        have W1 : dV 3 U f 2 x * eV 3 U f 1 x - eV 3 U f 2 x = DD f 2 * kFv 3 U f x 2 := by
          rw [F2, dV_2, b3, b4, E2, E1]
          exact q_W1 _ _ _ _
        exact sq_end3 D2n G R3 R3' W1
      · have N4' : N = 4 := by omega
        subst N4'
        obtain ⟨_, _, _, ⟨h15, h16, h17, h18, h19⟩, _⟩ := cx4_is ((cx_get C).2.2.2 (by omega))
        have G : kFv 4 U f x 3 = (((cF 4 U f 4 * x + cF 4 U f 3) * x + cF 4 U f 2) * x + cF 4 U f 1) * x + cF 4 U f 0 := by
          unfold kFv
          rw [if_neg (by omega), if_neg (by omega), if_neg (by omega), if_neg (by omega)]
        rw [G, q_poly4l, h15, h16, h17, h18, h19, F2, E1, eV_2]
        exact q_cF _ _ _ _ _ _ _
    have bF2 : (kFv N U f x 2).natAbs ≤ 36 + 14 * 14 := by rw [F2]; exact nb_add b7 (nb_mul bE1 bE1)
    exact kP16_of (bD := 36) (bF := 36 + 14 * 14) (bD1 := 6561) (bE := (36 * 8 + (72 + 6 * 36)) * 8 + (6 * 72 + 36 * 36)) (bw := 8 * (36 * 6561) + 347760) (bd := 6561) (bE0 := 14) F3 R3.symm D2p b7 bF2 d2 bE2 bw2 d3 bE1 (by decide) (by decide) (by decide) (by decide) (by decide) (by decide) (by decide) (by decide) (by decide) (by decide) (by decide) (by decide)
  · have N4' : N = 4 := by omega
    subst N4'
    exact kx_3 f0 Dp C x1 x2
