/-! OPS: fraction -/
theorem DD_0 (f : Int → Int) : DD f 0 = 1 := rfl
theorem DD_1 {f : Int → Int} (h : f 0 = 1) : DD f 1 = 1 := h
theorem sem_D {N : Nat} {U f : Int → Int} {as cs : List (Int × Int)} (P : semB N U f as cs = true) : (∀ i : Nat, i ≤ N → 0 < DD f i) ∧ f 0 = 1 := by
  unfold semB at P
  simp only [Bool.and_eq_true] at P
  exact ⟨fun i hi => posI_is (all_rng P.1.2 (i := i) (by omega)), iE_is P.2⟩
theorem red_is {p : Int × Int} (h : redB p = true) : 0 < p.2 ∧ Nat.gcd p.1.natAbs p.2.natAbs = 1 := by
  unfold redB at h
  rw [Bool.and_eq_true] at h
  exact ⟨posI_is h.1, Nat.eq_of_beq_eq_true h.2⟩
theorem dN_ne {N : Nat} {U f : Int → Int} {as cs : List (Int × Int)} (P : semB N U f as cs = true) {i : Nat} (hi : i < N) : dN N f i ≠ 0 := by
  have D := (sem_D P).1
  unfold dN dlN
  have d1 := D i (by omega)
  split
  · omega
  · have d2 := D (i + 1) (by omega)
    exact Int.mul_ne_zero (by omega) (by rw [Int.natCast_add, Int.natCast_one] at d2; omega)
theorem sem_a {N : Nat} {U f : Int → Int} {as cs : List (Int × Int)} (P : semB N U f as cs = true) {i : Nat} (hi : i < N) : fq (gz as i) (nN N U f i) (dN N f i) := by
  have d0 := dN_ne P hi
  unfold semB at P
  simp only [Bool.and_eq_true] at P
  have q := all_rng P.1.1.1 hi
  rw [Bool.and_eq_true] at q
  have r := red_is q.1
  exact ⟨d0, r.1, r.2, iE_is q.2⟩
theorem sem_c {N : Nat} {U f : Int → Int} {as cs : List (Int × Int)} (P : semB N U f as cs = true) {i : Nat} (hi : i + 1 < N) : fq (gz cs i) (DD f (i + 2 : Nat) * DD f i) (DD f (i + 1 : Nat) * DD f (i + 1 : Nat)) := by
  have D := (sem_D P).1 (i + 1) (by omega)
  unfold semB at P
  simp only [Bool.and_eq_true] at P
  have q := all_rng P.1.1.2 (i := i) (by omega)
  rw [Bool.and_eq_true] at q
  have r := red_is q.1
  exact ⟨Int.mul_ne_zero (by omega) (by omega), r.1, r.2, iE_is q.2⟩
def l4 (a b c d : Int) : Nat → Int
  | 0 => a
  | 1 => b
  | 2 => c
  | _ => d
theorem cut_1 {Y : jY} {μ : jM} (hX : kX Y μ) {N : Nat} (N4 : N ≤ 4) (kN : 1 ≤ N) {x : Int} (x1 : -20 ≤ x) (x2 : x ≤ 20) {as cs : List (Int × Int)} (t : tabC μ N as cs) {n0 E : Int} (qa0 : fq (gz as 0) n0 1) (e1 : E = x * 1 - n0) (o1 : okb (x * 1 - n0)) : ∃ r : Int32 × jM, f_X8_cutShort Y 31 (ki 1) (ki x) 94 μ = some r ∧ kF 67 95 μ r.2 ∧ ((r.1 = ki 0 ∧ E = 0) ∨ (r.1 = ki 1 ∧ E ≠ 0 ∧ ∃ p, frS r.2 94 p ∧ fq p 1 E)) := by
  obtain ⟨r, c1, c2, c3⟩ := cut_run hX (k := 1) N4 (by omega) kN x1 x2 t (nn := fun _ => n0) (dd := fun _ => 1) (c0 := fun _ => 1) (c1 := fun _ => 1) (fun i hi => by
    have : i = 0 := by omega
    subst this
    exact qa0) (fun i hi => by
    have : i = 0 := by omega
    subst this
    exact fq.w) (MM := fun _ => 1) (T1 := fun _ => x * 1 - n0) (TI := fun _ => 0) (IT := l4 0 1 0 0) (IM := l4 1 E 0 0) rfl rfl (fun t ht _ => by
    have : t = 0 := by omega
    subst this
    refine ⟨by omega, rfl, rfl, o1, okb_1, by rw [Int.sub_zero]; exact o1, okb_1, fun z => ?_⟩
    rw [Int.sub_zero, ← e1] at z
    refine ⟨z, ?_, okb_1, by show okb E; rw [e1]; exact o1⟩
    show 1 * (1 * (x * 1 - n0 - 0)) = 1 * 1 * E
    omega)
  refine ⟨r, c1, c2, ?_⟩
  rcases c3 with ⟨h1, t, h2, h3⟩ | ⟨h1, h2, h3⟩
  · exact Or.inl ⟨h1, by omega⟩
  · have := h2 0 (by omega)
    exact Or.inr ⟨h1, by omega, h3⟩
theorem cut_2 {Y : jY} {μ : jM} (hX : kX Y μ) {N : Nat} (N4 : N ≤ 4) (kN : 2 ≤ N) {x : Int} (x1 : -20 ≤ x) (x2 : x ≤ 20) {as cs : List (Int × Int)} (t : tabC μ N as cs) {n0 n1 d2 D2 w0 w1 G E : Int} (qa0 : fq (gz as 0) n0 1) (qa1 : fq (gz as 1) n1 d2) (qc0 : fq (gz cs 0) D2 1) (hw0 : w0 = x * 1 - n0) (hw1 : w1 = x * d2 - n1) (h1 : G = w1) (h2 : E = w0 * G - D2 * d2) (o0 : okb w0) (o1 : okb w1) (o2 : okb d2) (o3 : okb (D2 * d2)) (o4 : okb E) : ∃ r : Int32 × jM, f_X8_cutShort Y 31 (ki 2) (ki x) 94 μ = some r ∧ kF 67 95 μ r.2 ∧ ((r.1 = ki 0 ∧ (G = 0 ∨ E = 0)) ∨ (r.1 = ki 1 ∧ G ≠ 0 ∧ E ≠ 0 ∧ ∃ p, frS r.2 94 p ∧ fq p G E)) := by
  obtain ⟨r, c1, c2, c3⟩ := cut_run hX (k := 2) N4 (by omega) kN x1 x2 t (nn := l4 n0 n1 0 0) (dd := l4 1 d2 0 0) (c0 := l4 1 D2 0 0) (c1 := l4 1 1 0 0) (fun i hi => by
    have : i = 0 ∨ i = 1 := by omega
    rcases this with rfl | rfl
    · exact qa0
    · exact qa1) (fun i hi => by
    have : i = 0 ∨ i = 1 := by omega
    rcases this with rfl | rfl
    · exact fq.w
    · exact qc0) (MM := l4 d2 G 0 0) (T1 := l4 w1 (w0 * G) 0 0) (TI := l4 0 (D2 * d2) 0 0) (IT := l4 0 (D2 * d2) G 0) (IM := l4 1 G E 0) rfl rfl (fun t ht hs => by
    have : t = 0 ∨ t = 1 := by omega
    rcases this with rfl | rfl
    · show cutS x (x * d2 - n1) d2 D2 1 d2 w1 0 0 1 (D2 * d2) G
      refine ⟨qa1.1, by omega, by rw [hw1], by rw [← hw1]; exact o1, o2, by rw [Int.sub_zero]; exact o1, o2, fun z => ⟨by omega, by rw [h1]; grind, o3, by rw [h1]; exact o1⟩⟩
    · have z0 : w1 - 0 ≠ 0 := hs 0 (by omega)
      show cutS x (x * 1 - n0) 1 1 1 G (w0 * G) (D2 * d2) (D2 * d2) G G E
      refine ⟨by omega, rfl, by rw [← hw0]; omega, by rw [← hw0]; exact o0, okb_1, by rw [← h2]; exact o4, by rw [h1]; exact o1, fun z => ⟨by omega, by rw [← h2]; grind, by rw [h1]; exact o1, o4⟩⟩)
  refine ⟨r, c1, c2, ?_⟩
  rcases c3 with ⟨g1, t, g2, g3⟩ | ⟨g1, g2, g3⟩
  · refine Or.inl ⟨g1, ?_⟩
    have : t = 0 ∨ t = 1 := by omega
    rcases this with rfl | rfl
    · have z : w1 - 0 = 0 := g3
      exact Or.inl (by omega)
    · have z : w0 * G - D2 * d2 = 0 := g3
      exact Or.inr (by omega)
  · have z0 : w1 - 0 ≠ 0 := g2 0 (by omega)
    have z1 : w0 * G - D2 * d2 ≠ 0 := g2 1 (by omega)
    exact Or.inr ⟨g1, by omega, by omega, g3⟩
theorem cut_3 {Y : jY} {μ : jM} (hX : kX Y μ) {N : Nat} (N4 : N ≤ 4) (kN : 3 ≤ N) {x : Int} (x1 : -20 ≤ x) (x2 : x ≤ 20) {as cs : List (Int × Int)} (t : tabC μ N as cs) {n0 n1 n2 d3 D2 D3 w0 w1 w2 G E : Int} (qa0 : fq (gz as 0) n0 1) (qa1 : fq (gz as 1) n1 D2) (qa2 : fq (gz as 2) n2 (D2 * d3)) (qc0 : fq (gz cs 0) D2 1) (qc1 : fq (gz cs 1) D3 (D2 * D2)) (D20 : D2 ≠ 0) (hw0 : w0 = x * 1 - n0) (hw1 : w1 = x * D2 - n1) (hw2 : w2 = x * (D2 * d3) - n2) (h1 : w1 * w2 - D3 * d3 = G * (D2 * D2)) (h2 : w0 * G - w2 = E) (o0 : okb w0) (o1 : okb w1) (o2 : okb w2) (o3 : okb (D2 * d3)) (o4 : okb (D3 * d3)) (o5 : okb (D2 * w2)) (o6 : okb (G * (D2 * D2))) (o7 : okb D2) (o8 : okb G) (o9 : okb E) : ∃ r : Int32 × jM, f_X8_cutShort Y 31 (ki 3) (ki x) 94 μ = some r ∧ kF 67 95 μ r.2 ∧ ((r.1 = ki 0 ∧ (w2 = 0 ∨ G = 0 ∨ E = 0)) ∨ (r.1 = ki 1 ∧ w2 ≠ 0 ∧ G ≠ 0 ∧ E ≠ 0 ∧ ∃ p, frS r.2 94 p ∧ fq p G E)) := by
  have gz0 : G * (D2 * D2) ≠ 0 → G ≠ 0 := fun q z => q (by rw [z, Int.zero_mul])
  have gz1 : G * (D2 * D2) = 0 → G = 0 := fun q => by
    rcases Int.mul_eq_zero.1 q with q | q
    · exact q
    · exact absurd q (Int.mul_ne_zero D20 D20)
  obtain ⟨r, c1, c2, c3⟩ := cut_run hX (k := 3) N4 (by omega) kN x1 x2 t (nn := l4 n0 n1 n2 0) (dd := l4 1 D2 (D2 * d3) 0) (c0 := l4 1 D2 D3 0) (c1 := l4 1 1 (D2 * D2) 0) (fun i hi => by
    have : i = 0 ∨ i = 1 ∨ i = 2 := by omega
    rcases this with rfl | rfl | rfl
    · exact qa0
    · exact qa1
    · exact qa2) (fun i hi => by
    have : i = 0 ∨ i = 1 ∨ i = 2 := by omega
    rcases this with rfl | rfl | rfl
    · exact fq.w
    · exact qc0
    · exact qc1) (MM := l4 (D2 * d3) (D2 * w2) G 0) (T1 := l4 w2 (w1 * w2) (w0 * G) 0) (TI := l4 0 (D3 * d3) w2 0) (IT := l4 0 (D3 * d3) w2 G) (IM := l4 1 (D2 * w2) G E) rfl rfl (fun t ht hs => by
    have : t = 0 ∨ t = 1 ∨ t = 2 := by omega
    rcases this with rfl | rfl | rfl
    · show cutS x (x * (D2 * d3) - n2) (D2 * d3) D3 (D2 * D2) (D2 * d3) w2 0 0 1 (D3 * d3) (D2 * w2)
      refine ⟨qa2.1, by omega, by rw [hw2], by rw [← hw2]; exact o2, o3, by rw [Int.sub_zero]; exact o2, o3, fun z => ⟨Int.mul_ne_zero D20 (by omega), by grind, o4, o5⟩⟩
    · have z0 : w2 - 0 ≠ 0 := hs 0 (by omega)
      show cutS x (x * D2 - n1) D2 D2 1 (D2 * w2) (w1 * w2) (D3 * d3) (D3 * d3) (D2 * w2) w2 G
      refine ⟨Int.mul_ne_zero D20 (by omega), rfl, by rw [← hw1]; grind, by rw [← hw1]; exact o1, o7, by rw [h1]; exact o6, o5, fun z => ?_⟩
      rw [h1] at z ⊢
      exact ⟨gz0 z, by grind, o2, o8⟩
    · have z1 : w1 * w2 - D3 * d3 ≠ 0 := hs 1 (by omega)
      rw [h1] at z1
      show cutS x (x * 1 - n0) 1 1 1 G (w0 * G) w2 w2 G G E
      refine ⟨gz0 z1, rfl, by rw [← hw0]; omega, by rw [← hw0]; exact o0, okb_1, by rw [h2]; exact o9, o8, fun z => ⟨by omega, by rw [h2]; grind, o8, o9⟩⟩)
  refine ⟨r, c1, c2, ?_⟩
  rcases c3 with ⟨g1, t, g2, g3⟩ | ⟨g1, g2, g3⟩
  · refine Or.inl ⟨g1, ?_⟩
    have : t = 0 ∨ t = 1 ∨ t = 2 := by omega
    rcases this with rfl | rfl | rfl
    · have z : w2 - 0 = 0 := g3
      exact Or.inl (by omega)
    · have z : w1 * w2 - D3 * d3 = 0 := g3
      exact Or.inr (Or.inl (gz1 (by omega)))
    · have z : w0 * G - w2 = 0 := g3
      exact Or.inr (Or.inr (by omega))
  · have z0 : w2 - 0 ≠ 0 := g2 0 (by omega)
    have z1 : w1 * w2 - D3 * d3 ≠ 0 := g2 1 (by omega)
    have z2 : w0 * G - w2 ≠ 0 := g2 2 (by omega)
    exact Or.inr ⟨g1, by omega, gz0 (by omega), by omega, g3⟩
theorem cut_4 {Y : jY} {μ : jM} (hX : kX Y μ) {x : Int} (x1 : -20 ≤ x) (x2 : x ≤ 20) {as cs : List (Int × Int)} (t : tabC μ 4 as cs) {n0 n1 n2 n3 D2 D3 D4 w0 w1 w2 w3 R G E : Int} (qa0 : fq (gz as 0) n0 1) (qa1 : fq (gz as 1) n1 D2) (qa2 : fq (gz as 2) n2 (D2 * D3)) (qa3 : fq (gz as 3) n3 D3) (qc0 : fq (gz cs 0) D2 1) (qc1 : fq (gz cs 1) D3 (D2 * D2)) (qc2 : fq (gz cs 2) (D4 * D2) (D3 * D3)) (D20 : D2 ≠ 0) (D30 : D3 ≠ 0) (hw0 : w0 = x * 1 - n0) (hw1 : w1 = x * D2 - n1) (hw2 : w2 = x * (D2 * D3) - n2) (hw3 : w3 = x * D3 - n3) (hR : R = w0 * G - E) (h1 : R * (D3 * D3) = w2 * w3 - D4 * (D2 * D2)) (h2 : G * (D2 * D2) = w1 * R - w3) (o0 : okb w0) (o1 : okb w1) (o2 : okb w2) (o3 : okb w3) (o4 : okb D3) (o5 : okb (D4 * D2)) (o6 : okb (D3 * w3)) (o7 : okb (D2 * D3)) (o8 : okb (D2 * (D3 * w3))) (o9 : okb (R * (D3 * D3))) (oa : okb (D2 * R)) (ob : okb D2) (oc : okb (G * (D2 * D2))) (od : okb R) (oe : okb G) (of : okb E) : ∃ r : Int32 × jM, f_X8_cutShort Y 31 (ki 4) (ki x) 94 μ = some r ∧ kF 67 95 μ r.2 ∧ ((r.1 = ki 0 ∧ (w3 = 0 ∨ R = 0 ∨ G = 0 ∨ E = 0)) ∨ (r.1 = ki 1 ∧ w3 ≠ 0 ∧ R ≠ 0 ∧ G ≠ 0 ∧ E ≠ 0 ∧ ∃ p, frS r.2 94 p ∧ fq p G E)) := by
  have gz0 : G * (D2 * D2) ≠ 0 → G ≠ 0 := fun q z => q (by rw [z, Int.zero_mul])
  have gz1 : G * (D2 * D2) = 0 → G = 0 := fun q => by
    rcases Int.mul_eq_zero.1 q with q | q
    · exact q
    · exact absurd q (Int.mul_ne_zero D20 D20)
  have rz0 : R * (D3 * D3) ≠ 0 → R ≠ 0 := fun q z => q (by rw [z, Int.zero_mul])
  have rz1 : R * (D3 * D3) = 0 → R = 0 := fun q => by
    rcases Int.mul_eq_zero.1 q with q | q
    · exact q
    · exact absurd q (Int.mul_ne_zero D30 D30)
  have e1 : w2 * w3 - D4 * D2 * D2 = R * (D3 * D3) := by rw [h1]; grind
  have e3 : w0 * G - R = E := by omega
  obtain ⟨r, c1, c2, c3⟩ := cut_run hX (k := 4) (Nat.le_refl _) (by omega) (Nat.le_refl _) x1 x2 t (nn := l4 n0 n1 n2 n3) (dd := l4 1 D2 (D2 * D3) D3) (c0 := l4 1 D2 D3 (D4 * D2)) (c1 := l4 1 1 (D2 * D2) (D3 * D3)) (fun i hi => by
    have : i = 0 ∨ i = 1 ∨ i = 2 ∨ i = 3 := by omega
    rcases this with rfl | rfl | rfl | rfl
    · exact qa0
    · exact qa1
    · exact qa2
    · exact qa3) (fun i hi => by
    have : i = 0 ∨ i = 1 ∨ i = 2 ∨ i = 3 := by omega
    rcases this with rfl | rfl | rfl | rfl
    · exact fq.w
    · exact qc0
    · exact qc1
    · exact qc2) (MM := l4 D3 (D2 * (D3 * w3)) (D2 * R) G) (T1 := l4 w3 (w2 * w3) (w1 * R) (w0 * G)) (TI := l4 0 (D4 * D2 * D2) w3 R) (IT := fun t => if t = 4 then G else l4 0 (D4 * D2) w3 R t) (IM := fun t => if t = 4 then E else l4 1 (D3 * w3) (D2 * R) G t) rfl rfl (fun t ht hs => by
    have : t = 0 ∨ t = 1 ∨ t = 2 ∨ t = 3 := by omega
    rcases this with rfl | rfl | rfl | rfl
    · show cutS x (x * D3 - n3) D3 (D4 * D2) (D3 * D3) D3 w3 0 0 1 (D4 * D2) (D3 * w3)
      refine ⟨D30, by omega, by rw [hw3], by rw [← hw3]; exact o3, o4, by rw [Int.sub_zero]; exact o3, o4, fun z => ⟨Int.mul_ne_zero D30 (by omega), by grind, o5, o6⟩⟩
    · have z0 : w3 - 0 ≠ 0 := hs 0 (by omega)
      show cutS x (x * (D2 * D3) - n2) (D2 * D3) D3 (D2 * D2) (D2 * (D3 * w3)) (w2 * w3) (D4 * D2 * D2) (D4 * D2) (D3 * w3) w3 (D2 * R)
      refine ⟨Int.mul_ne_zero D20 (Int.mul_ne_zero D30 (by omega)), by grind, by rw [← hw2]; grind, by rw [← hw2]; exact o2, o7, by rw [e1]; exact o9, o8, fun z => ?_⟩
      rw [e1] at z ⊢
      exact ⟨Int.mul_ne_zero D20 (rz0 z), by grind, o3, oa⟩
    · have z0 : w3 - 0 ≠ 0 := hs 0 (by omega)
      have z1 : w2 * w3 - D4 * D2 * D2 ≠ 0 := hs 1 (by omega)
      rw [e1] at z1
      show cutS x (x * D2 - n1) D2 D2 1 (D2 * R) (w1 * R) w3 w3 (D2 * R) R G
      refine ⟨Int.mul_ne_zero D20 (rz0 z1), rfl, by rw [← hw1]; grind, by rw [← hw1]; exact o1, ob, by rw [← h2]; exact oc, oa, fun z => ?_⟩
      rw [← h2] at z ⊢
      exact ⟨gz0 z, by grind, od, oe⟩
    · have z2 : w1 * R - w3 ≠ 0 := hs 2 (by omega)
      rw [← h2] at z2
      show cutS x (x * 1 - n0) 1 1 1 G (w0 * G) R R G G E
      refine ⟨gz0 z2, rfl, by rw [← hw0]; omega, by rw [← hw0]; exact o0, okb_1, by rw [e3]; exact of, oe, fun z => ⟨by omega, by rw [e3]; grind, oe, of⟩⟩)
  refine ⟨r, c1, c2, ?_⟩
  rcases c3 with ⟨g1, t, g2, g3⟩ | ⟨g1, g2, g3⟩
  · refine Or.inl ⟨g1, ?_⟩
    have : t = 0 ∨ t = 1 ∨ t = 2 ∨ t = 3 := by omega
    rcases this with rfl | rfl | rfl | rfl
    · have z : w3 - 0 = 0 := g3
      exact Or.inl (by omega)
    · have z : w2 * w3 - D4 * D2 * D2 = 0 := g3
      exact Or.inr (Or.inl (rz1 (by omega)))
    · have z : w1 * R - w3 = 0 := g3
      exact Or.inr (Or.inr (Or.inl (gz1 (by omega))))
    · have z : w0 * G - R = 0 := g3
      exact Or.inr (Or.inr (Or.inr (by omega)))
  · have z0 : w3 - 0 ≠ 0 := g2 0 (by omega)
    have z1 : w2 * w3 - D4 * D2 * D2 ≠ 0 := g2 1 (by omega)
    have z2 : w1 * R - w3 ≠ 0 := g2 2 (by omega)
    have z3 : w0 * G - R ≠ 0 := g2 3 (by omega)
    exact Or.inr ⟨g1, by omega, rz0 (by omega), gz0 (by omega), by omega, g3⟩
