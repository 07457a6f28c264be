/-! THE TABLE's entries and the polynomials' numbers, by what they are worth -/
theorem aM_red {p : Int × Int} {t b : Int} (h : p.2 ≠ 0) (hb : b ≠ 0) (hc : Nat.gcd t.natAbs b.natAbs = 1) : aM p t b = aF p t b := by
  have g : gF t b = 1 := by
    rw [gF_eq]
    unfold cd
    rw [hc]
    rfl
  unfold aM
  rw [isZ_t h, isZ_t hb, g, dF_1, dF_1]
  rfl
theorem mM_pos {p : Int × Int} {t b : Int} (h : p.2 ≠ 0) (hb : 0 < b) : mM p t b = mF p (fset t b).1 (fset t b).2 := by
  have b0 : b ≠ 0 := by omega
  unfold mM fset
  rw [isZ_t h, isZ_t b0, dF_eq, dF_eq, gF_eq, if_neg b0, if_pos (by omega)]
  rfl
theorem sO_fq {t b : Int} (ht : okb t) (hb : okb b) (b0 : b ≠ 0) : sO t b = some (fset t b) := by
  unfold sO
  rw [isZ_t b0, goF_eq, if_pos (by rw [Bool.and_eq_true, okB_iff, okB_iff]; exact ⟨ht, hb⟩)]
  rfl
def bDn : Nat → Nat
  | 0 => 1
  | 1 => 1
  | 2 => 36
  | 3 => 6561
  | _ => 10036224
def bNn : Nat → Nat
  | 0 => 6
  | 1 => 72
  | 2 => 347760
  | _ => 21870
def bEn : Nat → Nat
  | 0 => 1
  | 1 => 6
  | 2 => 1728
  | 3 => 358263
  | _ => 576
theorem bD_is {N : Nat} {U f : Int → Int} (f0 : f 0 = 1) (N4 : N ≤ 4) (C : cxK N U f = true) {i : Nat} (hi : i ≤ N) : (DD f i).natAbs ≤ bDn i ∧ (dlN N f i).natAbs ≤ bDn i := by
  have : i = 0 ∨ i = 1 ∨ i = 2 ∨ i = 3 ∨ i = 4 := by omega
  rcases this with rfl | rfl | rfl | rfl | rfl
  · refine ⟨Nat.le_refl _, ?_⟩
    unfold dlN
    split
    · exact Nat.le_refl _
    · exact Nat.le_refl _
  · have e : DD f 1 = 1 := f0
    refine ⟨by show (DD f 1).natAbs ≤ 1; rw [e]; exact Nat.le_refl _, ?_⟩
    show (dlN N f 1).natAbs ≤ 1
    unfold dlN
    split
    · exact Nat.le_refl _
    · rw [e]; exact Nat.le_refl _
  · obtain ⟨_, _, _, _, _, _, h1, h2⟩ := cx2_is ((cx_get C).2.1 hi)
    exact ⟨h1, h2⟩
  · obtain ⟨_, _, ⟨_, h1, h2⟩, _⟩ := cx3_is ((cx_get C).2.2.1 hi)
    exact ⟨h1, h2⟩
  · have e : N = 4 := by omega
    subst e
    obtain ⟨_, _, _, _, ⟨_, h1⟩, _⟩ := cx4_is ((cx_get C).2.2.2 hi)
    exact ⟨h1, by show (dlN 4 f 4).natAbs ≤ 10036224; rw [show dlN 4 f 4 = 1 from rfl]; decide⟩
theorem bN_is {N : Nat} {U f : Int → Int} (N4 : N ≤ 4) (C : cxK N U f = true) {i : Nat} (hi : i < N) : (nN N U f i).natAbs ≤ bNn i := by
  have : i = 0 ∨ i = 1 ∨ i = 2 ∨ i = 3 := by omega
  rcases this with rfl | rfl | rfl | rfl
  · exact (cx1_is (cx_get C).1).2.2.2
  · exact (cx2_is ((cx_get C).2.1 hi)).2.2.2.2.2.1
  · exact (cx3_is ((cx_get C).2.2.1 hi)).2.2.1.1
  · have e : N = 4 := by omega
    subst e
    exact (cx4_is ((cx_get C).2.2.2 hi)).2.2.2.2.1.1
theorem bE_is {N : Nat} {U f : Int → Int} (f0 : f 0 = 1) (N1 : 1 ≤ N) (N4 : N ≤ 4) (C : cxK N U f = true) {k j : Nat} (hk : k ≤ N) (hj : j ≤ k) : (eC N U f k j).natAbs ≤ bEn k := by
  obtain ⟨a1, a2, _, a4⟩ := cx1_is (cx_get C).1
  have : k = 0 ∨ k = 1 ∨ k = 2 ∨ k = 3 ∨ k = 4 := by omega
  rcases this with rfl | rfl | rfl | rfl | rfl
  · have : j = 0 := by omega
    subst this
    have e : eC N U f 0 0 = 1 := by
      unfold eC
      rw [if_neg (by omega)]
      rfl
    show (eC N U f 0 0).natAbs ≤ 1
    rw [e]
    decide
  · have : j = 0 ∨ j = 1 := by omega
    rcases this with rfl | rfl
    · show (eC N U f 1 0).natAbs ≤ 6
      rw [a2]; omega
    · show (eC N U f 1 1).natAbs ≤ 6
      rw [a1]; decide
  · obtain ⟨_, _, b3, b4, b5, b6, b7, b8⟩ := cx2_is ((cx_get C).2.1 hk)
    have : j = 0 ∨ j = 1 ∨ j = 2 := by omega
    rcases this with rfl | rfl | rfl
    · show (eC N U f 2 0).natAbs ≤ 1728
      rw [b5]; exact nb_sub (nb_mul a4 b6) (nb_mul b7 b8)
    · show (eC N U f 2 1).natAbs ≤ 1728
      rw [b4, Int.natAbs_neg]
      have := nb_add b6 (nb_mul a4 b8)
      omega
    · show (eC N U f 2 2).natAbs ≤ 1728
      rw [b3]; omega
  · obtain ⟨_, _, _, _, l1, l2, l3, l4⟩ := cx3_is ((cx_get C).2.2.1 hk)
    have : j = 0 ∨ j = 1 ∨ j = 2 ∨ j = 3 := by omega
    rcases this with rfl | rfl | rfl | rfl
    · exact l4
    · exact l3
    · exact l2
    · exact l1
  · have e : N = 4 := by omega
    subst e
    obtain ⟨_, _, _, _, _, _, l1, l2, l3, l4, l5⟩ := cx4_is ((cx_get C).2.2.2 hk)
    have : j = 0 ∨ j = 1 ∨ j = 2 ∨ j = 3 ∨ j = 4 := by omega
    rcases this with rfl | rfl | rfl | rfl | rfl
    · exact l5
    · exact l4
    · exact l3
    · exact l2
    · exact l1
theorem sT_fq {N : Nat} {U f : Int → Int} {as cs : List (Int × Int)} (N1 : 1 ≤ N) (N4 : N ≤ 4) (S : semB N U f as cs = true) (C : cxK N U f = true) (oU : ∀ j : Nat, j < 5 → okb (U j)) {i : Nat} (hi : i ≤ N) : ∃ q, sT f U N i = some q ∧ fq q (if i = N then -(U ((N : Int) - 1)) else sN f i) (if i = N then 1 else DD f i) := by
  obtain ⟨Dp, f0⟩ := sem_D S
  unfold sT
  by_cases e : i = N
  · rw [if_pos (by omega), if_pos e, if_pos e]
    have o := oU (N - 1) (by omega)
    rw [show ((N - 1 : Nat) : Int) = (N : Int) - 1 by omega] at o
    exact ⟨_, sO_fq (okb_neg o) okb_1 (by omega), fset_fq (by omega)⟩
  · rw [if_neg (by omega), if_neg e, if_neg e]
    by_cases i0 : i = 0
    · subst i0
      exact ⟨(0, 1), rfl, fq.w⟩
    · rw [if_neg (by omega)]
      have b := bE_is f0 N1 N4 C (k := i) (j := i - 1) hi (by omega)
      have ee : eC N U f i ((i - 1 : Nat) : Int) = -(mMin f i 0 ((i : Int) - 1)) := by
        unfold eC pw
        rw [if_neg (by omega), show ((i - 1 : Nat) : Int) = (i : Int) - 1 by omega, show (i : Int) - ((i : Int) - 1) = 1 by omega, if_neg (by decide)]
      rw [ee, Int.natAbs_neg] at b
      have hb : bEn i ≤ 4611686018427387904 := by
        have : ∀ i, i ≤ 4 → bEn i ≤ 4611686018427387904 := by decide
        exact this i (by omega)
      have D := bD_is f0 N4 C (i := i) hi
      have hd : bDn i ≤ 4611686018427387904 := by
        have : ∀ i, i ≤ 4 → bDn i ≤ 4611686018427387904 := by decide
        exact this i (by omega)
      have Dn := Dp i hi
      have es : sN f i = mMin f i 0 ((i : Int) - 1) := if_neg (by omega)
      rw [es]
      exact ⟨_, sO_fq (okb_nb b hb) (okb_nb D.1 hd) (by omega), fset_fq (by omega)⟩
theorem en_of {N : Nat} {U f : Int → Int} {as cs : List (Int × Int)} (N1 : 1 ≤ N) (N4 : N ≤ 4) (S : semB N U f as cs = true) (C : cxK N U f = true) (oU : ∀ j : Nat, j < 5 → okb (U j)) : (∀ i, i < N → tA f U N i = some (gz as i)) ∧ ∀ i, i + 1 < N → tC f i = some (gz cs i) := by
  obtain ⟨Dp, f0⟩ := sem_D S
  refine ⟨fun i hi => ?_, fun i hi => ?_⟩
  · obtain ⟨s, s1, s2⟩ := sT_fq N1 N4 S C oU (i := i) (by omega)
    obtain ⟨t, t1, t2⟩ := sT_fq N1 N4 S C oU (i := i + 1) (by omega)
    rw [if_neg (by omega), if_neg (by omega)] at s2
    have a := sem_a S hi
    have d0 := dN_ne S hi
    have bn := bN_is N4 C hi
    have bd := bD_is f0 N4 C (i := i) (by omega)
    have bd1 := bD_is f0 N4 C (i := i + 1) (by omega)
    have hn : bNn i ≤ 4611686018427387904 := by
      have : ∀ i, i ≤ 4 → bNn i ≤ 4611686018427387904 := by decide
      exact this i (by omega)
    have hd : bDn i * bDn (i + 1) ≤ 4611686018427387904 := by
      have : ∀ i, i ≤ 4 → bDn i * bDn (i + 1) ≤ 4611686018427387904 := by decide
      exact this i (by omega)
    have od : okb (dN N f i) := by
      have := nb_mul bd.1 bd1.2
      rw [Int.natCast_add, Int.natCast_one] at this
      exact okb_nb this hd
    have Di := Dp i (by omega)
    have key : ∃ T1 T2, fq t T1 (dN N f i) ∧ fq s T2 (dN N f i) ∧ T1 - T2 = nN N U f i := by
      by_cases e : i + 1 = N
      · rw [if_pos e, if_pos e] at t2
        have ed : dN N f i = DD f i := by
          unfold dN dlN
          rw [if_pos (by omega), Int.mul_one]
        have en : nN N U f i = -(U i) * DD f i - sN f i := if_pos (by omega)
        rw [ed, en]
        refine ⟨-(U i) * DD f i, sN f i, t2.to (by omega) ?_, s2, rfl⟩
        rw [show (N : Int) - 1 = i by omega]
        omega
      · rw [if_neg e, if_neg e, Int.natCast_add, Int.natCast_one] at t2
        have D1 := Dp (i + 1) (by omega)
        rw [Int.natCast_add, Int.natCast_one] at D1
        have ed : dN N f i = DD f i * DD f ((i : Int) + 1) := by
          unfold dN dlN
          rw [if_neg (by omega)]
        have en : nN N U f i = sN f ((i : Int) + 1) * DD f i - sN f i * DD f ((i : Int) + 1) := if_neg (by omega)
        rw [ed, en]
        exact ⟨_, _, t2.to (Int.mul_ne_zero (by omega) (by omega)) (by grind), s2.to (Int.mul_ne_zero (by omega) (by omega)) (by grind), rfl⟩
    obtain ⟨T1, T2, k1, k2, k3⟩ := key
    obtain ⟨r, r1, r2⟩ := k1.sub k2 (by rw [k3]; exact okb_nb bn hn) od
    rw [k3] at r2
    have e := r2.uniq a
    rw [← aM_red (by have := t2.2.1; omega) (by have := s2.2.1; omega) (by rw [Int.natAbs_neg]; exact s2.2.2.1)] at r1
    rw [Int.natCast_add, Int.natCast_one] at t1
    unfold tA
    rw [s1, Option.bind_some, t1, Option.bind_some, r1, e]
  · have c := sem_c S hi
    have D2 := Dp (i + 2) (by omega)
    have D1 := Dp (i + 1) (by omega)
    have D0 := Dp i (by omega)
    have b2 := (bD_is f0 N4 C (i := i + 2) (by omega)).1
    have b1 := (bD_is f0 N4 C (i := i + 1) (by omega)).1
    have b0 := (bD_is f0 N4 C (i := i) (by omega)).1
    have hd : ∀ i, i ≤ 2 → bDn (i + 2) * bDn i ≤ 4611686018427387904 ∧ bDn (i + 1) * bDn (i + 1) ≤ 4611686018427387904 ∧ bDn (i + 2) ≤ 4611686018427387904 ∧ bDn (i + 1) ≤ 4611686018427387904 ∧ bDn i ≤ 4611686018427387904 := by decide
    obtain ⟨h1, h2, h3, h4, h5⟩ := hd i (by omega)
    rw [show ((i + 2 : Nat) : Int) = (i : Int) + 2 by omega] at c D2 b2
    rw [show ((i + 1 : Nat) : Int) = (i : Int) + 1 by omega] at c D1 b1
    have p := fset_fq (T := DD f ((i : Int) + 2)) (M := DD f ((i : Int) + 1)) (by omega)
    have q := fset_fq (T := DD f (i : Int)) (M := DD f ((i : Int) + 1)) (by omega)
    obtain ⟨r, r1, r2⟩ := p.mul q (T := DD f ((i : Int) + 2) * DD f i) (M := DD f ((i : Int) + 1) * DD f ((i : Int) + 1)) (Int.mul_ne_zero (by omega) (by omega)) rfl (okb_nb (nb_mul b2 b0) h1) (okb_nb (nb_mul b1 b1) h2)
    rw [← mM_pos (by have := p.2.1; omega) D1] at r1
    have e := r2.uniq c
    unfold tC
    rw [sO_fq (okb_nb b2 h3) (okb_nb b1 h4) (by omega), Option.bind_some, Nat.ble_eq_true_of_le (by omega), cond_true, r1, e]
/-- the numbers, 0 beyond -/
def eZ (N : Nat) (U f : Int → Int) (k j : Int) : Int := if 0 ≤ j ∧ j ≤ k then eC N U f k j else 0
theorem eZ_in {N : Nat} {U f : Int → Int} {k j : Int} (h : 0 ≤ j ∧ j ≤ k) : eZ N U f k j = eC N U f k j := if_pos h
theorem eZ_out {N : Nat} {U f : Int → Int} {k j : Int} (h : ¬ (0 ≤ j ∧ j ≤ k)) : eZ N U f k j = 0 := if_neg h
theorem rec_of {N : Nat} {U f : Int → Int} (f0 : f 0 = 1) (N1 : 1 ≤ N) (N4 : N ≤ 4) (C : cxK N U f = true) {k j : Nat} (hk : k < N) (hj : j ≤ k + 1) : dN N f k * eZ N U f k ((j : Int) - 1) - nN N U f k * eZ N U f k j - DD f ((k : Int) + 1) * dlN N f ((k : Int) + 1) * eZ N U f ((k : Int) - 1) j = eZ N U f ((k : Int) + 1) j * (DD f k * DD f k) := by
  obtain ⟨a1, a2, _, _⟩ := cx1_is (cx_get C).1
  have D0 : DD f 0 = 1 := rfl
  have D1 : DD f 1 = 1 := f0
  have z00 : eZ N U f 0 0 = 1 := by
    rw [eZ_in (by omega)]
    unfold eC
    rw [if_neg (by omega)]
    rfl
  have : k = 0 ∨ k = 1 ∨ k = 2 ∨ k = 3 := by omega
  rcases this with rfl | rfl | rfl | rfl
  · show dN N f 0 * eZ N U f 0 ((j : Int) - 1) - nN N U f 0 * eZ N U f 0 j - DD f 1 * dlN N f 1 * eZ N U f (0 - 1) j = eZ N U f 1 j * (DD f 0 * DD f 0)
    rw [dN_0 f0, D0, eZ_out (k := 0 - 1) (by omega)]
    have : j = 0 ∨ j = 1 := by omega
    rcases this with rfl | rfl
    · show 1 * eZ N U f 0 (-1) - nN N U f 0 * eZ N U f 0 0 - DD f 1 * dlN N f 1 * 0 = eZ N U f 1 0 * (1 * 1)
      rw [eZ_out (by omega), z00, eZ_in (k := 1) (by omega), a2]
      omega
    · show 1 * eZ N U f 0 0 - nN N U f 0 * eZ N U f 0 1 - DD f 1 * dlN N f 1 * 0 = eZ N U f 1 1 * (1 * 1)
      rw [z00, eZ_out (by omega), eZ_in (k := 1) (by omega), a1]
      omega
  · obtain ⟨_, _, b3, b4, b5, _⟩ := cx2_is ((cx_get C).2.1 hk)
    show dN N f 1 * eZ N U f 1 ((j : Int) - 1) - nN N U f 1 * eZ N U f 1 j - DD f 2 * dlN N f 2 * eZ N U f 0 j = eZ N U f 2 j * (DD f 1 * DD f 1)
    rw [dN_1 f0, D1]
    have : j = 0 ∨ j = 1 ∨ j = 2 := by omega
    rcases this with rfl | rfl | rfl
    · show dlN N f 2 * eZ N U f 1 (-1) - nN N U f 1 * eZ N U f 1 0 - DD f 2 * dlN N f 2 * eZ N U f 0 0 = eZ N U f 2 0 * (1 * 1)
      rw [eZ_out (by omega), z00, eZ_in (by omega), eZ_in (by omega), a2, b5]
      grind
    · show dlN N f 2 * eZ N U f 1 0 - nN N U f 1 * eZ N U f 1 1 - DD f 2 * dlN N f 2 * eZ N U f 0 1 = eZ N U f 2 1 * (1 * 1)
      rw [eZ_out (k := 0) (by omega), eZ_in (by omega), eZ_in (by omega), eZ_in (by omega), a1, a2, b4]
      grind
    · show dlN N f 2 * eZ N U f 1 1 - nN N U f 1 * eZ N U f 1 2 - DD f 2 * dlN N f 2 * eZ N U f 0 2 = eZ N U f 2 2 * (1 * 1)
      rw [eZ_out (k := 0) (by omega), eZ_out (k := 1) (j := 2) (by omega), eZ_in (by omega), eZ_in (by omega), a1, b3]
      grind
  · obtain ⟨_, ⟨c1, c2, c3, c4⟩, _⟩ := cx3_is ((cx_get C).2.2.1 hk)
    show DD f 2 * dlN N f 3 * eZ N U f 2 ((j : Int) - 1) - nN N U f 2 * eZ N U f 2 j - DD f 3 * dlN N f 3 * eZ N U f 1 j = eZ N U f 3 j * (DD f 2 * DD f 2)
    have : j = 0 ∨ j = 1 ∨ j = 2 ∨ j = 3 := by omega
    rcases this with rfl | rfl | rfl | rfl
    · show DD f 2 * dlN N f 3 * eZ N U f 2 (-1) - nN N U f 2 * eZ N U f 2 0 - DD f 3 * dlN N f 3 * eZ N U f 1 0 = eZ N U f 3 0 * (DD f 2 * DD f 2)
      rw [eZ_out (by omega), eZ_in (by omega), eZ_in (by omega), eZ_in (by omega), a2, ← c4]
      grind
    · show DD f 2 * dlN N f 3 * eZ N U f 2 0 - nN N U f 2 * eZ N U f 2 1 - DD f 3 * dlN N f 3 * eZ N U f 1 1 = eZ N U f 3 1 * (DD f 2 * DD f 2)
      rw [eZ_in (by omega), eZ_in (by omega), eZ_in (by omega), eZ_in (by omega), a1, ← c3]
      grind
    · show DD f 2 * dlN N f 3 * eZ N U f 2 1 - nN N U f 2 * eZ N U f 2 2 - DD f 3 * dlN N f 3 * eZ N U f 1 2 = eZ N U f 3 2 * (DD f 2 * DD f 2)
      rw [eZ_out (k := 1) (by omega), eZ_in (by omega), eZ_in (by omega), eZ_in (by omega), ← c2]
      grind
    · show DD f 2 * dlN N f 3 * eZ N U f 2 2 - nN N U f 2 * eZ N U f 2 3 - DD f 3 * dlN N f 3 * eZ N U f 1 3 = eZ N U f 3 3 * (DD f 2 * DD f 2)
      rw [eZ_out (k := 1) (by omega), eZ_out (k := 2) (j := 3) (by omega), eZ_in (by omega), eZ_in (by omega), ← c1]
      grind
  · have e4 : N = 4 := by omega
    subst e4
    obtain ⟨_, _, ⟨c1, c2, c3, c4, c5⟩, _⟩ := cx4_is ((cx_get C).2.2.2 hk)
    show DD f 3 * 1 * eZ 4 U f 3 ((j : Int) - 1) - nN 4 U f 3 * eZ 4 U f 3 j - DD f 4 * 1 * eZ 4 U f 2 j = eZ 4 U f 4 j * (DD f 3 * DD f 3)
    have : j = 0 ∨ j = 1 ∨ j = 2 ∨ j = 3 ∨ j = 4 := by omega
    rcases this with rfl | rfl | rfl | rfl | rfl
    · show DD f 3 * 1 * eZ 4 U f 3 (-1) - nN 4 U f 3 * eZ 4 U f 3 0 - DD f 4 * 1 * eZ 4 U f 2 0 = eZ 4 U f 4 0 * (DD f 3 * DD f 3)
      rw [eZ_out (by omega), eZ_in (by omega), eZ_in (by omega), eZ_in (by omega), ← c5]
      grind
    · show DD f 3 * 1 * eZ 4 U f 3 0 - nN 4 U f 3 * eZ 4 U f 3 1 - DD f 4 * 1 * eZ 4 U f 2 1 = eZ 4 U f 4 1 * (DD f 3 * DD f 3)
      rw [eZ_in (by omega), eZ_in (by omega), eZ_in (by omega), eZ_in (by omega), ← c4]
      grind
    · show DD f 3 * 1 * eZ 4 U f 3 1 - nN 4 U f 3 * eZ 4 U f 3 2 - DD f 4 * 1 * eZ 4 U f 2 2 = eZ 4 U f 4 2 * (DD f 3 * DD f 3)
      rw [eZ_in (by omega), eZ_in (by omega), eZ_in (by omega), eZ_in (by omega), ← c3]
      grind
    · show DD f 3 * 1 * eZ 4 U f 3 2 - nN 4 U f 3 * eZ 4 U f 3 3 - DD f 4 * 1 * eZ 4 U f 2 3 = eZ 4 U f 4 3 * (DD f 3 * DD f 3)
      rw [eZ_out (k := 2) (by omega), eZ_in (by omega), eZ_in (by omega), eZ_in (by omega), ← c2]
      grind
    · show DD f 3 * 1 * eZ 4 U f 3 3 - nN 4 U f 3 * eZ 4 U f 3 4 - DD f 4 * 1 * eZ 4 U f 2 4 = eZ 4 U f 4 4 * (DD f 3 * DD f 3)
      rw [eZ_out (k := 2) (by omega), eZ_out (k := 3) (j := 4) (by omega), eZ_in (by omega), eZ_in (by omega), ← c1]
      grind
theorem orL_ex {a : Int × Int} {c : Option (Int × Int)} : ∀ (n : Nat) (prev : Int × Int) (cu e : List (Int × Int)) (P : Nat → Int × Int → Prop), (∀ j, j < n → ∃ r, orO a c (if j = 0 then prev else gz cu (j - 1)) (gz cu j) (gz e j) = some r ∧ P j r) → ∃ rs, orL a c prev n cu e = some rs ∧ ∀ j, j < n → P j (gz rs j) := by
  intro n
  induction n with
  | zero => intro prev cu e P _; exact ⟨[], rfl, fun j hj => by omega⟩
  | succ n ih =>
    intro prev cu e P h
    obtain ⟨r, r1, r2⟩ := h 0 (by omega)
    rw [if_pos rfl] at r1
    obtain ⟨rs, s1, s2⟩ := ih (gz cu 0) cu.tail e.tail (fun j => P (j + 1)) (fun j hj => by
      obtain ⟨t, t1, t2⟩ := h (j + 1) (by omega)
      refine ⟨t, ?_, t2⟩
      rw [if_neg (by omega), Nat.add_sub_cancel] at t1
      simp only [gz_tail]
      by_cases j0 : j = 0
      · subst j0
        rw [if_pos rfl]
        exact t1
      · rw [if_neg j0, Nat.sub_add_cancel (by omega)]
        exact t1)
    refine ⟨r :: rs, ?_, fun j hj => ?_⟩
    · simp only [orL, r1, s1, Option.bind_some]
    · cases j with
      | zero => exact r2
      | succ j => exact s2 j (by omega)
def dm (f : Int → Int) (k : Nat) : Int := if k = 0 then 1 else DD f ((k : Int) - 1)
set_option maxHeartbeats 1000000 in
theorem or_go {N : Nat} {U f : Int → Int} {as cs : List (Int × Int)} (N1 : 1 ≤ N) (N4 : N ≤ 4) (S : semB N U f as cs = true) (C : cxK N U f = true) : ∀ k : Nat, k ≤ N → ∃ q, orT as cs k = some q ∧ (∀ j : Nat, fq (gz q.2 j) (eZ N U f k j) (dlN N f k)) ∧ ∀ j : Nat, fq (gz q.1 j) (eZ N U f ((k : Int) - 1) j) (dm f k) := by
  obtain ⟨Dp, f0⟩ := sem_D S
  intro k
  induction k with
  | zero =>
    intro _
    refine ⟨([], [(1, 1)]), rfl, fun j => ?_, fun j => ?_⟩
    · have e : dlN N f ((0 : Nat) : Int) = 1 := by
        rw [dlN_lt (by omega)]
        rfl
      rw [e]
      by_cases j0 : j = 0
      · subst j0
        have : eZ N U f ((0 : Nat) : Int) ((0 : Nat) : Int) = 1 := by
          rw [eZ_in (by omega)]
          unfold eC
          rw [if_neg (by omega)]
          rfl
        rw [this]
        exact fq.w
      · obtain ⟨j', rfl⟩ : ∃ j', j = j' + 1 := ⟨j - 1, by omega⟩
        rw [eZ_out (by omega)]
        exact fq.w
    · rw [eZ_out (by omega)]
      exact fq.w
  | succ k ih =>
    intro hk
    obtain ⟨q, q1, q2, q3⟩ := ih (by omega)
    have Dk := Dp k (by omega)
    have Dn : DD f (k : Int) ≠ 0 := by omega
    rw [dlN_lt (by omega)] at q2
    have a := sem_a S (i := k) (by omega)
    have ed : dN N f k = DD f k * dlN N f ((k : Int) + 1) := rfl
    have d0 := dN_ne S (i := k) (by omega)
    have dl0 : dlN N f ((k : Int) + 1) ≠ 0 := fun z => d0 (by rw [ed, z, Int.mul_zero])
    have bD := (bD_is f0 N4 C (i := k) (by omega)).1
    have bD1 := bD_is f0 N4 C (i := k + 1) (by omega)
    rw [show ((k + 1 : Nat) : Int) = (k : Int) + 1 by omega] at bD1
    have bN := bN_is N4 C (i := k) (by omega)
    have bE : ∀ j : Nat, (eZ N U f k j).natAbs ≤ bEn k := fun j => by
      by_cases h : j ≤ k
      · rw [eZ_in (by omega)]
        exact bE_is f0 N1 N4 C (by omega) h
      · rw [eZ_out (by omega)]
        exact Nat.zero_le _
    have bE' : ∀ j : Nat, (eZ N U f k ((j : Int) - 1)).natAbs ≤ bEn k := fun j => by
      cases j with
      | zero => rw [eZ_out (by omega)]; exact Nat.zero_le _
      | succ j => rw [show ((j + 1 : Nat) : Int) - 1 = j by omega]; exact bE j
    have bE1 : ∀ j : Nat, (eZ N U f ((k : Int) + 1) j).natAbs ≤ bEn (k + 1) := fun j => by
      by_cases h : j ≤ k + 1
      · rw [eZ_in (by omega), show (k : Int) + 1 = ((k + 1 : Nat) : Int) by omega]
        exact bE_is f0 N1 N4 C (by omega) h
      · rw [eZ_out (by omega)]
        exact Nat.zero_le _
    have bE0 : ∀ j : Nat, (eZ N U f ((k : Int) - 1) j).natAbs ≤ bEn (k - 1) := fun j => by
      by_cases h : 1 ≤ k ∧ j ≤ k - 1
      · rw [eZ_in (by omega), show (k : Int) - 1 = ((k - 1 : Nat) : Int) by omega]
        exact bE_is f0 N1 N4 C (by omega) h.2
      · rw [eZ_out (by omega)]
        exact Nat.zero_le _
    have Z : ∀ k, k ≤ 3 → bNn k * bEn k ≤ 4611686018427387904 ∧ bDn k * bDn (k + 1) * bDn k ≤ 4611686018427387904 ∧ bDn k * bDn (k + 1) * bEn k + bNn k * bEn k ≤ 4611686018427387904 ∧ bDn (k + 1) * bEn (k - 1) ≤ 4611686018427387904 ∧ bDn k * bDn k ≤ 4611686018427387904 ∧ bEn (k + 1) * (bDn k * bDn k) ≤ 4611686018427387904 := by decide
    obtain ⟨Z1, Z2, Z3, Z4, Z5, Z6⟩ := Z k (by omega)
    have bd := nb_mul bD bD1.2
    rw [← ed] at bd
    have M0 : dN N f k * DD f k ≠ 0 := Int.mul_ne_zero d0 Dn
    have main : ∀ j, j < k + 2 → ∃ r, orO (gz as k) (if k = 0 then none else some (gz cs (k - 1))) (if j = 0 then (0, 1) else gz q.2 (j - 1)) (gz q.2 j) (gz q.1 j) = some r ∧ fq r (eZ N U f ((k : Int) + 1) j) (dlN N f ((k : Int) + 1)) := by
      intro j hj
      have R := rec_of f0 N1 N4 C (k := k) (j := j) (by omega) (by omega)
      have pv : fq (if j = 0 then (0, 1) else gz q.2 (j - 1)) (eZ N U f k ((j : Int) - 1)) (DD f k) := by
        by_cases j0 : j = 0
        · rw [if_pos j0, eZ_out (by omega)]
          exact (fq.w (t := 0)).to Dn (by omega)
        · rw [if_neg j0, show (j : Int) - 1 = ((j - 1 : Nat) : Int) by omega]
          exact q2 (j - 1)
      obtain ⟨w, w1, w2⟩ := a.mul (q2 j) (T := nN N U f k * eZ N U f k j) (M := dN N f k * DD f k) M0 rfl (okb_nb (nb_mul bN (bE j)) Z1) (okb_nb (nb_mul bd bD) Z2)
      have pv' := pv.to (T' := dN N f k * eZ N U f k ((j : Int) - 1)) M0 (by grind)
      obtain ⟨v, v1, v2⟩ := pv'.sub w2 (okb_nb (nb_sub (nb_mul bd (bE' j)) (nb_mul bN (bE j))) Z3) (okb_nb (nb_mul bd bD) Z2)
      unfold orO
      rw [w1, Option.bind_some, v1, Option.bind_some]
      by_cases k0 : k = 0
      · rw [if_pos k0]
        refine ⟨v, rfl, v2.to dl0 ?_⟩
        rw [eZ_out (k := (k : Int) - 1) (by omega), Int.mul_zero, Int.sub_zero] at R
        rw [R, ed]
        grind
      · rw [if_neg k0]
        have c := sem_c S (i := k - 1) (by omega)
        rw [show k - 1 + 2 = k + 1 by omega, show k - 1 + 1 = k by omega, show ((k - 1 : Nat) : Int) = (k : Int) - 1 by omega, Int.natCast_add, Int.natCast_one] at c
        have edm : dm f k = DD f ((k : Int) - 1) := if_neg k0
        have y := q3 j
        rw [edm] at y
        obtain ⟨u, u1, u2⟩ := c.mul y (T := DD f ((k : Int) + 1) * eZ N U f ((k : Int) - 1) j) (M := DD f k * DD f k) (Int.mul_ne_zero Dn Dn) (by grind) (okb_nb (nb_mul bD1.1 (bE0 j)) Z4) (okb_nb (nb_mul bD bD) Z5)
        have u3 := u2.to (T' := DD f ((k : Int) + 1) * dlN N f ((k : Int) + 1) * eZ N U f ((k : Int) - 1) j) M0 (by rw [ed]; grind)
        obtain ⟨r, r1, r2⟩ := v2.sub u3 (by rw [R]; exact okb_nb (nb_mul (bE1 j) (nb_mul bD bD)) Z6) (okb_nb (nb_mul bd bD) Z2)
        rw [R] at r2
        refine ⟨r, ?_, r2.to dl0 (by rw [ed]; grind)⟩
        simp only [orC, u1, Option.bind_some, r1]
    obtain ⟨rs, s1, s2⟩ := orL_ex (k + 2) (0, 1) q.2 q.1 (fun j r => fq r (eZ N U f ((k : Int) + 1) j) (dlN N f ((k : Int) + 1))) main
    refine ⟨(q.2, rs), by rw [orT, q1, Option.bind_some, s1]; rfl, fun j => ?_, fun j => ?_⟩
    · rw [show ((k + 1 : Nat) : Int) = (k : Int) + 1 by omega]
      by_cases h : j < k + 2
      · exact s2 j h
      · show fq (gz rs j) _ _
        rw [(orL_spec _ _ _ _ _ s1).2 j (by omega), eZ_out (by omega)]
        exact (fq.w (t := 0)).to dl0 (by omega)
    · have e : dm f (k + 1) = DD f k := by
        unfold dm
        rw [if_neg (by omega), show ((k + 1 : Nat) : Int) - 1 = k by omega]
      rw [e, show ((k + 1 : Nat) : Int) - 1 = k by omega]
      exact q2 j
def oM (N : Nat) (U f : Int → Int) (k j : Int) : Option (Int × Int) := if k = (N : Int) then sO (U j) 1 else sO (pw f k j) (DD f k)
theorem or_of {N : Nat} {U f : Int → Int} {as cs : List (Int × Int)} (N1 : 1 ≤ N) (N4 : N ≤ 4) (S : semB N U f as cs = true) (C : cxK N U f = true) (oU : ∀ j : Nat, j < 5 → okb (U j)) {k : Nat} (hk : k ≤ N) : ∃ q, orT as cs k = some q ∧ ∀ j : Nat, j ≤ k → oM N U f k j = some (gz q.2 j) := by
  obtain ⟨Dp, f0⟩ := sem_D S
  obtain ⟨q, q1, q2, _⟩ := or_go N1 N4 S C k hk
  refine ⟨q, q1, fun j hj => ?_⟩
  have q := q2 j
  rw [eZ_in (by omega)] at q
  have b := bE_is f0 N1 N4 C hk hj
  have bD := (bD_is f0 N4 C hk).1
  have hb : bEn k ≤ 4611686018427387904 ∧ bDn k ≤ 4611686018427387904 := by
    have : ∀ k, k ≤ 4 → bEn k ≤ 4611686018427387904 ∧ bDn k ≤ 4611686018427387904 := by decide
    exact this k (by omega)
  have Dk := Dp k hk
  unfold oM
  unfold eC dlN at q
  unfold eC at b
  by_cases e : (k : Int) = (N : Int)
  · rw [if_pos e] at q b ⊢
    rw [if_pos e] at q
    rw [sO_fq (okb_nb b hb.1) okb_1 (by omega), q.uniq (fset_fq (by omega))]
  · rw [if_neg e] at q b ⊢
    rw [if_neg e] at q
    rw [sO_fq (okb_nb b hb.1) (okb_nb bD hb.2) (by omega), q.uniq (fset_fq (by omega))]
