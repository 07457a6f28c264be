/-! FRACTIONS by what they are worth -/
def fq (p : Int × Int) (T M : Int) : Prop := M ≠ 0 ∧ 0 < p.2 ∧ Nat.gcd p.1.natAbs p.2.natAbs = 1 ∧ p.1 * M = T * p.2
theorem dvd_le {a b : Int} (h : a ∣ b) (b0 : b ≠ 0) : a.natAbs ≤ b.natAbs := Nat.le_of_dvd (by omega) (Int.natAbs_dvd_natAbs.2 h)
theorem cop_l {a b c : Int} (h : Nat.gcd a.natAbs b.natAbs = 1) (d : b ∣ a * c) : b ∣ c := by
  rw [← Int.natAbs_dvd_natAbs] at d ⊢
  rw [Int.natAbs_mul] at d
  exact Nat.Coprime.dvd_of_dvd_mul_left (show Nat.gcd b.natAbs a.natAbs = 1 by rw [Nat.gcd_comm]; exact h) d
theorem fq.dM {p : Int × Int} {T M : Int} (h : fq p T M) : p.2 ∣ M := cop_l h.2.2.1 ⟨T, by rw [h.2.2.2, Int.mul_comm]⟩
theorem fq.dT {p : Int × Int} {T M : Int} (h : fq p T M) : p.1 ∣ T := by
  refine cop_l (a := p.2) (by rw [Nat.gcd_comm]; exact h.2.2.1) ⟨M, ?_⟩
  rw [Int.mul_comm p.2 T, h.2.2.2]
theorem fq.z {p : Int × Int} {T M : Int} (h : fq p T M) : p.1 = 0 ↔ T = 0 := by
  obtain ⟨m0, p0, _, e⟩ := h
  constructor
  · intro z
    rw [z, Int.zero_mul] at e
    rcases Int.mul_eq_zero.1 e.symm with q | q
    · exact q
    · omega
  · intro z
    rw [z, Int.zero_mul] at e
    rcases Int.mul_eq_zero.1 e with q | q
    · exact q
    · exact absurd q m0
theorem okb_dvd {a b : Int} (h : a ∣ b) (b0 : b ≠ 0) (o : okb b) : okb a := by
  have := dvd_le h b0
  unfold okb at *
  omega
theorem fq.ok {p : Int × Int} {T M : Int} (h : fq p T M) (oT : okb T) (oM : okb M) : okb p.1 ∧ okb p.2 := by
  refine ⟨?_, okb_dvd h.dM h.1 oM⟩
  by_cases z : T = 0
  · rw [h.z.2 z]
    exact okb_0
  · exact okb_dvd h.dT z oT
theorem fq.to {p : Int × Int} {T M T' M' : Int} (h : fq p T M) (m0 : M' ≠ 0) (e : T * M' = T' * M) : fq p T' M' := by
  refine ⟨m0, h.2.1, h.2.2.1, ?_⟩
  have e2 := h.2.2.2
  have : M * (p.1 * M') = M * (T' * p.2) := by grind
  exact Int.eq_of_mul_eq_mul_left h.1 this
theorem fq.uniq {p q : Int × Int} {T M : Int} (h : fq p T M) (k : fq q T M) : p = q := by
  have e : p.1 * q.2 = q.1 * p.2 := by
    have e1 := h.2.2.2
    have e2 := k.2.2.2
    have : M * (p.1 * q.2) = M * (q.1 * p.2) := by grind
    exact Int.eq_of_mul_eq_mul_left h.1 this
  have d1 : p.2 ∣ q.2 := cop_l h.2.2.1 ⟨q.1, by rw [e, Int.mul_comm]⟩
  have d2 : q.2 ∣ p.2 := cop_l k.2.2.1 ⟨p.1, by rw [← e, Int.mul_comm]⟩
  have l1 := dvd_le d1 (by have := k.2.1; omega)
  have l2 := dvd_le d2 (by have := h.2.1; omega)
  have e2 : p.2 = q.2 := by have := h.2.1; have := k.2.1; omega
  rw [e2] at e
  have e1 : p.1 = q.1 := by
    have := k.2.1
    rw [Int.mul_comm p.1, Int.mul_comm q.1] at e
    exact Int.eq_of_mul_eq_mul_left (by omega) e
  exact Prod.ext e1 e2
theorem cop_tdiv {t b : Int} (h : t ≠ 0 ∨ b ≠ 0) : Nat.gcd (t.tdiv (cd t b)).natAbs (b.tdiv (cd t b)).natAbs = 1 := by
  have c := common_cd h
  have c' : Nat.gcd t.natAbs b.natAbs = cd t b := by omega
  rw [Int.natAbs_tdiv, Int.natAbs_tdiv, Int.natAbs_natCast, ← c']
  show Nat.gcd (t.natAbs / Nat.gcd t.natAbs b.natAbs) (b.natAbs / Nat.gcd t.natAbs b.natAbs) = 1
  rw [Nat.gcd_div (Nat.gcd_dvd_left _ _) (Nat.gcd_dvd_right _ _)]
  exact Nat.div_self (by have := cd_ne t b; omega)
theorem tdiv_mul {a g : Int} (h : g ∣ a) (g0 : g ≠ 0) : a.tdiv g * g = a := Int.tdiv_mul_cancel h
theorem fset_fq {T M : Int} (m0 : M ≠ 0) : fq (fset T M) T M := by
  have c := cop_tdiv (t := T) (b := M) (Or.inr m0)
  have g0 := cd_ne T M
  have e1 := tdiv_mul (cd_dvdl T M) g0
  have e2 := tdiv_mul (cd_dvdr T M) g0
  have gp : (0 : Int) < cd T M := by omega
  unfold fset
  rw [if_neg m0]
  generalize (cd T M : Int) = g at *
  generalize T.tdiv g = t at *
  generalize M.tdiv g = m at *
  have hm : m * g = M := e2
  by_cases hp : 0 ≤ M
  · rw [if_pos hp]
    refine ⟨m0, ?_, c, ?_⟩
    · show 0 < m
      by_cases q : 0 < m
      · exact q
      · have := Int.mul_nonneg (a := -m) (b := g) (by omega) (by omega)
        rw [Int.neg_mul] at this
        omega
    · show t * M = T * m
      rw [← e1, ← hm]
      grind
  · rw [if_neg hp]
    refine ⟨m0, ?_, ?_, ?_⟩
    · show 0 < -m
      by_cases q : 0 < -m
      · exact q
      · have := Int.mul_nonneg (a := m) (b := g) (by omega) (by omega)
        omega
    · show Nat.gcd (-t).natAbs (-m).natAbs = 1
      rw [Int.natAbs_neg, Int.natAbs_neg]
      exact c
    · show -t * M = T * -m
      rw [← e1, ← hm]
      grind
theorem fq.add {p q : Int × Int} {T1 T2 M : Int} (h : fq p T1 M) (k : fq q T2 M) (oT : okb (T1 + T2)) (oM : okb M) : ∃ r, aF p q.1 q.2 = some r ∧ fq r (T1 + T2) M := by
  have g0 := cd_ne p.2 q.2
  have e1 := tdiv_mul (cd_dvdl p.2 q.2) g0
  have e2 := tdiv_mul (cd_dvdr p.2 q.2) g0
  have c := cop_tdiv (t := p.2) (b := q.2) (Or.inl (by have := h.2.1; omega))
  rw [aF_eq]
  simp only [faddO]
  generalize (cd p.2 q.2 : Int) = g at *
  generalize p.2.tdiv g = u at *
  generalize hv0 : q.2.tdiv g = v at *
  -- M = u * q.2 * c
  obtain ⟨x, hx⟩ := k.dM
  have dpx : p.2 ∣ q.2 * x := by rw [← hx]; exact h.dM
  have dux : u ∣ v * x := by
    obtain ⟨y, hy⟩ := dpx
    refine ⟨y, ?_⟩
    have : g * (v * x) = g * (u * y) := by grind
    exact Int.eq_of_mul_eq_mul_left g0 this
  obtain ⟨z, hz⟩ := cop_l (a := v) (b := u) (c := x) (by rw [Nat.gcd_comm]; exact c) dux
  have hM : M = u * q.2 * z := by rw [hx, hz]; grind
  have z0 : z ≠ 0 := fun q0 => h.1 (by rw [hM, q0, Int.mul_zero])
  have u0 : u * q.2 ≠ 0 := fun q0 => h.1 (by rw [hM, q0, Int.zero_mul])
  have hp := h.2.2.2
  have hq := k.2.2.2
  have p0 := h.2.1
  have q0 := k.2.1
  have t1 : T1 = p.1 * v * z := by
    have : p.2 * T1 = p.2 * (p.1 * v * z) := by grind
    exact Int.eq_of_mul_eq_mul_left (by omega) this
  have t2 : T2 = q.1 * u * z := by
    have : q.2 * T2 = q.2 * (q.1 * u * z) := by grind
    exact Int.eq_of_mul_eq_mul_left (by omega) this
  have hT : T1 + T2 = (p.1 * v + q.1 * u) * z := by grind
  have oB : okb (u * q.2) := okb_dvd ⟨z, hM⟩ h.1 oM
  have oA : okb (p.1 * v + q.1 * u) := by
    by_cases w : p.1 * v + q.1 * u = 0
    · rw [w]; exact okb_0
    · exact okb_dvd ⟨z, hT⟩ (by rw [hT]; exact Int.mul_ne_zero w z0) oT
  rw [if_pos (by rw [Bool.and_eq_true, okB_iff, okB_iff]; exact ⟨oA, oB⟩)]
  exact ⟨_, rfl, (fset_fq u0).to h.1 (by rw [hT, hM]; grind)⟩
theorem fq.neg {p : Int × Int} {T M : Int} (h : fq p T M) : fq (-p.1, p.2) (-T) M := ⟨h.1, h.2.1, by show Nat.gcd (-p.1).natAbs p.2.natAbs = 1; rw [Int.natAbs_neg]; exact h.2.2.1, by have := h.2.2.2; show -p.1 * M = -T * p.2; grind⟩
theorem fq.sub {p q : Int × Int} {T1 T2 M : Int} (h : fq p T1 M) (k : fq q T2 M) (oT : okb (T1 - T2)) (oM : okb M) : ∃ r, aF p (-q.1) q.2 = some r ∧ fq r (T1 - T2) M := by
  have := h.add k.neg (by rw [← Int.sub_eq_add_neg]; exact oT) oM
  rw [← Int.sub_eq_add_neg] at this
  exact this
theorem fmul_fq {p : Int × Int} {T1 M1 t b T M : Int} (h : fq p T1 M1) (b0 : b ≠ 0) (cb : Nat.gcd t.natAbs b.natAbs = 1) (m0 : M ≠ 0) (e : T * (M1 * b) = T1 * t * M) (oT : okb T) (oM : okb M) : ∃ r, mF p t b = some r ∧ fq r T M := by
  have g0 := cd_ne p.1 b
  have k0 := cd_ne t p.2
  have e1 := tdiv_mul (cd_dvdl p.1 b) g0
  have e2 := tdiv_mul (cd_dvdr p.1 b) g0
  have e3 := tdiv_mul (cd_dvdl t p.2) k0
  have e4 := tdiv_mul (cd_dvdr t p.2) k0
  have c1 := cop_tdiv (t := p.1) (b := b) (Or.inr b0)
  have c2 := cop_tdiv (t := t) (b := p.2) (Or.inr (by have := h.2.1; omega))
  have hp := h.2.2.2
  have hc := h.2.2.1
  have p0 := h.2.1
  have n1 := tdiv_ne (cd_dvdr p.1 b) g0 b0
  have n2 := tdiv_ne (cd_dvdr t p.2) k0 (by omega)
  rw [mF_eq]
  simp only [fmulO]
  generalize (cd p.1 b : Int) = g at *
  generalize (cd t p.2 : Int) = k at *
  generalize p.1.tdiv g = u at *
  generalize b.tdiv g = v at *
  generalize t.tdiv k = s at *
  generalize p.2.tdiv k = y at *
  -- u*s over y*v in lowest terms
  have cc : ∀ {a b c d : Int}, Nat.gcd a.natAbs c.natAbs = 1 → Nat.gcd a.natAbs d.natAbs = 1 → Nat.gcd b.natAbs c.natAbs = 1 → Nat.gcd b.natAbs d.natAbs = 1 → Nat.gcd (a * b).natAbs (c * d).natAbs = 1 := by
    intro a b c d h1 h2 h3 h4
    rw [Int.natAbs_mul, Int.natAbs_mul]
    exact Nat.Coprime.mul_left (Nat.Coprime.mul_right h1 h2) (Nat.Coprime.mul_right h3 h4)
  have dv : ∀ {a b x y c d : Int}, a * c = x → b * d = y → Nat.gcd x.natAbs y.natAbs = 1 → Nat.gcd a.natAbs b.natAbs = 1 := by
    intro a b x y c d h1 h2 h3
    have d1 : a.natAbs ∣ x.natAbs := Int.natAbs_dvd_natAbs.2 ⟨c, h1.symm⟩
    have d2 : b.natAbs ∣ y.natAbs := Int.natAbs_dvd_natAbs.2 ⟨d, h2.symm⟩
    exact Nat.Coprime.coprime_dvd_left d1 (Nat.Coprime.coprime_dvd_right d2 h3)
  have co : Nat.gcd (u * s).natAbs (y * v).natAbs = 1 := cc (dv e1 e4 hc) c1 c2 (dv e3 e2 cb)
  have B0 : y * v ≠ 0 := Int.mul_ne_zero n2 n1
  have E : u * s * M = T * (y * v) := by
    have q1 : M1 ≠ 0 := h.1
    have : (M1 * (g * k)) * (u * s * M) = (M1 * (g * k)) * (T * (y * v)) := by
      have a1 : (M1 * (g * k)) * (u * s * M) = (p.1 * M1) * t * M := by rw [← e1, ← e3]; grind
      have a2 : (M1 * (g * k)) * (T * (y * v)) = T * (M1 * b) * p.2 := by rw [← e2, ← e4]; grind
      rw [a1, a2, hp, e]
      grind
    exact Int.eq_of_mul_eq_mul_left (Int.mul_ne_zero q1 (Int.mul_ne_zero g0 k0)) this
  have dB : y * v ∣ M := cop_l co ⟨T, by rw [E, Int.mul_comm]⟩
  have dT : u * s ∣ T := cop_l (a := y * v) (by rw [Nat.gcd_comm]; exact co) ⟨M, by rw [Int.mul_comm (y * v) T, E]⟩
  have oB : okb (y * v) := okb_dvd dB m0 oM
  have oA : okb (u * s) := by
    by_cases w : T = 0
    · have : u * s = 0 := by
        rw [w, Int.zero_mul] at E
        rcases Int.mul_eq_zero.1 E with q | q
        · exact q
        · exact absurd q m0
      rw [this]
      exact okb_0
    · exact okb_dvd dT w oT
  rw [if_pos (by rw [Bool.and_eq_true, okB_iff, okB_iff]; exact ⟨oA, oB⟩)]
  exact ⟨_, rfl, (fset_fq B0).to m0 E⟩
theorem fq.mul {p q : Int × Int} {T1 M1 T2 M2 T M : Int} (h : fq p T1 M1) (k : fq q T2 M2) (m0 : M ≠ 0) (e : T * (M1 * M2) = T1 * T2 * M) (oT : okb T) (oM : okb M) : ∃ r, mF p q.1 q.2 = some r ∧ fq r T M := by
  refine fmul_fq h (by have := k.2.1; omega) k.2.2.1 m0 ?_ oT oM
  have := k.2.2.2
  have : M2 * (T * (M1 * q.2)) = M2 * (T1 * q.1 * M) := by grind
  exact Int.eq_of_mul_eq_mul_left k.1 this
theorem fq.div {p q : Int × Int} {T1 M1 T2 M2 T M : Int} (h : fq p T1 M1) (k : fq q T2 M2) (t0 : T2 ≠ 0) (m0 : M ≠ 0) (e : T * (M1 * T2) = T1 * M2 * M) (oT : okb T) (oM : okb M) : ∃ r, mF p q.2 q.1 = some r ∧ fq r T M := by
  refine fmul_fq h (fun z => t0 (k.z.1 z)) (by rw [Nat.gcd_comm]; exact k.2.2.1) m0 ?_ oT oM
  have := k.2.2.2
  have : T2 * (T * (M1 * q.1)) = T2 * (T1 * q.2 * M) := by grind
  exact Int.eq_of_mul_eq_mul_left t0 this
theorem fq.w {t : Int} : fq (t, 1) t 1 := ⟨by omega, by show (0 : Int) < 1; omega, by show Nat.gcd t.natAbs 1 = 1; exact Nat.gcd_one_right _, rfl⟩
