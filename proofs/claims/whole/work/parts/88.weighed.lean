/-! OPS: weighed -/
def wpI (v : Int) (p : Int × Int) : Nat → Option (Int × Int)
  | 0 => some p
  | k + 1 => (wpI v p k).bind fun q => mF q v 1
def wpS (l m : Int → Int) (n : Nat) (k : Nat) : Nat → Option (Int × Int)
  | 0 => some (0, 1)
  | i + 1 => (wpS l m n k i).bind fun s => (wpI (l i) (sF (wT l m i (n - 1)) (wB l i n)) k).bind fun q => aF q s.1 s.2
def isF (o : Option (Int × Int)) (a b : Int) : Bool := match o with
  | none => false
  | some q => decide (q.1 = a) && decide (q.2 = b)
theorem isF_eq {o : Option (Int × Int)} {a b : Int} (h : isF o a b = true) : o = some (a, b) := by
  unfold isF at h
  cases o with
  | none => cases h
  | some q =>
    simp only [Bool.and_eq_true, decide_eq_true_eq] at h
    obtain ⟨x, y⟩ := q
    obtain ⟨rfl, rfl⟩ := h
    rfl
def wpP (n : Nat) (l m : Int → Int) : Bool := (List.range 8).all fun k => isF (wpS l m n k n) (moT n (tp l n) (tp m (n - 1)) 8 k) 1
theorem wpI_pre {v : Int} {p : Int × Int} {k : Nat} {q : Int × Int} : ∀ d : Nat, wpI v p (k + d) = some q → ∃ s, wpI v p k = some s := by
  intro d
  induction d generalizing q with
  | zero => intro h; exact ⟨q, h⟩
  | succ d ih =>
    intro h
    rw [← Nat.add_assoc, wpI, Option.bind_eq_some_iff] at h
    obtain ⟨s, h1, h2⟩ := h
    exact ih h1
theorem wpS_pre {l m : Int → Int} {n k i : Nat} {q : Int × Int} : ∀ d : Nat, wpS l m n k (i + d) = some q → ∃ s, wpS l m n k i = some s := by
  intro d
  induction d generalizing q with
  | zero => intro h; exact ⟨q, h⟩
  | succ d ih =>
    intro h
    rw [← Nat.add_assoc, wpS, Option.bind_eq_some_iff] at h
    obtain ⟨s, h1, h2⟩ := h
    exact ih h1
theorem wpI_ok {v : Int} {p : Int × Int} (h0 : okb p.1) (h1 : okb p.2) : ∀ {k : Nat} {q : Int × Int}, wpI v p k = some q → okb q.1 ∧ okb q.2 := by
  intro k q h
  cases k with
  | zero => cases h; exact ⟨h0, h1⟩
  | succ k =>
    rw [wpI, Option.bind_eq_some_iff] at h
    obtain ⟨s, _, h2⟩ := h
    rw [mF_eq] at h2
    exact fmulO_ok h2
theorem wpS_ok {l m : Int → Int} {n k : Nat} : ∀ {i : Nat} {q : Int × Int}, wpS l m n k i = some q → okb q.1 ∧ okb q.2 := by
  intro i q h
  cases i with
  | zero => cases h; exact ⟨okb_0, okb_1⟩
  | succ i =>
    rw [wpS, Option.bind_eq_some_iff] at h
    obtain ⟨s, _, h2⟩ := h
    rw [Option.bind_eq_some_iff] at h2
    obtain ⟨p, _, h3⟩ := h2
    rw [aF_eq] at h3
    exact faddO_ok h3
set_option maxHeartbeats 1000000 in
theorem X9_weighPowers {Y : jY} {μ : jM} {o : Nat} (hN : kN Y μ o) (hF : kFr Y μ 94) (ho : o + 2 < 94) {N k : Int} {l m : Int → Int} (e0 : gi μ o 0 = N) (h1 : 1 ≤ N) (h4 : N ≤ 4) (k0 : 0 ≤ k) (k7 : k ≤ 7) (hl : ∀ x : Int, 0 ≤ x → x < N → gi μ (o + 1) x = l x ∧ -6 ≤ l x ∧ l x ≤ 6) (hm : ∀ x : Int, 0 ≤ x → x < N - 1 → gi μ (o + 2) x = m x ∧ -6 ≤ m x ∧ m x ≤ 6) {q : Int × Int} (hq : wpS l m N.toNat k.toNat N.toNat = some q) : ∃ ν, f_X9_weighPowers Y o (ki k) 94 μ = some ν ∧ kF 94 95 μ ν ∧ ν 94 0 = .long (kl q.1) ∧ ν 94 1 = .long (kl q.2) := by
  refine jit_inv (f := fun (s : Int64 × Int64 × Int32 × jM) => b_X9_weighPowers_8 Y o (ki k) 94 s.1 s.2.1 s.2.2.1 s.2.2.2) (fun i z => z.2.2.1 = ki i ∧ kF 94 95 μ z.2.2.2 ∧ ∃ s, wpS l m N.toNat k.toNat i = some s ∧ z.1 = kl s.1 ∧ z.2.1 = kl s.2 ∧ (i ≠ 0 → z.2.2.2 94 0 = .long (kl s.1) ∧ z.2.2.2 94 1 = .long (kl s.2))) _ N.toNat (s := ((0 : Int64), (1 : Int64), (0 : Int32), μ)) ⟨rfl, kF.refl, (0, 1), rfl, rfl, rfl, fun h => absurd rfl h⟩ (by omega) (fun i z hi hz => ?_)
  obtain ⟨x, y, w, ν⟩ := z
  obtain ⟨rfl, z1, s, z2, rfl, rfl, z3⟩ := hz
  simp only [] at z1 z3
  have hN1 := hN.to z1
  have hF1 := hF.to z1
  have g := kN.gr hN1
  rw [z1.gi (by omega), e0] at g
  by_cases e : i = N.toNat
  · rw [e, hq] at z2
    cases z2
    refine ⟨.inr ν, ?_, z1, z3 (by omega)⟩
    simp (disch := omega) only [b_X9_weighPowers_8, g, ki_0, ki_1, ki_2, ki_3, ki_4, ki_5, ki_6, ki_7, ki_8, ki_9, ki_10, ki_11, ki_12, ki_13, ki_18, ki_20, ki_24, ki_32, ki_36, ki_45, ki_47, ki_48, ki_50, ki_57, ki_60, ki_63, ki_99, ki_100, ki_101, ki_120, ki_255, ki_468, ki_1000, ki_1024, ki_13849, ki_25173, ki_65535, ki_65536, ki_100000, ki_100001, ki_2147483647, ki_2147483648, kl_0, kl_1, kl_2, kl_9223372036854775808, ki_add, ki_sub, ki_mul, ki_neg, kl_add, kl_sub, kl_mul, kl_neg, ki_i2l, kl_l2i, ki_lt, ki_le, ki_eq, kcmp_eq, kcmp_lt, kcmp_le, kcmp_gt, kcmp_ge, Option.bind_some, Option.map_some, kbool0, kbool1, if_pos, if_neg, if_true, if_false, Int.neg_neg, Int.sub_zero, Int.add_zero, Int.zero_add, true_and, and_true, false_and, and_false, false_or, or_false, true_or, or_true, ne_eq, not_false_eq_true, not_true_eq_false]
  · have pre : ∃ s', wpS l m N.toNat k.toNat (i + 1) = some s' := wpS_pre (N.toNat - (i + 1)) (by rw [show i + 1 + (N.toNat - (i + 1)) = N.toNat by omega]; exact hq)
    obtain ⟨s', e1⟩ := pre
    have e1' := e1
    rw [wpS, z2, Option.bind_some, Option.bind_eq_some_iff] at e1'
    obtain ⟨p, e2, e3⟩ := e1'
    have W := X9_weigh hN1 hF1 (N := N) (i := i) (l := l) (m := m) (by rw [z1.gi (by omega), e0]) h1 h4 (by omega) (by omega) (fun x a b => by rw [z1.gi (by omega)]; exact hl x a b) (fun x a b => by rw [z1.gi (by omega)]; exact hm x a b)
    have kf := frw_kF (μ := ν) (p := fset (wT l m i (N - 1).toNat) (wB l i N.toNat)) hF1
    have li := hl i (by omega) (by omega)
    have bT := wT_bd (l := l) (m := m) (i := i) (N - 1).toNat (fun x hx => by have := hm x (by omega) (by omega); omega)
    have bB := wB_bd (l := l) (i := i) N.toNat (fun x hx => by have := hl x (by omega) (by omega); omega)
    have p1 := p12_le (N - 1).toNat (by omega)
    have p2 := p12_le N.toNat (by omega)
    have fo := fset_ok (t := wT l m i (N - 1).toNat) (b := wB l i N.toNat) ⟨by omega, by omega⟩ ⟨by omega, by omega⟩
    have so := wpS_ok z2
    rw [sF_eq, show N.toNat - 1 = (N - 1).toNat by omega] at e2
    have f0 : frw ν 94 (fset (wT l m i (N - 1).toNat) (wB l i N.toNat)) 94 0 = _ := frw_0
    have f1 : frw ν 94 (fset (wT l m i (N - 1).toNat) (wB l i N.toNat)) 94 1 = _ := frw_1
    clear bT bB
    generalize frw ν 94 (fset (wT l m i (N - 1).toNat) (wB l i N.toNat)) = ξ at *
    generalize fset (wT l m i (N - 1).toNat) (wB l i N.toNat) = p0 at *
    have inner : ∃ ω, jit jF (fun (z : Int32 × jM) => b_X9_weighPowers_27 Y o (ki k) 94 (kl s.1) (kl s.2) (ki i) z.1 z.2) ((0 : Int32), ξ) = some (.inl (kl s'.1, kl s'.2, ki ((i + 1 : Nat) : Int), ω)) ∧ kF 94 95 μ ω ∧ ω 94 0 = .long (kl s'.1) ∧ ω 94 1 = .long (kl s'.2) := by
      obtain ⟨r, f2, ω, rfl, f3⟩ := jit_inv (f := fun (z : Int32 × jM) => b_X9_weighPowers_27 Y o (ki k) 94 (kl s.1) (kl s.2) (ki i) z.1 z.2) (fun j z => z.1 = ki j ∧ kF 94 95 μ z.2 ∧ ∃ t, wpI (l i) p0 j = some t ∧ z.2 94 0 = .long (kl t.1) ∧ z.2 94 1 = .long (kl t.2)) (fun r => ∃ ω, r = .inl (kl s'.1, kl s'.2, ki ((i + 1 : Nat) : Int), ω) ∧ kF 94 95 μ ω ∧ ω 94 0 = .long (kl s'.1) ∧ ω 94 1 = .long (kl s'.2)) k.toNat (s := ((0 : Int32), ξ)) ⟨rfl, z1.trans kf, p0, rfl, f0, f1⟩ (by omega) (fun j z hj hz => by
        obtain ⟨v, η⟩ := z
        obtain ⟨rfl, y1, t, y2, y3, y4⟩ := hz
        simp only [] at y1 y3 y4
        have hF2 := hF.to y1
        have hN2 := hN.to y1
        have to_ := wpI_ok fo.1 fo.2 y2
        by_cases ej : j = k.toNat
        · rw [ej, e2] at y2
          cases y2
          rw [aF_eq] at e3
          have A := X1_add_ hF2 y3 y4 to_.2 so.2 e3
          have kf2 := frw_kF (μ := η) (p := s') hF2
          have r0 := kgLv (k := 0) (v := kl s'.1) hF2.1 (μ := frw η 94 s') frw_0
          have r1 := kgLv (k := 1) (v := kl s'.2) hF2.1 (μ := frw η 94 s') frw_1
          refine ⟨.inr (.inl (kl s'.1, kl s'.2, ki ((i + 1 : Nat) : Int), frw η 94 s')), ?_, _, rfl, y1.trans kf2, frw_0, frw_1⟩
          simp (disch := omega) only [b_X9_weighPowers_27, krcv hF.1, A, r0, r1, ki_0, ki_1, ki_2, ki_3, ki_4, ki_5, ki_6, ki_7, ki_8, ki_9, ki_10, ki_11, ki_12, ki_13, ki_18, ki_20, ki_24, ki_32, ki_36, ki_45, ki_47, ki_48, ki_50, ki_57, ki_60, ki_63, ki_99, ki_100, ki_101, ki_120, ki_255, ki_468, ki_1000, ki_1024, ki_13849, ki_25173, ki_65535, ki_65536, ki_100000, ki_100001, ki_2147483647, ki_2147483648, kl_0, kl_1, kl_2, kl_9223372036854775808, ki_add, ki_sub, ki_mul, ki_neg, kl_add, kl_sub, kl_mul, kl_neg, ki_i2l, kl_l2i, ki_lt, ki_le, ki_eq, kcmp_eq, kcmp_lt, kcmp_le, kcmp_gt, kcmp_ge, Option.bind_some, Option.map_some, kbool0, kbool1, if_pos, if_neg, if_true, if_false, Int.neg_neg, Int.sub_zero, Int.add_zero, Int.zero_add, true_and, and_true, false_and, and_false, false_or, or_false, true_or, or_true, ne_eq, not_false_eq_true, not_true_eq_false, Int.natCast_add, Int.natCast_one]
        · have pre2 : ∃ t', wpI (l i) p0 (j + 1) = some t' := wpI_pre (k.toNat - (j + 1)) (by rw [show j + 1 + (k.toNat - (j + 1)) = k.toNat by omega]; exact e2)
          obtain ⟨t', g1⟩ := pre2
          have g1' := g1
          rw [wpI, y2, Option.bind_some, mF_eq] at g1'
          have q1 := kaI hN2.aa (x := (i : Int)) (by omega) (by omega)
          rw [y1.gi (by omega), li.1] at q1
          have A := X1_multiply_ hF2 y3 y4 to_.1 to_.2 (t := l i) (b := 1) ⟨by omega, by omega⟩ okb_1 g1'
          have kf2 := frw_kF (μ := η) (p := t') hF2
          refine ⟨.inl (ki ((j + 1 : Nat) : Int), frw η 94 t'), ?_, by omega, rfl, y1.trans kf2, t', g1, frw_0 (μ := η) (o := 94) (p := t'), frw_1 (μ := η) (o := 94) (p := t')⟩
          simp (disch := omega) only [b_X9_weighPowers_27, kN.ga hN2, q1, krcv hF.1, A, ki_0, ki_1, ki_2, ki_3, ki_4, ki_5, ki_6, ki_7, ki_8, ki_9, ki_10, ki_11, ki_12, ki_13, ki_18, ki_20, ki_24, ki_32, ki_36, ki_45, ki_47, ki_48, ki_50, ki_57, ki_60, ki_63, ki_99, ki_100, ki_101, ki_120, ki_255, ki_468, ki_1000, ki_1024, ki_13849, ki_25173, ki_65535, ki_65536, ki_100000, ki_100001, ki_2147483647, ki_2147483648, kl_0, kl_1, kl_2, kl_9223372036854775808, ki_add, ki_sub, ki_mul, ki_neg, kl_add, kl_sub, kl_mul, kl_neg, ki_i2l, kl_l2i, ki_lt, ki_le, ki_eq, kcmp_eq, kcmp_lt, kcmp_le, kcmp_gt, kcmp_ge, Option.bind_some, Option.map_some, kbool0, kbool1, if_pos, if_neg, if_true, if_false, Int.neg_neg, Int.sub_zero, Int.add_zero, Int.zero_add, true_and, and_true, false_and, and_false, false_or, or_false, true_or, or_true, ne_eq, not_false_eq_true, not_true_eq_false, Int.natCast_add, Int.natCast_one])
      exact ⟨ω, f2, f3⟩
    obtain ⟨ω, f2, f3, f4, f5⟩ := inner
    refine ⟨.inl (kl s'.1, kl s'.2, ki ((i + 1 : Nat) : Int), ω), ?_, by omega, rfl, f3, s', e1, rfl, rfl, fun _ => ⟨f4, f5⟩⟩
    simp (disch := omega) only [b_X9_weighPowers_8, g, krcv hN.y, W, ki_0, ki_1, ki_2, ki_3, ki_4, ki_5, ki_6, ki_7, ki_8, ki_9, ki_10, ki_11, ki_12, ki_13, ki_18, ki_20, ki_24, ki_32, ki_36, ki_45, ki_47, ki_48, ki_50, ki_57, ki_60, ki_63, ki_99, ki_100, ki_101, ki_120, ki_255, ki_468, ki_1000, ki_1024, ki_13849, ki_25173, ki_65535, ki_65536, ki_100000, ki_100001, ki_2147483647, ki_2147483648, kl_0, kl_1, kl_2, kl_9223372036854775808, ki_add, ki_sub, ki_mul, ki_neg, kl_add, kl_sub, kl_mul, kl_neg, ki_i2l, kl_l2i, ki_lt, ki_le, ki_eq, kcmp_eq, kcmp_lt, kcmp_le, kcmp_gt, kcmp_ge, Option.bind_some, Option.map_some, kbool0, kbool1, if_pos, if_neg, if_true, if_false, Int.neg_neg, Int.sub_zero, Int.add_zero, Int.zero_add, true_and, and_true, false_and, and_false, false_or, or_false, true_or, or_true, ne_eq, not_false_eq_true, not_true_eq_false]
    exact f2
set_option maxRecDepth 100000 in
theorem wp_1 : all1 wpP = true := by decide +kernel
set_option maxRecDepth 100000 in
theorem wp_2 : all2 wpP = true := by decide +kernel
set_option maxRecDepth 100000 in
theorem wp_3 : all3 wpP = true := by decide +kernel
