/-! OPS: join -/
set_option maxHeartbeats 1000000 in
theorem X10_append {Y : jY} {μ : jM} {o p : Nat} (hT : kT Y μ o) (hP : kT Y μ p) {R S v : Int} (eR : gi μ o 0 = R) (eS : gi μ p 0 = S) (h1 : 1 ≤ R) (h2 : 1 ≤ S) (h5 : R + S ≤ 5) (hv : 1 ≤ v ∧ v ≤ 36) (hop : o = p ∨ o + 2 < p ∨ p + 2 < o) : ∃ ν, f_X10_append Y o p (ki v) μ = some ν ∧ kF o (o + 3) μ ν ∧ gi ν o 0 = R + S ∧ (∀ x : Int, 0 ≤ x → x < 5 → gi ν (o + 1) x = if R ≤ x ∧ x < R + S then gi μ (p + 1) (x - R) else gi μ (o + 1) x) ∧ ∀ x : Int, 0 ≤ x → x < 4 → gi ν (o + 2) x = if x = R - 1 then v else if R ≤ x ∧ x < R + S - 1 then gi μ (p + 2) (x - R) else gi μ (o + 2) x := by
  have hRS : p = o → S = R := by rintro rfl; omega
  have k0 : kF o (o + 3) μ (jw μ (o + 2) (R - 1).toNat (.int (ki v))) := kF_I (hT.ac.2.2.2 _ (by omega)) (by omega) (by omega)
  have c1 : ∀ x : Int, gi (jw μ (o + 2) (R - 1).toNat (.int (ki v))) (o + 1) x = gi μ (o + 1) x := fun x => by rw [gi_jw _ _ (by omega) (by omega), if_neg (by omega)]
  have c1p : ∀ x : Int, gi (jw μ (o + 2) (R - 1).toNat (.int (ki v))) (p + 1) x = gi μ (p + 1) x := fun x => by rw [gi_jw _ _ (by omega) (by omega), if_neg (by omega)]
  have c2 : ∀ x : Int, 0 ≤ x → gi (jw μ (o + 2) (R - 1).toNat (.int (ki v))) (o + 2) x = if x = R - 1 then v else gi μ (o + 2) x := fun x hx => by
    rw [gi_jw _ _ (by omega) (by omega)]
    by_cases e : x = R - 1
    · rw [if_pos (by omega), if_pos e]
    · rw [if_neg (by omega), if_neg e]
  have c2p : ∀ x : Int, 0 ≤ x → x < S - 1 → gi (jw μ (o + 2) (R - 1).toNat (.int (ki v))) (p + 2) x = gi μ (p + 2) x := fun x hx hx2 => by
    rw [gi_jw _ _ (by omega) (by omega), if_neg ?_]
    intro q
    have := hRS (by omega)
    omega
  have c0 : gi (jw μ (o + 2) (R - 1).toNat (.int (ki v))) o 0 = R := by rw [gi_jw _ _ (by omega) (by omega), if_neg (by omega), eR]
  have sx := fun v => kasI (v := v) hT.ac (x := R - 1) (by omega) (by omega)
  have gp := kT.gr hP
  have go := kT.gr hT
  rw [eS] at gp
  rw [eR] at go
  suffices main : ∃ ν, jit jF (fun (s : Int32 × jM) => b_X10_append_20 Y o p (ki S) s.1 s.2) ((0 : Int32), jw μ (o + 2) (R - 1).toNat (.int (ki v))) = some ν ∧ kF o (o + 3) μ ν ∧ gi ν o 0 = R + S ∧ (∀ x : Int, 0 ≤ x → x < 5 → gi ν (o + 1) x = if R ≤ x ∧ x < R + S then gi μ (p + 1) (x - R) else gi μ (o + 1) x) ∧ ∀ x : Int, 0 ≤ x → x < 4 → gi ν (o + 2) x = if x = R - 1 then v else if R ≤ x ∧ x < R + S - 1 then gi μ (p + 2) (x - R) else gi μ (o + 2) x by
    obtain ⟨ν, e, h⟩ := main
    refine ⟨ν, ?_, h⟩
    simp (disch := omega) only [f_X10_append, gp, kT.gc hT, go, sx, ki_0, ki_1, ki_2, ki_3, ki_4, ki_5, ki_6, ki_7, ki_8, ki_9, ki_10, ki_11, ki_12, ki_13, ki_18, ki_20, ki_24, ki_32, ki_36, ki_45, ki_47, ki_48, ki_50, ki_57, ki_60, ki_63, ki_99, ki_100, ki_101, ki_120, ki_255, ki_468, ki_1000, ki_1024, ki_13849, ki_25173, ki_65535, ki_65536, ki_100000, ki_100001, ki_2147483647, ki_2147483648, kl_0, kl_1, kl_2, kl_9223372036854775808, ki_add, ki_sub, ki_mul, ki_neg, kl_add, kl_sub, kl_mul, kl_neg, ki_i2l, kl_l2i, ki_lt, ki_le, ki_eq, kcmp_eq, kcmp_lt, kcmp_le, kcmp_gt, kcmp_ge, Option.bind_some, Option.map_some, kbool0, kbool1, if_pos, if_neg, if_true, if_false, Int.neg_neg, Int.sub_zero, Int.add_zero, Int.zero_add, true_and, and_true, false_and, and_false, false_or, or_false, true_or, or_true, ne_eq, not_false_eq_true, not_true_eq_false]
    exact e
  generalize jw μ (o + 2) (R - 1).toNat (.int (ki v)) = ξ at *
  have W1 : ∀ i : Nat, (i : Int) ≤ S → kF o (o + 3) ξ (wr ξ (o + 1) R.toNat (gi μ (p + 1)) i) ∧ (∀ x : Int, 0 ≤ x → gi (wr ξ (o + 1) R.toNat (gi μ (p + 1)) i) (o + 1) x = if R ≤ x ∧ x < R + i then gi μ (p + 1) (x - R) else gi μ (o + 1) x) := by
    intro i hi
    refine ⟨wr_kF (by omega) (by omega) i (fun j hj => k0.I (hT.aa.2.2.2 _ (by omega))), fun x hx => ?_⟩
    rw [wr_gi i (fun j hj => ⟨gi_lo _ _ _, gi_hi _ _ _⟩) x hx, toNat_cast (by omega), c1]
  have main2 : ∀ η : jM, kF o (o + 3) ξ η → gi η o 0 = R → (∀ x : Int, 0 ≤ x → x < 4 → gi η (o + 2) x = gi ξ (o + 2) x) → (∀ x : Int, 0 ≤ x → x < S - 1 → gi η (p + 2) x = gi ξ (p + 2) x) → ∃ ν, jit jF (fun (s : Int32 × jM) => b_X10_append_54 Y o p (ki S) s.1 s.2) ((0 : Int32), η) = some ν ∧ kF o (o + 3) η ν ∧ gi ν o 0 = R + S ∧ (∀ x : Int, gi ν (o + 1) x = gi η (o + 1) x) ∧ ∀ x : Int, 0 ≤ x → x < 4 → gi ν (o + 2) x = if R ≤ x ∧ x < R + S - 1 then gi μ (p + 2) (x - R) else gi ξ (o + 2) x := by
    intro η kη e0 e2 e2p
    have hTη := (hT.to k0).to kη
    have hPη := (hP.to k0).to kη
    have W2 : ∀ i : Nat, (i : Int) ≤ S - 1 → kF o (o + 3) η (wr η (o + 2) R.toNat (gi μ (p + 2)) i) ∧ (∀ x : Int, 0 ≤ x → gi (wr η (o + 2) R.toNat (gi μ (p + 2)) i) (o + 2) x = if R ≤ x ∧ x < R + i then gi μ (p + 2) (x - R) else gi η (o + 2) x) := by
      intro i hi
      refine ⟨wr_kF (by omega) (by omega) i (fun j hj => hTη.ac.2.2.2 _ (by omega)), fun x hx => ?_⟩
      rw [wr_gi i (fun j hj => ⟨gi_lo _ _ _, gi_hi _ _ _⟩) x hx, toNat_cast (by omega)]
    obtain ⟨f1, f2⟩ := W2 (S - 1).toNat (by omega)
    have k3 : kF o (o + 3) (wr η (o + 2) R.toNat (gi μ (p + 2)) (S - 1).toNat) (jw (wr η (o + 2) R.toNat (gi μ (p + 2)) (S - 1).toNat) o 0 (.int (ki (R + S)))) := kF_I (hTη.to f1).ir (by omega) (by omega)
    refine ⟨jw (wr η (o + 2) R.toNat (gi μ (p + 2)) (S - 1).toNat) o 0 (.int (ki (R + S))), ?_, f1.trans k3, by rw [gi_jw _ _ (by omega) (by omega), if_pos ⟨rfl, rfl⟩], fun x => ?_, fun x x0 x1 => ?_⟩
    · refine jit_run (fun i => (ki i, wr η (o + 2) R.toNat (gi μ (p + 2)) i)) _ (S - 1).toNat rfl (by omega) (fun i hi => ?_) ?_
      · obtain ⟨t1, t2⟩ := W2 i (by omega)
        have q0 : gi (wr η (o + 2) R.toNat (gi μ (p + 2)) i) o 0 = R := by rw [wr_other (by omega), e0]
        have qp : gi (wr η (o + 2) R.toNat (gi μ (p + 2)) i) (p + 2) i = gi μ (p + 2) i := by
          by_cases e : p = o
          · subst e
            have := hRS rfl
            rw [t2 i (by omega), if_neg (by omega), e2p i (by omega) (by omega), c2p i (by omega) (by omega)]
          · rw [wr_other (by omega), e2p i (by omega) (by omega), c2p i (by omega) (by omega)]
        simp only [wr]
        generalize wr η (o + 2) R.toNat (gi μ (p + 2)) i = ω at *
        have hTw := hTη.to t1
        have g := kT.gr hTw
        rw [q0] at g
        have r1 := kaI (hPη.to t1).ac (x := (i : Int)) (by omega) (by omega)
        rw [qp] at r1
        have r2 := fun v => kasI (v := v) hTw.ac (x := R + i) (by omega) (by omega)
        simp (disch := omega) only [b_X10_append_54, kT.gc hTw, kT.gc (hPη.to t1), g, r1, r2, ki_0, ki_1, ki_2, ki_3, ki_4, ki_5, ki_6, ki_7, ki_8, ki_9, ki_10, ki_11, ki_12, ki_13, ki_18, ki_20, ki_24, ki_32, ki_36, ki_45, ki_47, ki_48, ki_50, ki_57, ki_60, ki_63, ki_99, ki_100, ki_101, ki_120, ki_255, ki_468, ki_1000, ki_1024, ki_13849, ki_25173, ki_65535, ki_65536, ki_100000, ki_100001, ki_2147483647, ki_2147483648, kl_0, kl_1, kl_2, kl_9223372036854775808, ki_add, ki_sub, ki_mul, ki_neg, kl_add, kl_sub, kl_mul, kl_neg, ki_i2l, kl_l2i, ki_lt, ki_le, ki_eq, kcmp_eq, kcmp_lt, kcmp_le, kcmp_gt, kcmp_ge, Option.bind_some, Option.map_some, kbool0, kbool1, if_pos, if_neg, if_true, if_false, Int.neg_neg, Int.sub_zero, Int.add_zero, Int.zero_add, true_and, and_true, false_and, and_false, false_or, or_false, true_or, or_true, ne_eq, not_false_eq_true, not_true_eq_false, Int.natCast_add, Int.natCast_one]
        rw [show (R + (i : Int)).toNat = R.toNat + i by omega]
      · have q0 : gi (wr η (o + 2) R.toNat (gi μ (p + 2)) (S - 1).toNat) o 0 = R := by rw [wr_other (by omega), e0]
        generalize wr η (o + 2) R.toNat (gi μ (p + 2)) (S - 1).toNat = ω at *
        have hTw := hTη.to f1
        have g := kT.gr hTw
        rw [q0] at g
        simp (disch := omega) only [b_X10_append_54, g, kT.pr hTw, ki_0, ki_1, ki_2, ki_3, ki_4, ki_5, ki_6, ki_7, ki_8, ki_9, ki_10, ki_11, ki_12, ki_13, ki_18, ki_20, ki_24, ki_32, ki_36, ki_45, ki_47, ki_48, ki_50, ki_57, ki_60, ki_63, ki_99, ki_100, ki_101, ki_120, ki_255, ki_468, ki_1000, ki_1024, ki_13849, ki_25173, ki_65535, ki_65536, ki_100000, ki_100001, ki_2147483647, ki_2147483648, kl_0, kl_1, kl_2, kl_9223372036854775808, ki_add, ki_sub, ki_mul, ki_neg, kl_add, kl_sub, kl_mul, kl_neg, ki_i2l, kl_l2i, ki_lt, ki_le, ki_eq, kcmp_eq, kcmp_lt, kcmp_le, kcmp_gt, kcmp_ge, Option.bind_some, Option.map_some, kbool0, kbool1, if_pos, if_neg, if_true, if_false, Int.neg_neg, Int.sub_zero, Int.add_zero, Int.zero_add, true_and, and_true, false_and, and_false, false_or, or_false, true_or, or_true, ne_eq, not_false_eq_true, not_true_eq_false]
    · rw [gi_jw _ _ (by omega) (by omega), if_neg (by omega), wr_other (by omega)]
    · rw [gi_jw _ _ (by omega) (by omega), if_neg (by omega), f2 x x0, e2 x x0 x1]
      by_cases e : R ≤ x ∧ x < R + S - 1
      · rw [if_pos (by omega), if_pos e]
      · rw [if_neg (by omega), if_neg e]
  obtain ⟨f1, f2⟩ := W1 S.toNat (by omega)
  obtain ⟨ν, g1, g2, g3, g4, g5⟩ := main2 (wr ξ (o + 1) R.toNat (gi μ (p + 1)) S.toNat) f1 (by rw [wr_other (by omega), c0]) (fun x _ _ => wr_other (by omega) _ _) (fun x _ _ => wr_other (by omega) _ _)
  refine ⟨ν, ?_, k0.trans (f1.trans g2), g3, fun x x0 x1 => ?_, fun x x0 x1 => ?_⟩
  · refine jit_run (fun i => (ki i, wr ξ (o + 1) R.toNat (gi μ (p + 1)) i)) _ S.toNat rfl (by omega) (fun i hi => ?_) ?_
    · obtain ⟨t1, t2⟩ := W1 i (by omega)
      have q0 : gi (wr ξ (o + 1) R.toNat (gi μ (p + 1)) i) o 0 = R := by rw [wr_other (by omega), c0]
      have qp : gi (wr ξ (o + 1) R.toNat (gi μ (p + 1)) i) (p + 1) i = gi μ (p + 1) i := by
        by_cases e : p = o
        · subst e
          have := hRS rfl
          rw [t2 i (by omega), if_neg (by omega)]
        · rw [wr_other (by omega), c1p]
      simp only [wr]
      generalize wr ξ (o + 1) R.toNat (gi μ (p + 1)) i = ω at *
      have hTw := (hT.to k0).to t1
      have hPw := (hP.to k0).to t1
      have g := kT.gr hTw
      rw [q0] at g
      have r1 := kaI hPw.aa (x := (i : Int)) (by omega) (by omega)
      rw [qp] at r1
      have r2 := fun v => kasI (v := v) hTw.aa (x := R + i) (by omega) (by omega)
      simp (disch := omega) only [b_X10_append_20, kT.ga hTw, kT.ga hPw, g, r1, r2, ki_0, ki_1, ki_2, ki_3, ki_4, ki_5, ki_6, ki_7, ki_8, ki_9, ki_10, ki_11, ki_12, ki_13, ki_18, ki_20, ki_24, ki_32, ki_36, ki_45, ki_47, ki_48, ki_50, ki_57, ki_60, ki_63, ki_99, ki_100, ki_101, ki_120, ki_255, ki_468, ki_1000, ki_1024, ki_13849, ki_25173, ki_65535, ki_65536, ki_100000, ki_100001, ki_2147483647, ki_2147483648, kl_0, kl_1, kl_2, kl_9223372036854775808, ki_add, ki_sub, ki_mul, ki_neg, kl_add, kl_sub, kl_mul, kl_neg, ki_i2l, kl_l2i, ki_lt, ki_le, ki_eq, kcmp_eq, kcmp_lt, kcmp_le, kcmp_gt, kcmp_ge, Option.bind_some, Option.map_some, kbool0, kbool1, if_pos, if_neg, if_true, if_false, Int.neg_neg, Int.sub_zero, Int.add_zero, Int.zero_add, true_and, and_true, false_and, and_false, false_or, or_false, true_or, or_true, ne_eq, not_false_eq_true, not_true_eq_false, Int.natCast_add, Int.natCast_one]
      rw [show (R + (i : Int)).toNat = R.toNat + i by omega]
    · generalize wr ξ (o + 1) R.toNat (gi μ (p + 1)) S.toNat = ω at *
      have E : b_X10_append_20 Y o p (ki S) (ki (S.toNat : Int)) ω = (jit jF (fun (s : Int32 × jM) => b_X10_append_54 Y o p (ki S) s.1 s.2) ((0 : Int32), ω)).map (fun r => (.inr r)) := by
        simp (disch := omega) only [b_X10_append_20, ki_0, ki_1, ki_2, ki_3, ki_4, ki_5, ki_6, ki_7, ki_8, ki_9, ki_10, ki_11, ki_12, ki_13, ki_18, ki_20, ki_24, ki_32, ki_36, ki_45, ki_47, ki_48, ki_50, ki_57, ki_60, ki_63, ki_99, ki_100, ki_101, ki_120, ki_255, ki_468, ki_1000, ki_1024, ki_13849, ki_25173, ki_65535, ki_65536, ki_100000, ki_100001, ki_2147483647, ki_2147483648, kl_0, kl_1, kl_2, kl_9223372036854775808, ki_add, ki_sub, ki_mul, ki_neg, kl_add, kl_sub, kl_mul, kl_neg, ki_i2l, kl_l2i, ki_lt, ki_le, ki_eq, kcmp_eq, kcmp_lt, kcmp_le, kcmp_gt, kcmp_ge, Option.bind_some, Option.map_some, kbool0, kbool1, if_pos, if_neg, if_true, if_false, Int.neg_neg, Int.sub_zero, Int.add_zero, Int.zero_add, true_and, and_true, false_and, and_false, false_or, or_false, true_or, or_true, ne_eq, not_false_eq_true, not_true_eq_false]
      simp only [E, g1]
      rfl
  · rw [g4, f2 x x0]
    by_cases e : R ≤ x ∧ x < R + S
    · rw [if_pos (by omega), if_pos e]
    · rw [if_neg (by omega), if_neg e]
  · rw [g5 x x0 x1, c2 x x0]
    by_cases e : x = R - 1
    · rw [if_neg (by omega), if_pos e, if_pos e]
    · rw [if_neg e, if_neg e]
set_option maxHeartbeats 1000000 in
theorem X12_join1 {Y : jY} {ξ : jM} (hM : kM Y ξ) {d e R S : Int} (d0 : 0 ≤ d) (d3 : d ≤ 3) (e0 : 0 ≤ e) (e3 : e ≤ 3) (h1 : 1 ≤ R) (h2 : 1 ≤ S) (h5 : R + S ≤ 5) (hRS : e = d → S = R) : ∃ ν, jit jF (fun (s : Int32 × jM) => b_X12_join_92 Y 95 (ki d) (ki e) (ki R) (ki S) s.1 s.2) ((0 : Int32), ξ) = some (ki (R + S), ν) ∧ kF 108 111 ξ ν ∧ (∀ x : Int, 0 ≤ x → x < 4 → gi ν 108 x = if x = d then R + S else gi ξ 108 x) ∧ (∀ x : Int, 0 ≤ x → x < 20 → gi ν 109 x = if 5 * d + R ≤ x ∧ x < 5 * d + R + S then gi ξ 109 (5 * e + (x - 5 * d - R)) else gi ξ 109 x) ∧ ∀ x : Int, 0 ≤ x → x < 20 → gi ν 110 x = if 5 * d + R ≤ x ∧ x < 5 * d + R + S - 1 then gi ξ 110 (5 * e + (x - 5 * d - R)) else gi ξ 110 x := by
  obtain ⟨r, f, g1, g2, g3, g4, g5⟩ := jit_inv (f := fun (s : Int32 × jM) => b_X12_join_92 Y 95 (ki d) (ki e) (ki R) (ki S) s.1 s.2) (fun i z => z.1 = ki i ∧ kF 109 111 ξ z.2 ∧ (∀ x : Int, 0 ≤ x → x < 20 → gi z.2 109 x = if 5 * d + R ≤ x ∧ x < 5 * d + R + i then gi ξ 109 (5 * e + (x - 5 * d - R)) else gi ξ 109 x) ∧ ∀ x : Int, 0 ≤ x → x < 20 → gi z.2 110 x = if 5 * d + R ≤ x ∧ x < 5 * d + R + i ∧ x < 5 * d + R + S - 1 then gi ξ 110 (5 * e + (x - 5 * d - R)) else gi ξ 110 x)
    (fun r => r.1 = ki (R + S) ∧ kF 108 111 ξ r.2 ∧ (∀ x : Int, 0 ≤ x → x < 4 → gi r.2 108 x = if x = d then R + S else gi ξ 108 x) ∧ (∀ x : Int, 0 ≤ x → x < 20 → gi r.2 109 x = if 5 * d + R ≤ x ∧ x < 5 * d + R + S then gi ξ 109 (5 * e + (x - 5 * d - R)) else gi ξ 109 x) ∧ ∀ x : Int, 0 ≤ x → x < 20 → gi r.2 110 x = if 5 * d + R ≤ x ∧ x < 5 * d + R + S - 1 then gi ξ 110 (5 * e + (x - 5 * d - R)) else gi ξ 110 x) S.toNat (s := ((0 : Int32), ξ)) ⟨rfl, kF.refl, fun x a b => by rw [if_neg (by omega)], fun x a b => by rw [if_neg (by omega)]⟩ (by omega) (fun i z hi hz => by
    obtain ⟨v, ν⟩ := z
    obtain ⟨rfl, z1, z2, z3⟩ := hz
    simp only [] at z1 z2 z3
    have m1 := hM.to z1
    by_cases h4 : i = S.toNat
    · have s1 := fun v => kasI (v := v) (kM.a108 m1) (x := d) (by omega) (by omega)
      have kf1 : kF 108 111 ν (jw ν 108 d.toNat (.int (ki (R + S)))) := kF_I ((kM.a108 m1).2.2.2 _ (by omega)) (by omega) (by omega)
      refine ⟨.inr (ki (R + S), jw ν 108 d.toNat (.int (ki (R + S)))), ?_, rfl, (z1.mono (by omega) (by omega)).trans kf1, fun x a b => ?_, fun x a b => ?_, fun x a b => ?_⟩
      · simp (disch := omega) only [b_X12_join_92, kM.o26 m1, s1, ki_0, ki_1, ki_2, ki_3, ki_4, ki_5, ki_6, ki_7, ki_8, ki_9, ki_10, ki_11, ki_12, ki_13, ki_18, ki_20, ki_24, ki_32, ki_36, ki_45, ki_47, ki_48, ki_50, ki_57, ki_60, ki_63, ki_99, ki_100, ki_101, ki_120, ki_255, ki_468, ki_1000, ki_1024, ki_13849, ki_25173, ki_65535, ki_65536, ki_100000, ki_100001, ki_2147483647, ki_2147483648, kl_0, kl_1, kl_2, kl_9223372036854775808, ki_add, ki_sub, ki_mul, ki_neg, kl_add, kl_sub, kl_mul, kl_neg, ki_i2l, kl_l2i, ki_lt, ki_le, ki_eq, kcmp_eq, kcmp_lt, kcmp_le, kcmp_gt, kcmp_ge, Option.bind_some, Option.map_some, kbool0, kbool1, if_pos, if_neg, if_true, if_false, Int.neg_neg, Int.sub_zero, Int.add_zero, Int.zero_add, true_and, and_true, false_and, and_false, false_or, or_false, true_or, or_true, ne_eq, not_false_eq_true, not_true_eq_false]
      · simp only []
        rw [gi_jw _ _ (by omega) (by omega), z1.gi (by omega)]
        by_cases q : x = d
        · rw [if_pos (by omega), if_pos q]
        · rw [if_neg (by omega), if_neg q]
      · simp only []
        rw [gi_jw _ _ (by omega) (by omega), if_neg (by omega), z2 x a b]
        by_cases q : 5 * d + R ≤ x ∧ x < 5 * d + R + S
        · rw [if_pos (by omega), if_pos q]
        · rw [if_neg (by omega), if_neg q]
      · simp only []
        rw [gi_jw _ _ (by omega) (by omega), if_neg (by omega), z3 x a b]
        by_cases q : 5 * d + R ≤ x ∧ x < 5 * d + R + S - 1
        · rw [if_pos (by omega), if_pos q]
        · rw [if_neg (by omega), if_neg q]
    · have q1 := X12_a m1 (d := e) (i := i) e0 e3 (by omega) (by omega)
      have qe : mA ν e i = gi ξ 109 (5 * e + i) := by
        unfold mA
        rw [z2 _ (by omega) (by omega), if_neg]
        intro q
        by_cases ed : e = d
        · have := hRS ed; omega
        · omega
      rw [qe] at q1
      have s1 := fun v => kasI (v := v) (kM.a109 m1) (x := 5 * d + R + i) (by omega) (by omega)
      have kf1 : kF 109 111 ν (jw ν 109 (5 * d + R + i).toNat (.int (ki (gi ξ 109 (5 * e + i))))) := kF_I ((kM.a109 m1).2.2.2 _ (by omega)) (by omega) (by omega)
      have v1 : ∀ x : Int, 0 ≤ x → x < 20 → gi (jw ν 109 (5 * d + R + i).toNat (.int (ki (gi ξ 109 (5 * e + i))))) 109 x = if 5 * d + R ≤ x ∧ x < 5 * d + R + ((i + 1 : Nat) : Int) then gi ξ 109 (5 * e + (x - 5 * d - R)) else gi ξ 109 x := by
        intro x a b
        rw [gi_jw _ _ (gi_lo _ _ _) (gi_hi _ _ _)]
        by_cases q : x = 5 * d + R + i
        · rw [if_pos (by omega), if_pos (by omega), show x - 5 * d - R = i by omega]
        · rw [if_neg (by omega), z2 x a b]
          by_cases q2 : 5 * d + R ≤ x ∧ x < 5 * d + R + i
          · rw [if_pos q2, if_pos (by omega)]
          · rw [if_neg q2, if_neg (by omega)]
      have v2 : ∀ x : Int, gi (jw ν 109 (5 * d + R + i).toNat (.int (ki (gi ξ 109 (5 * e + i))))) 110 x = gi ν 110 x := fun x => by rw [gi_jw _ _ (gi_lo _ _ _) (gi_hi _ _ _), if_neg (by omega)]
      have m2 := m1.to kf1
      by_cases hl : (i : Int) = S - 1
      · refine ⟨.inl (ki ((i + 1 : Nat) : Int), jw ν 109 (5 * d + R + i).toNat (.int (ki (gi ξ 109 (5 * e + i))))), ?_, by omega, rfl, z1.trans kf1, v1, fun x a b => ?_⟩
        · simp (disch := omega) only [b_X12_join_92, b_X12_join_150, kM.o27 m1, krcv (kM.y m1), q1, s1, ki_0, ki_1, ki_2, ki_3, ki_4, ki_5, ki_6, ki_7, ki_8, ki_9, ki_10, ki_11, ki_12, ki_13, ki_18, ki_20, ki_24, ki_32, ki_36, ki_45, ki_47, ki_48, ki_50, ki_57, ki_60, ki_63, ki_99, ki_100, ki_101, ki_120, ki_255, ki_468, ki_1000, ki_1024, ki_13849, ki_25173, ki_65535, ki_65536, ki_100000, ki_100001, ki_2147483647, ki_2147483648, kl_0, kl_1, kl_2, kl_9223372036854775808, ki_add, ki_sub, ki_mul, ki_neg, kl_add, kl_sub, kl_mul, kl_neg, ki_i2l, kl_l2i, ki_lt, ki_le, ki_eq, kcmp_eq, kcmp_lt, kcmp_le, kcmp_gt, kcmp_ge, Option.bind_some, Option.map_some, kbool0, kbool1, if_pos, if_neg, if_true, if_false, Int.neg_neg, Int.sub_zero, Int.add_zero, Int.zero_add, true_and, and_true, false_and, and_false, false_or, or_false, true_or, or_true, ne_eq, not_false_eq_true, not_true_eq_false, Int.natCast_add, Int.natCast_one]
        · simp only []
          rw [v2, z3 x a b]
          by_cases q2 : 5 * d + R ≤ x ∧ x < 5 * d + R + i ∧ x < 5 * d + R + S - 1
          · rw [if_pos q2, if_pos (by omega)]
          · rw [if_neg q2, if_neg (by omega)]
      · have q3 := X12_c m2 (d := e) (i := i) e0 e3 (by omega) (by omega)
        have qc : mC (jw ν 109 (5 * d + R + i).toNat (.int (ki (gi ξ 109 (5 * e + i))))) e i = gi ξ 110 (5 * e + i) := by
          unfold mC
          rw [v2, z3 _ (by omega) (by omega), if_neg]
          intro q
          by_cases ed : e = d
          · have := hRS ed; omega
          · omega
        rw [qc] at q3
        generalize hω : jw ν 109 (5 * d + R + i).toNat (.int (ki (gi ξ 109 (5 * e + i)))) = ω at *
        have s2 := fun v => kasI (v := v) (kM.a110 m2) (x := 5 * d + R + i) (by omega) (by omega)
        have kf2 : kF 109 111 ω (jw ω 110 (5 * d + R + i).toNat (.int (ki (gi ξ 110 (5 * e + i))))) := kF_I ((kM.a110 m2).2.2.2 _ (by omega)) (by omega) (by omega)
        refine ⟨.inl (ki ((i + 1 : Nat) : Int), jw ω 110 (5 * d + R + i).toNat (.int (ki (gi ξ 110 (5 * e + i))))), ?_, by omega, rfl, (z1.trans kf1).trans kf2, fun x a b => ?_, fun x a b => ?_⟩
        · simp (disch := omega) only [b_X12_join_92, b_X12_join_150, kM.o27 m1, krcv (kM.y m1), q1, s1, hω, kM.o28 m2, q3, s2, ki_0, ki_1, ki_2, ki_3, ki_4, ki_5, ki_6, ki_7, ki_8, ki_9, ki_10, ki_11, ki_12, ki_13, ki_18, ki_20, ki_24, ki_32, ki_36, ki_45, ki_47, ki_48, ki_50, ki_57, ki_60, ki_63, ki_99, ki_100, ki_101, ki_120, ki_255, ki_468, ki_1000, ki_1024, ki_13849, ki_25173, ki_65535, ki_65536, ki_100000, ki_100001, ki_2147483647, ki_2147483648, kl_0, kl_1, kl_2, kl_9223372036854775808, ki_add, ki_sub, ki_mul, ki_neg, kl_add, kl_sub, kl_mul, kl_neg, ki_i2l, kl_l2i, ki_lt, ki_le, ki_eq, kcmp_eq, kcmp_lt, kcmp_le, kcmp_gt, kcmp_ge, Option.bind_some, Option.map_some, kbool0, kbool1, if_pos, if_neg, if_true, if_false, Int.neg_neg, Int.sub_zero, Int.add_zero, Int.zero_add, true_and, and_true, false_and, and_false, false_or, or_false, true_or, or_true, ne_eq, not_false_eq_true, not_true_eq_false, Int.natCast_add, Int.natCast_one]
        · simp only []
          rw [gi_jw _ _ (gi_lo _ _ _) (gi_hi _ _ _), if_neg (by omega)]
          exact v1 x a b
        · simp only []
          rw [gi_jw _ _ (gi_lo _ _ _) (gi_hi _ _ _)]
          by_cases q : x = 5 * d + R + i
          · rw [if_pos (by omega), if_pos (by omega), show x - 5 * d - R = i by omega]
          · rw [if_neg (by omega), v2, z3 x a b]
            by_cases q2 : 5 * d + R ≤ x ∧ x < 5 * d + R + i ∧ x < 5 * d + R + S - 1
            · rw [if_pos q2, if_pos (by omega)]
            · rw [if_neg q2, if_neg (by omega)])
  obtain ⟨r1, r2⟩ := r
  simp only [] at g1
  subst g1
  exact ⟨r2, f, g2, g3, g4, g5⟩
theorem ok_join {L : Nat} {xs : Nat → Int32} {n : Nat} {Y : jY} {μ : jM} (h : Inv L xs n Y μ) : so_join (Inv L xs) n Y μ := by
  have hX := h.x
  have hM := h.m
  intro a1 a2 a3
  obtain ⟨d, d1, d2, rfl⟩ := ki_is a1
  obtain ⟨e, f1, f2, rfl⟩ := ki_is a2
  obtain ⟨v, v1, v2, rfl⟩ := ki_is a3
  have cb := X10_canBe (Y := Y) (μ := μ) (b := 0) (v := v) v1 v2 (by omega)
  by_cases hd : 0 ≤ d ∧ d ≤ 3
  · by_cases he : 0 ≤ e ∧ e ≤ 3
    · by_cases hv : 1 ≤ v ∧ v ≤ 36
      · rw [if_pos (by omega)] at cb
        obtain ⟨hT, hB, hMB, hR, hA, hC⟩ := h.d hd.1 hd.2
        obtain ⟨hT2, hB2, hMB2, hR2, hA2, hC2⟩ := h.d he.1 he.2
        have b1 := hMB.1
        have b2 := hMB.2.1
        have b3 := hMB2.1
        have b4 := hMB2.2.1
        by_cases hz : gi μ 108 d = 0
        · refine ⟨(ki (-2), μ), (ki (-2), μ), ?_, fun _ => rfl, ?_, rfl, h⟩
          · simp (disch := omega) only [f_X11_join, b_X11_join_22, b_X11_join_62, X11_isDrawer, krcv (kX.y1 hX), kX.o1_3 hX, kS.gd (kX.now hX), kS.gt (kX.now hX), kT.gr hT, hR, cb, ki_0, ki_1, ki_2, ki_3, ki_4, ki_5, ki_6, ki_7, ki_8, ki_9, ki_10, ki_11, ki_12, ki_13, ki_18, ki_20, ki_24, ki_32, ki_36, ki_45, ki_47, ki_48, ki_50, ki_57, ki_60, ki_63, ki_99, ki_100, ki_101, ki_120, ki_255, ki_468, ki_1000, ki_1024, ki_13849, ki_25173, ki_65535, ki_65536, ki_100000, ki_100001, ki_2147483647, ki_2147483648, kl_0, kl_1, kl_2, kl_9223372036854775808, ki_add, ki_sub, ki_mul, ki_neg, kl_add, kl_sub, kl_mul, kl_neg, ki_i2l, kl_l2i, ki_lt, ki_le, ki_eq, kcmp_eq, kcmp_lt, kcmp_le, kcmp_gt, kcmp_ge, Option.bind_some, Option.map_some, kbool0, kbool1, if_pos, if_neg, if_true, if_false, Int.neg_neg, Int.sub_zero, Int.add_zero, Int.zero_add, true_and, and_true, false_and, and_false, false_or, or_false, true_or, or_true, ne_eq, not_false_eq_true, not_true_eq_false]
          · simp (disch := omega) only [f_X12_join, b_X12_join_24, b_X12_join_44, X12_in, X12_isDrawer, kM.o26 hM, kaI (kM.a108 hM), ki_0, ki_1, ki_2, ki_3, ki_4, ki_5, ki_6, ki_7, ki_8, ki_9, ki_10, ki_11, ki_12, ki_13, ki_18, ki_20, ki_24, ki_32, ki_36, ki_45, ki_47, ki_48, ki_50, ki_57, ki_60, ki_63, ki_99, ki_100, ki_101, ki_120, ki_255, ki_468, ki_1000, ki_1024, ki_13849, ki_25173, ki_65535, ki_65536, ki_100000, ki_100001, ki_2147483647, ki_2147483648, kl_0, kl_1, kl_2, kl_9223372036854775808, ki_add, ki_sub, ki_mul, ki_neg, kl_add, kl_sub, kl_mul, kl_neg, ki_i2l, kl_l2i, ki_lt, ki_le, ki_eq, kcmp_eq, kcmp_lt, kcmp_le, kcmp_gt, kcmp_ge, Option.bind_some, Option.map_some, kbool0, kbool1, if_pos, if_neg, if_true, if_false, Int.neg_neg, Int.sub_zero, Int.add_zero, Int.zero_add, true_and, and_true, false_and, and_false, false_or, or_false, true_or, or_true, ne_eq, not_false_eq_true, not_true_eq_false]
        · by_cases hz2 : gi μ 108 e = 0
          · refine ⟨(ki (-2), μ), (ki (-2), μ), ?_, fun _ => rfl, ?_, rfl, h⟩
            · simp (disch := omega) only [f_X11_join, b_X11_join_22, b_X11_join_62, X11_isDrawer, krcv (kX.y1 hX), kX.o1_3 hX, kS.gd (kX.now hX), kS.gt (kX.now hX), kT.gr hT, kT.gr hT2, hR, hR2, cb, ki_0, ki_1, ki_2, ki_3, ki_4, ki_5, ki_6, ki_7, ki_8, ki_9, ki_10, ki_11, ki_12, ki_13, ki_18, ki_20, ki_24, ki_32, ki_36, ki_45, ki_47, ki_48, ki_50, ki_57, ki_60, ki_63, ki_99, ki_100, ki_101, ki_120, ki_255, ki_468, ki_1000, ki_1024, ki_13849, ki_25173, ki_65535, ki_65536, ki_100000, ki_100001, ki_2147483647, ki_2147483648, kl_0, kl_1, kl_2, kl_9223372036854775808, ki_add, ki_sub, ki_mul, ki_neg, kl_add, kl_sub, kl_mul, kl_neg, ki_i2l, kl_l2i, ki_lt, ki_le, ki_eq, kcmp_eq, kcmp_lt, kcmp_le, kcmp_gt, kcmp_ge, Option.bind_some, Option.map_some, kbool0, kbool1, if_pos, if_neg, if_true, if_false, Int.neg_neg, Int.sub_zero, Int.add_zero, Int.zero_add, true_and, and_true, false_and, and_false, false_or, or_false, true_or, or_true, ne_eq, not_false_eq_true, not_true_eq_false]
            · simp (disch := omega) only [f_X12_join, b_X12_join_24, b_X12_join_44, X12_in, X12_isDrawer, kM.o26 hM, kaI (kM.a108 hM), ki_0, ki_1, ki_2, ki_3, ki_4, ki_5, ki_6, ki_7, ki_8, ki_9, ki_10, ki_11, ki_12, ki_13, ki_18, ki_20, ki_24, ki_32, ki_36, ki_45, ki_47, ki_48, ki_50, ki_57, ki_60, ki_63, ki_99, ki_100, ki_101, ki_120, ki_255, ki_468, ki_1000, ki_1024, ki_13849, ki_25173, ki_65535, ki_65536, ki_100000, ki_100001, ki_2147483647, ki_2147483648, kl_0, kl_1, kl_2, kl_9223372036854775808, ki_add, ki_sub, ki_mul, ki_neg, kl_add, kl_sub, kl_mul, kl_neg, ki_i2l, kl_l2i, ki_lt, ki_le, ki_eq, kcmp_eq, kcmp_lt, kcmp_le, kcmp_gt, kcmp_ge, Option.bind_some, Option.map_some, kbool0, kbool1, if_pos, if_neg, if_true, if_false, Int.neg_neg, Int.sub_zero, Int.add_zero, Int.zero_add, true_and, and_true, false_and, and_false, false_or, or_false, true_or, or_true, ne_eq, not_false_eq_true, not_true_eq_false]
          · by_cases h5 : gi μ 108 d + gi μ 108 e ≤ 5
            · obtain ⟨ν, c1, k1, g0, g1, g2⟩ := X10_append hT hT2 (R := gi μ 108 d) (S := gi μ 108 e) (v := v) hR hR2 (by omega) (by omega) h5 hv (by omega)
              have hX1 := hX.to k1
              have hM1 := hM.to k1
              have gd := kT.gr (hT.to k1)
              rw [g0] at gd
              have r1 := kaI (kM.a108 hM1) (x := d) (by omega) (by omega)
              have r2 := kaI (kM.a108 hM1) (x := e) (by omega) (by omega)
              rw [k1.gi (by omega)] at r1 r2
              have s1 := fun v => kasI (v := v) (kM.a110 hM1) (x := 5 * d + gi μ 108 d - 1) (by omega) (by omega)
              have k2 : kF 110 111 ν (jw ν 110 (5 * d + gi μ 108 d - 1).toNat (.int (ki v))) := kF_I ((kM.a110 hM1).2.2.2 _ (by omega)) (by omega) (by omega)
              have hM2 := hM1.to k2
              have p1 : ∀ x : Int, 0 ≤ x → gi (jw ν 110 (5 * d + gi μ 108 d - 1).toNat (.int (ki v))) 110 x = if x = 5 * d + gi μ 108 d - 1 then v else gi μ 110 x := by
                intro x x0
                rw [gi_jw _ _ v1 v2, k1.gi (by omega)]
                by_cases q : x = 5 * d + gi μ 108 d - 1
                · rw [if_pos (by omega), if_pos q]
                · rw [if_neg (by omega), if_neg q]
              have p2 : ∀ x : Int, gi (jw ν 110 (5 * d + gi μ 108 d - 1).toNat (.int (ki v))) 109 x = gi μ 109 x := fun x => by rw [k2.gi (by omega), k1.gi (by omega)]
              have p3 : ∀ x : Int, gi (jw ν 110 (5 * d + gi μ 108 d - 1).toNat (.int (ki v))) 108 x = gi μ 108 x := fun x => by rw [k2.gi (by omega), k1.gi (by omega)]
              obtain ⟨ω, c2, k3, w0, w1, w2⟩ := X12_join1 hM2 (d := d) (e := e) (R := gi μ 108 d) (S := gi μ 108 e) hd.1 hd.2 he.1 he.2 (by omega) (by omega) h5 (fun q => by rw [q])
              refine ⟨(ki (gi μ 108 d + gi μ 108 e), ν), (ki (gi μ 108 d + gi μ 108 e), ω), ?_, fun j => ?_, ?_, rfl, ?_⟩
              · simp (disch := omega) only [f_X11_join, b_X11_join_22, b_X11_join_62, X11_isDrawer, krcv (kX.y1 hX), kX.o1_3 hX, kS.gd (kX.now hX), kS.gt (kX.now hX), kT.gr hT, kT.gr hT2, krcv hT.y, hR, hR2, cb, c1, gd, ki_0, ki_1, ki_2, ki_3, ki_4, ki_5, ki_6, ki_7, ki_8, ki_9, ki_10, ki_11, ki_12, ki_13, ki_18, ki_20, ki_24, ki_32, ki_36, ki_45, ki_47, ki_48, ki_50, ki_57, ki_60, ki_63, ki_99, ki_100, ki_101, ki_120, ki_255, ki_468, ki_1000, ki_1024, ki_13849, ki_25173, ki_65535, ki_65536, ki_100000, ki_100001, ki_2147483647, ki_2147483648, kl_0, kl_1, kl_2, kl_9223372036854775808, ki_add, ki_sub, ki_mul, ki_neg, kl_add, kl_sub, kl_mul, kl_neg, ki_i2l, kl_l2i, ki_lt, ki_le, ki_eq, kcmp_eq, kcmp_lt, kcmp_le, kcmp_gt, kcmp_ge, Option.bind_some, Option.map_some, kbool0, kbool1, if_pos, if_neg, if_true, if_false, Int.neg_neg, Int.sub_zero, Int.add_zero, Int.zero_add, true_and, and_true, false_and, and_false, false_or, or_false, true_or, or_true, ne_eq, not_false_eq_true, not_true_eq_false]
              · show ν 0 j = μ 0 j
                rw [k1.1 0 (by omega)]
              · simp (disch := omega) only [f_X12_join, X12_in, X12_isDrawer, kM.o26 hM1, kM.o28 hM1, r1, r2, s1, ki_0, ki_1, ki_2, ki_3, ki_4, ki_5, ki_6, ki_7, ki_8, ki_9, ki_10, ki_11, ki_12, ki_13, ki_18, ki_20, ki_24, ki_32, ki_36, ki_45, ki_47, ki_48, ki_50, ki_57, ki_60, ki_63, ki_99, ki_100, ki_101, ki_120, ki_255, ki_468, ki_1000, ki_1024, ki_13849, ki_25173, ki_65535, ki_65536, ki_100000, ki_100001, ki_2147483647, ki_2147483648, kl_0, kl_1, kl_2, kl_9223372036854775808, ki_add, ki_sub, ki_mul, ki_neg, kl_add, kl_sub, kl_mul, kl_neg, ki_i2l, kl_l2i, ki_lt, ki_le, ki_eq, kcmp_eq, kcmp_lt, kcmp_le, kcmp_gt, kcmp_ge, Option.bind_some, Option.map_some, kbool0, kbool1, if_pos, if_neg, if_true, if_false, Int.neg_neg, Int.sub_zero, Int.add_zero, Int.zero_add, true_and, and_true, false_and, and_false, false_or, or_false, true_or, or_true, ne_eq, not_false_eq_true, not_true_eq_false]
                exact c2
              · refine Inv.upd (μ' := ω) h hd.1 hd.2 ((k1.mono (by omega) (by omega)).trans ((k2.mono (by omega) (by omega)).trans (k3.mono (by omega) (by omega)))) (fun i i1 i2 i3 i4 i5 i6 => ?_) ?_ (fun q q0 q3 qd => ⟨?_, fun x x0 x5 => ?_, fun x x0 x5 => ?_⟩)
                · rw [k3.1 i (by omega), k2.1 i (by omega), k1.1 i (by omega)]
                · unfold relT
                  rw [k3.gi (by omega), k2.gi (by omega), g0, w0 d (by omega) (by omega), if_pos rfl]
                  refine ⟨rfl, by omega, h5, fun x x0 x1 => ?_, fun x x0 x1 => ?_⟩
                  · rw [k3.gi (by omega), k2.gi (by omega), g1 x x0 (by omega)]
                    unfold mA
                    rw [w1 _ (by omega) (by omega), p2, p2]
                    by_cases q : gi μ 108 d ≤ x ∧ x < gi μ 108 d + gi μ 108 e
                    · rw [if_pos q, if_pos (by omega), hA2 _ (by omega) (by omega), show 5 * e + (5 * d + x - 5 * d - gi μ 108 d) = 5 * e + (x - gi μ 108 d) by omega]
                      exact ⟨rfl, hMB2.2.2.1 (x - gi μ 108 d) (by omega) (by omega)⟩
                    · rw [if_neg q, if_neg (by omega), hA _ (by omega) (by omega)]
                      exact ⟨rfl, hMB.2.2.1 x (by omega) (by omega)⟩
                  · rw [k3.gi (by omega), k2.gi (by omega), g2 x x0 (by omega)]
                    unfold mC
                    rw [w2 _ (by omega) (by omega)]
                    by_cases q : x = gi μ 108 d - 1
                    · rw [if_pos q, if_neg (by omega), p1 _ (by omega), if_pos (by omega)]
                      exact ⟨rfl, hv⟩
                    · rw [if_neg q]
                      by_cases q2 : gi μ 108 d ≤ x ∧ x < gi μ 108 d + gi μ 108 e - 1
                      · have : ¬ (5 * e + (5 * d + x - 5 * d - gi μ 108 d) = 5 * d + gi μ 108 d - 1) := by
                          by_cases ed : e = d
                          · subst ed; omega
                          · omega
                        rw [if_pos q2, if_pos (by omega), p1 _ (by omega), if_neg this, hC2 _ (by omega) (by omega), show 5 * e + (5 * d + x - 5 * d - gi μ 108 d) = 5 * e + (x - gi μ 108 d) by omega]
                        exact ⟨rfl, hMB2.2.2.2 (x - gi μ 108 d) (by omega) (by omega)⟩
                      · rw [if_neg q2, if_neg (by omega), p1 _ (by omega), if_neg (by omega), hC _ (by omega) (by omega)]
                        exact ⟨rfl, hMB.2.2.2 x (by omega) (by omega)⟩
                · rw [w0 q q0 (by omega), if_neg qd, p3]
                · unfold mA
                  rw [w1 _ (by omega) (by omega), if_neg (by omega), p2]
                · unfold mC
                  rw [w2 _ (by omega) (by omega), if_neg (by omega), p1 _ (by omega), if_neg (by omega)]
            · refine ⟨(ki (-3), μ), (ki (-3), μ), ?_, fun _ => rfl, ?_, rfl, h⟩
              · simp (disch := omega) only [f_X11_join, b_X11_join_22, b_X11_join_62, X11_isDrawer, krcv (kX.y1 hX), kX.o1_3 hX, kS.gd (kX.now hX), kS.gt (kX.now hX), kT.gr hT, kT.gr hT2, hR, hR2, cb, ki_0, ki_1, ki_2, ki_3, ki_4, ki_5, ki_6, ki_7, ki_8, ki_9, ki_10, ki_11, ki_12, ki_13, ki_18, ki_20, ki_24, ki_32, ki_36, ki_45, ki_47, ki_48, ki_50, ki_57, ki_60, ki_63, ki_99, ki_100, ki_101, ki_120, ki_255, ki_468, ki_1000, ki_1024, ki_13849, ki_25173, ki_65535, ki_65536, ki_100000, ki_100001, ki_2147483647, ki_2147483648, kl_0, kl_1, kl_2, kl_9223372036854775808, ki_add, ki_sub, ki_mul, ki_neg, kl_add, kl_sub, kl_mul, kl_neg, ki_i2l, kl_l2i, ki_lt, ki_le, ki_eq, kcmp_eq, kcmp_lt, kcmp_le, kcmp_gt, kcmp_ge, Option.bind_some, Option.map_some, kbool0, kbool1, if_pos, if_neg, if_true, if_false, Int.neg_neg, Int.sub_zero, Int.add_zero, Int.zero_add, true_and, and_true, false_and, and_false, false_or, or_false, true_or, or_true, ne_eq, not_false_eq_true, not_true_eq_false]
              · simp (disch := omega) only [f_X12_join, b_X12_join_24, b_X12_join_44, X12_in, X12_isDrawer, kM.o26 hM, kaI (kM.a108 hM), ki_0, ki_1, ki_2, ki_3, ki_4, ki_5, ki_6, ki_7, ki_8, ki_9, ki_10, ki_11, ki_12, ki_13, ki_18, ki_20, ki_24, ki_32, ki_36, ki_45, ki_47, ki_48, ki_50, ki_57, ki_60, ki_63, ki_99, ki_100, ki_101, ki_120, ki_255, ki_468, ki_1000, ki_1024, ki_13849, ki_25173, ki_65535, ki_65536, ki_100000, ki_100001, ki_2147483647, ki_2147483648, kl_0, kl_1, kl_2, kl_9223372036854775808, ki_add, ki_sub, ki_mul, ki_neg, kl_add, kl_sub, kl_mul, kl_neg, ki_i2l, kl_l2i, ki_lt, ki_le, ki_eq, kcmp_eq, kcmp_lt, kcmp_le, kcmp_gt, kcmp_ge, Option.bind_some, Option.map_some, kbool0, kbool1, if_pos, if_neg, if_true, if_false, Int.neg_neg, Int.sub_zero, Int.add_zero, Int.zero_add, true_and, and_true, false_and, and_false, false_or, or_false, true_or, or_true, ne_eq, not_false_eq_true, not_true_eq_false]
      · rw [if_neg (by omega)] at cb
        refine ⟨(ki (-1), μ), (ki (-1), μ), ?_, fun _ => rfl, ?_, rfl, h⟩
        · simp (disch := omega) only [f_X11_join, b_X11_join_22, b_X11_join_62, X11_isDrawer, cb, ki_0, ki_1, ki_2, ki_3, ki_4, ki_5, ki_6, ki_7, ki_8, ki_9, ki_10, ki_11, ki_12, ki_13, ki_18, ki_20, ki_24, ki_32, ki_36, ki_45, ki_47, ki_48, ki_50, ki_57, ki_60, ki_63, ki_99, ki_100, ki_101, ki_120, ki_255, ki_468, ki_1000, ki_1024, ki_13849, ki_25173, ki_65535, ki_65536, ki_100000, ki_100001, ki_2147483647, ki_2147483648, kl_0, kl_1, kl_2, kl_9223372036854775808, ki_add, ki_sub, ki_mul, ki_neg, kl_add, kl_sub, kl_mul, kl_neg, ki_i2l, kl_l2i, ki_lt, ki_le, ki_eq, kcmp_eq, kcmp_lt, kcmp_le, kcmp_gt, kcmp_ge, Option.bind_some, Option.map_some, kbool0, kbool1, if_pos, if_neg, if_true, if_false, Int.neg_neg, Int.sub_zero, Int.add_zero, Int.zero_add, true_and, and_true, false_and, and_false, false_or, or_false, true_or, or_true, ne_eq, not_false_eq_true, not_true_eq_false]
        · simp (disch := omega) only [f_X12_join, b_X12_join_24, b_X12_join_44, X12_in, X12_isDrawer, ki_0, ki_1, ki_2, ki_3, ki_4, ki_5, ki_6, ki_7, ki_8, ki_9, ki_10, ki_11, ki_12, ki_13, ki_18, ki_20, ki_24, ki_32, ki_36, ki_45, ki_47, ki_48, ki_50, ki_57, ki_60, ki_63, ki_99, ki_100, ki_101, ki_120, ki_255, ki_468, ki_1000, ki_1024, ki_13849, ki_25173, ki_65535, ki_65536, ki_100000, ki_100001, ki_2147483647, ki_2147483648, kl_0, kl_1, kl_2, kl_9223372036854775808, ki_add, ki_sub, ki_mul, ki_neg, kl_add, kl_sub, kl_mul, kl_neg, ki_i2l, kl_l2i, ki_lt, ki_le, ki_eq, kcmp_eq, kcmp_lt, kcmp_le, kcmp_gt, kcmp_ge, Option.bind_some, Option.map_some, kbool0, kbool1, if_pos, if_neg, if_true, if_false, Int.neg_neg, Int.sub_zero, Int.add_zero, Int.zero_add, true_and, and_true, false_and, and_false, false_or, or_false, true_or, or_true, ne_eq, not_false_eq_true, not_true_eq_false]
    · refine ⟨(ki (-1), μ), (ki (-1), μ), ?_, fun _ => rfl, ?_, rfl, h⟩
      · simp (disch := omega) only [f_X11_join, b_X11_join_22, b_X11_join_62, X11_isDrawer, ki_0, ki_1, ki_2, ki_3, ki_4, ki_5, ki_6, ki_7, ki_8, ki_9, ki_10, ki_11, ki_12, ki_13, ki_18, ki_20, ki_24, ki_32, ki_36, ki_45, ki_47, ki_48, ki_50, ki_57, ki_60, ki_63, ki_99, ki_100, ki_101, ki_120, ki_255, ki_468, ki_1000, ki_1024, ki_13849, ki_25173, ki_65535, ki_65536, ki_100000, ki_100001, ki_2147483647, ki_2147483648, kl_0, kl_1, kl_2, kl_9223372036854775808, ki_add, ki_sub, ki_mul, ki_neg, kl_add, kl_sub, kl_mul, kl_neg, ki_i2l, kl_l2i, ki_lt, ki_le, ki_eq, kcmp_eq, kcmp_lt, kcmp_le, kcmp_gt, kcmp_ge, Option.bind_some, Option.map_some, kbool0, kbool1, if_pos, if_neg, if_true, if_false, Int.neg_neg, Int.sub_zero, Int.add_zero, Int.zero_add, true_and, and_true, false_and, and_false, false_or, or_false, true_or, or_true, ne_eq, not_false_eq_true, not_true_eq_false]
      · simp (disch := omega) only [f_X12_join, b_X12_join_24, b_X12_join_44, X12_in, X12_isDrawer, ki_0, ki_1, ki_2, ki_3, ki_4, ki_5, ki_6, ki_7, ki_8, ki_9, ki_10, ki_11, ki_12, ki_13, ki_18, ki_20, ki_24, ki_32, ki_36, ki_45, ki_47, ki_48, ki_50, ki_57, ki_60, ki_63, ki_99, ki_100, ki_101, ki_120, ki_255, ki_468, ki_1000, ki_1024, ki_13849, ki_25173, ki_65535, ki_65536, ki_100000, ki_100001, ki_2147483647, ki_2147483648, kl_0, kl_1, kl_2, kl_9223372036854775808, ki_add, ki_sub, ki_mul, ki_neg, kl_add, kl_sub, kl_mul, kl_neg, ki_i2l, kl_l2i, ki_lt, ki_le, ki_eq, kcmp_eq, kcmp_lt, kcmp_le, kcmp_gt, kcmp_ge, Option.bind_some, Option.map_some, kbool0, kbool1, if_pos, if_neg, if_true, if_false, Int.neg_neg, Int.sub_zero, Int.add_zero, Int.zero_add, true_and, and_true, false_and, and_false, false_or, or_false, true_or, or_true, ne_eq, not_false_eq_true, not_true_eq_false]
  · refine ⟨(ki (-1), μ), (ki (-1), μ), ?_, fun _ => rfl, ?_, rfl, h⟩
    · simp (disch := omega) only [f_X11_join, b_X11_join_22, b_X11_join_62, X11_isDrawer, ki_0, ki_1, ki_2, ki_3, ki_4, ki_5, ki_6, ki_7, ki_8, ki_9, ki_10, ki_11, ki_12, ki_13, ki_18, ki_20, ki_24, ki_32, ki_36, ki_45, ki_47, ki_48, ki_50, ki_57, ki_60, ki_63, ki_99, ki_100, ki_101, ki_120, ki_255, ki_468, ki_1000, ki_1024, ki_13849, ki_25173, ki_65535, ki_65536, ki_100000, ki_100001, ki_2147483647, ki_2147483648, kl_0, kl_1, kl_2, kl_9223372036854775808, ki_add, ki_sub, ki_mul, ki_neg, kl_add, kl_sub, kl_mul, kl_neg, ki_i2l, kl_l2i, ki_lt, ki_le, ki_eq, kcmp_eq, kcmp_lt, kcmp_le, kcmp_gt, kcmp_ge, Option.bind_some, Option.map_some, kbool0, kbool1, if_pos, if_neg, if_true, if_false, Int.neg_neg, Int.sub_zero, Int.add_zero, Int.zero_add, true_and, and_true, false_and, and_false, false_or, or_false, true_or, or_true, ne_eq, not_false_eq_true, not_true_eq_false]
    · simp (disch := omega) only [f_X12_join, b_X12_join_24, b_X12_join_44, X12_in, X12_isDrawer, ki_0, ki_1, ki_2, ki_3, ki_4, ki_5, ki_6, ki_7, ki_8, ki_9, ki_10, ki_11, ki_12, ki_13, ki_18, ki_20, ki_24, ki_32, ki_36, ki_45, ki_47, ki_48, ki_50, ki_57, ki_60, ki_63, ki_99, ki_100, ki_101, ki_120, ki_255, ki_468, ki_1000, ki_1024, ki_13849, ki_25173, ki_65535, ki_65536, ki_100000, ki_100001, ki_2147483647, ki_2147483648, kl_0, kl_1, kl_2, kl_9223372036854775808, ki_add, ki_sub, ki_mul, ki_neg, kl_add, kl_sub, kl_mul, kl_neg, ki_i2l, kl_l2i, ki_lt, ki_le, ki_eq, kcmp_eq, kcmp_lt, kcmp_le, kcmp_gt, kcmp_ge, Option.bind_some, Option.map_some, kbool0, kbool1, if_pos, if_neg, if_true, if_false, Int.neg_neg, Int.sub_zero, Int.add_zero, Int.zero_add, true_and, and_true, false_and, and_false, false_or, or_false, true_or, or_true, ne_eq, not_false_eq_true, not_true_eq_false]
