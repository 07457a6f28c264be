/-! OPS: chain, mass: both sides in fractions -/
def hgX (N : Nat) (as cs : List (Int × Int)) : Nat → Option ((Int × Int) × (Int × Int))
  | 0 => some ((1, 1), gz as (N - 1))
  | j + 1 => (hgX N as cs j).bind fun q => (mF q.2 q.2.1 q.2.2).bind fun t1 => (mF t1 (gz cs (N - 2 - j)).2 (gz cs (N - 2 - j)).1).bind fun t2 => (mF t2 q.1.2 q.1.1).bind fun m => (mF (gz as (N - 2 - j)) m.1 m.2).bind fun t3 => (aF t3 (-q.2.1) q.2.2).bind fun s => some (m, s)
def hgM (N : Nat) (f U : Int → Int) : Nat → Option ((Int × Int) × (Int × Int))
  | 0 => (tA f U N ((N - 1 : Nat) : Int)).bind fun a => (mM a 1 1).bind fun s => some ((1, 1), s)
  | j + 1 => (hgM N f U j).bind fun q => (sO q.2.1 q.2.2).bind fun p0 => (mM p0 q.2.1 q.2.2).bind fun p1 => (mM p1 q.1.2 q.1.1).bind fun p2 => (tC f ((N - 2 - j : Nat) : Int)).bind fun c => (sO p2.1 p2.2).bind fun p3 => (mM p3 c.2 c.1).bind fun m => (tA f U N ((N - 2 - j : Nat) : Int)).bind fun a => (mM a m.1 m.2).bind fun t => (aM t (-q.2.1) q.2.2).bind fun s => some (m, s)
theorem hgX_pre {N : Nat} {as cs : List (Int × Int)} {k : Nat} {q : (Int × Int) × (Int × Int)} : ∀ d : Nat, hgX N as cs (k + d) = some q → ∃ s, hgX N as cs k = some s := by
  intro d
  induction d generalizing q with
  | zero => intro h; exact ⟨q, h⟩
  | succ d ih =>
    intro h
    rw [← Nat.add_assoc, hgX, Option.bind_eq_some_iff] at h
    obtain ⟨s, h1, _⟩ := h
    exact ih h1
def eqP (x y : Option ((Int × Int) × (Int × Int))) : Bool := match x, y with
  | some p, some q => decide (p.1.1 = q.1.1) && decide (p.1.2 = q.1.2) && decide (p.2.1 = q.2.1) && decide (p.2.2 = q.2.2)
  | _, _ => false
theorem eqP_is {x y : Option ((Int × Int) × (Int × Int))} (h : eqP x y = true) : ∃ p, x = some p ∧ y = some p := by
  unfold eqP at h
  split at h
  · rename_i p q
    simp only [Bool.and_eq_true, decide_eq_true_eq] at h
    obtain ⟨⟨⟨h1, h2⟩, h3⟩, h4⟩ := h
    refine ⟨p, rfl, ?_⟩
    rw [Prod.ext (Prod.ext h1 h2) (Prod.ext h3 h4)]
  · cases h
/-- the sums of the masses -/
def msX (N : Nat) (as cs : List (Int × Int)) : Nat → Option (Int × Int)
  | 0 => some (0, 1)
  | i + 1 => (msX N as cs i).bind fun s => (hgX N as cs (N - 1 - i)).bind fun q => aF s q.1.1 q.1.2
def msM (N : Nat) (f U : Int → Int) : Nat → Option (Int × Int)
  | 0 => some (0, 1)
  | i + 1 => (msM N f U i).bind fun s => (hgM N f U (N - 1 - i)).bind fun q => aM s q.1.1 q.1.2
def chK (N : Nat) (U W f : Int → Int) : Bool := tabB N U W f fun as cs => (List.range N).all (fun j => eqP (hgX N as cs j) (hgM N f U j)) && (match msX N as cs N with
  | none => false
  | some q => isF (msM N f U N) q.1 q.2)
def chG (n : Nat) (x : Int) : Bool := Nat.ble 4 n || decide (x ≤ 0)
def chP (n : Nat) (l m : Int → Int) : Bool := cond (chG n (l 0)) true (withN n l m (chK n))
set_option maxRecDepth 100000 in
theorem ch_all : allQ chP := by
  refine ⟨?_, ?_, ?_, ?_, ?_, ?_, ?_, ?_, ?_, ?_⟩ <;> decide +kernel
theorem X8_hang {Y : jY} {μ : jM} (hX : kX Y μ) {N : Nat} (N1 : 1 ≤ N) (N3 : N ≤ 3) {as cs : List (Int × Int)} (t : tabC μ N as cs) {last : (Int × Int) × (Int × Int)} (H : hgX N as cs (N - 1) = some last) : ∃ ν, f_X8_hang Y 31 μ = some ν ∧ kF 41 49 μ ν ∧ ∀ j, j < N → ∃ v, hgX N as cs j = some v ∧ frS ν (42 + (N - 1 - j)) v.1 ∧ frS ν (46 + (N - 1 - j)) v.2 := by
  have gN := hX.g31_1
  rw [t.1] at gN
  have w := X11_within (Y := Y) (μ := μ) (x := (N : Int)) (a := 1) (b := 3) (by omega) (by omega) (by omega) (by omega) (by omega) (by omega)
  rw [if_pos ⟨by omega, by omega⟩] at w
  have gm := hX.f41.g (x := (N : Int) - 1) (by omega) (by omega)
  have en : ((N : Int) - 1).toNat = N - 1 := by omega
  rw [en] at gm
  have fm := hX.f41.f (j := N - 1) (by omega)
  have S1 := X1_set1 fm (t := 1) okb_1
  have k1 : kF 41 49 μ (frw μ (41 + 1 + (N - 1)) (1, 1)) := kF_fr fm (by omega) (by omega)
  have m1 : frS (frw μ (41 + 1 + (N - 1)) (1, 1)) (42 + (N - 1)) (1, 1) := frS.w okb_1 okb_1
  generalize frw μ (41 + 1 + (N - 1)) (1, 1) = μ1 at *
  have hX1 := hX.to k1
  have gs := hX1.f45.g (x := (N : Int) - 1) (by omega) (by omega)
  have ga := hX1.f32.g (x := (N : Int) - 1) (by omega) (by omega)
  rw [en] at gs ga
  have ta := (t.2.1 (N - 1) (by omega)).to k1 (by omega)
  have cp := X1_copy (hX1.f45.f (j := N - 1) (by omega)) (hX1.f32.f (j := N - 1) (by omega)) ta
  have k2 : kF 41 49 μ (frw μ1 (45 + 1 + (N - 1)) (gz as (N - 1))) := k1.trans (kF_fr (hX1.f45.f (j := N - 1) (by omega)) (by omega) (by omega))
  have s2 : frS (frw μ1 (45 + 1 + (N - 1)) (gz as (N - 1))) (46 + (N - 1)) (gz as (N - 1)) := frS.w ta.1 ta.2.1
  have m2 := m1.ne (o := 45 + 1 + (N - 1)) (q := gz as (N - 1)) (by omega)
  have E : f_X8_hang Y 31 μ = jit jF (fun (s : Int32 × jM) => b_X8_hang_50 Y 31 s.1 s.2) (ki ((N : Int) - 1 - 1), frw μ1 (45 + 1 + (N - 1)) (gz as (N - 1))) := by
    simp (disch := omega) only [f_X8_hang, gN, w, hX.o31_4, gm, krcv fm.1, S1, hX1.o31_5, gs, hX1.o31_2, ga, krcv (hX1.f45.f (j := N - 1) (by omega)).1, cp, ki_0, ki_1, ki_2, ki_3, ki_4, ki_5, ki_6, ki_7, ki_8, ki_9, ki_10, ki_11, ki_12, ki_13, ki_18, ki_20, ki_24, ki_32, ki_36, ki_45, ki_47, ki_48, ki_50, ki_57, ki_60, ki_63, ki_99, ki_100, ki_101, ki_120, ki_255, ki_468, ki_1000, ki_1024, ki_13849, ki_25173, ki_65535, ki_65536, ki_100000, ki_100001, ki_2147483647, ki_2147483648, kl_0, kl_1, kl_2, kl_9223372036854775808, ki_add, ki_sub, ki_mul, ki_neg, kl_add, kl_sub, kl_mul, kl_neg, ki_i2l, kl_l2i, ki_lt, ki_le, ki_eq, kcmp_eq, kcmp_lt, kcmp_le, kcmp_gt, kcmp_ge, Option.bind_some, Option.map_some, kbool0, kbool1, if_pos, if_neg, if_true, if_false, Int.neg_neg, Int.sub_zero, Int.add_zero, Int.zero_add, true_and, and_true, false_and, and_false, false_or, or_false, true_or, or_true, ne_eq, not_false_eq_true, not_true_eq_false]
  rw [E]
  clear E
  generalize frw μ1 (45 + 1 + (N - 1)) (gz as (N - 1)) = ξ at *
  refine jit_inv (f := fun (s : Int32 × jM) => b_X8_hang_50 Y 31 s.1 s.2) (fun j z => z.1 = ki ((N : Int) - 2 - j) ∧ kF 41 49 μ z.2 ∧ ∀ i, i ≤ j → ∃ v, hgX N as cs i = some v ∧ frS z.2 (42 + (N - 1 - i)) v.1 ∧ frS z.2 (46 + (N - 1 - i)) v.2) _ (N - 1) (s := (ki ((N : Int) - 1 - 1), ξ)) ⟨by rw [show (N : Int) - 1 - 1 = (N : Int) - 2 - ((0 : Nat) : Int) by omega], k2, fun i hi => ?_⟩ (by omega) (fun j z hj hz => ?_)
  · have : i = 0 := by omega
    subst this
    exact ⟨_, rfl, m2, s2⟩
  · obtain ⟨v, ν⟩ := z
    obtain ⟨rfl, z1, z2⟩ := hz
    simp only [] at z1 z2
    by_cases e : j = N - 1
    · refine ⟨.inr ν, ?_, z1, fun i hi => z2 i (by omega)⟩
      simp (disch := omega) only [b_X8_hang_50, ki_0, ki_1, ki_2, ki_3, ki_4, ki_5, ki_6, ki_7, ki_8, ki_9, ki_10, ki_11, ki_12, ki_13, ki_18, ki_20, ki_24, ki_32, ki_36, ki_45, ki_47, ki_48, ki_50, ki_57, ki_60, ki_63, ki_99, ki_100, ki_101, ki_120, ki_255, ki_468, ki_1000, ki_1024, ki_13849, ki_25173, ki_65535, ki_65536, ki_100000, ki_100001, ki_2147483647, ki_2147483648, kl_0, kl_1, kl_2, kl_9223372036854775808, ki_add, ki_sub, ki_mul, ki_neg, kl_add, kl_sub, kl_mul, kl_neg, ki_i2l, kl_l2i, ki_lt, ki_le, ki_eq, kcmp_eq, kcmp_lt, kcmp_le, kcmp_gt, kcmp_ge, Option.bind_some, Option.map_some, kbool0, kbool1, if_pos, if_neg, if_true, if_false, Int.neg_neg, Int.sub_zero, Int.add_zero, Int.zero_add, true_and, and_true, false_and, and_false, false_or, or_false, true_or, or_true, ne_eq, not_false_eq_true, not_true_eq_false]
    · obtain ⟨q', e1⟩ : ∃ s, hgX N as cs (j + 1) = some s := hgX_pre (N - 1 - (j + 1)) (by rw [show j + 1 + (N - 1 - (j + 1)) = N - 1 by omega]; exact H)
      obtain ⟨q, e2, zm, zs⟩ := z2 j (Nat.le_refl _)
      have e1' := e1
      simp only [hgX, e2, Option.bind_some, Option.bind_eq_some_iff] at e1'
      obtain ⟨t1, b1, t2, b2, m, b3, t3, b4, s, b5, b6⟩ := e1'
      cases b6
      obtain ⟨i, hi⟩ : ∃ i, i = N - 2 - j := ⟨_, rfl⟩
      have i1 : N - 1 - j = i + 1 := by omega
      have i2 : (N : Int) - 2 - j = i := by omega
      rw [← hi] at b2 b4
      rw [i1] at zm zs
      rw [i2]
      have e3 : ((i : Int) + 1).toNat = i + 1 := by omega
      have ok1 := mF_ok b1
      have ok2 := mF_ok b2
      have ok3 := mF_ok b3
      have ok4 := mF_ok b4
      have ok5 := aF_ok b5
      have keep : ∀ x, x ≤ j → ∃ v, hgX N as cs x = some v ∧ frS ν (42 + (N - 1 - x)) v.1 ∧ frS ν (46 + (N - 1 - x)) v.2 := z2
      clear z2
      -- masses
      have hXa := hX.to z1
      have ga := hXa.f41.g (x := (i : Int)) (by omega) (by omega)
      have gb := hXa.f45.g (x := (i : Int) + 1) (by omega) (by omega)
      rw [Int.toNat_natCast] at ga
      rw [e3] at gb
      have cp := X1_copy (hXa.f41.f (j := i) (by omega)) (hXa.f45.f (j := i + 1) (by omega)) zs
      have K1 := z1.trans (kF_fr (p := q.2) (hXa.f41.f (j := i) (by omega)) (lo := 41) (hi := 49) (by omega) (by omega))
      have n1 : ∀ x, x ≠ 42 + i → frw ν (41 + 1 + i) q.2 x = ν x := fun x hx => frw_ne (by omega)
      have c1 : frS (frw ν (41 + 1 + i) q.2) (41 + 1 + i) q.2 := frS.w zs.1 zs.2.1
      generalize frw ν (41 + 1 + i) q.2 = ν1 at *
      have hXb := hX.to K1
      have gb1 := hXb.f45.g (x := (i : Int) + 1) (by omega) (by omega)
      have ga1 := hXb.f41.g (x := (i : Int)) (by omega) (by omega)
      rw [Int.toNat_natCast] at ga1
      rw [e3] at gb1
      have mu := X1_multiply (hXb.f41.f (j := i) (by omega)) (hXb.f45.f (j := i + 1) (by omega)) c1 (zs.at (n1 _ (by omega))) b1
      have K2 := K1.trans (kF_fr (p := t1) (hXb.f41.f (j := i) (by omega)) (lo := 41) (hi := 49) (by omega) (by omega))
      have n2 : ∀ x, x ≠ 42 + i → frw ν1 (41 + 1 + i) t1 x = ν x := fun x hx => by rw [frw_ne (by omega), n1 x hx]
      have c2 : frS (frw ν1 (41 + 1 + i) t1) (41 + 1 + i) t1 := frS.w ok1.1 ok1.2
      generalize frw ν1 (41 + 1 + i) t1 = ν2 at *
      have hXc := hX.to K2
      have ga2 := hXc.f41.g (x := (i : Int)) (by omega) (by omega)
      have gc2 := hXc.f37.g (x := (i : Int)) (by omega) (by omega)
      rw [Int.toNat_natCast] at ga2 gc2
      have tc : frS ν2 (37 + 1 + i) (gz cs i) := (t.2.2 i (by omega)).to K2 (by omega)
      have dv := X1_divide (hXc.f41.f (j := i) (by omega)) (hXc.f37.f (j := i) (by omega)) c2 tc b2
      have K3 := K2.trans (kF_fr (p := t2) (hXc.f41.f (j := i) (by omega)) (lo := 41) (hi := 49) (by omega) (by omega))
      have n3 : ∀ x, x ≠ 42 + i → frw ν2 (41 + 1 + i) t2 x = ν x := fun x hx => by rw [frw_ne (by omega), n2 x hx]
      have c3 : frS (frw ν2 (41 + 1 + i) t2) (41 + 1 + i) t2 := frS.w ok2.1 ok2.2
      generalize frw ν2 (41 + 1 + i) t2 = ν3 at *
      have hXd := hX.to K3
      have ga3 := hXd.f41.g (x := (i : Int)) (by omega) (by omega)
      have gb3 := hXd.f41.g (x := (i : Int) + 1) (by omega) (by omega)
      rw [Int.toNat_natCast] at ga3
      rw [e3] at gb3
      have dv3 := X1_divide (hXd.f41.f (j := i) (by omega)) (hXd.f41.f (j := i + 1) (by omega)) c3 (zm.at (n3 _ (by omega))) b3
      have K4 := K3.trans (kF_fr (p := m) (hXd.f41.f (j := i) (by omega)) (lo := 41) (hi := 49) (by omega) (by omega))
      have n4 : ∀ x, x ≠ 42 + i → frw ν3 (41 + 1 + i) m x = ν x := fun x hx => by rw [frw_ne (by omega), n3 x hx]
      have c4 : frS (frw ν3 (41 + 1 + i) m) (41 + 1 + i) m := frS.w ok3.1 ok3.2
      generalize frw ν3 (41 + 1 + i) m = ν4 at *
      -- springs
      have hXe := hX.to K4
      have gs4 := hXe.f45.g (x := (i : Int)) (by omega) (by omega)
      have ga4 := hXe.f32.g (x := (i : Int)) (by omega) (by omega)
      rw [Int.toNat_natCast] at gs4 ga4
      have ta : frS ν4 (32 + 1 + i) (gz as i) := (t.2.1 i (by omega)).to K4 (by omega)
      have cp4 := X1_copy (hXe.f45.f (j := i) (by omega)) (hXe.f32.f (j := i) (by omega)) ta
      have K5 := K4.trans (kF_fr (p := gz as i) (hXe.f45.f (j := i) (by omega)) (lo := 41) (hi := 49) (by omega) (by omega))
      have n5 : ∀ x, x ≠ 42 + i → x ≠ 46 + i → frw ν4 (45 + 1 + i) (gz as i) x = ν x := fun x hx hy => by rw [frw_ne (by omega), n4 x hx]
      have c5 := c4.ne (o := 45 + 1 + i) (q := gz as i) (by omega)
      have d5 : frS (frw ν4 (45 + 1 + i) (gz as i)) (45 + 1 + i) (gz as i) := frS.w ta.1 ta.2.1
      generalize frw ν4 (45 + 1 + i) (gz as i) = ν5 at *
      have hXf := hX.to K5
      have gs5 := hXf.f45.g (x := (i : Int)) (by omega) (by omega)
      have ga5 := hXf.f41.g (x := (i : Int)) (by omega) (by omega)
      rw [Int.toNat_natCast] at gs5 ga5
      have mu5 := X1_multiply (hXf.f45.f (j := i) (by omega)) (hXf.f41.f (j := i) (by omega)) d5 c5 b4
      have K6 := K5.trans (kF_fr (p := t3) (hXf.f45.f (j := i) (by omega)) (lo := 41) (hi := 49) (by omega) (by omega))
      have n6 : ∀ x, x ≠ 42 + i → x ≠ 46 + i → frw ν5 (45 + 1 + i) t3 x = ν x := fun x hx hy => by rw [frw_ne (by omega), n5 x hx hy]
      have c6 := c5.ne (o := 45 + 1 + i) (q := t3) (by omega)
      have d6 : frS (frw ν5 (45 + 1 + i) t3) (45 + 1 + i) t3 := frS.w ok4.1 ok4.2
      generalize frw ν5 (45 + 1 + i) t3 = ν6 at *
      have hXg := hX.to K6
      have gs6 := hXg.f45.g (x := (i : Int)) (by omega) (by omega)
      have gt6 := hXg.f45.g (x := (i : Int) + 1) (by omega) (by omega)
      rw [Int.toNat_natCast] at gs6
      rw [e3] at gt6
      have su6 := X1_subtract (hXg.f45.f (j := i) (by omega)) (hXg.f45.f (j := i + 1) (by omega)) d6 (zs.at (n6 _ (by omega) (by omega))) b5
      have K7 := K6.trans (kF_fr (p := s) (hXg.f45.f (j := i) (by omega)) (lo := 41) (hi := 49) (by omega) (by omega))
      have n7 : ∀ x, x ≠ 42 + i → x ≠ 46 + i → frw ν6 (45 + 1 + i) s x = ν x := fun x hx hy => by rw [frw_ne (by omega), n6 x hx hy]
      refine ⟨.inl (ki ((i : Int) + -1), frw ν6 (45 + 1 + i) s), ?_, by omega, by rw [show (N : Int) - 2 - ((j + 1 : Nat) : Int) = (i : Int) + -1 by omega], K7, fun x hx => ?_⟩
      · simp (disch := omega) only [b_X8_hang_50, hXa.o31_4, ga, hXa.o31_5, gb, krcv (hXa.f41.f (j := i) (by omega)).1, cp, hXb.o31_4, ga1, hXb.o31_5, gb1, mu, hXc.o31_4, ga2, hXc.o31_3, gc2, dv, hXd.o31_4, ga3, gb3, dv3, hXe.o31_5, gs4, hXe.o31_2, ga4, krcv (hXe.f45.f (j := i) (by omega)).1, cp4, hXf.o31_5, gs5, hXf.o31_4, ga5, mu5, hXg.o31_5, gs6, gt6, su6, ki_0, ki_1, ki_2, ki_3, ki_4, ki_5, ki_6, ki_7, ki_8, ki_9, ki_10, ki_11, ki_12, ki_13, ki_18, ki_20, ki_24, ki_32, ki_36, ki_45, ki_47, ki_48, ki_50, ki_57, ki_60, ki_63, ki_99, ki_100, ki_101, ki_120, ki_255, ki_468, ki_1000, ki_1024, ki_13849, ki_25173, ki_65535, ki_65536, ki_100000, ki_100001, ki_2147483647, ki_2147483648, kl_0, kl_1, kl_2, kl_9223372036854775808, ki_add, ki_sub, ki_mul, ki_neg, kl_add, kl_sub, kl_mul, kl_neg, ki_i2l, kl_l2i, ki_lt, ki_le, ki_eq, kcmp_eq, kcmp_lt, kcmp_le, kcmp_gt, kcmp_ge, Option.bind_some, Option.map_some, kbool0, kbool1, if_pos, if_neg, if_true, if_false, Int.neg_neg, Int.sub_zero, Int.add_zero, Int.zero_add, true_and, and_true, false_and, and_false, false_or, or_false, true_or, or_true, ne_eq, not_false_eq_true, not_true_eq_false]
      · by_cases xj : x = j + 1
        · refine ⟨(m, s), by rw [xj]; exact e1, ?_, ?_⟩
          · rw [show 42 + (N - 1 - x) = 41 + 1 + i by omega]
            exact c6.ne (by omega)
          · rw [show 46 + (N - 1 - x) = 45 + 1 + i by omega]
            exact frS.w ok5.1 ok5.2
        · obtain ⟨v, y1, y2, y3⟩ := keep x (by omega)
          exact ⟨v, y1, y2.at (n7 _ (by omega) (by omega)), y3.at (n7 _ (by omega) (by omega))⟩
