/-! OPS: keep, both -/
theorem relS.congr {μ : jM} {b : Nat} {N N2 : Int} {lo mi ro di co lo2 mi2 ro2 di2 co2 : Int → Int} (h : relS μ b N lo mi ro di co) (hN : N = N2) (h1 : ∀ x, 0 ≤ x → x < 4 → lo x = lo2 x) (h2 : ∀ x, 0 ≤ x → x < 3 → mi x = mi2 x) (h3 : ∀ x, 0 ≤ x → x < 4 → ro x = ro2 x) (h4 : ∀ x, 0 ≤ x → x < 20 → di x = di2 x) (h5 : ∀ x, 0 ≤ x → x < 20 → co x = co2 x) : relS μ b N2 lo2 mi2 ro2 di2 co2 := by
  subst hN
  obtain ⟨r1, r2, r3, r4, r5, r6⟩ := h
  refine ⟨r1, r2, r3, fun x p q => by rw [← h1 x p (by omega)]; exact r4 x p q, fun x p q => by rw [← h2 x p (by omega), ← h1 x p (by omega), ← h1 (x + 1) (by omega) (by omega)]; exact r5 x p q, fun d hd => ?_⟩
  have t := r6 d hd
  have tb : ro d ≤ 5 := t.2.2.1
  exact t.congr (h3 d (by omega) (by omega)) (fun x p q => h4 _ (by omega) (by omega)) (fun x p q => h5 _ (by omega) (by omega))
theorem relS.move {μ ω : jM} {b c : Nat} {N : Int} {lo mi ro di co : Int → Int} (h : relS μ b N lo mi ro di co) (h0 : gi ω (c + 1) 0 = gi μ (b + 1) 0) (h1 : ∀ x, 0 ≤ x → x < 4 → gi ω (c + 2) x = gi μ (b + 2) x) (h2 : ∀ x, 0 ≤ x → x < 3 → gi ω (c + 3) x = gi μ (b + 3) x) (h3 : ∀ d : Nat, d < 4 → sameT μ ω (c + 5 + 3 * d) (b + 5 + 3 * d)) : relS ω c N lo mi ro di co := by
  obtain ⟨r1, r2, r3, r4, r5, r6⟩ := h
  refine ⟨h0.trans r1, r2, r3, fun x p q => by rw [h1 x p (by omega)]; exact r4 x p q, fun x p q => by rw [h2 x p (by omega)]; exact r5 x p q, fun d hd => ?_⟩
  obtain ⟨y1, y2, y3⟩ := h3 d hd
  obtain ⟨v1, v2, v3, v4, v5⟩ := r6 d hd
  exact ⟨y1.trans v1, v2, v3, fun x p q => by rw [y2 x p (by omega)]; exact v4 x p q, fun x p q => by rw [y3 x p (by omega)]; exact v5 x p q⟩
set_option maxHeartbeats 2000000 in
theorem keep_core {L : Nat} {xs : Nat → Int32} {n : Nat} {Y : jY} {μ : jM} (h : Inv L xs n Y μ) {k : Nat} (hk : gi μ 1 5 = k) (h8 : k < 8) (hlt : 123 + 17 * k < n) : ∃ χ ω, b_X11_keep_39 Y 1 μ = some (ki ((k : Int) + 1), χ) ∧ f_X12_keep Y 95 χ = some (ki ((k : Int) + 1), ω) ∧ Inv L xs n Y ω := by
  obtain ⟨⟨a1, a2⟩, hX, hM, ⟨s, s1, s2, s3, s4⟩, a5, a6, a7, a8, a9, a10⟩ := h
  have hks : k < s := by omega
  obtain ⟨u1, u2⟩ := s4.1 k hks
  obtain ⟨ν, c1, k1, t1, t2, t3, t4⟩ := X3_copy u2 hX.now (by omega)
  have xν := hX.to k1
  have g5 := kX.g1_5 hX
  rw [hk] at g5
  have g5ν := kX.g1_5 xν
  rw [k1.gi (by omega), hk] at g5ν
  have qo : jaO Y μ 26 25 (ki k) = some (123 + 17 * k) := by
    unfold jaO
    rw [hX.y26, if_pos rfl, kjix (by omega) (by show (k : Int) < ((8 : Nat) : Int); omega) (by decide), Option.bind_some, Int.toNat_natCast, u1]
    rfl
  have k2 : kF 1 2 ν (jw ν 1 5 (.int (ki ((k : Int) + 1)))) := kF_I xν.i1_5 (by omega) (by omega)
  have xχ := xν.to k2
  have g5χ := kX.g1_5 xχ
  rw [gi_jw _ _ (by omega) (by omega), if_pos ⟨rfl, rfl⟩] at g5χ
  have fin1 : b_X11_keep_39 Y 1 μ = some (ki ((k : Int) + 1), jw ν 1 5 (.int (ki ((k : Int) + 1)))) := by
    simp (disch := omega) only [b_X11_keep_39, kX.o1_4 hX, g5, qo, kX.o1_3 hX, krcv (kS.y u2), c1, g5ν, kX.p1 xν, g5χ, ki_0, ki_1, ki_2, ki_3, ki_4, ki_5, ki_6, ki_7, ki_8, ki_9, ki_10, ki_11, ki_12, ki_13, ki_18, ki_20, ki_24, ki_32, ki_36, ki_45, ki_47, ki_48, ki_50, ki_57, ki_60, ki_63, ki_99, ki_100, ki_101, ki_120, ki_255, ki_468, ki_1000, ki_1024, ki_13849, ki_25173, ki_65535, ki_65536, ki_100000, ki_100001, ki_2147483647, ki_2147483648, kl_0, kl_1, kl_2, kl_9223372036854775808, ki_add, ki_sub, ki_mul, ki_neg, kl_add, kl_sub, kl_mul, kl_neg, ki_i2l, kl_l2i, ki_lt, ki_le, ki_eq, kcmp_eq, kcmp_lt, kcmp_le, kcmp_gt, kcmp_ge, Option.bind_some, Option.map_some, kbool0, kbool1, if_pos, if_neg, if_true, if_false, Int.neg_neg, Int.sub_zero, Int.add_zero, Int.zero_add, true_and, and_true, false_and, and_false, false_or, or_false, true_or, or_true, ne_eq, not_false_eq_true, not_true_eq_false]
  have w15 : gi (jw ν 1 5 (.int (ki ((k : Int) + 1)))) 1 5 = (k : Int) + 1 := by rw [gi_jw _ _ (by omega) (by omega), if_pos ⟨rfl, rfl⟩]
  generalize jw ν 1 5 (.int (ki ((k : Int) + 1))) = χ at *
  have hMχ := (hM.to k1).to k2
  have cχ : ∀ i, i ≠ 1 → i < 123 → χ i = μ i := fun i p q => (k2.1 i (by omega)).trans (k1.1 i (by omega))
  have d25 := hMχ.g25
  rw [gi_cell (cχ 95 (by omega) (by omega)), ← a7, hk] at d25
  have k3 : kF 95 96 χ (jw χ 95 25 (.int (ki ((k : Int) + 1)))) := kF_I hMχ.i25 (by omega) (by omega)
  have hM3 := hMχ.to k3
  have d10 := hM3.g10
  rw [gi_jw _ _ (by omega) (by omega), if_neg (by omega), gi_cell (cχ 95 (by omega) (by omega))] at d10
  have s114 := fun v => kasI (v := v) (kM.a114 hM3) (x := (k : Int)) (by omega) (by omega)
  have k4 : kF 95 115 (jw χ 95 25 (.int (ki ((k : Int) + 1)))) (jw (jw χ 95 25 (.int (ki ((k : Int) + 1)))) 114 k (.int (ki (gi μ 95 10)))) := kF_I ((kM.a114 hM3).2.2.2 _ (by omega)) (by omega) (by omega)
  have p25 := fun v => kM.p hMχ (μ' := χ) (k := 25) (v := v)
  have z95 : jw (jw χ 95 25 (.int (ki ((k : Int) + 1)))) 114 k (.int (ki (gi μ 95 10))) 95 = jw χ 95 25 (.int (ki ((k : Int) + 1))) 95 := jw_cell (by omega)
  have z25 : gi (jw (jw χ 95 25 (.int (ki ((k : Int) + 1)))) 114 k (.int (ki (gi μ 95 10)))) 95 25 = (k : Int) + 1 := by rw [gi_cell z95, gi_jw _ _ (by omega) (by omega), if_pos ⟨rfl, rfl⟩]
  have z10 : gi (jw (jw χ 95 25 (.int (ki ((k : Int) + 1)))) 114 k (.int (ki (gi μ 95 10)))) 95 10 = gi μ 95 10 := by rw [gi_cell z95, gi_jw _ _ (by omega) (by omega), if_neg (by omega), gi_cell (cχ 95 (by omega) (by omega))]
  have z1 : gi (jw (jw χ 95 25 (.int (ki ((k : Int) + 1)))) 114 k (.int (ki (gi μ 95 10)))) 95 1 = gi μ 95 1 := by rw [gi_cell z95, gi_jw _ _ (by omega) (by omega), if_neg (by omega), gi_cell (cχ 95 (by omega) (by omega))]
  have z114 : ∀ x : Int, 0 ≤ x → gi (jw (jw χ 95 25 (.int (ki ((k : Int) + 1)))) 114 k (.int (ki (gi μ 95 10)))) 114 x = if x = k then gi μ 95 10 else gi μ 114 x := fun x hx => by
    rw [gi_jw _ _ (gi_lo _ _ _) (gi_hi _ _ _)]
    by_cases e : x = k
    · rw [if_pos (by omega), if_pos e]
    · rw [if_neg (by omega), if_neg e, gi_jw _ _ (by omega) (by omega), if_neg (by omega), gi_cell (cχ 114 (by omega) (by omega))]
  have zc : ∀ i, i ≠ 95 → i ≠ 114 → i ≠ 1 → i < 123 → jw (jw χ 95 25 (.int (ki ((k : Int) + 1)))) 114 k (.int (ki (gi μ 95 10))) i = μ i := fun i p q r t => by rw [jw_cell q, jw_cell p, cχ i r t]
  have zd : ∀ i, i ≠ 95 → i ≠ 114 → jw (jw χ 95 25 (.int (ki ((k : Int) + 1)))) 114 k (.int (ki (gi μ 95 10))) i = χ i := fun i p q => by rw [jw_cell q, jw_cell p]
  have fin2 : ∀ r, jit jF (fun (s : Int32 × jM) => b_X12_keep_35 Y 95 (ki k) s.1 s.2) ((0 : Int32), jw (jw χ 95 25 (.int (ki ((k : Int) + 1)))) 114 k (.int (ki (gi μ 95 10)))) = some r → f_X12_keep Y 95 χ = some r := fun r hr => by
    simp (disch := omega) only [f_X12_keep, d25, p25, kM.o32 hM3, d10, s114, Int.toNat_natCast, ki_0, ki_1, ki_2, ki_3, ki_4, ki_5, ki_6, ki_7, ki_8, ki_9, ki_10, ki_11, ki_12, ki_13, ki_18, ki_20, ki_24, ki_32, ki_36, ki_45, ki_47, ki_48, ki_50, ki_57, ki_60, ki_63, ki_99, ki_100, ki_101, ki_120, ki_255, ki_468, ki_1000, ki_1024, ki_13849, ki_25173, ki_65535, ki_65536, ki_100000, ki_100001, ki_2147483647, ki_2147483648, kl_0, kl_1, kl_2, kl_9223372036854775808, ki_add, ki_sub, ki_mul, ki_neg, kl_add, kl_sub, kl_mul, kl_neg, ki_i2l, kl_l2i, ki_lt, ki_le, ki_eq, kcmp_eq, kcmp_lt, kcmp_le, kcmp_gt, kcmp_ge, Option.bind_some, Option.map_some, kbool0, kbool1, if_pos, if_neg, if_true, if_false, Int.neg_neg, Int.sub_zero, Int.add_zero, Int.zero_add, true_and, and_true, false_and, and_false, false_or, or_false, true_or, or_true, ne_eq, not_false_eq_true, not_true_eq_false]
    exact hr
  generalize jw (jw χ 95 25 (.int (ki ((k : Int) + 1)))) 114 k (.int (ki (gi μ 95 10))) = ξ at *
  have hMξ := hM3.to k4
  obtain ⟨ω, e1, k5, e114, e115, e111, e116, e112, e113⟩ := X12_keep1 hMξ (k := (k : Int)) (by omega) (by omega)
  rw [z25] at e1
  refine ⟨χ, ω, fin1, fin2 _ e1, ?_⟩
  have kall : kF 0 (123 + 17 * k + 17) μ ω := (k1.mono (by omega) (by omega)).trans ((k2.mono (by omega) (by omega)).trans ((k3.mono (by omega) (by omega)).trans ((k4.mono (by omega) (by omega)).trans (k5.mono (by omega) (by omega)))))
  have oc : ∀ i, i ≠ 95 → (i < 111 ∨ 116 < i) → i ≠ 1 → i < 123 → ω i = μ i := fun i p q r t => (k5.1 i (by omega)).trans (zc i p (by omega) r t)
  have o95 : ω 95 = ξ 95 := k5.1 95 (by omega)
  have ow : ∀ i, i < 111 → ω i = ξ i := fun i p => k5.1 i (by omega)
  have ob : ∀ i, 123 ≤ i → ω i = χ i := fun i p => (k5.1 i (by omega)).trans (zd i (by omega) (by omega))
  have w15ω : gi ω 1 5 = (k : Int) + 1 := by rw [gi_cell (ow 1 (by omega)), gi_cell (zd 1 (by omega) (by omega)), w15]
  refine ⟨⟨a1, fun j hj => by rw [oc 0 (by omega) (by omega) (by omega) (by omega)]; exact a2 j hj⟩, hX.to kall, hM.to kall, ⟨s, s1, s2, by rw [w15ω]; omega, s4.to kall⟩, ?_, ?_, ?_, by rw [w15ω]; omega, by rw [w15ω]; omega, fun j hj => ?_⟩
  · unfold relP
    rw [gi_cell (oc 2 (by omega) (by omega) (by omega) (by omega)), gi_cell o95, z1]
    refine ⟨a5.1, a5.2.1, a5.2.2.1, fun x x0 x1 => ?_⟩
    rw [gi_cell (oc 3 (by omega) (by omega) (by omega) (by omega)), gi_cell (oc 96 (by omega) (by omega) (by omega) (by omega))]
    exact a5.2.2.2 x x0 x1
  · unfold relN
    have f99 : gi ω 99 = gi μ 99 := funext (gi_cell (oc 99 (by omega) (by omega) (by omega) (by omega)))
    have f100 : gi ω 100 = gi μ 100 := funext (gi_cell (oc 100 (by omega) (by omega) (by omega) (by omega)))
    have f108 : gi ω 108 = gi μ 108 := funext (gi_cell (oc 108 (by omega) (by omega) (by omega) (by omega)))
    have f109 : gi ω 109 = gi μ 109 := funext (gi_cell (oc 109 (by omega) (by omega) (by omega) (by omega)))
    have f110 : gi ω 110 = gi μ 110 := funext (gi_cell (oc 110 (by omega) (by omega) (by omega) (by omega)))
    rw [gi_cell o95, z10, f99, f100, f108, f109, f110]
    exact relS.to (μ := μ) (b := 9) a6 (fun i p q => oc i (by omega) (by omega) (by omega) (by omega))
  · rw [w15ω, gi_cell o95, z25]
  · rw [w15ω] at hj
    have cell : ∀ i, 123 ≤ i → (i < 123 + 17 * k ∨ 123 + 17 * k + 17 ≤ i) → ω i = μ i := fun i p q => (ob i p).trans ((k2.1 i (by omega)).trans (k1.1 i (by omega)))
    have cellk : ∀ i, 123 ≤ i → ω i = ν i := fun i p => (ob i p).trans (k2.1 i (by omega))
    have e114' : ∀ x : Int, 0 ≤ x → gi ω 114 x = if x = k then gi μ 95 10 else gi μ 114 x := fun x hx => by rw [gi_cell e114, z114 x hx]
    by_cases e : j = k
    · subst e
      refine relS.congr (relS.move (c := 123 + 17 * j) (ω := ω) a6 ?_ (fun x p q => ?_) (fun x p q => ?_) (fun d hd => ?_)) ?_ (fun x p q => ?_) (fun x p q => ?_) (fun x p q => ?_) (fun x p q => ?_) (fun x p q => ?_)
      · rw [gi_cell (cellk _ (by omega)), t1]
      · rw [gi_cell (cellk _ (by omega)), t2 x p q]
      · rw [gi_cell (cellk _ (by omega)), t3 x p q]
      · obtain ⟨y1, y2, y3⟩ := t4 d hd
        exact ⟨by rw [gi_cell (cellk _ (by omega)), y1], fun x p q => by rw [gi_cell (cellk _ (by omega)), y2 x p q], fun x p q => by rw [gi_cell (cellk _ (by omega)), y3 x p q]⟩
      · rw [e114' _ (by omega), if_pos rfl]
      · rw [e115 _ (by omega), if_pos (by omega), gi_cell (zc 99 (by omega) (by omega) (by omega) (by omega)), show 4 * (j : Int) + x - 4 * j = x by omega]
      · rw [e116 _ (by omega), if_pos (by omega), gi_cell (zc 100 (by omega) (by omega) (by omega) (by omega)), show 3 * (j : Int) + x - 3 * j = x by omega]
      · rw [e111 _ (by omega), if_pos (by omega), gi_cell (zc 108 (by omega) (by omega) (by omega) (by omega)), show 4 * (j : Int) + x - 4 * j = x by omega]
      · rw [e112 _ (by omega), if_pos (by omega), gi_cell (zc 109 (by omega) (by omega) (by omega) (by omega)), show 20 * (j : Int) + x - 20 * j = x by omega]
      · rw [e113 _ (by omega), if_pos (by omega), gi_cell (zc 110 (by omega) (by omega) (by omega) (by omega)), show 20 * (j : Int) + x - 20 * j = x by omega]
    · have q := a10 j (by omega)
      refine relS.congr (relS.to (μ' := ω) q (fun i p r => cell i (by omega) (by omega))) ?_ (fun x p q => ?_) (fun x p q => ?_) (fun x p q => ?_) (fun x p q => ?_) (fun x p q => ?_)
      · rw [e114' _ (by omega), if_neg (by omega)]
      · rw [e115 _ (by omega), if_neg (by omega), gi_cell (zc 115 (by omega) (by omega) (by omega) (by omega))]
      · rw [e116 _ (by omega), if_neg (by omega), gi_cell (zc 116 (by omega) (by omega) (by omega) (by omega))]
      · rw [e111 _ (by omega), if_neg (by omega), gi_cell (zc 111 (by omega) (by omega) (by omega) (by omega))]
      · rw [e112 _ (by omega), if_neg (by omega), gi_cell (zc 112 (by omega) (by omega) (by omega) (by omega))]
      · rw [e113 _ (by omega), if_neg (by omega), gi_cell (zc 113 (by omega) (by omega) (by omega) (by omega))]
theorem Inv.fresh {L : Nat} {xs : Nat → Int32} {n : Nat} {Y : jY} {μ : jM} (h : Inv L xs n Y μ) {k : Nat} (hk : gi μ 1 5 = k) (h8 : k < 8) (hn : n = 123 + 17 * k) : Inv L xs (n + 17) (mY_X3_init (n + 1) (jYn Y n 3 2)) (jw (mM_X3_init (n + 1) n (jMn μ n (jdef tyX3))) 26 k (.ref n)) := by
  obtain ⟨⟨a1, a2⟩, hX, hM, ⟨s, s1, s2, s3, s4⟩, a5, a6, a7, a8, a9, a10⟩ := h
  have hs : s = k := by omega
  subst hs
  have Ylow : ∀ i, i < n → mY_X3_init (n + 1) (jYn Y n 3 2) i = Y i := fun i hi => by rw [mY_X3_init_lt (by omega), jYn_ne (by omega)]
  have Mlow : ∀ i, i < n → i ≠ 26 → jw (mM_X3_init (n + 1) n (jMn μ n (jdef tyX3))) 26 s (.ref n) i = μ i := fun i hi h26 => by rw [jw_cell h26, mM_X3_init_lt (by omega) (by omega), jMn_ne (by omega)]
  have M26 : ∀ j, j ≠ s → jw (mM_X3_init (n + 1) n (jMn μ n (jdef tyX3))) 26 s (.ref n) 26 j = μ 26 j := fun j hj => by rw [jw_ne _ _ (by omega), mM_X3_init_lt (by omega) (by omega), jMn_ne (by omega)]
  have M26s : jw (mM_X3_init (n + 1) n (jMn μ n (jdef tyX3))) 26 s (.ref n) 26 s = .ref n := jw_same _ _ _ _
  have new : kS (mY_X3_init (n + 1) (jYn Y n 3 2)) (jw (mM_X3_init (n + 1) n (jMn μ n (jdef tyX3))) 26 s (.ref n)) n := (kS_new (Y := Y) (μ := μ) (n := n) (by omega)).ext (fun _ _ _ => rfl) (fun i p q => jw_cell (by omega))
  generalize mY_X3_init (n + 1) (jYn Y n 3 2) = Y2 at *
  generalize jw (mM_X3_init (n + 1) n (jMn μ n (jdef tyX3))) 26 s (.ref n) = μ2 at *
  have e1 : gi μ2 1 5 = gi μ 1 5 := gi_cell (Mlow 1 (by omega) (by omega)) 5
  have e95 : ∀ x, gi μ2 95 x = gi μ 95 x := fun x => gi_cell (Mlow 95 (by omega) (by omega)) x
  refine ⟨⟨by rw [Ylow 0 (by omega)]; exact a1, fun j hj => by rw [Mlow 0 (by omega) (by omega)]; exact a2 j hj⟩, hX.ext (fun i hi => Ylow i (by omega)) (fun i hi h26 => Mlow i (by omega) h26), hM.ext (fun i p q => Ylow i (by omega)) (fun i p q => Mlow i (by omega) (by omega)), ⟨s + 1, by omega, by omega, by omega, fun j hj => ?_, fun j p q => ?_⟩, ?_, ?_, by rw [e1, e95]; exact a7, by rw [e1]; exact a8, by rw [e1]; exact a9, fun j hj => ?_⟩
  · by_cases e : j = s
    · subst e
      refine ⟨by rw [M26s, hn], ?_⟩
      rw [← hn]
      exact new
    · exact ⟨by rw [M26 j e]; exact (s4.1 j (by omega)).1, (s4.1 j (by omega)).2.ext (fun i p q => Ylow i (by omega)) (fun i p q => Mlow i (by omega) (by omega))⟩
  · rw [M26 j (by omega)]
    exact s4.2 j (by omega) q
  · exact a5.to (Mlow 2 (by omega) (by omega)) (Mlow 3 (by omega) (by omega)) (Mlow 96 (by omega) (by omega)) (congrFun (Mlow 95 (by omega) (by omega)) 1)
  · exact a6.to (fun i p q => Mlow i (by omega) (by omega)) (fun i p => Mlow i (by omega) (by omega)) (congrFun (Mlow 95 (by omega) (by omega)) 10)
  · rw [e1] at hj
    have q := a10 j hj
    unfold relK
    have f : ∀ a, 111 ≤ a → a ≤ 116 → gi μ2 a = gi μ a := fun a p r => funext (gi_cell (Mlow a (by omega) (by omega)))
    rw [f 111 (by omega) (by omega), f 112 (by omega) (by omega), f 113 (by omega) (by omega), f 114 (by omega) (by omega), f 115 (by omega) (by omega), f 116 (by omega) (by omega)]
    exact relS.to q (fun i p r => Mlow i (by omega) (by omega))
theorem ok_keep {L : Nat} {xs : Nat → Int32} {n : Nat} {Y : jY} {μ : jM} (h : Inv L xs n Y μ) : so_keep (Inv L xs) n Y μ := by
  have hX := h.x
  have hM := h.m
  have a8 : 0 ≤ gi μ 1 5 := h.2.2.2.2.2.2.2.1
  have a9 : gi μ 1 5 ≤ 8 := h.2.2.2.2.2.2.2.2.1
  have a7 : gi μ 1 5 = gi μ 95 25 := h.2.2.2.2.2.2.1
  obtain ⟨s, s1, s2, s3, s4⟩ := h.2.2.2.1
  have v5 := gi_at hX.i1_5
  have r4 : μ 1 4 = .ref 26 := hX.2.1 (1, 4, 26) (List.mem_of_getElem? (i := 4) rfl)
  have hlt : ∀ {a b : Int}, -100 ≤ a → a ≤ 100 → (b = 8) → (ki a < ki b) = (a < b) := fun h1 h2 h3 => ki_lt (by omega) (by omega) (by omega) (by omega)
  obtain ⟨k, hk⟩ : ∃ k : Nat, gi μ 1 5 = k := ⟨(gi μ 1 5).toNat, by omega⟩
  have v5' : μ 1 5 = .int (ki k) := by rw [← hk]; exact v5
  by_cases e8 : k = 8
  · have nlt : ¬ ki (k : Int) < (8 : Int32) := by rw [ki_8, ki_lt (by omega) (by omega) (by omega) (by omega)]; omega
    have d25 : jgI Y μ 95 12 25 = some (ki 8) := by
      have d := hM.g25
      rw [← a7, hk, e8] at d
      exact d
    refine ⟨0, 0, Y, -1, μ, (-1, μ), fun l => c_X11_keep_full l hX.y1 v5' nlt, by omega, by omega, by omega, ?_, rfl, hM.y, h⟩
    simp (disch := omega) only [f_X12_keep, d25, ki_0, ki_1, ki_2, ki_3, ki_4, ki_5, ki_6, ki_7, ki_8, ki_9, ki_10, ki_11, ki_12, ki_13, ki_18, ki_20, ki_24, ki_32, ki_36, ki_45, ki_47, ki_48, ki_50, ki_57, ki_60, ki_63, ki_99, ki_100, ki_101, ki_120, ki_255, ki_468, ki_1000, ki_1024, ki_13849, ki_25173, ki_65535, ki_65536, ki_100000, ki_100001, ki_2147483647, ki_2147483648, kl_0, kl_1, kl_2, kl_9223372036854775808, ki_add, ki_sub, ki_mul, ki_neg, kl_add, kl_sub, kl_mul, kl_neg, ki_i2l, kl_l2i, ki_lt, ki_le, ki_eq, kcmp_eq, kcmp_lt, kcmp_le, kcmp_gt, kcmp_ge, Option.bind_some, Option.map_some, kbool0, kbool1, if_pos, if_neg, if_true, if_false, Int.neg_neg, Int.sub_zero, Int.add_zero, Int.zero_add, true_and, and_true, false_and, and_false, false_or, or_false, true_or, or_true, ne_eq, not_false_eq_true, not_true_eq_false]
  · have lt8 : ki (k : Int) < (8 : Int32) := by rw [ki_8, ki_lt (by omega) (by omega) (by omega) (by omega)]; omega
    have hi : jix (ki (k : Int)) (Y 26).2 = some k := by rw [hX.y26, kjix (by omega) (by show (k : Int) < ((8 : Nat) : Int); omega) (by decide), Int.toNat_natCast]
    have hta : (Y 26).1 = 25 := by rw [hX.y26]
    by_cases eks : k < s
    · obtain ⟨χ, ω, c1, c2, c3⟩ := keep_core h hk (by omega) (by omega)
      exact ⟨0, 0, Y, ki ((k : Int) + 1), χ, (ki ((k : Int) + 1), ω), fun l => c_X11_keep_old l hX.y1 v5' lt8 r4 hta hi (s4.1 k eks).1 c1, by omega, by omega, by omega, c2, rfl, hM.y, c3⟩
    · have hn : n = 123 + 17 * k := by omega
      have F := h.fresh hk (by omega) hn
      obtain ⟨χ, ω, c1, c2, c3⟩ := keep_core F (k := k) (by rw [gi_cell (by rw [jw_cell (by omega), mM_X3_init_lt (by omega) (by omega), jMn_ne (by omega)])]; exact hk) (by omega) (by omega)
      exact ⟨17, 64, _, ki ((k : Int) + 1), χ, (ki ((k : Int) + 1), ω), fun l => c_X11_keep_new l (by omega) (by omega) (by omega) hX.y1 v5' lt8 r4 (by omega) (by omega) hta hi (s4.2 k (by omega) (by omega)) c1, by omega, by omega, by omega, c2, rfl, F.m.y, c3⟩
