/-! OPS: feed -/
theorem u2i (w : UInt32) : w.toInt32 = ki (w.toNat : Int) := by
  rw [← Int32.toBitVec_inj]
  unfold ki
  rw [Int32.toBitVec_ofInt]
  apply BitVec.eq_of_toNat_eq
  rw [BitVec.toNat_ofInt]
  have := w.toNat_lt
  show w.toNat = _
  omega
theorem i2u (x : Int) : ((ki x).toUInt32.toNat : Int) = x % 4294967296 := by
  have : (ki x).toUInt32.toNat = (BitVec.ofInt 32 x).toNat := rfl
  rw [this, BitVec.toNat_ofInt]
  omega
theorem byteX (x : Int) (s : Nat) (h : s < 32) {w : UInt32} (hw : w.toNat = s) : ((ki x).toUInt32 >>> w).toInt32 &&& ki 255 = ki ((x % 4294967296 / 2 ^ s) % 256) := by
  rw [u2i, kmask8, UInt32.toNat_shiftRight, hw, Nat.mod_eq_of_lt h, Nat.shiftRight_eq_div_pow, Int.natCast_ediv, i2u]
  rfl
theorem byteM (x : Int) (h1 : -2147483648 ≤ x) (h2 : x ≤ 2147483647) {w : Int32} {s : Nat} (hw : w.toBitVec.smod 32 = BitVec.ofNat 32 s) (hs : s < 32) : ((ki x >>> w).toInt8.toInt32).toInt8.toInt32 = ki (Int.bmod (x / 2 ^ s) 256) := by
  rw [← Int32.toInt_inj, Int8.toInt_toInt32, Int32.toInt_toInt8, Int8.toInt_toInt32, Int32.toInt_toInt8, Int.bmod_bmod]
  have e : (ki x >>> w).toInt = x / 2 ^ s := by
    rw [← Int32.toInt_toBitVec, Int32.toBitVec_shiftRight, hw, BitVec.sshiftRight', BitVec.toInt_sshiftRight, Int32.toInt_toBitVec, ki_toInt h1 h2, BitVec.toNat_ofNat, Int.shiftRight_eq_div_pow, Nat.mod_eq_of_lt (show s < 2 ^ 32 by omega), Int.natCast_pow]
    rfl
  rw [e, ki_toInt]
  · have := @Int.bmod_lt (x / 2 ^ s) 256 (by omega)
    have := @Int.le_bmod (x / 2 ^ s) 256 (by omega)
    omega
  · have := @Int.bmod_lt (x / 2 ^ s) 256 (by omega)
    omega
def byteOf (v j : Int) : Int := if j = 0 then v / 16777216 else if j = 1 then v / 65536 else if j = 2 then v / 256 else v
def add4 (g : Int → Int) (l v : Int) (x : Int) : Int := if l ≤ x ∧ x < l + 4 then byteOf v (x - l) else g x
theorem byteX0 (x : Int) : ((ki x).toUInt32 >>> ((ki 24).toUInt32 &&& Int32.toUInt32 31)).toInt32 &&& ki 255 = ki (byteOf x 0 % 256) := by
  rw [byteX x 24 (by omega) rfl]
  congr 1
  show x % 4294967296 / 16777216 % 256 = x / 16777216 % 256
  omega
theorem byteX1 (x : Int) : ((ki x).toUInt32 >>> ((ki 16).toUInt32 &&& Int32.toUInt32 31)).toInt32 &&& ki 255 = ki (byteOf x 1 % 256) := by
  rw [byteX x 16 (by omega) rfl]
  congr 1
  show x % 4294967296 / 65536 % 256 = x / 65536 % 256
  omega
theorem byteX2 (x : Int) : ((ki x).toUInt32 >>> ((ki 8).toUInt32 &&& Int32.toUInt32 31)).toInt32 &&& ki 255 = ki (byteOf x 2 % 256) := by
  rw [byteX x 8 (by omega) rfl]
  congr 1
  show x % 4294967296 / 256 % 256 = x / 256 % 256
  omega
theorem byteX3 (x : Int) : ((ki x).toUInt32 >>> ((ki 0).toUInt32 &&& Int32.toUInt32 31)).toInt32 &&& ki 255 = ki (byteOf x 3 % 256) := by
  rw [byteX x 0 (by omega) rfl]
  congr 1
  show x % 4294967296 / 1 % 256 = x % 256
  omega
theorem byteXi (x : Int) {i : Nat} (hi : i < 4) : ((ki x).toUInt32 >>> ((ki (24 - 8 * (i : Int))).toUInt32 &&& Int32.toUInt32 31)).toInt32 &&& ki 255 = ki (byteOf x i % 256) := by
  have : i = 0 ∨ i = 1 ∨ i = 2 ∨ i = 3 := by omega
  rcases this with rfl | rfl | rfl | rfl
  · exact byteX0 x
  · exact byteX1 x
  · exact byteX2 x
  · exact byteX3 x
theorem byteMi (x : Int) (h1 : -2147483648 ≤ x) (h2 : x ≤ 2147483647) {i : Nat} (hi : i < 4) : ((ki x >>> (ki (8 * (3 - (i : Int))) &&& 31)).toInt8.toInt32).toInt8.toInt32 = ki (Int.bmod (byteOf x i) 256) := by
  have : i = 0 ∨ i = 1 ∨ i = 2 ∨ i = 3 := by omega
  rcases this with rfl | rfl | rfl | rfl
  · exact byteM x h1 h2 (s := 24) (by decide) (by omega)
  · exact byteM x h1 h2 (s := 16) (by decide) (by omega)
  · exact byteM x h1 h2 (s := 8) (by decide) (by omega)
  · have e := byteM x h1 h2 (w := ki (8 * (3 - ((3 : Nat) : Int))) &&& 31) (s := 0) (by decide) (by omega)
    rw [e, show x / 2 ^ 0 = x by omega]
    rfl
/-- the tape: as many, and each of these but for the places above a byte -/
def tpX (μ : jM) (l : Int) (g : Int → Int) : Prop := gi μ 2 1 = l ∧ ∀ x : Int, 0 ≤ x → x < l → gi μ 3 x = g x % 256
def tpM (μ : jM) (l : Int) (g : Int → Int) : Prop := gi μ 95 1 = l ∧ ∀ x : Int, 0 ≤ x → x < l → gi μ 96 x = Int.bmod (g x) 256
set_option maxHeartbeats 1000000 in
theorem X5_add {Y : jY} {μ : jM} (hX : kX Y μ) {l : Int} {g : Int → Int} (h : tpX μ l g) (l0 : 0 ≤ l) (l1 : l + 4 ≤ 120) {v : Int} : ∃ ν, f_X5_add Y 2 (ki v) μ = some ν ∧ kF 2 4 μ ν ∧ tpX ν (l + 4) (add4 g l v) := by
  refine jit_inv (f := fun (s : Int32 × jM) => b_X5_add_3 Y 2 (ki v) s.1 s.2) (fun i z => z.1 = ki (24 - 8 * (i : Int)) ∧ kF 2 4 μ z.2 ∧ gi z.2 2 1 = l + i ∧ (∀ x : Int, 0 ≤ x → x < l → gi z.2 3 x = g x % 256) ∧ ∀ j : Int, 0 ≤ j → j < i → gi z.2 3 (l + j) = byteOf v j % 256) _ 4 (s := ((24 : Int32), μ)) ⟨rfl, kF.refl, by rw [h.1]; omega, h.2, fun j a b => by omega⟩ (by omega) (fun i z hi hz => ?_)
  obtain ⟨w, ν⟩ := z
  obtain ⟨rfl, z1, z2, z3, z4⟩ := hz
  simp only [] at z1 z2 z3 z4
  have hX1 := hX.to z1
  have g1 := kX.g2_1 hX1
  rw [z2] at g1
  by_cases e : i = 4
  · refine ⟨.inr ν, ?_, z1, by rw [z2, e]; rfl, fun x a b => ?_⟩
    · simp (disch := omega) only [b_X5_add_3, b_X5_add_48, ki_0, ki_1, ki_2, ki_3, ki_4, ki_5, ki_6, ki_7, ki_8, ki_9, ki_10, ki_11, ki_12, ki_13, ki_18, ki_20, ki_24, ki_32, ki_36, ki_45, ki_47, ki_48, ki_50, ki_57, ki_60, ki_63, ki_99, ki_100, ki_101, ki_120, ki_255, ki_468, ki_1000, ki_1024, ki_13849, ki_25173, ki_65535, ki_65536, ki_100000, ki_100001, ki_2147483647, ki_2147483648, kl_0, kl_1, kl_2, kl_9223372036854775808, ki_add, ki_sub, ki_mul, ki_neg, kl_add, kl_sub, kl_mul, kl_neg, ki_i2l, kl_l2i, ki_lt, ki_le, ki_eq, kcmp_eq, kcmp_lt, kcmp_le, kcmp_gt, kcmp_ge, Option.bind_some, Option.map_some, kbool0, kbool1, if_pos, if_neg, if_true, if_false, Int.neg_neg, Int.sub_zero, Int.add_zero, Int.zero_add, true_and, and_true, false_and, and_false, false_or, or_false, true_or, or_true, ne_eq, not_false_eq_true, not_true_eq_false, Option.map_some]
    · unfold add4
      by_cases q : l ≤ x ∧ x < l + 4
      · rw [if_pos q]
        have := z4 (x - l) (by omega) (by omega)
        rw [show l + (x - l) = x by omega] at this
        exact this
      · rw [if_neg q]
        exact z3 x a (by omega)
  · have B := byteXi v (i := i) (by omega)
    have bb : 0 ≤ byteOf v i % 256 ∧ byteOf v i % 256 < 256 := by omega
    have s1 := fun v => kasI (v := v) hX1.a3 (x := l + i) (by omega) (by omega)
    have kf1 : kF 2 4 ν (jw ν 3 (l + i).toNat (.int (ki (byteOf v i % 256)))) := kF_I (hX1.a3.2.2.2 _ (by omega)) (by omega) (by omega)
    have hX2 := hX1.to kf1
    have g2 := kX.g2_1 hX2
    rw [gi_jw _ _ (by omega) (by omega), if_neg (by omega), z2] at g2
    have kf2 : kF 2 4 (jw ν 3 (l + i).toNat (.int (ki (byteOf v i % 256)))) (jw (jw ν 3 (l + i).toNat (.int (ki (byteOf v i % 256)))) 2 1 (.int (ki (l + i + 1)))) := kF_I hX2.i2_1 (by omega) (by omega)
    refine ⟨.inl (ki (24 - 8 * ((i + 1 : Nat) : Int)), jw (jw ν 3 (l + i).toNat (.int (ki (byteOf v i % 256)))) 2 1 (.int (ki (l + i + 1)))), ?_, by omega, rfl, (z1.trans kf1).trans kf2, ?_, fun x a b => ?_, fun j a b => ?_⟩
    · simp (disch := omega) only [b_X5_add_3, b_X5_add_48, g1, kX.o2_0 hX1, ki_0, ki_1, ki_2, ki_3, ki_4, ki_5, ki_6, ki_7, ki_8, ki_9, ki_10, ki_11, ki_12, ki_13, ki_18, ki_20, ki_24, ki_32, ki_36, ki_45, ki_47, ki_48, ki_50, ki_57, ki_60, ki_63, ki_99, ki_100, ki_101, ki_120, ki_255, ki_468, ki_1000, ki_1024, ki_13849, ki_25173, ki_65535, ki_65536, ki_100000, ki_100001, ki_2147483647, ki_2147483648, kl_0, kl_1, kl_2, kl_9223372036854775808, ki_add, ki_sub, ki_mul, ki_neg, kl_add, kl_sub, kl_mul, kl_neg, ki_i2l, kl_l2i, ki_lt, ki_le, ki_eq, kcmp_eq, kcmp_lt, kcmp_le, kcmp_gt, kcmp_ge, Option.bind_some, Option.map_some, kbool0, kbool1, if_pos, if_neg, if_true, if_false, Int.neg_neg, Int.sub_zero, Int.add_zero, Int.zero_add, true_and, and_true, false_and, and_false, false_or, or_false, true_or, or_true, ne_eq, not_false_eq_true, not_true_eq_false, B, s1, g2, kX.p2 hX2]
      rw [show (24 : Int) - 8 * (i : Int) + -8 = 24 - 8 * ((i + 1 : Nat) : Int) by omega]
    · simp only []
      rw [gi_jw _ _ (by omega) (by omega), if_pos ⟨rfl, rfl⟩]
      omega
    · simp only []
      rw [gi_jw _ _ (by omega) (by omega), if_neg (by omega), gi_jw _ _ (by omega) (by omega), if_neg (by omega)]
      exact z3 x a b
    · simp only []
      rw [gi_jw _ _ (by omega) (by omega), if_neg (by omega), gi_jw _ _ (by omega) (by omega)]
      by_cases q : j = i
      · rw [if_pos (by omega), q]
      · rw [if_neg (by omega)]
        exact z4 j a (by omega)
set_option maxHeartbeats 1000000 in
theorem X12_typed4 {Y : jY} {μ : jM} (hM : kM Y μ) {l : Int} {g : Int → Int} (h : tpM μ l g) (l0 : 0 ≤ l) (l1 : l + 4 ≤ 120) {v : Int} (v1 : -2147483648 ≤ v) (v2 : v ≤ 2147483647) : ∃ ν, f_X12_typed4 Y 95 (ki v) μ = some ν ∧ kF 95 97 μ ν ∧ (∀ j, j ≠ 1 → ν 95 j = μ 95 j) ∧ tpM ν (l + 4) (add4 g l v) := by
  refine jit_inv (f := fun (s : Int32 × jM) => b_X12_typed4_2 Y 95 (ki v) s.1 s.2) (fun i z => z.1 = ki (3 - (i : Int)) ∧ kF 95 97 μ z.2 ∧ (∀ j, j ≠ 1 → z.2 95 j = μ 95 j) ∧ gi z.2 95 1 = l + i ∧ (∀ x : Int, 0 ≤ x → x < l → gi z.2 96 x = Int.bmod (g x) 256) ∧ ∀ j : Int, 0 ≤ j → j < i → gi z.2 96 (l + j) = Int.bmod (byteOf v j) 256) _ 4 (s := ((3 : Int32), μ)) ⟨rfl, kF.refl, fun _ _ => rfl, by rw [h.1]; omega, h.2, fun j a b => by omega⟩ (by omega) (fun i z hi hz => ?_)
  obtain ⟨w, ν⟩ := z
  obtain ⟨rfl, z1, z5, z2, z3, z4⟩ := hz
  simp only [] at z1 z2 z3 z4 z5
  have hM1 := hM.to z1
  have g1 := kM.g1 hM1
  rw [z2] at g1
  by_cases e : i = 4
  · refine ⟨.inr ν, ?_, z1, z5, by rw [z2, e]; rfl, fun x a b => ?_⟩
    · simp (disch := omega) only [b_X12_typed4_2, ki_0, ki_1, ki_2, ki_3, ki_4, ki_5, ki_6, ki_7, ki_8, ki_9, ki_10, ki_11, ki_12, ki_13, ki_18, ki_20, ki_24, ki_32, ki_36, ki_45, ki_47, ki_48, ki_50, ki_57, ki_60, ki_63, ki_99, ki_100, ki_101, ki_120, ki_255, ki_468, ki_1000, ki_1024, ki_13849, ki_25173, ki_65535, ki_65536, ki_100000, ki_100001, ki_2147483647, ki_2147483648, kl_0, kl_1, kl_2, kl_9223372036854775808, ki_add, ki_sub, ki_mul, ki_neg, kl_add, kl_sub, kl_mul, kl_neg, ki_i2l, kl_l2i, ki_lt, ki_le, ki_eq, kcmp_eq, kcmp_lt, kcmp_le, kcmp_gt, kcmp_ge, Option.bind_some, Option.map_some, kbool0, kbool1, if_pos, if_neg, if_true, if_false, Int.neg_neg, Int.sub_zero, Int.add_zero, Int.zero_add, true_and, and_true, false_and, and_false, false_or, or_false, true_or, or_true, ne_eq, not_false_eq_true, not_true_eq_false]
    · unfold add4
      by_cases q : l ≤ x ∧ x < l + 4
      · rw [if_pos q]
        have := z4 (x - l) (by omega) (by omega)
        rw [show l + (x - l) = x by omega] at this
        exact this
      · rw [if_neg q]
        exact z3 x a (by omega)
  · have B := byteMi v v1 v2 (i := i) (by omega)
    have bb : -128 ≤ Int.bmod (byteOf v i) 256 ∧ Int.bmod (byteOf v i) 256 < 128 := by
      have := @Int.bmod_lt (byteOf v i) 256 (by omega)
      have := @Int.le_bmod (byteOf v i) 256 (by omega)
      omega
    have s1 := fun v => kasB (v := v) (kM.a96 hM1) (x := l + i) (by omega) (by omega)
    have kf1 : kF 95 97 ν (jw ν 96 (l + i).toNat (.int (ki (Int.bmod (byteOf v i) 256)))) := kF_I ((kM.a96 hM1).2.2.2 _ (by omega)) (by omega) (by omega)
    have hM2 := hM1.to kf1
    have g2 := kM.g1 hM2
    rw [gi_jw _ _ (by omega) (by omega), if_neg (by omega), z2] at g2
    have kf2 : kF 95 97 (jw ν 96 (l + i).toNat (.int (ki (Int.bmod (byteOf v i) 256)))) (jw (jw ν 96 (l + i).toNat (.int (ki (Int.bmod (byteOf v i) 256)))) 95 1 (.int (ki (l + i + 1)))) := kF_I hM2.i1 (by omega) (by omega)
    refine ⟨.inl (ki (3 - ((i + 1 : Nat) : Int)), jw (jw ν 96 (l + i).toNat (.int (ki (Int.bmod (byteOf v i) 256)))) 95 1 (.int (ki (l + i + 1)))), ?_, by omega, rfl, (z1.trans kf1).trans kf2, fun j hj => ?_, ?_, fun x a b => ?_, fun j a b => ?_⟩
    · simp (disch := omega) only [b_X12_typed4_2, g1, kM.o0 hM1, ki_0, ki_1, ki_2, ki_3, ki_4, ki_5, ki_6, ki_7, ki_8, ki_9, ki_10, ki_11, ki_12, ki_13, ki_18, ki_20, ki_24, ki_32, ki_36, ki_45, ki_47, ki_48, ki_50, ki_57, ki_60, ki_63, ki_99, ki_100, ki_101, ki_120, ki_255, ki_468, ki_1000, ki_1024, ki_13849, ki_25173, ki_65535, ki_65536, ki_100000, ki_100001, ki_2147483647, ki_2147483648, kl_0, kl_1, kl_2, kl_9223372036854775808, ki_add, ki_sub, ki_mul, ki_neg, kl_add, kl_sub, kl_mul, kl_neg, ki_i2l, kl_l2i, ki_lt, ki_le, ki_eq, kcmp_eq, kcmp_lt, kcmp_le, kcmp_gt, kcmp_ge, Option.bind_some, Option.map_some, kbool0, kbool1, if_pos, if_neg, if_true, if_false, Int.neg_neg, Int.sub_zero, Int.add_zero, Int.zero_add, true_and, and_true, false_and, and_false, false_or, or_false, true_or, or_true, ne_eq, not_false_eq_true, not_true_eq_false, B, s1, g2, kM.p hM2]
      rw [show (3 : Int) - (i : Int) + -1 = 3 - ((i + 1 : Nat) : Int) by omega]
    · simp only []
      rw [jw_ne _ _ (by omega), jw_ne _ _ (by omega)]
      exact z5 j hj
    · simp only []
      rw [gi_jw _ _ (by omega) (by omega), if_pos ⟨rfl, rfl⟩]
      omega
    · simp only []
      rw [gi_jw _ _ (by omega) (by omega), if_neg (by omega), gi_jw _ _ (by omega) (by omega), if_neg (by omega)]
      exact z3 x a b
    · simp only []
      rw [gi_jw _ _ (by omega) (by omega), if_neg (by omega), gi_jw _ _ (by omega) (by omega)]
      by_cases q : j = i
      · rw [if_pos (by omega), q]
      · rw [if_neg (by omega)]
        exact z4 j a (by omega)
/-- the tape is another one, in both; all else is as it was -/
theorem Inv.updP {L : Nat} {xs : Nat → Int32} {n : Nat} {Y : jY} {μ μ' : jM} (h : Inv L xs n Y μ) (k : kF 0 123 μ μ') (hc : ∀ i, pers i → i ≠ 2 → i ≠ 3 → i ≠ 96 → μ' i = μ i) (h10 : μ' 95 10 = μ 95 10) (h25 : μ' 95 25 = μ 95 25) (hp : relP μ') : Inv L xs n Y μ' := by
  obtain ⟨⟨a1, a2⟩, a3, a4, ⟨s, s1, s2, s3, s4⟩, a5, a6, a7, a8, a9, a10⟩ := h
  have e1 : gi μ' 1 5 = gi μ 1 5 := gi_cell (hc 1 (Or.inl (by omega)) (by omega) (by omega) (by omega)) 5
  have e2 : gi μ' 95 25 = gi μ 95 25 := gi_slot (k := 25) h25
  refine ⟨⟨a1, fun j hj => by rw [hc 0 (Or.inl (by omega)) (by omega) (by omega) (by omega)]; exact a2 j hj⟩, a3.to k, a4.to k, ⟨s, s1, s2, by rw [e1]; exact s3, s4.to k⟩, hp, a6.to (fun i p q => hc i (by unfold pers; omega) (by omega) (by omega) (by omega)) (fun i p => hc i (by unfold pers; omega) (by omega) (by omega) (by omega)) h10, by rw [e1, e2]; exact a7, by rw [e1]; exact a8, by rw [e1]; exact a9, fun j hj => ?_⟩
  rw [e1] at hj
  exact (a10 j hj).to (fun i p => hc i (by unfold pers; omega) (by omega) (by omega) (by omega)) (fun i p q => hc i (by unfold pers; omega) (by omega) (by omega) (by omega))
theorem Inv.p {L : Nat} {xs : Nat → Int32} {n : Nat} {Y : jY} {μ : jM} (h : Inv L xs n Y μ) : relP μ := h.2.2.2.2.1
set_option maxHeartbeats 1000000 in
theorem ok_feed {L : Nat} {xs : Nat → Int32} {n : Nat} {Y : jY} {μ : jM} (h : Inv L xs n Y μ) : so_feed (Inv L xs) n Y μ := by
  have hX := h.x
  have hM := h.m
  intro a1 a2 a3 a4 a5
  obtain ⟨v1, p1, r1, rfl⟩ := ki_is a1
  obtain ⟨v2, p2, r2, rfl⟩ := ki_is a2
  obtain ⟨v3, p3, r3, rfl⟩ := ki_is a3
  obtain ⟨v4, p4, r4, rfl⟩ := ki_is a4
  obtain ⟨v5, p5, r5, rfl⟩ := ki_is a5
  obtain ⟨t1, t2, t3, t4⟩ := h.p
  have g := kX.g2_1 hX
  have gm := kM.g1 hM
  rw [← t1] at gm
  by_cases e : gi μ 2 1 + 20 ≤ 120
  · have s0 : tpX μ (gi μ 2 1) (gi μ 96) := ⟨rfl, fun x a b => (t4 x a b).1⟩
    obtain ⟨ν1, c1, k1, s1⟩ := X5_add hX s0 t2 (by omega) (v := v1)
    have hX1 := hX.to k1
    obtain ⟨ν2, c2, k2, s2⟩ := X5_add hX1 s1 (by omega) (by omega) (v := v2)
    have hX2 := hX1.to k2
    obtain ⟨ν3, c3, k3, s3⟩ := X5_add hX2 s2 (by omega) (by omega) (v := v3)
    have hX3 := hX2.to k3
    obtain ⟨ν4, c4, k4, s4⟩ := X5_add hX3 s3 (by omega) (by omega) (v := v4)
    have hX4 := hX3.to k4
    obtain ⟨ν5, c5, k5, s5⟩ := X5_add hX4 s4 (by omega) (by omega) (v := v5)
    have hX5 := hX4.to k5
    have kx := (((k1.trans k2).trans k3).trans k4).trans k5
    have hM5 := hM.to kx
    have g5 := kX.g2_1 hX5
    rw [s5.1] at g5
    have gm5 := kM.g1 hM5
    rw [kx.gi (by omega), ← t1] at gm5
    have m0 : tpM ν5 (gi μ 2 1) (gi μ 96) := ⟨by rw [kx.gi (by omega), t1], fun x a b => by
      rw [kx.gi (by omega)]
      have := t4 x a b
      exact (Int.bmod_eq_of_le (by omega) (by omega)).symm⟩
    obtain ⟨ω1, e1, f1, o1, m1⟩ := X12_typed4 hM5 m0 t2 (by omega) p1 r1
    have hM6 := hM5.to f1
    obtain ⟨ω2, e2, f2, o2, m2⟩ := X12_typed4 hM6 m1 (by omega) (by omega) p2 r2
    have hM7 := hM6.to f2
    obtain ⟨ω3, e3, f3, o3, m3⟩ := X12_typed4 hM7 m2 (by omega) (by omega) p3 r3
    have hM8 := hM7.to f3
    obtain ⟨ω4, e4, f4, o4, m4⟩ := X12_typed4 hM8 m3 (by omega) (by omega) p4 r4
    have hM9 := hM8.to f4
    obtain ⟨ω5, e5, f5, o5, m5⟩ := X12_typed4 hM9 m4 (by omega) (by omega) p5 r5
    have hM10 := hM9.to f5
    have fx := (((f1.trans f2).trans f3).trans f4).trans f5
    have ox : ∀ j, j ≠ 1 → ω5 95 j = μ 95 j := fun j hj => by rw [o5 j hj, o4 j hj, o3 j hj, o2 j hj, o1 j hj, kx.1 95 (by omega)]
    have gm10 := kM.g1 hM10
    rw [m5.1] at gm10
    refine ⟨(ki (gi μ 2 1 + 4 + 4 + 4 + 4 + 4), ν5), (ki (gi μ 2 1 + 4 + 4 + 4 + 4 + 4), ω5), ?_, fun m => ?_, ?_, rfl, ?_⟩
    · simp (disch := omega) only [f_X11_feed, f_X5_hasRoomForInts, b_X5_hasRoomForInts_18, kX.o1_0 hX, kX.o1_0 hX1, kX.o1_0 hX2, kX.o1_0 hX3, kX.o1_0 hX4, kX.o1_0 hX5, krcv (kX.y2 hX), g, c1, c2, c3, c4, c5, g5, ki_0, ki_1, ki_2, ki_3, ki_4, ki_5, ki_6, ki_7, ki_8, ki_9, ki_10, ki_11, ki_12, ki_13, ki_18, ki_20, ki_24, ki_32, ki_36, ki_45, ki_47, ki_48, ki_50, ki_57, ki_60, ki_63, ki_99, ki_100, ki_101, ki_120, ki_255, ki_468, ki_1000, ki_1024, ki_13849, ki_25173, ki_65535, ki_65536, ki_100000, ki_100001, ki_2147483647, ki_2147483648, kl_0, kl_1, kl_2, kl_9223372036854775808, ki_add, ki_sub, ki_mul, ki_neg, kl_add, kl_sub, kl_mul, kl_neg, ki_i2l, kl_l2i, ki_lt, ki_le, ki_eq, kcmp_eq, kcmp_lt, kcmp_le, kcmp_gt, kcmp_ge, Option.bind_some, Option.map_some, kbool0, kbool1, if_pos, if_neg, if_true, if_false, Int.neg_neg, Int.sub_zero, Int.add_zero, Int.zero_add, true_and, and_true, false_and, and_false, false_or, or_false, true_or, or_true, ne_eq, not_false_eq_true, not_true_eq_false]
    · show ν5 0 m = μ 0 m
      rw [kx.1 0 (by omega)]
    · simp (disch := omega) only [f_X12_feed, krcv (kM.y hM), gm5, e1, e2, e3, e4, e5, gm10, ki_0, ki_1, ki_2, ki_3, ki_4, ki_5, ki_6, ki_7, ki_8, ki_9, ki_10, ki_11, ki_12, ki_13, ki_18, ki_20, ki_24, ki_32, ki_36, ki_45, ki_47, ki_48, ki_50, ki_57, ki_60, ki_63, ki_99, ki_100, ki_101, ki_120, ki_255, ki_468, ki_1000, ki_1024, ki_13849, ki_25173, ki_65535, ki_65536, ki_100000, ki_100001, ki_2147483647, ki_2147483648, kl_0, kl_1, kl_2, kl_9223372036854775808, ki_add, ki_sub, ki_mul, ki_neg, kl_add, kl_sub, kl_mul, kl_neg, ki_i2l, kl_l2i, ki_lt, ki_le, ki_eq, kcmp_eq, kcmp_lt, kcmp_le, kcmp_gt, kcmp_ge, Option.bind_some, Option.map_some, kbool0, kbool1, if_pos, if_neg, if_true, if_false, Int.neg_neg, Int.sub_zero, Int.add_zero, Int.zero_add, true_and, and_true, false_and, and_false, false_or, or_false, true_or, or_true, ne_eq, not_false_eq_true, not_true_eq_false]
    · refine Inv.updP (μ' := ω5) h ((kx.mono (by omega) (by omega)).trans (fx.mono (by omega) (by omega))) (fun i pi i1 i2 i3 => ?_) (ox 10 (by omega)) (ox 25 (by omega)) ?_
      · unfold pers at pi
        rw [fx.1 i (by omega), kx.1 i (by omega)]
      · unfold relP
        rw [fx.gi (by omega), s5.1, m5.1]
        refine ⟨rfl, by omega, by omega, fun x a b => ?_⟩
        rw [fx.gi (by omega), s5.2 x a b, m5.2 x a b]
        generalize add4 (add4 (add4 (add4 (add4 (gi μ 96) (gi μ 2 1) v1) (gi μ 2 1 + 4) v2) (gi μ 2 1 + 4 + 4) v3) (gi μ 2 1 + 4 + 4 + 4) v4) (gi μ 2 1 + 4 + 4 + 4 + 4) v5 x = y
        have := @Int.bmod_lt y 256 (by omega)
        have := @Int.le_bmod y 256 (by omega)
        have := @Int.bmod_emod y 256
        omega
  · refine ⟨(ki (-1), μ), (ki (-1), μ), ?_, fun _ => rfl, ?_, rfl, h⟩
    · simp (disch := omega) only [f_X11_feed, f_X5_hasRoomForInts, b_X5_hasRoomForInts_18, kX.o1_0 hX, krcv (kX.y2 hX), g, ki_0, ki_1, ki_2, ki_3, ki_4, ki_5, ki_6, ki_7, ki_8, ki_9, ki_10, ki_11, ki_12, ki_13, ki_18, ki_20, ki_24, ki_32, ki_36, ki_45, ki_47, ki_48, ki_50, ki_57, ki_60, ki_63, ki_99, ki_100, ki_101, ki_120, ki_255, ki_468, ki_1000, ki_1024, ki_13849, ki_25173, ki_65535, ki_65536, ki_100000, ki_100001, ki_2147483647, ki_2147483648, kl_0, kl_1, kl_2, kl_9223372036854775808, ki_add, ki_sub, ki_mul, ki_neg, kl_add, kl_sub, kl_mul, kl_neg, ki_i2l, kl_l2i, ki_lt, ki_le, ki_eq, kcmp_eq, kcmp_lt, kcmp_le, kcmp_gt, kcmp_ge, Option.bind_some, Option.map_some, kbool0, kbool1, if_pos, if_neg, if_true, if_false, Int.neg_neg, Int.sub_zero, Int.add_zero, Int.zero_add, true_and, and_true, false_and, and_false, false_or, or_false, true_or, or_true, ne_eq, not_false_eq_true, not_true_eq_false]
    · simp (disch := omega) only [f_X12_feed, gm, ki_0, ki_1, ki_2, ki_3, ki_4, ki_5, ki_6, ki_7, ki_8, ki_9, ki_10, ki_11, ki_12, ki_13, ki_18, ki_20, ki_24, ki_32, ki_36, ki_45, ki_47, ki_48, ki_50, ki_57, ki_60, ki_63, ki_99, ki_100, ki_101, ki_120, ki_255, ki_468, ki_1000, ki_1024, ki_13849, ki_25173, ki_65535, ki_65536, ki_100000, ki_100001, ki_2147483647, ki_2147483648, kl_0, kl_1, kl_2, kl_9223372036854775808, ki_add, ki_sub, ki_mul, ki_neg, kl_add, kl_sub, kl_mul, kl_neg, ki_i2l, kl_l2i, ki_lt, ki_le, ki_eq, kcmp_eq, kcmp_lt, kcmp_le, kcmp_gt, kcmp_ge, Option.bind_some, Option.map_some, kbool0, kbool1, if_pos, if_neg, if_true, if_false, Int.neg_neg, Int.sub_zero, Int.add_zero, Int.zero_add, true_and, and_true, false_and, and_false, false_or, or_false, true_or, or_true, ne_eq, not_false_eq_true, not_true_eq_false]
