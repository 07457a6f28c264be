/-! RX12 put(IZII)I -/
def b_X12_put_66 (Y : jY) (v0 : Nat) (v1 : Int32) (v2 : Int32) (v3 : Int32) (v4 : Int32) (t0 : Int32) (μ : jM) : Option (Int32 × jM) :=
  (jrcv Y v0 12 (f_X12_puts Y v0 v1 v2 v3 v4 μ)).bind fun μ1 =>
  some (t0, μ1)
def f_X12_put (Y : jY) (v0 : Nat) (v1 : Int32) (v2 : Int32) (v3 : Int32) (v4 : Int32) (μ : jM) : Option (Int32 × jM) :=
  (f_X12_isDrawer Y v1 μ).bind fun r1 =>
  if r1.1 = 0 then
    some ((-99 : Int32), r1.2)
  else
    (jgO Y r1.2 v0 12 26).bind fun x2 =>
    (jaI Y r1.2 x2 20 v1).bind fun x3 =>
    if x3 = 0 then
      some ((-100 : Int32), r1.2)
    else
      (jrcv Y v0 12 (f_X12_isEntry Y v0 v1 v2 v3 r1.2)).bind fun r4 =>
      if r4.1 = 0 then
        some ((-99 : Int32), r4.2)
      else
        (f_X12_canBe Y v2 v4 r4.2).bind fun r5 =>
        if r5.1 = 0 then
          some ((-101 : Int32), r5.2)
        else
          if v2 = 0 then
            (jrcv Y v0 12 (f_X12_c Y v0 v1 v3 r5.2)).bind fun r6 =>
            b_X12_put_66 Y v0 v1 v2 v3 v4 r6.1 r6.2
          else
            (jrcv Y v0 12 (f_X12_a Y v0 v1 v3 r5.2)).bind fun r7 =>
            b_X12_put_66 Y v0 v1 v2 v3 v4 r7.1 r7.2
set_option maxRecDepth 10000 in
theorem t_X12_put_66 {X : jX} {l : Launch} {n : Nat} {Y : jY} (K : jOK X RX12 cX12_put 6 (some .int) 3) (hl : X.2.1 = l) {rr : Int32} {μr : jM} {v0 : Nat} {v1 : Int32} {v2 : Int32} {v3 : Int32} {v4 : Int32} {t0 : Int32} {μ : jM} {z : (Int32 × jM)} (H : b_X12_put_66 Y v0 v1 v2 v3 v4 t0 μ = some z) (D : z = (rr, μr)) : JW X (jEnd X n Y (some (.int rr)) μr 0 0) 0 0 n Y 66 [(0, .ref v0), (1, .int v1), (2, .int v2), (3, .int v3), (4, .int v4)] [.int t0] μ := by
  unfold b_X12_put_66 at H
  refine r_istore K [(5, .int _), (0, .ref _), (1, .int _), (2, .int _), (3, .int _), (4, .int _)] dX12_put_66 (by decide) rfl ?_
  refine r_aload_n K 1 dX12_put_68 rfl rfl ?_
  refine r_iload_n K 2 dX12_put_69 rfl rfl ?_
  refine r_iload_n K 3 dX12_put_70 rfl rfl ?_
  refine r_iload_n K 4 dX12_put_71 rfl rfl ?_
  refine r_iload K 5 dX12_put_72 rfl ?_
  refine w_callV K hl H (fun r h => c_X12_puts l h) mC_yX12_puts mM_RX12_271 mI_yX12_puts mS_yX12_puts mZ_RX12 vc12 (Nat.le_of_ble_eq_true rfl) (Nat.le_of_ble_eq_true rfl) np_yX12_puts rfl (Nat.le_of_ble_eq_true rfl) dX12_put_74 (fun μ1 H => ?_) ⟨Nat.zero_le _, Nat.zero_le _⟩
  refine r_iload K 0 dX12_put_77 rfl ?_
  cases H
  obtain ⟨rfl, rfl⟩ := jfin2 D
  exact r_iret K dX12_put_79
set_option maxRecDepth 10000 in
theorem t_X12_put_0 {X : jX} {l : Launch} {n : Nat} {Y : jY} (K : jOK X RX12 cX12_put 6 (some .int) 3) (hl : X.2.1 = l) {rr : Int32} {μr : jM} {v0 : Nat} {v1 : Int32} {v2 : Int32} {v3 : Int32} {v4 : Int32} {μ : jM} {z : (Int32 × jM)} (H : f_X12_put Y v0 v1 v2 v3 v4 μ = some z) (D : z = (rr, μr)) : JW X (jEnd X n Y (some (.int rr)) μr 0 0) 0 0 n Y 0 [(0, .ref v0), (1, .int v1), (2, .int v2), (3, .int v3), (4, .int v4)] [] μ := by
  unfold f_X12_put at H
  refine r_iload_n K 1 dX12_put_0 rfl rfl ?_
  refine w_callS K hl H (fun r h => c_X12_isDrawer l h) mC_yX12_isDrawer mM_RX12_253 mT_yX12_isDrawer mZ_RX12 (Nat.le_of_ble_eq_true rfl) (Nat.le_of_ble_eq_true rfl) np_yX12_isDrawer rfl (Nat.le_of_ble_eq_true rfl) dX12_put_1 (fun r1 H => ?_) ⟨Nat.zero_le _, Nat.zero_le _⟩
  refine w_if_ne K 10 dX12_put_4 (by decide) H (fun _ H => ?_) (fun _ H => ?_)
  · refine r_aload_n K 0 dX12_put_10 rfl rfl ?_
    refine w_getO K vc12 inX12 26 (by decide) mF_RX12_48 dX12_put_11 H (fun x2 H => ?_)
    refine r_iload_n K 1 dX12_put_14 rfl rfl ?_
    refine w_iald K dX12_put_15 H (fun x3 H => ?_)
    refine w_if_ne K 22 dX12_put_16 (by decide) H (fun _ H => ?_) (fun _ H => ?_)
    · refine r_aload_n K 0 dX12_put_22 rfl rfl ?_
      refine r_iload_n K 1 dX12_put_23 rfl rfl ?_
      refine r_iload_n K 2 dX12_put_24 rfl rfl ?_
      refine r_iload_n K 3 dX12_put_25 rfl rfl ?_
      refine w_callV K hl H (fun r h => c_X12_isEntry l h) mC_yX12_isEntry mM_RX12_263 mI_yX12_isEntry mS_yX12_isEntry mZ_RX12 vc12 (Nat.le_of_ble_eq_true rfl) (Nat.le_of_ble_eq_true rfl) np_yX12_isEntry rfl (Nat.le_of_ble_eq_true rfl) dX12_put_26 (fun r4 H => ?_) ⟨Nat.zero_le _, Nat.zero_le _⟩
      refine w_if_ne K 35 dX12_put_29 (by decide) H (fun _ H => ?_) (fun _ H => ?_)
      · refine r_iload_n K 2 dX12_put_35 rfl rfl ?_
        refine r_iload K 4 dX12_put_36 rfl ?_
        refine w_callS K hl H (fun r h => c_X12_canBe l h) mC_yX12_canBe mM_RX12_267 mT_yX12_canBe mZ_RX12 (Nat.le_of_ble_eq_true rfl) (Nat.le_of_ble_eq_true rfl) np_yX12_canBe rfl (Nat.le_of_ble_eq_true rfl) dX12_put_38 (fun r5 H => ?_) ⟨Nat.zero_le _, Nat.zero_le _⟩
        refine w_if_ne K 47 dX12_put_41 (by decide) H (fun _ H => ?_) (fun _ H => ?_)
        · refine r_iload_n K 2 dX12_put_47 rfl rfl ?_
          refine w_if_eq K 60 dX12_put_48 (by decide) H (fun _ H => ?_) (fun _ H => ?_)
          · refine r_aload_n K 0 dX12_put_60 rfl rfl ?_
            refine r_iload_n K 1 dX12_put_61 rfl rfl ?_
            refine r_iload_n K 3 dX12_put_62 rfl rfl ?_
            refine w_callV K hl H (fun r h => c_X12_c l h) mC_yX12_c mM_RX12_260 mI_yX12_c mS_yX12_c mZ_RX12 vc12 (Nat.le_of_ble_eq_true rfl) (Nat.le_of_ble_eq_true rfl) np_yX12_c rfl (Nat.le_of_ble_eq_true rfl) dX12_put_63 (fun r6 H => ?_) ⟨Nat.zero_le _, Nat.zero_le _⟩
            exact r_sub [0, 1, 2, 3, 4] rfl (t_X12_put_66 K hl H D)
          · refine r_aload_n K 0 dX12_put_51 rfl rfl ?_
            refine r_iload_n K 1 dX12_put_52 rfl rfl ?_
            refine r_iload_n K 3 dX12_put_53 rfl rfl ?_
            refine w_callV K hl H (fun r h => c_X12_a l h) mC_yX12_a mM_RX12_256 mI_yX12_a mS_yX12_a mZ_RX12 vc12 (Nat.le_of_ble_eq_true rfl) (Nat.le_of_ble_eq_true rfl) np_yX12_a rfl (Nat.le_of_ble_eq_true rfl) dX12_put_54 (fun r7 H => ?_) ⟨Nat.zero_le _, Nat.zero_le _⟩
            refine r_goto K 66 dX12_put_57 (by decide) ?_
            exact r_sub [0, 1, 2, 3, 4] rfl (t_X12_put_66 K hl H D)
        · refine r_bipush (v := -101) K dX12_put_44 (by decide) ?_
          cases H
          obtain ⟨rfl, rfl⟩ := jfin2 D
          exact r_iret K dX12_put_46
      · refine r_bipush (v := -99) K dX12_put_32 (by decide) ?_
        cases H
        obtain ⟨rfl, rfl⟩ := jfin2 D
        exact r_iret K dX12_put_34
    · refine r_bipush (v := -100) K dX12_put_19 (by decide) ?_
      cases H
      obtain ⟨rfl, rfl⟩ := jfin2 D
      exact r_iret K dX12_put_21
  · refine r_bipush (v := -99) K dX12_put_7 (by decide) ?_
    cases H
    obtain ⟨rfl, rfl⟩ := jfin2 D
    exact r_iret K dX12_put_9
theorem c_X12_put (l : Launch) {n : Nat} {Y : jY} {v0 : Nat} {v1 : Int32} {v2 : Int32} {v3 : Int32} {v4 : Int32} {μ : jM} {z : Int32 × jM} (H : f_X12_put Y v0 v1 v2 v3 v4 μ = some z) : jC l yX12_put cX12_put 6 (some .int) 3 0 0 [.ref v0, .int v1, .int v2, .int v3, .int v4] n Y μ n Y (some (.int z.1)) z.2 := by
  refine jC_of (by decide +kernel) (Nat.le_of_ble_eq_true rfl) (fun X hl K _ _ _ => ?_)
  obtain ⟨rr, μr⟩ := z
  exact t_X12_put_0 K hl H rfl
/-! RX12 powers(II)J -/
def b_X12_powers_26 (Y : jY) (μ : jM) : Option (Int64 × jM) :=
  some ((-9223372036854775808 : Int64), μ)
def b_X12_powers_35 (Y : jY) (v0 : Nat) (v1 : Int32) (v2 : Int32) (v3 : Int64) (v5 : Int32) (μ : jM) : Option ((Int64 × Int32 × jM) ⊕ (Int64 × jM)) :=
  (jgO Y μ v0 12 26).bind fun x1 =>
  (jaI Y μ x1 20 v1).bind fun x2 =>
  if x2 ≤ v5 then
    some (.inr (v3, μ))
  else
    (jrcv Y v0 12 (f_X12_goes Y v0 v1 v2 v5 μ)).bind fun μ3 =>
    (jgO Y μ3 v0 12 37).bind fun x4 =>
    (jaL Y μ3 x4 21 v5).bind fun x5 =>
    some (.inl ((v3 + x5), (v5 + (1 : Int32)), μ3))
def f_X12_powers (Y : jY) (v0 : Nat) (v1 : Int32) (v2 : Int32) (μ : jM) : Option (Int64 × jM) :=
  (f_X12_isDrawer Y v1 μ).bind fun r1 =>
  if r1.1 = 0 then
    b_X12_powers_26 Y r1.2
  else
    (jgO Y r1.2 v0 12 26).bind fun x2 =>
    (jaI Y r1.2 x2 20 v1).bind fun x3 =>
    if x3 = 0 then
      b_X12_powers_26 Y r1.2
    else
      (f_X12_in Y v2 ((0 : Int32)) ((8 : Int32)) r1.2).bind fun r4 =>
      if r4.1 = 0 then
        b_X12_powers_26 Y r4.2
      else
        jit jF (fun (s : Int64 × Int32 × jM) => b_X12_powers_35 Y v0 v1 v2 s.1 s.2.1 s.2.2) ((0 : Int64), (0 : Int32), r4.2)
set_option maxRecDepth 10000 in
theorem t_X12_powers_26 {X : jX} {l : Launch} {n : Nat} {Y : jY} (K : jOK X RX12 cX12_powers 6 (some .long) 3) (hl : X.2.1 = l) {rr : Int64} {μr : jM} {μ : jM} {z : (Int64 × jM)} (H : b_X12_powers_26 Y μ = some z) (D : z = (rr, μr)) : JW X (jEnd X n Y (some (.long rr)) μr 0 0) 0 0 n Y 26 [] [] μ := by
  unfold b_X12_powers_26 at H
  refine r_ldc2 K (-9223372036854775808) mc_RX12_156 dX12_powers_26 ?_
  cases H
  obtain ⟨rfl, rfl⟩ := jfin2 D
  exact r_lret K dX12_powers_29
set_option maxRecDepth 10000 in
theorem t_X12_powers_35 {X : jX} {l : Launch} {n : Nat} {Y : jY} (K : jOK X RX12 cX12_powers 6 (some .long) 3) (hl : X.2.1 = l) {rr : Int64} {μr : jM} {v0 : Nat} {v1 : Int32} {v2 : Int32} {v3 : Int64} {v5 : Int32} {μ : jM} {z : ((Int64 × Int32 × jM) ⊕ (Int64 × jM))} (H : b_X12_powers_35 Y v0 v1 v2 v3 v5 μ = some z) (D : Sum.elim (fun (s : Int64 × Int32 × jM) => JW X (jEnd X n Y (some (.long rr)) μr 0 0) 0 0 n Y 35 [(0, .ref v0), (1, .int v1), (2, .int v2), (3, .long s.1), (5, .int s.2.1)] [] s.2.2) (fun r => r = (rr, μr)) z) : JW X (jEnd X n Y (some (.long rr)) μr 0 0) 0 0 n Y 35 [(0, .ref v0), (1, .int v1), (2, .int v2), (3, .long v3), (5, .int v5)] [] μ := by
  unfold b_X12_powers_35 at H
  refine r_iload K 4 dX12_powers_35 rfl ?_
  refine r_aload_n K 0 dX12_powers_37 rfl rfl ?_
  refine w_getO K vc12 inX12 26 (by decide) mF_RX12_48 dX12_powers_38 H (fun x1 H => ?_)
  refine r_iload_n K 1 dX12_powers_41 rfl rfl ?_
  refine w_iald K dX12_powers_42 H (fun x2 H => ?_)
  refine w_icmp_ge K 70 dX12_powers_43 (by decide) H (fun _ H => ?_) (fun _ H => ?_)
  · refine r_lload_n K 3 dX12_powers_70 rfl rfl ?_
    cases H
    simp only [Sum.elim_inr] at D
    obtain ⟨rfl, rfl⟩ := jfin2 D
    exact r_lret K dX12_powers_71
  · refine r_aload_n K 0 dX12_powers_46 rfl rfl ?_
    refine r_iload_n K 1 dX12_powers_47 rfl rfl ?_
    refine r_iload_n K 2 dX12_powers_48 rfl rfl ?_
    refine r_iload K 4 dX12_powers_49 rfl ?_
    refine w_callV K hl H (fun r h => c_X12_goes l h) mC_yX12_goes mM_RX12_304 mI_yX12_goes mS_yX12_goes mZ_RX12 vc12 (Nat.le_of_ble_eq_true rfl) (Nat.le_of_ble_eq_true rfl) np_yX12_goes rfl (Nat.le_of_ble_eq_true rfl) dX12_powers_51 (fun μ3 H => ?_) ⟨Nat.zero_le _, Nat.zero_le _⟩
    refine r_lload_n K 3 dX12_powers_54 rfl rfl ?_
    refine r_aload_n K 0 dX12_powers_55 rfl rfl ?_
    refine w_getO K vc12 inX12 37 (by decide) mF_RX12_81 dX12_powers_56 H (fun x4 H => ?_)
    refine r_iload K 4 dX12_powers_59 rfl ?_
    refine w_lald K dX12_powers_61 H (fun x5 H => ?_)
    refine r_ladd K dX12_powers_62 ?_
    refine r_lstore_n K [(3, .long _), (0, .ref _), (1, .int _), (2, .int _), (5, .int _)] dX12_powers_63 rfl (by decide) rfl ?_
    refine r_iinc K 4 [(5, .int _), (3, .long _), (0, .ref _), (1, .int _), (2, .int _)] (v := _ + (1 : Int32)) dX12_powers_64 rfl rfl (by decide) rfl ?_
    refine r_goto K 35 dX12_powers_67 (by decide) ?_
    cases H
    exact r_sub [2, 3, 4, 1, 0] rfl D
set_option maxRecDepth 10000 in
theorem l_X12_powers_35 {X : jX} {l : Launch} {n : Nat} {Y : jY} (K : jOK X RX12 cX12_powers 6 (some .long) 3) (hl : X.2.1 = l) {rr : Int64} {μr : jM} {v0 : Nat} {v1 : Int32} {v2 : Int32}  {s0 : Int64 × Int32 × jM} {z : (Int64 × jM)} (H : jit jF (fun (s : Int64 × Int32 × jM) => b_X12_powers_35 Y v0 v1 v2 s.1 s.2.1 s.2.2) s0 = some z) (D : z = (rr, μr)) : JW X (jEnd X n Y (some (.long rr)) μr 0 0) 0 0 n Y 35 [(0, .ref v0), (1, .int v1), (2, .int v2), (3, .long s0.1), (5, .int s0.2.1)] [] s0.2.2 :=
  jit_ind (P := fun (s : Int64 × Int32 × jM) => JW X (jEnd X n Y (some (.long rr)) μr 0 0) 0 0 n Y 35 [(0, .ref v0), (1, .int v1), (2, .int v2), (3, .long s.1), (5, .int s.2.1)] [] s.2.2) (D := fun r => r = (rr, μr)) (fun s z Hs Ds => t_X12_powers_35 K hl Hs Ds) jF s0 z H D
set_option maxRecDepth 10000 in
theorem t_X12_powers_0 {X : jX} {l : Launch} {n : Nat} {Y : jY} (K : jOK X RX12 cX12_powers 6 (some .long) 3) (hl : X.2.1 = l) {rr : Int64} {μr : jM} {v0 : Nat} {v1 : Int32} {v2 : Int32} {μ : jM} {z : (Int64 × jM)} (H : f_X12_powers Y v0 v1 v2 μ = some z) (D : z = (rr, μr)) : JW X (jEnd X n Y (some (.long rr)) μr 0 0) 0 0 n Y 0 [(0, .ref v0), (1, .int v1), (2, .int v2)] [] μ := by
  unfold f_X12_powers at H
  refine r_iload_n K 1 dX12_powers_0 rfl rfl ?_
  refine w_callS K hl H (fun r h => c_X12_isDrawer l h) mC_yX12_isDrawer mM_RX12_253 mT_yX12_isDrawer mZ_RX12 (Nat.le_of_ble_eq_true rfl) (Nat.le_of_ble_eq_true rfl) np_yX12_isDrawer rfl (Nat.le_of_ble_eq_true rfl) dX12_powers_1 (fun r1 H => ?_) ⟨Nat.zero_le _, Nat.zero_le _⟩
  refine w_if_eq K 26 dX12_powers_4 (by decide) H (fun _ H => ?_) (fun _ H => ?_)
  · exact r_sub [] rfl (t_X12_powers_26 K hl H D)
  · refine r_aload_n K 0 dX12_powers_7 rfl rfl ?_
    refine w_getO K vc12 inX12 26 (by decide) mF_RX12_48 dX12_powers_8 H (fun x2 H => ?_)
    refine r_iload_n K 1 dX12_powers_11 rfl rfl ?_
    refine w_iald K dX12_powers_12 H (fun x3 H => ?_)
    refine w_if_eq K 26 dX12_powers_13 (by decide) H (fun _ H => ?_) (fun _ H => ?_)
    · exact r_sub [] rfl (t_X12_powers_26 K hl H D)
    · refine r_iload_n K 2 dX12_powers_16 rfl rfl ?_
      refine r_iconst (v := 0) K dX12_powers_17 (by decide) ?_
      refine r_bipush (v := 8) K dX12_powers_18 (by decide) ?_
      refine w_callS K hl H (fun r h => c_X12_in l h) mC_yX12_in mM_RX12_134 mT_yX12_in mZ_RX12 (Nat.le_of_ble_eq_true rfl) (Nat.le_of_ble_eq_true rfl) np_yX12_in rfl (Nat.le_of_ble_eq_true rfl) dX12_powers_20 (fun r4 H => ?_) ⟨Nat.zero_le _, Nat.zero_le _⟩
      refine w_if_ne K 30 dX12_powers_23 (by decide) H (fun _ H => ?_) (fun _ H => ?_)
      · refine r_lconst (v := 0) K dX12_powers_30 (by decide) ?_
        refine r_lstore_n K [(3, .long _), (0, .ref _), (1, .int _), (2, .int _)] dX12_powers_31 rfl (by decide) rfl ?_
        refine r_iconst (v := 0) K dX12_powers_32 (by decide) ?_
        refine r_istore K [(5, .int _), (3, .long _), (0, .ref _), (1, .int _), (2, .int _)] dX12_powers_33 (by decide) rfl ?_
        exact r_sub [2, 3, 4, 1, 0] rfl (l_X12_powers_35 K hl H D)
      · exact r_sub [] rfl (t_X12_powers_26 K hl H D)
theorem c_X12_powers (l : Launch) {n : Nat} {Y : jY} {v0 : Nat} {v1 : Int32} {v2 : Int32} {μ : jM} {z : Int64 × jM} (H : f_X12_powers Y v0 v1 v2 μ = some z) : jC l yX12_powers cX12_powers 6 (some .long) 3 0 0 [.ref v0, .int v1, .int v2] n Y μ n Y (some (.long z.1)) z.2 := by
  refine jC_of (by decide +kernel) (Nat.le_of_ble_eq_true rfl) (fun X hl K _ _ _ => ?_)
  obtain ⟨rr, μr⟩ := z
  exact t_X12_powers_0 K hl H rfl
/-! RX12 fraction(III)J -/
def b_X12_fraction_39 (Y : jY) (μ : jM) : Option (Int64 × jM) :=
  some ((-9223372036854775808 : Int64), μ)
def b_X12_fraction_50 (Y : jY) (v0 : Nat) (v1 : Int32) (v2 : Int32) (v3 : Int32) (v4 : Int32) (μ : jM) : Option ((Int32 × jM) ⊕ (Int64 × jM)) :=
  if v1 ≤ v4 then
    (jrcv Y v0 12 (f_X12_laterOf Y v0 v1 ((v2.toInt64)) μ)).bind fun r1 =>
    (jrcv Y v0 12 (f_X12_valueOf Y v0 v1 ((v2.toInt64)) r1.2)).bind fun r2 =>
    (jrcv Y v0 12 (f_X12_sets Y v0 r1.1 r2.1 r2.2)).bind fun μ3 =>
    (jrcv Y v0 12 (f_X12_told Y v0 v3 μ3)).bind fun r4 =>
    some (.inr (r4.1, r4.2))
  else
    (jrcv Y v0 12 (f_X12_isNothing Y v0 v1 v4 ((v2.toInt64)) μ)).bind fun r5 =>
    if r5.1 = 0 then
      some (.inl ((v4 + (1 : Int32)), r5.2))
    else
      some (.inr ((-2 : Int64), r5.2))
def f_X12_fraction (Y : jY) (v0 : Nat) (v1 : Int32) (v2 : Int32) (v3 : Int32) (μ : jM) : Option (Int64 × jM) :=
  (jgI Y μ v0 12 10).bind fun x1 =>
  if x1 = 0 then
    b_X12_fraction_39 Y μ
  else
    (jgI Y μ v0 12 10).bind fun x2 =>
    (f_X12_in Y v1 ((1 : Int32)) x2 μ).bind fun r3 =>
    if r3.1 = 0 then
      b_X12_fraction_39 Y r3.2
    else
      (f_X12_in Y v2 ((-20 : Int32)) ((20 : Int32)) r3.2).bind fun r4 =>
      if r4.1 = 0 then
        b_X12_fraction_39 Y r4.2
      else
        (f_X12_in Y v3 ((0 : Int32)) ((1 : Int32)) r4.2).bind fun r5 =>
        if r5.1 = 0 then
          b_X12_fraction_39 Y r5.2
        else
          (jrcv Y v0 12 (f_X12_laysTones Y v0 r5.2)).bind fun μ6 =>
          jit jF (fun (s : Int32 × jM) => b_X12_fraction_50 Y v0 v1 v2 v3 s.1 s.2) ((0 : Int32), μ6)
set_option maxRecDepth 10000 in
theorem t_X12_fraction_39 {X : jX} {l : Launch} {n : Nat} {Y : jY} (K : jOK X RX12 cX12_fraction 5 (some .long) 9) (hl : X.2.1 = l) {rr : Int64} {μr : jM} {μ : jM} {z : (Int64 × jM)} (H : b_X12_fraction_39 Y μ = some z) (D : z = (rr, μr)) : JW X (jEnd X n Y (some (.long rr)) μr 0 0) 0 0 n Y 39 [] [] μ := by
  unfold b_X12_fraction_39 at H
  refine r_ldc2 K (-9223372036854775808) mc_RX12_156 dX12_fraction_39 ?_
  cases H
  obtain ⟨rfl, rfl⟩ := jfin2 D
  exact r_lret K dX12_fraction_42
set_option maxRecDepth 10000 in
theorem t_X12_fraction_50 {X : jX} {l : Launch} {n : Nat} {Y : jY} (K : jOK X RX12 cX12_fraction 5 (some .long) 9) (hl : X.2.1 = l) {rr : Int64} {μr : jM} {v0 : Nat} {v1 : Int32} {v2 : Int32} {v3 : Int32} {v4 : Int32} {μ : jM} {z : ((Int32 × jM) ⊕ (Int64 × jM))} (H : b_X12_fraction_50 Y v0 v1 v2 v3 v4 μ = some z) (D : Sum.elim (fun (s : Int32 × jM) => JW X (jEnd X n Y (some (.long rr)) μr 0 0) 0 0 n Y 50 [(0, .ref v0), (1, .int v1), (2, .int v2), (3, .int v3), (4, .int s.1)] [] s.2) (fun r => r = (rr, μr)) z) : JW X (jEnd X n Y (some (.long rr)) μr 0 0) 0 0 n Y 50 [(0, .ref v0), (1, .int v1), (2, .int v2), (3, .int v3), (4, .int v4)] [] μ := by
  unfold b_X12_fraction_50 at H
  refine r_iload K 4 dX12_fraction_50 rfl ?_
  refine r_iload_n K 1 dX12_fraction_52 rfl rfl ?_
  refine w_icmp_ge K 78 dX12_fraction_53 (by decide) H (fun _ H => ?_) (fun _ H => ?_)
  · refine r_aload_n K 0 dX12_fraction_78 rfl rfl ?_
    refine r_aload_n K 0 dX12_fraction_79 rfl rfl ?_
    refine r_iload_n K 1 dX12_fraction_80 rfl rfl ?_
    refine r_iload_n K 2 dX12_fraction_81 rfl rfl ?_
    refine r_i2l K dX12_fraction_82 ?_
    refine w_callV K hl H (fun r h => c_X12_laterOf l h) mC_yX12_laterOf mM_RX12_225 mI_yX12_laterOf mS_yX12_laterOf mZ_RX12 vc12 (Nat.le_of_ble_eq_true rfl) (Nat.le_of_ble_eq_true rfl) np_yX12_laterOf rfl (Nat.le_of_ble_eq_true rfl) dX12_fraction_83 (fun r1 H => ?_) ⟨Nat.zero_le _, Nat.zero_le _⟩
    refine r_aload_n K 0 dX12_fraction_86 rfl rfl ?_
    refine r_iload_n K 1 dX12_fraction_87 rfl rfl ?_
    refine r_iload_n K 2 dX12_fraction_88 rfl rfl ?_
    refine r_i2l K dX12_fraction_89 ?_
    refine w_callV K hl H (fun r h => c_X12_valueOf l h) mC_yX12_valueOf mM_RX12_221 mI_yX12_valueOf mS_yX12_valueOf mZ_RX12 vc12 (Nat.le_of_ble_eq_true rfl) (Nat.le_of_ble_eq_true rfl) np_yX12_valueOf rfl (Nat.le_of_ble_eq_true rfl) dX12_fraction_90 (fun r2 H => ?_) ⟨Nat.zero_le _, Nat.zero_le _⟩
    refine w_callV K hl H (fun r h => c_X12_sets l h) mC_yX12_sets mM_RX12_191 mI_yX12_sets mS_yX12_sets mZ_RX12 vc12 (Nat.le_of_ble_eq_true rfl) (Nat.le_of_ble_eq_true rfl) np_yX12_sets rfl (Nat.le_of_ble_eq_true rfl) dX12_fraction_93 (fun μ3 H => ?_) ⟨Nat.zero_le _, Nat.zero_le _⟩
    refine r_aload_n K 0 dX12_fraction_96 rfl rfl ?_
    refine r_iload_n K 3 dX12_fraction_97 rfl rfl ?_
    refine w_callV K hl H (fun r h => c_X12_told l h) mC_yX12_told mM_RX12_195 mI_yX12_told mS_yX12_told mZ_RX12 vc12 (Nat.le_of_ble_eq_true rfl) (Nat.le_of_ble_eq_true rfl) np_yX12_told rfl (Nat.le_of_ble_eq_true rfl) dX12_fraction_98 (fun r4 H => ?_) ⟨Nat.zero_le _, Nat.zero_le _⟩
    cases H
    simp only [Sum.elim_inr] at D
    obtain ⟨rfl, rfl⟩ := jfin2 D
    exact r_lret K dX12_fraction_101
  · refine r_aload_n K 0 dX12_fraction_56 rfl rfl ?_
    refine r_iload_n K 1 dX12_fraction_57 rfl rfl ?_
    refine r_iload K 4 dX12_fraction_58 rfl ?_
    refine r_iload_n K 2 dX12_fraction_60 rfl rfl ?_
    refine r_i2l K dX12_fraction_61 ?_
    refine w_callV K hl H (fun r h => c_X12_isNothing l h) mC_yX12_isNothing mM_RX12_228 mI_yX12_isNothing mS_yX12_isNothing mZ_RX12 vc12 (Nat.le_of_ble_eq_true rfl) (Nat.le_of_ble_eq_true rfl) np_yX12_isNothing rfl (Nat.le_of_ble_eq_true rfl) dX12_fraction_62 (fun r5 H => ?_) ⟨Nat.zero_le _, Nat.zero_le _⟩
    refine w_if_eq K 72 dX12_fraction_65 (by decide) H (fun _ H => ?_) (fun _ H => ?_)
    · refine r_iinc K 4 [(4, .int _), (0, .ref _), (1, .int _), (2, .int _), (3, .int _)] (v := _ + (1 : Int32)) dX12_fraction_72 rfl rfl (by decide) rfl ?_
      refine r_goto K 50 dX12_fraction_75 (by decide) ?_
      cases H
      exact r_sub [1, 2, 3, 4, 0] rfl D
    · refine r_ldc2 K (-2) mc_RX12_232 dX12_fraction_68 ?_
      cases H
      simp only [Sum.elim_inr] at D
      obtain ⟨rfl, rfl⟩ := jfin2 D
      exact r_lret K dX12_fraction_71
set_option maxRecDepth 10000 in
theorem l_X12_fraction_50 {X : jX} {l : Launch} {n : Nat} {Y : jY} (K : jOK X RX12 cX12_fraction 5 (some .long) 9) (hl : X.2.1 = l) {rr : Int64} {μr : jM} {v0 : Nat} {v1 : Int32} {v2 : Int32} {v3 : Int32}  {s0 : Int32 × jM} {z : (Int64 × jM)} (H : jit jF (fun (s : Int32 × jM) => b_X12_fraction_50 Y v0 v1 v2 v3 s.1 s.2) s0 = some z) (D : z = (rr, μr)) : JW X (jEnd X n Y (some (.long rr)) μr 0 0) 0 0 n Y 50 [(0, .ref v0), (1, .int v1), (2, .int v2), (3, .int v3), (4, .int s0.1)] [] s0.2 :=
  jit_ind (P := fun (s : Int32 × jM) => JW X (jEnd X n Y (some (.long rr)) μr 0 0) 0 0 n Y 50 [(0, .ref v0), (1, .int v1), (2, .int v2), (3, .int v3), (4, .int s.1)] [] s.2) (D := fun r => r = (rr, μr)) (fun s z Hs Ds => t_X12_fraction_50 K hl Hs Ds) jF s0 z H D
set_option maxRecDepth 10000 in
theorem t_X12_fraction_0 {X : jX} {l : Launch} {n : Nat} {Y : jY} (K : jOK X RX12 cX12_fraction 5 (some .long) 9) (hl : X.2.1 = l) {rr : Int64} {μr : jM} {v0 : Nat} {v1 : Int32} {v2 : Int32} {v3 : Int32} {μ : jM} {z : (Int64 × jM)} (H : f_X12_fraction Y v0 v1 v2 v3 μ = some z) (D : z = (rr, μr)) : JW X (jEnd X n Y (some (.long rr)) μr 0 0) 0 0 n Y 0 [(0, .ref v0), (1, .int v1), (2, .int v2), (3, .int v3)] [] μ := by
  unfold f_X12_fraction at H
  refine r_aload_n K 0 dX12_fraction_0 rfl rfl ?_
  refine w_getI K vc12 inX12 10 (by decide) mF_RX12_145 dX12_fraction_1 H (fun x1 H => ?_)
  refine w_if_eq K 39 dX12_fraction_4 (by decide) H (fun _ H => ?_) (fun _ H => ?_)
  · exact r_sub [] rfl (t_X12_fraction_39 K hl H D)
  · refine r_iload_n K 1 dX12_fraction_7 rfl rfl ?_
    refine r_iconst (v := 1) K dX12_fraction_8 (by decide) ?_
    refine r_aload_n K 0 dX12_fraction_9 rfl rfl ?_
    refine w_getI K vc12 inX12 10 (by decide) mF_RX12_145 dX12_fraction_10 H (fun x2 H => ?_)
    refine w_callS K hl H (fun r h => c_X12_in l h) mC_yX12_in mM_RX12_134 mT_yX12_in mZ_RX12 (Nat.le_of_ble_eq_true rfl) (Nat.le_of_ble_eq_true rfl) np_yX12_in rfl (Nat.le_of_ble_eq_true rfl) dX12_fraction_13 (fun r3 H => ?_) ⟨Nat.zero_le _, Nat.zero_le _⟩
    refine w_if_eq K 39 dX12_fraction_16 (by decide) H (fun _ H => ?_) (fun _ H => ?_)
    · exact r_sub [] rfl (t_X12_fraction_39 K hl H D)
    · refine r_iload_n K 2 dX12_fraction_19 rfl rfl ?_
      refine r_bipush (v := -20) K dX12_fraction_20 (by decide) ?_
      refine r_bipush (v := 20) K dX12_fraction_22 (by decide) ?_
      refine w_callS K hl H (fun r h => c_X12_in l h) mC_yX12_in mM_RX12_134 mT_yX12_in mZ_RX12 (Nat.le_of_ble_eq_true rfl) (Nat.le_of_ble_eq_true rfl) np_yX12_in rfl (Nat.le_of_ble_eq_true rfl) dX12_fraction_24 (fun r4 H => ?_) ⟨Nat.zero_le _, Nat.zero_le _⟩
      refine w_if_eq K 39 dX12_fraction_27 (by decide) H (fun _ H => ?_) (fun _ H => ?_)
      · exact r_sub [] rfl (t_X12_fraction_39 K hl H D)
      · refine r_iload_n K 3 dX12_fraction_30 rfl rfl ?_
        refine r_iconst (v := 0) K dX12_fraction_31 (by decide) ?_
        refine r_iconst (v := 1) K dX12_fraction_32 (by decide) ?_
        refine w_callS K hl H (fun r h => c_X12_in l h) mC_yX12_in mM_RX12_134 mT_yX12_in mZ_RX12 (Nat.le_of_ble_eq_true rfl) (Nat.le_of_ble_eq_true rfl) np_yX12_in rfl (Nat.le_of_ble_eq_true rfl) dX12_fraction_33 (fun r5 H => ?_) ⟨Nat.zero_le _, Nat.zero_le _⟩
        refine w_if_ne K 43 dX12_fraction_36 (by decide) H (fun _ H => ?_) (fun _ H => ?_)
        · refine r_aload_n K 0 dX12_fraction_43 rfl rfl ?_
          refine w_callV K hl H (fun r h => c_X12_laysTones l h) mC_yX12_laysTones mM_RX12_158 mI_yX12_laysTones mS_yX12_laysTones mZ_RX12 vc12 (Nat.le_of_ble_eq_true rfl) (Nat.le_of_ble_eq_true rfl) np_yX12_laysTones rfl (Nat.le_of_ble_eq_true rfl) dX12_fraction_44 (fun μ6 H => ?_) ⟨Nat.zero_le _, Nat.zero_le _⟩
          refine r_iconst (v := 0) K dX12_fraction_47 (by decide) ?_
          refine r_istore K [(4, .int _), (0, .ref _), (1, .int _), (2, .int _), (3, .int _)] dX12_fraction_48 (by decide) rfl ?_
          exact r_sub [1, 2, 3, 4, 0] rfl (l_X12_fraction_50 K hl H D)
        · exact r_sub [] rfl (t_X12_fraction_39 K hl H D)
theorem c_X12_fraction (l : Launch) {n : Nat} {Y : jY} {v0 : Nat} {v1 : Int32} {v2 : Int32} {v3 : Int32} {μ : jM} {z : Int64 × jM} (H : f_X12_fraction Y v0 v1 v2 v3 μ = some z) : jC l yX12_fraction cX12_fraction 5 (some .long) 9 0 0 [.ref v0, .int v1, .int v2, .int v3] n Y μ n Y (some (.long z.1)) z.2 := by
  refine jC_of (by decide +kernel) (Nat.le_of_ble_eq_true rfl) (fun X hl K _ _ _ => ?_)
  obtain ⟨rr, μr⟩ := z
  exact t_X12_fraction_0 K hl H rfl
/-! RX12 read(II)I -/
def b_X12_read_12 (Y : jY) (μ : jM) : Option (Int32 × jM) :=
  some ((-1 : Int32), μ)
def b_X12_read_149 (Y : jY) (t0 : Int32) (μ : jM) : Option (Int32 × jM) :=
  some (t0, μ)
def b_X12_read_104 (Y : jY) (v0 : Nat) (v1 : Int32) (v2 : Int32) (v3 : Int32) (μ : jM) : Option ((Int32 × jM) ⊕ (Int32 × jM)) :=
  (jrcv Y v0 12 (f_X12_c Y v0 v1 v3 μ)).bind fun r1 =>
  (jrcv Y v0 12 (f_X12_writesNumber Y v0 r1.1 r1.2)).bind fun μ2 =>
  some (.inl ((v3 + (1 : Int32)), μ2))
def b_X12_read_82 (Y : jY) (v0 : Nat) (v1 : Int32) (v2 : Int32) (v3 : Int32) (μ : jM) : Option ((Int32 × jM) ⊕ (Int32 × jM)) :=
  (jgO Y μ v0 12 26).bind fun x1 =>
  (jaI Y μ x1 20 v1).bind fun x2 =>
  if ((x2 - ((1 : Int32)))) ≤ v3 then
    if v2 = ((-1 : Int32)) then
      (jgI Y μ v0 12 22).bind fun x5 =>
      (b_X12_read_149 Y x5 μ).map (fun r => (.inr r))
    else
      (jgI Y μ v0 12 22).bind fun x3 =>
      if x3 ≤ v2 then
        (b_X12_read_149 Y (-3 : Int32) μ).map (fun r => (.inr r))
      else
        (jgI Y μ v0 12 24).bind fun x4 =>
        (b_X12_read_149 Y x4 μ).map (fun r => (.inr r))
  else
    if v3 ≤ 0 then
      b_X12_read_104 Y v0 v1 v2 v3 μ
    else
      (jrcv Y v0 12 (f_X12_writes Y v0 ((32 : Int32)) μ)).bind fun μ6 =>
      b_X12_read_104 Y v0 v1 v2 v3 μ6
def b_X12_read_58 (Y : jY) (v0 : Nat) (v1 : Int32) (v2 : Int32) (v3 : Int32) (μ : jM) : Option ((Int32 × jM) ⊕ (Int32 × jM)) :=
  (jrcv Y v0 12 (f_X12_a Y v0 v1 v3 μ)).bind fun r1 =>
  (jrcv Y v0 12 (f_X12_writesNumber Y v0 r1.1 r1.2)).bind fun μ2 =>
  some (.inl ((v3 + (1 : Int32)), μ2))
def b_X12_read_38 (Y : jY) (v0 : Nat) (v1 : Int32) (v2 : Int32) (v3 : Int32) (μ : jM) : Option ((Int32 × jM) ⊕ (Int32 × jM)) :=
  (jgO Y μ v0 12 26).bind fun x1 =>
  (jaI Y μ x1 20 v1).bind fun x2 =>
  if x2 ≤ v3 then
    (jrcv Y v0 12 (f_X12_writes Y v0 ((47 : Int32)) μ)).bind fun μ3 =>
    (jit jF (fun (s : Int32 × jM) => b_X12_read_82 Y v0 v1 v2 s.1 s.2) ((0 : Int32), μ3)).map (fun r => (.inr r))
  else
    if v3 ≤ 0 then
      b_X12_read_58 Y v0 v1 v2 v3 μ
    else
      (jrcv Y v0 12 (f_X12_writes Y v0 ((32 : Int32)) μ)).bind fun μ4 =>
      b_X12_read_58 Y v0 v1 v2 v3 μ4
def f_X12_read (Y : jY) (v0 : Nat) (v1 : Int32) (v2 : Int32) (μ : jM) : Option (Int32 × jM) :=
  (f_X12_isDrawer Y v1 μ).bind fun r1 =>
  if r1.1 = 0 then
    b_X12_read_12 Y r1.2
  else
    if ((-1 : Int32)) ≤ v2 then
      (jgO Y r1.2 v0 12 26).bind fun x2 =>
      (jaI Y r1.2 x2 20 v1).bind fun x3 =>
      if x3 = 0 then
        some ((-2 : Int32), r1.2)
      else
        (jput Y r1.2 v0 12 22 (.int ((0 : Int32)))).bind fun μ4 =>
        (jput Y μ4 v0 12 23 (.int v2)).bind fun μ5 =>
        jit jF (fun (s : Int32 × jM) => b_X12_read_38 Y v0 v1 v2 s.1 s.2) ((0 : Int32), μ5)
    else
      b_X12_read_12 Y r1.2
set_option maxRecDepth 10000 in
theorem t_X12_read_12 {X : jX} {l : Launch} {n : Nat} {Y : jY} (K : jOK X RX12 cX12_read 4 (some .int) 3) (hl : X.2.1 = l) {rr : Int32} {μr : jM} {μ : jM} {z : (Int32 × jM)} (H : b_X12_read_12 Y μ = some z) (D : z = (rr, μr)) : JW X (jEnd X n Y (some (.int rr)) μr 0 0) 0 0 n Y 12 [] [] μ := by
  unfold b_X12_read_12 at H
  refine r_iconst (v := -1) K dX12_read_12 (by decide) ?_
  cases H
  obtain ⟨rfl, rfl⟩ := jfin2 D
  exact r_iret K dX12_read_13
set_option maxRecDepth 10000 in
theorem t_X12_read_149 {X : jX} {l : Launch} {n : Nat} {Y : jY} (K : jOK X RX12 cX12_read 4 (some .int) 3) (hl : X.2.1 = l) {rr : Int32} {μr : jM} {t0 : Int32} {μ : jM} {z : (Int32 × jM)} (H : b_X12_read_149 Y t0 μ = some z) (D : z = (rr, μr)) : JW X (jEnd X n Y (some (.int rr)) μr 0 0) 0 0 n Y 149 [] [.int t0] μ := by
  unfold b_X12_read_149 at H
  cases H
  obtain ⟨rfl, rfl⟩ := jfin2 D
  exact r_iret K dX12_read_149
set_option maxRecDepth 10000 in
theorem t_X12_read_104 {X : jX} {l : Launch} {n : Nat} {Y : jY} (K : jOK X RX12 cX12_read 4 (some .int) 3) (hl : X.2.1 = l) {rr : Int32} {μr : jM} {v0 : Nat} {v1 : Int32} {v2 : Int32} {v3 : Int32} {μ : jM} {z : ((Int32 × jM) ⊕ (Int32 × jM))} (H : b_X12_read_104 Y v0 v1 v2 v3 μ = some z) (D : Sum.elim (fun (s : Int32 × jM) => JW X (jEnd X n Y (some (.int rr)) μr 0 0) 0 0 n Y 82 [(0, .ref v0), (1, .int v1), (2, .int v2), (3, .int s.1)] [] s.2) (fun r => r = (rr, μr)) z) : JW X (jEnd X n Y (some (.int rr)) μr 0 0) 0 0 n Y 104 [(0, .ref v0), (1, .int v1), (2, .int v2), (3, .int v3)] [] μ := by
  unfold b_X12_read_104 at H
  refine r_aload_n K 0 dX12_read_104 rfl rfl ?_
  refine r_aload_n K 0 dX12_read_105 rfl rfl ?_
  refine r_iload_n K 1 dX12_read_106 rfl rfl ?_
  refine r_iload_n K 3 dX12_read_107 rfl rfl ?_
  refine w_callV K hl H (fun r h => c_X12_c l h) mC_yX12_c mM_RX12_260 mI_yX12_c mS_yX12_c mZ_RX12 vc12 (Nat.le_of_ble_eq_true rfl) (Nat.le_of_ble_eq_true rfl) np_yX12_c rfl (Nat.le_of_ble_eq_true rfl) dX12_read_108 (fun r1 H => ?_) ⟨Nat.zero_le _, Nat.zero_le _⟩
  refine w_callV K hl H (fun r h => c_X12_writesNumber l h) mC_yX12_writesNumber mM_RX12_250 mI_yX12_writesNumber mS_yX12_writesNumber mZ_RX12 vc12 (Nat.le_of_ble_eq_true rfl) (Nat.le_of_ble_eq_true rfl) np_yX12_writesNumber rfl (Nat.le_of_ble_eq_true rfl) dX12_read_111 (fun μ2 H => ?_) ⟨Nat.zero_le _, Nat.zero_le _⟩
  refine r_iinc K 3 [(3, .int _), (0, .ref _), (1, .int _), (2, .int _)] (v := _ + (1 : Int32)) dX12_read_114 rfl rfl (by decide) rfl ?_
  refine r_goto K 82 dX12_read_117 (by decide) ?_
  cases H
  exact r_sub [1, 2, 3, 0] rfl D
set_option maxRecDepth 10000 in
theorem t_X12_read_82 {X : jX} {l : Launch} {n : Nat} {Y : jY} (K : jOK X RX12 cX12_read 4 (some .int) 3) (hl : X.2.1 = l) {rr : Int32} {μr : jM} {v0 : Nat} {v1 : Int32} {v2 : Int32} {v3 : Int32} {μ : jM} {z : ((Int32 × jM) ⊕ (Int32 × jM))} (H : b_X12_read_82 Y v0 v1 v2 v3 μ = some z) (D : Sum.elim (fun (s : Int32 × jM) => JW X (jEnd X n Y (some (.int rr)) μr 0 0) 0 0 n Y 82 [(0, .ref v0), (1, .int v1), (2, .int v2), (3, .int s.1)] [] s.2) (fun r => r = (rr, μr)) z) : JW X (jEnd X n Y (some (.int rr)) μr 0 0) 0 0 n Y 82 [(0, .ref v0), (1, .int v1), (2, .int v2), (3, .int v3)] [] μ := by
  unfold b_X12_read_82 at H
  refine r_iload_n K 3 dX12_read_82 rfl rfl ?_
  refine r_aload_n K 0 dX12_read_83 rfl rfl ?_
  refine w_getO K vc12 inX12 26 (by decide) mF_RX12_48 dX12_read_84 H (fun x1 H => ?_)
  refine r_iload_n K 1 dX12_read_87 rfl rfl ?_
  refine w_iald K dX12_read_88 H (fun x2 H => ?_)
  refine r_iconst (v := 1) K dX12_read_89 (by decide) ?_
  refine r_isub K dX12_read_90 ?_
  refine w_icmp_ge K 120 dX12_read_91 (by decide) H (fun _ H => ?_) (fun _ H => ?_)
  · refine r_iload_n K 2 dX12_read_120 rfl rfl ?_
    refine r_iconst (v := -1) K dX12_read_121 (by decide) ?_
    refine w_icmp_ne K 132 dX12_read_122 (by decide) H (fun _ H => ?_) (fun _ H => ?_)
    · refine r_iload_n K 2 dX12_read_132 rfl rfl ?_
      refine r_aload_n K 0 dX12_read_133 rfl rfl ?_
      refine w_getI K vc12 inX12 22 (by decide) mF_RX12_238 dX12_read_134 H (fun x3 H => ?_)
      refine w_icmp_ge K 147 dX12_read_137 (by decide) H (fun _ H => ?_) (fun _ H => ?_)
      · refine r_bipush (v := -3) K dX12_read_147 (by decide) ?_
        obtain ⟨z2, H2, rfl⟩ := jmap H
        exact r_sub [] rfl (t_X12_read_149 K hl H2 D)
      · refine r_aload_n K 0 dX12_read_140 rfl rfl ?_
        refine w_getI K vc12 inX12 24 (by decide) mF_RX12_244 dX12_read_141 H (fun x4 H => ?_)
        refine r_goto K 149 dX12_read_144 (by decide) ?_
        obtain ⟨z2, H2, rfl⟩ := jmap H
        exact r_sub [] rfl (t_X12_read_149 K hl H2 D)
    · refine r_aload_n K 0 dX12_read_125 rfl rfl ?_
      refine w_getI K vc12 inX12 22 (by decide) mF_RX12_238 dX12_read_126 H (fun x5 H => ?_)
      refine r_goto K 149 dX12_read_129 (by decide) ?_
      obtain ⟨z2, H2, rfl⟩ := jmap H
      exact r_sub [] rfl (t_X12_read_149 K hl H2 D)
  · refine r_iload_n K 3 dX12_read_94 rfl rfl ?_
    refine w_if_le K 104 dX12_read_95 (by decide) H (fun _ H => ?_) (fun _ H => ?_)
    · exact r_sub [0, 1, 2, 3] rfl (t_X12_read_104 K hl H D)
    · refine r_aload_n K 0 dX12_read_98 rfl rfl ?_
      refine r_bipush (v := 32) K dX12_read_99 (by decide) ?_
      refine w_callV K hl H (fun r h => c_X12_writes l h) mC_yX12_writes mM_RX12_247 mI_yX12_writes mS_yX12_writes mZ_RX12 vc12 (Nat.le_of_ble_eq_true rfl) (Nat.le_of_ble_eq_true rfl) np_yX12_writes rfl (Nat.le_of_ble_eq_true rfl) dX12_read_101 (fun μ6 H => ?_) ⟨Nat.zero_le _, Nat.zero_le _⟩
      exact r_sub [0, 1, 2, 3] rfl (t_X12_read_104 K hl H D)
set_option maxRecDepth 10000 in
theorem l_X12_read_82 {X : jX} {l : Launch} {n : Nat} {Y : jY} (K : jOK X RX12 cX12_read 4 (some .int) 3) (hl : X.2.1 = l) {rr : Int32} {μr : jM} {v0 : Nat} {v1 : Int32} {v2 : Int32}  {s0 : Int32 × jM} {z : (Int32 × jM)} (H : jit jF (fun (s : Int32 × jM) => b_X12_read_82 Y v0 v1 v2 s.1 s.2) s0 = some z) (D : z = (rr, μr)) : JW X (jEnd X n Y (some (.int rr)) μr 0 0) 0 0 n Y 82 [(0, .ref v0), (1, .int v1), (2, .int v2), (3, .int s0.1)] [] s0.2 :=
  jit_ind (P := fun (s : Int32 × jM) => JW X (jEnd X n Y (some (.int rr)) μr 0 0) 0 0 n Y 82 [(0, .ref v0), (1, .int v1), (2, .int v2), (3, .int s.1)] [] s.2) (D := fun r => r = (rr, μr)) (fun s z Hs Ds => t_X12_read_82 K hl Hs Ds) jF s0 z H D
set_option maxRecDepth 10000 in
theorem t_X12_read_58 {X : jX} {l : Launch} {n : Nat} {Y : jY} (K : jOK X RX12 cX12_read 4 (some .int) 3) (hl : X.2.1 = l) {rr : Int32} {μr : jM} {v0 : Nat} {v1 : Int32} {v2 : Int32} {v3 : Int32} {μ : jM} {z : ((Int32 × jM) ⊕ (Int32 × jM))} (H : b_X12_read_58 Y v0 v1 v2 v3 μ = some z) (D : Sum.elim (fun (s : Int32 × jM) => JW X (jEnd X n Y (some (.int rr)) μr 0 0) 0 0 n Y 38 [(0, .ref v0), (1, .int v1), (2, .int v2), (3, .int s.1)] [] s.2) (fun r => r = (rr, μr)) z) : JW X (jEnd X n Y (some (.int rr)) μr 0 0) 0 0 n Y 58 [(0, .ref v0), (1, .int v1), (2, .int v2), (3, .int v3)] [] μ := by
  unfold b_X12_read_58 at H
  refine r_aload_n K 0 dX12_read_58 rfl rfl ?_
  refine r_aload_n K 0 dX12_read_59 rfl rfl ?_
  refine r_iload_n K 1 dX12_read_60 rfl rfl ?_
  refine r_iload_n K 3 dX12_read_61 rfl rfl ?_
  refine w_callV K hl H (fun r h => c_X12_a l h) mC_yX12_a mM_RX12_256 mI_yX12_a mS_yX12_a mZ_RX12 vc12 (Nat.le_of_ble_eq_true rfl) (Nat.le_of_ble_eq_true rfl) np_yX12_a rfl (Nat.le_of_ble_eq_true rfl) dX12_read_62 (fun r1 H => ?_) ⟨Nat.zero_le _, Nat.zero_le _⟩
  refine w_callV K hl H (fun r h => c_X12_writesNumber l h) mC_yX12_writesNumber mM_RX12_250 mI_yX12_writesNumber mS_yX12_writesNumber mZ_RX12 vc12 (Nat.le_of_ble_eq_true rfl) (Nat.le_of_ble_eq_true rfl) np_yX12_writesNumber rfl (Nat.le_of_ble_eq_true rfl) dX12_read_65 (fun μ2 H => ?_) ⟨Nat.zero_le _, Nat.zero_le _⟩
  refine r_iinc K 3 [(3, .int _), (0, .ref _), (1, .int _), (2, .int _)] (v := _ + (1 : Int32)) dX12_read_68 rfl rfl (by decide) rfl ?_
  refine r_goto K 38 dX12_read_71 (by decide) ?_
  cases H
  exact r_sub [1, 2, 3, 0] rfl D
set_option maxRecDepth 10000 in
theorem t_X12_read_38 {X : jX} {l : Launch} {n : Nat} {Y : jY} (K : jOK X RX12 cX12_read 4 (some .int) 3) (hl : X.2.1 = l) {rr : Int32} {μr : jM} {v0 : Nat} {v1 : Int32} {v2 : Int32} {v3 : Int32} {μ : jM} {z : ((Int32 × jM) ⊕ (Int32 × jM))} (H : b_X12_read_38 Y v0 v1 v2 v3 μ = some z) (D : Sum.elim (fun (s : Int32 × jM) => JW X (jEnd X n Y (some (.int rr)) μr 0 0) 0 0 n Y 38 [(0, .ref v0), (1, .int v1), (2, .int v2), (3, .int s.1)] [] s.2) (fun r => r = (rr, μr)) z) : JW X (jEnd X n Y (some (.int rr)) μr 0 0) 0 0 n Y 38 [(0, .ref v0), (1, .int v1), (2, .int v2), (3, .int v3)] [] μ := by
  unfold b_X12_read_38 at H
  refine r_iload_n K 3 dX12_read_38 rfl rfl ?_
  refine r_aload_n K 0 dX12_read_39 rfl rfl ?_
  refine w_getO K vc12 inX12 26 (by decide) mF_RX12_48 dX12_read_40 H (fun x1 H => ?_)
  refine r_iload_n K 1 dX12_read_43 rfl rfl ?_
  refine w_iald K dX12_read_44 H (fun x2 H => ?_)
  refine w_icmp_ge K 74 dX12_read_45 (by decide) H (fun _ H => ?_) (fun _ H => ?_)
  · refine r_aload_n K 0 dX12_read_74 rfl rfl ?_
    refine r_bipush (v := 47) K dX12_read_75 (by decide) ?_
    refine w_callV K hl H (fun r h => c_X12_writes l h) mC_yX12_writes mM_RX12_247 mI_yX12_writes mS_yX12_writes mZ_RX12 vc12 (Nat.le_of_ble_eq_true rfl) (Nat.le_of_ble_eq_true rfl) np_yX12_writes rfl (Nat.le_of_ble_eq_true rfl) dX12_read_77 (fun μ3 H => ?_) ⟨Nat.zero_le _, Nat.zero_le _⟩
    refine r_iconst (v := 0) K dX12_read_80 (by decide) ?_
    refine r_istore_n K [(3, .int _), (0, .ref _), (1, .int _), (2, .int _)] dX12_read_81 rfl (by decide) rfl ?_
    obtain ⟨z2, H2, rfl⟩ := jmap H
    exact r_sub [1, 2, 3, 0] rfl (l_X12_read_82 K hl H2 D)
  · refine r_iload_n K 3 dX12_read_48 rfl rfl ?_
    refine w_if_le K 58 dX12_read_49 (by decide) H (fun _ H => ?_) (fun _ H => ?_)
    · exact r_sub [0, 1, 2, 3] rfl (t_X12_read_58 K hl H D)
    · refine r_aload_n K 0 dX12_read_52 rfl rfl ?_
      refine r_bipush (v := 32) K dX12_read_53 (by decide) ?_
      refine w_callV K hl H (fun r h => c_X12_writes l h) mC_yX12_writes mM_RX12_247 mI_yX12_writes mS_yX12_writes mZ_RX12 vc12 (Nat.le_of_ble_eq_true rfl) (Nat.le_of_ble_eq_true rfl) np_yX12_writes rfl (Nat.le_of_ble_eq_true rfl) dX12_read_55 (fun μ4 H => ?_) ⟨Nat.zero_le _, Nat.zero_le _⟩
      exact r_sub [0, 1, 2, 3] rfl (t_X12_read_58 K hl H D)
set_option maxRecDepth 10000 in
theorem l_X12_read_38 {X : jX} {l : Launch} {n : Nat} {Y : jY} (K : jOK X RX12 cX12_read 4 (some .int) 3) (hl : X.2.1 = l) {rr : Int32} {μr : jM} {v0 : Nat} {v1 : Int32} {v2 : Int32}  {s0 : Int32 × jM} {z : (Int32 × jM)} (H : jit jF (fun (s : Int32 × jM) => b_X12_read_38 Y v0 v1 v2 s.1 s.2) s0 = some z) (D : z = (rr, μr)) : JW X (jEnd X n Y (some (.int rr)) μr 0 0) 0 0 n Y 38 [(0, .ref v0), (1, .int v1), (2, .int v2), (3, .int s0.1)] [] s0.2 :=
  jit_ind (P := fun (s : Int32 × jM) => JW X (jEnd X n Y (some (.int rr)) μr 0 0) 0 0 n Y 38 [(0, .ref v0), (1, .int v1), (2, .int v2), (3, .int s.1)] [] s.2) (D := fun r => r = (rr, μr)) (fun s z Hs Ds => t_X12_read_38 K hl Hs Ds) jF s0 z H D
set_option maxRecDepth 10000 in
theorem t_X12_read_0 {X : jX} {l : Launch} {n : Nat} {Y : jY} (K : jOK X RX12 cX12_read 4 (some .int) 3) (hl : X.2.1 = l) {rr : Int32} {μr : jM} {v0 : Nat} {v1 : Int32} {v2 : Int32} {μ : jM} {z : (Int32 × jM)} (H : f_X12_read Y v0 v1 v2 μ = some z) (D : z = (rr, μr)) : JW X (jEnd X n Y (some (.int rr)) μr 0 0) 0 0 n Y 0 [(0, .ref v0), (1, .int v1), (2, .int v2)] [] μ := by
  unfold f_X12_read at H
  refine r_iload_n K 1 dX12_read_0 rfl rfl ?_
  refine w_callS K hl H (fun r h => c_X12_isDrawer l h) mC_yX12_isDrawer mM_RX12_253 mT_yX12_isDrawer mZ_RX12 (Nat.le_of_ble_eq_true rfl) (Nat.le_of_ble_eq_true rfl) np_yX12_isDrawer rfl (Nat.le_of_ble_eq_true rfl) dX12_read_1 (fun r1 H => ?_) ⟨Nat.zero_le _, Nat.zero_le _⟩
  refine w_if_eq K 12 dX12_read_4 (by decide) H (fun _ H => ?_) (fun _ H => ?_)
  · exact r_sub [] rfl (t_X12_read_12 K hl H D)
  · refine r_iload_n K 2 dX12_read_7 rfl rfl ?_
    refine r_iconst (v := -1) K dX12_read_8 (by decide) ?_
    refine w_icmp_ge K 14 dX12_read_9 (by decide) H (fun _ H => ?_) (fun _ H => ?_)
    · refine r_aload_n K 0 dX12_read_14 rfl rfl ?_
      refine w_getO K vc12 inX12 26 (by decide) mF_RX12_48 dX12_read_15 H (fun x2 H => ?_)
      refine r_iload_n K 1 dX12_read_18 rfl rfl ?_
      refine w_iald K dX12_read_19 H (fun x3 H => ?_)
      refine w_if_ne K 26 dX12_read_20 (by decide) H (fun _ H => ?_) (fun _ H => ?_)
      · refine r_aload_n K 0 dX12_read_26 rfl rfl ?_
        refine r_iconst (v := 0) K dX12_read_27 (by decide) ?_
        refine w_put K vc12 inX12 tyX12_ok nmX12 22 (by decide) mF_RX12_238 rfl (fun _ => rfl) (fun _ => rfl) dX12_read_28 H (fun μ4 H => ?_)
        refine r_aload_n K 0 dX12_read_31 rfl rfl ?_
        refine r_iload_n K 2 dX12_read_32 rfl rfl ?_
        refine w_put K vc12 inX12 tyX12_ok nmX12 23 (by decide) mF_RX12_241 rfl (fun _ => rfl) (fun _ => rfl) dX12_read_33 H (fun μ5 H => ?_)
        refine r_iconst (v := 0) K dX12_read_36 (by decide) ?_
        refine r_istore_n K [(3, .int _), (0, .ref _), (1, .int _), (2, .int _)] dX12_read_37 rfl (by decide) rfl ?_
        exact r_sub [1, 2, 3, 0] rfl (l_X12_read_38 K hl H D)
      · refine r_bipush (v := -2) K dX12_read_23 (by decide) ?_
        cases H
        obtain ⟨rfl, rfl⟩ := jfin2 D
        exact r_iret K dX12_read_25
    · exact r_sub [] rfl (t_X12_read_12 K hl H D)
theorem c_X12_read (l : Launch) {n : Nat} {Y : jY} {v0 : Nat} {v1 : Int32} {v2 : Int32} {μ : jM} {z : Int32 × jM} (H : f_X12_read Y v0 v1 v2 μ = some z) : jC l yX12_read cX12_read 4 (some .int) 3 0 0 [.ref v0, .int v1, .int v2] n Y μ n Y (some (.int z.1)) z.2 := by
  refine jC_of (by decide +kernel) (Nat.le_of_ble_eq_true rfl) (fun X hl K _ _ _ => ?_)
  obtain ⟨rr, μr⟩ := z
  exact t_X12_read_0 K hl H rfl
/-! RX12 value(III)J -/
def b_X12_value_41 (Y : jY) (μ : jM) : Option (Int64 × jM) :=
  some ((-9223372036854775808 : Int64), μ)
def f_X12_value (Y : jY) (v0 : Nat) (v1 : Int32) (v2 : Int32) (v3 : Int32) (μ : jM) : Option (Int64 × jM) :=
  (f_X12_isDrawer Y v1 μ).bind fun r1 =>
  if r1.1 = 0 then
    b_X12_value_41 Y r1.2
  else
    (jgO Y r1.2 v0 12 26).bind fun x2 =>
    (jaI Y r1.2 x2 20 v1).bind fun x3 =>
    if x3 = 0 then
      b_X12_value_41 Y r1.2
    else
      (jgO Y r1.2 v0 12 26).bind fun x4 =>
      (jaI Y r1.2 x4 20 v1).bind fun x5 =>
      (f_X12_in Y v2 ((0 : Int32)) x5 r1.2).bind fun r6 =>
      if r6.1 = 0 then
        b_X12_value_41 Y r6.2
      else
        (f_X12_in Y v3 ((-20 : Int32)) ((20 : Int32)) r6.2).bind fun r7 =>
        if r7.1 = 0 then
          b_X12_value_41 Y r7.2
        else
          (jrcv Y v0 12 (f_X12_valueAt Y v0 v1 ((0 : Int32)) v2 ((v3.toInt64)) r7.2)).bind fun r8 =>
          some (r8.1, r8.2)
set_option maxRecDepth 10000 in
theorem t_X12_value_41 {X : jX} {l : Launch} {n : Nat} {Y : jY} (K : jOK X RX12 cX12_value 4 (some .long) 3) (hl : X.2.1 = l) {rr : Int64} {μr : jM} {μ : jM} {z : (Int64 × jM)} (H : b_X12_value_41 Y μ = some z) (D : z = (rr, μr)) : JW X (jEnd X n Y (some (.long rr)) μr 0 0) 0 0 n Y 41 [] [] μ := by
  unfold b_X12_value_41 at H
  refine r_ldc2 K (-9223372036854775808) mc_RX12_156 dX12_value_41 ?_
  cases H
  obtain ⟨rfl, rfl⟩ := jfin2 D
  exact r_lret K dX12_value_44
set_option maxRecDepth 10000 in
theorem t_X12_value_0 {X : jX} {l : Launch} {n : Nat} {Y : jY} (K : jOK X RX12 cX12_value 4 (some .long) 3) (hl : X.2.1 = l) {rr : Int64} {μr : jM} {v0 : Nat} {v1 : Int32} {v2 : Int32} {v3 : Int32} {μ : jM} {z : (Int64 × jM)} (H : f_X12_value Y v0 v1 v2 v3 μ = some z) (D : z = (rr, μr)) : JW X (jEnd X n Y (some (.long rr)) μr 0 0) 0 0 n Y 0 [(0, .ref v0), (1, .int v1), (2, .int v2), (3, .int v3)] [] μ := by
  unfold f_X12_value at H
  refine r_iload_n K 1 dX12_value_0 rfl rfl ?_
  refine w_callS K hl H (fun r h => c_X12_isDrawer l h) mC_yX12_isDrawer mM_RX12_253 mT_yX12_isDrawer mZ_RX12 (Nat.le_of_ble_eq_true rfl) (Nat.le_of_ble_eq_true rfl) np_yX12_isDrawer rfl (Nat.le_of_ble_eq_true rfl) dX12_value_1 (fun r1 H => ?_) ⟨Nat.zero_le _, Nat.zero_le _⟩
  refine w_if_eq K 41 dX12_value_4 (by decide) H (fun _ H => ?_) (fun _ H => ?_)
  · exact r_sub [] rfl (t_X12_value_41 K hl H D)
  · refine r_aload_n K 0 dX12_value_7 rfl rfl ?_
    refine w_getO K vc12 inX12 26 (by decide) mF_RX12_48 dX12_value_8 H (fun x2 H => ?_)
    refine r_iload_n K 1 dX12_value_11 rfl rfl ?_
    refine w_iald K dX12_value_12 H (fun x3 H => ?_)
    refine w_if_eq K 41 dX12_value_13 (by decide) H (fun _ H => ?_) (fun _ H => ?_)
    · exact r_sub [] rfl (t_X12_value_41 K hl H D)
    · refine r_iload_n K 2 dX12_value_16 rfl rfl ?_
      refine r_iconst (v := 0) K dX12_value_17 (by decide) ?_
      refine r_aload_n K 0 dX12_value_18 rfl rfl ?_
      refine w_getO K vc12 inX12 26 (by decide) mF_RX12_48 dX12_value_19 H (fun x4 H => ?_)
      refine r_iload_n K 1 dX12_value_22 rfl rfl ?_
      refine w_iald K dX12_value_23 H (fun x5 H => ?_)
      refine w_callS K hl H (fun r h => c_X12_in l h) mC_yX12_in mM_RX12_134 mT_yX12_in mZ_RX12 (Nat.le_of_ble_eq_true rfl) (Nat.le_of_ble_eq_true rfl) np_yX12_in rfl (Nat.le_of_ble_eq_true rfl) dX12_value_24 (fun r6 H => ?_) ⟨Nat.zero_le _, Nat.zero_le _⟩
      refine w_if_eq K 41 dX12_value_27 (by decide) H (fun _ H => ?_) (fun _ H => ?_)
      · exact r_sub [] rfl (t_X12_value_41 K hl H D)
      · refine r_iload_n K 3 dX12_value_30 rfl rfl ?_
        refine r_bipush (v := -20) K dX12_value_31 (by decide) ?_
        refine r_bipush (v := 20) K dX12_value_33 (by decide) ?_
        refine w_callS K hl H (fun r h => c_X12_in l h) mC_yX12_in mM_RX12_134 mT_yX12_in mZ_RX12 (Nat.le_of_ble_eq_true rfl) (Nat.le_of_ble_eq_true rfl) np_yX12_in rfl (Nat.le_of_ble_eq_true rfl) dX12_value_35 (fun r7 H => ?_) ⟨Nat.zero_le _, Nat.zero_le _⟩
        refine w_if_ne K 45 dX12_value_38 (by decide) H (fun _ H => ?_) (fun _ H => ?_)
        · refine r_aload_n K 0 dX12_value_45 rfl rfl ?_
          refine r_iload_n K 1 dX12_value_46 rfl rfl ?_
          refine r_iconst (v := 0) K dX12_value_47 (by decide) ?_
          refine r_iload_n K 2 dX12_value_48 rfl rfl ?_
          refine r_iload_n K 3 dX12_value_49 rfl rfl ?_
          refine r_i2l K dX12_value_50 ?_
          refine w_callV K hl H (fun r h => c_X12_valueAt l h) mC_yX12_valueAt mM_RX12_279 mI_yX12_valueAt mS_yX12_valueAt mZ_RX12 vc12 (Nat.le_of_ble_eq_true rfl) (Nat.le_of_ble_eq_true rfl) np_yX12_valueAt rfl (Nat.le_of_ble_eq_true rfl) dX12_value_51 (fun r8 H => ?_) ⟨Nat.zero_le _, Nat.zero_le _⟩
          cases H
          obtain ⟨rfl, rfl⟩ := jfin2 D
          exact r_lret K dX12_value_54
        · exact r_sub [] rfl (t_X12_value_41 K hl H D)
theorem c_X12_value (l : Launch) {n : Nat} {Y : jY} {v0 : Nat} {v1 : Int32} {v2 : Int32} {v3 : Int32} {μ : jM} {z : Int64 × jM} (H : f_X12_value Y v0 v1 v2 v3 μ = some z) : jC l yX12_value cX12_value 4 (some .long) 3 0 0 [.ref v0, .int v1, .int v2, .int v3] n Y μ n Y (some (.long z.1)) z.2 := by
  refine jC_of (by decide +kernel) (Nat.le_of_ble_eq_true rfl) (fun X hl K _ _ _ => ?_)
  obtain ⟨rr, μr⟩ := z
  exact t_X12_value_0 K hl H rfl
/-! RX12 swaps([III)V -/
def f_X12_swaps (Y : jY) (v0 : Nat) (v1 : Nat) (v2 : Int32) (v3 : Int32) (μ : jM) : Option (jM) :=
  (jaI Y μ v1 20 v2).bind fun x1 =>
  (jaI Y μ v1 20 v3).bind fun x2 =>
  (jas Y μ v1 20 v2 (.int x2)).bind fun μ3 =>
  (jas Y μ3 v1 20 v3 (.int x1)).bind fun μ4 =>
  some μ4
set_option maxRecDepth 10000 in
theorem t_X12_swaps_0 {X : jX} {l : Launch} {n : Nat} {Y : jY} (K : jOK X RX12 cX12_swaps 5 none 1) (hl : X.2.1 = l) {μr : jM} {v0 : Nat} {v1 : Nat} {v2 : Int32} {v3 : Int32} {μ : jM} {z : (jM)} (H : f_X12_swaps Y v0 v1 v2 v3 μ = some z) (D : z = μr) : JW X (jEnd X n Y none μr 0 0) 0 0 n Y 0 [(0, .ref v0), (1, .ref v1), (2, .int v2), (3, .int v3)] [] μ := by
  unfold f_X12_swaps at H
  refine r_aload_n K 1 dX12_swaps_0 rfl rfl ?_
  refine r_iload_n K 2 dX12_swaps_1 rfl rfl ?_
  refine w_iald K dX12_swaps_2 H (fun x1 H => ?_)
  refine r_istore K [(4, .int _), (0, .ref _), (1, .ref _), (2, .int _), (3, .int _)] dX12_swaps_3 (by decide) rfl ?_
  refine r_aload_n K 2 dX12_swaps_5 rfl rfl ?_
  refine r_iload_n K 3 dX12_swaps_6 rfl rfl ?_
  refine r_aload_n K 2 dX12_swaps_7 rfl rfl ?_
  refine r_iload_n K 4 dX12_swaps_8 rfl rfl ?_
  refine w_iald K dX12_swaps_9 H (fun x2 H => ?_)
  refine w_iast K dX12_swaps_10 H (fun μ3 H => ?_)
  refine r_aload_n K 2 dX12_swaps_11 rfl rfl ?_
  refine r_iload_n K 4 dX12_swaps_12 rfl rfl ?_
  refine r_iload K 0 dX12_swaps_13 rfl ?_
  refine w_iast K dX12_swaps_15 H (fun μ4 H => ?_)
  cases H
  subst D
  exact r_vret K dX12_swaps_16
theorem c_X12_swaps (l : Launch) {n : Nat} {Y : jY} {v0 : Nat} {v1 : Nat} {v2 : Int32} {v3 : Int32} {μ : jM} {z : jM} (H : f_X12_swaps Y v0 v1 v2 v3 μ = some z) : jC l yX12_swaps cX12_swaps 5 none 1 0 0 [.ref v0, .ref v1, .int v2, .int v3] n Y μ n Y none z := by
  refine jC_of (by decide +kernel) (Nat.le_of_ble_eq_true rfl) (fun X hl K _ _ _ => ?_)
  exact t_X12_swaps_0 K hl H rfl
/-! RX12 mirror()I -/
def b_X12_mirror_113 (Y : jY) (v0 : Nat) (v1 : Int32) (μ : jM) : Option ((Int32 × jM) ⊕ (Int32 × jM)) :=
  (jgI Y μ v0 12 10).bind fun x1 =>
  if ((x1 - ((1 : Int32)))) ≤ v1 then
    (jgI Y μ v0 12 10).bind fun x2 =>
    some (.inr (x2, μ))
  else
    (jgO Y μ v0 12 12).bind fun x3 =>
    (jgO Y μ v0 12 7).bind fun x4 =>
    (jaI Y μ x4 20 v1).bind fun x5 =>
    (jas Y μ x3 20 v1 (.int x5)).bind fun μ6 =>
    some (.inl ((v1 + (1 : Int32)), μ6))
def b_X12_mirror_85 (Y : jY) (v0 : Nat) (v1 : Int32) (μ : jM) : Option ((Int32 × jM) ⊕ (Int32 × jM)) :=
  (jgI Y μ v0 12 10).bind fun x1 =>
  if x1 ≤ v1 then
    (jit jF (fun (s : Int32 × jM) => b_X12_mirror_113 Y v0 s.1 s.2) ((0 : Int32), μ)).map (fun r => (.inr r))
  else
    (jgO Y μ v0 12 11).bind fun x2 =>
    (jgO Y μ v0 12 6).bind fun x3 =>
    (jaI Y μ x3 20 v1).bind fun x4 =>
    (jas Y μ x2 20 v1 (.int x4)).bind fun μ5 =>
    some (.inl ((v1 + (1 : Int32)), μ5))
def b_X12_mirror_47 (Y : jY) (v0 : Nat) (v1 : Int32) (μ : jM) : Option ((Int32 × jM) ⊕ (Int32 × jM)) :=
  (jgI Y μ v0 12 10).bind fun x1 =>
  if ((x1 - ((1 : Int32)))) ≤ v1 then
    (jit jF (fun (s : Int32 × jM) => b_X12_mirror_85 Y v0 s.1 s.2) ((0 : Int32), μ)).map (fun r => (.inr r))
  else
    (jgO Y μ v0 12 7).bind fun x2 =>
    (jgO Y μ v0 12 12).bind fun x3 =>
    (jgI Y μ v0 12 10).bind fun x4 =>
    (jaI Y μ x3 20 ((((x4 - ((2 : Int32)))) - v1))).bind fun x5 =>
    (jas Y μ x2 20 v1 (.int ((-x5)))).bind fun μ6 =>
    some (.inl ((v1 + (1 : Int32)), μ6))
def b_X12_mirror_11 (Y : jY) (v0 : Nat) (v1 : Int32) (μ : jM) : Option ((Int32 × jM) ⊕ (Int32 × jM)) :=
  (jgI Y μ v0 12 10).bind fun x1 =>
  if x1 ≤ v1 then
    (jit jF (fun (s : Int32 × jM) => b_X12_mirror_47 Y v0 s.1 s.2) ((0 : Int32), μ)).map (fun r => (.inr r))
  else
    (jgO Y μ v0 12 6).bind fun x2 =>
    (jgO Y μ v0 12 11).bind fun x3 =>
    (jgI Y μ v0 12 10).bind fun x4 =>
    (jaI Y μ x3 20 ((((x4 - ((1 : Int32)))) - v1))).bind fun x5 =>
    (jas Y μ x2 20 v1 (.int ((-x5)))).bind fun μ6 =>
    some (.inl ((v1 + (1 : Int32)), μ6))
def f_X12_mirror (Y : jY) (v0 : Nat) (μ : jM) : Option (Int32 × jM) :=
  (jgI Y μ v0 12 10).bind fun x1 =>
  if x1 = 0 then
    some ((-1 : Int32), μ)
  else
    jit jF (fun (s : Int32 × jM) => b_X12_mirror_11 Y v0 s.1 s.2) ((0 : Int32), μ)
set_option maxRecDepth 10000 in
theorem t_X12_mirror_113 {X : jX} {l : Launch} {n : Nat} {Y : jY} (K : jOK X RX12 cX12_mirror 2 (some .int) 1) (hl : X.2.1 = l) {rr : Int32} {μr : jM} {v0 : Nat} {v1 : Int32} {μ : jM} {z : ((Int32 × jM) ⊕ (Int32 × jM))} (H : b_X12_mirror_113 Y v0 v1 μ = some z) (D : Sum.elim (fun (s : Int32 × jM) => JW X (jEnd X n Y (some (.int rr)) μr 0 0) 0 0 n Y 113 [(0, .ref v0), (1, .int s.1)] [] s.2) (fun r => r = (rr, μr)) z) : JW X (jEnd X n Y (some (.int rr)) μr 0 0) 0 0 n Y 113 [(0, .ref v0), (1, .int v1)] [] μ := by
  unfold b_X12_mirror_113 at H
  refine r_iload_n K 1 dX12_mirror_113 rfl rfl ?_
  refine r_aload_n K 0 dX12_mirror_114 rfl rfl ?_
  refine w_getI K vc12 inX12 10 (by decide) mF_RX12_145 dX12_mirror_115 H (fun x1 H => ?_)
  refine r_iconst (v := 1) K dX12_mirror_118 (by decide) ?_
  refine r_isub K dX12_mirror_119 ?_
  refine w_icmp_ge K 141 dX12_mirror_120 (by decide) H (fun _ H => ?_) (fun _ H => ?_)
  · refine r_aload_n K 0 dX12_mirror_141 rfl rfl ?_
    refine w_getI K vc12 inX12 10 (by decide) mF_RX12_145 dX12_mirror_142 H (fun x2 H => ?_)
    cases H
    simp only [Sum.elim_inr] at D
    obtain ⟨rfl, rfl⟩ := jfin2 D
    exact r_iret K dX12_mirror_145
  · refine r_aload_n K 0 dX12_mirror_123 rfl rfl ?_
    refine w_getO K vc12 inX12 12 (by decide) mF_RX12_23 dX12_mirror_124 H (fun x3 H => ?_)
    refine r_iload_n K 1 dX12_mirror_127 rfl rfl ?_
    refine r_aload_n K 0 dX12_mirror_128 rfl rfl ?_
    refine w_getO K vc12 inX12 7 (by decide) mF_RX12_17 dX12_mirror_129 H (fun x4 H => ?_)
    refine r_iload_n K 1 dX12_mirror_132 rfl rfl ?_
    refine w_iald K dX12_mirror_133 H (fun x5 H => ?_)
    refine w_iast K dX12_mirror_134 H (fun μ6 H => ?_)
    refine r_iinc K 1 [(1, .int _), (0, .ref _)] (v := _ + (1 : Int32)) dX12_mirror_135 rfl rfl (by decide) rfl ?_
    refine r_goto K 113 dX12_mirror_138 (by decide) ?_
    cases H
    exact r_sub [1, 0] rfl D
set_option maxRecDepth 10000 in
theorem l_X12_mirror_113 {X : jX} {l : Launch} {n : Nat} {Y : jY} (K : jOK X RX12 cX12_mirror 2 (some .int) 1) (hl : X.2.1 = l) {rr : Int32} {μr : jM} {v0 : Nat}  {s0 : Int32 × jM} {z : (Int32 × jM)} (H : jit jF (fun (s : Int32 × jM) => b_X12_mirror_113 Y v0 s.1 s.2) s0 = some z) (D : z = (rr, μr)) : JW X (jEnd X n Y (some (.int rr)) μr 0 0) 0 0 n Y 113 [(0, .ref v0), (1, .int s0.1)] [] s0.2 :=
  jit_ind (P := fun (s : Int32 × jM) => JW X (jEnd X n Y (some (.int rr)) μr 0 0) 0 0 n Y 113 [(0, .ref v0), (1, .int s.1)] [] s.2) (D := fun r => r = (rr, μr)) (fun s z Hs Ds => t_X12_mirror_113 K hl Hs Ds) jF s0 z H D
set_option maxRecDepth 10000 in
theorem t_X12_mirror_85 {X : jX} {l : Launch} {n : Nat} {Y : jY} (K : jOK X RX12 cX12_mirror 2 (some .int) 1) (hl : X.2.1 = l) {rr : Int32} {μr : jM} {v0 : Nat} {v1 : Int32} {μ : jM} {z : ((Int32 × jM) ⊕ (Int32 × jM))} (H : b_X12_mirror_85 Y v0 v1 μ = some z) (D : Sum.elim (fun (s : Int32 × jM) => JW X (jEnd X n Y (some (.int rr)) μr 0 0) 0 0 n Y 85 [(0, .ref v0), (1, .int s.1)] [] s.2) (fun r => r = (rr, μr)) z) : JW X (jEnd X n Y (some (.int rr)) μr 0 0) 0 0 n Y 85 [(0, .ref v0), (1, .int v1)] [] μ := by
  unfold b_X12_mirror_85 at H
  refine r_iload_n K 1 dX12_mirror_85 rfl rfl ?_
  refine r_aload_n K 0 dX12_mirror_86 rfl rfl ?_
  refine w_getI K vc12 inX12 10 (by decide) mF_RX12_145 dX12_mirror_87 H (fun x1 H => ?_)
  refine w_icmp_ge K 111 dX12_mirror_90 (by decide) H (fun _ H => ?_) (fun _ H => ?_)
  · refine r_iconst (v := 0) K dX12_mirror_111 (by decide) ?_
    refine r_istore_n K [(1, .int _), (0, .ref _)] dX12_mirror_112 rfl (by decide) rfl ?_
    obtain ⟨z2, H2, rfl⟩ := jmap H
    exact r_sub [1, 0] rfl (l_X12_mirror_113 K hl H2 D)
  · refine r_aload_n K 0 dX12_mirror_93 rfl rfl ?_
    refine w_getO K vc12 inX12 11 (by decide) mF_RX12_20 dX12_mirror_94 H (fun x2 H => ?_)
    refine r_iload_n K 1 dX12_mirror_97 rfl rfl ?_
    refine r_aload_n K 0 dX12_mirror_98 rfl rfl ?_
    refine w_getO K vc12 inX12 6 (by decide) mF_RX12_13 dX12_mirror_99 H (fun x3 H => ?_)
    refine r_iload_n K 1 dX12_mirror_102 rfl rfl ?_
    refine w_iald K dX12_mirror_103 H (fun x4 H => ?_)
    refine w_iast K dX12_mirror_104 H (fun μ5 H => ?_)
    refine r_iinc K 1 [(1, .int _), (0, .ref _)] (v := _ + (1 : Int32)) dX12_mirror_105 rfl rfl (by decide) rfl ?_
    refine r_goto K 85 dX12_mirror_108 (by decide) ?_
    cases H
    exact r_sub [1, 0] rfl D
set_option maxRecDepth 10000 in
theorem l_X12_mirror_85 {X : jX} {l : Launch} {n : Nat} {Y : jY} (K : jOK X RX12 cX12_mirror 2 (some .int) 1) (hl : X.2.1 = l) {rr : Int32} {μr : jM} {v0 : Nat}  {s0 : Int32 × jM} {z : (Int32 × jM)} (H : jit jF (fun (s : Int32 × jM) => b_X12_mirror_85 Y v0 s.1 s.2) s0 = some z) (D : z = (rr, μr)) : JW X (jEnd X n Y (some (.int rr)) μr 0 0) 0 0 n Y 85 [(0, .ref v0), (1, .int s0.1)] [] s0.2 :=
  jit_ind (P := fun (s : Int32 × jM) => JW X (jEnd X n Y (some (.int rr)) μr 0 0) 0 0 n Y 85 [(0, .ref v0), (1, .int s.1)] [] s.2) (D := fun r => r = (rr, μr)) (fun s z Hs Ds => t_X12_mirror_85 K hl Hs Ds) jF s0 z H D
set_option maxRecDepth 10000 in
theorem t_X12_mirror_47 {X : jX} {l : Launch} {n : Nat} {Y : jY} (K : jOK X RX12 cX12_mirror 2 (some .int) 1) (hl : X.2.1 = l) {rr : Int32} {μr : jM} {v0 : Nat} {v1 : Int32} {μ : jM} {z : ((Int32 × jM) ⊕ (Int32 × jM))} (H : b_X12_mirror_47 Y v0 v1 μ = some z) (D : Sum.elim (fun (s : Int32 × jM) => JW X (jEnd X n Y (some (.int rr)) μr 0 0) 0 0 n Y 47 [(0, .ref v0), (1, .int s.1)] [] s.2) (fun r => r = (rr, μr)) z) : JW X (jEnd X n Y (some (.int rr)) μr 0 0) 0 0 n Y 47 [(0, .ref v0), (1, .int v1)] [] μ := by
  unfold b_X12_mirror_47 at H
  refine r_iload_n K 1 dX12_mirror_47 rfl rfl ?_
  refine r_aload_n K 0 dX12_mirror_48 rfl rfl ?_
  refine w_getI K vc12 inX12 10 (by decide) mF_RX12_145 dX12_mirror_49 H (fun x1 H => ?_)
  refine r_iconst (v := 1) K dX12_mirror_52 (by decide) ?_
  refine r_isub K dX12_mirror_53 ?_
  refine w_icmp_ge K 83 dX12_mirror_54 (by decide) H (fun _ H => ?_) (fun _ H => ?_)
  · refine r_iconst (v := 0) K dX12_mirror_83 (by decide) ?_
    refine r_istore_n K [(1, .int _), (0, .ref _)] dX12_mirror_84 rfl (by decide) rfl ?_
    obtain ⟨z2, H2, rfl⟩ := jmap H
    exact r_sub [1, 0] rfl (l_X12_mirror_85 K hl H2 D)
  · refine r_aload_n K 0 dX12_mirror_57 rfl rfl ?_
    refine w_getO K vc12 inX12 7 (by decide) mF_RX12_17 dX12_mirror_58 H (fun x2 H => ?_)
    refine r_iload_n K 1 dX12_mirror_61 rfl rfl ?_
    refine r_aload_n K 0 dX12_mirror_62 rfl rfl ?_
    refine w_getO K vc12 inX12 12 (by decide) mF_RX12_23 dX12_mirror_63 H (fun x3 H => ?_)
    refine r_aload_n K 0 dX12_mirror_66 rfl rfl ?_
    refine w_getI K vc12 inX12 10 (by decide) mF_RX12_145 dX12_mirror_67 H (fun x4 H => ?_)
    refine r_iconst (v := 2) K dX12_mirror_70 (by decide) ?_
    refine r_isub K dX12_mirror_71 ?_
    refine r_iload_n K 1 dX12_mirror_72 rfl rfl ?_
    refine r_isub K dX12_mirror_73 ?_
    refine w_iald K dX12_mirror_74 H (fun x5 H => ?_)
    refine r_ineg K dX12_mirror_75 ?_
    refine w_iast K dX12_mirror_76 H (fun μ6 H => ?_)
    refine r_iinc K 1 [(1, .int _), (0, .ref _)] (v := _ + (1 : Int32)) dX12_mirror_77 rfl rfl (by decide) rfl ?_
    refine r_goto K 47 dX12_mirror_80 (by decide) ?_
    cases H
    exact r_sub [1, 0] rfl D
set_option maxRecDepth 10000 in
theorem l_X12_mirror_47 {X : jX} {l : Launch} {n : Nat} {Y : jY} (K : jOK X RX12 cX12_mirror 2 (some .int) 1) (hl : X.2.1 = l) {rr : Int32} {μr : jM} {v0 : Nat}  {s0 : Int32 × jM} {z : (Int32 × jM)} (H : jit jF (fun (s : Int32 × jM) => b_X12_mirror_47 Y v0 s.1 s.2) s0 = some z) (D : z = (rr, μr)) : JW X (jEnd X n Y (some (.int rr)) μr 0 0) 0 0 n Y 47 [(0, .ref v0), (1, .int s0.1)] [] s0.2 :=
  jit_ind (P := fun (s : Int32 × jM) => JW X (jEnd X n Y (some (.int rr)) μr 0 0) 0 0 n Y 47 [(0, .ref v0), (1, .int s.1)] [] s.2) (D := fun r => r = (rr, μr)) (fun s z Hs Ds => t_X12_mirror_47 K hl Hs Ds) jF s0 z H D
set_option maxRecDepth 10000 in
theorem t_X12_mirror_11 {X : jX} {l : Launch} {n : Nat} {Y : jY} (K : jOK X RX12 cX12_mirror 2 (some .int) 1) (hl : X.2.1 = l) {rr : Int32} {μr : jM} {v0 : Nat} {v1 : Int32} {μ : jM} {z : ((Int32 × jM) ⊕ (Int32 × jM))} (H : b_X12_mirror_11 Y v0 v1 μ = some z) (D : Sum.elim (fun (s : Int32 × jM) => JW X (jEnd X n Y (some (.int rr)) μr 0 0) 0 0 n Y 11 [(0, .ref v0), (1, .int s.1)] [] s.2) (fun r => r = (rr, μr)) z) : JW X (jEnd X n Y (some (.int rr)) μr 0 0) 0 0 n Y 11 [(0, .ref v0), (1, .int v1)] [] μ := by
  unfold b_X12_mirror_11 at H
  refine r_iload_n K 1 dX12_mirror_11 rfl rfl ?_
  refine r_aload_n K 0 dX12_mirror_12 rfl rfl ?_
  refine w_getI K vc12 inX12 10 (by decide) mF_RX12_145 dX12_mirror_13 H (fun x1 H => ?_)
  refine w_icmp_ge K 45 dX12_mirror_16 (by decide) H (fun _ H => ?_) (fun _ H => ?_)
  · refine r_iconst (v := 0) K dX12_mirror_45 (by decide) ?_
    refine r_istore_n K [(1, .int _), (0, .ref _)] dX12_mirror_46 rfl (by decide) rfl ?_
    obtain ⟨z2, H2, rfl⟩ := jmap H
    exact r_sub [1, 0] rfl (l_X12_mirror_47 K hl H2 D)
  · refine r_aload_n K 0 dX12_mirror_19 rfl rfl ?_
    refine w_getO K vc12 inX12 6 (by decide) mF_RX12_13 dX12_mirror_20 H (fun x2 H => ?_)
    refine r_iload_n K 1 dX12_mirror_23 rfl rfl ?_
    refine r_aload_n K 0 dX12_mirror_24 rfl rfl ?_
    refine w_getO K vc12 inX12 11 (by decide) mF_RX12_20 dX12_mirror_25 H (fun x3 H => ?_)
    refine r_aload_n K 0 dX12_mirror_28 rfl rfl ?_
    refine w_getI K vc12 inX12 10 (by decide) mF_RX12_145 dX12_mirror_29 H (fun x4 H => ?_)
    refine r_iconst (v := 1) K dX12_mirror_32 (by decide) ?_
    refine r_isub K dX12_mirror_33 ?_
    refine r_iload_n K 1 dX12_mirror_34 rfl rfl ?_
    refine r_isub K dX12_mirror_35 ?_
    refine w_iald K dX12_mirror_36 H (fun x5 H => ?_)
    refine r_ineg K dX12_mirror_37 ?_
    refine w_iast K dX12_mirror_38 H (fun μ6 H => ?_)
    refine r_iinc K 1 [(1, .int _), (0, .ref _)] (v := _ + (1 : Int32)) dX12_mirror_39 rfl rfl (by decide) rfl ?_
    refine r_goto K 11 dX12_mirror_42 (by decide) ?_
    cases H
    exact r_sub [1, 0] rfl D
set_option maxRecDepth 10000 in
theorem l_X12_mirror_11 {X : jX} {l : Launch} {n : Nat} {Y : jY} (K : jOK X RX12 cX12_mirror 2 (some .int) 1) (hl : X.2.1 = l) {rr : Int32} {μr : jM} {v0 : Nat}  {s0 : Int32 × jM} {z : (Int32 × jM)} (H : jit jF (fun (s : Int32 × jM) => b_X12_mirror_11 Y v0 s.1 s.2) s0 = some z) (D : z = (rr, μr)) : JW X (jEnd X n Y (some (.int rr)) μr 0 0) 0 0 n Y 11 [(0, .ref v0), (1, .int s0.1)] [] s0.2 :=
  jit_ind (P := fun (s : Int32 × jM) => JW X (jEnd X n Y (some (.int rr)) μr 0 0) 0 0 n Y 11 [(0, .ref v0), (1, .int s.1)] [] s.2) (D := fun r => r = (rr, μr)) (fun s z Hs Ds => t_X12_mirror_11 K hl Hs Ds) jF s0 z H D
set_option maxRecDepth 10000 in
theorem t_X12_mirror_0 {X : jX} {l : Launch} {n : Nat} {Y : jY} (K : jOK X RX12 cX12_mirror 2 (some .int) 1) (hl : X.2.1 = l) {rr : Int32} {μr : jM} {v0 : Nat} {μ : jM} {z : (Int32 × jM)} (H : f_X12_mirror Y v0 μ = some z) (D : z = (rr, μr)) : JW X (jEnd X n Y (some (.int rr)) μr 0 0) 0 0 n Y 0 [(0, .ref v0)] [] μ := by
  unfold f_X12_mirror at H
  refine r_aload_n K 0 dX12_mirror_0 rfl rfl ?_
  refine w_getI K vc12 inX12 10 (by decide) mF_RX12_145 dX12_mirror_1 H (fun x1 H => ?_)
  refine w_if_ne K 9 dX12_mirror_4 (by decide) H (fun _ H => ?_) (fun _ H => ?_)
  · refine r_iconst (v := 0) K dX12_mirror_9 (by decide) ?_
    refine r_istore_n K [(1, .int _), (0, .ref _)] dX12_mirror_10 rfl (by decide) rfl ?_
    exact r_sub [1, 0] rfl (l_X12_mirror_11 K hl H D)
  · refine r_iconst (v := -1) K dX12_mirror_7 (by decide) ?_
    cases H
    obtain ⟨rfl, rfl⟩ := jfin2 D
    exact r_iret K dX12_mirror_8
theorem c_X12_mirror (l : Launch) {n : Nat} {Y : jY} {v0 : Nat} {μ : jM} {z : Int32 × jM} (H : f_X12_mirror Y v0 μ = some z) : jC l yX12_mirror cX12_mirror 2 (some .int) 1 0 0 [.ref v0] n Y μ n Y (some (.int z.1)) z.2 := by
  refine jC_of (by decide +kernel) (Nat.le_of_ble_eq_true rfl) (fun X hl K _ _ _ => ?_)
  obtain ⟨rr, μr⟩ := z
  exact t_X12_mirror_0 K hl H rfl
/-! RX12 isSome(II)Z -/
def b_X12_isSome_112 (Y : jY) (t0 : Int32) (μ : jM) : Option (Int32 × jM) :=
  (jbool t0).bind fun x1 =>
  some (x1, μ)
def b_X12_isSome_111 (Y : jY) (μ : jM) : Option (Int32 × jM) :=
  b_X12_isSome_112 Y (0 : Int32) μ
def b_X12_isSome_85 (Y : jY) (t0 : Int32) (μ : jM) : Option (Int32 × jM) :=
  (jbool t0).bind fun x1 =>
  some (x1, μ)
def b_X12_isSome_66 (Y : jY) (t0 : Int32) (μ : jM) : Option (Int32 × jM) :=
  (jbool t0).bind fun x1 =>
  some (x1, μ)
def b_X12_isSome_61 (Y : jY) (μ : jM) : Option (Int32 × jM) :=
  b_X12_isSome_66 Y (1 : Int32) μ
def b_X12_isSome_65 (Y : jY) (μ : jM) : Option (Int32 × jM) :=
  b_X12_isSome_66 Y (0 : Int32) μ
def b_X12_isSome_31 (Y : jY) (v0 : Nat) (μ : jM) : Option (Int32 × jM) :=
  (jgI Y μ v0 12 10).bind fun x1 =>
  if x1 = ((3 : Int32)) then
    (jgI Y μ v0 12 42).bind fun x2 =>
    (jgI Y μ v0 12 44).bind fun x3 =>
    if x2 = x3 then
      (jgI Y μ v0 12 45).bind fun x4 =>
      (jgI Y μ v0 12 46).bind fun x5 =>
      if x4 = x5 then
        b_X12_isSome_61 Y μ
      else
        b_X12_isSome_65 Y μ
    else
      b_X12_isSome_65 Y μ
  else
    b_X12_isSome_65 Y μ
def f_X12_isSome (Y : jY) (v0 : Nat) (v1 : Int32) (v2 : Int32) (μ : jM) : Option (Int32 × jM) :=
  if v1 = 0 then
    (jgI Y μ v0 12 10).bind fun x13 =>
    if x13 = ((1 : Int32)) then
      b_X12_isSome_61 Y μ
    else
      (jgI Y μ v0 12 10).bind fun x14 =>
      if x14 = ((2 : Int32)) then
        (jgI Y μ v0 12 42).bind fun x15 =>
        (jgI Y μ v0 12 43).bind fun x16 =>
        if x15 = x16 then
          b_X12_isSome_61 Y μ
        else
          b_X12_isSome_31 Y v0 μ
      else
        b_X12_isSome_31 Y v0 μ
  else
    if v1 = ((1 : Int32)) then
      (jrcv Y v0 12 (f_X12_first Y v0 μ)).bind fun r12 =>
      if r12.1 = v2 then
        b_X12_isSome_85 Y (1 : Int32) r12.2
      else
        b_X12_isSome_85 Y (0 : Int32) r12.2
    else
      if v1 = ((2 : Int32)) then
        (jgI Y μ v0 12 10).bind fun x10 =>
        if x10 ≤ ((1 : Int32)) then
          b_X12_isSome_111 Y μ
        else
          (jgI Y μ v0 12 45).bind fun x11 =>
          if x11 = v2 then
            b_X12_isSome_112 Y (1 : Int32) μ
          else
            b_X12_isSome_111 Y μ
      else
        (jgI Y μ v0 12 10).bind fun x1 =>
        if ((3 : Int32)) ≤ x1 then
          (jgI Y μ v0 12 42).bind fun x2 =>
          (jgI Y μ v0 12 43).bind fun x3 =>
          (jgI Y μ v0 12 42).bind fun x4 =>
          (jgI Y μ v0 12 43).bind fun x5 =>
          (jgI Y μ v0 12 45).bind fun x6 =>
          (f_X12_isSquare Y ((((((x2 - x3)) * ((x4 - x5)))) + ((((4 : Int32)) * x6)))) μ).bind fun r7 =>
          (jbool r7.1).bind fun x8 =>
          some (x8, r7.2)
        else
          (jbool ((1 : Int32))).bind fun x9 =>
          some (x9, μ)
set_option maxRecDepth 10000 in
theorem t_X12_isSome_112 {X : jX} {l : Launch} {n : Nat} {Y : jY} (K : jOK X RX12 cX12_isSome 3 (some .boolean) 2) (hl : X.2.1 = l) {rr : Int32} {μr : jM} {t0 : Int32} {μ : jM} {z : (Int32 × jM)} (H : b_X12_isSome_112 Y t0 μ = some z) (D : z = (rr, μr)) : JW X (jEnd X n Y (some (.int rr)) μr 0 0) 0 0 n Y 112 [] [.int t0] μ := by
  unfold b_X12_isSome_112 at H
  refine w_zret K dX12_isSome_112 H (fun hz H => ?_)
  cases H
  obtain ⟨rfl, rfl⟩ := jfin2 D
  exact r_zret K hz dX12_isSome_112
set_option maxRecDepth 10000 in
theorem t_X12_isSome_111 {X : jX} {l : Launch} {n : Nat} {Y : jY} (K : jOK X RX12 cX12_isSome 3 (some .boolean) 2) (hl : X.2.1 = l) {rr : Int32} {μr : jM} {μ : jM} {z : (Int32 × jM)} (H : b_X12_isSome_111 Y μ = some z) (D : z = (rr, μr)) : JW X (jEnd X n Y (some (.int rr)) μr 0 0) 0 0 n Y 111 [] [] μ := by
  unfold b_X12_isSome_111 at H
  refine r_iconst (v := 0) K dX12_isSome_111 (by decide) ?_
  exact r_sub [] rfl (t_X12_isSome_112 K hl H D)
set_option maxRecDepth 10000 in
theorem t_X12_isSome_85 {X : jX} {l : Launch} {n : Nat} {Y : jY} (K : jOK X RX12 cX12_isSome 3 (some .boolean) 2) (hl : X.2.1 = l) {rr : Int32} {μr : jM} {t0 : Int32} {μ : jM} {z : (Int32 × jM)} (H : b_X12_isSome_85 Y t0 μ = some z) (D : z = (rr, μr)) : JW X (jEnd X n Y (some (.int rr)) μr 0 0) 0 0 n Y 85 [] [.int t0] μ := by
  unfold b_X12_isSome_85 at H
  refine w_zret K dX12_isSome_85 H (fun hz H => ?_)
  cases H
  obtain ⟨rfl, rfl⟩ := jfin2 D
  exact r_zret K hz dX12_isSome_85
set_option maxRecDepth 10000 in
theorem t_X12_isSome_66 {X : jX} {l : Launch} {n : Nat} {Y : jY} (K : jOK X RX12 cX12_isSome 3 (some .boolean) 2) (hl : X.2.1 = l) {rr : Int32} {μr : jM} {t0 : Int32} {μ : jM} {z : (Int32 × jM)} (H : b_X12_isSome_66 Y t0 μ = some z) (D : z = (rr, μr)) : JW X (jEnd X n Y (some (.int rr)) μr 0 0) 0 0 n Y 66 [] [.int t0] μ := by
  unfold b_X12_isSome_66 at H
  refine w_zret K dX12_isSome_66 H (fun hz H => ?_)
  cases H
  obtain ⟨rfl, rfl⟩ := jfin2 D
  exact r_zret K hz dX12_isSome_66
set_option maxRecDepth 10000 in
theorem t_X12_isSome_61 {X : jX} {l : Launch} {n : Nat} {Y : jY} (K : jOK X RX12 cX12_isSome 3 (some .boolean) 2) (hl : X.2.1 = l) {rr : Int32} {μr : jM} {μ : jM} {z : (Int32 × jM)} (H : b_X12_isSome_61 Y μ = some z) (D : z = (rr, μr)) : JW X (jEnd X n Y (some (.int rr)) μr 0 0) 0 0 n Y 61 [] [] μ := by
  unfold b_X12_isSome_61 at H
  refine r_iconst (v := 1) K dX12_isSome_61 (by decide) ?_
  refine r_goto K 66 dX12_isSome_62 (by decide) ?_
  exact r_sub [] rfl (t_X12_isSome_66 K hl H D)
set_option maxRecDepth 10000 in
theorem t_X12_isSome_65 {X : jX} {l : Launch} {n : Nat} {Y : jY} (K : jOK X RX12 cX12_isSome 3 (some .boolean) 2) (hl : X.2.1 = l) {rr : Int32} {μr : jM} {μ : jM} {z : (Int32 × jM)} (H : b_X12_isSome_65 Y μ = some z) (D : z = (rr, μr)) : JW X (jEnd X n Y (some (.int rr)) μr 0 0) 0 0 n Y 65 [] [] μ := by
  unfold b_X12_isSome_65 at H
  refine r_iconst (v := 0) K dX12_isSome_65 (by decide) ?_
  exact r_sub [] rfl (t_X12_isSome_66 K hl H D)
set_option maxRecDepth 10000 in
theorem t_X12_isSome_31 {X : jX} {l : Launch} {n : Nat} {Y : jY} (K : jOK X RX12 cX12_isSome 3 (some .boolean) 2) (hl : X.2.1 = l) {rr : Int32} {μr : jM} {v0 : Nat} {μ : jM} {z : (Int32 × jM)} (H : b_X12_isSome_31 Y v0 μ = some z) (D : z = (rr, μr)) : JW X (jEnd X n Y (some (.int rr)) μr 0 0) 0 0 n Y 31 [(0, .ref v0)] [] μ := by
  unfold b_X12_isSome_31 at H
  refine r_aload_n K 0 dX12_isSome_31 rfl rfl ?_
  refine w_getI K vc12 inX12 10 (by decide) mF_RX12_145 dX12_isSome_32 H (fun x1 H => ?_)
  refine r_iconst (v := 3) K dX12_isSome_35 (by decide) ?_
  refine w_icmp_ne K 65 dX12_isSome_36 (by decide) H (fun _ H => ?_) (fun _ H => ?_)
  · exact r_sub [] rfl (t_X12_isSome_65 K hl H D)
  · refine r_aload_n K 0 dX12_isSome_39 rfl rfl ?_
    refine w_getI K vc12 inX12 42 (by decide) mF_RX12_323 dX12_isSome_40 H (fun x2 H => ?_)
    refine r_aload_n K 0 dX12_isSome_43 rfl rfl ?_
    refine w_getI K vc12 inX12 44 (by decide) mF_RX12_338 dX12_isSome_44 H (fun x3 H => ?_)
    refine w_icmp_ne K 65 dX12_isSome_47 (by decide) H (fun _ H => ?_) (fun _ H => ?_)
    · exact r_sub [] rfl (t_X12_isSome_65 K hl H D)
    · refine r_aload_n K 0 dX12_isSome_50 rfl rfl ?_
      refine w_getI K vc12 inX12 45 (by decide) mF_RX12_329 dX12_isSome_51 H (fun x4 H => ?_)
      refine r_aload_n K 0 dX12_isSome_54 rfl rfl ?_
      refine w_getI K vc12 inX12 46 (by decide) mF_RX12_341 dX12_isSome_55 H (fun x5 H => ?_)
      refine w_icmp_ne K 65 dX12_isSome_58 (by decide) H (fun _ H => ?_) (fun _ H => ?_)
      · exact r_sub [] rfl (t_X12_isSome_65 K hl H D)
      · exact r_sub [] rfl (t_X12_isSome_61 K hl H D)
set_option maxRecDepth 10000 in
theorem t_X12_isSome_0 {X : jX} {l : Launch} {n : Nat} {Y : jY} (K : jOK X RX12 cX12_isSome 3 (some .boolean) 2) (hl : X.2.1 = l) {rr : Int32} {μr : jM} {v0 : Nat} {v1 : Int32} {v2 : Int32} {μ : jM} {z : (Int32 × jM)} (H : f_X12_isSome Y v0 v1 v2 μ = some z) (D : z = (rr, μr)) : JW X (jEnd X n Y (some (.int rr)) μr 0 0) 0 0 n Y 0 [(0, .ref v0), (1, .int v1), (2, .int v2)] [] μ := by
  unfold f_X12_isSome at H
  refine r_iload_n K 1 dX12_isSome_0 rfl rfl ?_
  refine w_if_ne K 67 dX12_isSome_1 (by decide) H (fun _ H => ?_) (fun _ H => ?_)
  · refine r_iload_n K 1 dX12_isSome_67 rfl rfl ?_
    refine r_iconst (v := 1) K dX12_isSome_68 (by decide) ?_
    refine w_icmp_ne K 86 dX12_isSome_69 (by decide) H (fun _ H => ?_) (fun _ H => ?_)
    · refine r_iload_n K 1 dX12_isSome_86 rfl rfl ?_
      refine r_iconst (v := 2) K dX12_isSome_87 (by decide) ?_
      refine w_icmp_ne K 113 dX12_isSome_88 (by decide) H (fun _ H => ?_) (fun _ H => ?_)
      · refine r_aload_n K 0 dX12_isSome_113 rfl rfl ?_
        refine w_getI K vc12 inX12 10 (by decide) mF_RX12_145 dX12_isSome_114 H (fun x1 H => ?_)
        refine r_iconst (v := 3) K dX12_isSome_117 (by decide) ?_
        refine w_icmp_ge K 123 dX12_isSome_118 (by decide) H (fun _ H => ?_) (fun _ H => ?_)
        · refine r_aload_n K 0 dX12_isSome_123 rfl rfl ?_
          refine w_getI K vc12 inX12 42 (by decide) mF_RX12_323 dX12_isSome_124 H (fun x2 H => ?_)
          refine r_aload_n K 0 dX12_isSome_127 rfl rfl ?_
          refine w_getI K vc12 inX12 43 (by decide) mF_RX12_326 dX12_isSome_128 H (fun x3 H => ?_)
          refine r_isub K dX12_isSome_131 ?_
          refine r_aload_n K 0 dX12_isSome_132 rfl rfl ?_
          refine w_getI K vc12 inX12 42 (by decide) mF_RX12_323 dX12_isSome_133 H (fun x4 H => ?_)
          refine r_aload_n K 0 dX12_isSome_136 rfl rfl ?_
          refine w_getI K vc12 inX12 43 (by decide) mF_RX12_326 dX12_isSome_137 H (fun x5 H => ?_)
          refine r_isub K dX12_isSome_140 ?_
          refine r_imul K dX12_isSome_141 ?_
          refine r_iconst (v := 4) K dX12_isSome_142 (by decide) ?_
          refine r_aload_n K 0 dX12_isSome_143 rfl rfl ?_
          refine w_getI K vc12 inX12 45 (by decide) mF_RX12_329 dX12_isSome_144 H (fun x6 H => ?_)
          refine r_imul K dX12_isSome_147 ?_
          refine r_iadd K dX12_isSome_148 ?_
          refine w_callS K hl H (fun r h => c_X12_isSquare l h) mC_yX12_isSquare mM_RX12_320 mT_yX12_isSquare mZ_RX12 (Nat.le_of_ble_eq_true rfl) (Nat.le_of_ble_eq_true rfl) np_yX12_isSquare rfl (Nat.le_of_ble_eq_true rfl) dX12_isSome_149 (fun r7 H => ?_) ⟨Nat.zero_le _, Nat.zero_le _⟩
          refine w_zret K dX12_isSome_152 H (fun hz H => ?_)
          cases H
          obtain ⟨rfl, rfl⟩ := jfin2 D
          exact r_zret K hz dX12_isSome_152
        · refine r_iconst (v := 1) K dX12_isSome_121 (by decide) ?_
          refine w_zret K dX12_isSome_122 H (fun hz H => ?_)
          cases H
          obtain ⟨rfl, rfl⟩ := jfin2 D
          exact r_zret K hz dX12_isSome_122
      · refine r_aload_n K 0 dX12_isSome_91 rfl rfl ?_
        refine w_getI K vc12 inX12 10 (by decide) mF_RX12_145 dX12_isSome_92 H (fun x10 H => ?_)
        refine r_iconst (v := 1) K dX12_isSome_95 (by decide) ?_
        refine w_icmp_le K 111 dX12_isSome_96 (by decide) H (fun _ H => ?_) (fun _ H => ?_)
        · exact r_sub [] rfl (t_X12_isSome_111 K hl H D)
        · refine r_aload_n K 0 dX12_isSome_99 rfl rfl ?_
          refine w_getI K vc12 inX12 45 (by decide) mF_RX12_329 dX12_isSome_100 H (fun x11 H => ?_)
          refine r_iload_n K 2 dX12_isSome_103 rfl rfl ?_
          refine w_icmp_ne K 111 dX12_isSome_104 (by decide) H (fun _ H => ?_) (fun _ H => ?_)
          · exact r_sub [] rfl (t_X12_isSome_111 K hl H D)
          · refine r_iconst (v := 1) K dX12_isSome_107 (by decide) ?_
            refine r_goto K 112 dX12_isSome_108 (by decide) ?_
            exact r_sub [] rfl (t_X12_isSome_112 K hl H D)
    · refine r_aload_n K 0 dX12_isSome_72 rfl rfl ?_
      refine w_callV K hl H (fun r h => c_X12_first l h) mC_yX12_first mM_RX12_344 mI_yX12_first mS_yX12_first mZ_RX12 vc12 (Nat.le_of_ble_eq_true rfl) (Nat.le_of_ble_eq_true rfl) np_yX12_first rfl (Nat.le_of_ble_eq_true rfl) dX12_isSome_73 (fun r12 H => ?_) ⟨Nat.zero_le _, Nat.zero_le _⟩
      refine r_iload_n K 2 dX12_isSome_76 rfl rfl ?_
      refine w_icmp_ne K 84 dX12_isSome_77 (by decide) H (fun _ H => ?_) (fun _ H => ?_)
      · refine r_iconst (v := 0) K dX12_isSome_84 (by decide) ?_
        exact r_sub [] rfl (t_X12_isSome_85 K hl H D)
      · refine r_iconst (v := 1) K dX12_isSome_80 (by decide) ?_
        refine r_goto K 85 dX12_isSome_81 (by decide) ?_
        exact r_sub [] rfl (t_X12_isSome_85 K hl H D)
  · refine r_aload_n K 0 dX12_isSome_4 rfl rfl ?_
    refine w_getI K vc12 inX12 10 (by decide) mF_RX12_145 dX12_isSome_5 H (fun x13 H => ?_)
    refine r_iconst (v := 1) K dX12_isSome_8 (by decide) ?_
    refine w_icmp_eq K 61 dX12_isSome_9 (by decide) H (fun _ H => ?_) (fun _ H => ?_)
    · exact r_sub [] rfl (t_X12_isSome_61 K hl H D)
    · refine r_aload_n K 0 dX12_isSome_12 rfl rfl ?_
      refine w_getI K vc12 inX12 10 (by decide) mF_RX12_145 dX12_isSome_13 H (fun x14 H => ?_)
      refine r_iconst (v := 2) K dX12_isSome_16 (by decide) ?_
      refine w_icmp_ne K 31 dX12_isSome_17 (by decide) H (fun _ H => ?_) (fun _ H => ?_)
      · exact r_sub [0] rfl (t_X12_isSome_31 K hl H D)
      · refine r_aload_n K 0 dX12_isSome_20 rfl rfl ?_
        refine w_getI K vc12 inX12 42 (by decide) mF_RX12_323 dX12_isSome_21 H (fun x15 H => ?_)
        refine r_aload_n K 0 dX12_isSome_24 rfl rfl ?_
        refine w_getI K vc12 inX12 43 (by decide) mF_RX12_326 dX12_isSome_25 H (fun x16 H => ?_)
        refine w_icmp_eq K 61 dX12_isSome_28 (by decide) H (fun _ H => ?_) (fun _ H => ?_)
        · exact r_sub [] rfl (t_X12_isSome_61 K hl H D)
        · exact r_sub [0] rfl (t_X12_isSome_31 K hl H D)
theorem c_X12_isSome (l : Launch) {n : Nat} {Y : jY} {v0 : Nat} {v1 : Int32} {v2 : Int32} {μ : jM} {z : Int32 × jM} (H : f_X12_isSome Y v0 v1 v2 μ = some z) : jC l yX12_isSome cX12_isSome 3 (some .boolean) 2 0 0 [.ref v0, .int v1, .int v2] n Y μ n Y (some (.int z.1)) z.2 := by
  refine jC_of (by decide +kernel) (Nat.le_of_ble_eq_true rfl) (fun X hl K _ _ _ => ?_)
  obtain ⟨rr, μr⟩ := z
  exact t_X12_isSome_0 K hl H rfl
/-! RX12 some(II)I -/
def b_X12_some_16 (Y : jY) (μ : jM) : Option (Int32 × jM) :=
  some ((-1 : Int32), μ)
def b_X12_some_57 (Y : jY) (v0 : Nat) (v1 : Int32) (v2 : Int32) (t0 : Int32) (t1 : Int32) (μ : jM) : Option ((Int32 × jM) ⊕ (Int32 × jM)) :=
  some (.inl ((t0 + t1), μ))
def b_X12_some_35 (Y : jY) (v0 : Nat) (v1 : Int32) (v2 : Int32) (v3 : Int32) (μ : jM) : Option ((Int32 × jM) ⊕ (Int32 × jM)) :=
  (jrcv Y v0 12 (f_X12_goesOn Y v0 μ)).bind fun r1 =>
  if r1.1 = 0 then
    some (.inr (v3, r1.2))
  else
    (jrcv Y v0 12 (f_X12_isSome Y v0 v1 v2 r1.2)).bind fun r2 =>
    if r2.1 = 0 then
      b_X12_some_57 Y v0 v1 v2 v3 (0 : Int32) r2.2
    else
      b_X12_some_57 Y v0 v1 v2 v3 (1 : Int32) r2.2
def f_X12_some (Y : jY) (v0 : Nat) (v1 : Int32) (v2 : Int32) (μ : jM) : Option (Int32 × jM) :=
  (jgI Y μ v0 12 10).bind fun x1 =>
  if x1 = 0 then
    b_X12_some_16 Y μ
  else
    (f_X12_in Y v1 ((0 : Int32)) ((3 : Int32)) μ).bind fun r2 =>
    if r2.1 = 0 then
      b_X12_some_16 Y r2.2
    else
      (jgI Y r2.2 v0 12 10).bind fun x3 =>
      if x3 ≤ ((3 : Int32)) then
        (jrcv Y v0 12 (f_X12_begin0 Y v0 r2.2)).bind fun μ4 =>
        jit jF (fun (s : Int32 × jM) => b_X12_some_35 Y v0 v1 v2 s.1 s.2) ((0 : Int32), μ4)
      else
        some ((-2 : Int32), r2.2)
set_option maxRecDepth 10000 in
theorem t_X12_some_16 {X : jX} {l : Launch} {n : Nat} {Y : jY} (K : jOK X RX12 cX12_some 4 (some .int) 4) (hl : X.2.1 = l) {rr : Int32} {μr : jM} {μ : jM} {z : (Int32 × jM)} (H : b_X12_some_16 Y μ = some z) (D : z = (rr, μr)) : JW X (jEnd X n Y (some (.int rr)) μr 0 0) 0 0 n Y 16 [] [] μ := by
  unfold b_X12_some_16 at H
  refine r_iconst (v := -1) K dX12_some_16 (by decide) ?_
  cases H
  obtain ⟨rfl, rfl⟩ := jfin2 D
  exact r_iret K dX12_some_17
set_option maxRecDepth 10000 in
theorem t_X12_some_57 {X : jX} {l : Launch} {n : Nat} {Y : jY} (K : jOK X RX12 cX12_some 4 (some .int) 4) (hl : X.2.1 = l) {rr : Int32} {μr : jM} {v0 : Nat} {v1 : Int32} {v2 : Int32} {t0 : Int32} {t1 : Int32} {μ : jM} {z : ((Int32 × jM) ⊕ (Int32 × jM))} (H : b_X12_some_57 Y v0 v1 v2 t0 t1 μ = some z) (D : Sum.elim (fun (s : Int32 × jM) => JW X (jEnd X n Y (some (.int rr)) μr 0 0) 0 0 n Y 35 [(0, .ref v0), (1, .int v1), (2, .int v2), (3, .int s.1)] [] s.2) (fun r => r = (rr, μr)) z) : JW X (jEnd X n Y (some (.int rr)) μr 0 0) 0 0 n Y 57 [(0, .ref v0), (1, .int v1), (2, .int v2)] [.int t1, .int t0] μ := by
  unfold b_X12_some_57 at H
  refine r_iadd K dX12_some_57 ?_
  refine r_istore_n K [(3, .int _), (0, .ref _), (1, .int _), (2, .int _)] dX12_some_58 rfl (by decide) rfl ?_
  refine r_goto K 35 dX12_some_59 (by decide) ?_
  cases H
  exact r_sub [1, 2, 3, 0] rfl D
set_option maxRecDepth 10000 in
theorem t_X12_some_35 {X : jX} {l : Launch} {n : Nat} {Y : jY} (K : jOK X RX12 cX12_some 4 (some .int) 4) (hl : X.2.1 = l) {rr : Int32} {μr : jM} {v0 : Nat} {v1 : Int32} {v2 : Int32} {v3 : Int32} {μ : jM} {z : ((Int32 × jM) ⊕ (Int32 × jM))} (H : b_X12_some_35 Y v0 v1 v2 v3 μ = some z) (D : Sum.elim (fun (s : Int32 × jM) => JW X (jEnd X n Y (some (.int rr)) μr 0 0) 0 0 n Y 35 [(0, .ref v0), (1, .int v1), (2, .int v2), (3, .int s.1)] [] s.2) (fun r => r = (rr, μr)) z) : JW X (jEnd X n Y (some (.int rr)) μr 0 0) 0 0 n Y 35 [(0, .ref v0), (1, .int v1), (2, .int v2), (3, .int v3)] [] μ := by
  unfold b_X12_some_35 at H
  refine r_aload_n K 0 dX12_some_35 rfl rfl ?_
  refine w_callV K hl H (fun r h => c_X12_goesOn l h) mC_yX12_goesOn mM_RX12_350 mI_yX12_goesOn mS_yX12_goesOn mZ_RX12 vc12 (Nat.le_of_ble_eq_true rfl) (Nat.le_of_ble_eq_true rfl) np_yX12_goesOn rfl (Nat.le_of_ble_eq_true rfl) dX12_some_36 (fun r1 H => ?_) ⟨Nat.zero_le _, Nat.zero_le _⟩
  refine w_if_eq K 62 dX12_some_39 (by decide) H (fun _ H => ?_) (fun _ H => ?_)
  · refine r_iload_n K 3 dX12_some_62 rfl rfl ?_
    cases H
    simp only [Sum.elim_inr] at D
    obtain ⟨rfl, rfl⟩ := jfin2 D
    exact r_iret K dX12_some_63
  · refine r_iload_n K 3 dX12_some_42 rfl rfl ?_
    refine r_aload_n K 0 dX12_some_43 rfl rfl ?_
    refine r_iload_n K 1 dX12_some_44 rfl rfl ?_
    refine r_iload_n K 2 dX12_some_45 rfl rfl ?_
    refine w_callV K hl H (fun r h => c_X12_isSome l h) mC_yX12_isSome mM_RX12_356 mI_yX12_isSome mS_yX12_isSome mZ_RX12 vc12 (Nat.le_of_ble_eq_true rfl) (Nat.le_of_ble_eq_true rfl) np_yX12_isSome rfl (Nat.le_of_ble_eq_true rfl) dX12_some_46 (fun r2 H => ?_) ⟨Nat.zero_le _, Nat.zero_le _⟩
    refine w_if_eq K 56 dX12_some_49 (by decide) H (fun _ H => ?_) (fun _ H => ?_)
    · refine r_iconst (v := 0) K dX12_some_56 (by decide) ?_
      exact r_sub [0, 1, 2] rfl (t_X12_some_57 K hl H D)
    · refine r_iconst (v := 1) K dX12_some_52 (by decide) ?_
      refine r_goto K 57 dX12_some_53 (by decide) ?_
      exact r_sub [0, 1, 2] rfl (t_X12_some_57 K hl H D)
set_option maxRecDepth 10000 in
theorem l_X12_some_35 {X : jX} {l : Launch} {n : Nat} {Y : jY} (K : jOK X RX12 cX12_some 4 (some .int) 4) (hl : X.2.1 = l) {rr : Int32} {μr : jM} {v0 : Nat} {v1 : Int32} {v2 : Int32}  {s0 : Int32 × jM} {z : (Int32 × jM)} (H : jit jF (fun (s : Int32 × jM) => b_X12_some_35 Y v0 v1 v2 s.1 s.2) s0 = some z) (D : z = (rr, μr)) : JW X (jEnd X n Y (some (.int rr)) μr 0 0) 0 0 n Y 35 [(0, .ref v0), (1, .int v1), (2, .int v2), (3, .int s0.1)] [] s0.2 :=
  jit_ind (P := fun (s : Int32 × jM) => JW X (jEnd X n Y (some (.int rr)) μr 0 0) 0 0 n Y 35 [(0, .ref v0), (1, .int v1), (2, .int v2), (3, .int s.1)] [] s.2) (D := fun r => r = (rr, μr)) (fun s z Hs Ds => t_X12_some_35 K hl Hs Ds) jF s0 z H D
set_option maxRecDepth 10000 in
theorem t_X12_some_0 {X : jX} {l : Launch} {n : Nat} {Y : jY} (K : jOK X RX12 cX12_some 4 (some .int) 4) (hl : X.2.1 = l) {rr : Int32} {μr : jM} {v0 : Nat} {v1 : Int32} {v2 : Int32} {μ : jM} {z : (Int32 × jM)} (H : f_X12_some Y v0 v1 v2 μ = some z) (D : z = (rr, μr)) : JW X (jEnd X n Y (some (.int rr)) μr 0 0) 0 0 n Y 0 [(0, .ref v0), (1, .int v1), (2, .int v2)] [] μ := by
  unfold f_X12_some at H
  refine r_aload_n K 0 dX12_some_0 rfl rfl ?_
  refine w_getI K vc12 inX12 10 (by decide) mF_RX12_145 dX12_some_1 H (fun x1 H => ?_)
  refine w_if_eq K 16 dX12_some_4 (by decide) H (fun _ H => ?_) (fun _ H => ?_)
  · exact r_sub [] rfl (t_X12_some_16 K hl H D)
  · refine r_iload_n K 1 dX12_some_7 rfl rfl ?_
    refine r_iconst (v := 0) K dX12_some_8 (by decide) ?_
    refine r_iconst (v := 3) K dX12_some_9 (by decide) ?_
    refine w_callS K hl H (fun r h => c_X12_in l h) mC_yX12_in mM_RX12_134 mT_yX12_in mZ_RX12 (Nat.le_of_ble_eq_true rfl) (Nat.le_of_ble_eq_true rfl) np_yX12_in rfl (Nat.le_of_ble_eq_true rfl) dX12_some_10 (fun r2 H => ?_) ⟨Nat.zero_le _, Nat.zero_le _⟩
    refine w_if_ne K 18 dX12_some_13 (by decide) H (fun _ H => ?_) (fun _ H => ?_)
    · refine r_aload_n K 0 dX12_some_18 rfl rfl ?_
      refine w_getI K vc12 inX12 10 (by decide) mF_RX12_145 dX12_some_19 H (fun x3 H => ?_)
      refine r_iconst (v := 3) K dX12_some_22 (by decide) ?_
      refine w_icmp_le K 29 dX12_some_23 (by decide) H (fun _ H => ?_) (fun _ H => ?_)
      · refine r_iconst (v := 0) K dX12_some_29 (by decide) ?_
        refine r_istore_n K [(3, .int _), (0, .ref _), (1, .int _), (2, .int _)] dX12_some_30 rfl (by decide) rfl ?_
        refine r_aload_n K 1 dX12_some_31 rfl rfl ?_
        refine w_callV K hl H (fun r h => c_X12_begin0 l h) mC_yX12_begin0 mM_RX12_347 mI_yX12_begin0 mS_yX12_begin0 mZ_RX12 vc12 (Nat.le_of_ble_eq_true rfl) (Nat.le_of_ble_eq_true rfl) np_yX12_begin0 rfl (Nat.le_of_ble_eq_true rfl) dX12_some_32 (fun μ4 H => ?_) ⟨Nat.zero_le _, Nat.zero_le _⟩
        exact r_sub [1, 2, 3, 0] rfl (l_X12_some_35 K hl H D)
      · refine r_bipush (v := -2) K dX12_some_26 (by decide) ?_
        cases H
        obtain ⟨rfl, rfl⟩ := jfin2 D
        exact r_iret K dX12_some_28
    · exact r_sub [] rfl (t_X12_some_16 K hl H D)
theorem c_X12_some (l : Launch) {n : Nat} {Y : jY} {v0 : Nat} {v1 : Int32} {v2 : Int32} {μ : jM} {z : Int32 × jM} (H : f_X12_some Y v0 v1 v2 μ = some z) : jC l yX12_some cX12_some 4 (some .int) 4 0 0 [.ref v0, .int v1, .int v2] n Y μ n Y (some (.int z.1)) z.2 := by
  refine jC_of (by decide +kernel) (Nat.le_of_ble_eq_true rfl) (fun X hl K _ _ _ => ?_)
  obtain ⟨rr, μr⟩ := z
  exact t_X12_some_0 K hl H rfl
/-! RX12 keep()I -/
def b_X12_keep_101 (Y : jY) (v0 : Nat) (v1 : Int32) (v2 : Int32) (μ : jM) : Option ((Int32 × jM) ⊕ (Int32 × jM)) :=
  if ((20 : Int32)) ≤ v2 then
    (jgI Y μ v0 12 25).bind fun x1 =>
    some (.inr (x1, μ))
  else
    (jgO Y μ v0 12 30).bind fun x2 =>
    (jgO Y μ v0 12 27).bind fun x3 =>
    (jaI Y μ x3 20 v2).bind fun x4 =>
    (jas Y μ x2 20 ((((((20 : Int32)) * v1)) + v2)) (.int x4)).bind fun μ5 =>
    (jgO Y μ5 v0 12 31).bind fun x6 =>
    (jgO Y μ5 v0 12 28).bind fun x7 =>
    (jaI Y μ5 x7 20 v2).bind fun x8 =>
    (jas Y μ5 x6 20 ((((((20 : Int32)) * v1)) + v2)) (.int x8)).bind fun μ9 =>
    some (.inl ((v2 + (1 : Int32)), μ9))
def b_X12_keep_93 (Y : jY) (v0 : Nat) (v1 : Int32) (v2 : Int32) (μ : jM) : Option ((Int32 × jM) ⊕ (Int32 × jM)) :=
  some (.inl ((v2 + (1 : Int32)), μ))
def b_X12_keep_35 (Y : jY) (v0 : Nat) (v1 : Int32) (v2 : Int32) (μ : jM) : Option ((Int32 × jM) ⊕ (Int32 × jM)) :=
  if ((4 : Int32)) ≤ v2 then
    (jit jF (fun (s : Int32 × jM) => b_X12_keep_101 Y v0 v1 s.1 s.2) ((0 : Int32), μ)).map (fun r => (.inr r))
  else
    (jgO Y μ v0 12 33).bind fun x1 =>
    (jgO Y μ v0 12 11).bind fun x2 =>
    (jaI Y μ x2 20 v2).bind fun x3 =>
    (jas Y μ x1 20 ((((((4 : Int32)) * v1)) + v2)) (.int x3)).bind fun μ4 =>
    (jgO Y μ4 v0 12 29).bind fun x5 =>
    (jgO Y μ4 v0 12 26).bind fun x6 =>
    (jaI Y μ4 x6 20 v2).bind fun x7 =>
    (jas Y μ4 x5 20 ((((((4 : Int32)) * v1)) + v2)) (.int x7)).bind fun μ8 =>
    if ((3 : Int32)) ≤ v2 then
      b_X12_keep_93 Y v0 v1 v2 μ8
    else
      (jgO Y μ8 v0 12 34).bind fun x9 =>
      (jgO Y μ8 v0 12 12).bind fun x10 =>
      (jaI Y μ8 x10 20 v2).bind fun x11 =>
      (jas Y μ8 x9 20 ((((((3 : Int32)) * v1)) + v2)) (.int x11)).bind fun μ12 =>
      b_X12_keep_93 Y v0 v1 v2 μ12
def f_X12_keep (Y : jY) (v0 : Nat) (μ : jM) : Option (Int32 × jM) :=
  (jgI Y μ v0 12 25).bind fun x1 =>
  if x1 = ((8 : Int32)) then
    some ((-1 : Int32), μ)
  else
    (jgI Y μ v0 12 25).bind fun x2 =>
    (jput Y μ v0 12 25 (.int ((x2 + ((1 : Int32)))))).bind fun μ3 =>
    (jgO Y μ3 v0 12 32).bind fun x4 =>
    (jgI Y μ3 v0 12 10).bind fun x5 =>
    (jas Y μ3 x4 20 x2 (.int x5)).bind fun μ6 =>
    jit jF (fun (s : Int32 × jM) => b_X12_keep_35 Y v0 x2 s.1 s.2) ((0 : Int32), μ6)
set_option maxRecDepth 10000 in
theorem t_X12_keep_101 {X : jX} {l : Launch} {n : Nat} {Y : jY} (K : jOK X RX12 cX12_keep 3 (some .int) 1) (hl : X.2.1 = l) {rr : Int32} {μr : jM} {v0 : Nat} {v1 : Int32} {v2 : Int32} {μ : jM} {z : ((Int32 × jM) ⊕ (Int32 × jM))} (H : b_X12_keep_101 Y v0 v1 v2 μ = some z) (D : Sum.elim (fun (s : Int32 × jM) => JW X (jEnd X n Y (some (.int rr)) μr 0 0) 0 0 n Y 101 [(0, .ref v0), (1, .int v1), (2, .int s.1)] [] s.2) (fun r => r = (rr, μr)) z) : JW X (jEnd X n Y (some (.int rr)) μr 0 0) 0 0 n Y 101 [(0, .ref v0), (1, .int v1), (2, .int v2)] [] μ := by
  unfold b_X12_keep_101 at H
  refine r_iload_n K 2 dX12_keep_101 rfl rfl ?_
  refine r_bipush (v := 20) K dX12_keep_102 (by decide) ?_
  refine w_icmp_ge K 147 dX12_keep_104 (by decide) H (fun _ H => ?_) (fun _ H => ?_)
  · refine r_aload_n K 0 dX12_keep_147 rfl rfl ?_
    refine w_getI K vc12 inX12 25 (by decide) mF_RX12_148 dX12_keep_148 H (fun x1 H => ?_)
    cases H
    simp only [Sum.elim_inr] at D
    obtain ⟨rfl, rfl⟩ := jfin2 D
    exact r_iret K dX12_keep_151
  · refine r_aload_n K 0 dX12_keep_107 rfl rfl ?_
    refine w_getO K vc12 inX12 30 (by decide) mF_RX12_60 dX12_keep_108 H (fun x2 H => ?_)
    refine r_bipush (v := 20) K dX12_keep_111 (by decide) ?_
    refine r_iload_n K 1 dX12_keep_113 rfl rfl ?_
    refine r_imul K dX12_keep_114 ?_
    refine r_iload_n K 2 dX12_keep_115 rfl rfl ?_
    refine r_iadd K dX12_keep_116 ?_
    refine r_aload_n K 0 dX12_keep_117 rfl rfl ?_
    refine w_getO K vc12 inX12 27 (by decide) mF_RX12_51 dX12_keep_118 H (fun x3 H => ?_)
    refine r_iload_n K 2 dX12_keep_121 rfl rfl ?_
    refine w_iald K dX12_keep_122 H (fun x4 H => ?_)
    refine w_iast K dX12_keep_123 H (fun μ5 H => ?_)
    refine r_aload_n K 0 dX12_keep_124 rfl rfl ?_
    refine w_getO K vc12 inX12 31 (by decide) mF_RX12_63 dX12_keep_125 H (fun x6 H => ?_)
    refine r_bipush (v := 20) K dX12_keep_128 (by decide) ?_
    refine r_iload_n K 1 dX12_keep_130 rfl rfl ?_
    refine r_imul K dX12_keep_131 ?_
    refine r_iload_n K 2 dX12_keep_132 rfl rfl ?_
    refine r_iadd K dX12_keep_133 ?_
    refine r_aload_n K 0 dX12_keep_134 rfl rfl ?_
    refine w_getO K vc12 inX12 28 (by decide) mF_RX12_54 dX12_keep_135 H (fun x7 H => ?_)
    refine r_iload_n K 2 dX12_keep_138 rfl rfl ?_
    refine w_iald K dX12_keep_139 H (fun x8 H => ?_)
    refine w_iast K dX12_keep_140 H (fun μ9 H => ?_)
    refine r_iinc K 2 [(2, .int _), (0, .ref _), (1, .int _)] (v := _ + (1 : Int32)) dX12_keep_141 rfl rfl (by decide) rfl ?_
    refine r_goto K 101 dX12_keep_144 (by decide) ?_
    cases H
    exact r_sub [1, 2, 0] rfl D
set_option maxRecDepth 10000 in
theorem l_X12_keep_101 {X : jX} {l : Launch} {n : Nat} {Y : jY} (K : jOK X RX12 cX12_keep 3 (some .int) 1) (hl : X.2.1 = l) {rr : Int32} {μr : jM} {v0 : Nat} {v1 : Int32}  {s0 : Int32 × jM} {z : (Int32 × jM)} (H : jit jF (fun (s : Int32 × jM) => b_X12_keep_101 Y v0 v1 s.1 s.2) s0 = some z) (D : z = (rr, μr)) : JW X (jEnd X n Y (some (.int rr)) μr 0 0) 0 0 n Y 101 [(0, .ref v0), (1, .int v1), (2, .int s0.1)] [] s0.2 :=
  jit_ind (P := fun (s : Int32 × jM) => JW X (jEnd X n Y (some (.int rr)) μr 0 0) 0 0 n Y 101 [(0, .ref v0), (1, .int v1), (2, .int s.1)] [] s.2) (D := fun r => r = (rr, μr)) (fun s z Hs Ds => t_X12_keep_101 K hl Hs Ds) jF s0 z H D
set_option maxRecDepth 10000 in
theorem t_X12_keep_93 {X : jX} {l : Launch} {n : Nat} {Y : jY} (K : jOK X RX12 cX12_keep 3 (some .int) 1) (hl : X.2.1 = l) {rr : Int32} {μr : jM} {v0 : Nat} {v1 : Int32} {v2 : Int32} {μ : jM} {z : ((Int32 × jM) ⊕ (Int32 × jM))} (H : b_X12_keep_93 Y v0 v1 v2 μ = some z) (D : Sum.elim (fun (s : Int32 × jM) => JW X (jEnd X n Y (some (.int rr)) μr 0 0) 0 0 n Y 35 [(0, .ref v0), (1, .int v1), (2, .int s.1)] [] s.2) (fun r => r = (rr, μr)) z) : JW X (jEnd X n Y (some (.int rr)) μr 0 0) 0 0 n Y 93 [(0, .ref v0), (1, .int v1), (2, .int v2)] [] μ := by
  unfold b_X12_keep_93 at H
  refine r_iinc K 2 [(2, .int _), (0, .ref _), (1, .int _)] (v := _ + (1 : Int32)) dX12_keep_93 rfl rfl (by decide) rfl ?_
  refine r_goto K 35 dX12_keep_96 (by decide) ?_
  cases H
  exact r_sub [1, 2, 0] rfl D
set_option maxRecDepth 10000 in
theorem t_X12_keep_35 {X : jX} {l : Launch} {n : Nat} {Y : jY} (K : jOK X RX12 cX12_keep 3 (some .int) 1) (hl : X.2.1 = l) {rr : Int32} {μr : jM} {v0 : Nat} {v1 : Int32} {v2 : Int32} {μ : jM} {z : ((Int32 × jM) ⊕ (Int32 × jM))} (H : b_X12_keep_35 Y v0 v1 v2 μ = some z) (D : Sum.elim (fun (s : Int32 × jM) => JW X (jEnd X n Y (some (.int rr)) μr 0 0) 0 0 n Y 35 [(0, .ref v0), (1, .int v1), (2, .int s.1)] [] s.2) (fun r => r = (rr, μr)) z) : JW X (jEnd X n Y (some (.int rr)) μr 0 0) 0 0 n Y 35 [(0, .ref v0), (1, .int v1), (2, .int v2)] [] μ := by
  unfold b_X12_keep_35 at H
  refine r_iload_n K 2 dX12_keep_35 rfl rfl ?_
  refine r_iconst (v := 4) K dX12_keep_36 (by decide) ?_
  refine w_icmp_ge K 99 dX12_keep_37 (by decide) H (fun _ H => ?_) (fun _ H => ?_)
  · refine r_iconst (v := 0) K dX12_keep_99 (by decide) ?_
    refine r_istore_n K [(2, .int _), (0, .ref _), (1, .int _)] dX12_keep_100 rfl (by decide) rfl ?_
    obtain ⟨z2, H2, rfl⟩ := jmap H
    exact r_sub [1, 2, 0] rfl (l_X12_keep_101 K hl H2 D)
  · refine r_aload_n K 0 dX12_keep_40 rfl rfl ?_
    refine w_getO K vc12 inX12 33 (by decide) mF_RX12_69 dX12_keep_41 H (fun x1 H => ?_)
    refine r_iconst (v := 4) K dX12_keep_44 (by decide) ?_
    refine r_iload_n K 1 dX12_keep_45 rfl rfl ?_
    refine r_imul K dX12_keep_46 ?_
    refine r_iload_n K 2 dX12_keep_47 rfl rfl ?_
    refine r_iadd K dX12_keep_48 ?_
    refine r_aload_n K 0 dX12_keep_49 rfl rfl ?_
    refine w_getO K vc12 inX12 11 (by decide) mF_RX12_20 dX12_keep_50 H (fun x2 H => ?_)
    refine r_iload_n K 2 dX12_keep_53 rfl rfl ?_
    refine w_iald K dX12_keep_54 H (fun x3 H => ?_)
    refine w_iast K dX12_keep_55 H (fun μ4 H => ?_)
    refine r_aload_n K 0 dX12_keep_56 rfl rfl ?_
    refine w_getO K vc12 inX12 29 (by decide) mF_RX12_57 dX12_keep_57 H (fun x5 H => ?_)
    refine r_iconst (v := 4) K dX12_keep_60 (by decide) ?_
    refine r_iload_n K 1 dX12_keep_61 rfl rfl ?_
    refine r_imul K dX12_keep_62 ?_
    refine r_iload_n K 2 dX12_keep_63 rfl rfl ?_
    refine r_iadd K dX12_keep_64 ?_
    refine r_aload_n K 0 dX12_keep_65 rfl rfl ?_
    refine w_getO K vc12 inX12 26 (by decide) mF_RX12_48 dX12_keep_66 H (fun x6 H => ?_)
    refine r_iload_n K 2 dX12_keep_69 rfl rfl ?_
    refine w_iald K dX12_keep_70 H (fun x7 H => ?_)
    refine w_iast K dX12_keep_71 H (fun μ8 H => ?_)
    refine r_iload_n K 2 dX12_keep_72 rfl rfl ?_
    refine r_iconst (v := 3) K dX12_keep_73 (by decide) ?_
    refine w_icmp_ge K 93 dX12_keep_74 (by decide) H (fun _ H => ?_) (fun _ H => ?_)
    · exact r_sub [0, 1, 2] rfl (t_X12_keep_93 K hl H D)
    · refine r_aload_n K 0 dX12_keep_77 rfl rfl ?_
      refine w_getO K vc12 inX12 34 (by decide) mF_RX12_72 dX12_keep_78 H (fun x9 H => ?_)
      refine r_iconst (v := 3) K dX12_keep_81 (by decide) ?_
      refine r_iload_n K 1 dX12_keep_82 rfl rfl ?_
      refine r_imul K dX12_keep_83 ?_
      refine r_iload_n K 2 dX12_keep_84 rfl rfl ?_
      refine r_iadd K dX12_keep_85 ?_
      refine r_aload_n K 0 dX12_keep_86 rfl rfl ?_
      refine w_getO K vc12 inX12 12 (by decide) mF_RX12_23 dX12_keep_87 H (fun x10 H => ?_)
      refine r_iload_n K 2 dX12_keep_90 rfl rfl ?_
      refine w_iald K dX12_keep_91 H (fun x11 H => ?_)
      refine w_iast K dX12_keep_92 H (fun μ12 H => ?_)
      exact r_sub [0, 1, 2] rfl (t_X12_keep_93 K hl H D)
set_option maxRecDepth 10000 in
theorem l_X12_keep_35 {X : jX} {l : Launch} {n : Nat} {Y : jY} (K : jOK X RX12 cX12_keep 3 (some .int) 1) (hl : X.2.1 = l) {rr : Int32} {μr : jM} {v0 : Nat} {v1 : Int32}  {s0 : Int32 × jM} {z : (Int32 × jM)} (H : jit jF (fun (s : Int32 × jM) => b_X12_keep_35 Y v0 v1 s.1 s.2) s0 = some z) (D : z = (rr, μr)) : JW X (jEnd X n Y (some (.int rr)) μr 0 0) 0 0 n Y 35 [(0, .ref v0), (1, .int v1), (2, .int s0.1)] [] s0.2 :=
  jit_ind (P := fun (s : Int32 × jM) => JW X (jEnd X n Y (some (.int rr)) μr 0 0) 0 0 n Y 35 [(0, .ref v0), (1, .int v1), (2, .int s.1)] [] s.2) (D := fun r => r = (rr, μr)) (fun s z Hs Ds => t_X12_keep_35 K hl Hs Ds) jF s0 z H D
set_option maxRecDepth 10000 in
theorem t_X12_keep_0 {X : jX} {l : Launch} {n : Nat} {Y : jY} (K : jOK X RX12 cX12_keep 3 (some .int) 1) (hl : X.2.1 = l) {rr : Int32} {μr : jM} {v0 : Nat} {μ : jM} {z : (Int32 × jM)} (H : f_X12_keep Y v0 μ = some z) (D : z = (rr, μr)) : JW X (jEnd X n Y (some (.int rr)) μr 0 0) 0 0 n Y 0 [(0, .ref v0)] [] μ := by
  unfold f_X12_keep at H
  refine r_aload_n K 0 dX12_keep_0 rfl rfl ?_
  refine w_getI K vc12 inX12 25 (by decide) mF_RX12_148 dX12_keep_1 H (fun x1 H => ?_)
  refine r_bipush (v := 8) K dX12_keep_4 (by decide) ?_
  refine w_icmp_ne K 11 dX12_keep_6 (by decide) H (fun _ H => ?_) (fun _ H => ?_)
  · refine r_aload_n K 0 dX12_keep_11 rfl rfl ?_
    refine w_getI K vc12 inX12 25 (by decide) mF_RX12_148 dX12_keep_12 H (fun x2 H => ?_)
    refine r_istore_n K [(1, .int _), (0, .ref _)] dX12_keep_15 rfl (by decide) rfl ?_
    refine r_aload_n K 1 dX12_keep_16 rfl rfl ?_
    refine r_iload_n K 0 dX12_keep_17 rfl rfl ?_
    refine r_iconst (v := 1) K dX12_keep_18 (by decide) ?_
    refine r_iadd K dX12_keep_19 ?_
    refine w_put K vc12 inX12 tyX12_ok nmX12 25 (by decide) mF_RX12_148 rfl (fun _ => rfl) (fun _ => rfl) dX12_keep_20 H (fun μ3 H => ?_)
    refine r_aload_n K 1 dX12_keep_23 rfl rfl ?_
    refine w_getO K vc12 inX12 32 (by decide) mF_RX12_66 dX12_keep_24 H (fun x4 H => ?_)
    refine r_iload_n K 0 dX12_keep_27 rfl rfl ?_
    refine r_aload_n K 1 dX12_keep_28 rfl rfl ?_
    refine w_getI K vc12 inX12 10 (by decide) mF_RX12_145 dX12_keep_29 H (fun x5 H => ?_)
    refine w_iast K dX12_keep_32 H (fun μ6 H => ?_)
    refine r_iconst (v := 0) K dX12_keep_33 (by decide) ?_
    refine r_istore_n K [(2, .int _), (1, .int _), (0, .ref _)] dX12_keep_34 rfl (by decide) rfl ?_
    exact r_sub [2, 1, 0] rfl (l_X12_keep_35 K hl H D)
  · refine r_iconst (v := -1) K dX12_keep_9 (by decide) ?_
    cases H
    obtain ⟨rfl, rfl⟩ := jfin2 D
    exact r_iret K dX12_keep_10
theorem c_X12_keep (l : Launch) {n : Nat} {Y : jY} {v0 : Nat} {μ : jM} {z : Int32 × jM} (H : f_X12_keep Y v0 μ = some z) : jC l yX12_keep cX12_keep 3 (some .int) 1 0 0 [.ref v0] n Y μ n Y (some (.int z.1)) z.2 := by
  refine jC_of (by decide +kernel) (Nat.le_of_ble_eq_true rfl) (fun X hl K _ _ _ => ?_)
  obtain ⟨rr, μr⟩ := z
  exact t_X12_keep_0 K hl H rfl
/-! RX12 change(II)I -/
def b_X12_change_16 (Y : jY) (μ : jM) : Option (Int32 × jM) :=
  some ((-1 : Int32), μ)
def b_X12_change_313 (Y : jY) (v3 : Int32) (μ : jM) : Option (Int32 × jM) :=
  some (v3, μ)
def b_X12_change_269 (Y : jY) (v0 : Nat) (v1 : Int32) (v2 : Int32) (v3 : Int32) (v5 : Int32) (μ : jM) : Option ((Int32 × jM) ⊕ (Int32 × jM)) :=
  if ((v3 - ((2 : Int32)))) ≤ ((((2 : Int32)) * v5)) then
    (b_X12_change_313 Y v3 μ).map (fun r => (.inr r))
  else
    if v2 = 0 then
      (jgO Y μ v0 12 28).bind fun x1 =>
      (jrcv Y v0 12 (f_X12_swaps Y v0 x1 ((((((5 : Int32)) * v1)) + v5)) ((((((((((5 : Int32)) * v1)) + v3)) - ((2 : Int32)))) - v5)) μ)).bind fun μ2 =>
      some (.inl ((v5 + (1 : Int32)), μ2))
    else
      (b_X12_change_313 Y v3 μ).map (fun r => (.inr r))
def b_X12_change_266 (Y : jY) (v0 : Nat) (v1 : Int32) (v2 : Int32) (v3 : Int32) (μ : jM) : Option (Int32 × jM) :=
  jit jF (fun (s : Int32 × jM) => b_X12_change_269 Y v0 v1 v2 v3 s.1 s.2) ((0 : Int32), μ)
def b_X12_change_222 (Y : jY) (v0 : Nat) (v1 : Int32) (v2 : Int32) (v3 : Int32) (v5 : Int32) (μ : jM) : Option ((Int32 × jM) ⊕ (Int32 × jM)) :=
  if ((v3 - ((1 : Int32)))) ≤ ((((2 : Int32)) * v5)) then
    (b_X12_change_266 Y v0 v1 v2 v3 μ).map (fun r => (.inr r))
  else
    if v2 = 0 then
      (jgO Y μ v0 12 27).bind fun x1 =>
      (jrcv Y v0 12 (f_X12_swaps Y v0 x1 ((((((5 : Int32)) * v1)) + v5)) ((((((((((5 : Int32)) * v1)) + v3)) - ((1 : Int32)))) - v5)) μ)).bind fun μ2 =>
      some (.inl ((v5 + (1 : Int32)), μ2))
    else
      (b_X12_change_266 Y v0 v1 v2 v3 μ).map (fun r => (.inr r))
def b_X12_change_186 (Y : jY) (v0 : Nat) (v1 : Int32) (v2 : Int32) (v3 : Int32) (v4 : Int32) (v5 : Int32) (μ : jM) : Option ((Int32 × jM) ⊕ (Int32 × jM)) :=
  if v3 ≤ v5 then
    (jit jF (fun (s : Int32 × jM) => b_X12_change_222 Y v0 v1 v2 v3 s.1 s.2) ((0 : Int32), μ)).map (fun r => (.inr r))
  else
    (jgO Y μ v0 12 27).bind fun x1 =>
    (jrcv Y v0 12 (f_X12_a Y v0 v1 v5 μ)).bind fun r2 =>
    (jas Y r2.2 x1 20 ((((((5 : Int32)) * v1)) + v5)) (.int ((r2.1 + v4)))).bind fun μ3 =>
    some (.inl ((v5 + (1 : Int32)), μ3))
def b_X12_change_151 (Y : jY) (v0 : Nat) (v1 : Int32) (v2 : Int32) (v3 : Int32) (v4 : Int32) (v5 : Int32) (μ : jM) : Option ((Int32 × jM) ⊕ (Int32 × jM)) :=
  if v3 ≤ v5 then
    (jit jF (fun (s : Int32 × jM) => b_X12_change_186 Y v0 v1 v2 v3 v4 s.1 s.2) ((0 : Int32), μ)).map (fun r => (.inr r))
  else
    (jrcv Y v0 12 (f_X12_a Y v0 v1 v5 μ)).bind fun r1 =>
    (f_X12_canBe Y ((1 : Int32)) ((r1.1 + v4)) r1.2).bind fun r2 =>
    if r2.1 = 0 then
      some (.inr ((-3 : Int32), r2.2))
    else
      some (.inl ((v5 + (1 : Int32)), r2.2))
def b_X12_change_146 (Y : jY) (v0 : Nat) (v1 : Int32) (v2 : Int32) (v3 : Int32) (t0 : Int32) (μ : jM) : Option (Int32 × jM) :=
  jit jF (fun (s : Int32 × jM) => b_X12_change_151 Y v0 v1 v2 v3 t0 s.1 s.2) ((0 : Int32), μ)
def b_X12_change_115 (Y : jY) (v0 : Nat) (v1 : Int32) (v3 : Int32) (μ : jM) : Option (Int32 × jM) :=
  (jgO Y μ v0 12 26).bind fun x1 =>
  (jas Y μ x1 20 v1 (.int ((v3 - ((1 : Int32)))))).bind fun μ2 =>
  some ((v3 - ((1 : Int32))), μ2)
def b_X12_change_109 (Y : jY) (v0 : Nat) (v1 : Int32) (v2 : Int32) (v3 : Int32) (v4 : Int32) (μ : jM) : Option ((Int32 × jM) ⊕ (Int32 × jM)) :=
  some (.inl ((v4 + (1 : Int32)), μ))
def b_X12_change_48 (Y : jY) (v0 : Nat) (v1 : Int32) (v2 : Int32) (v3 : Int32) (v4 : Int32) (μ : jM) : Option ((Int32 × jM) ⊕ (Int32 × jM)) :=
  if ((v3 - ((1 : Int32)))) ≤ v4 then
    (b_X12_change_115 Y v0 v1 v3 μ).map (fun r => (.inr r))
  else
    if v2 = ((4 : Int32)) then
      (jgO Y μ v0 12 27).bind fun x1 =>
      (jrcv Y v0 12 (f_X12_a Y v0 v1 ((v4 + ((1 : Int32)))) μ)).bind fun r2 =>
      (jas Y r2.2 x1 20 ((((((5 : Int32)) * v1)) + v4)) (.int r2.1)).bind fun μ3 =>
      if ((v3 - ((2 : Int32)))) ≤ v4 then
        b_X12_change_109 Y v0 v1 v2 v3 v4 μ3
      else
        (jgO Y μ3 v0 12 28).bind fun x4 =>
        (jrcv Y v0 12 (f_X12_c Y v0 v1 ((v4 + ((1 : Int32)))) μ3)).bind fun r5 =>
        (jas Y r5.2 x4 20 ((((((5 : Int32)) * v1)) + v4)) (.int r5.1)).bind fun μ6 =>
        b_X12_change_109 Y v0 v1 v2 v3 v4 μ6
    else
      (b_X12_change_115 Y v0 v1 v3 μ).map (fun r => (.inr r))
def f_X12_change (Y : jY) (v0 : Nat) (v1 : Int32) (v2 : Int32) (μ : jM) : Option (Int32 × jM) :=
  (f_X12_isDrawer Y v1 μ).bind fun r1 =>
  if r1.1 = 0 then
    b_X12_change_16 Y r1.2
  else
    (f_X12_in Y v2 ((0 : Int32)) ((4 : Int32)) r1.2).bind fun r2 =>
    if r2.1 = 0 then
      b_X12_change_16 Y r2.2
    else
      (jgO Y r2.2 v0 12 26).bind fun x3 =>
      (jaI Y r2.2 x3 20 v1).bind fun x4 =>
      if x4 = 0 then
        some ((-2 : Int32), r2.2)
      else
        if v2 ≤ ((2 : Int32)) then
          if v2 = 0 then
            b_X12_change_146 Y v0 v1 v2 x4 (0 : Int32) r2.2
          else
            if v2 = ((1 : Int32)) then
              b_X12_change_146 Y v0 v1 v2 x4 (1 : Int32) r2.2
            else
              b_X12_change_146 Y v0 v1 v2 x4 (-1 : Int32) r2.2
        else
          if x4 = ((1 : Int32)) then
            some ((-3 : Int32), r2.2)
          else
            jit jF (fun (s : Int32 × jM) => b_X12_change_48 Y v0 v1 v2 x4 s.1 s.2) ((0 : Int32), r2.2)
set_option maxRecDepth 10000 in
theorem t_X12_change_16 {X : jX} {l : Launch} {n : Nat} {Y : jY} (K : jOK X RX12 cX12_change 6 (some .int) 3) (hl : X.2.1 = l) {rr : Int32} {μr : jM} {μ : jM} {z : (Int32 × jM)} (H : b_X12_change_16 Y μ = some z) (D : z = (rr, μr)) : JW X (jEnd X n Y (some (.int rr)) μr 0 0) 0 0 n Y 16 [] [] μ := by
  unfold b_X12_change_16 at H
  refine r_iconst (v := -1) K dX12_change_16 (by decide) ?_
  cases H
  obtain ⟨rfl, rfl⟩ := jfin2 D
  exact r_iret K dX12_change_17
set_option maxRecDepth 10000 in
theorem t_X12_change_313 {X : jX} {l : Launch} {n : Nat} {Y : jY} (K : jOK X RX12 cX12_change 6 (some .int) 3) (hl : X.2.1 = l) {rr : Int32} {μr : jM} {v3 : Int32} {μ : jM} {z : (Int32 × jM)} (H : b_X12_change_313 Y v3 μ = some z) (D : z = (rr, μr)) : JW X (jEnd X n Y (some (.int rr)) μr 0 0) 0 0 n Y 313 [(3, .int v3)] [] μ := by
  unfold b_X12_change_313 at H
  refine r_iload_n K 0 dX12_change_313 rfl rfl ?_
  cases H
  obtain ⟨rfl, rfl⟩ := jfin2 D
  exact r_iret K dX12_change_314
set_option maxRecDepth 10000 in
theorem t_X12_change_269 {X : jX} {l : Launch} {n : Nat} {Y : jY} (K : jOK X RX12 cX12_change 6 (some .int) 3) (hl : X.2.1 = l) {rr : Int32} {μr : jM} {v0 : Nat} {v1 : Int32} {v2 : Int32} {v3 : Int32} {v5 : Int32} {μ : jM} {z : ((Int32 × jM) ⊕ (Int32 × jM))} (H : b_X12_change_269 Y v0 v1 v2 v3 v5 μ = some z) (D : Sum.elim (fun (s : Int32 × jM) => JW X (jEnd X n Y (some (.int rr)) μr 0 0) 0 0 n Y 269 [(0, .ref v0), (1, .int v1), (2, .int v2), (3, .int v3), (5, .int s.1)] [] s.2) (fun r => r = (rr, μr)) z) : JW X (jEnd X n Y (some (.int rr)) μr 0 0) 0 0 n Y 269 [(0, .ref v0), (1, .int v1), (2, .int v2), (3, .int v3), (5, .int v5)] [] μ := by
  unfold b_X12_change_269 at H
  refine r_iconst (v := 2) K dX12_change_269 (by decide) ?_
  refine r_iload K 4 dX12_change_270 rfl ?_
  refine r_imul K dX12_change_272 ?_
  refine r_iload_n K 3 dX12_change_273 rfl rfl ?_
  refine r_iconst (v := 2) K dX12_change_274 (by decide) ?_
  refine r_isub K dX12_change_275 ?_
  refine w_icmp_ge K 313 dX12_change_276 (by decide) H (fun _ H => ?_) (fun _ H => ?_)
  · obtain ⟨z2, H2, rfl⟩ := jmap H
    exact r_sub [3] rfl (t_X12_change_313 K hl H2 D)
  · refine r_iload_n K 2 dX12_change_279 rfl rfl ?_
    refine w_if_ne K 313 dX12_change_280 (by decide) H (fun _ H => ?_) (fun _ H => ?_)
    · obtain ⟨z2, H2, rfl⟩ := jmap H
      exact r_sub [3] rfl (t_X12_change_313 K hl H2 D)
    · refine r_aload_n K 0 dX12_change_283 rfl rfl ?_
      refine r_aload_n K 0 dX12_change_284 rfl rfl ?_
      refine w_getO K vc12 inX12 28 (by decide) mF_RX12_54 dX12_change_285 H (fun x1 H => ?_)
      refine r_iconst (v := 5) K dX12_change_288 (by decide) ?_
      refine r_iload_n K 1 dX12_change_289 rfl rfl ?_
      refine r_imul K dX12_change_290 ?_
      refine r_iload K 4 dX12_change_291 rfl ?_
      refine r_iadd K dX12_change_293 ?_
      refine r_iconst (v := 5) K dX12_change_294 (by decide) ?_
      refine r_iload_n K 1 dX12_change_295 rfl rfl ?_
      refine r_imul K dX12_change_296 ?_
      refine r_iload_n K 3 dX12_change_297 rfl rfl ?_
      refine r_iadd K dX12_change_298 ?_
      refine r_iconst (v := 2) K dX12_change_299 (by decide) ?_
      refine r_isub K dX12_change_300 ?_
      refine r_iload K 4 dX12_change_301 rfl ?_
      refine r_isub K dX12_change_303 ?_
      refine w_callV K hl H (fun r h => c_X12_swaps l h) mC_yX12_swaps mM_RX12_300 mI_yX12_swaps mS_yX12_swaps mZ_RX12 vc12 (Nat.le_of_ble_eq_true rfl) (Nat.le_of_ble_eq_true rfl) np_yX12_swaps rfl (Nat.le_of_ble_eq_true rfl) dX12_change_304 (fun μ2 H => ?_) ⟨Nat.zero_le _, Nat.zero_le _⟩
      refine r_iinc K 4 [(5, .int _), (0, .ref _), (1, .int _), (2, .int _), (3, .int _)] (v := _ + (1 : Int32)) dX12_change_307 rfl rfl (by decide) rfl ?_
      refine r_goto K 269 dX12_change_310 (by decide) ?_
      cases H
      exact r_sub [1, 2, 3, 4, 0] rfl D
set_option maxRecDepth 10000 in
theorem l_X12_change_269 {X : jX} {l : Launch} {n : Nat} {Y : jY} (K : jOK X RX12 cX12_change 6 (some .int) 3) (hl : X.2.1 = l) {rr : Int32} {μr : jM} {v0 : Nat} {v1 : Int32} {v2 : Int32} {v3 : Int32}  {s0 : Int32 × jM} {z : (Int32 × jM)} (H : jit jF (fun (s : Int32 × jM) => b_X12_change_269 Y v0 v1 v2 v3 s.1 s.2) s0 = some z) (D : z = (rr, μr)) : JW X (jEnd X n Y (some (.int rr)) μr 0 0) 0 0 n Y 269 [(0, .ref v0), (1, .int v1), (2, .int v2), (3, .int v3), (5, .int s0.1)] [] s0.2 :=
  jit_ind (P := fun (s : Int32 × jM) => JW X (jEnd X n Y (some (.int rr)) μr 0 0) 0 0 n Y 269 [(0, .ref v0), (1, .int v1), (2, .int v2), (3, .int v3), (5, .int s.1)] [] s.2) (D := fun r => r = (rr, μr)) (fun s z Hs Ds => t_X12_change_269 K hl Hs Ds) jF s0 z H D
set_option maxRecDepth 10000 in
theorem t_X12_change_266 {X : jX} {l : Launch} {n : Nat} {Y : jY} (K : jOK X RX12 cX12_change 6 (some .int) 3) (hl : X.2.1 = l) {rr : Int32} {μr : jM} {v0 : Nat} {v1 : Int32} {v2 : Int32} {v3 : Int32} {μ : jM} {z : (Int32 × jM)} (H : b_X12_change_266 Y v0 v1 v2 v3 μ = some z) (D : z = (rr, μr)) : JW X (jEnd X n Y (some (.int rr)) μr 0 0) 0 0 n Y 266 [(0, .ref v0), (1, .int v1), (2, .int v2), (3, .int v3)] [] μ := by
  unfold b_X12_change_266 at H
  refine r_iconst (v := 0) K dX12_change_266 (by decide) ?_
  refine r_istore K [(5, .int _), (0, .ref _), (1, .int _), (2, .int _), (3, .int _)] dX12_change_267 (by decide) rfl ?_
  exact r_sub [1, 2, 3, 4, 0] rfl (l_X12_change_269 K hl H D)
set_option maxRecDepth 10000 in
theorem t_X12_change_222 {X : jX} {l : Launch} {n : Nat} {Y : jY} (K : jOK X RX12 cX12_change 6 (some .int) 3) (hl : X.2.1 = l) {rr : Int32} {μr : jM} {v0 : Nat} {v1 : Int32} {v2 : Int32} {v3 : Int32} {v5 : Int32} {μ : jM} {z : ((Int32 × jM) ⊕ (Int32 × jM))} (H : b_X12_change_222 Y v0 v1 v2 v3 v5 μ = some z) (D : Sum.elim (fun (s : Int32 × jM) => JW X (jEnd X n Y (some (.int rr)) μr 0 0) 0 0 n Y 222 [(0, .ref v0), (1, .int v1), (2, .int v2), (3, .int v3), (5, .int s.1)] [] s.2) (fun r => r = (rr, μr)) z) : JW X (jEnd X n Y (some (.int rr)) μr 0 0) 0 0 n Y 222 [(0, .ref v0), (1, .int v1), (2, .int v2), (3, .int v3), (5, .int v5)] [] μ := by
  unfold b_X12_change_222 at H
  refine r_iconst (v := 2) K dX12_change_222 (by decide) ?_
  refine r_iload K 4 dX12_change_223 rfl ?_
  refine r_imul K dX12_change_225 ?_
  refine r_iload_n K 3 dX12_change_226 rfl rfl ?_
  refine r_iconst (v := 1) K dX12_change_227 (by decide) ?_
  refine r_isub K dX12_change_228 ?_
  refine w_icmp_ge K 266 dX12_change_229 (by decide) H (fun _ H => ?_) (fun _ H => ?_)
  · obtain ⟨z2, H2, rfl⟩ := jmap H
    exact r_sub [0, 1, 2, 3] rfl (t_X12_change_266 K hl H2 D)
  · refine r_iload_n K 2 dX12_change_232 rfl rfl ?_
    refine w_if_ne K 266 dX12_change_233 (by decide) H (fun _ H => ?_) (fun _ H => ?_)
    · obtain ⟨z2, H2, rfl⟩ := jmap H
      exact r_sub [0, 1, 2, 3] rfl (t_X12_change_266 K hl H2 D)
    · refine r_aload_n K 0 dX12_change_236 rfl rfl ?_
      refine r_aload_n K 0 dX12_change_237 rfl rfl ?_
      refine w_getO K vc12 inX12 27 (by decide) mF_RX12_51 dX12_change_238 H (fun x1 H => ?_)
      refine r_iconst (v := 5) K dX12_change_241 (by decide) ?_
      refine r_iload_n K 1 dX12_change_242 rfl rfl ?_
      refine r_imul K dX12_change_243 ?_
      refine r_iload K 4 dX12_change_244 rfl ?_
      refine r_iadd K dX12_change_246 ?_
      refine r_iconst (v := 5) K dX12_change_247 (by decide) ?_
      refine r_iload_n K 1 dX12_change_248 rfl rfl ?_
      refine r_imul K dX12_change_249 ?_
      refine r_iload_n K 3 dX12_change_250 rfl rfl ?_
      refine r_iadd K dX12_change_251 ?_
      refine r_iconst (v := 1) K dX12_change_252 (by decide) ?_
      refine r_isub K dX12_change_253 ?_
      refine r_iload K 4 dX12_change_254 rfl ?_
      refine r_isub K dX12_change_256 ?_
      refine w_callV K hl H (fun r h => c_X12_swaps l h) mC_yX12_swaps mM_RX12_300 mI_yX12_swaps mS_yX12_swaps mZ_RX12 vc12 (Nat.le_of_ble_eq_true rfl) (Nat.le_of_ble_eq_true rfl) np_yX12_swaps rfl (Nat.le_of_ble_eq_true rfl) dX12_change_257 (fun μ2 H => ?_) ⟨Nat.zero_le _, Nat.zero_le _⟩
      refine r_iinc K 4 [(5, .int _), (0, .ref _), (1, .int _), (2, .int _), (3, .int _)] (v := _ + (1 : Int32)) dX12_change_260 rfl rfl (by decide) rfl ?_
      refine r_goto K 222 dX12_change_263 (by decide) ?_
      cases H
      exact r_sub [1, 2, 3, 4, 0] rfl D
set_option maxRecDepth 10000 in
theorem l_X12_change_222 {X : jX} {l : Launch} {n : Nat} {Y : jY} (K : jOK X RX12 cX12_change 6 (some .int) 3) (hl : X.2.1 = l) {rr : Int32} {μr : jM} {v0 : Nat} {v1 : Int32} {v2 : Int32} {v3 : Int32}  {s0 : Int32 × jM} {z : (Int32 × jM)} (H : jit jF (fun (s : Int32 × jM) => b_X12_change_222 Y v0 v1 v2 v3 s.1 s.2) s0 = some z) (D : z = (rr, μr)) : JW X (jEnd X n Y (some (.int rr)) μr 0 0) 0 0 n Y 222 [(0, .ref v0), (1, .int v1), (2, .int v2), (3, .int v3), (5, .int s0.1)] [] s0.2 :=
  jit_ind (P := fun (s : Int32 × jM) => JW X (jEnd X n Y (some (.int rr)) μr 0 0) 0 0 n Y 222 [(0, .ref v0), (1, .int v1), (2, .int v2), (3, .int v3), (5, .int s.1)] [] s.2) (D := fun r => r = (rr, μr)) (fun s z Hs Ds => t_X12_change_222 K hl Hs Ds) jF s0 z H D
set_option maxRecDepth 10000 in
theorem t_X12_change_186 {X : jX} {l : Launch} {n : Nat} {Y : jY} (K : jOK X RX12 cX12_change 6 (some .int) 3) (hl : X.2.1 = l) {rr : Int32} {μr : jM} {v0 : Nat} {v1 : Int32} {v2 : Int32} {v3 : Int32} {v4 : Int32} {v5 : Int32} {μ : jM} {z : ((Int32 × jM) ⊕ (Int32 × jM))} (H : b_X12_change_186 Y v0 v1 v2 v3 v4 v5 μ = some z) (D : Sum.elim (fun (s : Int32 × jM) => JW X (jEnd X n Y (some (.int rr)) μr 0 0) 0 0 n Y 186 [(0, .ref v0), (1, .int v1), (2, .int v2), (3, .int v3), (4, .int v4), (5, .int s.1)] [] s.2) (fun r => r = (rr, μr)) z) : JW X (jEnd X n Y (some (.int rr)) μr 0 0) 0 0 n Y 186 [(0, .ref v0), (1, .int v1), (2, .int v2), (3, .int v3), (4, .int v4), (5, .int v5)] [] μ := by
  unfold b_X12_change_186 at H
  refine r_iload K 5 dX12_change_186 rfl ?_
  refine r_iload_n K 3 dX12_change_188 rfl rfl ?_
  refine w_icmp_ge K 219 dX12_change_189 (by decide) H (fun _ H => ?_) (fun _ H => ?_)
  · refine r_iconst (v := 0) K dX12_change_219 (by decide) ?_
    refine r_istore K [(5, .int _), (0, .ref _), (1, .int _), (2, .int _), (3, .int _), (4, .int _)] dX12_change_220 (by decide) rfl ?_
    obtain ⟨z2, H2, rfl⟩ := jmap H
    exact r_sub [1, 2, 3, 4, 0] rfl (l_X12_change_222 K hl H2 D)
  · refine r_aload_n K 0 dX12_change_192 rfl rfl ?_
    refine w_getO K vc12 inX12 27 (by decide) mF_RX12_51 dX12_change_193 H (fun x1 H => ?_)
    refine r_iconst (v := 5) K dX12_change_196 (by decide) ?_
    refine r_iload_n K 1 dX12_change_197 rfl rfl ?_
    refine r_imul K dX12_change_198 ?_
    refine r_iload K 5 dX12_change_199 rfl ?_
    refine r_iadd K dX12_change_201 ?_
    refine r_aload_n K 0 dX12_change_202 rfl rfl ?_
    refine r_iload_n K 1 dX12_change_203 rfl rfl ?_
    refine r_iload K 5 dX12_change_204 rfl ?_
    refine w_callV K hl H (fun r h => c_X12_a l h) mC_yX12_a mM_RX12_256 mI_yX12_a mS_yX12_a mZ_RX12 vc12 (Nat.le_of_ble_eq_true rfl) (Nat.le_of_ble_eq_true rfl) np_yX12_a rfl (Nat.le_of_ble_eq_true rfl) dX12_change_206 (fun r2 H => ?_) ⟨Nat.zero_le _, Nat.zero_le _⟩
    refine r_iload K 4 dX12_change_209 rfl ?_
    refine r_iadd K dX12_change_211 ?_
    refine w_iast K dX12_change_212 H (fun μ3 H => ?_)
    refine r_iinc K 5 [(5, .int _), (0, .ref _), (1, .int _), (2, .int _), (3, .int _), (4, .int _)] (v := _ + (1 : Int32)) dX12_change_213 rfl rfl (by decide) rfl ?_
    refine r_goto K 186 dX12_change_216 (by decide) ?_
    cases H
    exact r_sub [1, 2, 3, 4, 5, 0] rfl D
set_option maxRecDepth 10000 in
theorem l_X12_change_186 {X : jX} {l : Launch} {n : Nat} {Y : jY} (K : jOK X RX12 cX12_change 6 (some .int) 3) (hl : X.2.1 = l) {rr : Int32} {μr : jM} {v0 : Nat} {v1 : Int32} {v2 : Int32} {v3 : Int32} {v4 : Int32}  {s0 : Int32 × jM} {z : (Int32 × jM)} (H : jit jF (fun (s : Int32 × jM) => b_X12_change_186 Y v0 v1 v2 v3 v4 s.1 s.2) s0 = some z) (D : z = (rr, μr)) : JW X (jEnd X n Y (some (.int rr)) μr 0 0) 0 0 n Y 186 [(0, .ref v0), (1, .int v1), (2, .int v2), (3, .int v3), (4, .int v4), (5, .int s0.1)] [] s0.2 :=
  jit_ind (P := fun (s : Int32 × jM) => JW X (jEnd X n Y (some (.int rr)) μr 0 0) 0 0 n Y 186 [(0, .ref v0), (1, .int v1), (2, .int v2), (3, .int v3), (4, .int v4), (5, .int s.1)] [] s.2) (D := fun r => r = (rr, μr)) (fun s z Hs Ds => t_X12_change_186 K hl Hs Ds) jF s0 z H D
set_option maxRecDepth 10000 in
theorem t_X12_change_151 {X : jX} {l : Launch} {n : Nat} {Y : jY} (K : jOK X RX12 cX12_change 6 (some .int) 3) (hl : X.2.1 = l) {rr : Int32} {μr : jM} {v0 : Nat} {v1 : Int32} {v2 : Int32} {v3 : Int32} {v4 : Int32} {v5 : Int32} {μ : jM} {z : ((Int32 × jM) ⊕ (Int32 × jM))} (H : b_X12_change_151 Y v0 v1 v2 v3 v4 v5 μ = some z) (D : Sum.elim (fun (s : Int32 × jM) => JW X (jEnd X n Y (some (.int rr)) μr 0 0) 0 0 n Y 151 [(0, .ref v0), (1, .int v1), (2, .int v2), (3, .int v3), (4, .int v4), (5, .int s.1)] [] s.2) (fun r => r = (rr, μr)) z) : JW X (jEnd X n Y (some (.int rr)) μr 0 0) 0 0 n Y 151 [(0, .ref v0), (1, .int v1), (2, .int v2), (3, .int v3), (4, .int v4), (5, .int v5)] [] μ := by
  unfold b_X12_change_151 at H
  refine r_iload K 5 dX12_change_151 rfl ?_
  refine r_iload_n K 3 dX12_change_153 rfl rfl ?_
  refine w_icmp_ge K 183 dX12_change_154 (by decide) H (fun _ H => ?_) (fun _ H => ?_)
  · refine r_iconst (v := 0) K dX12_change_183 (by decide) ?_
    refine r_istore K [(5, .int _), (0, .ref _), (1, .int _), (2, .int _), (3, .int _), (4, .int _)] dX12_change_184 (by decide) rfl ?_
    obtain ⟨z2, H2, rfl⟩ := jmap H
    exact r_sub [1, 2, 3, 4, 5, 0] rfl (l_X12_change_186 K hl H2 D)
  · refine r_iconst (v := 1) K dX12_change_157 (by decide) ?_
    refine r_aload_n K 0 dX12_change_158 rfl rfl ?_
    refine r_iload_n K 1 dX12_change_159 rfl rfl ?_
    refine r_iload K 5 dX12_change_160 rfl ?_
    refine w_callV K hl H (fun r h => c_X12_a l h) mC_yX12_a mM_RX12_256 mI_yX12_a mS_yX12_a mZ_RX12 vc12 (Nat.le_of_ble_eq_true rfl) (Nat.le_of_ble_eq_true rfl) np_yX12_a rfl (Nat.le_of_ble_eq_true rfl) dX12_change_162 (fun r1 H => ?_) ⟨Nat.zero_le _, Nat.zero_le _⟩
    refine r_iload K 4 dX12_change_165 rfl ?_
    refine r_iadd K dX12_change_167 ?_
    refine w_callS K hl H (fun r h => c_X12_canBe l h) mC_yX12_canBe mM_RX12_267 mT_yX12_canBe mZ_RX12 (Nat.le_of_ble_eq_true rfl) (Nat.le_of_ble_eq_true rfl) np_yX12_canBe rfl (Nat.le_of_ble_eq_true rfl) dX12_change_168 (fun r2 H => ?_) ⟨Nat.zero_le _, Nat.zero_le _⟩
    refine w_if_ne K 177 dX12_change_171 (by decide) H (fun _ H => ?_) (fun _ H => ?_)
    · refine r_iinc K 5 [(5, .int _), (0, .ref _), (1, .int _), (2, .int _), (3, .int _), (4, .int _)] (v := _ + (1 : Int32)) dX12_change_177 rfl rfl (by decide) rfl ?_
      refine r_goto K 151 dX12_change_180 (by decide) ?_
      cases H
      exact r_sub [1, 2, 3, 4, 5, 0] rfl D
    · refine r_bipush (v := -3) K dX12_change_174 (by decide) ?_
      cases H
      simp only [Sum.elim_inr] at D
      obtain ⟨rfl, rfl⟩ := jfin2 D
      exact r_iret K dX12_change_176
set_option maxRecDepth 10000 in
theorem l_X12_change_151 {X : jX} {l : Launch} {n : Nat} {Y : jY} (K : jOK X RX12 cX12_change 6 (some .int) 3) (hl : X.2.1 = l) {rr : Int32} {μr : jM} {v0 : Nat} {v1 : Int32} {v2 : Int32} {v3 : Int32} {v4 : Int32}  {s0 : Int32 × jM} {z : (Int32 × jM)} (H : jit jF (fun (s : Int32 × jM) => b_X12_change_151 Y v0 v1 v2 v3 v4 s.1 s.2) s0 = some z) (D : z = (rr, μr)) : JW X (jEnd X n Y (some (.int rr)) μr 0 0) 0 0 n Y 151 [(0, .ref v0), (1, .int v1), (2, .int v2), (3, .int v3), (4, .int v4), (5, .int s0.1)] [] s0.2 :=
  jit_ind (P := fun (s : Int32 × jM) => JW X (jEnd X n Y (some (.int rr)) μr 0 0) 0 0 n Y 151 [(0, .ref v0), (1, .int v1), (2, .int v2), (3, .int v3), (4, .int v4), (5, .int s.1)] [] s.2) (D := fun r => r = (rr, μr)) (fun s z Hs Ds => t_X12_change_151 K hl Hs Ds) jF s0 z H D
set_option maxRecDepth 10000 in
theorem t_X12_change_146 {X : jX} {l : Launch} {n : Nat} {Y : jY} (K : jOK X RX12 cX12_change 6 (some .int) 3) (hl : X.2.1 = l) {rr : Int32} {μr : jM} {v0 : Nat} {v1 : Int32} {v2 : Int32} {v3 : Int32} {t0 : Int32} {μ : jM} {z : (Int32 × jM)} (H : b_X12_change_146 Y v0 v1 v2 v3 t0 μ = some z) (D : z = (rr, μr)) : JW X (jEnd X n Y (some (.int rr)) μr 0 0) 0 0 n Y 146 [(0, .ref v0), (1, .int v1), (2, .int v2), (3, .int v3)] [.int t0] μ := by
  unfold b_X12_change_146 at H
  refine r_istore K [(4, .int _), (0, .ref _), (1, .int _), (2, .int _), (3, .int _)] dX12_change_146 (by decide) rfl ?_
  refine r_iconst (v := 0) K dX12_change_148 (by decide) ?_
  refine r_istore K [(5, .int _), (4, .int _), (0, .ref _), (1, .int _), (2, .int _), (3, .int _)] dX12_change_149 (by decide) rfl ?_
  exact r_sub [2, 3, 4, 5, 1, 0] rfl (l_X12_change_151 K hl H D)
set_option maxRecDepth 10000 in
theorem t_X12_change_115 {X : jX} {l : Launch} {n : Nat} {Y : jY} (K : jOK X RX12 cX12_change 6 (some .int) 3) (hl : X.2.1 = l) {rr : Int32} {μr : jM} {v0 : Nat} {v1 : Int32} {v3 : Int32} {μ : jM} {z : (Int32 × jM)} (H : b_X12_change_115 Y v0 v1 v3 μ = some z) (D : z = (rr, μr)) : JW X (jEnd X n Y (some (.int rr)) μr 0 0) 0 0 n Y 115 [(0, .ref v0), (1, .int v1), (3, .int v3)] [] μ := by
  unfold b_X12_change_115 at H
  refine r_aload_n K 0 dX12_change_115 rfl rfl ?_
  refine w_getO K vc12 inX12 26 (by decide) mF_RX12_48 dX12_change_116 H (fun x1 H => ?_)
  refine r_iload_n K 1 dX12_change_119 rfl rfl ?_
  refine r_iload_n K 2 dX12_change_120 rfl rfl ?_
  refine r_iconst (v := 1) K dX12_change_121 (by decide) ?_
  refine r_isub K dX12_change_122 ?_
  refine w_iast K dX12_change_123 H (fun μ2 H => ?_)
  refine r_iload_n K 2 dX12_change_124 rfl rfl ?_
  refine r_iconst (v := 1) K dX12_change_125 (by decide) ?_
  refine r_isub K dX12_change_126 ?_
  cases H
  obtain ⟨rfl, rfl⟩ := jfin2 D
  exact r_iret K dX12_change_127
set_option maxRecDepth 10000 in
theorem t_X12_change_109 {X : jX} {l : Launch} {n : Nat} {Y : jY} (K : jOK X RX12 cX12_change 6 (some .int) 3) (hl : X.2.1 = l) {rr : Int32} {μr : jM} {v0 : Nat} {v1 : Int32} {v2 : Int32} {v3 : Int32} {v4 : Int32} {μ : jM} {z : ((Int32 × jM) ⊕ (Int32 × jM))} (H : b_X12_change_109 Y v0 v1 v2 v3 v4 μ = some z) (D : Sum.elim (fun (s : Int32 × jM) => JW X (jEnd X n Y (some (.int rr)) μr 0 0) 0 0 n Y 48 [(0, .ref v0), (1, .int v1), (2, .int v2), (3, .int v3), (4, .int s.1)] [] s.2) (fun r => r = (rr, μr)) z) : JW X (jEnd X n Y (some (.int rr)) μr 0 0) 0 0 n Y 109 [(0, .ref v0), (1, .int v1), (2, .int v2), (3, .int v3), (4, .int v4)] [] μ := by
  unfold b_X12_change_109 at H
  refine r_iinc K 4 [(4, .int _), (0, .ref _), (1, .int _), (2, .int _), (3, .int _)] (v := _ + (1 : Int32)) dX12_change_109 rfl rfl (by decide) rfl ?_
  refine r_goto K 48 dX12_change_112 (by decide) ?_
  cases H
  exact r_sub [1, 2, 3, 4, 0] rfl D
set_option maxRecDepth 10000 in
theorem t_X12_change_48 {X : jX} {l : Launch} {n : Nat} {Y : jY} (K : jOK X RX12 cX12_change 6 (some .int) 3) (hl : X.2.1 = l) {rr : Int32} {μr : jM} {v0 : Nat} {v1 : Int32} {v2 : Int32} {v3 : Int32} {v4 : Int32} {μ : jM} {z : ((Int32 × jM) ⊕ (Int32 × jM))} (H : b_X12_change_48 Y v0 v1 v2 v3 v4 μ = some z) (D : Sum.elim (fun (s : Int32 × jM) => JW X (jEnd X n Y (some (.int rr)) μr 0 0) 0 0 n Y 48 [(0, .ref v0), (1, .int v1), (2, .int v2), (3, .int v3), (4, .int s.1)] [] s.2) (fun r => r = (rr, μr)) z) : JW X (jEnd X n Y (some (.int rr)) μr 0 0) 0 0 n Y 48 [(0, .ref v0), (1, .int v1), (2, .int v2), (3, .int v3), (4, .int v4)] [] μ := by
  unfold b_X12_change_48 at H
  refine r_iload K 4 dX12_change_48 rfl ?_
  refine r_iload_n K 3 dX12_change_50 rfl rfl ?_
  refine r_iconst (v := 1) K dX12_change_51 (by decide) ?_
  refine r_isub K dX12_change_52 ?_
  refine w_icmp_ge K 115 dX12_change_53 (by decide) H (fun _ H => ?_) (fun _ H => ?_)
  · obtain ⟨z2, H2, rfl⟩ := jmap H
    exact r_sub [0, 1, 3] rfl (t_X12_change_115 K hl H2 D)
  · refine r_iload_n K 2 dX12_change_56 rfl rfl ?_
    refine r_iconst (v := 4) K dX12_change_57 (by decide) ?_
    refine w_icmp_ne K 115 dX12_change_58 (by decide) H (fun _ H => ?_) (fun _ H => ?_)
    · obtain ⟨z2, H2, rfl⟩ := jmap H
      exact r_sub [0, 1, 3] rfl (t_X12_change_115 K hl H2 D)
    · refine r_aload_n K 0 dX12_change_61 rfl rfl ?_
      refine w_getO K vc12 inX12 27 (by decide) mF_RX12_51 dX12_change_62 H (fun x1 H => ?_)
      refine r_iconst (v := 5) K dX12_change_65 (by decide) ?_
      refine r_iload_n K 1 dX12_change_66 rfl rfl ?_
      refine r_imul K dX12_change_67 ?_
      refine r_iload K 4 dX12_change_68 rfl ?_
      refine r_iadd K dX12_change_70 ?_
      refine r_aload_n K 0 dX12_change_71 rfl rfl ?_
      refine r_iload_n K 1 dX12_change_72 rfl rfl ?_
      refine r_iload K 4 dX12_change_73 rfl ?_
      refine r_iconst (v := 1) K dX12_change_75 (by decide) ?_
      refine r_iadd K dX12_change_76 ?_
      refine w_callV K hl H (fun r h => c_X12_a l h) mC_yX12_a mM_RX12_256 mI_yX12_a mS_yX12_a mZ_RX12 vc12 (Nat.le_of_ble_eq_true rfl) (Nat.le_of_ble_eq_true rfl) np_yX12_a rfl (Nat.le_of_ble_eq_true rfl) dX12_change_77 (fun r2 H => ?_) ⟨Nat.zero_le _, Nat.zero_le _⟩
      refine w_iast K dX12_change_80 H (fun μ3 H => ?_)
      refine r_iload K 4 dX12_change_81 rfl ?_
      refine r_iload_n K 3 dX12_change_83 rfl rfl ?_
      refine r_iconst (v := 2) K dX12_change_84 (by decide) ?_
      refine r_isub K dX12_change_85 ?_
      refine w_icmp_ge K 109 dX12_change_86 (by decide) H (fun _ H => ?_) (fun _ H => ?_)
      · exact r_sub [0, 1, 2, 3, 4] rfl (t_X12_change_109 K hl H D)
      · refine r_aload_n K 0 dX12_change_89 rfl rfl ?_
        refine w_getO K vc12 inX12 28 (by decide) mF_RX12_54 dX12_change_90 H (fun x4 H => ?_)
        refine r_iconst (v := 5) K dX12_change_93 (by decide) ?_
        refine r_iload_n K 1 dX12_change_94 rfl rfl ?_
        refine r_imul K dX12_change_95 ?_
        refine r_iload K 4 dX12_change_96 rfl ?_
        refine r_iadd K dX12_change_98 ?_
        refine r_aload_n K 0 dX12_change_99 rfl rfl ?_
        refine r_iload_n K 1 dX12_change_100 rfl rfl ?_
        refine r_iload K 4 dX12_change_101 rfl ?_
        refine r_iconst (v := 1) K dX12_change_103 (by decide) ?_
        refine r_iadd K dX12_change_104 ?_
        refine w_callV K hl H (fun r h => c_X12_c l h) mC_yX12_c mM_RX12_260 mI_yX12_c mS_yX12_c mZ_RX12 vc12 (Nat.le_of_ble_eq_true rfl) (Nat.le_of_ble_eq_true rfl) np_yX12_c rfl (Nat.le_of_ble_eq_true rfl) dX12_change_105 (fun r5 H => ?_) ⟨Nat.zero_le _, Nat.zero_le _⟩
        refine w_iast K dX12_change_108 H (fun μ6 H => ?_)
        exact r_sub [0, 1, 2, 3, 4] rfl (t_X12_change_109 K hl H D)
set_option maxRecDepth 10000 in
theorem l_X12_change_48 {X : jX} {l : Launch} {n : Nat} {Y : jY} (K : jOK X RX12 cX12_change 6 (some .int) 3) (hl : X.2.1 = l) {rr : Int32} {μr : jM} {v0 : Nat} {v1 : Int32} {v2 : Int32} {v3 : Int32}  {s0 : Int32 × jM} {z : (Int32 × jM)} (H : jit jF (fun (s : Int32 × jM) => b_X12_change_48 Y v0 v1 v2 v3 s.1 s.2) s0 = some z) (D : z = (rr, μr)) : JW X (jEnd X n Y (some (.int rr)) μr 0 0) 0 0 n Y 48 [(0, .ref v0), (1, .int v1), (2, .int v2), (3, .int v3), (4, .int s0.1)] [] s0.2 :=
  jit_ind (P := fun (s : Int32 × jM) => JW X (jEnd X n Y (some (.int rr)) μr 0 0) 0 0 n Y 48 [(0, .ref v0), (1, .int v1), (2, .int v2), (3, .int v3), (4, .int s.1)] [] s.2) (D := fun r => r = (rr, μr)) (fun s z Hs Ds => t_X12_change_48 K hl Hs Ds) jF s0 z H D
set_option maxRecDepth 10000 in
theorem t_X12_change_0 {X : jX} {l : Launch} {n : Nat} {Y : jY} (K : jOK X RX12 cX12_change 6 (some .int) 3) (hl : X.2.1 = l) {rr : Int32} {μr : jM} {v0 : Nat} {v1 : Int32} {v2 : Int32} {μ : jM} {z : (Int32 × jM)} (H : f_X12_change Y v0 v1 v2 μ = some z) (D : z = (rr, μr)) : JW X (jEnd X n Y (some (.int rr)) μr 0 0) 0 0 n Y 0 [(0, .ref v0), (1, .int v1), (2, .int v2)] [] μ := by
  unfold f_X12_change at H
  refine r_iload_n K 1 dX12_change_0 rfl rfl ?_
  refine w_callS K hl H (fun r h => c_X12_isDrawer l h) mC_yX12_isDrawer mM_RX12_253 mT_yX12_isDrawer mZ_RX12 (Nat.le_of_ble_eq_true rfl) (Nat.le_of_ble_eq_true rfl) np_yX12_isDrawer rfl (Nat.le_of_ble_eq_true rfl) dX12_change_1 (fun r1 H => ?_) ⟨Nat.zero_le _, Nat.zero_le _⟩
  refine w_if_eq K 16 dX12_change_4 (by decide) H (fun _ H => ?_) (fun _ H => ?_)
  · exact r_sub [] rfl (t_X12_change_16 K hl H D)
  · refine r_iload_n K 2 dX12_change_7 rfl rfl ?_
    refine r_iconst (v := 0) K dX12_change_8 (by decide) ?_
    refine r_iconst (v := 4) K dX12_change_9 (by decide) ?_
    refine w_callS K hl H (fun r h => c_X12_in l h) mC_yX12_in mM_RX12_134 mT_yX12_in mZ_RX12 (Nat.le_of_ble_eq_true rfl) (Nat.le_of_ble_eq_true rfl) np_yX12_in rfl (Nat.le_of_ble_eq_true rfl) dX12_change_10 (fun r2 H => ?_) ⟨Nat.zero_le _, Nat.zero_le _⟩
    refine w_if_ne K 18 dX12_change_13 (by decide) H (fun _ H => ?_) (fun _ H => ?_)
    · refine r_aload_n K 0 dX12_change_18 rfl rfl ?_
      refine w_getO K vc12 inX12 26 (by decide) mF_RX12_48 dX12_change_19 H (fun x3 H => ?_)
      refine r_iload_n K 1 dX12_change_22 rfl rfl ?_
      refine w_iald K dX12_change_23 H (fun x4 H => ?_)
      refine r_istore_n K [(3, .int _), (0, .ref _), (1, .int _), (2, .int _)] dX12_change_24 rfl (by decide) rfl ?_
      refine r_iload_n K 0 dX12_change_25 rfl rfl ?_
      refine w_if_ne K 32 dX12_change_26 (by decide) H (fun _ H => ?_) (fun _ H => ?_)
      · refine r_iload_n K 3 dX12_change_32 rfl rfl ?_
        refine r_iconst (v := 2) K dX12_change_33 (by decide) ?_
        refine w_icmp_le K 128 dX12_change_34 (by decide) H (fun _ H => ?_) (fun _ H => ?_)
        · refine r_iload_n K 3 dX12_change_128 rfl rfl ?_
          refine w_if_ne K 136 dX12_change_129 (by decide) H (fun _ H => ?_) (fun _ H => ?_)
          · refine r_iload_n K 3 dX12_change_136 rfl rfl ?_
            refine r_iconst (v := 1) K dX12_change_137 (by decide) ?_
            refine w_icmp_ne K 145 dX12_change_138 (by decide) H (fun _ H => ?_) (fun _ H => ?_)
            · refine r_iconst (v := -1) K dX12_change_145 (by decide) ?_
              exact r_sub [1, 2, 3, 0] rfl (t_X12_change_146 K hl H D)
            · refine r_iconst (v := 1) K dX12_change_141 (by decide) ?_
              refine r_goto K 146 dX12_change_142 (by decide) ?_
              exact r_sub [1, 2, 3, 0] rfl (t_X12_change_146 K hl H D)
          · refine r_iconst (v := 0) K dX12_change_132 (by decide) ?_
            refine r_goto K 146 dX12_change_133 (by decide) ?_
            exact r_sub [1, 2, 3, 0] rfl (t_X12_change_146 K hl H D)
        · refine r_iload_n K 0 dX12_change_37 rfl rfl ?_
          refine r_iconst (v := 1) K dX12_change_38 (by decide) ?_
          refine w_icmp_ne K 45 dX12_change_39 (by decide) H (fun _ H => ?_) (fun _ H => ?_)
          · refine r_iconst (v := 0) K dX12_change_45 (by decide) ?_
            refine r_istore K [(4, .int _), (3, .int _), (0, .ref _), (1, .int _), (2, .int _)] dX12_change_46 (by decide) rfl ?_
            exact r_sub [2, 3, 4, 1, 0] rfl (l_X12_change_48 K hl H D)
          · refine r_bipush (v := -3) K dX12_change_42 (by decide) ?_
            cases H
            obtain ⟨rfl, rfl⟩ := jfin2 D
            exact r_iret K dX12_change_44
      · refine r_bipush (v := -2) K dX12_change_29 (by decide) ?_
        cases H
        obtain ⟨rfl, rfl⟩ := jfin2 D
        exact r_iret K dX12_change_31
    · exact r_sub [] rfl (t_X12_change_16 K hl H D)
theorem c_X12_change (l : Launch) {n : Nat} {Y : jY} {v0 : Nat} {v1 : Int32} {v2 : Int32} {μ : jM} {z : Int32 × jM} (H : f_X12_change Y v0 v1 v2 μ = some z) : jC l yX12_change cX12_change 6 (some .int) 3 0 0 [.ref v0, .int v1, .int v2] n Y μ n Y (some (.int z.1)) z.2 := by
  refine jC_of (by decide +kernel) (Nat.le_of_ble_eq_true rfl) (fun X hl K _ _ _ => ?_)
  obtain ⟨rr, μr⟩ := z
  exact t_X12_change_0 K hl H rfl
/-! RX12 moment(I)J -/
def b_X12_moment_17 (Y : jY) (μ : jM) : Option (Int64 × jM) :=
  some ((-9223372036854775808 : Int64), μ)
def f_X12_moment (Y : jY) (v0 : Nat) (v1 : Int32) (μ : jM) : Option (Int64 × jM) :=
  (jgI Y μ v0 12 10).bind fun x1 =>
  if x1 = 0 then
    b_X12_moment_17 Y μ
  else
    (f_X12_in Y v1 ((0 : Int32)) ((7 : Int32)) μ).bind fun r2 =>
    if r2.1 = 0 then
      b_X12_moment_17 Y r2.2
    else
      (jrcv Y v0 12 (f_X12_laysTones Y v0 r2.2)).bind fun μ3 =>
      (jgO Y μ3 v0 12 15).bind fun x4 =>
      (jaL Y μ3 x4 21 v1).bind fun x5 =>
      some (x5, μ3)
set_option maxRecDepth 10000 in
theorem t_X12_moment_17 {X : jX} {l : Launch} {n : Nat} {Y : jY} (K : jOK X RX12 cX12_moment 2 (some .long) 3) (hl : X.2.1 = l) {rr : Int64} {μr : jM} {μ : jM} {z : (Int64 × jM)} (H : b_X12_moment_17 Y μ = some z) (D : z = (rr, μr)) : JW X (jEnd X n Y (some (.long rr)) μr 0 0) 0 0 n Y 17 [] [] μ := by
  unfold b_X12_moment_17 at H
  refine r_ldc2 K (-9223372036854775808) mc_RX12_156 dX12_moment_17 ?_
  cases H
  obtain ⟨rfl, rfl⟩ := jfin2 D
  exact r_lret K dX12_moment_20
set_option maxRecDepth 10000 in
theorem t_X12_moment_0 {X : jX} {l : Launch} {n : Nat} {Y : jY} (K : jOK X RX12 cX12_moment 2 (some .long) 3) (hl : X.2.1 = l) {rr : Int64} {μr : jM} {v0 : Nat} {v1 : Int32} {μ : jM} {z : (Int64 × jM)} (H : f_X12_moment Y v0 v1 μ = some z) (D : z = (rr, μr)) : JW X (jEnd X n Y (some (.long rr)) μr 0 0) 0 0 n Y 0 [(0, .ref v0), (1, .int v1)] [] μ := by
  unfold f_X12_moment at H
  refine r_aload_n K 0 dX12_moment_0 rfl rfl ?_
  refine w_getI K vc12 inX12 10 (by decide) mF_RX12_145 dX12_moment_1 H (fun x1 H => ?_)
  refine w_if_eq K 17 dX12_moment_4 (by decide) H (fun _ H => ?_) (fun _ H => ?_)
  · exact r_sub [] rfl (t_X12_moment_17 K hl H D)
  · refine r_iload_n K 1 dX12_moment_7 rfl rfl ?_
    refine r_iconst (v := 0) K dX12_moment_8 (by decide) ?_
    refine r_bipush (v := 7) K dX12_moment_9 (by decide) ?_
    refine w_callS K hl H (fun r h => c_X12_in l h) mC_yX12_in mM_RX12_134 mT_yX12_in mZ_RX12 (Nat.le_of_ble_eq_true rfl) (Nat.le_of_ble_eq_true rfl) np_yX12_in rfl (Nat.le_of_ble_eq_true rfl) dX12_moment_11 (fun r2 H => ?_) ⟨Nat.zero_le _, Nat.zero_le _⟩
    refine w_if_ne K 21 dX12_moment_14 (by decide) H (fun _ H => ?_) (fun _ H => ?_)
    · refine r_aload_n K 0 dX12_moment_21 rfl rfl ?_
      refine w_callV K hl H (fun r h => c_X12_laysTones l h) mC_yX12_laysTones mM_RX12_158 mI_yX12_laysTones mS_yX12_laysTones mZ_RX12 vc12 (Nat.le_of_ble_eq_true rfl) (Nat.le_of_ble_eq_true rfl) np_yX12_laysTones rfl (Nat.le_of_ble_eq_true rfl) dX12_moment_22 (fun μ3 H => ?_) ⟨Nat.zero_le _, Nat.zero_le _⟩
      refine r_aload_n K 0 dX12_moment_25 rfl rfl ?_
      refine w_getO K vc12 inX12 15 (by decide) mF_RX12_33 dX12_moment_26 H (fun x4 H => ?_)
      refine r_iload_n K 1 dX12_moment_29 rfl rfl ?_
      refine w_lald K dX12_moment_30 H (fun x5 H => ?_)
      cases H
      obtain ⟨rfl, rfl⟩ := jfin2 D
      exact r_lret K dX12_moment_31
    · exact r_sub [] rfl (t_X12_moment_17 K hl H D)
theorem c_X12_moment (l : Launch) {n : Nat} {Y : jY} {v0 : Nat} {v1 : Int32} {μ : jM} {z : Int64 × jM} (H : f_X12_moment Y v0 v1 μ = some z) : jC l yX12_moment cX12_moment 2 (some .long) 3 0 0 [.ref v0, .int v1] n Y μ n Y (some (.long z.1)) z.2 := by
  refine jC_of (by decide +kernel) (Nat.le_of_ble_eq_true rfl) (fun X hl K _ _ _ => ?_)
  obtain ⟨rr, μr⟩ := z
  exact t_X12_moment_0 K hl H rfl
/-! RX12 kernel(II)J -/
def b_X12_kernel_27 (Y : jY) (μ : jM) : Option (Int64 × jM) :=
  some ((-9223372036854775808 : Int64), μ)
def b_X12_kernel_82 (Y : jY) (v0 : Nat) (v1 : Int32) (v2 : Int32) (v3 : Int64) (v5 : Int64) (v7 : Int32) (μ : jM) : Option ((Int64 × Int32 × jM) ⊕ (Int64 × jM)) :=
  if v7 ≤ 0 then
    (jgI Y μ v0 12 10).bind fun x1 =>
    (jrcv Y v0 12 (f_X12_valueOf Y v0 ((x1 - ((1 : Int32)))) ((v1.toInt64)) μ)).bind fun r2 =>
    (jgI Y r2.2 v0 12 10).bind fun x3 =>
    (jrcv Y v0 12 (f_X12_valueOf Y v0 x3 ((v1.toInt64)) r2.2)).bind fun r4 =>
    (jgI Y r4.2 v0 12 10).bind fun x5 =>
    (jrcv Y v0 12 (f_X12_hankel Y v0 x5 r4.2)).bind fun r6 =>
    (jrcv Y v0 12 (f_X12_sets Y v0 ((((v3 * r2.1)) - ((v5 * r4.1)))) r6.1 r6.2)).bind fun μ7 =>
    (jrcv Y v0 12 (f_X12_told Y v0 v2 μ7)).bind fun r8 =>
    some (.inr (r8.1, r8.2))
  else
    (jgI Y μ v0 12 10).bind fun x9 =>
    (jrcv Y v0 12 (f_X12_power Y v0 ((x9 - ((1 : Int32)))) v7 μ)).bind fun r10 =>
    some (.inl ((((v5 * ((v1.toInt64)))) + ((((v7.toInt64)) * r10.1))), (v7 + (-1 : Int32)), r10.2))
def b_X12_kernel_46 (Y : jY) (v0 : Nat) (v1 : Int32) (v2 : Int32) (v3 : Int64) (v5 : Int64) (v7 : Int32) (μ : jM) : Option ((Int64 × Int32 × jM) ⊕ (Int64 × jM)) :=
  if v7 ≤ 0 then
    (jgI Y μ v0 12 10).bind fun x1 =>
    (jit jF (fun (s : Int64 × Int32 × jM) => b_X12_kernel_82 Y v0 v1 v2 v3 s.1 s.2.1 s.2.2) (v5, (x1 - ((1 : Int32))), μ)).map (fun r => (.inr r))
  else
    (jgO Y μ v0 12 13).bind fun x2 =>
    (jaL Y μ x2 21 v7).bind fun x3 =>
    some (.inl ((((v3 * ((v1.toInt64)))) + ((((v7.toInt64)) * x3))), (v7 + (-1 : Int32)), μ))
def f_X12_kernel (Y : jY) (v0 : Nat) (v1 : Int32) (v2 : Int32) (μ : jM) : Option (Int64 × jM) :=
  (jgI Y μ v0 12 10).bind fun x1 =>
  if x1 = 0 then
    b_X12_kernel_27 Y μ
  else
    (f_X12_in Y v1 ((-8 : Int32)) ((8 : Int32)) μ).bind fun r2 =>
    if r2.1 = 0 then
      b_X12_kernel_27 Y r2.2
    else
      (f_X12_in Y v2 ((0 : Int32)) ((1 : Int32)) r2.2).bind fun r3 =>
      if r3.1 = 0 then
        b_X12_kernel_27 Y r3.2
      else
        (jrcv Y v0 12 (f_X12_laysTones Y v0 r3.2)).bind fun μ4 =>
        (jgI Y μ4 v0 12 10).bind fun x5 =>
        jit jF (fun (s : Int64 × Int32 × jM) => b_X12_kernel_46 Y v0 v1 v2 s.1 (0 : Int64) s.2.1 s.2.2) ((0 : Int64), x5, μ4)
set_option maxRecDepth 10000 in
theorem t_X12_kernel_27 {X : jX} {l : Launch} {n : Nat} {Y : jY} (K : jOK X RX12 cX12_kernel 8 (some .long) 7) (hl : X.2.1 = l) {rr : Int64} {μr : jM} {μ : jM} {z : (Int64 × jM)} (H : b_X12_kernel_27 Y μ = some z) (D : z = (rr, μr)) : JW X (jEnd X n Y (some (.long rr)) μr 0 0) 0 0 n Y 27 [] [] μ := by
  unfold b_X12_kernel_27 at H
  refine r_ldc2 K (-9223372036854775808) mc_RX12_156 dX12_kernel_27 ?_
  cases H
  obtain ⟨rfl, rfl⟩ := jfin2 D
  exact r_lret K dX12_kernel_30
set_option maxRecDepth 10000 in
theorem t_X12_kernel_82 {X : jX} {l : Launch} {n : Nat} {Y : jY} (K : jOK X RX12 cX12_kernel 8 (some .long) 7) (hl : X.2.1 = l) {rr : Int64} {μr : jM} {v0 : Nat} {v1 : Int32} {v2 : Int32} {v3 : Int64} {v5 : Int64} {v7 : Int32} {μ : jM} {z : ((Int64 × Int32 × jM) ⊕ (Int64 × jM))} (H : b_X12_kernel_82 Y v0 v1 v2 v3 v5 v7 μ = some z) (D : Sum.elim (fun (s : Int64 × Int32 × jM) => JW X (jEnd X n Y (some (.long rr)) μr 0 0) 0 0 n Y 82 [(0, .ref v0), (1, .int v1), (2, .int v2), (3, .long v3), (5, .long s.1), (7, .int s.2.1)] [] s.2.2) (fun r => r = (rr, μr)) z) : JW X (jEnd X n Y (some (.long rr)) μr 0 0) 0 0 n Y 82 [(0, .ref v0), (1, .int v1), (2, .int v2), (3, .long v3), (5, .long v5), (7, .int v7)] [] μ := by
  unfold b_X12_kernel_82 at H
  refine r_iload K 5 dX12_kernel_82 rfl ?_
  refine w_if_le K 117 dX12_kernel_84 (by decide) H (fun _ H => ?_) (fun _ H => ?_)
  · refine r_aload_n K 0 dX12_kernel_117 rfl rfl ?_
    refine r_lload_n K 3 dX12_kernel_118 rfl rfl ?_
    refine r_aload_n K 0 dX12_kernel_119 rfl rfl ?_
    refine r_aload_n K 0 dX12_kernel_120 rfl rfl ?_
    refine w_getI K vc12 inX12 10 (by decide) mF_RX12_145 dX12_kernel_121 H (fun x1 H => ?_)
    refine r_iconst (v := 1) K dX12_kernel_124 (by decide) ?_
    refine r_isub K dX12_kernel_125 ?_
    refine r_iload_n K 1 dX12_kernel_126 rfl rfl ?_
    refine r_i2l K dX12_kernel_127 ?_
    refine w_callV K hl H (fun r h => c_X12_valueOf l h) mC_yX12_valueOf mM_RX12_221 mI_yX12_valueOf mS_yX12_valueOf mZ_RX12 vc12 (Nat.le_of_ble_eq_true rfl) (Nat.le_of_ble_eq_true rfl) np_yX12_valueOf rfl (Nat.le_of_ble_eq_true rfl) dX12_kernel_128 (fun r2 H => ?_) ⟨Nat.zero_le _, Nat.zero_le _⟩
    refine r_lmul K dX12_kernel_131 ?_
    refine r_lload K 4 dX12_kernel_132 rfl ?_
    refine r_aload_n K 0 dX12_kernel_134 rfl rfl ?_
    refine r_aload_n K 0 dX12_kernel_135 rfl rfl ?_
    refine w_getI K vc12 inX12 10 (by decide) mF_RX12_145 dX12_kernel_136 H (fun x3 H => ?_)
    refine r_iload_n K 1 dX12_kernel_139 rfl rfl ?_
    refine r_i2l K dX12_kernel_140 ?_
    refine w_callV K hl H (fun r h => c_X12_valueOf l h) mC_yX12_valueOf mM_RX12_221 mI_yX12_valueOf mS_yX12_valueOf mZ_RX12 vc12 (Nat.le_of_ble_eq_true rfl) (Nat.le_of_ble_eq_true rfl) np_yX12_valueOf rfl (Nat.le_of_ble_eq_true rfl) dX12_kernel_141 (fun r4 H => ?_) ⟨Nat.zero_le _, Nat.zero_le _⟩
    refine r_lmul K dX12_kernel_144 ?_
    refine r_lsub K dX12_kernel_145 ?_
    refine r_aload_n K 0 dX12_kernel_146 rfl rfl ?_
    refine r_aload_n K 0 dX12_kernel_147 rfl rfl ?_
    refine w_getI K vc12 inX12 10 (by decide) mF_RX12_145 dX12_kernel_148 H (fun x5 H => ?_)
    refine w_callV K hl H (fun r h => c_X12_hankel l h) mC_yX12_hankel mM_RX12_199 mI_yX12_hankel mS_yX12_hankel mZ_RX12 vc12 (Nat.le_of_ble_eq_true rfl) (Nat.le_of_ble_eq_true rfl) np_yX12_hankel rfl (Nat.le_of_ble_eq_true rfl) dX12_kernel_151 (fun r6 H => ?_) ⟨Nat.zero_le _, Nat.zero_le _⟩
    refine w_callV K hl H (fun r h => c_X12_sets l h) mC_yX12_sets mM_RX12_191 mI_yX12_sets mS_yX12_sets mZ_RX12 vc12 (Nat.le_of_ble_eq_true rfl) (Nat.le_of_ble_eq_true rfl) np_yX12_sets rfl (Nat.le_of_ble_eq_true rfl) dX12_kernel_154 (fun μ7 H => ?_) ⟨Nat.zero_le _, Nat.zero_le _⟩
    refine r_aload_n K 0 dX12_kernel_157 rfl rfl ?_
    refine r_iload_n K 2 dX12_kernel_158 rfl rfl ?_
    refine w_callV K hl H (fun r h => c_X12_told l h) mC_yX12_told mM_RX12_195 mI_yX12_told mS_yX12_told mZ_RX12 vc12 (Nat.le_of_ble_eq_true rfl) (Nat.le_of_ble_eq_true rfl) np_yX12_told rfl (Nat.le_of_ble_eq_true rfl) dX12_kernel_159 (fun r8 H => ?_) ⟨Nat.zero_le _, Nat.zero_le _⟩
    cases H
    simp only [Sum.elim_inr] at D
    obtain ⟨rfl, rfl⟩ := jfin2 D
    exact r_lret K dX12_kernel_162
  · refine r_lload K 4 dX12_kernel_87 rfl ?_
    refine r_iload_n K 1 dX12_kernel_89 rfl rfl ?_
    refine r_i2l K dX12_kernel_90 ?_
    refine r_lmul K dX12_kernel_91 ?_
    refine r_iload K 5 dX12_kernel_92 rfl ?_
    refine r_i2l K dX12_kernel_94 ?_
    refine r_aload_n K 0 dX12_kernel_95 rfl rfl ?_
    refine r_aload_n K 0 dX12_kernel_96 rfl rfl ?_
    refine w_getI K vc12 inX12 10 (by decide) mF_RX12_145 dX12_kernel_97 H (fun x9 H => ?_)
    refine r_iconst (v := 1) K dX12_kernel_100 (by decide) ?_
    refine r_isub K dX12_kernel_101 ?_
    refine r_iload K 5 dX12_kernel_102 rfl ?_
    refine w_callV K hl H (fun r h => c_X12_power l h) mC_yX12_power mM_RX12_217 mI_yX12_power mS_yX12_power mZ_RX12 vc12 (Nat.le_of_ble_eq_true rfl) (Nat.le_of_ble_eq_true rfl) np_yX12_power rfl (Nat.le_of_ble_eq_true rfl) dX12_kernel_104 (fun r10 H => ?_) ⟨Nat.zero_le _, Nat.zero_le _⟩
    refine r_lmul K dX12_kernel_107 ?_
    refine r_ladd K dX12_kernel_108 ?_
    refine r_lstore K [(5, .long _), (0, .ref _), (1, .int _), (2, .int _), (3, .long _), (7, .int _)] dX12_kernel_109 (by decide) rfl ?_
    refine r_iinc K 5 [(7, .int _), (5, .long _), (0, .ref _), (1, .int _), (2, .int _), (3, .long _)] (v := _ + (-1 : Int32)) dX12_kernel_111 rfl rfl (by decide) rfl ?_
    refine r_goto K 82 dX12_kernel_114 (by decide) ?_
    cases H
    exact r_sub [2, 3, 4, 5, 1, 0] rfl D
set_option maxRecDepth 10000 in
theorem l_X12_kernel_82 {X : jX} {l : Launch} {n : Nat} {Y : jY} (K : jOK X RX12 cX12_kernel 8 (some .long) 7) (hl : X.2.1 = l) {rr : Int64} {μr : jM} {v0 : Nat} {v1 : Int32} {v2 : Int32} {v3 : Int64}  {s0 : Int64 × Int32 × jM} {z : (Int64 × jM)} (H : jit jF (fun (s : Int64 × Int32 × jM) => b_X12_kernel_82 Y v0 v1 v2 v3 s.1 s.2.1 s.2.2) s0 = some z) (D : z = (rr, μr)) : JW X (jEnd X n Y (some (.long rr)) μr 0 0) 0 0 n Y 82 [(0, .ref v0), (1, .int v1), (2, .int v2), (3, .long v3), (5, .long s0.1), (7, .int s0.2.1)] [] s0.2.2 :=
  jit_ind (P := fun (s : Int64 × Int32 × jM) => JW X (jEnd X n Y (some (.long rr)) μr 0 0) 0 0 n Y 82 [(0, .ref v0), (1, .int v1), (2, .int v2), (3, .long v3), (5, .long s.1), (7, .int s.2.1)] [] s.2.2) (D := fun r => r = (rr, μr)) (fun s z Hs Ds => t_X12_kernel_82 K hl Hs Ds) jF s0 z H D
set_option maxRecDepth 10000 in
theorem t_X12_kernel_46 {X : jX} {l : Launch} {n : Nat} {Y : jY} (K : jOK X RX12 cX12_kernel 8 (some .long) 7) (hl : X.2.1 = l) {rr : Int64} {μr : jM} {v0 : Nat} {v1 : Int32} {v2 : Int32} {v3 : Int64} {v5 : Int64} {v7 : Int32} {μ : jM} {z : ((Int64 × Int32 × jM) ⊕ (Int64 × jM))} (H : b_X12_kernel_46 Y v0 v1 v2 v3 v5 v7 μ = some z) (D : Sum.elim (fun (s : Int64 × Int32 × jM) => JW X (jEnd X n Y (some (.long rr)) μr 0 0) 0 0 n Y 46 [(0, .ref v0), (1, .int v1), (2, .int v2), (3, .long s.1), (5, .long v5), (7, .int s.2.1)] [] s.2.2) (fun r => r = (rr, μr)) z) : JW X (jEnd X n Y (some (.long rr)) μr 0 0) 0 0 n Y 46 [(0, .ref v0), (1, .int v1), (2, .int v2), (3, .long v3), (5, .long v5), (7, .int v7)] [] μ := by
  unfold b_X12_kernel_46 at H
  refine r_iload K 5 dX12_kernel_46 rfl ?_
  refine w_if_le K 74 dX12_kernel_48 (by decide) H (fun _ H => ?_) (fun _ H => ?_)
  · refine r_aload_n K 0 dX12_kernel_74 rfl rfl ?_
    refine w_getI K vc12 inX12 10 (by decide) mF_RX12_145 dX12_kernel_75 H (fun x1 H => ?_)
    refine r_iconst (v := 1) K dX12_kernel_78 (by decide) ?_
    refine r_isub K dX12_kernel_79 ?_
    refine r_istore K [(7, .int _), (0, .ref _), (1, .int _), (2, .int _), (3, .long _), (5, .long _)] dX12_kernel_80 (by decide) rfl ?_
    obtain ⟨z2, H2, rfl⟩ := jmap H
    exact r_sub [1, 2, 3, 4, 5, 0] rfl (l_X12_kernel_82 K hl H2 D)
  · refine r_lload_n K 3 dX12_kernel_51 rfl rfl ?_
    refine r_iload_n K 1 dX12_kernel_52 rfl rfl ?_
    refine r_i2l K dX12_kernel_53 ?_
    refine r_lmul K dX12_kernel_54 ?_
    refine r_iload K 5 dX12_kernel_55 rfl ?_
    refine r_i2l K dX12_kernel_57 ?_
    refine r_aload_n K 0 dX12_kernel_58 rfl rfl ?_
    refine w_getO K vc12 inX12 13 (by decide) mF_RX12_26 dX12_kernel_59 H (fun x2 H => ?_)
    refine r_iload K 5 dX12_kernel_62 rfl ?_
    refine w_lald K dX12_kernel_64 H (fun x3 H => ?_)
    refine r_lmul K dX12_kernel_65 ?_
    refine r_ladd K dX12_kernel_66 ?_
    refine r_lstore_n K [(3, .long _), (0, .ref _), (1, .int _), (2, .int _), (5, .long _), (7, .int _)] dX12_kernel_67 rfl (by decide) rfl ?_
    refine r_iinc K 5 [(7, .int _), (3, .long _), (0, .ref _), (1, .int _), (2, .int _), (5, .long _)] (v := _ + (-1 : Int32)) dX12_kernel_68 rfl rfl (by decide) rfl ?_
    refine r_goto K 46 dX12_kernel_71 (by decide) ?_
    cases H
    exact r_sub [2, 3, 4, 1, 5, 0] rfl D
set_option maxRecDepth 10000 in
theorem l_X12_kernel_46 {X : jX} {l : Launch} {n : Nat} {Y : jY} (K : jOK X RX12 cX12_kernel 8 (some .long) 7) (hl : X.2.1 = l) {rr : Int64} {μr : jM} {v0 : Nat} {v1 : Int32} {v2 : Int32} {v5 : Int64}  {s0 : Int64 × Int32 × jM} {z : (Int64 × jM)} (H : jit jF (fun (s : Int64 × Int32 × jM) => b_X12_kernel_46 Y v0 v1 v2 s.1 v5 s.2.1 s.2.2) s0 = some z) (D : z = (rr, μr)) : JW X (jEnd X n Y (some (.long rr)) μr 0 0) 0 0 n Y 46 [(0, .ref v0), (1, .int v1), (2, .int v2), (3, .long s0.1), (5, .long v5), (7, .int s0.2.1)] [] s0.2.2 :=
  jit_ind (P := fun (s : Int64 × Int32 × jM) => JW X (jEnd X n Y (some (.long rr)) μr 0 0) 0 0 n Y 46 [(0, .ref v0), (1, .int v1), (2, .int v2), (3, .long s.1), (5, .long v5), (7, .int s.2.1)] [] s.2.2) (D := fun r => r = (rr, μr)) (fun s z Hs Ds => t_X12_kernel_46 K hl Hs Ds) jF s0 z H D
set_option maxRecDepth 10000 in
theorem t_X12_kernel_0 {X : jX} {l : Launch} {n : Nat} {Y : jY} (K : jOK X RX12 cX12_kernel 8 (some .long) 7) (hl : X.2.1 = l) {rr : Int64} {μr : jM} {v0 : Nat} {v1 : Int32} {v2 : Int32} {μ : jM} {z : (Int64 × jM)} (H : f_X12_kernel Y v0 v1 v2 μ = some z) (D : z = (rr, μr)) : JW X (jEnd X n Y (some (.long rr)) μr 0 0) 0 0 n Y 0 [(0, .ref v0), (1, .int v1), (2, .int v2)] [] μ := by
  unfold f_X12_kernel at H
  refine r_aload_n K 0 dX12_kernel_0 rfl rfl ?_
  refine w_getI K vc12 inX12 10 (by decide) mF_RX12_145 dX12_kernel_1 H (fun x1 H => ?_)
  refine w_if_eq K 27 dX12_kernel_4 (by decide) H (fun _ H => ?_) (fun _ H => ?_)
  · exact r_sub [] rfl (t_X12_kernel_27 K hl H D)
  · refine r_iload_n K 1 dX12_kernel_7 rfl rfl ?_
    refine r_bipush (v := -8) K dX12_kernel_8 (by decide) ?_
    refine r_bipush (v := 8) K dX12_kernel_10 (by decide) ?_
    refine w_callS K hl H (fun r h => c_X12_in l h) mC_yX12_in mM_RX12_134 mT_yX12_in mZ_RX12 (Nat.le_of_ble_eq_true rfl) (Nat.le_of_ble_eq_true rfl) np_yX12_in rfl (Nat.le_of_ble_eq_true rfl) dX12_kernel_12 (fun r2 H => ?_) ⟨Nat.zero_le _, Nat.zero_le _⟩
    refine w_if_eq K 27 dX12_kernel_15 (by decide) H (fun _ H => ?_) (fun _ H => ?_)
    · exact r_sub [] rfl (t_X12_kernel_27 K hl H D)
    · refine r_iload_n K 2 dX12_kernel_18 rfl rfl ?_
      refine r_iconst (v := 0) K dX12_kernel_19 (by decide) ?_
      refine r_iconst (v := 1) K dX12_kernel_20 (by decide) ?_
      refine w_callS K hl H (fun r h => c_X12_in l h) mC_yX12_in mM_RX12_134 mT_yX12_in mZ_RX12 (Nat.le_of_ble_eq_true rfl) (Nat.le_of_ble_eq_true rfl) np_yX12_in rfl (Nat.le_of_ble_eq_true rfl) dX12_kernel_21 (fun r3 H => ?_) ⟨Nat.zero_le _, Nat.zero_le _⟩
      refine w_if_ne K 31 dX12_kernel_24 (by decide) H (fun _ H => ?_) (fun _ H => ?_)
      · refine r_aload_n K 0 dX12_kernel_31 rfl rfl ?_
        refine w_callV K hl H (fun r h => c_X12_laysTones l h) mC_yX12_laysTones mM_RX12_158 mI_yX12_laysTones mS_yX12_laysTones mZ_RX12 vc12 (Nat.le_of_ble_eq_true rfl) (Nat.le_of_ble_eq_true rfl) np_yX12_laysTones rfl (Nat.le_of_ble_eq_true rfl) dX12_kernel_32 (fun μ4 H => ?_) ⟨Nat.zero_le _, Nat.zero_le _⟩
        refine r_lconst (v := 0) K dX12_kernel_35 (by decide) ?_
        refine r_lstore_n K [(3, .long _), (0, .ref _), (1, .int _), (2, .int _)] dX12_kernel_36 rfl (by decide) rfl ?_
        refine r_lconst (v := 0) K dX12_kernel_37 (by decide) ?_
        refine r_lstore K [(5, .long _), (3, .long _), (0, .ref _), (1, .int _), (2, .int _)] dX12_kernel_38 (by decide) rfl ?_
        refine r_aload_n K 2 dX12_kernel_40 rfl rfl ?_
        refine w_getI K vc12 inX12 10 (by decide) mF_RX12_145 dX12_kernel_41 H (fun x5 H => ?_)
        refine r_istore K [(7, .int _), (5, .long _), (3, .long _), (0, .ref _), (1, .int _), (2, .int _)] dX12_kernel_44 (by decide) rfl ?_
        exact r_sub [3, 4, 5, 2, 1, 0] rfl (l_X12_kernel_46 K hl H D)
      · exact r_sub [] rfl (t_X12_kernel_27 K hl H D)
theorem c_X12_kernel (l : Launch) {n : Nat} {Y : jY} {v0 : Nat} {v1 : Int32} {v2 : Int32} {μ : jM} {z : Int64 × jM} (H : f_X12_kernel Y v0 v1 v2 μ = some z) : jC l yX12_kernel cX12_kernel 8 (some .long) 7 0 0 [.ref v0, .int v1, .int v2] n Y μ n Y (some (.long z.1)) z.2 := by
  refine jC_of (by decide +kernel) (Nat.le_of_ble_eq_true rfl) (fun X hl K _ _ _ => ?_)
  obtain ⟨rr, μr⟩ := z
  exact t_X12_kernel_0 K hl H rfl
