/-! RX12 power(II)J -/
def b_X12_power_22 (Y : jY) (t0 : Int64) (μ : jM) : Option (Int64 × jM) :=
  some (t0, μ)
def f_X12_power (Y : jY) (v0 : Nat) (v1 : Int32) (v2 : Int32) (μ : jM) : Option (Int64 × jM) :=
  (jrcv Y v0 12 (f_X12_minor Y v0 v1 ((0 : Int32)) v2 μ)).bind fun r1 =>
  (jremI ((v1 - v2)) ((2 : Int32))).bind fun x2 =>
  if x2 = 0 then
    b_X12_power_22 Y r1.1 r1.2
  else
    b_X12_power_22 Y (-r1.1) r1.2
set_option maxRecDepth 10000 in
theorem t_X12_power_22 {X : jX} {l : Launch} {n : Nat} {Y : jY} (K : jOK X RX12 cX12_power 5 (some .long) 5) (hl : X.2.1 = l) {rr : Int64} {μr : jM} {t0 : Int64} {μ : jM} {z : (Int64 × jM)} (H : b_X12_power_22 Y t0 μ = some z) (D : z = (rr, μr)) : JW X (jEnd X n Y (some (.long rr)) μr 0 0) 0 0 n Y 22 [] [.long t0] μ := by
  unfold b_X12_power_22 at H
  cases H
  obtain ⟨rfl, rfl⟩ := jfin2 D
  exact r_lret K dX12_power_22
set_option maxRecDepth 10000 in
theorem t_X12_power_0 {X : jX} {l : Launch} {n : Nat} {Y : jY} (K : jOK X RX12 cX12_power 5 (some .long) 5) (hl : X.2.1 = l) {rr : Int64} {μr : jM} {v0 : Nat} {v1 : Int32} {v2 : Int32} {μ : jM} {z : (Int64 × jM)} (H : f_X12_power Y v0 v1 v2 μ = some z) (D : z = (rr, μr)) : JW X (jEnd X n Y (some (.long rr)) μr 0 0) 0 0 n Y 0 [(0, .ref v0), (1, .int v1), (2, .int v2)] [] μ := by
  unfold f_X12_power at H
  refine r_aload_n K 0 dX12_power_0 rfl rfl ?_
  refine r_iload_n K 1 dX12_power_1 rfl rfl ?_
  refine r_iconst (v := 0) K dX12_power_2 (by decide) ?_
  refine r_iload_n K 2 dX12_power_3 rfl rfl ?_
  refine w_callV K hl H (fun r h => c_X12_minor l h) mC_yX12_minor mM_RX12_173 mI_yX12_minor mS_yX12_minor mZ_RX12 vc12 (Nat.le_of_ble_eq_true rfl) (Nat.le_of_ble_eq_true rfl) np_yX12_minor rfl (Nat.le_of_ble_eq_true rfl) dX12_power_4 (fun r1 H => ?_) ⟨Nat.zero_le _, Nat.zero_le _⟩
  refine r_lstore_n K [(3, .long _), (0, .ref _), (1, .int _), (2, .int _)] dX12_power_7 rfl (by decide) rfl ?_
  refine r_iload_n K 2 dX12_power_8 rfl rfl ?_
  refine r_iload_n K 3 dX12_power_9 rfl rfl ?_
  refine r_isub K dX12_power_10 ?_
  refine r_iconst (v := 2) K dX12_power_11 (by decide) ?_
  refine w_irem K dX12_power_12 H (fun x2 H => ?_)
  refine w_if_ne K 20 dX12_power_13 (by decide) H (fun _ H => ?_) (fun _ H => ?_)
  · refine r_lload_n K 0 dX12_power_20 rfl rfl ?_
    refine r_lneg K dX12_power_21 ?_
    exact r_sub [] rfl (t_X12_power_22 K hl H D)
  · refine r_lload_n K 0 dX12_power_16 rfl rfl ?_
    refine r_goto K 22 dX12_power_17 (by decide) ?_
    exact r_sub [] rfl (t_X12_power_22 K hl H D)
theorem c_X12_power (l : Launch) {n : Nat} {Y : jY} {v0 : Nat} {v1 : Int32} {v2 : Int32} {μ : jM} {z : Int64 × jM} (H : f_X12_power Y v0 v1 v2 μ = some z) : jC l yX12_power cX12_power 5 (some .long) 5 0 0 [.ref v0, .int v1, .int v2] n Y μ n Y (some (.long z.1)) z.2 := by
  refine jC_of (by decide +kernel) (Nat.le_of_ble_eq_true rfl) (fun X hl K _ _ _ => ?_)
  obtain ⟨rr, μr⟩ := z
  exact t_X12_power_0 K hl H rfl
/-! RX12 told(I)J -/
def b_X12_told_15 (Y : jY) (t0 : Int64) (μ : jM) : Option (Int64 × jM) :=
  some (t0, μ)
def f_X12_told (Y : jY) (v0 : Nat) (v1 : Int32) (μ : jM) : Option (Int64 × jM) :=
  if v1 = 0 then
    (jgL Y μ v0 12 16).bind fun x2 =>
    b_X12_told_15 Y x2 μ
  else
    (jgL Y μ v0 12 17).bind fun x1 =>
    b_X12_told_15 Y x1 μ
set_option maxRecDepth 10000 in
theorem t_X12_told_15 {X : jX} {l : Launch} {n : Nat} {Y : jY} (K : jOK X RX12 cX12_told 2 (some .long) 1) (hl : X.2.1 = l) {rr : Int64} {μr : jM} {t0 : Int64} {μ : jM} {z : (Int64 × jM)} (H : b_X12_told_15 Y t0 μ = some z) (D : z = (rr, μr)) : JW X (jEnd X n Y (some (.long rr)) μr 0 0) 0 0 n Y 15 [] [.long t0] μ := by
  unfold b_X12_told_15 at H
  cases H
  obtain ⟨rfl, rfl⟩ := jfin2 D
  exact r_lret K dX12_told_15
set_option maxRecDepth 10000 in
theorem t_X12_told_0 {X : jX} {l : Launch} {n : Nat} {Y : jY} (K : jOK X RX12 cX12_told 2 (some .long) 1) (hl : X.2.1 = l) {rr : Int64} {μr : jM} {v0 : Nat} {v1 : Int32} {μ : jM} {z : (Int64 × jM)} (H : f_X12_told Y v0 v1 μ = some z) (D : z = (rr, μr)) : JW X (jEnd X n Y (some (.long rr)) μr 0 0) 0 0 n Y 0 [(0, .ref v0), (1, .int v1)] [] μ := by
  unfold f_X12_told at H
  refine r_iload_n K 1 dX12_told_0 rfl rfl ?_
  refine w_if_ne K 11 dX12_told_1 (by decide) H (fun _ H => ?_) (fun _ H => ?_)
  · refine r_aload_n K 0 dX12_told_11 rfl rfl ?_
    refine w_getL K vc12 inX12 17 (by decide) mF_RX12_181 dX12_told_12 H (fun x1 H => ?_)
    exact r_sub [] rfl (t_X12_told_15 K hl H D)
  · refine r_aload_n K 0 dX12_told_4 rfl rfl ?_
    refine w_getL K vc12 inX12 16 (by decide) mF_RX12_177 dX12_told_5 H (fun x2 H => ?_)
    refine r_goto K 15 dX12_told_8 (by decide) ?_
    exact r_sub [] rfl (t_X12_told_15 K hl H D)
theorem c_X12_told (l : Launch) {n : Nat} {Y : jY} {v0 : Nat} {v1 : Int32} {μ : jM} {z : Int64 × jM} (H : f_X12_told Y v0 v1 μ = some z) : jC l yX12_told cX12_told 2 (some .long) 1 0 0 [.ref v0, .int v1] n Y μ n Y (some (.long z.1)) z.2 := by
  refine jC_of (by decide +kernel) (Nat.le_of_ble_eq_true rfl) (fun X hl K _ _ _ => ?_)
  obtain ⟨rr, μr⟩ := z
  exact t_X12_told_0 K hl H rfl
/-! RX12 ortho(III)J -/
def b_X12_ortho_37 (Y : jY) (μ : jM) : Option (Int64 × jM) :=
  some ((-9223372036854775808 : Int64), μ)
def b_X12_ortho_82 (Y : jY) (v0 : Nat) (v3 : Int32) (μ : jM) : Option (Int64 × jM) :=
  (jrcv Y v0 12 (f_X12_told Y v0 v3 μ)).bind fun r1 =>
  some (r1.1, r1.2)
def f_X12_ortho (Y : jY) (v0 : Nat) (v1 : Int32) (v2 : Int32) (v3 : Int32) (μ : jM) : Option (Int64 × jM) :=
  (jgI Y μ v0 12 10).bind fun x1 =>
  if x1 = 0 then
    b_X12_ortho_37 Y μ
  else
    (jgI Y μ v0 12 10).bind fun x2 =>
    (f_X12_in Y v1 ((0 : Int32)) x2 μ).bind fun r3 =>
    if r3.1 = 0 then
      b_X12_ortho_37 Y r3.2
    else
      (f_X12_in Y v2 ((0 : Int32)) v1 r3.2).bind fun r4 =>
      if r4.1 = 0 then
        b_X12_ortho_37 Y r4.2
      else
        (f_X12_in Y v3 ((0 : Int32)) ((1 : Int32)) r4.2).bind fun r5 =>
        if r5.1 = 0 then
          b_X12_ortho_37 Y r5.2
        else
          (jrcv Y v0 12 (f_X12_laysTones Y v0 r5.2)).bind fun μ6 =>
          (jgI Y μ6 v0 12 10).bind fun x7 =>
          if v1 = x7 then
            (jgO Y μ6 v0 12 13).bind fun x11 =>
            (jaL Y μ6 x11 21 v2).bind fun x12 =>
            (jrcv Y v0 12 (f_X12_sets Y v0 x12 ((1 : Int64)) μ6)).bind fun μ13 =>
            b_X12_ortho_82 Y v0 v3 μ13
          else
            (jrcv Y v0 12 (f_X12_power Y v0 v1 v2 μ6)).bind fun r8 =>
            (jrcv Y v0 12 (f_X12_hankel Y v0 v1 r8.2)).bind fun r9 =>
            (jrcv Y v0 12 (f_X12_sets Y v0 r8.1 r9.1 r9.2)).bind fun μ10 =>
            b_X12_ortho_82 Y v0 v3 μ10
set_option maxRecDepth 10000 in
theorem t_X12_ortho_37 {X : jX} {l : Launch} {n : Nat} {Y : jY} (K : jOK X RX12 cX12_ortho 4 (some .long) 6) (hl : X.2.1 = l) {rr : Int64} {μr : jM} {μ : jM} {z : (Int64 × jM)} (H : b_X12_ortho_37 Y μ = some z) (D : z = (rr, μr)) : JW X (jEnd X n Y (some (.long rr)) μr 0 0) 0 0 n Y 37 [] [] μ := by
  unfold b_X12_ortho_37 at H
  refine r_ldc2 K (-9223372036854775808) mc_RX12_156 dX12_ortho_37 ?_
  cases H
  obtain ⟨rfl, rfl⟩ := jfin2 D
  exact r_lret K dX12_ortho_40
set_option maxRecDepth 10000 in
theorem t_X12_ortho_82 {X : jX} {l : Launch} {n : Nat} {Y : jY} (K : jOK X RX12 cX12_ortho 4 (some .long) 6) (hl : X.2.1 = l) {rr : Int64} {μr : jM} {v0 : Nat} {v3 : Int32} {μ : jM} {z : (Int64 × jM)} (H : b_X12_ortho_82 Y v0 v3 μ = some z) (D : z = (rr, μr)) : JW X (jEnd X n Y (some (.long rr)) μr 0 0) 0 0 n Y 82 [(0, .ref v0), (3, .int v3)] [] μ := by
  unfold b_X12_ortho_82 at H
  refine r_aload_n K 0 dX12_ortho_82 rfl rfl ?_
  refine r_iload_n K 1 dX12_ortho_83 rfl rfl ?_
  refine w_callV K hl H (fun r h => c_X12_told l h) mC_yX12_told mM_RX12_195 mI_yX12_told mS_yX12_told mZ_RX12 vc12 (Nat.le_of_ble_eq_true rfl) (Nat.le_of_ble_eq_true rfl) np_yX12_told rfl (Nat.le_of_ble_eq_true rfl) dX12_ortho_84 (fun r1 H => ?_) ⟨Nat.zero_le _, Nat.zero_le _⟩
  cases H
  obtain ⟨rfl, rfl⟩ := jfin2 D
  exact r_lret K dX12_ortho_87
set_option maxRecDepth 10000 in
theorem t_X12_ortho_0 {X : jX} {l : Launch} {n : Nat} {Y : jY} (K : jOK X RX12 cX12_ortho 4 (some .long) 6) (hl : X.2.1 = l) {rr : Int64} {μr : jM} {v0 : Nat} {v1 : Int32} {v2 : Int32} {v3 : Int32} {μ : jM} {z : (Int64 × jM)} (H : f_X12_ortho Y v0 v1 v2 v3 μ = some z) (D : z = (rr, μr)) : JW X (jEnd X n Y (some (.long rr)) μr 0 0) 0 0 n Y 0 [(0, .ref v0), (1, .int v1), (2, .int v2), (3, .int v3)] [] μ := by
  unfold f_X12_ortho at H
  refine r_aload_n K 0 dX12_ortho_0 rfl rfl ?_
  refine w_getI K vc12 inX12 10 (by decide) mF_RX12_145 dX12_ortho_1 H (fun x1 H => ?_)
  refine w_if_eq K 37 dX12_ortho_4 (by decide) H (fun _ H => ?_) (fun _ H => ?_)
  · exact r_sub [] rfl (t_X12_ortho_37 K hl H D)
  · refine r_iload_n K 1 dX12_ortho_7 rfl rfl ?_
    refine r_iconst (v := 0) K dX12_ortho_8 (by decide) ?_
    refine r_aload_n K 0 dX12_ortho_9 rfl rfl ?_
    refine w_getI K vc12 inX12 10 (by decide) mF_RX12_145 dX12_ortho_10 H (fun x2 H => ?_)
    refine w_callS K hl H (fun r h => c_X12_in l h) mC_yX12_in mM_RX12_134 mT_yX12_in mZ_RX12 (Nat.le_of_ble_eq_true rfl) (Nat.le_of_ble_eq_true rfl) np_yX12_in rfl (Nat.le_of_ble_eq_true rfl) dX12_ortho_13 (fun r3 H => ?_) ⟨Nat.zero_le _, Nat.zero_le _⟩
    refine w_if_eq K 37 dX12_ortho_16 (by decide) H (fun _ H => ?_) (fun _ H => ?_)
    · exact r_sub [] rfl (t_X12_ortho_37 K hl H D)
    · refine r_iload_n K 2 dX12_ortho_19 rfl rfl ?_
      refine r_iconst (v := 0) K dX12_ortho_20 (by decide) ?_
      refine r_iload_n K 1 dX12_ortho_21 rfl rfl ?_
      refine w_callS K hl H (fun r h => c_X12_in l h) mC_yX12_in mM_RX12_134 mT_yX12_in mZ_RX12 (Nat.le_of_ble_eq_true rfl) (Nat.le_of_ble_eq_true rfl) np_yX12_in rfl (Nat.le_of_ble_eq_true rfl) dX12_ortho_22 (fun r4 H => ?_) ⟨Nat.zero_le _, Nat.zero_le _⟩
      refine w_if_eq K 37 dX12_ortho_25 (by decide) H (fun _ H => ?_) (fun _ H => ?_)
      · exact r_sub [] rfl (t_X12_ortho_37 K hl H D)
      · refine r_iload_n K 3 dX12_ortho_28 rfl rfl ?_
        refine r_iconst (v := 0) K dX12_ortho_29 (by decide) ?_
        refine r_iconst (v := 1) K dX12_ortho_30 (by decide) ?_
        refine w_callS K hl H (fun r h => c_X12_in l h) mC_yX12_in mM_RX12_134 mT_yX12_in mZ_RX12 (Nat.le_of_ble_eq_true rfl) (Nat.le_of_ble_eq_true rfl) np_yX12_in rfl (Nat.le_of_ble_eq_true rfl) dX12_ortho_31 (fun r5 H => ?_) ⟨Nat.zero_le _, Nat.zero_le _⟩
        refine w_if_ne K 41 dX12_ortho_34 (by decide) H (fun _ H => ?_) (fun _ H => ?_)
        · refine r_aload_n K 0 dX12_ortho_41 rfl rfl ?_
          refine w_callV K hl H (fun r h => c_X12_laysTones l h) mC_yX12_laysTones mM_RX12_158 mI_yX12_laysTones mS_yX12_laysTones mZ_RX12 vc12 (Nat.le_of_ble_eq_true rfl) (Nat.le_of_ble_eq_true rfl) np_yX12_laysTones rfl (Nat.le_of_ble_eq_true rfl) dX12_ortho_42 (fun μ6 H => ?_) ⟨Nat.zero_le _, Nat.zero_le _⟩
          refine r_iload_n K 1 dX12_ortho_45 rfl rfl ?_
          refine r_aload_n K 0 dX12_ortho_46 rfl rfl ?_
          refine w_getI K vc12 inX12 10 (by decide) mF_RX12_145 dX12_ortho_47 H (fun x7 H => ?_)
          refine w_icmp_ne K 67 dX12_ortho_50 (by decide) H (fun _ H => ?_) (fun _ H => ?_)
          · refine r_aload_n K 0 dX12_ortho_67 rfl rfl ?_
            refine r_aload_n K 0 dX12_ortho_68 rfl rfl ?_
            refine r_iload_n K 1 dX12_ortho_69 rfl rfl ?_
            refine r_iload_n K 2 dX12_ortho_70 rfl rfl ?_
            refine w_callV K hl H (fun r h => c_X12_power l h) mC_yX12_power mM_RX12_217 mI_yX12_power mS_yX12_power mZ_RX12 vc12 (Nat.le_of_ble_eq_true rfl) (Nat.le_of_ble_eq_true rfl) np_yX12_power rfl (Nat.le_of_ble_eq_true rfl) dX12_ortho_71 (fun r8 H => ?_) ⟨Nat.zero_le _, Nat.zero_le _⟩
            refine r_aload_n K 0 dX12_ortho_74 rfl rfl ?_
            refine r_iload_n K 1 dX12_ortho_75 rfl rfl ?_
            refine w_callV K hl H (fun r h => c_X12_hankel l h) mC_yX12_hankel mM_RX12_199 mI_yX12_hankel mS_yX12_hankel mZ_RX12 vc12 (Nat.le_of_ble_eq_true rfl) (Nat.le_of_ble_eq_true rfl) np_yX12_hankel rfl (Nat.le_of_ble_eq_true rfl) dX12_ortho_76 (fun r9 H => ?_) ⟨Nat.zero_le _, Nat.zero_le _⟩
            refine w_callV K hl H (fun r h => c_X12_sets l h) mC_yX12_sets mM_RX12_191 mI_yX12_sets mS_yX12_sets mZ_RX12 vc12 (Nat.le_of_ble_eq_true rfl) (Nat.le_of_ble_eq_true rfl) np_yX12_sets rfl (Nat.le_of_ble_eq_true rfl) dX12_ortho_79 (fun μ10 H => ?_) ⟨Nat.zero_le _, Nat.zero_le _⟩
            exact r_sub [0, 3] rfl (t_X12_ortho_82 K hl H D)
          · refine r_aload_n K 0 dX12_ortho_53 rfl rfl ?_
            refine r_aload_n K 0 dX12_ortho_54 rfl rfl ?_
            refine w_getO K vc12 inX12 13 (by decide) mF_RX12_26 dX12_ortho_55 H (fun x11 H => ?_)
            refine r_iload_n K 2 dX12_ortho_58 rfl rfl ?_
            refine w_lald K dX12_ortho_59 H (fun x12 H => ?_)
            refine r_lconst (v := 1) K dX12_ortho_60 (by decide) ?_
            refine w_callV K hl H (fun r h => c_X12_sets l h) mC_yX12_sets mM_RX12_191 mI_yX12_sets mS_yX12_sets mZ_RX12 vc12 (Nat.le_of_ble_eq_true rfl) (Nat.le_of_ble_eq_true rfl) np_yX12_sets rfl (Nat.le_of_ble_eq_true rfl) dX12_ortho_61 (fun μ13 H => ?_) ⟨Nat.zero_le _, Nat.zero_le _⟩
            refine r_goto K 82 dX12_ortho_64 (by decide) ?_
            exact r_sub [0, 3] rfl (t_X12_ortho_82 K hl H D)
        · exact r_sub [] rfl (t_X12_ortho_37 K hl H D)
theorem c_X12_ortho (l : Launch) {n : Nat} {Y : jY} {v0 : Nat} {v1 : Int32} {v2 : Int32} {v3 : Int32} {μ : jM} {z : Int64 × jM} (H : f_X12_ortho Y v0 v1 v2 v3 μ = some z) : jC l yX12_ortho cX12_ortho 4 (some .long) 6 0 0 [.ref v0, .int v1, .int v2, .int v3] n Y μ n Y (some (.long z.1)) z.2 := by
  refine jC_of (by decide +kernel) (Nat.le_of_ble_eq_true rfl) (fun X hl K _ _ _ => ?_)
  obtain ⟨rr, μr⟩ := z
  exact t_X12_ortho_0 K hl H rfl
/-! RX12 begin0()V -/
def b_X12_begin0_32 (Y : jY) (v0 : Nat) (t0 : Nat) (t1 : Int32) (μ : jM) : Option (jM) :=
  (jput Y μ t0 12 42 (.int t1)).bind fun μ1 =>
  (jput Y μ1 v0 12 43 (.int ((-6 : Int32)))).bind fun μ2 =>
  (jput Y μ2 v0 12 45 (.int ((0 : Int32)))).bind fun μ3 =>
  some μ3
def f_X12_begin0 (Y : jY) (v0 : Nat) (μ : jM) : Option (jM) :=
  (jrcv Y v0 12 (f_X12_laysTones Y v0 μ)).bind fun μ1 =>
  (jgI Y μ1 v0 12 10).bind fun x2 =>
  if x2 = ((1 : Int32)) then
    b_X12_begin0_32 Y v0 v0 (0 : Int32) μ1
  else
    (jgI Y μ1 v0 12 10).bind fun x3 =>
    if x3 = ((2 : Int32)) then
      b_X12_begin0_32 Y v0 v0 (-7 : Int32) μ1
    else
      b_X12_begin0_32 Y v0 v0 (-6 : Int32) μ1
set_option maxRecDepth 10000 in
theorem t_X12_begin0_32 {X : jX} {l : Launch} {n : Nat} {Y : jY} (K : jOK X RX12 cX12_begin0 1 none 3) (hl : X.2.1 = l) {μr : jM} {v0 : Nat} {t0 : Nat} {t1 : Int32} {μ : jM} {z : (jM)} (H : b_X12_begin0_32 Y v0 t0 t1 μ = some z) (D : z = μr) : JW X (jEnd X n Y none μr 0 0) 0 0 n Y 32 [(0, .ref v0)] [.int t1, .ref t0] μ := by
  unfold b_X12_begin0_32 at H
  refine w_put K vc12 inX12 tyX12_ok nmX12 42 (by decide) mF_RX12_323 rfl (fun _ => rfl) (fun _ => rfl) dX12_begin0_32 H (fun μ1 H => ?_)
  refine r_aload_n K 0 dX12_begin0_35 rfl rfl ?_
  refine r_bipush (v := -6) K dX12_begin0_36 (by decide) ?_
  refine w_put K vc12 inX12 tyX12_ok nmX12 43 (by decide) mF_RX12_326 rfl (fun _ => rfl) (fun _ => rfl) dX12_begin0_38 H (fun μ2 H => ?_)
  refine r_aload_n K 0 dX12_begin0_41 rfl rfl ?_
  refine r_iconst (v := 0) K dX12_begin0_42 (by decide) ?_
  refine w_put K vc12 inX12 tyX12_ok nmX12 45 (by decide) mF_RX12_329 rfl (fun _ => rfl) (fun _ => rfl) dX12_begin0_43 H (fun μ3 H => ?_)
  cases H
  subst D
  exact r_vret K dX12_begin0_46
set_option maxRecDepth 10000 in
theorem t_X12_begin0_0 {X : jX} {l : Launch} {n : Nat} {Y : jY} (K : jOK X RX12 cX12_begin0 1 none 3) (hl : X.2.1 = l) {μr : jM} {v0 : Nat} {μ : jM} {z : (jM)} (H : f_X12_begin0 Y v0 μ = some z) (D : z = μr) : JW X (jEnd X n Y none μr 0 0) 0 0 n Y 0 [(0, .ref v0)] [] μ := by
  unfold f_X12_begin0 at H
  refine r_aload_n K 0 dX12_begin0_0 rfl rfl ?_
  refine w_callV K hl H (fun r h => c_X12_laysTones l h) mC_yX12_laysTones mM_RX12_158 mI_yX12_laysTones mS_yX12_laysTones mZ_RX12 vc12 (Nat.le_of_ble_eq_true rfl) (Nat.le_of_ble_eq_true rfl) np_yX12_laysTones rfl (Nat.le_of_ble_eq_true rfl) dX12_begin0_1 (fun μ1 H => ?_) ⟨Nat.zero_le _, Nat.zero_le _⟩
  refine r_aload_n K 0 dX12_begin0_4 rfl rfl ?_
  refine r_aload_n K 0 dX12_begin0_5 rfl rfl ?_
  refine w_getI K vc12 inX12 10 (by decide) mF_RX12_145 dX12_begin0_6 H (fun x2 H => ?_)
  refine r_iconst (v := 1) K dX12_begin0_9 (by decide) ?_
  refine w_icmp_ne K 17 dX12_begin0_10 (by decide) H (fun _ H => ?_) (fun _ H => ?_)
  · refine r_aload_n K 0 dX12_begin0_17 rfl rfl ?_
    refine w_getI K vc12 inX12 10 (by decide) mF_RX12_145 dX12_begin0_18 H (fun x3 H => ?_)
    refine r_iconst (v := 2) K dX12_begin0_21 (by decide) ?_
    refine w_icmp_ne K 30 dX12_begin0_22 (by decide) H (fun _ H => ?_) (fun _ H => ?_)
    · refine r_bipush (v := -6) K dX12_begin0_30 (by decide) ?_
      exact r_sub [0] rfl (t_X12_begin0_32 K hl H D)
    · refine r_bipush (v := -7) K dX12_begin0_25 (by decide) ?_
      refine r_goto K 32 dX12_begin0_27 (by decide) ?_
      exact r_sub [0] rfl (t_X12_begin0_32 K hl H D)
  · refine r_iconst (v := 0) K dX12_begin0_13 (by decide) ?_
    refine r_goto K 32 dX12_begin0_14 (by decide) ?_
    exact r_sub [0] rfl (t_X12_begin0_32 K hl H D)
theorem c_X12_begin0 (l : Launch) {n : Nat} {Y : jY} {v0 : Nat} {μ : jM} {z : jM} (H : f_X12_begin0 Y v0 μ = some z) : jC l yX12_begin0 cX12_begin0 1 none 3 0 0 [.ref v0] n Y μ n Y none z := by
  refine jC_of (by decide +kernel) (Nat.le_of_ble_eq_true rfl) (fun X hl K _ _ _ => ?_)
  exact t_X12_begin0_0 K hl H rfl
/-! RX12 isTable()Z -/
def b_X12_isTable_146 (Y : jY) (t0 : Int32) (μ : jM) : Option (Int32 × jM) :=
  (jbool t0).bind fun x1 =>
  some (x1, μ)
def b_X12_isTable_145 (Y : jY) (μ : jM) : Option (Int32 × jM) :=
  b_X12_isTable_146 Y (0 : Int32) μ
def f_X12_isTable (Y : jY) (v0 : Nat) (μ : jM) : Option (Int32 × jM) :=
  (jgO Y μ v0 12 13).bind fun x1 =>
  (jaL Y μ x1 21 ((2 : Int32))).bind fun x2 =>
  (jgI Y μ v0 12 42).bind fun x3 =>
  (jgI Y μ v0 12 43).bind fun x4 =>
  (jput Y μ v0 12 44 (.int ((((((((-x2)).toInt32)) - x3)) - x4)))).bind fun μ5 =>
  (jgI Y μ5 v0 12 42).bind fun x6 =>
  (jgI Y μ5 v0 12 43).bind fun x7 =>
  (jgI Y μ5 v0 12 42).bind fun x8 =>
  (jgI Y μ5 v0 12 44).bind fun x9 =>
  (jgI Y μ5 v0 12 43).bind fun x10 =>
  (jgI Y μ5 v0 12 44).bind fun x11 =>
  (jgI Y μ5 v0 12 45).bind fun x12 =>
  (jgO Y μ5 v0 12 13).bind fun x13 =>
  (jaL Y μ5 x13 21 ((1 : Int32))).bind fun x14 =>
  (jput Y μ5 v0 12 46 (.int ((((((((((x6 * x7)) + ((x8 * x9)))) + ((x10 * x11)))) - x12)) - ((x14.toInt32)))))).bind fun μ15 =>
  (jgI Y μ15 v0 12 44).bind fun x16 =>
  (f_X12_in Y x16 ((-6 : Int32)) ((6 : Int32)) μ15).bind fun r17 =>
  if r17.1 = 0 then
    b_X12_isTable_145 Y r17.2
  else
    (jgI Y r17.2 v0 12 46).bind fun x18 =>
    (f_X12_in Y x18 ((1 : Int32)) ((36 : Int32)) r17.2).bind fun r19 =>
    if r19.1 = 0 then
      b_X12_isTable_145 Y r19.2
    else
      (jgI Y r19.2 v0 12 42).bind fun x20 =>
      (jgI Y r19.2 v0 12 43).bind fun x21 =>
      (jgI Y r19.2 v0 12 44).bind fun x22 =>
      (jgI Y r19.2 v0 12 45).bind fun x23 =>
      (jgI Y r19.2 v0 12 44).bind fun x24 =>
      (jgI Y r19.2 v0 12 46).bind fun x25 =>
      (jgI Y r19.2 v0 12 42).bind fun x26 =>
      (jgO Y r19.2 v0 12 13).bind fun x27 =>
      (jaL Y r19.2 x27 21 ((0 : Int32))).bind fun x28 =>
      if ((lg_cmp ((((((((((x20 * x21)) * x22)) - ((x23 * x24)))) - ((x25 * x26)))).toInt64)) ((-x28)))) = 0 then
        b_X12_isTable_146 Y (1 : Int32) r19.2
      else
        b_X12_isTable_145 Y r19.2
set_option maxRecDepth 10000 in
theorem t_X12_isTable_146 {X : jX} {l : Launch} {n : Nat} {Y : jY} (K : jOK X RX12 cX12_isTable 1 (some .boolean) 2) (hl : X.2.1 = l) {rr : Int32} {μr : jM} {t0 : Int32} {μ : jM} {z : (Int32 × jM)} (H : b_X12_isTable_146 Y t0 μ = some z) (D : z = (rr, μr)) : JW X (jEnd X n Y (some (.int rr)) μr 0 0) 0 0 n Y 146 [] [.int t0] μ := by
  unfold b_X12_isTable_146 at H
  refine w_zret K dX12_isTable_146 H (fun hz H => ?_)
  cases H
  obtain ⟨rfl, rfl⟩ := jfin2 D
  exact r_zret K hz dX12_isTable_146
set_option maxRecDepth 10000 in
theorem t_X12_isTable_145 {X : jX} {l : Launch} {n : Nat} {Y : jY} (K : jOK X RX12 cX12_isTable 1 (some .boolean) 2) (hl : X.2.1 = l) {rr : Int32} {μr : jM} {μ : jM} {z : (Int32 × jM)} (H : b_X12_isTable_145 Y μ = some z) (D : z = (rr, μr)) : JW X (jEnd X n Y (some (.int rr)) μr 0 0) 0 0 n Y 145 [] [] μ := by
  unfold b_X12_isTable_145 at H
  refine r_iconst (v := 0) K dX12_isTable_145 (by decide) ?_
  exact r_sub [] rfl (t_X12_isTable_146 K hl H D)
set_option maxRecDepth 10000 in
theorem t_X12_isTable_0 {X : jX} {l : Launch} {n : Nat} {Y : jY} (K : jOK X RX12 cX12_isTable 1 (some .boolean) 2) (hl : X.2.1 = l) {rr : Int32} {μr : jM} {v0 : Nat} {μ : jM} {z : (Int32 × jM)} (H : f_X12_isTable Y v0 μ = some z) (D : z = (rr, μr)) : JW X (jEnd X n Y (some (.int rr)) μr 0 0) 0 0 n Y 0 [(0, .ref v0)] [] μ := by
  unfold f_X12_isTable at H
  refine r_aload_n K 0 dX12_isTable_0 rfl rfl ?_
  refine r_aload_n K 0 dX12_isTable_1 rfl rfl ?_
  refine w_getO K vc12 inX12 13 (by decide) mF_RX12_26 dX12_isTable_2 H (fun x1 H => ?_)
  refine r_iconst (v := 2) K dX12_isTable_5 (by decide) ?_
  refine w_lald K dX12_isTable_6 H (fun x2 H => ?_)
  refine r_lneg K dX12_isTable_7 ?_
  refine r_l2i K dX12_isTable_8 ?_
  refine r_aload_n K 0 dX12_isTable_9 rfl rfl ?_
  refine w_getI K vc12 inX12 42 (by decide) mF_RX12_323 dX12_isTable_10 H (fun x3 H => ?_)
  refine r_isub K dX12_isTable_13 ?_
  refine r_aload_n K 0 dX12_isTable_14 rfl rfl ?_
  refine w_getI K vc12 inX12 43 (by decide) mF_RX12_326 dX12_isTable_15 H (fun x4 H => ?_)
  refine r_isub K dX12_isTable_18 ?_
  refine w_put K vc12 inX12 tyX12_ok nmX12 44 (by decide) mF_RX12_338 rfl (fun _ => rfl) (fun _ => rfl) dX12_isTable_19 H (fun μ5 H => ?_)
  refine r_aload_n K 0 dX12_isTable_22 rfl rfl ?_
  refine r_aload_n K 0 dX12_isTable_23 rfl rfl ?_
  refine w_getI K vc12 inX12 42 (by decide) mF_RX12_323 dX12_isTable_24 H (fun x6 H => ?_)
  refine r_aload_n K 0 dX12_isTable_27 rfl rfl ?_
  refine w_getI K vc12 inX12 43 (by decide) mF_RX12_326 dX12_isTable_28 H (fun x7 H => ?_)
  refine r_imul K dX12_isTable_31 ?_
  refine r_aload_n K 0 dX12_isTable_32 rfl rfl ?_
  refine w_getI K vc12 inX12 42 (by decide) mF_RX12_323 dX12_isTable_33 H (fun x8 H => ?_)
  refine r_aload_n K 0 dX12_isTable_36 rfl rfl ?_
  refine w_getI K vc12 inX12 44 (by decide) mF_RX12_338 dX12_isTable_37 H (fun x9 H => ?_)
  refine r_imul K dX12_isTable_40 ?_
  refine r_iadd K dX12_isTable_41 ?_
  refine r_aload_n K 0 dX12_isTable_42 rfl rfl ?_
  refine w_getI K vc12 inX12 43 (by decide) mF_RX12_326 dX12_isTable_43 H (fun x10 H => ?_)
  refine r_aload_n K 0 dX12_isTable_46 rfl rfl ?_
  refine w_getI K vc12 inX12 44 (by decide) mF_RX12_338 dX12_isTable_47 H (fun x11 H => ?_)
  refine r_imul K dX12_isTable_50 ?_
  refine r_iadd K dX12_isTable_51 ?_
  refine r_aload_n K 0 dX12_isTable_52 rfl rfl ?_
  refine w_getI K vc12 inX12 45 (by decide) mF_RX12_329 dX12_isTable_53 H (fun x12 H => ?_)
  refine r_isub K dX12_isTable_56 ?_
  refine r_aload_n K 0 dX12_isTable_57 rfl rfl ?_
  refine w_getO K vc12 inX12 13 (by decide) mF_RX12_26 dX12_isTable_58 H (fun x13 H => ?_)
  refine r_iconst (v := 1) K dX12_isTable_61 (by decide) ?_
  refine w_lald K dX12_isTable_62 H (fun x14 H => ?_)
  refine r_l2i K dX12_isTable_63 ?_
  refine r_isub K dX12_isTable_64 ?_
  refine w_put K vc12 inX12 tyX12_ok nmX12 46 (by decide) mF_RX12_341 rfl (fun _ => rfl) (fun _ => rfl) dX12_isTable_65 H (fun μ15 H => ?_)
  refine r_aload_n K 0 dX12_isTable_68 rfl rfl ?_
  refine w_getI K vc12 inX12 44 (by decide) mF_RX12_338 dX12_isTable_69 H (fun x16 H => ?_)
  refine r_bipush (v := -6) K dX12_isTable_72 (by decide) ?_
  refine r_bipush (v := 6) K dX12_isTable_74 (by decide) ?_
  refine w_callS K hl H (fun r h => c_X12_in l h) mC_yX12_in mM_RX12_134 mT_yX12_in mZ_RX12 (Nat.le_of_ble_eq_true rfl) (Nat.le_of_ble_eq_true rfl) np_yX12_in rfl (Nat.le_of_ble_eq_true rfl) dX12_isTable_76 (fun r17 H => ?_) ⟨Nat.zero_le _, Nat.zero_le _⟩
  refine w_if_eq K 145 dX12_isTable_79 (by decide) H (fun _ H => ?_) (fun _ H => ?_)
  · exact r_sub [] rfl (t_X12_isTable_145 K hl H D)
  · refine r_aload_n K 0 dX12_isTable_82 rfl rfl ?_
    refine w_getI K vc12 inX12 46 (by decide) mF_RX12_341 dX12_isTable_83 H (fun x18 H => ?_)
    refine r_iconst (v := 1) K dX12_isTable_86 (by decide) ?_
    refine r_bipush (v := 36) K dX12_isTable_87 (by decide) ?_
    refine w_callS K hl H (fun r h => c_X12_in l h) mC_yX12_in mM_RX12_134 mT_yX12_in mZ_RX12 (Nat.le_of_ble_eq_true rfl) (Nat.le_of_ble_eq_true rfl) np_yX12_in rfl (Nat.le_of_ble_eq_true rfl) dX12_isTable_89 (fun r19 H => ?_) ⟨Nat.zero_le _, Nat.zero_le _⟩
    refine w_if_eq K 145 dX12_isTable_92 (by decide) H (fun _ H => ?_) (fun _ H => ?_)
    · exact r_sub [] rfl (t_X12_isTable_145 K hl H D)
    · refine r_aload_n K 0 dX12_isTable_95 rfl rfl ?_
      refine w_getI K vc12 inX12 42 (by decide) mF_RX12_323 dX12_isTable_96 H (fun x20 H => ?_)
      refine r_aload_n K 0 dX12_isTable_99 rfl rfl ?_
      refine w_getI K vc12 inX12 43 (by decide) mF_RX12_326 dX12_isTable_100 H (fun x21 H => ?_)
      refine r_imul K dX12_isTable_103 ?_
      refine r_aload_n K 0 dX12_isTable_104 rfl rfl ?_
      refine w_getI K vc12 inX12 44 (by decide) mF_RX12_338 dX12_isTable_105 H (fun x22 H => ?_)
      refine r_imul K dX12_isTable_108 ?_
      refine r_aload_n K 0 dX12_isTable_109 rfl rfl ?_
      refine w_getI K vc12 inX12 45 (by decide) mF_RX12_329 dX12_isTable_110 H (fun x23 H => ?_)
      refine r_aload_n K 0 dX12_isTable_113 rfl rfl ?_
      refine w_getI K vc12 inX12 44 (by decide) mF_RX12_338 dX12_isTable_114 H (fun x24 H => ?_)
      refine r_imul K dX12_isTable_117 ?_
      refine r_isub K dX12_isTable_118 ?_
      refine r_aload_n K 0 dX12_isTable_119 rfl rfl ?_
      refine w_getI K vc12 inX12 46 (by decide) mF_RX12_341 dX12_isTable_120 H (fun x25 H => ?_)
      refine r_aload_n K 0 dX12_isTable_123 rfl rfl ?_
      refine w_getI K vc12 inX12 42 (by decide) mF_RX12_323 dX12_isTable_124 H (fun x26 H => ?_)
      refine r_imul K dX12_isTable_127 ?_
      refine r_isub K dX12_isTable_128 ?_
      refine r_i2l K dX12_isTable_129 ?_
      refine r_aload_n K 0 dX12_isTable_130 rfl rfl ?_
      refine w_getO K vc12 inX12 13 (by decide) mF_RX12_26 dX12_isTable_131 H (fun x27 H => ?_)
      refine r_iconst (v := 0) K dX12_isTable_134 (by decide) ?_
      refine w_lald K dX12_isTable_135 H (fun x28 H => ?_)
      refine r_lneg K dX12_isTable_136 ?_
      refine r_lcmp K dX12_isTable_137 ?_
      refine w_if_ne K 145 dX12_isTable_138 (by decide) H (fun _ H => ?_) (fun _ H => ?_)
      · exact r_sub [] rfl (t_X12_isTable_145 K hl H D)
      · refine r_iconst (v := 1) K dX12_isTable_141 (by decide) ?_
        refine r_goto K 146 dX12_isTable_142 (by decide) ?_
        exact r_sub [] rfl (t_X12_isTable_146 K hl H D)
theorem c_X12_isTable (l : Launch) {n : Nat} {Y : jY} {v0 : Nat} {μ : jM} {z : Int32 × jM} (H : f_X12_isTable Y v0 μ = some z) : jC l yX12_isTable cX12_isTable 1 (some .boolean) 2 0 0 [.ref v0] n Y μ n Y (some (.int z.1)) z.2 := by
  refine jC_of (by decide +kernel) (Nat.le_of_ble_eq_true rfl) (fun X hl K _ _ _ => ?_)
  obtain ⟨rr, μr⟩ := z
  exact t_X12_isTable_0 K hl H rfl
/-! RX12 steps()V -/
def f_X12_steps (Y : jY) (v0 : Nat) (μ : jM) : Option (jM) :=
  (jgI Y μ v0 12 45).bind fun x1 =>
  (jput Y μ v0 12 45 (.int ((x1 + ((1 : Int32)))))).bind fun μ2 =>
  (jgI Y μ2 v0 12 45).bind fun x3 =>
  if ((36 : Int32)) < x3 then
    (jput Y μ2 v0 12 45 (.int ((1 : Int32)))).bind fun μ4 =>
    (jgI Y μ4 v0 12 43).bind fun x5 =>
    (jput Y μ4 v0 12 43 (.int ((x5 + ((1 : Int32)))))).bind fun μ6 =>
    (jgI Y μ6 v0 12 43).bind fun x7 =>
    if ((6 : Int32)) < x7 then
      (jput Y μ6 v0 12 43 (.int ((-6 : Int32)))).bind fun μ8 =>
      (jgI Y μ8 v0 12 42).bind fun x9 =>
      (jput Y μ8 v0 12 42 (.int ((x9 + ((1 : Int32)))))).bind fun μ10 =>
      some μ10
    else
      some μ6
  else
    some μ2
set_option maxRecDepth 10000 in
theorem t_X12_steps_0 {X : jX} {l : Launch} {n : Nat} {Y : jY} (K : jOK X RX12 cX12_steps 1 none 1) (hl : X.2.1 = l) {μr : jM} {v0 : Nat} {μ : jM} {z : (jM)} (H : f_X12_steps Y v0 μ = some z) (D : z = μr) : JW X (jEnd X n Y none μr 0 0) 0 0 n Y 0 [(0, .ref v0)] [] μ := by
  unfold f_X12_steps at H
  refine r_aload_n K 0 dX12_steps_0 rfl rfl ?_
  refine r_aload_n K 0 dX12_steps_1 rfl rfl ?_
  refine w_getI K vc12 inX12 45 (by decide) mF_RX12_329 dX12_steps_2 H (fun x1 H => ?_)
  refine r_iconst (v := 1) K dX12_steps_5 (by decide) ?_
  refine r_iadd K dX12_steps_6 ?_
  refine w_put K vc12 inX12 tyX12_ok nmX12 45 (by decide) mF_RX12_329 rfl (fun _ => rfl) (fun _ => rfl) dX12_steps_7 H (fun μ2 H => ?_)
  refine r_aload_n K 0 dX12_steps_10 rfl rfl ?_
  refine w_getI K vc12 inX12 45 (by decide) mF_RX12_329 dX12_steps_11 H (fun x3 H => ?_)
  refine r_bipush (v := 36) K dX12_steps_14 (by decide) ?_
  refine w_icmp_gt K 20 dX12_steps_16 (by decide) H (fun _ H => ?_) (fun _ H => ?_)
  · refine r_aload_n K 0 dX12_steps_20 rfl rfl ?_
    refine r_iconst (v := 1) K dX12_steps_21 (by decide) ?_
    refine w_put K vc12 inX12 tyX12_ok nmX12 45 (by decide) mF_RX12_329 rfl (fun _ => rfl) (fun _ => rfl) dX12_steps_22 H (fun μ4 H => ?_)
    refine r_aload_n K 0 dX12_steps_25 rfl rfl ?_
    refine r_aload_n K 0 dX12_steps_26 rfl rfl ?_
    refine w_getI K vc12 inX12 43 (by decide) mF_RX12_326 dX12_steps_27 H (fun x5 H => ?_)
    refine r_iconst (v := 1) K dX12_steps_30 (by decide) ?_
    refine r_iadd K dX12_steps_31 ?_
    refine w_put K vc12 inX12 tyX12_ok nmX12 43 (by decide) mF_RX12_326 rfl (fun _ => rfl) (fun _ => rfl) dX12_steps_32 H (fun μ6 H => ?_)
    refine r_aload_n K 0 dX12_steps_35 rfl rfl ?_
    refine w_getI K vc12 inX12 43 (by decide) mF_RX12_326 dX12_steps_36 H (fun x7 H => ?_)
    refine r_bipush (v := 6) K dX12_steps_39 (by decide) ?_
    refine w_icmp_gt K 45 dX12_steps_41 (by decide) H (fun _ H => ?_) (fun _ H => ?_)
    · refine r_aload_n K 0 dX12_steps_45 rfl rfl ?_
      refine r_bipush (v := -6) K dX12_steps_46 (by decide) ?_
      refine w_put K vc12 inX12 tyX12_ok nmX12 43 (by decide) mF_RX12_326 rfl (fun _ => rfl) (fun _ => rfl) dX12_steps_48 H (fun μ8 H => ?_)
      refine r_aload_n K 0 dX12_steps_51 rfl rfl ?_
      refine r_aload_n K 0 dX12_steps_52 rfl rfl ?_
      refine w_getI K vc12 inX12 42 (by decide) mF_RX12_323 dX12_steps_53 H (fun x9 H => ?_)
      refine r_iconst (v := 1) K dX12_steps_56 (by decide) ?_
      refine r_iadd K dX12_steps_57 ?_
      refine w_put K vc12 inX12 tyX12_ok nmX12 42 (by decide) mF_RX12_323 rfl (fun _ => rfl) (fun _ => rfl) dX12_steps_58 H (fun μ10 H => ?_)
      cases H
      subst D
      exact r_vret K dX12_steps_61
    · cases H
      subst D
      exact r_vret K dX12_steps_44
  · cases H
    subst D
    exact r_vret K dX12_steps_19
theorem c_X12_steps (l : Launch) {n : Nat} {Y : jY} {v0 : Nat} {μ : jM} {z : jM} (H : f_X12_steps Y v0 μ = some z) : jC l yX12_steps cX12_steps 1 none 1 0 0 [.ref v0] n Y μ n Y none z := by
  refine jC_of (by decide +kernel) (Nat.le_of_ble_eq_true rfl) (fun X hl K _ _ _ => ?_)
  exact t_X12_steps_0 K hl H rfl
/-! RX12 goesOn()Z -/
def b_X12_goesOn_177 (Y : jY) (v1 : Int32) (μ : jM) : Option (Int32 × jM) :=
  (jbool v1).bind fun x1 =>
  some (x1, μ)
def b_X12_goesOn_173 (Y : jY) (v0 : Nat) (t0 : Int32) (μ : jM) : Option ((Int32 × jM) ⊕ (Int32 × jM)) :=
  some (.inl (t0, μ))
def b_X12_goesOn_172 (Y : jY) (v0 : Nat) (μ : jM) : Option ((Int32 × jM) ⊕ (Int32 × jM)) :=
  b_X12_goesOn_173 Y v0 (0 : Int32) μ
def b_X12_goesOn_144 (Y : jY) (v0 : Nat) (t0 : Int32) (μ : jM) : Option ((Int32 × jM) ⊕ (Int32 × jM)) :=
  some (.inl (t0, μ))
def b_X12_goesOn_143 (Y : jY) (v0 : Nat) (μ : jM) : Option ((Int32 × jM) ⊕ (Int32 × jM)) :=
  b_X12_goesOn_144 Y v0 (0 : Int32) μ
def b_X12_goesOn_34 (Y : jY) (v0 : Nat) (v1 : Int32) (μ : jM) : Option ((Int32 × jM) ⊕ (Int32 × jM)) :=
  if v1 = 0 then
    (jgI Y μ v0 12 42).bind fun x1 =>
    if ((6 : Int32)) < x1 then
      (b_X12_goesOn_177 Y v1 μ).map (fun r => (.inr r))
    else
      (jgI Y μ v0 12 10).bind fun x2 =>
      if x2 = ((2 : Int32)) then
        (jgI Y μ v0 12 42).bind fun x6 =>
        (jput Y μ v0 12 42 (.int ((x6 + ((1 : Int32)))))).bind fun μ7 =>
        (jgO Y μ7 v0 12 13).bind fun x8 =>
        (jaL Y μ7 x8 21 ((1 : Int32))).bind fun x9 =>
        (jgI Y μ7 v0 12 42).bind fun x10 =>
        (jput Y μ7 v0 12 43 (.int ((((((-x9)).toInt32)) - x10)))).bind fun μ11 =>
        (jgI Y μ11 v0 12 42).bind fun x12 =>
        (jgI Y μ11 v0 12 43).bind fun x13 =>
        (jgO Y μ11 v0 12 13).bind fun x14 =>
        (jaL Y μ11 x14 21 ((0 : Int32))).bind fun x15 =>
        (jput Y μ11 v0 12 45 (.int ((((x12 * x13)) - ((x15.toInt32)))))).bind fun μ16 =>
        (jgI Y μ16 v0 12 42).bind fun x17 =>
        if ((6 : Int32)) < x17 then
          b_X12_goesOn_143 Y v0 μ16
        else
          (jgI Y μ16 v0 12 43).bind fun x18 =>
          (f_X12_in Y x18 ((-6 : Int32)) ((6 : Int32)) μ16).bind fun r19 =>
          if r19.1 = 0 then
            b_X12_goesOn_143 Y v0 r19.2
          else
            (jgI Y r19.2 v0 12 45).bind fun x20 =>
            (f_X12_in Y x20 ((1 : Int32)) ((36 : Int32)) r19.2).bind fun r21 =>
            if r21.1 = 0 then
              b_X12_goesOn_143 Y v0 r21.2
            else
              b_X12_goesOn_144 Y v0 (1 : Int32) r21.2
      else
        (jrcv Y v0 12 (f_X12_steps Y v0 μ)).bind fun μ3 =>
        (jgI Y μ3 v0 12 42).bind fun x4 =>
        if ((6 : Int32)) < x4 then
          b_X12_goesOn_172 Y v0 μ3
        else
          (jrcv Y v0 12 (f_X12_isTable Y v0 μ3)).bind fun r5 =>
          if r5.1 = 0 then
            b_X12_goesOn_172 Y v0 r5.2
          else
            b_X12_goesOn_173 Y v0 (1 : Int32) r5.2
  else
    (b_X12_goesOn_177 Y v1 μ).map (fun r => (.inr r))
def b_X12_goesOn_31 (Y : jY) (t0 : Int32) (μ : jM) : Option (Int32 × jM) :=
  (jbool t0).bind fun x1 =>
  some (x1, μ)
def f_X12_goesOn (Y : jY) (v0 : Nat) (μ : jM) : Option (Int32 × jM) :=
  (jgI Y μ v0 12 10).bind fun x1 =>
  if x1 = ((1 : Int32)) then
    (jgI Y μ v0 12 42).bind fun x2 =>
    (jput Y μ v0 12 42 (.int ((x2 + ((1 : Int32)))))).bind fun μ3 =>
    (jgI Y μ3 v0 12 42).bind fun x4 =>
    if x4 = ((1 : Int32)) then
      b_X12_goesOn_31 Y (1 : Int32) μ3
    else
      b_X12_goesOn_31 Y (0 : Int32) μ3
  else
    jit jF (fun (s : Int32 × jM) => b_X12_goesOn_34 Y v0 s.1 s.2) ((0 : Int32), μ)
set_option maxRecDepth 10000 in
theorem t_X12_goesOn_177 {X : jX} {l : Launch} {n : Nat} {Y : jY} (K : jOK X RX12 cX12_goesOn 2 (some .boolean) 3) (hl : X.2.1 = l) {rr : Int32} {μr : jM} {v1 : Int32} {μ : jM} {z : (Int32 × jM)} (H : b_X12_goesOn_177 Y v1 μ = some z) (D : z = (rr, μr)) : JW X (jEnd X n Y (some (.int rr)) μr 0 0) 0 0 n Y 177 [(1, .int v1)] [] μ := by
  unfold b_X12_goesOn_177 at H
  refine r_iload_n K 0 dX12_goesOn_177 rfl rfl ?_
  refine w_zret K dX12_goesOn_178 H (fun hz H => ?_)
  cases H
  obtain ⟨rfl, rfl⟩ := jfin2 D
  exact r_zret K hz dX12_goesOn_178
set_option maxRecDepth 10000 in
theorem t_X12_goesOn_173 {X : jX} {l : Launch} {n : Nat} {Y : jY} (K : jOK X RX12 cX12_goesOn 2 (some .boolean) 3) (hl : X.2.1 = l) {rr : Int32} {μr : jM} {v0 : Nat} {t0 : Int32} {μ : jM} {z : ((Int32 × jM) ⊕ (Int32 × jM))} (H : b_X12_goesOn_173 Y v0 t0 μ = some z) (D : Sum.elim (fun (s : Int32 × jM) => JW X (jEnd X n Y (some (.int rr)) μr 0 0) 0 0 n Y 34 [(0, .ref v0), (1, .int s.1)] [] s.2) (fun r => r = (rr, μr)) z) : JW X (jEnd X n Y (some (.int rr)) μr 0 0) 0 0 n Y 173 [(0, .ref v0)] [.int t0] μ := by
  unfold b_X12_goesOn_173 at H
  refine r_istore_n K [(1, .int _), (0, .ref _)] dX12_goesOn_173 rfl (by decide) rfl ?_
  refine r_goto K 34 dX12_goesOn_174 (by decide) ?_
  cases H
  exact r_sub [1, 0] rfl D
set_option maxRecDepth 10000 in
theorem t_X12_goesOn_172 {X : jX} {l : Launch} {n : Nat} {Y : jY} (K : jOK X RX12 cX12_goesOn 2 (some .boolean) 3) (hl : X.2.1 = l) {rr : Int32} {μr : jM} {v0 : Nat} {μ : jM} {z : ((Int32 × jM) ⊕ (Int32 × jM))} (H : b_X12_goesOn_172 Y v0 μ = some z) (D : Sum.elim (fun (s : Int32 × jM) => JW X (jEnd X n Y (some (.int rr)) μr 0 0) 0 0 n Y 34 [(0, .ref v0), (1, .int s.1)] [] s.2) (fun r => r = (rr, μr)) z) : JW X (jEnd X n Y (some (.int rr)) μr 0 0) 0 0 n Y 172 [(0, .ref v0)] [] μ := by
  unfold b_X12_goesOn_172 at H
  refine r_iconst (v := 0) K dX12_goesOn_172 (by decide) ?_
  exact r_sub [0] rfl (t_X12_goesOn_173 K hl H D)
set_option maxRecDepth 10000 in
theorem t_X12_goesOn_144 {X : jX} {l : Launch} {n : Nat} {Y : jY} (K : jOK X RX12 cX12_goesOn 2 (some .boolean) 3) (hl : X.2.1 = l) {rr : Int32} {μr : jM} {v0 : Nat} {t0 : Int32} {μ : jM} {z : ((Int32 × jM) ⊕ (Int32 × jM))} (H : b_X12_goesOn_144 Y v0 t0 μ = some z) (D : Sum.elim (fun (s : Int32 × jM) => JW X (jEnd X n Y (some (.int rr)) μr 0 0) 0 0 n Y 34 [(0, .ref v0), (1, .int s.1)] [] s.2) (fun r => r = (rr, μr)) z) : JW X (jEnd X n Y (some (.int rr)) μr 0 0) 0 0 n Y 144 [(0, .ref v0)] [.int t0] μ := by
  unfold b_X12_goesOn_144 at H
  refine r_istore_n K [(1, .int _), (0, .ref _)] dX12_goesOn_144 rfl (by decide) rfl ?_
  refine r_goto K 34 dX12_goesOn_145 (by decide) ?_
  cases H
  exact r_sub [1, 0] rfl D
set_option maxRecDepth 10000 in
theorem t_X12_goesOn_143 {X : jX} {l : Launch} {n : Nat} {Y : jY} (K : jOK X RX12 cX12_goesOn 2 (some .boolean) 3) (hl : X.2.1 = l) {rr : Int32} {μr : jM} {v0 : Nat} {μ : jM} {z : ((Int32 × jM) ⊕ (Int32 × jM))} (H : b_X12_goesOn_143 Y v0 μ = some z) (D : Sum.elim (fun (s : Int32 × jM) => JW X (jEnd X n Y (some (.int rr)) μr 0 0) 0 0 n Y 34 [(0, .ref v0), (1, .int s.1)] [] s.2) (fun r => r = (rr, μr)) z) : JW X (jEnd X n Y (some (.int rr)) μr 0 0) 0 0 n Y 143 [(0, .ref v0)] [] μ := by
  unfold b_X12_goesOn_143 at H
  refine r_iconst (v := 0) K dX12_goesOn_143 (by decide) ?_
  exact r_sub [0] rfl (t_X12_goesOn_144 K hl H D)
set_option maxRecDepth 10000 in
theorem t_X12_goesOn_34 {X : jX} {l : Launch} {n : Nat} {Y : jY} (K : jOK X RX12 cX12_goesOn 2 (some .boolean) 3) (hl : X.2.1 = l) {rr : Int32} {μr : jM} {v0 : Nat} {v1 : Int32} {μ : jM} {z : ((Int32 × jM) ⊕ (Int32 × jM))} (H : b_X12_goesOn_34 Y v0 v1 μ = some z) (D : Sum.elim (fun (s : Int32 × jM) => JW X (jEnd X n Y (some (.int rr)) μr 0 0) 0 0 n Y 34 [(0, .ref v0), (1, .int s.1)] [] s.2) (fun r => r = (rr, μr)) z) : JW X (jEnd X n Y (some (.int rr)) μr 0 0) 0 0 n Y 34 [(0, .ref v0), (1, .int v1)] [] μ := by
  unfold b_X12_goesOn_34 at H
  refine r_iload_n K 1 dX12_goesOn_34 rfl rfl ?_
  refine w_if_ne K 177 dX12_goesOn_35 (by decide) H (fun _ H => ?_) (fun _ H => ?_)
  · obtain ⟨z2, H2, rfl⟩ := jmap H
    exact r_sub [1] rfl (t_X12_goesOn_177 K hl H2 D)
  · refine r_aload_n K 0 dX12_goesOn_38 rfl rfl ?_
    refine w_getI K vc12 inX12 42 (by decide) mF_RX12_323 dX12_goesOn_39 H (fun x1 H => ?_)
    refine r_bipush (v := 6) K dX12_goesOn_42 (by decide) ?_
    refine w_icmp_gt K 177 dX12_goesOn_44 (by decide) H (fun _ H => ?_) (fun _ H => ?_)
    · obtain ⟨z2, H2, rfl⟩ := jmap H
      exact r_sub [1] rfl (t_X12_goesOn_177 K hl H2 D)
    · refine r_aload_n K 0 dX12_goesOn_47 rfl rfl ?_
      refine w_getI K vc12 inX12 10 (by decide) mF_RX12_145 dX12_goesOn_48 H (fun x2 H => ?_)
      refine r_iconst (v := 2) K dX12_goesOn_51 (by decide) ?_
      refine w_icmp_ne K 148 dX12_goesOn_52 (by decide) H (fun _ H => ?_) (fun _ H => ?_)
      · refine r_aload_n K 0 dX12_goesOn_148 rfl rfl ?_
        refine w_callV K hl H (fun r h => c_X12_steps l h) mC_yX12_steps mM_RX12_332 mI_yX12_steps mS_yX12_steps mZ_RX12 vc12 (Nat.le_of_ble_eq_true rfl) (Nat.le_of_ble_eq_true rfl) np_yX12_steps rfl (Nat.le_of_ble_eq_true rfl) dX12_goesOn_149 (fun μ3 H => ?_) ⟨Nat.zero_le _, Nat.zero_le _⟩
        refine r_aload_n K 0 dX12_goesOn_152 rfl rfl ?_
        refine w_getI K vc12 inX12 42 (by decide) mF_RX12_323 dX12_goesOn_153 H (fun x4 H => ?_)
        refine r_bipush (v := 6) K dX12_goesOn_156 (by decide) ?_
        refine w_icmp_gt K 172 dX12_goesOn_158 (by decide) H (fun _ H => ?_) (fun _ H => ?_)
        · exact r_sub [0] rfl (t_X12_goesOn_172 K hl H D)
        · refine r_aload_n K 0 dX12_goesOn_161 rfl rfl ?_
          refine w_callV K hl H (fun r h => c_X12_isTable l h) mC_yX12_isTable mM_RX12_335 mI_yX12_isTable mS_yX12_isTable mZ_RX12 vc12 (Nat.le_of_ble_eq_true rfl) (Nat.le_of_ble_eq_true rfl) np_yX12_isTable rfl (Nat.le_of_ble_eq_true rfl) dX12_goesOn_162 (fun r5 H => ?_) ⟨Nat.zero_le _, Nat.zero_le _⟩
          refine w_if_eq K 172 dX12_goesOn_165 (by decide) H (fun _ H => ?_) (fun _ H => ?_)
          · exact r_sub [0] rfl (t_X12_goesOn_172 K hl H D)
          · refine r_iconst (v := 1) K dX12_goesOn_168 (by decide) ?_
            refine r_goto K 173 dX12_goesOn_169 (by decide) ?_
            exact r_sub [0] rfl (t_X12_goesOn_173 K hl H D)
      · refine r_aload_n K 0 dX12_goesOn_55 rfl rfl ?_
        refine r_aload_n K 0 dX12_goesOn_56 rfl rfl ?_
        refine w_getI K vc12 inX12 42 (by decide) mF_RX12_323 dX12_goesOn_57 H (fun x6 H => ?_)
        refine r_iconst (v := 1) K dX12_goesOn_60 (by decide) ?_
        refine r_iadd K dX12_goesOn_61 ?_
        refine w_put K vc12 inX12 tyX12_ok nmX12 42 (by decide) mF_RX12_323 rfl (fun _ => rfl) (fun _ => rfl) dX12_goesOn_62 H (fun μ7 H => ?_)
        refine r_aload_n K 0 dX12_goesOn_65 rfl rfl ?_
        refine r_aload_n K 0 dX12_goesOn_66 rfl rfl ?_
        refine w_getO K vc12 inX12 13 (by decide) mF_RX12_26 dX12_goesOn_67 H (fun x8 H => ?_)
        refine r_iconst (v := 1) K dX12_goesOn_70 (by decide) ?_
        refine w_lald K dX12_goesOn_71 H (fun x9 H => ?_)
        refine r_lneg K dX12_goesOn_72 ?_
        refine r_l2i K dX12_goesOn_73 ?_
        refine r_aload_n K 0 dX12_goesOn_74 rfl rfl ?_
        refine w_getI K vc12 inX12 42 (by decide) mF_RX12_323 dX12_goesOn_75 H (fun x10 H => ?_)
        refine r_isub K dX12_goesOn_78 ?_
        refine w_put K vc12 inX12 tyX12_ok nmX12 43 (by decide) mF_RX12_326 rfl (fun _ => rfl) (fun _ => rfl) dX12_goesOn_79 H (fun μ11 H => ?_)
        refine r_aload_n K 0 dX12_goesOn_82 rfl rfl ?_
        refine r_aload_n K 0 dX12_goesOn_83 rfl rfl ?_
        refine w_getI K vc12 inX12 42 (by decide) mF_RX12_323 dX12_goesOn_84 H (fun x12 H => ?_)
        refine r_aload_n K 0 dX12_goesOn_87 rfl rfl ?_
        refine w_getI K vc12 inX12 43 (by decide) mF_RX12_326 dX12_goesOn_88 H (fun x13 H => ?_)
        refine r_imul K dX12_goesOn_91 ?_
        refine r_aload_n K 0 dX12_goesOn_92 rfl rfl ?_
        refine w_getO K vc12 inX12 13 (by decide) mF_RX12_26 dX12_goesOn_93 H (fun x14 H => ?_)
        refine r_iconst (v := 0) K dX12_goesOn_96 (by decide) ?_
        refine w_lald K dX12_goesOn_97 H (fun x15 H => ?_)
        refine r_l2i K dX12_goesOn_98 ?_
        refine r_isub K dX12_goesOn_99 ?_
        refine w_put K vc12 inX12 tyX12_ok nmX12 45 (by decide) mF_RX12_329 rfl (fun _ => rfl) (fun _ => rfl) dX12_goesOn_100 H (fun μ16 H => ?_)
        refine r_aload_n K 0 dX12_goesOn_103 rfl rfl ?_
        refine w_getI K vc12 inX12 42 (by decide) mF_RX12_323 dX12_goesOn_104 H (fun x17 H => ?_)
        refine r_bipush (v := 6) K dX12_goesOn_107 (by decide) ?_
        refine w_icmp_gt K 143 dX12_goesOn_109 (by decide) H (fun _ H => ?_) (fun _ H => ?_)
        · exact r_sub [0] rfl (t_X12_goesOn_143 K hl H D)
        · refine r_aload_n K 0 dX12_goesOn_112 rfl rfl ?_
          refine w_getI K vc12 inX12 43 (by decide) mF_RX12_326 dX12_goesOn_113 H (fun x18 H => ?_)
          refine r_bipush (v := -6) K dX12_goesOn_116 (by decide) ?_
          refine r_bipush (v := 6) K dX12_goesOn_118 (by decide) ?_
          refine w_callS K hl H (fun r h => c_X12_in l h) mC_yX12_in mM_RX12_134 mT_yX12_in mZ_RX12 (Nat.le_of_ble_eq_true rfl) (Nat.le_of_ble_eq_true rfl) np_yX12_in rfl (Nat.le_of_ble_eq_true rfl) dX12_goesOn_120 (fun r19 H => ?_) ⟨Nat.zero_le _, Nat.zero_le _⟩
          refine w_if_eq K 143 dX12_goesOn_123 (by decide) H (fun _ H => ?_) (fun _ H => ?_)
          · exact r_sub [0] rfl (t_X12_goesOn_143 K hl H D)
          · refine r_aload_n K 0 dX12_goesOn_126 rfl rfl ?_
            refine w_getI K vc12 inX12 45 (by decide) mF_RX12_329 dX12_goesOn_127 H (fun x20 H => ?_)
            refine r_iconst (v := 1) K dX12_goesOn_130 (by decide) ?_
            refine r_bipush (v := 36) K dX12_goesOn_131 (by decide) ?_
            refine w_callS K hl H (fun r h => c_X12_in l h) mC_yX12_in mM_RX12_134 mT_yX12_in mZ_RX12 (Nat.le_of_ble_eq_true rfl) (Nat.le_of_ble_eq_true rfl) np_yX12_in rfl (Nat.le_of_ble_eq_true rfl) dX12_goesOn_133 (fun r21 H => ?_) ⟨Nat.zero_le _, Nat.zero_le _⟩
            refine w_if_eq K 143 dX12_goesOn_136 (by decide) H (fun _ H => ?_) (fun _ H => ?_)
            · exact r_sub [0] rfl (t_X12_goesOn_143 K hl H D)
            · refine r_iconst (v := 1) K dX12_goesOn_139 (by decide) ?_
              refine r_goto K 144 dX12_goesOn_140 (by decide) ?_
              exact r_sub [0] rfl (t_X12_goesOn_144 K hl H D)
set_option maxRecDepth 10000 in
theorem l_X12_goesOn_34 {X : jX} {l : Launch} {n : Nat} {Y : jY} (K : jOK X RX12 cX12_goesOn 2 (some .boolean) 3) (hl : X.2.1 = l) {rr : Int32} {μr : jM} {v0 : Nat}  {s0 : Int32 × jM} {z : (Int32 × jM)} (H : jit jF (fun (s : Int32 × jM) => b_X12_goesOn_34 Y v0 s.1 s.2) s0 = some z) (D : z = (rr, μr)) : JW X (jEnd X n Y (some (.int rr)) μr 0 0) 0 0 n Y 34 [(0, .ref v0), (1, .int s0.1)] [] s0.2 :=
  jit_ind (P := fun (s : Int32 × jM) => JW X (jEnd X n Y (some (.int rr)) μr 0 0) 0 0 n Y 34 [(0, .ref v0), (1, .int s.1)] [] s.2) (D := fun r => r = (rr, μr)) (fun s z Hs Ds => t_X12_goesOn_34 K hl Hs Ds) jF s0 z H D
set_option maxRecDepth 10000 in
theorem t_X12_goesOn_31 {X : jX} {l : Launch} {n : Nat} {Y : jY} (K : jOK X RX12 cX12_goesOn 2 (some .boolean) 3) (hl : X.2.1 = l) {rr : Int32} {μr : jM} {t0 : Int32} {μ : jM} {z : (Int32 × jM)} (H : b_X12_goesOn_31 Y t0 μ = some z) (D : z = (rr, μr)) : JW X (jEnd X n Y (some (.int rr)) μr 0 0) 0 0 n Y 31 [] [.int t0] μ := by
  unfold b_X12_goesOn_31 at H
  refine w_zret K dX12_goesOn_31 H (fun hz H => ?_)
  cases H
  obtain ⟨rfl, rfl⟩ := jfin2 D
  exact r_zret K hz dX12_goesOn_31
set_option maxRecDepth 10000 in
theorem t_X12_goesOn_0 {X : jX} {l : Launch} {n : Nat} {Y : jY} (K : jOK X RX12 cX12_goesOn 2 (some .boolean) 3) (hl : X.2.1 = l) {rr : Int32} {μr : jM} {v0 : Nat} {μ : jM} {z : (Int32 × jM)} (H : f_X12_goesOn Y v0 μ = some z) (D : z = (rr, μr)) : JW X (jEnd X n Y (some (.int rr)) μr 0 0) 0 0 n Y 0 [(0, .ref v0)] [] μ := by
  unfold f_X12_goesOn at H
  refine r_aload_n K 0 dX12_goesOn_0 rfl rfl ?_
  refine w_getI K vc12 inX12 10 (by decide) mF_RX12_145 dX12_goesOn_1 H (fun x1 H => ?_)
  refine r_iconst (v := 1) K dX12_goesOn_4 (by decide) ?_
  refine w_icmp_ne K 32 dX12_goesOn_5 (by decide) H (fun _ H => ?_) (fun _ H => ?_)
  · refine r_iconst (v := 0) K dX12_goesOn_32 (by decide) ?_
    refine r_istore_n K [(1, .int _), (0, .ref _)] dX12_goesOn_33 rfl (by decide) rfl ?_
    exact r_sub [1, 0] rfl (l_X12_goesOn_34 K hl H D)
  · refine r_aload_n K 0 dX12_goesOn_8 rfl rfl ?_
    refine r_aload_n K 0 dX12_goesOn_9 rfl rfl ?_
    refine w_getI K vc12 inX12 42 (by decide) mF_RX12_323 dX12_goesOn_10 H (fun x2 H => ?_)
    refine r_iconst (v := 1) K dX12_goesOn_13 (by decide) ?_
    refine r_iadd K dX12_goesOn_14 ?_
    refine w_put K vc12 inX12 tyX12_ok nmX12 42 (by decide) mF_RX12_323 rfl (fun _ => rfl) (fun _ => rfl) dX12_goesOn_15 H (fun μ3 H => ?_)
    refine r_aload_n K 0 dX12_goesOn_18 rfl rfl ?_
    refine w_getI K vc12 inX12 42 (by decide) mF_RX12_323 dX12_goesOn_19 H (fun x4 H => ?_)
    refine r_iconst (v := 1) K dX12_goesOn_22 (by decide) ?_
    refine w_icmp_ne K 30 dX12_goesOn_23 (by decide) H (fun _ H => ?_) (fun _ H => ?_)
    · refine r_iconst (v := 0) K dX12_goesOn_30 (by decide) ?_
      exact r_sub [] rfl (t_X12_goesOn_31 K hl H D)
    · refine r_iconst (v := 1) K dX12_goesOn_26 (by decide) ?_
      refine r_goto K 31 dX12_goesOn_27 (by decide) ?_
      exact r_sub [] rfl (t_X12_goesOn_31 K hl H D)
theorem c_X12_goesOn (l : Launch) {n : Nat} {Y : jY} {v0 : Nat} {μ : jM} {z : Int32 × jM} (H : f_X12_goesOn Y v0 μ = some z) : jC l yX12_goesOn cX12_goesOn 2 (some .boolean) 3 0 0 [.ref v0] n Y μ n Y (some (.int z.1)) z.2 := by
  refine jC_of (by decide +kernel) (Nat.le_of_ble_eq_true rfl) (fun X hl K _ _ _ => ?_)
  obtain ⟨rr, μr⟩ := z
  exact t_X12_goesOn_0 K hl H rfl
/-! RX12 all()I -/
def b_X12_all_26 (Y : jY) (v0 : Nat) (v1 : Int32) (μ : jM) : Option ((Int32 × jM) ⊕ (Int32 × jM)) :=
  (jrcv Y v0 12 (f_X12_goesOn Y v0 μ)).bind fun r1 =>
  if r1.1 = 0 then
    some (.inr (v1, r1.2))
  else
    some (.inl ((v1 + ((1 : Int32))), r1.2))
def f_X12_all (Y : jY) (v0 : Nat) (μ : jM) : Option (Int32 × jM) :=
  (jgI Y μ v0 12 10).bind fun x1 =>
  if x1 = 0 then
    some ((-1 : Int32), μ)
  else
    (jgI Y μ v0 12 10).bind fun x2 =>
    if x2 ≤ ((3 : Int32)) then
      (jrcv Y v0 12 (f_X12_begin0 Y v0 μ)).bind fun μ3 =>
      jit jF (fun (s : Int32 × jM) => b_X12_all_26 Y v0 s.1 s.2) ((0 : Int32), μ3)
    else
      some ((-2 : Int32), μ)
set_option maxRecDepth 10000 in
theorem t_X12_all_26 {X : jX} {l : Launch} {n : Nat} {Y : jY} (K : jOK X RX12 cX12_all 2 (some .int) 4) (hl : X.2.1 = l) {rr : Int32} {μr : jM} {v0 : Nat} {v1 : Int32} {μ : jM} {z : ((Int32 × jM) ⊕ (Int32 × jM))} (H : b_X12_all_26 Y v0 v1 μ = some z) (D : Sum.elim (fun (s : Int32 × jM) => JW X (jEnd X n Y (some (.int rr)) μr 0 0) 0 0 n Y 26 [(0, .ref v0), (1, .int s.1)] [] s.2) (fun r => r = (rr, μr)) z) : JW X (jEnd X n Y (some (.int rr)) μr 0 0) 0 0 n Y 26 [(0, .ref v0), (1, .int v1)] [] μ := by
  unfold b_X12_all_26 at H
  refine r_aload_n K 0 dX12_all_26 rfl rfl ?_
  refine w_callV K hl H (fun r h => c_X12_goesOn l h) mC_yX12_goesOn mM_RX12_350 mI_yX12_goesOn mS_yX12_goesOn mZ_RX12 vc12 (Nat.le_of_ble_eq_true rfl) (Nat.le_of_ble_eq_true rfl) np_yX12_goesOn rfl (Nat.le_of_ble_eq_true rfl) dX12_all_27 (fun r1 H => ?_) ⟨Nat.zero_le _, Nat.zero_le _⟩
  refine w_if_eq K 40 dX12_all_30 (by decide) H (fun _ H => ?_) (fun _ H => ?_)
  · refine r_iload_n K 1 dX12_all_40 rfl rfl ?_
    cases H
    simp only [Sum.elim_inr] at D
    obtain ⟨rfl, rfl⟩ := jfin2 D
    exact r_iret K dX12_all_41
  · refine r_iload_n K 1 dX12_all_33 rfl rfl ?_
    refine r_iconst (v := 1) K dX12_all_34 (by decide) ?_
    refine r_iadd K dX12_all_35 ?_
    refine r_istore_n K [(1, .int _), (0, .ref _)] dX12_all_36 rfl (by decide) rfl ?_
    refine r_goto K 26 dX12_all_37 (by decide) ?_
    cases H
    exact r_sub [1, 0] rfl D
set_option maxRecDepth 10000 in
theorem l_X12_all_26 {X : jX} {l : Launch} {n : Nat} {Y : jY} (K : jOK X RX12 cX12_all 2 (some .int) 4) (hl : X.2.1 = l) {rr : Int32} {μr : jM} {v0 : Nat}  {s0 : Int32 × jM} {z : (Int32 × jM)} (H : jit jF (fun (s : Int32 × jM) => b_X12_all_26 Y v0 s.1 s.2) s0 = some z) (D : z = (rr, μr)) : JW X (jEnd X n Y (some (.int rr)) μr 0 0) 0 0 n Y 26 [(0, .ref v0), (1, .int s0.1)] [] s0.2 :=
  jit_ind (P := fun (s : Int32 × jM) => JW X (jEnd X n Y (some (.int rr)) μr 0 0) 0 0 n Y 26 [(0, .ref v0), (1, .int s.1)] [] s.2) (D := fun r => r = (rr, μr)) (fun s z Hs Ds => t_X12_all_26 K hl Hs Ds) jF s0 z H D
set_option maxRecDepth 10000 in
theorem t_X12_all_0 {X : jX} {l : Launch} {n : Nat} {Y : jY} (K : jOK X RX12 cX12_all 2 (some .int) 4) (hl : X.2.1 = l) {rr : Int32} {μr : jM} {v0 : Nat} {μ : jM} {z : (Int32 × jM)} (H : f_X12_all Y v0 μ = some z) (D : z = (rr, μr)) : JW X (jEnd X n Y (some (.int rr)) μr 0 0) 0 0 n Y 0 [(0, .ref v0)] [] μ := by
  unfold f_X12_all at H
  refine r_aload_n K 0 dX12_all_0 rfl rfl ?_
  refine w_getI K vc12 inX12 10 (by decide) mF_RX12_145 dX12_all_1 H (fun x1 H => ?_)
  refine w_if_ne K 9 dX12_all_4 (by decide) H (fun _ H => ?_) (fun _ H => ?_)
  · refine r_aload_n K 0 dX12_all_9 rfl rfl ?_
    refine w_getI K vc12 inX12 10 (by decide) mF_RX12_145 dX12_all_10 H (fun x2 H => ?_)
    refine r_iconst (v := 3) K dX12_all_13 (by decide) ?_
    refine w_icmp_le K 20 dX12_all_14 (by decide) H (fun _ H => ?_) (fun _ H => ?_)
    · refine r_iconst (v := 0) K dX12_all_20 (by decide) ?_
      refine r_istore_n K [(1, .int _), (0, .ref _)] dX12_all_21 rfl (by decide) rfl ?_
      refine r_aload_n K 1 dX12_all_22 rfl rfl ?_
      refine w_callV K hl H (fun r h => c_X12_begin0 l h) mC_yX12_begin0 mM_RX12_347 mI_yX12_begin0 mS_yX12_begin0 mZ_RX12 vc12 (Nat.le_of_ble_eq_true rfl) (Nat.le_of_ble_eq_true rfl) np_yX12_begin0 rfl (Nat.le_of_ble_eq_true rfl) dX12_all_23 (fun μ3 H => ?_) ⟨Nat.zero_le _, Nat.zero_le _⟩
      exact r_sub [1, 0] rfl (l_X12_all_26 K hl H D)
    · refine r_bipush (v := -2) K dX12_all_17 (by decide) ?_
      cases H
      obtain ⟨rfl, rfl⟩ := jfin2 D
      exact r_iret K dX12_all_19
  · refine r_iconst (v := -1) K dX12_all_7 (by decide) ?_
    cases H
    obtain ⟨rfl, rfl⟩ := jfin2 D
    exact r_iret K dX12_all_8
theorem c_X12_all (l : Launch) {n : Nat} {Y : jY} {v0 : Nat} {μ : jM} {z : Int32 × jM} (H : f_X12_all Y v0 μ = some z) : jC l yX12_all cX12_all 2 (some .int) 4 0 0 [.ref v0] n Y μ n Y (some (.int z.1)) z.2 := by
  refine jC_of (by decide +kernel) (Nat.le_of_ble_eq_true rfl) (fun X hl K _ _ _ => ?_)
  obtain ⟨rr, μr⟩ := z
  exact t_X12_all_0 K hl H rfl
/-! RX12 isTurned(II)Z -/
def b_X12_isTurned_101 (Y : jY) (v0 : Nat) (v1 : Int32) (v2 : Int32) (v4 : Int32) (v5 : Int32) (t0 : Int32) (μ : jM) : Option ((Int32 × Int32 × jM) ⊕ (Int32 × jM)) :=
  some (.inl (t0, (v5 + (1 : Int32)), μ))
def b_X12_isTurned_100 (Y : jY) (v0 : Nat) (v1 : Int32) (v2 : Int32) (v4 : Int32) (v5 : Int32) (μ : jM) : Option ((Int32 × Int32 × jM) ⊕ (Int32 × jM)) :=
  b_X12_isTurned_101 Y v0 v1 v2 v4 v5 (0 : Int32) μ
def b_X12_isTurned_61 (Y : jY) (v0 : Nat) (v1 : Int32) (v2 : Int32) (v3 : Int32) (v4 : Int32) (v5 : Int32) (μ : jM) : Option ((Int32 × Int32 × jM) ⊕ (Int32 × jM)) :=
  if ((v4 - ((1 : Int32)))) ≤ v5 then
    (jbool v3).bind fun x1 =>
    some (.inr (x1, μ))
  else
    if v3 = 0 then
      b_X12_isTurned_100 Y v0 v1 v2 v4 v5 μ
    else
      (jrcv Y v0 12 (f_X12_c Y v0 v1 v5 μ)).bind fun r2 =>
      (jrcv Y v0 12 (f_X12_c Y v0 v2 ((((v4 - ((2 : Int32)))) - v5)) r2.2)).bind fun r3 =>
      if r2.1 = r3.1 then
        b_X12_isTurned_101 Y v0 v1 v2 v4 v5 (1 : Int32) r3.2
      else
        b_X12_isTurned_100 Y v0 v1 v2 v4 v5 r3.2
def b_X12_isTurned_51 (Y : jY) (v0 : Nat) (v1 : Int32) (v2 : Int32) (v4 : Int32) (v5 : Int32) (t0 : Int32) (μ : jM) : Option ((Int32 × Int32 × jM) ⊕ (Int32 × jM)) :=
  some (.inl (t0, (v5 + (1 : Int32)), μ))
def b_X12_isTurned_50 (Y : jY) (v0 : Nat) (v1 : Int32) (v2 : Int32) (v4 : Int32) (v5 : Int32) (μ : jM) : Option ((Int32 × Int32 × jM) ⊕ (Int32 × jM)) :=
  b_X12_isTurned_51 Y v0 v1 v2 v4 v5 (0 : Int32) μ
def b_X12_isTurned_13 (Y : jY) (v0 : Nat) (v1 : Int32) (v2 : Int32) (v3 : Int32) (v4 : Int32) (v5 : Int32) (μ : jM) : Option ((Int32 × Int32 × jM) ⊕ (Int32 × jM)) :=
  if v4 ≤ v5 then
    (jit jF (fun (s : Int32 × Int32 × jM) => b_X12_isTurned_61 Y v0 v1 v2 s.1 v4 s.2.1 s.2.2) (v3, (0 : Int32), μ)).map (fun r => (.inr r))
  else
    if v3 = 0 then
      b_X12_isTurned_50 Y v0 v1 v2 v4 v5 μ
    else
      (jrcv Y v0 12 (f_X12_a Y v0 v1 v5 μ)).bind fun r1 =>
      (jrcv Y v0 12 (f_X12_a Y v0 v2 ((((v4 - ((1 : Int32)))) - v5)) r1.2)).bind fun r2 =>
      if r1.1 = r2.1 then
        b_X12_isTurned_51 Y v0 v1 v2 v4 v5 (1 : Int32) r2.2
      else
        b_X12_isTurned_50 Y v0 v1 v2 v4 v5 r2.2
def f_X12_isTurned (Y : jY) (v0 : Nat) (v1 : Int32) (v2 : Int32) (μ : jM) : Option (Int32 × jM) :=
  (jgO Y μ v0 12 26).bind fun x1 =>
  (jaI Y μ x1 20 v1).bind fun x2 =>
  jit jF (fun (s : Int32 × Int32 × jM) => b_X12_isTurned_13 Y v0 v1 v2 s.1 x2 s.2.1 s.2.2) ((1 : Int32), (0 : Int32), μ)
set_option maxRecDepth 10000 in
theorem t_X12_isTurned_101 {X : jX} {l : Launch} {n : Nat} {Y : jY} (K : jOK X RX12 cX12_isTurned 6 (some .boolean) 2) (hl : X.2.1 = l) {rr : Int32} {μr : jM} {v0 : Nat} {v1 : Int32} {v2 : Int32} {v4 : Int32} {v5 : Int32} {t0 : Int32} {μ : jM} {z : ((Int32 × Int32 × jM) ⊕ (Int32 × jM))} (H : b_X12_isTurned_101 Y v0 v1 v2 v4 v5 t0 μ = some z) (D : Sum.elim (fun (s : Int32 × Int32 × jM) => JW X (jEnd X n Y (some (.int rr)) μr 0 0) 0 0 n Y 61 [(0, .ref v0), (1, .int v1), (2, .int v2), (3, .int s.1), (4, .int v4), (5, .int s.2.1)] [] s.2.2) (fun r => r = (rr, μr)) z) : JW X (jEnd X n Y (some (.int rr)) μr 0 0) 0 0 n Y 101 [(0, .ref v0), (1, .int v1), (2, .int v2), (4, .int v4), (5, .int v5)] [.int t0] μ := by
  unfold b_X12_isTurned_101 at H
  refine r_istore_n K [(3, .int _), (0, .ref _), (1, .int _), (2, .int _), (4, .int _), (5, .int _)] dX12_isTurned_101 rfl (by decide) rfl ?_
  refine r_iinc K 5 [(5, .int _), (3, .int _), (0, .ref _), (1, .int _), (2, .int _), (4, .int _)] (v := _ + (1 : Int32)) dX12_isTurned_102 rfl rfl (by decide) rfl ?_
  refine r_goto K 61 dX12_isTurned_105 (by decide) ?_
  cases H
  exact r_sub [2, 3, 4, 1, 5, 0] rfl D
set_option maxRecDepth 10000 in
theorem t_X12_isTurned_100 {X : jX} {l : Launch} {n : Nat} {Y : jY} (K : jOK X RX12 cX12_isTurned 6 (some .boolean) 2) (hl : X.2.1 = l) {rr : Int32} {μr : jM} {v0 : Nat} {v1 : Int32} {v2 : Int32} {v4 : Int32} {v5 : Int32} {μ : jM} {z : ((Int32 × Int32 × jM) ⊕ (Int32 × jM))} (H : b_X12_isTurned_100 Y v0 v1 v2 v4 v5 μ = some z) (D : Sum.elim (fun (s : Int32 × Int32 × jM) => JW X (jEnd X n Y (some (.int rr)) μr 0 0) 0 0 n Y 61 [(0, .ref v0), (1, .int v1), (2, .int v2), (3, .int s.1), (4, .int v4), (5, .int s.2.1)] [] s.2.2) (fun r => r = (rr, μr)) z) : JW X (jEnd X n Y (some (.int rr)) μr 0 0) 0 0 n Y 100 [(0, .ref v0), (1, .int v1), (2, .int v2), (4, .int v4), (5, .int v5)] [] μ := by
  unfold b_X12_isTurned_100 at H
  refine r_iconst (v := 0) K dX12_isTurned_100 (by decide) ?_
  exact r_sub [0, 1, 2, 3, 4] rfl (t_X12_isTurned_101 K hl H D)
set_option maxRecDepth 10000 in
theorem t_X12_isTurned_61 {X : jX} {l : Launch} {n : Nat} {Y : jY} (K : jOK X RX12 cX12_isTurned 6 (some .boolean) 2) (hl : X.2.1 = l) {rr : Int32} {μr : jM} {v0 : Nat} {v1 : Int32} {v2 : Int32} {v3 : Int32} {v4 : Int32} {v5 : Int32} {μ : jM} {z : ((Int32 × Int32 × jM) ⊕ (Int32 × jM))} (H : b_X12_isTurned_61 Y v0 v1 v2 v3 v4 v5 μ = some z) (D : Sum.elim (fun (s : Int32 × Int32 × jM) => JW X (jEnd X n Y (some (.int rr)) μr 0 0) 0 0 n Y 61 [(0, .ref v0), (1, .int v1), (2, .int v2), (3, .int s.1), (4, .int v4), (5, .int s.2.1)] [] s.2.2) (fun r => r = (rr, μr)) z) : JW X (jEnd X n Y (some (.int rr)) μr 0 0) 0 0 n Y 61 [(0, .ref v0), (1, .int v1), (2, .int v2), (3, .int v3), (4, .int v4), (5, .int v5)] [] μ := by
  unfold b_X12_isTurned_61 at H
  refine r_iload K 5 dX12_isTurned_61 rfl ?_
  refine r_iload K 4 dX12_isTurned_63 rfl ?_
  refine r_iconst (v := 1) K dX12_isTurned_65 (by decide) ?_
  refine r_isub K dX12_isTurned_66 ?_
  refine w_icmp_ge K 108 dX12_isTurned_67 (by decide) H (fun _ H => ?_) (fun _ H => ?_)
  · refine r_iload_n K 3 dX12_isTurned_108 rfl rfl ?_
    refine w_zret K dX12_isTurned_109 H (fun hz H => ?_)
    cases H
    simp only [Sum.elim_inr] at D
    obtain ⟨rfl, rfl⟩ := jfin2 D
    exact r_zret K hz dX12_isTurned_109
  · refine r_iload_n K 3 dX12_isTurned_70 rfl rfl ?_
    refine w_if_eq K 100 dX12_isTurned_71 (by decide) H (fun _ H => ?_) (fun _ H => ?_)
    · exact r_sub [0, 1, 2, 4, 5] rfl (t_X12_isTurned_100 K hl H D)
    · refine r_aload_n K 0 dX12_isTurned_74 rfl rfl ?_
      refine r_iload_n K 1 dX12_isTurned_75 rfl rfl ?_
      refine r_iload K 5 dX12_isTurned_76 rfl ?_
      refine w_callV K hl H (fun r h => c_X12_c l h) mC_yX12_c mM_RX12_260 mI_yX12_c mS_yX12_c mZ_RX12 vc12 (Nat.le_of_ble_eq_true rfl) (Nat.le_of_ble_eq_true rfl) np_yX12_c rfl (Nat.le_of_ble_eq_true rfl) dX12_isTurned_78 (fun r2 H => ?_) ⟨Nat.zero_le _, Nat.zero_le _⟩
      refine r_aload_n K 0 dX12_isTurned_81 rfl rfl ?_
      refine r_iload_n K 2 dX12_isTurned_82 rfl rfl ?_
      refine r_iload K 4 dX12_isTurned_83 rfl ?_
      refine r_iconst (v := 2) K dX12_isTurned_85 (by decide) ?_
      refine r_isub K dX12_isTurned_86 ?_
      refine r_iload K 5 dX12_isTurned_87 rfl ?_
      refine r_isub K dX12_isTurned_89 ?_
      refine w_callV K hl H (fun r h => c_X12_c l h) mC_yX12_c mM_RX12_260 mI_yX12_c mS_yX12_c mZ_RX12 vc12 (Nat.le_of_ble_eq_true rfl) (Nat.le_of_ble_eq_true rfl) np_yX12_c rfl (Nat.le_of_ble_eq_true rfl) dX12_isTurned_90 (fun r3 H => ?_) ⟨Nat.zero_le _, Nat.zero_le _⟩
      refine w_icmp_ne K 100 dX12_isTurned_93 (by decide) H (fun _ H => ?_) (fun _ H => ?_)
      · exact r_sub [0, 1, 2, 4, 5] rfl (t_X12_isTurned_100 K hl H D)
      · refine r_iconst (v := 1) K dX12_isTurned_96 (by decide) ?_
        refine r_goto K 101 dX12_isTurned_97 (by decide) ?_
        exact r_sub [0, 1, 2, 4, 5] rfl (t_X12_isTurned_101 K hl H D)
set_option maxRecDepth 10000 in
theorem l_X12_isTurned_61 {X : jX} {l : Launch} {n : Nat} {Y : jY} (K : jOK X RX12 cX12_isTurned 6 (some .boolean) 2) (hl : X.2.1 = l) {rr : Int32} {μr : jM} {v0 : Nat} {v1 : Int32} {v2 : Int32} {v4 : Int32}  {s0 : Int32 × Int32 × jM} {z : (Int32 × jM)} (H : jit jF (fun (s : Int32 × Int32 × jM) => b_X12_isTurned_61 Y v0 v1 v2 s.1 v4 s.2.1 s.2.2) s0 = some z) (D : z = (rr, μr)) : JW X (jEnd X n Y (some (.int rr)) μr 0 0) 0 0 n Y 61 [(0, .ref v0), (1, .int v1), (2, .int v2), (3, .int s0.1), (4, .int v4), (5, .int s0.2.1)] [] s0.2.2 :=
  jit_ind (P := fun (s : Int32 × Int32 × jM) => JW X (jEnd X n Y (some (.int rr)) μr 0 0) 0 0 n Y 61 [(0, .ref v0), (1, .int v1), (2, .int v2), (3, .int s.1), (4, .int v4), (5, .int s.2.1)] [] s.2.2) (D := fun r => r = (rr, μr)) (fun s z Hs Ds => t_X12_isTurned_61 K hl Hs Ds) jF s0 z H D
set_option maxRecDepth 10000 in
theorem t_X12_isTurned_51 {X : jX} {l : Launch} {n : Nat} {Y : jY} (K : jOK X RX12 cX12_isTurned 6 (some .boolean) 2) (hl : X.2.1 = l) {rr : Int32} {μr : jM} {v0 : Nat} {v1 : Int32} {v2 : Int32} {v4 : Int32} {v5 : Int32} {t0 : Int32} {μ : jM} {z : ((Int32 × Int32 × jM) ⊕ (Int32 × jM))} (H : b_X12_isTurned_51 Y v0 v1 v2 v4 v5 t0 μ = some z) (D : Sum.elim (fun (s : Int32 × Int32 × jM) => JW X (jEnd X n Y (some (.int rr)) μr 0 0) 0 0 n Y 13 [(0, .ref v0), (1, .int v1), (2, .int v2), (3, .int s.1), (4, .int v4), (5, .int s.2.1)] [] s.2.2) (fun r => r = (rr, μr)) z) : JW X (jEnd X n Y (some (.int rr)) μr 0 0) 0 0 n Y 51 [(0, .ref v0), (1, .int v1), (2, .int v2), (4, .int v4), (5, .int v5)] [.int t0] μ := by
  unfold b_X12_isTurned_51 at H
  refine r_istore_n K [(3, .int _), (0, .ref _), (1, .int _), (2, .int _), (4, .int _), (5, .int _)] dX12_isTurned_51 rfl (by decide) rfl ?_
  refine r_iinc K 5 [(5, .int _), (3, .int _), (0, .ref _), (1, .int _), (2, .int _), (4, .int _)] (v := _ + (1 : Int32)) dX12_isTurned_52 rfl rfl (by decide) rfl ?_
  refine r_goto K 13 dX12_isTurned_55 (by decide) ?_
  cases H
  exact r_sub [2, 3, 4, 1, 5, 0] rfl D
set_option maxRecDepth 10000 in
theorem t_X12_isTurned_50 {X : jX} {l : Launch} {n : Nat} {Y : jY} (K : jOK X RX12 cX12_isTurned 6 (some .boolean) 2) (hl : X.2.1 = l) {rr : Int32} {μr : jM} {v0 : Nat} {v1 : Int32} {v2 : Int32} {v4 : Int32} {v5 : Int32} {μ : jM} {z : ((Int32 × Int32 × jM) ⊕ (Int32 × jM))} (H : b_X12_isTurned_50 Y v0 v1 v2 v4 v5 μ = some z) (D : Sum.elim (fun (s : Int32 × Int32 × jM) => JW X (jEnd X n Y (some (.int rr)) μr 0 0) 0 0 n Y 13 [(0, .ref v0), (1, .int v1), (2, .int v2), (3, .int s.1), (4, .int v4), (5, .int s.2.1)] [] s.2.2) (fun r => r = (rr, μr)) z) : JW X (jEnd X n Y (some (.int rr)) μr 0 0) 0 0 n Y 50 [(0, .ref v0), (1, .int v1), (2, .int v2), (4, .int v4), (5, .int v5)] [] μ := by
  unfold b_X12_isTurned_50 at H
  refine r_iconst (v := 0) K dX12_isTurned_50 (by decide) ?_
  exact r_sub [0, 1, 2, 3, 4] rfl (t_X12_isTurned_51 K hl H D)
set_option maxRecDepth 10000 in
theorem t_X12_isTurned_13 {X : jX} {l : Launch} {n : Nat} {Y : jY} (K : jOK X RX12 cX12_isTurned 6 (some .boolean) 2) (hl : X.2.1 = l) {rr : Int32} {μr : jM} {v0 : Nat} {v1 : Int32} {v2 : Int32} {v3 : Int32} {v4 : Int32} {v5 : Int32} {μ : jM} {z : ((Int32 × Int32 × jM) ⊕ (Int32 × jM))} (H : b_X12_isTurned_13 Y v0 v1 v2 v3 v4 v5 μ = some z) (D : Sum.elim (fun (s : Int32 × Int32 × jM) => JW X (jEnd X n Y (some (.int rr)) μr 0 0) 0 0 n Y 13 [(0, .ref v0), (1, .int v1), (2, .int v2), (3, .int s.1), (4, .int v4), (5, .int s.2.1)] [] s.2.2) (fun r => r = (rr, μr)) z) : JW X (jEnd X n Y (some (.int rr)) μr 0 0) 0 0 n Y 13 [(0, .ref v0), (1, .int v1), (2, .int v2), (3, .int v3), (4, .int v4), (5, .int v5)] [] μ := by
  unfold b_X12_isTurned_13 at H
  refine r_iload K 5 dX12_isTurned_13 rfl ?_
  refine r_iload K 4 dX12_isTurned_15 rfl ?_
  refine w_icmp_ge K 58 dX12_isTurned_17 (by decide) H (fun _ H => ?_) (fun _ H => ?_)
  · refine r_iconst (v := 0) K dX12_isTurned_58 (by decide) ?_
    refine r_istore K [(5, .int _), (0, .ref _), (1, .int _), (2, .int _), (3, .int _), (4, .int _)] dX12_isTurned_59 (by decide) rfl ?_
    obtain ⟨z2, H2, rfl⟩ := jmap H
    exact r_sub [1, 2, 3, 4, 5, 0] rfl (l_X12_isTurned_61 K hl H2 D)
  · refine r_iload_n K 3 dX12_isTurned_20 rfl rfl ?_
    refine w_if_eq K 50 dX12_isTurned_21 (by decide) H (fun _ H => ?_) (fun _ H => ?_)
    · exact r_sub [0, 1, 2, 4, 5] rfl (t_X12_isTurned_50 K hl H D)
    · refine r_aload_n K 0 dX12_isTurned_24 rfl rfl ?_
      refine r_iload_n K 1 dX12_isTurned_25 rfl rfl ?_
      refine r_iload K 5 dX12_isTurned_26 rfl ?_
      refine w_callV K hl H (fun r h => c_X12_a l h) mC_yX12_a mM_RX12_256 mI_yX12_a mS_yX12_a mZ_RX12 vc12 (Nat.le_of_ble_eq_true rfl) (Nat.le_of_ble_eq_true rfl) np_yX12_a rfl (Nat.le_of_ble_eq_true rfl) dX12_isTurned_28 (fun r1 H => ?_) ⟨Nat.zero_le _, Nat.zero_le _⟩
      refine r_aload_n K 0 dX12_isTurned_31 rfl rfl ?_
      refine r_iload_n K 2 dX12_isTurned_32 rfl rfl ?_
      refine r_iload K 4 dX12_isTurned_33 rfl ?_
      refine r_iconst (v := 1) K dX12_isTurned_35 (by decide) ?_
      refine r_isub K dX12_isTurned_36 ?_
      refine r_iload K 5 dX12_isTurned_37 rfl ?_
      refine r_isub K dX12_isTurned_39 ?_
      refine w_callV K hl H (fun r h => c_X12_a l h) mC_yX12_a mM_RX12_256 mI_yX12_a mS_yX12_a mZ_RX12 vc12 (Nat.le_of_ble_eq_true rfl) (Nat.le_of_ble_eq_true rfl) np_yX12_a rfl (Nat.le_of_ble_eq_true rfl) dX12_isTurned_40 (fun r2 H => ?_) ⟨Nat.zero_le _, Nat.zero_le _⟩
      refine w_icmp_ne K 50 dX12_isTurned_43 (by decide) H (fun _ H => ?_) (fun _ H => ?_)
      · exact r_sub [0, 1, 2, 4, 5] rfl (t_X12_isTurned_50 K hl H D)
      · refine r_iconst (v := 1) K dX12_isTurned_46 (by decide) ?_
        refine r_goto K 51 dX12_isTurned_47 (by decide) ?_
        exact r_sub [0, 1, 2, 4, 5] rfl (t_X12_isTurned_51 K hl H D)
set_option maxRecDepth 10000 in
theorem l_X12_isTurned_13 {X : jX} {l : Launch} {n : Nat} {Y : jY} (K : jOK X RX12 cX12_isTurned 6 (some .boolean) 2) (hl : X.2.1 = l) {rr : Int32} {μr : jM} {v0 : Nat} {v1 : Int32} {v2 : Int32} {v4 : Int32}  {s0 : Int32 × Int32 × jM} {z : (Int32 × jM)} (H : jit jF (fun (s : Int32 × Int32 × jM) => b_X12_isTurned_13 Y v0 v1 v2 s.1 v4 s.2.1 s.2.2) s0 = some z) (D : z = (rr, μr)) : JW X (jEnd X n Y (some (.int rr)) μr 0 0) 0 0 n Y 13 [(0, .ref v0), (1, .int v1), (2, .int v2), (3, .int s0.1), (4, .int v4), (5, .int s0.2.1)] [] s0.2.2 :=
  jit_ind (P := fun (s : Int32 × Int32 × jM) => JW X (jEnd X n Y (some (.int rr)) μr 0 0) 0 0 n Y 13 [(0, .ref v0), (1, .int v1), (2, .int v2), (3, .int s.1), (4, .int v4), (5, .int s.2.1)] [] s.2.2) (D := fun r => r = (rr, μr)) (fun s z Hs Ds => t_X12_isTurned_13 K hl Hs Ds) jF s0 z H D
set_option maxRecDepth 10000 in
theorem t_X12_isTurned_0 {X : jX} {l : Launch} {n : Nat} {Y : jY} (K : jOK X RX12 cX12_isTurned 6 (some .boolean) 2) (hl : X.2.1 = l) {rr : Int32} {μr : jM} {v0 : Nat} {v1 : Int32} {v2 : Int32} {μ : jM} {z : (Int32 × jM)} (H : f_X12_isTurned Y v0 v1 v2 μ = some z) (D : z = (rr, μr)) : JW X (jEnd X n Y (some (.int rr)) μr 0 0) 0 0 n Y 0 [(0, .ref v0), (1, .int v1), (2, .int v2)] [] μ := by
  unfold f_X12_isTurned at H
  refine r_iconst (v := 1) K dX12_isTurned_0 (by decide) ?_
  refine r_istore_n K [(3, .int _), (0, .ref _), (1, .int _), (2, .int _)] dX12_isTurned_1 rfl (by decide) rfl ?_
  refine r_aload_n K 1 dX12_isTurned_2 rfl rfl ?_
  refine w_getO K vc12 inX12 26 (by decide) mF_RX12_48 dX12_isTurned_3 H (fun x1 H => ?_)
  refine r_iload_n K 2 dX12_isTurned_6 rfl rfl ?_
  refine w_iald K dX12_isTurned_7 H (fun x2 H => ?_)
  refine r_istore K [(4, .int _), (3, .int _), (0, .ref _), (1, .int _), (2, .int _)] dX12_isTurned_8 (by decide) rfl ?_
  refine r_iconst (v := 0) K dX12_isTurned_10 (by decide) ?_
  refine r_istore K [(5, .int _), (4, .int _), (3, .int _), (0, .ref _), (1, .int _), (2, .int _)] dX12_isTurned_11 (by decide) rfl ?_
  exact r_sub [3, 4, 5, 2, 1, 0] rfl (l_X12_isTurned_13 K hl H D)
theorem c_X12_isTurned (l : Launch) {n : Nat} {Y : jY} {v0 : Nat} {v1 : Int32} {v2 : Int32} {μ : jM} {z : Int32 × jM} (H : f_X12_isTurned Y v0 v1 v2 μ = some z) : jC l yX12_isTurned cX12_isTurned 6 (some .boolean) 2 0 0 [.ref v0, .int v1, .int v2] n Y μ n Y (some (.int z.1)) z.2 := by
  refine jC_of (by decide +kernel) (Nat.le_of_ble_eq_true rfl) (fun X hl K _ _ _ => ?_)
  obtain ⟨rr, μr⟩ := z
  exact t_X12_isTurned_0 K hl H rfl
/-! RX12 laysPoly(II)V -/
def b_X12_laysPoly_159 (Y : jY) (v0 : Nat) (v1 : Int32) (v2 : Int32) (v3 : Int32) (v4 : Int32) (t0 : Nat) (t1 : Int32) (t2 : Int64) (μ : jM) : Option ((Int32 × jM) ⊕ ((Int32 × jM) ⊕ (jM))) :=
  (jas Y μ t0 21 t1 (.long t2)).bind fun μ1 =>
  some (.inl ((v4 + (1 : Int32)), μ1))
def b_X12_laysPoly_76 (Y : jY) (v0 : Nat) (v1 : Int32) (v2 : Int32) (v3 : Int32) (v4 : Int32) (t0 : Int64) (μ : jM) : Option ((Int32 × jM) ⊕ ((Int32 × jM) ⊕ (jM))) :=
  (jrcv Y v0 12 (f_X12_a Y v0 v1 ((((v2 + v3)) - ((1 : Int32)))) μ)).bind fun r1 =>
  (jgO Y r1.2 v0 12 35).bind fun x2 =>
  (jaL Y r1.2 x2 21 ((((((6 : Int32)) * ((v3 - ((1 : Int32)))))) + v4))).bind fun x3 =>
  (jgO Y r1.2 v0 12 35).bind fun x4 =>
  if v3 ≤ ((1 : Int32)) then
    b_X12_laysPoly_159 Y v0 v1 v2 v3 v4 x4 (((((6 : Int32)) * v3)) + v4) (t0 - ((((r1.1.toInt64)) * x3))) r1.2
  else
    (jrcv Y v0 12 (f_X12_c Y v0 v1 ((((v2 + v3)) - ((2 : Int32)))) r1.2)).bind fun r5 =>
    (jgO Y r5.2 v0 12 35).bind fun x6 =>
    (jaL Y r5.2 x6 21 ((((((6 : Int32)) * ((v3 - ((2 : Int32)))))) + v4))).bind fun x7 =>
    b_X12_laysPoly_159 Y v0 v1 v2 v3 v4 x4 (((((6 : Int32)) * v3)) + v4) (((t0 - ((((r1.1.toInt64)) * x3)))) - ((((r5.1.toInt64)) * x7))) r5.2
def b_X12_laysPoly_45 (Y : jY) (v0 : Nat) (v1 : Int32) (v2 : Int32) (v3 : Int32) (v4 : Int32) (μ : jM) : Option ((Int32 × jM) ⊕ ((Int32 × jM) ⊕ (jM))) :=
  if v3 < v4 then
    some (.inr (.inl ((v3 + (1 : Int32)), μ)))
  else
    if v4 ≤ 0 then
      b_X12_laysPoly_76 Y v0 v1 v2 v3 v4 (0 : Int64) μ
    else
      (jgO Y μ v0 12 35).bind fun x1 =>
      (jaL Y μ x1 21 ((((((((6 : Int32)) * ((v3 - ((1 : Int32)))))) + v4)) - ((1 : Int32))))).bind fun x2 =>
      b_X12_laysPoly_76 Y v0 v1 v2 v3 v4 x2 μ
def b_X12_laysPoly_30 (Y : jY) (v0 : Nat) (v1 : Int32) (v2 : Int32) (v3 : Int32) (μ : jM) : Option ((Int32 × jM) ⊕ (jM)) :=
  (jgO Y μ v0 12 26).bind fun x1 =>
  (jaI Y μ x1 20 v1).bind fun x2 =>
  if ((x2 - v2)) < v3 then
    some (.inr μ)
  else
    jit jF (fun (s : Int32 × jM) => b_X12_laysPoly_45 Y v0 v1 v2 v3 s.1 s.2) ((0 : Int32), μ)
def b_X12_laysPoly_2 (Y : jY) (v0 : Nat) (v1 : Int32) (v2 : Int32) (v3 : Int32) (μ : jM) : Option ((Int32 × jM) ⊕ (jM)) :=
  if ((36 : Int32)) ≤ v3 then
    (jgO Y μ v0 12 35).bind fun x1 =>
    (jas Y μ x1 21 ((0 : Int32)) (.long ((1 : Int64)))).bind fun μ2 =>
    (jit jF (fun (s : Int32 × jM) => b_X12_laysPoly_30 Y v0 v1 v2 s.1 s.2) ((1 : Int32), μ2)).map (fun r => (.inr r))
  else
    (jgO Y μ v0 12 35).bind fun x3 =>
    (jas Y μ x3 21 v3 (.long ((0 : Int64)))).bind fun μ4 =>
    some (.inl ((v3 + (1 : Int32)), μ4))
def f_X12_laysPoly (Y : jY) (v0 : Nat) (v1 : Int32) (v2 : Int32) (μ : jM) : Option (jM) :=
  jit jF (fun (s : Int32 × jM) => b_X12_laysPoly_2 Y v0 v1 v2 s.1 s.2) ((0 : Int32), μ)
set_option maxRecDepth 10000 in
theorem t_X12_laysPoly_159 {X : jX} {l : Launch} {n : Nat} {Y : jY} (K : jOK X RX12 cX12_laysPoly 7 none 2) (hl : X.2.1 = l) {μr : jM} {v0 : Nat} {v1 : Int32} {v2 : Int32} {v3 : Int32} {v4 : Int32} {t0 : Nat} {t1 : Int32} {t2 : Int64} {μ : jM} {z : ((Int32 × jM) ⊕ ((Int32 × jM) ⊕ (jM)))} (H : b_X12_laysPoly_159 Y v0 v1 v2 v3 v4 t0 t1 t2 μ = some z) (D : Sum.elim (fun (s : Int32 × jM) => JW X (jEnd X n Y none μr 0 0) 0 0 n Y 45 [(0, .ref v0), (1, .int v1), (2, .int v2), (3, .int v3), (4, .int s.1)] [] s.2) (Sum.elim (fun (s : Int32 × jM) => JW X (jEnd X n Y none μr 0 0) 0 0 n Y 30 [(0, .ref v0), (1, .int v1), (2, .int v2), (3, .int s.1)] [] s.2) (fun r => r = μr)) z) : JW X (jEnd X n Y none μr 0 0) 0 0 n Y 159 [(0, .ref v0), (1, .int v1), (2, .int v2), (3, .int v3), (4, .int v4)] [.long t2, .int t1, .ref t0] μ := by
  unfold b_X12_laysPoly_159 at H
  refine w_last K dX12_laysPoly_159 H (fun μ1 H => ?_)
  refine r_iinc K 4 [(4, .int _), (0, .ref _), (1, .int _), (2, .int _), (3, .int _)] (v := _ + (1 : Int32)) dX12_laysPoly_160 rfl rfl (by decide) rfl ?_
  refine r_goto K 45 dX12_laysPoly_163 (by decide) ?_
  cases H
  exact r_sub [1, 2, 3, 4, 0] rfl D
set_option maxRecDepth 10000 in
theorem t_X12_laysPoly_76 {X : jX} {l : Launch} {n : Nat} {Y : jY} (K : jOK X RX12 cX12_laysPoly 7 none 2) (hl : X.2.1 = l) {μr : jM} {v0 : Nat} {v1 : Int32} {v2 : Int32} {v3 : Int32} {v4 : Int32} {t0 : Int64} {μ : jM} {z : ((Int32 × jM) ⊕ ((Int32 × jM) ⊕ (jM)))} (H : b_X12_laysPoly_76 Y v0 v1 v2 v3 v4 t0 μ = some z) (D : Sum.elim (fun (s : Int32 × jM) => JW X (jEnd X n Y none μr 0 0) 0 0 n Y 45 [(0, .ref v0), (1, .int v1), (2, .int v2), (3, .int v3), (4, .int s.1)] [] s.2) (Sum.elim (fun (s : Int32 × jM) => JW X (jEnd X n Y none μr 0 0) 0 0 n Y 30 [(0, .ref v0), (1, .int v1), (2, .int v2), (3, .int s.1)] [] s.2) (fun r => r = μr)) z) : JW X (jEnd X n Y none μr 0 0) 0 0 n Y 76 [(0, .ref v0), (1, .int v1), (2, .int v2), (3, .int v3), (4, .int v4)] [.long t0] μ := by
  unfold b_X12_laysPoly_76 at H
  refine r_lstore K [(5, .long _), (0, .ref _), (1, .int _), (2, .int _), (3, .int _), (4, .int _)] dX12_laysPoly_76 (by decide) rfl ?_
  refine r_lload K 0 dX12_laysPoly_78 rfl ?_
  refine r_aload_n K 1 dX12_laysPoly_80 rfl rfl ?_
  refine r_iload_n K 2 dX12_laysPoly_81 rfl rfl ?_
  refine r_iload_n K 3 dX12_laysPoly_82 rfl rfl ?_
  refine r_iload_n K 4 dX12_laysPoly_83 rfl rfl ?_
  refine r_iadd K dX12_laysPoly_84 ?_
  refine r_iconst (v := 1) K dX12_laysPoly_85 (by decide) ?_
  refine r_isub K dX12_laysPoly_86 ?_
  refine w_callV K hl H (fun r h => c_X12_a l h) mC_yX12_a mM_RX12_256 mI_yX12_a mS_yX12_a mZ_RX12 vc12 (Nat.le_of_ble_eq_true rfl) (Nat.le_of_ble_eq_true rfl) np_yX12_a rfl (Nat.le_of_ble_eq_true rfl) dX12_laysPoly_87 (fun r1 H => ?_) ⟨Nat.zero_le _, Nat.zero_le _⟩
  refine r_i2l K dX12_laysPoly_90 ?_
  refine r_aload_n K 1 dX12_laysPoly_91 rfl rfl ?_
  refine w_getO K vc12 inX12 35 (by decide) mF_RX12_75 dX12_laysPoly_92 H (fun x2 H => ?_)
  refine r_bipush (v := 6) K dX12_laysPoly_95 (by decide) ?_
  refine r_iload_n K 4 dX12_laysPoly_97 rfl rfl ?_
  refine r_iconst (v := 1) K dX12_laysPoly_98 (by decide) ?_
  refine r_isub K dX12_laysPoly_99 ?_
  refine r_imul K dX12_laysPoly_100 ?_
  refine r_iload K 5 dX12_laysPoly_101 rfl ?_
  refine r_iadd K dX12_laysPoly_103 ?_
  refine w_lald K dX12_laysPoly_104 H (fun x3 H => ?_)
  refine r_lmul K dX12_laysPoly_105 ?_
  refine r_lsub K dX12_laysPoly_106 ?_
  refine r_lstore K [(5, .long _), (0, .ref _), (1, .int _), (2, .int _), (3, .int _), (4, .int _)] dX12_laysPoly_107 (by decide) rfl ?_
  refine r_aload_n K 1 dX12_laysPoly_109 rfl rfl ?_
  refine w_getO K vc12 inX12 35 (by decide) mF_RX12_75 dX12_laysPoly_110 H (fun x4 H => ?_)
  refine r_bipush (v := 6) K dX12_laysPoly_113 (by decide) ?_
  refine r_iload_n K 4 dX12_laysPoly_115 rfl rfl ?_
  refine r_imul K dX12_laysPoly_116 ?_
  refine r_iload K 5 dX12_laysPoly_117 rfl ?_
  refine r_iadd K dX12_laysPoly_119 ?_
  refine r_iload_n K 4 dX12_laysPoly_120 rfl rfl ?_
  refine r_iconst (v := 1) K dX12_laysPoly_121 (by decide) ?_
  refine w_icmp_le K 157 dX12_laysPoly_122 (by decide) H (fun _ H => ?_) (fun _ H => ?_)
  · refine r_lload K 0 dX12_laysPoly_157 rfl ?_
    exact r_sub [1, 2, 3, 4, 5] rfl (t_X12_laysPoly_159 K hl H D)
  · refine r_lload K 0 dX12_laysPoly_125 rfl ?_
    refine r_aload_n K 1 dX12_laysPoly_127 rfl rfl ?_
    refine r_iload_n K 2 dX12_laysPoly_128 rfl rfl ?_
    refine r_iload_n K 3 dX12_laysPoly_129 rfl rfl ?_
    refine r_iload_n K 4 dX12_laysPoly_130 rfl rfl ?_
    refine r_iadd K dX12_laysPoly_131 ?_
    refine r_iconst (v := 2) K dX12_laysPoly_132 (by decide) ?_
    refine r_isub K dX12_laysPoly_133 ?_
    refine w_callV K hl H (fun r h => c_X12_c l h) mC_yX12_c mM_RX12_260 mI_yX12_c mS_yX12_c mZ_RX12 vc12 (Nat.le_of_ble_eq_true rfl) (Nat.le_of_ble_eq_true rfl) np_yX12_c rfl (Nat.le_of_ble_eq_true rfl) dX12_laysPoly_134 (fun r5 H => ?_) ⟨Nat.zero_le _, Nat.zero_le _⟩
    refine r_i2l K dX12_laysPoly_137 ?_
    refine r_aload_n K 1 dX12_laysPoly_138 rfl rfl ?_
    refine w_getO K vc12 inX12 35 (by decide) mF_RX12_75 dX12_laysPoly_139 H (fun x6 H => ?_)
    refine r_bipush (v := 6) K dX12_laysPoly_142 (by decide) ?_
    refine r_iload_n K 4 dX12_laysPoly_144 rfl rfl ?_
    refine r_iconst (v := 2) K dX12_laysPoly_145 (by decide) ?_
    refine r_isub K dX12_laysPoly_146 ?_
    refine r_imul K dX12_laysPoly_147 ?_
    refine r_iload K 5 dX12_laysPoly_148 rfl ?_
    refine r_iadd K dX12_laysPoly_150 ?_
    refine w_lald K dX12_laysPoly_151 H (fun x7 H => ?_)
    refine r_lmul K dX12_laysPoly_152 ?_
    refine r_lsub K dX12_laysPoly_153 ?_
    refine r_goto K 159 dX12_laysPoly_154 (by decide) ?_
    exact r_sub [1, 2, 3, 4, 5] rfl (t_X12_laysPoly_159 K hl H D)
set_option maxRecDepth 10000 in
theorem t_X12_laysPoly_45 {X : jX} {l : Launch} {n : Nat} {Y : jY} (K : jOK X RX12 cX12_laysPoly 7 none 2) (hl : X.2.1 = l) {μr : jM} {v0 : Nat} {v1 : Int32} {v2 : Int32} {v3 : Int32} {v4 : Int32} {μ : jM} {z : ((Int32 × jM) ⊕ ((Int32 × jM) ⊕ (jM)))} (H : b_X12_laysPoly_45 Y v0 v1 v2 v3 v4 μ = some z) (D : Sum.elim (fun (s : Int32 × jM) => JW X (jEnd X n Y none μr 0 0) 0 0 n Y 45 [(0, .ref v0), (1, .int v1), (2, .int v2), (3, .int v3), (4, .int s.1)] [] s.2) (Sum.elim (fun (s : Int32 × jM) => JW X (jEnd X n Y none μr 0 0) 0 0 n Y 30 [(0, .ref v0), (1, .int v1), (2, .int v2), (3, .int s.1)] [] s.2) (fun r => r = μr)) z) : JW X (jEnd X n Y none μr 0 0) 0 0 n Y 45 [(0, .ref v0), (1, .int v1), (2, .int v2), (3, .int v3), (4, .int v4)] [] μ := by
  unfold b_X12_laysPoly_45 at H
  refine r_iload K 4 dX12_laysPoly_45 rfl ?_
  refine r_iload_n K 3 dX12_laysPoly_47 rfl rfl ?_
  refine w_icmp_gt K 166 dX12_laysPoly_48 (by decide) H (fun _ H => ?_) (fun _ H => ?_)
  · refine r_iinc K 3 [(3, .int _), (0, .ref _), (1, .int _), (2, .int _), (4, .int _)] (v := _ + (1 : Int32)) dX12_laysPoly_166 rfl rfl (by decide) rfl ?_
    refine r_goto K 30 dX12_laysPoly_169 (by decide) ?_
    cases H
    exact r_sub [1, 2, 3, 0] rfl D
  · refine r_iload K 4 dX12_laysPoly_51 rfl ?_
    refine w_if_le K 75 dX12_laysPoly_53 (by decide) H (fun _ H => ?_) (fun _ H => ?_)
    · refine r_lconst (v := 0) K dX12_laysPoly_75 (by decide) ?_
      exact r_sub [0, 1, 2, 3, 4] rfl (t_X12_laysPoly_76 K hl H D)
    · refine r_aload_n K 0 dX12_laysPoly_56 rfl rfl ?_
      refine w_getO K vc12 inX12 35 (by decide) mF_RX12_75 dX12_laysPoly_57 H (fun x1 H => ?_)
      refine r_bipush (v := 6) K dX12_laysPoly_60 (by decide) ?_
      refine r_iload_n K 3 dX12_laysPoly_62 rfl rfl ?_
      refine r_iconst (v := 1) K dX12_laysPoly_63 (by decide) ?_
      refine r_isub K dX12_laysPoly_64 ?_
      refine r_imul K dX12_laysPoly_65 ?_
      refine r_iload K 4 dX12_laysPoly_66 rfl ?_
      refine r_iadd K dX12_laysPoly_68 ?_
      refine r_iconst (v := 1) K dX12_laysPoly_69 (by decide) ?_
      refine r_isub K dX12_laysPoly_70 ?_
      refine w_lald K dX12_laysPoly_71 H (fun x2 H => ?_)
      refine r_goto K 76 dX12_laysPoly_72 (by decide) ?_
      exact r_sub [0, 1, 2, 3, 4] rfl (t_X12_laysPoly_76 K hl H D)
set_option maxRecDepth 10000 in
theorem l_X12_laysPoly_45 {X : jX} {l : Launch} {n : Nat} {Y : jY} (K : jOK X RX12 cX12_laysPoly 7 none 2) (hl : X.2.1 = l) {μr : jM} {v0 : Nat} {v1 : Int32} {v2 : Int32} {v3 : Int32}  {s0 : Int32 × jM} {z : ((Int32 × jM) ⊕ (jM))} (H : jit jF (fun (s : Int32 × jM) => b_X12_laysPoly_45 Y v0 v1 v2 v3 s.1 s.2) s0 = some z) (D : Sum.elim (fun (s : Int32 × jM) => JW X (jEnd X n Y none μr 0 0) 0 0 n Y 30 [(0, .ref v0), (1, .int v1), (2, .int v2), (3, .int s.1)] [] s.2) (fun r => r = μr) z) : JW X (jEnd X n Y none μr 0 0) 0 0 n Y 45 [(0, .ref v0), (1, .int v1), (2, .int v2), (3, .int v3), (4, .int s0.1)] [] s0.2 :=
  jit_ind (P := fun (s : Int32 × jM) => JW X (jEnd X n Y none μr 0 0) 0 0 n Y 45 [(0, .ref v0), (1, .int v1), (2, .int v2), (3, .int v3), (4, .int s.1)] [] s.2) (D := Sum.elim (fun (s : Int32 × jM) => JW X (jEnd X n Y none μr 0 0) 0 0 n Y 30 [(0, .ref v0), (1, .int v1), (2, .int v2), (3, .int s.1)] [] s.2) (fun r => r = μr)) (fun s z Hs Ds => t_X12_laysPoly_45 K hl Hs Ds) jF s0 z H D
set_option maxRecDepth 10000 in
theorem t_X12_laysPoly_30 {X : jX} {l : Launch} {n : Nat} {Y : jY} (K : jOK X RX12 cX12_laysPoly 7 none 2) (hl : X.2.1 = l) {μr : jM} {v0 : Nat} {v1 : Int32} {v2 : Int32} {v3 : Int32} {μ : jM} {z : ((Int32 × jM) ⊕ (jM))} (H : b_X12_laysPoly_30 Y v0 v1 v2 v3 μ = some z) (D : Sum.elim (fun (s : Int32 × jM) => JW X (jEnd X n Y none μr 0 0) 0 0 n Y 30 [(0, .ref v0), (1, .int v1), (2, .int v2), (3, .int s.1)] [] s.2) (fun r => r = μr) z) : JW X (jEnd X n Y none μr 0 0) 0 0 n Y 30 [(0, .ref v0), (1, .int v1), (2, .int v2), (3, .int v3)] [] μ := by
  unfold b_X12_laysPoly_30 at H
  refine r_iload_n K 3 dX12_laysPoly_30 rfl rfl ?_
  refine r_aload_n K 0 dX12_laysPoly_31 rfl rfl ?_
  refine w_getO K vc12 inX12 26 (by decide) mF_RX12_48 dX12_laysPoly_32 H (fun x1 H => ?_)
  refine r_iload_n K 1 dX12_laysPoly_35 rfl rfl ?_
  refine w_iald K dX12_laysPoly_36 H (fun x2 H => ?_)
  refine r_iload_n K 2 dX12_laysPoly_37 rfl rfl ?_
  refine r_isub K dX12_laysPoly_38 ?_
  refine w_icmp_gt K 172 dX12_laysPoly_39 (by decide) H (fun _ H => ?_) (fun _ H => ?_)
  · cases H
    simp only [Sum.elim_inr] at D
    subst D
    exact r_vret K dX12_laysPoly_172
  · refine r_iconst (v := 0) K dX12_laysPoly_42 (by decide) ?_
    refine r_istore K [(4, .int _), (0, .ref _), (1, .int _), (2, .int _), (3, .int _)] dX12_laysPoly_43 (by decide) rfl ?_
    exact r_sub [1, 2, 3, 4, 0] rfl (l_X12_laysPoly_45 K hl H D)
set_option maxRecDepth 10000 in
theorem l_X12_laysPoly_30 {X : jX} {l : Launch} {n : Nat} {Y : jY} (K : jOK X RX12 cX12_laysPoly 7 none 2) (hl : X.2.1 = l) {μr : jM} {v0 : Nat} {v1 : Int32} {v2 : Int32}  {s0 : Int32 × jM} {z : (jM)} (H : jit jF (fun (s : Int32 × jM) => b_X12_laysPoly_30 Y v0 v1 v2 s.1 s.2) s0 = some z) (D : z = μr) : JW X (jEnd X n Y none μr 0 0) 0 0 n Y 30 [(0, .ref v0), (1, .int v1), (2, .int v2), (3, .int s0.1)] [] s0.2 :=
  jit_ind (P := fun (s : Int32 × jM) => JW X (jEnd X n Y none μr 0 0) 0 0 n Y 30 [(0, .ref v0), (1, .int v1), (2, .int v2), (3, .int s.1)] [] s.2) (D := fun r => r = μr) (fun s z Hs Ds => t_X12_laysPoly_30 K hl Hs Ds) jF s0 z H D
set_option maxRecDepth 10000 in
theorem t_X12_laysPoly_2 {X : jX} {l : Launch} {n : Nat} {Y : jY} (K : jOK X RX12 cX12_laysPoly 7 none 2) (hl : X.2.1 = l) {μr : jM} {v0 : Nat} {v1 : Int32} {v2 : Int32} {v3 : Int32} {μ : jM} {z : ((Int32 × jM) ⊕ (jM))} (H : b_X12_laysPoly_2 Y v0 v1 v2 v3 μ = some z) (D : Sum.elim (fun (s : Int32 × jM) => JW X (jEnd X n Y none μr 0 0) 0 0 n Y 2 [(0, .ref v0), (1, .int v1), (2, .int v2), (3, .int s.1)] [] s.2) (fun r => r = μr) z) : JW X (jEnd X n Y none μr 0 0) 0 0 n Y 2 [(0, .ref v0), (1, .int v1), (2, .int v2), (3, .int v3)] [] μ := by
  unfold b_X12_laysPoly_2 at H
  refine r_iload_n K 3 dX12_laysPoly_2 rfl rfl ?_
  refine r_bipush (v := 36) K dX12_laysPoly_3 (by decide) ?_
  refine w_icmp_ge K 21 dX12_laysPoly_5 (by decide) H (fun _ H => ?_) (fun _ H => ?_)
  · refine r_aload_n K 0 dX12_laysPoly_21 rfl rfl ?_
    refine w_getO K vc12 inX12 35 (by decide) mF_RX12_75 dX12_laysPoly_22 H (fun x1 H => ?_)
    refine r_iconst (v := 0) K dX12_laysPoly_25 (by decide) ?_
    refine r_lconst (v := 1) K dX12_laysPoly_26 (by decide) ?_
    refine w_last K dX12_laysPoly_27 H (fun μ2 H => ?_)
    refine r_iconst (v := 1) K dX12_laysPoly_28 (by decide) ?_
    refine r_istore_n K [(3, .int _), (0, .ref _), (1, .int _), (2, .int _)] dX12_laysPoly_29 rfl (by decide) rfl ?_
    obtain ⟨z2, H2, rfl⟩ := jmap H
    exact r_sub [1, 2, 3, 0] rfl (l_X12_laysPoly_30 K hl H2 D)
  · refine r_aload_n K 0 dX12_laysPoly_8 rfl rfl ?_
    refine w_getO K vc12 inX12 35 (by decide) mF_RX12_75 dX12_laysPoly_9 H (fun x3 H => ?_)
    refine r_iload_n K 3 dX12_laysPoly_12 rfl rfl ?_
    refine r_lconst (v := 0) K dX12_laysPoly_13 (by decide) ?_
    refine w_last K dX12_laysPoly_14 H (fun μ4 H => ?_)
    refine r_iinc K 3 [(3, .int _), (0, .ref _), (1, .int _), (2, .int _)] (v := _ + (1 : Int32)) dX12_laysPoly_15 rfl rfl (by decide) rfl ?_
    refine r_goto K 2 dX12_laysPoly_18 (by decide) ?_
    cases H
    exact r_sub [1, 2, 3, 0] rfl D
set_option maxRecDepth 10000 in
theorem l_X12_laysPoly_2 {X : jX} {l : Launch} {n : Nat} {Y : jY} (K : jOK X RX12 cX12_laysPoly 7 none 2) (hl : X.2.1 = l) {μr : jM} {v0 : Nat} {v1 : Int32} {v2 : Int32}  {s0 : Int32 × jM} {z : (jM)} (H : jit jF (fun (s : Int32 × jM) => b_X12_laysPoly_2 Y v0 v1 v2 s.1 s.2) s0 = some z) (D : z = μr) : JW X (jEnd X n Y none μr 0 0) 0 0 n Y 2 [(0, .ref v0), (1, .int v1), (2, .int v2), (3, .int s0.1)] [] s0.2 :=
  jit_ind (P := fun (s : Int32 × jM) => JW X (jEnd X n Y none μr 0 0) 0 0 n Y 2 [(0, .ref v0), (1, .int v1), (2, .int v2), (3, .int s.1)] [] s.2) (D := fun r => r = μr) (fun s z Hs Ds => t_X12_laysPoly_2 K hl Hs Ds) jF s0 z H D
set_option maxRecDepth 10000 in
theorem t_X12_laysPoly_0 {X : jX} {l : Launch} {n : Nat} {Y : jY} (K : jOK X RX12 cX12_laysPoly 7 none 2) (hl : X.2.1 = l) {μr : jM} {v0 : Nat} {v1 : Int32} {v2 : Int32} {μ : jM} {z : (jM)} (H : f_X12_laysPoly Y v0 v1 v2 μ = some z) (D : z = μr) : JW X (jEnd X n Y none μr 0 0) 0 0 n Y 0 [(0, .ref v0), (1, .int v1), (2, .int v2)] [] μ := by
  unfold f_X12_laysPoly at H
  refine r_iconst (v := 0) K dX12_laysPoly_0 (by decide) ?_
  refine r_istore_n K [(3, .int _), (0, .ref _), (1, .int _), (2, .int _)] dX12_laysPoly_1 rfl (by decide) rfl ?_
  exact r_sub [1, 2, 3, 0] rfl (l_X12_laysPoly_2 K hl H D)
theorem c_X12_laysPoly (l : Launch) {n : Nat} {Y : jY} {v0 : Nat} {v1 : Int32} {v2 : Int32} {μ : jM} {z : jM} (H : f_X12_laysPoly Y v0 v1 v2 μ = some z) : jC l yX12_laysPoly cX12_laysPoly 7 none 2 0 0 [.ref v0, .int v1, .int v2] n Y μ n Y none z := by
  refine jC_of (by decide +kernel) (Nat.le_of_ble_eq_true rfl) (fun X hl K _ _ _ => ?_)
  exact t_X12_laysPoly_0 K hl H rfl
/-! RX12 alike(III)I -/
def b_X12_alike_23 (Y : jY) (μ : jM) : Option (Int32 × jM) :=
  some ((-1 : Int32), μ)
def b_X12_alike_43 (Y : jY) (μ : jM) : Option (Int32 × jM) :=
  some ((-2 : Int32), μ)
def b_X12_alike_328 (Y : jY) (t0 : Int32) (μ : jM) : Option (Int32 × jM) :=
  some (t0, μ)
def b_X12_alike_310 (Y : jY) (v0 : Nat) (v1 : Int32) (v5 : Int32) (t0 : Int32) (μ : jM) : Option ((Int32 × Int32 × jM) ⊕ (Int32 × jM)) :=
  some (.inl (t0, (v5 + (1 : Int32)), μ))
def b_X12_alike_309 (Y : jY) (v0 : Nat) (v1 : Int32) (v5 : Int32) (μ : jM) : Option ((Int32 × Int32 × jM) ⊕ (Int32 × jM)) :=
  b_X12_alike_310 Y v0 v1 v5 (0 : Int32) μ
def b_X12_alike_261 (Y : jY) (v0 : Nat) (v1 : Int32) (v4 : Int32) (v5 : Int32) (μ : jM) : Option ((Int32 × Int32 × jM) ⊕ (Int32 × jM)) :=
  (jgO Y μ v0 12 26).bind fun x1 =>
  (jaI Y μ x1 20 v1).bind fun x2 =>
  if x2 < v5 then
    if v4 = 0 then
      (b_X12_alike_328 Y (0 : Int32) μ).map (fun r => (.inr r))
    else
      (b_X12_alike_328 Y (1 : Int32) μ).map (fun r => (.inr r))
  else
    if v4 = 0 then
      b_X12_alike_309 Y v0 v1 v5 μ
    else
      (jgO Y μ v0 12 36).bind fun x3 =>
      (jaL Y μ x3 21 v5).bind fun x4 =>
      (jgO Y μ v0 12 35).bind fun x5 =>
      (jgO Y μ v0 12 26).bind fun x6 =>
      (jaI Y μ x6 20 v1).bind fun x7 =>
      (jaL Y μ x5 21 ((((((6 : Int32)) * x7)) + v5))).bind fun x8 =>
      if ((lg_cmp x4 x8)) = 0 then
        b_X12_alike_310 Y v0 v1 v5 (1 : Int32) μ
      else
        b_X12_alike_309 Y v0 v1 v5 μ
def b_X12_alike_211 (Y : jY) (v0 : Nat) (v1 : Int32) (v2 : Int32) (v4 : Int32) (v5 : Int32) (μ : jM) : Option ((Int32 × jM) ⊕ (Int32 × jM)) :=
  (jgO Y μ v0 12 26).bind fun x1 =>
  (jaI Y μ x1 20 v1).bind fun x2 =>
  if x2 < v5 then
    (jrcv Y v0 12 (f_X12_laysPoly Y v0 v2 ((0 : Int32)) μ)).bind fun μ3 =>
    (jit jF (fun (s : Int32 × Int32 × jM) => b_X12_alike_261 Y v0 v1 s.1 s.2.1 s.2.2) (v4, (0 : Int32), μ3)).map (fun r => (.inr r))
  else
    (jgO Y μ v0 12 36).bind fun x4 =>
    (jgO Y μ v0 12 35).bind fun x5 =>
    (jgO Y μ v0 12 26).bind fun x6 =>
    (jaI Y μ x6 20 v1).bind fun x7 =>
    (jaL Y μ x5 21 ((((((6 : Int32)) * x7)) + v5))).bind fun x8 =>
    (jas Y μ x4 21 v5 (.long x8)).bind fun μ9 =>
    some (.inl ((v5 + (1 : Int32)), μ9))
def b_X12_alike_198 (Y : jY) (t0 : Int32) (μ : jM) : Option (Int32 × jM) :=
  some (t0, μ)
def b_X12_alike_150 (Y : jY) (v0 : Nat) (v1 : Int32) (v2 : Int32) (v5 : Int32) (t0 : Int32) (t1 : Int32) (μ : jM) : Option ((Int32 × Int32 × jM) ⊕ (Int32 × jM)) :=
  some (.inl ((t0 + t1), (v5 + (1 : Int32)), μ))
def b_X12_alike_130 (Y : jY) (v0 : Nat) (v1 : Int32) (v2 : Int32) (v4 : Int32) (v5 : Int32) (v7 : Int32) (t0 : Int32) (μ : jM) : Option ((Int32 × Int32 × jM) ⊕ ((Int32 × Int32 × jM) ⊕ (Int32 × jM))) :=
  some (.inl (t0, (v7 + (1 : Int32)), μ))
def b_X12_alike_125 (Y : jY) (v0 : Nat) (v1 : Int32) (v2 : Int32) (v4 : Int32) (v5 : Int32) (v7 : Int32) (μ : jM) : Option ((Int32 × Int32 × jM) ⊕ ((Int32 × Int32 × jM) ⊕ (Int32 × jM))) :=
  b_X12_alike_130 Y v0 v1 v2 v4 v5 v7 (1 : Int32) μ
def b_X12_alike_74 (Y : jY) (v0 : Nat) (v1 : Int32) (v2 : Int32) (v4 : Int32) (v5 : Int32) (v6 : Int32) (v7 : Int32) (μ : jM) : Option ((Int32 × Int32 × jM) ⊕ ((Int32 × Int32 × jM) ⊕ (Int32 × jM))) :=
  (jgO Y μ v0 12 26).bind fun x1 =>
  (jaI Y μ x1 20 v2).bind fun x2 =>
  if x2 ≤ v7 then
    if v6 = 0 then
      (b_X12_alike_150 Y v0 v1 v2 v5 v4 (0 : Int32) μ).map (fun r => (.inr r))
    else
      (b_X12_alike_150 Y v0 v1 v2 v5 v4 (1 : Int32) μ).map (fun r => (.inr r))
  else
    if v6 = 0 then
      (jgO Y μ v0 12 26).bind fun x3 =>
      (jaI Y μ x3 20 v1).bind fun x4 =>
      (jrcv Y v0 12 (f_X12_rootOf Y v0 v1 ((0 : Int32)) x4 v5 ((50 : Int32)) μ)).bind fun r5 =>
      (jgO Y r5.2 v0 12 26).bind fun x6 =>
      (jaI Y r5.2 x6 20 v2).bind fun x7 =>
      (jrcv Y v0 12 (f_X12_rootOf Y v0 v2 ((0 : Int32)) x7 v7 ((50 : Int32)) r5.2)).bind fun r8 =>
      if r5.1 = r8.1 then
        b_X12_alike_125 Y v0 v1 v2 v4 v5 v7 r8.2
      else
        b_X12_alike_130 Y v0 v1 v2 v4 v5 v7 (0 : Int32) r8.2
    else
      b_X12_alike_125 Y v0 v1 v2 v4 v5 v7 μ
def b_X12_alike_57 (Y : jY) (v0 : Nat) (v1 : Int32) (v2 : Int32) (v4 : Int32) (v5 : Int32) (μ : jM) : Option ((Int32 × Int32 × jM) ⊕ (Int32 × jM)) :=
  (jgO Y μ v0 12 26).bind fun x1 =>
  (jaI Y μ x1 20 v1).bind fun x2 =>
  if x2 ≤ v5 then
    some (.inr (v4, μ))
  else
    jit jF (fun (s : Int32 × Int32 × jM) => b_X12_alike_74 Y v0 v1 v2 v4 v5 s.1 s.2.1 s.2.2) ((0 : Int32), (0 : Int32), μ)
def f_X12_alike (Y : jY) (v0 : Nat) (v1 : Int32) (v2 : Int32) (v3 : Int32) (μ : jM) : Option (Int32 × jM) :=
  (f_X12_isDrawer Y v1 μ).bind fun r1 =>
  if r1.1 = 0 then
    b_X12_alike_23 Y r1.2
  else
    (f_X12_isDrawer Y v2 r1.2).bind fun r2 =>
    if r2.1 = 0 then
      b_X12_alike_23 Y r2.2
    else
      (f_X12_in Y v3 ((0 : Int32)) ((2 : Int32)) r2.2).bind fun r3 =>
      if r3.1 = 0 then
        b_X12_alike_23 Y r3.2
      else
        (jgO Y r3.2 v0 12 26).bind fun x4 =>
        (jaI Y r3.2 x4 20 v1).bind fun x5 =>
        if x5 = 0 then
          b_X12_alike_43 Y r3.2
        else
          (jgO Y r3.2 v0 12 26).bind fun x6 =>
          (jaI Y r3.2 x6 20 v2).bind fun x7 =>
          if x7 = 0 then
            b_X12_alike_43 Y r3.2
          else
            if v3 = ((2 : Int32)) then
              jit jF (fun (s : Int32 × Int32 × jM) => b_X12_alike_57 Y v0 v1 v2 s.1 s.2.1 s.2.2) ((0 : Int32), (0 : Int32), r3.2)
            else
              (jgO Y r3.2 v0 12 26).bind fun x8 =>
              (jaI Y r3.2 x8 20 v1).bind fun x9 =>
              (jgO Y r3.2 v0 12 26).bind fun x10 =>
              (jaI Y r3.2 x10 20 v2).bind fun x11 =>
              if x9 = x11 then
                if v3 = ((1 : Int32)) then
                  (jrcv Y v0 12 (f_X12_isTurned Y v0 v1 v2 r3.2)).bind fun r13 =>
                  if r13.1 = 0 then
                    b_X12_alike_198 Y (0 : Int32) r13.2
                  else
                    b_X12_alike_198 Y (1 : Int32) r13.2
                else
                  (jrcv Y v0 12 (f_X12_laysPoly Y v0 v1 ((0 : Int32)) r3.2)).bind fun μ12 =>
                  jit jF (fun (s : Int32 × jM) => b_X12_alike_211 Y v0 v1 v2 (1 : Int32) s.1 s.2) ((0 : Int32), μ12)
              else
                some ((0 : Int32), r3.2)
set_option maxRecDepth 10000 in
theorem t_X12_alike_23 {X : jX} {l : Launch} {n : Nat} {Y : jY} (K : jOK X RX12 cX12_alike 8 (some .int) 4) (hl : X.2.1 = l) {rr : Int32} {μr : jM} {μ : jM} {z : (Int32 × jM)} (H : b_X12_alike_23 Y μ = some z) (D : z = (rr, μr)) : JW X (jEnd X n Y (some (.int rr)) μr 0 0) 0 0 n Y 23 [] [] μ := by
  unfold b_X12_alike_23 at H
  refine r_iconst (v := -1) K dX12_alike_23 (by decide) ?_
  cases H
  obtain ⟨rfl, rfl⟩ := jfin2 D
  exact r_iret K dX12_alike_24
set_option maxRecDepth 10000 in
theorem t_X12_alike_43 {X : jX} {l : Launch} {n : Nat} {Y : jY} (K : jOK X RX12 cX12_alike 8 (some .int) 4) (hl : X.2.1 = l) {rr : Int32} {μr : jM} {μ : jM} {z : (Int32 × jM)} (H : b_X12_alike_43 Y μ = some z) (D : z = (rr, μr)) : JW X (jEnd X n Y (some (.int rr)) μr 0 0) 0 0 n Y 43 [] [] μ := by
  unfold b_X12_alike_43 at H
  refine r_bipush (v := -2) K dX12_alike_43 (by decide) ?_
  cases H
  obtain ⟨rfl, rfl⟩ := jfin2 D
  exact r_iret K dX12_alike_45
set_option maxRecDepth 10000 in
theorem t_X12_alike_328 {X : jX} {l : Launch} {n : Nat} {Y : jY} (K : jOK X RX12 cX12_alike 8 (some .int) 4) (hl : X.2.1 = l) {rr : Int32} {μr : jM} {t0 : Int32} {μ : jM} {z : (Int32 × jM)} (H : b_X12_alike_328 Y t0 μ = some z) (D : z = (rr, μr)) : JW X (jEnd X n Y (some (.int rr)) μr 0 0) 0 0 n Y 328 [] [.int t0] μ := by
  unfold b_X12_alike_328 at H
  cases H
  obtain ⟨rfl, rfl⟩ := jfin2 D
  exact r_iret K dX12_alike_328
set_option maxRecDepth 10000 in
theorem t_X12_alike_310 {X : jX} {l : Launch} {n : Nat} {Y : jY} (K : jOK X RX12 cX12_alike 8 (some .int) 4) (hl : X.2.1 = l) {rr : Int32} {μr : jM} {v0 : Nat} {v1 : Int32} {v5 : Int32} {t0 : Int32} {μ : jM} {z : ((Int32 × Int32 × jM) ⊕ (Int32 × jM))} (H : b_X12_alike_310 Y v0 v1 v5 t0 μ = some z) (D : Sum.elim (fun (s : Int32 × Int32 × jM) => JW X (jEnd X n Y (some (.int rr)) μr 0 0) 0 0 n Y 261 [(0, .ref v0), (1, .int v1), (4, .int s.1), (5, .int s.2.1)] [] s.2.2) (fun r => r = (rr, μr)) z) : JW X (jEnd X n Y (some (.int rr)) μr 0 0) 0 0 n Y 310 [(0, .ref v0), (1, .int v1), (5, .int v5)] [.int t0] μ := by
  unfold b_X12_alike_310 at H
  refine r_istore K [(4, .int _), (0, .ref _), (1, .int _), (5, .int _)] dX12_alike_310 (by decide) rfl ?_
  refine r_iinc K 3 [(5, .int _), (4, .int _), (0, .ref _), (1, .int _)] (v := _ + (1 : Int32)) dX12_alike_312 rfl rfl (by decide) rfl ?_
  refine r_goto K 261 dX12_alike_315 (by decide) ?_
  cases H
  exact r_sub [2, 3, 1, 0] rfl D
set_option maxRecDepth 10000 in
theorem t_X12_alike_309 {X : jX} {l : Launch} {n : Nat} {Y : jY} (K : jOK X RX12 cX12_alike 8 (some .int) 4) (hl : X.2.1 = l) {rr : Int32} {μr : jM} {v0 : Nat} {v1 : Int32} {v5 : Int32} {μ : jM} {z : ((Int32 × Int32 × jM) ⊕ (Int32 × jM))} (H : b_X12_alike_309 Y v0 v1 v5 μ = some z) (D : Sum.elim (fun (s : Int32 × Int32 × jM) => JW X (jEnd X n Y (some (.int rr)) μr 0 0) 0 0 n Y 261 [(0, .ref v0), (1, .int v1), (4, .int s.1), (5, .int s.2.1)] [] s.2.2) (fun r => r = (rr, μr)) z) : JW X (jEnd X n Y (some (.int rr)) μr 0 0) 0 0 n Y 309 [(0, .ref v0), (1, .int v1), (5, .int v5)] [] μ := by
  unfold b_X12_alike_309 at H
  refine r_iconst (v := 0) K dX12_alike_309 (by decide) ?_
  exact r_sub [0, 1, 2] rfl (t_X12_alike_310 K hl H D)
set_option maxRecDepth 10000 in
theorem t_X12_alike_261 {X : jX} {l : Launch} {n : Nat} {Y : jY} (K : jOK X RX12 cX12_alike 8 (some .int) 4) (hl : X.2.1 = l) {rr : Int32} {μr : jM} {v0 : Nat} {v1 : Int32} {v4 : Int32} {v5 : Int32} {μ : jM} {z : ((Int32 × Int32 × jM) ⊕ (Int32 × jM))} (H : b_X12_alike_261 Y v0 v1 v4 v5 μ = some z) (D : Sum.elim (fun (s : Int32 × Int32 × jM) => JW X (jEnd X n Y (some (.int rr)) μr 0 0) 0 0 n Y 261 [(0, .ref v0), (1, .int v1), (4, .int s.1), (5, .int s.2.1)] [] s.2.2) (fun r => r = (rr, μr)) z) : JW X (jEnd X n Y (some (.int rr)) μr 0 0) 0 0 n Y 261 [(0, .ref v0), (1, .int v1), (4, .int v4), (5, .int v5)] [] μ := by
  unfold b_X12_alike_261 at H
  refine r_iload K 3 dX12_alike_261 rfl ?_
  refine r_aload_n K 0 dX12_alike_263 rfl rfl ?_
  refine w_getO K vc12 inX12 26 (by decide) mF_RX12_48 dX12_alike_264 H (fun x1 H => ?_)
  refine r_iload_n K 1 dX12_alike_267 rfl rfl ?_
  refine w_iald K dX12_alike_268 H (fun x2 H => ?_)
  refine w_icmp_gt K 318 dX12_alike_269 (by decide) H (fun _ H => ?_) (fun _ H => ?_)
  · refine r_iload K 2 dX12_alike_318 rfl ?_
    refine w_if_eq K 327 dX12_alike_320 (by decide) H (fun _ H => ?_) (fun _ H => ?_)
    · refine r_iconst (v := 0) K dX12_alike_327 (by decide) ?_
      obtain ⟨z2, H2, rfl⟩ := jmap H
      exact r_sub [] rfl (t_X12_alike_328 K hl H2 D)
    · refine r_iconst (v := 1) K dX12_alike_323 (by decide) ?_
      refine r_goto K 328 dX12_alike_324 (by decide) ?_
      obtain ⟨z2, H2, rfl⟩ := jmap H
      exact r_sub [] rfl (t_X12_alike_328 K hl H2 D)
  · refine r_iload K 2 dX12_alike_272 rfl ?_
    refine w_if_eq K 309 dX12_alike_274 (by decide) H (fun _ H => ?_) (fun _ H => ?_)
    · exact r_sub [0, 1, 3] rfl (t_X12_alike_309 K hl H D)
    · refine r_aload_n K 0 dX12_alike_277 rfl rfl ?_
      refine w_getO K vc12 inX12 36 (by decide) mF_RX12_78 dX12_alike_278 H (fun x3 H => ?_)
      refine r_iload K 3 dX12_alike_281 rfl ?_
      refine w_lald K dX12_alike_283 H (fun x4 H => ?_)
      refine r_aload_n K 0 dX12_alike_284 rfl rfl ?_
      refine w_getO K vc12 inX12 35 (by decide) mF_RX12_75 dX12_alike_285 H (fun x5 H => ?_)
      refine r_bipush (v := 6) K dX12_alike_288 (by decide) ?_
      refine r_aload_n K 0 dX12_alike_290 rfl rfl ?_
      refine w_getO K vc12 inX12 26 (by decide) mF_RX12_48 dX12_alike_291 H (fun x6 H => ?_)
      refine r_iload_n K 1 dX12_alike_294 rfl rfl ?_
      refine w_iald K dX12_alike_295 H (fun x7 H => ?_)
      refine r_imul K dX12_alike_296 ?_
      refine r_iload K 3 dX12_alike_297 rfl ?_
      refine r_iadd K dX12_alike_299 ?_
      refine w_lald K dX12_alike_300 H (fun x8 H => ?_)
      refine r_lcmp K dX12_alike_301 ?_
      refine w_if_ne K 309 dX12_alike_302 (by decide) H (fun _ H => ?_) (fun _ H => ?_)
      · exact r_sub [0, 1, 3] rfl (t_X12_alike_309 K hl H D)
      · refine r_iconst (v := 1) K dX12_alike_305 (by decide) ?_
        refine r_goto K 310 dX12_alike_306 (by decide) ?_
        exact r_sub [0, 1, 3] rfl (t_X12_alike_310 K hl H D)
set_option maxRecDepth 10000 in
theorem l_X12_alike_261 {X : jX} {l : Launch} {n : Nat} {Y : jY} (K : jOK X RX12 cX12_alike 8 (some .int) 4) (hl : X.2.1 = l) {rr : Int32} {μr : jM} {v0 : Nat} {v1 : Int32}  {s0 : Int32 × Int32 × jM} {z : (Int32 × jM)} (H : jit jF (fun (s : Int32 × Int32 × jM) => b_X12_alike_261 Y v0 v1 s.1 s.2.1 s.2.2) s0 = some z) (D : z = (rr, μr)) : JW X (jEnd X n Y (some (.int rr)) μr 0 0) 0 0 n Y 261 [(0, .ref v0), (1, .int v1), (4, .int s0.1), (5, .int s0.2.1)] [] s0.2.2 :=
  jit_ind (P := fun (s : Int32 × Int32 × jM) => JW X (jEnd X n Y (some (.int rr)) μr 0 0) 0 0 n Y 261 [(0, .ref v0), (1, .int v1), (4, .int s.1), (5, .int s.2.1)] [] s.2.2) (D := fun r => r = (rr, μr)) (fun s z Hs Ds => t_X12_alike_261 K hl Hs Ds) jF s0 z H D
set_option maxRecDepth 10000 in
theorem t_X12_alike_211 {X : jX} {l : Launch} {n : Nat} {Y : jY} (K : jOK X RX12 cX12_alike 8 (some .int) 4) (hl : X.2.1 = l) {rr : Int32} {μr : jM} {v0 : Nat} {v1 : Int32} {v2 : Int32} {v4 : Int32} {v5 : Int32} {μ : jM} {z : ((Int32 × jM) ⊕ (Int32 × jM))} (H : b_X12_alike_211 Y v0 v1 v2 v4 v5 μ = some z) (D : Sum.elim (fun (s : Int32 × jM) => JW X (jEnd X n Y (some (.int rr)) μr 0 0) 0 0 n Y 211 [(0, .ref v0), (1, .int v1), (2, .int v2), (4, .int v4), (5, .int s.1)] [] s.2) (fun r => r = (rr, μr)) z) : JW X (jEnd X n Y (some (.int rr)) μr 0 0) 0 0 n Y 211 [(0, .ref v0), (1, .int v1), (2, .int v2), (4, .int v4), (5, .int v5)] [] μ := by
  unfold b_X12_alike_211 at H
  refine r_iload K 4 dX12_alike_211 rfl ?_
  refine r_aload_n K 0 dX12_alike_213 rfl rfl ?_
  refine w_getO K vc12 inX12 26 (by decide) mF_RX12_48 dX12_alike_214 H (fun x1 H => ?_)
  refine r_iload_n K 1 dX12_alike_217 rfl rfl ?_
  refine w_iald K dX12_alike_218 H (fun x2 H => ?_)
  refine w_icmp_gt K 252 dX12_alike_219 (by decide) H (fun _ H => ?_) (fun _ H => ?_)
  · refine r_aload_n K 0 dX12_alike_252 rfl rfl ?_
    refine r_iload_n K 2 dX12_alike_253 rfl rfl ?_
    refine r_iconst (v := 0) K dX12_alike_254 (by decide) ?_
    refine w_callV K hl H (fun r h => c_X12_laysPoly l h) mC_yX12_laysPoly mM_RX12_275 mI_yX12_laysPoly mS_yX12_laysPoly mZ_RX12 vc12 (Nat.le_of_ble_eq_true rfl) (Nat.le_of_ble_eq_true rfl) np_yX12_laysPoly rfl (Nat.le_of_ble_eq_true rfl) dX12_alike_255 (fun μ3 H => ?_) ⟨Nat.zero_le _, Nat.zero_le _⟩
    refine r_iconst (v := 0) K dX12_alike_258 (by decide) ?_
    refine r_istore K [(5, .int _), (0, .ref _), (1, .int _), (2, .int _), (4, .int _)] dX12_alike_259 (by decide) rfl ?_
    obtain ⟨z2, H2, rfl⟩ := jmap H
    exact r_sub [1, 2, 4, 0] rfl (l_X12_alike_261 K hl H2 D)
  · refine r_aload_n K 0 dX12_alike_222 rfl rfl ?_
    refine w_getO K vc12 inX12 36 (by decide) mF_RX12_78 dX12_alike_223 H (fun x4 H => ?_)
    refine r_iload K 4 dX12_alike_226 rfl ?_
    refine r_aload_n K 0 dX12_alike_228 rfl rfl ?_
    refine w_getO K vc12 inX12 35 (by decide) mF_RX12_75 dX12_alike_229 H (fun x5 H => ?_)
    refine r_bipush (v := 6) K dX12_alike_232 (by decide) ?_
    refine r_aload_n K 0 dX12_alike_234 rfl rfl ?_
    refine w_getO K vc12 inX12 26 (by decide) mF_RX12_48 dX12_alike_235 H (fun x6 H => ?_)
    refine r_iload_n K 1 dX12_alike_238 rfl rfl ?_
    refine w_iald K dX12_alike_239 H (fun x7 H => ?_)
    refine r_imul K dX12_alike_240 ?_
    refine r_iload K 4 dX12_alike_241 rfl ?_
    refine r_iadd K dX12_alike_243 ?_
    refine w_lald K dX12_alike_244 H (fun x8 H => ?_)
    refine w_last K dX12_alike_245 H (fun μ9 H => ?_)
    refine r_iinc K 4 [(5, .int _), (0, .ref _), (1, .int _), (2, .int _), (4, .int _)] (v := _ + (1 : Int32)) dX12_alike_246 rfl rfl (by decide) rfl ?_
    refine r_goto K 211 dX12_alike_249 (by decide) ?_
    cases H
    exact r_sub [1, 2, 3, 4, 0] rfl D
set_option maxRecDepth 10000 in
theorem l_X12_alike_211 {X : jX} {l : Launch} {n : Nat} {Y : jY} (K : jOK X RX12 cX12_alike 8 (some .int) 4) (hl : X.2.1 = l) {rr : Int32} {μr : jM} {v0 : Nat} {v1 : Int32} {v2 : Int32} {v4 : Int32}  {s0 : Int32 × jM} {z : (Int32 × jM)} (H : jit jF (fun (s : Int32 × jM) => b_X12_alike_211 Y v0 v1 v2 v4 s.1 s.2) s0 = some z) (D : z = (rr, μr)) : JW X (jEnd X n Y (some (.int rr)) μr 0 0) 0 0 n Y 211 [(0, .ref v0), (1, .int v1), (2, .int v2), (4, .int v4), (5, .int s0.1)] [] s0.2 :=
  jit_ind (P := fun (s : Int32 × jM) => JW X (jEnd X n Y (some (.int rr)) μr 0 0) 0 0 n Y 211 [(0, .ref v0), (1, .int v1), (2, .int v2), (4, .int v4), (5, .int s.1)] [] s.2) (D := fun r => r = (rr, μr)) (fun s z Hs Ds => t_X12_alike_211 K hl Hs Ds) jF s0 z H D
set_option maxRecDepth 10000 in
theorem t_X12_alike_198 {X : jX} {l : Launch} {n : Nat} {Y : jY} (K : jOK X RX12 cX12_alike 8 (some .int) 4) (hl : X.2.1 = l) {rr : Int32} {μr : jM} {t0 : Int32} {μ : jM} {z : (Int32 × jM)} (H : b_X12_alike_198 Y t0 μ = some z) (D : z = (rr, μr)) : JW X (jEnd X n Y (some (.int rr)) μr 0 0) 0 0 n Y 198 [] [.int t0] μ := by
  unfold b_X12_alike_198 at H
  cases H
  obtain ⟨rfl, rfl⟩ := jfin2 D
  exact r_iret K dX12_alike_198
set_option maxRecDepth 10000 in
theorem t_X12_alike_150 {X : jX} {l : Launch} {n : Nat} {Y : jY} (K : jOK X RX12 cX12_alike 8 (some .int) 4) (hl : X.2.1 = l) {rr : Int32} {μr : jM} {v0 : Nat} {v1 : Int32} {v2 : Int32} {v5 : Int32} {t0 : Int32} {t1 : Int32} {μ : jM} {z : ((Int32 × Int32 × jM) ⊕ (Int32 × jM))} (H : b_X12_alike_150 Y v0 v1 v2 v5 t0 t1 μ = some z) (D : Sum.elim (fun (s : Int32 × Int32 × jM) => JW X (jEnd X n Y (some (.int rr)) μr 0 0) 0 0 n Y 57 [(0, .ref v0), (1, .int v1), (2, .int v2), (4, .int s.1), (5, .int s.2.1)] [] s.2.2) (fun r => r = (rr, μr)) z) : JW X (jEnd X n Y (some (.int rr)) μr 0 0) 0 0 n Y 150 [(0, .ref v0), (1, .int v1), (2, .int v2), (5, .int v5)] [.int t1, .int t0] μ := by
  unfold b_X12_alike_150 at H
  refine r_iadd K dX12_alike_150 ?_
  refine r_istore K [(4, .int _), (0, .ref _), (1, .int _), (2, .int _), (5, .int _)] dX12_alike_151 (by decide) rfl ?_
  refine r_iinc K 4 [(5, .int _), (4, .int _), (0, .ref _), (1, .int _), (2, .int _)] (v := _ + (1 : Int32)) dX12_alike_153 rfl rfl (by decide) rfl ?_
  refine r_goto K 57 dX12_alike_156 (by decide) ?_
  cases H
  exact r_sub [2, 3, 4, 1, 0] rfl D
set_option maxRecDepth 10000 in
theorem t_X12_alike_130 {X : jX} {l : Launch} {n : Nat} {Y : jY} (K : jOK X RX12 cX12_alike 8 (some .int) 4) (hl : X.2.1 = l) {rr : Int32} {μr : jM} {v0 : Nat} {v1 : Int32} {v2 : Int32} {v4 : Int32} {v5 : Int32} {v7 : Int32} {t0 : Int32} {μ : jM} {z : ((Int32 × Int32 × jM) ⊕ ((Int32 × Int32 × jM) ⊕ (Int32 × jM)))} (H : b_X12_alike_130 Y v0 v1 v2 v4 v5 v7 t0 μ = some z) (D : Sum.elim (fun (s : Int32 × Int32 × jM) => JW X (jEnd X n Y (some (.int rr)) μr 0 0) 0 0 n Y 74 [(0, .ref v0), (1, .int v1), (2, .int v2), (4, .int v4), (5, .int v5), (6, .int s.1), (7, .int s.2.1)] [] s.2.2) (Sum.elim (fun (s : Int32 × Int32 × jM) => JW X (jEnd X n Y (some (.int rr)) μr 0 0) 0 0 n Y 57 [(0, .ref v0), (1, .int v1), (2, .int v2), (4, .int s.1), (5, .int s.2.1)] [] s.2.2) (fun r => r = (rr, μr))) z) : JW X (jEnd X n Y (some (.int rr)) μr 0 0) 0 0 n Y 130 [(0, .ref v0), (1, .int v1), (2, .int v2), (4, .int v4), (5, .int v5), (7, .int v7)] [.int t0] μ := by
  unfold b_X12_alike_130 at H
  refine r_istore K [(6, .int _), (0, .ref _), (1, .int _), (2, .int _), (4, .int _), (5, .int _), (7, .int _)] dX12_alike_130 (by decide) rfl ?_
  refine r_iinc K 6 [(7, .int _), (6, .int _), (0, .ref _), (1, .int _), (2, .int _), (4, .int _), (5, .int _)] (v := _ + (1 : Int32)) dX12_alike_132 rfl rfl (by decide) rfl ?_
  refine r_goto K 74 dX12_alike_135 (by decide) ?_
  cases H
  exact r_sub [2, 3, 4, 5, 6, 1, 0] rfl D
set_option maxRecDepth 10000 in
theorem t_X12_alike_125 {X : jX} {l : Launch} {n : Nat} {Y : jY} (K : jOK X RX12 cX12_alike 8 (some .int) 4) (hl : X.2.1 = l) {rr : Int32} {μr : jM} {v0 : Nat} {v1 : Int32} {v2 : Int32} {v4 : Int32} {v5 : Int32} {v7 : Int32} {μ : jM} {z : ((Int32 × Int32 × jM) ⊕ ((Int32 × Int32 × jM) ⊕ (Int32 × jM)))} (H : b_X12_alike_125 Y v0 v1 v2 v4 v5 v7 μ = some z) (D : Sum.elim (fun (s : Int32 × Int32 × jM) => JW X (jEnd X n Y (some (.int rr)) μr 0 0) 0 0 n Y 74 [(0, .ref v0), (1, .int v1), (2, .int v2), (4, .int v4), (5, .int v5), (6, .int s.1), (7, .int s.2.1)] [] s.2.2) (Sum.elim (fun (s : Int32 × Int32 × jM) => JW X (jEnd X n Y (some (.int rr)) μr 0 0) 0 0 n Y 57 [(0, .ref v0), (1, .int v1), (2, .int v2), (4, .int s.1), (5, .int s.2.1)] [] s.2.2) (fun r => r = (rr, μr))) z) : JW X (jEnd X n Y (some (.int rr)) μr 0 0) 0 0 n Y 125 [(0, .ref v0), (1, .int v1), (2, .int v2), (4, .int v4), (5, .int v5), (7, .int v7)] [] μ := by
  unfold b_X12_alike_125 at H
  refine r_iconst (v := 1) K dX12_alike_125 (by decide) ?_
  refine r_goto K 130 dX12_alike_126 (by decide) ?_
  exact r_sub [0, 1, 2, 3, 4, 5] rfl (t_X12_alike_130 K hl H D)
set_option maxRecDepth 10000 in
theorem t_X12_alike_74 {X : jX} {l : Launch} {n : Nat} {Y : jY} (K : jOK X RX12 cX12_alike 8 (some .int) 4) (hl : X.2.1 = l) {rr : Int32} {μr : jM} {v0 : Nat} {v1 : Int32} {v2 : Int32} {v4 : Int32} {v5 : Int32} {v6 : Int32} {v7 : Int32} {μ : jM} {z : ((Int32 × Int32 × jM) ⊕ ((Int32 × Int32 × jM) ⊕ (Int32 × jM)))} (H : b_X12_alike_74 Y v0 v1 v2 v4 v5 v6 v7 μ = some z) (D : Sum.elim (fun (s : Int32 × Int32 × jM) => JW X (jEnd X n Y (some (.int rr)) μr 0 0) 0 0 n Y 74 [(0, .ref v0), (1, .int v1), (2, .int v2), (4, .int v4), (5, .int v5), (6, .int s.1), (7, .int s.2.1)] [] s.2.2) (Sum.elim (fun (s : Int32 × Int32 × jM) => JW X (jEnd X n Y (some (.int rr)) μr 0 0) 0 0 n Y 57 [(0, .ref v0), (1, .int v1), (2, .int v2), (4, .int s.1), (5, .int s.2.1)] [] s.2.2) (fun r => r = (rr, μr))) z) : JW X (jEnd X n Y (some (.int rr)) μr 0 0) 0 0 n Y 74 [(0, .ref v0), (1, .int v1), (2, .int v2), (4, .int v4), (5, .int v5), (6, .int v6), (7, .int v7)] [] μ := by
  unfold b_X12_alike_74 at H
  refine r_iload K 6 dX12_alike_74 rfl ?_
  refine r_aload_n K 0 dX12_alike_76 rfl rfl ?_
  refine w_getO K vc12 inX12 26 (by decide) mF_RX12_48 dX12_alike_77 H (fun x1 H => ?_)
  refine r_iload_n K 2 dX12_alike_80 rfl rfl ?_
  refine w_iald K dX12_alike_81 H (fun x2 H => ?_)
  refine w_icmp_ge K 138 dX12_alike_82 (by decide) H (fun _ H => ?_) (fun _ H => ?_)
  · refine r_iload K 3 dX12_alike_138 rfl ?_
    refine r_iload K 5 dX12_alike_140 rfl ?_
    refine w_if_eq K 149 dX12_alike_142 (by decide) H (fun _ H => ?_) (fun _ H => ?_)
    · refine r_iconst (v := 0) K dX12_alike_149 (by decide) ?_
      obtain ⟨z2, H2, rfl⟩ := jmap H
      exact r_sub [0, 1, 2, 4] rfl (t_X12_alike_150 K hl H2 D)
    · refine r_iconst (v := 1) K dX12_alike_145 (by decide) ?_
      refine r_goto K 150 dX12_alike_146 (by decide) ?_
      obtain ⟨z2, H2, rfl⟩ := jmap H
      exact r_sub [0, 1, 2, 4] rfl (t_X12_alike_150 K hl H2 D)
  · refine r_iload K 5 dX12_alike_85 rfl ?_
    refine w_if_ne K 125 dX12_alike_87 (by decide) H (fun _ H => ?_) (fun _ H => ?_)
    · exact r_sub [0, 1, 2, 3, 4, 6] rfl (t_X12_alike_125 K hl H D)
    · refine r_aload_n K 0 dX12_alike_90 rfl rfl ?_
      refine r_iload_n K 1 dX12_alike_91 rfl rfl ?_
      refine r_iconst (v := 0) K dX12_alike_92 (by decide) ?_
      refine r_aload_n K 0 dX12_alike_93 rfl rfl ?_
      refine w_getO K vc12 inX12 26 (by decide) mF_RX12_48 dX12_alike_94 H (fun x3 H => ?_)
      refine r_iload_n K 1 dX12_alike_97 rfl rfl ?_
      refine w_iald K dX12_alike_98 H (fun x4 H => ?_)
      refine r_iload K 4 dX12_alike_99 rfl ?_
      refine r_bipush (v := 50) K dX12_alike_101 (by decide) ?_
      refine w_callV K hl H (fun r h => c_X12_rootOf l h) mC_yX12_rootOf mM_RX12_289 mI_yX12_rootOf mS_yX12_rootOf mZ_RX12 vc12 (Nat.le_of_ble_eq_true rfl) (Nat.le_of_ble_eq_true rfl) np_yX12_rootOf rfl (Nat.le_of_ble_eq_true rfl) dX12_alike_103 (fun r5 H => ?_) ⟨Nat.zero_le _, Nat.zero_le _⟩
      refine r_aload_n K 0 dX12_alike_106 rfl rfl ?_
      refine r_iload_n K 2 dX12_alike_107 rfl rfl ?_
      refine r_iconst (v := 0) K dX12_alike_108 (by decide) ?_
      refine r_aload_n K 0 dX12_alike_109 rfl rfl ?_
      refine w_getO K vc12 inX12 26 (by decide) mF_RX12_48 dX12_alike_110 H (fun x6 H => ?_)
      refine r_iload_n K 2 dX12_alike_113 rfl rfl ?_
      refine w_iald K dX12_alike_114 H (fun x7 H => ?_)
      refine r_iload K 6 dX12_alike_115 rfl ?_
      refine r_bipush (v := 50) K dX12_alike_117 (by decide) ?_
      refine w_callV K hl H (fun r h => c_X12_rootOf l h) mC_yX12_rootOf mM_RX12_289 mI_yX12_rootOf mS_yX12_rootOf mZ_RX12 vc12 (Nat.le_of_ble_eq_true rfl) (Nat.le_of_ble_eq_true rfl) np_yX12_rootOf rfl (Nat.le_of_ble_eq_true rfl) dX12_alike_119 (fun r8 H => ?_) ⟨Nat.zero_le _, Nat.zero_le _⟩
      refine w_icmp_ne K 129 dX12_alike_122 (by decide) H (fun _ H => ?_) (fun _ H => ?_)
      · refine r_iconst (v := 0) K dX12_alike_129 (by decide) ?_
        exact r_sub [0, 1, 2, 3, 4, 6] rfl (t_X12_alike_130 K hl H D)
      · exact r_sub [0, 1, 2, 3, 4, 6] rfl (t_X12_alike_125 K hl H D)
set_option maxRecDepth 10000 in
theorem l_X12_alike_74 {X : jX} {l : Launch} {n : Nat} {Y : jY} (K : jOK X RX12 cX12_alike 8 (some .int) 4) (hl : X.2.1 = l) {rr : Int32} {μr : jM} {v0 : Nat} {v1 : Int32} {v2 : Int32} {v4 : Int32} {v5 : Int32}  {s0 : Int32 × Int32 × jM} {z : ((Int32 × Int32 × jM) ⊕ (Int32 × jM))} (H : jit jF (fun (s : Int32 × Int32 × jM) => b_X12_alike_74 Y v0 v1 v2 v4 v5 s.1 s.2.1 s.2.2) s0 = some z) (D : Sum.elim (fun (s : Int32 × Int32 × jM) => JW X (jEnd X n Y (some (.int rr)) μr 0 0) 0 0 n Y 57 [(0, .ref v0), (1, .int v1), (2, .int v2), (4, .int s.1), (5, .int s.2.1)] [] s.2.2) (fun r => r = (rr, μr)) z) : JW X (jEnd X n Y (some (.int rr)) μr 0 0) 0 0 n Y 74 [(0, .ref v0), (1, .int v1), (2, .int v2), (4, .int v4), (5, .int v5), (6, .int s0.1), (7, .int s0.2.1)] [] s0.2.2 :=
  jit_ind (P := fun (s : Int32 × Int32 × jM) => JW X (jEnd X n Y (some (.int rr)) μr 0 0) 0 0 n Y 74 [(0, .ref v0), (1, .int v1), (2, .int v2), (4, .int v4), (5, .int v5), (6, .int s.1), (7, .int s.2.1)] [] s.2.2) (D := Sum.elim (fun (s : Int32 × Int32 × jM) => JW X (jEnd X n Y (some (.int rr)) μr 0 0) 0 0 n Y 57 [(0, .ref v0), (1, .int v1), (2, .int v2), (4, .int s.1), (5, .int s.2.1)] [] s.2.2) (fun r => r = (rr, μr))) (fun s z Hs Ds => t_X12_alike_74 K hl Hs Ds) jF s0 z H D
set_option maxRecDepth 10000 in
theorem t_X12_alike_57 {X : jX} {l : Launch} {n : Nat} {Y : jY} (K : jOK X RX12 cX12_alike 8 (some .int) 4) (hl : X.2.1 = l) {rr : Int32} {μr : jM} {v0 : Nat} {v1 : Int32} {v2 : Int32} {v4 : Int32} {v5 : Int32} {μ : jM} {z : ((Int32 × Int32 × jM) ⊕ (Int32 × jM))} (H : b_X12_alike_57 Y v0 v1 v2 v4 v5 μ = some z) (D : Sum.elim (fun (s : Int32 × Int32 × jM) => JW X (jEnd X n Y (some (.int rr)) μr 0 0) 0 0 n Y 57 [(0, .ref v0), (1, .int v1), (2, .int v2), (4, .int s.1), (5, .int s.2.1)] [] s.2.2) (fun r => r = (rr, μr)) z) : JW X (jEnd X n Y (some (.int rr)) μr 0 0) 0 0 n Y 57 [(0, .ref v0), (1, .int v1), (2, .int v2), (4, .int v4), (5, .int v5)] [] μ := by
  unfold b_X12_alike_57 at H
  refine r_iload K 4 dX12_alike_57 rfl ?_
  refine r_aload_n K 0 dX12_alike_59 rfl rfl ?_
  refine w_getO K vc12 inX12 26 (by decide) mF_RX12_48 dX12_alike_60 H (fun x1 H => ?_)
  refine r_iload_n K 1 dX12_alike_63 rfl rfl ?_
  refine w_iald K dX12_alike_64 H (fun x2 H => ?_)
  refine w_icmp_ge K 159 dX12_alike_65 (by decide) H (fun _ H => ?_) (fun _ H => ?_)
  · refine r_iload K 3 dX12_alike_159 rfl ?_
    cases H
    simp only [Sum.elim_inr] at D
    obtain ⟨rfl, rfl⟩ := jfin2 D
    exact r_iret K dX12_alike_161
  · refine r_iconst (v := 0) K dX12_alike_68 (by decide) ?_
    refine r_istore K [(6, .int _), (0, .ref _), (1, .int _), (2, .int _), (4, .int _), (5, .int _)] dX12_alike_69 (by decide) rfl ?_
    refine r_iconst (v := 0) K dX12_alike_71 (by decide) ?_
    refine r_istore K [(7, .int _), (6, .int _), (0, .ref _), (1, .int _), (2, .int _), (4, .int _), (5, .int _)] dX12_alike_72 (by decide) rfl ?_
    exact r_sub [2, 3, 4, 5, 6, 1, 0] rfl (l_X12_alike_74 K hl H D)
set_option maxRecDepth 10000 in
theorem l_X12_alike_57 {X : jX} {l : Launch} {n : Nat} {Y : jY} (K : jOK X RX12 cX12_alike 8 (some .int) 4) (hl : X.2.1 = l) {rr : Int32} {μr : jM} {v0 : Nat} {v1 : Int32} {v2 : Int32}  {s0 : Int32 × Int32 × jM} {z : (Int32 × jM)} (H : jit jF (fun (s : Int32 × Int32 × jM) => b_X12_alike_57 Y v0 v1 v2 s.1 s.2.1 s.2.2) s0 = some z) (D : z = (rr, μr)) : JW X (jEnd X n Y (some (.int rr)) μr 0 0) 0 0 n Y 57 [(0, .ref v0), (1, .int v1), (2, .int v2), (4, .int s0.1), (5, .int s0.2.1)] [] s0.2.2 :=
  jit_ind (P := fun (s : Int32 × Int32 × jM) => JW X (jEnd X n Y (some (.int rr)) μr 0 0) 0 0 n Y 57 [(0, .ref v0), (1, .int v1), (2, .int v2), (4, .int s.1), (5, .int s.2.1)] [] s.2.2) (D := fun r => r = (rr, μr)) (fun s z Hs Ds => t_X12_alike_57 K hl Hs Ds) jF s0 z H D
set_option maxRecDepth 10000 in
theorem t_X12_alike_0 {X : jX} {l : Launch} {n : Nat} {Y : jY} (K : jOK X RX12 cX12_alike 8 (some .int) 4) (hl : X.2.1 = l) {rr : Int32} {μr : jM} {v0 : Nat} {v1 : Int32} {v2 : Int32} {v3 : Int32} {μ : jM} {z : (Int32 × jM)} (H : f_X12_alike Y v0 v1 v2 v3 μ = some z) (D : z = (rr, μr)) : JW X (jEnd X n Y (some (.int rr)) μr 0 0) 0 0 n Y 0 [(0, .ref v0), (1, .int v1), (2, .int v2), (3, .int v3)] [] μ := by
  unfold f_X12_alike at H
  refine r_iload_n K 1 dX12_alike_0 rfl rfl ?_
  refine w_callS K hl H (fun r h => c_X12_isDrawer l h) mC_yX12_isDrawer mM_RX12_253 mT_yX12_isDrawer mZ_RX12 (Nat.le_of_ble_eq_true rfl) (Nat.le_of_ble_eq_true rfl) np_yX12_isDrawer rfl (Nat.le_of_ble_eq_true rfl) dX12_alike_1 (fun r1 H => ?_) ⟨Nat.zero_le _, Nat.zero_le _⟩
  refine w_if_eq K 23 dX12_alike_4 (by decide) H (fun _ H => ?_) (fun _ H => ?_)
  · exact r_sub [] rfl (t_X12_alike_23 K hl H D)
  · refine r_iload_n K 2 dX12_alike_7 rfl rfl ?_
    refine w_callS K hl H (fun r h => c_X12_isDrawer l h) mC_yX12_isDrawer mM_RX12_253 mT_yX12_isDrawer mZ_RX12 (Nat.le_of_ble_eq_true rfl) (Nat.le_of_ble_eq_true rfl) np_yX12_isDrawer rfl (Nat.le_of_ble_eq_true rfl) dX12_alike_8 (fun r2 H => ?_) ⟨Nat.zero_le _, Nat.zero_le _⟩
    refine w_if_eq K 23 dX12_alike_11 (by decide) H (fun _ H => ?_) (fun _ H => ?_)
    · exact r_sub [] rfl (t_X12_alike_23 K hl H D)
    · refine r_iload_n K 3 dX12_alike_14 rfl rfl ?_
      refine r_iconst (v := 0) K dX12_alike_15 (by decide) ?_
      refine r_iconst (v := 2) K dX12_alike_16 (by decide) ?_
      refine w_callS K hl H (fun r h => c_X12_in l h) mC_yX12_in mM_RX12_134 mT_yX12_in mZ_RX12 (Nat.le_of_ble_eq_true rfl) (Nat.le_of_ble_eq_true rfl) np_yX12_in rfl (Nat.le_of_ble_eq_true rfl) dX12_alike_17 (fun r3 H => ?_) ⟨Nat.zero_le _, Nat.zero_le _⟩
      refine w_if_ne K 25 dX12_alike_20 (by decide) H (fun _ H => ?_) (fun _ H => ?_)
      · refine r_aload_n K 0 dX12_alike_25 rfl rfl ?_
        refine w_getO K vc12 inX12 26 (by decide) mF_RX12_48 dX12_alike_26 H (fun x4 H => ?_)
        refine r_iload_n K 1 dX12_alike_29 rfl rfl ?_
        refine w_iald K dX12_alike_30 H (fun x5 H => ?_)
        refine w_if_eq K 43 dX12_alike_31 (by decide) H (fun _ H => ?_) (fun _ H => ?_)
        · exact r_sub [] rfl (t_X12_alike_43 K hl H D)
        · refine r_aload_n K 0 dX12_alike_34 rfl rfl ?_
          refine w_getO K vc12 inX12 26 (by decide) mF_RX12_48 dX12_alike_35 H (fun x6 H => ?_)
          refine r_iload_n K 2 dX12_alike_38 rfl rfl ?_
          refine w_iald K dX12_alike_39 H (fun x7 H => ?_)
          refine w_if_ne K 46 dX12_alike_40 (by decide) H (fun _ H => ?_) (fun _ H => ?_)
          · refine r_iload_n K 3 dX12_alike_46 rfl rfl ?_
            refine r_iconst (v := 2) K dX12_alike_47 (by decide) ?_
            refine w_icmp_ne K 162 dX12_alike_48 (by decide) H (fun _ H => ?_) (fun _ H => ?_)
            · refine r_aload_n K 0 dX12_alike_162 rfl rfl ?_
              refine w_getO K vc12 inX12 26 (by decide) mF_RX12_48 dX12_alike_163 H (fun x8 H => ?_)
              refine r_iload_n K 1 dX12_alike_166 rfl rfl ?_
              refine w_iald K dX12_alike_167 H (fun x9 H => ?_)
              refine r_aload_n K 0 dX12_alike_168 rfl rfl ?_
              refine w_getO K vc12 inX12 26 (by decide) mF_RX12_48 dX12_alike_169 H (fun x10 H => ?_)
              refine r_iload_n K 2 dX12_alike_172 rfl rfl ?_
              refine w_iald K dX12_alike_173 H (fun x11 H => ?_)
              refine w_icmp_eq K 179 dX12_alike_174 (by decide) H (fun _ H => ?_) (fun _ H => ?_)
              · refine r_iload_n K 3 dX12_alike_179 rfl rfl ?_
                refine r_iconst (v := 1) K dX12_alike_180 (by decide) ?_
                refine w_icmp_ne K 199 dX12_alike_181 (by decide) H (fun _ H => ?_) (fun _ H => ?_)
                · refine r_iconst (v := 1) K dX12_alike_199 (by decide) ?_
                  refine r_istore K [(4, .int _), (0, .ref _), (1, .int _), (2, .int _), (3, .int _)] dX12_alike_200 (by decide) rfl ?_
                  refine r_aload_n K 1 dX12_alike_202 rfl rfl ?_
                  refine r_iload_n K 2 dX12_alike_203 rfl rfl ?_
                  refine r_iconst (v := 0) K dX12_alike_204 (by decide) ?_
                  refine w_callV K hl H (fun r h => c_X12_laysPoly l h) mC_yX12_laysPoly mM_RX12_275 mI_yX12_laysPoly mS_yX12_laysPoly mZ_RX12 vc12 (Nat.le_of_ble_eq_true rfl) (Nat.le_of_ble_eq_true rfl) np_yX12_laysPoly rfl (Nat.le_of_ble_eq_true rfl) dX12_alike_205 (fun μ12 H => ?_) ⟨Nat.zero_le _, Nat.zero_le _⟩
                  refine r_iconst (v := 0) K dX12_alike_208 (by decide) ?_
                  refine r_istore K [(5, .int _), (4, .int _), (0, .ref _), (1, .int _), (2, .int _), (3, .int _)] dX12_alike_209 (by decide) rfl ?_
                  exact r_sub [2, 3, 4, 1, 0] rfl (l_X12_alike_211 K hl H D)
                · refine r_aload_n K 0 dX12_alike_184 rfl rfl ?_
                  refine r_iload_n K 1 dX12_alike_185 rfl rfl ?_
                  refine r_iload_n K 2 dX12_alike_186 rfl rfl ?_
                  refine w_callV K hl H (fun r h => c_X12_isTurned l h) mC_yX12_isTurned mM_RX12_296 mI_yX12_isTurned mS_yX12_isTurned mZ_RX12 vc12 (Nat.le_of_ble_eq_true rfl) (Nat.le_of_ble_eq_true rfl) np_yX12_isTurned rfl (Nat.le_of_ble_eq_true rfl) dX12_alike_187 (fun r13 H => ?_) ⟨Nat.zero_le _, Nat.zero_le _⟩
                  refine w_if_eq K 197 dX12_alike_190 (by decide) H (fun _ H => ?_) (fun _ H => ?_)
                  · refine r_iconst (v := 0) K dX12_alike_197 (by decide) ?_
                    exact r_sub [] rfl (t_X12_alike_198 K hl H D)
                  · refine r_iconst (v := 1) K dX12_alike_193 (by decide) ?_
                    refine r_goto K 198 dX12_alike_194 (by decide) ?_
                    exact r_sub [] rfl (t_X12_alike_198 K hl H D)
              · refine r_iconst (v := 0) K dX12_alike_177 (by decide) ?_
                cases H
                obtain ⟨rfl, rfl⟩ := jfin2 D
                exact r_iret K dX12_alike_178
            · refine r_iconst (v := 0) K dX12_alike_51 (by decide) ?_
              refine r_istore K [(4, .int _), (0, .ref _), (1, .int _), (2, .int _), (3, .int _)] dX12_alike_52 (by decide) rfl ?_
              refine r_iconst (v := 0) K dX12_alike_54 (by decide) ?_
              refine r_istore K [(5, .int _), (4, .int _), (0, .ref _), (1, .int _), (2, .int _), (3, .int _)] dX12_alike_55 (by decide) rfl ?_
              exact r_sub [2, 3, 4, 1, 0] rfl (l_X12_alike_57 K hl H D)
          · exact r_sub [] rfl (t_X12_alike_43 K hl H D)
      · exact r_sub [] rfl (t_X12_alike_23 K hl H D)
theorem c_X12_alike (l : Launch) {n : Nat} {Y : jY} {v0 : Nat} {v1 : Int32} {v2 : Int32} {v3 : Int32} {μ : jM} {z : Int32 × jM} (H : f_X12_alike Y v0 v1 v2 v3 μ = some z) : jC l yX12_alike cX12_alike 8 (some .int) 4 0 0 [.ref v0, .int v1, .int v2, .int v3] n Y μ n Y (some (.int z.1)) z.2 := by
  refine jC_of (by decide +kernel) (Nat.le_of_ble_eq_true rfl) (fun X hl K _ _ _ => ?_)
  obtain ⟨rr, μr⟩ := z
  exact t_X12_alike_0 K hl H rfl
/-! RX12 byteAt(I)I -/
def b_X12_byteAt_22 (Y : jY) (t0 : Int32) (μ : jM) : Option (Int32 × jM) :=
  some (t0, μ)
def f_X12_byteAt (Y : jY) (v0 : Nat) (v1 : Int32) (μ : jM) : Option (Int32 × jM) :=
  (jgI Y μ v0 12 3).bind fun x1 =>
  if x1 ≤ v1 then
    b_X12_byteAt_22 Y (-1 : Int32) μ
  else
    (jgO Y μ v0 12 0).bind fun x2 =>
    (jaI Y μ x2 22 v1).bind fun x3 =>
    b_X12_byteAt_22 Y (x3 &&& ((255 : Int32))) μ
set_option maxRecDepth 10000 in
theorem t_X12_byteAt_22 {X : jX} {l : Launch} {n : Nat} {Y : jY} (K : jOK X RX12 cX12_byteAt 2 (some .int) 1) (hl : X.2.1 = l) {rr : Int32} {μr : jM} {t0 : Int32} {μ : jM} {z : (Int32 × jM)} (H : b_X12_byteAt_22 Y t0 μ = some z) (D : z = (rr, μr)) : JW X (jEnd X n Y (some (.int rr)) μr 0 0) 0 0 n Y 22 [] [.int t0] μ := by
  unfold b_X12_byteAt_22 at H
  cases H
  obtain ⟨rfl, rfl⟩ := jfin2 D
  exact r_iret K dX12_byteAt_22
set_option maxRecDepth 10000 in
theorem t_X12_byteAt_0 {X : jX} {l : Launch} {n : Nat} {Y : jY} (K : jOK X RX12 cX12_byteAt 2 (some .int) 1) (hl : X.2.1 = l) {rr : Int32} {μr : jM} {v0 : Nat} {v1 : Int32} {μ : jM} {z : (Int32 × jM)} (H : f_X12_byteAt Y v0 v1 μ = some z) (D : z = (rr, μr)) : JW X (jEnd X n Y (some (.int rr)) μr 0 0) 0 0 n Y 0 [(0, .ref v0), (1, .int v1)] [] μ := by
  unfold f_X12_byteAt at H
  refine r_iload_n K 1 dX12_byteAt_0 rfl rfl ?_
  refine r_aload_n K 0 dX12_byteAt_1 rfl rfl ?_
  refine w_getI K vc12 inX12 3 (by decide) mF_RX12_101 dX12_byteAt_2 H (fun x1 H => ?_)
  refine w_icmp_ge K 21 dX12_byteAt_5 (by decide) H (fun _ H => ?_) (fun _ H => ?_)
  · refine r_iconst (v := -1) K dX12_byteAt_21 (by decide) ?_
    exact r_sub [] rfl (t_X12_byteAt_22 K hl H D)
  · refine r_aload_n K 0 dX12_byteAt_8 rfl rfl ?_
    refine w_getO K vc12 inX12 0 (by decide) mF_RX12_7 dX12_byteAt_9 H (fun x2 H => ?_)
    refine r_iload_n K 1 dX12_byteAt_12 rfl rfl ?_
    refine w_bald K dX12_byteAt_13 H (fun x3 H => ?_)
    refine r_sipush (v := 255) K dX12_byteAt_14 (by decide) ?_
    refine r_iand K dX12_byteAt_17 ?_
    refine r_goto K 22 dX12_byteAt_18 (by decide) ?_
    exact r_sub [] rfl (t_X12_byteAt_22 K hl H D)
theorem c_X12_byteAt (l : Launch) {n : Nat} {Y : jY} {v0 : Nat} {v1 : Int32} {μ : jM} {z : Int32 × jM} (H : f_X12_byteAt Y v0 v1 μ = some z) : jC l yX12_byteAt cX12_byteAt 2 (some .int) 1 0 0 [.ref v0, .int v1] n Y μ n Y (some (.int z.1)) z.2 := by
  refine jC_of (by decide +kernel) (Nat.le_of_ble_eq_true rfl) (fun X hl K _ _ _ => ?_)
  obtain ⟨rr, μr⟩ := z
  exact t_X12_byteAt_0 K hl H rfl
/-! RX12 below(IIII)I -/
def b_X12_below_54 (Y : jY) (μ : jM) : Option (Int32 × jM) :=
  some ((-1 : Int32), μ)
def b_X12_below_80 (Y : jY) (t0 : Int32) (μ : jM) : Option (Int32 × jM) :=
  some (t0, μ)
def b_X12_below_30 (Y : jY) (v0 : Nat) (v1 : Int32) (v2 : Int32) (v3 : Int32) (v4 : Int32) (μ : jM) : Option (Int32 × jM) :=
  (f_X12_in Y v3 ((-1000 : Int32)) ((1000 : Int32)) μ).bind fun r1 =>
  if r1.1 = 0 then
    b_X12_below_54 Y r1.2
  else
    (f_X12_in Y v4 ((1 : Int32)) ((50 : Int32)) r1.2).bind fun r2 =>
    if r2.1 = 0 then
      b_X12_below_54 Y r2.2
    else
      (jgO Y r2.2 v0 12 26).bind fun x3 =>
      (jaI Y r2.2 x3 20 v1).bind fun x4 =>
      if x4 = 0 then
        b_X12_below_80 Y (-2 : Int32) r2.2
      else
        (jrcv Y v0 12 (f_X12_belowOf Y v0 v1 ((0 : Int32)) v2 v3 v4 r2.2)).bind fun r5 =>
        b_X12_below_80 Y r5.1 r5.2
def f_X12_below (Y : jY) (v0 : Nat) (v1 : Int32) (v2 : Int32) (v3 : Int32) (v4 : Int32) (μ : jM) : Option (Int32 × jM) :=
  (f_X12_isDrawer Y v1 μ).bind fun r1 =>
  if r1.1 = 0 then
    b_X12_below_54 Y r1.2
  else
    (jgO Y r1.2 v0 12 26).bind fun x2 =>
    (jaI Y r1.2 x2 20 v1).bind fun x3 =>
    if x3 ≤ 0 then
      b_X12_below_30 Y v0 v1 v2 v3 v4 r1.2
    else
      (jgO Y r1.2 v0 12 26).bind fun x4 =>
      (jaI Y r1.2 x4 20 v1).bind fun x5 =>
      (f_X12_in Y v2 ((1 : Int32)) x5 r1.2).bind fun r6 =>
      if r6.1 = 0 then
        b_X12_below_54 Y r6.2
      else
        b_X12_below_30 Y v0 v1 v2 v3 v4 r6.2
set_option maxRecDepth 10000 in
theorem t_X12_below_54 {X : jX} {l : Launch} {n : Nat} {Y : jY} (K : jOK X RX12 cX12_below 5 (some .int) 3) (hl : X.2.1 = l) {rr : Int32} {μr : jM} {μ : jM} {z : (Int32 × jM)} (H : b_X12_below_54 Y μ = some z) (D : z = (rr, μr)) : JW X (jEnd X n Y (some (.int rr)) μr 0 0) 0 0 n Y 54 [] [] μ := by
  unfold b_X12_below_54 at H
  refine r_iconst (v := -1) K dX12_below_54 (by decide) ?_
  cases H
  obtain ⟨rfl, rfl⟩ := jfin2 D
  exact r_iret K dX12_below_55
set_option maxRecDepth 10000 in
theorem t_X12_below_80 {X : jX} {l : Launch} {n : Nat} {Y : jY} (K : jOK X RX12 cX12_below 5 (some .int) 3) (hl : X.2.1 = l) {rr : Int32} {μr : jM} {t0 : Int32} {μ : jM} {z : (Int32 × jM)} (H : b_X12_below_80 Y t0 μ = some z) (D : z = (rr, μr)) : JW X (jEnd X n Y (some (.int rr)) μr 0 0) 0 0 n Y 80 [] [.int t0] μ := by
  unfold b_X12_below_80 at H
  cases H
  obtain ⟨rfl, rfl⟩ := jfin2 D
  exact r_iret K dX12_below_80
set_option maxRecDepth 10000 in
theorem t_X12_below_30 {X : jX} {l : Launch} {n : Nat} {Y : jY} (K : jOK X RX12 cX12_below 5 (some .int) 3) (hl : X.2.1 = l) {rr : Int32} {μr : jM} {v0 : Nat} {v1 : Int32} {v2 : Int32} {v3 : Int32} {v4 : Int32} {μ : jM} {z : (Int32 × jM)} (H : b_X12_below_30 Y v0 v1 v2 v3 v4 μ = some z) (D : z = (rr, μr)) : JW X (jEnd X n Y (some (.int rr)) μr 0 0) 0 0 n Y 30 [(0, .ref v0), (1, .int v1), (2, .int v2), (3, .int v3), (4, .int v4)] [] μ := by
  unfold b_X12_below_30 at H
  refine r_iload_n K 3 dX12_below_30 rfl rfl ?_
  refine r_sipush (v := -1000) K dX12_below_31 (by decide) ?_
  refine r_sipush (v := 1000) K dX12_below_34 (by decide) ?_
  refine w_callS K hl H (fun r h => c_X12_in l h) mC_yX12_in mM_RX12_134 mT_yX12_in mZ_RX12 (Nat.le_of_ble_eq_true rfl) (Nat.le_of_ble_eq_true rfl) np_yX12_in rfl (Nat.le_of_ble_eq_true rfl) dX12_below_37 (fun r1 H => ?_) ⟨Nat.zero_le _, Nat.zero_le _⟩
  refine w_if_eq K 54 dX12_below_40 (by decide) H (fun _ H => ?_) (fun _ H => ?_)
  · exact r_sub [] rfl (t_X12_below_54 K hl H D)
  · refine r_iload K 4 dX12_below_43 rfl ?_
    refine r_iconst (v := 1) K dX12_below_45 (by decide) ?_
    refine r_bipush (v := 50) K dX12_below_46 (by decide) ?_
    refine w_callS K hl H (fun r h => c_X12_in l h) mC_yX12_in mM_RX12_134 mT_yX12_in mZ_RX12 (Nat.le_of_ble_eq_true rfl) (Nat.le_of_ble_eq_true rfl) np_yX12_in rfl (Nat.le_of_ble_eq_true rfl) dX12_below_48 (fun r2 H => ?_) ⟨Nat.zero_le _, Nat.zero_le _⟩
    refine w_if_ne K 56 dX12_below_51 (by decide) H (fun _ H => ?_) (fun _ H => ?_)
    · refine r_aload_n K 0 dX12_below_56 rfl rfl ?_
      refine w_getO K vc12 inX12 26 (by decide) mF_RX12_48 dX12_below_57 H (fun x3 H => ?_)
      refine r_iload_n K 1 dX12_below_60 rfl rfl ?_
      refine w_iald K dX12_below_61 H (fun x4 H => ?_)
      refine w_if_ne K 70 dX12_below_62 (by decide) H (fun _ H => ?_) (fun _ H => ?_)
      · refine r_aload_n K 0 dX12_below_70 rfl rfl ?_
        refine r_iload_n K 1 dX12_below_71 rfl rfl ?_
        refine r_iconst (v := 0) K dX12_below_72 (by decide) ?_
        refine r_iload_n K 2 dX12_below_73 rfl rfl ?_
        refine r_iload_n K 3 dX12_below_74 rfl rfl ?_
        refine r_iload K 4 dX12_below_75 rfl ?_
        refine w_callV K hl H (fun r h => c_X12_belowOf l h) mC_yX12_belowOf mM_RX12_283 mI_yX12_belowOf mS_yX12_belowOf mZ_RX12 vc12 (Nat.le_of_ble_eq_true rfl) (Nat.le_of_ble_eq_true rfl) np_yX12_belowOf rfl (Nat.le_of_ble_eq_true rfl) dX12_below_77 (fun r5 H => ?_) ⟨Nat.zero_le _, Nat.zero_le _⟩
        exact r_sub [] rfl (t_X12_below_80 K hl H D)
      · refine r_bipush (v := -2) K dX12_below_65 (by decide) ?_
        refine r_goto K 80 dX12_below_67 (by decide) ?_
        exact r_sub [] rfl (t_X12_below_80 K hl H D)
    · exact r_sub [] rfl (t_X12_below_54 K hl H D)
set_option maxRecDepth 10000 in
theorem t_X12_below_0 {X : jX} {l : Launch} {n : Nat} {Y : jY} (K : jOK X RX12 cX12_below 5 (some .int) 3) (hl : X.2.1 = l) {rr : Int32} {μr : jM} {v0 : Nat} {v1 : Int32} {v2 : Int32} {v3 : Int32} {v4 : Int32} {μ : jM} {z : (Int32 × jM)} (H : f_X12_below Y v0 v1 v2 v3 v4 μ = some z) (D : z = (rr, μr)) : JW X (jEnd X n Y (some (.int rr)) μr 0 0) 0 0 n Y 0 [(0, .ref v0), (1, .int v1), (2, .int v2), (3, .int v3), (4, .int v4)] [] μ := by
  unfold f_X12_below at H
  refine r_iload_n K 1 dX12_below_0 rfl rfl ?_
  refine w_callS K hl H (fun r h => c_X12_isDrawer l h) mC_yX12_isDrawer mM_RX12_253 mT_yX12_isDrawer mZ_RX12 (Nat.le_of_ble_eq_true rfl) (Nat.le_of_ble_eq_true rfl) np_yX12_isDrawer rfl (Nat.le_of_ble_eq_true rfl) dX12_below_1 (fun r1 H => ?_) ⟨Nat.zero_le _, Nat.zero_le _⟩
  refine w_if_eq K 54 dX12_below_4 (by decide) H (fun _ H => ?_) (fun _ H => ?_)
  · exact r_sub [] rfl (t_X12_below_54 K hl H D)
  · refine r_aload_n K 0 dX12_below_7 rfl rfl ?_
    refine w_getO K vc12 inX12 26 (by decide) mF_RX12_48 dX12_below_8 H (fun x2 H => ?_)
    refine r_iload_n K 1 dX12_below_11 rfl rfl ?_
    refine w_iald K dX12_below_12 H (fun x3 H => ?_)
    refine w_if_le K 30 dX12_below_13 (by decide) H (fun _ H => ?_) (fun _ H => ?_)
    · exact r_sub [0, 1, 2, 3, 4] rfl (t_X12_below_30 K hl H D)
    · refine r_iload_n K 2 dX12_below_16 rfl rfl ?_
      refine r_iconst (v := 1) K dX12_below_17 (by decide) ?_
      refine r_aload_n K 0 dX12_below_18 rfl rfl ?_
      refine w_getO K vc12 inX12 26 (by decide) mF_RX12_48 dX12_below_19 H (fun x4 H => ?_)
      refine r_iload_n K 1 dX12_below_22 rfl rfl ?_
      refine w_iald K dX12_below_23 H (fun x5 H => ?_)
      refine w_callS K hl H (fun r h => c_X12_in l h) mC_yX12_in mM_RX12_134 mT_yX12_in mZ_RX12 (Nat.le_of_ble_eq_true rfl) (Nat.le_of_ble_eq_true rfl) np_yX12_in rfl (Nat.le_of_ble_eq_true rfl) dX12_below_24 (fun r6 H => ?_) ⟨Nat.zero_le _, Nat.zero_le _⟩
      refine w_if_eq K 54 dX12_below_27 (by decide) H (fun _ H => ?_) (fun _ H => ?_)
      · exact r_sub [] rfl (t_X12_below_54 K hl H D)
      · exact r_sub [0, 1, 2, 3, 4] rfl (t_X12_below_30 K hl H D)
theorem c_X12_below (l : Launch) {n : Nat} {Y : jY} {v0 : Nat} {v1 : Int32} {v2 : Int32} {v3 : Int32} {v4 : Int32} {μ : jM} {z : Int32 × jM} (H : f_X12_below Y v0 v1 v2 v3 v4 μ = some z) : jC l yX12_below cX12_below 5 (some .int) 3 0 0 [.ref v0, .int v1, .int v2, .int v3, .int v4] n Y μ n Y (some (.int z.1)) z.2 := by
  refine jC_of (by decide +kernel) (Nat.le_of_ble_eq_true rfl) (fun X hl K _ _ _ => ?_)
  obtain ⟨rr, μr⟩ := z
  exact t_X12_below_0 K hl H rfl
/-! RX12 valueAt(IIIJ)J -/
def b_X12_valueAt_55 (Y : jY) (v0 : Nat) (v1 : Int32) (v2 : Int32) (v3 : Int32) (v4 : Int64) (v6 : Int64) (v10 : Int32) (t0 : Int64) (t1 : Int64) (μ : jM) : Option ((Int64 × Int64 × Int32 × jM) ⊕ (Int64 × jM)) :=
  some (.inl ((t0 - t1), v6, (v10 + (1 : Int32)), μ))
def b_X12_valueAt_9 (Y : jY) (v0 : Nat) (v1 : Int32) (v2 : Int32) (v3 : Int32) (v4 : Int64) (v6 : Int64) (v8 : Int64) (v10 : Int32) (μ : jM) : Option ((Int64 × Int64 × Int32 × jM) ⊕ (Int64 × jM)) :=
  if v3 ≤ v10 then
    some (.inr (v6, μ))
  else
    (jrcv Y v0 12 (f_X12_a Y v0 v1 ((v2 + v10)) μ)).bind fun r1 =>
    if v10 ≤ 0 then
      b_X12_valueAt_55 Y v0 v1 v2 v3 v4 v6 v10 (((v4 - ((r1.1.toInt64)))) * v6) (0 : Int64) r1.2
    else
      (jrcv Y v0 12 (f_X12_c Y v0 v1 ((((v2 + v10)) - ((1 : Int32)))) r1.2)).bind fun r2 =>
      b_X12_valueAt_55 Y v0 v1 v2 v3 v4 v6 v10 (((v4 - ((r1.1.toInt64)))) * v6) (((r2.1.toInt64)) * v8) r2.2
def f_X12_valueAt (Y : jY) (v0 : Nat) (v1 : Int32) (v2 : Int32) (v3 : Int32) (v4 : Int64) (μ : jM) : Option (Int64 × jM) :=
  jit jF (fun (s : Int64 × Int64 × Int32 × jM) => b_X12_valueAt_9 Y v0 v1 v2 v3 v4 s.1 s.2.1 s.2.2.1 s.2.2.2) ((1 : Int64), (0 : Int64), (0 : Int32), μ)
set_option maxRecDepth 10000 in
theorem t_X12_valueAt_55 {X : jX} {l : Launch} {n : Nat} {Y : jY} (K : jOK X RX12 cX12_valueAt 13 (some .long) 2) (hl : X.2.1 = l) {rr : Int64} {μr : jM} {v0 : Nat} {v1 : Int32} {v2 : Int32} {v3 : Int32} {v4 : Int64} {v6 : Int64} {v10 : Int32} {t0 : Int64} {t1 : Int64} {μ : jM} {z : ((Int64 × Int64 × Int32 × jM) ⊕ (Int64 × jM))} (H : b_X12_valueAt_55 Y v0 v1 v2 v3 v4 v6 v10 t0 t1 μ = some z) (D : Sum.elim (fun (s : Int64 × Int64 × Int32 × jM) => JW X (jEnd X n Y (some (.long rr)) μr 0 0) 0 0 n Y 9 [(0, .ref v0), (1, .int v1), (2, .int v2), (3, .int v3), (4, .long v4), (6, .long s.1), (8, .long s.2.1), (10, .int s.2.2.1)] [] s.2.2.2) (fun r => r = (rr, μr)) z) : JW X (jEnd X n Y (some (.long rr)) μr 0 0) 0 0 n Y 55 [(0, .ref v0), (1, .int v1), (2, .int v2), (3, .int v3), (4, .long v4), (6, .long v6), (10, .int v10)] [.long t1, .long t0] μ := by
  unfold b_X12_valueAt_55 at H
  refine r_lsub K dX12_valueAt_55 ?_
  refine r_lstore K [(11, .long _), (0, .ref _), (1, .int _), (2, .int _), (3, .int _), (4, .long _), (6, .long _), (10, .int _)] dX12_valueAt_56 (by decide) rfl ?_
  refine r_lload K 6 dX12_valueAt_58 rfl ?_
  refine r_lstore K [(8, .long _), (11, .long _), (0, .ref _), (1, .int _), (2, .int _), (3, .int _), (4, .long _), (6, .long _), (10, .int _)] dX12_valueAt_60 (by decide) rfl ?_
  refine r_lload K 1 dX12_valueAt_62 rfl ?_
  refine r_lstore K [(6, .long _), (8, .long _), (11, .long _), (0, .ref _), (1, .int _), (2, .int _), (3, .int _), (4, .long _), (10, .int _)] dX12_valueAt_64 (by decide) rfl ?_
  refine r_iinc K 8 [(10, .int _), (6, .long _), (8, .long _), (11, .long _), (0, .ref _), (1, .int _), (2, .int _), (3, .int _), (4, .long _)] (v := _ + (1 : Int32)) dX12_valueAt_66 rfl rfl (by decide) rfl ?_
  refine r_goto K 9 dX12_valueAt_69 (by decide) ?_
  cases H
  exact r_sub [4, 5, 6, 7, 8, 1, 2, 0] rfl D
set_option maxRecDepth 10000 in
theorem t_X12_valueAt_9 {X : jX} {l : Launch} {n : Nat} {Y : jY} (K : jOK X RX12 cX12_valueAt 13 (some .long) 2) (hl : X.2.1 = l) {rr : Int64} {μr : jM} {v0 : Nat} {v1 : Int32} {v2 : Int32} {v3 : Int32} {v4 : Int64} {v6 : Int64} {v8 : Int64} {v10 : Int32} {μ : jM} {z : ((Int64 × Int64 × Int32 × jM) ⊕ (Int64 × jM))} (H : b_X12_valueAt_9 Y v0 v1 v2 v3 v4 v6 v8 v10 μ = some z) (D : Sum.elim (fun (s : Int64 × Int64 × Int32 × jM) => JW X (jEnd X n Y (some (.long rr)) μr 0 0) 0 0 n Y 9 [(0, .ref v0), (1, .int v1), (2, .int v2), (3, .int v3), (4, .long v4), (6, .long s.1), (8, .long s.2.1), (10, .int s.2.2.1)] [] s.2.2.2) (fun r => r = (rr, μr)) z) : JW X (jEnd X n Y (some (.long rr)) μr 0 0) 0 0 n Y 9 [(0, .ref v0), (1, .int v1), (2, .int v2), (3, .int v3), (4, .long v4), (6, .long v6), (8, .long v8), (10, .int v10)] [] μ := by
  unfold b_X12_valueAt_9 at H
  refine r_iload K 7 dX12_valueAt_9 rfl ?_
  refine r_iload_n K 3 dX12_valueAt_11 rfl rfl ?_
  refine w_icmp_ge K 72 dX12_valueAt_12 (by decide) H (fun _ H => ?_) (fun _ H => ?_)
  · refine r_lload K 5 dX12_valueAt_72 rfl ?_
    cases H
    simp only [Sum.elim_inr] at D
    obtain ⟨rfl, rfl⟩ := jfin2 D
    exact r_lret K dX12_valueAt_74
  · refine r_lload K 4 dX12_valueAt_15 rfl ?_
    refine r_aload_n K 0 dX12_valueAt_17 rfl rfl ?_
    refine r_iload_n K 1 dX12_valueAt_18 rfl rfl ?_
    refine r_iload_n K 2 dX12_valueAt_19 rfl rfl ?_
    refine r_iload K 7 dX12_valueAt_20 rfl ?_
    refine r_iadd K dX12_valueAt_22 ?_
    refine w_callV K hl H (fun r h => c_X12_a l h) mC_yX12_a mM_RX12_256 mI_yX12_a mS_yX12_a mZ_RX12 vc12 (Nat.le_of_ble_eq_true rfl) (Nat.le_of_ble_eq_true rfl) np_yX12_a rfl (Nat.le_of_ble_eq_true rfl) dX12_valueAt_23 (fun r1 H => ?_) ⟨Nat.zero_le _, Nat.zero_le _⟩
    refine r_i2l K dX12_valueAt_26 ?_
    refine r_lsub K dX12_valueAt_27 ?_
    refine r_lload K 5 dX12_valueAt_28 rfl ?_
    refine r_lmul K dX12_valueAt_30 ?_
    refine r_iload K 7 dX12_valueAt_31 rfl ?_
    refine w_if_le K 54 dX12_valueAt_33 (by decide) H (fun _ H => ?_) (fun _ H => ?_)
    · refine r_lconst (v := 0) K dX12_valueAt_54 (by decide) ?_
      exact r_sub [0, 1, 2, 3, 4, 5, 7] rfl (t_X12_valueAt_55 K hl H D)
    · refine r_aload_n K 0 dX12_valueAt_36 rfl rfl ?_
      refine r_iload_n K 1 dX12_valueAt_37 rfl rfl ?_
      refine r_iload_n K 2 dX12_valueAt_38 rfl rfl ?_
      refine r_iload K 7 dX12_valueAt_39 rfl ?_
      refine r_iadd K dX12_valueAt_41 ?_
      refine r_iconst (v := 1) K dX12_valueAt_42 (by decide) ?_
      refine r_isub K dX12_valueAt_43 ?_
      refine w_callV K hl H (fun r h => c_X12_c l h) mC_yX12_c mM_RX12_260 mI_yX12_c mS_yX12_c mZ_RX12 vc12 (Nat.le_of_ble_eq_true rfl) (Nat.le_of_ble_eq_true rfl) np_yX12_c rfl (Nat.le_of_ble_eq_true rfl) dX12_valueAt_44 (fun r2 H => ?_) ⟨Nat.zero_le _, Nat.zero_le _⟩
      refine r_i2l K dX12_valueAt_47 ?_
      refine r_lload K 6 dX12_valueAt_48 rfl ?_
      refine r_lmul K dX12_valueAt_50 ?_
      refine r_goto K 55 dX12_valueAt_51 (by decide) ?_
      exact r_sub [0, 1, 2, 3, 4, 5, 7] rfl (t_X12_valueAt_55 K hl H D)
set_option maxRecDepth 10000 in
theorem l_X12_valueAt_9 {X : jX} {l : Launch} {n : Nat} {Y : jY} (K : jOK X RX12 cX12_valueAt 13 (some .long) 2) (hl : X.2.1 = l) {rr : Int64} {μr : jM} {v0 : Nat} {v1 : Int32} {v2 : Int32} {v3 : Int32} {v4 : Int64}  {s0 : Int64 × Int64 × Int32 × jM} {z : (Int64 × jM)} (H : jit jF (fun (s : Int64 × Int64 × Int32 × jM) => b_X12_valueAt_9 Y v0 v1 v2 v3 v4 s.1 s.2.1 s.2.2.1 s.2.2.2) s0 = some z) (D : z = (rr, μr)) : JW X (jEnd X n Y (some (.long rr)) μr 0 0) 0 0 n Y 9 [(0, .ref v0), (1, .int v1), (2, .int v2), (3, .int v3), (4, .long v4), (6, .long s0.1), (8, .long s0.2.1), (10, .int s0.2.2.1)] [] s0.2.2.2 :=
  jit_ind (P := fun (s : Int64 × Int64 × Int32 × jM) => JW X (jEnd X n Y (some (.long rr)) μr 0 0) 0 0 n Y 9 [(0, .ref v0), (1, .int v1), (2, .int v2), (3, .int v3), (4, .long v4), (6, .long s.1), (8, .long s.2.1), (10, .int s.2.2.1)] [] s.2.2.2) (D := fun r => r = (rr, μr)) (fun s z Hs Ds => t_X12_valueAt_9 K hl Hs Ds) jF s0 z H D
set_option maxRecDepth 10000 in
theorem t_X12_valueAt_0 {X : jX} {l : Launch} {n : Nat} {Y : jY} (K : jOK X RX12 cX12_valueAt 13 (some .long) 2) (hl : X.2.1 = l) {rr : Int64} {μr : jM} {v0 : Nat} {v1 : Int32} {v2 : Int32} {v3 : Int32} {v4 : Int64} {μ : jM} {z : (Int64 × jM)} (H : f_X12_valueAt Y v0 v1 v2 v3 v4 μ = some z) (D : z = (rr, μr)) : JW X (jEnd X n Y (some (.long rr)) μr 0 0) 0 0 n Y 0 [(0, .ref v0), (1, .int v1), (2, .int v2), (3, .int v3), (4, .long v4)] [] μ := by
  unfold f_X12_valueAt at H
  refine r_lconst (v := 1) K dX12_valueAt_0 (by decide) ?_
  refine r_lstore K [(6, .long _), (0, .ref _), (1, .int _), (2, .int _), (3, .int _), (4, .long _)] dX12_valueAt_1 (by decide) rfl ?_
  refine r_lconst (v := 0) K dX12_valueAt_3 (by decide) ?_
  refine r_lstore K [(8, .long _), (6, .long _), (0, .ref _), (1, .int _), (2, .int _), (3, .int _), (4, .long _)] dX12_valueAt_4 (by decide) rfl ?_
  refine r_iconst (v := 0) K dX12_valueAt_6 (by decide) ?_
  refine r_istore K [(10, .int _), (8, .long _), (6, .long _), (0, .ref _), (1, .int _), (2, .int _), (3, .int _), (4, .long _)] dX12_valueAt_7 (by decide) rfl ?_
  exact r_sub [3, 4, 5, 6, 7, 2, 1, 0] rfl (l_X12_valueAt_9 K hl H D)
theorem c_X12_valueAt (l : Launch) {n : Nat} {Y : jY} {v0 : Nat} {v1 : Int32} {v2 : Int32} {v3 : Int32} {v4 : Int64} {μ : jM} {z : Int64 × jM} (H : f_X12_valueAt Y v0 v1 v2 v3 v4 μ = some z) : jC l yX12_valueAt cX12_valueAt 13 (some .long) 2 0 0 [.ref v0, .int v1, .int v2, .int v3, .long v4] n Y μ n Y (some (.long z.1)) z.2 := by
  refine jC_of (by decide +kernel) (Nat.le_of_ble_eq_true rfl) (fun X hl K _ _ _ => ?_)
  obtain ⟨rr, μr⟩ := z
  exact t_X12_valueAt_0 K hl H rfl
/-! RX12 wholeOf(III)I -/
def b_X12_wholeOf_36 (Y : jY) (v0 : Nat) (v1 : Int32) (v2 : Int32) (v3 : Int32) (v5 : Int32) (t0 : Int32) (t1 : Int32) (μ : jM) : Option ((Int32 × Int32 × jM) ⊕ (Int32 × jM)) :=
  some (.inl ((t0 + t1), (v5 + (1 : Int32)), μ))
def b_X12_wholeOf_7 (Y : jY) (v0 : Nat) (v1 : Int32) (v2 : Int32) (v3 : Int32) (v4 : Int32) (v5 : Int32) (μ : jM) : Option ((Int32 × Int32 × jM) ⊕ (Int32 × jM)) :=
  if ((20 : Int32)) < v5 then
    some (.inr (v4, μ))
  else
    (jrcv Y v0 12 (f_X12_valueAt Y v0 v1 v2 v3 ((v5.toInt64)) μ)).bind fun r1 =>
    if ((lg_cmp r1.1 ((0 : Int64)))) = 0 then
      b_X12_wholeOf_36 Y v0 v1 v2 v3 v5 v4 (1 : Int32) r1.2
    else
      b_X12_wholeOf_36 Y v0 v1 v2 v3 v5 v4 (0 : Int32) r1.2
def f_X12_wholeOf (Y : jY) (v0 : Nat) (v1 : Int32) (v2 : Int32) (v3 : Int32) (μ : jM) : Option (Int32 × jM) :=
  jit jF (fun (s : Int32 × Int32 × jM) => b_X12_wholeOf_7 Y v0 v1 v2 v3 s.1 s.2.1 s.2.2) ((0 : Int32), (-20 : Int32), μ)
set_option maxRecDepth 10000 in
theorem t_X12_wholeOf_36 {X : jX} {l : Launch} {n : Nat} {Y : jY} (K : jOK X RX12 cX12_wholeOf 6 (some .int) 3) (hl : X.2.1 = l) {rr : Int32} {μr : jM} {v0 : Nat} {v1 : Int32} {v2 : Int32} {v3 : Int32} {v5 : Int32} {t0 : Int32} {t1 : Int32} {μ : jM} {z : ((Int32 × Int32 × jM) ⊕ (Int32 × jM))} (H : b_X12_wholeOf_36 Y v0 v1 v2 v3 v5 t0 t1 μ = some z) (D : Sum.elim (fun (s : Int32 × Int32 × jM) => JW X (jEnd X n Y (some (.int rr)) μr 0 0) 0 0 n Y 7 [(0, .ref v0), (1, .int v1), (2, .int v2), (3, .int v3), (4, .int s.1), (5, .int s.2.1)] [] s.2.2) (fun r => r = (rr, μr)) z) : JW X (jEnd X n Y (some (.int rr)) μr 0 0) 0 0 n Y 36 [(0, .ref v0), (1, .int v1), (2, .int v2), (3, .int v3), (5, .int v5)] [.int t1, .int t0] μ := by
  unfold b_X12_wholeOf_36 at H
  refine r_iadd K dX12_wholeOf_36 ?_
  refine r_istore K [(4, .int _), (0, .ref _), (1, .int _), (2, .int _), (3, .int _), (5, .int _)] dX12_wholeOf_37 (by decide) rfl ?_
  refine r_iinc K 5 [(5, .int _), (4, .int _), (0, .ref _), (1, .int _), (2, .int _), (3, .int _)] (v := _ + (1 : Int32)) dX12_wholeOf_39 rfl rfl (by decide) rfl ?_
  refine r_goto K 7 dX12_wholeOf_42 (by decide) ?_
  cases H
  exact r_sub [2, 3, 4, 5, 1, 0] rfl D
set_option maxRecDepth 10000 in
theorem t_X12_wholeOf_7 {X : jX} {l : Launch} {n : Nat} {Y : jY} (K : jOK X RX12 cX12_wholeOf 6 (some .int) 3) (hl : X.2.1 = l) {rr : Int32} {μr : jM} {v0 : Nat} {v1 : Int32} {v2 : Int32} {v3 : Int32} {v4 : Int32} {v5 : Int32} {μ : jM} {z : ((Int32 × Int32 × jM) ⊕ (Int32 × jM))} (H : b_X12_wholeOf_7 Y v0 v1 v2 v3 v4 v5 μ = some z) (D : Sum.elim (fun (s : Int32 × Int32 × jM) => JW X (jEnd X n Y (some (.int rr)) μr 0 0) 0 0 n Y 7 [(0, .ref v0), (1, .int v1), (2, .int v2), (3, .int v3), (4, .int s.1), (5, .int s.2.1)] [] s.2.2) (fun r => r = (rr, μr)) z) : JW X (jEnd X n Y (some (.int rr)) μr 0 0) 0 0 n Y 7 [(0, .ref v0), (1, .int v1), (2, .int v2), (3, .int v3), (4, .int v4), (5, .int v5)] [] μ := by
  unfold b_X12_wholeOf_7 at H
  refine r_iload K 5 dX12_wholeOf_7 rfl ?_
  refine r_bipush (v := 20) K dX12_wholeOf_9 (by decide) ?_
  refine w_icmp_gt K 45 dX12_wholeOf_11 (by decide) H (fun _ H => ?_) (fun _ H => ?_)
  · refine r_iload K 4 dX12_wholeOf_45 rfl ?_
    cases H
    simp only [Sum.elim_inr] at D
    obtain ⟨rfl, rfl⟩ := jfin2 D
    exact r_iret K dX12_wholeOf_47
  · refine r_iload K 4 dX12_wholeOf_14 rfl ?_
    refine r_aload_n K 0 dX12_wholeOf_16 rfl rfl ?_
    refine r_iload_n K 1 dX12_wholeOf_17 rfl rfl ?_
    refine r_iload_n K 2 dX12_wholeOf_18 rfl rfl ?_
    refine r_iload_n K 3 dX12_wholeOf_19 rfl rfl ?_
    refine r_iload K 5 dX12_wholeOf_20 rfl ?_
    refine r_i2l K dX12_wholeOf_22 ?_
    refine w_callV K hl H (fun r h => c_X12_valueAt l h) mC_yX12_valueAt mM_RX12_279 mI_yX12_valueAt mS_yX12_valueAt mZ_RX12 vc12 (Nat.le_of_ble_eq_true rfl) (Nat.le_of_ble_eq_true rfl) np_yX12_valueAt rfl (Nat.le_of_ble_eq_true rfl) dX12_wholeOf_23 (fun r1 H => ?_) ⟨Nat.zero_le _, Nat.zero_le _⟩
    refine r_lconst (v := 0) K dX12_wholeOf_26 (by decide) ?_
    refine r_lcmp K dX12_wholeOf_27 ?_
    refine w_if_ne K 35 dX12_wholeOf_28 (by decide) H (fun _ H => ?_) (fun _ H => ?_)
    · refine r_iconst (v := 0) K dX12_wholeOf_35 (by decide) ?_
      exact r_sub [0, 1, 2, 3, 5] rfl (t_X12_wholeOf_36 K hl H D)
    · refine r_iconst (v := 1) K dX12_wholeOf_31 (by decide) ?_
      refine r_goto K 36 dX12_wholeOf_32 (by decide) ?_
      exact r_sub [0, 1, 2, 3, 5] rfl (t_X12_wholeOf_36 K hl H D)
set_option maxRecDepth 10000 in
theorem l_X12_wholeOf_7 {X : jX} {l : Launch} {n : Nat} {Y : jY} (K : jOK X RX12 cX12_wholeOf 6 (some .int) 3) (hl : X.2.1 = l) {rr : Int32} {μr : jM} {v0 : Nat} {v1 : Int32} {v2 : Int32} {v3 : Int32}  {s0 : Int32 × Int32 × jM} {z : (Int32 × jM)} (H : jit jF (fun (s : Int32 × Int32 × jM) => b_X12_wholeOf_7 Y v0 v1 v2 v3 s.1 s.2.1 s.2.2) s0 = some z) (D : z = (rr, μr)) : JW X (jEnd X n Y (some (.int rr)) μr 0 0) 0 0 n Y 7 [(0, .ref v0), (1, .int v1), (2, .int v2), (3, .int v3), (4, .int s0.1), (5, .int s0.2.1)] [] s0.2.2 :=
  jit_ind (P := fun (s : Int32 × Int32 × jM) => JW X (jEnd X n Y (some (.int rr)) μr 0 0) 0 0 n Y 7 [(0, .ref v0), (1, .int v1), (2, .int v2), (3, .int v3), (4, .int s.1), (5, .int s.2.1)] [] s.2.2) (D := fun r => r = (rr, μr)) (fun s z Hs Ds => t_X12_wholeOf_7 K hl Hs Ds) jF s0 z H D
set_option maxRecDepth 10000 in
theorem t_X12_wholeOf_0 {X : jX} {l : Launch} {n : Nat} {Y : jY} (K : jOK X RX12 cX12_wholeOf 6 (some .int) 3) (hl : X.2.1 = l) {rr : Int32} {μr : jM} {v0 : Nat} {v1 : Int32} {v2 : Int32} {v3 : Int32} {μ : jM} {z : (Int32 × jM)} (H : f_X12_wholeOf Y v0 v1 v2 v3 μ = some z) (D : z = (rr, μr)) : JW X (jEnd X n Y (some (.int rr)) μr 0 0) 0 0 n Y 0 [(0, .ref v0), (1, .int v1), (2, .int v2), (3, .int v3)] [] μ := by
  unfold f_X12_wholeOf at H
  refine r_iconst (v := 0) K dX12_wholeOf_0 (by decide) ?_
  refine r_istore K [(4, .int _), (0, .ref _), (1, .int _), (2, .int _), (3, .int _)] dX12_wholeOf_1 (by decide) rfl ?_
  refine r_bipush (v := -20) K dX12_wholeOf_3 (by decide) ?_
  refine r_istore K [(5, .int _), (4, .int _), (0, .ref _), (1, .int _), (2, .int _), (3, .int _)] dX12_wholeOf_5 (by decide) rfl ?_
  exact r_sub [2, 3, 4, 5, 1, 0] rfl (l_X12_wholeOf_7 K hl H D)
theorem c_X12_wholeOf (l : Launch) {n : Nat} {Y : jY} {v0 : Nat} {v1 : Int32} {v2 : Int32} {v3 : Int32} {μ : jM} {z : Int32 × jM} (H : f_X12_wholeOf Y v0 v1 v2 v3 μ = some z) : jC l yX12_wholeOf cX12_wholeOf 6 (some .int) 3 0 0 [.ref v0, .int v1, .int v2, .int v3] n Y μ n Y (some (.int z.1)) z.2 := by
  refine jC_of (by decide +kernel) (Nat.le_of_ble_eq_true rfl) (fun X hl K _ _ _ => ?_)
  obtain ⟨rr, μr⟩ := z
  exact t_X12_wholeOf_0 K hl H rfl
/-! RX12 whole(II)I -/
def b_X12_whole_30 (Y : jY) (μ : jM) : Option (Int32 × jM) :=
  some ((-1 : Int32), μ)
def b_X12_whole_53 (Y : jY) (t0 : Int32) (μ : jM) : Option (Int32 × jM) :=
  some (t0, μ)
def b_X12_whole_32 (Y : jY) (v0 : Nat) (v1 : Int32) (v2 : Int32) (μ : jM) : Option (Int32 × jM) :=
  (jgO Y μ v0 12 26).bind fun x1 =>
  (jaI Y μ x1 20 v1).bind fun x2 =>
  if x2 = 0 then
    b_X12_whole_53 Y (-2 : Int32) μ
  else
    (jrcv Y v0 12 (f_X12_wholeOf Y v0 v1 ((0 : Int32)) v2 μ)).bind fun r3 =>
    b_X12_whole_53 Y r3.1 r3.2
def f_X12_whole (Y : jY) (v0 : Nat) (v1 : Int32) (v2 : Int32) (μ : jM) : Option (Int32 × jM) :=
  (f_X12_isDrawer Y v1 μ).bind fun r1 =>
  if r1.1 = 0 then
    b_X12_whole_30 Y r1.2
  else
    (jgO Y r1.2 v0 12 26).bind fun x2 =>
    (jaI Y r1.2 x2 20 v1).bind fun x3 =>
    if x3 ≤ 0 then
      b_X12_whole_32 Y v0 v1 v2 r1.2
    else
      (jgO Y r1.2 v0 12 26).bind fun x4 =>
      (jaI Y r1.2 x4 20 v1).bind fun x5 =>
      (f_X12_in Y v2 ((1 : Int32)) x5 r1.2).bind fun r6 =>
      if r6.1 = 0 then
        b_X12_whole_30 Y r6.2
      else
        b_X12_whole_32 Y v0 v1 v2 r6.2
set_option maxRecDepth 10000 in
theorem t_X12_whole_30 {X : jX} {l : Launch} {n : Nat} {Y : jY} (K : jOK X RX12 cX12_whole 3 (some .int) 4) (hl : X.2.1 = l) {rr : Int32} {μr : jM} {μ : jM} {z : (Int32 × jM)} (H : b_X12_whole_30 Y μ = some z) (D : z = (rr, μr)) : JW X (jEnd X n Y (some (.int rr)) μr 0 0) 0 0 n Y 30 [] [] μ := by
  unfold b_X12_whole_30 at H
  refine r_iconst (v := -1) K dX12_whole_30 (by decide) ?_
  cases H
  obtain ⟨rfl, rfl⟩ := jfin2 D
  exact r_iret K dX12_whole_31
set_option maxRecDepth 10000 in
theorem t_X12_whole_53 {X : jX} {l : Launch} {n : Nat} {Y : jY} (K : jOK X RX12 cX12_whole 3 (some .int) 4) (hl : X.2.1 = l) {rr : Int32} {μr : jM} {t0 : Int32} {μ : jM} {z : (Int32 × jM)} (H : b_X12_whole_53 Y t0 μ = some z) (D : z = (rr, μr)) : JW X (jEnd X n Y (some (.int rr)) μr 0 0) 0 0 n Y 53 [] [.int t0] μ := by
  unfold b_X12_whole_53 at H
  cases H
  obtain ⟨rfl, rfl⟩ := jfin2 D
  exact r_iret K dX12_whole_53
set_option maxRecDepth 10000 in
theorem t_X12_whole_32 {X : jX} {l : Launch} {n : Nat} {Y : jY} (K : jOK X RX12 cX12_whole 3 (some .int) 4) (hl : X.2.1 = l) {rr : Int32} {μr : jM} {v0 : Nat} {v1 : Int32} {v2 : Int32} {μ : jM} {z : (Int32 × jM)} (H : b_X12_whole_32 Y v0 v1 v2 μ = some z) (D : z = (rr, μr)) : JW X (jEnd X n Y (some (.int rr)) μr 0 0) 0 0 n Y 32 [(0, .ref v0), (1, .int v1), (2, .int v2)] [] μ := by
  unfold b_X12_whole_32 at H
  refine r_aload_n K 0 dX12_whole_32 rfl rfl ?_
  refine w_getO K vc12 inX12 26 (by decide) mF_RX12_48 dX12_whole_33 H (fun x1 H => ?_)
  refine r_iload_n K 1 dX12_whole_36 rfl rfl ?_
  refine w_iald K dX12_whole_37 H (fun x2 H => ?_)
  refine w_if_ne K 46 dX12_whole_38 (by decide) H (fun _ H => ?_) (fun _ H => ?_)
  · refine r_aload_n K 0 dX12_whole_46 rfl rfl ?_
    refine r_iload_n K 1 dX12_whole_47 rfl rfl ?_
    refine r_iconst (v := 0) K dX12_whole_48 (by decide) ?_
    refine r_iload_n K 2 dX12_whole_49 rfl rfl ?_
    refine w_callV K hl H (fun r h => c_X12_wholeOf l h) mC_yX12_wholeOf mM_RX12_292 mI_yX12_wholeOf mS_yX12_wholeOf mZ_RX12 vc12 (Nat.le_of_ble_eq_true rfl) (Nat.le_of_ble_eq_true rfl) np_yX12_wholeOf rfl (Nat.le_of_ble_eq_true rfl) dX12_whole_50 (fun r3 H => ?_) ⟨Nat.zero_le _, Nat.zero_le _⟩
    exact r_sub [] rfl (t_X12_whole_53 K hl H D)
  · refine r_bipush (v := -2) K dX12_whole_41 (by decide) ?_
    refine r_goto K 53 dX12_whole_43 (by decide) ?_
    exact r_sub [] rfl (t_X12_whole_53 K hl H D)
set_option maxRecDepth 10000 in
theorem t_X12_whole_0 {X : jX} {l : Launch} {n : Nat} {Y : jY} (K : jOK X RX12 cX12_whole 3 (some .int) 4) (hl : X.2.1 = l) {rr : Int32} {μr : jM} {v0 : Nat} {v1 : Int32} {v2 : Int32} {μ : jM} {z : (Int32 × jM)} (H : f_X12_whole Y v0 v1 v2 μ = some z) (D : z = (rr, μr)) : JW X (jEnd X n Y (some (.int rr)) μr 0 0) 0 0 n Y 0 [(0, .ref v0), (1, .int v1), (2, .int v2)] [] μ := by
  unfold f_X12_whole at H
  refine r_iload_n K 1 dX12_whole_0 rfl rfl ?_
  refine w_callS K hl H (fun r h => c_X12_isDrawer l h) mC_yX12_isDrawer mM_RX12_253 mT_yX12_isDrawer mZ_RX12 (Nat.le_of_ble_eq_true rfl) (Nat.le_of_ble_eq_true rfl) np_yX12_isDrawer rfl (Nat.le_of_ble_eq_true rfl) dX12_whole_1 (fun r1 H => ?_) ⟨Nat.zero_le _, Nat.zero_le _⟩
  refine w_if_eq K 30 dX12_whole_4 (by decide) H (fun _ H => ?_) (fun _ H => ?_)
  · exact r_sub [] rfl (t_X12_whole_30 K hl H D)
  · refine r_aload_n K 0 dX12_whole_7 rfl rfl ?_
    refine w_getO K vc12 inX12 26 (by decide) mF_RX12_48 dX12_whole_8 H (fun x2 H => ?_)
    refine r_iload_n K 1 dX12_whole_11 rfl rfl ?_
    refine w_iald K dX12_whole_12 H (fun x3 H => ?_)
    refine w_if_le K 32 dX12_whole_13 (by decide) H (fun _ H => ?_) (fun _ H => ?_)
    · exact r_sub [0, 1, 2] rfl (t_X12_whole_32 K hl H D)
    · refine r_iload_n K 2 dX12_whole_16 rfl rfl ?_
      refine r_iconst (v := 1) K dX12_whole_17 (by decide) ?_
      refine r_aload_n K 0 dX12_whole_18 rfl rfl ?_
      refine w_getO K vc12 inX12 26 (by decide) mF_RX12_48 dX12_whole_19 H (fun x4 H => ?_)
      refine r_iload_n K 1 dX12_whole_22 rfl rfl ?_
      refine w_iald K dX12_whole_23 H (fun x5 H => ?_)
      refine w_callS K hl H (fun r h => c_X12_in l h) mC_yX12_in mM_RX12_134 mT_yX12_in mZ_RX12 (Nat.le_of_ble_eq_true rfl) (Nat.le_of_ble_eq_true rfl) np_yX12_in rfl (Nat.le_of_ble_eq_true rfl) dX12_whole_24 (fun r6 H => ?_) ⟨Nat.zero_le _, Nat.zero_le _⟩
      refine w_if_ne K 32 dX12_whole_27 (by decide) H (fun _ H => ?_) (fun _ H => ?_)
      · exact r_sub [0, 1, 2] rfl (t_X12_whole_32 K hl H D)
      · exact r_sub [] rfl (t_X12_whole_30 K hl H D)
theorem c_X12_whole (l : Launch) {n : Nat} {Y : jY} {v0 : Nat} {v1 : Int32} {v2 : Int32} {μ : jM} {z : Int32 × jM} (H : f_X12_whole Y v0 v1 v2 μ = some z) : jC l yX12_whole cX12_whole 3 (some .int) 4 0 0 [.ref v0, .int v1, .int v2] n Y μ n Y (some (.int z.1)) z.2 := by
  refine jC_of (by decide +kernel) (Nat.le_of_ble_eq_true rfl) (fun X hl K _ _ _ => ?_)
  obtain ⟨rr, μr⟩ := z
  exact t_X12_whole_0 K hl H rfl
