/-! RX11 strike(IIII)J -/
def b_X11_strike_37 (Y : jY) (μ : jM) : Option (Int64 × jM) :=
  some ((-9223372036854775808 : Int64), μ)
def f_X11_strike (Y : jY) (v0 : Nat) (v1 : Int32) (v2 : Int32) (v3 : Int32) (v4 : Int32) (μ : jM) : Option (Int64 × jM) :=
  (jrcv Y v0 11 (f_X11_isFilled Y v0 v1 μ)).bind fun r1 =>
  if r1.1 = 0 then
    b_X11_strike_37 Y r1.2
  else
    (jrcv Y v0 11 (f_X11_isRow Y v0 v1 v2 r1.2)).bind fun r2 =>
    if r2.1 = 0 then
      b_X11_strike_37 Y r2.2
    else
      (f_X11_within Y v3 ((0 : Int32)) ((8 : Int32)) r2.2).bind fun r3 =>
      if r3.1 = 0 then
        b_X11_strike_37 Y r3.2
      else
        (jrcv Y v0 11 (f_X11_isRow Y v0 v1 v4 r3.2)).bind fun r4 =>
        if r4.1 = 0 then
          b_X11_strike_37 Y r4.2
        else
          (jgO Y r4.2 v0 11 9).bind fun x5 =>
          (jgO Y r4.2 v0 11 3).bind fun x6 =>
          (jgO Y r4.2 x6 3 1).bind fun x7 =>
          (jaO Y r4.2 x7 24 v1).bind fun x8 =>
          (jrcv Y x5 4 (f_X4_swing Y x5 x8 v2 v3 v4 r4.2)).bind fun r9 =>
          some (r9.1, r9.2)
set_option maxRecDepth 10000 in
theorem t_X11_strike_37 {X : jX} {l : Launch} {n : Nat} {Y : jY} (K : jOK X RX11 cX11_strike 5 (some .long) 5) (hl : X.2.1 = l) {rr : Int64} {μr : jM} {μ : jM} {z : (Int64 × jM)} (H : b_X11_strike_37 Y μ = some z) (D : z = (rr, μr)) : JW X (jEnd X n Y (some (.long rr)) μr 0 0) 0 0 n Y 37 [] [] μ := by
  unfold b_X11_strike_37 at H
  refine r_ldc2 K (-9223372036854775808) mc_RX11_151 dX11_strike_37 ?_
  cases H
  obtain ⟨rfl, rfl⟩ := jfin2 D
  exact r_lret K dX11_strike_40
set_option maxRecDepth 10000 in
theorem t_X11_strike_0 {X : jX} {l : Launch} {n : Nat} {Y : jY} (K : jOK X RX11 cX11_strike 5 (some .long) 5) (hl : X.2.1 = l) {rr : Int64} {μr : jM} {v0 : Nat} {v1 : Int32} {v2 : Int32} {v3 : Int32} {v4 : Int32} {μ : jM} {z : (Int64 × jM)} (H : f_X11_strike Y v0 v1 v2 v3 v4 μ = some z) (D : z = (rr, μr)) : JW X (jEnd X n Y (some (.long rr)) μr 0 0) 0 0 n Y 0 [(0, .ref v0), (1, .int v1), (2, .int v2), (3, .int v3), (4, .int v4)] [] μ := by
  unfold f_X11_strike at H
  refine r_aload_n K 0 dX11_strike_0 rfl rfl ?_
  refine r_iload_n K 1 dX11_strike_1 rfl rfl ?_
  refine w_callV K hl H (fun r h => c_X11_isFilled l h) mC_yX11_isFilled mM_RX11_285 mI_yX11_isFilled mS_yX11_isFilled mZ_RX11 vc11 (Nat.le_of_ble_eq_true rfl) (Nat.le_of_ble_eq_true rfl) np_yX11_isFilled rfl (Nat.le_of_ble_eq_true rfl) dX11_strike_2 (fun r1 H => ?_) ⟨Nat.zero_le _, Nat.zero_le _⟩
  refine w_if_eq K 37 dX11_strike_5 (by decide) H (fun _ H => ?_) (fun _ H => ?_)
  · exact r_sub [] rfl (t_X11_strike_37 K hl H D)
  · refine r_aload_n K 0 dX11_strike_8 rfl rfl ?_
    refine r_iload_n K 1 dX11_strike_9 rfl rfl ?_
    refine r_iload_n K 2 dX11_strike_10 rfl rfl ?_
    refine w_callV K hl H (fun r h => c_X11_isRow l h) mC_yX11_isRow mM_RX11_312 mI_yX11_isRow mS_yX11_isRow mZ_RX11 vc11 (Nat.le_of_ble_eq_true rfl) (Nat.le_of_ble_eq_true rfl) np_yX11_isRow rfl (Nat.le_of_ble_eq_true rfl) dX11_strike_11 (fun r2 H => ?_) ⟨Nat.zero_le _, Nat.zero_le _⟩
    refine w_if_eq K 37 dX11_strike_14 (by decide) H (fun _ H => ?_) (fun _ H => ?_)
    · exact r_sub [] rfl (t_X11_strike_37 K hl H D)
    · refine r_iload_n K 3 dX11_strike_17 rfl rfl ?_
      refine r_iconst (v := 0) K dX11_strike_18 (by decide) ?_
      refine r_bipush (v := 8) K dX11_strike_19 (by decide) ?_
      refine w_callS K hl H (fun r h => c_X11_within l h) mC_yX11_within mM_RX11_133 mT_yX11_within mZ_RX11 (Nat.le_of_ble_eq_true rfl) (Nat.le_of_ble_eq_true rfl) np_yX11_within rfl (Nat.le_of_ble_eq_true rfl) dX11_strike_21 (fun r3 H => ?_) ⟨Nat.zero_le _, Nat.zero_le _⟩
      refine w_if_eq K 37 dX11_strike_24 (by decide) H (fun _ H => ?_) (fun _ H => ?_)
      · exact r_sub [] rfl (t_X11_strike_37 K hl H D)
      · refine r_aload_n K 0 dX11_strike_27 rfl rfl ?_
        refine r_iload_n K 1 dX11_strike_28 rfl rfl ?_
        refine r_iload K 4 dX11_strike_29 rfl ?_
        refine w_callV K hl H (fun r h => c_X11_isRow l h) mC_yX11_isRow mM_RX11_312 mI_yX11_isRow mS_yX11_isRow mZ_RX11 vc11 (Nat.le_of_ble_eq_true rfl) (Nat.le_of_ble_eq_true rfl) np_yX11_isRow rfl (Nat.le_of_ble_eq_true rfl) dX11_strike_31 (fun r4 H => ?_) ⟨Nat.zero_le _, Nat.zero_le _⟩
        refine w_if_ne K 41 dX11_strike_34 (by decide) H (fun _ H => ?_) (fun _ H => ?_)
        · refine r_aload_n K 0 dX11_strike_41 rfl rfl ?_
          refine w_getO K vc11 inX11 9 (by decide) mF_RX11_73 dX11_strike_42 H (fun x5 H => ?_)
          refine r_aload_n K 0 dX11_strike_45 rfl rfl ?_
          refine w_getO K vc11 inX11 3 (by decide) mF_RX11_35 dX11_strike_46 H (fun x6 H => ?_)
          refine w_getO K vc3 inX3 1 (by decide) mF_RX11_255 dX11_strike_49 H (fun x7 H => ?_)
          refine r_iload_n K 1 dX11_strike_52 rfl rfl ?_
          refine w_aald K 24 rfl rfl dX11_strike_53 H (fun x8 H => ?_)
          refine r_iload_n K 2 dX11_strike_54 rfl rfl ?_
          refine r_iload_n K 3 dX11_strike_55 rfl rfl ?_
          refine r_iload K 4 dX11_strike_56 rfl ?_
          refine w_callV K hl H (fun r h => c_X4_swing l h) mC_yX4_swing mM_RX11_343 mI_yX4_swing mS_yX4_swing mZ_RX4 vc4 (Nat.le_of_ble_eq_true rfl) (Nat.le_of_ble_eq_true rfl) np_yX4_swing rfl (Nat.le_of_ble_eq_true rfl) dX11_strike_58 (fun r9 H => ?_) ⟨Nat.zero_le _, Nat.zero_le _⟩
          cases H
          obtain ⟨rfl, rfl⟩ := jfin2 D
          exact r_lret K dX11_strike_61
        · exact r_sub [] rfl (t_X11_strike_37 K hl H D)
theorem c_X11_strike (l : Launch) {n : Nat} {Y : jY} {v0 : Nat} {v1 : Int32} {v2 : Int32} {v3 : Int32} {v4 : Int32} {μ : jM} {z : Int64 × jM} (H : f_X11_strike Y v0 v1 v2 v3 v4 μ = some z) : jC l yX11_strike cX11_strike 5 (some .long) 5 0 0 [.ref v0, .int v1, .int v2, .int v3, .int v4] n Y μ n Y (some (.long z.1)) z.2 := by
  refine jC_of (by decide +kernel) (Nat.le_of_ble_eq_true rfl) (fun X hl K _ _ _ => ?_)
  obtain ⟨rr, μr⟩ := z
  exact t_X11_strike_0 K hl H rfl
/-! RX11 kernel(II)J -/
def b_X11_kernel_25 (Y : jY) (μ : jM) : Option (Int64 × jM) :=
  some ((-9223372036854775808 : Int64), μ)
def f_X11_kernel (Y : jY) (v0 : Nat) (v1 : Int32) (v2 : Int32) (μ : jM) : Option (Int64 × jM) :=
  (jrcv Y v0 11 (f_X11_hasTones Y v0 μ)).bind fun r1 =>
  if r1.1 = 0 then
    b_X11_kernel_25 Y r1.2
  else
    (f_X11_within Y v1 ((-8 : Int32)) ((8 : Int32)) r1.2).bind fun r2 =>
    if r2.1 = 0 then
      b_X11_kernel_25 Y r2.2
    else
      (f_X11_isPart Y v2 r2.2).bind fun r3 =>
      if r3.1 = 0 then
        b_X11_kernel_25 Y r3.2
      else
        (jgO Y r3.2 v0 11 7).bind fun x4 =>
        (jgO Y r3.2 v0 11 3).bind fun x5 =>
        (jgO Y r3.2 x5 3 0).bind fun x6 =>
        (jrcv Y x4 8 (f_X8_rebuild Y x4 x6 r3.2)).bind fun μ7 =>
        (jgO Y μ7 v0 11 7).bind fun x8 =>
        (jgO Y μ7 v0 11 12).bind fun x9 =>
        (jrcv Y x8 8 (f_X8_addSquares Y x8 v1 x9 μ7)).bind fun μ10 =>
        (jgO Y μ10 v0 11 12).bind fun x11 =>
        (jrcv Y x11 1 (f_X1_part Y x11 v2 μ10)).bind fun r12 =>
        some (r12.1, r12.2)
set_option maxRecDepth 10000 in
theorem t_X11_kernel_25 {X : jX} {l : Launch} {n : Nat} {Y : jY} (K : jOK X RX11 cX11_kernel 3 (some .long) 7) (hl : X.2.1 = l) {rr : Int64} {μr : jM} {μ : jM} {z : (Int64 × jM)} (H : b_X11_kernel_25 Y μ = some z) (D : z = (rr, μr)) : JW X (jEnd X n Y (some (.long rr)) μr 0 0) 0 0 n Y 25 [] [] μ := by
  unfold b_X11_kernel_25 at H
  refine r_ldc2 K (-9223372036854775808) mc_RX11_151 dX11_kernel_25 ?_
  cases H
  obtain ⟨rfl, rfl⟩ := jfin2 D
  exact r_lret K dX11_kernel_28
set_option maxRecDepth 10000 in
theorem t_X11_kernel_0 {X : jX} {l : Launch} {n : Nat} {Y : jY} (K : jOK X RX11 cX11_kernel 3 (some .long) 7) (hl : X.2.1 = l) {rr : Int64} {μr : jM} {v0 : Nat} {v1 : Int32} {v2 : Int32} {μ : jM} {z : (Int64 × jM)} (H : f_X11_kernel Y v0 v1 v2 μ = some z) (D : z = (rr, μr)) : JW X (jEnd X n Y (some (.long rr)) μr 0 0) 0 0 n Y 0 [(0, .ref v0), (1, .int v1), (2, .int v2)] [] μ := by
  unfold f_X11_kernel at H
  refine r_aload_n K 0 dX11_kernel_0 rfl rfl ?_
  refine w_callV K hl H (fun r h => c_X11_hasTones l h) mC_yX11_hasTones mM_RX11_147 mI_yX11_hasTones mS_yX11_hasTones mZ_RX11 vc11 (Nat.le_of_ble_eq_true rfl) (Nat.le_of_ble_eq_true rfl) np_yX11_hasTones rfl (Nat.le_of_ble_eq_true rfl) dX11_kernel_1 (fun r1 H => ?_) ⟨Nat.zero_le _, Nat.zero_le _⟩
  refine w_if_eq K 25 dX11_kernel_4 (by decide) H (fun _ H => ?_) (fun _ H => ?_)
  · exact r_sub [] rfl (t_X11_kernel_25 K hl H D)
  · refine r_iload_n K 1 dX11_kernel_7 rfl rfl ?_
    refine r_bipush (v := -8) K dX11_kernel_8 (by decide) ?_
    refine r_bipush (v := 8) K dX11_kernel_10 (by decide) ?_
    refine w_callS K hl H (fun r h => c_X11_within l h) mC_yX11_within mM_RX11_133 mT_yX11_within mZ_RX11 (Nat.le_of_ble_eq_true rfl) (Nat.le_of_ble_eq_true rfl) np_yX11_within rfl (Nat.le_of_ble_eq_true rfl) dX11_kernel_12 (fun r2 H => ?_) ⟨Nat.zero_le _, Nat.zero_le _⟩
    refine w_if_eq K 25 dX11_kernel_15 (by decide) H (fun _ H => ?_) (fun _ H => ?_)
    · exact r_sub [] rfl (t_X11_kernel_25 K hl H D)
    · refine r_iload_n K 2 dX11_kernel_18 rfl rfl ?_
      refine w_callS K hl H (fun r h => c_X11_isPart l h) mC_yX11_isPart mM_RX11_170 mT_yX11_isPart mZ_RX11 (Nat.le_of_ble_eq_true rfl) (Nat.le_of_ble_eq_true rfl) np_yX11_isPart rfl (Nat.le_of_ble_eq_true rfl) dX11_kernel_19 (fun r3 H => ?_) ⟨Nat.zero_le _, Nat.zero_le _⟩
      refine w_if_ne K 29 dX11_kernel_22 (by decide) H (fun _ H => ?_) (fun _ H => ?_)
      · refine r_aload_n K 0 dX11_kernel_29 rfl rfl ?_
        refine w_getO K vc11 inX11 7 (by decide) mF_RX11_59 dX11_kernel_30 H (fun x4 H => ?_)
        refine r_aload_n K 0 dX11_kernel_33 rfl rfl ?_
        refine w_getO K vc11 inX11 3 (by decide) mF_RX11_35 dX11_kernel_34 H (fun x5 H => ?_)
        refine w_getO K vc3 inX3 0 (by decide) mF_RX11_119 dX11_kernel_37 H (fun x6 H => ?_)
        refine w_callV K hl H (fun r h => c_X8_rebuild l h) mC_yX8_rebuild mM_RX11_185 mI_yX8_rebuild mS_yX8_rebuild mZ_RX8 vc8 (Nat.le_of_ble_eq_true rfl) (Nat.le_of_ble_eq_true rfl) np_yX8_rebuild rfl (Nat.le_of_ble_eq_true rfl) dX11_kernel_40 (fun μ7 H => ?_) ⟨Nat.zero_le _, Nat.zero_le _⟩
        refine r_aload_n K 0 dX11_kernel_43 rfl rfl ?_
        refine w_getO K vc11 inX11 7 (by decide) mF_RX11_59 dX11_kernel_44 H (fun x8 H => ?_)
        refine r_iload_n K 1 dX11_kernel_47 rfl rfl ?_
        refine r_aload_n K 0 dX11_kernel_48 rfl rfl ?_
        refine w_getO K vc11 inX11 12 (by decide) mF_RX11_94 dX11_kernel_49 H (fun x9 H => ?_)
        refine w_callV K hl H (fun r h => c_X8_addSquares l h) mC_yX8_addSquares mM_RX11_225 mI_yX8_addSquares mS_yX8_addSquares mZ_RX8 vc8 (Nat.le_of_ble_eq_true rfl) (Nat.le_of_ble_eq_true rfl) np_yX8_addSquares rfl (Nat.le_of_ble_eq_true rfl) dX11_kernel_52 (fun μ10 H => ?_) ⟨Nat.zero_le _, Nat.zero_le _⟩
        refine r_aload_n K 0 dX11_kernel_55 rfl rfl ?_
        refine w_getO K vc11 inX11 12 (by decide) mF_RX11_94 dX11_kernel_56 H (fun x11 H => ?_)
        refine r_iload_n K 2 dX11_kernel_59 rfl rfl ?_
        refine w_callV K hl H (fun r h => c_X1_part l h) mC_yX1_part mM_RX11_177 mI_yX1_part mS_yX1_part mZ_RX1 vc1 (Nat.le_of_ble_eq_true rfl) (Nat.le_of_ble_eq_true rfl) np_yX1_part rfl (Nat.le_of_ble_eq_true rfl) dX11_kernel_60 (fun r12 H => ?_) ⟨Nat.zero_le _, Nat.zero_le _⟩
        cases H
        obtain ⟨rfl, rfl⟩ := jfin2 D
        exact r_lret K dX11_kernel_63
      · exact r_sub [] rfl (t_X11_kernel_25 K hl H D)
theorem c_X11_kernel (l : Launch) {n : Nat} {Y : jY} {v0 : Nat} {v1 : Int32} {v2 : Int32} {μ : jM} {z : Int64 × jM} (H : f_X11_kernel Y v0 v1 v2 μ = some z) : jC l yX11_kernel cX11_kernel 3 (some .long) 7 0 0 [.ref v0, .int v1, .int v2] n Y μ n Y (some (.long z.1)) z.2 := by
  refine jC_of (by decide +kernel) (Nat.le_of_ble_eq_true rfl) (fun X hl K _ _ _ => ?_)
  obtain ⟨rr, μr⟩ := z
  exact t_X11_kernel_0 K hl H rfl
/-! RX11 below(IIII)I -/
def b_X11_below_31 (Y : jY) (μ : jM) : Option (Int32 × jM) :=
  some ((-1 : Int32), μ)
def b_X11_below_81 (Y : jY) (t0 : Int32) (μ : jM) : Option (Int32 × jM) :=
  some (t0, μ)
def f_X11_below (Y : jY) (v0 : Nat) (v1 : Int32) (v2 : Int32) (v3 : Int32) (v4 : Int32) (μ : jM) : Option (Int32 × jM) :=
  (f_X11_isDrawer Y v1 μ).bind fun r1 =>
  if r1.1 = 0 then
    b_X11_below_31 Y r1.2
  else
    (f_X11_within Y v3 ((-1000 : Int32)) ((1000 : Int32)) r1.2).bind fun r2 =>
    if r2.1 = 0 then
      b_X11_below_31 Y r2.2
    else
      (f_X11_within Y v4 ((1 : Int32)) ((50 : Int32)) r2.2).bind fun r3 =>
      if r3.1 = 0 then
        b_X11_below_31 Y r3.2
      else
        (jgO Y r3.2 v0 11 3).bind fun x4 =>
        (jgO Y r3.2 x4 3 1).bind fun x5 =>
        (jaO Y r3.2 x5 24 v1).bind fun x6 =>
        (jgI Y r3.2 x6 10 0).bind fun x7 =>
        if x7 = 0 then
          some ((-2 : Int32), r3.2)
        else
          (jgI Y r3.2 x6 10 0).bind fun x8 =>
          (f_X11_within Y v2 ((1 : Int32)) x8 r3.2).bind fun r9 =>
          if r9.1 = 0 then
            b_X11_below_81 Y (-1 : Int32) r9.2
          else
            (jrcv Y x6 10 (f_X10_rootsBelow Y x6 v2 v3 v4 r9.2)).bind fun r10 =>
            b_X11_below_81 Y r10.1 r10.2
set_option maxRecDepth 10000 in
theorem t_X11_below_31 {X : jX} {l : Launch} {n : Nat} {Y : jY} (K : jOK X RX11 cX11_below 6 (some .int) 3) (hl : X.2.1 = l) {rr : Int32} {μr : jM} {μ : jM} {z : (Int32 × jM)} (H : b_X11_below_31 Y μ = some z) (D : z = (rr, μr)) : JW X (jEnd X n Y (some (.int rr)) μr 0 0) 0 0 n Y 31 [] [] μ := by
  unfold b_X11_below_31 at H
  refine r_iconst (v := -1) K dX11_below_31 (by decide) ?_
  cases H
  obtain ⟨rfl, rfl⟩ := jfin2 D
  exact r_iret K dX11_below_32
set_option maxRecDepth 10000 in
theorem t_X11_below_81 {X : jX} {l : Launch} {n : Nat} {Y : jY} (K : jOK X RX11 cX11_below 6 (some .int) 3) (hl : X.2.1 = l) {rr : Int32} {μr : jM} {t0 : Int32} {μ : jM} {z : (Int32 × jM)} (H : b_X11_below_81 Y t0 μ = some z) (D : z = (rr, μr)) : JW X (jEnd X n Y (some (.int rr)) μr 0 0) 0 0 n Y 81 [] [.int t0] μ := by
  unfold b_X11_below_81 at H
  cases H
  obtain ⟨rfl, rfl⟩ := jfin2 D
  exact r_iret K dX11_below_81
set_option maxRecDepth 10000 in
theorem t_X11_below_0 {X : jX} {l : Launch} {n : Nat} {Y : jY} (K : jOK X RX11 cX11_below 6 (some .int) 3) (hl : X.2.1 = l) {rr : Int32} {μr : jM} {v0 : Nat} {v1 : Int32} {v2 : Int32} {v3 : Int32} {v4 : Int32} {μ : jM} {z : (Int32 × jM)} (H : f_X11_below Y v0 v1 v2 v3 v4 μ = some z) (D : z = (rr, μr)) : JW X (jEnd X n Y (some (.int rr)) μr 0 0) 0 0 n Y 0 [(0, .ref v0), (1, .int v1), (2, .int v2), (3, .int v3), (4, .int v4)] [] μ := by
  unfold f_X11_below at H
  refine r_iload_n K 1 dX11_below_0 rfl rfl ?_
  refine w_callS K hl H (fun r h => c_X11_isDrawer l h) mC_yX11_isDrawer mM_RX11_252 mT_yX11_isDrawer mZ_RX11 (Nat.le_of_ble_eq_true rfl) (Nat.le_of_ble_eq_true rfl) np_yX11_isDrawer rfl (Nat.le_of_ble_eq_true rfl) dX11_below_1 (fun r1 H => ?_) ⟨Nat.zero_le _, Nat.zero_le _⟩
  refine w_if_eq K 31 dX11_below_4 (by decide) H (fun _ H => ?_) (fun _ H => ?_)
  · exact r_sub [] rfl (t_X11_below_31 K hl H D)
  · refine r_iload_n K 3 dX11_below_7 rfl rfl ?_
    refine r_sipush (v := -1000) K dX11_below_8 (by decide) ?_
    refine r_sipush (v := 1000) K dX11_below_11 (by decide) ?_
    refine w_callS K hl H (fun r h => c_X11_within l h) mC_yX11_within mM_RX11_133 mT_yX11_within mZ_RX11 (Nat.le_of_ble_eq_true rfl) (Nat.le_of_ble_eq_true rfl) np_yX11_within rfl (Nat.le_of_ble_eq_true rfl) dX11_below_14 (fun r2 H => ?_) ⟨Nat.zero_le _, Nat.zero_le _⟩
    refine w_if_eq K 31 dX11_below_17 (by decide) H (fun _ H => ?_) (fun _ H => ?_)
    · exact r_sub [] rfl (t_X11_below_31 K hl H D)
    · refine r_iload K 4 dX11_below_20 rfl ?_
      refine r_iconst (v := 1) K dX11_below_22 (by decide) ?_
      refine r_bipush (v := 50) K dX11_below_23 (by decide) ?_
      refine w_callS K hl H (fun r h => c_X11_within l h) mC_yX11_within mM_RX11_133 mT_yX11_within mZ_RX11 (Nat.le_of_ble_eq_true rfl) (Nat.le_of_ble_eq_true rfl) np_yX11_within rfl (Nat.le_of_ble_eq_true rfl) dX11_below_25 (fun r3 H => ?_) ⟨Nat.zero_le _, Nat.zero_le _⟩
      refine w_if_ne K 33 dX11_below_28 (by decide) H (fun _ H => ?_) (fun _ H => ?_)
      · refine r_aload_n K 0 dX11_below_33 rfl rfl ?_
        refine w_getO K vc11 inX11 3 (by decide) mF_RX11_35 dX11_below_34 H (fun x4 H => ?_)
        refine w_getO K vc3 inX3 1 (by decide) mF_RX11_255 dX11_below_37 H (fun x5 H => ?_)
        refine r_iload_n K 1 dX11_below_40 rfl rfl ?_
        refine w_aald K 24 rfl rfl dX11_below_41 H (fun x6 H => ?_)
        refine r_astore K [(5, .ref _), (0, .ref _), (1, .int _), (2, .int _), (3, .int _), (4, .int _)] dX11_below_42 (by decide) rfl ?_
        refine r_aload K 0 dX11_below_44 rfl ?_
        refine w_getI K vc10 inX10 0 (by decide) mF_RX11_263 dX11_below_46 H (fun x7 H => ?_)
        refine w_if_ne K 55 dX11_below_49 (by decide) H (fun _ H => ?_) (fun _ H => ?_)
        · refine r_iload_n K 3 dX11_below_55 rfl rfl ?_
          refine r_iconst (v := 1) K dX11_below_56 (by decide) ?_
          refine r_aload K 0 dX11_below_57 rfl ?_
          refine w_getI K vc10 inX10 0 (by decide) mF_RX11_263 dX11_below_59 H (fun x8 H => ?_)
          refine w_callS K hl H (fun r h => c_X11_within l h) mC_yX11_within mM_RX11_133 mT_yX11_within mZ_RX11 (Nat.le_of_ble_eq_true rfl) (Nat.le_of_ble_eq_true rfl) np_yX11_within rfl (Nat.le_of_ble_eq_true rfl) dX11_below_62 (fun r9 H => ?_) ⟨Nat.zero_le _, Nat.zero_le _⟩
          refine w_if_eq K 80 dX11_below_65 (by decide) H (fun _ H => ?_) (fun _ H => ?_)
          · refine r_iconst (v := -1) K dX11_below_80 (by decide) ?_
            exact r_sub [] rfl (t_X11_below_81 K hl H D)
          · refine r_aload K 0 dX11_below_68 rfl ?_
            refine r_iload_n K 3 dX11_below_70 rfl rfl ?_
            refine r_iload_n K 4 dX11_below_71 rfl rfl ?_
            refine r_iload K 5 dX11_below_72 rfl ?_
            refine w_callV K hl H (fun r h => c_X10_rootsBelow l h) mC_yX10_rootsBelow mM_RX11_300 mI_yX10_rootsBelow mS_yX10_rootsBelow mZ_RX10 vc10 (Nat.le_of_ble_eq_true rfl) (Nat.le_of_ble_eq_true rfl) np_yX10_rootsBelow rfl (Nat.le_of_ble_eq_true rfl) dX11_below_74 (fun r10 H => ?_) ⟨Nat.zero_le _, Nat.zero_le _⟩
            refine r_goto K 81 dX11_below_77 (by decide) ?_
            exact r_sub [] rfl (t_X11_below_81 K hl H D)
        · refine r_bipush (v := -2) K dX11_below_52 (by decide) ?_
          cases H
          obtain ⟨rfl, rfl⟩ := jfin2 D
          exact r_iret K dX11_below_54
      · exact r_sub [] rfl (t_X11_below_31 K hl H D)
theorem c_X11_below (l : Launch) {n : Nat} {Y : jY} {v0 : Nat} {v1 : Int32} {v2 : Int32} {v3 : Int32} {v4 : Int32} {μ : jM} {z : Int32 × jM} (H : f_X11_below Y v0 v1 v2 v3 v4 μ = some z) : jC l yX11_below cX11_below 6 (some .int) 3 0 0 [.ref v0, .int v1, .int v2, .int v3, .int v4] n Y μ n Y (some (.int z.1)) z.2 := by
  refine jC_of (by decide +kernel) (Nat.le_of_ble_eq_true rfl) (fun X hl K _ _ _ => ?_)
  obtain ⟨rr, μr⟩ := z
  exact t_X11_below_0 K hl H rfl
/-! RX11 determinant(II)J -/
def b_X11_determinant_25 (Y : jY) (μ : jM) : Option (Int64 × jM) :=
  some ((-9223372036854775808 : Int64), μ)
def f_X11_determinant (Y : jY) (v0 : Nat) (v1 : Int32) (v2 : Int32) (μ : jM) : Option (Int64 × jM) :=
  (jrcv Y v0 11 (f_X11_hasTones Y v0 μ)).bind fun r1 =>
  if r1.1 = 0 then
    b_X11_determinant_25 Y r1.2
  else
    (f_X11_within Y v1 ((0 : Int32)) ((4 : Int32)) r1.2).bind fun r2 =>
    if r2.1 = 0 then
      b_X11_determinant_25 Y r2.2
    else
      (f_X11_within Y v2 ((0 : Int32)) ((1 : Int32)) r2.2).bind fun r3 =>
      if r3.1 = 0 then
        b_X11_determinant_25 Y r3.2
      else
        (jgO Y r3.2 v0 11 6).bind fun x4 =>
        (jgO Y r3.2 v0 11 3).bind fun x5 =>
        (jgO Y r3.2 x5 3 0).bind fun x6 =>
        (jrcv Y x4 7 (f_X7_rebuild Y x4 x6 r3.2)).bind fun μ7 =>
        (jgO Y μ7 v0 11 6).bind fun x8 =>
        (jrcv Y x8 7 (f_X7_momentTable Y x8 v1 v2 μ7)).bind fun r9 =>
        some (r9.1, r9.2)
set_option maxRecDepth 10000 in
theorem t_X11_determinant_25 {X : jX} {l : Launch} {n : Nat} {Y : jY} (K : jOK X RX11 cX11_determinant 3 (some .long) 11) (hl : X.2.1 = l) {rr : Int64} {μr : jM} {μ : jM} {z : (Int64 × jM)} (H : b_X11_determinant_25 Y μ = some z) (D : z = (rr, μr)) : JW X (jEnd X n Y (some (.long rr)) μr 0 0) 0 0 n Y 25 [] [] μ := by
  unfold b_X11_determinant_25 at H
  refine r_ldc2 K (-9223372036854775808) mc_RX11_151 dX11_determinant_25 ?_
  cases H
  obtain ⟨rfl, rfl⟩ := jfin2 D
  exact r_lret K dX11_determinant_28
set_option maxRecDepth 10000 in
theorem t_X11_determinant_0 {X : jX} {l : Launch} {n : Nat} {Y : jY} (K : jOK X RX11 cX11_determinant 3 (some .long) 11) (hl : X.2.1 = l) {rr : Int64} {μr : jM} {v0 : Nat} {v1 : Int32} {v2 : Int32} {μ : jM} {z : (Int64 × jM)} (H : f_X11_determinant Y v0 v1 v2 μ = some z) (D : z = (rr, μr)) : JW X (jEnd X n Y (some (.long rr)) μr 0 0) 0 0 n Y 0 [(0, .ref v0), (1, .int v1), (2, .int v2)] [] μ := by
  unfold f_X11_determinant at H
  refine r_aload_n K 0 dX11_determinant_0 rfl rfl ?_
  refine w_callV K hl H (fun r h => c_X11_hasTones l h) mC_yX11_hasTones mM_RX11_147 mI_yX11_hasTones mS_yX11_hasTones mZ_RX11 vc11 (Nat.le_of_ble_eq_true rfl) (Nat.le_of_ble_eq_true rfl) np_yX11_hasTones rfl (Nat.le_of_ble_eq_true rfl) dX11_determinant_1 (fun r1 H => ?_) ⟨Nat.zero_le _, Nat.zero_le _⟩
  refine w_if_eq K 25 dX11_determinant_4 (by decide) H (fun _ H => ?_) (fun _ H => ?_)
  · exact r_sub [] rfl (t_X11_determinant_25 K hl H D)
  · refine r_iload_n K 1 dX11_determinant_7 rfl rfl ?_
    refine r_iconst (v := 0) K dX11_determinant_8 (by decide) ?_
    refine r_iconst (v := 4) K dX11_determinant_9 (by decide) ?_
    refine w_callS K hl H (fun r h => c_X11_within l h) mC_yX11_within mM_RX11_133 mT_yX11_within mZ_RX11 (Nat.le_of_ble_eq_true rfl) (Nat.le_of_ble_eq_true rfl) np_yX11_within rfl (Nat.le_of_ble_eq_true rfl) dX11_determinant_10 (fun r2 H => ?_) ⟨Nat.zero_le _, Nat.zero_le _⟩
    refine w_if_eq K 25 dX11_determinant_13 (by decide) H (fun _ H => ?_) (fun _ H => ?_)
    · exact r_sub [] rfl (t_X11_determinant_25 K hl H D)
    · refine r_iload_n K 2 dX11_determinant_16 rfl rfl ?_
      refine r_iconst (v := 0) K dX11_determinant_17 (by decide) ?_
      refine r_iconst (v := 1) K dX11_determinant_18 (by decide) ?_
      refine w_callS K hl H (fun r h => c_X11_within l h) mC_yX11_within mM_RX11_133 mT_yX11_within mZ_RX11 (Nat.le_of_ble_eq_true rfl) (Nat.le_of_ble_eq_true rfl) np_yX11_within rfl (Nat.le_of_ble_eq_true rfl) dX11_determinant_19 (fun r3 H => ?_) ⟨Nat.zero_le _, Nat.zero_le _⟩
      refine w_if_ne K 29 dX11_determinant_22 (by decide) H (fun _ H => ?_) (fun _ H => ?_)
      · refine r_aload_n K 0 dX11_determinant_29 rfl rfl ?_
        refine w_getO K vc11 inX11 6 (by decide) mF_RX11_50 dX11_determinant_30 H (fun x4 H => ?_)
        refine r_aload_n K 0 dX11_determinant_33 rfl rfl ?_
        refine w_getO K vc11 inX11 3 (by decide) mF_RX11_35 dX11_determinant_34 H (fun x5 H => ?_)
        refine w_getO K vc3 inX3 0 (by decide) mF_RX11_119 dX11_determinant_37 H (fun x6 H => ?_)
        refine w_callV K hl H (fun r h => c_X7_rebuild l h) mC_yX7_rebuild mM_RX11_153 mI_yX7_rebuild mS_yX7_rebuild mZ_RX7 vc7 (Nat.le_of_ble_eq_true rfl) (Nat.le_of_ble_eq_true rfl) np_yX7_rebuild rfl (Nat.le_of_ble_eq_true rfl) dX11_determinant_40 (fun μ7 H => ?_) ⟨Nat.zero_le _, Nat.zero_le _⟩
        refine r_aload_n K 0 dX11_determinant_43 rfl rfl ?_
        refine w_getO K vc11 inX11 6 (by decide) mF_RX11_50 dX11_determinant_44 H (fun x8 H => ?_)
        refine r_iload_n K 1 dX11_determinant_47 rfl rfl ?_
        refine r_iload_n K 2 dX11_determinant_48 rfl rfl ?_
        refine w_callV K hl H (fun r h => c_X7_momentTable l h) mC_yX7_momentTable mM_RX11_181 mI_yX7_momentTable mS_yX7_momentTable mZ_RX7 vc7 (Nat.le_of_ble_eq_true rfl) (Nat.le_of_ble_eq_true rfl) np_yX7_momentTable rfl (Nat.le_of_ble_eq_true rfl) dX11_determinant_49 (fun r9 H => ?_) ⟨Nat.zero_le _, Nat.zero_le _⟩
        cases H
        obtain ⟨rfl, rfl⟩ := jfin2 D
        exact r_lret K dX11_determinant_52
      · exact r_sub [] rfl (t_X11_determinant_25 K hl H D)
theorem c_X11_determinant (l : Launch) {n : Nat} {Y : jY} {v0 : Nat} {v1 : Int32} {v2 : Int32} {μ : jM} {z : Int64 × jM} (H : f_X11_determinant Y v0 v1 v2 μ = some z) : jC l yX11_determinant cX11_determinant 3 (some .long) 11 0 0 [.ref v0, .int v1, .int v2] n Y μ n Y (some (.long z.1)) z.2 := by
  refine jC_of (by decide +kernel) (Nat.le_of_ble_eq_true rfl) (fun X hl K _ _ _ => ?_)
  obtain ⟨rr, μr⟩ := z
  exact t_X11_determinant_0 K hl H rfl
/-! RX11 chain(III)J -/
def b_X11_chain_31 (Y : jY) (μ : jM) : Option (Int64 × jM) :=
  some ((-9223372036854775808 : Int64), μ)
def b_X11_chain_100 (Y : jY) (t0 : Int64) (μ : jM) : Option (Int64 × jM) :=
  some (t0, μ)
def f_X11_chain (Y : jY) (v0 : Nat) (v1 : Int32) (v2 : Int32) (v3 : Int32) (μ : jM) : Option (Int64 × jM) :=
  (jrcv Y v0 11 (f_X11_hasTones Y v0 μ)).bind fun r1 =>
  if r1.1 = 0 then
    b_X11_chain_31 Y r1.2
  else
    (f_X11_within Y v1 ((0 : Int32)) ((1 : Int32)) r1.2).bind fun r2 =>
    if r2.1 = 0 then
      b_X11_chain_31 Y r2.2
    else
      (jrcv Y v0 11 (f_X11_isTone Y v0 v2 r2.2)).bind fun r3 =>
      if r3.1 = 0 then
        b_X11_chain_31 Y r3.2
      else
        (f_X11_isPart Y v3 r3.2).bind fun r4 =>
        if r4.1 = 0 then
          b_X11_chain_31 Y r4.2
        else
          (jrcv Y v0 11 (f_X11_hasChain Y v0 r4.2)).bind fun r5 =>
          if r5.1 = 0 then
            some ((-2 : Int64), r5.2)
          else
            (jgO Y r5.2 v0 11 7).bind fun x6 =>
            (jgO Y r5.2 v0 11 3).bind fun x7 =>
            (jgO Y r5.2 x7 3 0).bind fun x8 =>
            (jrcv Y x6 8 (f_X8_rebuild Y x6 x8 r5.2)).bind fun μ9 =>
            (jgO Y μ9 v0 11 7).bind fun x10 =>
            (jrcv Y x10 8 (f_X8_hang Y x10 μ9)).bind fun μ11 =>
            if v1 = 0 then
              (jgO Y μ11 v0 11 7).bind fun x16 =>
              (jgO Y μ11 x16 8 4).bind fun x17 =>
              (jaO Y μ11 x17 23 v2).bind fun x18 =>
              (jrcv Y x18 1 (f_X1_part Y x18 v3 μ11)).bind fun r19 =>
              b_X11_chain_100 Y r19.1 r19.2
            else
              (jgO Y μ11 v0 11 7).bind fun x12 =>
              (jgO Y μ11 x12 8 5).bind fun x13 =>
              (jaO Y μ11 x13 23 v2).bind fun x14 =>
              (jrcv Y x14 1 (f_X1_part Y x14 v3 μ11)).bind fun r15 =>
              b_X11_chain_100 Y r15.1 r15.2
set_option maxRecDepth 10000 in
theorem t_X11_chain_31 {X : jX} {l : Launch} {n : Nat} {Y : jY} (K : jOK X RX11 cX11_chain 4 (some .long) 7) (hl : X.2.1 = l) {rr : Int64} {μr : jM} {μ : jM} {z : (Int64 × jM)} (H : b_X11_chain_31 Y μ = some z) (D : z = (rr, μr)) : JW X (jEnd X n Y (some (.long rr)) μr 0 0) 0 0 n Y 31 [] [] μ := by
  unfold b_X11_chain_31 at H
  refine r_ldc2 K (-9223372036854775808) mc_RX11_151 dX11_chain_31 ?_
  cases H
  obtain ⟨rfl, rfl⟩ := jfin2 D
  exact r_lret K dX11_chain_34
set_option maxRecDepth 10000 in
theorem t_X11_chain_100 {X : jX} {l : Launch} {n : Nat} {Y : jY} (K : jOK X RX11 cX11_chain 4 (some .long) 7) (hl : X.2.1 = l) {rr : Int64} {μr : jM} {t0 : Int64} {μ : jM} {z : (Int64 × jM)} (H : b_X11_chain_100 Y t0 μ = some z) (D : z = (rr, μr)) : JW X (jEnd X n Y (some (.long rr)) μr 0 0) 0 0 n Y 100 [] [.long t0] μ := by
  unfold b_X11_chain_100 at H
  cases H
  obtain ⟨rfl, rfl⟩ := jfin2 D
  exact r_lret K dX11_chain_100
set_option maxRecDepth 10000 in
theorem t_X11_chain_0 {X : jX} {l : Launch} {n : Nat} {Y : jY} (K : jOK X RX11 cX11_chain 4 (some .long) 7) (hl : X.2.1 = l) {rr : Int64} {μr : jM} {v0 : Nat} {v1 : Int32} {v2 : Int32} {v3 : Int32} {μ : jM} {z : (Int64 × jM)} (H : f_X11_chain Y v0 v1 v2 v3 μ = some z) (D : z = (rr, μr)) : JW X (jEnd X n Y (some (.long rr)) μr 0 0) 0 0 n Y 0 [(0, .ref v0), (1, .int v1), (2, .int v2), (3, .int v3)] [] μ := by
  unfold f_X11_chain at H
  refine r_aload_n K 0 dX11_chain_0 rfl rfl ?_
  refine w_callV K hl H (fun r h => c_X11_hasTones l h) mC_yX11_hasTones mM_RX11_147 mI_yX11_hasTones mS_yX11_hasTones mZ_RX11 vc11 (Nat.le_of_ble_eq_true rfl) (Nat.le_of_ble_eq_true rfl) np_yX11_hasTones rfl (Nat.le_of_ble_eq_true rfl) dX11_chain_1 (fun r1 H => ?_) ⟨Nat.zero_le _, Nat.zero_le _⟩
  refine w_if_eq K 31 dX11_chain_4 (by decide) H (fun _ H => ?_) (fun _ H => ?_)
  · exact r_sub [] rfl (t_X11_chain_31 K hl H D)
  · refine r_iload_n K 1 dX11_chain_7 rfl rfl ?_
    refine r_iconst (v := 0) K dX11_chain_8 (by decide) ?_
    refine r_iconst (v := 1) K dX11_chain_9 (by decide) ?_
    refine w_callS K hl H (fun r h => c_X11_within l h) mC_yX11_within mM_RX11_133 mT_yX11_within mZ_RX11 (Nat.le_of_ble_eq_true rfl) (Nat.le_of_ble_eq_true rfl) np_yX11_within rfl (Nat.le_of_ble_eq_true rfl) dX11_chain_10 (fun r2 H => ?_) ⟨Nat.zero_le _, Nat.zero_le _⟩
    refine w_if_eq K 31 dX11_chain_13 (by decide) H (fun _ H => ?_) (fun _ H => ?_)
    · exact r_sub [] rfl (t_X11_chain_31 K hl H D)
    · refine r_aload_n K 0 dX11_chain_16 rfl rfl ?_
      refine r_iload_n K 2 dX11_chain_17 rfl rfl ?_
      refine w_callV K hl H (fun r h => c_X11_isTone l h) mC_yX11_isTone mM_RX11_167 mI_yX11_isTone mS_yX11_isTone mZ_RX11 vc11 (Nat.le_of_ble_eq_true rfl) (Nat.le_of_ble_eq_true rfl) np_yX11_isTone rfl (Nat.le_of_ble_eq_true rfl) dX11_chain_18 (fun r3 H => ?_) ⟨Nat.zero_le _, Nat.zero_le _⟩
      refine w_if_eq K 31 dX11_chain_21 (by decide) H (fun _ H => ?_) (fun _ H => ?_)
      · exact r_sub [] rfl (t_X11_chain_31 K hl H D)
      · refine r_iload_n K 3 dX11_chain_24 rfl rfl ?_
        refine w_callS K hl H (fun r h => c_X11_isPart l h) mC_yX11_isPart mM_RX11_170 mT_yX11_isPart mZ_RX11 (Nat.le_of_ble_eq_true rfl) (Nat.le_of_ble_eq_true rfl) np_yX11_isPart rfl (Nat.le_of_ble_eq_true rfl) dX11_chain_25 (fun r4 H => ?_) ⟨Nat.zero_le _, Nat.zero_le _⟩
        refine w_if_ne K 35 dX11_chain_28 (by decide) H (fun _ H => ?_) (fun _ H => ?_)
        · refine r_aload_n K 0 dX11_chain_35 rfl rfl ?_
          refine w_callV K hl H (fun r h => c_X11_hasChain l h) mC_yX11_hasChain mM_RX11_203 mI_yX11_hasChain mS_yX11_hasChain mZ_RX11 vc11 (Nat.le_of_ble_eq_true rfl) (Nat.le_of_ble_eq_true rfl) np_yX11_hasChain rfl (Nat.le_of_ble_eq_true rfl) dX11_chain_36 (fun r5 H => ?_) ⟨Nat.zero_le _, Nat.zero_le _⟩
          refine w_if_ne K 46 dX11_chain_39 (by decide) H (fun _ H => ?_) (fun _ H => ?_)
          · refine r_aload_n K 0 dX11_chain_46 rfl rfl ?_
            refine w_getO K vc11 inX11 7 (by decide) mF_RX11_59 dX11_chain_47 H (fun x6 H => ?_)
            refine r_aload_n K 0 dX11_chain_50 rfl rfl ?_
            refine w_getO K vc11 inX11 3 (by decide) mF_RX11_35 dX11_chain_51 H (fun x7 H => ?_)
            refine w_getO K vc3 inX3 0 (by decide) mF_RX11_119 dX11_chain_54 H (fun x8 H => ?_)
            refine w_callV K hl H (fun r h => c_X8_rebuild l h) mC_yX8_rebuild mM_RX11_185 mI_yX8_rebuild mS_yX8_rebuild mZ_RX8 vc8 (Nat.le_of_ble_eq_true rfl) (Nat.le_of_ble_eq_true rfl) np_yX8_rebuild rfl (Nat.le_of_ble_eq_true rfl) dX11_chain_57 (fun μ9 H => ?_) ⟨Nat.zero_le _, Nat.zero_le _⟩
            refine r_aload_n K 0 dX11_chain_60 rfl rfl ?_
            refine w_getO K vc11 inX11 7 (by decide) mF_RX11_59 dX11_chain_61 H (fun x10 H => ?_)
            refine w_callV K hl H (fun r h => c_X8_hang l h) mC_yX8_hang mM_RX11_206 mI_yX8_hang mS_yX8_hang mZ_RX8 vc8 (Nat.le_of_ble_eq_true rfl) (Nat.le_of_ble_eq_true rfl) np_yX8_hang rfl (Nat.le_of_ble_eq_true rfl) dX11_chain_64 (fun μ11 H => ?_) ⟨Nat.zero_le _, Nat.zero_le _⟩
            refine r_iload_n K 1 dX11_chain_67 rfl rfl ?_
            refine w_if_ne K 87 dX11_chain_68 (by decide) H (fun _ H => ?_) (fun _ H => ?_)
            · refine r_aload_n K 0 dX11_chain_87 rfl rfl ?_
              refine w_getO K vc11 inX11 7 (by decide) mF_RX11_59 dX11_chain_88 H (fun x12 H => ?_)
              refine w_getO K vc8 inX8 5 (by decide) mF_RX11_212 dX11_chain_91 H (fun x13 H => ?_)
              refine r_iload_n K 2 dX11_chain_94 rfl rfl ?_
              refine w_aald K 23 rfl rfl dX11_chain_95 H (fun x14 H => ?_)
              refine r_iload_n K 3 dX11_chain_96 rfl rfl ?_
              refine w_callV K hl H (fun r h => c_X1_part l h) mC_yX1_part mM_RX11_177 mI_yX1_part mS_yX1_part mZ_RX1 vc1 (Nat.le_of_ble_eq_true rfl) (Nat.le_of_ble_eq_true rfl) np_yX1_part rfl (Nat.le_of_ble_eq_true rfl) dX11_chain_97 (fun r15 H => ?_) ⟨Nat.zero_le _, Nat.zero_le _⟩
              exact r_sub [] rfl (t_X11_chain_100 K hl H D)
            · refine r_aload_n K 0 dX11_chain_71 rfl rfl ?_
              refine w_getO K vc11 inX11 7 (by decide) mF_RX11_59 dX11_chain_72 H (fun x16 H => ?_)
              refine w_getO K vc8 inX8 4 (by decide) mF_RX11_209 dX11_chain_75 H (fun x17 H => ?_)
              refine r_iload_n K 2 dX11_chain_78 rfl rfl ?_
              refine w_aald K 23 rfl rfl dX11_chain_79 H (fun x18 H => ?_)
              refine r_iload_n K 3 dX11_chain_80 rfl rfl ?_
              refine w_callV K hl H (fun r h => c_X1_part l h) mC_yX1_part mM_RX11_177 mI_yX1_part mS_yX1_part mZ_RX1 vc1 (Nat.le_of_ble_eq_true rfl) (Nat.le_of_ble_eq_true rfl) np_yX1_part rfl (Nat.le_of_ble_eq_true rfl) dX11_chain_81 (fun r19 H => ?_) ⟨Nat.zero_le _, Nat.zero_le _⟩
              refine r_goto K 100 dX11_chain_84 (by decide) ?_
              exact r_sub [] rfl (t_X11_chain_100 K hl H D)
          · refine r_ldc2 K (-2) mc_RX11_201 dX11_chain_42 ?_
            cases H
            obtain ⟨rfl, rfl⟩ := jfin2 D
            exact r_lret K dX11_chain_45
        · exact r_sub [] rfl (t_X11_chain_31 K hl H D)
theorem c_X11_chain (l : Launch) {n : Nat} {Y : jY} {v0 : Nat} {v1 : Int32} {v2 : Int32} {v3 : Int32} {μ : jM} {z : Int64 × jM} (H : f_X11_chain Y v0 v1 v2 v3 μ = some z) : jC l yX11_chain cX11_chain 4 (some .long) 7 0 0 [.ref v0, .int v1, .int v2, .int v3] n Y μ n Y (some (.long z.1)) z.2 := by
  refine jC_of (by decide +kernel) (Nat.le_of_ble_eq_true rfl) (fun X hl K _ _ _ => ?_)
  obtain ⟨rr, μr⟩ := z
  exact t_X11_chain_0 K hl H rfl
/-! RX11 tune(ZII)I -/
def b_X11_tune_61 (Y : jY) (μ : jM) : Option (Int32 × jM) :=
  some ((-1 : Int32), μ)
def b_X11_tune_104 (Y : jY) (v0 : Nat) (μ : jM) : Option (Int32 × jM) :=
  (jrcv Y v0 11 (f_X11_takeSpareTones Y v0 μ)).bind fun r1 =>
  some (r1.1, r1.2)
def b_X11_tune_31 (Y : jY) (v0 : Nat) (v1 : Int32) (v2 : Int32) (v3 : Int32) (t0 : Int32) (μ : jM) : Option (Int32 × jM) :=
  (jrcv Y v0 11 (f_X11_hasTones Y v0 μ)).bind fun r1 =>
  if r1.1 = 0 then
    b_X11_tune_61 Y r1.2
  else
    (f_X11_within Y v2 ((0 : Int32)) t0 r1.2).bind fun r2 =>
    if r2.1 = 0 then
      b_X11_tune_61 Y r2.2
    else
      (f_X11_within Y v3 ((-6 : Int32)) ((6 : Int32)) r2.2).bind fun r3 =>
      if r3.1 = 0 then
        b_X11_tune_61 Y r3.2
      else
        (jgO Y r3.2 v0 11 11).bind fun x4 =>
        (jgO Y r3.2 v0 11 3).bind fun x5 =>
        (jgO Y r3.2 x5 3 0).bind fun x6 =>
        (jrcv Y x4 9 (f_X9_copy Y x4 x6 r3.2)).bind fun μ7 =>
        if v1 = 0 then
          (jgO Y μ7 v0 11 11).bind fun x8 =>
          (jgO Y μ7 x8 9 2).bind fun x9 =>
          (jas Y μ7 x9 20 v2 (.int v3)).bind fun μ10 =>
          b_X11_tune_104 Y v0 μ10
        else
          (jgO Y μ7 v0 11 11).bind fun x11 =>
          (jgO Y μ7 x11 9 1).bind fun x12 =>
          (jas Y μ7 x12 20 v2 (.int v3)).bind fun μ13 =>
          b_X11_tune_104 Y v0 μ13
def f_X11_tune (Y : jY) (v0 : Nat) (v1 : Int32) (v2 : Int32) (v3 : Int32) (μ : jM) : Option (Int32 × jM) :=
  if v1 = 0 then
    (jgO Y μ v0 11 3).bind fun x1 =>
    (jgO Y μ x1 3 0).bind fun x2 =>
    (jgI Y μ x2 9 0).bind fun x3 =>
    b_X11_tune_31 Y v0 v1 v2 v3 (x3 - ((2 : Int32))) μ
  else
    (jgO Y μ v0 11 3).bind fun x4 =>
    (jgO Y μ x4 3 0).bind fun x5 =>
    (jgI Y μ x5 9 0).bind fun x6 =>
    b_X11_tune_31 Y v0 v1 v2 v3 (x6 - ((1 : Int32))) μ
set_option maxRecDepth 10000 in
theorem t_X11_tune_61 {X : jX} {l : Launch} {n : Nat} {Y : jY} (K : jOK X RX11 cX11_tune 5 (some .int) 4) (hl : X.2.1 = l) {rr : Int32} {μr : jM} {μ : jM} {z : (Int32 × jM)} (H : b_X11_tune_61 Y μ = some z) (D : z = (rr, μr)) : JW X (jEnd X n Y (some (.int rr)) μr 0 0) 0 0 n Y 61 [] [] μ := by
  unfold b_X11_tune_61 at H
  refine r_iconst (v := -1) K dX11_tune_61 (by decide) ?_
  cases H
  obtain ⟨rfl, rfl⟩ := jfin2 D
  exact r_iret K dX11_tune_62
set_option maxRecDepth 10000 in
theorem t_X11_tune_104 {X : jX} {l : Launch} {n : Nat} {Y : jY} (K : jOK X RX11 cX11_tune 5 (some .int) 4) (hl : X.2.1 = l) {rr : Int32} {μr : jM} {v0 : Nat} {μ : jM} {z : (Int32 × jM)} (H : b_X11_tune_104 Y v0 μ = some z) (D : z = (rr, μr)) : JW X (jEnd X n Y (some (.int rr)) μr 0 0) 0 0 n Y 104 [(0, .ref v0)] [] μ := by
  unfold b_X11_tune_104 at H
  refine r_aload_n K 0 dX11_tune_104 rfl rfl ?_
  refine w_callV K hl H (fun r h => c_X11_takeSpareTones l h) mC_yX11_takeSpareTones mM_RX11_249 mI_yX11_takeSpareTones mS_yX11_takeSpareTones mZ_RX11 vc11 (Nat.le_of_ble_eq_true rfl) (Nat.le_of_ble_eq_true rfl) np_yX11_takeSpareTones rfl (Nat.le_of_ble_eq_true rfl) dX11_tune_105 (fun r1 H => ?_) ⟨Nat.zero_le _, Nat.zero_le _⟩
  cases H
  obtain ⟨rfl, rfl⟩ := jfin2 D
  exact r_iret K dX11_tune_108
set_option maxRecDepth 10000 in
theorem t_X11_tune_31 {X : jX} {l : Launch} {n : Nat} {Y : jY} (K : jOK X RX11 cX11_tune 5 (some .int) 4) (hl : X.2.1 = l) {rr : Int32} {μr : jM} {v0 : Nat} {v1 : Int32} {v2 : Int32} {v3 : Int32} {t0 : Int32} {μ : jM} {z : (Int32 × jM)} (H : b_X11_tune_31 Y v0 v1 v2 v3 t0 μ = some z) (D : z = (rr, μr)) : JW X (jEnd X n Y (some (.int rr)) μr 0 0) 0 0 n Y 31 [(0, .ref v0), (1, .int v1), (2, .int v2), (3, .int v3)] [.int t0] μ := by
  unfold b_X11_tune_31 at H
  refine r_istore K [(4, .int _), (0, .ref _), (1, .int _), (2, .int _), (3, .int _)] dX11_tune_31 (by decide) rfl ?_
  refine r_aload_n K 1 dX11_tune_33 rfl rfl ?_
  refine w_callV K hl H (fun r h => c_X11_hasTones l h) mC_yX11_hasTones mM_RX11_147 mI_yX11_hasTones mS_yX11_hasTones mZ_RX11 vc11 (Nat.le_of_ble_eq_true rfl) (Nat.le_of_ble_eq_true rfl) np_yX11_hasTones rfl (Nat.le_of_ble_eq_true rfl) dX11_tune_34 (fun r1 H => ?_) ⟨Nat.zero_le _, Nat.zero_le _⟩
  refine w_if_eq K 61 dX11_tune_37 (by decide) H (fun _ H => ?_) (fun _ H => ?_)
  · exact r_sub [] rfl (t_X11_tune_61 K hl H D)
  · refine r_iload_n K 3 dX11_tune_40 rfl rfl ?_
    refine r_iconst (v := 0) K dX11_tune_41 (by decide) ?_
    refine r_iload K 0 dX11_tune_42 rfl ?_
    refine w_callS K hl H (fun r h => c_X11_within l h) mC_yX11_within mM_RX11_133 mT_yX11_within mZ_RX11 (Nat.le_of_ble_eq_true rfl) (Nat.le_of_ble_eq_true rfl) np_yX11_within rfl (Nat.le_of_ble_eq_true rfl) dX11_tune_44 (fun r2 H => ?_) ⟨Nat.zero_le _, Nat.zero_le _⟩
    refine w_if_eq K 61 dX11_tune_47 (by decide) H (fun _ H => ?_) (fun _ H => ?_)
    · exact r_sub [] rfl (t_X11_tune_61 K hl H D)
    · refine r_iload_n K 4 dX11_tune_50 rfl rfl ?_
      refine r_bipush (v := -6) K dX11_tune_51 (by decide) ?_
      refine r_bipush (v := 6) K dX11_tune_53 (by decide) ?_
      refine w_callS K hl H (fun r h => c_X11_within l h) mC_yX11_within mM_RX11_133 mT_yX11_within mZ_RX11 (Nat.le_of_ble_eq_true rfl) (Nat.le_of_ble_eq_true rfl) np_yX11_within rfl (Nat.le_of_ble_eq_true rfl) dX11_tune_55 (fun r3 H => ?_) ⟨Nat.zero_le _, Nat.zero_le _⟩
      refine w_if_ne K 63 dX11_tune_58 (by decide) H (fun _ H => ?_) (fun _ H => ?_)
      · refine r_aload_n K 1 dX11_tune_63 rfl rfl ?_
        refine w_getO K vc11 inX11 11 (by decide) mF_RX11_87 dX11_tune_64 H (fun x4 H => ?_)
        refine r_aload_n K 1 dX11_tune_67 rfl rfl ?_
        refine w_getO K vc11 inX11 3 (by decide) mF_RX11_35 dX11_tune_68 H (fun x5 H => ?_)
        refine w_getO K vc3 inX3 0 (by decide) mF_RX11_119 dX11_tune_71 H (fun x6 H => ?_)
        refine w_callV K hl H (fun r h => c_X9_copy l h) mC_yX9_copy mM_RX11_243 mI_yX9_copy mS_yX9_copy mZ_RX9 vc9 (Nat.le_of_ble_eq_true rfl) (Nat.le_of_ble_eq_true rfl) np_yX9_copy rfl (Nat.le_of_ble_eq_true rfl) dX11_tune_74 (fun μ7 H => ?_) ⟨Nat.zero_le _, Nat.zero_le _⟩
        refine r_iload_n K 2 dX11_tune_77 rfl rfl ?_
        refine w_if_eq K 94 dX11_tune_78 (by decide) H (fun _ H => ?_) (fun _ H => ?_)
        · refine r_aload_n K 1 dX11_tune_94 rfl rfl ?_
          refine w_getO K vc11 inX11 11 (by decide) mF_RX11_87 dX11_tune_95 H (fun x8 H => ?_)
          refine w_getO K vc9 inX9 2 (by decide) mF_RX11_141 dX11_tune_98 H (fun x9 H => ?_)
          refine r_iload_n K 3 dX11_tune_101 rfl rfl ?_
          refine r_iload_n K 4 dX11_tune_102 rfl rfl ?_
          refine w_iast K dX11_tune_103 H (fun μ10 H => ?_)
          exact r_sub [1] rfl (t_X11_tune_104 K hl H D)
        · refine r_aload_n K 1 dX11_tune_81 rfl rfl ?_
          refine w_getO K vc11 inX11 11 (by decide) mF_RX11_87 dX11_tune_82 H (fun x11 H => ?_)
          refine w_getO K vc9 inX9 1 (by decide) mF_RX11_137 dX11_tune_85 H (fun x12 H => ?_)
          refine r_iload_n K 3 dX11_tune_88 rfl rfl ?_
          refine r_iload_n K 4 dX11_tune_89 rfl rfl ?_
          refine w_iast K dX11_tune_90 H (fun μ13 H => ?_)
          refine r_goto K 104 dX11_tune_91 (by decide) ?_
          exact r_sub [1] rfl (t_X11_tune_104 K hl H D)
      · exact r_sub [] rfl (t_X11_tune_61 K hl H D)
set_option maxRecDepth 10000 in
theorem t_X11_tune_0 {X : jX} {l : Launch} {n : Nat} {Y : jY} (K : jOK X RX11 cX11_tune 5 (some .int) 4) (hl : X.2.1 = l) {rr : Int32} {μr : jM} {v0 : Nat} {v1 : Int32} {v2 : Int32} {v3 : Int32} {μ : jM} {z : (Int32 × jM)} (H : f_X11_tune Y v0 v1 v2 v3 μ = some z) (D : z = (rr, μr)) : JW X (jEnd X n Y (some (.int rr)) μr 0 0) 0 0 n Y 0 [(0, .ref v0), (1, .int v1), (2, .int v2), (3, .int v3)] [] μ := by
  unfold f_X11_tune at H
  refine r_iload_n K 1 dX11_tune_0 rfl rfl ?_
  refine w_if_eq K 19 dX11_tune_1 (by decide) H (fun _ H => ?_) (fun _ H => ?_)
  · refine r_aload_n K 0 dX11_tune_19 rfl rfl ?_
    refine w_getO K vc11 inX11 3 (by decide) mF_RX11_35 dX11_tune_20 H (fun x1 H => ?_)
    refine w_getO K vc3 inX3 0 (by decide) mF_RX11_119 dX11_tune_23 H (fun x2 H => ?_)
    refine w_getI K vc9 inX9 0 (by decide) mF_RX11_126 dX11_tune_26 H (fun x3 H => ?_)
    refine r_iconst (v := 2) K dX11_tune_29 (by decide) ?_
    refine r_isub K dX11_tune_30 ?_
    exact r_sub [0, 1, 2, 3] rfl (t_X11_tune_31 K hl H D)
  · refine r_aload_n K 0 dX11_tune_4 rfl rfl ?_
    refine w_getO K vc11 inX11 3 (by decide) mF_RX11_35 dX11_tune_5 H (fun x4 H => ?_)
    refine w_getO K vc3 inX3 0 (by decide) mF_RX11_119 dX11_tune_8 H (fun x5 H => ?_)
    refine w_getI K vc9 inX9 0 (by decide) mF_RX11_126 dX11_tune_11 H (fun x6 H => ?_)
    refine r_iconst (v := 1) K dX11_tune_14 (by decide) ?_
    refine r_isub K dX11_tune_15 ?_
    refine r_goto K 31 dX11_tune_16 (by decide) ?_
    exact r_sub [0, 1, 2, 3] rfl (t_X11_tune_31 K hl H D)
theorem c_X11_tune (l : Launch) {n : Nat} {Y : jY} {v0 : Nat} {v1 : Int32} {v2 : Int32} {v3 : Int32} {μ : jM} {z : Int32 × jM} (H : f_X11_tune Y v0 v1 v2 v3 μ = some z) : jC l yX11_tune cX11_tune 5 (some .int) 4 0 0 [.ref v0, .int v1, .int v2, .int v3] n Y μ n Y (some (.int z.1)) z.2 := by
  refine jC_of (by decide +kernel) (Nat.le_of_ble_eq_true rfl) (fun X hl K _ _ _ => ?_)
  obtain ⟨rr, μr⟩ := z
  exact t_X11_tune_0 K hl H rfl
/-! RX11 number(III)J -/
def b_X11_number_37 (Y : jY) (μ : jM) : Option (Int64 × jM) :=
  some ((-9223372036854775808 : Int64), μ)
def f_X11_number (Y : jY) (v0 : Nat) (v1 : Int32) (v2 : Int32) (v3 : Int32) (μ : jM) : Option (Int64 × jM) :=
  (jrcv Y v0 11 (f_X11_isFilled Y v0 v1 μ)).bind fun r1 =>
  if r1.1 = 0 then
    b_X11_number_37 Y r1.2
  else
    (jgO Y r1.2 v0 11 3).bind fun x2 =>
    (jgO Y r1.2 x2 3 1).bind fun x3 =>
    (jaO Y r1.2 x3 24 v1).bind fun x4 =>
    (jgI Y r1.2 x4 10 0).bind fun x5 =>
    (f_X11_within Y v2 ((0 : Int32)) x5 r1.2).bind fun r6 =>
    if r6.1 = 0 then
      b_X11_number_37 Y r6.2
    else
      (f_X11_within Y v3 ((0 : Int32)) v2 r6.2).bind fun r7 =>
      if r7.1 = 0 then
        b_X11_number_37 Y r7.2
      else
        (jgO Y r7.2 v0 11 9).bind fun x8 =>
        (jgO Y r7.2 v0 11 3).bind fun x9 =>
        (jgO Y r7.2 x9 3 1).bind fun x10 =>
        (jaO Y r7.2 x10 24 v1).bind fun x11 =>
        (jrcv Y x8 4 (f_X4_multiplyOut Y x8 x11 r7.2)).bind fun μ12 =>
        (jgO Y μ12 v0 11 9).bind fun x13 =>
        (jgO Y μ12 x13 4 0).bind fun x14 =>
        (jaO Y μ12 x14 26 v2).bind fun x15 =>
        (jaL Y μ12 x15 21 v3).bind fun x16 =>
        some (x16, μ12)
set_option maxRecDepth 10000 in
theorem t_X11_number_37 {X : jX} {l : Launch} {n : Nat} {Y : jY} (K : jOK X RX11 cX11_number 4 (some .long) 4) (hl : X.2.1 = l) {rr : Int64} {μr : jM} {μ : jM} {z : (Int64 × jM)} (H : b_X11_number_37 Y μ = some z) (D : z = (rr, μr)) : JW X (jEnd X n Y (some (.long rr)) μr 0 0) 0 0 n Y 37 [] [] μ := by
  unfold b_X11_number_37 at H
  refine r_ldc2 K (-9223372036854775808) mc_RX11_151 dX11_number_37 ?_
  cases H
  obtain ⟨rfl, rfl⟩ := jfin2 D
  exact r_lret K dX11_number_40
set_option maxRecDepth 10000 in
theorem t_X11_number_0 {X : jX} {l : Launch} {n : Nat} {Y : jY} (K : jOK X RX11 cX11_number 4 (some .long) 4) (hl : X.2.1 = l) {rr : Int64} {μr : jM} {v0 : Nat} {v1 : Int32} {v2 : Int32} {v3 : Int32} {μ : jM} {z : (Int64 × jM)} (H : f_X11_number Y v0 v1 v2 v3 μ = some z) (D : z = (rr, μr)) : JW X (jEnd X n Y (some (.long rr)) μr 0 0) 0 0 n Y 0 [(0, .ref v0), (1, .int v1), (2, .int v2), (3, .int v3)] [] μ := by
  unfold f_X11_number at H
  refine r_aload_n K 0 dX11_number_0 rfl rfl ?_
  refine r_iload_n K 1 dX11_number_1 rfl rfl ?_
  refine w_callV K hl H (fun r h => c_X11_isFilled l h) mC_yX11_isFilled mM_RX11_285 mI_yX11_isFilled mS_yX11_isFilled mZ_RX11 vc11 (Nat.le_of_ble_eq_true rfl) (Nat.le_of_ble_eq_true rfl) np_yX11_isFilled rfl (Nat.le_of_ble_eq_true rfl) dX11_number_2 (fun r1 H => ?_) ⟨Nat.zero_le _, Nat.zero_le _⟩
  refine w_if_eq K 37 dX11_number_5 (by decide) H (fun _ H => ?_) (fun _ H => ?_)
  · exact r_sub [] rfl (t_X11_number_37 K hl H D)
  · refine r_iload_n K 2 dX11_number_8 rfl rfl ?_
    refine r_iconst (v := 0) K dX11_number_9 (by decide) ?_
    refine r_aload_n K 0 dX11_number_10 rfl rfl ?_
    refine w_getO K vc11 inX11 3 (by decide) mF_RX11_35 dX11_number_11 H (fun x2 H => ?_)
    refine w_getO K vc3 inX3 1 (by decide) mF_RX11_255 dX11_number_14 H (fun x3 H => ?_)
    refine r_iload_n K 1 dX11_number_17 rfl rfl ?_
    refine w_aald K 24 rfl rfl dX11_number_18 H (fun x4 H => ?_)
    refine w_getI K vc10 inX10 0 (by decide) mF_RX11_263 dX11_number_19 H (fun x5 H => ?_)
    refine w_callS K hl H (fun r h => c_X11_within l h) mC_yX11_within mM_RX11_133 mT_yX11_within mZ_RX11 (Nat.le_of_ble_eq_true rfl) (Nat.le_of_ble_eq_true rfl) np_yX11_within rfl (Nat.le_of_ble_eq_true rfl) dX11_number_22 (fun r6 H => ?_) ⟨Nat.zero_le _, Nat.zero_le _⟩
    refine w_if_eq K 37 dX11_number_25 (by decide) H (fun _ H => ?_) (fun _ H => ?_)
    · exact r_sub [] rfl (t_X11_number_37 K hl H D)
    · refine r_iload_n K 3 dX11_number_28 rfl rfl ?_
      refine r_iconst (v := 0) K dX11_number_29 (by decide) ?_
      refine r_iload_n K 2 dX11_number_30 rfl rfl ?_
      refine w_callS K hl H (fun r h => c_X11_within l h) mC_yX11_within mM_RX11_133 mT_yX11_within mZ_RX11 (Nat.le_of_ble_eq_true rfl) (Nat.le_of_ble_eq_true rfl) np_yX11_within rfl (Nat.le_of_ble_eq_true rfl) dX11_number_31 (fun r7 H => ?_) ⟨Nat.zero_le _, Nat.zero_le _⟩
      refine w_if_ne K 41 dX11_number_34 (by decide) H (fun _ H => ?_) (fun _ H => ?_)
      · refine r_aload_n K 0 dX11_number_41 rfl rfl ?_
        refine w_getO K vc11 inX11 9 (by decide) mF_RX11_73 dX11_number_42 H (fun x8 H => ?_)
        refine r_aload_n K 0 dX11_number_45 rfl rfl ?_
        refine w_getO K vc11 inX11 3 (by decide) mF_RX11_35 dX11_number_46 H (fun x9 H => ?_)
        refine w_getO K vc3 inX3 1 (by decide) mF_RX11_255 dX11_number_49 H (fun x10 H => ?_)
        refine r_iload_n K 1 dX11_number_52 rfl rfl ?_
        refine w_aald K 24 rfl rfl dX11_number_53 H (fun x11 H => ?_)
        refine w_callV K hl H (fun r h => c_X4_multiplyOut l h) mC_yX4_multiplyOut mM_RX11_288 mI_yX4_multiplyOut mS_yX4_multiplyOut mZ_RX4 vc4 (Nat.le_of_ble_eq_true rfl) (Nat.le_of_ble_eq_true rfl) np_yX4_multiplyOut rfl (Nat.le_of_ble_eq_true rfl) dX11_number_54 (fun μ12 H => ?_) ⟨Nat.zero_le _, Nat.zero_le _⟩
        refine r_aload_n K 0 dX11_number_57 rfl rfl ?_
        refine w_getO K vc11 inX11 9 (by decide) mF_RX11_73 dX11_number_58 H (fun x13 H => ?_)
        refine w_getO K vc4 inX4 0 (by decide) mF_RX11_292 dX11_number_61 H (fun x14 H => ?_)
        refine r_iload_n K 2 dX11_number_64 rfl rfl ?_
        refine w_aald K 26 rfl rfl dX11_number_65 H (fun x15 H => ?_)
        refine r_iload_n K 3 dX11_number_66 rfl rfl ?_
        refine w_lald K dX11_number_67 H (fun x16 H => ?_)
        cases H
        obtain ⟨rfl, rfl⟩ := jfin2 D
        exact r_lret K dX11_number_68
      · exact r_sub [] rfl (t_X11_number_37 K hl H D)
theorem c_X11_number (l : Launch) {n : Nat} {Y : jY} {v0 : Nat} {v1 : Int32} {v2 : Int32} {v3 : Int32} {μ : jM} {z : Int64 × jM} (H : f_X11_number Y v0 v1 v2 v3 μ = some z) : jC l yX11_number cX11_number 4 (some .long) 4 0 0 [.ref v0, .int v1, .int v2, .int v3] n Y μ n Y (some (.long z.1)) z.2 := by
  refine jC_of (by decide +kernel) (Nat.le_of_ble_eq_true rfl) (fun X hl K _ _ _ => ?_)
  obtain ⟨rr, μr⟩ := z
  exact t_X11_number_0 K hl H rfl
/-! RX11 entry(ZII)J -/
def b_X11_entry_57 (Y : jY) (μ : jM) : Option (Int64 × jM) :=
  some ((-9223372036854775808 : Int64), μ)
def b_X11_entry_108 (Y : jY) (t0 : Int64) (μ : jM) : Option (Int64 × jM) :=
  some (t0, μ)
def b_X11_entry_31 (Y : jY) (v0 : Nat) (v1 : Int32) (v2 : Int32) (v3 : Int32) (t0 : Int32) (μ : jM) : Option (Int64 × jM) :=
  (jrcv Y v0 11 (f_X11_hasTones Y v0 μ)).bind fun r1 =>
  if r1.1 = 0 then
    b_X11_entry_57 Y r1.2
  else
    (f_X11_within Y v2 ((0 : Int32)) t0 r1.2).bind fun r2 =>
    if r2.1 = 0 then
      b_X11_entry_57 Y r2.2
    else
      (f_X11_isPart Y v3 r2.2).bind fun r3 =>
      if r3.1 = 0 then
        b_X11_entry_57 Y r3.2
      else
        (jgO Y r3.2 v0 11 7).bind fun x4 =>
        (jgO Y r3.2 v0 11 3).bind fun x5 =>
        (jgO Y r3.2 x5 3 0).bind fun x6 =>
        (jrcv Y x4 8 (f_X8_rebuild Y x4 x6 r3.2)).bind fun μ7 =>
        if v1 = 0 then
          (jgO Y μ7 v0 11 7).bind fun x8 =>
          (jgO Y μ7 x8 8 3).bind fun x9 =>
          (jaO Y μ7 x9 23 v2).bind fun x10 =>
          (jrcv Y x10 1 (f_X1_part Y x10 v3 μ7)).bind fun r11 =>
          b_X11_entry_108 Y r11.1 r11.2
        else
          (jgO Y μ7 v0 11 7).bind fun x12 =>
          (jgO Y μ7 x12 8 2).bind fun x13 =>
          (jaO Y μ7 x13 23 v2).bind fun x14 =>
          (jrcv Y x14 1 (f_X1_part Y x14 v3 μ7)).bind fun r15 =>
          b_X11_entry_108 Y r15.1 r15.2
def f_X11_entry (Y : jY) (v0 : Nat) (v1 : Int32) (v2 : Int32) (v3 : Int32) (μ : jM) : Option (Int64 × jM) :=
  if v1 = 0 then
    (jgO Y μ v0 11 3).bind fun x1 =>
    (jgO Y μ x1 3 0).bind fun x2 =>
    (jgI Y μ x2 9 0).bind fun x3 =>
    b_X11_entry_31 Y v0 v1 v2 v3 (x3 - ((2 : Int32))) μ
  else
    (jgO Y μ v0 11 3).bind fun x4 =>
    (jgO Y μ x4 3 0).bind fun x5 =>
    (jgI Y μ x5 9 0).bind fun x6 =>
    b_X11_entry_31 Y v0 v1 v2 v3 (x6 - ((1 : Int32))) μ
set_option maxRecDepth 10000 in
theorem t_X11_entry_57 {X : jX} {l : Launch} {n : Nat} {Y : jY} (K : jOK X RX11 cX11_entry 5 (some .long) 7) (hl : X.2.1 = l) {rr : Int64} {μr : jM} {μ : jM} {z : (Int64 × jM)} (H : b_X11_entry_57 Y μ = some z) (D : z = (rr, μr)) : JW X (jEnd X n Y (some (.long rr)) μr 0 0) 0 0 n Y 57 [] [] μ := by
  unfold b_X11_entry_57 at H
  refine r_ldc2 K (-9223372036854775808) mc_RX11_151 dX11_entry_57 ?_
  cases H
  obtain ⟨rfl, rfl⟩ := jfin2 D
  exact r_lret K dX11_entry_60
set_option maxRecDepth 10000 in
theorem t_X11_entry_108 {X : jX} {l : Launch} {n : Nat} {Y : jY} (K : jOK X RX11 cX11_entry 5 (some .long) 7) (hl : X.2.1 = l) {rr : Int64} {μr : jM} {t0 : Int64} {μ : jM} {z : (Int64 × jM)} (H : b_X11_entry_108 Y t0 μ = some z) (D : z = (rr, μr)) : JW X (jEnd X n Y (some (.long rr)) μr 0 0) 0 0 n Y 108 [] [.long t0] μ := by
  unfold b_X11_entry_108 at H
  cases H
  obtain ⟨rfl, rfl⟩ := jfin2 D
  exact r_lret K dX11_entry_108
set_option maxRecDepth 10000 in
theorem t_X11_entry_31 {X : jX} {l : Launch} {n : Nat} {Y : jY} (K : jOK X RX11 cX11_entry 5 (some .long) 7) (hl : X.2.1 = l) {rr : Int64} {μr : jM} {v0 : Nat} {v1 : Int32} {v2 : Int32} {v3 : Int32} {t0 : Int32} {μ : jM} {z : (Int64 × jM)} (H : b_X11_entry_31 Y v0 v1 v2 v3 t0 μ = some z) (D : z = (rr, μr)) : JW X (jEnd X n Y (some (.long rr)) μr 0 0) 0 0 n Y 31 [(0, .ref v0), (1, .int v1), (2, .int v2), (3, .int v3)] [.int t0] μ := by
  unfold b_X11_entry_31 at H
  refine r_istore K [(4, .int _), (0, .ref _), (1, .int _), (2, .int _), (3, .int _)] dX11_entry_31 (by decide) rfl ?_
  refine r_aload_n K 1 dX11_entry_33 rfl rfl ?_
  refine w_callV K hl H (fun r h => c_X11_hasTones l h) mC_yX11_hasTones mM_RX11_147 mI_yX11_hasTones mS_yX11_hasTones mZ_RX11 vc11 (Nat.le_of_ble_eq_true rfl) (Nat.le_of_ble_eq_true rfl) np_yX11_hasTones rfl (Nat.le_of_ble_eq_true rfl) dX11_entry_34 (fun r1 H => ?_) ⟨Nat.zero_le _, Nat.zero_le _⟩
  refine w_if_eq K 57 dX11_entry_37 (by decide) H (fun _ H => ?_) (fun _ H => ?_)
  · exact r_sub [] rfl (t_X11_entry_57 K hl H D)
  · refine r_iload_n K 3 dX11_entry_40 rfl rfl ?_
    refine r_iconst (v := 0) K dX11_entry_41 (by decide) ?_
    refine r_iload K 0 dX11_entry_42 rfl ?_
    refine w_callS K hl H (fun r h => c_X11_within l h) mC_yX11_within mM_RX11_133 mT_yX11_within mZ_RX11 (Nat.le_of_ble_eq_true rfl) (Nat.le_of_ble_eq_true rfl) np_yX11_within rfl (Nat.le_of_ble_eq_true rfl) dX11_entry_44 (fun r2 H => ?_) ⟨Nat.zero_le _, Nat.zero_le _⟩
    refine w_if_eq K 57 dX11_entry_47 (by decide) H (fun _ H => ?_) (fun _ H => ?_)
    · exact r_sub [] rfl (t_X11_entry_57 K hl H D)
    · refine r_iload_n K 4 dX11_entry_50 rfl rfl ?_
      refine w_callS K hl H (fun r h => c_X11_isPart l h) mC_yX11_isPart mM_RX11_170 mT_yX11_isPart mZ_RX11 (Nat.le_of_ble_eq_true rfl) (Nat.le_of_ble_eq_true rfl) np_yX11_isPart rfl (Nat.le_of_ble_eq_true rfl) dX11_entry_51 (fun r3 H => ?_) ⟨Nat.zero_le _, Nat.zero_le _⟩
      refine w_if_ne K 61 dX11_entry_54 (by decide) H (fun _ H => ?_) (fun _ H => ?_)
      · refine r_aload_n K 1 dX11_entry_61 rfl rfl ?_
        refine w_getO K vc11 inX11 7 (by decide) mF_RX11_59 dX11_entry_62 H (fun x4 H => ?_)
        refine r_aload_n K 1 dX11_entry_65 rfl rfl ?_
        refine w_getO K vc11 inX11 3 (by decide) mF_RX11_35 dX11_entry_66 H (fun x5 H => ?_)
        refine w_getO K vc3 inX3 0 (by decide) mF_RX11_119 dX11_entry_69 H (fun x6 H => ?_)
        refine w_callV K hl H (fun r h => c_X8_rebuild l h) mC_yX8_rebuild mM_RX11_185 mI_yX8_rebuild mS_yX8_rebuild mZ_RX8 vc8 (Nat.le_of_ble_eq_true rfl) (Nat.le_of_ble_eq_true rfl) np_yX8_rebuild rfl (Nat.le_of_ble_eq_true rfl) dX11_entry_72 (fun μ7 H => ?_) ⟨Nat.zero_le _, Nat.zero_le _⟩
        refine r_iload_n K 2 dX11_entry_75 rfl rfl ?_
        refine w_if_eq K 95 dX11_entry_76 (by decide) H (fun _ H => ?_) (fun _ H => ?_)
        · refine r_aload_n K 1 dX11_entry_95 rfl rfl ?_
          refine w_getO K vc11 inX11 7 (by decide) mF_RX11_59 dX11_entry_96 H (fun x8 H => ?_)
          refine w_getO K vc8 inX8 3 (by decide) mF_RX11_190 dX11_entry_99 H (fun x9 H => ?_)
          refine r_iload_n K 3 dX11_entry_102 rfl rfl ?_
          refine w_aald K 23 rfl rfl dX11_entry_103 H (fun x10 H => ?_)
          refine r_iload_n K 4 dX11_entry_104 rfl rfl ?_
          refine w_callV K hl H (fun r h => c_X1_part l h) mC_yX1_part mM_RX11_177 mI_yX1_part mS_yX1_part mZ_RX1 vc1 (Nat.le_of_ble_eq_true rfl) (Nat.le_of_ble_eq_true rfl) np_yX1_part rfl (Nat.le_of_ble_eq_true rfl) dX11_entry_105 (fun r11 H => ?_) ⟨Nat.zero_le _, Nat.zero_le _⟩
          exact r_sub [] rfl (t_X11_entry_108 K hl H D)
        · refine r_aload_n K 1 dX11_entry_79 rfl rfl ?_
          refine w_getO K vc11 inX11 7 (by decide) mF_RX11_59 dX11_entry_80 H (fun x12 H => ?_)
          refine w_getO K vc8 inX8 2 (by decide) mF_RX11_186 dX11_entry_83 H (fun x13 H => ?_)
          refine r_iload_n K 3 dX11_entry_86 rfl rfl ?_
          refine w_aald K 23 rfl rfl dX11_entry_87 H (fun x14 H => ?_)
          refine r_iload_n K 4 dX11_entry_88 rfl rfl ?_
          refine w_callV K hl H (fun r h => c_X1_part l h) mC_yX1_part mM_RX11_177 mI_yX1_part mS_yX1_part mZ_RX1 vc1 (Nat.le_of_ble_eq_true rfl) (Nat.le_of_ble_eq_true rfl) np_yX1_part rfl (Nat.le_of_ble_eq_true rfl) dX11_entry_89 (fun r15 H => ?_) ⟨Nat.zero_le _, Nat.zero_le _⟩
          refine r_goto K 108 dX11_entry_92 (by decide) ?_
          exact r_sub [] rfl (t_X11_entry_108 K hl H D)
      · exact r_sub [] rfl (t_X11_entry_57 K hl H D)
set_option maxRecDepth 10000 in
theorem t_X11_entry_0 {X : jX} {l : Launch} {n : Nat} {Y : jY} (K : jOK X RX11 cX11_entry 5 (some .long) 7) (hl : X.2.1 = l) {rr : Int64} {μr : jM} {v0 : Nat} {v1 : Int32} {v2 : Int32} {v3 : Int32} {μ : jM} {z : (Int64 × jM)} (H : f_X11_entry Y v0 v1 v2 v3 μ = some z) (D : z = (rr, μr)) : JW X (jEnd X n Y (some (.long rr)) μr 0 0) 0 0 n Y 0 [(0, .ref v0), (1, .int v1), (2, .int v2), (3, .int v3)] [] μ := by
  unfold f_X11_entry at H
  refine r_iload_n K 1 dX11_entry_0 rfl rfl ?_
  refine w_if_eq K 19 dX11_entry_1 (by decide) H (fun _ H => ?_) (fun _ H => ?_)
  · refine r_aload_n K 0 dX11_entry_19 rfl rfl ?_
    refine w_getO K vc11 inX11 3 (by decide) mF_RX11_35 dX11_entry_20 H (fun x1 H => ?_)
    refine w_getO K vc3 inX3 0 (by decide) mF_RX11_119 dX11_entry_23 H (fun x2 H => ?_)
    refine w_getI K vc9 inX9 0 (by decide) mF_RX11_126 dX11_entry_26 H (fun x3 H => ?_)
    refine r_iconst (v := 2) K dX11_entry_29 (by decide) ?_
    refine r_isub K dX11_entry_30 ?_
    exact r_sub [0, 1, 2, 3] rfl (t_X11_entry_31 K hl H D)
  · refine r_aload_n K 0 dX11_entry_4 rfl rfl ?_
    refine w_getO K vc11 inX11 3 (by decide) mF_RX11_35 dX11_entry_5 H (fun x4 H => ?_)
    refine w_getO K vc3 inX3 0 (by decide) mF_RX11_119 dX11_entry_8 H (fun x5 H => ?_)
    refine w_getI K vc9 inX9 0 (by decide) mF_RX11_126 dX11_entry_11 H (fun x6 H => ?_)
    refine r_iconst (v := 1) K dX11_entry_14 (by decide) ?_
    refine r_isub K dX11_entry_15 ?_
    refine r_goto K 31 dX11_entry_16 (by decide) ?_
    exact r_sub [0, 1, 2, 3] rfl (t_X11_entry_31 K hl H D)
theorem c_X11_entry (l : Launch) {n : Nat} {Y : jY} {v0 : Nat} {v1 : Int32} {v2 : Int32} {v3 : Int32} {μ : jM} {z : Int64 × jM} (H : f_X11_entry Y v0 v1 v2 v3 μ = some z) : jC l yX11_entry cX11_entry 5 (some .long) 7 0 0 [.ref v0, .int v1, .int v2, .int v3] n Y μ n Y (some (.long z.1)) z.2 := by
  refine jC_of (by decide +kernel) (Nat.le_of_ble_eq_true rfl) (fun X hl K _ _ _ => ?_)
  obtain ⟨rr, μr⟩ := z
  exact t_X11_entry_0 K hl H rfl
/-! RX11 put(IZII)I -/
def f_X11_put (Y : jY) (v0 : Nat) (v1 : Int32) (v2 : Int32) (v3 : Int32) (v4 : Int32) (μ : jM) : Option (Int32 × jM) :=
  (f_X11_isDrawer Y v1 μ).bind fun r1 =>
  if r1.1 = 0 then
    some ((-99 : Int32), r1.2)
  else
    (jgO Y r1.2 v0 11 3).bind fun x2 =>
    (jgO Y r1.2 x2 3 1).bind fun x3 =>
    (jaO Y r1.2 x3 24 v1).bind fun x4 =>
    (jgI Y r1.2 x4 10 0).bind fun x5 =>
    if x5 = 0 then
      some ((-100 : Int32), r1.2)
    else
      (jrcv Y x4 10 (f_X10_hasNumber Y x4 v2 v3 r1.2)).bind fun r6 =>
      if r6.1 = 0 then
        some ((-99 : Int32), r6.2)
      else
        (f_X10_canBe Y v2 v4 r6.2).bind fun r7 =>
        if r7.1 = 0 then
          some ((-101 : Int32), r7.2)
        else
          (jrcv Y x4 10 (f_X10_numberAt Y x4 v2 v3 r7.2)).bind fun r8 =>
          (jrcv Y x4 10 (f_X10_setNumber Y x4 v2 v3 v4 r8.2)).bind fun μ9 =>
          some (r8.1, μ9)
set_option maxRecDepth 10000 in
theorem t_X11_put_0 {X : jX} {l : Launch} {n : Nat} {Y : jY} (K : jOK X RX11 cX11_put 7 (some .int) 3) (hl : X.2.1 = l) {rr : Int32} {μr : jM} {v0 : Nat} {v1 : Int32} {v2 : Int32} {v3 : Int32} {v4 : Int32} {μ : jM} {z : (Int32 × jM)} (H : f_X11_put Y v0 v1 v2 v3 v4 μ = some z) (D : z = (rr, μr)) : JW X (jEnd X n Y (some (.int rr)) μr 0 0) 0 0 n Y 0 [(0, .ref v0), (1, .int v1), (2, .int v2), (3, .int v3), (4, .int v4)] [] μ := by
  unfold f_X11_put at H
  refine r_iload_n K 1 dX11_put_0 rfl rfl ?_
  refine w_callS K hl H (fun r h => c_X11_isDrawer l h) mC_yX11_isDrawer mM_RX11_252 mT_yX11_isDrawer mZ_RX11 (Nat.le_of_ble_eq_true rfl) (Nat.le_of_ble_eq_true rfl) np_yX11_isDrawer rfl (Nat.le_of_ble_eq_true rfl) dX11_put_1 (fun r1 H => ?_) ⟨Nat.zero_le _, Nat.zero_le _⟩
  refine w_if_ne K 10 dX11_put_4 (by decide) H (fun _ H => ?_) (fun _ H => ?_)
  · refine r_aload_n K 0 dX11_put_10 rfl rfl ?_
    refine w_getO K vc11 inX11 3 (by decide) mF_RX11_35 dX11_put_11 H (fun x2 H => ?_)
    refine w_getO K vc3 inX3 1 (by decide) mF_RX11_255 dX11_put_14 H (fun x3 H => ?_)
    refine r_iload_n K 1 dX11_put_17 rfl rfl ?_
    refine w_aald K 24 rfl rfl dX11_put_18 H (fun x4 H => ?_)
    refine r_astore K [(5, .ref _), (0, .ref _), (1, .int _), (2, .int _), (3, .int _), (4, .int _)] dX11_put_19 (by decide) rfl ?_
    refine r_aload K 0 dX11_put_21 rfl ?_
    refine w_getI K vc10 inX10 0 (by decide) mF_RX11_263 dX11_put_23 H (fun x5 H => ?_)
    refine w_if_ne K 32 dX11_put_26 (by decide) H (fun _ H => ?_) (fun _ H => ?_)
    · refine r_aload K 0 dX11_put_32 rfl ?_
      refine r_iload_n K 3 dX11_put_34 rfl rfl ?_
      refine r_iload_n K 4 dX11_put_35 rfl rfl ?_
      refine w_callV K hl H (fun r h => c_X10_hasNumber l h) mC_yX10_hasNumber mM_RX11_270 mI_yX10_hasNumber mS_yX10_hasNumber mZ_RX10 vc10 (Nat.le_of_ble_eq_true rfl) (Nat.le_of_ble_eq_true rfl) np_yX10_hasNumber rfl (Nat.le_of_ble_eq_true rfl) dX11_put_36 (fun r6 H => ?_) ⟨Nat.zero_le _, Nat.zero_le _⟩
      refine w_if_ne K 45 dX11_put_39 (by decide) H (fun _ H => ?_) (fun _ H => ?_)
      · refine r_iload_n K 3 dX11_put_45 rfl rfl ?_
        refine r_iload K 5 dX11_put_46 rfl ?_
        refine w_callS K hl H (fun r h => c_X10_canBe l h) mC_yX10_canBe mM_RX11_274 mT_yX10_canBe mZ_RX10 (Nat.le_of_ble_eq_true rfl) (Nat.le_of_ble_eq_true rfl) np_yX10_canBe rfl (Nat.le_of_ble_eq_true rfl) dX11_put_48 (fun r7 H => ?_) ⟨Nat.zero_le _, Nat.zero_le _⟩
        refine w_if_ne K 57 dX11_put_51 (by decide) H (fun _ H => ?_) (fun _ H => ?_)
        · refine r_aload K 0 dX11_put_57 rfl ?_
          refine r_iload_n K 3 dX11_put_59 rfl rfl ?_
          refine r_iload_n K 4 dX11_put_60 rfl rfl ?_
          refine w_callV K hl H (fun r h => c_X10_numberAt l h) mC_yX10_numberAt mM_RX11_277 mI_yX10_numberAt mS_yX10_numberAt mZ_RX10 vc10 (Nat.le_of_ble_eq_true rfl) (Nat.le_of_ble_eq_true rfl) np_yX10_numberAt rfl (Nat.le_of_ble_eq_true rfl) dX11_put_61 (fun r8 H => ?_) ⟨Nat.zero_le _, Nat.zero_le _⟩
          refine r_istore K [(6, .int _), (5, .ref _), (0, .ref _), (1, .int _), (2, .int _), (3, .int _), (4, .int _)] dX11_put_64 (by decide) rfl ?_
          refine r_aload K 1 dX11_put_66 rfl ?_
          refine r_iload_n K 4 dX11_put_68 rfl rfl ?_
          refine r_iload_n K 5 dX11_put_69 rfl rfl ?_
          refine r_iload K 6 dX11_put_70 rfl ?_
          refine w_callV K hl H (fun r h => c_X10_setNumber l h) mC_yX10_setNumber mM_RX11_281 mI_yX10_setNumber mS_yX10_setNumber mZ_RX10 vc10 (Nat.le_of_ble_eq_true rfl) (Nat.le_of_ble_eq_true rfl) np_yX10_setNumber rfl (Nat.le_of_ble_eq_true rfl) dX11_put_72 (fun μ9 H => ?_) ⟨Nat.zero_le _, Nat.zero_le _⟩
          refine r_iload K 0 dX11_put_75 rfl ?_
          cases H
          obtain ⟨rfl, rfl⟩ := jfin2 D
          exact r_iret K dX11_put_77
        · refine r_bipush (v := -101) K dX11_put_54 (by decide) ?_
          cases H
          obtain ⟨rfl, rfl⟩ := jfin2 D
          exact r_iret K dX11_put_56
      · refine r_bipush (v := -99) K dX11_put_42 (by decide) ?_
        cases H
        obtain ⟨rfl, rfl⟩ := jfin2 D
        exact r_iret K dX11_put_44
    · refine r_bipush (v := -100) K dX11_put_29 (by decide) ?_
      cases H
      obtain ⟨rfl, rfl⟩ := jfin2 D
      exact r_iret K dX11_put_31
  · refine r_bipush (v := -99) K dX11_put_7 (by decide) ?_
    cases H
    obtain ⟨rfl, rfl⟩ := jfin2 D
    exact r_iret K dX11_put_9
theorem c_X11_put (l : Launch) {n : Nat} {Y : jY} {v0 : Nat} {v1 : Int32} {v2 : Int32} {v3 : Int32} {v4 : Int32} {μ : jM} {z : Int32 × jM} (H : f_X11_put Y v0 v1 v2 v3 v4 μ = some z) : jC l yX11_put cX11_put 7 (some .int) 3 0 0 [.ref v0, .int v1, .int v2, .int v3, .int v4] n Y μ n Y (some (.int z.1)) z.2 := by
  refine jC_of (by decide +kernel) (Nat.le_of_ble_eq_true rfl) (fun X hl K _ _ _ => ?_)
  obtain ⟨rr, μr⟩ := z
  exact t_X11_put_0 K hl H rfl
/-! RX11 tones(I)I -/
def f_X11_tones (Y : jY) (v0 : Nat) (v1 : Int32) (μ : jM) : Option (Int32 × jM) :=
  (jgO Y μ v0 11 0).bind fun x1 =>
  (jrcv Y x1 5 (f_X5_holdsText Y x1 v1 μ)).bind fun r2 =>
  if r2.1 = 0 then
    some ((-1 : Int32), r2.2)
  else
    (jgO Y r2.2 v0 11 1).bind fun x3 =>
    (jgO Y r2.2 v0 11 0).bind fun x4 =>
    (jrcv Y x3 6 (f_X6_scan Y x3 x4 v1 ((1 : Int32)) r2.2)).bind fun r5 =>
    (jgO Y r5.2 v0 11 0).bind fun x6 =>
    (jrcv Y x6 5 (f_X5_clear Y x6 r5.2)).bind fun μ7 =>
    if r5.1 = 0 then
      (jgO Y μ7 v0 11 3).bind fun x8 =>
      (jgO Y μ7 x8 3 0).bind fun x9 =>
      (jgO Y μ7 v0 11 1).bind fun x10 =>
      (jrcv Y x9 9 (f_X9_take Y x9 x10 μ7)).bind fun μ11 =>
      (jgO Y μ11 v0 11 3).bind fun x12 =>
      (jgO Y μ11 x12 3 0).bind fun x13 =>
      (jgI Y μ11 x13 9 0).bind fun x14 =>
      some (x14, μ11)
    else
      some (r5.1, μ7)
set_option maxRecDepth 10000 in
theorem t_X11_tones_0 {X : jX} {l : Launch} {n : Nat} {Y : jY} (K : jOK X RX11 cX11_tones 3 (some .int) 6) (hl : X.2.1 = l) {rr : Int32} {μr : jM} {v0 : Nat} {v1 : Int32} {μ : jM} {z : (Int32 × jM)} (H : f_X11_tones Y v0 v1 μ = some z) (D : z = (rr, μr)) : JW X (jEnd X n Y (some (.int rr)) μr 0 0) 0 0 n Y 0 [(0, .ref v0), (1, .int v1)] [] μ := by
  unfold f_X11_tones at H
  refine r_aload_n K 0 dX11_tones_0 rfl rfl ?_
  refine w_getO K vc11 inX11 0 (by decide) mF_RX11_12 dX11_tones_1 H (fun x1 H => ?_)
  refine r_iload_n K 1 dX11_tones_4 rfl rfl ?_
  refine w_callV K hl H (fun r h => c_X5_holdsText l h) mC_yX5_holdsText mM_RX11_109 mI_yX5_holdsText mS_yX5_holdsText mZ_RX5 vc5 (Nat.le_of_ble_eq_true rfl) (Nat.le_of_ble_eq_true rfl) np_yX5_holdsText rfl (Nat.le_of_ble_eq_true rfl) dX11_tones_5 (fun r2 H => ?_) ⟨Nat.zero_le _, Nat.zero_le _⟩
  refine w_if_ne K 13 dX11_tones_8 (by decide) H (fun _ H => ?_) (fun _ H => ?_)
  · refine r_aload_n K 0 dX11_tones_13 rfl rfl ?_
    refine w_getO K vc11 inX11 1 (by decide) mF_RX11_21 dX11_tones_14 H (fun x3 H => ?_)
    refine r_aload_n K 0 dX11_tones_17 rfl rfl ?_
    refine w_getO K vc11 inX11 0 (by decide) mF_RX11_12 dX11_tones_18 H (fun x4 H => ?_)
    refine r_iload_n K 1 dX11_tones_21 rfl rfl ?_
    refine r_iconst (v := 1) K dX11_tones_22 (by decide) ?_
    refine w_callV K hl H (fun r h => c_X6_scan l h) mC_yX6_scan mM_RX11_112 mI_yX6_scan mS_yX6_scan mZ_RX6 vc6 (Nat.le_of_ble_eq_true rfl) (Nat.le_of_ble_eq_true rfl) np_yX6_scan rfl (Nat.le_of_ble_eq_true rfl) dX11_tones_23 (fun r5 H => ?_) ⟨Nat.zero_le _, Nat.zero_le _⟩
    refine r_istore_n K [(2, .int _), (0, .ref _), (1, .int _)] dX11_tones_26 rfl (by decide) rfl ?_
    refine r_aload_n K 1 dX11_tones_27 rfl rfl ?_
    refine w_getO K vc11 inX11 0 (by decide) mF_RX11_12 dX11_tones_28 H (fun x6 H => ?_)
    refine w_callV K hl H (fun r h => c_X5_clear l h) mC_yX5_clear mM_RX11_116 mI_yX5_clear mS_yX5_clear mZ_RX5 vc5 (Nat.le_of_ble_eq_true rfl) (Nat.le_of_ble_eq_true rfl) np_yX5_clear rfl (Nat.le_of_ble_eq_true rfl) dX11_tones_31 (fun μ7 H => ?_) ⟨Nat.zero_le _, Nat.zero_le _⟩
    refine r_iload_n K 0 dX11_tones_34 rfl rfl ?_
    refine w_if_eq K 40 dX11_tones_35 (by decide) H (fun _ H => ?_) (fun _ H => ?_)
    · refine r_aload_n K 1 dX11_tones_40 rfl rfl ?_
      refine w_getO K vc11 inX11 3 (by decide) mF_RX11_35 dX11_tones_41 H (fun x8 H => ?_)
      refine w_getO K vc3 inX3 0 (by decide) mF_RX11_119 dX11_tones_44 H (fun x9 H => ?_)
      refine r_aload_n K 1 dX11_tones_47 rfl rfl ?_
      refine w_getO K vc11 inX11 1 (by decide) mF_RX11_21 dX11_tones_48 H (fun x10 H => ?_)
      refine w_callV K hl H (fun r h => c_X9_take l h) mC_yX9_take mM_RX11_122 mI_yX9_take mS_yX9_take mZ_RX9 vc9 (Nat.le_of_ble_eq_true rfl) (Nat.le_of_ble_eq_true rfl) np_yX9_take rfl (Nat.le_of_ble_eq_true rfl) dX11_tones_51 (fun μ11 H => ?_) ⟨Nat.zero_le _, Nat.zero_le _⟩
      refine r_aload_n K 1 dX11_tones_54 rfl rfl ?_
      refine w_getO K vc11 inX11 3 (by decide) mF_RX11_35 dX11_tones_55 H (fun x12 H => ?_)
      refine w_getO K vc3 inX3 0 (by decide) mF_RX11_119 dX11_tones_58 H (fun x13 H => ?_)
      refine w_getI K vc9 inX9 0 (by decide) mF_RX11_126 dX11_tones_61 H (fun x14 H => ?_)
      cases H
      obtain ⟨rfl, rfl⟩ := jfin2 D
      exact r_iret K dX11_tones_64
    · refine r_iload_n K 0 dX11_tones_38 rfl rfl ?_
      cases H
      obtain ⟨rfl, rfl⟩ := jfin2 D
      exact r_iret K dX11_tones_39
  · refine r_iconst (v := -1) K dX11_tones_11 (by decide) ?_
    cases H
    obtain ⟨rfl, rfl⟩ := jfin2 D
    exact r_iret K dX11_tones_12
theorem c_X11_tones (l : Launch) {n : Nat} {Y : jY} {v0 : Nat} {v1 : Int32} {μ : jM} {z : Int32 × jM} (H : f_X11_tones Y v0 v1 μ = some z) : jC l yX11_tones cX11_tones 3 (some .int) 6 0 0 [.ref v0, .int v1] n Y μ n Y (some (.int z.1)) z.2 := by
  refine jC_of (by decide +kernel) (Nat.le_of_ble_eq_true rfl) (fun X hl K _ _ _ => ?_)
  obtain ⟨rr, μr⟩ := z
  exact t_X11_tones_0 K hl H rfl
/-! RX11 read(II)I -/
def b_X11_read_12 (Y : jY) (μ : jM) : Option (Int32 × jM) :=
  some ((-1 : Int32), μ)
def f_X11_read (Y : jY) (v0 : Nat) (v1 : Int32) (v2 : Int32) (μ : jM) : Option (Int32 × jM) :=
  (f_X11_isDrawer Y v1 μ).bind fun r1 =>
  if r1.1 = 0 then
    b_X11_read_12 Y r1.2
  else
    if ((-1 : Int32)) ≤ v2 then
      (jgO Y r1.2 v0 11 3).bind fun x2 =>
      (jgO Y r1.2 x2 3 1).bind fun x3 =>
      (jaO Y r1.2 x3 24 v1).bind fun x4 =>
      (jgI Y r1.2 x4 10 0).bind fun x5 =>
      if x5 = 0 then
        some ((-2 : Int32), r1.2)
      else
        (jgO Y r1.2 v0 11 2).bind fun x6 =>
        (jgO Y r1.2 x4 10 1).bind fun x7 =>
        (jgI Y r1.2 x4 10 0).bind fun x8 =>
        (jgO Y r1.2 x4 10 2).bind fun x9 =>
        (jrcv Y x6 2 (f_X2_tell Y x6 x7 x8 x9 r1.2)).bind fun μ10 =>
        (jgO Y μ10 v0 11 2).bind fun x11 =>
        (jrcv Y x11 2 (f_X2_at Y x11 v2 μ10)).bind fun r12 =>
        some (r12.1, r12.2)
    else
      b_X11_read_12 Y r1.2
set_option maxRecDepth 10000 in
theorem t_X11_read_12 {X : jX} {l : Launch} {n : Nat} {Y : jY} (K : jOK X RX11 cX11_read 4 (some .int) 5) (hl : X.2.1 = l) {rr : Int32} {μr : jM} {μ : jM} {z : (Int32 × jM)} (H : b_X11_read_12 Y μ = some z) (D : z = (rr, μr)) : JW X (jEnd X n Y (some (.int rr)) μr 0 0) 0 0 n Y 12 [] [] μ := by
  unfold b_X11_read_12 at H
  refine r_iconst (v := -1) K dX11_read_12 (by decide) ?_
  cases H
  obtain ⟨rfl, rfl⟩ := jfin2 D
  exact r_iret K dX11_read_13
set_option maxRecDepth 10000 in
theorem t_X11_read_0 {X : jX} {l : Launch} {n : Nat} {Y : jY} (K : jOK X RX11 cX11_read 4 (some .int) 5) (hl : X.2.1 = l) {rr : Int32} {μr : jM} {v0 : Nat} {v1 : Int32} {v2 : Int32} {μ : jM} {z : (Int32 × jM)} (H : f_X11_read Y v0 v1 v2 μ = some z) (D : z = (rr, μr)) : JW X (jEnd X n Y (some (.int rr)) μr 0 0) 0 0 n Y 0 [(0, .ref v0), (1, .int v1), (2, .int v2)] [] μ := by
  unfold f_X11_read at H
  refine r_iload_n K 1 dX11_read_0 rfl rfl ?_
  refine w_callS K hl H (fun r h => c_X11_isDrawer l h) mC_yX11_isDrawer mM_RX11_252 mT_yX11_isDrawer mZ_RX11 (Nat.le_of_ble_eq_true rfl) (Nat.le_of_ble_eq_true rfl) np_yX11_isDrawer rfl (Nat.le_of_ble_eq_true rfl) dX11_read_1 (fun r1 H => ?_) ⟨Nat.zero_le _, Nat.zero_le _⟩
  refine w_if_eq K 12 dX11_read_4 (by decide) H (fun _ H => ?_) (fun _ H => ?_)
  · exact r_sub [] rfl (t_X11_read_12 K hl H D)
  · refine r_iload_n K 2 dX11_read_7 rfl rfl ?_
    refine r_iconst (v := -1) K dX11_read_8 (by decide) ?_
    refine w_icmp_ge K 14 dX11_read_9 (by decide) H (fun _ H => ?_) (fun _ H => ?_)
    · refine r_aload_n K 0 dX11_read_14 rfl rfl ?_
      refine w_getO K vc11 inX11 3 (by decide) mF_RX11_35 dX11_read_15 H (fun x2 H => ?_)
      refine w_getO K vc3 inX3 1 (by decide) mF_RX11_255 dX11_read_18 H (fun x3 H => ?_)
      refine r_iload_n K 1 dX11_read_21 rfl rfl ?_
      refine w_aald K 24 rfl rfl dX11_read_22 H (fun x4 H => ?_)
      refine r_astore_n K [(3, .ref _), (0, .ref _), (1, .int _), (2, .int _)] dX11_read_23 rfl (by decide) rfl ?_
      refine r_aload_n K 0 dX11_read_24 rfl rfl ?_
      refine w_getI K vc10 inX10 0 (by decide) mF_RX11_263 dX11_read_25 H (fun x5 H => ?_)
      refine w_if_ne K 34 dX11_read_28 (by decide) H (fun _ H => ?_) (fun _ H => ?_)
      · refine r_aload_n K 1 dX11_read_34 rfl rfl ?_
        refine w_getO K vc11 inX11 2 (by decide) mF_RX11_28 dX11_read_35 H (fun x6 H => ?_)
        refine r_aload_n K 0 dX11_read_38 rfl rfl ?_
        refine w_getO K vc10 inX10 1 (by decide) mF_RX11_266 dX11_read_39 H (fun x7 H => ?_)
        refine r_aload_n K 0 dX11_read_42 rfl rfl ?_
        refine w_getI K vc10 inX10 0 (by decide) mF_RX11_263 dX11_read_43 H (fun x8 H => ?_)
        refine r_aload_n K 0 dX11_read_46 rfl rfl ?_
        refine w_getO K vc10 inX10 2 (by decide) mF_RX11_268 dX11_read_47 H (fun x9 H => ?_)
        refine w_callV K hl H (fun r h => c_X2_tell l h) mC_yX2_tell mM_RX11_232 mI_yX2_tell mS_yX2_tell mZ_RX2 vc2 (Nat.le_of_ble_eq_true rfl) (Nat.le_of_ble_eq_true rfl) np_yX2_tell rfl (Nat.le_of_ble_eq_true rfl) dX11_read_50 (fun μ10 H => ?_) ⟨Nat.zero_le _, Nat.zero_le _⟩
        refine r_aload_n K 1 dX11_read_53 rfl rfl ?_
        refine w_getO K vc11 inX11 2 (by decide) mF_RX11_28 dX11_read_54 H (fun x11 H => ?_)
        refine r_iload_n K 3 dX11_read_57 rfl rfl ?_
        refine w_callV K hl H (fun r h => c_X2_at l h) mC_yX2_at mM_RX11_236 mI_yX2_at mS_yX2_at mZ_RX2 vc2 (Nat.le_of_ble_eq_true rfl) (Nat.le_of_ble_eq_true rfl) np_yX2_at rfl (Nat.le_of_ble_eq_true rfl) dX11_read_58 (fun r12 H => ?_) ⟨Nat.zero_le _, Nat.zero_le _⟩
        cases H
        obtain ⟨rfl, rfl⟩ := jfin2 D
        exact r_iret K dX11_read_61
      · refine r_bipush (v := -2) K dX11_read_31 (by decide) ?_
        cases H
        obtain ⟨rfl, rfl⟩ := jfin2 D
        exact r_iret K dX11_read_33
    · exact r_sub [] rfl (t_X11_read_12 K hl H D)
theorem c_X11_read (l : Launch) {n : Nat} {Y : jY} {v0 : Nat} {v1 : Int32} {v2 : Int32} {μ : jM} {z : Int32 × jM} (H : f_X11_read Y v0 v1 v2 μ = some z) : jC l yX11_read cX11_read 4 (some .int) 5 0 0 [.ref v0, .int v1, .int v2] n Y μ n Y (some (.int z.1)) z.2 := by
  refine jC_of (by decide +kernel) (Nat.le_of_ble_eq_true rfl) (fun X hl K _ _ _ => ?_)
  obtain ⟨rr, μr⟩ := z
  exact t_X11_read_0 K hl H rfl
/-! RX11 undo()I -/
def b_X11_undo_21 (Y : jY) (μ : jM) : Option (Int32 × jM) :=
  some ((-1 : Int32), μ)
def f_X11_undo (Y : jY) (v0 : Nat) (μ : jM) : Option (Int32 × jM) :=
  (jgI Y μ v0 11 5).bind fun x1 =>
  if x1 ≤ 0 then
    b_X11_undo_21 Y μ
  else
    (jgO Y μ v0 11 4).bind fun x2 =>
    (jgI Y μ v0 11 5).bind fun x3 =>
    (jaN Y μ x2 25 ((x3 - ((1 : Int32))))).bind fun b4 =>
    if b4 = true then
      b_X11_undo_21 Y μ
    else
      (jgI Y μ v0 11 5).bind fun x5 =>
      (jput Y μ v0 11 5 (.int ((x5 - ((1 : Int32)))))).bind fun μ6 =>
      (jgO Y μ6 v0 11 3).bind fun x7 =>
      (jgO Y μ6 v0 11 4).bind fun x8 =>
      (jgI Y μ6 v0 11 5).bind fun x9 =>
      (jaO Y μ6 x8 25 x9).bind fun x10 =>
      (jrcv Y x7 3 (f_X3_copy Y x7 x10 μ6)).bind fun μ11 =>
      (jgI Y μ11 v0 11 5).bind fun x12 =>
      some (x12, μ11)
set_option maxRecDepth 10000 in
theorem t_X11_undo_21 {X : jX} {l : Launch} {n : Nat} {Y : jY} (K : jOK X RX11 cX11_undo 1 (some .int) 3) (hl : X.2.1 = l) {rr : Int32} {μr : jM} {μ : jM} {z : (Int32 × jM)} (H : b_X11_undo_21 Y μ = some z) (D : z = (rr, μr)) : JW X (jEnd X n Y (some (.int rr)) μr 0 0) 0 0 n Y 21 [] [] μ := by
  unfold b_X11_undo_21 at H
  refine r_iconst (v := -1) K dX11_undo_21 (by decide) ?_
  cases H
  obtain ⟨rfl, rfl⟩ := jfin2 D
  exact r_iret K dX11_undo_22
set_option maxRecDepth 10000 in
theorem t_X11_undo_0 {X : jX} {l : Launch} {n : Nat} {Y : jY} (K : jOK X RX11 cX11_undo 1 (some .int) 3) (hl : X.2.1 = l) {rr : Int32} {μr : jM} {v0 : Nat} {μ : jM} {z : (Int32 × jM)} (H : f_X11_undo Y v0 μ = some z) (D : z = (rr, μr)) : JW X (jEnd X n Y (some (.int rr)) μr 0 0) 0 0 n Y 0 [(0, .ref v0)] [] μ := by
  unfold f_X11_undo at H
  refine r_aload_n K 0 dX11_undo_0 rfl rfl ?_
  refine w_getI K vc11 inX11 5 (by decide) mF_RX11_43 dX11_undo_1 H (fun x1 H => ?_)
  refine w_if_le K 21 dX11_undo_4 (by decide) H (fun _ H => ?_) (fun _ H => ?_)
  · exact r_sub [] rfl (t_X11_undo_21 K hl H D)
  · refine r_aload_n K 0 dX11_undo_7 rfl rfl ?_
    refine w_getO K vc11 inX11 4 (by decide) mF_RX11_39 dX11_undo_8 H (fun x2 H => ?_)
    refine r_aload_n K 0 dX11_undo_11 rfl rfl ?_
    refine w_getI K vc11 inX11 5 (by decide) mF_RX11_43 dX11_undo_12 H (fun x3 H => ?_)
    refine r_iconst (v := 1) K dX11_undo_15 (by decide) ?_
    refine r_isub K dX11_undo_16 ?_
    refine w_aaldN K 25 23 rfl rfl dX11_undo_17 dX11_undo_18 (by decide) H (fun H => ?_) (fun H => ?_)
    · rw [if_neg (by decide)] at H
      refine r_aload_n K 0 dX11_undo_23 rfl rfl ?_
      refine r_dup K dX11_undo_24 rfl ?_
      refine w_getI K vc11 inX11 5 (by decide) mF_RX11_43 dX11_undo_25 H (fun x5 H => ?_)
      refine r_iconst (v := 1) K dX11_undo_28 (by decide) ?_
      refine r_isub K dX11_undo_29 ?_
      refine w_put K vc11 inX11 tyX11_ok nmX11 5 (by decide) mF_RX11_43 rfl (fun _ => rfl) (fun _ => rfl) dX11_undo_30 H (fun μ6 H => ?_)
      refine r_aload_n K 0 dX11_undo_33 rfl rfl ?_
      refine w_getO K vc11 inX11 3 (by decide) mF_RX11_35 dX11_undo_34 H (fun x7 H => ?_)
      refine r_aload_n K 0 dX11_undo_37 rfl rfl ?_
      refine w_getO K vc11 inX11 4 (by decide) mF_RX11_39 dX11_undo_38 H (fun x8 H => ?_)
      refine r_aload_n K 0 dX11_undo_41 rfl rfl ?_
      refine w_getI K vc11 inX11 5 (by decide) mF_RX11_43 dX11_undo_42 H (fun x9 H => ?_)
      refine w_aald K 25 rfl rfl dX11_undo_45 H (fun x10 H => ?_)
      refine w_callV K hl H (fun r h => c_X3_copy l h) mC_yX3_copy mM_RX11_382 mI_yX3_copy mS_yX3_copy mZ_RX3 vc3 (Nat.le_of_ble_eq_true rfl) (Nat.le_of_ble_eq_true rfl) np_yX3_copy rfl (Nat.le_of_ble_eq_true rfl) dX11_undo_46 (fun μ11 H => ?_) ⟨Nat.zero_le _, Nat.zero_le _⟩
      refine r_aload_n K 0 dX11_undo_49 rfl rfl ?_
      refine w_getI K vc11 inX11 5 (by decide) mF_RX11_43 dX11_undo_50 H (fun x12 H => ?_)
      cases H
      obtain ⟨rfl, rfl⟩ := jfin2 D
      exact r_iret K dX11_undo_53
    · rw [if_pos rfl] at H
      exact r_sub [] rfl (t_X11_undo_21 K hl H D)
theorem c_X11_undo (l : Launch) {n : Nat} {Y : jY} {v0 : Nat} {μ : jM} {z : Int32 × jM} (H : f_X11_undo Y v0 μ = some z) : jC l yX11_undo cX11_undo 1 (some .int) 3 0 0 [.ref v0] n Y μ n Y (some (.int z.1)) z.2 := by
  refine jC_of (by decide +kernel) (Nat.le_of_ble_eq_true rfl) (fun X hl K _ _ _ => ?_)
  obtain ⟨rr, μr⟩ := z
  exact t_X11_undo_0 K hl H rfl
/-! RX11 weight(II)J -/
def b_X11_weight_22 (Y : jY) (μ : jM) : Option (Int64 × jM) :=
  some ((-9223372036854775808 : Int64), μ)
def f_X11_weight (Y : jY) (v0 : Nat) (v1 : Int32) (v2 : Int32) (μ : jM) : Option (Int64 × jM) :=
  (jrcv Y v0 11 (f_X11_hasTones Y v0 μ)).bind fun r1 =>
  if r1.1 = 0 then
    b_X11_weight_22 Y r1.2
  else
    (jrcv Y v0 11 (f_X11_isTone Y v0 v1 r1.2)).bind fun r2 =>
    if r2.1 = 0 then
      b_X11_weight_22 Y r2.2
    else
      (f_X11_isPart Y v2 r2.2).bind fun r3 =>
      if r3.1 = 0 then
        b_X11_weight_22 Y r3.2
      else
        (jgO Y r3.2 v0 11 3).bind fun x4 =>
        (jgO Y r3.2 x4 3 0).bind fun x5 =>
        (jgO Y r3.2 v0 11 12).bind fun x6 =>
        (jrcv Y x5 9 (f_X9_weigh Y x5 v1 x6 r3.2)).bind fun μ7 =>
        (jgO Y μ7 v0 11 12).bind fun x8 =>
        (jrcv Y x8 1 (f_X1_part Y x8 v2 μ7)).bind fun r9 =>
        some (r9.1, r9.2)
set_option maxRecDepth 10000 in
theorem t_X11_weight_22 {X : jX} {l : Launch} {n : Nat} {Y : jY} (K : jOK X RX11 cX11_weight 3 (some .long) 4) (hl : X.2.1 = l) {rr : Int64} {μr : jM} {μ : jM} {z : (Int64 × jM)} (H : b_X11_weight_22 Y μ = some z) (D : z = (rr, μr)) : JW X (jEnd X n Y (some (.long rr)) μr 0 0) 0 0 n Y 22 [] [] μ := by
  unfold b_X11_weight_22 at H
  refine r_ldc2 K (-9223372036854775808) mc_RX11_151 dX11_weight_22 ?_
  cases H
  obtain ⟨rfl, rfl⟩ := jfin2 D
  exact r_lret K dX11_weight_25
set_option maxRecDepth 10000 in
theorem t_X11_weight_0 {X : jX} {l : Launch} {n : Nat} {Y : jY} (K : jOK X RX11 cX11_weight 3 (some .long) 4) (hl : X.2.1 = l) {rr : Int64} {μr : jM} {v0 : Nat} {v1 : Int32} {v2 : Int32} {μ : jM} {z : (Int64 × jM)} (H : f_X11_weight Y v0 v1 v2 μ = some z) (D : z = (rr, μr)) : JW X (jEnd X n Y (some (.long rr)) μr 0 0) 0 0 n Y 0 [(0, .ref v0), (1, .int v1), (2, .int v2)] [] μ := by
  unfold f_X11_weight at H
  refine r_aload_n K 0 dX11_weight_0 rfl rfl ?_
  refine w_callV K hl H (fun r h => c_X11_hasTones l h) mC_yX11_hasTones mM_RX11_147 mI_yX11_hasTones mS_yX11_hasTones mZ_RX11 vc11 (Nat.le_of_ble_eq_true rfl) (Nat.le_of_ble_eq_true rfl) np_yX11_hasTones rfl (Nat.le_of_ble_eq_true rfl) dX11_weight_1 (fun r1 H => ?_) ⟨Nat.zero_le _, Nat.zero_le _⟩
  refine w_if_eq K 22 dX11_weight_4 (by decide) H (fun _ H => ?_) (fun _ H => ?_)
  · exact r_sub [] rfl (t_X11_weight_22 K hl H D)
  · refine r_aload_n K 0 dX11_weight_7 rfl rfl ?_
    refine r_iload_n K 1 dX11_weight_8 rfl rfl ?_
    refine w_callV K hl H (fun r h => c_X11_isTone l h) mC_yX11_isTone mM_RX11_167 mI_yX11_isTone mS_yX11_isTone mZ_RX11 vc11 (Nat.le_of_ble_eq_true rfl) (Nat.le_of_ble_eq_true rfl) np_yX11_isTone rfl (Nat.le_of_ble_eq_true rfl) dX11_weight_9 (fun r2 H => ?_) ⟨Nat.zero_le _, Nat.zero_le _⟩
    refine w_if_eq K 22 dX11_weight_12 (by decide) H (fun _ H => ?_) (fun _ H => ?_)
    · exact r_sub [] rfl (t_X11_weight_22 K hl H D)
    · refine r_iload_n K 2 dX11_weight_15 rfl rfl ?_
      refine w_callS K hl H (fun r h => c_X11_isPart l h) mC_yX11_isPart mM_RX11_170 mT_yX11_isPart mZ_RX11 (Nat.le_of_ble_eq_true rfl) (Nat.le_of_ble_eq_true rfl) np_yX11_isPart rfl (Nat.le_of_ble_eq_true rfl) dX11_weight_16 (fun r3 H => ?_) ⟨Nat.zero_le _, Nat.zero_le _⟩
      refine w_if_ne K 26 dX11_weight_19 (by decide) H (fun _ H => ?_) (fun _ H => ?_)
      · refine r_aload_n K 0 dX11_weight_26 rfl rfl ?_
        refine w_getO K vc11 inX11 3 (by decide) mF_RX11_35 dX11_weight_27 H (fun x4 H => ?_)
        refine w_getO K vc3 inX3 0 (by decide) mF_RX11_119 dX11_weight_30 H (fun x5 H => ?_)
        refine r_iload_n K 1 dX11_weight_33 rfl rfl ?_
        refine r_aload_n K 0 dX11_weight_34 rfl rfl ?_
        refine w_getO K vc11 inX11 12 (by decide) mF_RX11_94 dX11_weight_35 H (fun x6 H => ?_)
        refine w_callV K hl H (fun r h => c_X9_weigh l h) mC_yX9_weigh mM_RX11_173 mI_yX9_weigh mS_yX9_weigh mZ_RX9 vc9 (Nat.le_of_ble_eq_true rfl) (Nat.le_of_ble_eq_true rfl) np_yX9_weigh rfl (Nat.le_of_ble_eq_true rfl) dX11_weight_38 (fun μ7 H => ?_) ⟨Nat.zero_le _, Nat.zero_le _⟩
        refine r_aload_n K 0 dX11_weight_41 rfl rfl ?_
        refine w_getO K vc11 inX11 12 (by decide) mF_RX11_94 dX11_weight_42 H (fun x8 H => ?_)
        refine r_iload_n K 2 dX11_weight_45 rfl rfl ?_
        refine w_callV K hl H (fun r h => c_X1_part l h) mC_yX1_part mM_RX11_177 mI_yX1_part mS_yX1_part mZ_RX1 vc1 (Nat.le_of_ble_eq_true rfl) (Nat.le_of_ble_eq_true rfl) np_yX1_part rfl (Nat.le_of_ble_eq_true rfl) dX11_weight_46 (fun r9 H => ?_) ⟨Nat.zero_le _, Nat.zero_le _⟩
        cases H
        obtain ⟨rfl, rfl⟩ := jfin2 D
        exact r_lret K dX11_weight_49
      · exact r_sub [] rfl (t_X11_weight_22 K hl H D)
theorem c_X11_weight (l : Launch) {n : Nat} {Y : jY} {v0 : Nat} {v1 : Int32} {v2 : Int32} {μ : jM} {z : Int64 × jM} (H : f_X11_weight Y v0 v1 v2 μ = some z) : jC l yX11_weight cX11_weight 3 (some .long) 4 0 0 [.ref v0, .int v1, .int v2] n Y μ n Y (some (.long z.1)) z.2 := by
  refine jC_of (by decide +kernel) (Nat.le_of_ble_eq_true rfl) (fun X hl K _ _ _ => ?_)
  obtain ⟨rr, μr⟩ := z
  exact t_X11_weight_0 K hl H rfl
/-! RX11 shift(I)I -/
def b_X11_shift_18 (Y : jY) (μ : jM) : Option (Int32 × jM) :=
  some ((-1 : Int32), μ)
def f_X11_shift (Y : jY) (v0 : Nat) (v1 : Int32) (μ : jM) : Option (Int32 × jM) :=
  (jrcv Y v0 11 (f_X11_hasTones Y v0 μ)).bind fun r1 =>
  if r1.1 = 0 then
    b_X11_shift_18 Y r1.2
  else
    (f_X11_within Y v1 ((-12 : Int32)) ((12 : Int32)) r1.2).bind fun r2 =>
    if r2.1 = 0 then
      b_X11_shift_18 Y r2.2
    else
      (jgO Y r2.2 v0 11 11).bind fun x3 =>
      (jgO Y r2.2 v0 11 3).bind fun x4 =>
      (jgO Y r2.2 x4 3 0).bind fun x5 =>
      (jrcv Y x3 9 (f_X9_copy Y x3 x5 r2.2)).bind fun μ6 =>
      (jgO Y μ6 v0 11 11).bind fun x7 =>
      (jrcv Y x7 9 (f_X9_moveBy Y x7 v1 μ6)).bind fun μ8 =>
      (jrcv Y v0 11 (f_X11_takeSpareTones Y v0 μ8)).bind fun r9 =>
      some (r9.1, r9.2)
set_option maxRecDepth 10000 in
theorem t_X11_shift_18 {X : jX} {l : Launch} {n : Nat} {Y : jY} (K : jOK X RX11 cX11_shift 2 (some .int) 4) (hl : X.2.1 = l) {rr : Int32} {μr : jM} {μ : jM} {z : (Int32 × jM)} (H : b_X11_shift_18 Y μ = some z) (D : z = (rr, μr)) : JW X (jEnd X n Y (some (.int rr)) μr 0 0) 0 0 n Y 18 [] [] μ := by
  unfold b_X11_shift_18 at H
  refine r_iconst (v := -1) K dX11_shift_18 (by decide) ?_
  cases H
  obtain ⟨rfl, rfl⟩ := jfin2 D
  exact r_iret K dX11_shift_19
set_option maxRecDepth 10000 in
theorem t_X11_shift_0 {X : jX} {l : Launch} {n : Nat} {Y : jY} (K : jOK X RX11 cX11_shift 2 (some .int) 4) (hl : X.2.1 = l) {rr : Int32} {μr : jM} {v0 : Nat} {v1 : Int32} {μ : jM} {z : (Int32 × jM)} (H : f_X11_shift Y v0 v1 μ = some z) (D : z = (rr, μr)) : JW X (jEnd X n Y (some (.int rr)) μr 0 0) 0 0 n Y 0 [(0, .ref v0), (1, .int v1)] [] μ := by
  unfold f_X11_shift at H
  refine r_aload_n K 0 dX11_shift_0 rfl rfl ?_
  refine w_callV K hl H (fun r h => c_X11_hasTones l h) mC_yX11_hasTones mM_RX11_147 mI_yX11_hasTones mS_yX11_hasTones mZ_RX11 vc11 (Nat.le_of_ble_eq_true rfl) (Nat.le_of_ble_eq_true rfl) np_yX11_hasTones rfl (Nat.le_of_ble_eq_true rfl) dX11_shift_1 (fun r1 H => ?_) ⟨Nat.zero_le _, Nat.zero_le _⟩
  refine w_if_eq K 18 dX11_shift_4 (by decide) H (fun _ H => ?_) (fun _ H => ?_)
  · exact r_sub [] rfl (t_X11_shift_18 K hl H D)
  · refine r_iload_n K 1 dX11_shift_7 rfl rfl ?_
    refine r_bipush (v := -12) K dX11_shift_8 (by decide) ?_
    refine r_bipush (v := 12) K dX11_shift_10 (by decide) ?_
    refine w_callS K hl H (fun r h => c_X11_within l h) mC_yX11_within mM_RX11_133 mT_yX11_within mZ_RX11 (Nat.le_of_ble_eq_true rfl) (Nat.le_of_ble_eq_true rfl) np_yX11_within rfl (Nat.le_of_ble_eq_true rfl) dX11_shift_12 (fun r2 H => ?_) ⟨Nat.zero_le _, Nat.zero_le _⟩
    refine w_if_ne K 20 dX11_shift_15 (by decide) H (fun _ H => ?_) (fun _ H => ?_)
    · refine r_aload_n K 0 dX11_shift_20 rfl rfl ?_
      refine w_getO K vc11 inX11 11 (by decide) mF_RX11_87 dX11_shift_21 H (fun x3 H => ?_)
      refine r_aload_n K 0 dX11_shift_24 rfl rfl ?_
      refine w_getO K vc11 inX11 3 (by decide) mF_RX11_35 dX11_shift_25 H (fun x4 H => ?_)
      refine w_getO K vc3 inX3 0 (by decide) mF_RX11_119 dX11_shift_28 H (fun x5 H => ?_)
      refine w_callV K hl H (fun r h => c_X9_copy l h) mC_yX9_copy mM_RX11_243 mI_yX9_copy mS_yX9_copy mZ_RX9 vc9 (Nat.le_of_ble_eq_true rfl) (Nat.le_of_ble_eq_true rfl) np_yX9_copy rfl (Nat.le_of_ble_eq_true rfl) dX11_shift_31 (fun μ6 H => ?_) ⟨Nat.zero_le _, Nat.zero_le _⟩
      refine r_aload_n K 0 dX11_shift_34 rfl rfl ?_
      refine w_getO K vc11 inX11 11 (by decide) mF_RX11_87 dX11_shift_35 H (fun x7 H => ?_)
      refine r_iload_n K 1 dX11_shift_38 rfl rfl ?_
      refine w_callV K hl H (fun r h => c_X9_moveBy l h) mC_yX9_moveBy mM_RX11_246 mI_yX9_moveBy mS_yX9_moveBy mZ_RX9 vc9 (Nat.le_of_ble_eq_true rfl) (Nat.le_of_ble_eq_true rfl) np_yX9_moveBy rfl (Nat.le_of_ble_eq_true rfl) dX11_shift_39 (fun μ8 H => ?_) ⟨Nat.zero_le _, Nat.zero_le _⟩
      refine r_aload_n K 0 dX11_shift_42 rfl rfl ?_
      refine w_callV K hl H (fun r h => c_X11_takeSpareTones l h) mC_yX11_takeSpareTones mM_RX11_249 mI_yX11_takeSpareTones mS_yX11_takeSpareTones mZ_RX11 vc11 (Nat.le_of_ble_eq_true rfl) (Nat.le_of_ble_eq_true rfl) np_yX11_takeSpareTones rfl (Nat.le_of_ble_eq_true rfl) dX11_shift_43 (fun r9 H => ?_) ⟨Nat.zero_le _, Nat.zero_le _⟩
      cases H
      obtain ⟨rfl, rfl⟩ := jfin2 D
      exact r_iret K dX11_shift_46
    · exact r_sub [] rfl (t_X11_shift_18 K hl H D)
theorem c_X11_shift (l : Launch) {n : Nat} {Y : jY} {v0 : Nat} {v1 : Int32} {μ : jM} {z : Int32 × jM} (H : f_X11_shift Y v0 v1 μ = some z) : jC l yX11_shift cX11_shift 2 (some .int) 4 0 0 [.ref v0, .int v1] n Y μ n Y (some (.int z.1)) z.2 := by
  refine jC_of (by decide +kernel) (Nat.le_of_ble_eq_true rfl) (fun X hl K _ _ _ => ?_)
  obtain ⟨rr, μr⟩ := z
  exact t_X11_shift_0 K hl H rfl
/-! RX11 letter(I)I -/
def b_X11_letter_12 (Y : jY) (μ : jM) : Option (Int32 × jM) :=
  some ((-1 : Int32), μ)
def f_X11_letter (Y : jY) (v0 : Nat) (v1 : Int32) (μ : jM) : Option (Int32 × jM) :=
  (jrcv Y v0 11 (f_X11_hasTones Y v0 μ)).bind fun r1 =>
  if r1.1 = 0 then
    b_X11_letter_12 Y r1.2
  else
    if ((-1 : Int32)) ≤ v1 then
      (jgO Y r1.2 v0 11 2).bind fun x2 =>
      (jgO Y r1.2 v0 11 3).bind fun x3 =>
      (jgO Y r1.2 x3 3 0).bind fun x4 =>
      (jgO Y r1.2 x4 9 1).bind fun x5 =>
      (jgO Y r1.2 v0 11 3).bind fun x6 =>
      (jgO Y r1.2 x6 3 0).bind fun x7 =>
      (jgI Y r1.2 x7 9 0).bind fun x8 =>
      (jgO Y r1.2 v0 11 3).bind fun x9 =>
      (jgO Y r1.2 x9 3 0).bind fun x10 =>
      (jgO Y r1.2 x10 9 2).bind fun x11 =>
      (jrcv Y x2 2 (f_X2_tell Y x2 x5 x8 x11 r1.2)).bind fun μ12 =>
      (jgO Y μ12 v0 11 2).bind fun x13 =>
      (jrcv Y x13 2 (f_X2_at Y x13 v1 μ12)).bind fun r14 =>
      some (r14.1, r14.2)
    else
      b_X11_letter_12 Y r1.2
set_option maxRecDepth 10000 in
theorem t_X11_letter_12 {X : jX} {l : Launch} {n : Nat} {Y : jY} (K : jOK X RX11 cX11_letter 2 (some .int) 5) (hl : X.2.1 = l) {rr : Int32} {μr : jM} {μ : jM} {z : (Int32 × jM)} (H : b_X11_letter_12 Y μ = some z) (D : z = (rr, μr)) : JW X (jEnd X n Y (some (.int rr)) μr 0 0) 0 0 n Y 12 [] [] μ := by
  unfold b_X11_letter_12 at H
  refine r_iconst (v := -1) K dX11_letter_12 (by decide) ?_
  cases H
  obtain ⟨rfl, rfl⟩ := jfin2 D
  exact r_iret K dX11_letter_13
set_option maxRecDepth 10000 in
theorem t_X11_letter_0 {X : jX} {l : Launch} {n : Nat} {Y : jY} (K : jOK X RX11 cX11_letter 2 (some .int) 5) (hl : X.2.1 = l) {rr : Int32} {μr : jM} {v0 : Nat} {v1 : Int32} {μ : jM} {z : (Int32 × jM)} (H : f_X11_letter Y v0 v1 μ = some z) (D : z = (rr, μr)) : JW X (jEnd X n Y (some (.int rr)) μr 0 0) 0 0 n Y 0 [(0, .ref v0), (1, .int v1)] [] μ := by
  unfold f_X11_letter at H
  refine r_aload_n K 0 dX11_letter_0 rfl rfl ?_
  refine w_callV K hl H (fun r h => c_X11_hasTones l h) mC_yX11_hasTones mM_RX11_147 mI_yX11_hasTones mS_yX11_hasTones mZ_RX11 vc11 (Nat.le_of_ble_eq_true rfl) (Nat.le_of_ble_eq_true rfl) np_yX11_hasTones rfl (Nat.le_of_ble_eq_true rfl) dX11_letter_1 (fun r1 H => ?_) ⟨Nat.zero_le _, Nat.zero_le _⟩
  refine w_if_eq K 12 dX11_letter_4 (by decide) H (fun _ H => ?_) (fun _ H => ?_)
  · exact r_sub [] rfl (t_X11_letter_12 K hl H D)
  · refine r_iload_n K 1 dX11_letter_7 rfl rfl ?_
    refine r_iconst (v := -1) K dX11_letter_8 (by decide) ?_
    refine w_icmp_ge K 14 dX11_letter_9 (by decide) H (fun _ H => ?_) (fun _ H => ?_)
    · refine r_aload_n K 0 dX11_letter_14 rfl rfl ?_
      refine w_getO K vc11 inX11 2 (by decide) mF_RX11_28 dX11_letter_15 H (fun x2 H => ?_)
      refine r_aload_n K 0 dX11_letter_18 rfl rfl ?_
      refine w_getO K vc11 inX11 3 (by decide) mF_RX11_35 dX11_letter_19 H (fun x3 H => ?_)
      refine w_getO K vc3 inX3 0 (by decide) mF_RX11_119 dX11_letter_22 H (fun x4 H => ?_)
      refine w_getO K vc9 inX9 1 (by decide) mF_RX11_137 dX11_letter_25 H (fun x5 H => ?_)
      refine r_aload_n K 0 dX11_letter_28 rfl rfl ?_
      refine w_getO K vc11 inX11 3 (by decide) mF_RX11_35 dX11_letter_29 H (fun x6 H => ?_)
      refine w_getO K vc3 inX3 0 (by decide) mF_RX11_119 dX11_letter_32 H (fun x7 H => ?_)
      refine w_getI K vc9 inX9 0 (by decide) mF_RX11_126 dX11_letter_35 H (fun x8 H => ?_)
      refine r_aload_n K 0 dX11_letter_38 rfl rfl ?_
      refine w_getO K vc11 inX11 3 (by decide) mF_RX11_35 dX11_letter_39 H (fun x9 H => ?_)
      refine w_getO K vc3 inX3 0 (by decide) mF_RX11_119 dX11_letter_42 H (fun x10 H => ?_)
      refine w_getO K vc9 inX9 2 (by decide) mF_RX11_141 dX11_letter_45 H (fun x11 H => ?_)
      refine w_callV K hl H (fun r h => c_X2_tell l h) mC_yX2_tell mM_RX11_232 mI_yX2_tell mS_yX2_tell mZ_RX2 vc2 (Nat.le_of_ble_eq_true rfl) (Nat.le_of_ble_eq_true rfl) np_yX2_tell rfl (Nat.le_of_ble_eq_true rfl) dX11_letter_48 (fun μ12 H => ?_) ⟨Nat.zero_le _, Nat.zero_le _⟩
      refine r_aload_n K 0 dX11_letter_51 rfl rfl ?_
      refine w_getO K vc11 inX11 2 (by decide) mF_RX11_28 dX11_letter_52 H (fun x13 H => ?_)
      refine r_iload_n K 1 dX11_letter_55 rfl rfl ?_
      refine w_callV K hl H (fun r h => c_X2_at l h) mC_yX2_at mM_RX11_236 mI_yX2_at mS_yX2_at mZ_RX2 vc2 (Nat.le_of_ble_eq_true rfl) (Nat.le_of_ble_eq_true rfl) np_yX2_at rfl (Nat.le_of_ble_eq_true rfl) dX11_letter_56 (fun r14 H => ?_) ⟨Nat.zero_le _, Nat.zero_le _⟩
      cases H
      obtain ⟨rfl, rfl⟩ := jfin2 D
      exact r_iret K dX11_letter_59
    · exact r_sub [] rfl (t_X11_letter_12 K hl H D)
theorem c_X11_letter (l : Launch) {n : Nat} {Y : jY} {v0 : Nat} {v1 : Int32} {μ : jM} {z : Int32 × jM} (H : f_X11_letter Y v0 v1 μ = some z) : jC l yX11_letter cX11_letter 2 (some .int) 5 0 0 [.ref v0, .int v1] n Y μ n Y (some (.int z.1)) z.2 := by
  refine jC_of (by decide +kernel) (Nat.le_of_ble_eq_true rfl) (fun X hl K _ _ _ => ?_)
  obtain ⟨rr, μr⟩ := z
  exact t_X11_letter_0 K hl H rfl
/-! RX11 weighed(II)J -/
def b_X11_weighed_24 (Y : jY) (μ : jM) : Option (Int64 × jM) :=
  some ((-9223372036854775808 : Int64), μ)
def f_X11_weighed (Y : jY) (v0 : Nat) (v1 : Int32) (v2 : Int32) (μ : jM) : Option (Int64 × jM) :=
  (jrcv Y v0 11 (f_X11_hasTones Y v0 μ)).bind fun r1 =>
  if r1.1 = 0 then
    b_X11_weighed_24 Y r1.2
  else
    (f_X11_within Y v1 ((0 : Int32)) ((7 : Int32)) r1.2).bind fun r2 =>
    if r2.1 = 0 then
      b_X11_weighed_24 Y r2.2
    else
      (f_X11_isPart Y v2 r2.2).bind fun r3 =>
      if r3.1 = 0 then
        b_X11_weighed_24 Y r3.2
      else
        (jgO Y r3.2 v0 11 3).bind fun x4 =>
        (jgO Y r3.2 x4 3 0).bind fun x5 =>
        (jgO Y r3.2 v0 11 12).bind fun x6 =>
        (jrcv Y x5 9 (f_X9_weighPowers Y x5 v1 x6 r3.2)).bind fun μ7 =>
        (jgO Y μ7 v0 11 12).bind fun x8 =>
        (jrcv Y x8 1 (f_X1_part Y x8 v2 μ7)).bind fun r9 =>
        some (r9.1, r9.2)
set_option maxRecDepth 10000 in
theorem t_X11_weighed_24 {X : jX} {l : Launch} {n : Nat} {Y : jY} (K : jOK X RX11 cX11_weighed 3 (some .long) 5) (hl : X.2.1 = l) {rr : Int64} {μr : jM} {μ : jM} {z : (Int64 × jM)} (H : b_X11_weighed_24 Y μ = some z) (D : z = (rr, μr)) : JW X (jEnd X n Y (some (.long rr)) μr 0 0) 0 0 n Y 24 [] [] μ := by
  unfold b_X11_weighed_24 at H
  refine r_ldc2 K (-9223372036854775808) mc_RX11_151 dX11_weighed_24 ?_
  cases H
  obtain ⟨rfl, rfl⟩ := jfin2 D
  exact r_lret K dX11_weighed_27
set_option maxRecDepth 10000 in
theorem t_X11_weighed_0 {X : jX} {l : Launch} {n : Nat} {Y : jY} (K : jOK X RX11 cX11_weighed 3 (some .long) 5) (hl : X.2.1 = l) {rr : Int64} {μr : jM} {v0 : Nat} {v1 : Int32} {v2 : Int32} {μ : jM} {z : (Int64 × jM)} (H : f_X11_weighed Y v0 v1 v2 μ = some z) (D : z = (rr, μr)) : JW X (jEnd X n Y (some (.long rr)) μr 0 0) 0 0 n Y 0 [(0, .ref v0), (1, .int v1), (2, .int v2)] [] μ := by
  unfold f_X11_weighed at H
  refine r_aload_n K 0 dX11_weighed_0 rfl rfl ?_
  refine w_callV K hl H (fun r h => c_X11_hasTones l h) mC_yX11_hasTones mM_RX11_147 mI_yX11_hasTones mS_yX11_hasTones mZ_RX11 vc11 (Nat.le_of_ble_eq_true rfl) (Nat.le_of_ble_eq_true rfl) np_yX11_hasTones rfl (Nat.le_of_ble_eq_true rfl) dX11_weighed_1 (fun r1 H => ?_) ⟨Nat.zero_le _, Nat.zero_le _⟩
  refine w_if_eq K 24 dX11_weighed_4 (by decide) H (fun _ H => ?_) (fun _ H => ?_)
  · exact r_sub [] rfl (t_X11_weighed_24 K hl H D)
  · refine r_iload_n K 1 dX11_weighed_7 rfl rfl ?_
    refine r_iconst (v := 0) K dX11_weighed_8 (by decide) ?_
    refine r_bipush (v := 7) K dX11_weighed_9 (by decide) ?_
    refine w_callS K hl H (fun r h => c_X11_within l h) mC_yX11_within mM_RX11_133 mT_yX11_within mZ_RX11 (Nat.le_of_ble_eq_true rfl) (Nat.le_of_ble_eq_true rfl) np_yX11_within rfl (Nat.le_of_ble_eq_true rfl) dX11_weighed_11 (fun r2 H => ?_) ⟨Nat.zero_le _, Nat.zero_le _⟩
    refine w_if_eq K 24 dX11_weighed_14 (by decide) H (fun _ H => ?_) (fun _ H => ?_)
    · exact r_sub [] rfl (t_X11_weighed_24 K hl H D)
    · refine r_iload_n K 2 dX11_weighed_17 rfl rfl ?_
      refine w_callS K hl H (fun r h => c_X11_isPart l h) mC_yX11_isPart mM_RX11_170 mT_yX11_isPart mZ_RX11 (Nat.le_of_ble_eq_true rfl) (Nat.le_of_ble_eq_true rfl) np_yX11_isPart rfl (Nat.le_of_ble_eq_true rfl) dX11_weighed_18 (fun r3 H => ?_) ⟨Nat.zero_le _, Nat.zero_le _⟩
      refine w_if_ne K 28 dX11_weighed_21 (by decide) H (fun _ H => ?_) (fun _ H => ?_)
      · refine r_aload_n K 0 dX11_weighed_28 rfl rfl ?_
        refine w_getO K vc11 inX11 3 (by decide) mF_RX11_35 dX11_weighed_29 H (fun x4 H => ?_)
        refine w_getO K vc3 inX3 0 (by decide) mF_RX11_119 dX11_weighed_32 H (fun x5 H => ?_)
        refine r_iload_n K 1 dX11_weighed_35 rfl rfl ?_
        refine r_aload_n K 0 dX11_weighed_36 rfl rfl ?_
        refine w_getO K vc11 inX11 12 (by decide) mF_RX11_94 dX11_weighed_37 H (fun x6 H => ?_)
        refine w_callV K hl H (fun r h => c_X9_weighPowers l h) mC_yX9_weighPowers mM_RX11_222 mI_yX9_weighPowers mS_yX9_weighPowers mZ_RX9 vc9 (Nat.le_of_ble_eq_true rfl) (Nat.le_of_ble_eq_true rfl) np_yX9_weighPowers rfl (Nat.le_of_ble_eq_true rfl) dX11_weighed_40 (fun μ7 H => ?_) ⟨Nat.zero_le _, Nat.zero_le _⟩
        refine r_aload_n K 0 dX11_weighed_43 rfl rfl ?_
        refine w_getO K vc11 inX11 12 (by decide) mF_RX11_94 dX11_weighed_44 H (fun x8 H => ?_)
        refine r_iload_n K 2 dX11_weighed_47 rfl rfl ?_
        refine w_callV K hl H (fun r h => c_X1_part l h) mC_yX1_part mM_RX11_177 mI_yX1_part mS_yX1_part mZ_RX1 vc1 (Nat.le_of_ble_eq_true rfl) (Nat.le_of_ble_eq_true rfl) np_yX1_part rfl (Nat.le_of_ble_eq_true rfl) dX11_weighed_48 (fun r9 H => ?_) ⟨Nat.zero_le _, Nat.zero_le _⟩
        cases H
        obtain ⟨rfl, rfl⟩ := jfin2 D
        exact r_lret K dX11_weighed_51
      · exact r_sub [] rfl (t_X11_weighed_24 K hl H D)
theorem c_X11_weighed (l : Launch) {n : Nat} {Y : jY} {v0 : Nat} {v1 : Int32} {v2 : Int32} {μ : jM} {z : Int64 × jM} (H : f_X11_weighed Y v0 v1 v2 μ = some z) : jC l yX11_weighed cX11_weighed 3 (some .long) 5 0 0 [.ref v0, .int v1, .int v2] n Y μ n Y (some (.long z.1)) z.2 := by
  refine jC_of (by decide +kernel) (Nat.le_of_ble_eq_true rfl) (fun X hl K _ _ _ => ?_)
  obtain ⟨rr, μr⟩ := z
  exact t_X11_weighed_0 K hl H rfl
/-! RX11 alike(III)I -/
def b_X11_alike_23 (Y : jY) (μ : jM) : Option (Int32 × jM) :=
  some ((-1 : Int32), μ)
def b_X11_alike_63 (Y : jY) (μ : jM) : Option (Int32 × jM) :=
  some ((-2 : Int32), μ)
def b_X11_alike_114 (Y : jY) (t0 : Int32) (μ : jM) : Option (Int32 × jM) :=
  some (t0, μ)
def b_X11_alike_102 (Y : jY) (t0 : Int32) (μ : jM) : Option (Int32 × jM) :=
  if t0 = 0 then
    b_X11_alike_114 Y (0 : Int32) μ
  else
    b_X11_alike_114 Y (1 : Int32) μ
def f_X11_alike (Y : jY) (v0 : Nat) (v1 : Int32) (v2 : Int32) (v3 : Int32) (μ : jM) : Option (Int32 × jM) :=
  (f_X11_isDrawer Y v1 μ).bind fun r1 =>
  if r1.1 = 0 then
    b_X11_alike_23 Y r1.2
  else
    (f_X11_isDrawer Y v2 r1.2).bind fun r2 =>
    if r2.1 = 0 then
      b_X11_alike_23 Y r2.2
    else
      (f_X11_within Y v3 ((0 : Int32)) ((2 : Int32)) r2.2).bind fun r3 =>
      if r3.1 = 0 then
        b_X11_alike_23 Y r3.2
      else
        (jgO Y r3.2 v0 11 3).bind fun x4 =>
        (jgO Y r3.2 x4 3 1).bind fun x5 =>
        (jaO Y r3.2 x5 24 v1).bind fun x6 =>
        (jgO Y r3.2 v0 11 3).bind fun x7 =>
        (jgO Y r3.2 x7 3 1).bind fun x8 =>
        (jaO Y r3.2 x8 24 v2).bind fun x9 =>
        (jgI Y r3.2 x6 10 0).bind fun x10 =>
        if x10 = 0 then
          b_X11_alike_63 Y r3.2
        else
          (jgI Y r3.2 x9 10 0).bind fun x11 =>
          if x11 = 0 then
            b_X11_alike_63 Y r3.2
          else
            if v3 = ((2 : Int32)) then
              (jrcv Y x6 10 (f_X10_sharedRoots Y x6 x9 ((50 : Int32)) r3.2)).bind fun r14 =>
              some (r14.1, r14.2)
            else
              if v3 = 0 then
                (jrcv Y x6 10 (f_X10_soundsLike Y x6 x9 r3.2)).bind fun r13 =>
                b_X11_alike_102 Y r13.1 r13.2
              else
                (jrcv Y x6 10 (f_X10_isTurnOf Y x6 x9 r3.2)).bind fun r12 =>
                b_X11_alike_102 Y r12.1 r12.2
set_option maxRecDepth 10000 in
theorem t_X11_alike_23 {X : jX} {l : Launch} {n : Nat} {Y : jY} (K : jOK X RX11 cX11_alike 7 (some .int) 6) (hl : X.2.1 = l) {rr : Int32} {μr : jM} {μ : jM} {z : (Int32 × jM)} (H : b_X11_alike_23 Y μ = some z) (D : z = (rr, μr)) : JW X (jEnd X n Y (some (.int rr)) μr 0 0) 0 0 n Y 23 [] [] μ := by
  unfold b_X11_alike_23 at H
  refine r_iconst (v := -1) K dX11_alike_23 (by decide) ?_
  cases H
  obtain ⟨rfl, rfl⟩ := jfin2 D
  exact r_iret K dX11_alike_24
set_option maxRecDepth 10000 in
theorem t_X11_alike_63 {X : jX} {l : Launch} {n : Nat} {Y : jY} (K : jOK X RX11 cX11_alike 7 (some .int) 6) (hl : X.2.1 = l) {rr : Int32} {μr : jM} {μ : jM} {z : (Int32 × jM)} (H : b_X11_alike_63 Y μ = some z) (D : z = (rr, μr)) : JW X (jEnd X n Y (some (.int rr)) μr 0 0) 0 0 n Y 63 [] [] μ := by
  unfold b_X11_alike_63 at H
  refine r_bipush (v := -2) K dX11_alike_63 (by decide) ?_
  cases H
  obtain ⟨rfl, rfl⟩ := jfin2 D
  exact r_iret K dX11_alike_65
set_option maxRecDepth 10000 in
theorem t_X11_alike_114 {X : jX} {l : Launch} {n : Nat} {Y : jY} (K : jOK X RX11 cX11_alike 7 (some .int) 6) (hl : X.2.1 = l) {rr : Int32} {μr : jM} {t0 : Int32} {μ : jM} {z : (Int32 × jM)} (H : b_X11_alike_114 Y t0 μ = some z) (D : z = (rr, μr)) : JW X (jEnd X n Y (some (.int rr)) μr 0 0) 0 0 n Y 114 [] [.int t0] μ := by
  unfold b_X11_alike_114 at H
  cases H
  obtain ⟨rfl, rfl⟩ := jfin2 D
  exact r_iret K dX11_alike_114
set_option maxRecDepth 10000 in
theorem t_X11_alike_102 {X : jX} {l : Launch} {n : Nat} {Y : jY} (K : jOK X RX11 cX11_alike 7 (some .int) 6) (hl : X.2.1 = l) {rr : Int32} {μr : jM} {t0 : Int32} {μ : jM} {z : (Int32 × jM)} (H : b_X11_alike_102 Y t0 μ = some z) (D : z = (rr, μr)) : JW X (jEnd X n Y (some (.int rr)) μr 0 0) 0 0 n Y 102 [] [.int t0] μ := by
  unfold b_X11_alike_102 at H
  refine r_istore K [(6, .int _)] dX11_alike_102 (by decide) rfl ?_
  refine r_iload K 0 dX11_alike_104 rfl ?_
  refine w_if_eq K 113 dX11_alike_106 (by decide) H (fun _ H => ?_) (fun _ H => ?_)
  · refine r_iconst (v := 0) K dX11_alike_113 (by decide) ?_
    exact r_sub [] rfl (t_X11_alike_114 K hl H D)
  · refine r_iconst (v := 1) K dX11_alike_109 (by decide) ?_
    refine r_goto K 114 dX11_alike_110 (by decide) ?_
    exact r_sub [] rfl (t_X11_alike_114 K hl H D)
set_option maxRecDepth 10000 in
theorem t_X11_alike_0 {X : jX} {l : Launch} {n : Nat} {Y : jY} (K : jOK X RX11 cX11_alike 7 (some .int) 6) (hl : X.2.1 = l) {rr : Int32} {μr : jM} {v0 : Nat} {v1 : Int32} {v2 : Int32} {v3 : Int32} {μ : jM} {z : (Int32 × jM)} (H : f_X11_alike Y v0 v1 v2 v3 μ = some z) (D : z = (rr, μr)) : JW X (jEnd X n Y (some (.int rr)) μr 0 0) 0 0 n Y 0 [(0, .ref v0), (1, .int v1), (2, .int v2), (3, .int v3)] [] μ := by
  unfold f_X11_alike at H
  refine r_iload_n K 1 dX11_alike_0 rfl rfl ?_
  refine w_callS K hl H (fun r h => c_X11_isDrawer l h) mC_yX11_isDrawer mM_RX11_252 mT_yX11_isDrawer mZ_RX11 (Nat.le_of_ble_eq_true rfl) (Nat.le_of_ble_eq_true rfl) np_yX11_isDrawer rfl (Nat.le_of_ble_eq_true rfl) dX11_alike_1 (fun r1 H => ?_) ⟨Nat.zero_le _, Nat.zero_le _⟩
  refine w_if_eq K 23 dX11_alike_4 (by decide) H (fun _ H => ?_) (fun _ H => ?_)
  · exact r_sub [] rfl (t_X11_alike_23 K hl H D)
  · refine r_iload_n K 2 dX11_alike_7 rfl rfl ?_
    refine w_callS K hl H (fun r h => c_X11_isDrawer l h) mC_yX11_isDrawer mM_RX11_252 mT_yX11_isDrawer mZ_RX11 (Nat.le_of_ble_eq_true rfl) (Nat.le_of_ble_eq_true rfl) np_yX11_isDrawer rfl (Nat.le_of_ble_eq_true rfl) dX11_alike_8 (fun r2 H => ?_) ⟨Nat.zero_le _, Nat.zero_le _⟩
    refine w_if_eq K 23 dX11_alike_11 (by decide) H (fun _ H => ?_) (fun _ H => ?_)
    · exact r_sub [] rfl (t_X11_alike_23 K hl H D)
    · refine r_iload_n K 3 dX11_alike_14 rfl rfl ?_
      refine r_iconst (v := 0) K dX11_alike_15 (by decide) ?_
      refine r_iconst (v := 2) K dX11_alike_16 (by decide) ?_
      refine w_callS K hl H (fun r h => c_X11_within l h) mC_yX11_within mM_RX11_133 mT_yX11_within mZ_RX11 (Nat.le_of_ble_eq_true rfl) (Nat.le_of_ble_eq_true rfl) np_yX11_within rfl (Nat.le_of_ble_eq_true rfl) dX11_alike_17 (fun r3 H => ?_) ⟨Nat.zero_le _, Nat.zero_le _⟩
      refine w_if_ne K 25 dX11_alike_20 (by decide) H (fun _ H => ?_) (fun _ H => ?_)
      · refine r_aload_n K 0 dX11_alike_25 rfl rfl ?_
        refine w_getO K vc11 inX11 3 (by decide) mF_RX11_35 dX11_alike_26 H (fun x4 H => ?_)
        refine w_getO K vc3 inX3 1 (by decide) mF_RX11_255 dX11_alike_29 H (fun x5 H => ?_)
        refine r_iload_n K 1 dX11_alike_32 rfl rfl ?_
        refine w_aald K 24 rfl rfl dX11_alike_33 H (fun x6 H => ?_)
        refine r_astore K [(4, .ref _), (0, .ref _), (1, .int _), (2, .int _), (3, .int _)] dX11_alike_34 (by decide) rfl ?_
        refine r_aload_n K 1 dX11_alike_36 rfl rfl ?_
        refine w_getO K vc11 inX11 3 (by decide) mF_RX11_35 dX11_alike_37 H (fun x7 H => ?_)
        refine w_getO K vc3 inX3 1 (by decide) mF_RX11_255 dX11_alike_40 H (fun x8 H => ?_)
        refine r_iload_n K 3 dX11_alike_43 rfl rfl ?_
        refine w_aald K 24 rfl rfl dX11_alike_44 H (fun x9 H => ?_)
        refine r_astore K [(5, .ref _), (4, .ref _), (0, .ref _), (1, .int _), (2, .int _), (3, .int _)] dX11_alike_45 (by decide) rfl ?_
        refine r_aload K 1 dX11_alike_47 rfl ?_
        refine w_getI K vc10 inX10 0 (by decide) mF_RX11_263 dX11_alike_49 H (fun x10 H => ?_)
        refine w_if_eq K 63 dX11_alike_52 (by decide) H (fun _ H => ?_) (fun _ H => ?_)
        · exact r_sub [] rfl (t_X11_alike_63 K hl H D)
        · refine r_aload K 0 dX11_alike_55 rfl ?_
          refine w_getI K vc10 inX10 0 (by decide) mF_RX11_263 dX11_alike_57 H (fun x11 H => ?_)
          refine w_if_ne K 66 dX11_alike_60 (by decide) H (fun _ H => ?_) (fun _ H => ?_)
          · refine r_iload_n K 5 dX11_alike_66 rfl rfl ?_
            refine r_iconst (v := 2) K dX11_alike_67 (by decide) ?_
            refine w_icmp_ne K 81 dX11_alike_68 (by decide) H (fun _ H => ?_) (fun _ H => ?_)
            · refine r_iload_n K 5 dX11_alike_81 rfl rfl ?_
              refine w_if_ne K 95 dX11_alike_82 (by decide) H (fun _ H => ?_) (fun _ H => ?_)
              · refine r_aload K 1 dX11_alike_95 rfl ?_
                refine r_aload K 0 dX11_alike_97 rfl ?_
                refine w_callV K hl H (fun r h => c_X10_isTurnOf l h) mC_yX10_isTurnOf mM_RX11_327 mI_yX10_isTurnOf mS_yX10_isTurnOf mZ_RX10 vc10 (Nat.le_of_ble_eq_true rfl) (Nat.le_of_ble_eq_true rfl) np_yX10_isTurnOf rfl (Nat.le_of_ble_eq_true rfl) dX11_alike_99 (fun r12 H => ?_) ⟨Nat.zero_le _, Nat.zero_le _⟩
                exact r_sub [] rfl (t_X11_alike_102 K hl H D)
              · refine r_aload K 1 dX11_alike_85 rfl ?_
                refine r_aload K 0 dX11_alike_87 rfl ?_
                refine w_callV K hl H (fun r h => c_X10_soundsLike l h) mC_yX10_soundsLike mM_RX11_323 mI_yX10_soundsLike mS_yX10_soundsLike mZ_RX10 vc10 (Nat.le_of_ble_eq_true rfl) (Nat.le_of_ble_eq_true rfl) np_yX10_soundsLike rfl (Nat.le_of_ble_eq_true rfl) dX11_alike_89 (fun r13 H => ?_) ⟨Nat.zero_le _, Nat.zero_le _⟩
                refine r_goto K 102 dX11_alike_92 (by decide) ?_
                exact r_sub [] rfl (t_X11_alike_102 K hl H D)
            · refine r_aload K 1 dX11_alike_71 rfl ?_
              refine r_aload K 0 dX11_alike_73 rfl ?_
              refine r_bipush (v := 50) K dX11_alike_75 (by decide) ?_
              refine w_callV K hl H (fun r h => c_X10_sharedRoots l h) mC_yX10_sharedRoots mM_RX11_319 mI_yX10_sharedRoots mS_yX10_sharedRoots mZ_RX10 vc10 (Nat.le_of_ble_eq_true rfl) (Nat.le_of_ble_eq_true rfl) np_yX10_sharedRoots rfl (Nat.le_of_ble_eq_true rfl) dX11_alike_77 (fun r14 H => ?_) ⟨Nat.zero_le _, Nat.zero_le _⟩
              cases H
              obtain ⟨rfl, rfl⟩ := jfin2 D
              exact r_iret K dX11_alike_80
          · exact r_sub [] rfl (t_X11_alike_63 K hl H D)
      · exact r_sub [] rfl (t_X11_alike_23 K hl H D)
theorem c_X11_alike (l : Launch) {n : Nat} {Y : jY} {v0 : Nat} {v1 : Int32} {v2 : Int32} {v3 : Int32} {μ : jM} {z : Int32 × jM} (H : f_X11_alike Y v0 v1 v2 v3 μ = some z) : jC l yX11_alike cX11_alike 7 (some .int) 6 0 0 [.ref v0, .int v1, .int v2, .int v3] n Y μ n Y (some (.int z.1)) z.2 := by
  refine jC_of (by decide +kernel) (Nat.le_of_ble_eq_true rfl) (fun X hl K _ _ _ => ?_)
  obtain ⟨rr, μr⟩ := z
  exact t_X11_alike_0 K hl H rfl
/-! RX11 lay(II)I -/
def b_X11_lay_18 (Y : jY) (μ : jM) : Option (Int32 × jM) :=
  some ((-1 : Int32), μ)
def b_X11_lay_113 (Y : jY) (v0 : Nat) (v1 : Int32) (v2 : Int32) (v3 : Int32) (v4 : Int32) (μ : jM) : Option ((Int32 × Int32 × jM) ⊕ (Int32 × jM)) :=
  some (.inl (v3, (v4 + (1 : Int32)), μ))
def b_X11_lay_46 (Y : jY) (v0 : Nat) (v1 : Int32) (v2 : Int32) (v3 : Int32) (v4 : Int32) (μ : jM) : Option ((Int32 × Int32 × jM) ⊕ (Int32 × jM)) :=
  (jgO Y μ v0 11 8).bind fun x1 =>
  (jrcv Y x1 0 (f_X0_codes Y x1 μ)).bind fun r2 =>
  if r2.1 ≤ v4 then
    some (.inr ((-3 : Int32), r2.2))
  else
    (jgO Y r2.2 v0 11 8).bind fun x3 =>
    (jrcv Y x3 0 (f_X0_makes Y x3 v4 r2.2)).bind fun r4 =>
    if r4.1 = 0 then
      b_X11_lay_113 Y v0 v1 v2 v3 v4 r4.2
    else
      if v3 = v1 then
        (jgO Y r4.2 v0 11 3).bind fun x5 =>
        (jgO Y r4.2 x5 3 1).bind fun x6 =>
        (jaO Y r4.2 x6 24 v2).bind fun x7 =>
        (jgO Y r4.2 v0 11 8).bind fun x8 =>
        (jgO Y r4.2 x8 0 0).bind fun x9 =>
        (jrcv Y x7 10 (f_X10_copy Y x7 x9 r4.2)).bind fun μ10 =>
        (jgO Y μ10 v0 11 3).bind fun x11 =>
        (jgO Y μ10 x11 3 1).bind fun x12 =>
        (jaO Y μ10 x12 24 v2).bind fun x13 =>
        (jgI Y μ10 x13 10 0).bind fun x14 =>
        some (.inr (x14, μ10))
      else
        b_X11_lay_113 Y v0 v1 v2 (v3 + (1 : Int32)) v4 r4.2
def f_X11_lay (Y : jY) (v0 : Nat) (v1 : Int32) (v2 : Int32) (μ : jM) : Option (Int32 × jM) :=
  (jrcv Y v0 11 (f_X11_hasTones Y v0 μ)).bind fun r1 =>
  if r1.1 = 0 then
    b_X11_lay_18 Y r1.2
  else
    if v1 < 0 then
      b_X11_lay_18 Y r1.2
    else
      (f_X11_isDrawer Y v2 r1.2).bind fun r2 =>
      if r2.1 = 0 then
        b_X11_lay_18 Y r2.2
      else
        (jgO Y r2.2 v0 11 3).bind fun x3 =>
        (jgO Y r2.2 x3 3 0).bind fun x4 =>
        (jgI Y r2.2 x4 9 0).bind fun x5 =>
        if x5 ≤ ((3 : Int32)) then
          (jrcv Y v0 11 (f_X11_beginAllTables Y v0 r2.2)).bind fun μ6 =>
          jit jF (fun (s : Int32 × Int32 × jM) => b_X11_lay_46 Y v0 v1 v2 s.1 s.2.1 s.2.2) ((0 : Int32), (0 : Int32), μ6)
        else
          some ((-2 : Int32), r2.2)
set_option maxRecDepth 10000 in
theorem t_X11_lay_18 {X : jX} {l : Launch} {n : Nat} {Y : jY} (K : jOK X RX11 cX11_lay 5 (some .int) 4) (hl : X.2.1 = l) {rr : Int32} {μr : jM} {μ : jM} {z : (Int32 × jM)} (H : b_X11_lay_18 Y μ = some z) (D : z = (rr, μr)) : JW X (jEnd X n Y (some (.int rr)) μr 0 0) 0 0 n Y 18 [] [] μ := by
  unfold b_X11_lay_18 at H
  refine r_iconst (v := -1) K dX11_lay_18 (by decide) ?_
  cases H
  obtain ⟨rfl, rfl⟩ := jfin2 D
  exact r_iret K dX11_lay_19
set_option maxRecDepth 10000 in
theorem t_X11_lay_113 {X : jX} {l : Launch} {n : Nat} {Y : jY} (K : jOK X RX11 cX11_lay 5 (some .int) 4) (hl : X.2.1 = l) {rr : Int32} {μr : jM} {v0 : Nat} {v1 : Int32} {v2 : Int32} {v3 : Int32} {v4 : Int32} {μ : jM} {z : ((Int32 × Int32 × jM) ⊕ (Int32 × jM))} (H : b_X11_lay_113 Y v0 v1 v2 v3 v4 μ = some z) (D : Sum.elim (fun (s : Int32 × Int32 × jM) => JW X (jEnd X n Y (some (.int rr)) μr 0 0) 0 0 n Y 46 [(0, .ref v0), (1, .int v1), (2, .int v2), (3, .int s.1), (4, .int s.2.1)] [] s.2.2) (fun r => r = (rr, μr)) z) : JW X (jEnd X n Y (some (.int rr)) μr 0 0) 0 0 n Y 113 [(0, .ref v0), (1, .int v1), (2, .int v2), (3, .int v3), (4, .int v4)] [] μ := by
  unfold b_X11_lay_113 at H
  refine r_iinc K 4 [(4, .int _), (0, .ref _), (1, .int _), (2, .int _), (3, .int _)] (v := _ + (1 : Int32)) dX11_lay_113 rfl rfl (by decide) rfl ?_
  refine r_goto K 46 dX11_lay_116 (by decide) ?_
  cases H
  exact r_sub [1, 2, 3, 4, 0] rfl D
set_option maxRecDepth 10000 in
theorem t_X11_lay_46 {X : jX} {l : Launch} {n : Nat} {Y : jY} (K : jOK X RX11 cX11_lay 5 (some .int) 4) (hl : X.2.1 = l) {rr : Int32} {μr : jM} {v0 : Nat} {v1 : Int32} {v2 : Int32} {v3 : Int32} {v4 : Int32} {μ : jM} {z : ((Int32 × Int32 × jM) ⊕ (Int32 × jM))} (H : b_X11_lay_46 Y v0 v1 v2 v3 v4 μ = some z) (D : Sum.elim (fun (s : Int32 × Int32 × jM) => JW X (jEnd X n Y (some (.int rr)) μr 0 0) 0 0 n Y 46 [(0, .ref v0), (1, .int v1), (2, .int v2), (3, .int s.1), (4, .int s.2.1)] [] s.2.2) (fun r => r = (rr, μr)) z) : JW X (jEnd X n Y (some (.int rr)) μr 0 0) 0 0 n Y 46 [(0, .ref v0), (1, .int v1), (2, .int v2), (3, .int v3), (4, .int v4)] [] μ := by
  unfold b_X11_lay_46 at H
  refine r_iload K 4 dX11_lay_46 rfl ?_
  refine r_aload_n K 0 dX11_lay_48 rfl rfl ?_
  refine w_getO K vc11 inX11 8 (by decide) mF_RX11_66 dX11_lay_49 H (fun x1 H => ?_)
  refine w_callV K hl H (fun r h => c_X0_codes l h) mC_yX0_codes mM_RX11_370 mI_yX0_codes mS_yX0_codes mZ_RX0 vc0 (Nat.le_of_ble_eq_true rfl) (Nat.le_of_ble_eq_true rfl) np_yX0_codes rfl (Nat.le_of_ble_eq_true rfl) dX11_lay_52 (fun r2 H => ?_) ⟨Nat.zero_le _, Nat.zero_le _⟩
  refine w_icmp_ge K 119 dX11_lay_55 (by decide) H (fun _ H => ?_) (fun _ H => ?_)
  · refine r_bipush (v := -3) K dX11_lay_119 (by decide) ?_
    cases H
    simp only [Sum.elim_inr] at D
    obtain ⟨rfl, rfl⟩ := jfin2 D
    exact r_iret K dX11_lay_121
  · refine r_aload_n K 0 dX11_lay_58 rfl rfl ?_
    refine w_getO K vc11 inX11 8 (by decide) mF_RX11_66 dX11_lay_59 H (fun x3 H => ?_)
    refine r_iload K 4 dX11_lay_62 rfl ?_
    refine w_callV K hl H (fun r h => c_X0_makes l h) mC_yX0_makes mM_RX11_373 mI_yX0_makes mS_yX0_makes mZ_RX0 vc0 (Nat.le_of_ble_eq_true rfl) (Nat.le_of_ble_eq_true rfl) np_yX0_makes rfl (Nat.le_of_ble_eq_true rfl) dX11_lay_64 (fun r4 H => ?_) ⟨Nat.zero_le _, Nat.zero_le _⟩
    refine w_if_ne K 73 dX11_lay_67 (by decide) H (fun _ H => ?_) (fun _ H => ?_)
    · refine r_iload_n K 3 dX11_lay_73 rfl rfl ?_
      refine r_iload_n K 1 dX11_lay_74 rfl rfl ?_
      refine w_icmp_ne K 110 dX11_lay_75 (by decide) H (fun _ H => ?_) (fun _ H => ?_)
      · refine r_iinc K 3 [(3, .int _), (0, .ref _), (1, .int _), (2, .int _), (4, .int _)] (v := _ + (1 : Int32)) dX11_lay_110 rfl rfl (by decide) rfl ?_
        exact r_sub [1, 2, 3, 0, 4] rfl (t_X11_lay_113 K hl H D)
      · refine r_aload_n K 0 dX11_lay_78 rfl rfl ?_
        refine w_getO K vc11 inX11 3 (by decide) mF_RX11_35 dX11_lay_79 H (fun x5 H => ?_)
        refine w_getO K vc3 inX3 1 (by decide) mF_RX11_255 dX11_lay_82 H (fun x6 H => ?_)
        refine r_iload_n K 2 dX11_lay_85 rfl rfl ?_
        refine w_aald K 24 rfl rfl dX11_lay_86 H (fun x7 H => ?_)
        refine r_aload_n K 0 dX11_lay_87 rfl rfl ?_
        refine w_getO K vc11 inX11 8 (by decide) mF_RX11_66 dX11_lay_88 H (fun x8 H => ?_)
        refine w_getO K vc0 inX0 0 (by decide) mF_RX11_376 dX11_lay_91 H (fun x9 H => ?_)
        refine w_callV K hl H (fun r h => c_X10_copy l h) mC_yX10_copy mM_RX11_337 mI_yX10_copy mS_yX10_copy mZ_RX10 vc10 (Nat.le_of_ble_eq_true rfl) (Nat.le_of_ble_eq_true rfl) np_yX10_copy rfl (Nat.le_of_ble_eq_true rfl) dX11_lay_94 (fun μ10 H => ?_) ⟨Nat.zero_le _, Nat.zero_le _⟩
        refine r_aload_n K 0 dX11_lay_97 rfl rfl ?_
        refine w_getO K vc11 inX11 3 (by decide) mF_RX11_35 dX11_lay_98 H (fun x11 H => ?_)
        refine w_getO K vc3 inX3 1 (by decide) mF_RX11_255 dX11_lay_101 H (fun x12 H => ?_)
        refine r_iload_n K 2 dX11_lay_104 rfl rfl ?_
        refine w_aald K 24 rfl rfl dX11_lay_105 H (fun x13 H => ?_)
        refine w_getI K vc10 inX10 0 (by decide) mF_RX11_263 dX11_lay_106 H (fun x14 H => ?_)
        cases H
        simp only [Sum.elim_inr] at D
        obtain ⟨rfl, rfl⟩ := jfin2 D
        exact r_iret K dX11_lay_109
    · refine r_goto K 113 dX11_lay_70 (by decide) ?_
      exact r_sub [0, 1, 2, 3, 4] rfl (t_X11_lay_113 K hl H D)
set_option maxRecDepth 10000 in
theorem l_X11_lay_46 {X : jX} {l : Launch} {n : Nat} {Y : jY} (K : jOK X RX11 cX11_lay 5 (some .int) 4) (hl : X.2.1 = l) {rr : Int32} {μr : jM} {v0 : Nat} {v1 : Int32} {v2 : Int32}  {s0 : Int32 × Int32 × jM} {z : (Int32 × jM)} (H : jit jF (fun (s : Int32 × Int32 × jM) => b_X11_lay_46 Y v0 v1 v2 s.1 s.2.1 s.2.2) s0 = some z) (D : z = (rr, μr)) : JW X (jEnd X n Y (some (.int rr)) μr 0 0) 0 0 n Y 46 [(0, .ref v0), (1, .int v1), (2, .int v2), (3, .int s0.1), (4, .int s0.2.1)] [] s0.2.2 :=
  jit_ind (P := fun (s : Int32 × Int32 × jM) => JW X (jEnd X n Y (some (.int rr)) μr 0 0) 0 0 n Y 46 [(0, .ref v0), (1, .int v1), (2, .int v2), (3, .int s.1), (4, .int s.2.1)] [] s.2.2) (D := fun r => r = (rr, μr)) (fun s z Hs Ds => t_X11_lay_46 K hl Hs Ds) jF s0 z H D
set_option maxRecDepth 10000 in
theorem t_X11_lay_0 {X : jX} {l : Launch} {n : Nat} {Y : jY} (K : jOK X RX11 cX11_lay 5 (some .int) 4) (hl : X.2.1 = l) {rr : Int32} {μr : jM} {v0 : Nat} {v1 : Int32} {v2 : Int32} {μ : jM} {z : (Int32 × jM)} (H : f_X11_lay Y v0 v1 v2 μ = some z) (D : z = (rr, μr)) : JW X (jEnd X n Y (some (.int rr)) μr 0 0) 0 0 n Y 0 [(0, .ref v0), (1, .int v1), (2, .int v2)] [] μ := by
  unfold f_X11_lay at H
  refine r_aload_n K 0 dX11_lay_0 rfl rfl ?_
  refine w_callV K hl H (fun r h => c_X11_hasTones l h) mC_yX11_hasTones mM_RX11_147 mI_yX11_hasTones mS_yX11_hasTones mZ_RX11 vc11 (Nat.le_of_ble_eq_true rfl) (Nat.le_of_ble_eq_true rfl) np_yX11_hasTones rfl (Nat.le_of_ble_eq_true rfl) dX11_lay_1 (fun r1 H => ?_) ⟨Nat.zero_le _, Nat.zero_le _⟩
  refine w_if_eq K 18 dX11_lay_4 (by decide) H (fun _ H => ?_) (fun _ H => ?_)
  · exact r_sub [] rfl (t_X11_lay_18 K hl H D)
  · refine r_iload_n K 1 dX11_lay_7 rfl rfl ?_
    refine w_if_lt K 18 dX11_lay_8 (by decide) H (fun _ H => ?_) (fun _ H => ?_)
    · exact r_sub [] rfl (t_X11_lay_18 K hl H D)
    · refine r_iload_n K 2 dX11_lay_11 rfl rfl ?_
      refine w_callS K hl H (fun r h => c_X11_isDrawer l h) mC_yX11_isDrawer mM_RX11_252 mT_yX11_isDrawer mZ_RX11 (Nat.le_of_ble_eq_true rfl) (Nat.le_of_ble_eq_true rfl) np_yX11_isDrawer rfl (Nat.le_of_ble_eq_true rfl) dX11_lay_12 (fun r2 H => ?_) ⟨Nat.zero_le _, Nat.zero_le _⟩
      refine w_if_ne K 20 dX11_lay_15 (by decide) H (fun _ H => ?_) (fun _ H => ?_)
      · refine r_aload_n K 0 dX11_lay_20 rfl rfl ?_
        refine w_getO K vc11 inX11 3 (by decide) mF_RX11_35 dX11_lay_21 H (fun x3 H => ?_)
        refine w_getO K vc3 inX3 0 (by decide) mF_RX11_119 dX11_lay_24 H (fun x4 H => ?_)
        refine w_getI K vc9 inX9 0 (by decide) mF_RX11_126 dX11_lay_27 H (fun x5 H => ?_)
        refine r_iconst (v := 3) K dX11_lay_30 (by decide) ?_
        refine w_icmp_le K 37 dX11_lay_31 (by decide) H (fun _ H => ?_) (fun _ H => ?_)
        · refine r_aload_n K 0 dX11_lay_37 rfl rfl ?_
          refine w_callV K hl H (fun r h => c_X11_beginAllTables l h) mC_yX11_beginAllTables mM_RX11_367 mI_yX11_beginAllTables mS_yX11_beginAllTables mZ_RX11 vc11 (Nat.le_of_ble_eq_true rfl) (Nat.le_of_ble_eq_true rfl) np_yX11_beginAllTables rfl (Nat.le_of_ble_eq_true rfl) dX11_lay_38 (fun μ6 H => ?_) ⟨Nat.zero_le _, Nat.zero_le _⟩
          refine r_iconst (v := 0) K dX11_lay_41 (by decide) ?_
          refine r_istore_n K [(3, .int _), (0, .ref _), (1, .int _), (2, .int _)] dX11_lay_42 rfl (by decide) rfl ?_
          refine r_iconst (v := 0) K dX11_lay_43 (by decide) ?_
          refine r_istore K [(4, .int _), (3, .int _), (0, .ref _), (1, .int _), (2, .int _)] dX11_lay_44 (by decide) rfl ?_
          exact r_sub [2, 3, 4, 1, 0] rfl (l_X11_lay_46 K hl H D)
        · refine r_bipush (v := -2) K dX11_lay_34 (by decide) ?_
          cases H
          obtain ⟨rfl, rfl⟩ := jfin2 D
          exact r_iret K dX11_lay_36
      · exact r_sub [] rfl (t_X11_lay_18 K hl H D)
theorem c_X11_lay (l : Launch) {n : Nat} {Y : jY} {v0 : Nat} {v1 : Int32} {v2 : Int32} {μ : jM} {z : Int32 × jM} (H : f_X11_lay Y v0 v1 v2 μ = some z) : jC l yX11_lay cX11_lay 5 (some .int) 4 0 0 [.ref v0, .int v1, .int v2] n Y μ n Y (some (.int z.1)) z.2 := by
  refine jC_of (by decide +kernel) (Nat.le_of_ble_eq_true rfl) (fun X hl K _ _ _ => ?_)
  obtain ⟨rr, μr⟩ := z
  exact t_X11_lay_0 K hl H rfl
/-! RX11 isRival(LChainTables$WholeTable;ZIII)Z -/
def f_X11_isRival (Y : jY) (v0 : Nat) (v1 : Nat) (v2 : Int32) (v3 : Int32) (v4 : Int32) (v5 : Int32) (μ : jM) : Option (Int32 × jM) :=
  (jrcv Y v1 10 (f_X10_numberAt Y v1 v2 v3 μ)).bind fun r1 =>
  if v4 = r1.1 then
    (jbool ((0 : Int32))).bind fun x9 =>
    some (x9, r1.2)
  else
    (jgO Y r1.2 v0 11 10).bind fun x2 =>
    (jrcv Y x2 10 (f_X10_copy Y x2 v1 r1.2)).bind fun μ3 =>
    (jgO Y μ3 v0 11 10).bind fun x4 =>
    (jrcv Y x4 10 (f_X10_setNumber Y x4 v2 v3 v4 μ3)).bind fun μ5 =>
    (jgO Y μ5 v0 11 10).bind fun x6 =>
    (jrcv Y x6 10 (f_X10_meets Y x6 v5 μ5)).bind fun r7 =>
    (jbool r7.1).bind fun x8 =>
    some (x8, r7.2)
set_option maxRecDepth 10000 in
theorem t_X11_isRival_0 {X : jX} {l : Launch} {n : Nat} {Y : jY} (K : jOK X RX11 cX11_isRival 6 (some .boolean) 5) (hl : X.2.1 = l) {rr : Int32} {μr : jM} {v0 : Nat} {v1 : Nat} {v2 : Int32} {v3 : Int32} {v4 : Int32} {v5 : Int32} {μ : jM} {z : (Int32 × jM)} (H : f_X11_isRival Y v0 v1 v2 v3 v4 v5 μ = some z) (D : z = (rr, μr)) : JW X (jEnd X n Y (some (.int rr)) μr 0 0) 0 0 n Y 0 [(0, .ref v0), (1, .ref v1), (2, .int v2), (3, .int v3), (4, .int v4), (5, .int v5)] [] μ := by
  unfold f_X11_isRival at H
  refine r_iload K 4 dX11_isRival_0 rfl ?_
  refine r_aload_n K 1 dX11_isRival_2 rfl rfl ?_
  refine r_iload_n K 2 dX11_isRival_3 rfl rfl ?_
  refine r_iload_n K 3 dX11_isRival_4 rfl rfl ?_
  refine w_callV K hl H (fun r h => c_X10_numberAt l h) mC_yX10_numberAt mM_RX11_277 mI_yX10_numberAt mS_yX10_numberAt mZ_RX10 vc10 (Nat.le_of_ble_eq_true rfl) (Nat.le_of_ble_eq_true rfl) np_yX10_numberAt rfl (Nat.le_of_ble_eq_true rfl) dX11_isRival_5 (fun r1 H => ?_) ⟨Nat.zero_le _, Nat.zero_le _⟩
  refine w_icmp_ne K 13 dX11_isRival_8 (by decide) H (fun _ H => ?_) (fun _ H => ?_)
  · refine r_aload_n K 0 dX11_isRival_13 rfl rfl ?_
    refine w_getO K vc11 inX11 10 (by decide) mF_RX11_80 dX11_isRival_14 H (fun x2 H => ?_)
    refine r_aload_n K 1 dX11_isRival_17 rfl rfl ?_
    refine w_callV K hl H (fun r h => c_X10_copy l h) mC_yX10_copy mM_RX11_337 mI_yX10_copy mS_yX10_copy mZ_RX10 vc10 (Nat.le_of_ble_eq_true rfl) (Nat.le_of_ble_eq_true rfl) np_yX10_copy rfl (Nat.le_of_ble_eq_true rfl) dX11_isRival_18 (fun μ3 H => ?_) ⟨Nat.zero_le _, Nat.zero_le _⟩
    refine r_aload_n K 0 dX11_isRival_21 rfl rfl ?_
    refine w_getO K vc11 inX11 10 (by decide) mF_RX11_80 dX11_isRival_22 H (fun x4 H => ?_)
    refine r_iload_n K 2 dX11_isRival_25 rfl rfl ?_
    refine r_iload_n K 3 dX11_isRival_26 rfl rfl ?_
    refine r_iload K 4 dX11_isRival_27 rfl ?_
    refine w_callV K hl H (fun r h => c_X10_setNumber l h) mC_yX10_setNumber mM_RX11_281 mI_yX10_setNumber mS_yX10_setNumber mZ_RX10 vc10 (Nat.le_of_ble_eq_true rfl) (Nat.le_of_ble_eq_true rfl) np_yX10_setNumber rfl (Nat.le_of_ble_eq_true rfl) dX11_isRival_29 (fun μ5 H => ?_) ⟨Nat.zero_le _, Nat.zero_le _⟩
    refine r_aload_n K 0 dX11_isRival_32 rfl rfl ?_
    refine w_getO K vc11 inX11 10 (by decide) mF_RX11_80 dX11_isRival_33 H (fun x6 H => ?_)
    refine r_iload K 5 dX11_isRival_36 rfl ?_
    refine w_callV K hl H (fun r h => c_X10_meets l h) mC_yX10_meets mM_RX11_354 mI_yX10_meets mS_yX10_meets mZ_RX10 vc10 (Nat.le_of_ble_eq_true rfl) (Nat.le_of_ble_eq_true rfl) np_yX10_meets rfl (Nat.le_of_ble_eq_true rfl) dX11_isRival_38 (fun r7 H => ?_) ⟨Nat.zero_le _, Nat.zero_le _⟩
    refine w_zret K dX11_isRival_41 H (fun hz H => ?_)
    cases H
    obtain ⟨rfl, rfl⟩ := jfin2 D
    exact r_zret K hz dX11_isRival_41
  · refine r_iconst (v := 0) K dX11_isRival_11 (by decide) ?_
    refine w_zret K dX11_isRival_12 H (fun hz H => ?_)
    cases H
    obtain ⟨rfl, rfl⟩ := jfin2 D
    exact r_zret K hz dX11_isRival_12
theorem c_X11_isRival (l : Launch) {n : Nat} {Y : jY} {v0 : Nat} {v1 : Nat} {v2 : Int32} {v3 : Int32} {v4 : Int32} {v5 : Int32} {μ : jM} {z : Int32 × jM} (H : f_X11_isRival Y v0 v1 v2 v3 v4 v5 μ = some z) : jC l yX11_isRival cX11_isRival 6 (some .boolean) 5 0 0 [.ref v0, .ref v1, .int v2, .int v3, .int v4, .int v5] n Y μ n Y (some (.int z.1)) z.2 := by
  refine jC_of (by decide +kernel) (Nat.le_of_ble_eq_true rfl) (fun X hl K _ _ _ => ?_)
  obtain ⟨rr, μr⟩ := z
  exact t_X11_isRival_0 K hl H rfl
/-! RX11 rivals(IIZ)I -/
def b_X11_rivals_16 (Y : jY) (μ : jM) : Option (Int32 × jM) :=
  some ((-1 : Int32), μ)
def b_X11_rivals_215 (Y : jY) (t0 : Int32) (μ : jM) : Option (Int32 × jM) :=
  some (t0, μ)
def b_X11_rivals_193 (Y : jY) (v0 : Nat) (v2 : Int32) (v3 : Int32) (v4 : Nat) (v5 : Int32) (v6 : Int32) (v7 : Int32) (v8 : Int32) (v10 : Int32) (v11 : Int32) (μ : jM) : Option ((Int32 × Int32 × jM) ⊕ ((Int32 × Int32 × jM) ⊕ (Int32 × jM))) :=
  some (.inl (v5, (v11 + (1 : Int32)), μ))
def b_X11_rivals_189 (Y : jY) (t0 : Int32) (μ : jM) : Option (Int32 × jM) :=
  some (t0, μ)
def b_X11_rivals_128 (Y : jY) (v0 : Nat) (v2 : Int32) (v3 : Int32) (v4 : Nat) (v5 : Int32) (v6 : Int32) (v7 : Int32) (v8 : Int32) (v10 : Int32) (v11 : Int32) (μ : jM) : Option ((Int32 × Int32 × jM) ⊕ ((Int32 × Int32 × jM) ⊕ (Int32 × jM))) :=
  if v10 < v11 then
    some (.inr (.inl (v5, (v6 + (1 : Int32)), μ)))
  else
    (jrcv Y v0 11 (f_X11_isRival Y v0 v4 v7 v8 v11 v2 μ)).bind fun r1 =>
    if r1.1 = 0 then
      b_X11_rivals_193 Y v0 v2 v3 v4 v5 v6 v7 v8 v10 v11 r1.2
    else
      if v3 = 0 then
        b_X11_rivals_193 Y v0 v2 v3 v4 (v5 + (1 : Int32)) v6 v7 v8 v10 v11 r1.2
      else
        if v7 = 0 then
          (b_X11_rivals_189 Y (((((1000 : Int32)) + ((((100 : Int32)) * v8)))) + v11) r1.2).map (fun r => (.inr (.inr r)))
        else
          (b_X11_rivals_189 Y (((((((100 : Int32)) * v8)) + v11)) + ((6 : Int32))) r1.2).map (fun r => (.inr (.inr r)))
def b_X11_rivals_122 (Y : jY) (v0 : Nat) (v2 : Int32) (v3 : Int32) (v4 : Nat) (v5 : Int32) (v6 : Int32) (v7 : Int32) (v8 : Int32) (v9 : Int32) (t0 : Int32) (μ : jM) : Option ((Int32 × Int32 × jM) ⊕ (Int32 × jM)) :=
  jit jF (fun (s : Int32 × Int32 × jM) => b_X11_rivals_128 Y v0 v2 v3 v4 s.1 v6 v7 v8 t0 s.2.1 s.2.2) (v5, v9, μ)
def b_X11_rivals_108 (Y : jY) (v0 : Nat) (v2 : Int32) (v3 : Int32) (v4 : Nat) (v5 : Int32) (v6 : Int32) (v7 : Int32) (v8 : Int32) (t0 : Int32) (μ : jM) : Option ((Int32 × Int32 × jM) ⊕ (Int32 × jM)) :=
  if v7 = 0 then
    b_X11_rivals_122 Y v0 v2 v3 v4 v5 v6 v7 v8 t0 (36 : Int32) μ
  else
    b_X11_rivals_122 Y v0 v2 v3 v4 v5 v6 v7 v8 t0 (6 : Int32) μ
def b_X11_rivals_95 (Y : jY) (v0 : Nat) (v2 : Int32) (v3 : Int32) (v4 : Nat) (v5 : Int32) (v6 : Int32) (v7 : Int32) (t0 : Int32) (μ : jM) : Option ((Int32 × Int32 × jM) ⊕ (Int32 × jM)) :=
  if v7 = 0 then
    b_X11_rivals_108 Y v0 v2 v3 v4 v5 v6 v7 t0 (1 : Int32) μ
  else
    b_X11_rivals_108 Y v0 v2 v3 v4 v5 v6 v7 t0 (-6 : Int32) μ
def b_X11_rivals_75 (Y : jY) (v0 : Nat) (v2 : Int32) (v3 : Int32) (v4 : Nat) (v5 : Int32) (v6 : Int32) (t0 : Int32) (μ : jM) : Option ((Int32 × Int32 × jM) ⊕ (Int32 × jM)) :=
  if t0 = 0 then
    (jgI Y μ v4 10 0).bind fun x1 =>
    b_X11_rivals_95 Y v0 v2 v3 v4 v5 v6 t0 (v6 - x1) μ
  else
    b_X11_rivals_95 Y v0 v2 v3 v4 v5 v6 t0 v6 μ
def b_X11_rivals_46 (Y : jY) (v0 : Nat) (v2 : Int32) (v3 : Int32) (v4 : Nat) (v5 : Int32) (v6 : Int32) (μ : jM) : Option ((Int32 × Int32 × jM) ⊕ (Int32 × jM)) :=
  (jgI Y μ v4 10 0).bind fun x1 =>
  if ((((((2 : Int32)) * x1)) - ((1 : Int32)))) ≤ v6 then
    if v3 = 0 then
      (b_X11_rivals_215 Y v5 μ).map (fun r => (.inr r))
    else
      (b_X11_rivals_215 Y (-1 : Int32) μ).map (fun r => (.inr r))
  else
    (jgI Y μ v4 10 0).bind fun x2 =>
    if x2 ≤ v6 then
      b_X11_rivals_75 Y v0 v2 v3 v4 v5 v6 (0 : Int32) μ
    else
      b_X11_rivals_75 Y v0 v2 v3 v4 v5 v6 (1 : Int32) μ
def f_X11_rivals (Y : jY) (v0 : Nat) (v1 : Int32) (v2 : Int32) (v3 : Int32) (μ : jM) : Option (Int32 × jM) :=
  (f_X11_isDrawer Y v1 μ).bind fun r1 =>
  if r1.1 = 0 then
    b_X11_rivals_16 Y r1.2
  else
    (f_X11_within Y v2 ((0 : Int32)) ((2 : Int32)) r1.2).bind fun r2 =>
    if r2.1 = 0 then
      b_X11_rivals_16 Y r2.2
    else
      (jgO Y r2.2 v0 11 3).bind fun x3 =>
      (jgO Y r2.2 x3 3 1).bind fun x4 =>
      (jaO Y r2.2 x4 24 v1).bind fun x5 =>
      (jgI Y r2.2 x5 10 0).bind fun x6 =>
      if x6 = 0 then
        some ((-2 : Int32), r2.2)
      else
        jit jF (fun (s : Int32 × Int32 × jM) => b_X11_rivals_46 Y v0 v2 v3 x5 s.1 s.2.1 s.2.2) ((0 : Int32), (0 : Int32), r2.2)
set_option maxRecDepth 10000 in
theorem t_X11_rivals_16 {X : jX} {l : Launch} {n : Nat} {Y : jY} (K : jOK X RX11 cX11_rivals 12 (some .int) 6) (hl : X.2.1 = l) {rr : Int32} {μr : jM} {μ : jM} {z : (Int32 × jM)} (H : b_X11_rivals_16 Y μ = some z) (D : z = (rr, μr)) : JW X (jEnd X n Y (some (.int rr)) μr 0 0) 0 0 n Y 16 [] [] μ := by
  unfold b_X11_rivals_16 at H
  refine r_iconst (v := -1) K dX11_rivals_16 (by decide) ?_
  cases H
  obtain ⟨rfl, rfl⟩ := jfin2 D
  exact r_iret K dX11_rivals_17
set_option maxRecDepth 10000 in
theorem t_X11_rivals_215 {X : jX} {l : Launch} {n : Nat} {Y : jY} (K : jOK X RX11 cX11_rivals 12 (some .int) 6) (hl : X.2.1 = l) {rr : Int32} {μr : jM} {t0 : Int32} {μ : jM} {z : (Int32 × jM)} (H : b_X11_rivals_215 Y t0 μ = some z) (D : z = (rr, μr)) : JW X (jEnd X n Y (some (.int rr)) μr 0 0) 0 0 n Y 215 [] [.int t0] μ := by
  unfold b_X11_rivals_215 at H
  cases H
  obtain ⟨rfl, rfl⟩ := jfin2 D
  exact r_iret K dX11_rivals_215
set_option maxRecDepth 10000 in
theorem t_X11_rivals_193 {X : jX} {l : Launch} {n : Nat} {Y : jY} (K : jOK X RX11 cX11_rivals 12 (some .int) 6) (hl : X.2.1 = l) {rr : Int32} {μr : jM} {v0 : Nat} {v2 : Int32} {v3 : Int32} {v4 : Nat} {v5 : Int32} {v6 : Int32} {v7 : Int32} {v8 : Int32} {v10 : Int32} {v11 : Int32} {μ : jM} {z : ((Int32 × Int32 × jM) ⊕ ((Int32 × Int32 × jM) ⊕ (Int32 × jM)))} (H : b_X11_rivals_193 Y v0 v2 v3 v4 v5 v6 v7 v8 v10 v11 μ = some z) (D : Sum.elim (fun (s : Int32 × Int32 × jM) => JW X (jEnd X n Y (some (.int rr)) μr 0 0) 0 0 n Y 128 [(0, .ref v0), (2, .int v2), (3, .int v3), (4, .ref v4), (5, .int s.1), (6, .int v6), (7, .int v7), (8, .int v8), (10, .int v10), (11, .int s.2.1)] [] s.2.2) (Sum.elim (fun (s : Int32 × Int32 × jM) => JW X (jEnd X n Y (some (.int rr)) μr 0 0) 0 0 n Y 46 [(0, .ref v0), (2, .int v2), (3, .int v3), (4, .ref v4), (5, .int s.1), (6, .int s.2.1)] [] s.2.2) (fun r => r = (rr, μr))) z) : JW X (jEnd X n Y (some (.int rr)) μr 0 0) 0 0 n Y 193 [(0, .ref v0), (2, .int v2), (3, .int v3), (4, .ref v4), (5, .int v5), (6, .int v6), (7, .int v7), (8, .int v8), (10, .int v10), (11, .int v11)] [] μ := by
  unfold b_X11_rivals_193 at H
  refine r_iinc K 9 [(11, .int _), (0, .ref _), (2, .int _), (3, .int _), (4, .ref _), (5, .int _), (6, .int _), (7, .int _), (8, .int _), (10, .int _)] (v := _ + (1 : Int32)) dX11_rivals_193 rfl rfl (by decide) rfl ?_
  refine r_goto K 128 dX11_rivals_196 (by decide) ?_
  cases H
  exact r_sub [1, 2, 3, 4, 5, 6, 7, 8, 9, 0] rfl D
set_option maxRecDepth 10000 in
theorem t_X11_rivals_189 {X : jX} {l : Launch} {n : Nat} {Y : jY} (K : jOK X RX11 cX11_rivals 12 (some .int) 6) (hl : X.2.1 = l) {rr : Int32} {μr : jM} {t0 : Int32} {μ : jM} {z : (Int32 × jM)} (H : b_X11_rivals_189 Y t0 μ = some z) (D : z = (rr, μr)) : JW X (jEnd X n Y (some (.int rr)) μr 0 0) 0 0 n Y 189 [] [.int t0] μ := by
  unfold b_X11_rivals_189 at H
  cases H
  obtain ⟨rfl, rfl⟩ := jfin2 D
  exact r_iret K dX11_rivals_189
set_option maxRecDepth 10000 in
theorem t_X11_rivals_128 {X : jX} {l : Launch} {n : Nat} {Y : jY} (K : jOK X RX11 cX11_rivals 12 (some .int) 6) (hl : X.2.1 = l) {rr : Int32} {μr : jM} {v0 : Nat} {v2 : Int32} {v3 : Int32} {v4 : Nat} {v5 : Int32} {v6 : Int32} {v7 : Int32} {v8 : Int32} {v10 : Int32} {v11 : Int32} {μ : jM} {z : ((Int32 × Int32 × jM) ⊕ ((Int32 × Int32 × jM) ⊕ (Int32 × jM)))} (H : b_X11_rivals_128 Y v0 v2 v3 v4 v5 v6 v7 v8 v10 v11 μ = some z) (D : Sum.elim (fun (s : Int32 × Int32 × jM) => JW X (jEnd X n Y (some (.int rr)) μr 0 0) 0 0 n Y 128 [(0, .ref v0), (2, .int v2), (3, .int v3), (4, .ref v4), (5, .int s.1), (6, .int v6), (7, .int v7), (8, .int v8), (10, .int v10), (11, .int s.2.1)] [] s.2.2) (Sum.elim (fun (s : Int32 × Int32 × jM) => JW X (jEnd X n Y (some (.int rr)) μr 0 0) 0 0 n Y 46 [(0, .ref v0), (2, .int v2), (3, .int v3), (4, .ref v4), (5, .int s.1), (6, .int s.2.1)] [] s.2.2) (fun r => r = (rr, μr))) z) : JW X (jEnd X n Y (some (.int rr)) μr 0 0) 0 0 n Y 128 [(0, .ref v0), (2, .int v2), (3, .int v3), (4, .ref v4), (5, .int v5), (6, .int v6), (7, .int v7), (8, .int v8), (10, .int v10), (11, .int v11)] [] μ := by
  unfold b_X11_rivals_128 at H
  refine r_iload K 9 dX11_rivals_128 rfl ?_
  refine r_iload K 8 dX11_rivals_130 rfl ?_
  refine w_icmp_gt K 199 dX11_rivals_132 (by decide) H (fun _ H => ?_) (fun _ H => ?_)
  · refine r_iinc K 5 [(6, .int _), (0, .ref _), (2, .int _), (3, .int _), (4, .ref _), (5, .int _), (7, .int _), (8, .int _), (10, .int _), (11, .int _)] (v := _ + (1 : Int32)) dX11_rivals_199 rfl rfl (by decide) rfl ?_
    refine r_goto K 46 dX11_rivals_202 (by decide) ?_
    cases H
    exact r_sub [1, 2, 3, 4, 5, 0] rfl D
  · refine r_aload_n K 0 dX11_rivals_135 rfl rfl ?_
    refine r_aload K 3 dX11_rivals_136 rfl ?_
    refine r_iload K 6 dX11_rivals_138 rfl ?_
    refine r_iload K 7 dX11_rivals_140 rfl ?_
    refine r_iload K 9 dX11_rivals_142 rfl ?_
    refine r_iload_n K 1 dX11_rivals_144 rfl rfl ?_
    refine w_callV K hl H (fun r h => c_X11_isRival l h) mC_yX11_isRival mM_RX11_350 mI_yX11_isRival mS_yX11_isRival mZ_RX11 vc11 (Nat.le_of_ble_eq_true rfl) (Nat.le_of_ble_eq_true rfl) np_yX11_isRival rfl (Nat.le_of_ble_eq_true rfl) dX11_rivals_145 (fun r1 H => ?_) ⟨Nat.zero_le _, Nat.zero_le _⟩
    refine w_if_ne K 154 dX11_rivals_148 (by decide) H (fun _ H => ?_) (fun _ H => ?_)
    · refine r_iload_n K 2 dX11_rivals_154 rfl rfl ?_
      refine w_if_eq K 190 dX11_rivals_155 (by decide) H (fun _ H => ?_) (fun _ H => ?_)
      · refine r_iinc K 4 [(5, .int _), (0, .ref _), (2, .int _), (3, .int _), (4, .ref _), (6, .int _), (7, .int _), (8, .int _), (10, .int _), (11, .int _)] (v := _ + (1 : Int32)) dX11_rivals_190 rfl rfl (by decide) rfl ?_
        exact r_sub [1, 2, 3, 4, 0, 5, 6, 7, 8, 9] rfl (t_X11_rivals_193 K hl H D)
      · refine r_iload K 6 dX11_rivals_158 rfl ?_
        refine w_if_eq K 177 dX11_rivals_160 (by decide) H (fun _ H => ?_) (fun _ H => ?_)
        · refine r_sipush (v := 1000) K dX11_rivals_177 (by decide) ?_
          refine r_bipush (v := 100) K dX11_rivals_180 (by decide) ?_
          refine r_iload K 7 dX11_rivals_182 rfl ?_
          refine r_imul K dX11_rivals_184 ?_
          refine r_iadd K dX11_rivals_185 ?_
          refine r_iload K 9 dX11_rivals_186 rfl ?_
          refine r_iadd K dX11_rivals_188 ?_
          obtain ⟨z2, H2, rfl⟩ := jmap H
          exact r_sub [] rfl (t_X11_rivals_189 K hl H2 D)
        · refine r_bipush (v := 100) K dX11_rivals_163 (by decide) ?_
          refine r_iload K 7 dX11_rivals_165 rfl ?_
          refine r_imul K dX11_rivals_167 ?_
          refine r_iload K 9 dX11_rivals_168 rfl ?_
          refine r_iadd K dX11_rivals_170 ?_
          refine r_bipush (v := 6) K dX11_rivals_171 (by decide) ?_
          refine r_iadd K dX11_rivals_173 ?_
          refine r_goto K 189 dX11_rivals_174 (by decide) ?_
          obtain ⟨z2, H2, rfl⟩ := jmap H
          exact r_sub [] rfl (t_X11_rivals_189 K hl H2 D)
    · refine r_goto K 193 dX11_rivals_151 (by decide) ?_
      exact r_sub [0, 1, 2, 3, 4, 5, 6, 7, 8, 9] rfl (t_X11_rivals_193 K hl H D)
set_option maxRecDepth 10000 in
theorem l_X11_rivals_128 {X : jX} {l : Launch} {n : Nat} {Y : jY} (K : jOK X RX11 cX11_rivals 12 (some .int) 6) (hl : X.2.1 = l) {rr : Int32} {μr : jM} {v0 : Nat} {v2 : Int32} {v3 : Int32} {v4 : Nat} {v6 : Int32} {v7 : Int32} {v8 : Int32} {v10 : Int32}  {s0 : Int32 × Int32 × jM} {z : ((Int32 × Int32 × jM) ⊕ (Int32 × jM))} (H : jit jF (fun (s : Int32 × Int32 × jM) => b_X11_rivals_128 Y v0 v2 v3 v4 s.1 v6 v7 v8 v10 s.2.1 s.2.2) s0 = some z) (D : Sum.elim (fun (s : Int32 × Int32 × jM) => JW X (jEnd X n Y (some (.int rr)) μr 0 0) 0 0 n Y 46 [(0, .ref v0), (2, .int v2), (3, .int v3), (4, .ref v4), (5, .int s.1), (6, .int s.2.1)] [] s.2.2) (fun r => r = (rr, μr)) z) : JW X (jEnd X n Y (some (.int rr)) μr 0 0) 0 0 n Y 128 [(0, .ref v0), (2, .int v2), (3, .int v3), (4, .ref v4), (5, .int s0.1), (6, .int v6), (7, .int v7), (8, .int v8), (10, .int v10), (11, .int s0.2.1)] [] s0.2.2 :=
  jit_ind (P := fun (s : Int32 × Int32 × jM) => JW X (jEnd X n Y (some (.int rr)) μr 0 0) 0 0 n Y 128 [(0, .ref v0), (2, .int v2), (3, .int v3), (4, .ref v4), (5, .int s.1), (6, .int v6), (7, .int v7), (8, .int v8), (10, .int v10), (11, .int s.2.1)] [] s.2.2) (D := Sum.elim (fun (s : Int32 × Int32 × jM) => JW X (jEnd X n Y (some (.int rr)) μr 0 0) 0 0 n Y 46 [(0, .ref v0), (2, .int v2), (3, .int v3), (4, .ref v4), (5, .int s.1), (6, .int s.2.1)] [] s.2.2) (fun r => r = (rr, μr))) (fun s z Hs Ds => t_X11_rivals_128 K hl Hs Ds) jF s0 z H D
set_option maxRecDepth 10000 in
theorem t_X11_rivals_122 {X : jX} {l : Launch} {n : Nat} {Y : jY} (K : jOK X RX11 cX11_rivals 12 (some .int) 6) (hl : X.2.1 = l) {rr : Int32} {μr : jM} {v0 : Nat} {v2 : Int32} {v3 : Int32} {v4 : Nat} {v5 : Int32} {v6 : Int32} {v7 : Int32} {v8 : Int32} {v9 : Int32} {t0 : Int32} {μ : jM} {z : ((Int32 × Int32 × jM) ⊕ (Int32 × jM))} (H : b_X11_rivals_122 Y v0 v2 v3 v4 v5 v6 v7 v8 v9 t0 μ = some z) (D : Sum.elim (fun (s : Int32 × Int32 × jM) => JW X (jEnd X n Y (some (.int rr)) μr 0 0) 0 0 n Y 46 [(0, .ref v0), (2, .int v2), (3, .int v3), (4, .ref v4), (5, .int s.1), (6, .int s.2.1)] [] s.2.2) (fun r => r = (rr, μr)) z) : JW X (jEnd X n Y (some (.int rr)) μr 0 0) 0 0 n Y 122 [(0, .ref v0), (2, .int v2), (3, .int v3), (4, .ref v4), (5, .int v5), (6, .int v6), (7, .int v7), (8, .int v8), (9, .int v9)] [.int t0] μ := by
  unfold b_X11_rivals_122 at H
  refine r_istore K [(10, .int _), (0, .ref _), (2, .int _), (3, .int _), (4, .ref _), (5, .int _), (6, .int _), (7, .int _), (8, .int _), (9, .int _)] dX11_rivals_122 (by decide) rfl ?_
  refine r_iload K 9 dX11_rivals_124 rfl ?_
  refine r_istore K [(11, .int _), (10, .int _), (0, .ref _), (2, .int _), (3, .int _), (4, .ref _), (5, .int _), (6, .int _), (7, .int _), (8, .int _), (9, .int _)] dX11_rivals_126 (by decide) rfl ?_
  exact r_sub [2, 3, 4, 5, 6, 7, 8, 9, 1, 0] rfl (l_X11_rivals_128 K hl H D)
set_option maxRecDepth 10000 in
theorem t_X11_rivals_108 {X : jX} {l : Launch} {n : Nat} {Y : jY} (K : jOK X RX11 cX11_rivals 12 (some .int) 6) (hl : X.2.1 = l) {rr : Int32} {μr : jM} {v0 : Nat} {v2 : Int32} {v3 : Int32} {v4 : Nat} {v5 : Int32} {v6 : Int32} {v7 : Int32} {v8 : Int32} {t0 : Int32} {μ : jM} {z : ((Int32 × Int32 × jM) ⊕ (Int32 × jM))} (H : b_X11_rivals_108 Y v0 v2 v3 v4 v5 v6 v7 v8 t0 μ = some z) (D : Sum.elim (fun (s : Int32 × Int32 × jM) => JW X (jEnd X n Y (some (.int rr)) μr 0 0) 0 0 n Y 46 [(0, .ref v0), (2, .int v2), (3, .int v3), (4, .ref v4), (5, .int s.1), (6, .int s.2.1)] [] s.2.2) (fun r => r = (rr, μr)) z) : JW X (jEnd X n Y (some (.int rr)) μr 0 0) 0 0 n Y 108 [(0, .ref v0), (2, .int v2), (3, .int v3), (4, .ref v4), (5, .int v5), (6, .int v6), (7, .int v7), (8, .int v8)] [.int t0] μ := by
  unfold b_X11_rivals_108 at H
  refine r_istore K [(9, .int _), (0, .ref _), (2, .int _), (3, .int _), (4, .ref _), (5, .int _), (6, .int _), (7, .int _), (8, .int _)] dX11_rivals_108 (by decide) rfl ?_
  refine r_iload K 7 dX11_rivals_110 rfl ?_
  refine w_if_eq K 120 dX11_rivals_112 (by decide) H (fun _ H => ?_) (fun _ H => ?_)
  · refine r_bipush (v := 36) K dX11_rivals_120 (by decide) ?_
    exact r_sub [1, 2, 3, 4, 5, 6, 7, 8, 0] rfl (t_X11_rivals_122 K hl H D)
  · refine r_bipush (v := 6) K dX11_rivals_115 (by decide) ?_
    refine r_goto K 122 dX11_rivals_117 (by decide) ?_
    exact r_sub [1, 2, 3, 4, 5, 6, 7, 8, 0] rfl (t_X11_rivals_122 K hl H D)
set_option maxRecDepth 10000 in
theorem t_X11_rivals_95 {X : jX} {l : Launch} {n : Nat} {Y : jY} (K : jOK X RX11 cX11_rivals 12 (some .int) 6) (hl : X.2.1 = l) {rr : Int32} {μr : jM} {v0 : Nat} {v2 : Int32} {v3 : Int32} {v4 : Nat} {v5 : Int32} {v6 : Int32} {v7 : Int32} {t0 : Int32} {μ : jM} {z : ((Int32 × Int32 × jM) ⊕ (Int32 × jM))} (H : b_X11_rivals_95 Y v0 v2 v3 v4 v5 v6 v7 t0 μ = some z) (D : Sum.elim (fun (s : Int32 × Int32 × jM) => JW X (jEnd X n Y (some (.int rr)) μr 0 0) 0 0 n Y 46 [(0, .ref v0), (2, .int v2), (3, .int v3), (4, .ref v4), (5, .int s.1), (6, .int s.2.1)] [] s.2.2) (fun r => r = (rr, μr)) z) : JW X (jEnd X n Y (some (.int rr)) μr 0 0) 0 0 n Y 95 [(0, .ref v0), (2, .int v2), (3, .int v3), (4, .ref v4), (5, .int v5), (6, .int v6), (7, .int v7)] [.int t0] μ := by
  unfold b_X11_rivals_95 at H
  refine r_istore K [(8, .int _), (0, .ref _), (2, .int _), (3, .int _), (4, .ref _), (5, .int _), (6, .int _), (7, .int _)] dX11_rivals_95 (by decide) rfl ?_
  refine r_iload K 7 dX11_rivals_97 rfl ?_
  refine w_if_eq K 107 dX11_rivals_99 (by decide) H (fun _ H => ?_) (fun _ H => ?_)
  · refine r_iconst (v := 1) K dX11_rivals_107 (by decide) ?_
    exact r_sub [1, 2, 3, 4, 5, 6, 7, 0] rfl (t_X11_rivals_108 K hl H D)
  · refine r_bipush (v := -6) K dX11_rivals_102 (by decide) ?_
    refine r_goto K 108 dX11_rivals_104 (by decide) ?_
    exact r_sub [1, 2, 3, 4, 5, 6, 7, 0] rfl (t_X11_rivals_108 K hl H D)
set_option maxRecDepth 10000 in
theorem t_X11_rivals_75 {X : jX} {l : Launch} {n : Nat} {Y : jY} (K : jOK X RX11 cX11_rivals 12 (some .int) 6) (hl : X.2.1 = l) {rr : Int32} {μr : jM} {v0 : Nat} {v2 : Int32} {v3 : Int32} {v4 : Nat} {v5 : Int32} {v6 : Int32} {t0 : Int32} {μ : jM} {z : ((Int32 × Int32 × jM) ⊕ (Int32 × jM))} (H : b_X11_rivals_75 Y v0 v2 v3 v4 v5 v6 t0 μ = some z) (D : Sum.elim (fun (s : Int32 × Int32 × jM) => JW X (jEnd X n Y (some (.int rr)) μr 0 0) 0 0 n Y 46 [(0, .ref v0), (2, .int v2), (3, .int v3), (4, .ref v4), (5, .int s.1), (6, .int s.2.1)] [] s.2.2) (fun r => r = (rr, μr)) z) : JW X (jEnd X n Y (some (.int rr)) μr 0 0) 0 0 n Y 75 [(0, .ref v0), (2, .int v2), (3, .int v3), (4, .ref v4), (5, .int v5), (6, .int v6)] [.int t0] μ := by
  unfold b_X11_rivals_75 at H
  refine r_istore K [(7, .int _), (0, .ref _), (2, .int _), (3, .int _), (4, .ref _), (5, .int _), (6, .int _)] dX11_rivals_75 (by decide) rfl ?_
  refine r_iload K 0 dX11_rivals_77 rfl ?_
  refine w_if_eq K 87 dX11_rivals_79 (by decide) H (fun _ H => ?_) (fun _ H => ?_)
  · refine r_iload K 6 dX11_rivals_87 rfl ?_
    refine r_aload K 4 dX11_rivals_89 rfl ?_
    refine w_getI K vc10 inX10 0 (by decide) mF_RX11_263 dX11_rivals_91 H (fun x1 H => ?_)
    refine r_isub K dX11_rivals_94 ?_
    exact r_sub [1, 2, 3, 4, 5, 6, 0] rfl (t_X11_rivals_95 K hl H D)
  · refine r_iload K 6 dX11_rivals_82 rfl ?_
    refine r_goto K 95 dX11_rivals_84 (by decide) ?_
    exact r_sub [1, 2, 3, 4, 5, 6, 0] rfl (t_X11_rivals_95 K hl H D)
set_option maxRecDepth 10000 in
theorem t_X11_rivals_46 {X : jX} {l : Launch} {n : Nat} {Y : jY} (K : jOK X RX11 cX11_rivals 12 (some .int) 6) (hl : X.2.1 = l) {rr : Int32} {μr : jM} {v0 : Nat} {v2 : Int32} {v3 : Int32} {v4 : Nat} {v5 : Int32} {v6 : Int32} {μ : jM} {z : ((Int32 × Int32 × jM) ⊕ (Int32 × jM))} (H : b_X11_rivals_46 Y v0 v2 v3 v4 v5 v6 μ = some z) (D : Sum.elim (fun (s : Int32 × Int32 × jM) => JW X (jEnd X n Y (some (.int rr)) μr 0 0) 0 0 n Y 46 [(0, .ref v0), (2, .int v2), (3, .int v3), (4, .ref v4), (5, .int s.1), (6, .int s.2.1)] [] s.2.2) (fun r => r = (rr, μr)) z) : JW X (jEnd X n Y (some (.int rr)) μr 0 0) 0 0 n Y 46 [(0, .ref v0), (2, .int v2), (3, .int v3), (4, .ref v4), (5, .int v5), (6, .int v6)] [] μ := by
  unfold b_X11_rivals_46 at H
  refine r_iload K 5 dX11_rivals_46 rfl ?_
  refine r_iconst (v := 2) K dX11_rivals_48 (by decide) ?_
  refine r_aload K 3 dX11_rivals_49 rfl ?_
  refine w_getI K vc10 inX10 0 (by decide) mF_RX11_263 dX11_rivals_51 H (fun x1 H => ?_)
  refine r_imul K dX11_rivals_54 ?_
  refine r_iconst (v := 1) K dX11_rivals_55 (by decide) ?_
  refine r_isub K dX11_rivals_56 ?_
  refine w_icmp_ge K 205 dX11_rivals_57 (by decide) H (fun _ H => ?_) (fun _ H => ?_)
  · refine r_iload_n K 2 dX11_rivals_205 rfl rfl ?_
    refine w_if_eq K 213 dX11_rivals_206 (by decide) H (fun _ H => ?_) (fun _ H => ?_)
    · refine r_iload K 4 dX11_rivals_213 rfl ?_
      obtain ⟨z2, H2, rfl⟩ := jmap H
      exact r_sub [] rfl (t_X11_rivals_215 K hl H2 D)
    · refine r_iconst (v := -1) K dX11_rivals_209 (by decide) ?_
      refine r_goto K 215 dX11_rivals_210 (by decide) ?_
      obtain ⟨z2, H2, rfl⟩ := jmap H
      exact r_sub [] rfl (t_X11_rivals_215 K hl H2 D)
  · refine r_iload K 5 dX11_rivals_60 rfl ?_
    refine r_aload K 3 dX11_rivals_62 rfl ?_
    refine w_getI K vc10 inX10 0 (by decide) mF_RX11_263 dX11_rivals_64 H (fun x2 H => ?_)
    refine w_icmp_ge K 74 dX11_rivals_67 (by decide) H (fun _ H => ?_) (fun _ H => ?_)
    · refine r_iconst (v := 0) K dX11_rivals_74 (by decide) ?_
      exact r_sub [0, 1, 2, 3, 4, 5] rfl (t_X11_rivals_75 K hl H D)
    · refine r_iconst (v := 1) K dX11_rivals_70 (by decide) ?_
      refine r_goto K 75 dX11_rivals_71 (by decide) ?_
      exact r_sub [0, 1, 2, 3, 4, 5] rfl (t_X11_rivals_75 K hl H D)
set_option maxRecDepth 10000 in
theorem l_X11_rivals_46 {X : jX} {l : Launch} {n : Nat} {Y : jY} (K : jOK X RX11 cX11_rivals 12 (some .int) 6) (hl : X.2.1 = l) {rr : Int32} {μr : jM} {v0 : Nat} {v2 : Int32} {v3 : Int32} {v4 : Nat}  {s0 : Int32 × Int32 × jM} {z : (Int32 × jM)} (H : jit jF (fun (s : Int32 × Int32 × jM) => b_X11_rivals_46 Y v0 v2 v3 v4 s.1 s.2.1 s.2.2) s0 = some z) (D : z = (rr, μr)) : JW X (jEnd X n Y (some (.int rr)) μr 0 0) 0 0 n Y 46 [(0, .ref v0), (2, .int v2), (3, .int v3), (4, .ref v4), (5, .int s0.1), (6, .int s0.2.1)] [] s0.2.2 :=
  jit_ind (P := fun (s : Int32 × Int32 × jM) => JW X (jEnd X n Y (some (.int rr)) μr 0 0) 0 0 n Y 46 [(0, .ref v0), (2, .int v2), (3, .int v3), (4, .ref v4), (5, .int s.1), (6, .int s.2.1)] [] s.2.2) (D := fun r => r = (rr, μr)) (fun s z Hs Ds => t_X11_rivals_46 K hl Hs Ds) jF s0 z H D
set_option maxRecDepth 10000 in
theorem t_X11_rivals_0 {X : jX} {l : Launch} {n : Nat} {Y : jY} (K : jOK X RX11 cX11_rivals 12 (some .int) 6) (hl : X.2.1 = l) {rr : Int32} {μr : jM} {v0 : Nat} {v1 : Int32} {v2 : Int32} {v3 : Int32} {μ : jM} {z : (Int32 × jM)} (H : f_X11_rivals Y v0 v1 v2 v3 μ = some z) (D : z = (rr, μr)) : JW X (jEnd X n Y (some (.int rr)) μr 0 0) 0 0 n Y 0 [(0, .ref v0), (1, .int v1), (2, .int v2), (3, .int v3)] [] μ := by
  unfold f_X11_rivals at H
  refine r_iload_n K 1 dX11_rivals_0 rfl rfl ?_
  refine w_callS K hl H (fun r h => c_X11_isDrawer l h) mC_yX11_isDrawer mM_RX11_252 mT_yX11_isDrawer mZ_RX11 (Nat.le_of_ble_eq_true rfl) (Nat.le_of_ble_eq_true rfl) np_yX11_isDrawer rfl (Nat.le_of_ble_eq_true rfl) dX11_rivals_1 (fun r1 H => ?_) ⟨Nat.zero_le _, Nat.zero_le _⟩
  refine w_if_eq K 16 dX11_rivals_4 (by decide) H (fun _ H => ?_) (fun _ H => ?_)
  · exact r_sub [] rfl (t_X11_rivals_16 K hl H D)
  · refine r_iload_n K 2 dX11_rivals_7 rfl rfl ?_
    refine r_iconst (v := 0) K dX11_rivals_8 (by decide) ?_
    refine r_iconst (v := 2) K dX11_rivals_9 (by decide) ?_
    refine w_callS K hl H (fun r h => c_X11_within l h) mC_yX11_within mM_RX11_133 mT_yX11_within mZ_RX11 (Nat.le_of_ble_eq_true rfl) (Nat.le_of_ble_eq_true rfl) np_yX11_within rfl (Nat.le_of_ble_eq_true rfl) dX11_rivals_10 (fun r2 H => ?_) ⟨Nat.zero_le _, Nat.zero_le _⟩
    refine w_if_ne K 18 dX11_rivals_13 (by decide) H (fun _ H => ?_) (fun _ H => ?_)
    · refine r_aload_n K 0 dX11_rivals_18 rfl rfl ?_
      refine w_getO K vc11 inX11 3 (by decide) mF_RX11_35 dX11_rivals_19 H (fun x3 H => ?_)
      refine w_getO K vc3 inX3 1 (by decide) mF_RX11_255 dX11_rivals_22 H (fun x4 H => ?_)
      refine r_iload_n K 1 dX11_rivals_25 rfl rfl ?_
      refine w_aald K 24 rfl rfl dX11_rivals_26 H (fun x5 H => ?_)
      refine r_astore K [(4, .ref _), (0, .ref _), (1, .int _), (2, .int _), (3, .int _)] dX11_rivals_27 (by decide) rfl ?_
      refine r_aload K 0 dX11_rivals_29 rfl ?_
      refine w_getI K vc10 inX10 0 (by decide) mF_RX11_263 dX11_rivals_31 H (fun x6 H => ?_)
      refine w_if_ne K 40 dX11_rivals_34 (by decide) H (fun _ H => ?_) (fun _ H => ?_)
      · refine r_iconst (v := 0) K dX11_rivals_40 (by decide) ?_
        refine r_istore K [(5, .int _), (4, .ref _), (0, .ref _), (1, .int _), (2, .int _), (3, .int _)] dX11_rivals_41 (by decide) rfl ?_
        refine r_iconst (v := 0) K dX11_rivals_43 (by decide) ?_
        refine r_istore K [(6, .int _), (5, .int _), (4, .ref _), (0, .ref _), (1, .int _), (2, .int _), (3, .int _)] dX11_rivals_44 (by decide) rfl ?_
        exact r_sub [3, 5, 6, 2, 1, 0] rfl (l_X11_rivals_46 K hl H D)
      · refine r_bipush (v := -2) K dX11_rivals_37 (by decide) ?_
        cases H
        obtain ⟨rfl, rfl⟩ := jfin2 D
        exact r_iret K dX11_rivals_39
    · exact r_sub [] rfl (t_X11_rivals_16 K hl H D)
theorem c_X11_rivals (l : Launch) {n : Nat} {Y : jY} {v0 : Nat} {v1 : Int32} {v2 : Int32} {v3 : Int32} {μ : jM} {z : Int32 × jM} (H : f_X11_rivals Y v0 v1 v2 v3 μ = some z) : jC l yX11_rivals cX11_rivals 12 (some .int) 6 0 0 [.ref v0, .int v1, .int v2, .int v3] n Y μ n Y (some (.int z.1)) z.2 := by
  refine jC_of (by decide +kernel) (Nat.le_of_ble_eq_true rfl) (fun X hl K _ _ _ => ?_)
  obtain ⟨rr, μr⟩ := z
  exact t_X11_rivals_0 K hl H rfl
/-! RX11 write(II)I -/
def b_X11_write_18 (Y : jY) (μ : jM) : Option (Int32 × jM) :=
  some ((-1 : Int32), μ)
def f_X11_write (Y : jY) (v0 : Nat) (v1 : Int32) (v2 : Int32) (μ : jM) : Option (Int32 × jM) :=
  (f_X11_isDrawer Y v1 μ).bind fun r1 =>
  if r1.1 = 0 then
    b_X11_write_18 Y r1.2
  else
    (jgO Y r1.2 v0 11 0).bind fun x2 =>
    (jrcv Y x2 5 (f_X5_holdsText Y x2 v2 r1.2)).bind fun r3 =>
    if r3.1 = 0 then
      b_X11_write_18 Y r3.2
    else
      (jgO Y r3.2 v0 11 1).bind fun x4 =>
      (jgO Y r3.2 v0 11 0).bind fun x5 =>
      (jrcv Y x4 6 (f_X6_scan Y x4 x5 v2 ((0 : Int32)) r3.2)).bind fun r6 =>
      (jgO Y r6.2 v0 11 0).bind fun x7 =>
      (jrcv Y x7 5 (f_X5_clear Y x7 r6.2)).bind fun μ8 =>
      if r6.1 = 0 then
        (jgO Y μ8 v0 11 3).bind fun x9 =>
        (jgO Y μ8 x9 3 1).bind fun x10 =>
        (jaO Y μ8 x10 24 v1).bind fun x11 =>
        (jgO Y μ8 v0 11 1).bind fun x12 =>
        (jrcv Y x11 10 (f_X10_take Y x11 x12 μ8)).bind fun μ13 =>
        (jgO Y μ13 v0 11 3).bind fun x14 =>
        (jgO Y μ13 x14 3 1).bind fun x15 =>
        (jaO Y μ13 x15 24 v1).bind fun x16 =>
        (jgI Y μ13 x16 10 0).bind fun x17 =>
        some (x17, μ13)
      else
        some (r6.1, μ8)
set_option maxRecDepth 10000 in
theorem t_X11_write_18 {X : jX} {l : Launch} {n : Nat} {Y : jY} (K : jOK X RX11 cX11_write 4 (some .int) 6) (hl : X.2.1 = l) {rr : Int32} {μr : jM} {μ : jM} {z : (Int32 × jM)} (H : b_X11_write_18 Y μ = some z) (D : z = (rr, μr)) : JW X (jEnd X n Y (some (.int rr)) μr 0 0) 0 0 n Y 18 [] [] μ := by
  unfold b_X11_write_18 at H
  refine r_iconst (v := -1) K dX11_write_18 (by decide) ?_
  cases H
  obtain ⟨rfl, rfl⟩ := jfin2 D
  exact r_iret K dX11_write_19
set_option maxRecDepth 10000 in
theorem t_X11_write_0 {X : jX} {l : Launch} {n : Nat} {Y : jY} (K : jOK X RX11 cX11_write 4 (some .int) 6) (hl : X.2.1 = l) {rr : Int32} {μr : jM} {v0 : Nat} {v1 : Int32} {v2 : Int32} {μ : jM} {z : (Int32 × jM)} (H : f_X11_write Y v0 v1 v2 μ = some z) (D : z = (rr, μr)) : JW X (jEnd X n Y (some (.int rr)) μr 0 0) 0 0 n Y 0 [(0, .ref v0), (1, .int v1), (2, .int v2)] [] μ := by
  unfold f_X11_write at H
  refine r_iload_n K 1 dX11_write_0 rfl rfl ?_
  refine w_callS K hl H (fun r h => c_X11_isDrawer l h) mC_yX11_isDrawer mM_RX11_252 mT_yX11_isDrawer mZ_RX11 (Nat.le_of_ble_eq_true rfl) (Nat.le_of_ble_eq_true rfl) np_yX11_isDrawer rfl (Nat.le_of_ble_eq_true rfl) dX11_write_1 (fun r1 H => ?_) ⟨Nat.zero_le _, Nat.zero_le _⟩
  refine w_if_eq K 18 dX11_write_4 (by decide) H (fun _ H => ?_) (fun _ H => ?_)
  · exact r_sub [] rfl (t_X11_write_18 K hl H D)
  · refine r_aload_n K 0 dX11_write_7 rfl rfl ?_
    refine w_getO K vc11 inX11 0 (by decide) mF_RX11_12 dX11_write_8 H (fun x2 H => ?_)
    refine r_iload_n K 2 dX11_write_11 rfl rfl ?_
    refine w_callV K hl H (fun r h => c_X5_holdsText l h) mC_yX5_holdsText mM_RX11_109 mI_yX5_holdsText mS_yX5_holdsText mZ_RX5 vc5 (Nat.le_of_ble_eq_true rfl) (Nat.le_of_ble_eq_true rfl) np_yX5_holdsText rfl (Nat.le_of_ble_eq_true rfl) dX11_write_12 (fun r3 H => ?_) ⟨Nat.zero_le _, Nat.zero_le _⟩
    refine w_if_ne K 20 dX11_write_15 (by decide) H (fun _ H => ?_) (fun _ H => ?_)
    · refine r_aload_n K 0 dX11_write_20 rfl rfl ?_
      refine w_getO K vc11 inX11 1 (by decide) mF_RX11_21 dX11_write_21 H (fun x4 H => ?_)
      refine r_aload_n K 0 dX11_write_24 rfl rfl ?_
      refine w_getO K vc11 inX11 0 (by decide) mF_RX11_12 dX11_write_25 H (fun x5 H => ?_)
      refine r_iload_n K 2 dX11_write_28 rfl rfl ?_
      refine r_iconst (v := 0) K dX11_write_29 (by decide) ?_
      refine w_callV K hl H (fun r h => c_X6_scan l h) mC_yX6_scan mM_RX11_112 mI_yX6_scan mS_yX6_scan mZ_RX6 vc6 (Nat.le_of_ble_eq_true rfl) (Nat.le_of_ble_eq_true rfl) np_yX6_scan rfl (Nat.le_of_ble_eq_true rfl) dX11_write_30 (fun r6 H => ?_) ⟨Nat.zero_le _, Nat.zero_le _⟩
      refine r_istore_n K [(3, .int _), (0, .ref _), (1, .int _), (2, .int _)] dX11_write_33 rfl (by decide) rfl ?_
      refine r_aload_n K 1 dX11_write_34 rfl rfl ?_
      refine w_getO K vc11 inX11 0 (by decide) mF_RX11_12 dX11_write_35 H (fun x7 H => ?_)
      refine w_callV K hl H (fun r h => c_X5_clear l h) mC_yX5_clear mM_RX11_116 mI_yX5_clear mS_yX5_clear mZ_RX5 vc5 (Nat.le_of_ble_eq_true rfl) (Nat.le_of_ble_eq_true rfl) np_yX5_clear rfl (Nat.le_of_ble_eq_true rfl) dX11_write_38 (fun μ8 H => ?_) ⟨Nat.zero_le _, Nat.zero_le _⟩
      refine r_iload_n K 0 dX11_write_41 rfl rfl ?_
      refine w_if_eq K 47 dX11_write_42 (by decide) H (fun _ H => ?_) (fun _ H => ?_)
      · refine r_aload_n K 1 dX11_write_47 rfl rfl ?_
        refine w_getO K vc11 inX11 3 (by decide) mF_RX11_35 dX11_write_48 H (fun x9 H => ?_)
        refine w_getO K vc3 inX3 1 (by decide) mF_RX11_255 dX11_write_51 H (fun x10 H => ?_)
        refine r_iload_n K 2 dX11_write_54 rfl rfl ?_
        refine w_aald K 24 rfl rfl dX11_write_55 H (fun x11 H => ?_)
        refine r_aload_n K 1 dX11_write_56 rfl rfl ?_
        refine w_getO K vc11 inX11 1 (by decide) mF_RX11_21 dX11_write_57 H (fun x12 H => ?_)
        refine w_callV K hl H (fun r h => c_X10_take l h) mC_yX10_take mM_RX11_262 mI_yX10_take mS_yX10_take mZ_RX10 vc10 (Nat.le_of_ble_eq_true rfl) (Nat.le_of_ble_eq_true rfl) np_yX10_take rfl (Nat.le_of_ble_eq_true rfl) dX11_write_60 (fun μ13 H => ?_) ⟨Nat.zero_le _, Nat.zero_le _⟩
        refine r_aload_n K 1 dX11_write_63 rfl rfl ?_
        refine w_getO K vc11 inX11 3 (by decide) mF_RX11_35 dX11_write_64 H (fun x14 H => ?_)
        refine w_getO K vc3 inX3 1 (by decide) mF_RX11_255 dX11_write_67 H (fun x15 H => ?_)
        refine r_iload_n K 2 dX11_write_70 rfl rfl ?_
        refine w_aald K 24 rfl rfl dX11_write_71 H (fun x16 H => ?_)
        refine w_getI K vc10 inX10 0 (by decide) mF_RX11_263 dX11_write_72 H (fun x17 H => ?_)
        cases H
        obtain ⟨rfl, rfl⟩ := jfin2 D
        exact r_iret K dX11_write_75
      · refine r_iload_n K 0 dX11_write_45 rfl rfl ?_
        cases H
        obtain ⟨rfl, rfl⟩ := jfin2 D
        exact r_iret K dX11_write_46
    · exact r_sub [] rfl (t_X11_write_18 K hl H D)
theorem c_X11_write (l : Launch) {n : Nat} {Y : jY} {v0 : Nat} {v1 : Int32} {v2 : Int32} {μ : jM} {z : Int32 × jM} (H : f_X11_write Y v0 v1 v2 μ = some z) : jC l yX11_write cX11_write 4 (some .int) 6 0 0 [.ref v0, .int v1, .int v2] n Y μ n Y (some (.int z.1)) z.2 := by
  refine jC_of (by decide +kernel) (Nat.le_of_ble_eq_true rfl) (fun X hl K _ _ _ => ?_)
  obtain ⟨rr, μr⟩ := z
  exact t_X11_write_0 K hl H rfl
/-! RX11 some(II)I -/
def b_X11_some_19 (Y : jY) (t0 : Int32) (μ : jM) : Option (Int32 × jM) :=
  some (t0, μ)
def f_X11_some (Y : jY) (v0 : Nat) (v1 : Int32) (v2 : Int32) (μ : jM) : Option (Int32 × jM) :=
  (f_X11_within Y v1 ((0 : Int32)) ((3 : Int32)) μ).bind fun r1 =>
  if r1.1 = 0 then
    b_X11_some_19 Y (-1 : Int32) r1.2
  else
    (jrcv Y v0 11 (f_X11_countTables Y v0 v1 v2 r1.2)).bind fun r2 =>
    b_X11_some_19 Y r2.1 r2.2
set_option maxRecDepth 10000 in
theorem t_X11_some_19 {X : jX} {l : Launch} {n : Nat} {Y : jY} (K : jOK X RX11 cX11_some 3 (some .int) 6) (hl : X.2.1 = l) {rr : Int32} {μr : jM} {t0 : Int32} {μ : jM} {z : (Int32 × jM)} (H : b_X11_some_19 Y t0 μ = some z) (D : z = (rr, μr)) : JW X (jEnd X n Y (some (.int rr)) μr 0 0) 0 0 n Y 19 [] [.int t0] μ := by
  unfold b_X11_some_19 at H
  cases H
  obtain ⟨rfl, rfl⟩ := jfin2 D
  exact r_iret K dX11_some_19
set_option maxRecDepth 10000 in
theorem t_X11_some_0 {X : jX} {l : Launch} {n : Nat} {Y : jY} (K : jOK X RX11 cX11_some 3 (some .int) 6) (hl : X.2.1 = l) {rr : Int32} {μr : jM} {v0 : Nat} {v1 : Int32} {v2 : Int32} {μ : jM} {z : (Int32 × jM)} (H : f_X11_some Y v0 v1 v2 μ = some z) (D : z = (rr, μr)) : JW X (jEnd X n Y (some (.int rr)) μr 0 0) 0 0 n Y 0 [(0, .ref v0), (1, .int v1), (2, .int v2)] [] μ := by
  unfold f_X11_some at H
  refine r_iload_n K 1 dX11_some_0 rfl rfl ?_
  refine r_iconst (v := 0) K dX11_some_1 (by decide) ?_
  refine r_iconst (v := 3) K dX11_some_2 (by decide) ?_
  refine w_callS K hl H (fun r h => c_X11_within l h) mC_yX11_within mM_RX11_133 mT_yX11_within mZ_RX11 (Nat.le_of_ble_eq_true rfl) (Nat.le_of_ble_eq_true rfl) np_yX11_within rfl (Nat.le_of_ble_eq_true rfl) dX11_some_3 (fun r1 H => ?_) ⟨Nat.zero_le _, Nat.zero_le _⟩
  refine w_if_eq K 18 dX11_some_6 (by decide) H (fun _ H => ?_) (fun _ H => ?_)
  · refine r_iconst (v := -1) K dX11_some_18 (by decide) ?_
    exact r_sub [] rfl (t_X11_some_19 K hl H D)
  · refine r_aload_n K 0 dX11_some_9 rfl rfl ?_
    refine r_iload_n K 1 dX11_some_10 rfl rfl ?_
    refine r_iload_n K 2 dX11_some_11 rfl rfl ?_
    refine w_callV K hl H (fun r h => c_X11_countTables l h) mC_yX11_countTables mM_RX11_364 mI_yX11_countTables mS_yX11_countTables mZ_RX11 vc11 (Nat.le_of_ble_eq_true rfl) (Nat.le_of_ble_eq_true rfl) np_yX11_countTables rfl (Nat.le_of_ble_eq_true rfl) dX11_some_12 (fun r2 H => ?_) ⟨Nat.zero_le _, Nat.zero_le _⟩
    refine r_goto K 19 dX11_some_15 (by decide) ?_
    exact r_sub [] rfl (t_X11_some_19 K hl H D)
theorem c_X11_some (l : Launch) {n : Nat} {Y : jY} {v0 : Nat} {v1 : Int32} {v2 : Int32} {μ : jM} {z : Int32 × jM} (H : f_X11_some Y v0 v1 v2 μ = some z) : jC l yX11_some cX11_some 3 (some .int) 6 0 0 [.ref v0, .int v1, .int v2] n Y μ n Y (some (.int z.1)) z.2 := by
  refine jC_of (by decide +kernel) (Nat.le_of_ble_eq_true rfl) (fun X hl K _ _ _ => ?_)
  obtain ⟨rr, μr⟩ := z
  exact t_X11_some_0 K hl H rfl
/-! RX11 unique()I -/
def f_X11_unique (Y : jY) (v0 : Nat) (μ : jM) : Option (Int32 × jM) :=
  (jrcv Y v0 11 (f_X11_countTables Y v0 ((4 : Int32)) ((0 : Int32)) μ)).bind fun r1 =>
  some (r1.1, r1.2)
set_option maxRecDepth 10000 in
theorem t_X11_unique_0 {X : jX} {l : Launch} {n : Nat} {Y : jY} (K : jOK X RX11 cX11_unique 1 (some .int) 6) (hl : X.2.1 = l) {rr : Int32} {μr : jM} {v0 : Nat} {μ : jM} {z : (Int32 × jM)} (H : f_X11_unique Y v0 μ = some z) (D : z = (rr, μr)) : JW X (jEnd X n Y (some (.int rr)) μr 0 0) 0 0 n Y 0 [(0, .ref v0)] [] μ := by
  unfold f_X11_unique at H
  refine r_aload_n K 0 dX11_unique_0 rfl rfl ?_
  refine r_iconst (v := 4) K dX11_unique_1 (by decide) ?_
  refine r_iconst (v := 0) K dX11_unique_2 (by decide) ?_
  refine w_callV K hl H (fun r h => c_X11_countTables l h) mC_yX11_countTables mM_RX11_364 mI_yX11_countTables mS_yX11_countTables mZ_RX11 vc11 (Nat.le_of_ble_eq_true rfl) (Nat.le_of_ble_eq_true rfl) np_yX11_countTables rfl (Nat.le_of_ble_eq_true rfl) dX11_unique_3 (fun r1 H => ?_) ⟨Nat.zero_le _, Nat.zero_le _⟩
  cases H
  obtain ⟨rfl, rfl⟩ := jfin2 D
  exact r_iret K dX11_unique_6
theorem c_X11_unique (l : Launch) {n : Nat} {Y : jY} {v0 : Nat} {μ : jM} {z : Int32 × jM} (H : f_X11_unique Y v0 μ = some z) : jC l yX11_unique cX11_unique 1 (some .int) 6 0 0 [.ref v0] n Y μ n Y (some (.int z.1)) z.2 := by
  refine jC_of (by decide +kernel) (Nat.le_of_ble_eq_true rfl) (fun X hl K _ _ _ => ?_)
  obtain ⟨rr, μr⟩ := z
  exact t_X11_unique_0 K hl H rfl
/-! RX11 mirror()I -/
def f_X11_mirror (Y : jY) (v0 : Nat) (μ : jM) : Option (Int32 × jM) :=
  (jrcv Y v0 11 (f_X11_hasTones Y v0 μ)).bind fun r1 =>
  if r1.1 = 0 then
    some ((-1 : Int32), r1.2)
  else
    (jgO Y r1.2 v0 11 3).bind fun x2 =>
    (jgO Y r1.2 x2 3 0).bind fun x3 =>
    (jrcv Y x3 9 (f_X9_turnAbout Y x3 r1.2)).bind fun μ4 =>
    (jgO Y μ4 v0 11 3).bind fun x5 =>
    (jgO Y μ4 x5 3 0).bind fun x6 =>
    (jgI Y μ4 x6 9 0).bind fun x7 =>
    some (x7, μ4)
set_option maxRecDepth 10000 in
theorem t_X11_mirror_0 {X : jX} {l : Launch} {n : Nat} {Y : jY} (K : jOK X RX11 cX11_mirror 1 (some .int) 3) (hl : X.2.1 = l) {rr : Int32} {μr : jM} {v0 : Nat} {μ : jM} {z : (Int32 × jM)} (H : f_X11_mirror Y v0 μ = some z) (D : z = (rr, μr)) : JW X (jEnd X n Y (some (.int rr)) μr 0 0) 0 0 n Y 0 [(0, .ref v0)] [] μ := by
  unfold f_X11_mirror at H
  refine r_aload_n K 0 dX11_mirror_0 rfl rfl ?_
  refine w_callV K hl H (fun r h => c_X11_hasTones l h) mC_yX11_hasTones mM_RX11_147 mI_yX11_hasTones mS_yX11_hasTones mZ_RX11 vc11 (Nat.le_of_ble_eq_true rfl) (Nat.le_of_ble_eq_true rfl) np_yX11_hasTones rfl (Nat.le_of_ble_eq_true rfl) dX11_mirror_1 (fun r1 H => ?_) ⟨Nat.zero_le _, Nat.zero_le _⟩
  refine w_if_ne K 9 dX11_mirror_4 (by decide) H (fun _ H => ?_) (fun _ H => ?_)
  · refine r_aload_n K 0 dX11_mirror_9 rfl rfl ?_
    refine w_getO K vc11 inX11 3 (by decide) mF_RX11_35 dX11_mirror_10 H (fun x2 H => ?_)
    refine w_getO K vc3 inX3 0 (by decide) mF_RX11_119 dX11_mirror_13 H (fun x3 H => ?_)
    refine w_callV K hl H (fun r h => c_X9_turnAbout l h) mC_yX9_turnAbout mM_RX11_240 mI_yX9_turnAbout mS_yX9_turnAbout mZ_RX9 vc9 (Nat.le_of_ble_eq_true rfl) (Nat.le_of_ble_eq_true rfl) np_yX9_turnAbout rfl (Nat.le_of_ble_eq_true rfl) dX11_mirror_16 (fun μ4 H => ?_) ⟨Nat.zero_le _, Nat.zero_le _⟩
    refine r_aload_n K 0 dX11_mirror_19 rfl rfl ?_
    refine w_getO K vc11 inX11 3 (by decide) mF_RX11_35 dX11_mirror_20 H (fun x5 H => ?_)
    refine w_getO K vc3 inX3 0 (by decide) mF_RX11_119 dX11_mirror_23 H (fun x6 H => ?_)
    refine w_getI K vc9 inX9 0 (by decide) mF_RX11_126 dX11_mirror_26 H (fun x7 H => ?_)
    cases H
    obtain ⟨rfl, rfl⟩ := jfin2 D
    exact r_iret K dX11_mirror_29
  · refine r_iconst (v := -1) K dX11_mirror_7 (by decide) ?_
    cases H
    obtain ⟨rfl, rfl⟩ := jfin2 D
    exact r_iret K dX11_mirror_8
theorem c_X11_mirror (l : Launch) {n : Nat} {Y : jY} {v0 : Nat} {μ : jM} {z : Int32 × jM} (H : f_X11_mirror Y v0 μ = some z) : jC l yX11_mirror cX11_mirror 1 (some .int) 3 0 0 [.ref v0] n Y μ n Y (some (.int z.1)) z.2 := by
  refine jC_of (by decide +kernel) (Nat.le_of_ble_eq_true rfl) (fun X hl K _ _ _ => ?_)
  obtain ⟨rr, μr⟩ := z
  exact t_X11_mirror_0 K hl H rfl
