/-! RX11 weight(II)J -/
def b_X11_weight_22 (Y : jY) (μ : jM) : Option (Int64 × jM) :=
  some ((-9223372036854775808 : Int64), μ)
def f_X11_weight (Y : jY) (v0 : Nat) (v1 : Int32) (v2 : Int32) (μ : jM) : Option (Int64 × jM) :=
  (jrcv Y v0 11 (f_X11_hasTones Y v0 μ)).bind fun r1 =>
  if r1.1 = 0 then
    b_X11_weight_22 Y r1.2
  else
    (jrcv Y v0 11 (f_X11_isTone Y v0 v1 r1.2)).bind fun r2 =>
    if r2.1 = 0 then
      b_X11_weight_22 Y r2.2
    else
      (f_X11_isPart Y v2 r2.2).bind fun r3 =>
      if r3.1 = 0 then
        b_X11_weight_22 Y r3.2
      else
        (jgO Y r3.2 v0 11 3).bind fun x4 =>
        (jgO Y r3.2 x4 3 0).bind fun x5 =>
        (jgO Y r3.2 v0 11 12).bind fun x6 =>
        (jrcv Y x5 9 (f_X9_weigh Y x5 v1 x6 r3.2)).bind fun μ7 =>
        (jgO Y μ7 v0 11 12).bind fun x8 =>
        (jrcv Y x8 1 (f_X1_part Y x8 v2 μ7)).bind fun r9 =>
        some (r9.1, r9.2)
set_option maxRecDepth 10000 in
theorem t_X11_weight_22 {X : jX} {l : Launch} {n : Nat} {Y : jY} (K : jOK X RX11 cX11_weight 3 (some .long) 4) (hl : X.2.1 = l) {rr : Int64} {μr : jM} {μ : jM} {z : (Int64 × jM)} (H : b_X11_weight_22 Y μ = some z) (D : z = (rr, μr)) : JW X (jEnd X n Y (some (.long rr)) μr 0 0) 0 0 n Y 22 [] [] μ := by
  unfold b_X11_weight_22 at H
  refine r_ldc2 K (-9223372036854775808) mc_RX11_151 dX11_weight_22 ?_
  cases H
  obtain ⟨rfl, rfl⟩ := jfin2 D
  exact r_lret K dX11_weight_25
set_option maxRecDepth 10000 in
theorem t_X11_weight_0 {X : jX} {l : Launch} {n : Nat} {Y : jY} (K : jOK X RX11 cX11_weight 3 (some .long) 4) (hl : X.2.1 = l) {rr : Int64} {μr : jM} {v0 : Nat} {v1 : Int32} {v2 : Int32} {μ : jM} {z : (Int64 × jM)} (H : f_X11_weight Y v0 v1 v2 μ = some z) (D : z = (rr, μr)) : JW X (jEnd X n Y (some (.long rr)) μr 0 0) 0 0 n Y 0 [(0, .ref v0), (1, .int v1), (2, .int v2)] [] μ := by
  unfold f_X11_weight at H
  refine r_aload_n K 0 dX11_weight_0 rfl rfl ?_
  refine w_callV K hl H (fun r h => c_X11_hasTones l h) mC_yX11_hasTones mM_RX11_147 mI_yX11_hasTones mS_yX11_hasTones mZ_RX11 vc11 (Nat.le_of_ble_eq_true rfl) (Nat.le_of_ble_eq_true rfl) np_yX11_hasTones rfl (Nat.le_of_ble_eq_true rfl) dX11_weight_1 (fun r1 H => ?_) ⟨Nat.zero_le _, Nat.zero_le _⟩
  refine w_if_eq K 22 dX11_weight_4 (by decide) H (fun _ H => ?_) (fun _ H => ?_)
  · exact r_sub [] rfl (t_X11_weight_22 K hl H D)
  · refine r_aload_n K 0 dX11_weight_7 rfl rfl ?_
    refine r_iload_n K 1 dX11_weight_8 rfl rfl ?_
    refine w_callV K hl H (fun r h => c_X11_isTone l h) mC_yX11_isTone mM_RX11_167 mI_yX11_isTone mS_yX11_isTone mZ_RX11 vc11 (Nat.le_of_ble_eq_true rfl) (Nat.le_of_ble_eq_true rfl) np_yX11_isTone rfl (Nat.le_of_ble_eq_true rfl) dX11_weight_9 (fun r2 H => ?_) ⟨Nat.zero_le _, Nat.zero_le _⟩
    refine w_if_eq K 22 dX11_weight_12 (by decide) H (fun _ H => ?_) (fun _ H => ?_)
    · exact r_sub [] rfl (t_X11_weight_22 K hl H D)
    · refine r_iload_n K 2 dX11_weight_15 rfl rfl ?_
      refine w_callS K hl H (fun r h => c_X11_isPart l h) mC_yX11_isPart mM_RX11_170 mT_yX11_isPart mZ_RX11 (Nat.le_of_ble_eq_true rfl) (Nat.le_of_ble_eq_true rfl) np_yX11_isPart rfl (Nat.le_of_ble_eq_true rfl) dX11_weight_16 (fun r3 H => ?_) ⟨Nat.zero_le _, Nat.zero_le _⟩
      refine w_if_ne K 26 dX11_weight_19 (by decide) H (fun _ H => ?_) (fun _ H => ?_)
      · refine r_aload_n K 0 dX11_weight_26 rfl rfl ?_
        refine w_getO K vc11 inX11 3 (by decide) mF_RX11_35 dX11_weight_27 H (fun x4 H => ?_)
        refine w_getO K vc3 inX3 0 (by decide) mF_RX11_119 dX11_weight_30 H (fun x5 H => ?_)
        refine r_iload_n K 1 dX11_weight_33 rfl rfl ?_
        refine r_aload_n K 0 dX11_weight_34 rfl rfl ?_
        refine w_getO K vc11 inX11 12 (by decide) mF_RX11_94 dX11_weight_35 H (fun x6 H => ?_)
        refine w_callV K hl H (fun r h => c_X9_weigh l h) mC_yX9_weigh mM_RX11_173 mI_yX9_weigh mS_yX9_weigh mZ_RX9 vc9 (Nat.le_of_ble_eq_true rfl) (Nat.le_of_ble_eq_true rfl) np_yX9_weigh rfl (Nat.le_of_ble_eq_true rfl) dX11_weight_38 (fun μ7 H => ?_) ⟨Nat.zero_le _, Nat.zero_le _⟩
        refine r_aload_n K 0 dX11_weight_41 rfl rfl ?_
        refine w_getO K vc11 inX11 12 (by decide) mF_RX11_94 dX11_weight_42 H (fun x8 H => ?_)
        refine r_iload_n K 2 dX11_weight_45 rfl rfl ?_
        refine w_callV K hl H (fun r h => c_X1_part l h) mC_yX1_part mM_RX11_177 mI_yX1_part mS_yX1_part mZ_RX1 vc1 (Nat.le_of_ble_eq_true rfl) (Nat.le_of_ble_eq_true rfl) np_yX1_part rfl (Nat.le_of_ble_eq_true rfl) dX11_weight_46 (fun r9 H => ?_) ⟨Nat.zero_le _, Nat.zero_le _⟩
        cases H
        obtain ⟨rfl, rfl⟩ := jfin2 D
        exact r_lret K dX11_weight_49
      · exact r_sub [] rfl (t_X11_weight_22 K hl H D)
theorem c_X11_weight (l : Launch) {n : Nat} {Y : jY} {v0 : Nat} {v1 : Int32} {v2 : Int32} {μ : jM} {z : Int64 × jM} (H : f_X11_weight Y v0 v1 v2 μ = some z) : jC l yX11_weight cX11_weight 3 (some .long) 4 0 0 [.ref v0, .int v1, .int v2] n Y μ n Y (some (.long z.1)) z.2 := by
  refine jC_of (by decide +kernel) (Nat.le_of_ble_eq_true rfl) (fun X hl K _ _ _ => ?_)
  obtain ⟨rr, μr⟩ := z
  exact t_X11_weight_0 K hl H rfl
/-! RX11 number(III)J -/
def b_X11_number_37 (Y : jY) (μ : jM) : Option (Int64 × jM) :=
  some ((-9223372036854775808 : Int64), μ)
def f_X11_number (Y : jY) (v0 : Nat) (v1 : Int32) (v2 : Int32) (v3 : Int32) (μ : jM) : Option (Int64 × jM) :=
  (jrcv Y v0 11 (f_X11_isFilled Y v0 v1 μ)).bind fun r1 =>
  if r1.1 = 0 then
    b_X11_number_37 Y r1.2
  else
    (jgO Y r1.2 v0 11 3).bind fun x2 =>
    (jgO Y r1.2 x2 3 1).bind fun x3 =>
    (jaO Y r1.2 x3 24 v1).bind fun x4 =>
    (jgI Y r1.2 x4 10 0).bind fun x5 =>
    (f_X11_within Y v2 ((0 : Int32)) x5 r1.2).bind fun r6 =>
    if r6.1 = 0 then
      b_X11_number_37 Y r6.2
    else
      (f_X11_within Y v3 ((0 : Int32)) v2 r6.2).bind fun r7 =>
      if r7.1 = 0 then
        b_X11_number_37 Y r7.2
      else
        (jgO Y r7.2 v0 11 9).bind fun x8 =>
        (jgO Y r7.2 v0 11 3).bind fun x9 =>
        (jgO Y r7.2 x9 3 1).bind fun x10 =>
        (jaO Y r7.2 x10 24 v1).bind fun x11 =>
        (jrcv Y x8 4 (f_X4_multiplyOut Y x8 x11 r7.2)).bind fun μ12 =>
        (jgO Y μ12 v0 11 9).bind fun x13 =>
        (jgO Y μ12 x13 4 0).bind fun x14 =>
        (jaO Y μ12 x14 26 v2).bind fun x15 =>
        (jaL Y μ12 x15 21 v3).bind fun x16 =>
        some (x16, μ12)
set_option maxRecDepth 10000 in
theorem t_X11_number_37 {X : jX} {l : Launch} {n : Nat} {Y : jY} (K : jOK X RX11 cX11_number 4 (some .long) 4) (hl : X.2.1 = l) {rr : Int64} {μr : jM} {μ : jM} {z : (Int64 × jM)} (H : b_X11_number_37 Y μ = some z) (D : z = (rr, μr)) : JW X (jEnd X n Y (some (.long rr)) μr 0 0) 0 0 n Y 37 [] [] μ := by
  unfold b_X11_number_37 at H
  refine r_ldc2 K (-9223372036854775808) mc_RX11_151 dX11_number_37 ?_
  cases H
  obtain ⟨rfl, rfl⟩ := jfin2 D
  exact r_lret K dX11_number_40
set_option maxRecDepth 10000 in
theorem t_X11_number_0 {X : jX} {l : Launch} {n : Nat} {Y : jY} (K : jOK X RX11 cX11_number 4 (some .long) 4) (hl : X.2.1 = l) {rr : Int64} {μr : jM} {v0 : Nat} {v1 : Int32} {v2 : Int32} {v3 : Int32} {μ : jM} {z : (Int64 × jM)} (H : f_X11_number Y v0 v1 v2 v3 μ = some z) (D : z = (rr, μr)) : JW X (jEnd X n Y (some (.long rr)) μr 0 0) 0 0 n Y 0 [(0, .ref v0), (1, .int v1), (2, .int v2), (3, .int v3)] [] μ := by
  unfold f_X11_number at H
  refine r_aload_n K 0 dX11_number_0 rfl rfl ?_
  refine r_iload_n K 1 dX11_number_1 rfl rfl ?_
  refine w_callV K hl H (fun r h => c_X11_isFilled l h) mC_yX11_isFilled mM_RX11_285 mI_yX11_isFilled mS_yX11_isFilled mZ_RX11 vc11 (Nat.le_of_ble_eq_true rfl) (Nat.le_of_ble_eq_true rfl) np_yX11_isFilled rfl (Nat.le_of_ble_eq_true rfl) dX11_number_2 (fun r1 H => ?_) ⟨Nat.zero_le _, Nat.zero_le _⟩
  refine w_if_eq K 37 dX11_number_5 (by decide) H (fun _ H => ?_) (fun _ H => ?_)
  · exact r_sub [] rfl (t_X11_number_37 K hl H D)
  · refine r_iload_n K 2 dX11_number_8 rfl rfl ?_
    refine r_iconst (v := 0) K dX11_number_9 (by decide) ?_
    refine r_aload_n K 0 dX11_number_10 rfl rfl ?_
    refine w_getO K vc11 inX11 3 (by decide) mF_RX11_35 dX11_number_11 H (fun x2 H => ?_)
    refine w_getO K vc3 inX3 1 (by decide) mF_RX11_255 dX11_number_14 H (fun x3 H => ?_)
    refine r_iload_n K 1 dX11_number_17 rfl rfl ?_
    refine w_aald K 24 rfl rfl dX11_number_18 H (fun x4 H => ?_)
    refine w_getI K vc10 inX10 0 (by decide) mF_RX11_263 dX11_number_19 H (fun x5 H => ?_)
    refine w_callS K hl H (fun r h => c_X11_within l h) mC_yX11_within mM_RX11_133 mT_yX11_within mZ_RX11 (Nat.le_of_ble_eq_true rfl) (Nat.le_of_ble_eq_true rfl) np_yX11_within rfl (Nat.le_of_ble_eq_true rfl) dX11_number_22 (fun r6 H => ?_) ⟨Nat.zero_le _, Nat.zero_le _⟩
    refine w_if_eq K 37 dX11_number_25 (by decide) H (fun _ H => ?_) (fun _ H => ?_)
    · exact r_sub [] rfl (t_X11_number_37 K hl H D)
    · refine r_iload_n K 3 dX11_number_28 rfl rfl ?_
      refine r_iconst (v := 0) K dX11_number_29 (by decide) ?_
      refine r_iload_n K 2 dX11_number_30 rfl rfl ?_
      refine w_callS K hl H (fun r h => c_X11_within l h) mC_yX11_within mM_RX11_133 mT_yX11_within mZ_RX11 (Nat.le_of_ble_eq_true rfl) (Nat.le_of_ble_eq_true rfl) np_yX11_within rfl (Nat.le_of_ble_eq_true rfl) dX11_number_31 (fun r7 H => ?_) ⟨Nat.zero_le _, Nat.zero_le _⟩
      refine w_if_ne K 41 dX11_number_34 (by decide) H (fun _ H => ?_) (fun _ H => ?_)
      · refine r_aload_n K 0 dX11_number_41 rfl rfl ?_
        refine w_getO K vc11 inX11 9 (by decide) mF_RX11_73 dX11_number_42 H (fun x8 H => ?_)
        refine r_aload_n K 0 dX11_number_45 rfl rfl ?_
        refine w_getO K vc11 inX11 3 (by decide) mF_RX11_35 dX11_number_46 H (fun x9 H => ?_)
        refine w_getO K vc3 inX3 1 (by decide) mF_RX11_255 dX11_number_49 H (fun x10 H => ?_)
        refine r_iload_n K 1 dX11_number_52 rfl rfl ?_
        refine w_aald K 24 rfl rfl dX11_number_53 H (fun x11 H => ?_)
        refine w_callV K hl H (fun r h => c_X4_multiplyOut l h) mC_yX4_multiplyOut mM_RX11_288 mI_yX4_multiplyOut mS_yX4_multiplyOut mZ_RX4 vc4 (Nat.le_of_ble_eq_true rfl) (Nat.le_of_ble_eq_true rfl) np_yX4_multiplyOut rfl (Nat.le_of_ble_eq_true rfl) dX11_number_54 (fun μ12 H => ?_) ⟨Nat.zero_le _, Nat.zero_le _⟩
        refine r_aload_n K 0 dX11_number_57 rfl rfl ?_
        refine w_getO K vc11 inX11 9 (by decide) mF_RX11_73 dX11_number_58 H (fun x13 H => ?_)
        refine w_getO K vc4 inX4 0 (by decide) mF_RX11_292 dX11_number_61 H (fun x14 H => ?_)
        refine r_iload_n K 2 dX11_number_64 rfl rfl ?_
        refine w_aald K 26 rfl rfl dX11_number_65 H (fun x15 H => ?_)
        refine r_iload_n K 3 dX11_number_66 rfl rfl ?_
        refine w_lald K dX11_number_67 H (fun x16 H => ?_)
        cases H
        obtain ⟨rfl, rfl⟩ := jfin2 D
        exact r_lret K dX11_number_68
      · exact r_sub [] rfl (t_X11_number_37 K hl H D)
theorem c_X11_number (l : Launch) {n : Nat} {Y : jY} {v0 : Nat} {v1 : Int32} {v2 : Int32} {v3 : Int32} {μ : jM} {z : Int64 × jM} (H : f_X11_number Y v0 v1 v2 v3 μ = some z) : jC l yX11_number cX11_number 4 (some .long) 4 0 0 [.ref v0, .int v1, .int v2, .int v3] n Y μ n Y (some (.long z.1)) z.2 := by
  refine jC_of (by decide +kernel) (Nat.le_of_ble_eq_true rfl) (fun X hl K _ _ _ => ?_)
  obtain ⟨rr, μr⟩ := z
  exact t_X11_number_0 K hl H rfl
/-! RX11 join(III)I -/
def b_X11_join_22 (Y : jY) (μ : jM) : Option (Int32 × jM) :=
  some ((-1 : Int32), μ)
def b_X11_join_62 (Y : jY) (μ : jM) : Option (Int32 × jM) :=
  some ((-2 : Int32), μ)
def f_X11_join (Y : jY) (v0 : Nat) (v1 : Int32) (v2 : Int32) (v3 : Int32) (μ : jM) : Option (Int32 × jM) :=
  (f_X11_isDrawer Y v1 μ).bind fun r1 =>
  if r1.1 = 0 then
    b_X11_join_22 Y r1.2
  else
    (f_X11_isDrawer Y v2 r1.2).bind fun r2 =>
    if r2.1 = 0 then
      b_X11_join_22 Y r2.2
    else
      (f_X10_canBe Y ((0 : Int32)) v3 r2.2).bind fun r3 =>
      if r3.1 = 0 then
        b_X11_join_22 Y r3.2
      else
        (jgO Y r3.2 v0 11 3).bind fun x4 =>
        (jgO Y r3.2 x4 3 1).bind fun x5 =>
        (jaO Y r3.2 x5 24 v1).bind fun x6 =>
        (jgO Y r3.2 v0 11 3).bind fun x7 =>
        (jgO Y r3.2 x7 3 1).bind fun x8 =>
        (jaO Y r3.2 x8 24 v2).bind fun x9 =>
        (jgI Y r3.2 x6 10 0).bind fun x10 =>
        if x10 = 0 then
          b_X11_join_62 Y r3.2
        else
          (jgI Y r3.2 x9 10 0).bind fun x11 =>
          if x11 = 0 then
            b_X11_join_62 Y r3.2
          else
            (jgI Y r3.2 x6 10 0).bind fun x12 =>
            (jgI Y r3.2 x9 10 0).bind fun x13 =>
            if ((x12 + x13)) ≤ ((5 : Int32)) then
              (jrcv Y x6 10 (f_X10_append Y x6 x9 v3 r3.2)).bind fun μ14 =>
              (jgI Y μ14 x6 10 0).bind fun x15 =>
              some (x15, μ14)
            else
              some ((-3 : Int32), r3.2)
set_option maxRecDepth 10000 in
theorem t_X11_join_22 {X : jX} {l : Launch} {n : Nat} {Y : jY} (K : jOK X RX11 cX11_join 6 (some .int) 3) (hl : X.2.1 = l) {rr : Int32} {μr : jM} {μ : jM} {z : (Int32 × jM)} (H : b_X11_join_22 Y μ = some z) (D : z = (rr, μr)) : JW X (jEnd X n Y (some (.int rr)) μr 0 0) 0 0 n Y 22 [] [] μ := by
  unfold b_X11_join_22 at H
  refine r_iconst (v := -1) K dX11_join_22 (by decide) ?_
  cases H
  obtain ⟨rfl, rfl⟩ := jfin2 D
  exact r_iret K dX11_join_23
set_option maxRecDepth 10000 in
theorem t_X11_join_62 {X : jX} {l : Launch} {n : Nat} {Y : jY} (K : jOK X RX11 cX11_join 6 (some .int) 3) (hl : X.2.1 = l) {rr : Int32} {μr : jM} {μ : jM} {z : (Int32 × jM)} (H : b_X11_join_62 Y μ = some z) (D : z = (rr, μr)) : JW X (jEnd X n Y (some (.int rr)) μr 0 0) 0 0 n Y 62 [] [] μ := by
  unfold b_X11_join_62 at H
  refine r_bipush (v := -2) K dX11_join_62 (by decide) ?_
  cases H
  obtain ⟨rfl, rfl⟩ := jfin2 D
  exact r_iret K dX11_join_64
set_option maxRecDepth 10000 in
theorem t_X11_join_0 {X : jX} {l : Launch} {n : Nat} {Y : jY} (K : jOK X RX11 cX11_join 6 (some .int) 3) (hl : X.2.1 = l) {rr : Int32} {μr : jM} {v0 : Nat} {v1 : Int32} {v2 : Int32} {v3 : Int32} {μ : jM} {z : (Int32 × jM)} (H : f_X11_join Y v0 v1 v2 v3 μ = some z) (D : z = (rr, μr)) : JW X (jEnd X n Y (some (.int rr)) μr 0 0) 0 0 n Y 0 [(0, .ref v0), (1, .int v1), (2, .int v2), (3, .int v3)] [] μ := by
  unfold f_X11_join at H
  refine r_iload_n K 1 dX11_join_0 rfl rfl ?_
  refine w_callS K hl H (fun r h => c_X11_isDrawer l h) mC_yX11_isDrawer mM_RX11_252 mT_yX11_isDrawer mZ_RX11 (Nat.le_of_ble_eq_true rfl) (Nat.le_of_ble_eq_true rfl) np_yX11_isDrawer rfl (Nat.le_of_ble_eq_true rfl) dX11_join_1 (fun r1 H => ?_) ⟨Nat.zero_le _, Nat.zero_le _⟩
  refine w_if_eq K 22 dX11_join_4 (by decide) H (fun _ H => ?_) (fun _ H => ?_)
  · exact r_sub [] rfl (t_X11_join_22 K hl H D)
  · refine r_iload_n K 2 dX11_join_7 rfl rfl ?_
    refine w_callS K hl H (fun r h => c_X11_isDrawer l h) mC_yX11_isDrawer mM_RX11_252 mT_yX11_isDrawer mZ_RX11 (Nat.le_of_ble_eq_true rfl) (Nat.le_of_ble_eq_true rfl) np_yX11_isDrawer rfl (Nat.le_of_ble_eq_true rfl) dX11_join_8 (fun r2 H => ?_) ⟨Nat.zero_le _, Nat.zero_le _⟩
    refine w_if_eq K 22 dX11_join_11 (by decide) H (fun _ H => ?_) (fun _ H => ?_)
    · exact r_sub [] rfl (t_X11_join_22 K hl H D)
    · refine r_iconst (v := 0) K dX11_join_14 (by decide) ?_
      refine r_iload_n K 3 dX11_join_15 rfl rfl ?_
      refine w_callS K hl H (fun r h => c_X10_canBe l h) mC_yX10_canBe mM_RX11_274 mT_yX10_canBe mZ_RX10 (Nat.le_of_ble_eq_true rfl) (Nat.le_of_ble_eq_true rfl) np_yX10_canBe rfl (Nat.le_of_ble_eq_true rfl) dX11_join_16 (fun r3 H => ?_) ⟨Nat.zero_le _, Nat.zero_le _⟩
      refine w_if_ne K 24 dX11_join_19 (by decide) H (fun _ H => ?_) (fun _ H => ?_)
      · refine r_aload_n K 0 dX11_join_24 rfl rfl ?_
        refine w_getO K vc11 inX11 3 (by decide) mF_RX11_35 dX11_join_25 H (fun x4 H => ?_)
        refine w_getO K vc3 inX3 1 (by decide) mF_RX11_255 dX11_join_28 H (fun x5 H => ?_)
        refine r_iload_n K 1 dX11_join_31 rfl rfl ?_
        refine w_aald K 24 rfl rfl dX11_join_32 H (fun x6 H => ?_)
        refine r_astore K [(4, .ref _), (0, .ref _), (1, .int _), (2, .int _), (3, .int _)] dX11_join_33 (by decide) rfl ?_
        refine r_aload_n K 1 dX11_join_35 rfl rfl ?_
        refine w_getO K vc11 inX11 3 (by decide) mF_RX11_35 dX11_join_36 H (fun x7 H => ?_)
        refine w_getO K vc3 inX3 1 (by decide) mF_RX11_255 dX11_join_39 H (fun x8 H => ?_)
        refine r_iload_n K 3 dX11_join_42 rfl rfl ?_
        refine w_aald K 24 rfl rfl dX11_join_43 H (fun x9 H => ?_)
        refine r_astore K [(5, .ref _), (4, .ref _), (0, .ref _), (1, .int _), (2, .int _), (3, .int _)] dX11_join_44 (by decide) rfl ?_
        refine r_aload K 1 dX11_join_46 rfl ?_
        refine w_getI K vc10 inX10 0 (by decide) mF_RX11_263 dX11_join_48 H (fun x10 H => ?_)
        refine w_if_eq K 62 dX11_join_51 (by decide) H (fun _ H => ?_) (fun _ H => ?_)
        · exact r_sub [] rfl (t_X11_join_62 K hl H D)
        · refine r_aload K 0 dX11_join_54 rfl ?_
          refine w_getI K vc10 inX10 0 (by decide) mF_RX11_263 dX11_join_56 H (fun x11 H => ?_)
          refine w_if_ne K 65 dX11_join_59 (by decide) H (fun _ H => ?_) (fun _ H => ?_)
          · refine r_aload K 1 dX11_join_65 rfl ?_
            refine w_getI K vc10 inX10 0 (by decide) mF_RX11_263 dX11_join_67 H (fun x12 H => ?_)
            refine r_aload K 0 dX11_join_70 rfl ?_
            refine w_getI K vc10 inX10 0 (by decide) mF_RX11_263 dX11_join_72 H (fun x13 H => ?_)
            refine r_iadd K dX11_join_75 ?_
            refine r_iconst (v := 5) K dX11_join_76 (by decide) ?_
            refine w_icmp_le K 83 dX11_join_77 (by decide) H (fun _ H => ?_) (fun _ H => ?_)
            · refine r_aload K 1 dX11_join_83 rfl ?_
              refine r_aload K 0 dX11_join_85 rfl ?_
              refine r_iload_n K 5 dX11_join_87 rfl rfl ?_
              refine w_callV K hl H (fun r h => c_X10_append l h) mC_yX10_append mM_RX11_357 mI_yX10_append mS_yX10_append mZ_RX10 vc10 (Nat.le_of_ble_eq_true rfl) (Nat.le_of_ble_eq_true rfl) np_yX10_append rfl (Nat.le_of_ble_eq_true rfl) dX11_join_88 (fun μ14 H => ?_) ⟨Nat.zero_le _, Nat.zero_le _⟩
              refine r_aload K 1 dX11_join_91 rfl ?_
              refine w_getI K vc10 inX10 0 (by decide) mF_RX11_263 dX11_join_93 H (fun x15 H => ?_)
              cases H
              obtain ⟨rfl, rfl⟩ := jfin2 D
              exact r_iret K dX11_join_96
            · refine r_bipush (v := -3) K dX11_join_80 (by decide) ?_
              cases H
              obtain ⟨rfl, rfl⟩ := jfin2 D
              exact r_iret K dX11_join_82
          · exact r_sub [] rfl (t_X11_join_62 K hl H D)
      · exact r_sub [] rfl (t_X11_join_22 K hl H D)
theorem c_X11_join (l : Launch) {n : Nat} {Y : jY} {v0 : Nat} {v1 : Int32} {v2 : Int32} {v3 : Int32} {μ : jM} {z : Int32 × jM} (H : f_X11_join Y v0 v1 v2 v3 μ = some z) : jC l yX11_join cX11_join 6 (some .int) 3 0 0 [.ref v0, .int v1, .int v2, .int v3] n Y μ n Y (some (.int z.1)) z.2 := by
  refine jC_of (by decide +kernel) (Nat.le_of_ble_eq_true rfl) (fun X hl K _ _ _ => ?_)
  obtain ⟨rr, μr⟩ := z
  exact t_X11_join_0 K hl H rfl
/-! RX11 countTables(II)I -/
def b_X11_countTables_74 (Y : jY) (v0 : Nat) (v1 : Int32) (v2 : Int32) (v3 : Int32) (v4 : Int32) (μ : jM) : Option ((Int32 × Int32 × jM) ⊕ (Int32 × jM)) :=
  some (.inl (v3, (v4 + (1 : Int32)), μ))
def b_X11_countTables_35 (Y : jY) (v0 : Nat) (v1 : Int32) (v2 : Int32) (v3 : Int32) (v4 : Int32) (μ : jM) : Option ((Int32 × Int32 × jM) ⊕ (Int32 × jM)) :=
  (jgO Y μ v0 11 8).bind fun x1 =>
  (jrcv Y x1 0 (f_X0_codes Y x1 μ)).bind fun r2 =>
  if r2.1 ≤ v4 then
    some (.inr (v3, r2.2))
  else
    (jgO Y r2.2 v0 11 8).bind fun x3 =>
    (jrcv Y x3 0 (f_X0_makes Y x3 v4 r2.2)).bind fun r4 =>
    if r4.1 = 0 then
      b_X11_countTables_74 Y v0 v1 v2 v3 v4 r4.2
    else
      (jgO Y r4.2 v0 11 8).bind fun x5 =>
      (jrcv Y x5 0 (f_X0_madeMeets Y x5 v1 v2 r4.2)).bind fun r6 =>
      if r6.1 = 0 then
        b_X11_countTables_74 Y v0 v1 v2 v3 v4 r6.2
      else
        b_X11_countTables_74 Y v0 v1 v2 (v3 + (1 : Int32)) v4 r6.2
def f_X11_countTables (Y : jY) (v0 : Nat) (v1 : Int32) (v2 : Int32) (μ : jM) : Option (Int32 × jM) :=
  (jrcv Y v0 11 (f_X11_hasTones Y v0 μ)).bind fun r1 =>
  if r1.1 = 0 then
    some ((-1 : Int32), r1.2)
  else
    (jgO Y r1.2 v0 11 3).bind fun x2 =>
    (jgO Y r1.2 x2 3 0).bind fun x3 =>
    (jgI Y r1.2 x3 9 0).bind fun x4 =>
    if x4 ≤ ((3 : Int32)) then
      (jrcv Y v0 11 (f_X11_beginAllTables Y v0 r1.2)).bind fun μ5 =>
      jit jF (fun (s : Int32 × Int32 × jM) => b_X11_countTables_35 Y v0 v1 v2 s.1 s.2.1 s.2.2) ((0 : Int32), (0 : Int32), μ5)
    else
      some ((-2 : Int32), r1.2)
set_option maxRecDepth 10000 in
theorem t_X11_countTables_74 {X : jX} {l : Launch} {n : Nat} {Y : jY} (K : jOK X RX11 cX11_countTables 5 (some .int) 6) (hl : X.2.1 = l) {rr : Int32} {μr : jM} {v0 : Nat} {v1 : Int32} {v2 : Int32} {v3 : Int32} {v4 : Int32} {μ : jM} {z : ((Int32 × Int32 × jM) ⊕ (Int32 × jM))} (H : b_X11_countTables_74 Y v0 v1 v2 v3 v4 μ = some z) (D : Sum.elim (fun (s : Int32 × Int32 × jM) => JW X (jEnd X n Y (some (.int rr)) μr 0 0) 0 0 n Y 35 [(0, .ref v0), (1, .int v1), (2, .int v2), (3, .int s.1), (4, .int s.2.1)] [] s.2.2) (fun r => r = (rr, μr)) z) : JW X (jEnd X n Y (some (.int rr)) μr 0 0) 0 0 n Y 74 [(0, .ref v0), (1, .int v1), (2, .int v2), (3, .int v3), (4, .int v4)] [] μ := by
  unfold b_X11_countTables_74 at H
  refine r_iinc K 4 [(4, .int _), (0, .ref _), (1, .int _), (2, .int _), (3, .int _)] (v := _ + (1 : Int32)) dX11_countTables_74 rfl rfl (by decide) rfl ?_
  refine r_goto K 35 dX11_countTables_77 (by decide) ?_
  cases H
  exact r_sub [1, 2, 3, 4, 0] rfl D
set_option maxRecDepth 10000 in
theorem t_X11_countTables_35 {X : jX} {l : Launch} {n : Nat} {Y : jY} (K : jOK X RX11 cX11_countTables 5 (some .int) 6) (hl : X.2.1 = l) {rr : Int32} {μr : jM} {v0 : Nat} {v1 : Int32} {v2 : Int32} {v3 : Int32} {v4 : Int32} {μ : jM} {z : ((Int32 × Int32 × jM) ⊕ (Int32 × jM))} (H : b_X11_countTables_35 Y v0 v1 v2 v3 v4 μ = some z) (D : Sum.elim (fun (s : Int32 × Int32 × jM) => JW X (jEnd X n Y (some (.int rr)) μr 0 0) 0 0 n Y 35 [(0, .ref v0), (1, .int v1), (2, .int v2), (3, .int s.1), (4, .int s.2.1)] [] s.2.2) (fun r => r = (rr, μr)) z) : JW X (jEnd X n Y (some (.int rr)) μr 0 0) 0 0 n Y 35 [(0, .ref v0), (1, .int v1), (2, .int v2), (3, .int v3), (4, .int v4)] [] μ := by
  unfold b_X11_countTables_35 at H
  refine r_iload K 4 dX11_countTables_35 rfl ?_
  refine r_aload_n K 0 dX11_countTables_37 rfl rfl ?_
  refine w_getO K vc11 inX11 8 (by decide) mF_RX11_66 dX11_countTables_38 H (fun x1 H => ?_)
  refine w_callV K hl H (fun r h => c_X0_codes l h) mC_yX0_codes mM_RX11_370 mI_yX0_codes mS_yX0_codes mZ_RX0 vc0 (Nat.le_of_ble_eq_true rfl) (Nat.le_of_ble_eq_true rfl) np_yX0_codes rfl (Nat.le_of_ble_eq_true rfl) dX11_countTables_41 (fun r2 H => ?_) ⟨Nat.zero_le _, Nat.zero_le _⟩
  refine w_icmp_ge K 80 dX11_countTables_44 (by decide) H (fun _ H => ?_) (fun _ H => ?_)
  · refine r_iload_n K 3 dX11_countTables_80 rfl rfl ?_
    cases H
    simp only [Sum.elim_inr] at D
    obtain ⟨rfl, rfl⟩ := jfin2 D
    exact r_iret K dX11_countTables_81
  · refine r_aload_n K 0 dX11_countTables_47 rfl rfl ?_
    refine w_getO K vc11 inX11 8 (by decide) mF_RX11_66 dX11_countTables_48 H (fun x3 H => ?_)
    refine r_iload K 4 dX11_countTables_51 rfl ?_
    refine w_callV K hl H (fun r h => c_X0_makes l h) mC_yX0_makes mM_RX11_373 mI_yX0_makes mS_yX0_makes mZ_RX0 vc0 (Nat.le_of_ble_eq_true rfl) (Nat.le_of_ble_eq_true rfl) np_yX0_makes rfl (Nat.le_of_ble_eq_true rfl) dX11_countTables_53 (fun r4 H => ?_) ⟨Nat.zero_le _, Nat.zero_le _⟩
    refine w_if_eq K 74 dX11_countTables_56 (by decide) H (fun _ H => ?_) (fun _ H => ?_)
    · exact r_sub [0, 1, 2, 3, 4] rfl (t_X11_countTables_74 K hl H D)
    · refine r_aload_n K 0 dX11_countTables_59 rfl rfl ?_
      refine w_getO K vc11 inX11 8 (by decide) mF_RX11_66 dX11_countTables_60 H (fun x5 H => ?_)
      refine r_iload_n K 1 dX11_countTables_63 rfl rfl ?_
      refine r_iload_n K 2 dX11_countTables_64 rfl rfl ?_
      refine w_callV K hl H (fun r h => c_X0_madeMeets l h) mC_yX0_madeMeets mM_RX11_390 mI_yX0_madeMeets mS_yX0_madeMeets mZ_RX0 vc0 (Nat.le_of_ble_eq_true rfl) (Nat.le_of_ble_eq_true rfl) np_yX0_madeMeets rfl (Nat.le_of_ble_eq_true rfl) dX11_countTables_65 (fun r6 H => ?_) ⟨Nat.zero_le _, Nat.zero_le _⟩
      refine w_if_eq K 74 dX11_countTables_68 (by decide) H (fun _ H => ?_) (fun _ H => ?_)
      · exact r_sub [0, 1, 2, 3, 4] rfl (t_X11_countTables_74 K hl H D)
      · refine r_iinc K 3 [(3, .int _), (0, .ref _), (1, .int _), (2, .int _), (4, .int _)] (v := _ + (1 : Int32)) dX11_countTables_71 rfl rfl (by decide) rfl ?_
        exact r_sub [1, 2, 3, 0, 4] rfl (t_X11_countTables_74 K hl H D)
set_option maxRecDepth 10000 in
theorem l_X11_countTables_35 {X : jX} {l : Launch} {n : Nat} {Y : jY} (K : jOK X RX11 cX11_countTables 5 (some .int) 6) (hl : X.2.1 = l) {rr : Int32} {μr : jM} {v0 : Nat} {v1 : Int32} {v2 : Int32}  {s0 : Int32 × Int32 × jM} {z : (Int32 × jM)} (H : jit jF (fun (s : Int32 × Int32 × jM) => b_X11_countTables_35 Y v0 v1 v2 s.1 s.2.1 s.2.2) s0 = some z) (D : z = (rr, μr)) : JW X (jEnd X n Y (some (.int rr)) μr 0 0) 0 0 n Y 35 [(0, .ref v0), (1, .int v1), (2, .int v2), (3, .int s0.1), (4, .int s0.2.1)] [] s0.2.2 :=
  jit_ind (P := fun (s : Int32 × Int32 × jM) => JW X (jEnd X n Y (some (.int rr)) μr 0 0) 0 0 n Y 35 [(0, .ref v0), (1, .int v1), (2, .int v2), (3, .int s.1), (4, .int s.2.1)] [] s.2.2) (D := fun r => r = (rr, μr)) (fun s z Hs Ds => t_X11_countTables_35 K hl Hs Ds) jF s0 z H D
set_option maxRecDepth 10000 in
theorem t_X11_countTables_0 {X : jX} {l : Launch} {n : Nat} {Y : jY} (K : jOK X RX11 cX11_countTables 5 (some .int) 6) (hl : X.2.1 = l) {rr : Int32} {μr : jM} {v0 : Nat} {v1 : Int32} {v2 : Int32} {μ : jM} {z : (Int32 × jM)} (H : f_X11_countTables Y v0 v1 v2 μ = some z) (D : z = (rr, μr)) : JW X (jEnd X n Y (some (.int rr)) μr 0 0) 0 0 n Y 0 [(0, .ref v0), (1, .int v1), (2, .int v2)] [] μ := by
  unfold f_X11_countTables at H
  refine r_aload_n K 0 dX11_countTables_0 rfl rfl ?_
  refine w_callV K hl H (fun r h => c_X11_hasTones l h) mC_yX11_hasTones mM_RX11_147 mI_yX11_hasTones mS_yX11_hasTones mZ_RX11 vc11 (Nat.le_of_ble_eq_true rfl) (Nat.le_of_ble_eq_true rfl) np_yX11_hasTones rfl (Nat.le_of_ble_eq_true rfl) dX11_countTables_1 (fun r1 H => ?_) ⟨Nat.zero_le _, Nat.zero_le _⟩
  refine w_if_ne K 9 dX11_countTables_4 (by decide) H (fun _ H => ?_) (fun _ H => ?_)
  · refine r_aload_n K 0 dX11_countTables_9 rfl rfl ?_
    refine w_getO K vc11 inX11 3 (by decide) mF_RX11_35 dX11_countTables_10 H (fun x2 H => ?_)
    refine w_getO K vc3 inX3 0 (by decide) mF_RX11_119 dX11_countTables_13 H (fun x3 H => ?_)
    refine w_getI K vc9 inX9 0 (by decide) mF_RX11_126 dX11_countTables_16 H (fun x4 H => ?_)
    refine r_iconst (v := 3) K dX11_countTables_19 (by decide) ?_
    refine w_icmp_le K 26 dX11_countTables_20 (by decide) H (fun _ H => ?_) (fun _ H => ?_)
    · refine r_aload_n K 0 dX11_countTables_26 rfl rfl ?_
      refine w_callV K hl H (fun r h => c_X11_beginAllTables l h) mC_yX11_beginAllTables mM_RX11_367 mI_yX11_beginAllTables mS_yX11_beginAllTables mZ_RX11 vc11 (Nat.le_of_ble_eq_true rfl) (Nat.le_of_ble_eq_true rfl) np_yX11_beginAllTables rfl (Nat.le_of_ble_eq_true rfl) dX11_countTables_27 (fun μ5 H => ?_) ⟨Nat.zero_le _, Nat.zero_le _⟩
      refine r_iconst (v := 0) K dX11_countTables_30 (by decide) ?_
      refine r_istore_n K [(3, .int _), (0, .ref _), (1, .int _), (2, .int _)] dX11_countTables_31 rfl (by decide) rfl ?_
      refine r_iconst (v := 0) K dX11_countTables_32 (by decide) ?_
      refine r_istore K [(4, .int _), (3, .int _), (0, .ref _), (1, .int _), (2, .int _)] dX11_countTables_33 (by decide) rfl ?_
      exact r_sub [2, 3, 4, 1, 0] rfl (l_X11_countTables_35 K hl H D)
    · refine r_bipush (v := -2) K dX11_countTables_23 (by decide) ?_
      cases H
      obtain ⟨rfl, rfl⟩ := jfin2 D
      exact r_iret K dX11_countTables_25
  · refine r_iconst (v := -1) K dX11_countTables_7 (by decide) ?_
    cases H
    obtain ⟨rfl, rfl⟩ := jfin2 D
    exact r_iret K dX11_countTables_8
theorem c_X11_countTables (l : Launch) {n : Nat} {Y : jY} {v0 : Nat} {v1 : Int32} {v2 : Int32} {μ : jM} {z : Int32 × jM} (H : f_X11_countTables Y v0 v1 v2 μ = some z) : jC l yX11_countTables cX11_countTables 5 (some .int) 6 0 0 [.ref v0, .int v1, .int v2] n Y μ n Y (some (.int z.1)) z.2 := by
  refine jC_of (by decide +kernel) (Nat.le_of_ble_eq_true rfl) (fun X hl K _ _ _ => ?_)
  obtain ⟨rr, μr⟩ := z
  exact t_X11_countTables_0 K hl H rfl
/-! RX11 all()I -/
def f_X11_all (Y : jY) (v0 : Nat) (μ : jM) : Option (Int32 × jM) :=
  (jrcv Y v0 11 (f_X11_countTables Y v0 ((5 : Int32)) ((0 : Int32)) μ)).bind fun r1 =>
  some (r1.1, r1.2)
set_option maxRecDepth 10000 in
theorem t_X11_all_0 {X : jX} {l : Launch} {n : Nat} {Y : jY} (K : jOK X RX11 cX11_all 1 (some .int) 7) (hl : X.2.1 = l) {rr : Int32} {μr : jM} {v0 : Nat} {μ : jM} {z : (Int32 × jM)} (H : f_X11_all Y v0 μ = some z) (D : z = (rr, μr)) : JW X (jEnd X n Y (some (.int rr)) μr 0 0) 0 0 n Y 0 [(0, .ref v0)] [] μ := by
  unfold f_X11_all at H
  refine r_aload_n K 0 dX11_all_0 rfl rfl ?_
  refine r_iconst (v := 5) K dX11_all_1 (by decide) ?_
  refine r_iconst (v := 0) K dX11_all_2 (by decide) ?_
  refine w_callV K hl H (fun r h => c_X11_countTables l h) mC_yX11_countTables mM_RX11_364 mI_yX11_countTables mS_yX11_countTables mZ_RX11 vc11 (Nat.le_of_ble_eq_true rfl) (Nat.le_of_ble_eq_true rfl) np_yX11_countTables rfl (Nat.le_of_ble_eq_true rfl) dX11_all_3 (fun r1 H => ?_) ⟨Nat.zero_le _, Nat.zero_le _⟩
  cases H
  obtain ⟨rfl, rfl⟩ := jfin2 D
  exact r_iret K dX11_all_6
theorem c_X11_all (l : Launch) {n : Nat} {Y : jY} {v0 : Nat} {μ : jM} {z : Int32 × jM} (H : f_X11_all Y v0 μ = some z) : jC l yX11_all cX11_all 1 (some .int) 7 0 0 [.ref v0] n Y μ n Y (some (.int z.1)) z.2 := by
  refine jC_of (by decide +kernel) (Nat.le_of_ble_eq_true rfl) (fun X hl K _ _ _ => ?_)
  obtain ⟨rr, μr⟩ := z
  exact t_X11_all_0 K hl H rfl
/-! RX11 some(II)I -/
def b_X11_some_19 (Y : jY) (t0 : Int32) (μ : jM) : Option (Int32 × jM) :=
  some (t0, μ)
def f_X11_some (Y : jY) (v0 : Nat) (v1 : Int32) (v2 : Int32) (μ : jM) : Option (Int32 × jM) :=
  (f_X11_within Y v1 ((0 : Int32)) ((3 : Int32)) μ).bind fun r1 =>
  if r1.1 = 0 then
    b_X11_some_19 Y (-1 : Int32) r1.2
  else
    (jrcv Y v0 11 (f_X11_countTables Y v0 v1 v2 r1.2)).bind fun r2 =>
    b_X11_some_19 Y r2.1 r2.2
set_option maxRecDepth 10000 in
theorem t_X11_some_19 {X : jX} {l : Launch} {n : Nat} {Y : jY} (K : jOK X RX11 cX11_some 3 (some .int) 7) (hl : X.2.1 = l) {rr : Int32} {μr : jM} {t0 : Int32} {μ : jM} {z : (Int32 × jM)} (H : b_X11_some_19 Y t0 μ = some z) (D : z = (rr, μr)) : JW X (jEnd X n Y (some (.int rr)) μr 0 0) 0 0 n Y 19 [] [.int t0] μ := by
  unfold b_X11_some_19 at H
  cases H
  obtain ⟨rfl, rfl⟩ := jfin2 D
  exact r_iret K dX11_some_19
set_option maxRecDepth 10000 in
theorem t_X11_some_0 {X : jX} {l : Launch} {n : Nat} {Y : jY} (K : jOK X RX11 cX11_some 3 (some .int) 7) (hl : X.2.1 = l) {rr : Int32} {μr : jM} {v0 : Nat} {v1 : Int32} {v2 : Int32} {μ : jM} {z : (Int32 × jM)} (H : f_X11_some Y v0 v1 v2 μ = some z) (D : z = (rr, μr)) : JW X (jEnd X n Y (some (.int rr)) μr 0 0) 0 0 n Y 0 [(0, .ref v0), (1, .int v1), (2, .int v2)] [] μ := by
  unfold f_X11_some at H
  refine r_iload_n K 1 dX11_some_0 rfl rfl ?_
  refine r_iconst (v := 0) K dX11_some_1 (by decide) ?_
  refine r_iconst (v := 3) K dX11_some_2 (by decide) ?_
  refine w_callS K hl H (fun r h => c_X11_within l h) mC_yX11_within mM_RX11_133 mT_yX11_within mZ_RX11 (Nat.le_of_ble_eq_true rfl) (Nat.le_of_ble_eq_true rfl) np_yX11_within rfl (Nat.le_of_ble_eq_true rfl) dX11_some_3 (fun r1 H => ?_) ⟨Nat.zero_le _, Nat.zero_le _⟩
  refine w_if_eq K 18 dX11_some_6 (by decide) H (fun _ H => ?_) (fun _ H => ?_)
  · refine r_iconst (v := -1) K dX11_some_18 (by decide) ?_
    exact r_sub [] rfl (t_X11_some_19 K hl H D)
  · refine r_aload_n K 0 dX11_some_9 rfl rfl ?_
    refine r_iload_n K 1 dX11_some_10 rfl rfl ?_
    refine r_iload_n K 2 dX11_some_11 rfl rfl ?_
    refine w_callV K hl H (fun r h => c_X11_countTables l h) mC_yX11_countTables mM_RX11_364 mI_yX11_countTables mS_yX11_countTables mZ_RX11 vc11 (Nat.le_of_ble_eq_true rfl) (Nat.le_of_ble_eq_true rfl) np_yX11_countTables rfl (Nat.le_of_ble_eq_true rfl) dX11_some_12 (fun r2 H => ?_) ⟨Nat.zero_le _, Nat.zero_le _⟩
    refine r_goto K 19 dX11_some_15 (by decide) ?_
    exact r_sub [] rfl (t_X11_some_19 K hl H D)
theorem c_X11_some (l : Launch) {n : Nat} {Y : jY} {v0 : Nat} {v1 : Int32} {v2 : Int32} {μ : jM} {z : Int32 × jM} (H : f_X11_some Y v0 v1 v2 μ = some z) : jC l yX11_some cX11_some 3 (some .int) 7 0 0 [.ref v0, .int v1, .int v2] n Y μ n Y (some (.int z.1)) z.2 := by
  refine jC_of (by decide +kernel) (Nat.le_of_ble_eq_true rfl) (fun X hl K _ _ _ => ?_)
  obtain ⟨rr, μr⟩ := z
  exact t_X11_some_0 K hl H rfl
/-! RX11 moment(I)J -/
def b_X11_moment_17 (Y : jY) (μ : jM) : Option (Int64 × jM) :=
  some ((-9223372036854775808 : Int64), μ)
def f_X11_moment (Y : jY) (v0 : Nat) (v1 : Int32) (μ : jM) : Option (Int64 × jM) :=
  (jrcv Y v0 11 (f_X11_hasTones Y v0 μ)).bind fun r1 =>
  if r1.1 = 0 then
    b_X11_moment_17 Y r1.2
  else
    (f_X11_within Y v1 ((0 : Int32)) ((7 : Int32)) r1.2).bind fun r2 =>
    if r2.1 = 0 then
      b_X11_moment_17 Y r2.2
    else
      (jgO Y r2.2 v0 11 6).bind fun x3 =>
      (jgO Y r2.2 v0 11 3).bind fun x4 =>
      (jgO Y r2.2 x4 3 0).bind fun x5 =>
      (jrcv Y x3 7 (f_X7_rebuild Y x3 x5 r2.2)).bind fun μ6 =>
      (jgO Y μ6 v0 11 6).bind fun x7 =>
      (jgO Y μ6 x7 7 3).bind fun x8 =>
      (jaL Y μ6 x8 21 v1).bind fun x9 =>
      some (x9, μ6)
set_option maxRecDepth 10000 in
theorem t_X11_moment_17 {X : jX} {l : Launch} {n : Nat} {Y : jY} (K : jOK X RX11 cX11_moment 2 (some .long) 3) (hl : X.2.1 = l) {rr : Int64} {μr : jM} {μ : jM} {z : (Int64 × jM)} (H : b_X11_moment_17 Y μ = some z) (D : z = (rr, μr)) : JW X (jEnd X n Y (some (.long rr)) μr 0 0) 0 0 n Y 17 [] [] μ := by
  unfold b_X11_moment_17 at H
  refine r_ldc2 K (-9223372036854775808) mc_RX11_151 dX11_moment_17 ?_
  cases H
  obtain ⟨rfl, rfl⟩ := jfin2 D
  exact r_lret K dX11_moment_20
set_option maxRecDepth 10000 in
theorem t_X11_moment_0 {X : jX} {l : Launch} {n : Nat} {Y : jY} (K : jOK X RX11 cX11_moment 2 (some .long) 3) (hl : X.2.1 = l) {rr : Int64} {μr : jM} {v0 : Nat} {v1 : Int32} {μ : jM} {z : (Int64 × jM)} (H : f_X11_moment Y v0 v1 μ = some z) (D : z = (rr, μr)) : JW X (jEnd X n Y (some (.long rr)) μr 0 0) 0 0 n Y 0 [(0, .ref v0), (1, .int v1)] [] μ := by
  unfold f_X11_moment at H
  refine r_aload_n K 0 dX11_moment_0 rfl rfl ?_
  refine w_callV K hl H (fun r h => c_X11_hasTones l h) mC_yX11_hasTones mM_RX11_147 mI_yX11_hasTones mS_yX11_hasTones mZ_RX11 vc11 (Nat.le_of_ble_eq_true rfl) (Nat.le_of_ble_eq_true rfl) np_yX11_hasTones rfl (Nat.le_of_ble_eq_true rfl) dX11_moment_1 (fun r1 H => ?_) ⟨Nat.zero_le _, Nat.zero_le _⟩
  refine w_if_eq K 17 dX11_moment_4 (by decide) H (fun _ H => ?_) (fun _ H => ?_)
  · exact r_sub [] rfl (t_X11_moment_17 K hl H D)
  · refine r_iload_n K 1 dX11_moment_7 rfl rfl ?_
    refine r_iconst (v := 0) K dX11_moment_8 (by decide) ?_
    refine r_bipush (v := 7) K dX11_moment_9 (by decide) ?_
    refine w_callS K hl H (fun r h => c_X11_within l h) mC_yX11_within mM_RX11_133 mT_yX11_within mZ_RX11 (Nat.le_of_ble_eq_true rfl) (Nat.le_of_ble_eq_true rfl) np_yX11_within rfl (Nat.le_of_ble_eq_true rfl) dX11_moment_11 (fun r2 H => ?_) ⟨Nat.zero_le _, Nat.zero_le _⟩
    refine w_if_ne K 21 dX11_moment_14 (by decide) H (fun _ H => ?_) (fun _ H => ?_)
    · refine r_aload_n K 0 dX11_moment_21 rfl rfl ?_
      refine w_getO K vc11 inX11 6 (by decide) mF_RX11_50 dX11_moment_22 H (fun x3 H => ?_)
      refine r_aload_n K 0 dX11_moment_25 rfl rfl ?_
      refine w_getO K vc11 inX11 3 (by decide) mF_RX11_35 dX11_moment_26 H (fun x4 H => ?_)
      refine w_getO K vc3 inX3 0 (by decide) mF_RX11_119 dX11_moment_29 H (fun x5 H => ?_)
      refine w_callV K hl H (fun r h => c_X7_rebuild l h) mC_yX7_rebuild mM_RX11_153 mI_yX7_rebuild mS_yX7_rebuild mZ_RX7 vc7 (Nat.le_of_ble_eq_true rfl) (Nat.le_of_ble_eq_true rfl) np_yX7_rebuild rfl (Nat.le_of_ble_eq_true rfl) dX11_moment_32 (fun μ6 H => ?_) ⟨Nat.zero_le _, Nat.zero_le _⟩
      refine r_aload_n K 0 dX11_moment_35 rfl rfl ?_
      refine w_getO K vc11 inX11 6 (by decide) mF_RX11_50 dX11_moment_36 H (fun x7 H => ?_)
      refine w_getO K vc7 inX7 3 (by decide) mF_RX11_164 dX11_moment_39 H (fun x8 H => ?_)
      refine r_iload_n K 1 dX11_moment_42 rfl rfl ?_
      refine w_lald K dX11_moment_43 H (fun x9 H => ?_)
      cases H
      obtain ⟨rfl, rfl⟩ := jfin2 D
      exact r_lret K dX11_moment_44
    · exact r_sub [] rfl (t_X11_moment_17 K hl H D)
theorem c_X11_moment (l : Launch) {n : Nat} {Y : jY} {v0 : Nat} {v1 : Int32} {μ : jM} {z : Int64 × jM} (H : f_X11_moment Y v0 v1 μ = some z) : jC l yX11_moment cX11_moment 2 (some .long) 3 0 0 [.ref v0, .int v1] n Y μ n Y (some (.long z.1)) z.2 := by
  refine jC_of (by decide +kernel) (Nat.le_of_ble_eq_true rfl) (fun X hl K _ _ _ => ?_)
  obtain ⟨rr, μr⟩ := z
  exact t_X11_moment_0 K hl H rfl
/-! RX11 shift(I)I -/
def b_X11_shift_18 (Y : jY) (μ : jM) : Option (Int32 × jM) :=
  some ((-1 : Int32), μ)
def f_X11_shift (Y : jY) (v0 : Nat) (v1 : Int32) (μ : jM) : Option (Int32 × jM) :=
  (jrcv Y v0 11 (f_X11_hasTones Y v0 μ)).bind fun r1 =>
  if r1.1 = 0 then
    b_X11_shift_18 Y r1.2
  else
    (f_X11_within Y v1 ((-12 : Int32)) ((12 : Int32)) r1.2).bind fun r2 =>
    if r2.1 = 0 then
      b_X11_shift_18 Y r2.2
    else
      (jgO Y r2.2 v0 11 11).bind fun x3 =>
      (jgO Y r2.2 v0 11 3).bind fun x4 =>
      (jgO Y r2.2 x4 3 0).bind fun x5 =>
      (jrcv Y x3 9 (f_X9_copy Y x3 x5 r2.2)).bind fun μ6 =>
      (jgO Y μ6 v0 11 11).bind fun x7 =>
      (jrcv Y x7 9 (f_X9_moveBy Y x7 v1 μ6)).bind fun μ8 =>
      (jrcv Y v0 11 (f_X11_takeSpareTones Y v0 μ8)).bind fun r9 =>
      some (r9.1, r9.2)
set_option maxRecDepth 10000 in
theorem t_X11_shift_18 {X : jX} {l : Launch} {n : Nat} {Y : jY} (K : jOK X RX11 cX11_shift 2 (some .int) 4) (hl : X.2.1 = l) {rr : Int32} {μr : jM} {μ : jM} {z : (Int32 × jM)} (H : b_X11_shift_18 Y μ = some z) (D : z = (rr, μr)) : JW X (jEnd X n Y (some (.int rr)) μr 0 0) 0 0 n Y 18 [] [] μ := by
  unfold b_X11_shift_18 at H
  refine r_iconst (v := -1) K dX11_shift_18 (by decide) ?_
  cases H
  obtain ⟨rfl, rfl⟩ := jfin2 D
  exact r_iret K dX11_shift_19
set_option maxRecDepth 10000 in
theorem t_X11_shift_0 {X : jX} {l : Launch} {n : Nat} {Y : jY} (K : jOK X RX11 cX11_shift 2 (some .int) 4) (hl : X.2.1 = l) {rr : Int32} {μr : jM} {v0 : Nat} {v1 : Int32} {μ : jM} {z : (Int32 × jM)} (H : f_X11_shift Y v0 v1 μ = some z) (D : z = (rr, μr)) : JW X (jEnd X n Y (some (.int rr)) μr 0 0) 0 0 n Y 0 [(0, .ref v0), (1, .int v1)] [] μ := by
  unfold f_X11_shift at H
  refine r_aload_n K 0 dX11_shift_0 rfl rfl ?_
  refine w_callV K hl H (fun r h => c_X11_hasTones l h) mC_yX11_hasTones mM_RX11_147 mI_yX11_hasTones mS_yX11_hasTones mZ_RX11 vc11 (Nat.le_of_ble_eq_true rfl) (Nat.le_of_ble_eq_true rfl) np_yX11_hasTones rfl (Nat.le_of_ble_eq_true rfl) dX11_shift_1 (fun r1 H => ?_) ⟨Nat.zero_le _, Nat.zero_le _⟩
  refine w_if_eq K 18 dX11_shift_4 (by decide) H (fun _ H => ?_) (fun _ H => ?_)
  · exact r_sub [] rfl (t_X11_shift_18 K hl H D)
  · refine r_iload_n K 1 dX11_shift_7 rfl rfl ?_
    refine r_bipush (v := -12) K dX11_shift_8 (by decide) ?_
    refine r_bipush (v := 12) K dX11_shift_10 (by decide) ?_
    refine w_callS K hl H (fun r h => c_X11_within l h) mC_yX11_within mM_RX11_133 mT_yX11_within mZ_RX11 (Nat.le_of_ble_eq_true rfl) (Nat.le_of_ble_eq_true rfl) np_yX11_within rfl (Nat.le_of_ble_eq_true rfl) dX11_shift_12 (fun r2 H => ?_) ⟨Nat.zero_le _, Nat.zero_le _⟩
    refine w_if_ne K 20 dX11_shift_15 (by decide) H (fun _ H => ?_) (fun _ H => ?_)
    · refine r_aload_n K 0 dX11_shift_20 rfl rfl ?_
      refine w_getO K vc11 inX11 11 (by decide) mF_RX11_87 dX11_shift_21 H (fun x3 H => ?_)
      refine r_aload_n K 0 dX11_shift_24 rfl rfl ?_
      refine w_getO K vc11 inX11 3 (by decide) mF_RX11_35 dX11_shift_25 H (fun x4 H => ?_)
      refine w_getO K vc3 inX3 0 (by decide) mF_RX11_119 dX11_shift_28 H (fun x5 H => ?_)
      refine w_callV K hl H (fun r h => c_X9_copy l h) mC_yX9_copy mM_RX11_243 mI_yX9_copy mS_yX9_copy mZ_RX9 vc9 (Nat.le_of_ble_eq_true rfl) (Nat.le_of_ble_eq_true rfl) np_yX9_copy rfl (Nat.le_of_ble_eq_true rfl) dX11_shift_31 (fun μ6 H => ?_) ⟨Nat.zero_le _, Nat.zero_le _⟩
      refine r_aload_n K 0 dX11_shift_34 rfl rfl ?_
      refine w_getO K vc11 inX11 11 (by decide) mF_RX11_87 dX11_shift_35 H (fun x7 H => ?_)
      refine r_iload_n K 1 dX11_shift_38 rfl rfl ?_
      refine w_callV K hl H (fun r h => c_X9_moveBy l h) mC_yX9_moveBy mM_RX11_246 mI_yX9_moveBy mS_yX9_moveBy mZ_RX9 vc9 (Nat.le_of_ble_eq_true rfl) (Nat.le_of_ble_eq_true rfl) np_yX9_moveBy rfl (Nat.le_of_ble_eq_true rfl) dX11_shift_39 (fun μ8 H => ?_) ⟨Nat.zero_le _, Nat.zero_le _⟩
      refine r_aload_n K 0 dX11_shift_42 rfl rfl ?_
      refine w_callV K hl H (fun r h => c_X11_takeSpareTones l h) mC_yX11_takeSpareTones mM_RX11_249 mI_yX11_takeSpareTones mS_yX11_takeSpareTones mZ_RX11 vc11 (Nat.le_of_ble_eq_true rfl) (Nat.le_of_ble_eq_true rfl) np_yX11_takeSpareTones rfl (Nat.le_of_ble_eq_true rfl) dX11_shift_43 (fun r9 H => ?_) ⟨Nat.zero_le _, Nat.zero_le _⟩
      cases H
      obtain ⟨rfl, rfl⟩ := jfin2 D
      exact r_iret K dX11_shift_46
    · exact r_sub [] rfl (t_X11_shift_18 K hl H D)
theorem c_X11_shift (l : Launch) {n : Nat} {Y : jY} {v0 : Nat} {v1 : Int32} {μ : jM} {z : Int32 × jM} (H : f_X11_shift Y v0 v1 μ = some z) : jC l yX11_shift cX11_shift 2 (some .int) 4 0 0 [.ref v0, .int v1] n Y μ n Y (some (.int z.1)) z.2 := by
  refine jC_of (by decide +kernel) (Nat.le_of_ble_eq_true rfl) (fun X hl K _ _ _ => ?_)
  obtain ⟨rr, μr⟩ := z
  exact t_X11_shift_0 K hl H rfl
/-! RX11 isRival(LChainTables$WholeTable;ZIII)Z -/
def f_X11_isRival (Y : jY) (v0 : Nat) (v1 : Nat) (v2 : Int32) (v3 : Int32) (v4 : Int32) (v5 : Int32) (μ : jM) : Option (Int32 × jM) :=
  (jrcv Y v1 10 (f_X10_numberAt Y v1 v2 v3 μ)).bind fun r1 =>
  if v4 = r1.1 then
    (jbool ((0 : Int32))).bind fun x9 =>
    some (x9, r1.2)
  else
    (jgO Y r1.2 v0 11 10).bind fun x2 =>
    (jrcv Y x2 10 (f_X10_copy Y x2 v1 r1.2)).bind fun μ3 =>
    (jgO Y μ3 v0 11 10).bind fun x4 =>
    (jrcv Y x4 10 (f_X10_setNumber Y x4 v2 v3 v4 μ3)).bind fun μ5 =>
    (jgO Y μ5 v0 11 10).bind fun x6 =>
    (jrcv Y x6 10 (f_X10_meets Y x6 v5 μ5)).bind fun r7 =>
    (jbool r7.1).bind fun x8 =>
    some (x8, r7.2)
set_option maxRecDepth 10000 in
theorem t_X11_isRival_0 {X : jX} {l : Launch} {n : Nat} {Y : jY} (K : jOK X RX11 cX11_isRival 6 (some .boolean) 6) (hl : X.2.1 = l) {rr : Int32} {μr : jM} {v0 : Nat} {v1 : Nat} {v2 : Int32} {v3 : Int32} {v4 : Int32} {v5 : Int32} {μ : jM} {z : (Int32 × jM)} (H : f_X11_isRival Y v0 v1 v2 v3 v4 v5 μ = some z) (D : z = (rr, μr)) : JW X (jEnd X n Y (some (.int rr)) μr 0 0) 0 0 n Y 0 [(0, .ref v0), (1, .ref v1), (2, .int v2), (3, .int v3), (4, .int v4), (5, .int v5)] [] μ := by
  unfold f_X11_isRival at H
  refine r_iload K 4 dX11_isRival_0 rfl ?_
  refine r_aload_n K 1 dX11_isRival_2 rfl rfl ?_
  refine r_iload_n K 2 dX11_isRival_3 rfl rfl ?_
  refine r_iload_n K 3 dX11_isRival_4 rfl rfl ?_
  refine w_callV K hl H (fun r h => c_X10_numberAt l h) mC_yX10_numberAt mM_RX11_277 mI_yX10_numberAt mS_yX10_numberAt mZ_RX10 vc10 (Nat.le_of_ble_eq_true rfl) (Nat.le_of_ble_eq_true rfl) np_yX10_numberAt rfl (Nat.le_of_ble_eq_true rfl) dX11_isRival_5 (fun r1 H => ?_) ⟨Nat.zero_le _, Nat.zero_le _⟩
  refine w_icmp_ne K 13 dX11_isRival_8 (by decide) H (fun _ H => ?_) (fun _ H => ?_)
  · refine r_aload_n K 0 dX11_isRival_13 rfl rfl ?_
    refine w_getO K vc11 inX11 10 (by decide) mF_RX11_80 dX11_isRival_14 H (fun x2 H => ?_)
    refine r_aload_n K 1 dX11_isRival_17 rfl rfl ?_
    refine w_callV K hl H (fun r h => c_X10_copy l h) mC_yX10_copy mM_RX11_337 mI_yX10_copy mS_yX10_copy mZ_RX10 vc10 (Nat.le_of_ble_eq_true rfl) (Nat.le_of_ble_eq_true rfl) np_yX10_copy rfl (Nat.le_of_ble_eq_true rfl) dX11_isRival_18 (fun μ3 H => ?_) ⟨Nat.zero_le _, Nat.zero_le _⟩
    refine r_aload_n K 0 dX11_isRival_21 rfl rfl ?_
    refine w_getO K vc11 inX11 10 (by decide) mF_RX11_80 dX11_isRival_22 H (fun x4 H => ?_)
    refine r_iload_n K 2 dX11_isRival_25 rfl rfl ?_
    refine r_iload_n K 3 dX11_isRival_26 rfl rfl ?_
    refine r_iload K 4 dX11_isRival_27 rfl ?_
    refine w_callV K hl H (fun r h => c_X10_setNumber l h) mC_yX10_setNumber mM_RX11_281 mI_yX10_setNumber mS_yX10_setNumber mZ_RX10 vc10 (Nat.le_of_ble_eq_true rfl) (Nat.le_of_ble_eq_true rfl) np_yX10_setNumber rfl (Nat.le_of_ble_eq_true rfl) dX11_isRival_29 (fun μ5 H => ?_) ⟨Nat.zero_le _, Nat.zero_le _⟩
    refine r_aload_n K 0 dX11_isRival_32 rfl rfl ?_
    refine w_getO K vc11 inX11 10 (by decide) mF_RX11_80 dX11_isRival_33 H (fun x6 H => ?_)
    refine r_iload K 5 dX11_isRival_36 rfl ?_
    refine w_callV K hl H (fun r h => c_X10_meets l h) mC_yX10_meets mM_RX11_354 mI_yX10_meets mS_yX10_meets mZ_RX10 vc10 (Nat.le_of_ble_eq_true rfl) (Nat.le_of_ble_eq_true rfl) np_yX10_meets rfl (Nat.le_of_ble_eq_true rfl) dX11_isRival_38 (fun r7 H => ?_) ⟨Nat.zero_le _, Nat.zero_le _⟩
    refine w_zret K dX11_isRival_41 H (fun hz H => ?_)
    cases H
    obtain ⟨rfl, rfl⟩ := jfin2 D
    exact r_zret K hz dX11_isRival_41
  · refine r_iconst (v := 0) K dX11_isRival_11 (by decide) ?_
    refine w_zret K dX11_isRival_12 H (fun hz H => ?_)
    cases H
    obtain ⟨rfl, rfl⟩ := jfin2 D
    exact r_zret K hz dX11_isRival_12
theorem c_X11_isRival (l : Launch) {n : Nat} {Y : jY} {v0 : Nat} {v1 : Nat} {v2 : Int32} {v3 : Int32} {v4 : Int32} {v5 : Int32} {μ : jM} {z : Int32 × jM} (H : f_X11_isRival Y v0 v1 v2 v3 v4 v5 μ = some z) : jC l yX11_isRival cX11_isRival 6 (some .boolean) 6 0 0 [.ref v0, .ref v1, .int v2, .int v3, .int v4, .int v5] n Y μ n Y (some (.int z.1)) z.2 := by
  refine jC_of (by decide +kernel) (Nat.le_of_ble_eq_true rfl) (fun X hl K _ _ _ => ?_)
  obtain ⟨rr, μr⟩ := z
  exact t_X11_isRival_0 K hl H rfl
/-! RX11 apart()J -/
def b_X11_apart_23 (Y : jY) (t0 : Int64) (μ : jM) : Option (Int64 × jM) :=
  some (t0, μ)
def f_X11_apart (Y : jY) (v0 : Nat) (μ : jM) : Option (Int64 × jM) :=
  (jrcv Y v0 11 (f_X11_hasTones Y v0 μ)).bind fun r1 =>
  if r1.1 = 0 then
    b_X11_apart_23 Y (-9223372036854775808 : Int64) r1.2
  else
    (jgO Y r1.2 v0 11 3).bind fun x2 =>
    (jgO Y r1.2 x2 3 0).bind fun x3 =>
    (jrcv Y x3 9 (f_X9_distances Y x3 r1.2)).bind fun r4 =>
    b_X11_apart_23 Y r4.1 r4.2
set_option maxRecDepth 10000 in
theorem t_X11_apart_23 {X : jX} {l : Launch} {n : Nat} {Y : jY} (K : jOK X RX11 cX11_apart 1 (some .long) 2) (hl : X.2.1 = l) {rr : Int64} {μr : jM} {t0 : Int64} {μ : jM} {z : (Int64 × jM)} (H : b_X11_apart_23 Y t0 μ = some z) (D : z = (rr, μr)) : JW X (jEnd X n Y (some (.long rr)) μr 0 0) 0 0 n Y 23 [] [.long t0] μ := by
  unfold b_X11_apart_23 at H
  cases H
  obtain ⟨rfl, rfl⟩ := jfin2 D
  exact r_lret K dX11_apart_23
set_option maxRecDepth 10000 in
theorem t_X11_apart_0 {X : jX} {l : Launch} {n : Nat} {Y : jY} (K : jOK X RX11 cX11_apart 1 (some .long) 2) (hl : X.2.1 = l) {rr : Int64} {μr : jM} {v0 : Nat} {μ : jM} {z : (Int64 × jM)} (H : f_X11_apart Y v0 μ = some z) (D : z = (rr, μr)) : JW X (jEnd X n Y (some (.long rr)) μr 0 0) 0 0 n Y 0 [(0, .ref v0)] [] μ := by
  unfold f_X11_apart at H
  refine r_aload_n K 0 dX11_apart_0 rfl rfl ?_
  refine w_callV K hl H (fun r h => c_X11_hasTones l h) mC_yX11_hasTones mM_RX11_147 mI_yX11_hasTones mS_yX11_hasTones mZ_RX11 vc11 (Nat.le_of_ble_eq_true rfl) (Nat.le_of_ble_eq_true rfl) np_yX11_hasTones rfl (Nat.le_of_ble_eq_true rfl) dX11_apart_1 (fun r1 H => ?_) ⟨Nat.zero_le _, Nat.zero_le _⟩
  refine w_if_eq K 20 dX11_apart_4 (by decide) H (fun _ H => ?_) (fun _ H => ?_)
  · refine r_ldc2 K (-9223372036854775808) mc_RX11_151 dX11_apart_20 ?_
    exact r_sub [] rfl (t_X11_apart_23 K hl H D)
  · refine r_aload_n K 0 dX11_apart_7 rfl rfl ?_
    refine w_getO K vc11 inX11 3 (by decide) mF_RX11_35 dX11_apart_8 H (fun x2 H => ?_)
    refine w_getO K vc3 inX3 0 (by decide) mF_RX11_119 dX11_apart_11 H (fun x3 H => ?_)
    refine w_callV K hl H (fun r h => c_X9_distances l h) mC_yX9_distances mM_RX11_228 mI_yX9_distances mS_yX9_distances mZ_RX9 vc9 (Nat.le_of_ble_eq_true rfl) (Nat.le_of_ble_eq_true rfl) np_yX9_distances rfl (Nat.le_of_ble_eq_true rfl) dX11_apart_14 (fun r4 H => ?_) ⟨Nat.zero_le _, Nat.zero_le _⟩
    refine r_goto K 23 dX11_apart_17 (by decide) ?_
    exact r_sub [] rfl (t_X11_apart_23 K hl H D)
theorem c_X11_apart (l : Launch) {n : Nat} {Y : jY} {v0 : Nat} {μ : jM} {z : Int64 × jM} (H : f_X11_apart Y v0 μ = some z) : jC l yX11_apart cX11_apart 1 (some .long) 2 0 0 [.ref v0] n Y μ n Y (some (.long z.1)) z.2 := by
  refine jC_of (by decide +kernel) (Nat.le_of_ble_eq_true rfl) (fun X hl K _ _ _ => ?_)
  obtain ⟨rr, μr⟩ := z
  exact t_X11_apart_0 K hl H rfl
/-! RX11 chain(III)J -/
def b_X11_chain_31 (Y : jY) (μ : jM) : Option (Int64 × jM) :=
  some ((-9223372036854775808 : Int64), μ)
def b_X11_chain_100 (Y : jY) (t0 : Int64) (μ : jM) : Option (Int64 × jM) :=
  some (t0, μ)
def f_X11_chain (Y : jY) (v0 : Nat) (v1 : Int32) (v2 : Int32) (v3 : Int32) (μ : jM) : Option (Int64 × jM) :=
  (jrcv Y v0 11 (f_X11_hasTones Y v0 μ)).bind fun r1 =>
  if r1.1 = 0 then
    b_X11_chain_31 Y r1.2
  else
    (f_X11_within Y v1 ((0 : Int32)) ((1 : Int32)) r1.2).bind fun r2 =>
    if r2.1 = 0 then
      b_X11_chain_31 Y r2.2
    else
      (jrcv Y v0 11 (f_X11_isTone Y v0 v2 r2.2)).bind fun r3 =>
      if r3.1 = 0 then
        b_X11_chain_31 Y r3.2
      else
        (f_X11_isPart Y v3 r3.2).bind fun r4 =>
        if r4.1 = 0 then
          b_X11_chain_31 Y r4.2
        else
          (jrcv Y v0 11 (f_X11_hasChain Y v0 r4.2)).bind fun r5 =>
          if r5.1 = 0 then
            some ((-2 : Int64), r5.2)
          else
            (jgO Y r5.2 v0 11 7).bind fun x6 =>
            (jgO Y r5.2 v0 11 3).bind fun x7 =>
            (jgO Y r5.2 x7 3 0).bind fun x8 =>
            (jrcv Y x6 8 (f_X8_rebuild Y x6 x8 r5.2)).bind fun μ9 =>
            (jgO Y μ9 v0 11 7).bind fun x10 =>
            (jrcv Y x10 8 (f_X8_hang Y x10 μ9)).bind fun μ11 =>
            if v1 = 0 then
              (jgO Y μ11 v0 11 7).bind fun x16 =>
              (jgO Y μ11 x16 8 4).bind fun x17 =>
              (jaO Y μ11 x17 23 v2).bind fun x18 =>
              (jrcv Y x18 1 (f_X1_part Y x18 v3 μ11)).bind fun r19 =>
              b_X11_chain_100 Y r19.1 r19.2
            else
              (jgO Y μ11 v0 11 7).bind fun x12 =>
              (jgO Y μ11 x12 8 5).bind fun x13 =>
              (jaO Y μ11 x13 23 v2).bind fun x14 =>
              (jrcv Y x14 1 (f_X1_part Y x14 v3 μ11)).bind fun r15 =>
              b_X11_chain_100 Y r15.1 r15.2
set_option maxRecDepth 10000 in
theorem t_X11_chain_31 {X : jX} {l : Launch} {n : Nat} {Y : jY} (K : jOK X RX11 cX11_chain 4 (some .long) 7) (hl : X.2.1 = l) {rr : Int64} {μr : jM} {μ : jM} {z : (Int64 × jM)} (H : b_X11_chain_31 Y μ = some z) (D : z = (rr, μr)) : JW X (jEnd X n Y (some (.long rr)) μr 0 0) 0 0 n Y 31 [] [] μ := by
  unfold b_X11_chain_31 at H
  refine r_ldc2 K (-9223372036854775808) mc_RX11_151 dX11_chain_31 ?_
  cases H
  obtain ⟨rfl, rfl⟩ := jfin2 D
  exact r_lret K dX11_chain_34
set_option maxRecDepth 10000 in
theorem t_X11_chain_100 {X : jX} {l : Launch} {n : Nat} {Y : jY} (K : jOK X RX11 cX11_chain 4 (some .long) 7) (hl : X.2.1 = l) {rr : Int64} {μr : jM} {t0 : Int64} {μ : jM} {z : (Int64 × jM)} (H : b_X11_chain_100 Y t0 μ = some z) (D : z = (rr, μr)) : JW X (jEnd X n Y (some (.long rr)) μr 0 0) 0 0 n Y 100 [] [.long t0] μ := by
  unfold b_X11_chain_100 at H
  cases H
  obtain ⟨rfl, rfl⟩ := jfin2 D
  exact r_lret K dX11_chain_100
set_option maxRecDepth 10000 in
theorem t_X11_chain_0 {X : jX} {l : Launch} {n : Nat} {Y : jY} (K : jOK X RX11 cX11_chain 4 (some .long) 7) (hl : X.2.1 = l) {rr : Int64} {μr : jM} {v0 : Nat} {v1 : Int32} {v2 : Int32} {v3 : Int32} {μ : jM} {z : (Int64 × jM)} (H : f_X11_chain Y v0 v1 v2 v3 μ = some z) (D : z = (rr, μr)) : JW X (jEnd X n Y (some (.long rr)) μr 0 0) 0 0 n Y 0 [(0, .ref v0), (1, .int v1), (2, .int v2), (3, .int v3)] [] μ := by
  unfold f_X11_chain at H
  refine r_aload_n K 0 dX11_chain_0 rfl rfl ?_
  refine w_callV K hl H (fun r h => c_X11_hasTones l h) mC_yX11_hasTones mM_RX11_147 mI_yX11_hasTones mS_yX11_hasTones mZ_RX11 vc11 (Nat.le_of_ble_eq_true rfl) (Nat.le_of_ble_eq_true rfl) np_yX11_hasTones rfl (Nat.le_of_ble_eq_true rfl) dX11_chain_1 (fun r1 H => ?_) ⟨Nat.zero_le _, Nat.zero_le _⟩
  refine w_if_eq K 31 dX11_chain_4 (by decide) H (fun _ H => ?_) (fun _ H => ?_)
  · exact r_sub [] rfl (t_X11_chain_31 K hl H D)
  · refine r_iload_n K 1 dX11_chain_7 rfl rfl ?_
    refine r_iconst (v := 0) K dX11_chain_8 (by decide) ?_
    refine r_iconst (v := 1) K dX11_chain_9 (by decide) ?_
    refine w_callS K hl H (fun r h => c_X11_within l h) mC_yX11_within mM_RX11_133 mT_yX11_within mZ_RX11 (Nat.le_of_ble_eq_true rfl) (Nat.le_of_ble_eq_true rfl) np_yX11_within rfl (Nat.le_of_ble_eq_true rfl) dX11_chain_10 (fun r2 H => ?_) ⟨Nat.zero_le _, Nat.zero_le _⟩
    refine w_if_eq K 31 dX11_chain_13 (by decide) H (fun _ H => ?_) (fun _ H => ?_)
    · exact r_sub [] rfl (t_X11_chain_31 K hl H D)
    · refine r_aload_n K 0 dX11_chain_16 rfl rfl ?_
      refine r_iload_n K 2 dX11_chain_17 rfl rfl ?_
      refine w_callV K hl H (fun r h => c_X11_isTone l h) mC_yX11_isTone mM_RX11_167 mI_yX11_isTone mS_yX11_isTone mZ_RX11 vc11 (Nat.le_of_ble_eq_true rfl) (Nat.le_of_ble_eq_true rfl) np_yX11_isTone rfl (Nat.le_of_ble_eq_true rfl) dX11_chain_18 (fun r3 H => ?_) ⟨Nat.zero_le _, Nat.zero_le _⟩
      refine w_if_eq K 31 dX11_chain_21 (by decide) H (fun _ H => ?_) (fun _ H => ?_)
      · exact r_sub [] rfl (t_X11_chain_31 K hl H D)
      · refine r_iload_n K 3 dX11_chain_24 rfl rfl ?_
        refine w_callS K hl H (fun r h => c_X11_isPart l h) mC_yX11_isPart mM_RX11_170 mT_yX11_isPart mZ_RX11 (Nat.le_of_ble_eq_true rfl) (Nat.le_of_ble_eq_true rfl) np_yX11_isPart rfl (Nat.le_of_ble_eq_true rfl) dX11_chain_25 (fun r4 H => ?_) ⟨Nat.zero_le _, Nat.zero_le _⟩
        refine w_if_ne K 35 dX11_chain_28 (by decide) H (fun _ H => ?_) (fun _ H => ?_)
        · refine r_aload_n K 0 dX11_chain_35 rfl rfl ?_
          refine w_callV K hl H (fun r h => c_X11_hasChain l h) mC_yX11_hasChain mM_RX11_203 mI_yX11_hasChain mS_yX11_hasChain mZ_RX11 vc11 (Nat.le_of_ble_eq_true rfl) (Nat.le_of_ble_eq_true rfl) np_yX11_hasChain rfl (Nat.le_of_ble_eq_true rfl) dX11_chain_36 (fun r5 H => ?_) ⟨Nat.zero_le _, Nat.zero_le _⟩
          refine w_if_ne K 46 dX11_chain_39 (by decide) H (fun _ H => ?_) (fun _ H => ?_)
          · refine r_aload_n K 0 dX11_chain_46 rfl rfl ?_
            refine w_getO K vc11 inX11 7 (by decide) mF_RX11_59 dX11_chain_47 H (fun x6 H => ?_)
            refine r_aload_n K 0 dX11_chain_50 rfl rfl ?_
            refine w_getO K vc11 inX11 3 (by decide) mF_RX11_35 dX11_chain_51 H (fun x7 H => ?_)
            refine w_getO K vc3 inX3 0 (by decide) mF_RX11_119 dX11_chain_54 H (fun x8 H => ?_)
            refine w_callV K hl H (fun r h => c_X8_rebuild l h) mC_yX8_rebuild mM_RX11_185 mI_yX8_rebuild mS_yX8_rebuild mZ_RX8 vc8 (Nat.le_of_ble_eq_true rfl) (Nat.le_of_ble_eq_true rfl) np_yX8_rebuild rfl (Nat.le_of_ble_eq_true rfl) dX11_chain_57 (fun μ9 H => ?_) ⟨Nat.zero_le _, Nat.zero_le _⟩
            refine r_aload_n K 0 dX11_chain_60 rfl rfl ?_
            refine w_getO K vc11 inX11 7 (by decide) mF_RX11_59 dX11_chain_61 H (fun x10 H => ?_)
            refine w_callV K hl H (fun r h => c_X8_hang l h) mC_yX8_hang mM_RX11_206 mI_yX8_hang mS_yX8_hang mZ_RX8 vc8 (Nat.le_of_ble_eq_true rfl) (Nat.le_of_ble_eq_true rfl) np_yX8_hang rfl (Nat.le_of_ble_eq_true rfl) dX11_chain_64 (fun μ11 H => ?_) ⟨Nat.zero_le _, Nat.zero_le _⟩
            refine r_iload_n K 1 dX11_chain_67 rfl rfl ?_
            refine w_if_ne K 87 dX11_chain_68 (by decide) H (fun _ H => ?_) (fun _ H => ?_)
            · refine r_aload_n K 0 dX11_chain_87 rfl rfl ?_
              refine w_getO K vc11 inX11 7 (by decide) mF_RX11_59 dX11_chain_88 H (fun x12 H => ?_)
              refine w_getO K vc8 inX8 5 (by decide) mF_RX11_212 dX11_chain_91 H (fun x13 H => ?_)
              refine r_iload_n K 2 dX11_chain_94 rfl rfl ?_
              refine w_aald K 23 rfl rfl dX11_chain_95 H (fun x14 H => ?_)
              refine r_iload_n K 3 dX11_chain_96 rfl rfl ?_
              refine w_callV K hl H (fun r h => c_X1_part l h) mC_yX1_part mM_RX11_177 mI_yX1_part mS_yX1_part mZ_RX1 vc1 (Nat.le_of_ble_eq_true rfl) (Nat.le_of_ble_eq_true rfl) np_yX1_part rfl (Nat.le_of_ble_eq_true rfl) dX11_chain_97 (fun r15 H => ?_) ⟨Nat.zero_le _, Nat.zero_le _⟩
              exact r_sub [] rfl (t_X11_chain_100 K hl H D)
            · refine r_aload_n K 0 dX11_chain_71 rfl rfl ?_
              refine w_getO K vc11 inX11 7 (by decide) mF_RX11_59 dX11_chain_72 H (fun x16 H => ?_)
              refine w_getO K vc8 inX8 4 (by decide) mF_RX11_209 dX11_chain_75 H (fun x17 H => ?_)
              refine r_iload_n K 2 dX11_chain_78 rfl rfl ?_
              refine w_aald K 23 rfl rfl dX11_chain_79 H (fun x18 H => ?_)
              refine r_iload_n K 3 dX11_chain_80 rfl rfl ?_
              refine w_callV K hl H (fun r h => c_X1_part l h) mC_yX1_part mM_RX11_177 mI_yX1_part mS_yX1_part mZ_RX1 vc1 (Nat.le_of_ble_eq_true rfl) (Nat.le_of_ble_eq_true rfl) np_yX1_part rfl (Nat.le_of_ble_eq_true rfl) dX11_chain_81 (fun r19 H => ?_) ⟨Nat.zero_le _, Nat.zero_le _⟩
              refine r_goto K 100 dX11_chain_84 (by decide) ?_
              exact r_sub [] rfl (t_X11_chain_100 K hl H D)
          · refine r_ldc2 K (-2) mc_RX11_201 dX11_chain_42 ?_
            cases H
            obtain ⟨rfl, rfl⟩ := jfin2 D
            exact r_lret K dX11_chain_45
        · exact r_sub [] rfl (t_X11_chain_31 K hl H D)
theorem c_X11_chain (l : Launch) {n : Nat} {Y : jY} {v0 : Nat} {v1 : Int32} {v2 : Int32} {v3 : Int32} {μ : jM} {z : Int64 × jM} (H : f_X11_chain Y v0 v1 v2 v3 μ = some z) : jC l yX11_chain cX11_chain 4 (some .long) 7 0 0 [.ref v0, .int v1, .int v2, .int v3] n Y μ n Y (some (.long z.1)) z.2 := by
  refine jC_of (by decide +kernel) (Nat.le_of_ble_eq_true rfl) (fun X hl K _ _ _ => ?_)
  obtain ⟨rr, μr⟩ := z
  exact t_X11_chain_0 K hl H rfl
/-! RX11 powers(II)J -/
def b_X11_powers_18 (Y : jY) (μ : jM) : Option (Int64 × jM) :=
  some ((-9223372036854775808 : Int64), μ)
def b_X11_powers_27 (Y : jY) (v0 : Nat) (v1 : Int32) (v2 : Int32) (v3 : Int64) (v5 : Int32) (μ : jM) : Option ((Int64 × Int32 × jM) ⊕ (Int64 × jM)) :=
  (jgO Y μ v0 11 3).bind fun x1 =>
  (jgO Y μ x1 3 1).bind fun x2 =>
  (jaO Y μ x2 24 v1).bind fun x3 =>
  (jgI Y μ x3 10 0).bind fun x4 =>
  if x4 ≤ v5 then
    some (.inr (v3, μ))
  else
    (jgO Y μ v0 11 9).bind fun x5 =>
    (jgO Y μ v0 11 3).bind fun x6 =>
    (jgO Y μ x6 3 1).bind fun x7 =>
    (jaO Y μ x7 24 v1).bind fun x8 =>
    (jrcv Y x5 4 (f_X4_walk Y x5 x8 v2 v5 v5 μ)).bind fun r9 =>
    some (.inl ((v3 + r9.1), (v5 + (1 : Int32)), r9.2))
def f_X11_powers (Y : jY) (v0 : Nat) (v1 : Int32) (v2 : Int32) (μ : jM) : Option (Int64 × jM) :=
  (jrcv Y v0 11 (f_X11_isFilled Y v0 v1 μ)).bind fun r1 =>
  if r1.1 = 0 then
    b_X11_powers_18 Y r1.2
  else
    (f_X11_within Y v2 ((0 : Int32)) ((8 : Int32)) r1.2).bind fun r2 =>
    if r2.1 = 0 then
      b_X11_powers_18 Y r2.2
    else
      jit jF (fun (s : Int64 × Int32 × jM) => b_X11_powers_27 Y v0 v1 v2 s.1 s.2.1 s.2.2) ((0 : Int64), (0 : Int32), r2.2)
set_option maxRecDepth 10000 in
theorem t_X11_powers_18 {X : jX} {l : Launch} {n : Nat} {Y : jY} (K : jOK X RX11 cX11_powers 6 (some .long) 4) (hl : X.2.1 = l) {rr : Int64} {μr : jM} {μ : jM} {z : (Int64 × jM)} (H : b_X11_powers_18 Y μ = some z) (D : z = (rr, μr)) : JW X (jEnd X n Y (some (.long rr)) μr 0 0) 0 0 n Y 18 [] [] μ := by
  unfold b_X11_powers_18 at H
  refine r_ldc2 K (-9223372036854775808) mc_RX11_151 dX11_powers_18 ?_
  cases H
  obtain ⟨rfl, rfl⟩ := jfin2 D
  exact r_lret K dX11_powers_21
set_option maxRecDepth 10000 in
theorem t_X11_powers_27 {X : jX} {l : Launch} {n : Nat} {Y : jY} (K : jOK X RX11 cX11_powers 6 (some .long) 4) (hl : X.2.1 = l) {rr : Int64} {μr : jM} {v0 : Nat} {v1 : Int32} {v2 : Int32} {v3 : Int64} {v5 : Int32} {μ : jM} {z : ((Int64 × Int32 × jM) ⊕ (Int64 × jM))} (H : b_X11_powers_27 Y v0 v1 v2 v3 v5 μ = some z) (D : Sum.elim (fun (s : Int64 × Int32 × jM) => JW X (jEnd X n Y (some (.long rr)) μr 0 0) 0 0 n Y 27 [(0, .ref v0), (1, .int v1), (2, .int v2), (3, .long s.1), (5, .int s.2.1)] [] s.2.2) (fun r => r = (rr, μr)) z) : JW X (jEnd X n Y (some (.long rr)) μr 0 0) 0 0 n Y 27 [(0, .ref v0), (1, .int v1), (2, .int v2), (3, .long v3), (5, .int v5)] [] μ := by
  unfold b_X11_powers_27 at H
  refine r_iload K 4 dX11_powers_27 rfl ?_
  refine r_aload_n K 0 dX11_powers_29 rfl rfl ?_
  refine w_getO K vc11 inX11 3 (by decide) mF_RX11_35 dX11_powers_30 H (fun x1 H => ?_)
  refine w_getO K vc3 inX3 1 (by decide) mF_RX11_255 dX11_powers_33 H (fun x2 H => ?_)
  refine r_iload_n K 1 dX11_powers_36 rfl rfl ?_
  refine w_aald K 24 rfl rfl dX11_powers_37 H (fun x3 H => ?_)
  refine w_getI K vc10 inX10 0 (by decide) mF_RX11_263 dX11_powers_38 H (fun x4 H => ?_)
  refine w_icmp_ge K 74 dX11_powers_41 (by decide) H (fun _ H => ?_) (fun _ H => ?_)
  · refine r_lload_n K 3 dX11_powers_74 rfl rfl ?_
    cases H
    simp only [Sum.elim_inr] at D
    obtain ⟨rfl, rfl⟩ := jfin2 D
    exact r_lret K dX11_powers_75
  · refine r_lload_n K 3 dX11_powers_44 rfl rfl ?_
    refine r_aload_n K 0 dX11_powers_45 rfl rfl ?_
    refine w_getO K vc11 inX11 9 (by decide) mF_RX11_73 dX11_powers_46 H (fun x5 H => ?_)
    refine r_aload_n K 0 dX11_powers_49 rfl rfl ?_
    refine w_getO K vc11 inX11 3 (by decide) mF_RX11_35 dX11_powers_50 H (fun x6 H => ?_)
    refine w_getO K vc3 inX3 1 (by decide) mF_RX11_255 dX11_powers_53 H (fun x7 H => ?_)
    refine r_iload_n K 1 dX11_powers_56 rfl rfl ?_
    refine w_aald K 24 rfl rfl dX11_powers_57 H (fun x8 H => ?_)
    refine r_iload_n K 2 dX11_powers_58 rfl rfl ?_
    refine r_iload K 4 dX11_powers_59 rfl ?_
    refine r_iload K 4 dX11_powers_61 rfl ?_
    refine w_callV K hl H (fun r h => c_X4_walk l h) mC_yX4_walk mM_RX11_339 mI_yX4_walk mS_yX4_walk mZ_RX4 vc4 (Nat.le_of_ble_eq_true rfl) (Nat.le_of_ble_eq_true rfl) np_yX4_walk rfl (Nat.le_of_ble_eq_true rfl) dX11_powers_63 (fun r9 H => ?_) ⟨Nat.zero_le _, Nat.zero_le _⟩
    refine r_ladd K dX11_powers_66 ?_
    refine r_lstore_n K [(3, .long _), (0, .ref _), (1, .int _), (2, .int _), (5, .int _)] dX11_powers_67 rfl (by decide) rfl ?_
    refine r_iinc K 4 [(5, .int _), (3, .long _), (0, .ref _), (1, .int _), (2, .int _)] (v := _ + (1 : Int32)) dX11_powers_68 rfl rfl (by decide) rfl ?_
    refine r_goto K 27 dX11_powers_71 (by decide) ?_
    cases H
    exact r_sub [2, 3, 4, 1, 0] rfl D
set_option maxRecDepth 10000 in
theorem l_X11_powers_27 {X : jX} {l : Launch} {n : Nat} {Y : jY} (K : jOK X RX11 cX11_powers 6 (some .long) 4) (hl : X.2.1 = l) {rr : Int64} {μr : jM} {v0 : Nat} {v1 : Int32} {v2 : Int32}  {s0 : Int64 × Int32 × jM} {z : (Int64 × jM)} (H : jit jF (fun (s : Int64 × Int32 × jM) => b_X11_powers_27 Y v0 v1 v2 s.1 s.2.1 s.2.2) s0 = some z) (D : z = (rr, μr)) : JW X (jEnd X n Y (some (.long rr)) μr 0 0) 0 0 n Y 27 [(0, .ref v0), (1, .int v1), (2, .int v2), (3, .long s0.1), (5, .int s0.2.1)] [] s0.2.2 :=
  jit_ind (P := fun (s : Int64 × Int32 × jM) => JW X (jEnd X n Y (some (.long rr)) μr 0 0) 0 0 n Y 27 [(0, .ref v0), (1, .int v1), (2, .int v2), (3, .long s.1), (5, .int s.2.1)] [] s.2.2) (D := fun r => r = (rr, μr)) (fun s z Hs Ds => t_X11_powers_27 K hl Hs Ds) jF s0 z H D
set_option maxRecDepth 10000 in
theorem t_X11_powers_0 {X : jX} {l : Launch} {n : Nat} {Y : jY} (K : jOK X RX11 cX11_powers 6 (some .long) 4) (hl : X.2.1 = l) {rr : Int64} {μr : jM} {v0 : Nat} {v1 : Int32} {v2 : Int32} {μ : jM} {z : (Int64 × jM)} (H : f_X11_powers Y v0 v1 v2 μ = some z) (D : z = (rr, μr)) : JW X (jEnd X n Y (some (.long rr)) μr 0 0) 0 0 n Y 0 [(0, .ref v0), (1, .int v1), (2, .int v2)] [] μ := by
  unfold f_X11_powers at H
  refine r_aload_n K 0 dX11_powers_0 rfl rfl ?_
  refine r_iload_n K 1 dX11_powers_1 rfl rfl ?_
  refine w_callV K hl H (fun r h => c_X11_isFilled l h) mC_yX11_isFilled mM_RX11_285 mI_yX11_isFilled mS_yX11_isFilled mZ_RX11 vc11 (Nat.le_of_ble_eq_true rfl) (Nat.le_of_ble_eq_true rfl) np_yX11_isFilled rfl (Nat.le_of_ble_eq_true rfl) dX11_powers_2 (fun r1 H => ?_) ⟨Nat.zero_le _, Nat.zero_le _⟩
  refine w_if_eq K 18 dX11_powers_5 (by decide) H (fun _ H => ?_) (fun _ H => ?_)
  · exact r_sub [] rfl (t_X11_powers_18 K hl H D)
  · refine r_iload_n K 2 dX11_powers_8 rfl rfl ?_
    refine r_iconst (v := 0) K dX11_powers_9 (by decide) ?_
    refine r_bipush (v := 8) K dX11_powers_10 (by decide) ?_
    refine w_callS K hl H (fun r h => c_X11_within l h) mC_yX11_within mM_RX11_133 mT_yX11_within mZ_RX11 (Nat.le_of_ble_eq_true rfl) (Nat.le_of_ble_eq_true rfl) np_yX11_within rfl (Nat.le_of_ble_eq_true rfl) dX11_powers_12 (fun r2 H => ?_) ⟨Nat.zero_le _, Nat.zero_le _⟩
    refine w_if_ne K 22 dX11_powers_15 (by decide) H (fun _ H => ?_) (fun _ H => ?_)
    · refine r_lconst (v := 0) K dX11_powers_22 (by decide) ?_
      refine r_lstore_n K [(3, .long _), (0, .ref _), (1, .int _), (2, .int _)] dX11_powers_23 rfl (by decide) rfl ?_
      refine r_iconst (v := 0) K dX11_powers_24 (by decide) ?_
      refine r_istore K [(5, .int _), (3, .long _), (0, .ref _), (1, .int _), (2, .int _)] dX11_powers_25 (by decide) rfl ?_
      exact r_sub [2, 3, 4, 1, 0] rfl (l_X11_powers_27 K hl H D)
    · exact r_sub [] rfl (t_X11_powers_18 K hl H D)
theorem c_X11_powers (l : Launch) {n : Nat} {Y : jY} {v0 : Nat} {v1 : Int32} {v2 : Int32} {μ : jM} {z : Int64 × jM} (H : f_X11_powers Y v0 v1 v2 μ = some z) : jC l yX11_powers cX11_powers 6 (some .long) 4 0 0 [.ref v0, .int v1, .int v2] n Y μ n Y (some (.long z.1)) z.2 := by
  refine jC_of (by decide +kernel) (Nat.le_of_ble_eq_true rfl) (fun X hl K _ _ _ => ?_)
  obtain ⟨rr, μr⟩ := z
  exact t_X11_powers_0 K hl H rfl
/-! RX11 between(III)I -/
def b_X11_between_24 (Y : jY) (μ : jM) : Option (Int32 × jM) :=
  some ((-1 : Int32), μ)
def b_X11_between_64 (Y : jY) (μ : jM) : Option (Int32 × jM) :=
  some ((-2 : Int32), μ)
def b_X11_between_101 (Y : jY) (t0 : Int32) (μ : jM) : Option (Int32 × jM) :=
  some (t0, μ)
def f_X11_between (Y : jY) (v0 : Nat) (v1 : Int32) (v2 : Int32) (v3 : Int32) (μ : jM) : Option (Int32 × jM) :=
  (f_X11_isDrawer Y v1 μ).bind fun r1 =>
  if r1.1 = 0 then
    b_X11_between_24 Y r1.2
  else
    (f_X11_isDrawer Y v2 r1.2).bind fun r2 =>
    if r2.1 = 0 then
      b_X11_between_24 Y r2.2
    else
      (f_X11_within Y v3 ((1 : Int32)) ((50 : Int32)) r2.2).bind fun r3 =>
      if r3.1 = 0 then
        b_X11_between_24 Y r3.2
      else
        (jgO Y r3.2 v0 11 3).bind fun x4 =>
        (jgO Y r3.2 x4 3 1).bind fun x5 =>
        (jaO Y r3.2 x5 24 v1).bind fun x6 =>
        (jgO Y r3.2 v0 11 3).bind fun x7 =>
        (jgO Y r3.2 x7 3 1).bind fun x8 =>
        (jaO Y r3.2 x8 24 v2).bind fun x9 =>
        (jgI Y r3.2 x6 10 0).bind fun x10 =>
        if x10 = 0 then
          b_X11_between_64 Y r3.2
        else
          (jgI Y r3.2 x9 10 0).bind fun x11 =>
          if x11 = 0 then
            b_X11_between_64 Y r3.2
          else
            (jgI Y r3.2 x9 10 0).bind fun x12 =>
            (jgI Y r3.2 x6 10 0).bind fun x13 =>
            if x12 = ((x13 - ((1 : Int32)))) then
              (jrcv Y x6 10 (f_X10_rootsEnclose Y x6 x9 v3 r3.2)).bind fun r14 =>
              if r14.1 = 0 then
                b_X11_between_101 Y (0 : Int32) r14.2
              else
                b_X11_between_101 Y (1 : Int32) r14.2
            else
              some ((-3 : Int32), r3.2)
set_option maxRecDepth 10000 in
theorem t_X11_between_24 {X : jX} {l : Launch} {n : Nat} {Y : jY} (K : jOK X RX11 cX11_between 6 (some .int) 5) (hl : X.2.1 = l) {rr : Int32} {μr : jM} {μ : jM} {z : (Int32 × jM)} (H : b_X11_between_24 Y μ = some z) (D : z = (rr, μr)) : JW X (jEnd X n Y (some (.int rr)) μr 0 0) 0 0 n Y 24 [] [] μ := by
  unfold b_X11_between_24 at H
  refine r_iconst (v := -1) K dX11_between_24 (by decide) ?_
  cases H
  obtain ⟨rfl, rfl⟩ := jfin2 D
  exact r_iret K dX11_between_25
set_option maxRecDepth 10000 in
theorem t_X11_between_64 {X : jX} {l : Launch} {n : Nat} {Y : jY} (K : jOK X RX11 cX11_between 6 (some .int) 5) (hl : X.2.1 = l) {rr : Int32} {μr : jM} {μ : jM} {z : (Int32 × jM)} (H : b_X11_between_64 Y μ = some z) (D : z = (rr, μr)) : JW X (jEnd X n Y (some (.int rr)) μr 0 0) 0 0 n Y 64 [] [] μ := by
  unfold b_X11_between_64 at H
  refine r_bipush (v := -2) K dX11_between_64 (by decide) ?_
  cases H
  obtain ⟨rfl, rfl⟩ := jfin2 D
  exact r_iret K dX11_between_66
set_option maxRecDepth 10000 in
theorem t_X11_between_101 {X : jX} {l : Launch} {n : Nat} {Y : jY} (K : jOK X RX11 cX11_between 6 (some .int) 5) (hl : X.2.1 = l) {rr : Int32} {μr : jM} {t0 : Int32} {μ : jM} {z : (Int32 × jM)} (H : b_X11_between_101 Y t0 μ = some z) (D : z = (rr, μr)) : JW X (jEnd X n Y (some (.int rr)) μr 0 0) 0 0 n Y 101 [] [.int t0] μ := by
  unfold b_X11_between_101 at H
  cases H
  obtain ⟨rfl, rfl⟩ := jfin2 D
  exact r_iret K dX11_between_101
set_option maxRecDepth 10000 in
theorem t_X11_between_0 {X : jX} {l : Launch} {n : Nat} {Y : jY} (K : jOK X RX11 cX11_between 6 (some .int) 5) (hl : X.2.1 = l) {rr : Int32} {μr : jM} {v0 : Nat} {v1 : Int32} {v2 : Int32} {v3 : Int32} {μ : jM} {z : (Int32 × jM)} (H : f_X11_between Y v0 v1 v2 v3 μ = some z) (D : z = (rr, μr)) : JW X (jEnd X n Y (some (.int rr)) μr 0 0) 0 0 n Y 0 [(0, .ref v0), (1, .int v1), (2, .int v2), (3, .int v3)] [] μ := by
  unfold f_X11_between at H
  refine r_iload_n K 1 dX11_between_0 rfl rfl ?_
  refine w_callS K hl H (fun r h => c_X11_isDrawer l h) mC_yX11_isDrawer mM_RX11_252 mT_yX11_isDrawer mZ_RX11 (Nat.le_of_ble_eq_true rfl) (Nat.le_of_ble_eq_true rfl) np_yX11_isDrawer rfl (Nat.le_of_ble_eq_true rfl) dX11_between_1 (fun r1 H => ?_) ⟨Nat.zero_le _, Nat.zero_le _⟩
  refine w_if_eq K 24 dX11_between_4 (by decide) H (fun _ H => ?_) (fun _ H => ?_)
  · exact r_sub [] rfl (t_X11_between_24 K hl H D)
  · refine r_iload_n K 2 dX11_between_7 rfl rfl ?_
    refine w_callS K hl H (fun r h => c_X11_isDrawer l h) mC_yX11_isDrawer mM_RX11_252 mT_yX11_isDrawer mZ_RX11 (Nat.le_of_ble_eq_true rfl) (Nat.le_of_ble_eq_true rfl) np_yX11_isDrawer rfl (Nat.le_of_ble_eq_true rfl) dX11_between_8 (fun r2 H => ?_) ⟨Nat.zero_le _, Nat.zero_le _⟩
    refine w_if_eq K 24 dX11_between_11 (by decide) H (fun _ H => ?_) (fun _ H => ?_)
    · exact r_sub [] rfl (t_X11_between_24 K hl H D)
    · refine r_iload_n K 3 dX11_between_14 rfl rfl ?_
      refine r_iconst (v := 1) K dX11_between_15 (by decide) ?_
      refine r_bipush (v := 50) K dX11_between_16 (by decide) ?_
      refine w_callS K hl H (fun r h => c_X11_within l h) mC_yX11_within mM_RX11_133 mT_yX11_within mZ_RX11 (Nat.le_of_ble_eq_true rfl) (Nat.le_of_ble_eq_true rfl) np_yX11_within rfl (Nat.le_of_ble_eq_true rfl) dX11_between_18 (fun r3 H => ?_) ⟨Nat.zero_le _, Nat.zero_le _⟩
      refine w_if_ne K 26 dX11_between_21 (by decide) H (fun _ H => ?_) (fun _ H => ?_)
      · refine r_aload_n K 0 dX11_between_26 rfl rfl ?_
        refine w_getO K vc11 inX11 3 (by decide) mF_RX11_35 dX11_between_27 H (fun x4 H => ?_)
        refine w_getO K vc3 inX3 1 (by decide) mF_RX11_255 dX11_between_30 H (fun x5 H => ?_)
        refine r_iload_n K 1 dX11_between_33 rfl rfl ?_
        refine w_aald K 24 rfl rfl dX11_between_34 H (fun x6 H => ?_)
        refine r_astore K [(4, .ref _), (0, .ref _), (1, .int _), (2, .int _), (3, .int _)] dX11_between_35 (by decide) rfl ?_
        refine r_aload_n K 1 dX11_between_37 rfl rfl ?_
        refine w_getO K vc11 inX11 3 (by decide) mF_RX11_35 dX11_between_38 H (fun x7 H => ?_)
        refine w_getO K vc3 inX3 1 (by decide) mF_RX11_255 dX11_between_41 H (fun x8 H => ?_)
        refine r_iload_n K 3 dX11_between_44 rfl rfl ?_
        refine w_aald K 24 rfl rfl dX11_between_45 H (fun x9 H => ?_)
        refine r_astore K [(5, .ref _), (4, .ref _), (0, .ref _), (1, .int _), (2, .int _), (3, .int _)] dX11_between_46 (by decide) rfl ?_
        refine r_aload K 1 dX11_between_48 rfl ?_
        refine w_getI K vc10 inX10 0 (by decide) mF_RX11_263 dX11_between_50 H (fun x10 H => ?_)
        refine w_if_eq K 64 dX11_between_53 (by decide) H (fun _ H => ?_) (fun _ H => ?_)
        · exact r_sub [] rfl (t_X11_between_64 K hl H D)
        · refine r_aload K 0 dX11_between_56 rfl ?_
          refine w_getI K vc10 inX10 0 (by decide) mF_RX11_263 dX11_between_58 H (fun x11 H => ?_)
          refine w_if_ne K 67 dX11_between_61 (by decide) H (fun _ H => ?_) (fun _ H => ?_)
          · refine r_aload K 0 dX11_between_67 rfl ?_
            refine w_getI K vc10 inX10 0 (by decide) mF_RX11_263 dX11_between_69 H (fun x12 H => ?_)
            refine r_aload K 1 dX11_between_72 rfl ?_
            refine w_getI K vc10 inX10 0 (by decide) mF_RX11_263 dX11_between_74 H (fun x13 H => ?_)
            refine r_iconst (v := 1) K dX11_between_77 (by decide) ?_
            refine r_isub K dX11_between_78 ?_
            refine w_icmp_eq K 85 dX11_between_79 (by decide) H (fun _ H => ?_) (fun _ H => ?_)
            · refine r_aload K 1 dX11_between_85 rfl ?_
              refine r_aload K 0 dX11_between_87 rfl ?_
              refine r_iload_n K 5 dX11_between_89 rfl rfl ?_
              refine w_callV K hl H (fun r h => c_X10_rootsEnclose l h) mC_yX10_rootsEnclose mM_RX11_330 mI_yX10_rootsEnclose mS_yX10_rootsEnclose mZ_RX10 vc10 (Nat.le_of_ble_eq_true rfl) (Nat.le_of_ble_eq_true rfl) np_yX10_rootsEnclose rfl (Nat.le_of_ble_eq_true rfl) dX11_between_90 (fun r14 H => ?_) ⟨Nat.zero_le _, Nat.zero_le _⟩
              refine w_if_eq K 100 dX11_between_93 (by decide) H (fun _ H => ?_) (fun _ H => ?_)
              · refine r_iconst (v := 0) K dX11_between_100 (by decide) ?_
                exact r_sub [] rfl (t_X11_between_101 K hl H D)
              · refine r_iconst (v := 1) K dX11_between_96 (by decide) ?_
                refine r_goto K 101 dX11_between_97 (by decide) ?_
                exact r_sub [] rfl (t_X11_between_101 K hl H D)
            · refine r_bipush (v := -3) K dX11_between_82 (by decide) ?_
              cases H
              obtain ⟨rfl, rfl⟩ := jfin2 D
              exact r_iret K dX11_between_84
          · exact r_sub [] rfl (t_X11_between_64 K hl H D)
      · exact r_sub [] rfl (t_X11_between_24 K hl H D)
theorem c_X11_between (l : Launch) {n : Nat} {Y : jY} {v0 : Nat} {v1 : Int32} {v2 : Int32} {v3 : Int32} {μ : jM} {z : Int32 × jM} (H : f_X11_between Y v0 v1 v2 v3 μ = some z) : jC l yX11_between cX11_between 6 (some .int) 5 0 0 [.ref v0, .int v1, .int v2, .int v3] n Y μ n Y (some (.int z.1)) z.2 := by
  refine jC_of (by decide +kernel) (Nat.le_of_ble_eq_true rfl) (fun X hl K _ _ _ => ?_)
  obtain ⟨rr, μr⟩ := z
  exact t_X11_between_0 K hl H rfl
/-! RX11 value(III)J -/
def b_X11_value_39 (Y : jY) (μ : jM) : Option (Int64 × jM) :=
  some ((-9223372036854775808 : Int64), μ)
def f_X11_value (Y : jY) (v0 : Nat) (v1 : Int32) (v2 : Int32) (v3 : Int32) (μ : jM) : Option (Int64 × jM) :=
  (jrcv Y v0 11 (f_X11_isFilled Y v0 v1 μ)).bind fun r1 =>
  if r1.1 = 0 then
    b_X11_value_39 Y r1.2
  else
    (jgO Y r1.2 v0 11 3).bind fun x2 =>
    (jgO Y r1.2 x2 3 1).bind fun x3 =>
    (jaO Y r1.2 x3 24 v1).bind fun x4 =>
    (jgI Y r1.2 x4 10 0).bind fun x5 =>
    (f_X11_within Y v2 ((0 : Int32)) x5 r1.2).bind fun r6 =>
    if r6.1 = 0 then
      b_X11_value_39 Y r6.2
    else
      (f_X11_within Y v3 ((-20 : Int32)) ((20 : Int32)) r6.2).bind fun r7 =>
      if r7.1 = 0 then
        b_X11_value_39 Y r7.2
      else
        (jgO Y r7.2 v0 11 3).bind fun x8 =>
        (jgO Y r7.2 x8 3 1).bind fun x9 =>
        (jaO Y r7.2 x9 24 v1).bind fun x10 =>
        (jrcv Y x10 10 (f_X10_valueAt Y x10 ((0 : Int32)) v2 v3 ((1 : Int32)) r7.2)).bind fun r11 =>
        some (r11.1, r11.2)
set_option maxRecDepth 10000 in
theorem t_X11_value_39 {X : jX} {l : Launch} {n : Nat} {Y : jY} (K : jOK X RX11 cX11_value 4 (some .long) 4) (hl : X.2.1 = l) {rr : Int64} {μr : jM} {μ : jM} {z : (Int64 × jM)} (H : b_X11_value_39 Y μ = some z) (D : z = (rr, μr)) : JW X (jEnd X n Y (some (.long rr)) μr 0 0) 0 0 n Y 39 [] [] μ := by
  unfold b_X11_value_39 at H
  refine r_ldc2 K (-9223372036854775808) mc_RX11_151 dX11_value_39 ?_
  cases H
  obtain ⟨rfl, rfl⟩ := jfin2 D
  exact r_lret K dX11_value_42
set_option maxRecDepth 10000 in
theorem t_X11_value_0 {X : jX} {l : Launch} {n : Nat} {Y : jY} (K : jOK X RX11 cX11_value 4 (some .long) 4) (hl : X.2.1 = l) {rr : Int64} {μr : jM} {v0 : Nat} {v1 : Int32} {v2 : Int32} {v3 : Int32} {μ : jM} {z : (Int64 × jM)} (H : f_X11_value Y v0 v1 v2 v3 μ = some z) (D : z = (rr, μr)) : JW X (jEnd X n Y (some (.long rr)) μr 0 0) 0 0 n Y 0 [(0, .ref v0), (1, .int v1), (2, .int v2), (3, .int v3)] [] μ := by
  unfold f_X11_value at H
  refine r_aload_n K 0 dX11_value_0 rfl rfl ?_
  refine r_iload_n K 1 dX11_value_1 rfl rfl ?_
  refine w_callV K hl H (fun r h => c_X11_isFilled l h) mC_yX11_isFilled mM_RX11_285 mI_yX11_isFilled mS_yX11_isFilled mZ_RX11 vc11 (Nat.le_of_ble_eq_true rfl) (Nat.le_of_ble_eq_true rfl) np_yX11_isFilled rfl (Nat.le_of_ble_eq_true rfl) dX11_value_2 (fun r1 H => ?_) ⟨Nat.zero_le _, Nat.zero_le _⟩
  refine w_if_eq K 39 dX11_value_5 (by decide) H (fun _ H => ?_) (fun _ H => ?_)
  · exact r_sub [] rfl (t_X11_value_39 K hl H D)
  · refine r_iload_n K 2 dX11_value_8 rfl rfl ?_
    refine r_iconst (v := 0) K dX11_value_9 (by decide) ?_
    refine r_aload_n K 0 dX11_value_10 rfl rfl ?_
    refine w_getO K vc11 inX11 3 (by decide) mF_RX11_35 dX11_value_11 H (fun x2 H => ?_)
    refine w_getO K vc3 inX3 1 (by decide) mF_RX11_255 dX11_value_14 H (fun x3 H => ?_)
    refine r_iload_n K 1 dX11_value_17 rfl rfl ?_
    refine w_aald K 24 rfl rfl dX11_value_18 H (fun x4 H => ?_)
    refine w_getI K vc10 inX10 0 (by decide) mF_RX11_263 dX11_value_19 H (fun x5 H => ?_)
    refine w_callS K hl H (fun r h => c_X11_within l h) mC_yX11_within mM_RX11_133 mT_yX11_within mZ_RX11 (Nat.le_of_ble_eq_true rfl) (Nat.le_of_ble_eq_true rfl) np_yX11_within rfl (Nat.le_of_ble_eq_true rfl) dX11_value_22 (fun r6 H => ?_) ⟨Nat.zero_le _, Nat.zero_le _⟩
    refine w_if_eq K 39 dX11_value_25 (by decide) H (fun _ H => ?_) (fun _ H => ?_)
    · exact r_sub [] rfl (t_X11_value_39 K hl H D)
    · refine r_iload_n K 3 dX11_value_28 rfl rfl ?_
      refine r_bipush (v := -20) K dX11_value_29 (by decide) ?_
      refine r_bipush (v := 20) K dX11_value_31 (by decide) ?_
      refine w_callS K hl H (fun r h => c_X11_within l h) mC_yX11_within mM_RX11_133 mT_yX11_within mZ_RX11 (Nat.le_of_ble_eq_true rfl) (Nat.le_of_ble_eq_true rfl) np_yX11_within rfl (Nat.le_of_ble_eq_true rfl) dX11_value_33 (fun r7 H => ?_) ⟨Nat.zero_le _, Nat.zero_le _⟩
      refine w_if_ne K 43 dX11_value_36 (by decide) H (fun _ H => ?_) (fun _ H => ?_)
      · refine r_aload_n K 0 dX11_value_43 rfl rfl ?_
        refine w_getO K vc11 inX11 3 (by decide) mF_RX11_35 dX11_value_44 H (fun x8 H => ?_)
        refine w_getO K vc3 inX3 1 (by decide) mF_RX11_255 dX11_value_47 H (fun x9 H => ?_)
        refine r_iload_n K 1 dX11_value_50 rfl rfl ?_
        refine w_aald K 24 rfl rfl dX11_value_51 H (fun x10 H => ?_)
        refine r_iconst (v := 0) K dX11_value_52 (by decide) ?_
        refine r_iload_n K 2 dX11_value_53 rfl rfl ?_
        refine r_iload_n K 3 dX11_value_54 rfl rfl ?_
        refine r_iconst (v := 1) K dX11_value_55 (by decide) ?_
        refine w_callV K hl H (fun r h => c_X10_valueAt l h) mC_yX10_valueAt mM_RX11_296 mI_yX10_valueAt mS_yX10_valueAt mZ_RX10 vc10 (Nat.le_of_ble_eq_true rfl) (Nat.le_of_ble_eq_true rfl) np_yX10_valueAt rfl (Nat.le_of_ble_eq_true rfl) dX11_value_56 (fun r11 H => ?_) ⟨Nat.zero_le _, Nat.zero_le _⟩
        cases H
        obtain ⟨rfl, rfl⟩ := jfin2 D
        exact r_lret K dX11_value_59
      · exact r_sub [] rfl (t_X11_value_39 K hl H D)
theorem c_X11_value (l : Launch) {n : Nat} {Y : jY} {v0 : Nat} {v1 : Int32} {v2 : Int32} {v3 : Int32} {μ : jM} {z : Int64 × jM} (H : f_X11_value Y v0 v1 v2 v3 μ = some z) : jC l yX11_value cX11_value 4 (some .long) 4 0 0 [.ref v0, .int v1, .int v2, .int v3] n Y μ n Y (some (.long z.1)) z.2 := by
  refine jC_of (by decide +kernel) (Nat.le_of_ble_eq_true rfl) (fun X hl K _ _ _ => ?_)
  obtain ⟨rr, μr⟩ := z
  exact t_X11_value_0 K hl H rfl
/-! RX11 heard(I)I -/
def f_X11_heard (Y : jY) (v0 : Nat) (v1 : Int32) (μ : jM) : Option (Int32 × jM) :=
  (f_X11_isDrawer Y v1 μ).bind fun r1 =>
  if r1.1 = 0 then
    some ((-1 : Int32), r1.2)
  else
    (jgO Y r1.2 v0 11 3).bind fun x2 =>
    (jgO Y r1.2 x2 3 1).bind fun x3 =>
    (jaO Y r1.2 x3 24 v1).bind fun x4 =>
    (jgI Y r1.2 x4 10 0).bind fun x5 =>
    if x5 = 0 then
      some ((-2 : Int32), r1.2)
    else
      (jgO Y r1.2 v0 11 11).bind fun x6 =>
      (jgO Y r1.2 v0 11 3).bind fun x7 =>
      (jgO Y r1.2 x7 3 1).bind fun x8 =>
      (jaO Y r1.2 x8 24 v1).bind fun x9 =>
      (jrcv Y x6 9 (f_X9_hear Y x6 x9 r1.2)).bind fun r10 =>
      if r10.1 = 0 then
        some ((-3 : Int32), r10.2)
      else
        (jgO Y r10.2 v0 11 3).bind fun x11 =>
        (jgO Y r10.2 x11 3 0).bind fun x12 =>
        (jgO Y r10.2 v0 11 11).bind fun x13 =>
        (jrcv Y x12 9 (f_X9_copy Y x12 x13 r10.2)).bind fun μ14 =>
        (jgO Y μ14 v0 11 3).bind fun x15 =>
        (jgO Y μ14 x15 3 0).bind fun x16 =>
        (jgI Y μ14 x16 9 0).bind fun x17 =>
        some (x17, μ14)
set_option maxRecDepth 10000 in
theorem t_X11_heard_0 {X : jX} {l : Launch} {n : Nat} {Y : jY} (K : jOK X RX11 cX11_heard 2 (some .int) 5) (hl : X.2.1 = l) {rr : Int32} {μr : jM} {v0 : Nat} {v1 : Int32} {μ : jM} {z : (Int32 × jM)} (H : f_X11_heard Y v0 v1 μ = some z) (D : z = (rr, μr)) : JW X (jEnd X n Y (some (.int rr)) μr 0 0) 0 0 n Y 0 [(0, .ref v0), (1, .int v1)] [] μ := by
  unfold f_X11_heard at H
  refine r_iload_n K 1 dX11_heard_0 rfl rfl ?_
  refine w_callS K hl H (fun r h => c_X11_isDrawer l h) mC_yX11_isDrawer mM_RX11_252 mT_yX11_isDrawer mZ_RX11 (Nat.le_of_ble_eq_true rfl) (Nat.le_of_ble_eq_true rfl) np_yX11_isDrawer rfl (Nat.le_of_ble_eq_true rfl) dX11_heard_1 (fun r1 H => ?_) ⟨Nat.zero_le _, Nat.zero_le _⟩
  refine w_if_ne K 9 dX11_heard_4 (by decide) H (fun _ H => ?_) (fun _ H => ?_)
  · refine r_aload_n K 0 dX11_heard_9 rfl rfl ?_
    refine w_getO K vc11 inX11 3 (by decide) mF_RX11_35 dX11_heard_10 H (fun x2 H => ?_)
    refine w_getO K vc3 inX3 1 (by decide) mF_RX11_255 dX11_heard_13 H (fun x3 H => ?_)
    refine r_iload_n K 1 dX11_heard_16 rfl rfl ?_
    refine w_aald K 24 rfl rfl dX11_heard_17 H (fun x4 H => ?_)
    refine w_getI K vc10 inX10 0 (by decide) mF_RX11_263 dX11_heard_18 H (fun x5 H => ?_)
    refine w_if_ne K 27 dX11_heard_21 (by decide) H (fun _ H => ?_) (fun _ H => ?_)
    · refine r_aload_n K 0 dX11_heard_27 rfl rfl ?_
      refine w_getO K vc11 inX11 11 (by decide) mF_RX11_87 dX11_heard_28 H (fun x6 H => ?_)
      refine r_aload_n K 0 dX11_heard_31 rfl rfl ?_
      refine w_getO K vc11 inX11 3 (by decide) mF_RX11_35 dX11_heard_32 H (fun x7 H => ?_)
      refine w_getO K vc3 inX3 1 (by decide) mF_RX11_255 dX11_heard_35 H (fun x8 H => ?_)
      refine r_iload_n K 1 dX11_heard_38 rfl rfl ?_
      refine w_aald K 24 rfl rfl dX11_heard_39 H (fun x9 H => ?_)
      refine w_callV K hl H (fun r h => c_X9_hear l h) mC_yX9_hear mM_RX11_379 mI_yX9_hear mS_yX9_hear mZ_RX9 vc9 (Nat.le_of_ble_eq_true rfl) (Nat.le_of_ble_eq_true rfl) np_yX9_hear rfl (Nat.le_of_ble_eq_true rfl) dX11_heard_40 (fun r10 H => ?_) ⟨Nat.zero_le _, Nat.zero_le _⟩
      refine w_if_ne K 49 dX11_heard_43 (by decide) H (fun _ H => ?_) (fun _ H => ?_)
      · refine r_aload_n K 0 dX11_heard_49 rfl rfl ?_
        refine w_getO K vc11 inX11 3 (by decide) mF_RX11_35 dX11_heard_50 H (fun x11 H => ?_)
        refine w_getO K vc3 inX3 0 (by decide) mF_RX11_119 dX11_heard_53 H (fun x12 H => ?_)
        refine r_aload_n K 0 dX11_heard_56 rfl rfl ?_
        refine w_getO K vc11 inX11 11 (by decide) mF_RX11_87 dX11_heard_57 H (fun x13 H => ?_)
        refine w_callV K hl H (fun r h => c_X9_copy l h) mC_yX9_copy mM_RX11_243 mI_yX9_copy mS_yX9_copy mZ_RX9 vc9 (Nat.le_of_ble_eq_true rfl) (Nat.le_of_ble_eq_true rfl) np_yX9_copy rfl (Nat.le_of_ble_eq_true rfl) dX11_heard_60 (fun μ14 H => ?_) ⟨Nat.zero_le _, Nat.zero_le _⟩
        refine r_aload_n K 0 dX11_heard_63 rfl rfl ?_
        refine w_getO K vc11 inX11 3 (by decide) mF_RX11_35 dX11_heard_64 H (fun x15 H => ?_)
        refine w_getO K vc3 inX3 0 (by decide) mF_RX11_119 dX11_heard_67 H (fun x16 H => ?_)
        refine w_getI K vc9 inX9 0 (by decide) mF_RX11_126 dX11_heard_70 H (fun x17 H => ?_)
        cases H
        obtain ⟨rfl, rfl⟩ := jfin2 D
        exact r_iret K dX11_heard_73
      · refine r_bipush (v := -3) K dX11_heard_46 (by decide) ?_
        cases H
        obtain ⟨rfl, rfl⟩ := jfin2 D
        exact r_iret K dX11_heard_48
    · refine r_bipush (v := -2) K dX11_heard_24 (by decide) ?_
      cases H
      obtain ⟨rfl, rfl⟩ := jfin2 D
      exact r_iret K dX11_heard_26
  · refine r_iconst (v := -1) K dX11_heard_7 (by decide) ?_
    cases H
    obtain ⟨rfl, rfl⟩ := jfin2 D
    exact r_iret K dX11_heard_8
theorem c_X11_heard (l : Launch) {n : Nat} {Y : jY} {v0 : Nat} {v1 : Int32} {μ : jM} {z : Int32 × jM} (H : f_X11_heard Y v0 v1 μ = some z) : jC l yX11_heard cX11_heard 2 (some .int) 5 0 0 [.ref v0, .int v1] n Y μ n Y (some (.int z.1)) z.2 := by
  refine jC_of (by decide +kernel) (Nat.le_of_ble_eq_true rfl) (fun X hl K _ _ _ => ?_)
  obtain ⟨rr, μr⟩ := z
  exact t_X11_heard_0 K hl H rfl
/-! RX11 weighed(II)J -/
def b_X11_weighed_24 (Y : jY) (μ : jM) : Option (Int64 × jM) :=
  some ((-9223372036854775808 : Int64), μ)
def f_X11_weighed (Y : jY) (v0 : Nat) (v1 : Int32) (v2 : Int32) (μ : jM) : Option (Int64 × jM) :=
  (jrcv Y v0 11 (f_X11_hasTones Y v0 μ)).bind fun r1 =>
  if r1.1 = 0 then
    b_X11_weighed_24 Y r1.2
  else
    (f_X11_within Y v1 ((0 : Int32)) ((7 : Int32)) r1.2).bind fun r2 =>
    if r2.1 = 0 then
      b_X11_weighed_24 Y r2.2
    else
      (f_X11_isPart Y v2 r2.2).bind fun r3 =>
      if r3.1 = 0 then
        b_X11_weighed_24 Y r3.2
      else
        (jgO Y r3.2 v0 11 3).bind fun x4 =>
        (jgO Y r3.2 x4 3 0).bind fun x5 =>
        (jgO Y r3.2 v0 11 12).bind fun x6 =>
        (jrcv Y x5 9 (f_X9_weighPowers Y x5 v1 x6 r3.2)).bind fun μ7 =>
        (jgO Y μ7 v0 11 12).bind fun x8 =>
        (jrcv Y x8 1 (f_X1_part Y x8 v2 μ7)).bind fun r9 =>
        some (r9.1, r9.2)
set_option maxRecDepth 10000 in
theorem t_X11_weighed_24 {X : jX} {l : Launch} {n : Nat} {Y : jY} (K : jOK X RX11 cX11_weighed 3 (some .long) 5) (hl : X.2.1 = l) {rr : Int64} {μr : jM} {μ : jM} {z : (Int64 × jM)} (H : b_X11_weighed_24 Y μ = some z) (D : z = (rr, μr)) : JW X (jEnd X n Y (some (.long rr)) μr 0 0) 0 0 n Y 24 [] [] μ := by
  unfold b_X11_weighed_24 at H
  refine r_ldc2 K (-9223372036854775808) mc_RX11_151 dX11_weighed_24 ?_
  cases H
  obtain ⟨rfl, rfl⟩ := jfin2 D
  exact r_lret K dX11_weighed_27
set_option maxRecDepth 10000 in
theorem t_X11_weighed_0 {X : jX} {l : Launch} {n : Nat} {Y : jY} (K : jOK X RX11 cX11_weighed 3 (some .long) 5) (hl : X.2.1 = l) {rr : Int64} {μr : jM} {v0 : Nat} {v1 : Int32} {v2 : Int32} {μ : jM} {z : (Int64 × jM)} (H : f_X11_weighed Y v0 v1 v2 μ = some z) (D : z = (rr, μr)) : JW X (jEnd X n Y (some (.long rr)) μr 0 0) 0 0 n Y 0 [(0, .ref v0), (1, .int v1), (2, .int v2)] [] μ := by
  unfold f_X11_weighed at H
  refine r_aload_n K 0 dX11_weighed_0 rfl rfl ?_
  refine w_callV K hl H (fun r h => c_X11_hasTones l h) mC_yX11_hasTones mM_RX11_147 mI_yX11_hasTones mS_yX11_hasTones mZ_RX11 vc11 (Nat.le_of_ble_eq_true rfl) (Nat.le_of_ble_eq_true rfl) np_yX11_hasTones rfl (Nat.le_of_ble_eq_true rfl) dX11_weighed_1 (fun r1 H => ?_) ⟨Nat.zero_le _, Nat.zero_le _⟩
  refine w_if_eq K 24 dX11_weighed_4 (by decide) H (fun _ H => ?_) (fun _ H => ?_)
  · exact r_sub [] rfl (t_X11_weighed_24 K hl H D)
  · refine r_iload_n K 1 dX11_weighed_7 rfl rfl ?_
    refine r_iconst (v := 0) K dX11_weighed_8 (by decide) ?_
    refine r_bipush (v := 7) K dX11_weighed_9 (by decide) ?_
    refine w_callS K hl H (fun r h => c_X11_within l h) mC_yX11_within mM_RX11_133 mT_yX11_within mZ_RX11 (Nat.le_of_ble_eq_true rfl) (Nat.le_of_ble_eq_true rfl) np_yX11_within rfl (Nat.le_of_ble_eq_true rfl) dX11_weighed_11 (fun r2 H => ?_) ⟨Nat.zero_le _, Nat.zero_le _⟩
    refine w_if_eq K 24 dX11_weighed_14 (by decide) H (fun _ H => ?_) (fun _ H => ?_)
    · exact r_sub [] rfl (t_X11_weighed_24 K hl H D)
    · refine r_iload_n K 2 dX11_weighed_17 rfl rfl ?_
      refine w_callS K hl H (fun r h => c_X11_isPart l h) mC_yX11_isPart mM_RX11_170 mT_yX11_isPart mZ_RX11 (Nat.le_of_ble_eq_true rfl) (Nat.le_of_ble_eq_true rfl) np_yX11_isPart rfl (Nat.le_of_ble_eq_true rfl) dX11_weighed_18 (fun r3 H => ?_) ⟨Nat.zero_le _, Nat.zero_le _⟩
      refine w_if_ne K 28 dX11_weighed_21 (by decide) H (fun _ H => ?_) (fun _ H => ?_)
      · refine r_aload_n K 0 dX11_weighed_28 rfl rfl ?_
        refine w_getO K vc11 inX11 3 (by decide) mF_RX11_35 dX11_weighed_29 H (fun x4 H => ?_)
        refine w_getO K vc3 inX3 0 (by decide) mF_RX11_119 dX11_weighed_32 H (fun x5 H => ?_)
        refine r_iload_n K 1 dX11_weighed_35 rfl rfl ?_
        refine r_aload_n K 0 dX11_weighed_36 rfl rfl ?_
        refine w_getO K vc11 inX11 12 (by decide) mF_RX11_94 dX11_weighed_37 H (fun x6 H => ?_)
        refine w_callV K hl H (fun r h => c_X9_weighPowers l h) mC_yX9_weighPowers mM_RX11_222 mI_yX9_weighPowers mS_yX9_weighPowers mZ_RX9 vc9 (Nat.le_of_ble_eq_true rfl) (Nat.le_of_ble_eq_true rfl) np_yX9_weighPowers rfl (Nat.le_of_ble_eq_true rfl) dX11_weighed_40 (fun μ7 H => ?_) ⟨Nat.zero_le _, Nat.zero_le _⟩
        refine r_aload_n K 0 dX11_weighed_43 rfl rfl ?_
        refine w_getO K vc11 inX11 12 (by decide) mF_RX11_94 dX11_weighed_44 H (fun x8 H => ?_)
        refine r_iload_n K 2 dX11_weighed_47 rfl rfl ?_
        refine w_callV K hl H (fun r h => c_X1_part l h) mC_yX1_part mM_RX11_177 mI_yX1_part mS_yX1_part mZ_RX1 vc1 (Nat.le_of_ble_eq_true rfl) (Nat.le_of_ble_eq_true rfl) np_yX1_part rfl (Nat.le_of_ble_eq_true rfl) dX11_weighed_48 (fun r9 H => ?_) ⟨Nat.zero_le _, Nat.zero_le _⟩
        cases H
        obtain ⟨rfl, rfl⟩ := jfin2 D
        exact r_lret K dX11_weighed_51
      · exact r_sub [] rfl (t_X11_weighed_24 K hl H D)
theorem c_X11_weighed (l : Launch) {n : Nat} {Y : jY} {v0 : Nat} {v1 : Int32} {v2 : Int32} {μ : jM} {z : Int64 × jM} (H : f_X11_weighed Y v0 v1 v2 μ = some z) : jC l yX11_weighed cX11_weighed 3 (some .long) 5 0 0 [.ref v0, .int v1, .int v2] n Y μ n Y (some (.long z.1)) z.2 := by
  refine jC_of (by decide +kernel) (Nat.le_of_ble_eq_true rfl) (fun X hl K _ _ _ => ?_)
  obtain ⟨rr, μr⟩ := z
  exact t_X11_weighed_0 K hl H rfl
/-! RX11 count(I)I -/
def f_X11_count (Y : jY) (v0 : Nat) (v1 : Int32) (μ : jM) : Option (Int32 × jM) :=
  if v1 = 0 then
    (jgO Y μ v0 11 3).bind fun x22 =>
    (jgO Y μ x22 3 0).bind fun x23 =>
    (jgI Y μ x23 9 0).bind fun x24 =>
    some (x24, μ)
  else
    if v1 = ((1 : Int32)) then
      (jgO Y μ v0 11 3).bind fun x20 =>
      (jrcv Y x20 3 (f_X3_filledDrawers Y x20 μ)).bind fun r21 =>
      some (r21.1, r21.2)
    else
      if v1 = ((2 : Int32)) then
        (jgO Y μ v0 11 0).bind fun x18 =>
        (jgI Y μ x18 5 1).bind fun x19 =>
        some (x19, μ)
      else
        if v1 = ((3 : Int32)) then
          (jgI Y μ v0 11 5).bind fun x17 =>
          some (x17, μ)
        else
          (jgO Y μ v0 11 3).bind fun x1 =>
          (jgO Y μ x1 3 0).bind fun x2 =>
          (jgI Y μ x2 9 0).bind fun x3 =>
          (f_X11_within Y v1 ((10 : Int32)) ((((9 : Int32)) + x3)) μ).bind fun r4 =>
          if r4.1 = 0 then
            (jgO Y r4.2 v0 11 3).bind fun x5 =>
            (jgO Y r4.2 x5 3 0).bind fun x6 =>
            (jgI Y r4.2 x6 9 0).bind fun x7 =>
            (f_X11_within Y v1 ((20 : Int32)) ((((18 : Int32)) + x7)) r4.2).bind fun r8 =>
            if r8.1 = 0 then
              some ((-2147483648 : Int32), r8.2)
            else
              (jgO Y r8.2 v0 11 3).bind fun x9 =>
              (jgO Y r8.2 x9 3 0).bind fun x10 =>
              (jgO Y r8.2 x10 9 2).bind fun x11 =>
              (jaI Y r8.2 x11 20 ((v1 - ((20 : Int32))))).bind fun x12 =>
              some (x12, r8.2)
          else
            (jgO Y r4.2 v0 11 3).bind fun x13 =>
            (jgO Y r4.2 x13 3 0).bind fun x14 =>
            (jgO Y r4.2 x14 9 1).bind fun x15 =>
            (jaI Y r4.2 x15 20 ((v1 - ((10 : Int32))))).bind fun x16 =>
            some (x16, r4.2)
set_option maxRecDepth 10000 in
theorem t_X11_count_0 {X : jX} {l : Launch} {n : Nat} {Y : jY} (K : jOK X RX11 cX11_count 2 (some .int) 2) (hl : X.2.1 = l) {rr : Int32} {μr : jM} {v0 : Nat} {v1 : Int32} {μ : jM} {z : (Int32 × jM)} (H : f_X11_count Y v0 v1 μ = some z) (D : z = (rr, μr)) : JW X (jEnd X n Y (some (.int rr)) μr 0 0) 0 0 n Y 0 [(0, .ref v0), (1, .int v1)] [] μ := by
  unfold f_X11_count at H
  refine r_iload_n K 1 dX11_count_0 rfl rfl ?_
  refine w_if_ne K 15 dX11_count_1 (by decide) H (fun _ H => ?_) (fun _ H => ?_)
  · refine r_iload_n K 1 dX11_count_15 rfl rfl ?_
    refine r_iconst (v := 1) K dX11_count_16 (by decide) ?_
    refine w_icmp_ne K 28 dX11_count_17 (by decide) H (fun _ H => ?_) (fun _ H => ?_)
    · refine r_iload_n K 1 dX11_count_28 rfl rfl ?_
      refine r_iconst (v := 2) K dX11_count_29 (by decide) ?_
      refine w_icmp_ne K 41 dX11_count_30 (by decide) H (fun _ H => ?_) (fun _ H => ?_)
      · refine r_iload_n K 1 dX11_count_41 rfl rfl ?_
        refine r_iconst (v := 3) K dX11_count_42 (by decide) ?_
        refine w_icmp_ne K 51 dX11_count_43 (by decide) H (fun _ H => ?_) (fun _ H => ?_)
        · refine r_iload_n K 1 dX11_count_51 rfl rfl ?_
          refine r_bipush (v := 10) K dX11_count_52 (by decide) ?_
          refine r_bipush (v := 9) K dX11_count_54 (by decide) ?_
          refine r_aload_n K 0 dX11_count_56 rfl rfl ?_
          refine w_getO K vc11 inX11 3 (by decide) mF_RX11_35 dX11_count_57 H (fun x1 H => ?_)
          refine w_getO K vc3 inX3 0 (by decide) mF_RX11_119 dX11_count_60 H (fun x2 H => ?_)
          refine w_getI K vc9 inX9 0 (by decide) mF_RX11_126 dX11_count_63 H (fun x3 H => ?_)
          refine r_iadd K dX11_count_66 ?_
          refine w_callS K hl H (fun r h => c_X11_within l h) mC_yX11_within mM_RX11_133 mT_yX11_within mZ_RX11 (Nat.le_of_ble_eq_true rfl) (Nat.le_of_ble_eq_true rfl) np_yX11_within rfl (Nat.le_of_ble_eq_true rfl) dX11_count_67 (fun r4 H => ?_) ⟨Nat.zero_le _, Nat.zero_le _⟩
          refine w_if_eq K 89 dX11_count_70 (by decide) H (fun _ H => ?_) (fun _ H => ?_)
          · refine r_iload_n K 1 dX11_count_89 rfl rfl ?_
            refine r_bipush (v := 20) K dX11_count_90 (by decide) ?_
            refine r_bipush (v := 18) K dX11_count_92 (by decide) ?_
            refine r_aload_n K 0 dX11_count_94 rfl rfl ?_
            refine w_getO K vc11 inX11 3 (by decide) mF_RX11_35 dX11_count_95 H (fun x5 H => ?_)
            refine w_getO K vc3 inX3 0 (by decide) mF_RX11_119 dX11_count_98 H (fun x6 H => ?_)
            refine w_getI K vc9 inX9 0 (by decide) mF_RX11_126 dX11_count_101 H (fun x7 H => ?_)
            refine r_iadd K dX11_count_104 ?_
            refine w_callS K hl H (fun r h => c_X11_within l h) mC_yX11_within mM_RX11_133 mT_yX11_within mZ_RX11 (Nat.le_of_ble_eq_true rfl) (Nat.le_of_ble_eq_true rfl) np_yX11_within rfl (Nat.le_of_ble_eq_true rfl) dX11_count_105 (fun r8 H => ?_) ⟨Nat.zero_le _, Nat.zero_le _⟩
            refine w_if_eq K 127 dX11_count_108 (by decide) H (fun _ H => ?_) (fun _ H => ?_)
            · refine r_ldc K (-2147483648) mc_RX11_146 dX11_count_127 ?_
              cases H
              obtain ⟨rfl, rfl⟩ := jfin2 D
              exact r_iret K dX11_count_129
            · refine r_aload_n K 0 dX11_count_111 rfl rfl ?_
              refine w_getO K vc11 inX11 3 (by decide) mF_RX11_35 dX11_count_112 H (fun x9 H => ?_)
              refine w_getO K vc3 inX3 0 (by decide) mF_RX11_119 dX11_count_115 H (fun x10 H => ?_)
              refine w_getO K vc9 inX9 2 (by decide) mF_RX11_141 dX11_count_118 H (fun x11 H => ?_)
              refine r_iload_n K 1 dX11_count_121 rfl rfl ?_
              refine r_bipush (v := 20) K dX11_count_122 (by decide) ?_
              refine r_isub K dX11_count_124 ?_
              refine w_iald K dX11_count_125 H (fun x12 H => ?_)
              cases H
              obtain ⟨rfl, rfl⟩ := jfin2 D
              exact r_iret K dX11_count_126
          · refine r_aload_n K 0 dX11_count_73 rfl rfl ?_
            refine w_getO K vc11 inX11 3 (by decide) mF_RX11_35 dX11_count_74 H (fun x13 H => ?_)
            refine w_getO K vc3 inX3 0 (by decide) mF_RX11_119 dX11_count_77 H (fun x14 H => ?_)
            refine w_getO K vc9 inX9 1 (by decide) mF_RX11_137 dX11_count_80 H (fun x15 H => ?_)
            refine r_iload_n K 1 dX11_count_83 rfl rfl ?_
            refine r_bipush (v := 10) K dX11_count_84 (by decide) ?_
            refine r_isub K dX11_count_86 ?_
            refine w_iald K dX11_count_87 H (fun x16 H => ?_)
            cases H
            obtain ⟨rfl, rfl⟩ := jfin2 D
            exact r_iret K dX11_count_88
        · refine r_aload_n K 0 dX11_count_46 rfl rfl ?_
          refine w_getI K vc11 inX11 5 (by decide) mF_RX11_43 dX11_count_47 H (fun x17 H => ?_)
          cases H
          obtain ⟨rfl, rfl⟩ := jfin2 D
          exact r_iret K dX11_count_50
      · refine r_aload_n K 0 dX11_count_33 rfl rfl ?_
        refine w_getO K vc11 inX11 0 (by decide) mF_RX11_12 dX11_count_34 H (fun x18 H => ?_)
        refine w_getI K vc5 inX5 1 (by decide) mF_RX11_106 dX11_count_37 H (fun x19 H => ?_)
        cases H
        obtain ⟨rfl, rfl⟩ := jfin2 D
        exact r_iret K dX11_count_40
    · refine r_aload_n K 0 dX11_count_20 rfl rfl ?_
      refine w_getO K vc11 inX11 3 (by decide) mF_RX11_35 dX11_count_21 H (fun x20 H => ?_)
      refine w_callV K hl H (fun r h => c_X3_filledDrawers l h) mC_yX3_filledDrawers mM_RX11_129 mI_yX3_filledDrawers mS_yX3_filledDrawers mZ_RX3 vc3 (Nat.le_of_ble_eq_true rfl) (Nat.le_of_ble_eq_true rfl) np_yX3_filledDrawers rfl (Nat.le_of_ble_eq_true rfl) dX11_count_24 (fun r21 H => ?_) ⟨Nat.zero_le _, Nat.zero_le _⟩
      cases H
      obtain ⟨rfl, rfl⟩ := jfin2 D
      exact r_iret K dX11_count_27
  · refine r_aload_n K 0 dX11_count_4 rfl rfl ?_
    refine w_getO K vc11 inX11 3 (by decide) mF_RX11_35 dX11_count_5 H (fun x22 H => ?_)
    refine w_getO K vc3 inX3 0 (by decide) mF_RX11_119 dX11_count_8 H (fun x23 H => ?_)
    refine w_getI K vc9 inX9 0 (by decide) mF_RX11_126 dX11_count_11 H (fun x24 H => ?_)
    cases H
    obtain ⟨rfl, rfl⟩ := jfin2 D
    exact r_iret K dX11_count_14
theorem c_X11_count (l : Launch) {n : Nat} {Y : jY} {v0 : Nat} {v1 : Int32} {μ : jM} {z : Int32 × jM} (H : f_X11_count Y v0 v1 μ = some z) : jC l yX11_count cX11_count 2 (some .int) 2 0 0 [.ref v0, .int v1] n Y μ n Y (some (.int z.1)) z.2 := by
  refine jC_of (by decide +kernel) (Nat.le_of_ble_eq_true rfl) (fun X hl K _ _ _ => ?_)
  obtain ⟨rr, μr⟩ := z
  exact t_X11_count_0 K hl H rfl
/-! RX11 below(IIII)I -/
def b_X11_below_31 (Y : jY) (μ : jM) : Option (Int32 × jM) :=
  some ((-1 : Int32), μ)
def b_X11_below_81 (Y : jY) (t0 : Int32) (μ : jM) : Option (Int32 × jM) :=
  some (t0, μ)
def f_X11_below (Y : jY) (v0 : Nat) (v1 : Int32) (v2 : Int32) (v3 : Int32) (v4 : Int32) (μ : jM) : Option (Int32 × jM) :=
  (f_X11_isDrawer Y v1 μ).bind fun r1 =>
  if r1.1 = 0 then
    b_X11_below_31 Y r1.2
  else
    (f_X11_within Y v3 ((-1000 : Int32)) ((1000 : Int32)) r1.2).bind fun r2 =>
    if r2.1 = 0 then
      b_X11_below_31 Y r2.2
    else
      (f_X11_within Y v4 ((1 : Int32)) ((50 : Int32)) r2.2).bind fun r3 =>
      if r3.1 = 0 then
        b_X11_below_31 Y r3.2
      else
        (jgO Y r3.2 v0 11 3).bind fun x4 =>
        (jgO Y r3.2 x4 3 1).bind fun x5 =>
        (jaO Y r3.2 x5 24 v1).bind fun x6 =>
        (jgI Y r3.2 x6 10 0).bind fun x7 =>
        if x7 = 0 then
          some ((-2 : Int32), r3.2)
        else
          (jgI Y r3.2 x6 10 0).bind fun x8 =>
          (f_X11_within Y v2 ((1 : Int32)) x8 r3.2).bind fun r9 =>
          if r9.1 = 0 then
            b_X11_below_81 Y (-1 : Int32) r9.2
          else
            (jrcv Y x6 10 (f_X10_rootsBelow Y x6 v2 v3 v4 r9.2)).bind fun r10 =>
            b_X11_below_81 Y r10.1 r10.2
set_option maxRecDepth 10000 in
theorem t_X11_below_31 {X : jX} {l : Launch} {n : Nat} {Y : jY} (K : jOK X RX11 cX11_below 6 (some .int) 3) (hl : X.2.1 = l) {rr : Int32} {μr : jM} {μ : jM} {z : (Int32 × jM)} (H : b_X11_below_31 Y μ = some z) (D : z = (rr, μr)) : JW X (jEnd X n Y (some (.int rr)) μr 0 0) 0 0 n Y 31 [] [] μ := by
  unfold b_X11_below_31 at H
  refine r_iconst (v := -1) K dX11_below_31 (by decide) ?_
  cases H
  obtain ⟨rfl, rfl⟩ := jfin2 D
  exact r_iret K dX11_below_32
set_option maxRecDepth 10000 in
theorem t_X11_below_81 {X : jX} {l : Launch} {n : Nat} {Y : jY} (K : jOK X RX11 cX11_below 6 (some .int) 3) (hl : X.2.1 = l) {rr : Int32} {μr : jM} {t0 : Int32} {μ : jM} {z : (Int32 × jM)} (H : b_X11_below_81 Y t0 μ = some z) (D : z = (rr, μr)) : JW X (jEnd X n Y (some (.int rr)) μr 0 0) 0 0 n Y 81 [] [.int t0] μ := by
  unfold b_X11_below_81 at H
  cases H
  obtain ⟨rfl, rfl⟩ := jfin2 D
  exact r_iret K dX11_below_81
set_option maxRecDepth 10000 in
theorem t_X11_below_0 {X : jX} {l : Launch} {n : Nat} {Y : jY} (K : jOK X RX11 cX11_below 6 (some .int) 3) (hl : X.2.1 = l) {rr : Int32} {μr : jM} {v0 : Nat} {v1 : Int32} {v2 : Int32} {v3 : Int32} {v4 : Int32} {μ : jM} {z : (Int32 × jM)} (H : f_X11_below Y v0 v1 v2 v3 v4 μ = some z) (D : z = (rr, μr)) : JW X (jEnd X n Y (some (.int rr)) μr 0 0) 0 0 n Y 0 [(0, .ref v0), (1, .int v1), (2, .int v2), (3, .int v3), (4, .int v4)] [] μ := by
  unfold f_X11_below at H
  refine r_iload_n K 1 dX11_below_0 rfl rfl ?_
  refine w_callS K hl H (fun r h => c_X11_isDrawer l h) mC_yX11_isDrawer mM_RX11_252 mT_yX11_isDrawer mZ_RX11 (Nat.le_of_ble_eq_true rfl) (Nat.le_of_ble_eq_true rfl) np_yX11_isDrawer rfl (Nat.le_of_ble_eq_true rfl) dX11_below_1 (fun r1 H => ?_) ⟨Nat.zero_le _, Nat.zero_le _⟩
  refine w_if_eq K 31 dX11_below_4 (by decide) H (fun _ H => ?_) (fun _ H => ?_)
  · exact r_sub [] rfl (t_X11_below_31 K hl H D)
  · refine r_iload_n K 3 dX11_below_7 rfl rfl ?_
    refine r_sipush (v := -1000) K dX11_below_8 (by decide) ?_
    refine r_sipush (v := 1000) K dX11_below_11 (by decide) ?_
    refine w_callS K hl H (fun r h => c_X11_within l h) mC_yX11_within mM_RX11_133 mT_yX11_within mZ_RX11 (Nat.le_of_ble_eq_true rfl) (Nat.le_of_ble_eq_true rfl) np_yX11_within rfl (Nat.le_of_ble_eq_true rfl) dX11_below_14 (fun r2 H => ?_) ⟨Nat.zero_le _, Nat.zero_le _⟩
    refine w_if_eq K 31 dX11_below_17 (by decide) H (fun _ H => ?_) (fun _ H => ?_)
    · exact r_sub [] rfl (t_X11_below_31 K hl H D)
    · refine r_iload K 4 dX11_below_20 rfl ?_
      refine r_iconst (v := 1) K dX11_below_22 (by decide) ?_
      refine r_bipush (v := 50) K dX11_below_23 (by decide) ?_
      refine w_callS K hl H (fun r h => c_X11_within l h) mC_yX11_within mM_RX11_133 mT_yX11_within mZ_RX11 (Nat.le_of_ble_eq_true rfl) (Nat.le_of_ble_eq_true rfl) np_yX11_within rfl (Nat.le_of_ble_eq_true rfl) dX11_below_25 (fun r3 H => ?_) ⟨Nat.zero_le _, Nat.zero_le _⟩
      refine w_if_ne K 33 dX11_below_28 (by decide) H (fun _ H => ?_) (fun _ H => ?_)
      · refine r_aload_n K 0 dX11_below_33 rfl rfl ?_
        refine w_getO K vc11 inX11 3 (by decide) mF_RX11_35 dX11_below_34 H (fun x4 H => ?_)
        refine w_getO K vc3 inX3 1 (by decide) mF_RX11_255 dX11_below_37 H (fun x5 H => ?_)
        refine r_iload_n K 1 dX11_below_40 rfl rfl ?_
        refine w_aald K 24 rfl rfl dX11_below_41 H (fun x6 H => ?_)
        refine r_astore K [(5, .ref _), (0, .ref _), (1, .int _), (2, .int _), (3, .int _), (4, .int _)] dX11_below_42 (by decide) rfl ?_
        refine r_aload K 0 dX11_below_44 rfl ?_
        refine w_getI K vc10 inX10 0 (by decide) mF_RX11_263 dX11_below_46 H (fun x7 H => ?_)
        refine w_if_ne K 55 dX11_below_49 (by decide) H (fun _ H => ?_) (fun _ H => ?_)
        · refine r_iload_n K 3 dX11_below_55 rfl rfl ?_
          refine r_iconst (v := 1) K dX11_below_56 (by decide) ?_
          refine r_aload K 0 dX11_below_57 rfl ?_
          refine w_getI K vc10 inX10 0 (by decide) mF_RX11_263 dX11_below_59 H (fun x8 H => ?_)
          refine w_callS K hl H (fun r h => c_X11_within l h) mC_yX11_within mM_RX11_133 mT_yX11_within mZ_RX11 (Nat.le_of_ble_eq_true rfl) (Nat.le_of_ble_eq_true rfl) np_yX11_within rfl (Nat.le_of_ble_eq_true rfl) dX11_below_62 (fun r9 H => ?_) ⟨Nat.zero_le _, Nat.zero_le _⟩
          refine w_if_eq K 80 dX11_below_65 (by decide) H (fun _ H => ?_) (fun _ H => ?_)
          · refine r_iconst (v := -1) K dX11_below_80 (by decide) ?_
            exact r_sub [] rfl (t_X11_below_81 K hl H D)
          · refine r_aload K 0 dX11_below_68 rfl ?_
            refine r_iload_n K 3 dX11_below_70 rfl rfl ?_
            refine r_iload_n K 4 dX11_below_71 rfl rfl ?_
            refine r_iload K 5 dX11_below_72 rfl ?_
            refine w_callV K hl H (fun r h => c_X10_rootsBelow l h) mC_yX10_rootsBelow mM_RX11_300 mI_yX10_rootsBelow mS_yX10_rootsBelow mZ_RX10 vc10 (Nat.le_of_ble_eq_true rfl) (Nat.le_of_ble_eq_true rfl) np_yX10_rootsBelow rfl (Nat.le_of_ble_eq_true rfl) dX11_below_74 (fun r10 H => ?_) ⟨Nat.zero_le _, Nat.zero_le _⟩
            refine r_goto K 81 dX11_below_77 (by decide) ?_
            exact r_sub [] rfl (t_X11_below_81 K hl H D)
        · refine r_bipush (v := -2) K dX11_below_52 (by decide) ?_
          cases H
          obtain ⟨rfl, rfl⟩ := jfin2 D
          exact r_iret K dX11_below_54
      · exact r_sub [] rfl (t_X11_below_31 K hl H D)
theorem c_X11_below (l : Launch) {n : Nat} {Y : jY} {v0 : Nat} {v1 : Int32} {v2 : Int32} {v3 : Int32} {v4 : Int32} {μ : jM} {z : Int32 × jM} (H : f_X11_below Y v0 v1 v2 v3 v4 μ = some z) : jC l yX11_below cX11_below 6 (some .int) 3 0 0 [.ref v0, .int v1, .int v2, .int v3, .int v4] n Y μ n Y (some (.int z.1)) z.2 := by
  refine jC_of (by decide +kernel) (Nat.le_of_ble_eq_true rfl) (fun X hl K _ _ _ => ?_)
  obtain ⟨rr, μr⟩ := z
  exact t_X11_below_0 K hl H rfl
/-! RX11 would(IZIII)J -/
def b_X11_would_55 (Y : jY) (μ : jM) : Option (Int64 × jM) :=
  some ((-9223372036854775808 : Int64), μ)
def f_X11_would (Y : jY) (v0 : Nat) (v1 : Int32) (v2 : Int32) (v3 : Int32) (v4 : Int32) (v5 : Int32) (μ : jM) : Option (Int64 × jM) :=
  (jrcv Y v0 11 (f_X11_isFilled Y v0 v1 μ)).bind fun r1 =>
  if r1.1 = 0 then
    b_X11_would_55 Y r1.2
  else
    (jgO Y r1.2 v0 11 3).bind fun x2 =>
    (jgO Y r1.2 x2 3 1).bind fun x3 =>
    (jaO Y r1.2 x3 24 v1).bind fun x4 =>
    (jrcv Y x4 10 (f_X10_hasNumber Y x4 v2 v3 r1.2)).bind fun r5 =>
    if r5.1 = 0 then
      b_X11_would_55 Y r5.2
    else
      (f_X10_canBe Y v2 v4 r5.2).bind fun r6 =>
      if r6.1 = 0 then
        b_X11_would_55 Y r6.2
      else
        (jgO Y r6.2 v0 11 3).bind fun x7 =>
        (jgO Y r6.2 x7 3 1).bind fun x8 =>
        (jaO Y r6.2 x8 24 v1).bind fun x9 =>
        (jgI Y r6.2 x9 10 0).bind fun x10 =>
        (f_X11_within Y v5 ((0 : Int32)) x10 r6.2).bind fun r11 =>
        if r11.1 = 0 then
          b_X11_would_55 Y r11.2
        else
          (jgO Y r11.2 v0 11 10).bind fun x12 =>
          (jgO Y r11.2 v0 11 3).bind fun x13 =>
          (jgO Y r11.2 x13 3 1).bind fun x14 =>
          (jaO Y r11.2 x14 24 v1).bind fun x15 =>
          (jrcv Y x12 10 (f_X10_copy Y x12 x15 r11.2)).bind fun μ16 =>
          (jgO Y μ16 v0 11 10).bind fun x17 =>
          (jrcv Y x17 10 (f_X10_setNumber Y x17 v2 v3 v4 μ16)).bind fun μ18 =>
          (jgO Y μ18 v0 11 9).bind fun x19 =>
          (jgO Y μ18 v0 11 10).bind fun x20 =>
          (jrcv Y x19 4 (f_X4_multiplyOut Y x19 x20 μ18)).bind fun μ21 =>
          (jgO Y μ21 v0 11 9).bind fun x22 =>
          (jgO Y μ21 x22 4 0).bind fun x23 =>
          (jgO Y μ21 v0 11 10).bind fun x24 =>
          (jgI Y μ21 x24 10 0).bind fun x25 =>
          (jaO Y μ21 x23 26 x25).bind fun x26 =>
          (jaL Y μ21 x26 21 v5).bind fun x27 =>
          some (x27, μ21)
set_option maxRecDepth 10000 in
theorem t_X11_would_55 {X : jX} {l : Launch} {n : Nat} {Y : jY} (K : jOK X RX11 cX11_would 6 (some .long) 4) (hl : X.2.1 = l) {rr : Int64} {μr : jM} {μ : jM} {z : (Int64 × jM)} (H : b_X11_would_55 Y μ = some z) (D : z = (rr, μr)) : JW X (jEnd X n Y (some (.long rr)) μr 0 0) 0 0 n Y 55 [] [] μ := by
  unfold b_X11_would_55 at H
  refine r_ldc2 K (-9223372036854775808) mc_RX11_151 dX11_would_55 ?_
  cases H
  obtain ⟨rfl, rfl⟩ := jfin2 D
  exact r_lret K dX11_would_58
set_option maxRecDepth 10000 in
theorem t_X11_would_0 {X : jX} {l : Launch} {n : Nat} {Y : jY} (K : jOK X RX11 cX11_would 6 (some .long) 4) (hl : X.2.1 = l) {rr : Int64} {μr : jM} {v0 : Nat} {v1 : Int32} {v2 : Int32} {v3 : Int32} {v4 : Int32} {v5 : Int32} {μ : jM} {z : (Int64 × jM)} (H : f_X11_would Y v0 v1 v2 v3 v4 v5 μ = some z) (D : z = (rr, μr)) : JW X (jEnd X n Y (some (.long rr)) μr 0 0) 0 0 n Y 0 [(0, .ref v0), (1, .int v1), (2, .int v2), (3, .int v3), (4, .int v4), (5, .int v5)] [] μ := by
  unfold f_X11_would at H
  refine r_aload_n K 0 dX11_would_0 rfl rfl ?_
  refine r_iload_n K 1 dX11_would_1 rfl rfl ?_
  refine w_callV K hl H (fun r h => c_X11_isFilled l h) mC_yX11_isFilled mM_RX11_285 mI_yX11_isFilled mS_yX11_isFilled mZ_RX11 vc11 (Nat.le_of_ble_eq_true rfl) (Nat.le_of_ble_eq_true rfl) np_yX11_isFilled rfl (Nat.le_of_ble_eq_true rfl) dX11_would_2 (fun r1 H => ?_) ⟨Nat.zero_le _, Nat.zero_le _⟩
  refine w_if_eq K 55 dX11_would_5 (by decide) H (fun _ H => ?_) (fun _ H => ?_)
  · exact r_sub [] rfl (t_X11_would_55 K hl H D)
  · refine r_aload_n K 0 dX11_would_8 rfl rfl ?_
    refine w_getO K vc11 inX11 3 (by decide) mF_RX11_35 dX11_would_9 H (fun x2 H => ?_)
    refine w_getO K vc3 inX3 1 (by decide) mF_RX11_255 dX11_would_12 H (fun x3 H => ?_)
    refine r_iload_n K 1 dX11_would_15 rfl rfl ?_
    refine w_aald K 24 rfl rfl dX11_would_16 H (fun x4 H => ?_)
    refine r_iload_n K 2 dX11_would_17 rfl rfl ?_
    refine r_iload_n K 3 dX11_would_18 rfl rfl ?_
    refine w_callV K hl H (fun r h => c_X10_hasNumber l h) mC_yX10_hasNumber mM_RX11_270 mI_yX10_hasNumber mS_yX10_hasNumber mZ_RX10 vc10 (Nat.le_of_ble_eq_true rfl) (Nat.le_of_ble_eq_true rfl) np_yX10_hasNumber rfl (Nat.le_of_ble_eq_true rfl) dX11_would_19 (fun r5 H => ?_) ⟨Nat.zero_le _, Nat.zero_le _⟩
    refine w_if_eq K 55 dX11_would_22 (by decide) H (fun _ H => ?_) (fun _ H => ?_)
    · exact r_sub [] rfl (t_X11_would_55 K hl H D)
    · refine r_iload_n K 2 dX11_would_25 rfl rfl ?_
      refine r_iload K 4 dX11_would_26 rfl ?_
      refine w_callS K hl H (fun r h => c_X10_canBe l h) mC_yX10_canBe mM_RX11_274 mT_yX10_canBe mZ_RX10 (Nat.le_of_ble_eq_true rfl) (Nat.le_of_ble_eq_true rfl) np_yX10_canBe rfl (Nat.le_of_ble_eq_true rfl) dX11_would_28 (fun r6 H => ?_) ⟨Nat.zero_le _, Nat.zero_le _⟩
      refine w_if_eq K 55 dX11_would_31 (by decide) H (fun _ H => ?_) (fun _ H => ?_)
      · exact r_sub [] rfl (t_X11_would_55 K hl H D)
      · refine r_iload K 5 dX11_would_34 rfl ?_
        refine r_iconst (v := 0) K dX11_would_36 (by decide) ?_
        refine r_aload_n K 0 dX11_would_37 rfl rfl ?_
        refine w_getO K vc11 inX11 3 (by decide) mF_RX11_35 dX11_would_38 H (fun x7 H => ?_)
        refine w_getO K vc3 inX3 1 (by decide) mF_RX11_255 dX11_would_41 H (fun x8 H => ?_)
        refine r_iload_n K 1 dX11_would_44 rfl rfl ?_
        refine w_aald K 24 rfl rfl dX11_would_45 H (fun x9 H => ?_)
        refine w_getI K vc10 inX10 0 (by decide) mF_RX11_263 dX11_would_46 H (fun x10 H => ?_)
        refine w_callS K hl H (fun r h => c_X11_within l h) mC_yX11_within mM_RX11_133 mT_yX11_within mZ_RX11 (Nat.le_of_ble_eq_true rfl) (Nat.le_of_ble_eq_true rfl) np_yX11_within rfl (Nat.le_of_ble_eq_true rfl) dX11_would_49 (fun r11 H => ?_) ⟨Nat.zero_le _, Nat.zero_le _⟩
        refine w_if_ne K 59 dX11_would_52 (by decide) H (fun _ H => ?_) (fun _ H => ?_)
        · refine r_aload_n K 0 dX11_would_59 rfl rfl ?_
          refine w_getO K vc11 inX11 10 (by decide) mF_RX11_80 dX11_would_60 H (fun x12 H => ?_)
          refine r_aload_n K 0 dX11_would_63 rfl rfl ?_
          refine w_getO K vc11 inX11 3 (by decide) mF_RX11_35 dX11_would_64 H (fun x13 H => ?_)
          refine w_getO K vc3 inX3 1 (by decide) mF_RX11_255 dX11_would_67 H (fun x14 H => ?_)
          refine r_iload_n K 1 dX11_would_70 rfl rfl ?_
          refine w_aald K 24 rfl rfl dX11_would_71 H (fun x15 H => ?_)
          refine w_callV K hl H (fun r h => c_X10_copy l h) mC_yX10_copy mM_RX11_337 mI_yX10_copy mS_yX10_copy mZ_RX10 vc10 (Nat.le_of_ble_eq_true rfl) (Nat.le_of_ble_eq_true rfl) np_yX10_copy rfl (Nat.le_of_ble_eq_true rfl) dX11_would_72 (fun μ16 H => ?_) ⟨Nat.zero_le _, Nat.zero_le _⟩
          refine r_aload_n K 0 dX11_would_75 rfl rfl ?_
          refine w_getO K vc11 inX11 10 (by decide) mF_RX11_80 dX11_would_76 H (fun x17 H => ?_)
          refine r_iload_n K 2 dX11_would_79 rfl rfl ?_
          refine r_iload_n K 3 dX11_would_80 rfl rfl ?_
          refine r_iload K 4 dX11_would_81 rfl ?_
          refine w_callV K hl H (fun r h => c_X10_setNumber l h) mC_yX10_setNumber mM_RX11_281 mI_yX10_setNumber mS_yX10_setNumber mZ_RX10 vc10 (Nat.le_of_ble_eq_true rfl) (Nat.le_of_ble_eq_true rfl) np_yX10_setNumber rfl (Nat.le_of_ble_eq_true rfl) dX11_would_83 (fun μ18 H => ?_) ⟨Nat.zero_le _, Nat.zero_le _⟩
          refine r_aload_n K 0 dX11_would_86 rfl rfl ?_
          refine w_getO K vc11 inX11 9 (by decide) mF_RX11_73 dX11_would_87 H (fun x19 H => ?_)
          refine r_aload_n K 0 dX11_would_90 rfl rfl ?_
          refine w_getO K vc11 inX11 10 (by decide) mF_RX11_80 dX11_would_91 H (fun x20 H => ?_)
          refine w_callV K hl H (fun r h => c_X4_multiplyOut l h) mC_yX4_multiplyOut mM_RX11_288 mI_yX4_multiplyOut mS_yX4_multiplyOut mZ_RX4 vc4 (Nat.le_of_ble_eq_true rfl) (Nat.le_of_ble_eq_true rfl) np_yX4_multiplyOut rfl (Nat.le_of_ble_eq_true rfl) dX11_would_94 (fun μ21 H => ?_) ⟨Nat.zero_le _, Nat.zero_le _⟩
          refine r_aload_n K 0 dX11_would_97 rfl rfl ?_
          refine w_getO K vc11 inX11 9 (by decide) mF_RX11_73 dX11_would_98 H (fun x22 H => ?_)
          refine w_getO K vc4 inX4 0 (by decide) mF_RX11_292 dX11_would_101 H (fun x23 H => ?_)
          refine r_aload_n K 0 dX11_would_104 rfl rfl ?_
          refine w_getO K vc11 inX11 10 (by decide) mF_RX11_80 dX11_would_105 H (fun x24 H => ?_)
          refine w_getI K vc10 inX10 0 (by decide) mF_RX11_263 dX11_would_108 H (fun x25 H => ?_)
          refine w_aald K 26 rfl rfl dX11_would_111 H (fun x26 H => ?_)
          refine r_iload K 5 dX11_would_112 rfl ?_
          refine w_lald K dX11_would_114 H (fun x27 H => ?_)
          cases H
          obtain ⟨rfl, rfl⟩ := jfin2 D
          exact r_lret K dX11_would_115
        · exact r_sub [] rfl (t_X11_would_55 K hl H D)
theorem c_X11_would (l : Launch) {n : Nat} {Y : jY} {v0 : Nat} {v1 : Int32} {v2 : Int32} {v3 : Int32} {v4 : Int32} {v5 : Int32} {μ : jM} {z : Int64 × jM} (H : f_X11_would Y v0 v1 v2 v3 v4 v5 μ = some z) : jC l yX11_would cX11_would 6 (some .long) 4 0 0 [.ref v0, .int v1, .int v2, .int v3, .int v4, .int v5] n Y μ n Y (some (.long z.1)) z.2 := by
  refine jC_of (by decide +kernel) (Nat.le_of_ble_eq_true rfl) (fun X hl K _ _ _ => ?_)
  obtain ⟨rr, μr⟩ := z
  exact t_X11_would_0 K hl H rfl
/-! RX11 nearest(II)I -/
def b_X11_nearest_17 (Y : jY) (μ : jM) : Option (Int32 × jM) :=
  some ((-1 : Int32), μ)
def b_X11_nearest_57 (Y : jY) (t0 : Int32) (μ : jM) : Option (Int32 × jM) :=
  some (t0, μ)
def f_X11_nearest (Y : jY) (v0 : Nat) (v1 : Int32) (v2 : Int32) (μ : jM) : Option (Int32 × jM) :=
  (f_X11_isDrawer Y v1 μ).bind fun r1 =>
  if r1.1 = 0 then
    b_X11_nearest_17 Y r1.2
  else
    (f_X11_within Y v2 ((1 : Int32)) ((50 : Int32)) r1.2).bind fun r2 =>
    if r2.1 = 0 then
      b_X11_nearest_17 Y r2.2
    else
      (jgO Y r2.2 v0 11 3).bind fun x3 =>
      (jgO Y r2.2 x3 3 1).bind fun x4 =>
      (jaO Y r2.2 x4 24 v1).bind fun x5 =>
      (jgI Y r2.2 x5 10 0).bind fun x6 =>
      if x6 = 0 then
        some ((-2 : Int32), r2.2)
      else
        (jgI Y r2.2 x5 10 0).bind fun x7 =>
        if x7 = ((1 : Int32)) then
          b_X11_nearest_57 Y (-3 : Int32) r2.2
        else
          (jrcv Y x5 10 (f_X10_leastStep Y x5 v2 r2.2)).bind fun r8 =>
          b_X11_nearest_57 Y r8.1 r8.2
set_option maxRecDepth 10000 in
theorem t_X11_nearest_17 {X : jX} {l : Launch} {n : Nat} {Y : jY} (K : jOK X RX11 cX11_nearest 4 (some .int) 5) (hl : X.2.1 = l) {rr : Int32} {μr : jM} {μ : jM} {z : (Int32 × jM)} (H : b_X11_nearest_17 Y μ = some z) (D : z = (rr, μr)) : JW X (jEnd X n Y (some (.int rr)) μr 0 0) 0 0 n Y 17 [] [] μ := by
  unfold b_X11_nearest_17 at H
  refine r_iconst (v := -1) K dX11_nearest_17 (by decide) ?_
  cases H
  obtain ⟨rfl, rfl⟩ := jfin2 D
  exact r_iret K dX11_nearest_18
set_option maxRecDepth 10000 in
theorem t_X11_nearest_57 {X : jX} {l : Launch} {n : Nat} {Y : jY} (K : jOK X RX11 cX11_nearest 4 (some .int) 5) (hl : X.2.1 = l) {rr : Int32} {μr : jM} {t0 : Int32} {μ : jM} {z : (Int32 × jM)} (H : b_X11_nearest_57 Y t0 μ = some z) (D : z = (rr, μr)) : JW X (jEnd X n Y (some (.int rr)) μr 0 0) 0 0 n Y 57 [] [.int t0] μ := by
  unfold b_X11_nearest_57 at H
  cases H
  obtain ⟨rfl, rfl⟩ := jfin2 D
  exact r_iret K dX11_nearest_57
set_option maxRecDepth 10000 in
theorem t_X11_nearest_0 {X : jX} {l : Launch} {n : Nat} {Y : jY} (K : jOK X RX11 cX11_nearest 4 (some .int) 5) (hl : X.2.1 = l) {rr : Int32} {μr : jM} {v0 : Nat} {v1 : Int32} {v2 : Int32} {μ : jM} {z : (Int32 × jM)} (H : f_X11_nearest Y v0 v1 v2 μ = some z) (D : z = (rr, μr)) : JW X (jEnd X n Y (some (.int rr)) μr 0 0) 0 0 n Y 0 [(0, .ref v0), (1, .int v1), (2, .int v2)] [] μ := by
  unfold f_X11_nearest at H
  refine r_iload_n K 1 dX11_nearest_0 rfl rfl ?_
  refine w_callS K hl H (fun r h => c_X11_isDrawer l h) mC_yX11_isDrawer mM_RX11_252 mT_yX11_isDrawer mZ_RX11 (Nat.le_of_ble_eq_true rfl) (Nat.le_of_ble_eq_true rfl) np_yX11_isDrawer rfl (Nat.le_of_ble_eq_true rfl) dX11_nearest_1 (fun r1 H => ?_) ⟨Nat.zero_le _, Nat.zero_le _⟩
  refine w_if_eq K 17 dX11_nearest_4 (by decide) H (fun _ H => ?_) (fun _ H => ?_)
  · exact r_sub [] rfl (t_X11_nearest_17 K hl H D)
  · refine r_iload_n K 2 dX11_nearest_7 rfl rfl ?_
    refine r_iconst (v := 1) K dX11_nearest_8 (by decide) ?_
    refine r_bipush (v := 50) K dX11_nearest_9 (by decide) ?_
    refine w_callS K hl H (fun r h => c_X11_within l h) mC_yX11_within mM_RX11_133 mT_yX11_within mZ_RX11 (Nat.le_of_ble_eq_true rfl) (Nat.le_of_ble_eq_true rfl) np_yX11_within rfl (Nat.le_of_ble_eq_true rfl) dX11_nearest_11 (fun r2 H => ?_) ⟨Nat.zero_le _, Nat.zero_le _⟩
    refine w_if_ne K 19 dX11_nearest_14 (by decide) H (fun _ H => ?_) (fun _ H => ?_)
    · refine r_aload_n K 0 dX11_nearest_19 rfl rfl ?_
      refine w_getO K vc11 inX11 3 (by decide) mF_RX11_35 dX11_nearest_20 H (fun x3 H => ?_)
      refine w_getO K vc3 inX3 1 (by decide) mF_RX11_255 dX11_nearest_23 H (fun x4 H => ?_)
      refine r_iload_n K 1 dX11_nearest_26 rfl rfl ?_
      refine w_aald K 24 rfl rfl dX11_nearest_27 H (fun x5 H => ?_)
      refine r_astore_n K [(3, .ref _), (0, .ref _), (1, .int _), (2, .int _)] dX11_nearest_28 rfl (by decide) rfl ?_
      refine r_aload_n K 0 dX11_nearest_29 rfl rfl ?_
      refine w_getI K vc10 inX10 0 (by decide) mF_RX11_263 dX11_nearest_30 H (fun x6 H => ?_)
      refine w_if_ne K 39 dX11_nearest_33 (by decide) H (fun _ H => ?_) (fun _ H => ?_)
      · refine r_aload_n K 0 dX11_nearest_39 rfl rfl ?_
        refine w_getI K vc10 inX10 0 (by decide) mF_RX11_263 dX11_nearest_40 H (fun x7 H => ?_)
        refine r_iconst (v := 1) K dX11_nearest_43 (by decide) ?_
        refine w_icmp_ne K 52 dX11_nearest_44 (by decide) H (fun _ H => ?_) (fun _ H => ?_)
        · refine r_aload_n K 0 dX11_nearest_52 rfl rfl ?_
          refine r_iload_n K 3 dX11_nearest_53 rfl rfl ?_
          refine w_callV K hl H (fun r h => c_X10_leastStep l h) mC_yX10_leastStep mM_RX11_361 mI_yX10_leastStep mS_yX10_leastStep mZ_RX10 vc10 (Nat.le_of_ble_eq_true rfl) (Nat.le_of_ble_eq_true rfl) np_yX10_leastStep rfl (Nat.le_of_ble_eq_true rfl) dX11_nearest_54 (fun r8 H => ?_) ⟨Nat.zero_le _, Nat.zero_le _⟩
          exact r_sub [] rfl (t_X11_nearest_57 K hl H D)
        · refine r_bipush (v := -3) K dX11_nearest_47 (by decide) ?_
          refine r_goto K 57 dX11_nearest_49 (by decide) ?_
          exact r_sub [] rfl (t_X11_nearest_57 K hl H D)
      · refine r_bipush (v := -2) K dX11_nearest_36 (by decide) ?_
        cases H
        obtain ⟨rfl, rfl⟩ := jfin2 D
        exact r_iret K dX11_nearest_38
    · exact r_sub [] rfl (t_X11_nearest_17 K hl H D)
theorem c_X11_nearest (l : Launch) {n : Nat} {Y : jY} {v0 : Nat} {v1 : Int32} {v2 : Int32} {μ : jM} {z : Int32 × jM} (H : f_X11_nearest Y v0 v1 v2 μ = some z) : jC l yX11_nearest cX11_nearest 4 (some .int) 5 0 0 [.ref v0, .int v1, .int v2] n Y μ n Y (some (.int z.1)) z.2 := by
  refine jC_of (by decide +kernel) (Nat.le_of_ble_eq_true rfl) (fun X hl K _ _ _ => ?_)
  obtain ⟨rr, μr⟩ := z
  exact t_X11_nearest_0 K hl H rfl
/-! RX11 draws(III)I -/
def b_X11_draws_16 (Y : jY) (μ : jM) : Option (Int32 × jM) :=
  some ((-1 : Int32), μ)
def f_X11_draws (Y : jY) (v0 : Nat) (v1 : Int32) (v2 : Int32) (v3 : Int32) (μ : jM) : Option (Int32 × jM) :=
  (f_X11_isDrawer Y v1 μ).bind fun r1 =>
  if r1.1 = 0 then
    b_X11_draws_16 Y r1.2
  else
    (f_X11_within Y v2 ((1 : Int32)) ((5 : Int32)) r1.2).bind fun r2 =>
    if r2.1 = 0 then
      b_X11_draws_16 Y r2.2
    else
      (jgO Y r2.2 v0 11 3).bind fun x3 =>
      (jgO Y r2.2 x3 3 1).bind fun x4 =>
      (jaO Y r2.2 x4 24 v1).bind fun x5 =>
      (jrcv Y x5 10 (f_X10_draw Y x5 v2 v3 r2.2)).bind fun r6 =>
      some (r6.1, r6.2)
set_option maxRecDepth 10000 in
theorem t_X11_draws_16 {X : jX} {l : Launch} {n : Nat} {Y : jY} (K : jOK X RX11 cX11_draws 4 (some .int) 3) (hl : X.2.1 = l) {rr : Int32} {μr : jM} {μ : jM} {z : (Int32 × jM)} (H : b_X11_draws_16 Y μ = some z) (D : z = (rr, μr)) : JW X (jEnd X n Y (some (.int rr)) μr 0 0) 0 0 n Y 16 [] [] μ := by
  unfold b_X11_draws_16 at H
  refine r_iconst (v := -1) K dX11_draws_16 (by decide) ?_
  cases H
  obtain ⟨rfl, rfl⟩ := jfin2 D
  exact r_iret K dX11_draws_17
set_option maxRecDepth 10000 in
theorem t_X11_draws_0 {X : jX} {l : Launch} {n : Nat} {Y : jY} (K : jOK X RX11 cX11_draws 4 (some .int) 3) (hl : X.2.1 = l) {rr : Int32} {μr : jM} {v0 : Nat} {v1 : Int32} {v2 : Int32} {v3 : Int32} {μ : jM} {z : (Int32 × jM)} (H : f_X11_draws Y v0 v1 v2 v3 μ = some z) (D : z = (rr, μr)) : JW X (jEnd X n Y (some (.int rr)) μr 0 0) 0 0 n Y 0 [(0, .ref v0), (1, .int v1), (2, .int v2), (3, .int v3)] [] μ := by
  unfold f_X11_draws at H
  refine r_iload_n K 1 dX11_draws_0 rfl rfl ?_
  refine w_callS K hl H (fun r h => c_X11_isDrawer l h) mC_yX11_isDrawer mM_RX11_252 mT_yX11_isDrawer mZ_RX11 (Nat.le_of_ble_eq_true rfl) (Nat.le_of_ble_eq_true rfl) np_yX11_isDrawer rfl (Nat.le_of_ble_eq_true rfl) dX11_draws_1 (fun r1 H => ?_) ⟨Nat.zero_le _, Nat.zero_le _⟩
  refine w_if_eq K 16 dX11_draws_4 (by decide) H (fun _ H => ?_) (fun _ H => ?_)
  · exact r_sub [] rfl (t_X11_draws_16 K hl H D)
  · refine r_iload_n K 2 dX11_draws_7 rfl rfl ?_
    refine r_iconst (v := 1) K dX11_draws_8 (by decide) ?_
    refine r_iconst (v := 5) K dX11_draws_9 (by decide) ?_
    refine w_callS K hl H (fun r h => c_X11_within l h) mC_yX11_within mM_RX11_133 mT_yX11_within mZ_RX11 (Nat.le_of_ble_eq_true rfl) (Nat.le_of_ble_eq_true rfl) np_yX11_within rfl (Nat.le_of_ble_eq_true rfl) dX11_draws_10 (fun r2 H => ?_) ⟨Nat.zero_le _, Nat.zero_le _⟩
    refine w_if_ne K 18 dX11_draws_13 (by decide) H (fun _ H => ?_) (fun _ H => ?_)
    · refine r_aload_n K 0 dX11_draws_18 rfl rfl ?_
      refine w_getO K vc11 inX11 3 (by decide) mF_RX11_35 dX11_draws_19 H (fun x3 H => ?_)
      refine w_getO K vc3 inX3 1 (by decide) mF_RX11_255 dX11_draws_22 H (fun x4 H => ?_)
      refine r_iload_n K 1 dX11_draws_25 rfl rfl ?_
      refine w_aald K 24 rfl rfl dX11_draws_26 H (fun x5 H => ?_)
      refine r_iload_n K 2 dX11_draws_27 rfl rfl ?_
      refine r_iload_n K 3 dX11_draws_28 rfl rfl ?_
      refine w_callV K hl H (fun r h => c_X10_draw l h) mC_yX10_draw mM_RX11_346 mI_yX10_draw mS_yX10_draw mZ_RX10 vc10 (Nat.le_of_ble_eq_true rfl) (Nat.le_of_ble_eq_true rfl) np_yX10_draw rfl (Nat.le_of_ble_eq_true rfl) dX11_draws_29 (fun r6 H => ?_) ⟨Nat.zero_le _, Nat.zero_le _⟩
      cases H
      obtain ⟨rfl, rfl⟩ := jfin2 D
      exact r_iret K dX11_draws_32
    · exact r_sub [] rfl (t_X11_draws_16 K hl H D)
theorem c_X11_draws (l : Launch) {n : Nat} {Y : jY} {v0 : Nat} {v1 : Int32} {v2 : Int32} {v3 : Int32} {μ : jM} {z : Int32 × jM} (H : f_X11_draws Y v0 v1 v2 v3 μ = some z) : jC l yX11_draws cX11_draws 4 (some .int) 3 0 0 [.ref v0, .int v1, .int v2, .int v3] n Y μ n Y (some (.int z.1)) z.2 := by
  refine jC_of (by decide +kernel) (Nat.le_of_ble_eq_true rfl) (fun X hl K _ _ _ => ?_)
  obtain ⟨rr, μr⟩ := z
  exact t_X11_draws_0 K hl H rfl
/-! RX11 unique()I -/
def f_X11_unique (Y : jY) (v0 : Nat) (μ : jM) : Option (Int32 × jM) :=
  (jrcv Y v0 11 (f_X11_countTables Y v0 ((4 : Int32)) ((0 : Int32)) μ)).bind fun r1 =>
  some (r1.1, r1.2)
set_option maxRecDepth 10000 in
theorem t_X11_unique_0 {X : jX} {l : Launch} {n : Nat} {Y : jY} (K : jOK X RX11 cX11_unique 1 (some .int) 7) (hl : X.2.1 = l) {rr : Int32} {μr : jM} {v0 : Nat} {μ : jM} {z : (Int32 × jM)} (H : f_X11_unique Y v0 μ = some z) (D : z = (rr, μr)) : JW X (jEnd X n Y (some (.int rr)) μr 0 0) 0 0 n Y 0 [(0, .ref v0)] [] μ := by
  unfold f_X11_unique at H
  refine r_aload_n K 0 dX11_unique_0 rfl rfl ?_
  refine r_iconst (v := 4) K dX11_unique_1 (by decide) ?_
  refine r_iconst (v := 0) K dX11_unique_2 (by decide) ?_
  refine w_callV K hl H (fun r h => c_X11_countTables l h) mC_yX11_countTables mM_RX11_364 mI_yX11_countTables mS_yX11_countTables mZ_RX11 vc11 (Nat.le_of_ble_eq_true rfl) (Nat.le_of_ble_eq_true rfl) np_yX11_countTables rfl (Nat.le_of_ble_eq_true rfl) dX11_unique_3 (fun r1 H => ?_) ⟨Nat.zero_le _, Nat.zero_le _⟩
  cases H
  obtain ⟨rfl, rfl⟩ := jfin2 D
  exact r_iret K dX11_unique_6
theorem c_X11_unique (l : Launch) {n : Nat} {Y : jY} {v0 : Nat} {μ : jM} {z : Int32 × jM} (H : f_X11_unique Y v0 μ = some z) : jC l yX11_unique cX11_unique 1 (some .int) 7 0 0 [.ref v0] n Y μ n Y (some (.int z.1)) z.2 := by
  refine jC_of (by decide +kernel) (Nat.le_of_ble_eq_true rfl) (fun X hl K _ _ _ => ?_)
  obtain ⟨rr, μr⟩ := z
  exact t_X11_unique_0 K hl H rfl
/-! RX11 census(II)I -/
def b_X11_census_20 (Y : jY) (μ : jM) : Option (Int32 × jM) :=
  some ((-1 : Int32), μ)
def b_X11_census_132 (Y : jY) (v0 : Nat) (v1 : Int32) (v2 : Int32) (v3 : Int32) (v4 : Int32) (μ : jM) : Option ((Int32 × Int32 × jM) ⊕ (Int32 × jM)) :=
  some (.inl (v3, (v4 + (1 : Int32)), μ))
def b_X11_census_126 (Y : jY) (v0 : Nat) (v1 : Int32) (v2 : Int32) (v3 : Int32) (v4 : Int32) (v5 : Int32) (μ : jM) : Option ((Int32 × Int32 × jM) ⊕ ((Int32 × Int32 × jM) ⊕ (Int32 × jM))) :=
  some (.inl (v3, (v5 + (1 : Int32)), μ))
def b_X11_census_117 (Y : jY) (v0 : Nat) (v1 : Int32) (v2 : Int32) (v3 : Int32) (v4 : Int32) (v5 : Int32) (t0 : Nat) (t1 : Int32) (μ : jM) : Option ((Int32 × Int32 × jM) ⊕ ((Int32 × Int32 × jM) ⊕ (Int32 × jM))) :=
  (jrcv Y t0 10 (f_X10_meets Y t0 t1 μ)).bind fun r1 =>
  if r1.1 = 0 then
    b_X11_census_126 Y v0 v1 v2 v3 v4 v5 r1.2
  else
    b_X11_census_126 Y v0 v1 v2 (v3 + (1 : Int32)) v4 v5 r1.2
def b_X11_census_84 (Y : jY) (v0 : Nat) (v1 : Int32) (v2 : Int32) (v3 : Int32) (v4 : Int32) (v5 : Int32) (μ : jM) : Option ((Int32 × Int32 × jM) ⊕ ((Int32 × Int32 × jM) ⊕ (Int32 × jM))) :=
  if ((36 : Int32)) < v5 then
    (b_X11_census_132 Y v0 v1 v2 v3 v4 μ).map (fun r => (.inr r))
  else
    (jgO Y μ v0 11 10).bind fun x1 =>
    (jgO Y μ x1 10 2).bind fun x2 =>
    (jas Y μ x2 20 ((0 : Int32)) (.int v5)).bind fun μ3 =>
    (jgO Y μ3 v0 11 10).bind fun x4 =>
    if v2 = 0 then
      b_X11_census_117 Y v0 v1 v2 v3 v4 v5 x4 (0 : Int32) μ3
    else
      b_X11_census_117 Y v0 v1 v2 v3 v4 v5 x4 (((3 : Int32)) - v2) μ3
def b_X11_census_36 (Y : jY) (v0 : Nat) (v1 : Int32) (v2 : Int32) (v3 : Int32) (v4 : Int32) (μ : jM) : Option ((Int32 × Int32 × jM) ⊕ (Int32 × jM)) :=
  if ((6 : Int32)) < v4 then
    some (.inr (v3, μ))
  else
    (f_X10_canBe Y ((1 : Int32)) ((v1 - v4)) μ).bind fun r1 =>
    if r1.1 = 0 then
      b_X11_census_132 Y v0 v1 v2 v3 v4 r1.2
    else
      (jgO Y r1.2 v0 11 10).bind fun x2 =>
      (jgO Y r1.2 x2 10 1).bind fun x3 =>
      (jas Y r1.2 x3 20 ((0 : Int32)) (.int v4)).bind fun μ4 =>
      (jgO Y μ4 v0 11 10).bind fun x5 =>
      (jgO Y μ4 x5 10 1).bind fun x6 =>
      (jas Y μ4 x6 20 ((1 : Int32)) (.int ((v1 - v4)))).bind fun μ7 =>
      jit jF (fun (s : Int32 × Int32 × jM) => b_X11_census_84 Y v0 v1 v2 s.1 v4 s.2.1 s.2.2) (v3, (1 : Int32), μ7)
def f_X11_census (Y : jY) (v0 : Nat) (v1 : Int32) (v2 : Int32) (μ : jM) : Option (Int32 × jM) :=
  (f_X11_within Y v1 ((-12 : Int32)) ((12 : Int32)) μ).bind fun r1 =>
  if r1.1 = 0 then
    b_X11_census_20 Y r1.2
  else
    (f_X11_within Y v2 ((0 : Int32)) ((2 : Int32)) r1.2).bind fun r2 =>
    if r2.1 = 0 then
      b_X11_census_20 Y r2.2
    else
      (jgO Y r2.2 v0 11 10).bind fun x3 =>
      (jrcv Y x3 10 (f_X10_begin Y x3 ((2 : Int32)) r2.2)).bind fun μ4 =>
      jit jF (fun (s : Int32 × Int32 × jM) => b_X11_census_36 Y v0 v1 v2 s.1 s.2.1 s.2.2) ((0 : Int32), (-6 : Int32), μ4)
set_option maxRecDepth 10000 in
theorem t_X11_census_20 {X : jX} {l : Launch} {n : Nat} {Y : jY} (K : jOK X RX11 cX11_census 6 (some .int) 6) (hl : X.2.1 = l) {rr : Int32} {μr : jM} {μ : jM} {z : (Int32 × jM)} (H : b_X11_census_20 Y μ = some z) (D : z = (rr, μr)) : JW X (jEnd X n Y (some (.int rr)) μr 0 0) 0 0 n Y 20 [] [] μ := by
  unfold b_X11_census_20 at H
  refine r_iconst (v := -1) K dX11_census_20 (by decide) ?_
  cases H
  obtain ⟨rfl, rfl⟩ := jfin2 D
  exact r_iret K dX11_census_21
set_option maxRecDepth 10000 in
theorem t_X11_census_132 {X : jX} {l : Launch} {n : Nat} {Y : jY} (K : jOK X RX11 cX11_census 6 (some .int) 6) (hl : X.2.1 = l) {rr : Int32} {μr : jM} {v0 : Nat} {v1 : Int32} {v2 : Int32} {v3 : Int32} {v4 : Int32} {μ : jM} {z : ((Int32 × Int32 × jM) ⊕ (Int32 × jM))} (H : b_X11_census_132 Y v0 v1 v2 v3 v4 μ = some z) (D : Sum.elim (fun (s : Int32 × Int32 × jM) => JW X (jEnd X n Y (some (.int rr)) μr 0 0) 0 0 n Y 36 [(0, .ref v0), (1, .int v1), (2, .int v2), (3, .int s.1), (4, .int s.2.1)] [] s.2.2) (fun r => r = (rr, μr)) z) : JW X (jEnd X n Y (some (.int rr)) μr 0 0) 0 0 n Y 132 [(0, .ref v0), (1, .int v1), (2, .int v2), (3, .int v3), (4, .int v4)] [] μ := by
  unfold b_X11_census_132 at H
  refine r_iinc K 4 [(4, .int _), (0, .ref _), (1, .int _), (2, .int _), (3, .int _)] (v := _ + (1 : Int32)) dX11_census_132 rfl rfl (by decide) rfl ?_
  refine r_goto K 36 dX11_census_135 (by decide) ?_
  cases H
  exact r_sub [1, 2, 3, 4, 0] rfl D
set_option maxRecDepth 10000 in
theorem t_X11_census_126 {X : jX} {l : Launch} {n : Nat} {Y : jY} (K : jOK X RX11 cX11_census 6 (some .int) 6) (hl : X.2.1 = l) {rr : Int32} {μr : jM} {v0 : Nat} {v1 : Int32} {v2 : Int32} {v3 : Int32} {v4 : Int32} {v5 : Int32} {μ : jM} {z : ((Int32 × Int32 × jM) ⊕ ((Int32 × Int32 × jM) ⊕ (Int32 × jM)))} (H : b_X11_census_126 Y v0 v1 v2 v3 v4 v5 μ = some z) (D : Sum.elim (fun (s : Int32 × Int32 × jM) => JW X (jEnd X n Y (some (.int rr)) μr 0 0) 0 0 n Y 84 [(0, .ref v0), (1, .int v1), (2, .int v2), (3, .int s.1), (4, .int v4), (5, .int s.2.1)] [] s.2.2) (Sum.elim (fun (s : Int32 × Int32 × jM) => JW X (jEnd X n Y (some (.int rr)) μr 0 0) 0 0 n Y 36 [(0, .ref v0), (1, .int v1), (2, .int v2), (3, .int s.1), (4, .int s.2.1)] [] s.2.2) (fun r => r = (rr, μr))) z) : JW X (jEnd X n Y (some (.int rr)) μr 0 0) 0 0 n Y 126 [(0, .ref v0), (1, .int v1), (2, .int v2), (3, .int v3), (4, .int v4), (5, .int v5)] [] μ := by
  unfold b_X11_census_126 at H
  refine r_iinc K 5 [(5, .int _), (0, .ref _), (1, .int _), (2, .int _), (3, .int _), (4, .int _)] (v := _ + (1 : Int32)) dX11_census_126 rfl rfl (by decide) rfl ?_
  refine r_goto K 84 dX11_census_129 (by decide) ?_
  cases H
  exact r_sub [1, 2, 3, 4, 5, 0] rfl D
set_option maxRecDepth 10000 in
theorem t_X11_census_117 {X : jX} {l : Launch} {n : Nat} {Y : jY} (K : jOK X RX11 cX11_census 6 (some .int) 6) (hl : X.2.1 = l) {rr : Int32} {μr : jM} {v0 : Nat} {v1 : Int32} {v2 : Int32} {v3 : Int32} {v4 : Int32} {v5 : Int32} {t0 : Nat} {t1 : Int32} {μ : jM} {z : ((Int32 × Int32 × jM) ⊕ ((Int32 × Int32 × jM) ⊕ (Int32 × jM)))} (H : b_X11_census_117 Y v0 v1 v2 v3 v4 v5 t0 t1 μ = some z) (D : Sum.elim (fun (s : Int32 × Int32 × jM) => JW X (jEnd X n Y (some (.int rr)) μr 0 0) 0 0 n Y 84 [(0, .ref v0), (1, .int v1), (2, .int v2), (3, .int s.1), (4, .int v4), (5, .int s.2.1)] [] s.2.2) (Sum.elim (fun (s : Int32 × Int32 × jM) => JW X (jEnd X n Y (some (.int rr)) μr 0 0) 0 0 n Y 36 [(0, .ref v0), (1, .int v1), (2, .int v2), (3, .int s.1), (4, .int s.2.1)] [] s.2.2) (fun r => r = (rr, μr))) z) : JW X (jEnd X n Y (some (.int rr)) μr 0 0) 0 0 n Y 117 [(0, .ref v0), (1, .int v1), (2, .int v2), (3, .int v3), (4, .int v4), (5, .int v5)] [.int t1, .ref t0] μ := by
  unfold b_X11_census_117 at H
  refine w_callV K hl H (fun r h => c_X10_meets l h) mC_yX10_meets mM_RX11_354 mI_yX10_meets mS_yX10_meets mZ_RX10 vc10 (Nat.le_of_ble_eq_true rfl) (Nat.le_of_ble_eq_true rfl) np_yX10_meets rfl (Nat.le_of_ble_eq_true rfl) dX11_census_117 (fun r1 H => ?_) ⟨Nat.zero_le _, Nat.zero_le _⟩
  refine w_if_eq K 126 dX11_census_120 (by decide) H (fun _ H => ?_) (fun _ H => ?_)
  · exact r_sub [0, 1, 2, 3, 4, 5] rfl (t_X11_census_126 K hl H D)
  · refine r_iinc K 3 [(3, .int _), (0, .ref _), (1, .int _), (2, .int _), (4, .int _), (5, .int _)] (v := _ + (1 : Int32)) dX11_census_123 rfl rfl (by decide) rfl ?_
    exact r_sub [1, 2, 3, 0, 4, 5] rfl (t_X11_census_126 K hl H D)
set_option maxRecDepth 10000 in
theorem t_X11_census_84 {X : jX} {l : Launch} {n : Nat} {Y : jY} (K : jOK X RX11 cX11_census 6 (some .int) 6) (hl : X.2.1 = l) {rr : Int32} {μr : jM} {v0 : Nat} {v1 : Int32} {v2 : Int32} {v3 : Int32} {v4 : Int32} {v5 : Int32} {μ : jM} {z : ((Int32 × Int32 × jM) ⊕ ((Int32 × Int32 × jM) ⊕ (Int32 × jM)))} (H : b_X11_census_84 Y v0 v1 v2 v3 v4 v5 μ = some z) (D : Sum.elim (fun (s : Int32 × Int32 × jM) => JW X (jEnd X n Y (some (.int rr)) μr 0 0) 0 0 n Y 84 [(0, .ref v0), (1, .int v1), (2, .int v2), (3, .int s.1), (4, .int v4), (5, .int s.2.1)] [] s.2.2) (Sum.elim (fun (s : Int32 × Int32 × jM) => JW X (jEnd X n Y (some (.int rr)) μr 0 0) 0 0 n Y 36 [(0, .ref v0), (1, .int v1), (2, .int v2), (3, .int s.1), (4, .int s.2.1)] [] s.2.2) (fun r => r = (rr, μr))) z) : JW X (jEnd X n Y (some (.int rr)) μr 0 0) 0 0 n Y 84 [(0, .ref v0), (1, .int v1), (2, .int v2), (3, .int v3), (4, .int v4), (5, .int v5)] [] μ := by
  unfold b_X11_census_84 at H
  refine r_iload K 5 dX11_census_84 rfl ?_
  refine r_bipush (v := 36) K dX11_census_86 (by decide) ?_
  refine w_icmp_gt K 132 dX11_census_88 (by decide) H (fun _ H => ?_) (fun _ H => ?_)
  · obtain ⟨z2, H2, rfl⟩ := jmap H
    exact r_sub [0, 1, 2, 3, 4] rfl (t_X11_census_132 K hl H2 D)
  · refine r_aload_n K 0 dX11_census_91 rfl rfl ?_
    refine w_getO K vc11 inX11 10 (by decide) mF_RX11_80 dX11_census_92 H (fun x1 H => ?_)
    refine w_getO K vc10 inX10 2 (by decide) mF_RX11_268 dX11_census_95 H (fun x2 H => ?_)
    refine r_iconst (v := 0) K dX11_census_98 (by decide) ?_
    refine r_iload K 5 dX11_census_99 rfl ?_
    refine w_iast K dX11_census_101 H (fun μ3 H => ?_)
    refine r_aload_n K 0 dX11_census_102 rfl rfl ?_
    refine w_getO K vc11 inX11 10 (by decide) mF_RX11_80 dX11_census_103 H (fun x4 H => ?_)
    refine r_iload_n K 2 dX11_census_106 rfl rfl ?_
    refine w_if_ne K 114 dX11_census_107 (by decide) H (fun _ H => ?_) (fun _ H => ?_)
    · refine r_iconst (v := 3) K dX11_census_114 (by decide) ?_
      refine r_iload_n K 2 dX11_census_115 rfl rfl ?_
      refine r_isub K dX11_census_116 ?_
      exact r_sub [0, 1, 2, 3, 4, 5] rfl (t_X11_census_117 K hl H D)
    · refine r_iconst (v := 0) K dX11_census_110 (by decide) ?_
      refine r_goto K 117 dX11_census_111 (by decide) ?_
      exact r_sub [0, 1, 2, 3, 4, 5] rfl (t_X11_census_117 K hl H D)
set_option maxRecDepth 10000 in
theorem l_X11_census_84 {X : jX} {l : Launch} {n : Nat} {Y : jY} (K : jOK X RX11 cX11_census 6 (some .int) 6) (hl : X.2.1 = l) {rr : Int32} {μr : jM} {v0 : Nat} {v1 : Int32} {v2 : Int32} {v4 : Int32}  {s0 : Int32 × Int32 × jM} {z : ((Int32 × Int32 × jM) ⊕ (Int32 × jM))} (H : jit jF (fun (s : Int32 × Int32 × jM) => b_X11_census_84 Y v0 v1 v2 s.1 v4 s.2.1 s.2.2) s0 = some z) (D : Sum.elim (fun (s : Int32 × Int32 × jM) => JW X (jEnd X n Y (some (.int rr)) μr 0 0) 0 0 n Y 36 [(0, .ref v0), (1, .int v1), (2, .int v2), (3, .int s.1), (4, .int s.2.1)] [] s.2.2) (fun r => r = (rr, μr)) z) : JW X (jEnd X n Y (some (.int rr)) μr 0 0) 0 0 n Y 84 [(0, .ref v0), (1, .int v1), (2, .int v2), (3, .int s0.1), (4, .int v4), (5, .int s0.2.1)] [] s0.2.2 :=
  jit_ind (P := fun (s : Int32 × Int32 × jM) => JW X (jEnd X n Y (some (.int rr)) μr 0 0) 0 0 n Y 84 [(0, .ref v0), (1, .int v1), (2, .int v2), (3, .int s.1), (4, .int v4), (5, .int s.2.1)] [] s.2.2) (D := Sum.elim (fun (s : Int32 × Int32 × jM) => JW X (jEnd X n Y (some (.int rr)) μr 0 0) 0 0 n Y 36 [(0, .ref v0), (1, .int v1), (2, .int v2), (3, .int s.1), (4, .int s.2.1)] [] s.2.2) (fun r => r = (rr, μr))) (fun s z Hs Ds => t_X11_census_84 K hl Hs Ds) jF s0 z H D
set_option maxRecDepth 10000 in
theorem t_X11_census_36 {X : jX} {l : Launch} {n : Nat} {Y : jY} (K : jOK X RX11 cX11_census 6 (some .int) 6) (hl : X.2.1 = l) {rr : Int32} {μr : jM} {v0 : Nat} {v1 : Int32} {v2 : Int32} {v3 : Int32} {v4 : Int32} {μ : jM} {z : ((Int32 × Int32 × jM) ⊕ (Int32 × jM))} (H : b_X11_census_36 Y v0 v1 v2 v3 v4 μ = some z) (D : Sum.elim (fun (s : Int32 × Int32 × jM) => JW X (jEnd X n Y (some (.int rr)) μr 0 0) 0 0 n Y 36 [(0, .ref v0), (1, .int v1), (2, .int v2), (3, .int s.1), (4, .int s.2.1)] [] s.2.2) (fun r => r = (rr, μr)) z) : JW X (jEnd X n Y (some (.int rr)) μr 0 0) 0 0 n Y 36 [(0, .ref v0), (1, .int v1), (2, .int v2), (3, .int v3), (4, .int v4)] [] μ := by
  unfold b_X11_census_36 at H
  refine r_iload K 4 dX11_census_36 rfl ?_
  refine r_bipush (v := 6) K dX11_census_38 (by decide) ?_
  refine w_icmp_gt K 138 dX11_census_40 (by decide) H (fun _ H => ?_) (fun _ H => ?_)
  · refine r_iload_n K 3 dX11_census_138 rfl rfl ?_
    cases H
    simp only [Sum.elim_inr] at D
    obtain ⟨rfl, rfl⟩ := jfin2 D
    exact r_iret K dX11_census_139
  · refine r_iconst (v := 1) K dX11_census_43 (by decide) ?_
    refine r_iload_n K 1 dX11_census_44 rfl rfl ?_
    refine r_iload K 4 dX11_census_45 rfl ?_
    refine r_isub K dX11_census_47 ?_
    refine w_callS K hl H (fun r h => c_X10_canBe l h) mC_yX10_canBe mM_RX11_274 mT_yX10_canBe mZ_RX10 (Nat.le_of_ble_eq_true rfl) (Nat.le_of_ble_eq_true rfl) np_yX10_canBe rfl (Nat.le_of_ble_eq_true rfl) dX11_census_48 (fun r1 H => ?_) ⟨Nat.zero_le _, Nat.zero_le _⟩
    refine w_if_ne K 57 dX11_census_51 (by decide) H (fun _ H => ?_) (fun _ H => ?_)
    · refine r_aload_n K 0 dX11_census_57 rfl rfl ?_
      refine w_getO K vc11 inX11 10 (by decide) mF_RX11_80 dX11_census_58 H (fun x2 H => ?_)
      refine w_getO K vc10 inX10 1 (by decide) mF_RX11_266 dX11_census_61 H (fun x3 H => ?_)
      refine r_iconst (v := 0) K dX11_census_64 (by decide) ?_
      refine r_iload K 4 dX11_census_65 rfl ?_
      refine w_iast K dX11_census_67 H (fun μ4 H => ?_)
      refine r_aload_n K 0 dX11_census_68 rfl rfl ?_
      refine w_getO K vc11 inX11 10 (by decide) mF_RX11_80 dX11_census_69 H (fun x5 H => ?_)
      refine w_getO K vc10 inX10 1 (by decide) mF_RX11_266 dX11_census_72 H (fun x6 H => ?_)
      refine r_iconst (v := 1) K dX11_census_75 (by decide) ?_
      refine r_iload_n K 1 dX11_census_76 rfl rfl ?_
      refine r_iload K 4 dX11_census_77 rfl ?_
      refine r_isub K dX11_census_79 ?_
      refine w_iast K dX11_census_80 H (fun μ7 H => ?_)
      refine r_iconst (v := 1) K dX11_census_81 (by decide) ?_
      refine r_istore K [(5, .int _), (0, .ref _), (1, .int _), (2, .int _), (3, .int _), (4, .int _)] dX11_census_82 (by decide) rfl ?_
      exact r_sub [1, 2, 3, 4, 5, 0] rfl (l_X11_census_84 K hl H D)
    · refine r_goto K 132 dX11_census_54 (by decide) ?_
      exact r_sub [0, 1, 2, 3, 4] rfl (t_X11_census_132 K hl H D)
set_option maxRecDepth 10000 in
theorem l_X11_census_36 {X : jX} {l : Launch} {n : Nat} {Y : jY} (K : jOK X RX11 cX11_census 6 (some .int) 6) (hl : X.2.1 = l) {rr : Int32} {μr : jM} {v0 : Nat} {v1 : Int32} {v2 : Int32}  {s0 : Int32 × Int32 × jM} {z : (Int32 × jM)} (H : jit jF (fun (s : Int32 × Int32 × jM) => b_X11_census_36 Y v0 v1 v2 s.1 s.2.1 s.2.2) s0 = some z) (D : z = (rr, μr)) : JW X (jEnd X n Y (some (.int rr)) μr 0 0) 0 0 n Y 36 [(0, .ref v0), (1, .int v1), (2, .int v2), (3, .int s0.1), (4, .int s0.2.1)] [] s0.2.2 :=
  jit_ind (P := fun (s : Int32 × Int32 × jM) => JW X (jEnd X n Y (some (.int rr)) μr 0 0) 0 0 n Y 36 [(0, .ref v0), (1, .int v1), (2, .int v2), (3, .int s.1), (4, .int s.2.1)] [] s.2.2) (D := fun r => r = (rr, μr)) (fun s z Hs Ds => t_X11_census_36 K hl Hs Ds) jF s0 z H D
set_option maxRecDepth 10000 in
theorem t_X11_census_0 {X : jX} {l : Launch} {n : Nat} {Y : jY} (K : jOK X RX11 cX11_census 6 (some .int) 6) (hl : X.2.1 = l) {rr : Int32} {μr : jM} {v0 : Nat} {v1 : Int32} {v2 : Int32} {μ : jM} {z : (Int32 × jM)} (H : f_X11_census Y v0 v1 v2 μ = some z) (D : z = (rr, μr)) : JW X (jEnd X n Y (some (.int rr)) μr 0 0) 0 0 n Y 0 [(0, .ref v0), (1, .int v1), (2, .int v2)] [] μ := by
  unfold f_X11_census at H
  refine r_iload_n K 1 dX11_census_0 rfl rfl ?_
  refine r_bipush (v := -12) K dX11_census_1 (by decide) ?_
  refine r_bipush (v := 12) K dX11_census_3 (by decide) ?_
  refine w_callS K hl H (fun r h => c_X11_within l h) mC_yX11_within mM_RX11_133 mT_yX11_within mZ_RX11 (Nat.le_of_ble_eq_true rfl) (Nat.le_of_ble_eq_true rfl) np_yX11_within rfl (Nat.le_of_ble_eq_true rfl) dX11_census_5 (fun r1 H => ?_) ⟨Nat.zero_le _, Nat.zero_le _⟩
  refine w_if_eq K 20 dX11_census_8 (by decide) H (fun _ H => ?_) (fun _ H => ?_)
  · exact r_sub [] rfl (t_X11_census_20 K hl H D)
  · refine r_iload_n K 2 dX11_census_11 rfl rfl ?_
    refine r_iconst (v := 0) K dX11_census_12 (by decide) ?_
    refine r_iconst (v := 2) K dX11_census_13 (by decide) ?_
    refine w_callS K hl H (fun r h => c_X11_within l h) mC_yX11_within mM_RX11_133 mT_yX11_within mZ_RX11 (Nat.le_of_ble_eq_true rfl) (Nat.le_of_ble_eq_true rfl) np_yX11_within rfl (Nat.le_of_ble_eq_true rfl) dX11_census_14 (fun r2 H => ?_) ⟨Nat.zero_le _, Nat.zero_le _⟩
    refine w_if_ne K 22 dX11_census_17 (by decide) H (fun _ H => ?_) (fun _ H => ?_)
    · refine r_iconst (v := 0) K dX11_census_22 (by decide) ?_
      refine r_istore_n K [(3, .int _), (0, .ref _), (1, .int _), (2, .int _)] dX11_census_23 rfl (by decide) rfl ?_
      refine r_aload_n K 1 dX11_census_24 rfl rfl ?_
      refine w_getO K vc11 inX11 10 (by decide) mF_RX11_80 dX11_census_25 H (fun x3 H => ?_)
      refine r_iconst (v := 2) K dX11_census_28 (by decide) ?_
      refine w_callV K hl H (fun r h => c_X10_begin l h) mC_yX10_begin mM_RX11_259 mI_yX10_begin mS_yX10_begin mZ_RX10 vc10 (Nat.le_of_ble_eq_true rfl) (Nat.le_of_ble_eq_true rfl) np_yX10_begin rfl (Nat.le_of_ble_eq_true rfl) dX11_census_29 (fun μ4 H => ?_) ⟨Nat.zero_le _, Nat.zero_le _⟩
      refine r_bipush (v := -6) K dX11_census_32 (by decide) ?_
      refine r_istore K [(4, .int _), (3, .int _), (0, .ref _), (1, .int _), (2, .int _)] dX11_census_34 (by decide) rfl ?_
      exact r_sub [2, 3, 4, 1, 0] rfl (l_X11_census_36 K hl H D)
    · exact r_sub [] rfl (t_X11_census_20 K hl H D)
theorem c_X11_census (l : Launch) {n : Nat} {Y : jY} {v0 : Nat} {v1 : Int32} {v2 : Int32} {μ : jM} {z : Int32 × jM} (H : f_X11_census Y v0 v1 v2 μ = some z) : jC l yX11_census cX11_census 6 (some .int) 6 0 0 [.ref v0, .int v1, .int v2] n Y μ n Y (some (.int z.1)) z.2 := by
  refine jC_of (by decide +kernel) (Nat.le_of_ble_eq_true rfl) (fun X hl K _ _ _ => ?_)
  obtain ⟨rr, μr⟩ := z
  exact t_X11_census_0 K hl H rfl
/-! RX11 determinant(II)J -/
def b_X11_determinant_25 (Y : jY) (μ : jM) : Option (Int64 × jM) :=
  some ((-9223372036854775808 : Int64), μ)
def f_X11_determinant (Y : jY) (v0 : Nat) (v1 : Int32) (v2 : Int32) (μ : jM) : Option (Int64 × jM) :=
  (jrcv Y v0 11 (f_X11_hasTones Y v0 μ)).bind fun r1 =>
  if r1.1 = 0 then
    b_X11_determinant_25 Y r1.2
  else
    (f_X11_within Y v1 ((0 : Int32)) ((4 : Int32)) r1.2).bind fun r2 =>
    if r2.1 = 0 then
      b_X11_determinant_25 Y r2.2
    else
      (f_X11_within Y v2 ((0 : Int32)) ((1 : Int32)) r2.2).bind fun r3 =>
      if r3.1 = 0 then
        b_X11_determinant_25 Y r3.2
      else
        (jgO Y r3.2 v0 11 6).bind fun x4 =>
        (jgO Y r3.2 v0 11 3).bind fun x5 =>
        (jgO Y r3.2 x5 3 0).bind fun x6 =>
        (jrcv Y x4 7 (f_X7_rebuild Y x4 x6 r3.2)).bind fun μ7 =>
        (jgO Y μ7 v0 11 6).bind fun x8 =>
        (jrcv Y x8 7 (f_X7_momentTable Y x8 v1 v2 μ7)).bind fun r9 =>
        some (r9.1, r9.2)
set_option maxRecDepth 10000 in
theorem t_X11_determinant_25 {X : jX} {l : Launch} {n : Nat} {Y : jY} (K : jOK X RX11 cX11_determinant 3 (some .long) 11) (hl : X.2.1 = l) {rr : Int64} {μr : jM} {μ : jM} {z : (Int64 × jM)} (H : b_X11_determinant_25 Y μ = some z) (D : z = (rr, μr)) : JW X (jEnd X n Y (some (.long rr)) μr 0 0) 0 0 n Y 25 [] [] μ := by
  unfold b_X11_determinant_25 at H
  refine r_ldc2 K (-9223372036854775808) mc_RX11_151 dX11_determinant_25 ?_
  cases H
  obtain ⟨rfl, rfl⟩ := jfin2 D
  exact r_lret K dX11_determinant_28
set_option maxRecDepth 10000 in
theorem t_X11_determinant_0 {X : jX} {l : Launch} {n : Nat} {Y : jY} (K : jOK X RX11 cX11_determinant 3 (some .long) 11) (hl : X.2.1 = l) {rr : Int64} {μr : jM} {v0 : Nat} {v1 : Int32} {v2 : Int32} {μ : jM} {z : (Int64 × jM)} (H : f_X11_determinant Y v0 v1 v2 μ = some z) (D : z = (rr, μr)) : JW X (jEnd X n Y (some (.long rr)) μr 0 0) 0 0 n Y 0 [(0, .ref v0), (1, .int v1), (2, .int v2)] [] μ := by
  unfold f_X11_determinant at H
  refine r_aload_n K 0 dX11_determinant_0 rfl rfl ?_
  refine w_callV K hl H (fun r h => c_X11_hasTones l h) mC_yX11_hasTones mM_RX11_147 mI_yX11_hasTones mS_yX11_hasTones mZ_RX11 vc11 (Nat.le_of_ble_eq_true rfl) (Nat.le_of_ble_eq_true rfl) np_yX11_hasTones rfl (Nat.le_of_ble_eq_true rfl) dX11_determinant_1 (fun r1 H => ?_) ⟨Nat.zero_le _, Nat.zero_le _⟩
  refine w_if_eq K 25 dX11_determinant_4 (by decide) H (fun _ H => ?_) (fun _ H => ?_)
  · exact r_sub [] rfl (t_X11_determinant_25 K hl H D)
  · refine r_iload_n K 1 dX11_determinant_7 rfl rfl ?_
    refine r_iconst (v := 0) K dX11_determinant_8 (by decide) ?_
    refine r_iconst (v := 4) K dX11_determinant_9 (by decide) ?_
    refine w_callS K hl H (fun r h => c_X11_within l h) mC_yX11_within mM_RX11_133 mT_yX11_within mZ_RX11 (Nat.le_of_ble_eq_true rfl) (Nat.le_of_ble_eq_true rfl) np_yX11_within rfl (Nat.le_of_ble_eq_true rfl) dX11_determinant_10 (fun r2 H => ?_) ⟨Nat.zero_le _, Nat.zero_le _⟩
    refine w_if_eq K 25 dX11_determinant_13 (by decide) H (fun _ H => ?_) (fun _ H => ?_)
    · exact r_sub [] rfl (t_X11_determinant_25 K hl H D)
    · refine r_iload_n K 2 dX11_determinant_16 rfl rfl ?_
      refine r_iconst (v := 0) K dX11_determinant_17 (by decide) ?_
      refine r_iconst (v := 1) K dX11_determinant_18 (by decide) ?_
      refine w_callS K hl H (fun r h => c_X11_within l h) mC_yX11_within mM_RX11_133 mT_yX11_within mZ_RX11 (Nat.le_of_ble_eq_true rfl) (Nat.le_of_ble_eq_true rfl) np_yX11_within rfl (Nat.le_of_ble_eq_true rfl) dX11_determinant_19 (fun r3 H => ?_) ⟨Nat.zero_le _, Nat.zero_le _⟩
      refine w_if_ne K 29 dX11_determinant_22 (by decide) H (fun _ H => ?_) (fun _ H => ?_)
      · refine r_aload_n K 0 dX11_determinant_29 rfl rfl ?_
        refine w_getO K vc11 inX11 6 (by decide) mF_RX11_50 dX11_determinant_30 H (fun x4 H => ?_)
        refine r_aload_n K 0 dX11_determinant_33 rfl rfl ?_
        refine w_getO K vc11 inX11 3 (by decide) mF_RX11_35 dX11_determinant_34 H (fun x5 H => ?_)
        refine w_getO K vc3 inX3 0 (by decide) mF_RX11_119 dX11_determinant_37 H (fun x6 H => ?_)
        refine w_callV K hl H (fun r h => c_X7_rebuild l h) mC_yX7_rebuild mM_RX11_153 mI_yX7_rebuild mS_yX7_rebuild mZ_RX7 vc7 (Nat.le_of_ble_eq_true rfl) (Nat.le_of_ble_eq_true rfl) np_yX7_rebuild rfl (Nat.le_of_ble_eq_true rfl) dX11_determinant_40 (fun μ7 H => ?_) ⟨Nat.zero_le _, Nat.zero_le _⟩
        refine r_aload_n K 0 dX11_determinant_43 rfl rfl ?_
        refine w_getO K vc11 inX11 6 (by decide) mF_RX11_50 dX11_determinant_44 H (fun x8 H => ?_)
        refine r_iload_n K 1 dX11_determinant_47 rfl rfl ?_
        refine r_iload_n K 2 dX11_determinant_48 rfl rfl ?_
        refine w_callV K hl H (fun r h => c_X7_momentTable l h) mC_yX7_momentTable mM_RX11_181 mI_yX7_momentTable mS_yX7_momentTable mZ_RX7 vc7 (Nat.le_of_ble_eq_true rfl) (Nat.le_of_ble_eq_true rfl) np_yX7_momentTable rfl (Nat.le_of_ble_eq_true rfl) dX11_determinant_49 (fun r9 H => ?_) ⟨Nat.zero_le _, Nat.zero_le _⟩
        cases H
        obtain ⟨rfl, rfl⟩ := jfin2 D
        exact r_lret K dX11_determinant_52
      · exact r_sub [] rfl (t_X11_determinant_25 K hl H D)
theorem c_X11_determinant (l : Launch) {n : Nat} {Y : jY} {v0 : Nat} {v1 : Int32} {v2 : Int32} {μ : jM} {z : Int64 × jM} (H : f_X11_determinant Y v0 v1 v2 μ = some z) : jC l yX11_determinant cX11_determinant 3 (some .long) 11 0 0 [.ref v0, .int v1, .int v2] n Y μ n Y (some (.long z.1)) z.2 := by
  refine jC_of (by decide +kernel) (Nat.le_of_ble_eq_true rfl) (fun X hl K _ _ _ => ?_)
  obtain ⟨rr, μr⟩ := z
  exact t_X11_determinant_0 K hl H rfl
/-! RX11 table(II)Z -/
def b_X11_table_16 (Y : jY) (μ : jM) : Option (Int32 × jM) :=
  (jbool ((0 : Int32))).bind fun x1 =>
  some (x1, μ)
def f_X11_table (Y : jY) (v0 : Nat) (v1 : Int32) (v2 : Int32) (μ : jM) : Option (Int32 × jM) :=
  (f_X11_isDrawer Y v1 μ).bind fun r1 =>
  if r1.1 = 0 then
    b_X11_table_16 Y r1.2
  else
    (f_X11_within Y v2 ((1 : Int32)) ((5 : Int32)) r1.2).bind fun r2 =>
    if r2.1 = 0 then
      b_X11_table_16 Y r2.2
    else
      (jgO Y r2.2 v0 11 3).bind fun x3 =>
      (jgO Y r2.2 x3 3 1).bind fun x4 =>
      (jaO Y r2.2 x4 24 v1).bind fun x5 =>
      (jrcv Y x5 10 (f_X10_begin Y x5 v2 r2.2)).bind fun μ6 =>
      (jbool ((1 : Int32))).bind fun x7 =>
      some (x7, μ6)
set_option maxRecDepth 10000 in
theorem t_X11_table_16 {X : jX} {l : Launch} {n : Nat} {Y : jY} (K : jOK X RX11 cX11_table 3 (some .boolean) 3) (hl : X.2.1 = l) {rr : Int32} {μr : jM} {μ : jM} {z : (Int32 × jM)} (H : b_X11_table_16 Y μ = some z) (D : z = (rr, μr)) : JW X (jEnd X n Y (some (.int rr)) μr 0 0) 0 0 n Y 16 [] [] μ := by
  unfold b_X11_table_16 at H
  refine r_iconst (v := 0) K dX11_table_16 (by decide) ?_
  refine w_zret K dX11_table_17 H (fun hz H => ?_)
  cases H
  obtain ⟨rfl, rfl⟩ := jfin2 D
  exact r_zret K hz dX11_table_17
set_option maxRecDepth 10000 in
theorem t_X11_table_0 {X : jX} {l : Launch} {n : Nat} {Y : jY} (K : jOK X RX11 cX11_table 3 (some .boolean) 3) (hl : X.2.1 = l) {rr : Int32} {μr : jM} {v0 : Nat} {v1 : Int32} {v2 : Int32} {μ : jM} {z : (Int32 × jM)} (H : f_X11_table Y v0 v1 v2 μ = some z) (D : z = (rr, μr)) : JW X (jEnd X n Y (some (.int rr)) μr 0 0) 0 0 n Y 0 [(0, .ref v0), (1, .int v1), (2, .int v2)] [] μ := by
  unfold f_X11_table at H
  refine r_iload_n K 1 dX11_table_0 rfl rfl ?_
  refine w_callS K hl H (fun r h => c_X11_isDrawer l h) mC_yX11_isDrawer mM_RX11_252 mT_yX11_isDrawer mZ_RX11 (Nat.le_of_ble_eq_true rfl) (Nat.le_of_ble_eq_true rfl) np_yX11_isDrawer rfl (Nat.le_of_ble_eq_true rfl) dX11_table_1 (fun r1 H => ?_) ⟨Nat.zero_le _, Nat.zero_le _⟩
  refine w_if_eq K 16 dX11_table_4 (by decide) H (fun _ H => ?_) (fun _ H => ?_)
  · exact r_sub [] rfl (t_X11_table_16 K hl H D)
  · refine r_iload_n K 2 dX11_table_7 rfl rfl ?_
    refine r_iconst (v := 1) K dX11_table_8 (by decide) ?_
    refine r_iconst (v := 5) K dX11_table_9 (by decide) ?_
    refine w_callS K hl H (fun r h => c_X11_within l h) mC_yX11_within mM_RX11_133 mT_yX11_within mZ_RX11 (Nat.le_of_ble_eq_true rfl) (Nat.le_of_ble_eq_true rfl) np_yX11_within rfl (Nat.le_of_ble_eq_true rfl) dX11_table_10 (fun r2 H => ?_) ⟨Nat.zero_le _, Nat.zero_le _⟩
    refine w_if_ne K 18 dX11_table_13 (by decide) H (fun _ H => ?_) (fun _ H => ?_)
    · refine r_aload_n K 0 dX11_table_18 rfl rfl ?_
      refine w_getO K vc11 inX11 3 (by decide) mF_RX11_35 dX11_table_19 H (fun x3 H => ?_)
      refine w_getO K vc3 inX3 1 (by decide) mF_RX11_255 dX11_table_22 H (fun x4 H => ?_)
      refine r_iload_n K 1 dX11_table_25 rfl rfl ?_
      refine w_aald K 24 rfl rfl dX11_table_26 H (fun x5 H => ?_)
      refine r_iload_n K 2 dX11_table_27 rfl rfl ?_
      refine w_callV K hl H (fun r h => c_X10_begin l h) mC_yX10_begin mM_RX11_259 mI_yX10_begin mS_yX10_begin mZ_RX10 vc10 (Nat.le_of_ble_eq_true rfl) (Nat.le_of_ble_eq_true rfl) np_yX10_begin rfl (Nat.le_of_ble_eq_true rfl) dX11_table_28 (fun μ6 H => ?_) ⟨Nat.zero_le _, Nat.zero_le _⟩
      refine r_iconst (v := 1) K dX11_table_31 (by decide) ?_
      refine w_zret K dX11_table_32 H (fun hz H => ?_)
      cases H
      obtain ⟨rfl, rfl⟩ := jfin2 D
      exact r_zret K hz dX11_table_32
    · exact r_sub [] rfl (t_X11_table_16 K hl H D)
theorem c_X11_table (l : Launch) {n : Nat} {Y : jY} {v0 : Nat} {v1 : Int32} {v2 : Int32} {μ : jM} {z : Int32 × jM} (H : f_X11_table Y v0 v1 v2 μ = some z) : jC l yX11_table cX11_table 3 (some .boolean) 3 0 0 [.ref v0, .int v1, .int v2] n Y μ n Y (some (.int z.1)) z.2 := by
  refine jC_of (by decide +kernel) (Nat.le_of_ble_eq_true rfl) (fun X hl K _ _ _ => ?_)
  obtain ⟨rr, μr⟩ := z
  exact t_X11_table_0 K hl H rfl
/-! RX11 write(II)I -/
def b_X11_write_18 (Y : jY) (μ : jM) : Option (Int32 × jM) :=
  some ((-1 : Int32), μ)
def f_X11_write (Y : jY) (v0 : Nat) (v1 : Int32) (v2 : Int32) (μ : jM) : Option (Int32 × jM) :=
  (f_X11_isDrawer Y v1 μ).bind fun r1 =>
  if r1.1 = 0 then
    b_X11_write_18 Y r1.2
  else
    (jgO Y r1.2 v0 11 0).bind fun x2 =>
    (jrcv Y x2 5 (f_X5_holdsText Y x2 v2 r1.2)).bind fun r3 =>
    if r3.1 = 0 then
      b_X11_write_18 Y r3.2
    else
      (jgO Y r3.2 v0 11 1).bind fun x4 =>
      (jgO Y r3.2 v0 11 0).bind fun x5 =>
      (jrcv Y x4 6 (f_X6_scan Y x4 x5 v2 ((0 : Int32)) r3.2)).bind fun r6 =>
      (jgO Y r6.2 v0 11 0).bind fun x7 =>
      (jrcv Y x7 5 (f_X5_clear Y x7 r6.2)).bind fun μ8 =>
      if r6.1 = 0 then
        (jgO Y μ8 v0 11 3).bind fun x9 =>
        (jgO Y μ8 x9 3 1).bind fun x10 =>
        (jaO Y μ8 x10 24 v1).bind fun x11 =>
        (jgO Y μ8 v0 11 1).bind fun x12 =>
        (jrcv Y x11 10 (f_X10_take Y x11 x12 μ8)).bind fun μ13 =>
        (jgO Y μ13 v0 11 3).bind fun x14 =>
        (jgO Y μ13 x14 3 1).bind fun x15 =>
        (jaO Y μ13 x15 24 v1).bind fun x16 =>
        (jgI Y μ13 x16 10 0).bind fun x17 =>
        some (x17, μ13)
      else
        some (r6.1, μ8)
set_option maxRecDepth 10000 in
theorem t_X11_write_18 {X : jX} {l : Launch} {n : Nat} {Y : jY} (K : jOK X RX11 cX11_write 4 (some .int) 6) (hl : X.2.1 = l) {rr : Int32} {μr : jM} {μ : jM} {z : (Int32 × jM)} (H : b_X11_write_18 Y μ = some z) (D : z = (rr, μr)) : JW X (jEnd X n Y (some (.int rr)) μr 0 0) 0 0 n Y 18 [] [] μ := by
  unfold b_X11_write_18 at H
  refine r_iconst (v := -1) K dX11_write_18 (by decide) ?_
  cases H
  obtain ⟨rfl, rfl⟩ := jfin2 D
  exact r_iret K dX11_write_19
set_option maxRecDepth 10000 in
theorem t_X11_write_0 {X : jX} {l : Launch} {n : Nat} {Y : jY} (K : jOK X RX11 cX11_write 4 (some .int) 6) (hl : X.2.1 = l) {rr : Int32} {μr : jM} {v0 : Nat} {v1 : Int32} {v2 : Int32} {μ : jM} {z : (Int32 × jM)} (H : f_X11_write Y v0 v1 v2 μ = some z) (D : z = (rr, μr)) : JW X (jEnd X n Y (some (.int rr)) μr 0 0) 0 0 n Y 0 [(0, .ref v0), (1, .int v1), (2, .int v2)] [] μ := by
  unfold f_X11_write at H
  refine r_iload_n K 1 dX11_write_0 rfl rfl ?_
  refine w_callS K hl H (fun r h => c_X11_isDrawer l h) mC_yX11_isDrawer mM_RX11_252 mT_yX11_isDrawer mZ_RX11 (Nat.le_of_ble_eq_true rfl) (Nat.le_of_ble_eq_true rfl) np_yX11_isDrawer rfl (Nat.le_of_ble_eq_true rfl) dX11_write_1 (fun r1 H => ?_) ⟨Nat.zero_le _, Nat.zero_le _⟩
  refine w_if_eq K 18 dX11_write_4 (by decide) H (fun _ H => ?_) (fun _ H => ?_)
  · exact r_sub [] rfl (t_X11_write_18 K hl H D)
  · refine r_aload_n K 0 dX11_write_7 rfl rfl ?_
    refine w_getO K vc11 inX11 0 (by decide) mF_RX11_12 dX11_write_8 H (fun x2 H => ?_)
    refine r_iload_n K 2 dX11_write_11 rfl rfl ?_
    refine w_callV K hl H (fun r h => c_X5_holdsText l h) mC_yX5_holdsText mM_RX11_109 mI_yX5_holdsText mS_yX5_holdsText mZ_RX5 vc5 (Nat.le_of_ble_eq_true rfl) (Nat.le_of_ble_eq_true rfl) np_yX5_holdsText rfl (Nat.le_of_ble_eq_true rfl) dX11_write_12 (fun r3 H => ?_) ⟨Nat.zero_le _, Nat.zero_le _⟩
    refine w_if_ne K 20 dX11_write_15 (by decide) H (fun _ H => ?_) (fun _ H => ?_)
    · refine r_aload_n K 0 dX11_write_20 rfl rfl ?_
      refine w_getO K vc11 inX11 1 (by decide) mF_RX11_21 dX11_write_21 H (fun x4 H => ?_)
      refine r_aload_n K 0 dX11_write_24 rfl rfl ?_
      refine w_getO K vc11 inX11 0 (by decide) mF_RX11_12 dX11_write_25 H (fun x5 H => ?_)
      refine r_iload_n K 2 dX11_write_28 rfl rfl ?_
      refine r_iconst (v := 0) K dX11_write_29 (by decide) ?_
      refine w_callV K hl H (fun r h => c_X6_scan l h) mC_yX6_scan mM_RX11_112 mI_yX6_scan mS_yX6_scan mZ_RX6 vc6 (Nat.le_of_ble_eq_true rfl) (Nat.le_of_ble_eq_true rfl) np_yX6_scan rfl (Nat.le_of_ble_eq_true rfl) dX11_write_30 (fun r6 H => ?_) ⟨Nat.zero_le _, Nat.zero_le _⟩
      refine r_istore_n K [(3, .int _), (0, .ref _), (1, .int _), (2, .int _)] dX11_write_33 rfl (by decide) rfl ?_
      refine r_aload_n K 1 dX11_write_34 rfl rfl ?_
      refine w_getO K vc11 inX11 0 (by decide) mF_RX11_12 dX11_write_35 H (fun x7 H => ?_)
      refine w_callV K hl H (fun r h => c_X5_clear l h) mC_yX5_clear mM_RX11_116 mI_yX5_clear mS_yX5_clear mZ_RX5 vc5 (Nat.le_of_ble_eq_true rfl) (Nat.le_of_ble_eq_true rfl) np_yX5_clear rfl (Nat.le_of_ble_eq_true rfl) dX11_write_38 (fun μ8 H => ?_) ⟨Nat.zero_le _, Nat.zero_le _⟩
      refine r_iload_n K 0 dX11_write_41 rfl rfl ?_
      refine w_if_eq K 47 dX11_write_42 (by decide) H (fun _ H => ?_) (fun _ H => ?_)
      · refine r_aload_n K 1 dX11_write_47 rfl rfl ?_
        refine w_getO K vc11 inX11 3 (by decide) mF_RX11_35 dX11_write_48 H (fun x9 H => ?_)
        refine w_getO K vc3 inX3 1 (by decide) mF_RX11_255 dX11_write_51 H (fun x10 H => ?_)
        refine r_iload_n K 2 dX11_write_54 rfl rfl ?_
        refine w_aald K 24 rfl rfl dX11_write_55 H (fun x11 H => ?_)
        refine r_aload_n K 1 dX11_write_56 rfl rfl ?_
        refine w_getO K vc11 inX11 1 (by decide) mF_RX11_21 dX11_write_57 H (fun x12 H => ?_)
        refine w_callV K hl H (fun r h => c_X10_take l h) mC_yX10_take mM_RX11_262 mI_yX10_take mS_yX10_take mZ_RX10 vc10 (Nat.le_of_ble_eq_true rfl) (Nat.le_of_ble_eq_true rfl) np_yX10_take rfl (Nat.le_of_ble_eq_true rfl) dX11_write_60 (fun μ13 H => ?_) ⟨Nat.zero_le _, Nat.zero_le _⟩
        refine r_aload_n K 1 dX11_write_63 rfl rfl ?_
        refine w_getO K vc11 inX11 3 (by decide) mF_RX11_35 dX11_write_64 H (fun x14 H => ?_)
        refine w_getO K vc3 inX3 1 (by decide) mF_RX11_255 dX11_write_67 H (fun x15 H => ?_)
        refine r_iload_n K 2 dX11_write_70 rfl rfl ?_
        refine w_aald K 24 rfl rfl dX11_write_71 H (fun x16 H => ?_)
        refine w_getI K vc10 inX10 0 (by decide) mF_RX11_263 dX11_write_72 H (fun x17 H => ?_)
        cases H
        obtain ⟨rfl, rfl⟩ := jfin2 D
        exact r_iret K dX11_write_75
      · refine r_iload_n K 0 dX11_write_45 rfl rfl ?_
        cases H
        obtain ⟨rfl, rfl⟩ := jfin2 D
        exact r_iret K dX11_write_46
    · exact r_sub [] rfl (t_X11_write_18 K hl H D)
theorem c_X11_write (l : Launch) {n : Nat} {Y : jY} {v0 : Nat} {v1 : Int32} {v2 : Int32} {μ : jM} {z : Int32 × jM} (H : f_X11_write Y v0 v1 v2 μ = some z) : jC l yX11_write cX11_write 4 (some .int) 6 0 0 [.ref v0, .int v1, .int v2] n Y μ n Y (some (.int z.1)) z.2 := by
  refine jC_of (by decide +kernel) (Nat.le_of_ble_eq_true rfl) (fun X hl K _ _ _ => ?_)
  obtain ⟨rr, μr⟩ := z
  exact t_X11_write_0 K hl H rfl
/-! RX11 letter(I)I -/
def b_X11_letter_12 (Y : jY) (μ : jM) : Option (Int32 × jM) :=
  some ((-1 : Int32), μ)
def f_X11_letter (Y : jY) (v0 : Nat) (v1 : Int32) (μ : jM) : Option (Int32 × jM) :=
  (jrcv Y v0 11 (f_X11_hasTones Y v0 μ)).bind fun r1 =>
  if r1.1 = 0 then
    b_X11_letter_12 Y r1.2
  else
    if ((-1 : Int32)) ≤ v1 then
      (jgO Y r1.2 v0 11 2).bind fun x2 =>
      (jgO Y r1.2 v0 11 3).bind fun x3 =>
      (jgO Y r1.2 x3 3 0).bind fun x4 =>
      (jgO Y r1.2 x4 9 1).bind fun x5 =>
      (jgO Y r1.2 v0 11 3).bind fun x6 =>
      (jgO Y r1.2 x6 3 0).bind fun x7 =>
      (jgI Y r1.2 x7 9 0).bind fun x8 =>
      (jgO Y r1.2 v0 11 3).bind fun x9 =>
      (jgO Y r1.2 x9 3 0).bind fun x10 =>
      (jgO Y r1.2 x10 9 2).bind fun x11 =>
      (jrcv Y x2 2 (f_X2_tell Y x2 x5 x8 x11 r1.2)).bind fun μ12 =>
      (jgO Y μ12 v0 11 2).bind fun x13 =>
      (jrcv Y x13 2 (f_X2_at Y x13 v1 μ12)).bind fun r14 =>
      some (r14.1, r14.2)
    else
      b_X11_letter_12 Y r1.2
set_option maxRecDepth 10000 in
theorem t_X11_letter_12 {X : jX} {l : Launch} {n : Nat} {Y : jY} (K : jOK X RX11 cX11_letter 2 (some .int) 5) (hl : X.2.1 = l) {rr : Int32} {μr : jM} {μ : jM} {z : (Int32 × jM)} (H : b_X11_letter_12 Y μ = some z) (D : z = (rr, μr)) : JW X (jEnd X n Y (some (.int rr)) μr 0 0) 0 0 n Y 12 [] [] μ := by
  unfold b_X11_letter_12 at H
  refine r_iconst (v := -1) K dX11_letter_12 (by decide) ?_
  cases H
  obtain ⟨rfl, rfl⟩ := jfin2 D
  exact r_iret K dX11_letter_13
set_option maxRecDepth 10000 in
theorem t_X11_letter_0 {X : jX} {l : Launch} {n : Nat} {Y : jY} (K : jOK X RX11 cX11_letter 2 (some .int) 5) (hl : X.2.1 = l) {rr : Int32} {μr : jM} {v0 : Nat} {v1 : Int32} {μ : jM} {z : (Int32 × jM)} (H : f_X11_letter Y v0 v1 μ = some z) (D : z = (rr, μr)) : JW X (jEnd X n Y (some (.int rr)) μr 0 0) 0 0 n Y 0 [(0, .ref v0), (1, .int v1)] [] μ := by
  unfold f_X11_letter at H
  refine r_aload_n K 0 dX11_letter_0 rfl rfl ?_
  refine w_callV K hl H (fun r h => c_X11_hasTones l h) mC_yX11_hasTones mM_RX11_147 mI_yX11_hasTones mS_yX11_hasTones mZ_RX11 vc11 (Nat.le_of_ble_eq_true rfl) (Nat.le_of_ble_eq_true rfl) np_yX11_hasTones rfl (Nat.le_of_ble_eq_true rfl) dX11_letter_1 (fun r1 H => ?_) ⟨Nat.zero_le _, Nat.zero_le _⟩
  refine w_if_eq K 12 dX11_letter_4 (by decide) H (fun _ H => ?_) (fun _ H => ?_)
  · exact r_sub [] rfl (t_X11_letter_12 K hl H D)
  · refine r_iload_n K 1 dX11_letter_7 rfl rfl ?_
    refine r_iconst (v := -1) K dX11_letter_8 (by decide) ?_
    refine w_icmp_ge K 14 dX11_letter_9 (by decide) H (fun _ H => ?_) (fun _ H => ?_)
    · refine r_aload_n K 0 dX11_letter_14 rfl rfl ?_
      refine w_getO K vc11 inX11 2 (by decide) mF_RX11_28 dX11_letter_15 H (fun x2 H => ?_)
      refine r_aload_n K 0 dX11_letter_18 rfl rfl ?_
      refine w_getO K vc11 inX11 3 (by decide) mF_RX11_35 dX11_letter_19 H (fun x3 H => ?_)
      refine w_getO K vc3 inX3 0 (by decide) mF_RX11_119 dX11_letter_22 H (fun x4 H => ?_)
      refine w_getO K vc9 inX9 1 (by decide) mF_RX11_137 dX11_letter_25 H (fun x5 H => ?_)
      refine r_aload_n K 0 dX11_letter_28 rfl rfl ?_
      refine w_getO K vc11 inX11 3 (by decide) mF_RX11_35 dX11_letter_29 H (fun x6 H => ?_)
      refine w_getO K vc3 inX3 0 (by decide) mF_RX11_119 dX11_letter_32 H (fun x7 H => ?_)
      refine w_getI K vc9 inX9 0 (by decide) mF_RX11_126 dX11_letter_35 H (fun x8 H => ?_)
      refine r_aload_n K 0 dX11_letter_38 rfl rfl ?_
      refine w_getO K vc11 inX11 3 (by decide) mF_RX11_35 dX11_letter_39 H (fun x9 H => ?_)
      refine w_getO K vc3 inX3 0 (by decide) mF_RX11_119 dX11_letter_42 H (fun x10 H => ?_)
      refine w_getO K vc9 inX9 2 (by decide) mF_RX11_141 dX11_letter_45 H (fun x11 H => ?_)
      refine w_callV K hl H (fun r h => c_X2_tell l h) mC_yX2_tell mM_RX11_232 mI_yX2_tell mS_yX2_tell mZ_RX2 vc2 (Nat.le_of_ble_eq_true rfl) (Nat.le_of_ble_eq_true rfl) np_yX2_tell rfl (Nat.le_of_ble_eq_true rfl) dX11_letter_48 (fun μ12 H => ?_) ⟨Nat.zero_le _, Nat.zero_le _⟩
      refine r_aload_n K 0 dX11_letter_51 rfl rfl ?_
      refine w_getO K vc11 inX11 2 (by decide) mF_RX11_28 dX11_letter_52 H (fun x13 H => ?_)
      refine r_iload_n K 1 dX11_letter_55 rfl rfl ?_
      refine w_callV K hl H (fun r h => c_X2_at l h) mC_yX2_at mM_RX11_236 mI_yX2_at mS_yX2_at mZ_RX2 vc2 (Nat.le_of_ble_eq_true rfl) (Nat.le_of_ble_eq_true rfl) np_yX2_at rfl (Nat.le_of_ble_eq_true rfl) dX11_letter_56 (fun r14 H => ?_) ⟨Nat.zero_le _, Nat.zero_le _⟩
      cases H
      obtain ⟨rfl, rfl⟩ := jfin2 D
      exact r_iret K dX11_letter_59
    · exact r_sub [] rfl (t_X11_letter_12 K hl H D)
theorem c_X11_letter (l : Launch) {n : Nat} {Y : jY} {v0 : Nat} {v1 : Int32} {μ : jM} {z : Int32 × jM} (H : f_X11_letter Y v0 v1 μ = some z) : jC l yX11_letter cX11_letter 2 (some .int) 5 0 0 [.ref v0, .int v1] n Y μ n Y (some (.int z.1)) z.2 := by
  refine jC_of (by decide +kernel) (Nat.le_of_ble_eq_true rfl) (fun X hl K _ _ _ => ?_)
  obtain ⟨rr, μr⟩ := z
  exact t_X11_letter_0 K hl H rfl
