/-! RX11 polynomial(ZI)J -/
def b_X11_polynomial_46 (Y : jY) (μ : jM) : Option (Int64 × jM) :=
  some ((-9223372036854775808 : Int64), μ)
def b_X11_polynomial_89 (Y : jY) (t0 : Int64) (μ : jM) : Option (Int64 × jM) :=
  some (t0, μ)
def b_X11_polynomial_29 (Y : jY) (v0 : Nat) (v1 : Int32) (v2 : Int32) (t0 : Int32) (μ : jM) : Option (Int64 × jM) :=
  (jrcv Y v0 11 (f_X11_hasTones Y v0 μ)).bind fun r1 =>
  if r1.1 = 0 then
    b_X11_polynomial_46 Y r1.2
  else
    (f_X11_within Y v2 ((0 : Int32)) t0 r1.2).bind fun r2 =>
    if r2.1 = 0 then
      b_X11_polynomial_46 Y r2.2
    else
      (jgO Y r2.2 v0 11 6).bind fun x3 =>
      (jgO Y r2.2 v0 11 3).bind fun x4 =>
      (jgO Y r2.2 x4 3 0).bind fun x5 =>
      (jrcv Y x3 7 (f_X7_rebuild Y x3 x5 r2.2)).bind fun μ6 =>
      if v1 = 0 then
        (jgO Y μ6 v0 11 6).bind fun x7 =>
        (jgO Y μ6 x7 7 2).bind fun x8 =>
        (jaL Y μ6 x8 21 v2).bind fun x9 =>
        b_X11_polynomial_89 Y x9 μ6
      else
        (jgO Y μ6 v0 11 6).bind fun x10 =>
        (jgO Y μ6 x10 7 1).bind fun x11 =>
        (jaL Y μ6 x11 21 v2).bind fun x12 =>
        b_X11_polynomial_89 Y x12 μ6
def f_X11_polynomial (Y : jY) (v0 : Nat) (v1 : Int32) (v2 : Int32) (μ : jM) : Option (Int64 × jM) :=
  if v1 = 0 then
    (jgO Y μ v0 11 3).bind fun x1 =>
    (jgO Y μ x1 3 0).bind fun x2 =>
    (jgI Y μ x2 9 0).bind fun x3 =>
    b_X11_polynomial_29 Y v0 v1 v2 (x3 - ((1 : Int32))) μ
  else
    (jgO Y μ v0 11 3).bind fun x4 =>
    (jgO Y μ x4 3 0).bind fun x5 =>
    (jgI Y μ x5 9 0).bind fun x6 =>
    b_X11_polynomial_29 Y v0 v1 v2 x6 μ
set_option maxRecDepth 10000 in
theorem t_X11_polynomial_46 {X : jX} {l : Launch} {n : Nat} {Y : jY} (K : jOK X RX11 cX11_polynomial 4 (some .long) 3) (hl : X.2.1 = l) {rr : Int64} {μr : jM} {μ : jM} {z : (Int64 × jM)} (H : b_X11_polynomial_46 Y μ = some z) (D : z = (rr, μr)) : JW X (jEnd X n Y (some (.long rr)) μr 0 0) 0 0 n Y 46 [] [] μ := by
  unfold b_X11_polynomial_46 at H
  refine r_ldc2 K (-9223372036854775808) mc_RX11_151 dX11_polynomial_46 ?_
  cases H
  obtain ⟨rfl, rfl⟩ := jfin2 D
  exact r_lret K dX11_polynomial_49
set_option maxRecDepth 10000 in
theorem t_X11_polynomial_89 {X : jX} {l : Launch} {n : Nat} {Y : jY} (K : jOK X RX11 cX11_polynomial 4 (some .long) 3) (hl : X.2.1 = l) {rr : Int64} {μr : jM} {t0 : Int64} {μ : jM} {z : (Int64 × jM)} (H : b_X11_polynomial_89 Y t0 μ = some z) (D : z = (rr, μr)) : JW X (jEnd X n Y (some (.long rr)) μr 0 0) 0 0 n Y 89 [] [.long t0] μ := by
  unfold b_X11_polynomial_89 at H
  cases H
  obtain ⟨rfl, rfl⟩ := jfin2 D
  exact r_lret K dX11_polynomial_89
set_option maxRecDepth 10000 in
theorem t_X11_polynomial_29 {X : jX} {l : Launch} {n : Nat} {Y : jY} (K : jOK X RX11 cX11_polynomial 4 (some .long) 3) (hl : X.2.1 = l) {rr : Int64} {μr : jM} {v0 : Nat} {v1 : Int32} {v2 : Int32} {t0 : Int32} {μ : jM} {z : (Int64 × jM)} (H : b_X11_polynomial_29 Y v0 v1 v2 t0 μ = some z) (D : z = (rr, μr)) : JW X (jEnd X n Y (some (.long rr)) μr 0 0) 0 0 n Y 29 [(0, .ref v0), (1, .int v1), (2, .int v2)] [.int t0] μ := by
  unfold b_X11_polynomial_29 at H
  refine r_istore_n K [(3, .int _), (0, .ref _), (1, .int _), (2, .int _)] dX11_polynomial_29 rfl (by decide) rfl ?_
  refine r_aload_n K 1 dX11_polynomial_30 rfl rfl ?_
  refine w_callV K hl H (fun r h => c_X11_hasTones l h) mC_yX11_hasTones mM_RX11_147 mI_yX11_hasTones mS_yX11_hasTones mZ_RX11 vc11 (Nat.le_of_ble_eq_true rfl) (Nat.le_of_ble_eq_true rfl) np_yX11_hasTones rfl (Nat.le_of_ble_eq_true rfl) dX11_polynomial_31 (fun r1 H => ?_) ⟨Nat.zero_le _, Nat.zero_le _⟩
  refine w_if_eq K 46 dX11_polynomial_34 (by decide) H (fun _ H => ?_) (fun _ H => ?_)
  · exact r_sub [] rfl (t_X11_polynomial_46 K hl H D)
  · refine r_iload_n K 3 dX11_polynomial_37 rfl rfl ?_
    refine r_iconst (v := 0) K dX11_polynomial_38 (by decide) ?_
    refine r_iload_n K 0 dX11_polynomial_39 rfl rfl ?_
    refine w_callS K hl H (fun r h => c_X11_within l h) mC_yX11_within mM_RX11_133 mT_yX11_within mZ_RX11 (Nat.le_of_ble_eq_true rfl) (Nat.le_of_ble_eq_true rfl) np_yX11_within rfl (Nat.le_of_ble_eq_true rfl) dX11_polynomial_40 (fun r2 H => ?_) ⟨Nat.zero_le _, Nat.zero_le _⟩
    refine w_if_ne K 50 dX11_polynomial_43 (by decide) H (fun _ H => ?_) (fun _ H => ?_)
    · refine r_aload_n K 1 dX11_polynomial_50 rfl rfl ?_
      refine w_getO K vc11 inX11 6 (by decide) mF_RX11_50 dX11_polynomial_51 H (fun x3 H => ?_)
      refine r_aload_n K 1 dX11_polynomial_54 rfl rfl ?_
      refine w_getO K vc11 inX11 3 (by decide) mF_RX11_35 dX11_polynomial_55 H (fun x4 H => ?_)
      refine w_getO K vc3 inX3 0 (by decide) mF_RX11_119 dX11_polynomial_58 H (fun x5 H => ?_)
      refine w_callV K hl H (fun r h => c_X7_rebuild l h) mC_yX7_rebuild mM_RX11_153 mI_yX7_rebuild mS_yX7_rebuild mZ_RX7 vc7 (Nat.le_of_ble_eq_true rfl) (Nat.le_of_ble_eq_true rfl) np_yX7_rebuild rfl (Nat.le_of_ble_eq_true rfl) dX11_polynomial_61 (fun μ6 H => ?_) ⟨Nat.zero_le _, Nat.zero_le _⟩
      refine r_iload_n K 2 dX11_polynomial_64 rfl rfl ?_
      refine w_if_eq K 80 dX11_polynomial_65 (by decide) H (fun _ H => ?_) (fun _ H => ?_)
      · refine r_aload_n K 1 dX11_polynomial_80 rfl rfl ?_
        refine w_getO K vc11 inX11 6 (by decide) mF_RX11_50 dX11_polynomial_81 H (fun x7 H => ?_)
        refine w_getO K vc7 inX7 2 (by decide) mF_RX11_161 dX11_polynomial_84 H (fun x8 H => ?_)
        refine r_iload_n K 3 dX11_polynomial_87 rfl rfl ?_
        refine w_lald K dX11_polynomial_88 H (fun x9 H => ?_)
        exact r_sub [] rfl (t_X11_polynomial_89 K hl H D)
      · refine r_aload_n K 1 dX11_polynomial_68 rfl rfl ?_
        refine w_getO K vc11 inX11 6 (by decide) mF_RX11_50 dX11_polynomial_69 H (fun x10 H => ?_)
        refine w_getO K vc7 inX7 1 (by decide) mF_RX11_157 dX11_polynomial_72 H (fun x11 H => ?_)
        refine r_iload_n K 3 dX11_polynomial_75 rfl rfl ?_
        refine w_lald K dX11_polynomial_76 H (fun x12 H => ?_)
        refine r_goto K 89 dX11_polynomial_77 (by decide) ?_
        exact r_sub [] rfl (t_X11_polynomial_89 K hl H D)
    · exact r_sub [] rfl (t_X11_polynomial_46 K hl H D)
set_option maxRecDepth 10000 in
theorem t_X11_polynomial_0 {X : jX} {l : Launch} {n : Nat} {Y : jY} (K : jOK X RX11 cX11_polynomial 4 (some .long) 3) (hl : X.2.1 = l) {rr : Int64} {μr : jM} {v0 : Nat} {v1 : Int32} {v2 : Int32} {μ : jM} {z : (Int64 × jM)} (H : f_X11_polynomial Y v0 v1 v2 μ = some z) (D : z = (rr, μr)) : JW X (jEnd X n Y (some (.long rr)) μr 0 0) 0 0 n Y 0 [(0, .ref v0), (1, .int v1), (2, .int v2)] [] μ := by
  unfold f_X11_polynomial at H
  refine r_iload_n K 1 dX11_polynomial_0 rfl rfl ?_
  refine w_if_eq K 17 dX11_polynomial_1 (by decide) H (fun _ H => ?_) (fun _ H => ?_)
  · refine r_aload_n K 0 dX11_polynomial_17 rfl rfl ?_
    refine w_getO K vc11 inX11 3 (by decide) mF_RX11_35 dX11_polynomial_18 H (fun x1 H => ?_)
    refine w_getO K vc3 inX3 0 (by decide) mF_RX11_119 dX11_polynomial_21 H (fun x2 H => ?_)
    refine w_getI K vc9 inX9 0 (by decide) mF_RX11_126 dX11_polynomial_24 H (fun x3 H => ?_)
    refine r_iconst (v := 1) K dX11_polynomial_27 (by decide) ?_
    refine r_isub K dX11_polynomial_28 ?_
    exact r_sub [0, 1, 2] rfl (t_X11_polynomial_29 K hl H D)
  · refine r_aload_n K 0 dX11_polynomial_4 rfl rfl ?_
    refine w_getO K vc11 inX11 3 (by decide) mF_RX11_35 dX11_polynomial_5 H (fun x4 H => ?_)
    refine w_getO K vc3 inX3 0 (by decide) mF_RX11_119 dX11_polynomial_8 H (fun x5 H => ?_)
    refine w_getI K vc9 inX9 0 (by decide) mF_RX11_126 dX11_polynomial_11 H (fun x6 H => ?_)
    refine r_goto K 29 dX11_polynomial_14 (by decide) ?_
    exact r_sub [0, 1, 2] rfl (t_X11_polynomial_29 K hl H D)
theorem c_X11_polynomial (l : Launch) {n : Nat} {Y : jY} {v0 : Nat} {v1 : Int32} {v2 : Int32} {μ : jM} {z : Int64 × jM} (H : f_X11_polynomial Y v0 v1 v2 μ = some z) : jC l yX11_polynomial cX11_polynomial 4 (some .long) 3 0 0 [.ref v0, .int v1, .int v2] n Y μ n Y (some (.long z.1)) z.2 := by
  refine jC_of (by decide +kernel) (Nat.le_of_ble_eq_true rfl) (fun X hl K _ _ _ => ?_)
  obtain ⟨rr, μr⟩ := z
  exact t_X11_polynomial_0 K hl H rfl
/-! RX11 between(III)I -/
def b_X11_between_24 (Y : jY) (μ : jM) : Option (Int32 × jM) :=
  some ((-1 : Int32), μ)
def b_X11_between_64 (Y : jY) (μ : jM) : Option (Int32 × jM) :=
  some ((-2 : Int32), μ)
def b_X11_between_101 (Y : jY) (t0 : Int32) (μ : jM) : Option (Int32 × jM) :=
  some (t0, μ)
def f_X11_between (Y : jY) (v0 : Nat) (v1 : Int32) (v2 : Int32) (v3 : Int32) (μ : jM) : Option (Int32 × jM) :=
  (f_X11_isDrawer Y v1 μ).bind fun r1 =>
  if r1.1 = 0 then
    b_X11_between_24 Y r1.2
  else
    (f_X11_isDrawer Y v2 r1.2).bind fun r2 =>
    if r2.1 = 0 then
      b_X11_between_24 Y r2.2
    else
      (f_X11_within Y v3 ((1 : Int32)) ((50 : Int32)) r2.2).bind fun r3 =>
      if r3.1 = 0 then
        b_X11_between_24 Y r3.2
      else
        (jgO Y r3.2 v0 11 3).bind fun x4 =>
        (jgO Y r3.2 x4 3 1).bind fun x5 =>
        (jaO Y r3.2 x5 24 v1).bind fun x6 =>
        (jgO Y r3.2 v0 11 3).bind fun x7 =>
        (jgO Y r3.2 x7 3 1).bind fun x8 =>
        (jaO Y r3.2 x8 24 v2).bind fun x9 =>
        (jgI Y r3.2 x6 10 0).bind fun x10 =>
        if x10 = 0 then
          b_X11_between_64 Y r3.2
        else
          (jgI Y r3.2 x9 10 0).bind fun x11 =>
          if x11 = 0 then
            b_X11_between_64 Y r3.2
          else
            (jgI Y r3.2 x9 10 0).bind fun x12 =>
            (jgI Y r3.2 x6 10 0).bind fun x13 =>
            if x12 = ((x13 - ((1 : Int32)))) then
              (jrcv Y x6 10 (f_X10_rootsEnclose Y x6 x9 v3 r3.2)).bind fun r14 =>
              if r14.1 = 0 then
                b_X11_between_101 Y (0 : Int32) r14.2
              else
                b_X11_between_101 Y (1 : Int32) r14.2
            else
              some ((-3 : Int32), r3.2)
set_option maxRecDepth 10000 in
theorem t_X11_between_24 {X : jX} {l : Launch} {n : Nat} {Y : jY} (K : jOK X RX11 cX11_between 6 (some .int) 5) (hl : X.2.1 = l) {rr : Int32} {μr : jM} {μ : jM} {z : (Int32 × jM)} (H : b_X11_between_24 Y μ = some z) (D : z = (rr, μr)) : JW X (jEnd X n Y (some (.int rr)) μr 0 0) 0 0 n Y 24 [] [] μ := by
  unfold b_X11_between_24 at H
  refine r_iconst (v := -1) K dX11_between_24 (by decide) ?_
  cases H
  obtain ⟨rfl, rfl⟩ := jfin2 D
  exact r_iret K dX11_between_25
set_option maxRecDepth 10000 in
theorem t_X11_between_64 {X : jX} {l : Launch} {n : Nat} {Y : jY} (K : jOK X RX11 cX11_between 6 (some .int) 5) (hl : X.2.1 = l) {rr : Int32} {μr : jM} {μ : jM} {z : (Int32 × jM)} (H : b_X11_between_64 Y μ = some z) (D : z = (rr, μr)) : JW X (jEnd X n Y (some (.int rr)) μr 0 0) 0 0 n Y 64 [] [] μ := by
  unfold b_X11_between_64 at H
  refine r_bipush (v := -2) K dX11_between_64 (by decide) ?_
  cases H
  obtain ⟨rfl, rfl⟩ := jfin2 D
  exact r_iret K dX11_between_66
set_option maxRecDepth 10000 in
theorem t_X11_between_101 {X : jX} {l : Launch} {n : Nat} {Y : jY} (K : jOK X RX11 cX11_between 6 (some .int) 5) (hl : X.2.1 = l) {rr : Int32} {μr : jM} {t0 : Int32} {μ : jM} {z : (Int32 × jM)} (H : b_X11_between_101 Y t0 μ = some z) (D : z = (rr, μr)) : JW X (jEnd X n Y (some (.int rr)) μr 0 0) 0 0 n Y 101 [] [.int t0] μ := by
  unfold b_X11_between_101 at H
  cases H
  obtain ⟨rfl, rfl⟩ := jfin2 D
  exact r_iret K dX11_between_101
set_option maxRecDepth 10000 in
theorem t_X11_between_0 {X : jX} {l : Launch} {n : Nat} {Y : jY} (K : jOK X RX11 cX11_between 6 (some .int) 5) (hl : X.2.1 = l) {rr : Int32} {μr : jM} {v0 : Nat} {v1 : Int32} {v2 : Int32} {v3 : Int32} {μ : jM} {z : (Int32 × jM)} (H : f_X11_between Y v0 v1 v2 v3 μ = some z) (D : z = (rr, μr)) : JW X (jEnd X n Y (some (.int rr)) μr 0 0) 0 0 n Y 0 [(0, .ref v0), (1, .int v1), (2, .int v2), (3, .int v3)] [] μ := by
  unfold f_X11_between at H
  refine r_iload_n K 1 dX11_between_0 rfl rfl ?_
  refine w_callS K hl H (fun r h => c_X11_isDrawer l h) mC_yX11_isDrawer mM_RX11_252 mT_yX11_isDrawer mZ_RX11 (Nat.le_of_ble_eq_true rfl) (Nat.le_of_ble_eq_true rfl) np_yX11_isDrawer rfl (Nat.le_of_ble_eq_true rfl) dX11_between_1 (fun r1 H => ?_) ⟨Nat.zero_le _, Nat.zero_le _⟩
  refine w_if_eq K 24 dX11_between_4 (by decide) H (fun _ H => ?_) (fun _ H => ?_)
  · exact r_sub [] rfl (t_X11_between_24 K hl H D)
  · refine r_iload_n K 2 dX11_between_7 rfl rfl ?_
    refine w_callS K hl H (fun r h => c_X11_isDrawer l h) mC_yX11_isDrawer mM_RX11_252 mT_yX11_isDrawer mZ_RX11 (Nat.le_of_ble_eq_true rfl) (Nat.le_of_ble_eq_true rfl) np_yX11_isDrawer rfl (Nat.le_of_ble_eq_true rfl) dX11_between_8 (fun r2 H => ?_) ⟨Nat.zero_le _, Nat.zero_le _⟩
    refine w_if_eq K 24 dX11_between_11 (by decide) H (fun _ H => ?_) (fun _ H => ?_)
    · exact r_sub [] rfl (t_X11_between_24 K hl H D)
    · refine r_iload_n K 3 dX11_between_14 rfl rfl ?_
      refine r_iconst (v := 1) K dX11_between_15 (by decide) ?_
      refine r_bipush (v := 50) K dX11_between_16 (by decide) ?_
      refine w_callS K hl H (fun r h => c_X11_within l h) mC_yX11_within mM_RX11_133 mT_yX11_within mZ_RX11 (Nat.le_of_ble_eq_true rfl) (Nat.le_of_ble_eq_true rfl) np_yX11_within rfl (Nat.le_of_ble_eq_true rfl) dX11_between_18 (fun r3 H => ?_) ⟨Nat.zero_le _, Nat.zero_le _⟩
      refine w_if_ne K 26 dX11_between_21 (by decide) H (fun _ H => ?_) (fun _ H => ?_)
      · refine r_aload_n K 0 dX11_between_26 rfl rfl ?_
        refine w_getO K vc11 inX11 3 (by decide) mF_RX11_35 dX11_between_27 H (fun x4 H => ?_)
        refine w_getO K vc3 inX3 1 (by decide) mF_RX11_255 dX11_between_30 H (fun x5 H => ?_)
        refine r_iload_n K 1 dX11_between_33 rfl rfl ?_
        refine w_aald K 24 rfl rfl dX11_between_34 H (fun x6 H => ?_)
        refine r_astore K [(4, .ref _), (0, .ref _), (1, .int _), (2, .int _), (3, .int _)] dX11_between_35 (by decide) rfl ?_
        refine r_aload_n K 1 dX11_between_37 rfl rfl ?_
        refine w_getO K vc11 inX11 3 (by decide) mF_RX11_35 dX11_between_38 H (fun x7 H => ?_)
        refine w_getO K vc3 inX3 1 (by decide) mF_RX11_255 dX11_between_41 H (fun x8 H => ?_)
        refine r_iload_n K 3 dX11_between_44 rfl rfl ?_
        refine w_aald K 24 rfl rfl dX11_between_45 H (fun x9 H => ?_)
        refine r_astore K [(5, .ref _), (4, .ref _), (0, .ref _), (1, .int _), (2, .int _), (3, .int _)] dX11_between_46 (by decide) rfl ?_
        refine r_aload K 1 dX11_between_48 rfl ?_
        refine w_getI K vc10 inX10 0 (by decide) mF_RX11_263 dX11_between_50 H (fun x10 H => ?_)
        refine w_if_eq K 64 dX11_between_53 (by decide) H (fun _ H => ?_) (fun _ H => ?_)
        · exact r_sub [] rfl (t_X11_between_64 K hl H D)
        · refine r_aload K 0 dX11_between_56 rfl ?_
          refine w_getI K vc10 inX10 0 (by decide) mF_RX11_263 dX11_between_58 H (fun x11 H => ?_)
          refine w_if_ne K 67 dX11_between_61 (by decide) H (fun _ H => ?_) (fun _ H => ?_)
          · refine r_aload K 0 dX11_between_67 rfl ?_
            refine w_getI K vc10 inX10 0 (by decide) mF_RX11_263 dX11_between_69 H (fun x12 H => ?_)
            refine r_aload K 1 dX11_between_72 rfl ?_
            refine w_getI K vc10 inX10 0 (by decide) mF_RX11_263 dX11_between_74 H (fun x13 H => ?_)
            refine r_iconst (v := 1) K dX11_between_77 (by decide) ?_
            refine r_isub K dX11_between_78 ?_
            refine w_icmp_eq K 85 dX11_between_79 (by decide) H (fun _ H => ?_) (fun _ H => ?_)
            · refine r_aload K 1 dX11_between_85 rfl ?_
              refine r_aload K 0 dX11_between_87 rfl ?_
              refine r_iload_n K 5 dX11_between_89 rfl rfl ?_
              refine w_callV K hl H (fun r h => c_X10_rootsEnclose l h) mC_yX10_rootsEnclose mM_RX11_330 mI_yX10_rootsEnclose mS_yX10_rootsEnclose mZ_RX10 vc10 (Nat.le_of_ble_eq_true rfl) (Nat.le_of_ble_eq_true rfl) np_yX10_rootsEnclose rfl (Nat.le_of_ble_eq_true rfl) dX11_between_90 (fun r14 H => ?_) ⟨Nat.zero_le _, Nat.zero_le _⟩
              refine w_if_eq K 100 dX11_between_93 (by decide) H (fun _ H => ?_) (fun _ H => ?_)
              · refine r_iconst (v := 0) K dX11_between_100 (by decide) ?_
                exact r_sub [] rfl (t_X11_between_101 K hl H D)
              · refine r_iconst (v := 1) K dX11_between_96 (by decide) ?_
                refine r_goto K 101 dX11_between_97 (by decide) ?_
                exact r_sub [] rfl (t_X11_between_101 K hl H D)
            · refine r_bipush (v := -3) K dX11_between_82 (by decide) ?_
              cases H
              obtain ⟨rfl, rfl⟩ := jfin2 D
              exact r_iret K dX11_between_84
          · exact r_sub [] rfl (t_X11_between_64 K hl H D)
      · exact r_sub [] rfl (t_X11_between_24 K hl H D)
theorem c_X11_between (l : Launch) {n : Nat} {Y : jY} {v0 : Nat} {v1 : Int32} {v2 : Int32} {v3 : Int32} {μ : jM} {z : Int32 × jM} (H : f_X11_between Y v0 v1 v2 v3 μ = some z) : jC l yX11_between cX11_between 6 (some .int) 5 0 0 [.ref v0, .int v1, .int v2, .int v3] n Y μ n Y (some (.int z.1)) z.2 := by
  refine jC_of (by decide +kernel) (Nat.le_of_ble_eq_true rfl) (fun X hl K _ _ _ => ?_)
  obtain ⟨rr, μr⟩ := z
  exact t_X11_between_0 K hl H rfl
/-! RX11 join(III)I -/
def b_X11_join_22 (Y : jY) (μ : jM) : Option (Int32 × jM) :=
  some ((-1 : Int32), μ)
def b_X11_join_62 (Y : jY) (μ : jM) : Option (Int32 × jM) :=
  some ((-2 : Int32), μ)
def f_X11_join (Y : jY) (v0 : Nat) (v1 : Int32) (v2 : Int32) (v3 : Int32) (μ : jM) : Option (Int32 × jM) :=
  (f_X11_isDrawer Y v1 μ).bind fun r1 =>
  if r1.1 = 0 then
    b_X11_join_22 Y r1.2
  else
    (f_X11_isDrawer Y v2 r1.2).bind fun r2 =>
    if r2.1 = 0 then
      b_X11_join_22 Y r2.2
    else
      (f_X10_canBe Y ((0 : Int32)) v3 r2.2).bind fun r3 =>
      if r3.1 = 0 then
        b_X11_join_22 Y r3.2
      else
        (jgO Y r3.2 v0 11 3).bind fun x4 =>
        (jgO Y r3.2 x4 3 1).bind fun x5 =>
        (jaO Y r3.2 x5 24 v1).bind fun x6 =>
        (jgO Y r3.2 v0 11 3).bind fun x7 =>
        (jgO Y r3.2 x7 3 1).bind fun x8 =>
        (jaO Y r3.2 x8 24 v2).bind fun x9 =>
        (jgI Y r3.2 x6 10 0).bind fun x10 =>
        if x10 = 0 then
          b_X11_join_62 Y r3.2
        else
          (jgI Y r3.2 x9 10 0).bind fun x11 =>
          if x11 = 0 then
            b_X11_join_62 Y r3.2
          else
            (jgI Y r3.2 x6 10 0).bind fun x12 =>
            (jgI Y r3.2 x9 10 0).bind fun x13 =>
            if ((x12 + x13)) ≤ ((5 : Int32)) then
              (jrcv Y x6 10 (f_X10_append Y x6 x9 v3 r3.2)).bind fun μ14 =>
              (jgI Y μ14 x6 10 0).bind fun x15 =>
              some (x15, μ14)
            else
              some ((-3 : Int32), r3.2)
set_option maxRecDepth 10000 in
theorem t_X11_join_22 {X : jX} {l : Launch} {n : Nat} {Y : jY} (K : jOK X RX11 cX11_join 6 (some .int) 3) (hl : X.2.1 = l) {rr : Int32} {μr : jM} {μ : jM} {z : (Int32 × jM)} (H : b_X11_join_22 Y μ = some z) (D : z = (rr, μr)) : JW X (jEnd X n Y (some (.int rr)) μr 0 0) 0 0 n Y 22 [] [] μ := by
  unfold b_X11_join_22 at H
  refine r_iconst (v := -1) K dX11_join_22 (by decide) ?_
  cases H
  obtain ⟨rfl, rfl⟩ := jfin2 D
  exact r_iret K dX11_join_23
set_option maxRecDepth 10000 in
theorem t_X11_join_62 {X : jX} {l : Launch} {n : Nat} {Y : jY} (K : jOK X RX11 cX11_join 6 (some .int) 3) (hl : X.2.1 = l) {rr : Int32} {μr : jM} {μ : jM} {z : (Int32 × jM)} (H : b_X11_join_62 Y μ = some z) (D : z = (rr, μr)) : JW X (jEnd X n Y (some (.int rr)) μr 0 0) 0 0 n Y 62 [] [] μ := by
  unfold b_X11_join_62 at H
  refine r_bipush (v := -2) K dX11_join_62 (by decide) ?_
  cases H
  obtain ⟨rfl, rfl⟩ := jfin2 D
  exact r_iret K dX11_join_64
set_option maxRecDepth 10000 in
theorem t_X11_join_0 {X : jX} {l : Launch} {n : Nat} {Y : jY} (K : jOK X RX11 cX11_join 6 (some .int) 3) (hl : X.2.1 = l) {rr : Int32} {μr : jM} {v0 : Nat} {v1 : Int32} {v2 : Int32} {v3 : Int32} {μ : jM} {z : (Int32 × jM)} (H : f_X11_join Y v0 v1 v2 v3 μ = some z) (D : z = (rr, μr)) : JW X (jEnd X n Y (some (.int rr)) μr 0 0) 0 0 n Y 0 [(0, .ref v0), (1, .int v1), (2, .int v2), (3, .int v3)] [] μ := by
  unfold f_X11_join at H
  refine r_iload_n K 1 dX11_join_0 rfl rfl ?_
  refine w_callS K hl H (fun r h => c_X11_isDrawer l h) mC_yX11_isDrawer mM_RX11_252 mT_yX11_isDrawer mZ_RX11 (Nat.le_of_ble_eq_true rfl) (Nat.le_of_ble_eq_true rfl) np_yX11_isDrawer rfl (Nat.le_of_ble_eq_true rfl) dX11_join_1 (fun r1 H => ?_) ⟨Nat.zero_le _, Nat.zero_le _⟩
  refine w_if_eq K 22 dX11_join_4 (by decide) H (fun _ H => ?_) (fun _ H => ?_)
  · exact r_sub [] rfl (t_X11_join_22 K hl H D)
  · refine r_iload_n K 2 dX11_join_7 rfl rfl ?_
    refine w_callS K hl H (fun r h => c_X11_isDrawer l h) mC_yX11_isDrawer mM_RX11_252 mT_yX11_isDrawer mZ_RX11 (Nat.le_of_ble_eq_true rfl) (Nat.le_of_ble_eq_true rfl) np_yX11_isDrawer rfl (Nat.le_of_ble_eq_true rfl) dX11_join_8 (fun r2 H => ?_) ⟨Nat.zero_le _, Nat.zero_le _⟩
    refine w_if_eq K 22 dX11_join_11 (by decide) H (fun _ H => ?_) (fun _ H => ?_)
    · exact r_sub [] rfl (t_X11_join_22 K hl H D)
    · refine r_iconst (v := 0) K dX11_join_14 (by decide) ?_
      refine r_iload_n K 3 dX11_join_15 rfl rfl ?_
      refine w_callS K hl H (fun r h => c_X10_canBe l h) mC_yX10_canBe mM_RX11_274 mT_yX10_canBe mZ_RX10 (Nat.le_of_ble_eq_true rfl) (Nat.le_of_ble_eq_true rfl) np_yX10_canBe rfl (Nat.le_of_ble_eq_true rfl) dX11_join_16 (fun r3 H => ?_) ⟨Nat.zero_le _, Nat.zero_le _⟩
      refine w_if_ne K 24 dX11_join_19 (by decide) H (fun _ H => ?_) (fun _ H => ?_)
      · refine r_aload_n K 0 dX11_join_24 rfl rfl ?_
        refine w_getO K vc11 inX11 3 (by decide) mF_RX11_35 dX11_join_25 H (fun x4 H => ?_)
        refine w_getO K vc3 inX3 1 (by decide) mF_RX11_255 dX11_join_28 H (fun x5 H => ?_)
        refine r_iload_n K 1 dX11_join_31 rfl rfl ?_
        refine w_aald K 24 rfl rfl dX11_join_32 H (fun x6 H => ?_)
        refine r_astore K [(4, .ref _), (0, .ref _), (1, .int _), (2, .int _), (3, .int _)] dX11_join_33 (by decide) rfl ?_
        refine r_aload_n K 1 dX11_join_35 rfl rfl ?_
        refine w_getO K vc11 inX11 3 (by decide) mF_RX11_35 dX11_join_36 H (fun x7 H => ?_)
        refine w_getO K vc3 inX3 1 (by decide) mF_RX11_255 dX11_join_39 H (fun x8 H => ?_)
        refine r_iload_n K 3 dX11_join_42 rfl rfl ?_
        refine w_aald K 24 rfl rfl dX11_join_43 H (fun x9 H => ?_)
        refine r_astore K [(5, .ref _), (4, .ref _), (0, .ref _), (1, .int _), (2, .int _), (3, .int _)] dX11_join_44 (by decide) rfl ?_
        refine r_aload K 1 dX11_join_46 rfl ?_
        refine w_getI K vc10 inX10 0 (by decide) mF_RX11_263 dX11_join_48 H (fun x10 H => ?_)
        refine w_if_eq K 62 dX11_join_51 (by decide) H (fun _ H => ?_) (fun _ H => ?_)
        · exact r_sub [] rfl (t_X11_join_62 K hl H D)
        · refine r_aload K 0 dX11_join_54 rfl ?_
          refine w_getI K vc10 inX10 0 (by decide) mF_RX11_263 dX11_join_56 H (fun x11 H => ?_)
          refine w_if_ne K 65 dX11_join_59 (by decide) H (fun _ H => ?_) (fun _ H => ?_)
          · refine r_aload K 1 dX11_join_65 rfl ?_
            refine w_getI K vc10 inX10 0 (by decide) mF_RX11_263 dX11_join_67 H (fun x12 H => ?_)
            refine r_aload K 0 dX11_join_70 rfl ?_
            refine w_getI K vc10 inX10 0 (by decide) mF_RX11_263 dX11_join_72 H (fun x13 H => ?_)
            refine r_iadd K dX11_join_75 ?_
            refine r_iconst (v := 5) K dX11_join_76 (by decide) ?_
            refine w_icmp_le K 83 dX11_join_77 (by decide) H (fun _ H => ?_) (fun _ H => ?_)
            · refine r_aload K 1 dX11_join_83 rfl ?_
              refine r_aload K 0 dX11_join_85 rfl ?_
              refine r_iload_n K 5 dX11_join_87 rfl rfl ?_
              refine w_callV K hl H (fun r h => c_X10_append l h) mC_yX10_append mM_RX11_357 mI_yX10_append mS_yX10_append mZ_RX10 vc10 (Nat.le_of_ble_eq_true rfl) (Nat.le_of_ble_eq_true rfl) np_yX10_append rfl (Nat.le_of_ble_eq_true rfl) dX11_join_88 (fun μ14 H => ?_) ⟨Nat.zero_le _, Nat.zero_le _⟩
              refine r_aload K 1 dX11_join_91 rfl ?_
              refine w_getI K vc10 inX10 0 (by decide) mF_RX11_263 dX11_join_93 H (fun x15 H => ?_)
              cases H
              obtain ⟨rfl, rfl⟩ := jfin2 D
              exact r_iret K dX11_join_96
            · refine r_bipush (v := -3) K dX11_join_80 (by decide) ?_
              cases H
              obtain ⟨rfl, rfl⟩ := jfin2 D
              exact r_iret K dX11_join_82
          · exact r_sub [] rfl (t_X11_join_62 K hl H D)
      · exact r_sub [] rfl (t_X11_join_22 K hl H D)
theorem c_X11_join (l : Launch) {n : Nat} {Y : jY} {v0 : Nat} {v1 : Int32} {v2 : Int32} {v3 : Int32} {μ : jM} {z : Int32 × jM} (H : f_X11_join Y v0 v1 v2 v3 μ = some z) : jC l yX11_join cX11_join 6 (some .int) 3 0 0 [.ref v0, .int v1, .int v2, .int v3] n Y μ n Y (some (.int z.1)) z.2 := by
  refine jC_of (by decide +kernel) (Nat.le_of_ble_eq_true rfl) (fun X hl K _ _ _ => ?_)
  obtain ⟨rr, μr⟩ := z
  exact t_X11_join_0 K hl H rfl
/-! RX11 value(III)J -/
def b_X11_value_39 (Y : jY) (μ : jM) : Option (Int64 × jM) :=
  some ((-9223372036854775808 : Int64), μ)
def f_X11_value (Y : jY) (v0 : Nat) (v1 : Int32) (v2 : Int32) (v3 : Int32) (μ : jM) : Option (Int64 × jM) :=
  (jrcv Y v0 11 (f_X11_isFilled Y v0 v1 μ)).bind fun r1 =>
  if r1.1 = 0 then
    b_X11_value_39 Y r1.2
  else
    (jgO Y r1.2 v0 11 3).bind fun x2 =>
    (jgO Y r1.2 x2 3 1).bind fun x3 =>
    (jaO Y r1.2 x3 24 v1).bind fun x4 =>
    (jgI Y r1.2 x4 10 0).bind fun x5 =>
    (f_X11_within Y v2 ((0 : Int32)) x5 r1.2).bind fun r6 =>
    if r6.1 = 0 then
      b_X11_value_39 Y r6.2
    else
      (f_X11_within Y v3 ((-20 : Int32)) ((20 : Int32)) r6.2).bind fun r7 =>
      if r7.1 = 0 then
        b_X11_value_39 Y r7.2
      else
        (jgO Y r7.2 v0 11 3).bind fun x8 =>
        (jgO Y r7.2 x8 3 1).bind fun x9 =>
        (jaO Y r7.2 x9 24 v1).bind fun x10 =>
        (jrcv Y x10 10 (f_X10_valueAt Y x10 ((0 : Int32)) v2 v3 ((1 : Int32)) r7.2)).bind fun r11 =>
        some (r11.1, r11.2)
set_option maxRecDepth 10000 in
theorem t_X11_value_39 {X : jX} {l : Launch} {n : Nat} {Y : jY} (K : jOK X RX11 cX11_value 4 (some .long) 4) (hl : X.2.1 = l) {rr : Int64} {μr : jM} {μ : jM} {z : (Int64 × jM)} (H : b_X11_value_39 Y μ = some z) (D : z = (rr, μr)) : JW X (jEnd X n Y (some (.long rr)) μr 0 0) 0 0 n Y 39 [] [] μ := by
  unfold b_X11_value_39 at H
  refine r_ldc2 K (-9223372036854775808) mc_RX11_151 dX11_value_39 ?_
  cases H
  obtain ⟨rfl, rfl⟩ := jfin2 D
  exact r_lret K dX11_value_42
set_option maxRecDepth 10000 in
theorem t_X11_value_0 {X : jX} {l : Launch} {n : Nat} {Y : jY} (K : jOK X RX11 cX11_value 4 (some .long) 4) (hl : X.2.1 = l) {rr : Int64} {μr : jM} {v0 : Nat} {v1 : Int32} {v2 : Int32} {v3 : Int32} {μ : jM} {z : (Int64 × jM)} (H : f_X11_value Y v0 v1 v2 v3 μ = some z) (D : z = (rr, μr)) : JW X (jEnd X n Y (some (.long rr)) μr 0 0) 0 0 n Y 0 [(0, .ref v0), (1, .int v1), (2, .int v2), (3, .int v3)] [] μ := by
  unfold f_X11_value at H
  refine r_aload_n K 0 dX11_value_0 rfl rfl ?_
  refine r_iload_n K 1 dX11_value_1 rfl rfl ?_
  refine w_callV K hl H (fun r h => c_X11_isFilled l h) mC_yX11_isFilled mM_RX11_285 mI_yX11_isFilled mS_yX11_isFilled mZ_RX11 vc11 (Nat.le_of_ble_eq_true rfl) (Nat.le_of_ble_eq_true rfl) np_yX11_isFilled rfl (Nat.le_of_ble_eq_true rfl) dX11_value_2 (fun r1 H => ?_) ⟨Nat.zero_le _, Nat.zero_le _⟩
  refine w_if_eq K 39 dX11_value_5 (by decide) H (fun _ H => ?_) (fun _ H => ?_)
  · exact r_sub [] rfl (t_X11_value_39 K hl H D)
  · refine r_iload_n K 2 dX11_value_8 rfl rfl ?_
    refine r_iconst (v := 0) K dX11_value_9 (by decide) ?_
    refine r_aload_n K 0 dX11_value_10 rfl rfl ?_
    refine w_getO K vc11 inX11 3 (by decide) mF_RX11_35 dX11_value_11 H (fun x2 H => ?_)
    refine w_getO K vc3 inX3 1 (by decide) mF_RX11_255 dX11_value_14 H (fun x3 H => ?_)
    refine r_iload_n K 1 dX11_value_17 rfl rfl ?_
    refine w_aald K 24 rfl rfl dX11_value_18 H (fun x4 H => ?_)
    refine w_getI K vc10 inX10 0 (by decide) mF_RX11_263 dX11_value_19 H (fun x5 H => ?_)
    refine w_callS K hl H (fun r h => c_X11_within l h) mC_yX11_within mM_RX11_133 mT_yX11_within mZ_RX11 (Nat.le_of_ble_eq_true rfl) (Nat.le_of_ble_eq_true rfl) np_yX11_within rfl (Nat.le_of_ble_eq_true rfl) dX11_value_22 (fun r6 H => ?_) ⟨Nat.zero_le _, Nat.zero_le _⟩
    refine w_if_eq K 39 dX11_value_25 (by decide) H (fun _ H => ?_) (fun _ H => ?_)
    · exact r_sub [] rfl (t_X11_value_39 K hl H D)
    · refine r_iload_n K 3 dX11_value_28 rfl rfl ?_
      refine r_bipush (v := -20) K dX11_value_29 (by decide) ?_
      refine r_bipush (v := 20) K dX11_value_31 (by decide) ?_
      refine w_callS K hl H (fun r h => c_X11_within l h) mC_yX11_within mM_RX11_133 mT_yX11_within mZ_RX11 (Nat.le_of_ble_eq_true rfl) (Nat.le_of_ble_eq_true rfl) np_yX11_within rfl (Nat.le_of_ble_eq_true rfl) dX11_value_33 (fun r7 H => ?_) ⟨Nat.zero_le _, Nat.zero_le _⟩
      refine w_if_ne K 43 dX11_value_36 (by decide) H (fun _ H => ?_) (fun _ H => ?_)
      · refine r_aload_n K 0 dX11_value_43 rfl rfl ?_
        refine w_getO K vc11 inX11 3 (by decide) mF_RX11_35 dX11_value_44 H (fun x8 H => ?_)
        refine w_getO K vc3 inX3 1 (by decide) mF_RX11_255 dX11_value_47 H (fun x9 H => ?_)
        refine r_iload_n K 1 dX11_value_50 rfl rfl ?_
        refine w_aald K 24 rfl rfl dX11_value_51 H (fun x10 H => ?_)
        refine r_iconst (v := 0) K dX11_value_52 (by decide) ?_
        refine r_iload_n K 2 dX11_value_53 rfl rfl ?_
        refine r_iload_n K 3 dX11_value_54 rfl rfl ?_
        refine r_iconst (v := 1) K dX11_value_55 (by decide) ?_
        refine w_callV K hl H (fun r h => c_X10_valueAt l h) mC_yX10_valueAt mM_RX11_296 mI_yX10_valueAt mS_yX10_valueAt mZ_RX10 vc10 (Nat.le_of_ble_eq_true rfl) (Nat.le_of_ble_eq_true rfl) np_yX10_valueAt rfl (Nat.le_of_ble_eq_true rfl) dX11_value_56 (fun r11 H => ?_) ⟨Nat.zero_le _, Nat.zero_le _⟩
        cases H
        obtain ⟨rfl, rfl⟩ := jfin2 D
        exact r_lret K dX11_value_59
      · exact r_sub [] rfl (t_X11_value_39 K hl H D)
theorem c_X11_value (l : Launch) {n : Nat} {Y : jY} {v0 : Nat} {v1 : Int32} {v2 : Int32} {v3 : Int32} {μ : jM} {z : Int64 × jM} (H : f_X11_value Y v0 v1 v2 v3 μ = some z) : jC l yX11_value cX11_value 4 (some .long) 4 0 0 [.ref v0, .int v1, .int v2, .int v3] n Y μ n Y (some (.long z.1)) z.2 := by
  refine jC_of (by decide +kernel) (Nat.le_of_ble_eq_true rfl) (fun X hl K _ _ _ => ?_)
  obtain ⟨rr, μr⟩ := z
  exact t_X11_value_0 K hl H rfl
/-! RX11 powers(II)J -/
def b_X11_powers_18 (Y : jY) (μ : jM) : Option (Int64 × jM) :=
  some ((-9223372036854775808 : Int64), μ)
def b_X11_powers_27 (Y : jY) (v0 : Nat) (v1 : Int32) (v2 : Int32) (v3 : Int64) (v5 : Int32) (μ : jM) : Option ((Int64 × Int32 × jM) ⊕ (Int64 × jM)) :=
  (jgO Y μ v0 11 3).bind fun x1 =>
  (jgO Y μ x1 3 1).bind fun x2 =>
  (jaO Y μ x2 24 v1).bind fun x3 =>
  (jgI Y μ x3 10 0).bind fun x4 =>
  if x4 ≤ v5 then
    some (.inr (v3, μ))
  else
    (jgO Y μ v0 11 9).bind fun x5 =>
    (jgO Y μ v0 11 3).bind fun x6 =>
    (jgO Y μ x6 3 1).bind fun x7 =>
    (jaO Y μ x7 24 v1).bind fun x8 =>
    (jrcv Y x5 4 (f_X4_walk Y x5 x8 v2 v5 v5 μ)).bind fun r9 =>
    some (.inl ((v3 + r9.1), (v5 + (1 : Int32)), r9.2))
def f_X11_powers (Y : jY) (v0 : Nat) (v1 : Int32) (v2 : Int32) (μ : jM) : Option (Int64 × jM) :=
  (jrcv Y v0 11 (f_X11_isFilled Y v0 v1 μ)).bind fun r1 =>
  if r1.1 = 0 then
    b_X11_powers_18 Y r1.2
  else
    (f_X11_within Y v2 ((0 : Int32)) ((8 : Int32)) r1.2).bind fun r2 =>
    if r2.1 = 0 then
      b_X11_powers_18 Y r2.2
    else
      jit jF (fun (s : Int64 × Int32 × jM) => b_X11_powers_27 Y v0 v1 v2 s.1 s.2.1 s.2.2) ((0 : Int64), (0 : Int32), r2.2)
set_option maxRecDepth 10000 in
theorem t_X11_powers_18 {X : jX} {l : Launch} {n : Nat} {Y : jY} (K : jOK X RX11 cX11_powers 6 (some .long) 4) (hl : X.2.1 = l) {rr : Int64} {μr : jM} {μ : jM} {z : (Int64 × jM)} (H : b_X11_powers_18 Y μ = some z) (D : z = (rr, μr)) : JW X (jEnd X n Y (some (.long rr)) μr 0 0) 0 0 n Y 18 [] [] μ := by
  unfold b_X11_powers_18 at H
  refine r_ldc2 K (-9223372036854775808) mc_RX11_151 dX11_powers_18 ?_
  cases H
  obtain ⟨rfl, rfl⟩ := jfin2 D
  exact r_lret K dX11_powers_21
set_option maxRecDepth 10000 in
theorem t_X11_powers_27 {X : jX} {l : Launch} {n : Nat} {Y : jY} (K : jOK X RX11 cX11_powers 6 (some .long) 4) (hl : X.2.1 = l) {rr : Int64} {μr : jM} {v0 : Nat} {v1 : Int32} {v2 : Int32} {v3 : Int64} {v5 : Int32} {μ : jM} {z : ((Int64 × Int32 × jM) ⊕ (Int64 × jM))} (H : b_X11_powers_27 Y v0 v1 v2 v3 v5 μ = some z) (D : Sum.elim (fun (s : Int64 × Int32 × jM) => JW X (jEnd X n Y (some (.long rr)) μr 0 0) 0 0 n Y 27 [(0, .ref v0), (1, .int v1), (2, .int v2), (3, .long s.1), (5, .int s.2.1)] [] s.2.2) (fun r => r = (rr, μr)) z) : JW X (jEnd X n Y (some (.long rr)) μr 0 0) 0 0 n Y 27 [(0, .ref v0), (1, .int v1), (2, .int v2), (3, .long v3), (5, .int v5)] [] μ := by
  unfold b_X11_powers_27 at H
  refine r_iload K 4 dX11_powers_27 rfl ?_
  refine r_aload_n K 0 dX11_powers_29 rfl rfl ?_
  refine w_getO K vc11 inX11 3 (by decide) mF_RX11_35 dX11_powers_30 H (fun x1 H => ?_)
  refine w_getO K vc3 inX3 1 (by decide) mF_RX11_255 dX11_powers_33 H (fun x2 H => ?_)
  refine r_iload_n K 1 dX11_powers_36 rfl rfl ?_
  refine w_aald K 24 rfl rfl dX11_powers_37 H (fun x3 H => ?_)
  refine w_getI K vc10 inX10 0 (by decide) mF_RX11_263 dX11_powers_38 H (fun x4 H => ?_)
  refine w_icmp_ge K 74 dX11_powers_41 (by decide) H (fun _ H => ?_) (fun _ H => ?_)
  · refine r_lload_n K 3 dX11_powers_74 rfl rfl ?_
    cases H
    simp only [Sum.elim_inr] at D
    obtain ⟨rfl, rfl⟩ := jfin2 D
    exact r_lret K dX11_powers_75
  · refine r_lload_n K 3 dX11_powers_44 rfl rfl ?_
    refine r_aload_n K 0 dX11_powers_45 rfl rfl ?_
    refine w_getO K vc11 inX11 9 (by decide) mF_RX11_73 dX11_powers_46 H (fun x5 H => ?_)
    refine r_aload_n K 0 dX11_powers_49 rfl rfl ?_
    refine w_getO K vc11 inX11 3 (by decide) mF_RX11_35 dX11_powers_50 H (fun x6 H => ?_)
    refine w_getO K vc3 inX3 1 (by decide) mF_RX11_255 dX11_powers_53 H (fun x7 H => ?_)
    refine r_iload_n K 1 dX11_powers_56 rfl rfl ?_
    refine w_aald K 24 rfl rfl dX11_powers_57 H (fun x8 H => ?_)
    refine r_iload_n K 2 dX11_powers_58 rfl rfl ?_
    refine r_iload K 4 dX11_powers_59 rfl ?_
    refine r_iload K 4 dX11_powers_61 rfl ?_
    refine w_callV K hl H (fun r h => c_X4_walk l h) mC_yX4_walk mM_RX11_339 mI_yX4_walk mS_yX4_walk mZ_RX4 vc4 (Nat.le_of_ble_eq_true rfl) (Nat.le_of_ble_eq_true rfl) np_yX4_walk rfl (Nat.le_of_ble_eq_true rfl) dX11_powers_63 (fun r9 H => ?_) ⟨Nat.zero_le _, Nat.zero_le _⟩
    refine r_ladd K dX11_powers_66 ?_
    refine r_lstore_n K [(3, .long _), (0, .ref _), (1, .int _), (2, .int _), (5, .int _)] dX11_powers_67 rfl (by decide) rfl ?_
    refine r_iinc K 4 [(5, .int _), (3, .long _), (0, .ref _), (1, .int _), (2, .int _)] (v := _ + (1 : Int32)) dX11_powers_68 rfl rfl (by decide) rfl ?_
    refine r_goto K 27 dX11_powers_71 (by decide) ?_
    cases H
    exact r_sub [2, 3, 4, 1, 0] rfl D
set_option maxRecDepth 10000 in
theorem l_X11_powers_27 {X : jX} {l : Launch} {n : Nat} {Y : jY} (K : jOK X RX11 cX11_powers 6 (some .long) 4) (hl : X.2.1 = l) {rr : Int64} {μr : jM} {v0 : Nat} {v1 : Int32} {v2 : Int32}  {s0 : Int64 × Int32 × jM} {z : (Int64 × jM)} (H : jit jF (fun (s : Int64 × Int32 × jM) => b_X11_powers_27 Y v0 v1 v2 s.1 s.2.1 s.2.2) s0 = some z) (D : z = (rr, μr)) : JW X (jEnd X n Y (some (.long rr)) μr 0 0) 0 0 n Y 27 [(0, .ref v0), (1, .int v1), (2, .int v2), (3, .long s0.1), (5, .int s0.2.1)] [] s0.2.2 :=
  jit_ind (P := fun (s : Int64 × Int32 × jM) => JW X (jEnd X n Y (some (.long rr)) μr 0 0) 0 0 n Y 27 [(0, .ref v0), (1, .int v1), (2, .int v2), (3, .long s.1), (5, .int s.2.1)] [] s.2.2) (D := fun r => r = (rr, μr)) (fun s z Hs Ds => t_X11_powers_27 K hl Hs Ds) jF s0 z H D
set_option maxRecDepth 10000 in
theorem t_X11_powers_0 {X : jX} {l : Launch} {n : Nat} {Y : jY} (K : jOK X RX11 cX11_powers 6 (some .long) 4) (hl : X.2.1 = l) {rr : Int64} {μr : jM} {v0 : Nat} {v1 : Int32} {v2 : Int32} {μ : jM} {z : (Int64 × jM)} (H : f_X11_powers Y v0 v1 v2 μ = some z) (D : z = (rr, μr)) : JW X (jEnd X n Y (some (.long rr)) μr 0 0) 0 0 n Y 0 [(0, .ref v0), (1, .int v1), (2, .int v2)] [] μ := by
  unfold f_X11_powers at H
  refine r_aload_n K 0 dX11_powers_0 rfl rfl ?_
  refine r_iload_n K 1 dX11_powers_1 rfl rfl ?_
  refine w_callV K hl H (fun r h => c_X11_isFilled l h) mC_yX11_isFilled mM_RX11_285 mI_yX11_isFilled mS_yX11_isFilled mZ_RX11 vc11 (Nat.le_of_ble_eq_true rfl) (Nat.le_of_ble_eq_true rfl) np_yX11_isFilled rfl (Nat.le_of_ble_eq_true rfl) dX11_powers_2 (fun r1 H => ?_) ⟨Nat.zero_le _, Nat.zero_le _⟩
  refine w_if_eq K 18 dX11_powers_5 (by decide) H (fun _ H => ?_) (fun _ H => ?_)
  · exact r_sub [] rfl (t_X11_powers_18 K hl H D)
  · refine r_iload_n K 2 dX11_powers_8 rfl rfl ?_
    refine r_iconst (v := 0) K dX11_powers_9 (by decide) ?_
    refine r_bipush (v := 8) K dX11_powers_10 (by decide) ?_
    refine w_callS K hl H (fun r h => c_X11_within l h) mC_yX11_within mM_RX11_133 mT_yX11_within mZ_RX11 (Nat.le_of_ble_eq_true rfl) (Nat.le_of_ble_eq_true rfl) np_yX11_within rfl (Nat.le_of_ble_eq_true rfl) dX11_powers_12 (fun r2 H => ?_) ⟨Nat.zero_le _, Nat.zero_le _⟩
    refine w_if_ne K 22 dX11_powers_15 (by decide) H (fun _ H => ?_) (fun _ H => ?_)
    · refine r_lconst (v := 0) K dX11_powers_22 (by decide) ?_
      refine r_lstore_n K [(3, .long _), (0, .ref _), (1, .int _), (2, .int _)] dX11_powers_23 rfl (by decide) rfl ?_
      refine r_iconst (v := 0) K dX11_powers_24 (by decide) ?_
      refine r_istore K [(5, .int _), (3, .long _), (0, .ref _), (1, .int _), (2, .int _)] dX11_powers_25 (by decide) rfl ?_
      exact r_sub [2, 3, 4, 1, 0] rfl (l_X11_powers_27 K hl H D)
    · exact r_sub [] rfl (t_X11_powers_18 K hl H D)
theorem c_X11_powers (l : Launch) {n : Nat} {Y : jY} {v0 : Nat} {v1 : Int32} {v2 : Int32} {μ : jM} {z : Int64 × jM} (H : f_X11_powers Y v0 v1 v2 μ = some z) : jC l yX11_powers cX11_powers 6 (some .long) 4 0 0 [.ref v0, .int v1, .int v2] n Y μ n Y (some (.long z.1)) z.2 := by
  refine jC_of (by decide +kernel) (Nat.le_of_ble_eq_true rfl) (fun X hl K _ _ _ => ?_)
  obtain ⟨rr, μr⟩ := z
  exact t_X11_powers_0 K hl H rfl
/-! RX11 ortho(III)J -/
def b_X11_ortho_41 (Y : jY) (μ : jM) : Option (Int64 × jM) :=
  some ((-9223372036854775808 : Int64), μ)
def f_X11_ortho (Y : jY) (v0 : Nat) (v1 : Int32) (v2 : Int32) (v3 : Int32) (μ : jM) : Option (Int64 × jM) :=
  (jrcv Y v0 11 (f_X11_hasTones Y v0 μ)).bind fun r1 =>
  if r1.1 = 0 then
    b_X11_ortho_41 Y r1.2
  else
    (jgO Y r1.2 v0 11 3).bind fun x2 =>
    (jgO Y r1.2 x2 3 0).bind fun x3 =>
    (jgI Y r1.2 x3 9 0).bind fun x4 =>
    (f_X11_within Y v1 ((0 : Int32)) x4 r1.2).bind fun r5 =>
    if r5.1 = 0 then
      b_X11_ortho_41 Y r5.2
    else
      (f_X11_within Y v2 ((0 : Int32)) v1 r5.2).bind fun r6 =>
      if r6.1 = 0 then
        b_X11_ortho_41 Y r6.2
      else
        (f_X11_isPart Y v3 r6.2).bind fun r7 =>
        if r7.1 = 0 then
          b_X11_ortho_41 Y r7.2
        else
          (jgO Y r7.2 v0 11 7).bind fun x8 =>
          (jgO Y r7.2 v0 11 3).bind fun x9 =>
          (jgO Y r7.2 x9 3 0).bind fun x10 =>
          (jrcv Y x8 8 (f_X8_rebuild Y x8 x10 r7.2)).bind fun μ11 =>
          (jgO Y μ11 v0 11 7).bind fun x12 =>
          (jrcv Y x12 8 (f_X8_orthogonal Y x12 v1 μ11)).bind fun r13 =>
          (jaO Y r13.2 r13.1 23 v2).bind fun x14 =>
          (jrcv Y x14 1 (f_X1_part Y x14 v3 r13.2)).bind fun r15 =>
          some (r15.1, r15.2)
set_option maxRecDepth 10000 in
theorem t_X11_ortho_41 {X : jX} {l : Launch} {n : Nat} {Y : jY} (K : jOK X RX11 cX11_ortho 4 (some .long) 7) (hl : X.2.1 = l) {rr : Int64} {μr : jM} {μ : jM} {z : (Int64 × jM)} (H : b_X11_ortho_41 Y μ = some z) (D : z = (rr, μr)) : JW X (jEnd X n Y (some (.long rr)) μr 0 0) 0 0 n Y 41 [] [] μ := by
  unfold b_X11_ortho_41 at H
  refine r_ldc2 K (-9223372036854775808) mc_RX11_151 dX11_ortho_41 ?_
  cases H
  obtain ⟨rfl, rfl⟩ := jfin2 D
  exact r_lret K dX11_ortho_44
set_option maxRecDepth 10000 in
theorem t_X11_ortho_0 {X : jX} {l : Launch} {n : Nat} {Y : jY} (K : jOK X RX11 cX11_ortho 4 (some .long) 7) (hl : X.2.1 = l) {rr : Int64} {μr : jM} {v0 : Nat} {v1 : Int32} {v2 : Int32} {v3 : Int32} {μ : jM} {z : (Int64 × jM)} (H : f_X11_ortho Y v0 v1 v2 v3 μ = some z) (D : z = (rr, μr)) : JW X (jEnd X n Y (some (.long rr)) μr 0 0) 0 0 n Y 0 [(0, .ref v0), (1, .int v1), (2, .int v2), (3, .int v3)] [] μ := by
  unfold f_X11_ortho at H
  refine r_aload_n K 0 dX11_ortho_0 rfl rfl ?_
  refine w_callV K hl H (fun r h => c_X11_hasTones l h) mC_yX11_hasTones mM_RX11_147 mI_yX11_hasTones mS_yX11_hasTones mZ_RX11 vc11 (Nat.le_of_ble_eq_true rfl) (Nat.le_of_ble_eq_true rfl) np_yX11_hasTones rfl (Nat.le_of_ble_eq_true rfl) dX11_ortho_1 (fun r1 H => ?_) ⟨Nat.zero_le _, Nat.zero_le _⟩
  refine w_if_eq K 41 dX11_ortho_4 (by decide) H (fun _ H => ?_) (fun _ H => ?_)
  · exact r_sub [] rfl (t_X11_ortho_41 K hl H D)
  · refine r_iload_n K 1 dX11_ortho_7 rfl rfl ?_
    refine r_iconst (v := 0) K dX11_ortho_8 (by decide) ?_
    refine r_aload_n K 0 dX11_ortho_9 rfl rfl ?_
    refine w_getO K vc11 inX11 3 (by decide) mF_RX11_35 dX11_ortho_10 H (fun x2 H => ?_)
    refine w_getO K vc3 inX3 0 (by decide) mF_RX11_119 dX11_ortho_13 H (fun x3 H => ?_)
    refine w_getI K vc9 inX9 0 (by decide) mF_RX11_126 dX11_ortho_16 H (fun x4 H => ?_)
    refine w_callS K hl H (fun r h => c_X11_within l h) mC_yX11_within mM_RX11_133 mT_yX11_within mZ_RX11 (Nat.le_of_ble_eq_true rfl) (Nat.le_of_ble_eq_true rfl) np_yX11_within rfl (Nat.le_of_ble_eq_true rfl) dX11_ortho_19 (fun r5 H => ?_) ⟨Nat.zero_le _, Nat.zero_le _⟩
    refine w_if_eq K 41 dX11_ortho_22 (by decide) H (fun _ H => ?_) (fun _ H => ?_)
    · exact r_sub [] rfl (t_X11_ortho_41 K hl H D)
    · refine r_iload_n K 2 dX11_ortho_25 rfl rfl ?_
      refine r_iconst (v := 0) K dX11_ortho_26 (by decide) ?_
      refine r_iload_n K 1 dX11_ortho_27 rfl rfl ?_
      refine w_callS K hl H (fun r h => c_X11_within l h) mC_yX11_within mM_RX11_133 mT_yX11_within mZ_RX11 (Nat.le_of_ble_eq_true rfl) (Nat.le_of_ble_eq_true rfl) np_yX11_within rfl (Nat.le_of_ble_eq_true rfl) dX11_ortho_28 (fun r6 H => ?_) ⟨Nat.zero_le _, Nat.zero_le _⟩
      refine w_if_eq K 41 dX11_ortho_31 (by decide) H (fun _ H => ?_) (fun _ H => ?_)
      · exact r_sub [] rfl (t_X11_ortho_41 K hl H D)
      · refine r_iload_n K 3 dX11_ortho_34 rfl rfl ?_
        refine w_callS K hl H (fun r h => c_X11_isPart l h) mC_yX11_isPart mM_RX11_170 mT_yX11_isPart mZ_RX11 (Nat.le_of_ble_eq_true rfl) (Nat.le_of_ble_eq_true rfl) np_yX11_isPart rfl (Nat.le_of_ble_eq_true rfl) dX11_ortho_35 (fun r7 H => ?_) ⟨Nat.zero_le _, Nat.zero_le _⟩
        refine w_if_ne K 45 dX11_ortho_38 (by decide) H (fun _ H => ?_) (fun _ H => ?_)
        · refine r_aload_n K 0 dX11_ortho_45 rfl rfl ?_
          refine w_getO K vc11 inX11 7 (by decide) mF_RX11_59 dX11_ortho_46 H (fun x8 H => ?_)
          refine r_aload_n K 0 dX11_ortho_49 rfl rfl ?_
          refine w_getO K vc11 inX11 3 (by decide) mF_RX11_35 dX11_ortho_50 H (fun x9 H => ?_)
          refine w_getO K vc3 inX3 0 (by decide) mF_RX11_119 dX11_ortho_53 H (fun x10 H => ?_)
          refine w_callV K hl H (fun r h => c_X8_rebuild l h) mC_yX8_rebuild mM_RX11_185 mI_yX8_rebuild mS_yX8_rebuild mZ_RX8 vc8 (Nat.le_of_ble_eq_true rfl) (Nat.le_of_ble_eq_true rfl) np_yX8_rebuild rfl (Nat.le_of_ble_eq_true rfl) dX11_ortho_56 (fun μ11 H => ?_) ⟨Nat.zero_le _, Nat.zero_le _⟩
          refine r_aload_n K 0 dX11_ortho_59 rfl rfl ?_
          refine w_getO K vc11 inX11 7 (by decide) mF_RX11_59 dX11_ortho_60 H (fun x12 H => ?_)
          refine r_iload_n K 1 dX11_ortho_63 rfl rfl ?_
          refine w_callV K hl H (fun r h => c_X8_orthogonal l h) mC_yX8_orthogonal mM_RX11_193 mI_yX8_orthogonal mS_yX8_orthogonal mZ_RX8 vc8 (Nat.le_of_ble_eq_true rfl) (Nat.le_of_ble_eq_true rfl) np_yX8_orthogonal rfl (Nat.le_of_ble_eq_true rfl) dX11_ortho_64 (fun r13 H => ?_) ⟨Nat.zero_le _, Nat.zero_le _⟩
          refine r_iload_n K 2 dX11_ortho_67 rfl rfl ?_
          refine w_aald K 23 rfl rfl dX11_ortho_68 H (fun x14 H => ?_)
          refine r_iload_n K 3 dX11_ortho_69 rfl rfl ?_
          refine w_callV K hl H (fun r h => c_X1_part l h) mC_yX1_part mM_RX11_177 mI_yX1_part mS_yX1_part mZ_RX1 vc1 (Nat.le_of_ble_eq_true rfl) (Nat.le_of_ble_eq_true rfl) np_yX1_part rfl (Nat.le_of_ble_eq_true rfl) dX11_ortho_70 (fun r15 H => ?_) ⟨Nat.zero_le _, Nat.zero_le _⟩
          cases H
          obtain ⟨rfl, rfl⟩ := jfin2 D
          exact r_lret K dX11_ortho_73
        · exact r_sub [] rfl (t_X11_ortho_41 K hl H D)
theorem c_X11_ortho (l : Launch) {n : Nat} {Y : jY} {v0 : Nat} {v1 : Int32} {v2 : Int32} {v3 : Int32} {μ : jM} {z : Int64 × jM} (H : f_X11_ortho Y v0 v1 v2 v3 μ = some z) : jC l yX11_ortho cX11_ortho 4 (some .long) 7 0 0 [.ref v0, .int v1, .int v2, .int v3] n Y μ n Y (some (.long z.1)) z.2 := by
  refine jC_of (by decide +kernel) (Nat.le_of_ble_eq_true rfl) (fun X hl K _ _ _ => ?_)
  obtain ⟨rr, μr⟩ := z
  exact t_X11_ortho_0 K hl H rfl
/-! RX11 draws(III)I -/
def b_X11_draws_16 (Y : jY) (μ : jM) : Option (Int32 × jM) :=
  some ((-1 : Int32), μ)
def f_X11_draws (Y : jY) (v0 : Nat) (v1 : Int32) (v2 : Int32) (v3 : Int32) (μ : jM) : Option (Int32 × jM) :=
  (f_X11_isDrawer Y v1 μ).bind fun r1 =>
  if r1.1 = 0 then
    b_X11_draws_16 Y r1.2
  else
    (f_X11_within Y v2 ((1 : Int32)) ((5 : Int32)) r1.2).bind fun r2 =>
    if r2.1 = 0 then
      b_X11_draws_16 Y r2.2
    else
      (jgO Y r2.2 v0 11 3).bind fun x3 =>
      (jgO Y r2.2 x3 3 1).bind fun x4 =>
      (jaO Y r2.2 x4 24 v1).bind fun x5 =>
      (jrcv Y x5 10 (f_X10_draw Y x5 v2 v3 r2.2)).bind fun r6 =>
      some (r6.1, r6.2)
set_option maxRecDepth 10000 in
theorem t_X11_draws_16 {X : jX} {l : Launch} {n : Nat} {Y : jY} (K : jOK X RX11 cX11_draws 4 (some .int) 3) (hl : X.2.1 = l) {rr : Int32} {μr : jM} {μ : jM} {z : (Int32 × jM)} (H : b_X11_draws_16 Y μ = some z) (D : z = (rr, μr)) : JW X (jEnd X n Y (some (.int rr)) μr 0 0) 0 0 n Y 16 [] [] μ := by
  unfold b_X11_draws_16 at H
  refine r_iconst (v := -1) K dX11_draws_16 (by decide) ?_
  cases H
  obtain ⟨rfl, rfl⟩ := jfin2 D
  exact r_iret K dX11_draws_17
set_option maxRecDepth 10000 in
theorem t_X11_draws_0 {X : jX} {l : Launch} {n : Nat} {Y : jY} (K : jOK X RX11 cX11_draws 4 (some .int) 3) (hl : X.2.1 = l) {rr : Int32} {μr : jM} {v0 : Nat} {v1 : Int32} {v2 : Int32} {v3 : Int32} {μ : jM} {z : (Int32 × jM)} (H : f_X11_draws Y v0 v1 v2 v3 μ = some z) (D : z = (rr, μr)) : JW X (jEnd X n Y (some (.int rr)) μr 0 0) 0 0 n Y 0 [(0, .ref v0), (1, .int v1), (2, .int v2), (3, .int v3)] [] μ := by
  unfold f_X11_draws at H
  refine r_iload_n K 1 dX11_draws_0 rfl rfl ?_
  refine w_callS K hl H (fun r h => c_X11_isDrawer l h) mC_yX11_isDrawer mM_RX11_252 mT_yX11_isDrawer mZ_RX11 (Nat.le_of_ble_eq_true rfl) (Nat.le_of_ble_eq_true rfl) np_yX11_isDrawer rfl (Nat.le_of_ble_eq_true rfl) dX11_draws_1 (fun r1 H => ?_) ⟨Nat.zero_le _, Nat.zero_le _⟩
  refine w_if_eq K 16 dX11_draws_4 (by decide) H (fun _ H => ?_) (fun _ H => ?_)
  · exact r_sub [] rfl (t_X11_draws_16 K hl H D)
  · refine r_iload_n K 2 dX11_draws_7 rfl rfl ?_
    refine r_iconst (v := 1) K dX11_draws_8 (by decide) ?_
    refine r_iconst (v := 5) K dX11_draws_9 (by decide) ?_
    refine w_callS K hl H (fun r h => c_X11_within l h) mC_yX11_within mM_RX11_133 mT_yX11_within mZ_RX11 (Nat.le_of_ble_eq_true rfl) (Nat.le_of_ble_eq_true rfl) np_yX11_within rfl (Nat.le_of_ble_eq_true rfl) dX11_draws_10 (fun r2 H => ?_) ⟨Nat.zero_le _, Nat.zero_le _⟩
    refine w_if_ne K 18 dX11_draws_13 (by decide) H (fun _ H => ?_) (fun _ H => ?_)
    · refine r_aload_n K 0 dX11_draws_18 rfl rfl ?_
      refine w_getO K vc11 inX11 3 (by decide) mF_RX11_35 dX11_draws_19 H (fun x3 H => ?_)
      refine w_getO K vc3 inX3 1 (by decide) mF_RX11_255 dX11_draws_22 H (fun x4 H => ?_)
      refine r_iload_n K 1 dX11_draws_25 rfl rfl ?_
      refine w_aald K 24 rfl rfl dX11_draws_26 H (fun x5 H => ?_)
      refine r_iload_n K 2 dX11_draws_27 rfl rfl ?_
      refine r_iload_n K 3 dX11_draws_28 rfl rfl ?_
      refine w_callV K hl H (fun r h => c_X10_draw l h) mC_yX10_draw mM_RX11_346 mI_yX10_draw mS_yX10_draw mZ_RX10 vc10 (Nat.le_of_ble_eq_true rfl) (Nat.le_of_ble_eq_true rfl) np_yX10_draw rfl (Nat.le_of_ble_eq_true rfl) dX11_draws_29 (fun r6 H => ?_) ⟨Nat.zero_le _, Nat.zero_le _⟩
      cases H
      obtain ⟨rfl, rfl⟩ := jfin2 D
      exact r_iret K dX11_draws_32
    · exact r_sub [] rfl (t_X11_draws_16 K hl H D)
theorem c_X11_draws (l : Launch) {n : Nat} {Y : jY} {v0 : Nat} {v1 : Int32} {v2 : Int32} {v3 : Int32} {μ : jM} {z : Int32 × jM} (H : f_X11_draws Y v0 v1 v2 v3 μ = some z) : jC l yX11_draws cX11_draws 4 (some .int) 3 0 0 [.ref v0, .int v1, .int v2, .int v3] n Y μ n Y (some (.int z.1)) z.2 := by
  refine jC_of (by decide +kernel) (Nat.le_of_ble_eq_true rfl) (fun X hl K _ _ _ => ?_)
  obtain ⟨rr, μr⟩ := z
  exact t_X11_draws_0 K hl H rfl
/-! RX11 apart()J -/
def b_X11_apart_23 (Y : jY) (t0 : Int64) (μ : jM) : Option (Int64 × jM) :=
  some (t0, μ)
def f_X11_apart (Y : jY) (v0 : Nat) (μ : jM) : Option (Int64 × jM) :=
  (jrcv Y v0 11 (f_X11_hasTones Y v0 μ)).bind fun r1 =>
  if r1.1 = 0 then
    b_X11_apart_23 Y (-9223372036854775808 : Int64) r1.2
  else
    (jgO Y r1.2 v0 11 3).bind fun x2 =>
    (jgO Y r1.2 x2 3 0).bind fun x3 =>
    (jrcv Y x3 9 (f_X9_distances Y x3 r1.2)).bind fun r4 =>
    b_X11_apart_23 Y r4.1 r4.2
set_option maxRecDepth 10000 in
theorem t_X11_apart_23 {X : jX} {l : Launch} {n : Nat} {Y : jY} (K : jOK X RX11 cX11_apart 1 (some .long) 2) (hl : X.2.1 = l) {rr : Int64} {μr : jM} {t0 : Int64} {μ : jM} {z : (Int64 × jM)} (H : b_X11_apart_23 Y t0 μ = some z) (D : z = (rr, μr)) : JW X (jEnd X n Y (some (.long rr)) μr 0 0) 0 0 n Y 23 [] [.long t0] μ := by
  unfold b_X11_apart_23 at H
  cases H
  obtain ⟨rfl, rfl⟩ := jfin2 D
  exact r_lret K dX11_apart_23
set_option maxRecDepth 10000 in
theorem t_X11_apart_0 {X : jX} {l : Launch} {n : Nat} {Y : jY} (K : jOK X RX11 cX11_apart 1 (some .long) 2) (hl : X.2.1 = l) {rr : Int64} {μr : jM} {v0 : Nat} {μ : jM} {z : (Int64 × jM)} (H : f_X11_apart Y v0 μ = some z) (D : z = (rr, μr)) : JW X (jEnd X n Y (some (.long rr)) μr 0 0) 0 0 n Y 0 [(0, .ref v0)] [] μ := by
  unfold f_X11_apart at H
  refine r_aload_n K 0 dX11_apart_0 rfl rfl ?_
  refine w_callV K hl H (fun r h => c_X11_hasTones l h) mC_yX11_hasTones mM_RX11_147 mI_yX11_hasTones mS_yX11_hasTones mZ_RX11 vc11 (Nat.le_of_ble_eq_true rfl) (Nat.le_of_ble_eq_true rfl) np_yX11_hasTones rfl (Nat.le_of_ble_eq_true rfl) dX11_apart_1 (fun r1 H => ?_) ⟨Nat.zero_le _, Nat.zero_le _⟩
  refine w_if_eq K 20 dX11_apart_4 (by decide) H (fun _ H => ?_) (fun _ H => ?_)
  · refine r_ldc2 K (-9223372036854775808) mc_RX11_151 dX11_apart_20 ?_
    exact r_sub [] rfl (t_X11_apart_23 K hl H D)
  · refine r_aload_n K 0 dX11_apart_7 rfl rfl ?_
    refine w_getO K vc11 inX11 3 (by decide) mF_RX11_35 dX11_apart_8 H (fun x2 H => ?_)
    refine w_getO K vc3 inX3 0 (by decide) mF_RX11_119 dX11_apart_11 H (fun x3 H => ?_)
    refine w_callV K hl H (fun r h => c_X9_distances l h) mC_yX9_distances mM_RX11_228 mI_yX9_distances mS_yX9_distances mZ_RX9 vc9 (Nat.le_of_ble_eq_true rfl) (Nat.le_of_ble_eq_true rfl) np_yX9_distances rfl (Nat.le_of_ble_eq_true rfl) dX11_apart_14 (fun r4 H => ?_) ⟨Nat.zero_le _, Nat.zero_le _⟩
    refine r_goto K 23 dX11_apart_17 (by decide) ?_
    exact r_sub [] rfl (t_X11_apart_23 K hl H D)
theorem c_X11_apart (l : Launch) {n : Nat} {Y : jY} {v0 : Nat} {μ : jM} {z : Int64 × jM} (H : f_X11_apart Y v0 μ = some z) : jC l yX11_apart cX11_apart 1 (some .long) 2 0 0 [.ref v0] n Y μ n Y (some (.long z.1)) z.2 := by
  refine jC_of (by decide +kernel) (Nat.le_of_ble_eq_true rfl) (fun X hl K _ _ _ => ?_)
  obtain ⟨rr, μr⟩ := z
  exact t_X11_apart_0 K hl H rfl
/-! RX12 in(III)Z -/
def b_X12_in_15 (Y : jY) (t0 : Int32) (μ : jM) : Option (Int32 × jM) :=
  (jbool t0).bind fun x1 =>
  some (x1, μ)
def b_X12_in_14 (Y : jY) (μ : jM) : Option (Int32 × jM) :=
  b_X12_in_15 Y (0 : Int32) μ
def f_X12_in (Y : jY) (v0 : Int32) (v1 : Int32) (v2 : Int32) (μ : jM) : Option (Int32 × jM) :=
  if v0 < v1 then
    b_X12_in_14 Y μ
  else
    if v2 < v0 then
      b_X12_in_14 Y μ
    else
      b_X12_in_15 Y (1 : Int32) μ
set_option maxRecDepth 10000 in
theorem t_X12_in_15 {X : jX} {l : Launch} {n : Nat} {Y : jY} (K : jOK X RX12 cX12_in 3 (some .boolean) 1) (hl : X.2.1 = l) {rr : Int32} {μr : jM} {t0 : Int32} {μ : jM} {z : (Int32 × jM)} (H : b_X12_in_15 Y t0 μ = some z) (D : z = (rr, μr)) : JW X (jEnd X n Y (some (.int rr)) μr 0 0) 0 0 n Y 15 [] [.int t0] μ := by
  unfold b_X12_in_15 at H
  refine w_zret K dX12_in_15 H (fun hz H => ?_)
  cases H
  obtain ⟨rfl, rfl⟩ := jfin2 D
  exact r_zret K hz dX12_in_15
set_option maxRecDepth 10000 in
theorem t_X12_in_14 {X : jX} {l : Launch} {n : Nat} {Y : jY} (K : jOK X RX12 cX12_in 3 (some .boolean) 1) (hl : X.2.1 = l) {rr : Int32} {μr : jM} {μ : jM} {z : (Int32 × jM)} (H : b_X12_in_14 Y μ = some z) (D : z = (rr, μr)) : JW X (jEnd X n Y (some (.int rr)) μr 0 0) 0 0 n Y 14 [] [] μ := by
  unfold b_X12_in_14 at H
  refine r_iconst (v := 0) K dX12_in_14 (by decide) ?_
  exact r_sub [] rfl (t_X12_in_15 K hl H D)
set_option maxRecDepth 10000 in
theorem t_X12_in_0 {X : jX} {l : Launch} {n : Nat} {Y : jY} (K : jOK X RX12 cX12_in 3 (some .boolean) 1) (hl : X.2.1 = l) {rr : Int32} {μr : jM} {v0 : Int32} {v1 : Int32} {v2 : Int32} {μ : jM} {z : (Int32 × jM)} (H : f_X12_in Y v0 v1 v2 μ = some z) (D : z = (rr, μr)) : JW X (jEnd X n Y (some (.int rr)) μr 0 0) 0 0 n Y 0 [(0, .int v0), (1, .int v1), (2, .int v2)] [] μ := by
  unfold f_X12_in at H
  refine r_iload_n K 0 dX12_in_0 rfl rfl ?_
  refine r_iload_n K 1 dX12_in_1 rfl rfl ?_
  refine w_icmp_lt K 14 dX12_in_2 (by decide) H (fun _ H => ?_) (fun _ H => ?_)
  · exact r_sub [] rfl (t_X12_in_14 K hl H D)
  · refine r_iload_n K 0 dX12_in_5 rfl rfl ?_
    refine r_iload_n K 2 dX12_in_6 rfl rfl ?_
    refine w_icmp_gt K 14 dX12_in_7 (by decide) H (fun _ H => ?_) (fun _ H => ?_)
    · exact r_sub [] rfl (t_X12_in_14 K hl H D)
    · refine r_iconst (v := 1) K dX12_in_10 (by decide) ?_
      refine r_goto K 15 dX12_in_11 (by decide) ?_
      exact r_sub [] rfl (t_X12_in_15 K hl H D)
theorem c_X12_in (l : Launch) {n : Nat} {Y : jY} {v0 : Int32} {v1 : Int32} {v2 : Int32} {μ : jM} {z : Int32 × jM} (H : f_X12_in Y v0 v1 v2 μ = some z) : jC l yX12_in cX12_in 3 (some .boolean) 1 0 0 [.int v0, .int v1, .int v2] n Y μ n Y (some (.int z.1)) z.2 := by
  refine jC_of (by decide +kernel) (Nat.le_of_ble_eq_true rfl) (fun X hl K _ _ _ => ?_)
  obtain ⟨rr, μr⟩ := z
  exact t_X12_in_0 K hl H rfl
/-! RX12 isDrawer(I)Z -/
def f_X12_isDrawer (Y : jY) (v0 : Int32) (μ : jM) : Option (Int32 × jM) :=
  (f_X12_in Y v0 ((0 : Int32)) ((3 : Int32)) μ).bind fun r1 =>
  (jbool r1.1).bind fun x2 =>
  some (x2, r1.2)
set_option maxRecDepth 10000 in
theorem t_X12_isDrawer_0 {X : jX} {l : Launch} {n : Nat} {Y : jY} (K : jOK X RX12 cX12_isDrawer 1 (some .boolean) 2) (hl : X.2.1 = l) {rr : Int32} {μr : jM} {v0 : Int32} {μ : jM} {z : (Int32 × jM)} (H : f_X12_isDrawer Y v0 μ = some z) (D : z = (rr, μr)) : JW X (jEnd X n Y (some (.int rr)) μr 0 0) 0 0 n Y 0 [(0, .int v0)] [] μ := by
  unfold f_X12_isDrawer at H
  refine r_iload_n K 0 dX12_isDrawer_0 rfl rfl ?_
  refine r_iconst (v := 0) K dX12_isDrawer_1 (by decide) ?_
  refine r_iconst (v := 3) K dX12_isDrawer_2 (by decide) ?_
  refine w_callS K hl H (fun r h => c_X12_in l h) mC_yX12_in mM_RX12_134 mT_yX12_in mZ_RX12 (Nat.le_of_ble_eq_true rfl) (Nat.le_of_ble_eq_true rfl) np_yX12_in rfl (Nat.le_of_ble_eq_true rfl) dX12_isDrawer_3 (fun r1 H => ?_) ⟨Nat.zero_le _, Nat.zero_le _⟩
  refine w_zret K dX12_isDrawer_6 H (fun hz H => ?_)
  cases H
  obtain ⟨rfl, rfl⟩ := jfin2 D
  exact r_zret K hz dX12_isDrawer_6
theorem c_X12_isDrawer (l : Launch) {n : Nat} {Y : jY} {v0 : Int32} {μ : jM} {z : Int32 × jM} (H : f_X12_isDrawer Y v0 μ = some z) : jC l yX12_isDrawer cX12_isDrawer 1 (some .boolean) 2 0 0 [.int v0] n Y μ n Y (some (.int z.1)) z.2 := by
  refine jC_of (by decide +kernel) (Nat.le_of_ble_eq_true rfl) (fun X hl K _ _ _ => ?_)
  obtain ⟨rr, μr⟩ := z
  exact t_X12_isDrawer_0 K hl H rfl
/-! RX12 a(II)I -/
def f_X12_a (Y : jY) (v0 : Nat) (v1 : Int32) (v2 : Int32) (μ : jM) : Option (Int32 × jM) :=
  (jgO Y μ v0 12 27).bind fun x1 =>
  (jaI Y μ x1 20 ((((((5 : Int32)) * v1)) + v2))).bind fun x2 =>
  some (x2, μ)
set_option maxRecDepth 10000 in
theorem t_X12_a_0 {X : jX} {l : Launch} {n : Nat} {Y : jY} (K : jOK X RX12 cX12_a 3 (some .int) 1) (hl : X.2.1 = l) {rr : Int32} {μr : jM} {v0 : Nat} {v1 : Int32} {v2 : Int32} {μ : jM} {z : (Int32 × jM)} (H : f_X12_a Y v0 v1 v2 μ = some z) (D : z = (rr, μr)) : JW X (jEnd X n Y (some (.int rr)) μr 0 0) 0 0 n Y 0 [(0, .ref v0), (1, .int v1), (2, .int v2)] [] μ := by
  unfold f_X12_a at H
  refine r_aload_n K 0 dX12_a_0 rfl rfl ?_
  refine w_getO K vc12 inX12 27 (by decide) mF_RX12_51 dX12_a_1 H (fun x1 H => ?_)
  refine r_iconst (v := 5) K dX12_a_4 (by decide) ?_
  refine r_iload_n K 1 dX12_a_5 rfl rfl ?_
  refine r_imul K dX12_a_6 ?_
  refine r_iload_n K 2 dX12_a_7 rfl rfl ?_
  refine r_iadd K dX12_a_8 ?_
  refine w_iald K dX12_a_9 H (fun x2 H => ?_)
  cases H
  obtain ⟨rfl, rfl⟩ := jfin2 D
  exact r_iret K dX12_a_10
theorem c_X12_a (l : Launch) {n : Nat} {Y : jY} {v0 : Nat} {v1 : Int32} {v2 : Int32} {μ : jM} {z : Int32 × jM} (H : f_X12_a Y v0 v1 v2 μ = some z) : jC l yX12_a cX12_a 3 (some .int) 1 0 0 [.ref v0, .int v1, .int v2] n Y μ n Y (some (.int z.1)) z.2 := by
  refine jC_of (by decide +kernel) (Nat.le_of_ble_eq_true rfl) (fun X hl K _ _ _ => ?_)
  obtain ⟨rr, μr⟩ := z
  exact t_X12_a_0 K hl H rfl
/-! RX12 c(II)I -/
def f_X12_c (Y : jY) (v0 : Nat) (v1 : Int32) (v2 : Int32) (μ : jM) : Option (Int32 × jM) :=
  (jgO Y μ v0 12 28).bind fun x1 =>
  (jaI Y μ x1 20 ((((((5 : Int32)) * v1)) + v2))).bind fun x2 =>
  some (x2, μ)
set_option maxRecDepth 10000 in
theorem t_X12_c_0 {X : jX} {l : Launch} {n : Nat} {Y : jY} (K : jOK X RX12 cX12_c 3 (some .int) 1) (hl : X.2.1 = l) {rr : Int32} {μr : jM} {v0 : Nat} {v1 : Int32} {v2 : Int32} {μ : jM} {z : (Int32 × jM)} (H : f_X12_c Y v0 v1 v2 μ = some z) (D : z = (rr, μr)) : JW X (jEnd X n Y (some (.int rr)) μr 0 0) 0 0 n Y 0 [(0, .ref v0), (1, .int v1), (2, .int v2)] [] μ := by
  unfold f_X12_c at H
  refine r_aload_n K 0 dX12_c_0 rfl rfl ?_
  refine w_getO K vc12 inX12 28 (by decide) mF_RX12_54 dX12_c_1 H (fun x1 H => ?_)
  refine r_iconst (v := 5) K dX12_c_4 (by decide) ?_
  refine r_iload_n K 1 dX12_c_5 rfl rfl ?_
  refine r_imul K dX12_c_6 ?_
  refine r_iload_n K 2 dX12_c_7 rfl rfl ?_
  refine r_iadd K dX12_c_8 ?_
  refine w_iald K dX12_c_9 H (fun x2 H => ?_)
  cases H
  obtain ⟨rfl, rfl⟩ := jfin2 D
  exact r_iret K dX12_c_10
theorem c_X12_c (l : Launch) {n : Nat} {Y : jY} {v0 : Nat} {v1 : Int32} {v2 : Int32} {μ : jM} {z : Int32 × jM} (H : f_X12_c Y v0 v1 v2 μ = some z) : jC l yX12_c cX12_c 3 (some .int) 1 0 0 [.ref v0, .int v1, .int v2] n Y μ n Y (some (.int z.1)) z.2 := by
  refine jC_of (by decide +kernel) (Nat.le_of_ble_eq_true rfl) (fun X hl K _ _ _ => ?_)
  obtain ⟨rr, μr⟩ := z
  exact t_X12_c_0 K hl H rfl
/-! RX12 belowOf(IIIII)I -/
def b_X12_belowOf_125 (Y : jY) (v0 : Nat) (v1 : Int32) (v2 : Int32) (v3 : Int32) (v4 : Int32) (v5 : Int32) (v6 : Int64) (v12 : Int32) (v13 : Int64) (v15 : Int32) (t0 : Int32) (t1 : Int32) (μ : jM) : Option ((Int64 × Int64 × Int32 × Int32 × Int32 × jM) ⊕ (Int32 × jM)) :=
  some (.inl (v13, v6, v15, (t0 + t1), (v12 + (1 : Int32)), μ))
def b_X12_belowOf_109 (Y : jY) (v0 : Nat) (v1 : Int32) (v2 : Int32) (v3 : Int32) (v4 : Int32) (v5 : Int32) (v6 : Int64) (v10 : Int32) (v11 : Int32) (v12 : Int32) (v13 : Int64) (t0 : Int32) (μ : jM) : Option ((Int64 × Int64 × Int32 × Int32 × Int32 × jM) ⊕ (Int32 × jM)) :=
  if t0 = v10 then
    b_X12_belowOf_125 Y v0 v1 v2 v3 v4 v5 v6 v12 v13 t0 v11 (1 : Int32) μ
  else
    b_X12_belowOf_125 Y v0 v1 v2 v3 v4 v5 v6 v12 v13 t0 v11 (0 : Int32) μ
def b_X12_belowOf_74 (Y : jY) (v0 : Nat) (v1 : Int32) (v2 : Int32) (v3 : Int32) (v4 : Int32) (v5 : Int32) (v6 : Int64) (v10 : Int32) (v11 : Int32) (v12 : Int32) (t0 : Int64) (t1 : Int64) (μ : jM) : Option ((Int64 × Int64 × Int32 × Int32 × Int32 × jM) ⊕ (Int32 × jM)) :=
  if ((lg_cmp ((t0 - t1)) ((0 : Int64)))) = 0 then
    if v10 = 0 then
      b_X12_belowOf_109 Y v0 v1 v2 v3 v4 v5 v6 v10 v11 v12 (t0 - t1) (1 : Int32) μ
    else
      b_X12_belowOf_109 Y v0 v1 v2 v3 v4 v5 v6 v10 v11 v12 (t0 - t1) (0 : Int32) μ
  else
    if ((lg_cmp ((t0 - t1)) ((0 : Int64)))) ≤ 0 then
      b_X12_belowOf_109 Y v0 v1 v2 v3 v4 v5 v6 v10 v11 v12 (t0 - t1) (0 : Int32) μ
    else
      b_X12_belowOf_109 Y v0 v1 v2 v3 v4 v5 v6 v10 v11 v12 (t0 - t1) (1 : Int32) μ
def b_X12_belowOf_15 (Y : jY) (v0 : Nat) (v1 : Int32) (v2 : Int32) (v3 : Int32) (v4 : Int32) (v5 : Int32) (v6 : Int64) (v8 : Int64) (v10 : Int32) (v11 : Int32) (v12 : Int32) (μ : jM) : Option ((Int64 × Int64 × Int32 × Int32 × Int32 × jM) ⊕ (Int32 × jM)) :=
  if v3 ≤ v12 then
    some (.inr (v11, μ))
  else
    (jrcv Y v0 12 (f_X12_a Y v0 v1 ((v2 + v12)) μ)).bind fun r1 =>
    if v12 ≤ 0 then
      b_X12_belowOf_74 Y v0 v1 v2 v3 v4 v5 v6 v10 v11 v12 (((((v4.toInt64)) - ((((r1.1.toInt64)) * ((v5.toInt64)))))) * v6) (0 : Int64) r1.2
    else
      (jrcv Y v0 12 (f_X12_c Y v0 v1 ((((v2 + v12)) - ((1 : Int32)))) r1.2)).bind fun r2 =>
      b_X12_belowOf_74 Y v0 v1 v2 v3 v4 v5 v6 v10 v11 v12 (((((v4.toInt64)) - ((((r1.1.toInt64)) * ((v5.toInt64)))))) * v6) (((((((r2.1.toInt64)) * ((v5.toInt64)))) * ((v5.toInt64)))) * v8) r2.2
def f_X12_belowOf (Y : jY) (v0 : Nat) (v1 : Int32) (v2 : Int32) (v3 : Int32) (v4 : Int32) (v5 : Int32) (μ : jM) : Option (Int32 × jM) :=
  jit jF (fun (s : Int64 × Int64 × Int32 × Int32 × Int32 × jM) => b_X12_belowOf_15 Y v0 v1 v2 v3 v4 v5 s.1 s.2.1 s.2.2.1 s.2.2.2.1 s.2.2.2.2.1 s.2.2.2.2.2) ((1 : Int64), (0 : Int64), (1 : Int32), (0 : Int32), (0 : Int32), μ)
set_option maxRecDepth 10000 in
theorem t_X12_belowOf_125 {X : jX} {l : Launch} {n : Nat} {Y : jY} (K : jOK X RX12 cX12_belowOf 16 (some .int) 2) (hl : X.2.1 = l) {rr : Int32} {μr : jM} {v0 : Nat} {v1 : Int32} {v2 : Int32} {v3 : Int32} {v4 : Int32} {v5 : Int32} {v6 : Int64} {v12 : Int32} {v13 : Int64} {v15 : Int32} {t0 : Int32} {t1 : Int32} {μ : jM} {z : ((Int64 × Int64 × Int32 × Int32 × Int32 × jM) ⊕ (Int32 × jM))} (H : b_X12_belowOf_125 Y v0 v1 v2 v3 v4 v5 v6 v12 v13 v15 t0 t1 μ = some z) (D : Sum.elim (fun (s : Int64 × Int64 × Int32 × Int32 × Int32 × jM) => JW X (jEnd X n Y (some (.int rr)) μr 0 0) 0 0 n Y 15 [(0, .ref v0), (1, .int v1), (2, .int v2), (3, .int v3), (4, .int v4), (5, .int v5), (6, .long s.1), (8, .long s.2.1), (10, .int s.2.2.1), (11, .int s.2.2.2.1), (12, .int s.2.2.2.2.1)] [] s.2.2.2.2.2) (fun r => r = (rr, μr)) z) : JW X (jEnd X n Y (some (.int rr)) μr 0 0) 0 0 n Y 125 [(0, .ref v0), (1, .int v1), (2, .int v2), (3, .int v3), (4, .int v4), (5, .int v5), (6, .long v6), (12, .int v12), (13, .long v13), (15, .int v15)] [.int t1, .int t0] μ := by
  unfold b_X12_belowOf_125 at H
  refine r_iadd K dX12_belowOf_125 ?_
  refine r_istore K [(11, .int _), (0, .ref _), (1, .int _), (2, .int _), (3, .int _), (4, .int _), (5, .int _), (6, .long _), (12, .int _), (13, .long _), (15, .int _)] dX12_belowOf_126 (by decide) rfl ?_
  refine r_iload K 10 dX12_belowOf_128 rfl ?_
  refine r_istore K [(10, .int _), (11, .int _), (0, .ref _), (1, .int _), (2, .int _), (3, .int _), (4, .int _), (5, .int _), (6, .long _), (12, .int _), (13, .long _), (15, .int _)] dX12_belowOf_130 (by decide) rfl ?_
  refine r_lload K 8 dX12_belowOf_132 rfl ?_
  refine r_lstore K [(8, .long _), (10, .int _), (11, .int _), (0, .ref _), (1, .int _), (2, .int _), (3, .int _), (4, .int _), (5, .int _), (6, .long _), (12, .int _), (13, .long _), (15, .int _)] dX12_belowOf_134 (by decide) rfl ?_
  refine r_lload K 11 dX12_belowOf_136 rfl ?_
  refine r_lstore K [(6, .long _), (8, .long _), (10, .int _), (11, .int _), (0, .ref _), (1, .int _), (2, .int _), (3, .int _), (4, .int _), (5, .int _), (12, .int _), (13, .long _), (15, .int _)] dX12_belowOf_138 (by decide) rfl ?_
  refine r_iinc K 10 [(12, .int _), (6, .long _), (8, .long _), (10, .int _), (11, .int _), (0, .ref _), (1, .int _), (2, .int _), (3, .int _), (4, .int _), (5, .int _), (13, .long _), (15, .int _)] (v := _ + (1 : Int32)) dX12_belowOf_140 rfl rfl (by decide) rfl ?_
  refine r_goto K 15 dX12_belowOf_143 (by decide) ?_
  cases H
  exact r_sub [5, 6, 7, 8, 9, 10, 1, 2, 3, 4, 0] rfl D
set_option maxRecDepth 10000 in
theorem t_X12_belowOf_109 {X : jX} {l : Launch} {n : Nat} {Y : jY} (K : jOK X RX12 cX12_belowOf 16 (some .int) 2) (hl : X.2.1 = l) {rr : Int32} {μr : jM} {v0 : Nat} {v1 : Int32} {v2 : Int32} {v3 : Int32} {v4 : Int32} {v5 : Int32} {v6 : Int64} {v10 : Int32} {v11 : Int32} {v12 : Int32} {v13 : Int64} {t0 : Int32} {μ : jM} {z : ((Int64 × Int64 × Int32 × Int32 × Int32 × jM) ⊕ (Int32 × jM))} (H : b_X12_belowOf_109 Y v0 v1 v2 v3 v4 v5 v6 v10 v11 v12 v13 t0 μ = some z) (D : Sum.elim (fun (s : Int64 × Int64 × Int32 × Int32 × Int32 × jM) => JW X (jEnd X n Y (some (.int rr)) μr 0 0) 0 0 n Y 15 [(0, .ref v0), (1, .int v1), (2, .int v2), (3, .int v3), (4, .int v4), (5, .int v5), (6, .long s.1), (8, .long s.2.1), (10, .int s.2.2.1), (11, .int s.2.2.2.1), (12, .int s.2.2.2.2.1)] [] s.2.2.2.2.2) (fun r => r = (rr, μr)) z) : JW X (jEnd X n Y (some (.int rr)) μr 0 0) 0 0 n Y 109 [(0, .ref v0), (1, .int v1), (2, .int v2), (3, .int v3), (4, .int v4), (5, .int v5), (6, .long v6), (10, .int v10), (11, .int v11), (12, .int v12), (13, .long v13)] [.int t0] μ := by
  unfold b_X12_belowOf_109 at H
  refine r_istore K [(15, .int _), (0, .ref _), (1, .int _), (2, .int _), (3, .int _), (4, .int _), (5, .int _), (6, .long _), (10, .int _), (11, .int _), (12, .int _), (13, .long _)] dX12_belowOf_109 (by decide) rfl ?_
  refine r_iload K 9 dX12_belowOf_111 rfl ?_
  refine r_iload K 0 dX12_belowOf_113 rfl ?_
  refine r_iload K 8 dX12_belowOf_115 rfl ?_
  refine w_icmp_ne K 124 dX12_belowOf_117 (by decide) H (fun _ H => ?_) (fun _ H => ?_)
  · refine r_iconst (v := 0) K dX12_belowOf_124 (by decide) ?_
    exact r_sub [1, 2, 3, 4, 5, 6, 7, 10, 11, 0] rfl (t_X12_belowOf_125 K hl H D)
  · refine r_iconst (v := 1) K dX12_belowOf_120 (by decide) ?_
    refine r_goto K 125 dX12_belowOf_121 (by decide) ?_
    exact r_sub [1, 2, 3, 4, 5, 6, 7, 10, 11, 0] rfl (t_X12_belowOf_125 K hl H D)
set_option maxRecDepth 10000 in
theorem t_X12_belowOf_74 {X : jX} {l : Launch} {n : Nat} {Y : jY} (K : jOK X RX12 cX12_belowOf 16 (some .int) 2) (hl : X.2.1 = l) {rr : Int32} {μr : jM} {v0 : Nat} {v1 : Int32} {v2 : Int32} {v3 : Int32} {v4 : Int32} {v5 : Int32} {v6 : Int64} {v10 : Int32} {v11 : Int32} {v12 : Int32} {t0 : Int64} {t1 : Int64} {μ : jM} {z : ((Int64 × Int64 × Int32 × Int32 × Int32 × jM) ⊕ (Int32 × jM))} (H : b_X12_belowOf_74 Y v0 v1 v2 v3 v4 v5 v6 v10 v11 v12 t0 t1 μ = some z) (D : Sum.elim (fun (s : Int64 × Int64 × Int32 × Int32 × Int32 × jM) => JW X (jEnd X n Y (some (.int rr)) μr 0 0) 0 0 n Y 15 [(0, .ref v0), (1, .int v1), (2, .int v2), (3, .int v3), (4, .int v4), (5, .int v5), (6, .long s.1), (8, .long s.2.1), (10, .int s.2.2.1), (11, .int s.2.2.2.1), (12, .int s.2.2.2.2.1)] [] s.2.2.2.2.2) (fun r => r = (rr, μr)) z) : JW X (jEnd X n Y (some (.int rr)) μr 0 0) 0 0 n Y 74 [(0, .ref v0), (1, .int v1), (2, .int v2), (3, .int v3), (4, .int v4), (5, .int v5), (6, .long v6), (10, .int v10), (11, .int v11), (12, .int v12)] [.long t1, .long t0] μ := by
  unfold b_X12_belowOf_74 at H
  refine r_lsub K dX12_belowOf_74 ?_
  refine r_lstore K [(13, .long _), (0, .ref _), (1, .int _), (2, .int _), (3, .int _), (4, .int _), (5, .int _), (6, .long _), (10, .int _), (11, .int _), (12, .int _)] dX12_belowOf_75 (by decide) rfl ?_
  refine r_lload K 0 dX12_belowOf_77 rfl ?_
  refine r_lconst (v := 0) K dX12_belowOf_79 (by decide) ?_
  refine r_lcmp K dX12_belowOf_80 ?_
  refine w_if_ne K 97 dX12_belowOf_81 (by decide) H (fun _ H => ?_) (fun _ H => ?_)
  · refine r_lload K 0 dX12_belowOf_97 rfl ?_
    refine r_lconst (v := 0) K dX12_belowOf_99 (by decide) ?_
    refine r_lcmp K dX12_belowOf_100 ?_
    refine w_if_le K 108 dX12_belowOf_101 (by decide) H (fun _ H => ?_) (fun _ H => ?_)
    · refine r_iconst (v := 0) K dX12_belowOf_108 (by decide) ?_
      exact r_sub [1, 2, 3, 4, 5, 6, 7, 8, 9, 10, 0] rfl (t_X12_belowOf_109 K hl H D)
    · refine r_iconst (v := 1) K dX12_belowOf_104 (by decide) ?_
      refine r_goto K 109 dX12_belowOf_105 (by decide) ?_
      exact r_sub [1, 2, 3, 4, 5, 6, 7, 8, 9, 10, 0] rfl (t_X12_belowOf_109 K hl H D)
  · refine r_iload K 8 dX12_belowOf_84 rfl ?_
    refine w_if_ne K 93 dX12_belowOf_86 (by decide) H (fun _ H => ?_) (fun _ H => ?_)
    · refine r_iconst (v := 0) K dX12_belowOf_93 (by decide) ?_
      refine r_goto K 109 dX12_belowOf_94 (by decide) ?_
      exact r_sub [1, 2, 3, 4, 5, 6, 7, 8, 9, 10, 0] rfl (t_X12_belowOf_109 K hl H D)
    · refine r_iconst (v := 1) K dX12_belowOf_89 (by decide) ?_
      refine r_goto K 109 dX12_belowOf_90 (by decide) ?_
      exact r_sub [1, 2, 3, 4, 5, 6, 7, 8, 9, 10, 0] rfl (t_X12_belowOf_109 K hl H D)
set_option maxRecDepth 10000 in
theorem t_X12_belowOf_15 {X : jX} {l : Launch} {n : Nat} {Y : jY} (K : jOK X RX12 cX12_belowOf 16 (some .int) 2) (hl : X.2.1 = l) {rr : Int32} {μr : jM} {v0 : Nat} {v1 : Int32} {v2 : Int32} {v3 : Int32} {v4 : Int32} {v5 : Int32} {v6 : Int64} {v8 : Int64} {v10 : Int32} {v11 : Int32} {v12 : Int32} {μ : jM} {z : ((Int64 × Int64 × Int32 × Int32 × Int32 × jM) ⊕ (Int32 × jM))} (H : b_X12_belowOf_15 Y v0 v1 v2 v3 v4 v5 v6 v8 v10 v11 v12 μ = some z) (D : Sum.elim (fun (s : Int64 × Int64 × Int32 × Int32 × Int32 × jM) => JW X (jEnd X n Y (some (.int rr)) μr 0 0) 0 0 n Y 15 [(0, .ref v0), (1, .int v1), (2, .int v2), (3, .int v3), (4, .int v4), (5, .int v5), (6, .long s.1), (8, .long s.2.1), (10, .int s.2.2.1), (11, .int s.2.2.2.1), (12, .int s.2.2.2.2.1)] [] s.2.2.2.2.2) (fun r => r = (rr, μr)) z) : JW X (jEnd X n Y (some (.int rr)) μr 0 0) 0 0 n Y 15 [(0, .ref v0), (1, .int v1), (2, .int v2), (3, .int v3), (4, .int v4), (5, .int v5), (6, .long v6), (8, .long v8), (10, .int v10), (11, .int v11), (12, .int v12)] [] μ := by
  unfold b_X12_belowOf_15 at H
  refine r_iload K 10 dX12_belowOf_15 rfl ?_
  refine r_iload_n K 3 dX12_belowOf_17 rfl rfl ?_
  refine w_icmp_ge K 146 dX12_belowOf_18 (by decide) H (fun _ H => ?_) (fun _ H => ?_)
  · refine r_iload K 9 dX12_belowOf_146 rfl ?_
    cases H
    simp only [Sum.elim_inr] at D
    obtain ⟨rfl, rfl⟩ := jfin2 D
    exact r_iret K dX12_belowOf_148
  · refine r_iload K 4 dX12_belowOf_21 rfl ?_
    refine r_i2l K dX12_belowOf_23 ?_
    refine r_aload_n K 0 dX12_belowOf_24 rfl rfl ?_
    refine r_iload_n K 1 dX12_belowOf_25 rfl rfl ?_
    refine r_iload_n K 2 dX12_belowOf_26 rfl rfl ?_
    refine r_iload K 10 dX12_belowOf_27 rfl ?_
    refine r_iadd K dX12_belowOf_29 ?_
    refine w_callV K hl H (fun r h => c_X12_a l h) mC_yX12_a mM_RX12_256 mI_yX12_a mS_yX12_a mZ_RX12 vc12 (Nat.le_of_ble_eq_true rfl) (Nat.le_of_ble_eq_true rfl) np_yX12_a rfl (Nat.le_of_ble_eq_true rfl) dX12_belowOf_30 (fun r1 H => ?_) ⟨Nat.zero_le _, Nat.zero_le _⟩
    refine r_i2l K dX12_belowOf_33 ?_
    refine r_iload K 5 dX12_belowOf_34 rfl ?_
    refine r_i2l K dX12_belowOf_36 ?_
    refine r_lmul K dX12_belowOf_37 ?_
    refine r_lsub K dX12_belowOf_38 ?_
    refine r_lload K 6 dX12_belowOf_39 rfl ?_
    refine r_lmul K dX12_belowOf_41 ?_
    refine r_iload K 10 dX12_belowOf_42 rfl ?_
    refine w_if_le K 73 dX12_belowOf_44 (by decide) H (fun _ H => ?_) (fun _ H => ?_)
    · refine r_lconst (v := 0) K dX12_belowOf_73 (by decide) ?_
      exact r_sub [0, 1, 2, 3, 4, 5, 6, 8, 9, 10] rfl (t_X12_belowOf_74 K hl H D)
    · refine r_aload_n K 0 dX12_belowOf_47 rfl rfl ?_
      refine r_iload_n K 1 dX12_belowOf_48 rfl rfl ?_
      refine r_iload_n K 2 dX12_belowOf_49 rfl rfl ?_
      refine r_iload K 10 dX12_belowOf_50 rfl ?_
      refine r_iadd K dX12_belowOf_52 ?_
      refine r_iconst (v := 1) K dX12_belowOf_53 (by decide) ?_
      refine r_isub K dX12_belowOf_54 ?_
      refine w_callV K hl H (fun r h => c_X12_c l h) mC_yX12_c mM_RX12_260 mI_yX12_c mS_yX12_c mZ_RX12 vc12 (Nat.le_of_ble_eq_true rfl) (Nat.le_of_ble_eq_true rfl) np_yX12_c rfl (Nat.le_of_ble_eq_true rfl) dX12_belowOf_55 (fun r2 H => ?_) ⟨Nat.zero_le _, Nat.zero_le _⟩
      refine r_i2l K dX12_belowOf_58 ?_
      refine r_iload K 5 dX12_belowOf_59 rfl ?_
      refine r_i2l K dX12_belowOf_61 ?_
      refine r_lmul K dX12_belowOf_62 ?_
      refine r_iload K 5 dX12_belowOf_63 rfl ?_
      refine r_i2l K dX12_belowOf_65 ?_
      refine r_lmul K dX12_belowOf_66 ?_
      refine r_lload K 7 dX12_belowOf_67 rfl ?_
      refine r_lmul K dX12_belowOf_69 ?_
      refine r_goto K 74 dX12_belowOf_70 (by decide) ?_
      exact r_sub [0, 1, 2, 3, 4, 5, 6, 8, 9, 10] rfl (t_X12_belowOf_74 K hl H D)
set_option maxRecDepth 10000 in
theorem l_X12_belowOf_15 {X : jX} {l : Launch} {n : Nat} {Y : jY} (K : jOK X RX12 cX12_belowOf 16 (some .int) 2) (hl : X.2.1 = l) {rr : Int32} {μr : jM} {v0 : Nat} {v1 : Int32} {v2 : Int32} {v3 : Int32} {v4 : Int32} {v5 : Int32}  {s0 : Int64 × Int64 × Int32 × Int32 × Int32 × jM} {z : (Int32 × jM)} (H : jit jF (fun (s : Int64 × Int64 × Int32 × Int32 × Int32 × jM) => b_X12_belowOf_15 Y v0 v1 v2 v3 v4 v5 s.1 s.2.1 s.2.2.1 s.2.2.2.1 s.2.2.2.2.1 s.2.2.2.2.2) s0 = some z) (D : z = (rr, μr)) : JW X (jEnd X n Y (some (.int rr)) μr 0 0) 0 0 n Y 15 [(0, .ref v0), (1, .int v1), (2, .int v2), (3, .int v3), (4, .int v4), (5, .int v5), (6, .long s0.1), (8, .long s0.2.1), (10, .int s0.2.2.1), (11, .int s0.2.2.2.1), (12, .int s0.2.2.2.2.1)] [] s0.2.2.2.2.2 :=
  jit_ind (P := fun (s : Int64 × Int64 × Int32 × Int32 × Int32 × jM) => JW X (jEnd X n Y (some (.int rr)) μr 0 0) 0 0 n Y 15 [(0, .ref v0), (1, .int v1), (2, .int v2), (3, .int v3), (4, .int v4), (5, .int v5), (6, .long s.1), (8, .long s.2.1), (10, .int s.2.2.1), (11, .int s.2.2.2.1), (12, .int s.2.2.2.2.1)] [] s.2.2.2.2.2) (D := fun r => r = (rr, μr)) (fun s z Hs Ds => t_X12_belowOf_15 K hl Hs Ds) jF s0 z H D
set_option maxRecDepth 10000 in
theorem t_X12_belowOf_0 {X : jX} {l : Launch} {n : Nat} {Y : jY} (K : jOK X RX12 cX12_belowOf 16 (some .int) 2) (hl : X.2.1 = l) {rr : Int32} {μr : jM} {v0 : Nat} {v1 : Int32} {v2 : Int32} {v3 : Int32} {v4 : Int32} {v5 : Int32} {μ : jM} {z : (Int32 × jM)} (H : f_X12_belowOf Y v0 v1 v2 v3 v4 v5 μ = some z) (D : z = (rr, μr)) : JW X (jEnd X n Y (some (.int rr)) μr 0 0) 0 0 n Y 0 [(0, .ref v0), (1, .int v1), (2, .int v2), (3, .int v3), (4, .int v4), (5, .int v5)] [] μ := by
  unfold f_X12_belowOf at H
  refine r_lconst (v := 1) K dX12_belowOf_0 (by decide) ?_
  refine r_lstore K [(6, .long _), (0, .ref _), (1, .int _), (2, .int _), (3, .int _), (4, .int _), (5, .int _)] dX12_belowOf_1 (by decide) rfl ?_
  refine r_lconst (v := 0) K dX12_belowOf_3 (by decide) ?_
  refine r_lstore K [(8, .long _), (6, .long _), (0, .ref _), (1, .int _), (2, .int _), (3, .int _), (4, .int _), (5, .int _)] dX12_belowOf_4 (by decide) rfl ?_
  refine r_iconst (v := 1) K dX12_belowOf_6 (by decide) ?_
  refine r_istore K [(10, .int _), (8, .long _), (6, .long _), (0, .ref _), (1, .int _), (2, .int _), (3, .int _), (4, .int _), (5, .int _)] dX12_belowOf_7 (by decide) rfl ?_
  refine r_iconst (v := 0) K dX12_belowOf_9 (by decide) ?_
  refine r_istore K [(11, .int _), (10, .int _), (8, .long _), (6, .long _), (0, .ref _), (1, .int _), (2, .int _), (3, .int _), (4, .int _), (5, .int _)] dX12_belowOf_10 (by decide) rfl ?_
  refine r_iconst (v := 0) K dX12_belowOf_12 (by decide) ?_
  refine r_istore K [(12, .int _), (11, .int _), (10, .int _), (8, .long _), (6, .long _), (0, .ref _), (1, .int _), (2, .int _), (3, .int _), (4, .int _), (5, .int _)] dX12_belowOf_13 (by decide) rfl ?_
  exact r_sub [5, 6, 7, 8, 9, 10, 4, 3, 2, 1, 0] rfl (l_X12_belowOf_15 K hl H D)
theorem c_X12_belowOf (l : Launch) {n : Nat} {Y : jY} {v0 : Nat} {v1 : Int32} {v2 : Int32} {v3 : Int32} {v4 : Int32} {v5 : Int32} {μ : jM} {z : Int32 × jM} (H : f_X12_belowOf Y v0 v1 v2 v3 v4 v5 μ = some z) : jC l yX12_belowOf cX12_belowOf 16 (some .int) 2 0 0 [.ref v0, .int v1, .int v2, .int v3, .int v4, .int v5] n Y μ n Y (some (.int z.1)) z.2 := by
  refine jC_of (by decide +kernel) (Nat.le_of_ble_eq_true rfl) (fun X hl K _ _ _ => ?_)
  obtain ⟨rr, μr⟩ := z
  exact t_X12_belowOf_0 K hl H rfl
/-! RX12 rootOf(IIIII)I -/
def b_X12_rootOf_64 (Y : jY) (v0 : Nat) (v1 : Int32) (v2 : Int32) (v3 : Int32) (v4 : Int32) (v5 : Int32) (v6 : Int32) (v7 : Int32) (μ : jM) : Option ((Int32 × Int32 × jM) ⊕ (Int32 × jM)) :=
  some (.inl (v6, v7, μ))
def b_X12_rootOf_14 (Y : jY) (v0 : Nat) (v1 : Int32) (v2 : Int32) (v3 : Int32) (v4 : Int32) (v5 : Int32) (v6 : Int32) (v7 : Int32) (μ : jM) : Option ((Int32 × Int32 × jM) ⊕ (Int32 × jM)) :=
  if v7 ≤ v6 then
    some (.inr (v6, μ))
  else
    (jdivI ((((v7 - v6)) + ((1 : Int32)))) ((2 : Int32))).bind fun x1 =>
    (jrcv Y v0 12 (f_X12_belowOf Y v0 v1 v2 v3 ((v6 + x1)) v5 μ)).bind fun r2 =>
    if v4 < r2.1 then
      b_X12_rootOf_64 Y v0 v1 v2 v3 v4 v5 v6 (((v6 + x1)) - ((1 : Int32))) r2.2
    else
      b_X12_rootOf_64 Y v0 v1 v2 v3 v4 v5 (v6 + x1) v7 r2.2
def f_X12_rootOf (Y : jY) (v0 : Nat) (v1 : Int32) (v2 : Int32) (v3 : Int32) (v4 : Int32) (v5 : Int32) (μ : jM) : Option (Int32 × jM) :=
  jit jF (fun (s : Int32 × Int32 × jM) => b_X12_rootOf_14 Y v0 v1 v2 v3 v4 v5 s.1 s.2.1 s.2.2) ((((-20 : Int32)) * v5), (((20 : Int32)) * v5), μ)
set_option maxRecDepth 10000 in
theorem t_X12_rootOf_64 {X : jX} {l : Launch} {n : Nat} {Y : jY} (K : jOK X RX12 cX12_rootOf 9 (some .int) 3) (hl : X.2.1 = l) {rr : Int32} {μr : jM} {v0 : Nat} {v1 : Int32} {v2 : Int32} {v3 : Int32} {v4 : Int32} {v5 : Int32} {v6 : Int32} {v7 : Int32} {μ : jM} {z : ((Int32 × Int32 × jM) ⊕ (Int32 × jM))} (H : b_X12_rootOf_64 Y v0 v1 v2 v3 v4 v5 v6 v7 μ = some z) (D : Sum.elim (fun (s : Int32 × Int32 × jM) => JW X (jEnd X n Y (some (.int rr)) μr 0 0) 0 0 n Y 14 [(0, .ref v0), (1, .int v1), (2, .int v2), (3, .int v3), (4, .int v4), (5, .int v5), (6, .int s.1), (7, .int s.2.1)] [] s.2.2) (fun r => r = (rr, μr)) z) : JW X (jEnd X n Y (some (.int rr)) μr 0 0) 0 0 n Y 64 [(0, .ref v0), (1, .int v1), (2, .int v2), (3, .int v3), (4, .int v4), (5, .int v5), (6, .int v6), (7, .int v7)] [] μ := by
  unfold b_X12_rootOf_64 at H
  refine r_goto K 14 dX12_rootOf_64 (by decide) ?_
  cases H
  exact r_sub [0, 1, 2, 3, 4, 5, 6, 7] rfl D
set_option maxRecDepth 10000 in
theorem t_X12_rootOf_14 {X : jX} {l : Launch} {n : Nat} {Y : jY} (K : jOK X RX12 cX12_rootOf 9 (some .int) 3) (hl : X.2.1 = l) {rr : Int32} {μr : jM} {v0 : Nat} {v1 : Int32} {v2 : Int32} {v3 : Int32} {v4 : Int32} {v5 : Int32} {v6 : Int32} {v7 : Int32} {μ : jM} {z : ((Int32 × Int32 × jM) ⊕ (Int32 × jM))} (H : b_X12_rootOf_14 Y v0 v1 v2 v3 v4 v5 v6 v7 μ = some z) (D : Sum.elim (fun (s : Int32 × Int32 × jM) => JW X (jEnd X n Y (some (.int rr)) μr 0 0) 0 0 n Y 14 [(0, .ref v0), (1, .int v1), (2, .int v2), (3, .int v3), (4, .int v4), (5, .int v5), (6, .int s.1), (7, .int s.2.1)] [] s.2.2) (fun r => r = (rr, μr)) z) : JW X (jEnd X n Y (some (.int rr)) μr 0 0) 0 0 n Y 14 [(0, .ref v0), (1, .int v1), (2, .int v2), (3, .int v3), (4, .int v4), (5, .int v5), (6, .int v6), (7, .int v7)] [] μ := by
  unfold b_X12_rootOf_14 at H
  refine r_iload K 6 dX12_rootOf_14 rfl ?_
  refine r_iload K 7 dX12_rootOf_16 rfl ?_
  refine w_icmp_ge K 67 dX12_rootOf_18 (by decide) H (fun _ H => ?_) (fun _ H => ?_)
  · refine r_iload K 6 dX12_rootOf_67 rfl ?_
    cases H
    simp only [Sum.elim_inr] at D
    obtain ⟨rfl, rfl⟩ := jfin2 D
    exact r_iret K dX12_rootOf_69
  · refine r_iload K 6 dX12_rootOf_21 rfl ?_
    refine r_iload K 7 dX12_rootOf_23 rfl ?_
    refine r_iload K 6 dX12_rootOf_25 rfl ?_
    refine r_isub K dX12_rootOf_27 ?_
    refine r_iconst (v := 1) K dX12_rootOf_28 (by decide) ?_
    refine r_iadd K dX12_rootOf_29 ?_
    refine r_iconst (v := 2) K dX12_rootOf_30 (by decide) ?_
    refine w_idiv K dX12_rootOf_31 H (fun x1 H => ?_)
    refine r_iadd K dX12_rootOf_32 ?_
    refine r_istore K [(8, .int _), (0, .ref _), (1, .int _), (2, .int _), (3, .int _), (4, .int _), (5, .int _), (6, .int _), (7, .int _)] dX12_rootOf_33 (by decide) rfl ?_
    refine r_aload_n K 1 dX12_rootOf_35 rfl rfl ?_
    refine r_iload_n K 2 dX12_rootOf_36 rfl rfl ?_
    refine r_iload_n K 3 dX12_rootOf_37 rfl rfl ?_
    refine r_iload_n K 4 dX12_rootOf_38 rfl rfl ?_
    refine r_iload K 0 dX12_rootOf_39 rfl ?_
    refine r_iload K 6 dX12_rootOf_41 rfl ?_
    refine w_callV K hl H (fun r h => c_X12_belowOf l h) mC_yX12_belowOf mM_RX12_283 mI_yX12_belowOf mS_yX12_belowOf mZ_RX12 vc12 (Nat.le_of_ble_eq_true rfl) (Nat.le_of_ble_eq_true rfl) np_yX12_belowOf rfl (Nat.le_of_ble_eq_true rfl) dX12_rootOf_43 (fun r2 H => ?_) ⟨Nat.zero_le _, Nat.zero_le _⟩
    refine r_iload K 5 dX12_rootOf_46 rfl ?_
    refine w_icmp_gt K 58 dX12_rootOf_48 (by decide) H (fun _ H => ?_) (fun _ H => ?_)
    · refine r_iload K 0 dX12_rootOf_58 rfl ?_
      refine r_iconst (v := 1) K dX12_rootOf_60 (by decide) ?_
      refine r_isub K dX12_rootOf_61 ?_
      refine r_istore K [(7, .int _), (8, .int _), (0, .ref _), (1, .int _), (2, .int _), (3, .int _), (4, .int _), (5, .int _), (6, .int _)] dX12_rootOf_62 (by decide) rfl ?_
      exact r_sub [2, 3, 4, 5, 6, 7, 8, 0] rfl (t_X12_rootOf_64 K hl H D)
    · refine r_iload K 0 dX12_rootOf_51 rfl ?_
      refine r_istore K [(6, .int _), (8, .int _), (0, .ref _), (1, .int _), (2, .int _), (3, .int _), (4, .int _), (5, .int _), (7, .int _)] dX12_rootOf_53 (by decide) rfl ?_
      refine r_goto K 64 dX12_rootOf_55 (by decide) ?_
      exact r_sub [2, 3, 4, 5, 6, 7, 0, 8] rfl (t_X12_rootOf_64 K hl H D)
set_option maxRecDepth 10000 in
theorem l_X12_rootOf_14 {X : jX} {l : Launch} {n : Nat} {Y : jY} (K : jOK X RX12 cX12_rootOf 9 (some .int) 3) (hl : X.2.1 = l) {rr : Int32} {μr : jM} {v0 : Nat} {v1 : Int32} {v2 : Int32} {v3 : Int32} {v4 : Int32} {v5 : Int32}  {s0 : Int32 × Int32 × jM} {z : (Int32 × jM)} (H : jit jF (fun (s : Int32 × Int32 × jM) => b_X12_rootOf_14 Y v0 v1 v2 v3 v4 v5 s.1 s.2.1 s.2.2) s0 = some z) (D : z = (rr, μr)) : JW X (jEnd X n Y (some (.int rr)) μr 0 0) 0 0 n Y 14 [(0, .ref v0), (1, .int v1), (2, .int v2), (3, .int v3), (4, .int v4), (5, .int v5), (6, .int s0.1), (7, .int s0.2.1)] [] s0.2.2 :=
  jit_ind (P := fun (s : Int32 × Int32 × jM) => JW X (jEnd X n Y (some (.int rr)) μr 0 0) 0 0 n Y 14 [(0, .ref v0), (1, .int v1), (2, .int v2), (3, .int v3), (4, .int v4), (5, .int v5), (6, .int s.1), (7, .int s.2.1)] [] s.2.2) (D := fun r => r = (rr, μr)) (fun s z Hs Ds => t_X12_rootOf_14 K hl Hs Ds) jF s0 z H D
set_option maxRecDepth 10000 in
theorem t_X12_rootOf_0 {X : jX} {l : Launch} {n : Nat} {Y : jY} (K : jOK X RX12 cX12_rootOf 9 (some .int) 3) (hl : X.2.1 = l) {rr : Int32} {μr : jM} {v0 : Nat} {v1 : Int32} {v2 : Int32} {v3 : Int32} {v4 : Int32} {v5 : Int32} {μ : jM} {z : (Int32 × jM)} (H : f_X12_rootOf Y v0 v1 v2 v3 v4 v5 μ = some z) (D : z = (rr, μr)) : JW X (jEnd X n Y (some (.int rr)) μr 0 0) 0 0 n Y 0 [(0, .ref v0), (1, .int v1), (2, .int v2), (3, .int v3), (4, .int v4), (5, .int v5)] [] μ := by
  unfold f_X12_rootOf at H
  refine r_bipush (v := -20) K dX12_rootOf_0 (by decide) ?_
  refine r_iload K 5 dX12_rootOf_2 rfl ?_
  refine r_imul K dX12_rootOf_4 ?_
  refine r_istore K [(6, .int _), (0, .ref _), (1, .int _), (2, .int _), (3, .int _), (4, .int _), (5, .int _)] dX12_rootOf_5 (by decide) rfl ?_
  refine r_bipush (v := 20) K dX12_rootOf_7 (by decide) ?_
  refine r_iload K 6 dX12_rootOf_9 rfl ?_
  refine r_imul K dX12_rootOf_11 ?_
  refine r_istore K [(7, .int _), (6, .int _), (0, .ref _), (1, .int _), (2, .int _), (3, .int _), (4, .int _), (5, .int _)] dX12_rootOf_12 (by decide) rfl ?_
  exact r_sub [2, 3, 4, 5, 6, 7, 1, 0] rfl (l_X12_rootOf_14 K hl H D)
theorem c_X12_rootOf (l : Launch) {n : Nat} {Y : jY} {v0 : Nat} {v1 : Int32} {v2 : Int32} {v3 : Int32} {v4 : Int32} {v5 : Int32} {μ : jM} {z : Int32 × jM} (H : f_X12_rootOf Y v0 v1 v2 v3 v4 v5 μ = some z) : jC l yX12_rootOf cX12_rootOf 9 (some .int) 3 0 0 [.ref v0, .int v1, .int v2, .int v3, .int v4, .int v5] n Y μ n Y (some (.int z.1)) z.2 := by
  refine jC_of (by decide +kernel) (Nat.le_of_ble_eq_true rfl) (fun X hl K _ _ _ => ?_)
  obtain ⟨rr, μr⟩ := z
  exact t_X12_rootOf_0 K hl H rfl
/-! RX12 between(III)I -/
def b_X12_between_24 (Y : jY) (μ : jM) : Option (Int32 × jM) :=
  some ((-1 : Int32), μ)
def b_X12_between_44 (Y : jY) (μ : jM) : Option (Int32 × jM) :=
  some ((-2 : Int32), μ)
def b_X12_between_171 (Y : jY) (t0 : Int32) (μ : jM) : Option (Int32 × jM) :=
  some (t0, μ)
def b_X12_between_153 (Y : jY) (v0 : Nat) (v1 : Int32) (v2 : Int32) (v3 : Int32) (v5 : Int32) (t0 : Int32) (μ : jM) : Option ((Int32 × Int32 × jM) ⊕ (Int32 × jM)) :=
  some (.inl (t0, (v5 + (1 : Int32)), μ))
def b_X12_between_152 (Y : jY) (v0 : Nat) (v1 : Int32) (v2 : Int32) (v3 : Int32) (v5 : Int32) (μ : jM) : Option ((Int32 × Int32 × jM) ⊕ (Int32 × jM)) :=
  b_X12_between_153 Y v0 v1 v2 v3 v5 (0 : Int32) μ
def b_X12_between_73 (Y : jY) (v0 : Nat) (v1 : Int32) (v2 : Int32) (v3 : Int32) (v4 : Int32) (v5 : Int32) (μ : jM) : Option ((Int32 × Int32 × jM) ⊕ (Int32 × jM)) :=
  (jgO Y μ v0 12 26).bind fun x1 =>
  (jaI Y μ x1 20 v2).bind fun x2 =>
  if x2 ≤ v5 then
    if v4 = 0 then
      (b_X12_between_171 Y (0 : Int32) μ).map (fun r => (.inr r))
    else
      (b_X12_between_171 Y (1 : Int32) μ).map (fun r => (.inr r))
  else
    (jgO Y μ v0 12 26).bind fun x3 =>
    (jaI Y μ x3 20 v2).bind fun x4 =>
    (jrcv Y v0 12 (f_X12_rootOf Y v0 v2 ((0 : Int32)) x4 v5 v3 μ)).bind fun r5 =>
    if v4 = 0 then
      b_X12_between_152 Y v0 v1 v2 v3 v5 r5.2
    else
      (jgO Y r5.2 v0 12 26).bind fun x6 =>
      (jaI Y r5.2 x6 20 v1).bind fun x7 =>
      (jrcv Y v0 12 (f_X12_rootOf Y v0 v1 ((0 : Int32)) x7 v5 v3 r5.2)).bind fun r8 =>
      if r5.1 < r8.1 then
        b_X12_between_152 Y v0 v1 v2 v3 v5 r8.2
      else
        (jgO Y r8.2 v0 12 26).bind fun x9 =>
        (jaI Y r8.2 x9 20 v1).bind fun x10 =>
        (jrcv Y v0 12 (f_X12_rootOf Y v0 v1 ((0 : Int32)) x10 ((v5 + ((1 : Int32)))) v3 r8.2)).bind fun r11 =>
        if r11.1 < r5.1 then
          b_X12_between_152 Y v0 v1 v2 v3 v5 r11.2
        else
          b_X12_between_153 Y v0 v1 v2 v3 v5 (1 : Int32) r11.2
def f_X12_between (Y : jY) (v0 : Nat) (v1 : Int32) (v2 : Int32) (v3 : Int32) (μ : jM) : Option (Int32 × jM) :=
  (f_X12_isDrawer Y v1 μ).bind fun r1 =>
  if r1.1 = 0 then
    b_X12_between_24 Y r1.2
  else
    (f_X12_isDrawer Y v2 r1.2).bind fun r2 =>
    if r2.1 = 0 then
      b_X12_between_24 Y r2.2
    else
      (f_X12_in Y v3 ((1 : Int32)) ((50 : Int32)) r2.2).bind fun r3 =>
      if r3.1 = 0 then
        b_X12_between_24 Y r3.2
      else
        (jgO Y r3.2 v0 12 26).bind fun x4 =>
        (jaI Y r3.2 x4 20 v1).bind fun x5 =>
        if x5 = 0 then
          b_X12_between_44 Y r3.2
        else
          (jgO Y r3.2 v0 12 26).bind fun x6 =>
          (jaI Y r3.2 x6 20 v2).bind fun x7 =>
          if x7 = 0 then
            b_X12_between_44 Y r3.2
          else
            (jgO Y r3.2 v0 12 26).bind fun x8 =>
            (jaI Y r3.2 x8 20 v2).bind fun x9 =>
            (jgO Y r3.2 v0 12 26).bind fun x10 =>
            (jaI Y r3.2 x10 20 v1).bind fun x11 =>
            if x9 = ((x11 - ((1 : Int32)))) then
              jit jF (fun (s : Int32 × Int32 × jM) => b_X12_between_73 Y v0 v1 v2 v3 s.1 s.2.1 s.2.2) ((1 : Int32), (0 : Int32), r3.2)
            else
              some ((-3 : Int32), r3.2)
set_option maxRecDepth 10000 in
theorem t_X12_between_24 {X : jX} {l : Launch} {n : Nat} {Y : jY} (K : jOK X RX12 cX12_between 7 (some .int) 4) (hl : X.2.1 = l) {rr : Int32} {μr : jM} {μ : jM} {z : (Int32 × jM)} (H : b_X12_between_24 Y μ = some z) (D : z = (rr, μr)) : JW X (jEnd X n Y (some (.int rr)) μr 0 0) 0 0 n Y 24 [] [] μ := by
  unfold b_X12_between_24 at H
  refine r_iconst (v := -1) K dX12_between_24 (by decide) ?_
  cases H
  obtain ⟨rfl, rfl⟩ := jfin2 D
  exact r_iret K dX12_between_25
set_option maxRecDepth 10000 in
theorem t_X12_between_44 {X : jX} {l : Launch} {n : Nat} {Y : jY} (K : jOK X RX12 cX12_between 7 (some .int) 4) (hl : X.2.1 = l) {rr : Int32} {μr : jM} {μ : jM} {z : (Int32 × jM)} (H : b_X12_between_44 Y μ = some z) (D : z = (rr, μr)) : JW X (jEnd X n Y (some (.int rr)) μr 0 0) 0 0 n Y 44 [] [] μ := by
  unfold b_X12_between_44 at H
  refine r_bipush (v := -2) K dX12_between_44 (by decide) ?_
  cases H
  obtain ⟨rfl, rfl⟩ := jfin2 D
  exact r_iret K dX12_between_46
set_option maxRecDepth 10000 in
theorem t_X12_between_171 {X : jX} {l : Launch} {n : Nat} {Y : jY} (K : jOK X RX12 cX12_between 7 (some .int) 4) (hl : X.2.1 = l) {rr : Int32} {μr : jM} {t0 : Int32} {μ : jM} {z : (Int32 × jM)} (H : b_X12_between_171 Y t0 μ = some z) (D : z = (rr, μr)) : JW X (jEnd X n Y (some (.int rr)) μr 0 0) 0 0 n Y 171 [] [.int t0] μ := by
  unfold b_X12_between_171 at H
  cases H
  obtain ⟨rfl, rfl⟩ := jfin2 D
  exact r_iret K dX12_between_171
set_option maxRecDepth 10000 in
theorem t_X12_between_153 {X : jX} {l : Launch} {n : Nat} {Y : jY} (K : jOK X RX12 cX12_between 7 (some .int) 4) (hl : X.2.1 = l) {rr : Int32} {μr : jM} {v0 : Nat} {v1 : Int32} {v2 : Int32} {v3 : Int32} {v5 : Int32} {t0 : Int32} {μ : jM} {z : ((Int32 × Int32 × jM) ⊕ (Int32 × jM))} (H : b_X12_between_153 Y v0 v1 v2 v3 v5 t0 μ = some z) (D : Sum.elim (fun (s : Int32 × Int32 × jM) => JW X (jEnd X n Y (some (.int rr)) μr 0 0) 0 0 n Y 73 [(0, .ref v0), (1, .int v1), (2, .int v2), (3, .int v3), (4, .int s.1), (5, .int s.2.1)] [] s.2.2) (fun r => r = (rr, μr)) z) : JW X (jEnd X n Y (some (.int rr)) μr 0 0) 0 0 n Y 153 [(0, .ref v0), (1, .int v1), (2, .int v2), (3, .int v3), (5, .int v5)] [.int t0] μ := by
  unfold b_X12_between_153 at H
  refine r_istore K [(4, .int _), (0, .ref _), (1, .int _), (2, .int _), (3, .int _), (5, .int _)] dX12_between_153 (by decide) rfl ?_
  refine r_iinc K 5 [(5, .int _), (4, .int _), (0, .ref _), (1, .int _), (2, .int _), (3, .int _)] (v := _ + (1 : Int32)) dX12_between_155 rfl rfl (by decide) rfl ?_
  refine r_goto K 73 dX12_between_158 (by decide) ?_
  cases H
  exact r_sub [2, 3, 4, 5, 1, 0] rfl D
set_option maxRecDepth 10000 in
theorem t_X12_between_152 {X : jX} {l : Launch} {n : Nat} {Y : jY} (K : jOK X RX12 cX12_between 7 (some .int) 4) (hl : X.2.1 = l) {rr : Int32} {μr : jM} {v0 : Nat} {v1 : Int32} {v2 : Int32} {v3 : Int32} {v5 : Int32} {μ : jM} {z : ((Int32 × Int32 × jM) ⊕ (Int32 × jM))} (H : b_X12_between_152 Y v0 v1 v2 v3 v5 μ = some z) (D : Sum.elim (fun (s : Int32 × Int32 × jM) => JW X (jEnd X n Y (some (.int rr)) μr 0 0) 0 0 n Y 73 [(0, .ref v0), (1, .int v1), (2, .int v2), (3, .int v3), (4, .int s.1), (5, .int s.2.1)] [] s.2.2) (fun r => r = (rr, μr)) z) : JW X (jEnd X n Y (some (.int rr)) μr 0 0) 0 0 n Y 152 [(0, .ref v0), (1, .int v1), (2, .int v2), (3, .int v3), (5, .int v5)] [] μ := by
  unfold b_X12_between_152 at H
  refine r_iconst (v := 0) K dX12_between_152 (by decide) ?_
  exact r_sub [0, 1, 2, 3, 4] rfl (t_X12_between_153 K hl H D)
set_option maxRecDepth 10000 in
theorem t_X12_between_73 {X : jX} {l : Launch} {n : Nat} {Y : jY} (K : jOK X RX12 cX12_between 7 (some .int) 4) (hl : X.2.1 = l) {rr : Int32} {μr : jM} {v0 : Nat} {v1 : Int32} {v2 : Int32} {v3 : Int32} {v4 : Int32} {v5 : Int32} {μ : jM} {z : ((Int32 × Int32 × jM) ⊕ (Int32 × jM))} (H : b_X12_between_73 Y v0 v1 v2 v3 v4 v5 μ = some z) (D : Sum.elim (fun (s : Int32 × Int32 × jM) => JW X (jEnd X n Y (some (.int rr)) μr 0 0) 0 0 n Y 73 [(0, .ref v0), (1, .int v1), (2, .int v2), (3, .int v3), (4, .int s.1), (5, .int s.2.1)] [] s.2.2) (fun r => r = (rr, μr)) z) : JW X (jEnd X n Y (some (.int rr)) μr 0 0) 0 0 n Y 73 [(0, .ref v0), (1, .int v1), (2, .int v2), (3, .int v3), (4, .int v4), (5, .int v5)] [] μ := by
  unfold b_X12_between_73 at H
  refine r_iload K 5 dX12_between_73 rfl ?_
  refine r_aload_n K 0 dX12_between_75 rfl rfl ?_
  refine w_getO K vc12 inX12 26 (by decide) mF_RX12_48 dX12_between_76 H (fun x1 H => ?_)
  refine r_iload_n K 2 dX12_between_79 rfl rfl ?_
  refine w_iald K dX12_between_80 H (fun x2 H => ?_)
  refine w_icmp_ge K 161 dX12_between_81 (by decide) H (fun _ H => ?_) (fun _ H => ?_)
  · refine r_iload K 4 dX12_between_161 rfl ?_
    refine w_if_eq K 170 dX12_between_163 (by decide) H (fun _ H => ?_) (fun _ H => ?_)
    · refine r_iconst (v := 0) K dX12_between_170 (by decide) ?_
      obtain ⟨z2, H2, rfl⟩ := jmap H
      exact r_sub [] rfl (t_X12_between_171 K hl H2 D)
    · refine r_iconst (v := 1) K dX12_between_166 (by decide) ?_
      refine r_goto K 171 dX12_between_167 (by decide) ?_
      obtain ⟨z2, H2, rfl⟩ := jmap H
      exact r_sub [] rfl (t_X12_between_171 K hl H2 D)
  · refine r_aload_n K 0 dX12_between_84 rfl rfl ?_
    refine r_iload_n K 2 dX12_between_85 rfl rfl ?_
    refine r_iconst (v := 0) K dX12_between_86 (by decide) ?_
    refine r_aload_n K 0 dX12_between_87 rfl rfl ?_
    refine w_getO K vc12 inX12 26 (by decide) mF_RX12_48 dX12_between_88 H (fun x3 H => ?_)
    refine r_iload_n K 2 dX12_between_91 rfl rfl ?_
    refine w_iald K dX12_between_92 H (fun x4 H => ?_)
    refine r_iload K 5 dX12_between_93 rfl ?_
    refine r_iload_n K 3 dX12_between_95 rfl rfl ?_
    refine w_callV K hl H (fun r h => c_X12_rootOf l h) mC_yX12_rootOf mM_RX12_289 mI_yX12_rootOf mS_yX12_rootOf mZ_RX12 vc12 (Nat.le_of_ble_eq_true rfl) (Nat.le_of_ble_eq_true rfl) np_yX12_rootOf rfl (Nat.le_of_ble_eq_true rfl) dX12_between_96 (fun r5 H => ?_) ⟨Nat.zero_le _, Nat.zero_le _⟩
    refine r_istore K [(6, .int _), (0, .ref _), (1, .int _), (2, .int _), (3, .int _), (4, .int _), (5, .int _)] dX12_between_99 (by decide) rfl ?_
    refine r_iload K 5 dX12_between_101 rfl ?_
    refine w_if_eq K 152 dX12_between_103 (by decide) H (fun _ H => ?_) (fun _ H => ?_)
    · exact r_sub [1, 2, 3, 4, 6] rfl (t_X12_between_152 K hl H D)
    · refine r_iload K 0 dX12_between_106 rfl ?_
      refine r_aload_n K 1 dX12_between_108 rfl rfl ?_
      refine r_iload_n K 2 dX12_between_109 rfl rfl ?_
      refine r_iconst (v := 0) K dX12_between_110 (by decide) ?_
      refine r_aload_n K 1 dX12_between_111 rfl rfl ?_
      refine w_getO K vc12 inX12 26 (by decide) mF_RX12_48 dX12_between_112 H (fun x6 H => ?_)
      refine r_iload_n K 2 dX12_between_115 rfl rfl ?_
      refine w_iald K dX12_between_116 H (fun x7 H => ?_)
      refine r_iload K 6 dX12_between_117 rfl ?_
      refine r_iload_n K 4 dX12_between_119 rfl rfl ?_
      refine w_callV K hl H (fun r h => c_X12_rootOf l h) mC_yX12_rootOf mM_RX12_289 mI_yX12_rootOf mS_yX12_rootOf mZ_RX12 vc12 (Nat.le_of_ble_eq_true rfl) (Nat.le_of_ble_eq_true rfl) np_yX12_rootOf rfl (Nat.le_of_ble_eq_true rfl) dX12_between_120 (fun r8 H => ?_) ⟨Nat.zero_le _, Nat.zero_le _⟩
      refine w_icmp_lt K 152 dX12_between_123 (by decide) H (fun _ H => ?_) (fun _ H => ?_)
      · exact r_sub [1, 2, 3, 4, 6] rfl (t_X12_between_152 K hl H D)
      · refine r_iload K 0 dX12_between_126 rfl ?_
        refine r_aload_n K 1 dX12_between_128 rfl rfl ?_
        refine r_iload_n K 2 dX12_between_129 rfl rfl ?_
        refine r_iconst (v := 0) K dX12_between_130 (by decide) ?_
        refine r_aload_n K 1 dX12_between_131 rfl rfl ?_
        refine w_getO K vc12 inX12 26 (by decide) mF_RX12_48 dX12_between_132 H (fun x9 H => ?_)
        refine r_iload_n K 2 dX12_between_135 rfl rfl ?_
        refine w_iald K dX12_between_136 H (fun x10 H => ?_)
        refine r_iload K 6 dX12_between_137 rfl ?_
        refine r_iconst (v := 1) K dX12_between_139 (by decide) ?_
        refine r_iadd K dX12_between_140 ?_
        refine r_iload_n K 4 dX12_between_141 rfl rfl ?_
        refine w_callV K hl H (fun r h => c_X12_rootOf l h) mC_yX12_rootOf mM_RX12_289 mI_yX12_rootOf mS_yX12_rootOf mZ_RX12 vc12 (Nat.le_of_ble_eq_true rfl) (Nat.le_of_ble_eq_true rfl) np_yX12_rootOf rfl (Nat.le_of_ble_eq_true rfl) dX12_between_142 (fun r11 H => ?_) ⟨Nat.zero_le _, Nat.zero_le _⟩
        refine w_icmp_gt K 152 dX12_between_145 (by decide) H (fun _ H => ?_) (fun _ H => ?_)
        · exact r_sub [1, 2, 3, 4, 6] rfl (t_X12_between_152 K hl H D)
        · refine r_iconst (v := 1) K dX12_between_148 (by decide) ?_
          refine r_goto K 153 dX12_between_149 (by decide) ?_
          exact r_sub [1, 2, 3, 4, 6] rfl (t_X12_between_153 K hl H D)
set_option maxRecDepth 10000 in
theorem l_X12_between_73 {X : jX} {l : Launch} {n : Nat} {Y : jY} (K : jOK X RX12 cX12_between 7 (some .int) 4) (hl : X.2.1 = l) {rr : Int32} {μr : jM} {v0 : Nat} {v1 : Int32} {v2 : Int32} {v3 : Int32}  {s0 : Int32 × Int32 × jM} {z : (Int32 × jM)} (H : jit jF (fun (s : Int32 × Int32 × jM) => b_X12_between_73 Y v0 v1 v2 v3 s.1 s.2.1 s.2.2) s0 = some z) (D : z = (rr, μr)) : JW X (jEnd X n Y (some (.int rr)) μr 0 0) 0 0 n Y 73 [(0, .ref v0), (1, .int v1), (2, .int v2), (3, .int v3), (4, .int s0.1), (5, .int s0.2.1)] [] s0.2.2 :=
  jit_ind (P := fun (s : Int32 × Int32 × jM) => JW X (jEnd X n Y (some (.int rr)) μr 0 0) 0 0 n Y 73 [(0, .ref v0), (1, .int v1), (2, .int v2), (3, .int v3), (4, .int s.1), (5, .int s.2.1)] [] s.2.2) (D := fun r => r = (rr, μr)) (fun s z Hs Ds => t_X12_between_73 K hl Hs Ds) jF s0 z H D
set_option maxRecDepth 10000 in
theorem t_X12_between_0 {X : jX} {l : Launch} {n : Nat} {Y : jY} (K : jOK X RX12 cX12_between 7 (some .int) 4) (hl : X.2.1 = l) {rr : Int32} {μr : jM} {v0 : Nat} {v1 : Int32} {v2 : Int32} {v3 : Int32} {μ : jM} {z : (Int32 × jM)} (H : f_X12_between Y v0 v1 v2 v3 μ = some z) (D : z = (rr, μr)) : JW X (jEnd X n Y (some (.int rr)) μr 0 0) 0 0 n Y 0 [(0, .ref v0), (1, .int v1), (2, .int v2), (3, .int v3)] [] μ := by
  unfold f_X12_between at H
  refine r_iload_n K 1 dX12_between_0 rfl rfl ?_
  refine w_callS K hl H (fun r h => c_X12_isDrawer l h) mC_yX12_isDrawer mM_RX12_253 mT_yX12_isDrawer mZ_RX12 (Nat.le_of_ble_eq_true rfl) (Nat.le_of_ble_eq_true rfl) np_yX12_isDrawer rfl (Nat.le_of_ble_eq_true rfl) dX12_between_1 (fun r1 H => ?_) ⟨Nat.zero_le _, Nat.zero_le _⟩
  refine w_if_eq K 24 dX12_between_4 (by decide) H (fun _ H => ?_) (fun _ H => ?_)
  · exact r_sub [] rfl (t_X12_between_24 K hl H D)
  · refine r_iload_n K 2 dX12_between_7 rfl rfl ?_
    refine w_callS K hl H (fun r h => c_X12_isDrawer l h) mC_yX12_isDrawer mM_RX12_253 mT_yX12_isDrawer mZ_RX12 (Nat.le_of_ble_eq_true rfl) (Nat.le_of_ble_eq_true rfl) np_yX12_isDrawer rfl (Nat.le_of_ble_eq_true rfl) dX12_between_8 (fun r2 H => ?_) ⟨Nat.zero_le _, Nat.zero_le _⟩
    refine w_if_eq K 24 dX12_between_11 (by decide) H (fun _ H => ?_) (fun _ H => ?_)
    · exact r_sub [] rfl (t_X12_between_24 K hl H D)
    · refine r_iload_n K 3 dX12_between_14 rfl rfl ?_
      refine r_iconst (v := 1) K dX12_between_15 (by decide) ?_
      refine r_bipush (v := 50) K dX12_between_16 (by decide) ?_
      refine w_callS K hl H (fun r h => c_X12_in l h) mC_yX12_in mM_RX12_134 mT_yX12_in mZ_RX12 (Nat.le_of_ble_eq_true rfl) (Nat.le_of_ble_eq_true rfl) np_yX12_in rfl (Nat.le_of_ble_eq_true rfl) dX12_between_18 (fun r3 H => ?_) ⟨Nat.zero_le _, Nat.zero_le _⟩
      refine w_if_ne K 26 dX12_between_21 (by decide) H (fun _ H => ?_) (fun _ H => ?_)
      · refine r_aload_n K 0 dX12_between_26 rfl rfl ?_
        refine w_getO K vc12 inX12 26 (by decide) mF_RX12_48 dX12_between_27 H (fun x4 H => ?_)
        refine r_iload_n K 1 dX12_between_30 rfl rfl ?_
        refine w_iald K dX12_between_31 H (fun x5 H => ?_)
        refine w_if_eq K 44 dX12_between_32 (by decide) H (fun _ H => ?_) (fun _ H => ?_)
        · exact r_sub [] rfl (t_X12_between_44 K hl H D)
        · refine r_aload_n K 0 dX12_between_35 rfl rfl ?_
          refine w_getO K vc12 inX12 26 (by decide) mF_RX12_48 dX12_between_36 H (fun x6 H => ?_)
          refine r_iload_n K 2 dX12_between_39 rfl rfl ?_
          refine w_iald K dX12_between_40 H (fun x7 H => ?_)
          refine w_if_ne K 47 dX12_between_41 (by decide) H (fun _ H => ?_) (fun _ H => ?_)
          · refine r_aload_n K 0 dX12_between_47 rfl rfl ?_
            refine w_getO K vc12 inX12 26 (by decide) mF_RX12_48 dX12_between_48 H (fun x8 H => ?_)
            refine r_iload_n K 2 dX12_between_51 rfl rfl ?_
            refine w_iald K dX12_between_52 H (fun x9 H => ?_)
            refine r_aload_n K 0 dX12_between_53 rfl rfl ?_
            refine w_getO K vc12 inX12 26 (by decide) mF_RX12_48 dX12_between_54 H (fun x10 H => ?_)
            refine r_iload_n K 1 dX12_between_57 rfl rfl ?_
            refine w_iald K dX12_between_58 H (fun x11 H => ?_)
            refine r_iconst (v := 1) K dX12_between_59 (by decide) ?_
            refine r_isub K dX12_between_60 ?_
            refine w_icmp_eq K 67 dX12_between_61 (by decide) H (fun _ H => ?_) (fun _ H => ?_)
            · refine r_iconst (v := 1) K dX12_between_67 (by decide) ?_
              refine r_istore K [(4, .int _), (0, .ref _), (1, .int _), (2, .int _), (3, .int _)] dX12_between_68 (by decide) rfl ?_
              refine r_iconst (v := 0) K dX12_between_70 (by decide) ?_
              refine r_istore K [(5, .int _), (4, .int _), (0, .ref _), (1, .int _), (2, .int _), (3, .int _)] dX12_between_71 (by decide) rfl ?_
              exact r_sub [2, 3, 4, 5, 1, 0] rfl (l_X12_between_73 K hl H D)
            · refine r_bipush (v := -3) K dX12_between_64 (by decide) ?_
              cases H
              obtain ⟨rfl, rfl⟩ := jfin2 D
              exact r_iret K dX12_between_66
          · exact r_sub [] rfl (t_X12_between_44 K hl H D)
      · exact r_sub [] rfl (t_X12_between_24 K hl H D)
theorem c_X12_between (l : Launch) {n : Nat} {Y : jY} {v0 : Nat} {v1 : Int32} {v2 : Int32} {v3 : Int32} {μ : jM} {z : Int32 × jM} (H : f_X12_between Y v0 v1 v2 v3 μ = some z) : jC l yX12_between cX12_between 7 (some .int) 4 0 0 [.ref v0, .int v1, .int v2, .int v3] n Y μ n Y (some (.int z.1)) z.2 := by
  refine jC_of (by decide +kernel) (Nat.le_of_ble_eq_true rfl) (fun X hl K _ _ _ => ?_)
  obtain ⟨rr, μr⟩ := z
  exact t_X12_between_0 K hl H rfl
/-! RX12 common(JJ)J -/
def b_X12_common_28 (Y : jY) (v4 : Int64) (v6 : Int64) (μ : jM) : Option ((Int64 × Int64 × jM) ⊕ (Int64 × jM)) :=
  if ((lg_cmp v6 ((0 : Int64)))) = 0 then
    some (.inr (v4, μ))
  else
    (jremL v4 v6).bind fun x1 =>
    some (.inl (v6, x1, μ))
def b_X12_common_26 (Y : jY) (v4 : Int64) (t0 : Int64) (μ : jM) : Option (Int64 × jM) :=
  jit jF (fun (s : Int64 × Int64 × jM) => b_X12_common_28 Y s.1 s.2.1 s.2.2) (v4, t0, μ)
def b_X12_common_12 (Y : jY) (v2 : Int64) (t0 : Int64) (μ : jM) : Option (Int64 × jM) :=
  if 0 ≤ ((lg_cmp v2 ((0 : Int64)))) then
    b_X12_common_26 Y t0 v2 μ
  else
    b_X12_common_26 Y t0 (-v2) μ
def f_X12_common (Y : jY) (v0 : Int64) (v2 : Int64) (μ : jM) : Option (Int64 × jM) :=
  if 0 ≤ ((lg_cmp v0 ((0 : Int64)))) then
    b_X12_common_12 Y v2 v0 μ
  else
    b_X12_common_12 Y v2 (-v0) μ
set_option maxRecDepth 10000 in
theorem t_X12_common_28 {X : jX} {l : Launch} {n : Nat} {Y : jY} (K : jOK X RX12 cX12_common 10 (some .long) 1) (hl : X.2.1 = l) {rr : Int64} {μr : jM} {v4 : Int64} {v6 : Int64} {μ : jM} {z : ((Int64 × Int64 × jM) ⊕ (Int64 × jM))} (H : b_X12_common_28 Y v4 v6 μ = some z) (D : Sum.elim (fun (s : Int64 × Int64 × jM) => JW X (jEnd X n Y (some (.long rr)) μr 0 0) 0 0 n Y 28 [(4, .long s.1), (6, .long s.2.1)] [] s.2.2) (fun r => r = (rr, μr)) z) : JW X (jEnd X n Y (some (.long rr)) μr 0 0) 0 0 n Y 28 [(4, .long v4), (6, .long v6)] [] μ := by
  unfold b_X12_common_28 at H
  refine r_lload K 1 dX12_common_28 rfl ?_
  refine r_lconst (v := 0) K dX12_common_30 (by decide) ?_
  refine r_lcmp K dX12_common_31 ?_
  refine w_if_eq K 53 dX12_common_32 (by decide) H (fun _ H => ?_) (fun _ H => ?_)
  · refine r_lload K 0 dX12_common_53 rfl ?_
    cases H
    simp only [Sum.elim_inr] at D
    obtain ⟨rfl, rfl⟩ := jfin2 D
    exact r_lret K dX12_common_55
  · refine r_lload K 0 dX12_common_35 rfl ?_
    refine r_lload K 1 dX12_common_37 rfl ?_
    refine w_lrem K dX12_common_39 H (fun x1 H => ?_)
    refine r_lstore K [(8, .long _), (4, .long _), (6, .long _)] dX12_common_40 (by decide) rfl ?_
    refine r_lload K 2 dX12_common_42 rfl ?_
    refine r_lstore K [(4, .long _), (8, .long _), (6, .long _)] dX12_common_44 (by decide) rfl ?_
    refine r_lload K 1 dX12_common_46 rfl ?_
    refine r_lstore K [(6, .long _), (4, .long _), (8, .long _)] dX12_common_48 (by decide) rfl ?_
    refine r_goto K 28 dX12_common_50 (by decide) ?_
    cases H
    exact r_sub [1, 0] rfl D
set_option maxRecDepth 10000 in
theorem l_X12_common_28 {X : jX} {l : Launch} {n : Nat} {Y : jY} (K : jOK X RX12 cX12_common 10 (some .long) 1) (hl : X.2.1 = l) {rr : Int64} {μr : jM}   {s0 : Int64 × Int64 × jM} {z : (Int64 × jM)} (H : jit jF (fun (s : Int64 × Int64 × jM) => b_X12_common_28 Y s.1 s.2.1 s.2.2) s0 = some z) (D : z = (rr, μr)) : JW X (jEnd X n Y (some (.long rr)) μr 0 0) 0 0 n Y 28 [(4, .long s0.1), (6, .long s0.2.1)] [] s0.2.2 :=
  jit_ind (P := fun (s : Int64 × Int64 × jM) => JW X (jEnd X n Y (some (.long rr)) μr 0 0) 0 0 n Y 28 [(4, .long s.1), (6, .long s.2.1)] [] s.2.2) (D := fun r => r = (rr, μr)) (fun s z Hs Ds => t_X12_common_28 K hl Hs Ds) jF s0 z H D
set_option maxRecDepth 10000 in
theorem t_X12_common_26 {X : jX} {l : Launch} {n : Nat} {Y : jY} (K : jOK X RX12 cX12_common 10 (some .long) 1) (hl : X.2.1 = l) {rr : Int64} {μr : jM} {v4 : Int64} {t0 : Int64} {μ : jM} {z : (Int64 × jM)} (H : b_X12_common_26 Y v4 t0 μ = some z) (D : z = (rr, μr)) : JW X (jEnd X n Y (some (.long rr)) μr 0 0) 0 0 n Y 26 [(4, .long v4)] [.long t0] μ := by
  unfold b_X12_common_26 at H
  refine r_lstore K [(6, .long _), (4, .long _)] dX12_common_26 (by decide) rfl ?_
  exact r_sub [1, 0] rfl (l_X12_common_28 K hl H D)
set_option maxRecDepth 10000 in
theorem t_X12_common_12 {X : jX} {l : Launch} {n : Nat} {Y : jY} (K : jOK X RX12 cX12_common 10 (some .long) 1) (hl : X.2.1 = l) {rr : Int64} {μr : jM} {v2 : Int64} {t0 : Int64} {μ : jM} {z : (Int64 × jM)} (H : b_X12_common_12 Y v2 t0 μ = some z) (D : z = (rr, μr)) : JW X (jEnd X n Y (some (.long rr)) μr 0 0) 0 0 n Y 12 [(2, .long v2)] [.long t0] μ := by
  unfold b_X12_common_12 at H
  refine r_lstore K [(4, .long _), (2, .long _)] dX12_common_12 (by decide) rfl ?_
  refine r_lload_n K 1 dX12_common_14 rfl rfl ?_
  refine r_lconst (v := 0) K dX12_common_15 (by decide) ?_
  refine r_lcmp K dX12_common_16 ?_
  refine w_if_ge K 25 dX12_common_17 (by decide) H (fun _ H => ?_) (fun _ H => ?_)
  · refine r_lload_n K 1 dX12_common_25 rfl rfl ?_
    exact r_sub [0] rfl (t_X12_common_26 K hl H D)
  · refine r_lload_n K 1 dX12_common_20 rfl rfl ?_
    refine r_lneg K dX12_common_21 ?_
    refine r_goto K 26 dX12_common_22 (by decide) ?_
    exact r_sub [0] rfl (t_X12_common_26 K hl H D)
set_option maxRecDepth 10000 in
theorem t_X12_common_0 {X : jX} {l : Launch} {n : Nat} {Y : jY} (K : jOK X RX12 cX12_common 10 (some .long) 1) (hl : X.2.1 = l) {rr : Int64} {μr : jM} {v0 : Int64} {v2 : Int64} {μ : jM} {z : (Int64 × jM)} (H : f_X12_common Y v0 v2 μ = some z) (D : z = (rr, μr)) : JW X (jEnd X n Y (some (.long rr)) μr 0 0) 0 0 n Y 0 [(0, .long v0), (2, .long v2)] [] μ := by
  unfold f_X12_common at H
  refine r_lload_n K 0 dX12_common_0 rfl rfl ?_
  refine r_lconst (v := 0) K dX12_common_1 (by decide) ?_
  refine r_lcmp K dX12_common_2 ?_
  refine w_if_ge K 11 dX12_common_3 (by decide) H (fun _ H => ?_) (fun _ H => ?_)
  · refine r_lload_n K 0 dX12_common_11 rfl rfl ?_
    exact r_sub [1] rfl (t_X12_common_12 K hl H D)
  · refine r_lload_n K 0 dX12_common_6 rfl rfl ?_
    refine r_lneg K dX12_common_7 ?_
    refine r_goto K 12 dX12_common_8 (by decide) ?_
    exact r_sub [1] rfl (t_X12_common_12 K hl H D)
theorem c_X12_common (l : Launch) {n : Nat} {Y : jY} {v0 : Int64} {v2 : Int64} {μ : jM} {z : Int64 × jM} (H : f_X12_common Y v0 v2 μ = some z) : jC l yX12_common cX12_common 10 (some .long) 1 0 0 [.long v0, .long v2] n Y μ n Y (some (.long z.1)) z.2 := by
  refine jC_of (by decide +kernel) (Nat.le_of_ble_eq_true rfl) (fun X hl K _ _ _ => ?_)
  obtain ⟨rr, μr⟩ := z
  exact t_X12_common_0 K hl H rfl
/-! RX12 valueAt(IIIJ)J -/
def b_X12_valueAt_55 (Y : jY) (v0 : Nat) (v1 : Int32) (v2 : Int32) (v3 : Int32) (v4 : Int64) (v6 : Int64) (v10 : Int32) (t0 : Int64) (t1 : Int64) (μ : jM) : Option ((Int64 × Int64 × Int32 × jM) ⊕ (Int64 × jM)) :=
  some (.inl ((t0 - t1), v6, (v10 + (1 : Int32)), μ))
def b_X12_valueAt_9 (Y : jY) (v0 : Nat) (v1 : Int32) (v2 : Int32) (v3 : Int32) (v4 : Int64) (v6 : Int64) (v8 : Int64) (v10 : Int32) (μ : jM) : Option ((Int64 × Int64 × Int32 × jM) ⊕ (Int64 × jM)) :=
  if v3 ≤ v10 then
    some (.inr (v6, μ))
  else
    (jrcv Y v0 12 (f_X12_a Y v0 v1 ((v2 + v10)) μ)).bind fun r1 =>
    if v10 ≤ 0 then
      b_X12_valueAt_55 Y v0 v1 v2 v3 v4 v6 v10 (((v4 - ((r1.1.toInt64)))) * v6) (0 : Int64) r1.2
    else
      (jrcv Y v0 12 (f_X12_c Y v0 v1 ((((v2 + v10)) - ((1 : Int32)))) r1.2)).bind fun r2 =>
      b_X12_valueAt_55 Y v0 v1 v2 v3 v4 v6 v10 (((v4 - ((r1.1.toInt64)))) * v6) (((r2.1.toInt64)) * v8) r2.2
def f_X12_valueAt (Y : jY) (v0 : Nat) (v1 : Int32) (v2 : Int32) (v3 : Int32) (v4 : Int64) (μ : jM) : Option (Int64 × jM) :=
  jit jF (fun (s : Int64 × Int64 × Int32 × jM) => b_X12_valueAt_9 Y v0 v1 v2 v3 v4 s.1 s.2.1 s.2.2.1 s.2.2.2) ((1 : Int64), (0 : Int64), (0 : Int32), μ)
set_option maxRecDepth 10000 in
theorem t_X12_valueAt_55 {X : jX} {l : Launch} {n : Nat} {Y : jY} (K : jOK X RX12 cX12_valueAt 13 (some .long) 2) (hl : X.2.1 = l) {rr : Int64} {μr : jM} {v0 : Nat} {v1 : Int32} {v2 : Int32} {v3 : Int32} {v4 : Int64} {v6 : Int64} {v10 : Int32} {t0 : Int64} {t1 : Int64} {μ : jM} {z : ((Int64 × Int64 × Int32 × jM) ⊕ (Int64 × jM))} (H : b_X12_valueAt_55 Y v0 v1 v2 v3 v4 v6 v10 t0 t1 μ = some z) (D : Sum.elim (fun (s : Int64 × Int64 × Int32 × jM) => JW X (jEnd X n Y (some (.long rr)) μr 0 0) 0 0 n Y 9 [(0, .ref v0), (1, .int v1), (2, .int v2), (3, .int v3), (4, .long v4), (6, .long s.1), (8, .long s.2.1), (10, .int s.2.2.1)] [] s.2.2.2) (fun r => r = (rr, μr)) z) : JW X (jEnd X n Y (some (.long rr)) μr 0 0) 0 0 n Y 55 [(0, .ref v0), (1, .int v1), (2, .int v2), (3, .int v3), (4, .long v4), (6, .long v6), (10, .int v10)] [.long t1, .long t0] μ := by
  unfold b_X12_valueAt_55 at H
  refine r_lsub K dX12_valueAt_55 ?_
  refine r_lstore K [(11, .long _), (0, .ref _), (1, .int _), (2, .int _), (3, .int _), (4, .long _), (6, .long _), (10, .int _)] dX12_valueAt_56 (by decide) rfl ?_
  refine r_lload K 6 dX12_valueAt_58 rfl ?_
  refine r_lstore K [(8, .long _), (11, .long _), (0, .ref _), (1, .int _), (2, .int _), (3, .int _), (4, .long _), (6, .long _), (10, .int _)] dX12_valueAt_60 (by decide) rfl ?_
  refine r_lload K 1 dX12_valueAt_62 rfl ?_
  refine r_lstore K [(6, .long _), (8, .long _), (11, .long _), (0, .ref _), (1, .int _), (2, .int _), (3, .int _), (4, .long _), (10, .int _)] dX12_valueAt_64 (by decide) rfl ?_
  refine r_iinc K 8 [(10, .int _), (6, .long _), (8, .long _), (11, .long _), (0, .ref _), (1, .int _), (2, .int _), (3, .int _), (4, .long _)] (v := _ + (1 : Int32)) dX12_valueAt_66 rfl rfl (by decide) rfl ?_
  refine r_goto K 9 dX12_valueAt_69 (by decide) ?_
  cases H
  exact r_sub [4, 5, 6, 7, 8, 1, 2, 0] rfl D
set_option maxRecDepth 10000 in
theorem t_X12_valueAt_9 {X : jX} {l : Launch} {n : Nat} {Y : jY} (K : jOK X RX12 cX12_valueAt 13 (some .long) 2) (hl : X.2.1 = l) {rr : Int64} {μr : jM} {v0 : Nat} {v1 : Int32} {v2 : Int32} {v3 : Int32} {v4 : Int64} {v6 : Int64} {v8 : Int64} {v10 : Int32} {μ : jM} {z : ((Int64 × Int64 × Int32 × jM) ⊕ (Int64 × jM))} (H : b_X12_valueAt_9 Y v0 v1 v2 v3 v4 v6 v8 v10 μ = some z) (D : Sum.elim (fun (s : Int64 × Int64 × Int32 × jM) => JW X (jEnd X n Y (some (.long rr)) μr 0 0) 0 0 n Y 9 [(0, .ref v0), (1, .int v1), (2, .int v2), (3, .int v3), (4, .long v4), (6, .long s.1), (8, .long s.2.1), (10, .int s.2.2.1)] [] s.2.2.2) (fun r => r = (rr, μr)) z) : JW X (jEnd X n Y (some (.long rr)) μr 0 0) 0 0 n Y 9 [(0, .ref v0), (1, .int v1), (2, .int v2), (3, .int v3), (4, .long v4), (6, .long v6), (8, .long v8), (10, .int v10)] [] μ := by
  unfold b_X12_valueAt_9 at H
  refine r_iload K 7 dX12_valueAt_9 rfl ?_
  refine r_iload_n K 3 dX12_valueAt_11 rfl rfl ?_
  refine w_icmp_ge K 72 dX12_valueAt_12 (by decide) H (fun _ H => ?_) (fun _ H => ?_)
  · refine r_lload K 5 dX12_valueAt_72 rfl ?_
    cases H
    simp only [Sum.elim_inr] at D
    obtain ⟨rfl, rfl⟩ := jfin2 D
    exact r_lret K dX12_valueAt_74
  · refine r_lload K 4 dX12_valueAt_15 rfl ?_
    refine r_aload_n K 0 dX12_valueAt_17 rfl rfl ?_
    refine r_iload_n K 1 dX12_valueAt_18 rfl rfl ?_
    refine r_iload_n K 2 dX12_valueAt_19 rfl rfl ?_
    refine r_iload K 7 dX12_valueAt_20 rfl ?_
    refine r_iadd K dX12_valueAt_22 ?_
    refine w_callV K hl H (fun r h => c_X12_a l h) mC_yX12_a mM_RX12_256 mI_yX12_a mS_yX12_a mZ_RX12 vc12 (Nat.le_of_ble_eq_true rfl) (Nat.le_of_ble_eq_true rfl) np_yX12_a rfl (Nat.le_of_ble_eq_true rfl) dX12_valueAt_23 (fun r1 H => ?_) ⟨Nat.zero_le _, Nat.zero_le _⟩
    refine r_i2l K dX12_valueAt_26 ?_
    refine r_lsub K dX12_valueAt_27 ?_
    refine r_lload K 5 dX12_valueAt_28 rfl ?_
    refine r_lmul K dX12_valueAt_30 ?_
    refine r_iload K 7 dX12_valueAt_31 rfl ?_
    refine w_if_le K 54 dX12_valueAt_33 (by decide) H (fun _ H => ?_) (fun _ H => ?_)
    · refine r_lconst (v := 0) K dX12_valueAt_54 (by decide) ?_
      exact r_sub [0, 1, 2, 3, 4, 5, 7] rfl (t_X12_valueAt_55 K hl H D)
    · refine r_aload_n K 0 dX12_valueAt_36 rfl rfl ?_
      refine r_iload_n K 1 dX12_valueAt_37 rfl rfl ?_
      refine r_iload_n K 2 dX12_valueAt_38 rfl rfl ?_
      refine r_iload K 7 dX12_valueAt_39 rfl ?_
      refine r_iadd K dX12_valueAt_41 ?_
      refine r_iconst (v := 1) K dX12_valueAt_42 (by decide) ?_
      refine r_isub K dX12_valueAt_43 ?_
      refine w_callV K hl H (fun r h => c_X12_c l h) mC_yX12_c mM_RX12_260 mI_yX12_c mS_yX12_c mZ_RX12 vc12 (Nat.le_of_ble_eq_true rfl) (Nat.le_of_ble_eq_true rfl) np_yX12_c rfl (Nat.le_of_ble_eq_true rfl) dX12_valueAt_44 (fun r2 H => ?_) ⟨Nat.zero_le _, Nat.zero_le _⟩
      refine r_i2l K dX12_valueAt_47 ?_
      refine r_lload K 6 dX12_valueAt_48 rfl ?_
      refine r_lmul K dX12_valueAt_50 ?_
      refine r_goto K 55 dX12_valueAt_51 (by decide) ?_
      exact r_sub [0, 1, 2, 3, 4, 5, 7] rfl (t_X12_valueAt_55 K hl H D)
set_option maxRecDepth 10000 in
theorem l_X12_valueAt_9 {X : jX} {l : Launch} {n : Nat} {Y : jY} (K : jOK X RX12 cX12_valueAt 13 (some .long) 2) (hl : X.2.1 = l) {rr : Int64} {μr : jM} {v0 : Nat} {v1 : Int32} {v2 : Int32} {v3 : Int32} {v4 : Int64}  {s0 : Int64 × Int64 × Int32 × jM} {z : (Int64 × jM)} (H : jit jF (fun (s : Int64 × Int64 × Int32 × jM) => b_X12_valueAt_9 Y v0 v1 v2 v3 v4 s.1 s.2.1 s.2.2.1 s.2.2.2) s0 = some z) (D : z = (rr, μr)) : JW X (jEnd X n Y (some (.long rr)) μr 0 0) 0 0 n Y 9 [(0, .ref v0), (1, .int v1), (2, .int v2), (3, .int v3), (4, .long v4), (6, .long s0.1), (8, .long s0.2.1), (10, .int s0.2.2.1)] [] s0.2.2.2 :=
  jit_ind (P := fun (s : Int64 × Int64 × Int32 × jM) => JW X (jEnd X n Y (some (.long rr)) μr 0 0) 0 0 n Y 9 [(0, .ref v0), (1, .int v1), (2, .int v2), (3, .int v3), (4, .long v4), (6, .long s.1), (8, .long s.2.1), (10, .int s.2.2.1)] [] s.2.2.2) (D := fun r => r = (rr, μr)) (fun s z Hs Ds => t_X12_valueAt_9 K hl Hs Ds) jF s0 z H D
set_option maxRecDepth 10000 in
theorem t_X12_valueAt_0 {X : jX} {l : Launch} {n : Nat} {Y : jY} (K : jOK X RX12 cX12_valueAt 13 (some .long) 2) (hl : X.2.1 = l) {rr : Int64} {μr : jM} {v0 : Nat} {v1 : Int32} {v2 : Int32} {v3 : Int32} {v4 : Int64} {μ : jM} {z : (Int64 × jM)} (H : f_X12_valueAt Y v0 v1 v2 v3 v4 μ = some z) (D : z = (rr, μr)) : JW X (jEnd X n Y (some (.long rr)) μr 0 0) 0 0 n Y 0 [(0, .ref v0), (1, .int v1), (2, .int v2), (3, .int v3), (4, .long v4)] [] μ := by
  unfold f_X12_valueAt at H
  refine r_lconst (v := 1) K dX12_valueAt_0 (by decide) ?_
  refine r_lstore K [(6, .long _), (0, .ref _), (1, .int _), (2, .int _), (3, .int _), (4, .long _)] dX12_valueAt_1 (by decide) rfl ?_
  refine r_lconst (v := 0) K dX12_valueAt_3 (by decide) ?_
  refine r_lstore K [(8, .long _), (6, .long _), (0, .ref _), (1, .int _), (2, .int _), (3, .int _), (4, .long _)] dX12_valueAt_4 (by decide) rfl ?_
  refine r_iconst (v := 0) K dX12_valueAt_6 (by decide) ?_
  refine r_istore K [(10, .int _), (8, .long _), (6, .long _), (0, .ref _), (1, .int _), (2, .int _), (3, .int _), (4, .long _)] dX12_valueAt_7 (by decide) rfl ?_
  exact r_sub [3, 4, 5, 6, 7, 2, 1, 0] rfl (l_X12_valueAt_9 K hl H D)
theorem c_X12_valueAt (l : Launch) {n : Nat} {Y : jY} {v0 : Nat} {v1 : Int32} {v2 : Int32} {v3 : Int32} {v4 : Int64} {μ : jM} {z : Int64 × jM} (H : f_X12_valueAt Y v0 v1 v2 v3 v4 μ = some z) : jC l yX12_valueAt cX12_valueAt 13 (some .long) 2 0 0 [.ref v0, .int v1, .int v2, .int v3, .long v4] n Y μ n Y (some (.long z.1)) z.2 := by
  refine jC_of (by decide +kernel) (Nat.le_of_ble_eq_true rfl) (fun X hl K _ _ _ => ?_)
  obtain ⟨rr, μr⟩ := z
  exact t_X12_valueAt_0 K hl H rfl
/-! RX12 wholeOf(III)I -/
def b_X12_wholeOf_36 (Y : jY) (v0 : Nat) (v1 : Int32) (v2 : Int32) (v3 : Int32) (v5 : Int32) (t0 : Int32) (t1 : Int32) (μ : jM) : Option ((Int32 × Int32 × jM) ⊕ (Int32 × jM)) :=
  some (.inl ((t0 + t1), (v5 + (1 : Int32)), μ))
def b_X12_wholeOf_7 (Y : jY) (v0 : Nat) (v1 : Int32) (v2 : Int32) (v3 : Int32) (v4 : Int32) (v5 : Int32) (μ : jM) : Option ((Int32 × Int32 × jM) ⊕ (Int32 × jM)) :=
  if ((20 : Int32)) < v5 then
    some (.inr (v4, μ))
  else
    (jrcv Y v0 12 (f_X12_valueAt Y v0 v1 v2 v3 ((v5.toInt64)) μ)).bind fun r1 =>
    if ((lg_cmp r1.1 ((0 : Int64)))) = 0 then
      b_X12_wholeOf_36 Y v0 v1 v2 v3 v5 v4 (1 : Int32) r1.2
    else
      b_X12_wholeOf_36 Y v0 v1 v2 v3 v5 v4 (0 : Int32) r1.2
def f_X12_wholeOf (Y : jY) (v0 : Nat) (v1 : Int32) (v2 : Int32) (v3 : Int32) (μ : jM) : Option (Int32 × jM) :=
  jit jF (fun (s : Int32 × Int32 × jM) => b_X12_wholeOf_7 Y v0 v1 v2 v3 s.1 s.2.1 s.2.2) ((0 : Int32), (-20 : Int32), μ)
set_option maxRecDepth 10000 in
theorem t_X12_wholeOf_36 {X : jX} {l : Launch} {n : Nat} {Y : jY} (K : jOK X RX12 cX12_wholeOf 6 (some .int) 3) (hl : X.2.1 = l) {rr : Int32} {μr : jM} {v0 : Nat} {v1 : Int32} {v2 : Int32} {v3 : Int32} {v5 : Int32} {t0 : Int32} {t1 : Int32} {μ : jM} {z : ((Int32 × Int32 × jM) ⊕ (Int32 × jM))} (H : b_X12_wholeOf_36 Y v0 v1 v2 v3 v5 t0 t1 μ = some z) (D : Sum.elim (fun (s : Int32 × Int32 × jM) => JW X (jEnd X n Y (some (.int rr)) μr 0 0) 0 0 n Y 7 [(0, .ref v0), (1, .int v1), (2, .int v2), (3, .int v3), (4, .int s.1), (5, .int s.2.1)] [] s.2.2) (fun r => r = (rr, μr)) z) : JW X (jEnd X n Y (some (.int rr)) μr 0 0) 0 0 n Y 36 [(0, .ref v0), (1, .int v1), (2, .int v2), (3, .int v3), (5, .int v5)] [.int t1, .int t0] μ := by
  unfold b_X12_wholeOf_36 at H
  refine r_iadd K dX12_wholeOf_36 ?_
  refine r_istore K [(4, .int _), (0, .ref _), (1, .int _), (2, .int _), (3, .int _), (5, .int _)] dX12_wholeOf_37 (by decide) rfl ?_
  refine r_iinc K 5 [(5, .int _), (4, .int _), (0, .ref _), (1, .int _), (2, .int _), (3, .int _)] (v := _ + (1 : Int32)) dX12_wholeOf_39 rfl rfl (by decide) rfl ?_
  refine r_goto K 7 dX12_wholeOf_42 (by decide) ?_
  cases H
  exact r_sub [2, 3, 4, 5, 1, 0] rfl D
set_option maxRecDepth 10000 in
theorem t_X12_wholeOf_7 {X : jX} {l : Launch} {n : Nat} {Y : jY} (K : jOK X RX12 cX12_wholeOf 6 (some .int) 3) (hl : X.2.1 = l) {rr : Int32} {μr : jM} {v0 : Nat} {v1 : Int32} {v2 : Int32} {v3 : Int32} {v4 : Int32} {v5 : Int32} {μ : jM} {z : ((Int32 × Int32 × jM) ⊕ (Int32 × jM))} (H : b_X12_wholeOf_7 Y v0 v1 v2 v3 v4 v5 μ = some z) (D : Sum.elim (fun (s : Int32 × Int32 × jM) => JW X (jEnd X n Y (some (.int rr)) μr 0 0) 0 0 n Y 7 [(0, .ref v0), (1, .int v1), (2, .int v2), (3, .int v3), (4, .int s.1), (5, .int s.2.1)] [] s.2.2) (fun r => r = (rr, μr)) z) : JW X (jEnd X n Y (some (.int rr)) μr 0 0) 0 0 n Y 7 [(0, .ref v0), (1, .int v1), (2, .int v2), (3, .int v3), (4, .int v4), (5, .int v5)] [] μ := by
  unfold b_X12_wholeOf_7 at H
  refine r_iload K 5 dX12_wholeOf_7 rfl ?_
  refine r_bipush (v := 20) K dX12_wholeOf_9 (by decide) ?_
  refine w_icmp_gt K 45 dX12_wholeOf_11 (by decide) H (fun _ H => ?_) (fun _ H => ?_)
  · refine r_iload K 4 dX12_wholeOf_45 rfl ?_
    cases H
    simp only [Sum.elim_inr] at D
    obtain ⟨rfl, rfl⟩ := jfin2 D
    exact r_iret K dX12_wholeOf_47
  · refine r_iload K 4 dX12_wholeOf_14 rfl ?_
    refine r_aload_n K 0 dX12_wholeOf_16 rfl rfl ?_
    refine r_iload_n K 1 dX12_wholeOf_17 rfl rfl ?_
    refine r_iload_n K 2 dX12_wholeOf_18 rfl rfl ?_
    refine r_iload_n K 3 dX12_wholeOf_19 rfl rfl ?_
    refine r_iload K 5 dX12_wholeOf_20 rfl ?_
    refine r_i2l K dX12_wholeOf_22 ?_
    refine w_callV K hl H (fun r h => c_X12_valueAt l h) mC_yX12_valueAt mM_RX12_279 mI_yX12_valueAt mS_yX12_valueAt mZ_RX12 vc12 (Nat.le_of_ble_eq_true rfl) (Nat.le_of_ble_eq_true rfl) np_yX12_valueAt rfl (Nat.le_of_ble_eq_true rfl) dX12_wholeOf_23 (fun r1 H => ?_) ⟨Nat.zero_le _, Nat.zero_le _⟩
    refine r_lconst (v := 0) K dX12_wholeOf_26 (by decide) ?_
    refine r_lcmp K dX12_wholeOf_27 ?_
    refine w_if_ne K 35 dX12_wholeOf_28 (by decide) H (fun _ H => ?_) (fun _ H => ?_)
    · refine r_iconst (v := 0) K dX12_wholeOf_35 (by decide) ?_
      exact r_sub [0, 1, 2, 3, 5] rfl (t_X12_wholeOf_36 K hl H D)
    · refine r_iconst (v := 1) K dX12_wholeOf_31 (by decide) ?_
      refine r_goto K 36 dX12_wholeOf_32 (by decide) ?_
      exact r_sub [0, 1, 2, 3, 5] rfl (t_X12_wholeOf_36 K hl H D)
set_option maxRecDepth 10000 in
theorem l_X12_wholeOf_7 {X : jX} {l : Launch} {n : Nat} {Y : jY} (K : jOK X RX12 cX12_wholeOf 6 (some .int) 3) (hl : X.2.1 = l) {rr : Int32} {μr : jM} {v0 : Nat} {v1 : Int32} {v2 : Int32} {v3 : Int32}  {s0 : Int32 × Int32 × jM} {z : (Int32 × jM)} (H : jit jF (fun (s : Int32 × Int32 × jM) => b_X12_wholeOf_7 Y v0 v1 v2 v3 s.1 s.2.1 s.2.2) s0 = some z) (D : z = (rr, μr)) : JW X (jEnd X n Y (some (.int rr)) μr 0 0) 0 0 n Y 7 [(0, .ref v0), (1, .int v1), (2, .int v2), (3, .int v3), (4, .int s0.1), (5, .int s0.2.1)] [] s0.2.2 :=
  jit_ind (P := fun (s : Int32 × Int32 × jM) => JW X (jEnd X n Y (some (.int rr)) μr 0 0) 0 0 n Y 7 [(0, .ref v0), (1, .int v1), (2, .int v2), (3, .int v3), (4, .int s.1), (5, .int s.2.1)] [] s.2.2) (D := fun r => r = (rr, μr)) (fun s z Hs Ds => t_X12_wholeOf_7 K hl Hs Ds) jF s0 z H D
set_option maxRecDepth 10000 in
theorem t_X12_wholeOf_0 {X : jX} {l : Launch} {n : Nat} {Y : jY} (K : jOK X RX12 cX12_wholeOf 6 (some .int) 3) (hl : X.2.1 = l) {rr : Int32} {μr : jM} {v0 : Nat} {v1 : Int32} {v2 : Int32} {v3 : Int32} {μ : jM} {z : (Int32 × jM)} (H : f_X12_wholeOf Y v0 v1 v2 v3 μ = some z) (D : z = (rr, μr)) : JW X (jEnd X n Y (some (.int rr)) μr 0 0) 0 0 n Y 0 [(0, .ref v0), (1, .int v1), (2, .int v2), (3, .int v3)] [] μ := by
  unfold f_X12_wholeOf at H
  refine r_iconst (v := 0) K dX12_wholeOf_0 (by decide) ?_
  refine r_istore K [(4, .int _), (0, .ref _), (1, .int _), (2, .int _), (3, .int _)] dX12_wholeOf_1 (by decide) rfl ?_
  refine r_bipush (v := -20) K dX12_wholeOf_3 (by decide) ?_
  refine r_istore K [(5, .int _), (4, .int _), (0, .ref _), (1, .int _), (2, .int _), (3, .int _)] dX12_wholeOf_5 (by decide) rfl ?_
  exact r_sub [2, 3, 4, 5, 1, 0] rfl (l_X12_wholeOf_7 K hl H D)
theorem c_X12_wholeOf (l : Launch) {n : Nat} {Y : jY} {v0 : Nat} {v1 : Int32} {v2 : Int32} {v3 : Int32} {μ : jM} {z : Int32 × jM} (H : f_X12_wholeOf Y v0 v1 v2 v3 μ = some z) : jC l yX12_wholeOf cX12_wholeOf 6 (some .int) 3 0 0 [.ref v0, .int v1, .int v2, .int v3] n Y μ n Y (some (.int z.1)) z.2 := by
  refine jC_of (by decide +kernel) (Nat.le_of_ble_eq_true rfl) (fun X hl K _ _ _ => ?_)
  obtain ⟨rr, μr⟩ := z
  exact t_X12_wholeOf_0 K hl H rfl
/-! RX12 isRival(II)Z -/
def b_X12_isRival_73 (Y : jY) (t0 : Int32) (μ : jM) : Option (Int32 × jM) :=
  (jbool t0).bind fun x1 =>
  some (x1, μ)
def f_X12_isRival (Y : jY) (v0 : Nat) (v1 : Int32) (v2 : Int32) (μ : jM) : Option (Int32 × jM) :=
  (jgO Y μ v0 12 26).bind fun x1 =>
  (jaI Y μ x1 20 v1).bind fun x2 =>
  if v2 = 0 then
    (jrcv Y v0 12 (f_X12_wholeOf Y v0 v1 ((0 : Int32)) x2 μ)).bind fun r5 =>
    if r5.1 = x2 then
      b_X12_isRival_73 Y (1 : Int32) r5.2
    else
      b_X12_isRival_73 Y (0 : Int32) r5.2
  else
    if v2 = ((1 : Int32)) then
      (jrcv Y v0 12 (f_X12_valueAt Y v0 v1 ((0 : Int32)) x2 ((0 : Int64)) μ)).bind fun r4 =>
      if ((lg_cmp r4.1 ((0 : Int64)))) = 0 then
        b_X12_isRival_73 Y (1 : Int32) r4.2
      else
        b_X12_isRival_73 Y (0 : Int32) r4.2
    else
      (jrcv Y v0 12 (f_X12_belowOf Y v0 v1 ((0 : Int32)) x2 ((0 : Int32)) ((1 : Int32)) μ)).bind fun r3 =>
      if r3.1 = 0 then
        b_X12_isRival_73 Y (1 : Int32) r3.2
      else
        b_X12_isRival_73 Y (0 : Int32) r3.2
set_option maxRecDepth 10000 in
theorem t_X12_isRival_73 {X : jX} {l : Launch} {n : Nat} {Y : jY} (K : jOK X RX12 cX12_isRival 4 (some .boolean) 4) (hl : X.2.1 = l) {rr : Int32} {μr : jM} {t0 : Int32} {μ : jM} {z : (Int32 × jM)} (H : b_X12_isRival_73 Y t0 μ = some z) (D : z = (rr, μr)) : JW X (jEnd X n Y (some (.int rr)) μr 0 0) 0 0 n Y 73 [] [.int t0] μ := by
  unfold b_X12_isRival_73 at H
  refine w_zret K dX12_isRival_73 H (fun hz H => ?_)
  cases H
  obtain ⟨rfl, rfl⟩ := jfin2 D
  exact r_zret K hz dX12_isRival_73
set_option maxRecDepth 10000 in
theorem t_X12_isRival_0 {X : jX} {l : Launch} {n : Nat} {Y : jY} (K : jOK X RX12 cX12_isRival 4 (some .boolean) 4) (hl : X.2.1 = l) {rr : Int32} {μr : jM} {v0 : Nat} {v1 : Int32} {v2 : Int32} {μ : jM} {z : (Int32 × jM)} (H : f_X12_isRival Y v0 v1 v2 μ = some z) (D : z = (rr, μr)) : JW X (jEnd X n Y (some (.int rr)) μr 0 0) 0 0 n Y 0 [(0, .ref v0), (1, .int v1), (2, .int v2)] [] μ := by
  unfold f_X12_isRival at H
  refine r_aload_n K 0 dX12_isRival_0 rfl rfl ?_
  refine w_getO K vc12 inX12 26 (by decide) mF_RX12_48 dX12_isRival_1 H (fun x1 H => ?_)
  refine r_iload_n K 1 dX12_isRival_4 rfl rfl ?_
  refine w_iald K dX12_isRival_5 H (fun x2 H => ?_)
  refine r_istore_n K [(3, .int _), (0, .ref _), (1, .int _), (2, .int _)] dX12_isRival_6 rfl (by decide) rfl ?_
  refine r_iload_n K 3 dX12_isRival_7 rfl rfl ?_
  refine w_if_ne K 30 dX12_isRival_8 (by decide) H (fun _ H => ?_) (fun _ H => ?_)
  · refine r_iload_n K 3 dX12_isRival_30 rfl rfl ?_
    refine r_iconst (v := 1) K dX12_isRival_31 (by decide) ?_
    refine w_icmp_ne K 56 dX12_isRival_32 (by decide) H (fun _ H => ?_) (fun _ H => ?_)
    · refine r_aload_n K 1 dX12_isRival_56 rfl rfl ?_
      refine r_iload_n K 2 dX12_isRival_57 rfl rfl ?_
      refine r_iconst (v := 0) K dX12_isRival_58 (by decide) ?_
      refine r_iload_n K 0 dX12_isRival_59 rfl rfl ?_
      refine r_iconst (v := 0) K dX12_isRival_60 (by decide) ?_
      refine r_iconst (v := 1) K dX12_isRival_61 (by decide) ?_
      refine w_callV K hl H (fun r h => c_X12_belowOf l h) mC_yX12_belowOf mM_RX12_283 mI_yX12_belowOf mS_yX12_belowOf mZ_RX12 vc12 (Nat.le_of_ble_eq_true rfl) (Nat.le_of_ble_eq_true rfl) np_yX12_belowOf rfl (Nat.le_of_ble_eq_true rfl) dX12_isRival_62 (fun r3 H => ?_) ⟨Nat.zero_le _, Nat.zero_le _⟩
      refine w_if_ne K 72 dX12_isRival_65 (by decide) H (fun _ H => ?_) (fun _ H => ?_)
      · refine r_iconst (v := 0) K dX12_isRival_72 (by decide) ?_
        exact r_sub [] rfl (t_X12_isRival_73 K hl H D)
      · refine r_iconst (v := 1) K dX12_isRival_68 (by decide) ?_
        refine r_goto K 73 dX12_isRival_69 (by decide) ?_
        exact r_sub [] rfl (t_X12_isRival_73 K hl H D)
    · refine r_aload_n K 1 dX12_isRival_35 rfl rfl ?_
      refine r_iload_n K 2 dX12_isRival_36 rfl rfl ?_
      refine r_iconst (v := 0) K dX12_isRival_37 (by decide) ?_
      refine r_iload_n K 0 dX12_isRival_38 rfl rfl ?_
      refine r_lconst (v := 0) K dX12_isRival_39 (by decide) ?_
      refine w_callV K hl H (fun r h => c_X12_valueAt l h) mC_yX12_valueAt mM_RX12_279 mI_yX12_valueAt mS_yX12_valueAt mZ_RX12 vc12 (Nat.le_of_ble_eq_true rfl) (Nat.le_of_ble_eq_true rfl) np_yX12_valueAt rfl (Nat.le_of_ble_eq_true rfl) dX12_isRival_40 (fun r4 H => ?_) ⟨Nat.zero_le _, Nat.zero_le _⟩
      refine r_lconst (v := 0) K dX12_isRival_43 (by decide) ?_
      refine r_lcmp K dX12_isRival_44 ?_
      refine w_if_ne K 52 dX12_isRival_45 (by decide) H (fun _ H => ?_) (fun _ H => ?_)
      · refine r_iconst (v := 0) K dX12_isRival_52 (by decide) ?_
        refine r_goto K 73 dX12_isRival_53 (by decide) ?_
        exact r_sub [] rfl (t_X12_isRival_73 K hl H D)
      · refine r_iconst (v := 1) K dX12_isRival_48 (by decide) ?_
        refine r_goto K 73 dX12_isRival_49 (by decide) ?_
        exact r_sub [] rfl (t_X12_isRival_73 K hl H D)
  · refine r_aload_n K 1 dX12_isRival_11 rfl rfl ?_
    refine r_iload_n K 2 dX12_isRival_12 rfl rfl ?_
    refine r_iconst (v := 0) K dX12_isRival_13 (by decide) ?_
    refine r_iload_n K 0 dX12_isRival_14 rfl rfl ?_
    refine w_callV K hl H (fun r h => c_X12_wholeOf l h) mC_yX12_wholeOf mM_RX12_292 mI_yX12_wholeOf mS_yX12_wholeOf mZ_RX12 vc12 (Nat.le_of_ble_eq_true rfl) (Nat.le_of_ble_eq_true rfl) np_yX12_wholeOf rfl (Nat.le_of_ble_eq_true rfl) dX12_isRival_15 (fun r5 H => ?_) ⟨Nat.zero_le _, Nat.zero_le _⟩
    refine r_iload_n K 0 dX12_isRival_18 rfl rfl ?_
    refine w_icmp_ne K 26 dX12_isRival_19 (by decide) H (fun _ H => ?_) (fun _ H => ?_)
    · refine r_iconst (v := 0) K dX12_isRival_26 (by decide) ?_
      refine r_goto K 73 dX12_isRival_27 (by decide) ?_
      exact r_sub [] rfl (t_X12_isRival_73 K hl H D)
    · refine r_iconst (v := 1) K dX12_isRival_22 (by decide) ?_
      refine r_goto K 73 dX12_isRival_23 (by decide) ?_
      exact r_sub [] rfl (t_X12_isRival_73 K hl H D)
theorem c_X12_isRival (l : Launch) {n : Nat} {Y : jY} {v0 : Nat} {v1 : Int32} {v2 : Int32} {μ : jM} {z : Int32 × jM} (H : f_X12_isRival Y v0 v1 v2 μ = some z) : jC l yX12_isRival cX12_isRival 4 (some .boolean) 4 0 0 [.ref v0, .int v1, .int v2] n Y μ n Y (some (.int z.1)) z.2 := by
  refine jC_of (by decide +kernel) (Nat.le_of_ble_eq_true rfl) (fun X hl K _ _ _ => ?_)
  obtain ⟨rr, μr⟩ := z
  exact t_X12_isRival_0 K hl H rfl
/-! RX12 puts(IZII)V -/
def b_X12_puts_31 (Y : jY) (μ : jM) : Option (jM) :=
  some μ
def f_X12_puts (Y : jY) (v0 : Nat) (v1 : Int32) (v2 : Int32) (v3 : Int32) (v4 : Int32) (μ : jM) : Option (jM) :=
  if v2 = 0 then
    (jgO Y μ v0 12 28).bind fun x1 =>
    (jas Y μ x1 20 ((((((5 : Int32)) * v1)) + v3)) (.int v4)).bind fun μ2 =>
    b_X12_puts_31 Y μ2
  else
    (jgO Y μ v0 12 27).bind fun x3 =>
    (jas Y μ x3 20 ((((((5 : Int32)) * v1)) + v3)) (.int v4)).bind fun μ4 =>
    b_X12_puts_31 Y μ4
set_option maxRecDepth 10000 in
theorem t_X12_puts_31 {X : jX} {l : Launch} {n : Nat} {Y : jY} (K : jOK X RX12 cX12_puts 5 none 1) (hl : X.2.1 = l) {μr : jM} {μ : jM} {z : (jM)} (H : b_X12_puts_31 Y μ = some z) (D : z = μr) : JW X (jEnd X n Y none μr 0 0) 0 0 n Y 31 [] [] μ := by
  unfold b_X12_puts_31 at H
  cases H
  subst D
  exact r_vret K dX12_puts_31
set_option maxRecDepth 10000 in
theorem t_X12_puts_0 {X : jX} {l : Launch} {n : Nat} {Y : jY} (K : jOK X RX12 cX12_puts 5 none 1) (hl : X.2.1 = l) {μr : jM} {v0 : Nat} {v1 : Int32} {v2 : Int32} {v3 : Int32} {v4 : Int32} {μ : jM} {z : (jM)} (H : f_X12_puts Y v0 v1 v2 v3 v4 μ = some z) (D : z = μr) : JW X (jEnd X n Y none μr 0 0) 0 0 n Y 0 [(0, .ref v0), (1, .int v1), (2, .int v2), (3, .int v3), (4, .int v4)] [] μ := by
  unfold f_X12_puts at H
  refine r_iload_n K 2 dX12_puts_0 rfl rfl ?_
  refine w_if_eq K 19 dX12_puts_1 (by decide) H (fun _ H => ?_) (fun _ H => ?_)
  · refine r_aload_n K 0 dX12_puts_19 rfl rfl ?_
    refine w_getO K vc12 inX12 28 (by decide) mF_RX12_54 dX12_puts_20 H (fun x1 H => ?_)
    refine r_iconst (v := 5) K dX12_puts_23 (by decide) ?_
    refine r_iload_n K 1 dX12_puts_24 rfl rfl ?_
    refine r_imul K dX12_puts_25 ?_
    refine r_iload_n K 3 dX12_puts_26 rfl rfl ?_
    refine r_iadd K dX12_puts_27 ?_
    refine r_iload K 4 dX12_puts_28 rfl ?_
    refine w_iast K dX12_puts_30 H (fun μ2 H => ?_)
    exact r_sub [] rfl (t_X12_puts_31 K hl H D)
  · refine r_aload_n K 0 dX12_puts_4 rfl rfl ?_
    refine w_getO K vc12 inX12 27 (by decide) mF_RX12_51 dX12_puts_5 H (fun x3 H => ?_)
    refine r_iconst (v := 5) K dX12_puts_8 (by decide) ?_
    refine r_iload_n K 1 dX12_puts_9 rfl rfl ?_
    refine r_imul K dX12_puts_10 ?_
    refine r_iload_n K 3 dX12_puts_11 rfl rfl ?_
    refine r_iadd K dX12_puts_12 ?_
    refine r_iload K 4 dX12_puts_13 rfl ?_
    refine w_iast K dX12_puts_15 H (fun μ4 H => ?_)
    refine r_goto K 31 dX12_puts_16 (by decide) ?_
    exact r_sub [] rfl (t_X12_puts_31 K hl H D)
theorem c_X12_puts (l : Launch) {n : Nat} {Y : jY} {v0 : Nat} {v1 : Int32} {v2 : Int32} {v3 : Int32} {v4 : Int32} {μ : jM} {z : jM} (H : f_X12_puts Y v0 v1 v2 v3 v4 μ = some z) : jC l yX12_puts cX12_puts 5 none 1 0 0 [.ref v0, .int v1, .int v2, .int v3, .int v4] n Y μ n Y none z := by
  refine jC_of (by decide +kernel) (Nat.le_of_ble_eq_true rfl) (fun X hl K _ _ _ => ?_)
  exact t_X12_puts_0 K hl H rfl
/-! RX12 rivals(IIZ)I -/
def b_X12_rivals_16 (Y : jY) (μ : jM) : Option (Int32 × jM) :=
  some ((-1 : Int32), μ)
def b_X12_rivals_261 (Y : jY) (t0 : Int32) (μ : jM) : Option (Int32 × jM) :=
  some (t0, μ)
def b_X12_rivals_227 (Y : jY) (v0 : Nat) (v1 : Int32) (v2 : Int32) (v3 : Int32) (v4 : Int32) (v5 : Int32) (v6 : Int32) (v7 : Int32) (v8 : Int32) (v9 : Int32) (v10 : Int32) (μ : jM) : Option ((Int32 × Int32 × Int32 × jM) ⊕ ((Int32 × Int32 × Int32 × jM) ⊕ (Int32 × jM))) :=
  some (.inl (v4, v5, (v10 + (1 : Int32)), μ))
def b_X12_rivals_225 (Y : jY) (v0 : Nat) (v1 : Int32) (v2 : Int32) (v3 : Int32) (v4 : Int32) (v6 : Int32) (v7 : Int32) (v8 : Int32) (v9 : Int32) (v10 : Int32) (t0 : Int32) (μ : jM) : Option ((Int32 × Int32 × Int32 × jM) ⊕ ((Int32 × Int32 × Int32 × jM) ⊕ (Int32 × jM))) :=
  b_X12_rivals_227 Y v0 v1 v2 v3 v4 t0 v6 v7 v8 v9 v10 μ
def b_X12_rivals_144 (Y : jY) (v0 : Nat) (v1 : Int32) (v2 : Int32) (v3 : Int32) (v4 : Int32) (v5 : Int32) (v6 : Int32) (v7 : Int32) (v8 : Int32) (v9 : Int32) (v10 : Int32) (t0 : Int32) (t1 : Int32) (μ : jM) : Option ((Int32 × Int32 × Int32 × jM) ⊕ ((Int32 × Int32 × Int32 × jM) ⊕ (Int32 × jM))) :=
  if t1 < t0 then
    (jrcv Y v0 12 (f_X12_puts Y v0 v1 v7 v8 v9 μ)).bind fun μ1 =>
    some (.inr (.inl (v4, v5, (v6 + (1 : Int32)), μ1)))
  else
    (jrcv Y v0 12 (f_X12_puts Y v0 v1 v7 v8 v10 μ)).bind fun μ2 =>
    if v10 = v9 then
      b_X12_rivals_227 Y v0 v1 v2 v3 v4 v5 v6 v7 v8 v9 v10 μ2
    else
      (jrcv Y v0 12 (f_X12_isRival Y v0 v1 v2 μ2)).bind fun r3 =>
      if r3.1 = 0 then
        b_X12_rivals_227 Y v0 v1 v2 v3 v4 v5 v6 v7 v8 v9 v10 r3.2
      else
        if v5 = ((-1 : Int32)) then
          if v7 = 0 then
            b_X12_rivals_225 Y v0 v1 v2 v3 (v4 + ((1 : Int32))) v6 v7 v8 v9 v10 (((((1000 : Int32)) + ((((100 : Int32)) * v8)))) + v10) r3.2
          else
            b_X12_rivals_225 Y v0 v1 v2 v3 (v4 + ((1 : Int32))) v6 v7 v8 v9 v10 (((((((100 : Int32)) * v8)) + v10)) + ((6 : Int32))) r3.2
        else
          b_X12_rivals_225 Y v0 v1 v2 v3 (v4 + ((1 : Int32))) v6 v7 v8 v9 v10 v5 r3.2
def b_X12_rivals_130 (Y : jY) (v0 : Nat) (v1 : Int32) (v2 : Int32) (v3 : Int32) (v4 : Int32) (v5 : Int32) (v6 : Int32) (v7 : Int32) (v8 : Int32) (v9 : Int32) (v10 : Int32) (μ : jM) : Option ((Int32 × Int32 × Int32 × jM) ⊕ ((Int32 × Int32 × Int32 × jM) ⊕ (Int32 × jM))) :=
  if v7 = 0 then
    b_X12_rivals_144 Y v0 v1 v2 v3 v4 v5 v6 v7 v8 v9 v10 v10 (36 : Int32) μ
  else
    b_X12_rivals_144 Y v0 v1 v2 v3 v4 v5 v6 v7 v8 v9 v10 v10 (6 : Int32) μ
def b_X12_rivals_128 (Y : jY) (v0 : Nat) (v1 : Int32) (v2 : Int32) (v3 : Int32) (v4 : Int32) (v5 : Int32) (v6 : Int32) (v7 : Int32) (v8 : Int32) (v9 : Int32) (t0 : Int32) (μ : jM) : Option ((Int32 × Int32 × Int32 × jM) ⊕ (Int32 × jM)) :=
  jit jF (fun (s : Int32 × Int32 × Int32 × jM) => b_X12_rivals_130 Y v0 v1 v2 v3 s.1 s.2.1 v6 v7 v8 v9 s.2.2.1 s.2.2.2) (v4, v5, t0, μ)
def b_X12_rivals_115 (Y : jY) (v0 : Nat) (v1 : Int32) (v2 : Int32) (v3 : Int32) (v4 : Int32) (v5 : Int32) (v6 : Int32) (v7 : Int32) (v8 : Int32) (t0 : Int32) (μ : jM) : Option ((Int32 × Int32 × Int32 × jM) ⊕ (Int32 × jM)) :=
  if v7 = 0 then
    b_X12_rivals_128 Y v0 v1 v2 v3 v4 v5 v6 v7 v8 t0 (1 : Int32) μ
  else
    b_X12_rivals_128 Y v0 v1 v2 v3 v4 v5 v6 v7 v8 t0 (-6 : Int32) μ
def b_X12_rivals_91 (Y : jY) (v0 : Nat) (v1 : Int32) (v2 : Int32) (v3 : Int32) (v4 : Int32) (v5 : Int32) (v6 : Int32) (v7 : Int32) (t0 : Int32) (μ : jM) : Option ((Int32 × Int32 × Int32 × jM) ⊕ (Int32 × jM)) :=
  if v7 = 0 then
    (jrcv Y v0 12 (f_X12_c Y v0 v1 t0 μ)).bind fun r1 =>
    b_X12_rivals_115 Y v0 v1 v2 v3 v4 v5 v6 v7 t0 r1.1 r1.2
  else
    (jrcv Y v0 12 (f_X12_a Y v0 v1 t0 μ)).bind fun r2 =>
    b_X12_rivals_115 Y v0 v1 v2 v3 v4 v5 v6 v7 t0 r2.1 r2.2
def b_X12_rivals_70 (Y : jY) (v0 : Nat) (v1 : Int32) (v2 : Int32) (v3 : Int32) (v4 : Int32) (v5 : Int32) (v6 : Int32) (t0 : Int32) (μ : jM) : Option ((Int32 × Int32 × Int32 × jM) ⊕ (Int32 × jM)) :=
  if t0 = 0 then
    (jgO Y μ v0 12 26).bind fun x1 =>
    (jaI Y μ x1 20 v1).bind fun x2 =>
    b_X12_rivals_91 Y v0 v1 v2 v3 v4 v5 v6 t0 (v6 - x2) μ
  else
    b_X12_rivals_91 Y v0 v1 v2 v3 v4 v5 v6 t0 v6 μ
def b_X12_rivals_39 (Y : jY) (v0 : Nat) (v1 : Int32) (v2 : Int32) (v3 : Int32) (v4 : Int32) (v5 : Int32) (v6 : Int32) (μ : jM) : Option ((Int32 × Int32 × Int32 × jM) ⊕ (Int32 × jM)) :=
  (jgO Y μ v0 12 26).bind fun x1 =>
  (jaI Y μ x1 20 v1).bind fun x2 =>
  if ((((((2 : Int32)) * x2)) - ((1 : Int32)))) ≤ v6 then
    if v3 = 0 then
      (b_X12_rivals_261 Y v4 μ).map (fun r => (.inr r))
    else
      (b_X12_rivals_261 Y v5 μ).map (fun r => (.inr r))
  else
    (jgO Y μ v0 12 26).bind fun x3 =>
    (jaI Y μ x3 20 v1).bind fun x4 =>
    if x4 ≤ v6 then
      b_X12_rivals_70 Y v0 v1 v2 v3 v4 v5 v6 (0 : Int32) μ
    else
      b_X12_rivals_70 Y v0 v1 v2 v3 v4 v5 v6 (1 : Int32) μ
def f_X12_rivals (Y : jY) (v0 : Nat) (v1 : Int32) (v2 : Int32) (v3 : Int32) (μ : jM) : Option (Int32 × jM) :=
  (f_X12_isDrawer Y v1 μ).bind fun r1 =>
  if r1.1 = 0 then
    b_X12_rivals_16 Y r1.2
  else
    (f_X12_in Y v2 ((0 : Int32)) ((2 : Int32)) r1.2).bind fun r2 =>
    if r2.1 = 0 then
      b_X12_rivals_16 Y r2.2
    else
      (jgO Y r2.2 v0 12 26).bind fun x3 =>
      (jaI Y r2.2 x3 20 v1).bind fun x4 =>
      if x4 = 0 then
        some ((-2 : Int32), r2.2)
      else
        jit jF (fun (s : Int32 × Int32 × Int32 × jM) => b_X12_rivals_39 Y v0 v1 v2 v3 s.1 s.2.1 s.2.2.1 s.2.2.2) ((0 : Int32), (-1 : Int32), (0 : Int32), r2.2)
set_option maxRecDepth 10000 in
theorem t_X12_rivals_16 {X : jX} {l : Launch} {n : Nat} {Y : jY} (K : jOK X RX12 cX12_rivals 11 (some .int) 5) (hl : X.2.1 = l) {rr : Int32} {μr : jM} {μ : jM} {z : (Int32 × jM)} (H : b_X12_rivals_16 Y μ = some z) (D : z = (rr, μr)) : JW X (jEnd X n Y (some (.int rr)) μr 0 0) 0 0 n Y 16 [] [] μ := by
  unfold b_X12_rivals_16 at H
  refine r_iconst (v := -1) K dX12_rivals_16 (by decide) ?_
  cases H
  obtain ⟨rfl, rfl⟩ := jfin2 D
  exact r_iret K dX12_rivals_17
set_option maxRecDepth 10000 in
theorem t_X12_rivals_261 {X : jX} {l : Launch} {n : Nat} {Y : jY} (K : jOK X RX12 cX12_rivals 11 (some .int) 5) (hl : X.2.1 = l) {rr : Int32} {μr : jM} {t0 : Int32} {μ : jM} {z : (Int32 × jM)} (H : b_X12_rivals_261 Y t0 μ = some z) (D : z = (rr, μr)) : JW X (jEnd X n Y (some (.int rr)) μr 0 0) 0 0 n Y 261 [] [.int t0] μ := by
  unfold b_X12_rivals_261 at H
  cases H
  obtain ⟨rfl, rfl⟩ := jfin2 D
  exact r_iret K dX12_rivals_261
set_option maxRecDepth 10000 in
theorem t_X12_rivals_227 {X : jX} {l : Launch} {n : Nat} {Y : jY} (K : jOK X RX12 cX12_rivals 11 (some .int) 5) (hl : X.2.1 = l) {rr : Int32} {μr : jM} {v0 : Nat} {v1 : Int32} {v2 : Int32} {v3 : Int32} {v4 : Int32} {v5 : Int32} {v6 : Int32} {v7 : Int32} {v8 : Int32} {v9 : Int32} {v10 : Int32} {μ : jM} {z : ((Int32 × Int32 × Int32 × jM) ⊕ ((Int32 × Int32 × Int32 × jM) ⊕ (Int32 × jM)))} (H : b_X12_rivals_227 Y v0 v1 v2 v3 v4 v5 v6 v7 v8 v9 v10 μ = some z) (D : Sum.elim (fun (s : Int32 × Int32 × Int32 × jM) => JW X (jEnd X n Y (some (.int rr)) μr 0 0) 0 0 n Y 130 [(0, .ref v0), (1, .int v1), (2, .int v2), (3, .int v3), (4, .int s.1), (5, .int s.2.1), (6, .int v6), (7, .int v7), (8, .int v8), (9, .int v9), (10, .int s.2.2.1)] [] s.2.2.2) (Sum.elim (fun (s : Int32 × Int32 × Int32 × jM) => JW X (jEnd X n Y (some (.int rr)) μr 0 0) 0 0 n Y 39 [(0, .ref v0), (1, .int v1), (2, .int v2), (3, .int v3), (4, .int s.1), (5, .int s.2.1), (6, .int s.2.2.1)] [] s.2.2.2) (fun r => r = (rr, μr))) z) : JW X (jEnd X n Y (some (.int rr)) μr 0 0) 0 0 n Y 227 [(0, .ref v0), (1, .int v1), (2, .int v2), (3, .int v3), (4, .int v4), (5, .int v5), (6, .int v6), (7, .int v7), (8, .int v8), (9, .int v9), (10, .int v10)] [] μ := by
  unfold b_X12_rivals_227 at H
  refine r_iinc K 10 [(10, .int _), (0, .ref _), (1, .int _), (2, .int _), (3, .int _), (4, .int _), (5, .int _), (6, .int _), (7, .int _), (8, .int _), (9, .int _)] (v := _ + (1 : Int32)) dX12_rivals_227 rfl rfl (by decide) rfl ?_
  refine r_goto K 130 dX12_rivals_230 (by decide) ?_
  cases H
  exact r_sub [1, 2, 3, 4, 5, 6, 7, 8, 9, 10, 0] rfl D
set_option maxRecDepth 10000 in
theorem t_X12_rivals_225 {X : jX} {l : Launch} {n : Nat} {Y : jY} (K : jOK X RX12 cX12_rivals 11 (some .int) 5) (hl : X.2.1 = l) {rr : Int32} {μr : jM} {v0 : Nat} {v1 : Int32} {v2 : Int32} {v3 : Int32} {v4 : Int32} {v6 : Int32} {v7 : Int32} {v8 : Int32} {v9 : Int32} {v10 : Int32} {t0 : Int32} {μ : jM} {z : ((Int32 × Int32 × Int32 × jM) ⊕ ((Int32 × Int32 × Int32 × jM) ⊕ (Int32 × jM)))} (H : b_X12_rivals_225 Y v0 v1 v2 v3 v4 v6 v7 v8 v9 v10 t0 μ = some z) (D : Sum.elim (fun (s : Int32 × Int32 × Int32 × jM) => JW X (jEnd X n Y (some (.int rr)) μr 0 0) 0 0 n Y 130 [(0, .ref v0), (1, .int v1), (2, .int v2), (3, .int v3), (4, .int s.1), (5, .int s.2.1), (6, .int v6), (7, .int v7), (8, .int v8), (9, .int v9), (10, .int s.2.2.1)] [] s.2.2.2) (Sum.elim (fun (s : Int32 × Int32 × Int32 × jM) => JW X (jEnd X n Y (some (.int rr)) μr 0 0) 0 0 n Y 39 [(0, .ref v0), (1, .int v1), (2, .int v2), (3, .int v3), (4, .int s.1), (5, .int s.2.1), (6, .int s.2.2.1)] [] s.2.2.2) (fun r => r = (rr, μr))) z) : JW X (jEnd X n Y (some (.int rr)) μr 0 0) 0 0 n Y 225 [(0, .ref v0), (1, .int v1), (2, .int v2), (3, .int v3), (4, .int v4), (6, .int v6), (7, .int v7), (8, .int v8), (9, .int v9), (10, .int v10)] [.int t0] μ := by
  unfold b_X12_rivals_225 at H
  refine r_istore K [(5, .int _), (0, .ref _), (1, .int _), (2, .int _), (3, .int _), (4, .int _), (6, .int _), (7, .int _), (8, .int _), (9, .int _), (10, .int _)] dX12_rivals_225 (by decide) rfl ?_
  exact r_sub [1, 2, 3, 4, 5, 0, 6, 7, 8, 9, 10] rfl (t_X12_rivals_227 K hl H D)
set_option maxRecDepth 10000 in
theorem t_X12_rivals_144 {X : jX} {l : Launch} {n : Nat} {Y : jY} (K : jOK X RX12 cX12_rivals 11 (some .int) 5) (hl : X.2.1 = l) {rr : Int32} {μr : jM} {v0 : Nat} {v1 : Int32} {v2 : Int32} {v3 : Int32} {v4 : Int32} {v5 : Int32} {v6 : Int32} {v7 : Int32} {v8 : Int32} {v9 : Int32} {v10 : Int32} {t0 : Int32} {t1 : Int32} {μ : jM} {z : ((Int32 × Int32 × Int32 × jM) ⊕ ((Int32 × Int32 × Int32 × jM) ⊕ (Int32 × jM)))} (H : b_X12_rivals_144 Y v0 v1 v2 v3 v4 v5 v6 v7 v8 v9 v10 t0 t1 μ = some z) (D : Sum.elim (fun (s : Int32 × Int32 × Int32 × jM) => JW X (jEnd X n Y (some (.int rr)) μr 0 0) 0 0 n Y 130 [(0, .ref v0), (1, .int v1), (2, .int v2), (3, .int v3), (4, .int s.1), (5, .int s.2.1), (6, .int v6), (7, .int v7), (8, .int v8), (9, .int v9), (10, .int s.2.2.1)] [] s.2.2.2) (Sum.elim (fun (s : Int32 × Int32 × Int32 × jM) => JW X (jEnd X n Y (some (.int rr)) μr 0 0) 0 0 n Y 39 [(0, .ref v0), (1, .int v1), (2, .int v2), (3, .int v3), (4, .int s.1), (5, .int s.2.1), (6, .int s.2.2.1)] [] s.2.2.2) (fun r => r = (rr, μr))) z) : JW X (jEnd X n Y (some (.int rr)) μr 0 0) 0 0 n Y 144 [(0, .ref v0), (1, .int v1), (2, .int v2), (3, .int v3), (4, .int v4), (5, .int v5), (6, .int v6), (7, .int v7), (8, .int v8), (9, .int v9), (10, .int v10)] [.int t1, .int t0] μ := by
  unfold b_X12_rivals_144 at H
  refine w_icmp_gt K 233 dX12_rivals_144 (by decide) H (fun _ H => ?_) (fun _ H => ?_)
  · refine r_aload_n K 0 dX12_rivals_233 rfl rfl ?_
    refine r_iload_n K 1 dX12_rivals_234 rfl rfl ?_
    refine r_iload K 7 dX12_rivals_235 rfl ?_
    refine r_iload K 8 dX12_rivals_237 rfl ?_
    refine r_iload K 9 dX12_rivals_239 rfl ?_
    refine w_callV K hl H (fun r h => c_X12_puts l h) mC_yX12_puts mM_RX12_271 mI_yX12_puts mS_yX12_puts mZ_RX12 vc12 (Nat.le_of_ble_eq_true rfl) (Nat.le_of_ble_eq_true rfl) np_yX12_puts rfl (Nat.le_of_ble_eq_true rfl) dX12_rivals_241 (fun μ1 H => ?_) ⟨Nat.zero_le _, Nat.zero_le _⟩
    refine r_iinc K 6 [(6, .int _), (0, .ref _), (1, .int _), (2, .int _), (3, .int _), (4, .int _), (5, .int _), (7, .int _), (8, .int _), (9, .int _), (10, .int _)] (v := _ + (1 : Int32)) dX12_rivals_244 rfl rfl (by decide) rfl ?_
    refine r_goto K 39 dX12_rivals_247 (by decide) ?_
    cases H
    exact r_sub [1, 2, 3, 4, 5, 6, 0] rfl D
  · refine r_aload_n K 0 dX12_rivals_147 rfl rfl ?_
    refine r_iload_n K 1 dX12_rivals_148 rfl rfl ?_
    refine r_iload K 7 dX12_rivals_149 rfl ?_
    refine r_iload K 8 dX12_rivals_151 rfl ?_
    refine r_iload K 10 dX12_rivals_153 rfl ?_
    refine w_callV K hl H (fun r h => c_X12_puts l h) mC_yX12_puts mM_RX12_271 mI_yX12_puts mS_yX12_puts mZ_RX12 vc12 (Nat.le_of_ble_eq_true rfl) (Nat.le_of_ble_eq_true rfl) np_yX12_puts rfl (Nat.le_of_ble_eq_true rfl) dX12_rivals_155 (fun μ2 H => ?_) ⟨Nat.zero_le _, Nat.zero_le _⟩
    refine r_iload K 10 dX12_rivals_158 rfl ?_
    refine r_iload K 9 dX12_rivals_160 rfl ?_
    refine w_icmp_eq K 227 dX12_rivals_162 (by decide) H (fun _ H => ?_) (fun _ H => ?_)
    · exact r_sub [0, 1, 2, 3, 4, 5, 6, 7, 8, 9, 10] rfl (t_X12_rivals_227 K hl H D)
    · refine r_aload_n K 0 dX12_rivals_165 rfl rfl ?_
      refine r_iload_n K 1 dX12_rivals_166 rfl rfl ?_
      refine r_iload_n K 2 dX12_rivals_167 rfl rfl ?_
      refine w_callV K hl H (fun r h => c_X12_isRival l h) mC_yX12_isRival mM_RX12_317 mI_yX12_isRival mS_yX12_isRival mZ_RX12 vc12 (Nat.le_of_ble_eq_true rfl) (Nat.le_of_ble_eq_true rfl) np_yX12_isRival rfl (Nat.le_of_ble_eq_true rfl) dX12_rivals_168 (fun r3 H => ?_) ⟨Nat.zero_le _, Nat.zero_le _⟩
      refine w_if_ne K 177 dX12_rivals_171 (by decide) H (fun _ H => ?_) (fun _ H => ?_)
      · refine r_iload K 4 dX12_rivals_177 rfl ?_
        refine r_iconst (v := 1) K dX12_rivals_179 (by decide) ?_
        refine r_iadd K dX12_rivals_180 ?_
        refine r_istore K [(4, .int _), (0, .ref _), (1, .int _), (2, .int _), (3, .int _), (5, .int _), (6, .int _), (7, .int _), (8, .int _), (9, .int _), (10, .int _)] dX12_rivals_181 (by decide) rfl ?_
        refine r_iload K 5 dX12_rivals_183 rfl ?_
        refine r_iconst (v := -1) K dX12_rivals_185 (by decide) ?_
        refine w_icmp_ne K 223 dX12_rivals_186 (by decide) H (fun _ H => ?_) (fun _ H => ?_)
        · refine r_iload K 5 dX12_rivals_223 rfl ?_
          exact r_sub [1, 2, 3, 4, 0, 6, 7, 8, 9, 10] rfl (t_X12_rivals_225 K hl H D)
        · refine r_iload K 7 dX12_rivals_189 rfl ?_
          refine w_if_eq K 208 dX12_rivals_191 (by decide) H (fun _ H => ?_) (fun _ H => ?_)
          · refine r_sipush (v := 1000) K dX12_rivals_208 (by decide) ?_
            refine r_bipush (v := 100) K dX12_rivals_211 (by decide) ?_
            refine r_iload K 8 dX12_rivals_213 rfl ?_
            refine r_imul K dX12_rivals_215 ?_
            refine r_iadd K dX12_rivals_216 ?_
            refine r_iload K 10 dX12_rivals_217 rfl ?_
            refine r_iadd K dX12_rivals_219 ?_
            refine r_goto K 225 dX12_rivals_220 (by decide) ?_
            exact r_sub [1, 2, 3, 4, 0, 6, 7, 8, 9, 10] rfl (t_X12_rivals_225 K hl H D)
          · refine r_bipush (v := 100) K dX12_rivals_194 (by decide) ?_
            refine r_iload K 8 dX12_rivals_196 rfl ?_
            refine r_imul K dX12_rivals_198 ?_
            refine r_iload K 10 dX12_rivals_199 rfl ?_
            refine r_iadd K dX12_rivals_201 ?_
            refine r_bipush (v := 6) K dX12_rivals_202 (by decide) ?_
            refine r_iadd K dX12_rivals_204 ?_
            refine r_goto K 225 dX12_rivals_205 (by decide) ?_
            exact r_sub [1, 2, 3, 4, 0, 6, 7, 8, 9, 10] rfl (t_X12_rivals_225 K hl H D)
      · refine r_goto K 227 dX12_rivals_174 (by decide) ?_
        exact r_sub [0, 1, 2, 3, 4, 5, 6, 7, 8, 9, 10] rfl (t_X12_rivals_227 K hl H D)
set_option maxRecDepth 10000 in
theorem t_X12_rivals_130 {X : jX} {l : Launch} {n : Nat} {Y : jY} (K : jOK X RX12 cX12_rivals 11 (some .int) 5) (hl : X.2.1 = l) {rr : Int32} {μr : jM} {v0 : Nat} {v1 : Int32} {v2 : Int32} {v3 : Int32} {v4 : Int32} {v5 : Int32} {v6 : Int32} {v7 : Int32} {v8 : Int32} {v9 : Int32} {v10 : Int32} {μ : jM} {z : ((Int32 × Int32 × Int32 × jM) ⊕ ((Int32 × Int32 × Int32 × jM) ⊕ (Int32 × jM)))} (H : b_X12_rivals_130 Y v0 v1 v2 v3 v4 v5 v6 v7 v8 v9 v10 μ = some z) (D : Sum.elim (fun (s : Int32 × Int32 × Int32 × jM) => JW X (jEnd X n Y (some (.int rr)) μr 0 0) 0 0 n Y 130 [(0, .ref v0), (1, .int v1), (2, .int v2), (3, .int v3), (4, .int s.1), (5, .int s.2.1), (6, .int v6), (7, .int v7), (8, .int v8), (9, .int v9), (10, .int s.2.2.1)] [] s.2.2.2) (Sum.elim (fun (s : Int32 × Int32 × Int32 × jM) => JW X (jEnd X n Y (some (.int rr)) μr 0 0) 0 0 n Y 39 [(0, .ref v0), (1, .int v1), (2, .int v2), (3, .int v3), (4, .int s.1), (5, .int s.2.1), (6, .int s.2.2.1)] [] s.2.2.2) (fun r => r = (rr, μr))) z) : JW X (jEnd X n Y (some (.int rr)) μr 0 0) 0 0 n Y 130 [(0, .ref v0), (1, .int v1), (2, .int v2), (3, .int v3), (4, .int v4), (5, .int v5), (6, .int v6), (7, .int v7), (8, .int v8), (9, .int v9), (10, .int v10)] [] μ := by
  unfold b_X12_rivals_130 at H
  refine r_iload K 10 dX12_rivals_130 rfl ?_
  refine r_iload K 7 dX12_rivals_132 rfl ?_
  refine w_if_eq K 142 dX12_rivals_134 (by decide) H (fun _ H => ?_) (fun _ H => ?_)
  · refine r_bipush (v := 36) K dX12_rivals_142 (by decide) ?_
    exact r_sub [0, 1, 2, 3, 4, 5, 6, 7, 8, 9, 10] rfl (t_X12_rivals_144 K hl H D)
  · refine r_bipush (v := 6) K dX12_rivals_137 (by decide) ?_
    refine r_goto K 144 dX12_rivals_139 (by decide) ?_
    exact r_sub [0, 1, 2, 3, 4, 5, 6, 7, 8, 9, 10] rfl (t_X12_rivals_144 K hl H D)
set_option maxRecDepth 10000 in
theorem l_X12_rivals_130 {X : jX} {l : Launch} {n : Nat} {Y : jY} (K : jOK X RX12 cX12_rivals 11 (some .int) 5) (hl : X.2.1 = l) {rr : Int32} {μr : jM} {v0 : Nat} {v1 : Int32} {v2 : Int32} {v3 : Int32} {v6 : Int32} {v7 : Int32} {v8 : Int32} {v9 : Int32}  {s0 : Int32 × Int32 × Int32 × jM} {z : ((Int32 × Int32 × Int32 × jM) ⊕ (Int32 × jM))} (H : jit jF (fun (s : Int32 × Int32 × Int32 × jM) => b_X12_rivals_130 Y v0 v1 v2 v3 s.1 s.2.1 v6 v7 v8 v9 s.2.2.1 s.2.2.2) s0 = some z) (D : Sum.elim (fun (s : Int32 × Int32 × Int32 × jM) => JW X (jEnd X n Y (some (.int rr)) μr 0 0) 0 0 n Y 39 [(0, .ref v0), (1, .int v1), (2, .int v2), (3, .int v3), (4, .int s.1), (5, .int s.2.1), (6, .int s.2.2.1)] [] s.2.2.2) (fun r => r = (rr, μr)) z) : JW X (jEnd X n Y (some (.int rr)) μr 0 0) 0 0 n Y 130 [(0, .ref v0), (1, .int v1), (2, .int v2), (3, .int v3), (4, .int s0.1), (5, .int s0.2.1), (6, .int v6), (7, .int v7), (8, .int v8), (9, .int v9), (10, .int s0.2.2.1)] [] s0.2.2.2 :=
  jit_ind (P := fun (s : Int32 × Int32 × Int32 × jM) => JW X (jEnd X n Y (some (.int rr)) μr 0 0) 0 0 n Y 130 [(0, .ref v0), (1, .int v1), (2, .int v2), (3, .int v3), (4, .int s.1), (5, .int s.2.1), (6, .int v6), (7, .int v7), (8, .int v8), (9, .int v9), (10, .int s.2.2.1)] [] s.2.2.2) (D := Sum.elim (fun (s : Int32 × Int32 × Int32 × jM) => JW X (jEnd X n Y (some (.int rr)) μr 0 0) 0 0 n Y 39 [(0, .ref v0), (1, .int v1), (2, .int v2), (3, .int v3), (4, .int s.1), (5, .int s.2.1), (6, .int s.2.2.1)] [] s.2.2.2) (fun r => r = (rr, μr))) (fun s z Hs Ds => t_X12_rivals_130 K hl Hs Ds) jF s0 z H D
set_option maxRecDepth 10000 in
theorem t_X12_rivals_128 {X : jX} {l : Launch} {n : Nat} {Y : jY} (K : jOK X RX12 cX12_rivals 11 (some .int) 5) (hl : X.2.1 = l) {rr : Int32} {μr : jM} {v0 : Nat} {v1 : Int32} {v2 : Int32} {v3 : Int32} {v4 : Int32} {v5 : Int32} {v6 : Int32} {v7 : Int32} {v8 : Int32} {v9 : Int32} {t0 : Int32} {μ : jM} {z : ((Int32 × Int32 × Int32 × jM) ⊕ (Int32 × jM))} (H : b_X12_rivals_128 Y v0 v1 v2 v3 v4 v5 v6 v7 v8 v9 t0 μ = some z) (D : Sum.elim (fun (s : Int32 × Int32 × Int32 × jM) => JW X (jEnd X n Y (some (.int rr)) μr 0 0) 0 0 n Y 39 [(0, .ref v0), (1, .int v1), (2, .int v2), (3, .int v3), (4, .int s.1), (5, .int s.2.1), (6, .int s.2.2.1)] [] s.2.2.2) (fun r => r = (rr, μr)) z) : JW X (jEnd X n Y (some (.int rr)) μr 0 0) 0 0 n Y 128 [(0, .ref v0), (1, .int v1), (2, .int v2), (3, .int v3), (4, .int v4), (5, .int v5), (6, .int v6), (7, .int v7), (8, .int v8), (9, .int v9)] [.int t0] μ := by
  unfold b_X12_rivals_128 at H
  refine r_istore K [(10, .int _), (0, .ref _), (1, .int _), (2, .int _), (3, .int _), (4, .int _), (5, .int _), (6, .int _), (7, .int _), (8, .int _), (9, .int _)] dX12_rivals_128 (by decide) rfl ?_
  exact r_sub [1, 2, 3, 4, 5, 6, 7, 8, 9, 10, 0] rfl (l_X12_rivals_130 K hl H D)
set_option maxRecDepth 10000 in
theorem t_X12_rivals_115 {X : jX} {l : Launch} {n : Nat} {Y : jY} (K : jOK X RX12 cX12_rivals 11 (some .int) 5) (hl : X.2.1 = l) {rr : Int32} {μr : jM} {v0 : Nat} {v1 : Int32} {v2 : Int32} {v3 : Int32} {v4 : Int32} {v5 : Int32} {v6 : Int32} {v7 : Int32} {v8 : Int32} {t0 : Int32} {μ : jM} {z : ((Int32 × Int32 × Int32 × jM) ⊕ (Int32 × jM))} (H : b_X12_rivals_115 Y v0 v1 v2 v3 v4 v5 v6 v7 v8 t0 μ = some z) (D : Sum.elim (fun (s : Int32 × Int32 × Int32 × jM) => JW X (jEnd X n Y (some (.int rr)) μr 0 0) 0 0 n Y 39 [(0, .ref v0), (1, .int v1), (2, .int v2), (3, .int v3), (4, .int s.1), (5, .int s.2.1), (6, .int s.2.2.1)] [] s.2.2.2) (fun r => r = (rr, μr)) z) : JW X (jEnd X n Y (some (.int rr)) μr 0 0) 0 0 n Y 115 [(0, .ref v0), (1, .int v1), (2, .int v2), (3, .int v3), (4, .int v4), (5, .int v5), (6, .int v6), (7, .int v7), (8, .int v8)] [.int t0] μ := by
  unfold b_X12_rivals_115 at H
  refine r_istore K [(9, .int _), (0, .ref _), (1, .int _), (2, .int _), (3, .int _), (4, .int _), (5, .int _), (6, .int _), (7, .int _), (8, .int _)] dX12_rivals_115 (by decide) rfl ?_
  refine r_iload K 8 dX12_rivals_117 rfl ?_
  refine w_if_eq K 127 dX12_rivals_119 (by decide) H (fun _ H => ?_) (fun _ H => ?_)
  · refine r_iconst (v := 1) K dX12_rivals_127 (by decide) ?_
    exact r_sub [1, 2, 3, 4, 5, 6, 7, 8, 9, 0] rfl (t_X12_rivals_128 K hl H D)
  · refine r_bipush (v := -6) K dX12_rivals_122 (by decide) ?_
    refine r_goto K 128 dX12_rivals_124 (by decide) ?_
    exact r_sub [1, 2, 3, 4, 5, 6, 7, 8, 9, 0] rfl (t_X12_rivals_128 K hl H D)
set_option maxRecDepth 10000 in
theorem t_X12_rivals_91 {X : jX} {l : Launch} {n : Nat} {Y : jY} (K : jOK X RX12 cX12_rivals 11 (some .int) 5) (hl : X.2.1 = l) {rr : Int32} {μr : jM} {v0 : Nat} {v1 : Int32} {v2 : Int32} {v3 : Int32} {v4 : Int32} {v5 : Int32} {v6 : Int32} {v7 : Int32} {t0 : Int32} {μ : jM} {z : ((Int32 × Int32 × Int32 × jM) ⊕ (Int32 × jM))} (H : b_X12_rivals_91 Y v0 v1 v2 v3 v4 v5 v6 v7 t0 μ = some z) (D : Sum.elim (fun (s : Int32 × Int32 × Int32 × jM) => JW X (jEnd X n Y (some (.int rr)) μr 0 0) 0 0 n Y 39 [(0, .ref v0), (1, .int v1), (2, .int v2), (3, .int v3), (4, .int s.1), (5, .int s.2.1), (6, .int s.2.2.1)] [] s.2.2.2) (fun r => r = (rr, μr)) z) : JW X (jEnd X n Y (some (.int rr)) μr 0 0) 0 0 n Y 91 [(0, .ref v0), (1, .int v1), (2, .int v2), (3, .int v3), (4, .int v4), (5, .int v5), (6, .int v6), (7, .int v7)] [.int t0] μ := by
  unfold b_X12_rivals_91 at H
  refine r_istore K [(8, .int _), (0, .ref _), (1, .int _), (2, .int _), (3, .int _), (4, .int _), (5, .int _), (6, .int _), (7, .int _)] dX12_rivals_91 (by decide) rfl ?_
  refine r_iload K 8 dX12_rivals_93 rfl ?_
  refine w_if_eq K 108 dX12_rivals_95 (by decide) H (fun _ H => ?_) (fun _ H => ?_)
  · refine r_aload_n K 1 dX12_rivals_108 rfl rfl ?_
    refine r_iload_n K 2 dX12_rivals_109 rfl rfl ?_
    refine r_iload K 0 dX12_rivals_110 rfl ?_
    refine w_callV K hl H (fun r h => c_X12_c l h) mC_yX12_c mM_RX12_260 mI_yX12_c mS_yX12_c mZ_RX12 vc12 (Nat.le_of_ble_eq_true rfl) (Nat.le_of_ble_eq_true rfl) np_yX12_c rfl (Nat.le_of_ble_eq_true rfl) dX12_rivals_112 (fun r1 H => ?_) ⟨Nat.zero_le _, Nat.zero_le _⟩
    exact r_sub [1, 2, 3, 4, 5, 6, 7, 8, 0] rfl (t_X12_rivals_115 K hl H D)
  · refine r_aload_n K 1 dX12_rivals_98 rfl rfl ?_
    refine r_iload_n K 2 dX12_rivals_99 rfl rfl ?_
    refine r_iload K 0 dX12_rivals_100 rfl ?_
    refine w_callV K hl H (fun r h => c_X12_a l h) mC_yX12_a mM_RX12_256 mI_yX12_a mS_yX12_a mZ_RX12 vc12 (Nat.le_of_ble_eq_true rfl) (Nat.le_of_ble_eq_true rfl) np_yX12_a rfl (Nat.le_of_ble_eq_true rfl) dX12_rivals_102 (fun r2 H => ?_) ⟨Nat.zero_le _, Nat.zero_le _⟩
    refine r_goto K 115 dX12_rivals_105 (by decide) ?_
    exact r_sub [1, 2, 3, 4, 5, 6, 7, 8, 0] rfl (t_X12_rivals_115 K hl H D)
set_option maxRecDepth 10000 in
theorem t_X12_rivals_70 {X : jX} {l : Launch} {n : Nat} {Y : jY} (K : jOK X RX12 cX12_rivals 11 (some .int) 5) (hl : X.2.1 = l) {rr : Int32} {μr : jM} {v0 : Nat} {v1 : Int32} {v2 : Int32} {v3 : Int32} {v4 : Int32} {v5 : Int32} {v6 : Int32} {t0 : Int32} {μ : jM} {z : ((Int32 × Int32 × Int32 × jM) ⊕ (Int32 × jM))} (H : b_X12_rivals_70 Y v0 v1 v2 v3 v4 v5 v6 t0 μ = some z) (D : Sum.elim (fun (s : Int32 × Int32 × Int32 × jM) => JW X (jEnd X n Y (some (.int rr)) μr 0 0) 0 0 n Y 39 [(0, .ref v0), (1, .int v1), (2, .int v2), (3, .int v3), (4, .int s.1), (5, .int s.2.1), (6, .int s.2.2.1)] [] s.2.2.2) (fun r => r = (rr, μr)) z) : JW X (jEnd X n Y (some (.int rr)) μr 0 0) 0 0 n Y 70 [(0, .ref v0), (1, .int v1), (2, .int v2), (3, .int v3), (4, .int v4), (5, .int v5), (6, .int v6)] [.int t0] μ := by
  unfold b_X12_rivals_70 at H
  refine r_istore K [(7, .int _), (0, .ref _), (1, .int _), (2, .int _), (3, .int _), (4, .int _), (5, .int _), (6, .int _)] dX12_rivals_70 (by decide) rfl ?_
  refine r_iload K 0 dX12_rivals_72 rfl ?_
  refine w_if_eq K 82 dX12_rivals_74 (by decide) H (fun _ H => ?_) (fun _ H => ?_)
  · refine r_iload K 7 dX12_rivals_82 rfl ?_
    refine r_aload_n K 1 dX12_rivals_84 rfl rfl ?_
    refine w_getO K vc12 inX12 26 (by decide) mF_RX12_48 dX12_rivals_85 H (fun x1 H => ?_)
    refine r_iload_n K 2 dX12_rivals_88 rfl rfl ?_
    refine w_iald K dX12_rivals_89 H (fun x2 H => ?_)
    refine r_isub K dX12_rivals_90 ?_
    exact r_sub [1, 2, 3, 4, 5, 6, 7, 0] rfl (t_X12_rivals_91 K hl H D)
  · refine r_iload K 7 dX12_rivals_77 rfl ?_
    refine r_goto K 91 dX12_rivals_79 (by decide) ?_
    exact r_sub [1, 2, 3, 4, 5, 6, 7, 0] rfl (t_X12_rivals_91 K hl H D)
set_option maxRecDepth 10000 in
theorem t_X12_rivals_39 {X : jX} {l : Launch} {n : Nat} {Y : jY} (K : jOK X RX12 cX12_rivals 11 (some .int) 5) (hl : X.2.1 = l) {rr : Int32} {μr : jM} {v0 : Nat} {v1 : Int32} {v2 : Int32} {v3 : Int32} {v4 : Int32} {v5 : Int32} {v6 : Int32} {μ : jM} {z : ((Int32 × Int32 × Int32 × jM) ⊕ (Int32 × jM))} (H : b_X12_rivals_39 Y v0 v1 v2 v3 v4 v5 v6 μ = some z) (D : Sum.elim (fun (s : Int32 × Int32 × Int32 × jM) => JW X (jEnd X n Y (some (.int rr)) μr 0 0) 0 0 n Y 39 [(0, .ref v0), (1, .int v1), (2, .int v2), (3, .int v3), (4, .int s.1), (5, .int s.2.1), (6, .int s.2.2.1)] [] s.2.2.2) (fun r => r = (rr, μr)) z) : JW X (jEnd X n Y (some (.int rr)) μr 0 0) 0 0 n Y 39 [(0, .ref v0), (1, .int v1), (2, .int v2), (3, .int v3), (4, .int v4), (5, .int v5), (6, .int v6)] [] μ := by
  unfold b_X12_rivals_39 at H
  refine r_iload K 6 dX12_rivals_39 rfl ?_
  refine r_iconst (v := 2) K dX12_rivals_41 (by decide) ?_
  refine r_aload_n K 0 dX12_rivals_42 rfl rfl ?_
  refine w_getO K vc12 inX12 26 (by decide) mF_RX12_48 dX12_rivals_43 H (fun x1 H => ?_)
  refine r_iload_n K 1 dX12_rivals_46 rfl rfl ?_
  refine w_iald K dX12_rivals_47 H (fun x2 H => ?_)
  refine r_imul K dX12_rivals_48 ?_
  refine r_iconst (v := 1) K dX12_rivals_49 (by decide) ?_
  refine r_isub K dX12_rivals_50 ?_
  refine w_icmp_ge K 250 dX12_rivals_51 (by decide) H (fun _ H => ?_) (fun _ H => ?_)
  · refine r_iload_n K 3 dX12_rivals_250 rfl rfl ?_
    refine w_if_eq K 259 dX12_rivals_251 (by decide) H (fun _ H => ?_) (fun _ H => ?_)
    · refine r_iload K 4 dX12_rivals_259 rfl ?_
      obtain ⟨z2, H2, rfl⟩ := jmap H
      exact r_sub [] rfl (t_X12_rivals_261 K hl H2 D)
    · refine r_iload K 5 dX12_rivals_254 rfl ?_
      refine r_goto K 261 dX12_rivals_256 (by decide) ?_
      obtain ⟨z2, H2, rfl⟩ := jmap H
      exact r_sub [] rfl (t_X12_rivals_261 K hl H2 D)
  · refine r_iload K 6 dX12_rivals_54 rfl ?_
    refine r_aload_n K 0 dX12_rivals_56 rfl rfl ?_
    refine w_getO K vc12 inX12 26 (by decide) mF_RX12_48 dX12_rivals_57 H (fun x3 H => ?_)
    refine r_iload_n K 1 dX12_rivals_60 rfl rfl ?_
    refine w_iald K dX12_rivals_61 H (fun x4 H => ?_)
    refine w_icmp_ge K 69 dX12_rivals_62 (by decide) H (fun _ H => ?_) (fun _ H => ?_)
    · refine r_iconst (v := 0) K dX12_rivals_69 (by decide) ?_
      exact r_sub [0, 1, 2, 3, 4, 5, 6] rfl (t_X12_rivals_70 K hl H D)
    · refine r_iconst (v := 1) K dX12_rivals_65 (by decide) ?_
      refine r_goto K 70 dX12_rivals_66 (by decide) ?_
      exact r_sub [0, 1, 2, 3, 4, 5, 6] rfl (t_X12_rivals_70 K hl H D)
set_option maxRecDepth 10000 in
theorem l_X12_rivals_39 {X : jX} {l : Launch} {n : Nat} {Y : jY} (K : jOK X RX12 cX12_rivals 11 (some .int) 5) (hl : X.2.1 = l) {rr : Int32} {μr : jM} {v0 : Nat} {v1 : Int32} {v2 : Int32} {v3 : Int32}  {s0 : Int32 × Int32 × Int32 × jM} {z : (Int32 × jM)} (H : jit jF (fun (s : Int32 × Int32 × Int32 × jM) => b_X12_rivals_39 Y v0 v1 v2 v3 s.1 s.2.1 s.2.2.1 s.2.2.2) s0 = some z) (D : z = (rr, μr)) : JW X (jEnd X n Y (some (.int rr)) μr 0 0) 0 0 n Y 39 [(0, .ref v0), (1, .int v1), (2, .int v2), (3, .int v3), (4, .int s0.1), (5, .int s0.2.1), (6, .int s0.2.2.1)] [] s0.2.2.2 :=
  jit_ind (P := fun (s : Int32 × Int32 × Int32 × jM) => JW X (jEnd X n Y (some (.int rr)) μr 0 0) 0 0 n Y 39 [(0, .ref v0), (1, .int v1), (2, .int v2), (3, .int v3), (4, .int s.1), (5, .int s.2.1), (6, .int s.2.2.1)] [] s.2.2.2) (D := fun r => r = (rr, μr)) (fun s z Hs Ds => t_X12_rivals_39 K hl Hs Ds) jF s0 z H D
set_option maxRecDepth 10000 in
theorem t_X12_rivals_0 {X : jX} {l : Launch} {n : Nat} {Y : jY} (K : jOK X RX12 cX12_rivals 11 (some .int) 5) (hl : X.2.1 = l) {rr : Int32} {μr : jM} {v0 : Nat} {v1 : Int32} {v2 : Int32} {v3 : Int32} {μ : jM} {z : (Int32 × jM)} (H : f_X12_rivals Y v0 v1 v2 v3 μ = some z) (D : z = (rr, μr)) : JW X (jEnd X n Y (some (.int rr)) μr 0 0) 0 0 n Y 0 [(0, .ref v0), (1, .int v1), (2, .int v2), (3, .int v3)] [] μ := by
  unfold f_X12_rivals at H
  refine r_iload_n K 1 dX12_rivals_0 rfl rfl ?_
  refine w_callS K hl H (fun r h => c_X12_isDrawer l h) mC_yX12_isDrawer mM_RX12_253 mT_yX12_isDrawer mZ_RX12 (Nat.le_of_ble_eq_true rfl) (Nat.le_of_ble_eq_true rfl) np_yX12_isDrawer rfl (Nat.le_of_ble_eq_true rfl) dX12_rivals_1 (fun r1 H => ?_) ⟨Nat.zero_le _, Nat.zero_le _⟩
  refine w_if_eq K 16 dX12_rivals_4 (by decide) H (fun _ H => ?_) (fun _ H => ?_)
  · exact r_sub [] rfl (t_X12_rivals_16 K hl H D)
  · refine r_iload_n K 2 dX12_rivals_7 rfl rfl ?_
    refine r_iconst (v := 0) K dX12_rivals_8 (by decide) ?_
    refine r_iconst (v := 2) K dX12_rivals_9 (by decide) ?_
    refine w_callS K hl H (fun r h => c_X12_in l h) mC_yX12_in mM_RX12_134 mT_yX12_in mZ_RX12 (Nat.le_of_ble_eq_true rfl) (Nat.le_of_ble_eq_true rfl) np_yX12_in rfl (Nat.le_of_ble_eq_true rfl) dX12_rivals_10 (fun r2 H => ?_) ⟨Nat.zero_le _, Nat.zero_le _⟩
    refine w_if_ne K 18 dX12_rivals_13 (by decide) H (fun _ H => ?_) (fun _ H => ?_)
    · refine r_aload_n K 0 dX12_rivals_18 rfl rfl ?_
      refine w_getO K vc12 inX12 26 (by decide) mF_RX12_48 dX12_rivals_19 H (fun x3 H => ?_)
      refine r_iload_n K 1 dX12_rivals_22 rfl rfl ?_
      refine w_iald K dX12_rivals_23 H (fun x4 H => ?_)
      refine w_if_ne K 30 dX12_rivals_24 (by decide) H (fun _ H => ?_) (fun _ H => ?_)
      · refine r_iconst (v := 0) K dX12_rivals_30 (by decide) ?_
        refine r_istore K [(4, .int _), (0, .ref _), (1, .int _), (2, .int _), (3, .int _)] dX12_rivals_31 (by decide) rfl ?_
        refine r_iconst (v := -1) K dX12_rivals_33 (by decide) ?_
        refine r_istore K [(5, .int _), (4, .int _), (0, .ref _), (1, .int _), (2, .int _), (3, .int _)] dX12_rivals_34 (by decide) rfl ?_
        refine r_iconst (v := 0) K dX12_rivals_36 (by decide) ?_
        refine r_istore K [(6, .int _), (5, .int _), (4, .int _), (0, .ref _), (1, .int _), (2, .int _), (3, .int _)] dX12_rivals_37 (by decide) rfl ?_
        exact r_sub [3, 4, 5, 6, 2, 1, 0] rfl (l_X12_rivals_39 K hl H D)
      · refine r_bipush (v := -2) K dX12_rivals_27 (by decide) ?_
        cases H
        obtain ⟨rfl, rfl⟩ := jfin2 D
        exact r_iret K dX12_rivals_29
    · exact r_sub [] rfl (t_X12_rivals_16 K hl H D)
theorem c_X12_rivals (l : Launch) {n : Nat} {Y : jY} {v0 : Nat} {v1 : Int32} {v2 : Int32} {v3 : Int32} {μ : jM} {z : Int32 × jM} (H : f_X12_rivals Y v0 v1 v2 v3 μ = some z) : jC l yX12_rivals cX12_rivals 11 (some .int) 5 0 0 [.ref v0, .int v1, .int v2, .int v3] n Y μ n Y (some (.int z.1)) z.2 := by
  refine jC_of (by decide +kernel) (Nat.le_of_ble_eq_true rfl) (fun X hl K _ _ _ => ?_)
  obtain ⟨rr, μr⟩ := z
  exact t_X12_rivals_0 K hl H rfl
/-! RX12 isSquare(I)Z -/
def b_X12_isSquare_28 (Y : jY) (t0 : Int32) (μ : jM) : Option (Int32 × jM) :=
  (jbool t0).bind fun x1 =>
  some (x1, μ)
def b_X12_isSquare_2 (Y : jY) (v0 : Int32) (v1 : Int32) (μ : jM) : Option ((Int32 × jM) ⊕ (Int32 × jM)) :=
  if v0 ≤ ((v1 * v1)) then
    if ((v1 * v1)) = v0 then
      (b_X12_isSquare_28 Y (1 : Int32) μ).map (fun r => (.inr r))
    else
      (b_X12_isSquare_28 Y (0 : Int32) μ).map (fun r => (.inr r))
  else
    some (.inl ((v1 + ((1 : Int32))), μ))
def f_X12_isSquare (Y : jY) (v0 : Int32) (μ : jM) : Option (Int32 × jM) :=
  jit jF (fun (s : Int32 × jM) => b_X12_isSquare_2 Y v0 s.1 s.2) ((0 : Int32), μ)
set_option maxRecDepth 10000 in
theorem t_X12_isSquare_28 {X : jX} {l : Launch} {n : Nat} {Y : jY} (K : jOK X RX12 cX12_isSquare 2 (some .boolean) 1) (hl : X.2.1 = l) {rr : Int32} {μr : jM} {t0 : Int32} {μ : jM} {z : (Int32 × jM)} (H : b_X12_isSquare_28 Y t0 μ = some z) (D : z = (rr, μr)) : JW X (jEnd X n Y (some (.int rr)) μr 0 0) 0 0 n Y 28 [] [.int t0] μ := by
  unfold b_X12_isSquare_28 at H
  refine w_zret K dX12_isSquare_28 H (fun hz H => ?_)
  cases H
  obtain ⟨rfl, rfl⟩ := jfin2 D
  exact r_zret K hz dX12_isSquare_28
set_option maxRecDepth 10000 in
theorem t_X12_isSquare_2 {X : jX} {l : Launch} {n : Nat} {Y : jY} (K : jOK X RX12 cX12_isSquare 2 (some .boolean) 1) (hl : X.2.1 = l) {rr : Int32} {μr : jM} {v0 : Int32} {v1 : Int32} {μ : jM} {z : ((Int32 × jM) ⊕ (Int32 × jM))} (H : b_X12_isSquare_2 Y v0 v1 μ = some z) (D : Sum.elim (fun (s : Int32 × jM) => JW X (jEnd X n Y (some (.int rr)) μr 0 0) 0 0 n Y 2 [(0, .int v0), (1, .int s.1)] [] s.2) (fun r => r = (rr, μr)) z) : JW X (jEnd X n Y (some (.int rr)) μr 0 0) 0 0 n Y 2 [(0, .int v0), (1, .int v1)] [] μ := by
  unfold b_X12_isSquare_2 at H
  refine r_iload_n K 1 dX12_isSquare_2 rfl rfl ?_
  refine r_iload_n K 1 dX12_isSquare_3 rfl rfl ?_
  refine r_imul K dX12_isSquare_4 ?_
  refine r_iload_n K 0 dX12_isSquare_5 rfl rfl ?_
  refine w_icmp_ge K 16 dX12_isSquare_6 (by decide) H (fun _ H => ?_) (fun _ H => ?_)
  · refine r_iload_n K 1 dX12_isSquare_16 rfl rfl ?_
    refine r_iload_n K 1 dX12_isSquare_17 rfl rfl ?_
    refine r_imul K dX12_isSquare_18 ?_
    refine r_iload_n K 0 dX12_isSquare_19 rfl rfl ?_
    refine w_icmp_ne K 27 dX12_isSquare_20 (by decide) H (fun _ H => ?_) (fun _ H => ?_)
    · refine r_iconst (v := 0) K dX12_isSquare_27 (by decide) ?_
      obtain ⟨z2, H2, rfl⟩ := jmap H
      exact r_sub [] rfl (t_X12_isSquare_28 K hl H2 D)
    · refine r_iconst (v := 1) K dX12_isSquare_23 (by decide) ?_
      refine r_goto K 28 dX12_isSquare_24 (by decide) ?_
      obtain ⟨z2, H2, rfl⟩ := jmap H
      exact r_sub [] rfl (t_X12_isSquare_28 K hl H2 D)
  · refine r_iload_n K 1 dX12_isSquare_9 rfl rfl ?_
    refine r_iconst (v := 1) K dX12_isSquare_10 (by decide) ?_
    refine r_iadd K dX12_isSquare_11 ?_
    refine r_istore_n K [(1, .int _), (0, .int _)] dX12_isSquare_12 rfl (by decide) rfl ?_
    refine r_goto K 2 dX12_isSquare_13 (by decide) ?_
    cases H
    exact r_sub [1, 0] rfl D
set_option maxRecDepth 10000 in
theorem l_X12_isSquare_2 {X : jX} {l : Launch} {n : Nat} {Y : jY} (K : jOK X RX12 cX12_isSquare 2 (some .boolean) 1) (hl : X.2.1 = l) {rr : Int32} {μr : jM} {v0 : Int32}  {s0 : Int32 × jM} {z : (Int32 × jM)} (H : jit jF (fun (s : Int32 × jM) => b_X12_isSquare_2 Y v0 s.1 s.2) s0 = some z) (D : z = (rr, μr)) : JW X (jEnd X n Y (some (.int rr)) μr 0 0) 0 0 n Y 2 [(0, .int v0), (1, .int s0.1)] [] s0.2 :=
  jit_ind (P := fun (s : Int32 × jM) => JW X (jEnd X n Y (some (.int rr)) μr 0 0) 0 0 n Y 2 [(0, .int v0), (1, .int s.1)] [] s.2) (D := fun r => r = (rr, μr)) (fun s z Hs Ds => t_X12_isSquare_2 K hl Hs Ds) jF s0 z H D
set_option maxRecDepth 10000 in
theorem t_X12_isSquare_0 {X : jX} {l : Launch} {n : Nat} {Y : jY} (K : jOK X RX12 cX12_isSquare 2 (some .boolean) 1) (hl : X.2.1 = l) {rr : Int32} {μr : jM} {v0 : Int32} {μ : jM} {z : (Int32 × jM)} (H : f_X12_isSquare Y v0 μ = some z) (D : z = (rr, μr)) : JW X (jEnd X n Y (some (.int rr)) μr 0 0) 0 0 n Y 0 [(0, .int v0)] [] μ := by
  unfold f_X12_isSquare at H
  refine r_iconst (v := 0) K dX12_isSquare_0 (by decide) ?_
  refine r_istore_n K [(1, .int _), (0, .int _)] dX12_isSquare_1 rfl (by decide) rfl ?_
  exact r_sub [1, 0] rfl (l_X12_isSquare_2 K hl H D)
theorem c_X12_isSquare (l : Launch) {n : Nat} {Y : jY} {v0 : Int32} {μ : jM} {z : Int32 × jM} (H : f_X12_isSquare Y v0 μ = some z) : jC l yX12_isSquare cX12_isSquare 2 (some .boolean) 1 0 0 [.int v0] n Y μ n Y (some (.int z.1)) z.2 := by
  refine jC_of (by decide +kernel) (Nat.le_of_ble_eq_true rfl) (fun X hl K _ _ _ => ?_)
  obtain ⟨rr, μr⟩ := z
  exact t_X12_isSquare_0 K hl H rfl
