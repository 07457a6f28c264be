/-! RX11 told(IZI)I -/
def b_X11_told_65 (Y : jY) (t0 : Int32) (μ : jM) : Option (Int32 × jM) :=
  some (t0, μ)
def f_X11_told (Y : jY) (v0 : Nat) (v1 : Int32) (v2 : Int32) (v3 : Int32) (μ : jM) : Option (Int32 × jM) :=
  (f_X11_isDrawer Y v1 μ).bind fun r1 =>
  if r1.1 = 0 then
    some ((-99 : Int32), r1.2)
  else
    (jgO Y r1.2 v0 11 3).bind fun x2 =>
    (jgO Y r1.2 x2 3 1).bind fun x3 =>
    (jaO Y r1.2 x3 24 v1).bind fun x4 =>
    (jgI Y r1.2 x4 10 0).bind fun x5 =>
    if x5 = 0 then
      some ((-100 : Int32), r1.2)
    else
      if v3 = ((-1 : Int32)) then
        (jgI Y r1.2 x4 10 0).bind fun x8 =>
        some (x8, r1.2)
      else
        (jrcv Y x4 10 (f_X10_hasNumber Y x4 v2 v3 r1.2)).bind fun r6 =>
        if r6.1 = 0 then
          b_X11_told_65 Y (-99 : Int32) r6.2
        else
          (jrcv Y x4 10 (f_X10_numberAt Y x4 v2 v3 r6.2)).bind fun r7 =>
          b_X11_told_65 Y r7.1 r7.2
set_option maxRecDepth 10000 in
theorem t_X11_told_65 {X : jX} {l : Launch} {n : Nat} {Y : jY} (K : jOK X RX11 cX11_told 5 (some .int) 3) (hl : X.2.1 = l) {rr : Int32} {μr : jM} {t0 : Int32} {μ : jM} {z : (Int32 × jM)} (H : b_X11_told_65 Y t0 μ = some z) (D : z = (rr, μr)) : JW X (jEnd X n Y (some (.int rr)) μr 0 0) 0 0 n Y 65 [] [.int t0] μ := by
  unfold b_X11_told_65 at H
  cases H
  obtain ⟨rfl, rfl⟩ := jfin2 D
  exact r_iret K dX11_told_65
set_option maxRecDepth 10000 in
theorem t_X11_told_0 {X : jX} {l : Launch} {n : Nat} {Y : jY} (K : jOK X RX11 cX11_told 5 (some .int) 3) (hl : X.2.1 = l) {rr : Int32} {μr : jM} {v0 : Nat} {v1 : Int32} {v2 : Int32} {v3 : Int32} {μ : jM} {z : (Int32 × jM)} (H : f_X11_told Y v0 v1 v2 v3 μ = some z) (D : z = (rr, μr)) : JW X (jEnd X n Y (some (.int rr)) μr 0 0) 0 0 n Y 0 [(0, .ref v0), (1, .int v1), (2, .int v2), (3, .int v3)] [] μ := by
  unfold f_X11_told at H
  refine r_iload_n K 1 dX11_told_0 rfl rfl ?_
  refine w_callS K hl H (fun r h => c_X11_isDrawer l h) mC_yX11_isDrawer mM_RX11_252 mT_yX11_isDrawer mZ_RX11 (Nat.le_of_ble_eq_true rfl) (Nat.le_of_ble_eq_true rfl) np_yX11_isDrawer rfl (Nat.le_of_ble_eq_true rfl) dX11_told_1 (fun r1 H => ?_) ⟨Nat.zero_le _, Nat.zero_le _⟩
  refine w_if_ne K 10 dX11_told_4 (by decide) H (fun _ H => ?_) (fun _ H => ?_)
  · refine r_aload_n K 0 dX11_told_10 rfl rfl ?_
    refine w_getO K vc11 inX11 3 (by decide) mF_RX11_35 dX11_told_11 H (fun x2 H => ?_)
    refine w_getO K vc3 inX3 1 (by decide) mF_RX11_255 dX11_told_14 H (fun x3 H => ?_)
    refine r_iload_n K 1 dX11_told_17 rfl rfl ?_
    refine w_aald K 24 rfl rfl dX11_told_18 H (fun x4 H => ?_)
    refine r_astore K [(4, .ref _), (0, .ref _), (1, .int _), (2, .int _), (3, .int _)] dX11_told_19 (by decide) rfl ?_
    refine r_aload K 0 dX11_told_21 rfl ?_
    refine w_getI K vc10 inX10 0 (by decide) mF_RX11_263 dX11_told_23 H (fun x5 H => ?_)
    refine w_if_ne K 32 dX11_told_26 (by decide) H (fun _ H => ?_) (fun _ H => ?_)
    · refine r_iload_n K 4 dX11_told_32 rfl rfl ?_
      refine r_iconst (v := -1) K dX11_told_33 (by decide) ?_
      refine w_icmp_ne K 43 dX11_told_34 (by decide) H (fun _ H => ?_) (fun _ H => ?_)
      · refine r_aload K 0 dX11_told_43 rfl ?_
        refine r_iload_n K 3 dX11_told_45 rfl rfl ?_
        refine r_iload_n K 4 dX11_told_46 rfl rfl ?_
        refine w_callV K hl H (fun r h => c_X10_hasNumber l h) mC_yX10_hasNumber mM_RX11_270 mI_yX10_hasNumber mS_yX10_hasNumber mZ_RX10 vc10 (Nat.le_of_ble_eq_true rfl) (Nat.le_of_ble_eq_true rfl) np_yX10_hasNumber rfl (Nat.le_of_ble_eq_true rfl) dX11_told_47 (fun r6 H => ?_) ⟨Nat.zero_le _, Nat.zero_le _⟩
        refine w_if_eq K 63 dX11_told_50 (by decide) H (fun _ H => ?_) (fun _ H => ?_)
        · refine r_bipush (v := -99) K dX11_told_63 (by decide) ?_
          exact r_sub [] rfl (t_X11_told_65 K hl H D)
        · refine r_aload K 0 dX11_told_53 rfl ?_
          refine r_iload_n K 3 dX11_told_55 rfl rfl ?_
          refine r_iload_n K 4 dX11_told_56 rfl rfl ?_
          refine w_callV K hl H (fun r h => c_X10_numberAt l h) mC_yX10_numberAt mM_RX11_277 mI_yX10_numberAt mS_yX10_numberAt mZ_RX10 vc10 (Nat.le_of_ble_eq_true rfl) (Nat.le_of_ble_eq_true rfl) np_yX10_numberAt rfl (Nat.le_of_ble_eq_true rfl) dX11_told_57 (fun r7 H => ?_) ⟨Nat.zero_le _, Nat.zero_le _⟩
          refine r_goto K 65 dX11_told_60 (by decide) ?_
          exact r_sub [] rfl (t_X11_told_65 K hl H D)
      · refine r_aload K 0 dX11_told_37 rfl ?_
        refine w_getI K vc10 inX10 0 (by decide) mF_RX11_263 dX11_told_39 H (fun x8 H => ?_)
        cases H
        obtain ⟨rfl, rfl⟩ := jfin2 D
        exact r_iret K dX11_told_42
    · refine r_bipush (v := -100) K dX11_told_29 (by decide) ?_
      cases H
      obtain ⟨rfl, rfl⟩ := jfin2 D
      exact r_iret K dX11_told_31
  · refine r_bipush (v := -99) K dX11_told_7 (by decide) ?_
    cases H
    obtain ⟨rfl, rfl⟩ := jfin2 D
    exact r_iret K dX11_told_9
theorem c_X11_told (l : Launch) {n : Nat} {Y : jY} {v0 : Nat} {v1 : Int32} {v2 : Int32} {v3 : Int32} {μ : jM} {z : Int32 × jM} (H : f_X11_told Y v0 v1 v2 v3 μ = some z) : jC l yX11_told cX11_told 5 (some .int) 3 0 0 [.ref v0, .int v1, .int v2, .int v3] n Y μ n Y (some (.int z.1)) z.2 := by
  refine jC_of (by decide +kernel) (Nat.le_of_ble_eq_true rfl) (fun X hl K _ _ _ => ?_)
  obtain ⟨rr, μr⟩ := z
  exact t_X11_told_0 K hl H rfl
/-! RX11 isFilled(I)Z -/
def b_X11_isFilled_27 (Y : jY) (t0 : Int32) (μ : jM) : Option (Int32 × jM) :=
  (jbool t0).bind fun x1 =>
  some (x1, μ)
def b_X11_isFilled_26 (Y : jY) (μ : jM) : Option (Int32 × jM) :=
  b_X11_isFilled_27 Y (0 : Int32) μ
def f_X11_isFilled (Y : jY) (v0 : Nat) (v1 : Int32) (μ : jM) : Option (Int32 × jM) :=
  (f_X11_isDrawer Y v1 μ).bind fun r1 =>
  if r1.1 = 0 then
    b_X11_isFilled_26 Y r1.2
  else
    (jgO Y r1.2 v0 11 3).bind fun x2 =>
    (jgO Y r1.2 x2 3 1).bind fun x3 =>
    (jaO Y r1.2 x3 24 v1).bind fun x4 =>
    (jgI Y r1.2 x4 10 0).bind fun x5 =>
    if x5 ≤ 0 then
      b_X11_isFilled_26 Y r1.2
    else
      b_X11_isFilled_27 Y (1 : Int32) r1.2
set_option maxRecDepth 10000 in
theorem t_X11_isFilled_27 {X : jX} {l : Launch} {n : Nat} {Y : jY} (K : jOK X RX11 cX11_isFilled 2 (some .boolean) 3) (hl : X.2.1 = l) {rr : Int32} {μr : jM} {t0 : Int32} {μ : jM} {z : (Int32 × jM)} (H : b_X11_isFilled_27 Y t0 μ = some z) (D : z = (rr, μr)) : JW X (jEnd X n Y (some (.int rr)) μr 0 0) 0 0 n Y 27 [] [.int t0] μ := by
  unfold b_X11_isFilled_27 at H
  refine w_zret K dX11_isFilled_27 H (fun hz H => ?_)
  cases H
  obtain ⟨rfl, rfl⟩ := jfin2 D
  exact r_zret K hz dX11_isFilled_27
set_option maxRecDepth 10000 in
theorem t_X11_isFilled_26 {X : jX} {l : Launch} {n : Nat} {Y : jY} (K : jOK X RX11 cX11_isFilled 2 (some .boolean) 3) (hl : X.2.1 = l) {rr : Int32} {μr : jM} {μ : jM} {z : (Int32 × jM)} (H : b_X11_isFilled_26 Y μ = some z) (D : z = (rr, μr)) : JW X (jEnd X n Y (some (.int rr)) μr 0 0) 0 0 n Y 26 [] [] μ := by
  unfold b_X11_isFilled_26 at H
  refine r_iconst (v := 0) K dX11_isFilled_26 (by decide) ?_
  exact r_sub [] rfl (t_X11_isFilled_27 K hl H D)
set_option maxRecDepth 10000 in
theorem t_X11_isFilled_0 {X : jX} {l : Launch} {n : Nat} {Y : jY} (K : jOK X RX11 cX11_isFilled 2 (some .boolean) 3) (hl : X.2.1 = l) {rr : Int32} {μr : jM} {v0 : Nat} {v1 : Int32} {μ : jM} {z : (Int32 × jM)} (H : f_X11_isFilled Y v0 v1 μ = some z) (D : z = (rr, μr)) : JW X (jEnd X n Y (some (.int rr)) μr 0 0) 0 0 n Y 0 [(0, .ref v0), (1, .int v1)] [] μ := by
  unfold f_X11_isFilled at H
  refine r_iload_n K 1 dX11_isFilled_0 rfl rfl ?_
  refine w_callS K hl H (fun r h => c_X11_isDrawer l h) mC_yX11_isDrawer mM_RX11_252 mT_yX11_isDrawer mZ_RX11 (Nat.le_of_ble_eq_true rfl) (Nat.le_of_ble_eq_true rfl) np_yX11_isDrawer rfl (Nat.le_of_ble_eq_true rfl) dX11_isFilled_1 (fun r1 H => ?_) ⟨Nat.zero_le _, Nat.zero_le _⟩
  refine w_if_eq K 26 dX11_isFilled_4 (by decide) H (fun _ H => ?_) (fun _ H => ?_)
  · exact r_sub [] rfl (t_X11_isFilled_26 K hl H D)
  · refine r_aload_n K 0 dX11_isFilled_7 rfl rfl ?_
    refine w_getO K vc11 inX11 3 (by decide) mF_RX11_35 dX11_isFilled_8 H (fun x2 H => ?_)
    refine w_getO K vc3 inX3 1 (by decide) mF_RX11_255 dX11_isFilled_11 H (fun x3 H => ?_)
    refine r_iload_n K 1 dX11_isFilled_14 rfl rfl ?_
    refine w_aald K 24 rfl rfl dX11_isFilled_15 H (fun x4 H => ?_)
    refine w_getI K vc10 inX10 0 (by decide) mF_RX11_263 dX11_isFilled_16 H (fun x5 H => ?_)
    refine w_if_le K 26 dX11_isFilled_19 (by decide) H (fun _ H => ?_) (fun _ H => ?_)
    · exact r_sub [] rfl (t_X11_isFilled_26 K hl H D)
    · refine r_iconst (v := 1) K dX11_isFilled_22 (by decide) ?_
      refine r_goto K 27 dX11_isFilled_23 (by decide) ?_
      exact r_sub [] rfl (t_X11_isFilled_27 K hl H D)
theorem c_X11_isFilled (l : Launch) {n : Nat} {Y : jY} {v0 : Nat} {v1 : Int32} {μ : jM} {z : Int32 × jM} (H : f_X11_isFilled Y v0 v1 μ = some z) : jC l yX11_isFilled cX11_isFilled 2 (some .boolean) 3 0 0 [.ref v0, .int v1] n Y μ n Y (some (.int z.1)) z.2 := by
  refine jC_of (by decide +kernel) (Nat.le_of_ble_eq_true rfl) (fun X hl K _ _ _ => ?_)
  obtain ⟨rr, μr⟩ := z
  exact t_X11_isFilled_0 K hl H rfl
/-! RX11 hasTones()Z -/
def b_X11_hasTones_18 (Y : jY) (t0 : Int32) (μ : jM) : Option (Int32 × jM) :=
  (jbool t0).bind fun x1 =>
  some (x1, μ)
def f_X11_hasTones (Y : jY) (v0 : Nat) (μ : jM) : Option (Int32 × jM) :=
  (jgO Y μ v0 11 3).bind fun x1 =>
  (jgO Y μ x1 3 0).bind fun x2 =>
  (jgI Y μ x2 9 0).bind fun x3 =>
  if x3 ≤ 0 then
    b_X11_hasTones_18 Y (0 : Int32) μ
  else
    b_X11_hasTones_18 Y (1 : Int32) μ
set_option maxRecDepth 10000 in
theorem t_X11_hasTones_18 {X : jX} {l : Launch} {n : Nat} {Y : jY} (K : jOK X RX11 cX11_hasTones 1 (some .boolean) 1) (hl : X.2.1 = l) {rr : Int32} {μr : jM} {t0 : Int32} {μ : jM} {z : (Int32 × jM)} (H : b_X11_hasTones_18 Y t0 μ = some z) (D : z = (rr, μr)) : JW X (jEnd X n Y (some (.int rr)) μr 0 0) 0 0 n Y 18 [] [.int t0] μ := by
  unfold b_X11_hasTones_18 at H
  refine w_zret K dX11_hasTones_18 H (fun hz H => ?_)
  cases H
  obtain ⟨rfl, rfl⟩ := jfin2 D
  exact r_zret K hz dX11_hasTones_18
set_option maxRecDepth 10000 in
theorem t_X11_hasTones_0 {X : jX} {l : Launch} {n : Nat} {Y : jY} (K : jOK X RX11 cX11_hasTones 1 (some .boolean) 1) (hl : X.2.1 = l) {rr : Int32} {μr : jM} {v0 : Nat} {μ : jM} {z : (Int32 × jM)} (H : f_X11_hasTones Y v0 μ = some z) (D : z = (rr, μr)) : JW X (jEnd X n Y (some (.int rr)) μr 0 0) 0 0 n Y 0 [(0, .ref v0)] [] μ := by
  unfold f_X11_hasTones at H
  refine r_aload_n K 0 dX11_hasTones_0 rfl rfl ?_
  refine w_getO K vc11 inX11 3 (by decide) mF_RX11_35 dX11_hasTones_1 H (fun x1 H => ?_)
  refine w_getO K vc3 inX3 0 (by decide) mF_RX11_119 dX11_hasTones_4 H (fun x2 H => ?_)
  refine w_getI K vc9 inX9 0 (by decide) mF_RX11_126 dX11_hasTones_7 H (fun x3 H => ?_)
  refine w_if_le K 17 dX11_hasTones_10 (by decide) H (fun _ H => ?_) (fun _ H => ?_)
  · refine r_iconst (v := 0) K dX11_hasTones_17 (by decide) ?_
    exact r_sub [] rfl (t_X11_hasTones_18 K hl H D)
  · refine r_iconst (v := 1) K dX11_hasTones_13 (by decide) ?_
    refine r_goto K 18 dX11_hasTones_14 (by decide) ?_
    exact r_sub [] rfl (t_X11_hasTones_18 K hl H D)
theorem c_X11_hasTones (l : Launch) {n : Nat} {Y : jY} {v0 : Nat} {μ : jM} {z : Int32 × jM} (H : f_X11_hasTones Y v0 μ = some z) : jC l yX11_hasTones cX11_hasTones 1 (some .boolean) 1 0 0 [.ref v0] n Y μ n Y (some (.int z.1)) z.2 := by
  refine jC_of (by decide +kernel) (Nat.le_of_ble_eq_true rfl) (fun X hl K _ _ _ => ?_)
  obtain ⟨rr, μr⟩ := z
  exact t_X11_hasTones_0 K hl H rfl
/-! RX11 polynomial(ZI)J -/
def b_X11_polynomial_46 (Y : jY) (μ : jM) : Option (Int64 × jM) :=
  some ((-9223372036854775808 : Int64), μ)
def b_X11_polynomial_89 (Y : jY) (t0 : Int64) (μ : jM) : Option (Int64 × jM) :=
  some (t0, μ)
def b_X11_polynomial_29 (Y : jY) (v0 : Nat) (v1 : Int32) (v2 : Int32) (t0 : Int32) (μ : jM) : Option (Int64 × jM) :=
  (jrcv Y v0 11 (f_X11_hasTones Y v0 μ)).bind fun r1 =>
  if r1.1 = 0 then
    b_X11_polynomial_46 Y r1.2
  else
    (f_X11_within Y v2 ((0 : Int32)) t0 r1.2).bind fun r2 =>
    if r2.1 = 0 then
      b_X11_polynomial_46 Y r2.2
    else
      (jgO Y r2.2 v0 11 6).bind fun x3 =>
      (jgO Y r2.2 v0 11 3).bind fun x4 =>
      (jgO Y r2.2 x4 3 0).bind fun x5 =>
      (jrcv Y x3 7 (f_X7_rebuild Y x3 x5 r2.2)).bind fun μ6 =>
      if v1 = 0 then
        (jgO Y μ6 v0 11 6).bind fun x7 =>
        (jgO Y μ6 x7 7 2).bind fun x8 =>
        (jaL Y μ6 x8 21 v2).bind fun x9 =>
        b_X11_polynomial_89 Y x9 μ6
      else
        (jgO Y μ6 v0 11 6).bind fun x10 =>
        (jgO Y μ6 x10 7 1).bind fun x11 =>
        (jaL Y μ6 x11 21 v2).bind fun x12 =>
        b_X11_polynomial_89 Y x12 μ6
def f_X11_polynomial (Y : jY) (v0 : Nat) (v1 : Int32) (v2 : Int32) (μ : jM) : Option (Int64 × jM) :=
  if v1 = 0 then
    (jgO Y μ v0 11 3).bind fun x1 =>
    (jgO Y μ x1 3 0).bind fun x2 =>
    (jgI Y μ x2 9 0).bind fun x3 =>
    b_X11_polynomial_29 Y v0 v1 v2 (x3 - ((1 : Int32))) μ
  else
    (jgO Y μ v0 11 3).bind fun x4 =>
    (jgO Y μ x4 3 0).bind fun x5 =>
    (jgI Y μ x5 9 0).bind fun x6 =>
    b_X11_polynomial_29 Y v0 v1 v2 x6 μ
set_option maxRecDepth 10000 in
theorem t_X11_polynomial_46 {X : jX} {l : Launch} {n : Nat} {Y : jY} (K : jOK X RX11 cX11_polynomial 4 (some .long) 3) (hl : X.2.1 = l) {rr : Int64} {μr : jM} {μ : jM} {z : (Int64 × jM)} (H : b_X11_polynomial_46 Y μ = some z) (D : z = (rr, μr)) : JW X (jEnd X n Y (some (.long rr)) μr 0 0) 0 0 n Y 46 [] [] μ := by
  unfold b_X11_polynomial_46 at H
  refine r_ldc2 K (-9223372036854775808) mc_RX11_151 dX11_polynomial_46 ?_
  cases H
  obtain ⟨rfl, rfl⟩ := jfin2 D
  exact r_lret K dX11_polynomial_49
set_option maxRecDepth 10000 in
theorem t_X11_polynomial_89 {X : jX} {l : Launch} {n : Nat} {Y : jY} (K : jOK X RX11 cX11_polynomial 4 (some .long) 3) (hl : X.2.1 = l) {rr : Int64} {μr : jM} {t0 : Int64} {μ : jM} {z : (Int64 × jM)} (H : b_X11_polynomial_89 Y t0 μ = some z) (D : z = (rr, μr)) : JW X (jEnd X n Y (some (.long rr)) μr 0 0) 0 0 n Y 89 [] [.long t0] μ := by
  unfold b_X11_polynomial_89 at H
  cases H
  obtain ⟨rfl, rfl⟩ := jfin2 D
  exact r_lret K dX11_polynomial_89
set_option maxRecDepth 10000 in
theorem t_X11_polynomial_29 {X : jX} {l : Launch} {n : Nat} {Y : jY} (K : jOK X RX11 cX11_polynomial 4 (some .long) 3) (hl : X.2.1 = l) {rr : Int64} {μr : jM} {v0 : Nat} {v1 : Int32} {v2 : Int32} {t0 : Int32} {μ : jM} {z : (Int64 × jM)} (H : b_X11_polynomial_29 Y v0 v1 v2 t0 μ = some z) (D : z = (rr, μr)) : JW X (jEnd X n Y (some (.long rr)) μr 0 0) 0 0 n Y 29 [(0, .ref v0), (1, .int v1), (2, .int v2)] [.int t0] μ := by
  unfold b_X11_polynomial_29 at H
  refine r_istore_n K [(3, .int _), (0, .ref _), (1, .int _), (2, .int _)] dX11_polynomial_29 rfl (by decide) rfl ?_
  refine r_aload_n K 1 dX11_polynomial_30 rfl rfl ?_
  refine w_callV K hl H (fun r h => c_X11_hasTones l h) mC_yX11_hasTones mM_RX11_147 mI_yX11_hasTones mS_yX11_hasTones mZ_RX11 vc11 (Nat.le_of_ble_eq_true rfl) (Nat.le_of_ble_eq_true rfl) np_yX11_hasTones rfl (Nat.le_of_ble_eq_true rfl) dX11_polynomial_31 (fun r1 H => ?_) ⟨Nat.zero_le _, Nat.zero_le _⟩
  refine w_if_eq K 46 dX11_polynomial_34 (by decide) H (fun _ H => ?_) (fun _ H => ?_)
  · exact r_sub [] rfl (t_X11_polynomial_46 K hl H D)
  · refine r_iload_n K 3 dX11_polynomial_37 rfl rfl ?_
    refine r_iconst (v := 0) K dX11_polynomial_38 (by decide) ?_
    refine r_iload_n K 0 dX11_polynomial_39 rfl rfl ?_
    refine w_callS K hl H (fun r h => c_X11_within l h) mC_yX11_within mM_RX11_133 mT_yX11_within mZ_RX11 (Nat.le_of_ble_eq_true rfl) (Nat.le_of_ble_eq_true rfl) np_yX11_within rfl (Nat.le_of_ble_eq_true rfl) dX11_polynomial_40 (fun r2 H => ?_) ⟨Nat.zero_le _, Nat.zero_le _⟩
    refine w_if_ne K 50 dX11_polynomial_43 (by decide) H (fun _ H => ?_) (fun _ H => ?_)
    · refine r_aload_n K 1 dX11_polynomial_50 rfl rfl ?_
      refine w_getO K vc11 inX11 6 (by decide) mF_RX11_50 dX11_polynomial_51 H (fun x3 H => ?_)
      refine r_aload_n K 1 dX11_polynomial_54 rfl rfl ?_
      refine w_getO K vc11 inX11 3 (by decide) mF_RX11_35 dX11_polynomial_55 H (fun x4 H => ?_)
      refine w_getO K vc3 inX3 0 (by decide) mF_RX11_119 dX11_polynomial_58 H (fun x5 H => ?_)
      refine w_callV K hl H (fun r h => c_X7_rebuild l h) mC_yX7_rebuild mM_RX11_153 mI_yX7_rebuild mS_yX7_rebuild mZ_RX7 vc7 (Nat.le_of_ble_eq_true rfl) (Nat.le_of_ble_eq_true rfl) np_yX7_rebuild rfl (Nat.le_of_ble_eq_true rfl) dX11_polynomial_61 (fun μ6 H => ?_) ⟨Nat.zero_le _, Nat.zero_le _⟩
      refine r_iload_n K 2 dX11_polynomial_64 rfl rfl ?_
      refine w_if_eq K 80 dX11_polynomial_65 (by decide) H (fun _ H => ?_) (fun _ H => ?_)
      · refine r_aload_n K 1 dX11_polynomial_80 rfl rfl ?_
        refine w_getO K vc11 inX11 6 (by decide) mF_RX11_50 dX11_polynomial_81 H (fun x7 H => ?_)
        refine w_getO K vc7 inX7 2 (by decide) mF_RX11_161 dX11_polynomial_84 H (fun x8 H => ?_)
        refine r_iload_n K 3 dX11_polynomial_87 rfl rfl ?_
        refine w_lald K dX11_polynomial_88 H (fun x9 H => ?_)
        exact r_sub [] rfl (t_X11_polynomial_89 K hl H D)
      · refine r_aload_n K 1 dX11_polynomial_68 rfl rfl ?_
        refine w_getO K vc11 inX11 6 (by decide) mF_RX11_50 dX11_polynomial_69 H (fun x10 H => ?_)
        refine w_getO K vc7 inX7 1 (by decide) mF_RX11_157 dX11_polynomial_72 H (fun x11 H => ?_)
        refine r_iload_n K 3 dX11_polynomial_75 rfl rfl ?_
        refine w_lald K dX11_polynomial_76 H (fun x12 H => ?_)
        refine r_goto K 89 dX11_polynomial_77 (by decide) ?_
        exact r_sub [] rfl (t_X11_polynomial_89 K hl H D)
    · exact r_sub [] rfl (t_X11_polynomial_46 K hl H D)
set_option maxRecDepth 10000 in
theorem t_X11_polynomial_0 {X : jX} {l : Launch} {n : Nat} {Y : jY} (K : jOK X RX11 cX11_polynomial 4 (some .long) 3) (hl : X.2.1 = l) {rr : Int64} {μr : jM} {v0 : Nat} {v1 : Int32} {v2 : Int32} {μ : jM} {z : (Int64 × jM)} (H : f_X11_polynomial Y v0 v1 v2 μ = some z) (D : z = (rr, μr)) : JW X (jEnd X n Y (some (.long rr)) μr 0 0) 0 0 n Y 0 [(0, .ref v0), (1, .int v1), (2, .int v2)] [] μ := by
  unfold f_X11_polynomial at H
  refine r_iload_n K 1 dX11_polynomial_0 rfl rfl ?_
  refine w_if_eq K 17 dX11_polynomial_1 (by decide) H (fun _ H => ?_) (fun _ H => ?_)
  · refine r_aload_n K 0 dX11_polynomial_17 rfl rfl ?_
    refine w_getO K vc11 inX11 3 (by decide) mF_RX11_35 dX11_polynomial_18 H (fun x1 H => ?_)
    refine w_getO K vc3 inX3 0 (by decide) mF_RX11_119 dX11_polynomial_21 H (fun x2 H => ?_)
    refine w_getI K vc9 inX9 0 (by decide) mF_RX11_126 dX11_polynomial_24 H (fun x3 H => ?_)
    refine r_iconst (v := 1) K dX11_polynomial_27 (by decide) ?_
    refine r_isub K dX11_polynomial_28 ?_
    exact r_sub [0, 1, 2] rfl (t_X11_polynomial_29 K hl H D)
  · refine r_aload_n K 0 dX11_polynomial_4 rfl rfl ?_
    refine w_getO K vc11 inX11 3 (by decide) mF_RX11_35 dX11_polynomial_5 H (fun x4 H => ?_)
    refine w_getO K vc3 inX3 0 (by decide) mF_RX11_119 dX11_polynomial_8 H (fun x5 H => ?_)
    refine w_getI K vc9 inX9 0 (by decide) mF_RX11_126 dX11_polynomial_11 H (fun x6 H => ?_)
    refine r_goto K 29 dX11_polynomial_14 (by decide) ?_
    exact r_sub [0, 1, 2] rfl (t_X11_polynomial_29 K hl H D)
theorem c_X11_polynomial (l : Launch) {n : Nat} {Y : jY} {v0 : Nat} {v1 : Int32} {v2 : Int32} {μ : jM} {z : Int64 × jM} (H : f_X11_polynomial Y v0 v1 v2 μ = some z) : jC l yX11_polynomial cX11_polynomial 4 (some .long) 3 0 0 [.ref v0, .int v1, .int v2] n Y μ n Y (some (.long z.1)) z.2 := by
  refine jC_of (by decide +kernel) (Nat.le_of_ble_eq_true rfl) (fun X hl K _ _ _ => ?_)
  obtain ⟨rr, μr⟩ := z
  exact t_X11_polynomial_0 K hl H rfl
/-! RX11 whole(II)I -/
def b_X11_whole_50 (Y : jY) (t0 : Int32) (μ : jM) : Option (Int32 × jM) :=
  some (t0, μ)
def f_X11_whole (Y : jY) (v0 : Nat) (v1 : Int32) (v2 : Int32) (μ : jM) : Option (Int32 × jM) :=
  (f_X11_isDrawer Y v1 μ).bind fun r1 =>
  if r1.1 = 0 then
    some ((-1 : Int32), r1.2)
  else
    (jgO Y r1.2 v0 11 3).bind fun x2 =>
    (jgO Y r1.2 x2 3 1).bind fun x3 =>
    (jaO Y r1.2 x3 24 v1).bind fun x4 =>
    (jgI Y r1.2 x4 10 0).bind fun x5 =>
    if x5 = 0 then
      some ((-2 : Int32), r1.2)
    else
      (jgI Y r1.2 x4 10 0).bind fun x6 =>
      (f_X11_within Y v2 ((1 : Int32)) x6 r1.2).bind fun r7 =>
      if r7.1 = 0 then
        b_X11_whole_50 Y (-1 : Int32) r7.2
      else
        (jrcv Y x4 10 (f_X10_wholeRoots Y x4 v2 r7.2)).bind fun r8 =>
        b_X11_whole_50 Y r8.1 r8.2
set_option maxRecDepth 10000 in
theorem t_X11_whole_50 {X : jX} {l : Launch} {n : Nat} {Y : jY} (K : jOK X RX11 cX11_whole 4 (some .int) 4) (hl : X.2.1 = l) {rr : Int32} {μr : jM} {t0 : Int32} {μ : jM} {z : (Int32 × jM)} (H : b_X11_whole_50 Y t0 μ = some z) (D : z = (rr, μr)) : JW X (jEnd X n Y (some (.int rr)) μr 0 0) 0 0 n Y 50 [] [.int t0] μ := by
  unfold b_X11_whole_50 at H
  cases H
  obtain ⟨rfl, rfl⟩ := jfin2 D
  exact r_iret K dX11_whole_50
set_option maxRecDepth 10000 in
theorem t_X11_whole_0 {X : jX} {l : Launch} {n : Nat} {Y : jY} (K : jOK X RX11 cX11_whole 4 (some .int) 4) (hl : X.2.1 = l) {rr : Int32} {μr : jM} {v0 : Nat} {v1 : Int32} {v2 : Int32} {μ : jM} {z : (Int32 × jM)} (H : f_X11_whole Y v0 v1 v2 μ = some z) (D : z = (rr, μr)) : JW X (jEnd X n Y (some (.int rr)) μr 0 0) 0 0 n Y 0 [(0, .ref v0), (1, .int v1), (2, .int v2)] [] μ := by
  unfold f_X11_whole at H
  refine r_iload_n K 1 dX11_whole_0 rfl rfl ?_
  refine w_callS K hl H (fun r h => c_X11_isDrawer l h) mC_yX11_isDrawer mM_RX11_252 mT_yX11_isDrawer mZ_RX11 (Nat.le_of_ble_eq_true rfl) (Nat.le_of_ble_eq_true rfl) np_yX11_isDrawer rfl (Nat.le_of_ble_eq_true rfl) dX11_whole_1 (fun r1 H => ?_) ⟨Nat.zero_le _, Nat.zero_le _⟩
  refine w_if_ne K 9 dX11_whole_4 (by decide) H (fun _ H => ?_) (fun _ H => ?_)
  · refine r_aload_n K 0 dX11_whole_9 rfl rfl ?_
    refine w_getO K vc11 inX11 3 (by decide) mF_RX11_35 dX11_whole_10 H (fun x2 H => ?_)
    refine w_getO K vc3 inX3 1 (by decide) mF_RX11_255 dX11_whole_13 H (fun x3 H => ?_)
    refine r_iload_n K 1 dX11_whole_16 rfl rfl ?_
    refine w_aald K 24 rfl rfl dX11_whole_17 H (fun x4 H => ?_)
    refine r_astore_n K [(3, .ref _), (0, .ref _), (1, .int _), (2, .int _)] dX11_whole_18 rfl (by decide) rfl ?_
    refine r_aload_n K 0 dX11_whole_19 rfl rfl ?_
    refine w_getI K vc10 inX10 0 (by decide) mF_RX11_263 dX11_whole_20 H (fun x5 H => ?_)
    refine w_if_ne K 29 dX11_whole_23 (by decide) H (fun _ H => ?_) (fun _ H => ?_)
    · refine r_iload_n K 3 dX11_whole_29 rfl rfl ?_
      refine r_iconst (v := 1) K dX11_whole_30 (by decide) ?_
      refine r_aload_n K 0 dX11_whole_31 rfl rfl ?_
      refine w_getI K vc10 inX10 0 (by decide) mF_RX11_263 dX11_whole_32 H (fun x6 H => ?_)
      refine w_callS K hl H (fun r h => c_X11_within l h) mC_yX11_within mM_RX11_133 mT_yX11_within mZ_RX11 (Nat.le_of_ble_eq_true rfl) (Nat.le_of_ble_eq_true rfl) np_yX11_within rfl (Nat.le_of_ble_eq_true rfl) dX11_whole_35 (fun r7 H => ?_) ⟨Nat.zero_le _, Nat.zero_le _⟩
      refine w_if_eq K 49 dX11_whole_38 (by decide) H (fun _ H => ?_) (fun _ H => ?_)
      · refine r_iconst (v := -1) K dX11_whole_49 (by decide) ?_
        exact r_sub [] rfl (t_X11_whole_50 K hl H D)
      · refine r_aload_n K 0 dX11_whole_41 rfl rfl ?_
        refine r_iload_n K 3 dX11_whole_42 rfl rfl ?_
        refine w_callV K hl H (fun r h => c_X10_wholeRoots l h) mC_yX10_wholeRoots mM_RX11_309 mI_yX10_wholeRoots mS_yX10_wholeRoots mZ_RX10 vc10 (Nat.le_of_ble_eq_true rfl) (Nat.le_of_ble_eq_true rfl) np_yX10_wholeRoots rfl (Nat.le_of_ble_eq_true rfl) dX11_whole_43 (fun r8 H => ?_) ⟨Nat.zero_le _, Nat.zero_le _⟩
        refine r_goto K 50 dX11_whole_46 (by decide) ?_
        exact r_sub [] rfl (t_X11_whole_50 K hl H D)
    · refine r_bipush (v := -2) K dX11_whole_26 (by decide) ?_
      cases H
      obtain ⟨rfl, rfl⟩ := jfin2 D
      exact r_iret K dX11_whole_28
  · refine r_iconst (v := -1) K dX11_whole_7 (by decide) ?_
    cases H
    obtain ⟨rfl, rfl⟩ := jfin2 D
    exact r_iret K dX11_whole_8
theorem c_X11_whole (l : Launch) {n : Nat} {Y : jY} {v0 : Nat} {v1 : Int32} {v2 : Int32} {μ : jM} {z : Int32 × jM} (H : f_X11_whole Y v0 v1 v2 μ = some z) : jC l yX11_whole cX11_whole 4 (some .int) 4 0 0 [.ref v0, .int v1, .int v2] n Y μ n Y (some (.int z.1)) z.2 := by
  refine jC_of (by decide +kernel) (Nat.le_of_ble_eq_true rfl) (fun X hl K _ _ _ => ?_)
  obtain ⟨rr, μr⟩ := z
  exact t_X11_whole_0 K hl H rfl
/-! RX11 root(IIII)I -/
def b_X11_root_18 (Y : jY) (μ : jM) : Option (Int32 × jM) :=
  some ((-100001 : Int32), μ)
def b_X11_root_69 (Y : jY) (μ : jM) : Option (Int32 × jM) :=
  some ((-100001 : Int32), μ)
def f_X11_root (Y : jY) (v0 : Nat) (v1 : Int32) (v2 : Int32) (v3 : Int32) (v4 : Int32) (μ : jM) : Option (Int32 × jM) :=
  (f_X11_isDrawer Y v1 μ).bind fun r1 =>
  if r1.1 = 0 then
    b_X11_root_18 Y r1.2
  else
    (f_X11_within Y v4 ((1 : Int32)) ((50 : Int32)) r1.2).bind fun r2 =>
    if r2.1 = 0 then
      b_X11_root_18 Y r2.2
    else
      (jgO Y r2.2 v0 11 3).bind fun x3 =>
      (jgO Y r2.2 x3 3 1).bind fun x4 =>
      (jaO Y r2.2 x4 24 v1).bind fun x5 =>
      (jgI Y r2.2 x5 10 0).bind fun x6 =>
      if x6 = 0 then
        some ((-100000 : Int32), r2.2)
      else
        (jgI Y r2.2 x5 10 0).bind fun x7 =>
        (f_X11_within Y v2 ((1 : Int32)) x7 r2.2).bind fun r8 =>
        if r8.1 = 0 then
          b_X11_root_69 Y r8.2
        else
          (f_X11_within Y v3 ((0 : Int32)) ((v2 - ((1 : Int32)))) r8.2).bind fun r9 =>
          if r9.1 = 0 then
            b_X11_root_69 Y r9.2
          else
            (jrcv Y x5 10 (f_X10_rootInParts Y x5 v2 v3 v4 r9.2)).bind fun r10 =>
            some (r10.1, r10.2)
set_option maxRecDepth 10000 in
theorem t_X11_root_18 {X : jX} {l : Launch} {n : Nat} {Y : jY} (K : jOK X RX11 cX11_root 6 (some .int) 4) (hl : X.2.1 = l) {rr : Int32} {μr : jM} {μ : jM} {z : (Int32 × jM)} (H : b_X11_root_18 Y μ = some z) (D : z = (rr, μr)) : JW X (jEnd X n Y (some (.int rr)) μr 0 0) 0 0 n Y 18 [] [] μ := by
  unfold b_X11_root_18 at H
  refine r_ldc_w K (-100001) mc_RX11_304 dX11_root_18 ?_
  cases H
  obtain ⟨rfl, rfl⟩ := jfin2 D
  exact r_iret K dX11_root_21
set_option maxRecDepth 10000 in
theorem t_X11_root_69 {X : jX} {l : Launch} {n : Nat} {Y : jY} (K : jOK X RX11 cX11_root 6 (some .int) 4) (hl : X.2.1 = l) {rr : Int32} {μr : jM} {μ : jM} {z : (Int32 × jM)} (H : b_X11_root_69 Y μ = some z) (D : z = (rr, μr)) : JW X (jEnd X n Y (some (.int rr)) μr 0 0) 0 0 n Y 69 [] [] μ := by
  unfold b_X11_root_69 at H
  refine r_ldc_w K (-100001) mc_RX11_304 dX11_root_69 ?_
  cases H
  obtain ⟨rfl, rfl⟩ := jfin2 D
  exact r_iret K dX11_root_72
set_option maxRecDepth 10000 in
theorem t_X11_root_0 {X : jX} {l : Launch} {n : Nat} {Y : jY} (K : jOK X RX11 cX11_root 6 (some .int) 4) (hl : X.2.1 = l) {rr : Int32} {μr : jM} {v0 : Nat} {v1 : Int32} {v2 : Int32} {v3 : Int32} {v4 : Int32} {μ : jM} {z : (Int32 × jM)} (H : f_X11_root Y v0 v1 v2 v3 v4 μ = some z) (D : z = (rr, μr)) : JW X (jEnd X n Y (some (.int rr)) μr 0 0) 0 0 n Y 0 [(0, .ref v0), (1, .int v1), (2, .int v2), (3, .int v3), (4, .int v4)] [] μ := by
  unfold f_X11_root at H
  refine r_iload_n K 1 dX11_root_0 rfl rfl ?_
  refine w_callS K hl H (fun r h => c_X11_isDrawer l h) mC_yX11_isDrawer mM_RX11_252 mT_yX11_isDrawer mZ_RX11 (Nat.le_of_ble_eq_true rfl) (Nat.le_of_ble_eq_true rfl) np_yX11_isDrawer rfl (Nat.le_of_ble_eq_true rfl) dX11_root_1 (fun r1 H => ?_) ⟨Nat.zero_le _, Nat.zero_le _⟩
  refine w_if_eq K 18 dX11_root_4 (by decide) H (fun _ H => ?_) (fun _ H => ?_)
  · exact r_sub [] rfl (t_X11_root_18 K hl H D)
  · refine r_iload K 4 dX11_root_7 rfl ?_
    refine r_iconst (v := 1) K dX11_root_9 (by decide) ?_
    refine r_bipush (v := 50) K dX11_root_10 (by decide) ?_
    refine w_callS K hl H (fun r h => c_X11_within l h) mC_yX11_within mM_RX11_133 mT_yX11_within mZ_RX11 (Nat.le_of_ble_eq_true rfl) (Nat.le_of_ble_eq_true rfl) np_yX11_within rfl (Nat.le_of_ble_eq_true rfl) dX11_root_12 (fun r2 H => ?_) ⟨Nat.zero_le _, Nat.zero_le _⟩
    refine w_if_ne K 22 dX11_root_15 (by decide) H (fun _ H => ?_) (fun _ H => ?_)
    · refine r_aload_n K 0 dX11_root_22 rfl rfl ?_
      refine w_getO K vc11 inX11 3 (by decide) mF_RX11_35 dX11_root_23 H (fun x3 H => ?_)
      refine w_getO K vc3 inX3 1 (by decide) mF_RX11_255 dX11_root_26 H (fun x4 H => ?_)
      refine r_iload_n K 1 dX11_root_29 rfl rfl ?_
      refine w_aald K 24 rfl rfl dX11_root_30 H (fun x5 H => ?_)
      refine r_astore K [(5, .ref _), (0, .ref _), (1, .int _), (2, .int _), (3, .int _), (4, .int _)] dX11_root_31 (by decide) rfl ?_
      refine r_aload K 0 dX11_root_33 rfl ?_
      refine w_getI K vc10 inX10 0 (by decide) mF_RX11_263 dX11_root_35 H (fun x6 H => ?_)
      refine w_if_ne K 45 dX11_root_38 (by decide) H (fun _ H => ?_) (fun _ H => ?_)
      · refine r_iload_n K 3 dX11_root_45 rfl rfl ?_
        refine r_iconst (v := 1) K dX11_root_46 (by decide) ?_
        refine r_aload K 0 dX11_root_47 rfl ?_
        refine w_getI K vc10 inX10 0 (by decide) mF_RX11_263 dX11_root_49 H (fun x7 H => ?_)
        refine w_callS K hl H (fun r h => c_X11_within l h) mC_yX11_within mM_RX11_133 mT_yX11_within mZ_RX11 (Nat.le_of_ble_eq_true rfl) (Nat.le_of_ble_eq_true rfl) np_yX11_within rfl (Nat.le_of_ble_eq_true rfl) dX11_root_52 (fun r8 H => ?_) ⟨Nat.zero_le _, Nat.zero_le _⟩
        refine w_if_eq K 69 dX11_root_55 (by decide) H (fun _ H => ?_) (fun _ H => ?_)
        · exact r_sub [] rfl (t_X11_root_69 K hl H D)
        · refine r_iload_n K 4 dX11_root_58 rfl rfl ?_
          refine r_iconst (v := 0) K dX11_root_59 (by decide) ?_
          refine r_iload_n K 3 dX11_root_60 rfl rfl ?_
          refine r_iconst (v := 1) K dX11_root_61 (by decide) ?_
          refine r_isub K dX11_root_62 ?_
          refine w_callS K hl H (fun r h => c_X11_within l h) mC_yX11_within mM_RX11_133 mT_yX11_within mZ_RX11 (Nat.le_of_ble_eq_true rfl) (Nat.le_of_ble_eq_true rfl) np_yX11_within rfl (Nat.le_of_ble_eq_true rfl) dX11_root_63 (fun r9 H => ?_) ⟨Nat.zero_le _, Nat.zero_le _⟩
          refine w_if_ne K 73 dX11_root_66 (by decide) H (fun _ H => ?_) (fun _ H => ?_)
          · refine r_aload K 0 dX11_root_73 rfl ?_
            refine r_iload_n K 3 dX11_root_75 rfl rfl ?_
            refine r_iload_n K 4 dX11_root_76 rfl rfl ?_
            refine r_iload K 5 dX11_root_77 rfl ?_
            refine w_callV K hl H (fun r h => c_X10_rootInParts l h) mC_yX10_rootInParts mM_RX11_306 mI_yX10_rootInParts mS_yX10_rootInParts mZ_RX10 vc10 (Nat.le_of_ble_eq_true rfl) (Nat.le_of_ble_eq_true rfl) np_yX10_rootInParts rfl (Nat.le_of_ble_eq_true rfl) dX11_root_79 (fun r10 H => ?_) ⟨Nat.zero_le _, Nat.zero_le _⟩
            cases H
            obtain ⟨rfl, rfl⟩ := jfin2 D
            exact r_iret K dX11_root_82
          · exact r_sub [] rfl (t_X11_root_69 K hl H D)
      · refine r_ldc_w K (-100000) mc_RX11_305 dX11_root_41 ?_
        cases H
        obtain ⟨rfl, rfl⟩ := jfin2 D
        exact r_iret K dX11_root_44
    · exact r_sub [] rfl (t_X11_root_18 K hl H D)
theorem c_X11_root (l : Launch) {n : Nat} {Y : jY} {v0 : Nat} {v1 : Int32} {v2 : Int32} {v3 : Int32} {v4 : Int32} {μ : jM} {z : Int32 × jM} (H : f_X11_root Y v0 v1 v2 v3 v4 μ = some z) : jC l yX11_root cX11_root 6 (some .int) 4 0 0 [.ref v0, .int v1, .int v2, .int v3, .int v4] n Y μ n Y (some (.int z.1)) z.2 := by
  refine jC_of (by decide +kernel) (Nat.le_of_ble_eq_true rfl) (fun X hl K _ _ _ => ?_)
  obtain ⟨rr, μr⟩ := z
  exact t_X11_root_0 K hl H rfl
/-! RX11 isRow(II)Z -/
def b_X11_isRow_35 (Y : jY) (t0 : Int32) (μ : jM) : Option (Int32 × jM) :=
  (jbool t0).bind fun x1 =>
  some (x1, μ)
def b_X11_isRow_34 (Y : jY) (μ : jM) : Option (Int32 × jM) :=
  b_X11_isRow_35 Y (0 : Int32) μ
def f_X11_isRow (Y : jY) (v0 : Nat) (v1 : Int32) (v2 : Int32) (μ : jM) : Option (Int32 × jM) :=
  (jrcv Y v0 11 (f_X11_isFilled Y v0 v1 μ)).bind fun r1 =>
  if r1.1 = 0 then
    b_X11_isRow_34 Y r1.2
  else
    (jgO Y r1.2 v0 11 3).bind fun x2 =>
    (jgO Y r1.2 x2 3 1).bind fun x3 =>
    (jaO Y r1.2 x3 24 v1).bind fun x4 =>
    (jgI Y r1.2 x4 10 0).bind fun x5 =>
    (f_X11_within Y v2 ((0 : Int32)) ((x5 - ((1 : Int32)))) r1.2).bind fun r6 =>
    if r6.1 = 0 then
      b_X11_isRow_34 Y r6.2
    else
      b_X11_isRow_35 Y (1 : Int32) r6.2
set_option maxRecDepth 10000 in
theorem t_X11_isRow_35 {X : jX} {l : Launch} {n : Nat} {Y : jY} (K : jOK X RX11 cX11_isRow 3 (some .boolean) 4) (hl : X.2.1 = l) {rr : Int32} {μr : jM} {t0 : Int32} {μ : jM} {z : (Int32 × jM)} (H : b_X11_isRow_35 Y t0 μ = some z) (D : z = (rr, μr)) : JW X (jEnd X n Y (some (.int rr)) μr 0 0) 0 0 n Y 35 [] [.int t0] μ := by
  unfold b_X11_isRow_35 at H
  refine w_zret K dX11_isRow_35 H (fun hz H => ?_)
  cases H
  obtain ⟨rfl, rfl⟩ := jfin2 D
  exact r_zret K hz dX11_isRow_35
set_option maxRecDepth 10000 in
theorem t_X11_isRow_34 {X : jX} {l : Launch} {n : Nat} {Y : jY} (K : jOK X RX11 cX11_isRow 3 (some .boolean) 4) (hl : X.2.1 = l) {rr : Int32} {μr : jM} {μ : jM} {z : (Int32 × jM)} (H : b_X11_isRow_34 Y μ = some z) (D : z = (rr, μr)) : JW X (jEnd X n Y (some (.int rr)) μr 0 0) 0 0 n Y 34 [] [] μ := by
  unfold b_X11_isRow_34 at H
  refine r_iconst (v := 0) K dX11_isRow_34 (by decide) ?_
  exact r_sub [] rfl (t_X11_isRow_35 K hl H D)
set_option maxRecDepth 10000 in
theorem t_X11_isRow_0 {X : jX} {l : Launch} {n : Nat} {Y : jY} (K : jOK X RX11 cX11_isRow 3 (some .boolean) 4) (hl : X.2.1 = l) {rr : Int32} {μr : jM} {v0 : Nat} {v1 : Int32} {v2 : Int32} {μ : jM} {z : (Int32 × jM)} (H : f_X11_isRow Y v0 v1 v2 μ = some z) (D : z = (rr, μr)) : JW X (jEnd X n Y (some (.int rr)) μr 0 0) 0 0 n Y 0 [(0, .ref v0), (1, .int v1), (2, .int v2)] [] μ := by
  unfold f_X11_isRow at H
  refine r_aload_n K 0 dX11_isRow_0 rfl rfl ?_
  refine r_iload_n K 1 dX11_isRow_1 rfl rfl ?_
  refine w_callV K hl H (fun r h => c_X11_isFilled l h) mC_yX11_isFilled mM_RX11_285 mI_yX11_isFilled mS_yX11_isFilled mZ_RX11 vc11 (Nat.le_of_ble_eq_true rfl) (Nat.le_of_ble_eq_true rfl) np_yX11_isFilled rfl (Nat.le_of_ble_eq_true rfl) dX11_isRow_2 (fun r1 H => ?_) ⟨Nat.zero_le _, Nat.zero_le _⟩
  refine w_if_eq K 34 dX11_isRow_5 (by decide) H (fun _ H => ?_) (fun _ H => ?_)
  · exact r_sub [] rfl (t_X11_isRow_34 K hl H D)
  · refine r_iload_n K 2 dX11_isRow_8 rfl rfl ?_
    refine r_iconst (v := 0) K dX11_isRow_9 (by decide) ?_
    refine r_aload_n K 0 dX11_isRow_10 rfl rfl ?_
    refine w_getO K vc11 inX11 3 (by decide) mF_RX11_35 dX11_isRow_11 H (fun x2 H => ?_)
    refine w_getO K vc3 inX3 1 (by decide) mF_RX11_255 dX11_isRow_14 H (fun x3 H => ?_)
    refine r_iload_n K 1 dX11_isRow_17 rfl rfl ?_
    refine w_aald K 24 rfl rfl dX11_isRow_18 H (fun x4 H => ?_)
    refine w_getI K vc10 inX10 0 (by decide) mF_RX11_263 dX11_isRow_19 H (fun x5 H => ?_)
    refine r_iconst (v := 1) K dX11_isRow_22 (by decide) ?_
    refine r_isub K dX11_isRow_23 ?_
    refine w_callS K hl H (fun r h => c_X11_within l h) mC_yX11_within mM_RX11_133 mT_yX11_within mZ_RX11 (Nat.le_of_ble_eq_true rfl) (Nat.le_of_ble_eq_true rfl) np_yX11_within rfl (Nat.le_of_ble_eq_true rfl) dX11_isRow_24 (fun r6 H => ?_) ⟨Nat.zero_le _, Nat.zero_le _⟩
    refine w_if_eq K 34 dX11_isRow_27 (by decide) H (fun _ H => ?_) (fun _ H => ?_)
    · exact r_sub [] rfl (t_X11_isRow_34 K hl H D)
    · refine r_iconst (v := 1) K dX11_isRow_30 (by decide) ?_
      refine r_goto K 35 dX11_isRow_31 (by decide) ?_
      exact r_sub [] rfl (t_X11_isRow_35 K hl H D)
theorem c_X11_isRow (l : Launch) {n : Nat} {Y : jY} {v0 : Nat} {v1 : Int32} {v2 : Int32} {μ : jM} {z : Int32 × jM} (H : f_X11_isRow Y v0 v1 v2 μ = some z) : jC l yX11_isRow cX11_isRow 3 (some .boolean) 4 0 0 [.ref v0, .int v1, .int v2] n Y μ n Y (some (.int z.1)) z.2 := by
  refine jC_of (by decide +kernel) (Nat.le_of_ble_eq_true rfl) (fun X hl K _ _ _ => ?_)
  obtain ⟨rr, μr⟩ := z
  exact t_X11_isRow_0 K hl H rfl
/-! RX11 strike(IIII)J -/
def b_X11_strike_37 (Y : jY) (μ : jM) : Option (Int64 × jM) :=
  some ((-9223372036854775808 : Int64), μ)
def f_X11_strike (Y : jY) (v0 : Nat) (v1 : Int32) (v2 : Int32) (v3 : Int32) (v4 : Int32) (μ : jM) : Option (Int64 × jM) :=
  (jrcv Y v0 11 (f_X11_isFilled Y v0 v1 μ)).bind fun r1 =>
  if r1.1 = 0 then
    b_X11_strike_37 Y r1.2
  else
    (jrcv Y v0 11 (f_X11_isRow Y v0 v1 v2 r1.2)).bind fun r2 =>
    if r2.1 = 0 then
      b_X11_strike_37 Y r2.2
    else
      (f_X11_within Y v3 ((0 : Int32)) ((8 : Int32)) r2.2).bind fun r3 =>
      if r3.1 = 0 then
        b_X11_strike_37 Y r3.2
      else
        (jrcv Y v0 11 (f_X11_isRow Y v0 v1 v4 r3.2)).bind fun r4 =>
        if r4.1 = 0 then
          b_X11_strike_37 Y r4.2
        else
          (jgO Y r4.2 v0 11 9).bind fun x5 =>
          (jgO Y r4.2 v0 11 3).bind fun x6 =>
          (jgO Y r4.2 x6 3 1).bind fun x7 =>
          (jaO Y r4.2 x7 24 v1).bind fun x8 =>
          (jrcv Y x5 4 (f_X4_swing Y x5 x8 v2 v3 v4 r4.2)).bind fun r9 =>
          some (r9.1, r9.2)
set_option maxRecDepth 10000 in
theorem t_X11_strike_37 {X : jX} {l : Launch} {n : Nat} {Y : jY} (K : jOK X RX11 cX11_strike 5 (some .long) 5) (hl : X.2.1 = l) {rr : Int64} {μr : jM} {μ : jM} {z : (Int64 × jM)} (H : b_X11_strike_37 Y μ = some z) (D : z = (rr, μr)) : JW X (jEnd X n Y (some (.long rr)) μr 0 0) 0 0 n Y 37 [] [] μ := by
  unfold b_X11_strike_37 at H
  refine r_ldc2 K (-9223372036854775808) mc_RX11_151 dX11_strike_37 ?_
  cases H
  obtain ⟨rfl, rfl⟩ := jfin2 D
  exact r_lret K dX11_strike_40
set_option maxRecDepth 10000 in
theorem t_X11_strike_0 {X : jX} {l : Launch} {n : Nat} {Y : jY} (K : jOK X RX11 cX11_strike 5 (some .long) 5) (hl : X.2.1 = l) {rr : Int64} {μr : jM} {v0 : Nat} {v1 : Int32} {v2 : Int32} {v3 : Int32} {v4 : Int32} {μ : jM} {z : (Int64 × jM)} (H : f_X11_strike Y v0 v1 v2 v3 v4 μ = some z) (D : z = (rr, μr)) : JW X (jEnd X n Y (some (.long rr)) μr 0 0) 0 0 n Y 0 [(0, .ref v0), (1, .int v1), (2, .int v2), (3, .int v3), (4, .int v4)] [] μ := by
  unfold f_X11_strike at H
  refine r_aload_n K 0 dX11_strike_0 rfl rfl ?_
  refine r_iload_n K 1 dX11_strike_1 rfl rfl ?_
  refine w_callV K hl H (fun r h => c_X11_isFilled l h) mC_yX11_isFilled mM_RX11_285 mI_yX11_isFilled mS_yX11_isFilled mZ_RX11 vc11 (Nat.le_of_ble_eq_true rfl) (Nat.le_of_ble_eq_true rfl) np_yX11_isFilled rfl (Nat.le_of_ble_eq_true rfl) dX11_strike_2 (fun r1 H => ?_) ⟨Nat.zero_le _, Nat.zero_le _⟩
  refine w_if_eq K 37 dX11_strike_5 (by decide) H (fun _ H => ?_) (fun _ H => ?_)
  · exact r_sub [] rfl (t_X11_strike_37 K hl H D)
  · refine r_aload_n K 0 dX11_strike_8 rfl rfl ?_
    refine r_iload_n K 1 dX11_strike_9 rfl rfl ?_
    refine r_iload_n K 2 dX11_strike_10 rfl rfl ?_
    refine w_callV K hl H (fun r h => c_X11_isRow l h) mC_yX11_isRow mM_RX11_312 mI_yX11_isRow mS_yX11_isRow mZ_RX11 vc11 (Nat.le_of_ble_eq_true rfl) (Nat.le_of_ble_eq_true rfl) np_yX11_isRow rfl (Nat.le_of_ble_eq_true rfl) dX11_strike_11 (fun r2 H => ?_) ⟨Nat.zero_le _, Nat.zero_le _⟩
    refine w_if_eq K 37 dX11_strike_14 (by decide) H (fun _ H => ?_) (fun _ H => ?_)
    · exact r_sub [] rfl (t_X11_strike_37 K hl H D)
    · refine r_iload_n K 3 dX11_strike_17 rfl rfl ?_
      refine r_iconst (v := 0) K dX11_strike_18 (by decide) ?_
      refine r_bipush (v := 8) K dX11_strike_19 (by decide) ?_
      refine w_callS K hl H (fun r h => c_X11_within l h) mC_yX11_within mM_RX11_133 mT_yX11_within mZ_RX11 (Nat.le_of_ble_eq_true rfl) (Nat.le_of_ble_eq_true rfl) np_yX11_within rfl (Nat.le_of_ble_eq_true rfl) dX11_strike_21 (fun r3 H => ?_) ⟨Nat.zero_le _, Nat.zero_le _⟩
      refine w_if_eq K 37 dX11_strike_24 (by decide) H (fun _ H => ?_) (fun _ H => ?_)
      · exact r_sub [] rfl (t_X11_strike_37 K hl H D)
      · refine r_aload_n K 0 dX11_strike_27 rfl rfl ?_
        refine r_iload_n K 1 dX11_strike_28 rfl rfl ?_
        refine r_iload K 4 dX11_strike_29 rfl ?_
        refine w_callV K hl H (fun r h => c_X11_isRow l h) mC_yX11_isRow mM_RX11_312 mI_yX11_isRow mS_yX11_isRow mZ_RX11 vc11 (Nat.le_of_ble_eq_true rfl) (Nat.le_of_ble_eq_true rfl) np_yX11_isRow rfl (Nat.le_of_ble_eq_true rfl) dX11_strike_31 (fun r4 H => ?_) ⟨Nat.zero_le _, Nat.zero_le _⟩
        refine w_if_ne K 41 dX11_strike_34 (by decide) H (fun _ H => ?_) (fun _ H => ?_)
        · refine r_aload_n K 0 dX11_strike_41 rfl rfl ?_
          refine w_getO K vc11 inX11 9 (by decide) mF_RX11_73 dX11_strike_42 H (fun x5 H => ?_)
          refine r_aload_n K 0 dX11_strike_45 rfl rfl ?_
          refine w_getO K vc11 inX11 3 (by decide) mF_RX11_35 dX11_strike_46 H (fun x6 H => ?_)
          refine w_getO K vc3 inX3 1 (by decide) mF_RX11_255 dX11_strike_49 H (fun x7 H => ?_)
          refine r_iload_n K 1 dX11_strike_52 rfl rfl ?_
          refine w_aald K 24 rfl rfl dX11_strike_53 H (fun x8 H => ?_)
          refine r_iload_n K 2 dX11_strike_54 rfl rfl ?_
          refine r_iload_n K 3 dX11_strike_55 rfl rfl ?_
          refine r_iload K 4 dX11_strike_56 rfl ?_
          refine w_callV K hl H (fun r h => c_X4_swing l h) mC_yX4_swing mM_RX11_343 mI_yX4_swing mS_yX4_swing mZ_RX4 vc4 (Nat.le_of_ble_eq_true rfl) (Nat.le_of_ble_eq_true rfl) np_yX4_swing rfl (Nat.le_of_ble_eq_true rfl) dX11_strike_58 (fun r9 H => ?_) ⟨Nat.zero_le _, Nat.zero_le _⟩
          cases H
          obtain ⟨rfl, rfl⟩ := jfin2 D
          exact r_lret K dX11_strike_61
        · exact r_sub [] rfl (t_X11_strike_37 K hl H D)
theorem c_X11_strike (l : Launch) {n : Nat} {Y : jY} {v0 : Nat} {v1 : Int32} {v2 : Int32} {v3 : Int32} {v4 : Int32} {μ : jM} {z : Int64 × jM} (H : f_X11_strike Y v0 v1 v2 v3 v4 μ = some z) : jC l yX11_strike cX11_strike 5 (some .long) 5 0 0 [.ref v0, .int v1, .int v2, .int v3, .int v4] n Y μ n Y (some (.long z.1)) z.2 := by
  refine jC_of (by decide +kernel) (Nat.le_of_ble_eq_true rfl) (fun X hl K _ _ _ => ?_)
  obtain ⟨rr, μr⟩ := z
  exact t_X11_strike_0 K hl H rfl
/-! RX11 read(II)I -/
def b_X11_read_12 (Y : jY) (μ : jM) : Option (Int32 × jM) :=
  some ((-1 : Int32), μ)
def f_X11_read (Y : jY) (v0 : Nat) (v1 : Int32) (v2 : Int32) (μ : jM) : Option (Int32 × jM) :=
  (f_X11_isDrawer Y v1 μ).bind fun r1 =>
  if r1.1 = 0 then
    b_X11_read_12 Y r1.2
  else
    if ((-1 : Int32)) ≤ v2 then
      (jgO Y r1.2 v0 11 3).bind fun x2 =>
      (jgO Y r1.2 x2 3 1).bind fun x3 =>
      (jaO Y r1.2 x3 24 v1).bind fun x4 =>
      (jgI Y r1.2 x4 10 0).bind fun x5 =>
      if x5 = 0 then
        some ((-2 : Int32), r1.2)
      else
        (jgO Y r1.2 v0 11 2).bind fun x6 =>
        (jgO Y r1.2 x4 10 1).bind fun x7 =>
        (jgI Y r1.2 x4 10 0).bind fun x8 =>
        (jgO Y r1.2 x4 10 2).bind fun x9 =>
        (jrcv Y x6 2 (f_X2_tell Y x6 x7 x8 x9 r1.2)).bind fun μ10 =>
        (jgO Y μ10 v0 11 2).bind fun x11 =>
        (jrcv Y x11 2 (f_X2_at Y x11 v2 μ10)).bind fun r12 =>
        some (r12.1, r12.2)
    else
      b_X11_read_12 Y r1.2
set_option maxRecDepth 10000 in
theorem t_X11_read_12 {X : jX} {l : Launch} {n : Nat} {Y : jY} (K : jOK X RX11 cX11_read 4 (some .int) 5) (hl : X.2.1 = l) {rr : Int32} {μr : jM} {μ : jM} {z : (Int32 × jM)} (H : b_X11_read_12 Y μ = some z) (D : z = (rr, μr)) : JW X (jEnd X n Y (some (.int rr)) μr 0 0) 0 0 n Y 12 [] [] μ := by
  unfold b_X11_read_12 at H
  refine r_iconst (v := -1) K dX11_read_12 (by decide) ?_
  cases H
  obtain ⟨rfl, rfl⟩ := jfin2 D
  exact r_iret K dX11_read_13
set_option maxRecDepth 10000 in
theorem t_X11_read_0 {X : jX} {l : Launch} {n : Nat} {Y : jY} (K : jOK X RX11 cX11_read 4 (some .int) 5) (hl : X.2.1 = l) {rr : Int32} {μr : jM} {v0 : Nat} {v1 : Int32} {v2 : Int32} {μ : jM} {z : (Int32 × jM)} (H : f_X11_read Y v0 v1 v2 μ = some z) (D : z = (rr, μr)) : JW X (jEnd X n Y (some (.int rr)) μr 0 0) 0 0 n Y 0 [(0, .ref v0), (1, .int v1), (2, .int v2)] [] μ := by
  unfold f_X11_read at H
  refine r_iload_n K 1 dX11_read_0 rfl rfl ?_
  refine w_callS K hl H (fun r h => c_X11_isDrawer l h) mC_yX11_isDrawer mM_RX11_252 mT_yX11_isDrawer mZ_RX11 (Nat.le_of_ble_eq_true rfl) (Nat.le_of_ble_eq_true rfl) np_yX11_isDrawer rfl (Nat.le_of_ble_eq_true rfl) dX11_read_1 (fun r1 H => ?_) ⟨Nat.zero_le _, Nat.zero_le _⟩
  refine w_if_eq K 12 dX11_read_4 (by decide) H (fun _ H => ?_) (fun _ H => ?_)
  · exact r_sub [] rfl (t_X11_read_12 K hl H D)
  · refine r_iload_n K 2 dX11_read_7 rfl rfl ?_
    refine r_iconst (v := -1) K dX11_read_8 (by decide) ?_
    refine w_icmp_ge K 14 dX11_read_9 (by decide) H (fun _ H => ?_) (fun _ H => ?_)
    · refine r_aload_n K 0 dX11_read_14 rfl rfl ?_
      refine w_getO K vc11 inX11 3 (by decide) mF_RX11_35 dX11_read_15 H (fun x2 H => ?_)
      refine w_getO K vc3 inX3 1 (by decide) mF_RX11_255 dX11_read_18 H (fun x3 H => ?_)
      refine r_iload_n K 1 dX11_read_21 rfl rfl ?_
      refine w_aald K 24 rfl rfl dX11_read_22 H (fun x4 H => ?_)
      refine r_astore_n K [(3, .ref _), (0, .ref _), (1, .int _), (2, .int _)] dX11_read_23 rfl (by decide) rfl ?_
      refine r_aload_n K 0 dX11_read_24 rfl rfl ?_
      refine w_getI K vc10 inX10 0 (by decide) mF_RX11_263 dX11_read_25 H (fun x5 H => ?_)
      refine w_if_ne K 34 dX11_read_28 (by decide) H (fun _ H => ?_) (fun _ H => ?_)
      · refine r_aload_n K 1 dX11_read_34 rfl rfl ?_
        refine w_getO K vc11 inX11 2 (by decide) mF_RX11_28 dX11_read_35 H (fun x6 H => ?_)
        refine r_aload_n K 0 dX11_read_38 rfl rfl ?_
        refine w_getO K vc10 inX10 1 (by decide) mF_RX11_266 dX11_read_39 H (fun x7 H => ?_)
        refine r_aload_n K 0 dX11_read_42 rfl rfl ?_
        refine w_getI K vc10 inX10 0 (by decide) mF_RX11_263 dX11_read_43 H (fun x8 H => ?_)
        refine r_aload_n K 0 dX11_read_46 rfl rfl ?_
        refine w_getO K vc10 inX10 2 (by decide) mF_RX11_268 dX11_read_47 H (fun x9 H => ?_)
        refine w_callV K hl H (fun r h => c_X2_tell l h) mC_yX2_tell mM_RX11_232 mI_yX2_tell mS_yX2_tell mZ_RX2 vc2 (Nat.le_of_ble_eq_true rfl) (Nat.le_of_ble_eq_true rfl) np_yX2_tell rfl (Nat.le_of_ble_eq_true rfl) dX11_read_50 (fun μ10 H => ?_) ⟨Nat.zero_le _, Nat.zero_le _⟩
        refine r_aload_n K 1 dX11_read_53 rfl rfl ?_
        refine w_getO K vc11 inX11 2 (by decide) mF_RX11_28 dX11_read_54 H (fun x11 H => ?_)
        refine r_iload_n K 3 dX11_read_57 rfl rfl ?_
        refine w_callV K hl H (fun r h => c_X2_at l h) mC_yX2_at mM_RX11_236 mI_yX2_at mS_yX2_at mZ_RX2 vc2 (Nat.le_of_ble_eq_true rfl) (Nat.le_of_ble_eq_true rfl) np_yX2_at rfl (Nat.le_of_ble_eq_true rfl) dX11_read_58 (fun r12 H => ?_) ⟨Nat.zero_le _, Nat.zero_le _⟩
        cases H
        obtain ⟨rfl, rfl⟩ := jfin2 D
        exact r_iret K dX11_read_61
      · refine r_bipush (v := -2) K dX11_read_31 (by decide) ?_
        cases H
        obtain ⟨rfl, rfl⟩ := jfin2 D
        exact r_iret K dX11_read_33
    · exact r_sub [] rfl (t_X11_read_12 K hl H D)
theorem c_X11_read (l : Launch) {n : Nat} {Y : jY} {v0 : Nat} {v1 : Int32} {v2 : Int32} {μ : jM} {z : Int32 × jM} (H : f_X11_read Y v0 v1 v2 μ = some z) : jC l yX11_read cX11_read 4 (some .int) 5 0 0 [.ref v0, .int v1, .int v2] n Y μ n Y (some (.int z.1)) z.2 := by
  refine jC_of (by decide +kernel) (Nat.le_of_ble_eq_true rfl) (fun X hl K _ _ _ => ?_)
  obtain ⟨rr, μr⟩ := z
  exact t_X11_read_0 K hl H rfl
/-! RX11 tones(I)I -/
def f_X11_tones (Y : jY) (v0 : Nat) (v1 : Int32) (μ : jM) : Option (Int32 × jM) :=
  (jgO Y μ v0 11 0).bind fun x1 =>
  (jrcv Y x1 5 (f_X5_holdsText Y x1 v1 μ)).bind fun r2 =>
  if r2.1 = 0 then
    some ((-1 : Int32), r2.2)
  else
    (jgO Y r2.2 v0 11 1).bind fun x3 =>
    (jgO Y r2.2 v0 11 0).bind fun x4 =>
    (jrcv Y x3 6 (f_X6_scan Y x3 x4 v1 ((1 : Int32)) r2.2)).bind fun r5 =>
    (jgO Y r5.2 v0 11 0).bind fun x6 =>
    (jrcv Y x6 5 (f_X5_clear Y x6 r5.2)).bind fun μ7 =>
    if r5.1 = 0 then
      (jgO Y μ7 v0 11 3).bind fun x8 =>
      (jgO Y μ7 x8 3 0).bind fun x9 =>
      (jgO Y μ7 v0 11 1).bind fun x10 =>
      (jrcv Y x9 9 (f_X9_take Y x9 x10 μ7)).bind fun μ11 =>
      (jgO Y μ11 v0 11 3).bind fun x12 =>
      (jgO Y μ11 x12 3 0).bind fun x13 =>
      (jgI Y μ11 x13 9 0).bind fun x14 =>
      some (x14, μ11)
    else
      some (r5.1, μ7)
set_option maxRecDepth 10000 in
theorem t_X11_tones_0 {X : jX} {l : Launch} {n : Nat} {Y : jY} (K : jOK X RX11 cX11_tones 3 (some .int) 6) (hl : X.2.1 = l) {rr : Int32} {μr : jM} {v0 : Nat} {v1 : Int32} {μ : jM} {z : (Int32 × jM)} (H : f_X11_tones Y v0 v1 μ = some z) (D : z = (rr, μr)) : JW X (jEnd X n Y (some (.int rr)) μr 0 0) 0 0 n Y 0 [(0, .ref v0), (1, .int v1)] [] μ := by
  unfold f_X11_tones at H
  refine r_aload_n K 0 dX11_tones_0 rfl rfl ?_
  refine w_getO K vc11 inX11 0 (by decide) mF_RX11_12 dX11_tones_1 H (fun x1 H => ?_)
  refine r_iload_n K 1 dX11_tones_4 rfl rfl ?_
  refine w_callV K hl H (fun r h => c_X5_holdsText l h) mC_yX5_holdsText mM_RX11_109 mI_yX5_holdsText mS_yX5_holdsText mZ_RX5 vc5 (Nat.le_of_ble_eq_true rfl) (Nat.le_of_ble_eq_true rfl) np_yX5_holdsText rfl (Nat.le_of_ble_eq_true rfl) dX11_tones_5 (fun r2 H => ?_) ⟨Nat.zero_le _, Nat.zero_le _⟩
  refine w_if_ne K 13 dX11_tones_8 (by decide) H (fun _ H => ?_) (fun _ H => ?_)
  · refine r_aload_n K 0 dX11_tones_13 rfl rfl ?_
    refine w_getO K vc11 inX11 1 (by decide) mF_RX11_21 dX11_tones_14 H (fun x3 H => ?_)
    refine r_aload_n K 0 dX11_tones_17 rfl rfl ?_
    refine w_getO K vc11 inX11 0 (by decide) mF_RX11_12 dX11_tones_18 H (fun x4 H => ?_)
    refine r_iload_n K 1 dX11_tones_21 rfl rfl ?_
    refine r_iconst (v := 1) K dX11_tones_22 (by decide) ?_
    refine w_callV K hl H (fun r h => c_X6_scan l h) mC_yX6_scan mM_RX11_112 mI_yX6_scan mS_yX6_scan mZ_RX6 vc6 (Nat.le_of_ble_eq_true rfl) (Nat.le_of_ble_eq_true rfl) np_yX6_scan rfl (Nat.le_of_ble_eq_true rfl) dX11_tones_23 (fun r5 H => ?_) ⟨Nat.zero_le _, Nat.zero_le _⟩
    refine r_istore_n K [(2, .int _), (0, .ref _), (1, .int _)] dX11_tones_26 rfl (by decide) rfl ?_
    refine r_aload_n K 1 dX11_tones_27 rfl rfl ?_
    refine w_getO K vc11 inX11 0 (by decide) mF_RX11_12 dX11_tones_28 H (fun x6 H => ?_)
    refine w_callV K hl H (fun r h => c_X5_clear l h) mC_yX5_clear mM_RX11_116 mI_yX5_clear mS_yX5_clear mZ_RX5 vc5 (Nat.le_of_ble_eq_true rfl) (Nat.le_of_ble_eq_true rfl) np_yX5_clear rfl (Nat.le_of_ble_eq_true rfl) dX11_tones_31 (fun μ7 H => ?_) ⟨Nat.zero_le _, Nat.zero_le _⟩
    refine r_iload_n K 0 dX11_tones_34 rfl rfl ?_
    refine w_if_eq K 40 dX11_tones_35 (by decide) H (fun _ H => ?_) (fun _ H => ?_)
    · refine r_aload_n K 1 dX11_tones_40 rfl rfl ?_
      refine w_getO K vc11 inX11 3 (by decide) mF_RX11_35 dX11_tones_41 H (fun x8 H => ?_)
      refine w_getO K vc3 inX3 0 (by decide) mF_RX11_119 dX11_tones_44 H (fun x9 H => ?_)
      refine r_aload_n K 1 dX11_tones_47 rfl rfl ?_
      refine w_getO K vc11 inX11 1 (by decide) mF_RX11_21 dX11_tones_48 H (fun x10 H => ?_)
      refine w_callV K hl H (fun r h => c_X9_take l h) mC_yX9_take mM_RX11_122 mI_yX9_take mS_yX9_take mZ_RX9 vc9 (Nat.le_of_ble_eq_true rfl) (Nat.le_of_ble_eq_true rfl) np_yX9_take rfl (Nat.le_of_ble_eq_true rfl) dX11_tones_51 (fun μ11 H => ?_) ⟨Nat.zero_le _, Nat.zero_le _⟩
      refine r_aload_n K 1 dX11_tones_54 rfl rfl ?_
      refine w_getO K vc11 inX11 3 (by decide) mF_RX11_35 dX11_tones_55 H (fun x12 H => ?_)
      refine w_getO K vc3 inX3 0 (by decide) mF_RX11_119 dX11_tones_58 H (fun x13 H => ?_)
      refine w_getI K vc9 inX9 0 (by decide) mF_RX11_126 dX11_tones_61 H (fun x14 H => ?_)
      cases H
      obtain ⟨rfl, rfl⟩ := jfin2 D
      exact r_iret K dX11_tones_64
    · refine r_iload_n K 0 dX11_tones_38 rfl rfl ?_
      cases H
      obtain ⟨rfl, rfl⟩ := jfin2 D
      exact r_iret K dX11_tones_39
  · refine r_iconst (v := -1) K dX11_tones_11 (by decide) ?_
    cases H
    obtain ⟨rfl, rfl⟩ := jfin2 D
    exact r_iret K dX11_tones_12
theorem c_X11_tones (l : Launch) {n : Nat} {Y : jY} {v0 : Nat} {v1 : Int32} {μ : jM} {z : Int32 × jM} (H : f_X11_tones Y v0 v1 μ = some z) : jC l yX11_tones cX11_tones 3 (some .int) 6 0 0 [.ref v0, .int v1] n Y μ n Y (some (.int z.1)) z.2 := by
  refine jC_of (by decide +kernel) (Nat.le_of_ble_eq_true rfl) (fun X hl K _ _ _ => ?_)
  obtain ⟨rr, μr⟩ := z
  exact t_X11_tones_0 K hl H rfl
/-! RX11 hasChain()Z -/
def b_X11_hasChain_38 (Y : jY) (t0 : Int32) (μ : jM) : Option (Int32 × jM) :=
  (jbool t0).bind fun x1 =>
  some (x1, μ)
def b_X11_hasChain_37 (Y : jY) (μ : jM) : Option (Int32 × jM) :=
  b_X11_hasChain_38 Y (0 : Int32) μ
def f_X11_hasChain (Y : jY) (v0 : Nat) (μ : jM) : Option (Int32 × jM) :=
  (jgO Y μ v0 11 3).bind fun x1 =>
  (jgO Y μ x1 3 0).bind fun x2 =>
  (jgI Y μ x2 9 0).bind fun x3 =>
  (f_X11_within Y x3 ((1 : Int32)) ((3 : Int32)) μ).bind fun r4 =>
  if r4.1 = 0 then
    b_X11_hasChain_37 Y r4.2
  else
    (jgO Y r4.2 v0 11 3).bind fun x5 =>
    (jgO Y r4.2 x5 3 0).bind fun x6 =>
    (jgO Y r4.2 x6 9 1).bind fun x7 =>
    (jaI Y r4.2 x7 20 ((0 : Int32))).bind fun x8 =>
    if x8 ≤ 0 then
      b_X11_hasChain_37 Y r4.2
    else
      b_X11_hasChain_38 Y (1 : Int32) r4.2
set_option maxRecDepth 10000 in
theorem t_X11_hasChain_38 {X : jX} {l : Launch} {n : Nat} {Y : jY} (K : jOK X RX11 cX11_hasChain 1 (some .boolean) 2) (hl : X.2.1 = l) {rr : Int32} {μr : jM} {t0 : Int32} {μ : jM} {z : (Int32 × jM)} (H : b_X11_hasChain_38 Y t0 μ = some z) (D : z = (rr, μr)) : JW X (jEnd X n Y (some (.int rr)) μr 0 0) 0 0 n Y 38 [] [.int t0] μ := by
  unfold b_X11_hasChain_38 at H
  refine w_zret K dX11_hasChain_38 H (fun hz H => ?_)
  cases H
  obtain ⟨rfl, rfl⟩ := jfin2 D
  exact r_zret K hz dX11_hasChain_38
set_option maxRecDepth 10000 in
theorem t_X11_hasChain_37 {X : jX} {l : Launch} {n : Nat} {Y : jY} (K : jOK X RX11 cX11_hasChain 1 (some .boolean) 2) (hl : X.2.1 = l) {rr : Int32} {μr : jM} {μ : jM} {z : (Int32 × jM)} (H : b_X11_hasChain_37 Y μ = some z) (D : z = (rr, μr)) : JW X (jEnd X n Y (some (.int rr)) μr 0 0) 0 0 n Y 37 [] [] μ := by
  unfold b_X11_hasChain_37 at H
  refine r_iconst (v := 0) K dX11_hasChain_37 (by decide) ?_
  exact r_sub [] rfl (t_X11_hasChain_38 K hl H D)
set_option maxRecDepth 10000 in
theorem t_X11_hasChain_0 {X : jX} {l : Launch} {n : Nat} {Y : jY} (K : jOK X RX11 cX11_hasChain 1 (some .boolean) 2) (hl : X.2.1 = l) {rr : Int32} {μr : jM} {v0 : Nat} {μ : jM} {z : (Int32 × jM)} (H : f_X11_hasChain Y v0 μ = some z) (D : z = (rr, μr)) : JW X (jEnd X n Y (some (.int rr)) μr 0 0) 0 0 n Y 0 [(0, .ref v0)] [] μ := by
  unfold f_X11_hasChain at H
  refine r_aload_n K 0 dX11_hasChain_0 rfl rfl ?_
  refine w_getO K vc11 inX11 3 (by decide) mF_RX11_35 dX11_hasChain_1 H (fun x1 H => ?_)
  refine w_getO K vc3 inX3 0 (by decide) mF_RX11_119 dX11_hasChain_4 H (fun x2 H => ?_)
  refine w_getI K vc9 inX9 0 (by decide) mF_RX11_126 dX11_hasChain_7 H (fun x3 H => ?_)
  refine r_iconst (v := 1) K dX11_hasChain_10 (by decide) ?_
  refine r_iconst (v := 3) K dX11_hasChain_11 (by decide) ?_
  refine w_callS K hl H (fun r h => c_X11_within l h) mC_yX11_within mM_RX11_133 mT_yX11_within mZ_RX11 (Nat.le_of_ble_eq_true rfl) (Nat.le_of_ble_eq_true rfl) np_yX11_within rfl (Nat.le_of_ble_eq_true rfl) dX11_hasChain_12 (fun r4 H => ?_) ⟨Nat.zero_le _, Nat.zero_le _⟩
  refine w_if_eq K 37 dX11_hasChain_15 (by decide) H (fun _ H => ?_) (fun _ H => ?_)
  · exact r_sub [] rfl (t_X11_hasChain_37 K hl H D)
  · refine r_aload_n K 0 dX11_hasChain_18 rfl rfl ?_
    refine w_getO K vc11 inX11 3 (by decide) mF_RX11_35 dX11_hasChain_19 H (fun x5 H => ?_)
    refine w_getO K vc3 inX3 0 (by decide) mF_RX11_119 dX11_hasChain_22 H (fun x6 H => ?_)
    refine w_getO K vc9 inX9 1 (by decide) mF_RX11_137 dX11_hasChain_25 H (fun x7 H => ?_)
    refine r_iconst (v := 0) K dX11_hasChain_28 (by decide) ?_
    refine w_iald K dX11_hasChain_29 H (fun x8 H => ?_)
    refine w_if_le K 37 dX11_hasChain_30 (by decide) H (fun _ H => ?_) (fun _ H => ?_)
    · exact r_sub [] rfl (t_X11_hasChain_37 K hl H D)
    · refine r_iconst (v := 1) K dX11_hasChain_33 (by decide) ?_
      refine r_goto K 38 dX11_hasChain_34 (by decide) ?_
      exact r_sub [] rfl (t_X11_hasChain_38 K hl H D)
theorem c_X11_hasChain (l : Launch) {n : Nat} {Y : jY} {v0 : Nat} {μ : jM} {z : Int32 × jM} (H : f_X11_hasChain Y v0 μ = some z) : jC l yX11_hasChain cX11_hasChain 1 (some .boolean) 2 0 0 [.ref v0] n Y μ n Y (some (.int z.1)) z.2 := by
  refine jC_of (by decide +kernel) (Nat.le_of_ble_eq_true rfl) (fun X hl K _ _ _ => ?_)
  obtain ⟨rr, μr⟩ := z
  exact t_X11_hasChain_0 K hl H rfl
/-! RX11 isPart(I)Z -/
def b_X11_isPart_14 (Y : jY) (t0 : Int32) (μ : jM) : Option (Int32 × jM) :=
  (jbool t0).bind fun x1 =>
  some (x1, μ)
def b_X11_isPart_9 (Y : jY) (μ : jM) : Option (Int32 × jM) :=
  b_X11_isPart_14 Y (1 : Int32) μ
def f_X11_isPart (Y : jY) (v0 : Int32) (μ : jM) : Option (Int32 × jM) :=
  if v0 = 0 then
    b_X11_isPart_9 Y μ
  else
    if v0 = ((1 : Int32)) then
      b_X11_isPart_9 Y μ
    else
      b_X11_isPart_14 Y (0 : Int32) μ
set_option maxRecDepth 10000 in
theorem t_X11_isPart_14 {X : jX} {l : Launch} {n : Nat} {Y : jY} (K : jOK X RX11 cX11_isPart 1 (some .boolean) 1) (hl : X.2.1 = l) {rr : Int32} {μr : jM} {t0 : Int32} {μ : jM} {z : (Int32 × jM)} (H : b_X11_isPart_14 Y t0 μ = some z) (D : z = (rr, μr)) : JW X (jEnd X n Y (some (.int rr)) μr 0 0) 0 0 n Y 14 [] [.int t0] μ := by
  unfold b_X11_isPart_14 at H
  refine w_zret K dX11_isPart_14 H (fun hz H => ?_)
  cases H
  obtain ⟨rfl, rfl⟩ := jfin2 D
  exact r_zret K hz dX11_isPart_14
set_option maxRecDepth 10000 in
theorem t_X11_isPart_9 {X : jX} {l : Launch} {n : Nat} {Y : jY} (K : jOK X RX11 cX11_isPart 1 (some .boolean) 1) (hl : X.2.1 = l) {rr : Int32} {μr : jM} {μ : jM} {z : (Int32 × jM)} (H : b_X11_isPart_9 Y μ = some z) (D : z = (rr, μr)) : JW X (jEnd X n Y (some (.int rr)) μr 0 0) 0 0 n Y 9 [] [] μ := by
  unfold b_X11_isPart_9 at H
  refine r_iconst (v := 1) K dX11_isPart_9 (by decide) ?_
  refine r_goto K 14 dX11_isPart_10 (by decide) ?_
  exact r_sub [] rfl (t_X11_isPart_14 K hl H D)
set_option maxRecDepth 10000 in
theorem t_X11_isPart_0 {X : jX} {l : Launch} {n : Nat} {Y : jY} (K : jOK X RX11 cX11_isPart 1 (some .boolean) 1) (hl : X.2.1 = l) {rr : Int32} {μr : jM} {v0 : Int32} {μ : jM} {z : (Int32 × jM)} (H : f_X11_isPart Y v0 μ = some z) (D : z = (rr, μr)) : JW X (jEnd X n Y (some (.int rr)) μr 0 0) 0 0 n Y 0 [(0, .int v0)] [] μ := by
  unfold f_X11_isPart at H
  refine r_iload_n K 0 dX11_isPart_0 rfl rfl ?_
  refine w_if_eq K 9 dX11_isPart_1 (by decide) H (fun _ H => ?_) (fun _ H => ?_)
  · exact r_sub [] rfl (t_X11_isPart_9 K hl H D)
  · refine r_iload_n K 0 dX11_isPart_4 rfl rfl ?_
    refine r_iconst (v := 1) K dX11_isPart_5 (by decide) ?_
    refine w_icmp_ne K 13 dX11_isPart_6 (by decide) H (fun _ H => ?_) (fun _ H => ?_)
    · refine r_iconst (v := 0) K dX11_isPart_13 (by decide) ?_
      exact r_sub [] rfl (t_X11_isPart_14 K hl H D)
    · exact r_sub [] rfl (t_X11_isPart_9 K hl H D)
theorem c_X11_isPart (l : Launch) {n : Nat} {Y : jY} {v0 : Int32} {μ : jM} {z : Int32 × jM} (H : f_X11_isPart Y v0 μ = some z) : jC l yX11_isPart cX11_isPart 1 (some .boolean) 1 0 0 [.int v0] n Y μ n Y (some (.int z.1)) z.2 := by
  refine jC_of (by decide +kernel) (Nat.le_of_ble_eq_true rfl) (fun X hl K _ _ _ => ?_)
  obtain ⟨rr, μr⟩ := z
  exact t_X11_isPart_0 K hl H rfl
/-! RX11 mass(I)J -/
def b_X11_mass_14 (Y : jY) (μ : jM) : Option (Int64 × jM) :=
  some ((-9223372036854775808 : Int64), μ)
def b_X11_mass_61 (Y : jY) (v0 : Nat) (v1 : Int32) (v2 : Int32) (μ : jM) : Option ((Int32 × jM) ⊕ (Int64 × jM)) :=
  (jgO Y μ v0 11 3).bind fun x1 =>
  (jgO Y μ x1 3 0).bind fun x2 =>
  (jgI Y μ x2 9 0).bind fun x3 =>
  if x3 ≤ v2 then
    (jgO Y μ v0 11 12).bind fun x4 =>
    (jrcv Y x4 1 (f_X1_part Y x4 v1 μ)).bind fun r5 =>
    some (.inr (r5.1, r5.2))
  else
    (jgO Y μ v0 11 12).bind fun x6 =>
    (jgO Y μ v0 11 7).bind fun x7 =>
    (jgO Y μ x7 8 4).bind fun x8 =>
    (jaO Y μ x8 23 v2).bind fun x9 =>
    (jrcv Y x6 1 (f_X1_add Y x6 x9 μ)).bind fun μ10 =>
    some (.inl ((v2 + (1 : Int32)), μ10))
def f_X11_mass (Y : jY) (v0 : Nat) (v1 : Int32) (μ : jM) : Option (Int64 × jM) :=
  (jrcv Y v0 11 (f_X11_hasTones Y v0 μ)).bind fun r1 =>
  if r1.1 = 0 then
    b_X11_mass_14 Y r1.2
  else
    (f_X11_isPart Y v1 r1.2).bind fun r2 =>
    if r2.1 = 0 then
      b_X11_mass_14 Y r2.2
    else
      (jrcv Y v0 11 (f_X11_hasChain Y v0 r2.2)).bind fun r3 =>
      if r3.1 = 0 then
        some ((-2 : Int64), r3.2)
      else
        (jgO Y r3.2 v0 11 7).bind fun x4 =>
        (jgO Y r3.2 v0 11 3).bind fun x5 =>
        (jgO Y r3.2 x5 3 0).bind fun x6 =>
        (jrcv Y x4 8 (f_X8_rebuild Y x4 x6 r3.2)).bind fun μ7 =>
        (jgO Y μ7 v0 11 7).bind fun x8 =>
        (jrcv Y x8 8 (f_X8_hang Y x8 μ7)).bind fun μ9 =>
        (jgO Y μ9 v0 11 12).bind fun x10 =>
        (jrcv Y x10 1 (f_X1_set Y x10 ((0 : Int64)) ((1 : Int64)) μ9)).bind fun μ11 =>
        jit jF (fun (s : Int32 × jM) => b_X11_mass_61 Y v0 v1 s.1 s.2) ((0 : Int32), μ11)
set_option maxRecDepth 10000 in
theorem t_X11_mass_14 {X : jX} {l : Launch} {n : Nat} {Y : jY} (K : jOK X RX11 cX11_mass 3 (some .long) 7) (hl : X.2.1 = l) {rr : Int64} {μr : jM} {μ : jM} {z : (Int64 × jM)} (H : b_X11_mass_14 Y μ = some z) (D : z = (rr, μr)) : JW X (jEnd X n Y (some (.long rr)) μr 0 0) 0 0 n Y 14 [] [] μ := by
  unfold b_X11_mass_14 at H
  refine r_ldc2 K (-9223372036854775808) mc_RX11_151 dX11_mass_14 ?_
  cases H
  obtain ⟨rfl, rfl⟩ := jfin2 D
  exact r_lret K dX11_mass_17
set_option maxRecDepth 10000 in
theorem t_X11_mass_61 {X : jX} {l : Launch} {n : Nat} {Y : jY} (K : jOK X RX11 cX11_mass 3 (some .long) 7) (hl : X.2.1 = l) {rr : Int64} {μr : jM} {v0 : Nat} {v1 : Int32} {v2 : Int32} {μ : jM} {z : ((Int32 × jM) ⊕ (Int64 × jM))} (H : b_X11_mass_61 Y v0 v1 v2 μ = some z) (D : Sum.elim (fun (s : Int32 × jM) => JW X (jEnd X n Y (some (.long rr)) μr 0 0) 0 0 n Y 61 [(0, .ref v0), (1, .int v1), (2, .int s.1)] [] s.2) (fun r => r = (rr, μr)) z) : JW X (jEnd X n Y (some (.long rr)) μr 0 0) 0 0 n Y 61 [(0, .ref v0), (1, .int v1), (2, .int v2)] [] μ := by
  unfold b_X11_mass_61 at H
  refine r_iload_n K 2 dX11_mass_61 rfl rfl ?_
  refine r_aload_n K 0 dX11_mass_62 rfl rfl ?_
  refine w_getO K vc11 inX11 3 (by decide) mF_RX11_35 dX11_mass_63 H (fun x1 H => ?_)
  refine w_getO K vc3 inX3 0 (by decide) mF_RX11_119 dX11_mass_66 H (fun x2 H => ?_)
  refine w_getI K vc9 inX9 0 (by decide) mF_RX11_126 dX11_mass_69 H (fun x3 H => ?_)
  refine w_icmp_ge K 97 dX11_mass_72 (by decide) H (fun _ H => ?_) (fun _ H => ?_)
  · refine r_aload_n K 0 dX11_mass_97 rfl rfl ?_
    refine w_getO K vc11 inX11 12 (by decide) mF_RX11_94 dX11_mass_98 H (fun x4 H => ?_)
    refine r_iload_n K 1 dX11_mass_101 rfl rfl ?_
    refine w_callV K hl H (fun r h => c_X1_part l h) mC_yX1_part mM_RX11_177 mI_yX1_part mS_yX1_part mZ_RX1 vc1 (Nat.le_of_ble_eq_true rfl) (Nat.le_of_ble_eq_true rfl) np_yX1_part rfl (Nat.le_of_ble_eq_true rfl) dX11_mass_102 (fun r5 H => ?_) ⟨Nat.zero_le _, Nat.zero_le _⟩
    cases H
    simp only [Sum.elim_inr] at D
    obtain ⟨rfl, rfl⟩ := jfin2 D
    exact r_lret K dX11_mass_105
  · refine r_aload_n K 0 dX11_mass_75 rfl rfl ?_
    refine w_getO K vc11 inX11 12 (by decide) mF_RX11_94 dX11_mass_76 H (fun x6 H => ?_)
    refine r_aload_n K 0 dX11_mass_79 rfl rfl ?_
    refine w_getO K vc11 inX11 7 (by decide) mF_RX11_59 dX11_mass_80 H (fun x7 H => ?_)
    refine w_getO K vc8 inX8 4 (by decide) mF_RX11_209 dX11_mass_83 H (fun x8 H => ?_)
    refine r_iload_n K 2 dX11_mass_86 rfl rfl ?_
    refine w_aald K 23 rfl rfl dX11_mass_87 H (fun x9 H => ?_)
    refine w_callV K hl H (fun r h => c_X1_add l h) mC_yX1_add mM_RX11_219 mI_yX1_add mS_yX1_add mZ_RX1 vc1 (Nat.le_of_ble_eq_true rfl) (Nat.le_of_ble_eq_true rfl) np_yX1_add rfl (Nat.le_of_ble_eq_true rfl) dX11_mass_88 (fun μ10 H => ?_) ⟨Nat.zero_le _, Nat.zero_le _⟩
    refine r_iinc K 2 [(2, .int _), (0, .ref _), (1, .int _)] (v := _ + (1 : Int32)) dX11_mass_91 rfl rfl (by decide) rfl ?_
    refine r_goto K 61 dX11_mass_94 (by decide) ?_
    cases H
    exact r_sub [1, 2, 0] rfl D
set_option maxRecDepth 10000 in
theorem l_X11_mass_61 {X : jX} {l : Launch} {n : Nat} {Y : jY} (K : jOK X RX11 cX11_mass 3 (some .long) 7) (hl : X.2.1 = l) {rr : Int64} {μr : jM} {v0 : Nat} {v1 : Int32}  {s0 : Int32 × jM} {z : (Int64 × jM)} (H : jit jF (fun (s : Int32 × jM) => b_X11_mass_61 Y v0 v1 s.1 s.2) s0 = some z) (D : z = (rr, μr)) : JW X (jEnd X n Y (some (.long rr)) μr 0 0) 0 0 n Y 61 [(0, .ref v0), (1, .int v1), (2, .int s0.1)] [] s0.2 :=
  jit_ind (P := fun (s : Int32 × jM) => JW X (jEnd X n Y (some (.long rr)) μr 0 0) 0 0 n Y 61 [(0, .ref v0), (1, .int v1), (2, .int s.1)] [] s.2) (D := fun r => r = (rr, μr)) (fun s z Hs Ds => t_X11_mass_61 K hl Hs Ds) jF s0 z H D
set_option maxRecDepth 10000 in
theorem t_X11_mass_0 {X : jX} {l : Launch} {n : Nat} {Y : jY} (K : jOK X RX11 cX11_mass 3 (some .long) 7) (hl : X.2.1 = l) {rr : Int64} {μr : jM} {v0 : Nat} {v1 : Int32} {μ : jM} {z : (Int64 × jM)} (H : f_X11_mass Y v0 v1 μ = some z) (D : z = (rr, μr)) : JW X (jEnd X n Y (some (.long rr)) μr 0 0) 0 0 n Y 0 [(0, .ref v0), (1, .int v1)] [] μ := by
  unfold f_X11_mass at H
  refine r_aload_n K 0 dX11_mass_0 rfl rfl ?_
  refine w_callV K hl H (fun r h => c_X11_hasTones l h) mC_yX11_hasTones mM_RX11_147 mI_yX11_hasTones mS_yX11_hasTones mZ_RX11 vc11 (Nat.le_of_ble_eq_true rfl) (Nat.le_of_ble_eq_true rfl) np_yX11_hasTones rfl (Nat.le_of_ble_eq_true rfl) dX11_mass_1 (fun r1 H => ?_) ⟨Nat.zero_le _, Nat.zero_le _⟩
  refine w_if_eq K 14 dX11_mass_4 (by decide) H (fun _ H => ?_) (fun _ H => ?_)
  · exact r_sub [] rfl (t_X11_mass_14 K hl H D)
  · refine r_iload_n K 1 dX11_mass_7 rfl rfl ?_
    refine w_callS K hl H (fun r h => c_X11_isPart l h) mC_yX11_isPart mM_RX11_170 mT_yX11_isPart mZ_RX11 (Nat.le_of_ble_eq_true rfl) (Nat.le_of_ble_eq_true rfl) np_yX11_isPart rfl (Nat.le_of_ble_eq_true rfl) dX11_mass_8 (fun r2 H => ?_) ⟨Nat.zero_le _, Nat.zero_le _⟩
    refine w_if_ne K 18 dX11_mass_11 (by decide) H (fun _ H => ?_) (fun _ H => ?_)
    · refine r_aload_n K 0 dX11_mass_18 rfl rfl ?_
      refine w_callV K hl H (fun r h => c_X11_hasChain l h) mC_yX11_hasChain mM_RX11_203 mI_yX11_hasChain mS_yX11_hasChain mZ_RX11 vc11 (Nat.le_of_ble_eq_true rfl) (Nat.le_of_ble_eq_true rfl) np_yX11_hasChain rfl (Nat.le_of_ble_eq_true rfl) dX11_mass_19 (fun r3 H => ?_) ⟨Nat.zero_le _, Nat.zero_le _⟩
      refine w_if_ne K 29 dX11_mass_22 (by decide) H (fun _ H => ?_) (fun _ H => ?_)
      · refine r_aload_n K 0 dX11_mass_29 rfl rfl ?_
        refine w_getO K vc11 inX11 7 (by decide) mF_RX11_59 dX11_mass_30 H (fun x4 H => ?_)
        refine r_aload_n K 0 dX11_mass_33 rfl rfl ?_
        refine w_getO K vc11 inX11 3 (by decide) mF_RX11_35 dX11_mass_34 H (fun x5 H => ?_)
        refine w_getO K vc3 inX3 0 (by decide) mF_RX11_119 dX11_mass_37 H (fun x6 H => ?_)
        refine w_callV K hl H (fun r h => c_X8_rebuild l h) mC_yX8_rebuild mM_RX11_185 mI_yX8_rebuild mS_yX8_rebuild mZ_RX8 vc8 (Nat.le_of_ble_eq_true rfl) (Nat.le_of_ble_eq_true rfl) np_yX8_rebuild rfl (Nat.le_of_ble_eq_true rfl) dX11_mass_40 (fun μ7 H => ?_) ⟨Nat.zero_le _, Nat.zero_le _⟩
        refine r_aload_n K 0 dX11_mass_43 rfl rfl ?_
        refine w_getO K vc11 inX11 7 (by decide) mF_RX11_59 dX11_mass_44 H (fun x8 H => ?_)
        refine w_callV K hl H (fun r h => c_X8_hang l h) mC_yX8_hang mM_RX11_206 mI_yX8_hang mS_yX8_hang mZ_RX8 vc8 (Nat.le_of_ble_eq_true rfl) (Nat.le_of_ble_eq_true rfl) np_yX8_hang rfl (Nat.le_of_ble_eq_true rfl) dX11_mass_47 (fun μ9 H => ?_) ⟨Nat.zero_le _, Nat.zero_le _⟩
        refine r_aload_n K 0 dX11_mass_50 rfl rfl ?_
        refine w_getO K vc11 inX11 12 (by decide) mF_RX11_94 dX11_mass_51 H (fun x10 H => ?_)
        refine r_lconst (v := 0) K dX11_mass_54 (by decide) ?_
        refine r_lconst (v := 1) K dX11_mass_55 (by decide) ?_
        refine w_callV K hl H (fun r h => c_X1_set l h) mC_yX1_set mM_RX11_215 mI_yX1_set mS_yX1_set mZ_RX1 vc1 (Nat.le_of_ble_eq_true rfl) (Nat.le_of_ble_eq_true rfl) np_yX1_set rfl (Nat.le_of_ble_eq_true rfl) dX11_mass_56 (fun μ11 H => ?_) ⟨Nat.zero_le _, Nat.zero_le _⟩
        refine r_iconst (v := 0) K dX11_mass_59 (by decide) ?_
        refine r_istore_n K [(2, .int _), (0, .ref _), (1, .int _)] dX11_mass_60 rfl (by decide) rfl ?_
        exact r_sub [1, 2, 0] rfl (l_X11_mass_61 K hl H D)
      · refine r_ldc2 K (-2) mc_RX11_201 dX11_mass_25 ?_
        cases H
        obtain ⟨rfl, rfl⟩ := jfin2 D
        exact r_lret K dX11_mass_28
    · exact r_sub [] rfl (t_X11_mass_14 K hl H D)
theorem c_X11_mass (l : Launch) {n : Nat} {Y : jY} {v0 : Nat} {v1 : Int32} {μ : jM} {z : Int64 × jM} (H : f_X11_mass Y v0 v1 μ = some z) : jC l yX11_mass cX11_mass 3 (some .long) 7 0 0 [.ref v0, .int v1] n Y μ n Y (some (.long z.1)) z.2 := by
  refine jC_of (by decide +kernel) (Nat.le_of_ble_eq_true rfl) (fun X hl K _ _ _ => ?_)
  obtain ⟨rr, μr⟩ := z
  exact t_X11_mass_0 K hl H rfl
/-! RX11 put(IZII)I -/
def f_X11_put (Y : jY) (v0 : Nat) (v1 : Int32) (v2 : Int32) (v3 : Int32) (v4 : Int32) (μ : jM) : Option (Int32 × jM) :=
  (f_X11_isDrawer Y v1 μ).bind fun r1 =>
  if r1.1 = 0 then
    some ((-99 : Int32), r1.2)
  else
    (jgO Y r1.2 v0 11 3).bind fun x2 =>
    (jgO Y r1.2 x2 3 1).bind fun x3 =>
    (jaO Y r1.2 x3 24 v1).bind fun x4 =>
    (jgI Y r1.2 x4 10 0).bind fun x5 =>
    if x5 = 0 then
      some ((-100 : Int32), r1.2)
    else
      (jrcv Y x4 10 (f_X10_hasNumber Y x4 v2 v3 r1.2)).bind fun r6 =>
      if r6.1 = 0 then
        some ((-99 : Int32), r6.2)
      else
        (f_X10_canBe Y v2 v4 r6.2).bind fun r7 =>
        if r7.1 = 0 then
          some ((-101 : Int32), r7.2)
        else
          (jrcv Y x4 10 (f_X10_numberAt Y x4 v2 v3 r7.2)).bind fun r8 =>
          (jrcv Y x4 10 (f_X10_setNumber Y x4 v2 v3 v4 r8.2)).bind fun μ9 =>
          some (r8.1, μ9)
set_option maxRecDepth 10000 in
theorem t_X11_put_0 {X : jX} {l : Launch} {n : Nat} {Y : jY} (K : jOK X RX11 cX11_put 7 (some .int) 3) (hl : X.2.1 = l) {rr : Int32} {μr : jM} {v0 : Nat} {v1 : Int32} {v2 : Int32} {v3 : Int32} {v4 : Int32} {μ : jM} {z : (Int32 × jM)} (H : f_X11_put Y v0 v1 v2 v3 v4 μ = some z) (D : z = (rr, μr)) : JW X (jEnd X n Y (some (.int rr)) μr 0 0) 0 0 n Y 0 [(0, .ref v0), (1, .int v1), (2, .int v2), (3, .int v3), (4, .int v4)] [] μ := by
  unfold f_X11_put at H
  refine r_iload_n K 1 dX11_put_0 rfl rfl ?_
  refine w_callS K hl H (fun r h => c_X11_isDrawer l h) mC_yX11_isDrawer mM_RX11_252 mT_yX11_isDrawer mZ_RX11 (Nat.le_of_ble_eq_true rfl) (Nat.le_of_ble_eq_true rfl) np_yX11_isDrawer rfl (Nat.le_of_ble_eq_true rfl) dX11_put_1 (fun r1 H => ?_) ⟨Nat.zero_le _, Nat.zero_le _⟩
  refine w_if_ne K 10 dX11_put_4 (by decide) H (fun _ H => ?_) (fun _ H => ?_)
  · refine r_aload_n K 0 dX11_put_10 rfl rfl ?_
    refine w_getO K vc11 inX11 3 (by decide) mF_RX11_35 dX11_put_11 H (fun x2 H => ?_)
    refine w_getO K vc3 inX3 1 (by decide) mF_RX11_255 dX11_put_14 H (fun x3 H => ?_)
    refine r_iload_n K 1 dX11_put_17 rfl rfl ?_
    refine w_aald K 24 rfl rfl dX11_put_18 H (fun x4 H => ?_)
    refine r_astore K [(5, .ref _), (0, .ref _), (1, .int _), (2, .int _), (3, .int _), (4, .int _)] dX11_put_19 (by decide) rfl ?_
    refine r_aload K 0 dX11_put_21 rfl ?_
    refine w_getI K vc10 inX10 0 (by decide) mF_RX11_263 dX11_put_23 H (fun x5 H => ?_)
    refine w_if_ne K 32 dX11_put_26 (by decide) H (fun _ H => ?_) (fun _ H => ?_)
    · refine r_aload K 0 dX11_put_32 rfl ?_
      refine r_iload_n K 3 dX11_put_34 rfl rfl ?_
      refine r_iload_n K 4 dX11_put_35 rfl rfl ?_
      refine w_callV K hl H (fun r h => c_X10_hasNumber l h) mC_yX10_hasNumber mM_RX11_270 mI_yX10_hasNumber mS_yX10_hasNumber mZ_RX10 vc10 (Nat.le_of_ble_eq_true rfl) (Nat.le_of_ble_eq_true rfl) np_yX10_hasNumber rfl (Nat.le_of_ble_eq_true rfl) dX11_put_36 (fun r6 H => ?_) ⟨Nat.zero_le _, Nat.zero_le _⟩
      refine w_if_ne K 45 dX11_put_39 (by decide) H (fun _ H => ?_) (fun _ H => ?_)
      · refine r_iload_n K 3 dX11_put_45 rfl rfl ?_
        refine r_iload K 5 dX11_put_46 rfl ?_
        refine w_callS K hl H (fun r h => c_X10_canBe l h) mC_yX10_canBe mM_RX11_274 mT_yX10_canBe mZ_RX10 (Nat.le_of_ble_eq_true rfl) (Nat.le_of_ble_eq_true rfl) np_yX10_canBe rfl (Nat.le_of_ble_eq_true rfl) dX11_put_48 (fun r7 H => ?_) ⟨Nat.zero_le _, Nat.zero_le _⟩
        refine w_if_ne K 57 dX11_put_51 (by decide) H (fun _ H => ?_) (fun _ H => ?_)
        · refine r_aload K 0 dX11_put_57 rfl ?_
          refine r_iload_n K 3 dX11_put_59 rfl rfl ?_
          refine r_iload_n K 4 dX11_put_60 rfl rfl ?_
          refine w_callV K hl H (fun r h => c_X10_numberAt l h) mC_yX10_numberAt mM_RX11_277 mI_yX10_numberAt mS_yX10_numberAt mZ_RX10 vc10 (Nat.le_of_ble_eq_true rfl) (Nat.le_of_ble_eq_true rfl) np_yX10_numberAt rfl (Nat.le_of_ble_eq_true rfl) dX11_put_61 (fun r8 H => ?_) ⟨Nat.zero_le _, Nat.zero_le _⟩
          refine r_istore K [(6, .int _), (5, .ref _), (0, .ref _), (1, .int _), (2, .int _), (3, .int _), (4, .int _)] dX11_put_64 (by decide) rfl ?_
          refine r_aload K 1 dX11_put_66 rfl ?_
          refine r_iload_n K 4 dX11_put_68 rfl rfl ?_
          refine r_iload_n K 5 dX11_put_69 rfl rfl ?_
          refine r_iload K 6 dX11_put_70 rfl ?_
          refine w_callV K hl H (fun r h => c_X10_setNumber l h) mC_yX10_setNumber mM_RX11_281 mI_yX10_setNumber mS_yX10_setNumber mZ_RX10 vc10 (Nat.le_of_ble_eq_true rfl) (Nat.le_of_ble_eq_true rfl) np_yX10_setNumber rfl (Nat.le_of_ble_eq_true rfl) dX11_put_72 (fun μ9 H => ?_) ⟨Nat.zero_le _, Nat.zero_le _⟩
          refine r_iload K 0 dX11_put_75 rfl ?_
          cases H
          obtain ⟨rfl, rfl⟩ := jfin2 D
          exact r_iret K dX11_put_77
        · refine r_bipush (v := -101) K dX11_put_54 (by decide) ?_
          cases H
          obtain ⟨rfl, rfl⟩ := jfin2 D
          exact r_iret K dX11_put_56
      · refine r_bipush (v := -99) K dX11_put_42 (by decide) ?_
        cases H
        obtain ⟨rfl, rfl⟩ := jfin2 D
        exact r_iret K dX11_put_44
    · refine r_bipush (v := -100) K dX11_put_29 (by decide) ?_
      cases H
      obtain ⟨rfl, rfl⟩ := jfin2 D
      exact r_iret K dX11_put_31
  · refine r_bipush (v := -99) K dX11_put_7 (by decide) ?_
    cases H
    obtain ⟨rfl, rfl⟩ := jfin2 D
    exact r_iret K dX11_put_9
theorem c_X11_put (l : Launch) {n : Nat} {Y : jY} {v0 : Nat} {v1 : Int32} {v2 : Int32} {v3 : Int32} {v4 : Int32} {μ : jM} {z : Int32 × jM} (H : f_X11_put Y v0 v1 v2 v3 v4 μ = some z) : jC l yX11_put cX11_put 7 (some .int) 3 0 0 [.ref v0, .int v1, .int v2, .int v3, .int v4] n Y μ n Y (some (.int z.1)) z.2 := by
  refine jC_of (by decide +kernel) (Nat.le_of_ble_eq_true rfl) (fun X hl K _ _ _ => ?_)
  obtain ⟨rr, μr⟩ := z
  exact t_X11_put_0 K hl H rfl
/-! RX11 alike(III)I -/
def b_X11_alike_23 (Y : jY) (μ : jM) : Option (Int32 × jM) :=
  some ((-1 : Int32), μ)
def b_X11_alike_63 (Y : jY) (μ : jM) : Option (Int32 × jM) :=
  some ((-2 : Int32), μ)
def b_X11_alike_114 (Y : jY) (t0 : Int32) (μ : jM) : Option (Int32 × jM) :=
  some (t0, μ)
def b_X11_alike_102 (Y : jY) (t0 : Int32) (μ : jM) : Option (Int32 × jM) :=
  if t0 = 0 then
    b_X11_alike_114 Y (0 : Int32) μ
  else
    b_X11_alike_114 Y (1 : Int32) μ
def f_X11_alike (Y : jY) (v0 : Nat) (v1 : Int32) (v2 : Int32) (v3 : Int32) (μ : jM) : Option (Int32 × jM) :=
  (f_X11_isDrawer Y v1 μ).bind fun r1 =>
  if r1.1 = 0 then
    b_X11_alike_23 Y r1.2
  else
    (f_X11_isDrawer Y v2 r1.2).bind fun r2 =>
    if r2.1 = 0 then
      b_X11_alike_23 Y r2.2
    else
      (f_X11_within Y v3 ((0 : Int32)) ((2 : Int32)) r2.2).bind fun r3 =>
      if r3.1 = 0 then
        b_X11_alike_23 Y r3.2
      else
        (jgO Y r3.2 v0 11 3).bind fun x4 =>
        (jgO Y r3.2 x4 3 1).bind fun x5 =>
        (jaO Y r3.2 x5 24 v1).bind fun x6 =>
        (jgO Y r3.2 v0 11 3).bind fun x7 =>
        (jgO Y r3.2 x7 3 1).bind fun x8 =>
        (jaO Y r3.2 x8 24 v2).bind fun x9 =>
        (jgI Y r3.2 x6 10 0).bind fun x10 =>
        if x10 = 0 then
          b_X11_alike_63 Y r3.2
        else
          (jgI Y r3.2 x9 10 0).bind fun x11 =>
          if x11 = 0 then
            b_X11_alike_63 Y r3.2
          else
            if v3 = ((2 : Int32)) then
              (jrcv Y x6 10 (f_X10_sharedRoots Y x6 x9 ((50 : Int32)) r3.2)).bind fun r14 =>
              some (r14.1, r14.2)
            else
              if v3 = 0 then
                (jrcv Y x6 10 (f_X10_soundsLike Y x6 x9 r3.2)).bind fun r13 =>
                b_X11_alike_102 Y r13.1 r13.2
              else
                (jrcv Y x6 10 (f_X10_isTurnOf Y x6 x9 r3.2)).bind fun r12 =>
                b_X11_alike_102 Y r12.1 r12.2
set_option maxRecDepth 10000 in
theorem t_X11_alike_23 {X : jX} {l : Launch} {n : Nat} {Y : jY} (K : jOK X RX11 cX11_alike 7 (some .int) 6) (hl : X.2.1 = l) {rr : Int32} {μr : jM} {μ : jM} {z : (Int32 × jM)} (H : b_X11_alike_23 Y μ = some z) (D : z = (rr, μr)) : JW X (jEnd X n Y (some (.int rr)) μr 0 0) 0 0 n Y 23 [] [] μ := by
  unfold b_X11_alike_23 at H
  refine r_iconst (v := -1) K dX11_alike_23 (by decide) ?_
  cases H
  obtain ⟨rfl, rfl⟩ := jfin2 D
  exact r_iret K dX11_alike_24
set_option maxRecDepth 10000 in
theorem t_X11_alike_63 {X : jX} {l : Launch} {n : Nat} {Y : jY} (K : jOK X RX11 cX11_alike 7 (some .int) 6) (hl : X.2.1 = l) {rr : Int32} {μr : jM} {μ : jM} {z : (Int32 × jM)} (H : b_X11_alike_63 Y μ = some z) (D : z = (rr, μr)) : JW X (jEnd X n Y (some (.int rr)) μr 0 0) 0 0 n Y 63 [] [] μ := by
  unfold b_X11_alike_63 at H
  refine r_bipush (v := -2) K dX11_alike_63 (by decide) ?_
  cases H
  obtain ⟨rfl, rfl⟩ := jfin2 D
  exact r_iret K dX11_alike_65
set_option maxRecDepth 10000 in
theorem t_X11_alike_114 {X : jX} {l : Launch} {n : Nat} {Y : jY} (K : jOK X RX11 cX11_alike 7 (some .int) 6) (hl : X.2.1 = l) {rr : Int32} {μr : jM} {t0 : Int32} {μ : jM} {z : (Int32 × jM)} (H : b_X11_alike_114 Y t0 μ = some z) (D : z = (rr, μr)) : JW X (jEnd X n Y (some (.int rr)) μr 0 0) 0 0 n Y 114 [] [.int t0] μ := by
  unfold b_X11_alike_114 at H
  cases H
  obtain ⟨rfl, rfl⟩ := jfin2 D
  exact r_iret K dX11_alike_114
set_option maxRecDepth 10000 in
theorem t_X11_alike_102 {X : jX} {l : Launch} {n : Nat} {Y : jY} (K : jOK X RX11 cX11_alike 7 (some .int) 6) (hl : X.2.1 = l) {rr : Int32} {μr : jM} {t0 : Int32} {μ : jM} {z : (Int32 × jM)} (H : b_X11_alike_102 Y t0 μ = some z) (D : z = (rr, μr)) : JW X (jEnd X n Y (some (.int rr)) μr 0 0) 0 0 n Y 102 [] [.int t0] μ := by
  unfold b_X11_alike_102 at H
  refine r_istore K [(6, .int _)] dX11_alike_102 (by decide) rfl ?_
  refine r_iload K 0 dX11_alike_104 rfl ?_
  refine w_if_eq K 113 dX11_alike_106 (by decide) H (fun _ H => ?_) (fun _ H => ?_)
  · refine r_iconst (v := 0) K dX11_alike_113 (by decide) ?_
    exact r_sub [] rfl (t_X11_alike_114 K hl H D)
  · refine r_iconst (v := 1) K dX11_alike_109 (by decide) ?_
    refine r_goto K 114 dX11_alike_110 (by decide) ?_
    exact r_sub [] rfl (t_X11_alike_114 K hl H D)
set_option maxRecDepth 10000 in
theorem t_X11_alike_0 {X : jX} {l : Launch} {n : Nat} {Y : jY} (K : jOK X RX11 cX11_alike 7 (some .int) 6) (hl : X.2.1 = l) {rr : Int32} {μr : jM} {v0 : Nat} {v1 : Int32} {v2 : Int32} {v3 : Int32} {μ : jM} {z : (Int32 × jM)} (H : f_X11_alike Y v0 v1 v2 v3 μ = some z) (D : z = (rr, μr)) : JW X (jEnd X n Y (some (.int rr)) μr 0 0) 0 0 n Y 0 [(0, .ref v0), (1, .int v1), (2, .int v2), (3, .int v3)] [] μ := by
  unfold f_X11_alike at H
  refine r_iload_n K 1 dX11_alike_0 rfl rfl ?_
  refine w_callS K hl H (fun r h => c_X11_isDrawer l h) mC_yX11_isDrawer mM_RX11_252 mT_yX11_isDrawer mZ_RX11 (Nat.le_of_ble_eq_true rfl) (Nat.le_of_ble_eq_true rfl) np_yX11_isDrawer rfl (Nat.le_of_ble_eq_true rfl) dX11_alike_1 (fun r1 H => ?_) ⟨Nat.zero_le _, Nat.zero_le _⟩
  refine w_if_eq K 23 dX11_alike_4 (by decide) H (fun _ H => ?_) (fun _ H => ?_)
  · exact r_sub [] rfl (t_X11_alike_23 K hl H D)
  · refine r_iload_n K 2 dX11_alike_7 rfl rfl ?_
    refine w_callS K hl H (fun r h => c_X11_isDrawer l h) mC_yX11_isDrawer mM_RX11_252 mT_yX11_isDrawer mZ_RX11 (Nat.le_of_ble_eq_true rfl) (Nat.le_of_ble_eq_true rfl) np_yX11_isDrawer rfl (Nat.le_of_ble_eq_true rfl) dX11_alike_8 (fun r2 H => ?_) ⟨Nat.zero_le _, Nat.zero_le _⟩
    refine w_if_eq K 23 dX11_alike_11 (by decide) H (fun _ H => ?_) (fun _ H => ?_)
    · exact r_sub [] rfl (t_X11_alike_23 K hl H D)
    · refine r_iload_n K 3 dX11_alike_14 rfl rfl ?_
      refine r_iconst (v := 0) K dX11_alike_15 (by decide) ?_
      refine r_iconst (v := 2) K dX11_alike_16 (by decide) ?_
      refine w_callS K hl H (fun r h => c_X11_within l h) mC_yX11_within mM_RX11_133 mT_yX11_within mZ_RX11 (Nat.le_of_ble_eq_true rfl) (Nat.le_of_ble_eq_true rfl) np_yX11_within rfl (Nat.le_of_ble_eq_true rfl) dX11_alike_17 (fun r3 H => ?_) ⟨Nat.zero_le _, Nat.zero_le _⟩
      refine w_if_ne K 25 dX11_alike_20 (by decide) H (fun _ H => ?_) (fun _ H => ?_)
      · refine r_aload_n K 0 dX11_alike_25 rfl rfl ?_
        refine w_getO K vc11 inX11 3 (by decide) mF_RX11_35 dX11_alike_26 H (fun x4 H => ?_)
        refine w_getO K vc3 inX3 1 (by decide) mF_RX11_255 dX11_alike_29 H (fun x5 H => ?_)
        refine r_iload_n K 1 dX11_alike_32 rfl rfl ?_
        refine w_aald K 24 rfl rfl dX11_alike_33 H (fun x6 H => ?_)
        refine r_astore K [(4, .ref _), (0, .ref _), (1, .int _), (2, .int _), (3, .int _)] dX11_alike_34 (by decide) rfl ?_
        refine r_aload_n K 1 dX11_alike_36 rfl rfl ?_
        refine w_getO K vc11 inX11 3 (by decide) mF_RX11_35 dX11_alike_37 H (fun x7 H => ?_)
        refine w_getO K vc3 inX3 1 (by decide) mF_RX11_255 dX11_alike_40 H (fun x8 H => ?_)
        refine r_iload_n K 3 dX11_alike_43 rfl rfl ?_
        refine w_aald K 24 rfl rfl dX11_alike_44 H (fun x9 H => ?_)
        refine r_astore K [(5, .ref _), (4, .ref _), (0, .ref _), (1, .int _), (2, .int _), (3, .int _)] dX11_alike_45 (by decide) rfl ?_
        refine r_aload K 1 dX11_alike_47 rfl ?_
        refine w_getI K vc10 inX10 0 (by decide) mF_RX11_263 dX11_alike_49 H (fun x10 H => ?_)
        refine w_if_eq K 63 dX11_alike_52 (by decide) H (fun _ H => ?_) (fun _ H => ?_)
        · exact r_sub [] rfl (t_X11_alike_63 K hl H D)
        · refine r_aload K 0 dX11_alike_55 rfl ?_
          refine w_getI K vc10 inX10 0 (by decide) mF_RX11_263 dX11_alike_57 H (fun x11 H => ?_)
          refine w_if_ne K 66 dX11_alike_60 (by decide) H (fun _ H => ?_) (fun _ H => ?_)
          · refine r_iload_n K 5 dX11_alike_66 rfl rfl ?_
            refine r_iconst (v := 2) K dX11_alike_67 (by decide) ?_
            refine w_icmp_ne K 81 dX11_alike_68 (by decide) H (fun _ H => ?_) (fun _ H => ?_)
            · refine r_iload_n K 5 dX11_alike_81 rfl rfl ?_
              refine w_if_ne K 95 dX11_alike_82 (by decide) H (fun _ H => ?_) (fun _ H => ?_)
              · refine r_aload K 1 dX11_alike_95 rfl ?_
                refine r_aload K 0 dX11_alike_97 rfl ?_
                refine w_callV K hl H (fun r h => c_X10_isTurnOf l h) mC_yX10_isTurnOf mM_RX11_327 mI_yX10_isTurnOf mS_yX10_isTurnOf mZ_RX10 vc10 (Nat.le_of_ble_eq_true rfl) (Nat.le_of_ble_eq_true rfl) np_yX10_isTurnOf rfl (Nat.le_of_ble_eq_true rfl) dX11_alike_99 (fun r12 H => ?_) ⟨Nat.zero_le _, Nat.zero_le _⟩
                exact r_sub [] rfl (t_X11_alike_102 K hl H D)
              · refine r_aload K 1 dX11_alike_85 rfl ?_
                refine r_aload K 0 dX11_alike_87 rfl ?_
                refine w_callV K hl H (fun r h => c_X10_soundsLike l h) mC_yX10_soundsLike mM_RX11_323 mI_yX10_soundsLike mS_yX10_soundsLike mZ_RX10 vc10 (Nat.le_of_ble_eq_true rfl) (Nat.le_of_ble_eq_true rfl) np_yX10_soundsLike rfl (Nat.le_of_ble_eq_true rfl) dX11_alike_89 (fun r13 H => ?_) ⟨Nat.zero_le _, Nat.zero_le _⟩
                refine r_goto K 102 dX11_alike_92 (by decide) ?_
                exact r_sub [] rfl (t_X11_alike_102 K hl H D)
            · refine r_aload K 1 dX11_alike_71 rfl ?_
              refine r_aload K 0 dX11_alike_73 rfl ?_
              refine r_bipush (v := 50) K dX11_alike_75 (by decide) ?_
              refine w_callV K hl H (fun r h => c_X10_sharedRoots l h) mC_yX10_sharedRoots mM_RX11_319 mI_yX10_sharedRoots mS_yX10_sharedRoots mZ_RX10 vc10 (Nat.le_of_ble_eq_true rfl) (Nat.le_of_ble_eq_true rfl) np_yX10_sharedRoots rfl (Nat.le_of_ble_eq_true rfl) dX11_alike_77 (fun r14 H => ?_) ⟨Nat.zero_le _, Nat.zero_le _⟩
              cases H
              obtain ⟨rfl, rfl⟩ := jfin2 D
              exact r_iret K dX11_alike_80
          · exact r_sub [] rfl (t_X11_alike_63 K hl H D)
      · exact r_sub [] rfl (t_X11_alike_23 K hl H D)
theorem c_X11_alike (l : Launch) {n : Nat} {Y : jY} {v0 : Nat} {v1 : Int32} {v2 : Int32} {v3 : Int32} {μ : jM} {z : Int32 × jM} (H : f_X11_alike Y v0 v1 v2 v3 μ = some z) : jC l yX11_alike cX11_alike 7 (some .int) 6 0 0 [.ref v0, .int v1, .int v2, .int v3] n Y μ n Y (some (.int z.1)) z.2 := by
  refine jC_of (by decide +kernel) (Nat.le_of_ble_eq_true rfl) (fun X hl K _ _ _ => ?_)
  obtain ⟨rr, μr⟩ := z
  exact t_X11_alike_0 K hl H rfl
/-! RX11 inverse(IIII)J -/
def b_X11_inverse_34 (Y : jY) (μ : jM) : Option (Int64 × jM) :=
  some ((-9223372036854775808 : Int64), μ)
def b_X11_inverse_74 (Y : jY) (t0 : Int64) (μ : jM) : Option (Int64 × jM) :=
  some (t0, μ)
def f_X11_inverse (Y : jY) (v0 : Nat) (v1 : Int32) (v2 : Int32) (v3 : Int32) (v4 : Int32) (μ : jM) : Option (Int64 × jM) :=
  (jrcv Y v0 11 (f_X11_isFilled Y v0 v1 μ)).bind fun r1 =>
  if r1.1 = 0 then
    b_X11_inverse_34 Y r1.2
  else
    (jrcv Y v0 11 (f_X11_isRow Y v0 v1 v2 r1.2)).bind fun r2 =>
    if r2.1 = 0 then
      b_X11_inverse_34 Y r2.2
    else
      (jrcv Y v0 11 (f_X11_isRow Y v0 v1 v3 r2.2)).bind fun r3 =>
      if r3.1 = 0 then
        b_X11_inverse_34 Y r3.2
      else
        (f_X11_isPart Y v4 r3.2).bind fun r4 =>
        if r4.1 = 0 then
          b_X11_inverse_34 Y r4.2
        else
          (jgO Y r4.2 v0 11 3).bind fun x5 =>
          (jgO Y r4.2 x5 3 1).bind fun x6 =>
          (jaO Y r4.2 x6 24 v1).bind fun x7 =>
          (jgO Y r4.2 v0 11 12).bind fun x8 =>
          (jrcv Y x7 10 (f_X10_invert Y x7 v2 v3 x8 r4.2)).bind fun r9 =>
          if r9.1 = 0 then
            b_X11_inverse_74 Y (-2 : Int64) r9.2
          else
            (jgO Y r9.2 v0 11 12).bind fun x10 =>
            (jrcv Y x10 1 (f_X1_part Y x10 v4 r9.2)).bind fun r11 =>
            b_X11_inverse_74 Y r11.1 r11.2
set_option maxRecDepth 10000 in
theorem t_X11_inverse_34 {X : jX} {l : Launch} {n : Nat} {Y : jY} (K : jOK X RX11 cX11_inverse 5 (some .long) 5) (hl : X.2.1 = l) {rr : Int64} {μr : jM} {μ : jM} {z : (Int64 × jM)} (H : b_X11_inverse_34 Y μ = some z) (D : z = (rr, μr)) : JW X (jEnd X n Y (some (.long rr)) μr 0 0) 0 0 n Y 34 [] [] μ := by
  unfold b_X11_inverse_34 at H
  refine r_ldc2 K (-9223372036854775808) mc_RX11_151 dX11_inverse_34 ?_
  cases H
  obtain ⟨rfl, rfl⟩ := jfin2 D
  exact r_lret K dX11_inverse_37
set_option maxRecDepth 10000 in
theorem t_X11_inverse_74 {X : jX} {l : Launch} {n : Nat} {Y : jY} (K : jOK X RX11 cX11_inverse 5 (some .long) 5) (hl : X.2.1 = l) {rr : Int64} {μr : jM} {t0 : Int64} {μ : jM} {z : (Int64 × jM)} (H : b_X11_inverse_74 Y t0 μ = some z) (D : z = (rr, μr)) : JW X (jEnd X n Y (some (.long rr)) μr 0 0) 0 0 n Y 74 [] [.long t0] μ := by
  unfold b_X11_inverse_74 at H
  cases H
  obtain ⟨rfl, rfl⟩ := jfin2 D
  exact r_lret K dX11_inverse_74
set_option maxRecDepth 10000 in
theorem t_X11_inverse_0 {X : jX} {l : Launch} {n : Nat} {Y : jY} (K : jOK X RX11 cX11_inverse 5 (some .long) 5) (hl : X.2.1 = l) {rr : Int64} {μr : jM} {v0 : Nat} {v1 : Int32} {v2 : Int32} {v3 : Int32} {v4 : Int32} {μ : jM} {z : (Int64 × jM)} (H : f_X11_inverse Y v0 v1 v2 v3 v4 μ = some z) (D : z = (rr, μr)) : JW X (jEnd X n Y (some (.long rr)) μr 0 0) 0 0 n Y 0 [(0, .ref v0), (1, .int v1), (2, .int v2), (3, .int v3), (4, .int v4)] [] μ := by
  unfold f_X11_inverse at H
  refine r_aload_n K 0 dX11_inverse_0 rfl rfl ?_
  refine r_iload_n K 1 dX11_inverse_1 rfl rfl ?_
  refine w_callV K hl H (fun r h => c_X11_isFilled l h) mC_yX11_isFilled mM_RX11_285 mI_yX11_isFilled mS_yX11_isFilled mZ_RX11 vc11 (Nat.le_of_ble_eq_true rfl) (Nat.le_of_ble_eq_true rfl) np_yX11_isFilled rfl (Nat.le_of_ble_eq_true rfl) dX11_inverse_2 (fun r1 H => ?_) ⟨Nat.zero_le _, Nat.zero_le _⟩
  refine w_if_eq K 34 dX11_inverse_5 (by decide) H (fun _ H => ?_) (fun _ H => ?_)
  · exact r_sub [] rfl (t_X11_inverse_34 K hl H D)
  · refine r_aload_n K 0 dX11_inverse_8 rfl rfl ?_
    refine r_iload_n K 1 dX11_inverse_9 rfl rfl ?_
    refine r_iload_n K 2 dX11_inverse_10 rfl rfl ?_
    refine w_callV K hl H (fun r h => c_X11_isRow l h) mC_yX11_isRow mM_RX11_312 mI_yX11_isRow mS_yX11_isRow mZ_RX11 vc11 (Nat.le_of_ble_eq_true rfl) (Nat.le_of_ble_eq_true rfl) np_yX11_isRow rfl (Nat.le_of_ble_eq_true rfl) dX11_inverse_11 (fun r2 H => ?_) ⟨Nat.zero_le _, Nat.zero_le _⟩
    refine w_if_eq K 34 dX11_inverse_14 (by decide) H (fun _ H => ?_) (fun _ H => ?_)
    · exact r_sub [] rfl (t_X11_inverse_34 K hl H D)
    · refine r_aload_n K 0 dX11_inverse_17 rfl rfl ?_
      refine r_iload_n K 1 dX11_inverse_18 rfl rfl ?_
      refine r_iload_n K 3 dX11_inverse_19 rfl rfl ?_
      refine w_callV K hl H (fun r h => c_X11_isRow l h) mC_yX11_isRow mM_RX11_312 mI_yX11_isRow mS_yX11_isRow mZ_RX11 vc11 (Nat.le_of_ble_eq_true rfl) (Nat.le_of_ble_eq_true rfl) np_yX11_isRow rfl (Nat.le_of_ble_eq_true rfl) dX11_inverse_20 (fun r3 H => ?_) ⟨Nat.zero_le _, Nat.zero_le _⟩
      refine w_if_eq K 34 dX11_inverse_23 (by decide) H (fun _ H => ?_) (fun _ H => ?_)
      · exact r_sub [] rfl (t_X11_inverse_34 K hl H D)
      · refine r_iload K 4 dX11_inverse_26 rfl ?_
        refine w_callS K hl H (fun r h => c_X11_isPart l h) mC_yX11_isPart mM_RX11_170 mT_yX11_isPart mZ_RX11 (Nat.le_of_ble_eq_true rfl) (Nat.le_of_ble_eq_true rfl) np_yX11_isPart rfl (Nat.le_of_ble_eq_true rfl) dX11_inverse_28 (fun r4 H => ?_) ⟨Nat.zero_le _, Nat.zero_le _⟩
        refine w_if_ne K 38 dX11_inverse_31 (by decide) H (fun _ H => ?_) (fun _ H => ?_)
        · refine r_aload_n K 0 dX11_inverse_38 rfl rfl ?_
          refine w_getO K vc11 inX11 3 (by decide) mF_RX11_35 dX11_inverse_39 H (fun x5 H => ?_)
          refine w_getO K vc3 inX3 1 (by decide) mF_RX11_255 dX11_inverse_42 H (fun x6 H => ?_)
          refine r_iload_n K 1 dX11_inverse_45 rfl rfl ?_
          refine w_aald K 24 rfl rfl dX11_inverse_46 H (fun x7 H => ?_)
          refine r_iload_n K 2 dX11_inverse_47 rfl rfl ?_
          refine r_iload_n K 3 dX11_inverse_48 rfl rfl ?_
          refine r_aload_n K 0 dX11_inverse_49 rfl rfl ?_
          refine w_getO K vc11 inX11 12 (by decide) mF_RX11_94 dX11_inverse_50 H (fun x8 H => ?_)
          refine w_callV K hl H (fun r h => c_X10_invert l h) mC_yX10_invert mM_RX11_316 mI_yX10_invert mS_yX10_invert mZ_RX10 vc10 (Nat.le_of_ble_eq_true rfl) (Nat.le_of_ble_eq_true rfl) np_yX10_invert rfl (Nat.le_of_ble_eq_true rfl) dX11_inverse_53 (fun r9 H => ?_) ⟨Nat.zero_le _, Nat.zero_le _⟩
          refine w_if_eq K 71 dX11_inverse_56 (by decide) H (fun _ H => ?_) (fun _ H => ?_)
          · refine r_ldc2 K (-2) mc_RX11_201 dX11_inverse_71 ?_
            exact r_sub [] rfl (t_X11_inverse_74 K hl H D)
          · refine r_aload_n K 0 dX11_inverse_59 rfl rfl ?_
            refine w_getO K vc11 inX11 12 (by decide) mF_RX11_94 dX11_inverse_60 H (fun x10 H => ?_)
            refine r_iload K 4 dX11_inverse_63 rfl ?_
            refine w_callV K hl H (fun r h => c_X1_part l h) mC_yX1_part mM_RX11_177 mI_yX1_part mS_yX1_part mZ_RX1 vc1 (Nat.le_of_ble_eq_true rfl) (Nat.le_of_ble_eq_true rfl) np_yX1_part rfl (Nat.le_of_ble_eq_true rfl) dX11_inverse_65 (fun r11 H => ?_) ⟨Nat.zero_le _, Nat.zero_le _⟩
            refine r_goto K 74 dX11_inverse_68 (by decide) ?_
            exact r_sub [] rfl (t_X11_inverse_74 K hl H D)
        · exact r_sub [] rfl (t_X11_inverse_34 K hl H D)
theorem c_X11_inverse (l : Launch) {n : Nat} {Y : jY} {v0 : Nat} {v1 : Int32} {v2 : Int32} {v3 : Int32} {v4 : Int32} {μ : jM} {z : Int64 × jM} (H : f_X11_inverse Y v0 v1 v2 v3 v4 μ = some z) : jC l yX11_inverse cX11_inverse 5 (some .long) 5 0 0 [.ref v0, .int v1, .int v2, .int v3, .int v4] n Y μ n Y (some (.long z.1)) z.2 := by
  refine jC_of (by decide +kernel) (Nat.le_of_ble_eq_true rfl) (fun X hl K _ _ _ => ?_)
  obtain ⟨rr, μr⟩ := z
  exact t_X11_inverse_0 K hl H rfl
/-! RX11 mirror()I -/
def f_X11_mirror (Y : jY) (v0 : Nat) (μ : jM) : Option (Int32 × jM) :=
  (jrcv Y v0 11 (f_X11_hasTones Y v0 μ)).bind fun r1 =>
  if r1.1 = 0 then
    some ((-1 : Int32), r1.2)
  else
    (jgO Y r1.2 v0 11 3).bind fun x2 =>
    (jgO Y r1.2 x2 3 0).bind fun x3 =>
    (jrcv Y x3 9 (f_X9_turnAbout Y x3 r1.2)).bind fun μ4 =>
    (jgO Y μ4 v0 11 3).bind fun x5 =>
    (jgO Y μ4 x5 3 0).bind fun x6 =>
    (jgI Y μ4 x6 9 0).bind fun x7 =>
    some (x7, μ4)
set_option maxRecDepth 10000 in
theorem t_X11_mirror_0 {X : jX} {l : Launch} {n : Nat} {Y : jY} (K : jOK X RX11 cX11_mirror 1 (some .int) 3) (hl : X.2.1 = l) {rr : Int32} {μr : jM} {v0 : Nat} {μ : jM} {z : (Int32 × jM)} (H : f_X11_mirror Y v0 μ = some z) (D : z = (rr, μr)) : JW X (jEnd X n Y (some (.int rr)) μr 0 0) 0 0 n Y 0 [(0, .ref v0)] [] μ := by
  unfold f_X11_mirror at H
  refine r_aload_n K 0 dX11_mirror_0 rfl rfl ?_
  refine w_callV K hl H (fun r h => c_X11_hasTones l h) mC_yX11_hasTones mM_RX11_147 mI_yX11_hasTones mS_yX11_hasTones mZ_RX11 vc11 (Nat.le_of_ble_eq_true rfl) (Nat.le_of_ble_eq_true rfl) np_yX11_hasTones rfl (Nat.le_of_ble_eq_true rfl) dX11_mirror_1 (fun r1 H => ?_) ⟨Nat.zero_le _, Nat.zero_le _⟩
  refine w_if_ne K 9 dX11_mirror_4 (by decide) H (fun _ H => ?_) (fun _ H => ?_)
  · refine r_aload_n K 0 dX11_mirror_9 rfl rfl ?_
    refine w_getO K vc11 inX11 3 (by decide) mF_RX11_35 dX11_mirror_10 H (fun x2 H => ?_)
    refine w_getO K vc3 inX3 0 (by decide) mF_RX11_119 dX11_mirror_13 H (fun x3 H => ?_)
    refine w_callV K hl H (fun r h => c_X9_turnAbout l h) mC_yX9_turnAbout mM_RX11_240 mI_yX9_turnAbout mS_yX9_turnAbout mZ_RX9 vc9 (Nat.le_of_ble_eq_true rfl) (Nat.le_of_ble_eq_true rfl) np_yX9_turnAbout rfl (Nat.le_of_ble_eq_true rfl) dX11_mirror_16 (fun μ4 H => ?_) ⟨Nat.zero_le _, Nat.zero_le _⟩
    refine r_aload_n K 0 dX11_mirror_19 rfl rfl ?_
    refine w_getO K vc11 inX11 3 (by decide) mF_RX11_35 dX11_mirror_20 H (fun x5 H => ?_)
    refine w_getO K vc3 inX3 0 (by decide) mF_RX11_119 dX11_mirror_23 H (fun x6 H => ?_)
    refine w_getI K vc9 inX9 0 (by decide) mF_RX11_126 dX11_mirror_26 H (fun x7 H => ?_)
    cases H
    obtain ⟨rfl, rfl⟩ := jfin2 D
    exact r_iret K dX11_mirror_29
  · refine r_iconst (v := -1) K dX11_mirror_7 (by decide) ?_
    cases H
    obtain ⟨rfl, rfl⟩ := jfin2 D
    exact r_iret K dX11_mirror_8
theorem c_X11_mirror (l : Launch) {n : Nat} {Y : jY} {v0 : Nat} {μ : jM} {z : Int32 × jM} (H : f_X11_mirror Y v0 μ = some z) : jC l yX11_mirror cX11_mirror 1 (some .int) 3 0 0 [.ref v0] n Y μ n Y (some (.int z.1)) z.2 := by
  refine jC_of (by decide +kernel) (Nat.le_of_ble_eq_true rfl) (fun X hl K _ _ _ => ?_)
  obtain ⟨rr, μr⟩ := z
  exact t_X11_mirror_0 K hl H rfl
/-! RX11 takeSpareTones()I -/
def f_X11_takeSpareTones (Y : jY) (v0 : Nat) (μ : jM) : Option (Int32 × jM) :=
  (jgO Y μ v0 11 11).bind fun x1 =>
  (jrcv Y x1 9 (f_X9_areRight Y x1 μ)).bind fun r2 =>
  if r2.1 = 0 then
    some ((-3 : Int32), r2.2)
  else
    (jgO Y r2.2 v0 11 3).bind fun x3 =>
    (jgO Y r2.2 x3 3 0).bind fun x4 =>
    (jgO Y r2.2 v0 11 11).bind fun x5 =>
    (jrcv Y x4 9 (f_X9_copy Y x4 x5 r2.2)).bind fun μ6 =>
    (jgO Y μ6 v0 11 3).bind fun x7 =>
    (jgO Y μ6 x7 3 0).bind fun x8 =>
    (jgI Y μ6 x8 9 0).bind fun x9 =>
    some (x9, μ6)
set_option maxRecDepth 10000 in
theorem t_X11_takeSpareTones_0 {X : jX} {l : Launch} {n : Nat} {Y : jY} (K : jOK X RX11 cX11_takeSpareTones 1 (some .int) 3) (hl : X.2.1 = l) {rr : Int32} {μr : jM} {v0 : Nat} {μ : jM} {z : (Int32 × jM)} (H : f_X11_takeSpareTones Y v0 μ = some z) (D : z = (rr, μr)) : JW X (jEnd X n Y (some (.int rr)) μr 0 0) 0 0 n Y 0 [(0, .ref v0)] [] μ := by
  unfold f_X11_takeSpareTones at H
  refine r_aload_n K 0 dX11_takeSpareTones_0 rfl rfl ?_
  refine w_getO K vc11 inX11 11 (by decide) mF_RX11_87 dX11_takeSpareTones_1 H (fun x1 H => ?_)
  refine w_callV K hl H (fun r h => c_X9_areRight l h) mC_yX9_areRight mM_RX11_385 mI_yX9_areRight mS_yX9_areRight mZ_RX9 vc9 (Nat.le_of_ble_eq_true rfl) (Nat.le_of_ble_eq_true rfl) np_yX9_areRight rfl (Nat.le_of_ble_eq_true rfl) dX11_takeSpareTones_4 (fun r2 H => ?_) ⟨Nat.zero_le _, Nat.zero_le _⟩
  refine w_if_ne K 13 dX11_takeSpareTones_7 (by decide) H (fun _ H => ?_) (fun _ H => ?_)
  · refine r_aload_n K 0 dX11_takeSpareTones_13 rfl rfl ?_
    refine w_getO K vc11 inX11 3 (by decide) mF_RX11_35 dX11_takeSpareTones_14 H (fun x3 H => ?_)
    refine w_getO K vc3 inX3 0 (by decide) mF_RX11_119 dX11_takeSpareTones_17 H (fun x4 H => ?_)
    refine r_aload_n K 0 dX11_takeSpareTones_20 rfl rfl ?_
    refine w_getO K vc11 inX11 11 (by decide) mF_RX11_87 dX11_takeSpareTones_21 H (fun x5 H => ?_)
    refine w_callV K hl H (fun r h => c_X9_copy l h) mC_yX9_copy mM_RX11_243 mI_yX9_copy mS_yX9_copy mZ_RX9 vc9 (Nat.le_of_ble_eq_true rfl) (Nat.le_of_ble_eq_true rfl) np_yX9_copy rfl (Nat.le_of_ble_eq_true rfl) dX11_takeSpareTones_24 (fun μ6 H => ?_) ⟨Nat.zero_le _, Nat.zero_le _⟩
    refine r_aload_n K 0 dX11_takeSpareTones_27 rfl rfl ?_
    refine w_getO K vc11 inX11 3 (by decide) mF_RX11_35 dX11_takeSpareTones_28 H (fun x7 H => ?_)
    refine w_getO K vc3 inX3 0 (by decide) mF_RX11_119 dX11_takeSpareTones_31 H (fun x8 H => ?_)
    refine w_getI K vc9 inX9 0 (by decide) mF_RX11_126 dX11_takeSpareTones_34 H (fun x9 H => ?_)
    cases H
    obtain ⟨rfl, rfl⟩ := jfin2 D
    exact r_iret K dX11_takeSpareTones_37
  · refine r_bipush (v := -3) K dX11_takeSpareTones_10 (by decide) ?_
    cases H
    obtain ⟨rfl, rfl⟩ := jfin2 D
    exact r_iret K dX11_takeSpareTones_12
theorem c_X11_takeSpareTones (l : Launch) {n : Nat} {Y : jY} {v0 : Nat} {μ : jM} {z : Int32 × jM} (H : f_X11_takeSpareTones Y v0 μ = some z) : jC l yX11_takeSpareTones cX11_takeSpareTones 1 (some .int) 3 0 0 [.ref v0] n Y μ n Y (some (.int z.1)) z.2 := by
  refine jC_of (by decide +kernel) (Nat.le_of_ble_eq_true rfl) (fun X hl K _ _ _ => ?_)
  obtain ⟨rr, μr⟩ := z
  exact t_X11_takeSpareTones_0 K hl H rfl
/-! RX11 feed(IIIII)I -/
def f_X11_feed (Y : jY) (v0 : Nat) (v1 : Int32) (v2 : Int32) (v3 : Int32) (v4 : Int32) (v5 : Int32) (μ : jM) : Option (Int32 × jM) :=
  (jgO Y μ v0 11 0).bind fun x1 =>
  (jrcv Y x1 5 (f_X5_hasRoomForInts Y x1 ((5 : Int32)) μ)).bind fun r2 =>
  if r2.1 = 0 then
    some ((-1 : Int32), r2.2)
  else
    (jgO Y r2.2 v0 11 0).bind fun x3 =>
    (jrcv Y x3 5 (f_X5_add Y x3 v1 r2.2)).bind fun μ4 =>
    (jgO Y μ4 v0 11 0).bind fun x5 =>
    (jrcv Y x5 5 (f_X5_add Y x5 v2 μ4)).bind fun μ6 =>
    (jgO Y μ6 v0 11 0).bind fun x7 =>
    (jrcv Y x7 5 (f_X5_add Y x7 v3 μ6)).bind fun μ8 =>
    (jgO Y μ8 v0 11 0).bind fun x9 =>
    (jrcv Y x9 5 (f_X5_add Y x9 v4 μ8)).bind fun μ10 =>
    (jgO Y μ10 v0 11 0).bind fun x11 =>
    (jrcv Y x11 5 (f_X5_add Y x11 v5 μ10)).bind fun μ12 =>
    (jgO Y μ12 v0 11 0).bind fun x13 =>
    (jgI Y μ12 x13 5 1).bind fun x14 =>
    some (x14, μ12)
set_option maxRecDepth 10000 in
theorem t_X11_feed_0 {X : jX} {l : Launch} {n : Nat} {Y : jY} (K : jOK X RX11 cX11_feed 6 (some .int) 2) (hl : X.2.1 = l) {rr : Int32} {μr : jM} {v0 : Nat} {v1 : Int32} {v2 : Int32} {v3 : Int32} {v4 : Int32} {v5 : Int32} {μ : jM} {z : (Int32 × jM)} (H : f_X11_feed Y v0 v1 v2 v3 v4 v5 μ = some z) (D : z = (rr, μr)) : JW X (jEnd X n Y (some (.int rr)) μr 0 0) 0 0 n Y 0 [(0, .ref v0), (1, .int v1), (2, .int v2), (3, .int v3), (4, .int v4), (5, .int v5)] [] μ := by
  unfold f_X11_feed at H
  refine r_aload_n K 0 dX11_feed_0 rfl rfl ?_
  refine w_getO K vc11 inX11 0 (by decide) mF_RX11_12 dX11_feed_1 H (fun x1 H => ?_)
  refine r_iconst (v := 5) K dX11_feed_4 (by decide) ?_
  refine w_callV K hl H (fun r h => c_X5_hasRoomForInts l h) mC_yX5_hasRoomForInts mM_RX11_98 mI_yX5_hasRoomForInts mS_yX5_hasRoomForInts mZ_RX5 vc5 (Nat.le_of_ble_eq_true rfl) (Nat.le_of_ble_eq_true rfl) np_yX5_hasRoomForInts rfl (Nat.le_of_ble_eq_true rfl) dX11_feed_5 (fun r2 H => ?_) ⟨Nat.zero_le _, Nat.zero_le _⟩
  refine w_if_ne K 13 dX11_feed_8 (by decide) H (fun _ H => ?_) (fun _ H => ?_)
  · refine r_aload_n K 0 dX11_feed_13 rfl rfl ?_
    refine w_getO K vc11 inX11 0 (by decide) mF_RX11_12 dX11_feed_14 H (fun x3 H => ?_)
    refine r_iload_n K 1 dX11_feed_17 rfl rfl ?_
    refine w_callV K hl H (fun r h => c_X5_add l h) mC_yX5_add mM_RX11_102 mI_yX5_add mS_yX5_add mZ_RX5 vc5 (Nat.le_of_ble_eq_true rfl) (Nat.le_of_ble_eq_true rfl) np_yX5_add rfl (Nat.le_of_ble_eq_true rfl) dX11_feed_18 (fun μ4 H => ?_) ⟨Nat.zero_le _, Nat.zero_le _⟩
    refine r_aload_n K 0 dX11_feed_21 rfl rfl ?_
    refine w_getO K vc11 inX11 0 (by decide) mF_RX11_12 dX11_feed_22 H (fun x5 H => ?_)
    refine r_iload_n K 2 dX11_feed_25 rfl rfl ?_
    refine w_callV K hl H (fun r h => c_X5_add l h) mC_yX5_add mM_RX11_102 mI_yX5_add mS_yX5_add mZ_RX5 vc5 (Nat.le_of_ble_eq_true rfl) (Nat.le_of_ble_eq_true rfl) np_yX5_add rfl (Nat.le_of_ble_eq_true rfl) dX11_feed_26 (fun μ6 H => ?_) ⟨Nat.zero_le _, Nat.zero_le _⟩
    refine r_aload_n K 0 dX11_feed_29 rfl rfl ?_
    refine w_getO K vc11 inX11 0 (by decide) mF_RX11_12 dX11_feed_30 H (fun x7 H => ?_)
    refine r_iload_n K 3 dX11_feed_33 rfl rfl ?_
    refine w_callV K hl H (fun r h => c_X5_add l h) mC_yX5_add mM_RX11_102 mI_yX5_add mS_yX5_add mZ_RX5 vc5 (Nat.le_of_ble_eq_true rfl) (Nat.le_of_ble_eq_true rfl) np_yX5_add rfl (Nat.le_of_ble_eq_true rfl) dX11_feed_34 (fun μ8 H => ?_) ⟨Nat.zero_le _, Nat.zero_le _⟩
    refine r_aload_n K 0 dX11_feed_37 rfl rfl ?_
    refine w_getO K vc11 inX11 0 (by decide) mF_RX11_12 dX11_feed_38 H (fun x9 H => ?_)
    refine r_iload K 4 dX11_feed_41 rfl ?_
    refine w_callV K hl H (fun r h => c_X5_add l h) mC_yX5_add mM_RX11_102 mI_yX5_add mS_yX5_add mZ_RX5 vc5 (Nat.le_of_ble_eq_true rfl) (Nat.le_of_ble_eq_true rfl) np_yX5_add rfl (Nat.le_of_ble_eq_true rfl) dX11_feed_43 (fun μ10 H => ?_) ⟨Nat.zero_le _, Nat.zero_le _⟩
    refine r_aload_n K 0 dX11_feed_46 rfl rfl ?_
    refine w_getO K vc11 inX11 0 (by decide) mF_RX11_12 dX11_feed_47 H (fun x11 H => ?_)
    refine r_iload K 5 dX11_feed_50 rfl ?_
    refine w_callV K hl H (fun r h => c_X5_add l h) mC_yX5_add mM_RX11_102 mI_yX5_add mS_yX5_add mZ_RX5 vc5 (Nat.le_of_ble_eq_true rfl) (Nat.le_of_ble_eq_true rfl) np_yX5_add rfl (Nat.le_of_ble_eq_true rfl) dX11_feed_52 (fun μ12 H => ?_) ⟨Nat.zero_le _, Nat.zero_le _⟩
    refine r_aload_n K 0 dX11_feed_55 rfl rfl ?_
    refine w_getO K vc11 inX11 0 (by decide) mF_RX11_12 dX11_feed_56 H (fun x13 H => ?_)
    refine w_getI K vc5 inX5 1 (by decide) mF_RX11_106 dX11_feed_59 H (fun x14 H => ?_)
    cases H
    obtain ⟨rfl, rfl⟩ := jfin2 D
    exact r_iret K dX11_feed_62
  · refine r_iconst (v := -1) K dX11_feed_11 (by decide) ?_
    cases H
    obtain ⟨rfl, rfl⟩ := jfin2 D
    exact r_iret K dX11_feed_12
theorem c_X11_feed (l : Launch) {n : Nat} {Y : jY} {v0 : Nat} {v1 : Int32} {v2 : Int32} {v3 : Int32} {v4 : Int32} {v5 : Int32} {μ : jM} {z : Int32 × jM} (H : f_X11_feed Y v0 v1 v2 v3 v4 v5 μ = some z) : jC l yX11_feed cX11_feed 6 (some .int) 2 0 0 [.ref v0, .int v1, .int v2, .int v3, .int v4, .int v5] n Y μ n Y (some (.int z.1)) z.2 := by
  refine jC_of (by decide +kernel) (Nat.le_of_ble_eq_true rfl) (fun X hl K _ _ _ => ?_)
  obtain ⟨rr, μr⟩ := z
  exact t_X11_feed_0 K hl H rfl
/-! RX11 fraction(III)J -/
def b_X11_fraction_43 (Y : jY) (μ : jM) : Option (Int64 × jM) :=
  some ((-9223372036854775808 : Int64), μ)
def b_X11_fraction_91 (Y : jY) (t0 : Int64) (μ : jM) : Option (Int64 × jM) :=
  some (t0, μ)
def f_X11_fraction (Y : jY) (v0 : Nat) (v1 : Int32) (v2 : Int32) (v3 : Int32) (μ : jM) : Option (Int64 × jM) :=
  (jrcv Y v0 11 (f_X11_hasTones Y v0 μ)).bind fun r1 =>
  if r1.1 = 0 then
    b_X11_fraction_43 Y r1.2
  else
    (jgO Y r1.2 v0 11 3).bind fun x2 =>
    (jgO Y r1.2 x2 3 0).bind fun x3 =>
    (jgI Y r1.2 x3 9 0).bind fun x4 =>
    (f_X11_within Y v1 ((1 : Int32)) x4 r1.2).bind fun r5 =>
    if r5.1 = 0 then
      b_X11_fraction_43 Y r5.2
    else
      (f_X11_within Y v2 ((-20 : Int32)) ((20 : Int32)) r5.2).bind fun r6 =>
      if r6.1 = 0 then
        b_X11_fraction_43 Y r6.2
      else
        (f_X11_isPart Y v3 r6.2).bind fun r7 =>
        if r7.1 = 0 then
          b_X11_fraction_43 Y r7.2
        else
          (jgO Y r7.2 v0 11 7).bind fun x8 =>
          (jgO Y r7.2 v0 11 3).bind fun x9 =>
          (jgO Y r7.2 x9 3 0).bind fun x10 =>
          (jrcv Y x8 8 (f_X8_rebuild Y x8 x10 r7.2)).bind fun μ11 =>
          (jgO Y μ11 v0 11 7).bind fun x12 =>
          (jgO Y μ11 v0 11 12).bind fun x13 =>
          (jrcv Y x12 8 (f_X8_cutShort Y x12 v1 v2 x13 μ11)).bind fun r14 =>
          if r14.1 = 0 then
            b_X11_fraction_91 Y (-2 : Int64) r14.2
          else
            (jgO Y r14.2 v0 11 12).bind fun x15 =>
            (jrcv Y x15 1 (f_X1_part Y x15 v3 r14.2)).bind fun r16 =>
            b_X11_fraction_91 Y r16.1 r16.2
set_option maxRecDepth 10000 in
theorem t_X11_fraction_43 {X : jX} {l : Launch} {n : Nat} {Y : jY} (K : jOK X RX11 cX11_fraction 4 (some .long) 7) (hl : X.2.1 = l) {rr : Int64} {μr : jM} {μ : jM} {z : (Int64 × jM)} (H : b_X11_fraction_43 Y μ = some z) (D : z = (rr, μr)) : JW X (jEnd X n Y (some (.long rr)) μr 0 0) 0 0 n Y 43 [] [] μ := by
  unfold b_X11_fraction_43 at H
  refine r_ldc2 K (-9223372036854775808) mc_RX11_151 dX11_fraction_43 ?_
  cases H
  obtain ⟨rfl, rfl⟩ := jfin2 D
  exact r_lret K dX11_fraction_46
set_option maxRecDepth 10000 in
theorem t_X11_fraction_91 {X : jX} {l : Launch} {n : Nat} {Y : jY} (K : jOK X RX11 cX11_fraction 4 (some .long) 7) (hl : X.2.1 = l) {rr : Int64} {μr : jM} {t0 : Int64} {μ : jM} {z : (Int64 × jM)} (H : b_X11_fraction_91 Y t0 μ = some z) (D : z = (rr, μr)) : JW X (jEnd X n Y (some (.long rr)) μr 0 0) 0 0 n Y 91 [] [.long t0] μ := by
  unfold b_X11_fraction_91 at H
  cases H
  obtain ⟨rfl, rfl⟩ := jfin2 D
  exact r_lret K dX11_fraction_91
set_option maxRecDepth 10000 in
theorem t_X11_fraction_0 {X : jX} {l : Launch} {n : Nat} {Y : jY} (K : jOK X RX11 cX11_fraction 4 (some .long) 7) (hl : X.2.1 = l) {rr : Int64} {μr : jM} {v0 : Nat} {v1 : Int32} {v2 : Int32} {v3 : Int32} {μ : jM} {z : (Int64 × jM)} (H : f_X11_fraction Y v0 v1 v2 v3 μ = some z) (D : z = (rr, μr)) : JW X (jEnd X n Y (some (.long rr)) μr 0 0) 0 0 n Y 0 [(0, .ref v0), (1, .int v1), (2, .int v2), (3, .int v3)] [] μ := by
  unfold f_X11_fraction at H
  refine r_aload_n K 0 dX11_fraction_0 rfl rfl ?_
  refine w_callV K hl H (fun r h => c_X11_hasTones l h) mC_yX11_hasTones mM_RX11_147 mI_yX11_hasTones mS_yX11_hasTones mZ_RX11 vc11 (Nat.le_of_ble_eq_true rfl) (Nat.le_of_ble_eq_true rfl) np_yX11_hasTones rfl (Nat.le_of_ble_eq_true rfl) dX11_fraction_1 (fun r1 H => ?_) ⟨Nat.zero_le _, Nat.zero_le _⟩
  refine w_if_eq K 43 dX11_fraction_4 (by decide) H (fun _ H => ?_) (fun _ H => ?_)
  · exact r_sub [] rfl (t_X11_fraction_43 K hl H D)
  · refine r_iload_n K 1 dX11_fraction_7 rfl rfl ?_
    refine r_iconst (v := 1) K dX11_fraction_8 (by decide) ?_
    refine r_aload_n K 0 dX11_fraction_9 rfl rfl ?_
    refine w_getO K vc11 inX11 3 (by decide) mF_RX11_35 dX11_fraction_10 H (fun x2 H => ?_)
    refine w_getO K vc3 inX3 0 (by decide) mF_RX11_119 dX11_fraction_13 H (fun x3 H => ?_)
    refine w_getI K vc9 inX9 0 (by decide) mF_RX11_126 dX11_fraction_16 H (fun x4 H => ?_)
    refine w_callS K hl H (fun r h => c_X11_within l h) mC_yX11_within mM_RX11_133 mT_yX11_within mZ_RX11 (Nat.le_of_ble_eq_true rfl) (Nat.le_of_ble_eq_true rfl) np_yX11_within rfl (Nat.le_of_ble_eq_true rfl) dX11_fraction_19 (fun r5 H => ?_) ⟨Nat.zero_le _, Nat.zero_le _⟩
    refine w_if_eq K 43 dX11_fraction_22 (by decide) H (fun _ H => ?_) (fun _ H => ?_)
    · exact r_sub [] rfl (t_X11_fraction_43 K hl H D)
    · refine r_iload_n K 2 dX11_fraction_25 rfl rfl ?_
      refine r_bipush (v := -20) K dX11_fraction_26 (by decide) ?_
      refine r_bipush (v := 20) K dX11_fraction_28 (by decide) ?_
      refine w_callS K hl H (fun r h => c_X11_within l h) mC_yX11_within mM_RX11_133 mT_yX11_within mZ_RX11 (Nat.le_of_ble_eq_true rfl) (Nat.le_of_ble_eq_true rfl) np_yX11_within rfl (Nat.le_of_ble_eq_true rfl) dX11_fraction_30 (fun r6 H => ?_) ⟨Nat.zero_le _, Nat.zero_le _⟩
      refine w_if_eq K 43 dX11_fraction_33 (by decide) H (fun _ H => ?_) (fun _ H => ?_)
      · exact r_sub [] rfl (t_X11_fraction_43 K hl H D)
      · refine r_iload_n K 3 dX11_fraction_36 rfl rfl ?_
        refine w_callS K hl H (fun r h => c_X11_isPart l h) mC_yX11_isPart mM_RX11_170 mT_yX11_isPart mZ_RX11 (Nat.le_of_ble_eq_true rfl) (Nat.le_of_ble_eq_true rfl) np_yX11_isPart rfl (Nat.le_of_ble_eq_true rfl) dX11_fraction_37 (fun r7 H => ?_) ⟨Nat.zero_le _, Nat.zero_le _⟩
        refine w_if_ne K 47 dX11_fraction_40 (by decide) H (fun _ H => ?_) (fun _ H => ?_)
        · refine r_aload_n K 0 dX11_fraction_47 rfl rfl ?_
          refine w_getO K vc11 inX11 7 (by decide) mF_RX11_59 dX11_fraction_48 H (fun x8 H => ?_)
          refine r_aload_n K 0 dX11_fraction_51 rfl rfl ?_
          refine w_getO K vc11 inX11 3 (by decide) mF_RX11_35 dX11_fraction_52 H (fun x9 H => ?_)
          refine w_getO K vc3 inX3 0 (by decide) mF_RX11_119 dX11_fraction_55 H (fun x10 H => ?_)
          refine w_callV K hl H (fun r h => c_X8_rebuild l h) mC_yX8_rebuild mM_RX11_185 mI_yX8_rebuild mS_yX8_rebuild mZ_RX8 vc8 (Nat.le_of_ble_eq_true rfl) (Nat.le_of_ble_eq_true rfl) np_yX8_rebuild rfl (Nat.le_of_ble_eq_true rfl) dX11_fraction_58 (fun μ11 H => ?_) ⟨Nat.zero_le _, Nat.zero_le _⟩
          refine r_aload_n K 0 dX11_fraction_61 rfl rfl ?_
          refine w_getO K vc11 inX11 7 (by decide) mF_RX11_59 dX11_fraction_62 H (fun x12 H => ?_)
          refine r_iload_n K 1 dX11_fraction_65 rfl rfl ?_
          refine r_iload_n K 2 dX11_fraction_66 rfl rfl ?_
          refine r_aload_n K 0 dX11_fraction_67 rfl rfl ?_
          refine w_getO K vc11 inX11 12 (by decide) mF_RX11_94 dX11_fraction_68 H (fun x13 H => ?_)
          refine w_callV K hl H (fun r h => c_X8_cutShort l h) mC_yX8_cutShort mM_RX11_197 mI_yX8_cutShort mS_yX8_cutShort mZ_RX8 vc8 (Nat.le_of_ble_eq_true rfl) (Nat.le_of_ble_eq_true rfl) np_yX8_cutShort rfl (Nat.le_of_ble_eq_true rfl) dX11_fraction_71 (fun r14 H => ?_) ⟨Nat.zero_le _, Nat.zero_le _⟩
          refine w_if_eq K 88 dX11_fraction_74 (by decide) H (fun _ H => ?_) (fun _ H => ?_)
          · refine r_ldc2 K (-2) mc_RX11_201 dX11_fraction_88 ?_
            exact r_sub [] rfl (t_X11_fraction_91 K hl H D)
          · refine r_aload_n K 0 dX11_fraction_77 rfl rfl ?_
            refine w_getO K vc11 inX11 12 (by decide) mF_RX11_94 dX11_fraction_78 H (fun x15 H => ?_)
            refine r_iload_n K 3 dX11_fraction_81 rfl rfl ?_
            refine w_callV K hl H (fun r h => c_X1_part l h) mC_yX1_part mM_RX11_177 mI_yX1_part mS_yX1_part mZ_RX1 vc1 (Nat.le_of_ble_eq_true rfl) (Nat.le_of_ble_eq_true rfl) np_yX1_part rfl (Nat.le_of_ble_eq_true rfl) dX11_fraction_82 (fun r16 H => ?_) ⟨Nat.zero_le _, Nat.zero_le _⟩
            refine r_goto K 91 dX11_fraction_85 (by decide) ?_
            exact r_sub [] rfl (t_X11_fraction_91 K hl H D)
        · exact r_sub [] rfl (t_X11_fraction_43 K hl H D)
theorem c_X11_fraction (l : Launch) {n : Nat} {Y : jY} {v0 : Nat} {v1 : Int32} {v2 : Int32} {v3 : Int32} {μ : jM} {z : Int64 × jM} (H : f_X11_fraction Y v0 v1 v2 v3 μ = some z) : jC l yX11_fraction cX11_fraction 4 (some .long) 7 0 0 [.ref v0, .int v1, .int v2, .int v3] n Y μ n Y (some (.long z.1)) z.2 := by
  refine jC_of (by decide +kernel) (Nat.le_of_ble_eq_true rfl) (fun X hl K _ _ _ => ?_)
  obtain ⟨rr, μr⟩ := z
  exact t_X11_fraction_0 K hl H rfl
/-! RX11 undo()I -/
def b_X11_undo_21 (Y : jY) (μ : jM) : Option (Int32 × jM) :=
  some ((-1 : Int32), μ)
def f_X11_undo (Y : jY) (v0 : Nat) (μ : jM) : Option (Int32 × jM) :=
  (jgI Y μ v0 11 5).bind fun x1 =>
  if x1 ≤ 0 then
    b_X11_undo_21 Y μ
  else
    (jgO Y μ v0 11 4).bind fun x2 =>
    (jgI Y μ v0 11 5).bind fun x3 =>
    (jaN Y μ x2 25 ((x3 - ((1 : Int32))))).bind fun b4 =>
    if b4 = true then
      b_X11_undo_21 Y μ
    else
      (jgI Y μ v0 11 5).bind fun x5 =>
      (jput Y μ v0 11 5 (.int ((x5 - ((1 : Int32)))))).bind fun μ6 =>
      (jgO Y μ6 v0 11 3).bind fun x7 =>
      (jgO Y μ6 v0 11 4).bind fun x8 =>
      (jgI Y μ6 v0 11 5).bind fun x9 =>
      (jaO Y μ6 x8 25 x9).bind fun x10 =>
      (jrcv Y x7 3 (f_X3_copy Y x7 x10 μ6)).bind fun μ11 =>
      (jgI Y μ11 v0 11 5).bind fun x12 =>
      some (x12, μ11)
set_option maxRecDepth 10000 in
theorem t_X11_undo_21 {X : jX} {l : Launch} {n : Nat} {Y : jY} (K : jOK X RX11 cX11_undo 1 (some .int) 3) (hl : X.2.1 = l) {rr : Int32} {μr : jM} {μ : jM} {z : (Int32 × jM)} (H : b_X11_undo_21 Y μ = some z) (D : z = (rr, μr)) : JW X (jEnd X n Y (some (.int rr)) μr 0 0) 0 0 n Y 21 [] [] μ := by
  unfold b_X11_undo_21 at H
  refine r_iconst (v := -1) K dX11_undo_21 (by decide) ?_
  cases H
  obtain ⟨rfl, rfl⟩ := jfin2 D
  exact r_iret K dX11_undo_22
set_option maxRecDepth 10000 in
theorem t_X11_undo_0 {X : jX} {l : Launch} {n : Nat} {Y : jY} (K : jOK X RX11 cX11_undo 1 (some .int) 3) (hl : X.2.1 = l) {rr : Int32} {μr : jM} {v0 : Nat} {μ : jM} {z : (Int32 × jM)} (H : f_X11_undo Y v0 μ = some z) (D : z = (rr, μr)) : JW X (jEnd X n Y (some (.int rr)) μr 0 0) 0 0 n Y 0 [(0, .ref v0)] [] μ := by
  unfold f_X11_undo at H
  refine r_aload_n K 0 dX11_undo_0 rfl rfl ?_
  refine w_getI K vc11 inX11 5 (by decide) mF_RX11_43 dX11_undo_1 H (fun x1 H => ?_)
  refine w_if_le K 21 dX11_undo_4 (by decide) H (fun _ H => ?_) (fun _ H => ?_)
  · exact r_sub [] rfl (t_X11_undo_21 K hl H D)
  · refine r_aload_n K 0 dX11_undo_7 rfl rfl ?_
    refine w_getO K vc11 inX11 4 (by decide) mF_RX11_39 dX11_undo_8 H (fun x2 H => ?_)
    refine r_aload_n K 0 dX11_undo_11 rfl rfl ?_
    refine w_getI K vc11 inX11 5 (by decide) mF_RX11_43 dX11_undo_12 H (fun x3 H => ?_)
    refine r_iconst (v := 1) K dX11_undo_15 (by decide) ?_
    refine r_isub K dX11_undo_16 ?_
    refine w_aaldN K 25 23 rfl rfl dX11_undo_17 dX11_undo_18 (by decide) H (fun H => ?_) (fun H => ?_)
    · rw [if_neg (by decide)] at H
      refine r_aload_n K 0 dX11_undo_23 rfl rfl ?_
      refine r_dup K dX11_undo_24 rfl ?_
      refine w_getI K vc11 inX11 5 (by decide) mF_RX11_43 dX11_undo_25 H (fun x5 H => ?_)
      refine r_iconst (v := 1) K dX11_undo_28 (by decide) ?_
      refine r_isub K dX11_undo_29 ?_
      refine w_put K vc11 inX11 tyX11_ok nmX11 5 (by decide) mF_RX11_43 rfl (fun _ => rfl) (fun _ => rfl) dX11_undo_30 H (fun μ6 H => ?_)
      refine r_aload_n K 0 dX11_undo_33 rfl rfl ?_
      refine w_getO K vc11 inX11 3 (by decide) mF_RX11_35 dX11_undo_34 H (fun x7 H => ?_)
      refine r_aload_n K 0 dX11_undo_37 rfl rfl ?_
      refine w_getO K vc11 inX11 4 (by decide) mF_RX11_39 dX11_undo_38 H (fun x8 H => ?_)
      refine r_aload_n K 0 dX11_undo_41 rfl rfl ?_
      refine w_getI K vc11 inX11 5 (by decide) mF_RX11_43 dX11_undo_42 H (fun x9 H => ?_)
      refine w_aald K 25 rfl rfl dX11_undo_45 H (fun x10 H => ?_)
      refine w_callV K hl H (fun r h => c_X3_copy l h) mC_yX3_copy mM_RX11_382 mI_yX3_copy mS_yX3_copy mZ_RX3 vc3 (Nat.le_of_ble_eq_true rfl) (Nat.le_of_ble_eq_true rfl) np_yX3_copy rfl (Nat.le_of_ble_eq_true rfl) dX11_undo_46 (fun μ11 H => ?_) ⟨Nat.zero_le _, Nat.zero_le _⟩
      refine r_aload_n K 0 dX11_undo_49 rfl rfl ?_
      refine w_getI K vc11 inX11 5 (by decide) mF_RX11_43 dX11_undo_50 H (fun x12 H => ?_)
      cases H
      obtain ⟨rfl, rfl⟩ := jfin2 D
      exact r_iret K dX11_undo_53
    · rw [if_pos rfl] at H
      exact r_sub [] rfl (t_X11_undo_21 K hl H D)
theorem c_X11_undo (l : Launch) {n : Nat} {Y : jY} {v0 : Nat} {μ : jM} {z : Int32 × jM} (H : f_X11_undo Y v0 μ = some z) : jC l yX11_undo cX11_undo 1 (some .int) 3 0 0 [.ref v0] n Y μ n Y (some (.int z.1)) z.2 := by
  refine jC_of (by decide +kernel) (Nat.le_of_ble_eq_true rfl) (fun X hl K _ _ _ => ?_)
  obtain ⟨rr, μr⟩ := z
  exact t_X11_undo_0 K hl H rfl
/-! RX11 walks(IIII)J -/
def b_X11_walks_37 (Y : jY) (μ : jM) : Option (Int64 × jM) :=
  some ((-9223372036854775808 : Int64), μ)
def f_X11_walks (Y : jY) (v0 : Nat) (v1 : Int32) (v2 : Int32) (v3 : Int32) (v4 : Int32) (μ : jM) : Option (Int64 × jM) :=
  (jrcv Y v0 11 (f_X11_isFilled Y v0 v1 μ)).bind fun r1 =>
  if r1.1 = 0 then
    b_X11_walks_37 Y r1.2
  else
    (f_X11_within Y v2 ((0 : Int32)) ((8 : Int32)) r1.2).bind fun r2 =>
    if r2.1 = 0 then
      b_X11_walks_37 Y r2.2
    else
      (jrcv Y v0 11 (f_X11_isRow Y v0 v1 v3 r2.2)).bind fun r3 =>
      if r3.1 = 0 then
        b_X11_walks_37 Y r3.2
      else
        (jrcv Y v0 11 (f_X11_isRow Y v0 v1 v4 r3.2)).bind fun r4 =>
        if r4.1 = 0 then
          b_X11_walks_37 Y r4.2
        else
          (jgO Y r4.2 v0 11 9).bind fun x5 =>
          (jgO Y r4.2 v0 11 3).bind fun x6 =>
          (jgO Y r4.2 x6 3 1).bind fun x7 =>
          (jaO Y r4.2 x7 24 v1).bind fun x8 =>
          (jrcv Y x5 4 (f_X4_walk Y x5 x8 v2 v3 v4 r4.2)).bind fun r9 =>
          some (r9.1, r9.2)
set_option maxRecDepth 10000 in
theorem t_X11_walks_37 {X : jX} {l : Launch} {n : Nat} {Y : jY} (K : jOK X RX11 cX11_walks 5 (some .long) 5) (hl : X.2.1 = l) {rr : Int64} {μr : jM} {μ : jM} {z : (Int64 × jM)} (H : b_X11_walks_37 Y μ = some z) (D : z = (rr, μr)) : JW X (jEnd X n Y (some (.long rr)) μr 0 0) 0 0 n Y 37 [] [] μ := by
  unfold b_X11_walks_37 at H
  refine r_ldc2 K (-9223372036854775808) mc_RX11_151 dX11_walks_37 ?_
  cases H
  obtain ⟨rfl, rfl⟩ := jfin2 D
  exact r_lret K dX11_walks_40
set_option maxRecDepth 10000 in
theorem t_X11_walks_0 {X : jX} {l : Launch} {n : Nat} {Y : jY} (K : jOK X RX11 cX11_walks 5 (some .long) 5) (hl : X.2.1 = l) {rr : Int64} {μr : jM} {v0 : Nat} {v1 : Int32} {v2 : Int32} {v3 : Int32} {v4 : Int32} {μ : jM} {z : (Int64 × jM)} (H : f_X11_walks Y v0 v1 v2 v3 v4 μ = some z) (D : z = (rr, μr)) : JW X (jEnd X n Y (some (.long rr)) μr 0 0) 0 0 n Y 0 [(0, .ref v0), (1, .int v1), (2, .int v2), (3, .int v3), (4, .int v4)] [] μ := by
  unfold f_X11_walks at H
  refine r_aload_n K 0 dX11_walks_0 rfl rfl ?_
  refine r_iload_n K 1 dX11_walks_1 rfl rfl ?_
  refine w_callV K hl H (fun r h => c_X11_isFilled l h) mC_yX11_isFilled mM_RX11_285 mI_yX11_isFilled mS_yX11_isFilled mZ_RX11 vc11 (Nat.le_of_ble_eq_true rfl) (Nat.le_of_ble_eq_true rfl) np_yX11_isFilled rfl (Nat.le_of_ble_eq_true rfl) dX11_walks_2 (fun r1 H => ?_) ⟨Nat.zero_le _, Nat.zero_le _⟩
  refine w_if_eq K 37 dX11_walks_5 (by decide) H (fun _ H => ?_) (fun _ H => ?_)
  · exact r_sub [] rfl (t_X11_walks_37 K hl H D)
  · refine r_iload_n K 2 dX11_walks_8 rfl rfl ?_
    refine r_iconst (v := 0) K dX11_walks_9 (by decide) ?_
    refine r_bipush (v := 8) K dX11_walks_10 (by decide) ?_
    refine w_callS K hl H (fun r h => c_X11_within l h) mC_yX11_within mM_RX11_133 mT_yX11_within mZ_RX11 (Nat.le_of_ble_eq_true rfl) (Nat.le_of_ble_eq_true rfl) np_yX11_within rfl (Nat.le_of_ble_eq_true rfl) dX11_walks_12 (fun r2 H => ?_) ⟨Nat.zero_le _, Nat.zero_le _⟩
    refine w_if_eq K 37 dX11_walks_15 (by decide) H (fun _ H => ?_) (fun _ H => ?_)
    · exact r_sub [] rfl (t_X11_walks_37 K hl H D)
    · refine r_aload_n K 0 dX11_walks_18 rfl rfl ?_
      refine r_iload_n K 1 dX11_walks_19 rfl rfl ?_
      refine r_iload_n K 3 dX11_walks_20 rfl rfl ?_
      refine w_callV K hl H (fun r h => c_X11_isRow l h) mC_yX11_isRow mM_RX11_312 mI_yX11_isRow mS_yX11_isRow mZ_RX11 vc11 (Nat.le_of_ble_eq_true rfl) (Nat.le_of_ble_eq_true rfl) np_yX11_isRow rfl (Nat.le_of_ble_eq_true rfl) dX11_walks_21 (fun r3 H => ?_) ⟨Nat.zero_le _, Nat.zero_le _⟩
      refine w_if_eq K 37 dX11_walks_24 (by decide) H (fun _ H => ?_) (fun _ H => ?_)
      · exact r_sub [] rfl (t_X11_walks_37 K hl H D)
      · refine r_aload_n K 0 dX11_walks_27 rfl rfl ?_
        refine r_iload_n K 1 dX11_walks_28 rfl rfl ?_
        refine r_iload K 4 dX11_walks_29 rfl ?_
        refine w_callV K hl H (fun r h => c_X11_isRow l h) mC_yX11_isRow mM_RX11_312 mI_yX11_isRow mS_yX11_isRow mZ_RX11 vc11 (Nat.le_of_ble_eq_true rfl) (Nat.le_of_ble_eq_true rfl) np_yX11_isRow rfl (Nat.le_of_ble_eq_true rfl) dX11_walks_31 (fun r4 H => ?_) ⟨Nat.zero_le _, Nat.zero_le _⟩
        refine w_if_ne K 41 dX11_walks_34 (by decide) H (fun _ H => ?_) (fun _ H => ?_)
        · refine r_aload_n K 0 dX11_walks_41 rfl rfl ?_
          refine w_getO K vc11 inX11 9 (by decide) mF_RX11_73 dX11_walks_42 H (fun x5 H => ?_)
          refine r_aload_n K 0 dX11_walks_45 rfl rfl ?_
          refine w_getO K vc11 inX11 3 (by decide) mF_RX11_35 dX11_walks_46 H (fun x6 H => ?_)
          refine w_getO K vc3 inX3 1 (by decide) mF_RX11_255 dX11_walks_49 H (fun x7 H => ?_)
          refine r_iload_n K 1 dX11_walks_52 rfl rfl ?_
          refine w_aald K 24 rfl rfl dX11_walks_53 H (fun x8 H => ?_)
          refine r_iload_n K 2 dX11_walks_54 rfl rfl ?_
          refine r_iload_n K 3 dX11_walks_55 rfl rfl ?_
          refine r_iload K 4 dX11_walks_56 rfl ?_
          refine w_callV K hl H (fun r h => c_X4_walk l h) mC_yX4_walk mM_RX11_339 mI_yX4_walk mS_yX4_walk mZ_RX4 vc4 (Nat.le_of_ble_eq_true rfl) (Nat.le_of_ble_eq_true rfl) np_yX4_walk rfl (Nat.le_of_ble_eq_true rfl) dX11_walks_58 (fun r9 H => ?_) ⟨Nat.zero_le _, Nat.zero_le _⟩
          cases H
          obtain ⟨rfl, rfl⟩ := jfin2 D
          exact r_lret K dX11_walks_61
        · exact r_sub [] rfl (t_X11_walks_37 K hl H D)
theorem c_X11_walks (l : Launch) {n : Nat} {Y : jY} {v0 : Nat} {v1 : Int32} {v2 : Int32} {v3 : Int32} {v4 : Int32} {μ : jM} {z : Int64 × jM} (H : f_X11_walks Y v0 v1 v2 v3 v4 μ = some z) : jC l yX11_walks cX11_walks 5 (some .long) 5 0 0 [.ref v0, .int v1, .int v2, .int v3, .int v4] n Y μ n Y (some (.long z.1)) z.2 := by
  refine jC_of (by decide +kernel) (Nat.le_of_ble_eq_true rfl) (fun X hl K _ _ _ => ?_)
  obtain ⟨rr, μr⟩ := z
  exact t_X11_walks_0 K hl H rfl
/-! RX11 kernel(II)J -/
def b_X11_kernel_25 (Y : jY) (μ : jM) : Option (Int64 × jM) :=
  some ((-9223372036854775808 : Int64), μ)
def f_X11_kernel (Y : jY) (v0 : Nat) (v1 : Int32) (v2 : Int32) (μ : jM) : Option (Int64 × jM) :=
  (jrcv Y v0 11 (f_X11_hasTones Y v0 μ)).bind fun r1 =>
  if r1.1 = 0 then
    b_X11_kernel_25 Y r1.2
  else
    (f_X11_within Y v1 ((-8 : Int32)) ((8 : Int32)) r1.2).bind fun r2 =>
    if r2.1 = 0 then
      b_X11_kernel_25 Y r2.2
    else
      (f_X11_isPart Y v2 r2.2).bind fun r3 =>
      if r3.1 = 0 then
        b_X11_kernel_25 Y r3.2
      else
        (jgO Y r3.2 v0 11 7).bind fun x4 =>
        (jgO Y r3.2 v0 11 3).bind fun x5 =>
        (jgO Y r3.2 x5 3 0).bind fun x6 =>
        (jrcv Y x4 8 (f_X8_rebuild Y x4 x6 r3.2)).bind fun μ7 =>
        (jgO Y μ7 v0 11 7).bind fun x8 =>
        (jgO Y μ7 v0 11 12).bind fun x9 =>
        (jrcv Y x8 8 (f_X8_addSquares Y x8 v1 x9 μ7)).bind fun μ10 =>
        (jgO Y μ10 v0 11 12).bind fun x11 =>
        (jrcv Y x11 1 (f_X1_part Y x11 v2 μ10)).bind fun r12 =>
        some (r12.1, r12.2)
set_option maxRecDepth 10000 in
theorem t_X11_kernel_25 {X : jX} {l : Launch} {n : Nat} {Y : jY} (K : jOK X RX11 cX11_kernel 3 (some .long) 7) (hl : X.2.1 = l) {rr : Int64} {μr : jM} {μ : jM} {z : (Int64 × jM)} (H : b_X11_kernel_25 Y μ = some z) (D : z = (rr, μr)) : JW X (jEnd X n Y (some (.long rr)) μr 0 0) 0 0 n Y 25 [] [] μ := by
  unfold b_X11_kernel_25 at H
  refine r_ldc2 K (-9223372036854775808) mc_RX11_151 dX11_kernel_25 ?_
  cases H
  obtain ⟨rfl, rfl⟩ := jfin2 D
  exact r_lret K dX11_kernel_28
set_option maxRecDepth 10000 in
theorem t_X11_kernel_0 {X : jX} {l : Launch} {n : Nat} {Y : jY} (K : jOK X RX11 cX11_kernel 3 (some .long) 7) (hl : X.2.1 = l) {rr : Int64} {μr : jM} {v0 : Nat} {v1 : Int32} {v2 : Int32} {μ : jM} {z : (Int64 × jM)} (H : f_X11_kernel Y v0 v1 v2 μ = some z) (D : z = (rr, μr)) : JW X (jEnd X n Y (some (.long rr)) μr 0 0) 0 0 n Y 0 [(0, .ref v0), (1, .int v1), (2, .int v2)] [] μ := by
  unfold f_X11_kernel at H
  refine r_aload_n K 0 dX11_kernel_0 rfl rfl ?_
  refine w_callV K hl H (fun r h => c_X11_hasTones l h) mC_yX11_hasTones mM_RX11_147 mI_yX11_hasTones mS_yX11_hasTones mZ_RX11 vc11 (Nat.le_of_ble_eq_true rfl) (Nat.le_of_ble_eq_true rfl) np_yX11_hasTones rfl (Nat.le_of_ble_eq_true rfl) dX11_kernel_1 (fun r1 H => ?_) ⟨Nat.zero_le _, Nat.zero_le _⟩
  refine w_if_eq K 25 dX11_kernel_4 (by decide) H (fun _ H => ?_) (fun _ H => ?_)
  · exact r_sub [] rfl (t_X11_kernel_25 K hl H D)
  · refine r_iload_n K 1 dX11_kernel_7 rfl rfl ?_
    refine r_bipush (v := -8) K dX11_kernel_8 (by decide) ?_
    refine r_bipush (v := 8) K dX11_kernel_10 (by decide) ?_
    refine w_callS K hl H (fun r h => c_X11_within l h) mC_yX11_within mM_RX11_133 mT_yX11_within mZ_RX11 (Nat.le_of_ble_eq_true rfl) (Nat.le_of_ble_eq_true rfl) np_yX11_within rfl (Nat.le_of_ble_eq_true rfl) dX11_kernel_12 (fun r2 H => ?_) ⟨Nat.zero_le _, Nat.zero_le _⟩
    refine w_if_eq K 25 dX11_kernel_15 (by decide) H (fun _ H => ?_) (fun _ H => ?_)
    · exact r_sub [] rfl (t_X11_kernel_25 K hl H D)
    · refine r_iload_n K 2 dX11_kernel_18 rfl rfl ?_
      refine w_callS K hl H (fun r h => c_X11_isPart l h) mC_yX11_isPart mM_RX11_170 mT_yX11_isPart mZ_RX11 (Nat.le_of_ble_eq_true rfl) (Nat.le_of_ble_eq_true rfl) np_yX11_isPart rfl (Nat.le_of_ble_eq_true rfl) dX11_kernel_19 (fun r3 H => ?_) ⟨Nat.zero_le _, Nat.zero_le _⟩
      refine w_if_ne K 29 dX11_kernel_22 (by decide) H (fun _ H => ?_) (fun _ H => ?_)
      · refine r_aload_n K 0 dX11_kernel_29 rfl rfl ?_
        refine w_getO K vc11 inX11 7 (by decide) mF_RX11_59 dX11_kernel_30 H (fun x4 H => ?_)
        refine r_aload_n K 0 dX11_kernel_33 rfl rfl ?_
        refine w_getO K vc11 inX11 3 (by decide) mF_RX11_35 dX11_kernel_34 H (fun x5 H => ?_)
        refine w_getO K vc3 inX3 0 (by decide) mF_RX11_119 dX11_kernel_37 H (fun x6 H => ?_)
        refine w_callV K hl H (fun r h => c_X8_rebuild l h) mC_yX8_rebuild mM_RX11_185 mI_yX8_rebuild mS_yX8_rebuild mZ_RX8 vc8 (Nat.le_of_ble_eq_true rfl) (Nat.le_of_ble_eq_true rfl) np_yX8_rebuild rfl (Nat.le_of_ble_eq_true rfl) dX11_kernel_40 (fun μ7 H => ?_) ⟨Nat.zero_le _, Nat.zero_le _⟩
        refine r_aload_n K 0 dX11_kernel_43 rfl rfl ?_
        refine w_getO K vc11 inX11 7 (by decide) mF_RX11_59 dX11_kernel_44 H (fun x8 H => ?_)
        refine r_iload_n K 1 dX11_kernel_47 rfl rfl ?_
        refine r_aload_n K 0 dX11_kernel_48 rfl rfl ?_
        refine w_getO K vc11 inX11 12 (by decide) mF_RX11_94 dX11_kernel_49 H (fun x9 H => ?_)
        refine w_callV K hl H (fun r h => c_X8_addSquares l h) mC_yX8_addSquares mM_RX11_225 mI_yX8_addSquares mS_yX8_addSquares mZ_RX8 vc8 (Nat.le_of_ble_eq_true rfl) (Nat.le_of_ble_eq_true rfl) np_yX8_addSquares rfl (Nat.le_of_ble_eq_true rfl) dX11_kernel_52 (fun μ10 H => ?_) ⟨Nat.zero_le _, Nat.zero_le _⟩
        refine r_aload_n K 0 dX11_kernel_55 rfl rfl ?_
        refine w_getO K vc11 inX11 12 (by decide) mF_RX11_94 dX11_kernel_56 H (fun x11 H => ?_)
        refine r_iload_n K 2 dX11_kernel_59 rfl rfl ?_
        refine w_callV K hl H (fun r h => c_X1_part l h) mC_yX1_part mM_RX11_177 mI_yX1_part mS_yX1_part mZ_RX1 vc1 (Nat.le_of_ble_eq_true rfl) (Nat.le_of_ble_eq_true rfl) np_yX1_part rfl (Nat.le_of_ble_eq_true rfl) dX11_kernel_60 (fun r12 H => ?_) ⟨Nat.zero_le _, Nat.zero_le _⟩
        cases H
        obtain ⟨rfl, rfl⟩ := jfin2 D
        exact r_lret K dX11_kernel_63
      · exact r_sub [] rfl (t_X11_kernel_25 K hl H D)
theorem c_X11_kernel (l : Launch) {n : Nat} {Y : jY} {v0 : Nat} {v1 : Int32} {v2 : Int32} {μ : jM} {z : Int64 × jM} (H : f_X11_kernel Y v0 v1 v2 μ = some z) : jC l yX11_kernel cX11_kernel 3 (some .long) 7 0 0 [.ref v0, .int v1, .int v2] n Y μ n Y (some (.long z.1)) z.2 := by
  refine jC_of (by decide +kernel) (Nat.le_of_ble_eq_true rfl) (fun X hl K _ _ _ => ?_)
  obtain ⟨rr, μr⟩ := z
  exact t_X11_kernel_0 K hl H rfl
/-! RX11 beginAllTables()V -/
def f_X11_beginAllTables (Y : jY) (v0 : Nat) (μ : jM) : Option (jM) :=
  (jgO Y μ v0 11 6).bind fun x1 =>
  (jgO Y μ v0 11 3).bind fun x2 =>
  (jgO Y μ x2 3 0).bind fun x3 =>
  (jrcv Y x1 7 (f_X7_rebuild Y x1 x3 μ)).bind fun μ4 =>
  (jgO Y μ4 v0 11 8).bind fun x5 =>
  (jgO Y μ4 v0 11 6).bind fun x6 =>
  (jrcv Y x5 0 (f_X0_begin Y x5 x6 μ4)).bind fun μ7 =>
  some μ7
set_option maxRecDepth 10000 in
theorem t_X11_beginAllTables_0 {X : jX} {l : Launch} {n : Nat} {Y : jY} (K : jOK X RX11 cX11_beginAllTables 1 none 3) (hl : X.2.1 = l) {μr : jM} {v0 : Nat} {μ : jM} {z : (jM)} (H : f_X11_beginAllTables Y v0 μ = some z) (D : z = μr) : JW X (jEnd X n Y none μr 0 0) 0 0 n Y 0 [(0, .ref v0)] [] μ := by
  unfold f_X11_beginAllTables at H
  refine r_aload_n K 0 dX11_beginAllTables_0 rfl rfl ?_
  refine w_getO K vc11 inX11 6 (by decide) mF_RX11_50 dX11_beginAllTables_1 H (fun x1 H => ?_)
  refine r_aload_n K 0 dX11_beginAllTables_4 rfl rfl ?_
  refine w_getO K vc11 inX11 3 (by decide) mF_RX11_35 dX11_beginAllTables_5 H (fun x2 H => ?_)
  refine w_getO K vc3 inX3 0 (by decide) mF_RX11_119 dX11_beginAllTables_8 H (fun x3 H => ?_)
  refine w_callV K hl H (fun r h => c_X7_rebuild l h) mC_yX7_rebuild mM_RX11_153 mI_yX7_rebuild mS_yX7_rebuild mZ_RX7 vc7 (Nat.le_of_ble_eq_true rfl) (Nat.le_of_ble_eq_true rfl) np_yX7_rebuild rfl (Nat.le_of_ble_eq_true rfl) dX11_beginAllTables_11 (fun μ4 H => ?_) ⟨Nat.zero_le _, Nat.zero_le _⟩
  refine r_aload_n K 0 dX11_beginAllTables_14 rfl rfl ?_
  refine w_getO K vc11 inX11 8 (by decide) mF_RX11_66 dX11_beginAllTables_15 H (fun x5 H => ?_)
  refine r_aload_n K 0 dX11_beginAllTables_18 rfl rfl ?_
  refine w_getO K vc11 inX11 6 (by decide) mF_RX11_50 dX11_beginAllTables_19 H (fun x6 H => ?_)
  refine w_callV K hl H (fun r h => c_X0_begin l h) mC_yX0_begin mM_RX11_388 mI_yX0_begin mS_yX0_begin mZ_RX0 vc0 (Nat.le_of_ble_eq_true rfl) (Nat.le_of_ble_eq_true rfl) np_yX0_begin rfl (Nat.le_of_ble_eq_true rfl) dX11_beginAllTables_22 (fun μ7 H => ?_) ⟨Nat.zero_le _, Nat.zero_le _⟩
  cases H
  subst D
  exact r_vret K dX11_beginAllTables_25
theorem c_X11_beginAllTables (l : Launch) {n : Nat} {Y : jY} {v0 : Nat} {μ : jM} {z : jM} (H : f_X11_beginAllTables Y v0 μ = some z) : jC l yX11_beginAllTables cX11_beginAllTables 1 none 3 0 0 [.ref v0] n Y μ n Y none z := by
  refine jC_of (by decide +kernel) (Nat.le_of_ble_eq_true rfl) (fun X hl K _ _ _ => ?_)
  exact t_X11_beginAllTables_0 K hl H rfl
/-! RX11 lay(II)I -/
def b_X11_lay_18 (Y : jY) (μ : jM) : Option (Int32 × jM) :=
  some ((-1 : Int32), μ)
def b_X11_lay_113 (Y : jY) (v0 : Nat) (v1 : Int32) (v2 : Int32) (v3 : Int32) (v4 : Int32) (μ : jM) : Option ((Int32 × Int32 × jM) ⊕ (Int32 × jM)) :=
  some (.inl (v3, (v4 + (1 : Int32)), μ))
def b_X11_lay_46 (Y : jY) (v0 : Nat) (v1 : Int32) (v2 : Int32) (v3 : Int32) (v4 : Int32) (μ : jM) : Option ((Int32 × Int32 × jM) ⊕ (Int32 × jM)) :=
  (jgO Y μ v0 11 8).bind fun x1 =>
  (jrcv Y x1 0 (f_X0_codes Y x1 μ)).bind fun r2 =>
  if r2.1 ≤ v4 then
    some (.inr ((-3 : Int32), r2.2))
  else
    (jgO Y r2.2 v0 11 8).bind fun x3 =>
    (jrcv Y x3 0 (f_X0_makes Y x3 v4 r2.2)).bind fun r4 =>
    if r4.1 = 0 then
      b_X11_lay_113 Y v0 v1 v2 v3 v4 r4.2
    else
      if v3 = v1 then
        (jgO Y r4.2 v0 11 3).bind fun x5 =>
        (jgO Y r4.2 x5 3 1).bind fun x6 =>
        (jaO Y r4.2 x6 24 v2).bind fun x7 =>
        (jgO Y r4.2 v0 11 8).bind fun x8 =>
        (jgO Y r4.2 x8 0 0).bind fun x9 =>
        (jrcv Y x7 10 (f_X10_copy Y x7 x9 r4.2)).bind fun μ10 =>
        (jgO Y μ10 v0 11 3).bind fun x11 =>
        (jgO Y μ10 x11 3 1).bind fun x12 =>
        (jaO Y μ10 x12 24 v2).bind fun x13 =>
        (jgI Y μ10 x13 10 0).bind fun x14 =>
        some (.inr (x14, μ10))
      else
        b_X11_lay_113 Y v0 v1 v2 (v3 + (1 : Int32)) v4 r4.2
def f_X11_lay (Y : jY) (v0 : Nat) (v1 : Int32) (v2 : Int32) (μ : jM) : Option (Int32 × jM) :=
  (jrcv Y v0 11 (f_X11_hasTones Y v0 μ)).bind fun r1 =>
  if r1.1 = 0 then
    b_X11_lay_18 Y r1.2
  else
    if v1 < 0 then
      b_X11_lay_18 Y r1.2
    else
      (f_X11_isDrawer Y v2 r1.2).bind fun r2 =>
      if r2.1 = 0 then
        b_X11_lay_18 Y r2.2
      else
        (jgO Y r2.2 v0 11 3).bind fun x3 =>
        (jgO Y r2.2 x3 3 0).bind fun x4 =>
        (jgI Y r2.2 x4 9 0).bind fun x5 =>
        if x5 ≤ ((3 : Int32)) then
          (jrcv Y v0 11 (f_X11_beginAllTables Y v0 r2.2)).bind fun μ6 =>
          jit jF (fun (s : Int32 × Int32 × jM) => b_X11_lay_46 Y v0 v1 v2 s.1 s.2.1 s.2.2) ((0 : Int32), (0 : Int32), μ6)
        else
          some ((-2 : Int32), r2.2)
set_option maxRecDepth 10000 in
theorem t_X11_lay_18 {X : jX} {l : Launch} {n : Nat} {Y : jY} (K : jOK X RX11 cX11_lay 5 (some .int) 4) (hl : X.2.1 = l) {rr : Int32} {μr : jM} {μ : jM} {z : (Int32 × jM)} (H : b_X11_lay_18 Y μ = some z) (D : z = (rr, μr)) : JW X (jEnd X n Y (some (.int rr)) μr 0 0) 0 0 n Y 18 [] [] μ := by
  unfold b_X11_lay_18 at H
  refine r_iconst (v := -1) K dX11_lay_18 (by decide) ?_
  cases H
  obtain ⟨rfl, rfl⟩ := jfin2 D
  exact r_iret K dX11_lay_19
set_option maxRecDepth 10000 in
theorem t_X11_lay_113 {X : jX} {l : Launch} {n : Nat} {Y : jY} (K : jOK X RX11 cX11_lay 5 (some .int) 4) (hl : X.2.1 = l) {rr : Int32} {μr : jM} {v0 : Nat} {v1 : Int32} {v2 : Int32} {v3 : Int32} {v4 : Int32} {μ : jM} {z : ((Int32 × Int32 × jM) ⊕ (Int32 × jM))} (H : b_X11_lay_113 Y v0 v1 v2 v3 v4 μ = some z) (D : Sum.elim (fun (s : Int32 × Int32 × jM) => JW X (jEnd X n Y (some (.int rr)) μr 0 0) 0 0 n Y 46 [(0, .ref v0), (1, .int v1), (2, .int v2), (3, .int s.1), (4, .int s.2.1)] [] s.2.2) (fun r => r = (rr, μr)) z) : JW X (jEnd X n Y (some (.int rr)) μr 0 0) 0 0 n Y 113 [(0, .ref v0), (1, .int v1), (2, .int v2), (3, .int v3), (4, .int v4)] [] μ := by
  unfold b_X11_lay_113 at H
  refine r_iinc K 4 [(4, .int _), (0, .ref _), (1, .int _), (2, .int _), (3, .int _)] (v := _ + (1 : Int32)) dX11_lay_113 rfl rfl (by decide) rfl ?_
  refine r_goto K 46 dX11_lay_116 (by decide) ?_
  cases H
  exact r_sub [1, 2, 3, 4, 0] rfl D
set_option maxRecDepth 10000 in
theorem t_X11_lay_46 {X : jX} {l : Launch} {n : Nat} {Y : jY} (K : jOK X RX11 cX11_lay 5 (some .int) 4) (hl : X.2.1 = l) {rr : Int32} {μr : jM} {v0 : Nat} {v1 : Int32} {v2 : Int32} {v3 : Int32} {v4 : Int32} {μ : jM} {z : ((Int32 × Int32 × jM) ⊕ (Int32 × jM))} (H : b_X11_lay_46 Y v0 v1 v2 v3 v4 μ = some z) (D : Sum.elim (fun (s : Int32 × Int32 × jM) => JW X (jEnd X n Y (some (.int rr)) μr 0 0) 0 0 n Y 46 [(0, .ref v0), (1, .int v1), (2, .int v2), (3, .int s.1), (4, .int s.2.1)] [] s.2.2) (fun r => r = (rr, μr)) z) : JW X (jEnd X n Y (some (.int rr)) μr 0 0) 0 0 n Y 46 [(0, .ref v0), (1, .int v1), (2, .int v2), (3, .int v3), (4, .int v4)] [] μ := by
  unfold b_X11_lay_46 at H
  refine r_iload K 4 dX11_lay_46 rfl ?_
  refine r_aload_n K 0 dX11_lay_48 rfl rfl ?_
  refine w_getO K vc11 inX11 8 (by decide) mF_RX11_66 dX11_lay_49 H (fun x1 H => ?_)
  refine w_callV K hl H (fun r h => c_X0_codes l h) mC_yX0_codes mM_RX11_370 mI_yX0_codes mS_yX0_codes mZ_RX0 vc0 (Nat.le_of_ble_eq_true rfl) (Nat.le_of_ble_eq_true rfl) np_yX0_codes rfl (Nat.le_of_ble_eq_true rfl) dX11_lay_52 (fun r2 H => ?_) ⟨Nat.zero_le _, Nat.zero_le _⟩
  refine w_icmp_ge K 119 dX11_lay_55 (by decide) H (fun _ H => ?_) (fun _ H => ?_)
  · refine r_bipush (v := -3) K dX11_lay_119 (by decide) ?_
    cases H
    simp only [Sum.elim_inr] at D
    obtain ⟨rfl, rfl⟩ := jfin2 D
    exact r_iret K dX11_lay_121
  · refine r_aload_n K 0 dX11_lay_58 rfl rfl ?_
    refine w_getO K vc11 inX11 8 (by decide) mF_RX11_66 dX11_lay_59 H (fun x3 H => ?_)
    refine r_iload K 4 dX11_lay_62 rfl ?_
    refine w_callV K hl H (fun r h => c_X0_makes l h) mC_yX0_makes mM_RX11_373 mI_yX0_makes mS_yX0_makes mZ_RX0 vc0 (Nat.le_of_ble_eq_true rfl) (Nat.le_of_ble_eq_true rfl) np_yX0_makes rfl (Nat.le_of_ble_eq_true rfl) dX11_lay_64 (fun r4 H => ?_) ⟨Nat.zero_le _, Nat.zero_le _⟩
    refine w_if_ne K 73 dX11_lay_67 (by decide) H (fun _ H => ?_) (fun _ H => ?_)
    · refine r_iload_n K 3 dX11_lay_73 rfl rfl ?_
      refine r_iload_n K 1 dX11_lay_74 rfl rfl ?_
      refine w_icmp_ne K 110 dX11_lay_75 (by decide) H (fun _ H => ?_) (fun _ H => ?_)
      · refine r_iinc K 3 [(3, .int _), (0, .ref _), (1, .int _), (2, .int _), (4, .int _)] (v := _ + (1 : Int32)) dX11_lay_110 rfl rfl (by decide) rfl ?_
        exact r_sub [1, 2, 3, 0, 4] rfl (t_X11_lay_113 K hl H D)
      · refine r_aload_n K 0 dX11_lay_78 rfl rfl ?_
        refine w_getO K vc11 inX11 3 (by decide) mF_RX11_35 dX11_lay_79 H (fun x5 H => ?_)
        refine w_getO K vc3 inX3 1 (by decide) mF_RX11_255 dX11_lay_82 H (fun x6 H => ?_)
        refine r_iload_n K 2 dX11_lay_85 rfl rfl ?_
        refine w_aald K 24 rfl rfl dX11_lay_86 H (fun x7 H => ?_)
        refine r_aload_n K 0 dX11_lay_87 rfl rfl ?_
        refine w_getO K vc11 inX11 8 (by decide) mF_RX11_66 dX11_lay_88 H (fun x8 H => ?_)
        refine w_getO K vc0 inX0 0 (by decide) mF_RX11_376 dX11_lay_91 H (fun x9 H => ?_)
        refine w_callV K hl H (fun r h => c_X10_copy l h) mC_yX10_copy mM_RX11_337 mI_yX10_copy mS_yX10_copy mZ_RX10 vc10 (Nat.le_of_ble_eq_true rfl) (Nat.le_of_ble_eq_true rfl) np_yX10_copy rfl (Nat.le_of_ble_eq_true rfl) dX11_lay_94 (fun μ10 H => ?_) ⟨Nat.zero_le _, Nat.zero_le _⟩
        refine r_aload_n K 0 dX11_lay_97 rfl rfl ?_
        refine w_getO K vc11 inX11 3 (by decide) mF_RX11_35 dX11_lay_98 H (fun x11 H => ?_)
        refine w_getO K vc3 inX3 1 (by decide) mF_RX11_255 dX11_lay_101 H (fun x12 H => ?_)
        refine r_iload_n K 2 dX11_lay_104 rfl rfl ?_
        refine w_aald K 24 rfl rfl dX11_lay_105 H (fun x13 H => ?_)
        refine w_getI K vc10 inX10 0 (by decide) mF_RX11_263 dX11_lay_106 H (fun x14 H => ?_)
        cases H
        simp only [Sum.elim_inr] at D
        obtain ⟨rfl, rfl⟩ := jfin2 D
        exact r_iret K dX11_lay_109
    · refine r_goto K 113 dX11_lay_70 (by decide) ?_
      exact r_sub [0, 1, 2, 3, 4] rfl (t_X11_lay_113 K hl H D)
set_option maxRecDepth 10000 in
theorem l_X11_lay_46 {X : jX} {l : Launch} {n : Nat} {Y : jY} (K : jOK X RX11 cX11_lay 5 (some .int) 4) (hl : X.2.1 = l) {rr : Int32} {μr : jM} {v0 : Nat} {v1 : Int32} {v2 : Int32}  {s0 : Int32 × Int32 × jM} {z : (Int32 × jM)} (H : jit jF (fun (s : Int32 × Int32 × jM) => b_X11_lay_46 Y v0 v1 v2 s.1 s.2.1 s.2.2) s0 = some z) (D : z = (rr, μr)) : JW X (jEnd X n Y (some (.int rr)) μr 0 0) 0 0 n Y 46 [(0, .ref v0), (1, .int v1), (2, .int v2), (3, .int s0.1), (4, .int s0.2.1)] [] s0.2.2 :=
  jit_ind (P := fun (s : Int32 × Int32 × jM) => JW X (jEnd X n Y (some (.int rr)) μr 0 0) 0 0 n Y 46 [(0, .ref v0), (1, .int v1), (2, .int v2), (3, .int s.1), (4, .int s.2.1)] [] s.2.2) (D := fun r => r = (rr, μr)) (fun s z Hs Ds => t_X11_lay_46 K hl Hs Ds) jF s0 z H D
set_option maxRecDepth 10000 in
theorem t_X11_lay_0 {X : jX} {l : Launch} {n : Nat} {Y : jY} (K : jOK X RX11 cX11_lay 5 (some .int) 4) (hl : X.2.1 = l) {rr : Int32} {μr : jM} {v0 : Nat} {v1 : Int32} {v2 : Int32} {μ : jM} {z : (Int32 × jM)} (H : f_X11_lay Y v0 v1 v2 μ = some z) (D : z = (rr, μr)) : JW X (jEnd X n Y (some (.int rr)) μr 0 0) 0 0 n Y 0 [(0, .ref v0), (1, .int v1), (2, .int v2)] [] μ := by
  unfold f_X11_lay at H
  refine r_aload_n K 0 dX11_lay_0 rfl rfl ?_
  refine w_callV K hl H (fun r h => c_X11_hasTones l h) mC_yX11_hasTones mM_RX11_147 mI_yX11_hasTones mS_yX11_hasTones mZ_RX11 vc11 (Nat.le_of_ble_eq_true rfl) (Nat.le_of_ble_eq_true rfl) np_yX11_hasTones rfl (Nat.le_of_ble_eq_true rfl) dX11_lay_1 (fun r1 H => ?_) ⟨Nat.zero_le _, Nat.zero_le _⟩
  refine w_if_eq K 18 dX11_lay_4 (by decide) H (fun _ H => ?_) (fun _ H => ?_)
  · exact r_sub [] rfl (t_X11_lay_18 K hl H D)
  · refine r_iload_n K 1 dX11_lay_7 rfl rfl ?_
    refine w_if_lt K 18 dX11_lay_8 (by decide) H (fun _ H => ?_) (fun _ H => ?_)
    · exact r_sub [] rfl (t_X11_lay_18 K hl H D)
    · refine r_iload_n K 2 dX11_lay_11 rfl rfl ?_
      refine w_callS K hl H (fun r h => c_X11_isDrawer l h) mC_yX11_isDrawer mM_RX11_252 mT_yX11_isDrawer mZ_RX11 (Nat.le_of_ble_eq_true rfl) (Nat.le_of_ble_eq_true rfl) np_yX11_isDrawer rfl (Nat.le_of_ble_eq_true rfl) dX11_lay_12 (fun r2 H => ?_) ⟨Nat.zero_le _, Nat.zero_le _⟩
      refine w_if_ne K 20 dX11_lay_15 (by decide) H (fun _ H => ?_) (fun _ H => ?_)
      · refine r_aload_n K 0 dX11_lay_20 rfl rfl ?_
        refine w_getO K vc11 inX11 3 (by decide) mF_RX11_35 dX11_lay_21 H (fun x3 H => ?_)
        refine w_getO K vc3 inX3 0 (by decide) mF_RX11_119 dX11_lay_24 H (fun x4 H => ?_)
        refine w_getI K vc9 inX9 0 (by decide) mF_RX11_126 dX11_lay_27 H (fun x5 H => ?_)
        refine r_iconst (v := 3) K dX11_lay_30 (by decide) ?_
        refine w_icmp_le K 37 dX11_lay_31 (by decide) H (fun _ H => ?_) (fun _ H => ?_)
        · refine r_aload_n K 0 dX11_lay_37 rfl rfl ?_
          refine w_callV K hl H (fun r h => c_X11_beginAllTables l h) mC_yX11_beginAllTables mM_RX11_367 mI_yX11_beginAllTables mS_yX11_beginAllTables mZ_RX11 vc11 (Nat.le_of_ble_eq_true rfl) (Nat.le_of_ble_eq_true rfl) np_yX11_beginAllTables rfl (Nat.le_of_ble_eq_true rfl) dX11_lay_38 (fun μ6 H => ?_) ⟨Nat.zero_le _, Nat.zero_le _⟩
          refine r_iconst (v := 0) K dX11_lay_41 (by decide) ?_
          refine r_istore_n K [(3, .int _), (0, .ref _), (1, .int _), (2, .int _)] dX11_lay_42 rfl (by decide) rfl ?_
          refine r_iconst (v := 0) K dX11_lay_43 (by decide) ?_
          refine r_istore K [(4, .int _), (3, .int _), (0, .ref _), (1, .int _), (2, .int _)] dX11_lay_44 (by decide) rfl ?_
          exact r_sub [2, 3, 4, 1, 0] rfl (l_X11_lay_46 K hl H D)
        · refine r_bipush (v := -2) K dX11_lay_34 (by decide) ?_
          cases H
          obtain ⟨rfl, rfl⟩ := jfin2 D
          exact r_iret K dX11_lay_36
      · exact r_sub [] rfl (t_X11_lay_18 K hl H D)
theorem c_X11_lay (l : Launch) {n : Nat} {Y : jY} {v0 : Nat} {v1 : Int32} {v2 : Int32} {μ : jM} {z : Int32 × jM} (H : f_X11_lay Y v0 v1 v2 μ = some z) : jC l yX11_lay cX11_lay 5 (some .int) 4 0 0 [.ref v0, .int v1, .int v2] n Y μ n Y (some (.int z.1)) z.2 := by
  refine jC_of (by decide +kernel) (Nat.le_of_ble_eq_true rfl) (fun X hl K _ _ _ => ?_)
  obtain ⟨rr, μr⟩ := z
  exact t_X11_lay_0 K hl H rfl
/-! RX11 ortho(III)J -/
def b_X11_ortho_41 (Y : jY) (μ : jM) : Option (Int64 × jM) :=
  some ((-9223372036854775808 : Int64), μ)
def f_X11_ortho (Y : jY) (v0 : Nat) (v1 : Int32) (v2 : Int32) (v3 : Int32) (μ : jM) : Option (Int64 × jM) :=
  (jrcv Y v0 11 (f_X11_hasTones Y v0 μ)).bind fun r1 =>
  if r1.1 = 0 then
    b_X11_ortho_41 Y r1.2
  else
    (jgO Y r1.2 v0 11 3).bind fun x2 =>
    (jgO Y r1.2 x2 3 0).bind fun x3 =>
    (jgI Y r1.2 x3 9 0).bind fun x4 =>
    (f_X11_within Y v1 ((0 : Int32)) x4 r1.2).bind fun r5 =>
    if r5.1 = 0 then
      b_X11_ortho_41 Y r5.2
    else
      (f_X11_within Y v2 ((0 : Int32)) v1 r5.2).bind fun r6 =>
      if r6.1 = 0 then
        b_X11_ortho_41 Y r6.2
      else
        (f_X11_isPart Y v3 r6.2).bind fun r7 =>
        if r7.1 = 0 then
          b_X11_ortho_41 Y r7.2
        else
          (jgO Y r7.2 v0 11 7).bind fun x8 =>
          (jgO Y r7.2 v0 11 3).bind fun x9 =>
          (jgO Y r7.2 x9 3 0).bind fun x10 =>
          (jrcv Y x8 8 (f_X8_rebuild Y x8 x10 r7.2)).bind fun μ11 =>
          (jgO Y μ11 v0 11 7).bind fun x12 =>
          (jrcv Y x12 8 (f_X8_orthogonal Y x12 v1 μ11)).bind fun r13 =>
          (jaO Y r13.2 r13.1 23 v2).bind fun x14 =>
          (jrcv Y x14 1 (f_X1_part Y x14 v3 r13.2)).bind fun r15 =>
          some (r15.1, r15.2)
set_option maxRecDepth 10000 in
theorem t_X11_ortho_41 {X : jX} {l : Launch} {n : Nat} {Y : jY} (K : jOK X RX11 cX11_ortho 4 (some .long) 7) (hl : X.2.1 = l) {rr : Int64} {μr : jM} {μ : jM} {z : (Int64 × jM)} (H : b_X11_ortho_41 Y μ = some z) (D : z = (rr, μr)) : JW X (jEnd X n Y (some (.long rr)) μr 0 0) 0 0 n Y 41 [] [] μ := by
  unfold b_X11_ortho_41 at H
  refine r_ldc2 K (-9223372036854775808) mc_RX11_151 dX11_ortho_41 ?_
  cases H
  obtain ⟨rfl, rfl⟩ := jfin2 D
  exact r_lret K dX11_ortho_44
set_option maxRecDepth 10000 in
theorem t_X11_ortho_0 {X : jX} {l : Launch} {n : Nat} {Y : jY} (K : jOK X RX11 cX11_ortho 4 (some .long) 7) (hl : X.2.1 = l) {rr : Int64} {μr : jM} {v0 : Nat} {v1 : Int32} {v2 : Int32} {v3 : Int32} {μ : jM} {z : (Int64 × jM)} (H : f_X11_ortho Y v0 v1 v2 v3 μ = some z) (D : z = (rr, μr)) : JW X (jEnd X n Y (some (.long rr)) μr 0 0) 0 0 n Y 0 [(0, .ref v0), (1, .int v1), (2, .int v2), (3, .int v3)] [] μ := by
  unfold f_X11_ortho at H
  refine r_aload_n K 0 dX11_ortho_0 rfl rfl ?_
  refine w_callV K hl H (fun r h => c_X11_hasTones l h) mC_yX11_hasTones mM_RX11_147 mI_yX11_hasTones mS_yX11_hasTones mZ_RX11 vc11 (Nat.le_of_ble_eq_true rfl) (Nat.le_of_ble_eq_true rfl) np_yX11_hasTones rfl (Nat.le_of_ble_eq_true rfl) dX11_ortho_1 (fun r1 H => ?_) ⟨Nat.zero_le _, Nat.zero_le _⟩
  refine w_if_eq K 41 dX11_ortho_4 (by decide) H (fun _ H => ?_) (fun _ H => ?_)
  · exact r_sub [] rfl (t_X11_ortho_41 K hl H D)
  · refine r_iload_n K 1 dX11_ortho_7 rfl rfl ?_
    refine r_iconst (v := 0) K dX11_ortho_8 (by decide) ?_
    refine r_aload_n K 0 dX11_ortho_9 rfl rfl ?_
    refine w_getO K vc11 inX11 3 (by decide) mF_RX11_35 dX11_ortho_10 H (fun x2 H => ?_)
    refine w_getO K vc3 inX3 0 (by decide) mF_RX11_119 dX11_ortho_13 H (fun x3 H => ?_)
    refine w_getI K vc9 inX9 0 (by decide) mF_RX11_126 dX11_ortho_16 H (fun x4 H => ?_)
    refine w_callS K hl H (fun r h => c_X11_within l h) mC_yX11_within mM_RX11_133 mT_yX11_within mZ_RX11 (Nat.le_of_ble_eq_true rfl) (Nat.le_of_ble_eq_true rfl) np_yX11_within rfl (Nat.le_of_ble_eq_true rfl) dX11_ortho_19 (fun r5 H => ?_) ⟨Nat.zero_le _, Nat.zero_le _⟩
    refine w_if_eq K 41 dX11_ortho_22 (by decide) H (fun _ H => ?_) (fun _ H => ?_)
    · exact r_sub [] rfl (t_X11_ortho_41 K hl H D)
    · refine r_iload_n K 2 dX11_ortho_25 rfl rfl ?_
      refine r_iconst (v := 0) K dX11_ortho_26 (by decide) ?_
      refine r_iload_n K 1 dX11_ortho_27 rfl rfl ?_
      refine w_callS K hl H (fun r h => c_X11_within l h) mC_yX11_within mM_RX11_133 mT_yX11_within mZ_RX11 (Nat.le_of_ble_eq_true rfl) (Nat.le_of_ble_eq_true rfl) np_yX11_within rfl (Nat.le_of_ble_eq_true rfl) dX11_ortho_28 (fun r6 H => ?_) ⟨Nat.zero_le _, Nat.zero_le _⟩
      refine w_if_eq K 41 dX11_ortho_31 (by decide) H (fun _ H => ?_) (fun _ H => ?_)
      · exact r_sub [] rfl (t_X11_ortho_41 K hl H D)
      · refine r_iload_n K 3 dX11_ortho_34 rfl rfl ?_
        refine w_callS K hl H (fun r h => c_X11_isPart l h) mC_yX11_isPart mM_RX11_170 mT_yX11_isPart mZ_RX11 (Nat.le_of_ble_eq_true rfl) (Nat.le_of_ble_eq_true rfl) np_yX11_isPart rfl (Nat.le_of_ble_eq_true rfl) dX11_ortho_35 (fun r7 H => ?_) ⟨Nat.zero_le _, Nat.zero_le _⟩
        refine w_if_ne K 45 dX11_ortho_38 (by decide) H (fun _ H => ?_) (fun _ H => ?_)
        · refine r_aload_n K 0 dX11_ortho_45 rfl rfl ?_
          refine w_getO K vc11 inX11 7 (by decide) mF_RX11_59 dX11_ortho_46 H (fun x8 H => ?_)
          refine r_aload_n K 0 dX11_ortho_49 rfl rfl ?_
          refine w_getO K vc11 inX11 3 (by decide) mF_RX11_35 dX11_ortho_50 H (fun x9 H => ?_)
          refine w_getO K vc3 inX3 0 (by decide) mF_RX11_119 dX11_ortho_53 H (fun x10 H => ?_)
          refine w_callV K hl H (fun r h => c_X8_rebuild l h) mC_yX8_rebuild mM_RX11_185 mI_yX8_rebuild mS_yX8_rebuild mZ_RX8 vc8 (Nat.le_of_ble_eq_true rfl) (Nat.le_of_ble_eq_true rfl) np_yX8_rebuild rfl (Nat.le_of_ble_eq_true rfl) dX11_ortho_56 (fun μ11 H => ?_) ⟨Nat.zero_le _, Nat.zero_le _⟩
          refine r_aload_n K 0 dX11_ortho_59 rfl rfl ?_
          refine w_getO K vc11 inX11 7 (by decide) mF_RX11_59 dX11_ortho_60 H (fun x12 H => ?_)
          refine r_iload_n K 1 dX11_ortho_63 rfl rfl ?_
          refine w_callV K hl H (fun r h => c_X8_orthogonal l h) mC_yX8_orthogonal mM_RX11_193 mI_yX8_orthogonal mS_yX8_orthogonal mZ_RX8 vc8 (Nat.le_of_ble_eq_true rfl) (Nat.le_of_ble_eq_true rfl) np_yX8_orthogonal rfl (Nat.le_of_ble_eq_true rfl) dX11_ortho_64 (fun r13 H => ?_) ⟨Nat.zero_le _, Nat.zero_le _⟩
          refine r_iload_n K 2 dX11_ortho_67 rfl rfl ?_
          refine w_aald K 23 rfl rfl dX11_ortho_68 H (fun x14 H => ?_)
          refine r_iload_n K 3 dX11_ortho_69 rfl rfl ?_
          refine w_callV K hl H (fun r h => c_X1_part l h) mC_yX1_part mM_RX11_177 mI_yX1_part mS_yX1_part mZ_RX1 vc1 (Nat.le_of_ble_eq_true rfl) (Nat.le_of_ble_eq_true rfl) np_yX1_part rfl (Nat.le_of_ble_eq_true rfl) dX11_ortho_70 (fun r15 H => ?_) ⟨Nat.zero_le _, Nat.zero_le _⟩
          cases H
          obtain ⟨rfl, rfl⟩ := jfin2 D
          exact r_lret K dX11_ortho_73
        · exact r_sub [] rfl (t_X11_ortho_41 K hl H D)
theorem c_X11_ortho (l : Launch) {n : Nat} {Y : jY} {v0 : Nat} {v1 : Int32} {v2 : Int32} {v3 : Int32} {μ : jM} {z : Int64 × jM} (H : f_X11_ortho Y v0 v1 v2 v3 μ = some z) : jC l yX11_ortho cX11_ortho 4 (some .long) 7 0 0 [.ref v0, .int v1, .int v2, .int v3] n Y μ n Y (some (.long z.1)) z.2 := by
  refine jC_of (by decide +kernel) (Nat.le_of_ble_eq_true rfl) (fun X hl K _ _ _ => ?_)
  obtain ⟨rr, μr⟩ := z
  exact t_X11_ortho_0 K hl H rfl
/-! RX11 entry(ZII)J -/
def b_X11_entry_57 (Y : jY) (μ : jM) : Option (Int64 × jM) :=
  some ((-9223372036854775808 : Int64), μ)
def b_X11_entry_108 (Y : jY) (t0 : Int64) (μ : jM) : Option (Int64 × jM) :=
  some (t0, μ)
def b_X11_entry_31 (Y : jY) (v0 : Nat) (v1 : Int32) (v2 : Int32) (v3 : Int32) (t0 : Int32) (μ : jM) : Option (Int64 × jM) :=
  (jrcv Y v0 11 (f_X11_hasTones Y v0 μ)).bind fun r1 =>
  if r1.1 = 0 then
    b_X11_entry_57 Y r1.2
  else
    (f_X11_within Y v2 ((0 : Int32)) t0 r1.2).bind fun r2 =>
    if r2.1 = 0 then
      b_X11_entry_57 Y r2.2
    else
      (f_X11_isPart Y v3 r2.2).bind fun r3 =>
      if r3.1 = 0 then
        b_X11_entry_57 Y r3.2
      else
        (jgO Y r3.2 v0 11 7).bind fun x4 =>
        (jgO Y r3.2 v0 11 3).bind fun x5 =>
        (jgO Y r3.2 x5 3 0).bind fun x6 =>
        (jrcv Y x4 8 (f_X8_rebuild Y x4 x6 r3.2)).bind fun μ7 =>
        if v1 = 0 then
          (jgO Y μ7 v0 11 7).bind fun x8 =>
          (jgO Y μ7 x8 8 3).bind fun x9 =>
          (jaO Y μ7 x9 23 v2).bind fun x10 =>
          (jrcv Y x10 1 (f_X1_part Y x10 v3 μ7)).bind fun r11 =>
          b_X11_entry_108 Y r11.1 r11.2
        else
          (jgO Y μ7 v0 11 7).bind fun x12 =>
          (jgO Y μ7 x12 8 2).bind fun x13 =>
          (jaO Y μ7 x13 23 v2).bind fun x14 =>
          (jrcv Y x14 1 (f_X1_part Y x14 v3 μ7)).bind fun r15 =>
          b_X11_entry_108 Y r15.1 r15.2
def f_X11_entry (Y : jY) (v0 : Nat) (v1 : Int32) (v2 : Int32) (v3 : Int32) (μ : jM) : Option (Int64 × jM) :=
  if v1 = 0 then
    (jgO Y μ v0 11 3).bind fun x1 =>
    (jgO Y μ x1 3 0).bind fun x2 =>
    (jgI Y μ x2 9 0).bind fun x3 =>
    b_X11_entry_31 Y v0 v1 v2 v3 (x3 - ((2 : Int32))) μ
  else
    (jgO Y μ v0 11 3).bind fun x4 =>
    (jgO Y μ x4 3 0).bind fun x5 =>
    (jgI Y μ x5 9 0).bind fun x6 =>
    b_X11_entry_31 Y v0 v1 v2 v3 (x6 - ((1 : Int32))) μ
set_option maxRecDepth 10000 in
theorem t_X11_entry_57 {X : jX} {l : Launch} {n : Nat} {Y : jY} (K : jOK X RX11 cX11_entry 5 (some .long) 7) (hl : X.2.1 = l) {rr : Int64} {μr : jM} {μ : jM} {z : (Int64 × jM)} (H : b_X11_entry_57 Y μ = some z) (D : z = (rr, μr)) : JW X (jEnd X n Y (some (.long rr)) μr 0 0) 0 0 n Y 57 [] [] μ := by
  unfold b_X11_entry_57 at H
  refine r_ldc2 K (-9223372036854775808) mc_RX11_151 dX11_entry_57 ?_
  cases H
  obtain ⟨rfl, rfl⟩ := jfin2 D
  exact r_lret K dX11_entry_60
set_option maxRecDepth 10000 in
theorem t_X11_entry_108 {X : jX} {l : Launch} {n : Nat} {Y : jY} (K : jOK X RX11 cX11_entry 5 (some .long) 7) (hl : X.2.1 = l) {rr : Int64} {μr : jM} {t0 : Int64} {μ : jM} {z : (Int64 × jM)} (H : b_X11_entry_108 Y t0 μ = some z) (D : z = (rr, μr)) : JW X (jEnd X n Y (some (.long rr)) μr 0 0) 0 0 n Y 108 [] [.long t0] μ := by
  unfold b_X11_entry_108 at H
  cases H
  obtain ⟨rfl, rfl⟩ := jfin2 D
  exact r_lret K dX11_entry_108
set_option maxRecDepth 10000 in
theorem t_X11_entry_31 {X : jX} {l : Launch} {n : Nat} {Y : jY} (K : jOK X RX11 cX11_entry 5 (some .long) 7) (hl : X.2.1 = l) {rr : Int64} {μr : jM} {v0 : Nat} {v1 : Int32} {v2 : Int32} {v3 : Int32} {t0 : Int32} {μ : jM} {z : (Int64 × jM)} (H : b_X11_entry_31 Y v0 v1 v2 v3 t0 μ = some z) (D : z = (rr, μr)) : JW X (jEnd X n Y (some (.long rr)) μr 0 0) 0 0 n Y 31 [(0, .ref v0), (1, .int v1), (2, .int v2), (3, .int v3)] [.int t0] μ := by
  unfold b_X11_entry_31 at H
  refine r_istore K [(4, .int _), (0, .ref _), (1, .int _), (2, .int _), (3, .int _)] dX11_entry_31 (by decide) rfl ?_
  refine r_aload_n K 1 dX11_entry_33 rfl rfl ?_
  refine w_callV K hl H (fun r h => c_X11_hasTones l h) mC_yX11_hasTones mM_RX11_147 mI_yX11_hasTones mS_yX11_hasTones mZ_RX11 vc11 (Nat.le_of_ble_eq_true rfl) (Nat.le_of_ble_eq_true rfl) np_yX11_hasTones rfl (Nat.le_of_ble_eq_true rfl) dX11_entry_34 (fun r1 H => ?_) ⟨Nat.zero_le _, Nat.zero_le _⟩
  refine w_if_eq K 57 dX11_entry_37 (by decide) H (fun _ H => ?_) (fun _ H => ?_)
  · exact r_sub [] rfl (t_X11_entry_57 K hl H D)
  · refine r_iload_n K 3 dX11_entry_40 rfl rfl ?_
    refine r_iconst (v := 0) K dX11_entry_41 (by decide) ?_
    refine r_iload K 0 dX11_entry_42 rfl ?_
    refine w_callS K hl H (fun r h => c_X11_within l h) mC_yX11_within mM_RX11_133 mT_yX11_within mZ_RX11 (Nat.le_of_ble_eq_true rfl) (Nat.le_of_ble_eq_true rfl) np_yX11_within rfl (Nat.le_of_ble_eq_true rfl) dX11_entry_44 (fun r2 H => ?_) ⟨Nat.zero_le _, Nat.zero_le _⟩
    refine w_if_eq K 57 dX11_entry_47 (by decide) H (fun _ H => ?_) (fun _ H => ?_)
    · exact r_sub [] rfl (t_X11_entry_57 K hl H D)
    · refine r_iload_n K 4 dX11_entry_50 rfl rfl ?_
      refine w_callS K hl H (fun r h => c_X11_isPart l h) mC_yX11_isPart mM_RX11_170 mT_yX11_isPart mZ_RX11 (Nat.le_of_ble_eq_true rfl) (Nat.le_of_ble_eq_true rfl) np_yX11_isPart rfl (Nat.le_of_ble_eq_true rfl) dX11_entry_51 (fun r3 H => ?_) ⟨Nat.zero_le _, Nat.zero_le _⟩
      refine w_if_ne K 61 dX11_entry_54 (by decide) H (fun _ H => ?_) (fun _ H => ?_)
      · refine r_aload_n K 1 dX11_entry_61 rfl rfl ?_
        refine w_getO K vc11 inX11 7 (by decide) mF_RX11_59 dX11_entry_62 H (fun x4 H => ?_)
        refine r_aload_n K 1 dX11_entry_65 rfl rfl ?_
        refine w_getO K vc11 inX11 3 (by decide) mF_RX11_35 dX11_entry_66 H (fun x5 H => ?_)
        refine w_getO K vc3 inX3 0 (by decide) mF_RX11_119 dX11_entry_69 H (fun x6 H => ?_)
        refine w_callV K hl H (fun r h => c_X8_rebuild l h) mC_yX8_rebuild mM_RX11_185 mI_yX8_rebuild mS_yX8_rebuild mZ_RX8 vc8 (Nat.le_of_ble_eq_true rfl) (Nat.le_of_ble_eq_true rfl) np_yX8_rebuild rfl (Nat.le_of_ble_eq_true rfl) dX11_entry_72 (fun μ7 H => ?_) ⟨Nat.zero_le _, Nat.zero_le _⟩
        refine r_iload_n K 2 dX11_entry_75 rfl rfl ?_
        refine w_if_eq K 95 dX11_entry_76 (by decide) H (fun _ H => ?_) (fun _ H => ?_)
        · refine r_aload_n K 1 dX11_entry_95 rfl rfl ?_
          refine w_getO K vc11 inX11 7 (by decide) mF_RX11_59 dX11_entry_96 H (fun x8 H => ?_)
          refine w_getO K vc8 inX8 3 (by decide) mF_RX11_190 dX11_entry_99 H (fun x9 H => ?_)
          refine r_iload_n K 3 dX11_entry_102 rfl rfl ?_
          refine w_aald K 23 rfl rfl dX11_entry_103 H (fun x10 H => ?_)
          refine r_iload_n K 4 dX11_entry_104 rfl rfl ?_
          refine w_callV K hl H (fun r h => c_X1_part l h) mC_yX1_part mM_RX11_177 mI_yX1_part mS_yX1_part mZ_RX1 vc1 (Nat.le_of_ble_eq_true rfl) (Nat.le_of_ble_eq_true rfl) np_yX1_part rfl (Nat.le_of_ble_eq_true rfl) dX11_entry_105 (fun r11 H => ?_) ⟨Nat.zero_le _, Nat.zero_le _⟩
          exact r_sub [] rfl (t_X11_entry_108 K hl H D)
        · refine r_aload_n K 1 dX11_entry_79 rfl rfl ?_
          refine w_getO K vc11 inX11 7 (by decide) mF_RX11_59 dX11_entry_80 H (fun x12 H => ?_)
          refine w_getO K vc8 inX8 2 (by decide) mF_RX11_186 dX11_entry_83 H (fun x13 H => ?_)
          refine r_iload_n K 3 dX11_entry_86 rfl rfl ?_
          refine w_aald K 23 rfl rfl dX11_entry_87 H (fun x14 H => ?_)
          refine r_iload_n K 4 dX11_entry_88 rfl rfl ?_
          refine w_callV K hl H (fun r h => c_X1_part l h) mC_yX1_part mM_RX11_177 mI_yX1_part mS_yX1_part mZ_RX1 vc1 (Nat.le_of_ble_eq_true rfl) (Nat.le_of_ble_eq_true rfl) np_yX1_part rfl (Nat.le_of_ble_eq_true rfl) dX11_entry_89 (fun r15 H => ?_) ⟨Nat.zero_le _, Nat.zero_le _⟩
          refine r_goto K 108 dX11_entry_92 (by decide) ?_
          exact r_sub [] rfl (t_X11_entry_108 K hl H D)
      · exact r_sub [] rfl (t_X11_entry_57 K hl H D)
set_option maxRecDepth 10000 in
theorem t_X11_entry_0 {X : jX} {l : Launch} {n : Nat} {Y : jY} (K : jOK X RX11 cX11_entry 5 (some .long) 7) (hl : X.2.1 = l) {rr : Int64} {μr : jM} {v0 : Nat} {v1 : Int32} {v2 : Int32} {v3 : Int32} {μ : jM} {z : (Int64 × jM)} (H : f_X11_entry Y v0 v1 v2 v3 μ = some z) (D : z = (rr, μr)) : JW X (jEnd X n Y (some (.long rr)) μr 0 0) 0 0 n Y 0 [(0, .ref v0), (1, .int v1), (2, .int v2), (3, .int v3)] [] μ := by
  unfold f_X11_entry at H
  refine r_iload_n K 1 dX11_entry_0 rfl rfl ?_
  refine w_if_eq K 19 dX11_entry_1 (by decide) H (fun _ H => ?_) (fun _ H => ?_)
  · refine r_aload_n K 0 dX11_entry_19 rfl rfl ?_
    refine w_getO K vc11 inX11 3 (by decide) mF_RX11_35 dX11_entry_20 H (fun x1 H => ?_)
    refine w_getO K vc3 inX3 0 (by decide) mF_RX11_119 dX11_entry_23 H (fun x2 H => ?_)
    refine w_getI K vc9 inX9 0 (by decide) mF_RX11_126 dX11_entry_26 H (fun x3 H => ?_)
    refine r_iconst (v := 2) K dX11_entry_29 (by decide) ?_
    refine r_isub K dX11_entry_30 ?_
    exact r_sub [0, 1, 2, 3] rfl (t_X11_entry_31 K hl H D)
  · refine r_aload_n K 0 dX11_entry_4 rfl rfl ?_
    refine w_getO K vc11 inX11 3 (by decide) mF_RX11_35 dX11_entry_5 H (fun x4 H => ?_)
    refine w_getO K vc3 inX3 0 (by decide) mF_RX11_119 dX11_entry_8 H (fun x5 H => ?_)
    refine w_getI K vc9 inX9 0 (by decide) mF_RX11_126 dX11_entry_11 H (fun x6 H => ?_)
    refine r_iconst (v := 1) K dX11_entry_14 (by decide) ?_
    refine r_isub K dX11_entry_15 ?_
    refine r_goto K 31 dX11_entry_16 (by decide) ?_
    exact r_sub [0, 1, 2, 3] rfl (t_X11_entry_31 K hl H D)
theorem c_X11_entry (l : Launch) {n : Nat} {Y : jY} {v0 : Nat} {v1 : Int32} {v2 : Int32} {v3 : Int32} {μ : jM} {z : Int64 × jM} (H : f_X11_entry Y v0 v1 v2 v3 μ = some z) : jC l yX11_entry cX11_entry 5 (some .long) 7 0 0 [.ref v0, .int v1, .int v2, .int v3] n Y μ n Y (some (.long z.1)) z.2 := by
  refine jC_of (by decide +kernel) (Nat.le_of_ble_eq_true rfl) (fun X hl K _ _ _ => ?_)
  obtain ⟨rr, μr⟩ := z
  exact t_X11_entry_0 K hl H rfl
/-! RX11 change(II)I -/
def b_X11_change_16 (Y : jY) (μ : jM) : Option (Int32 × jM) :=
  some ((-1 : Int32), μ)
def b_X11_change_55 (Y : jY) (t0 : Int32) (μ : jM) : Option (Int32 × jM) :=
  some (t0, μ)
def f_X11_change (Y : jY) (v0 : Nat) (v1 : Int32) (v2 : Int32) (μ : jM) : Option (Int32 × jM) :=
  (f_X11_isDrawer Y v1 μ).bind fun r1 =>
  if r1.1 = 0 then
    b_X11_change_16 Y r1.2
  else
    (f_X11_within Y v2 ((0 : Int32)) ((4 : Int32)) r1.2).bind fun r2 =>
    if r2.1 = 0 then
      b_X11_change_16 Y r2.2
    else
      (jgO Y r2.2 v0 11 3).bind fun x3 =>
      (jgO Y r2.2 x3 3 1).bind fun x4 =>
      (jaO Y r2.2 x4 24 v1).bind fun x5 =>
      (jgI Y r2.2 x5 10 0).bind fun x6 =>
      if x6 = 0 then
        some ((-2 : Int32), r2.2)
      else
        (jrcv Y x5 10 (f_X10_alter Y x5 v2 r2.2)).bind fun r7 =>
        if r7.1 = 0 then
          b_X11_change_55 Y (-3 : Int32) r7.2
        else
          (jgI Y r7.2 x5 10 0).bind fun x8 =>
          b_X11_change_55 Y x8 r7.2
set_option maxRecDepth 10000 in
theorem t_X11_change_16 {X : jX} {l : Launch} {n : Nat} {Y : jY} (K : jOK X RX11 cX11_change 4 (some .int) 5) (hl : X.2.1 = l) {rr : Int32} {μr : jM} {μ : jM} {z : (Int32 × jM)} (H : b_X11_change_16 Y μ = some z) (D : z = (rr, μr)) : JW X (jEnd X n Y (some (.int rr)) μr 0 0) 0 0 n Y 16 [] [] μ := by
  unfold b_X11_change_16 at H
  refine r_iconst (v := -1) K dX11_change_16 (by decide) ?_
  cases H
  obtain ⟨rfl, rfl⟩ := jfin2 D
  exact r_iret K dX11_change_17
set_option maxRecDepth 10000 in
theorem t_X11_change_55 {X : jX} {l : Launch} {n : Nat} {Y : jY} (K : jOK X RX11 cX11_change 4 (some .int) 5) (hl : X.2.1 = l) {rr : Int32} {μr : jM} {t0 : Int32} {μ : jM} {z : (Int32 × jM)} (H : b_X11_change_55 Y t0 μ = some z) (D : z = (rr, μr)) : JW X (jEnd X n Y (some (.int rr)) μr 0 0) 0 0 n Y 55 [] [.int t0] μ := by
  unfold b_X11_change_55 at H
  cases H
  obtain ⟨rfl, rfl⟩ := jfin2 D
  exact r_iret K dX11_change_55
set_option maxRecDepth 10000 in
theorem t_X11_change_0 {X : jX} {l : Launch} {n : Nat} {Y : jY} (K : jOK X RX11 cX11_change 4 (some .int) 5) (hl : X.2.1 = l) {rr : Int32} {μr : jM} {v0 : Nat} {v1 : Int32} {v2 : Int32} {μ : jM} {z : (Int32 × jM)} (H : f_X11_change Y v0 v1 v2 μ = some z) (D : z = (rr, μr)) : JW X (jEnd X n Y (some (.int rr)) μr 0 0) 0 0 n Y 0 [(0, .ref v0), (1, .int v1), (2, .int v2)] [] μ := by
  unfold f_X11_change at H
  refine r_iload_n K 1 dX11_change_0 rfl rfl ?_
  refine w_callS K hl H (fun r h => c_X11_isDrawer l h) mC_yX11_isDrawer mM_RX11_252 mT_yX11_isDrawer mZ_RX11 (Nat.le_of_ble_eq_true rfl) (Nat.le_of_ble_eq_true rfl) np_yX11_isDrawer rfl (Nat.le_of_ble_eq_true rfl) dX11_change_1 (fun r1 H => ?_) ⟨Nat.zero_le _, Nat.zero_le _⟩
  refine w_if_eq K 16 dX11_change_4 (by decide) H (fun _ H => ?_) (fun _ H => ?_)
  · exact r_sub [] rfl (t_X11_change_16 K hl H D)
  · refine r_iload_n K 2 dX11_change_7 rfl rfl ?_
    refine r_iconst (v := 0) K dX11_change_8 (by decide) ?_
    refine r_iconst (v := 4) K dX11_change_9 (by decide) ?_
    refine w_callS K hl H (fun r h => c_X11_within l h) mC_yX11_within mM_RX11_133 mT_yX11_within mZ_RX11 (Nat.le_of_ble_eq_true rfl) (Nat.le_of_ble_eq_true rfl) np_yX11_within rfl (Nat.le_of_ble_eq_true rfl) dX11_change_10 (fun r2 H => ?_) ⟨Nat.zero_le _, Nat.zero_le _⟩
    refine w_if_ne K 18 dX11_change_13 (by decide) H (fun _ H => ?_) (fun _ H => ?_)
    · refine r_aload_n K 0 dX11_change_18 rfl rfl ?_
      refine w_getO K vc11 inX11 3 (by decide) mF_RX11_35 dX11_change_19 H (fun x3 H => ?_)
      refine w_getO K vc3 inX3 1 (by decide) mF_RX11_255 dX11_change_22 H (fun x4 H => ?_)
      refine r_iload_n K 1 dX11_change_25 rfl rfl ?_
      refine w_aald K 24 rfl rfl dX11_change_26 H (fun x5 H => ?_)
      refine r_astore_n K [(3, .ref _), (0, .ref _), (1, .int _), (2, .int _)] dX11_change_27 rfl (by decide) rfl ?_
      refine r_aload_n K 0 dX11_change_28 rfl rfl ?_
      refine w_getI K vc10 inX10 0 (by decide) mF_RX11_263 dX11_change_29 H (fun x6 H => ?_)
      refine w_if_ne K 38 dX11_change_32 (by decide) H (fun _ H => ?_) (fun _ H => ?_)
      · refine r_aload_n K 0 dX11_change_38 rfl rfl ?_
        refine r_iload_n K 3 dX11_change_39 rfl rfl ?_
        refine w_callV K hl H (fun r h => c_X10_alter l h) mC_yX10_alter mM_RX11_334 mI_yX10_alter mS_yX10_alter mZ_RX10 vc10 (Nat.le_of_ble_eq_true rfl) (Nat.le_of_ble_eq_true rfl) np_yX10_alter rfl (Nat.le_of_ble_eq_true rfl) dX11_change_40 (fun r7 H => ?_) ⟨Nat.zero_le _, Nat.zero_le _⟩
        refine w_if_eq K 53 dX11_change_43 (by decide) H (fun _ H => ?_) (fun _ H => ?_)
        · refine r_bipush (v := -3) K dX11_change_53 (by decide) ?_
          exact r_sub [] rfl (t_X11_change_55 K hl H D)
        · refine r_aload_n K 0 dX11_change_46 rfl rfl ?_
          refine w_getI K vc10 inX10 0 (by decide) mF_RX11_263 dX11_change_47 H (fun x8 H => ?_)
          refine r_goto K 55 dX11_change_50 (by decide) ?_
          exact r_sub [] rfl (t_X11_change_55 K hl H D)
      · refine r_bipush (v := -2) K dX11_change_35 (by decide) ?_
        cases H
        obtain ⟨rfl, rfl⟩ := jfin2 D
        exact r_iret K dX11_change_37
    · exact r_sub [] rfl (t_X11_change_16 K hl H D)
theorem c_X11_change (l : Launch) {n : Nat} {Y : jY} {v0 : Nat} {v1 : Int32} {v2 : Int32} {μ : jM} {z : Int32 × jM} (H : f_X11_change Y v0 v1 v2 μ = some z) : jC l yX11_change cX11_change 4 (some .int) 5 0 0 [.ref v0, .int v1, .int v2] n Y μ n Y (some (.int z.1)) z.2 := by
  refine jC_of (by decide +kernel) (Nat.le_of_ble_eq_true rfl) (fun X hl K _ _ _ => ?_)
  obtain ⟨rr, μr⟩ := z
  exact t_X11_change_0 K hl H rfl
/-! RX11 isTone(I)Z -/
def f_X11_isTone (Y : jY) (v0 : Nat) (v1 : Int32) (μ : jM) : Option (Int32 × jM) :=
  (jgO Y μ v0 11 3).bind fun x1 =>
  (jgO Y μ x1 3 0).bind fun x2 =>
  (jgI Y μ x2 9 0).bind fun x3 =>
  (f_X11_within Y v1 ((0 : Int32)) ((x3 - ((1 : Int32)))) μ).bind fun r4 =>
  (jbool r4.1).bind fun x5 =>
  some (x5, r4.2)
set_option maxRecDepth 10000 in
theorem t_X11_isTone_0 {X : jX} {l : Launch} {n : Nat} {Y : jY} (K : jOK X RX11 cX11_isTone 2 (some .boolean) 2) (hl : X.2.1 = l) {rr : Int32} {μr : jM} {v0 : Nat} {v1 : Int32} {μ : jM} {z : (Int32 × jM)} (H : f_X11_isTone Y v0 v1 μ = some z) (D : z = (rr, μr)) : JW X (jEnd X n Y (some (.int rr)) μr 0 0) 0 0 n Y 0 [(0, .ref v0), (1, .int v1)] [] μ := by
  unfold f_X11_isTone at H
  refine r_iload_n K 1 dX11_isTone_0 rfl rfl ?_
  refine r_iconst (v := 0) K dX11_isTone_1 (by decide) ?_
  refine r_aload_n K 0 dX11_isTone_2 rfl rfl ?_
  refine w_getO K vc11 inX11 3 (by decide) mF_RX11_35 dX11_isTone_3 H (fun x1 H => ?_)
  refine w_getO K vc3 inX3 0 (by decide) mF_RX11_119 dX11_isTone_6 H (fun x2 H => ?_)
  refine w_getI K vc9 inX9 0 (by decide) mF_RX11_126 dX11_isTone_9 H (fun x3 H => ?_)
  refine r_iconst (v := 1) K dX11_isTone_12 (by decide) ?_
  refine r_isub K dX11_isTone_13 ?_
  refine w_callS K hl H (fun r h => c_X11_within l h) mC_yX11_within mM_RX11_133 mT_yX11_within mZ_RX11 (Nat.le_of_ble_eq_true rfl) (Nat.le_of_ble_eq_true rfl) np_yX11_within rfl (Nat.le_of_ble_eq_true rfl) dX11_isTone_14 (fun r4 H => ?_) ⟨Nat.zero_le _, Nat.zero_le _⟩
  refine w_zret K dX11_isTone_17 H (fun hz H => ?_)
  cases H
  obtain ⟨rfl, rfl⟩ := jfin2 D
  exact r_zret K hz dX11_isTone_17
theorem c_X11_isTone (l : Launch) {n : Nat} {Y : jY} {v0 : Nat} {v1 : Int32} {μ : jM} {z : Int32 × jM} (H : f_X11_isTone Y v0 v1 μ = some z) : jC l yX11_isTone cX11_isTone 2 (some .boolean) 2 0 0 [.ref v0, .int v1] n Y μ n Y (some (.int z.1)) z.2 := by
  refine jC_of (by decide +kernel) (Nat.le_of_ble_eq_true rfl) (fun X hl K _ _ _ => ?_)
  obtain ⟨rr, μr⟩ := z
  exact t_X11_isTone_0 K hl H rfl
