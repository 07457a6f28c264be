/-! RX11 tune(ZII)I -/
def b_X11_tune_61 (Y : jY) (μ : jM) : Option (Int32 × jM) :=
  some ((-1 : Int32), μ)
def b_X11_tune_104 (Y : jY) (v0 : Nat) (μ : jM) : Option (Int32 × jM) :=
  (jrcv Y v0 11 (f_X11_takeSpareTones Y v0 μ)).bind fun r1 =>
  some (r1.1, r1.2)
def b_X11_tune_31 (Y : jY) (v0 : Nat) (v1 : Int32) (v2 : Int32) (v3 : Int32) (t0 : Int32) (μ : jM) : Option (Int32 × jM) :=
  (jrcv Y v0 11 (f_X11_hasTones Y v0 μ)).bind fun r1 =>
  if r1.1 = 0 then
    b_X11_tune_61 Y r1.2
  else
    (f_X11_within Y v2 ((0 : Int32)) t0 r1.2).bind fun r2 =>
    if r2.1 = 0 then
      b_X11_tune_61 Y r2.2
    else
      (f_X11_within Y v3 ((-6 : Int32)) ((6 : Int32)) r2.2).bind fun r3 =>
      if r3.1 = 0 then
        b_X11_tune_61 Y r3.2
      else
        (jgO Y r3.2 v0 11 11).bind fun x4 =>
        (jgO Y r3.2 v0 11 3).bind fun x5 =>
        (jgO Y r3.2 x5 3 0).bind fun x6 =>
        (jrcv Y x4 9 (f_X9_copy Y x4 x6 r3.2)).bind fun μ7 =>
        if v1 = 0 then
          (jgO Y μ7 v0 11 11).bind fun x8 =>
          (jgO Y μ7 x8 9 2).bind fun x9 =>
          (jas Y μ7 x9 20 v2 (.int v3)).bind fun μ10 =>
          b_X11_tune_104 Y v0 μ10
        else
          (jgO Y μ7 v0 11 11).bind fun x11 =>
          (jgO Y μ7 x11 9 1).bind fun x12 =>
          (jas Y μ7 x12 20 v2 (.int v3)).bind fun μ13 =>
          b_X11_tune_104 Y v0 μ13
def f_X11_tune (Y : jY) (v0 : Nat) (v1 : Int32) (v2 : Int32) (v3 : Int32) (μ : jM) : Option (Int32 × jM) :=
  if v1 = 0 then
    (jgO Y μ v0 11 3).bind fun x1 =>
    (jgO Y μ x1 3 0).bind fun x2 =>
    (jgI Y μ x2 9 0).bind fun x3 =>
    b_X11_tune_31 Y v0 v1 v2 v3 (x3 - ((2 : Int32))) μ
  else
    (jgO Y μ v0 11 3).bind fun x4 =>
    (jgO Y μ x4 3 0).bind fun x5 =>
    (jgI Y μ x5 9 0).bind fun x6 =>
    b_X11_tune_31 Y v0 v1 v2 v3 (x6 - ((1 : Int32))) μ
set_option maxRecDepth 10000 in
theorem t_X11_tune_61 {X : jX} {l : Launch} {n : Nat} {Y : jY} (K : jOK X RX11 cX11_tune 5 (some .int) 4) (hl : X.2.1 = l) {rr : Int32} {μr : jM} {μ : jM} {z : (Int32 × jM)} (H : b_X11_tune_61 Y μ = some z) (D : z = (rr, μr)) : JW X (jEnd X n Y (some (.int rr)) μr 0 0) 0 0 n Y 61 [] [] μ := by
  unfold b_X11_tune_61 at H
  refine r_iconst (v := -1) K dX11_tune_61 (by decide) ?_
  cases H
  obtain ⟨rfl, rfl⟩ := jfin2 D
  exact r_iret K dX11_tune_62
set_option maxRecDepth 10000 in
theorem t_X11_tune_104 {X : jX} {l : Launch} {n : Nat} {Y : jY} (K : jOK X RX11 cX11_tune 5 (some .int) 4) (hl : X.2.1 = l) {rr : Int32} {μr : jM} {v0 : Nat} {μ : jM} {z : (Int32 × jM)} (H : b_X11_tune_104 Y v0 μ = some z) (D : z = (rr, μr)) : JW X (jEnd X n Y (some (.int rr)) μr 0 0) 0 0 n Y 104 [(0, .ref v0)] [] μ := by
  unfold b_X11_tune_104 at H
  refine r_aload_n K 0 dX11_tune_104 rfl rfl ?_
  refine w_callV K hl H (fun r h => c_X11_takeSpareTones l h) mC_yX11_takeSpareTones mM_RX11_249 mI_yX11_takeSpareTones mS_yX11_takeSpareTones mZ_RX11 vc11 (Nat.le_of_ble_eq_true rfl) (Nat.le_of_ble_eq_true rfl) np_yX11_takeSpareTones rfl (Nat.le_of_ble_eq_true rfl) dX11_tune_105 (fun r1 H => ?_) ⟨Nat.zero_le _, Nat.zero_le _⟩
  cases H
  obtain ⟨rfl, rfl⟩ := jfin2 D
  exact r_iret K dX11_tune_108
set_option maxRecDepth 10000 in
theorem t_X11_tune_31 {X : jX} {l : Launch} {n : Nat} {Y : jY} (K : jOK X RX11 cX11_tune 5 (some .int) 4) (hl : X.2.1 = l) {rr : Int32} {μr : jM} {v0 : Nat} {v1 : Int32} {v2 : Int32} {v3 : Int32} {t0 : Int32} {μ : jM} {z : (Int32 × jM)} (H : b_X11_tune_31 Y v0 v1 v2 v3 t0 μ = some z) (D : z = (rr, μr)) : JW X (jEnd X n Y (some (.int rr)) μr 0 0) 0 0 n Y 31 [(0, .ref v0), (1, .int v1), (2, .int v2), (3, .int v3)] [.int t0] μ := by
  unfold b_X11_tune_31 at H
  refine r_istore K [(4, .int _), (0, .ref _), (1, .int _), (2, .int _), (3, .int _)] dX11_tune_31 (by decide) rfl ?_
  refine r_aload_n K 1 dX11_tune_33 rfl rfl ?_
  refine w_callV K hl H (fun r h => c_X11_hasTones l h) mC_yX11_hasTones mM_RX11_147 mI_yX11_hasTones mS_yX11_hasTones mZ_RX11 vc11 (Nat.le_of_ble_eq_true rfl) (Nat.le_of_ble_eq_true rfl) np_yX11_hasTones rfl (Nat.le_of_ble_eq_true rfl) dX11_tune_34 (fun r1 H => ?_) ⟨Nat.zero_le _, Nat.zero_le _⟩
  refine w_if_eq K 61 dX11_tune_37 (by decide) H (fun _ H => ?_) (fun _ H => ?_)
  · exact r_sub [] rfl (t_X11_tune_61 K hl H D)
  · refine r_iload_n K 3 dX11_tune_40 rfl rfl ?_
    refine r_iconst (v := 0) K dX11_tune_41 (by decide) ?_
    refine r_iload K 0 dX11_tune_42 rfl ?_
    refine w_callS K hl H (fun r h => c_X11_within l h) mC_yX11_within mM_RX11_133 mT_yX11_within mZ_RX11 (Nat.le_of_ble_eq_true rfl) (Nat.le_of_ble_eq_true rfl) np_yX11_within rfl (Nat.le_of_ble_eq_true rfl) dX11_tune_44 (fun r2 H => ?_) ⟨Nat.zero_le _, Nat.zero_le _⟩
    refine w_if_eq K 61 dX11_tune_47 (by decide) H (fun _ H => ?_) (fun _ H => ?_)
    · exact r_sub [] rfl (t_X11_tune_61 K hl H D)
    · refine r_iload_n K 4 dX11_tune_50 rfl rfl ?_
      refine r_bipush (v := -6) K dX11_tune_51 (by decide) ?_
      refine r_bipush (v := 6) K dX11_tune_53 (by decide) ?_
      refine w_callS K hl H (fun r h => c_X11_within l h) mC_yX11_within mM_RX11_133 mT_yX11_within mZ_RX11 (Nat.le_of_ble_eq_true rfl) (Nat.le_of_ble_eq_true rfl) np_yX11_within rfl (Nat.le_of_ble_eq_true rfl) dX11_tune_55 (fun r3 H => ?_) ⟨Nat.zero_le _, Nat.zero_le _⟩
      refine w_if_ne K 63 dX11_tune_58 (by decide) H (fun _ H => ?_) (fun _ H => ?_)
      · refine r_aload_n K 1 dX11_tune_63 rfl rfl ?_
        refine w_getO K vc11 inX11 11 (by decide) mF_RX11_87 dX11_tune_64 H (fun x4 H => ?_)
        refine r_aload_n K 1 dX11_tune_67 rfl rfl ?_
        refine w_getO K vc11 inX11 3 (by decide) mF_RX11_35 dX11_tune_68 H (fun x5 H => ?_)
        refine w_getO K vc3 inX3 0 (by decide) mF_RX11_119 dX11_tune_71 H (fun x6 H => ?_)
        refine w_callV K hl H (fun r h => c_X9_copy l h) mC_yX9_copy mM_RX11_243 mI_yX9_copy mS_yX9_copy mZ_RX9 vc9 (Nat.le_of_ble_eq_true rfl) (Nat.le_of_ble_eq_true rfl) np_yX9_copy rfl (Nat.le_of_ble_eq_true rfl) dX11_tune_74 (fun μ7 H => ?_) ⟨Nat.zero_le _, Nat.zero_le _⟩
        refine r_iload_n K 2 dX11_tune_77 rfl rfl ?_
        refine w_if_eq K 94 dX11_tune_78 (by decide) H (fun _ H => ?_) (fun _ H => ?_)
        · refine r_aload_n K 1 dX11_tune_94 rfl rfl ?_
          refine w_getO K vc11 inX11 11 (by decide) mF_RX11_87 dX11_tune_95 H (fun x8 H => ?_)
          refine w_getO K vc9 inX9 2 (by decide) mF_RX11_141 dX11_tune_98 H (fun x9 H => ?_)
          refine r_iload_n K 3 dX11_tune_101 rfl rfl ?_
          refine r_iload_n K 4 dX11_tune_102 rfl rfl ?_
          refine w_iast K dX11_tune_103 H (fun μ10 H => ?_)
          exact r_sub [1] rfl (t_X11_tune_104 K hl H D)
        · refine r_aload_n K 1 dX11_tune_81 rfl rfl ?_
          refine w_getO K vc11 inX11 11 (by decide) mF_RX11_87 dX11_tune_82 H (fun x11 H => ?_)
          refine w_getO K vc9 inX9 1 (by decide) mF_RX11_137 dX11_tune_85 H (fun x12 H => ?_)
          refine r_iload_n K 3 dX11_tune_88 rfl rfl ?_
          refine r_iload_n K 4 dX11_tune_89 rfl rfl ?_
          refine w_iast K dX11_tune_90 H (fun μ13 H => ?_)
          refine r_goto K 104 dX11_tune_91 (by decide) ?_
          exact r_sub [1] rfl (t_X11_tune_104 K hl H D)
      · exact r_sub [] rfl (t_X11_tune_61 K hl H D)
set_option maxRecDepth 10000 in
theorem t_X11_tune_0 {X : jX} {l : Launch} {n : Nat} {Y : jY} (K : jOK X RX11 cX11_tune 5 (some .int) 4) (hl : X.2.1 = l) {rr : Int32} {μr : jM} {v0 : Nat} {v1 : Int32} {v2 : Int32} {v3 : Int32} {μ : jM} {z : (Int32 × jM)} (H : f_X11_tune Y v0 v1 v2 v3 μ = some z) (D : z = (rr, μr)) : JW X (jEnd X n Y (some (.int rr)) μr 0 0) 0 0 n Y 0 [(0, .ref v0), (1, .int v1), (2, .int v2), (3, .int v3)] [] μ := by
  unfold f_X11_tune at H
  refine r_iload_n K 1 dX11_tune_0 rfl rfl ?_
  refine w_if_eq K 19 dX11_tune_1 (by decide) H (fun _ H => ?_) (fun _ H => ?_)
  · refine r_aload_n K 0 dX11_tune_19 rfl rfl ?_
    refine w_getO K vc11 inX11 3 (by decide) mF_RX11_35 dX11_tune_20 H (fun x1 H => ?_)
    refine w_getO K vc3 inX3 0 (by decide) mF_RX11_119 dX11_tune_23 H (fun x2 H => ?_)
    refine w_getI K vc9 inX9 0 (by decide) mF_RX11_126 dX11_tune_26 H (fun x3 H => ?_)
    refine r_iconst (v := 2) K dX11_tune_29 (by decide) ?_
    refine r_isub K dX11_tune_30 ?_
    exact r_sub [0, 1, 2, 3] rfl (t_X11_tune_31 K hl H D)
  · refine r_aload_n K 0 dX11_tune_4 rfl rfl ?_
    refine w_getO K vc11 inX11 3 (by decide) mF_RX11_35 dX11_tune_5 H (fun x4 H => ?_)
    refine w_getO K vc3 inX3 0 (by decide) mF_RX11_119 dX11_tune_8 H (fun x5 H => ?_)
    refine w_getI K vc9 inX9 0 (by decide) mF_RX11_126 dX11_tune_11 H (fun x6 H => ?_)
    refine r_iconst (v := 1) K dX11_tune_14 (by decide) ?_
    refine r_isub K dX11_tune_15 ?_
    refine r_goto K 31 dX11_tune_16 (by decide) ?_
    exact r_sub [0, 1, 2, 3] rfl (t_X11_tune_31 K hl H D)
theorem c_X11_tune (l : Launch) {n : Nat} {Y : jY} {v0 : Nat} {v1 : Int32} {v2 : Int32} {v3 : Int32} {μ : jM} {z : Int32 × jM} (H : f_X11_tune Y v0 v1 v2 v3 μ = some z) : jC l yX11_tune cX11_tune 5 (some .int) 4 0 0 [.ref v0, .int v1, .int v2, .int v3] n Y μ n Y (some (.int z.1)) z.2 := by
  refine jC_of (by decide +kernel) (Nat.le_of_ble_eq_true rfl) (fun X hl K _ _ _ => ?_)
  obtain ⟨rr, μr⟩ := z
  exact t_X11_tune_0 K hl H rfl
/-! RX11 rivals(IIZ)I -/
def b_X11_rivals_16 (Y : jY) (μ : jM) : Option (Int32 × jM) :=
  some ((-1 : Int32), μ)
def b_X11_rivals_215 (Y : jY) (t0 : Int32) (μ : jM) : Option (Int32 × jM) :=
  some (t0, μ)
def b_X11_rivals_193 (Y : jY) (v0 : Nat) (v2 : Int32) (v3 : Int32) (v4 : Nat) (v5 : Int32) (v6 : Int32) (v7 : Int32) (v8 : Int32) (v10 : Int32) (v11 : Int32) (μ : jM) : Option ((Int32 × Int32 × jM) ⊕ ((Int32 × Int32 × jM) ⊕ (Int32 × jM))) :=
  some (.inl (v5, (v11 + (1 : Int32)), μ))
def b_X11_rivals_189 (Y : jY) (t0 : Int32) (μ : jM) : Option (Int32 × jM) :=
  some (t0, μ)
def b_X11_rivals_128 (Y : jY) (v0 : Nat) (v2 : Int32) (v3 : Int32) (v4 : Nat) (v5 : Int32) (v6 : Int32) (v7 : Int32) (v8 : Int32) (v10 : Int32) (v11 : Int32) (μ : jM) : Option ((Int32 × Int32 × jM) ⊕ ((Int32 × Int32 × jM) ⊕ (Int32 × jM))) :=
  if v10 < v11 then
    some (.inr (.inl (v5, (v6 + (1 : Int32)), μ)))
  else
    (jrcv Y v0 11 (f_X11_isRival Y v0 v4 v7 v8 v11 v2 μ)).bind fun r1 =>
    if r1.1 = 0 then
      b_X11_rivals_193 Y v0 v2 v3 v4 v5 v6 v7 v8 v10 v11 r1.2
    else
      if v3 = 0 then
        b_X11_rivals_193 Y v0 v2 v3 v4 (v5 + (1 : Int32)) v6 v7 v8 v10 v11 r1.2
      else
        if v7 = 0 then
          (b_X11_rivals_189 Y (((((1000 : Int32)) + ((((100 : Int32)) * v8)))) + v11) r1.2).map (fun r => (.inr (.inr r)))
        else
          (b_X11_rivals_189 Y (((((((100 : Int32)) * v8)) + v11)) + ((6 : Int32))) r1.2).map (fun r => (.inr (.inr r)))
def b_X11_rivals_122 (Y : jY) (v0 : Nat) (v2 : Int32) (v3 : Int32) (v4 : Nat) (v5 : Int32) (v6 : Int32) (v7 : Int32) (v8 : Int32) (v9 : Int32) (t0 : Int32) (μ : jM) : Option ((Int32 × Int32 × jM) ⊕ (Int32 × jM)) :=
  jit jF (fun (s : Int32 × Int32 × jM) => b_X11_rivals_128 Y v0 v2 v3 v4 s.1 v6 v7 v8 t0 s.2.1 s.2.2) (v5, v9, μ)
def b_X11_rivals_108 (Y : jY) (v0 : Nat) (v2 : Int32) (v3 : Int32) (v4 : Nat) (v5 : Int32) (v6 : Int32) (v7 : Int32) (v8 : Int32) (t0 : Int32) (μ : jM) : Option ((Int32 × Int32 × jM) ⊕ (Int32 × jM)) :=
  if v7 = 0 then
    b_X11_rivals_122 Y v0 v2 v3 v4 v5 v6 v7 v8 t0 (36 : Int32) μ
  else
    b_X11_rivals_122 Y v0 v2 v3 v4 v5 v6 v7 v8 t0 (6 : Int32) μ
def b_X11_rivals_95 (Y : jY) (v0 : Nat) (v2 : Int32) (v3 : Int32) (v4 : Nat) (v5 : Int32) (v6 : Int32) (v7 : Int32) (t0 : Int32) (μ : jM) : Option ((Int32 × Int32 × jM) ⊕ (Int32 × jM)) :=
  if v7 = 0 then
    b_X11_rivals_108 Y v0 v2 v3 v4 v5 v6 v7 t0 (1 : Int32) μ
  else
    b_X11_rivals_108 Y v0 v2 v3 v4 v5 v6 v7 t0 (-6 : Int32) μ
def b_X11_rivals_75 (Y : jY) (v0 : Nat) (v2 : Int32) (v3 : Int32) (v4 : Nat) (v5 : Int32) (v6 : Int32) (t0 : Int32) (μ : jM) : Option ((Int32 × Int32 × jM) ⊕ (Int32 × jM)) :=
  if t0 = 0 then
    (jgI Y μ v4 10 0).bind fun x1 =>
    b_X11_rivals_95 Y v0 v2 v3 v4 v5 v6 t0 (v6 - x1) μ
  else
    b_X11_rivals_95 Y v0 v2 v3 v4 v5 v6 t0 v6 μ
def b_X11_rivals_46 (Y : jY) (v0 : Nat) (v2 : Int32) (v3 : Int32) (v4 : Nat) (v5 : Int32) (v6 : Int32) (μ : jM) : Option ((Int32 × Int32 × jM) ⊕ (Int32 × jM)) :=
  (jgI Y μ v4 10 0).bind fun x1 =>
  if ((((((2 : Int32)) * x1)) - ((1 : Int32)))) ≤ v6 then
    if v3 = 0 then
      (b_X11_rivals_215 Y v5 μ).map (fun r => (.inr r))
    else
      (b_X11_rivals_215 Y (-1 : Int32) μ).map (fun r => (.inr r))
  else
    (jgI Y μ v4 10 0).bind fun x2 =>
    if x2 ≤ v6 then
      b_X11_rivals_75 Y v0 v2 v3 v4 v5 v6 (0 : Int32) μ
    else
      b_X11_rivals_75 Y v0 v2 v3 v4 v5 v6 (1 : Int32) μ
def f_X11_rivals (Y : jY) (v0 : Nat) (v1 : Int32) (v2 : Int32) (v3 : Int32) (μ : jM) : Option (Int32 × jM) :=
  (f_X11_isDrawer Y v1 μ).bind fun r1 =>
  if r1.1 = 0 then
    b_X11_rivals_16 Y r1.2
  else
    (f_X11_within Y v2 ((0 : Int32)) ((2 : Int32)) r1.2).bind fun r2 =>
    if r2.1 = 0 then
      b_X11_rivals_16 Y r2.2
    else
      (jgO Y r2.2 v0 11 3).bind fun x3 =>
      (jgO Y r2.2 x3 3 1).bind fun x4 =>
      (jaO Y r2.2 x4 24 v1).bind fun x5 =>
      (jgI Y r2.2 x5 10 0).bind fun x6 =>
      if x6 = 0 then
        some ((-2 : Int32), r2.2)
      else
        jit jF (fun (s : Int32 × Int32 × jM) => b_X11_rivals_46 Y v0 v2 v3 x5 s.1 s.2.1 s.2.2) ((0 : Int32), (0 : Int32), r2.2)
set_option maxRecDepth 10000 in
theorem t_X11_rivals_16 {X : jX} {l : Launch} {n : Nat} {Y : jY} (K : jOK X RX11 cX11_rivals 12 (some .int) 7) (hl : X.2.1 = l) {rr : Int32} {μr : jM} {μ : jM} {z : (Int32 × jM)} (H : b_X11_rivals_16 Y μ = some z) (D : z = (rr, μr)) : JW X (jEnd X n Y (some (.int rr)) μr 0 0) 0 0 n Y 16 [] [] μ := by
  unfold b_X11_rivals_16 at H
  refine r_iconst (v := -1) K dX11_rivals_16 (by decide) ?_
  cases H
  obtain ⟨rfl, rfl⟩ := jfin2 D
  exact r_iret K dX11_rivals_17
set_option maxRecDepth 10000 in
theorem t_X11_rivals_215 {X : jX} {l : Launch} {n : Nat} {Y : jY} (K : jOK X RX11 cX11_rivals 12 (some .int) 7) (hl : X.2.1 = l) {rr : Int32} {μr : jM} {t0 : Int32} {μ : jM} {z : (Int32 × jM)} (H : b_X11_rivals_215 Y t0 μ = some z) (D : z = (rr, μr)) : JW X (jEnd X n Y (some (.int rr)) μr 0 0) 0 0 n Y 215 [] [.int t0] μ := by
  unfold b_X11_rivals_215 at H
  cases H
  obtain ⟨rfl, rfl⟩ := jfin2 D
  exact r_iret K dX11_rivals_215
set_option maxRecDepth 10000 in
theorem t_X11_rivals_193 {X : jX} {l : Launch} {n : Nat} {Y : jY} (K : jOK X RX11 cX11_rivals 12 (some .int) 7) (hl : X.2.1 = l) {rr : Int32} {μr : jM} {v0 : Nat} {v2 : Int32} {v3 : Int32} {v4 : Nat} {v5 : Int32} {v6 : Int32} {v7 : Int32} {v8 : Int32} {v10 : Int32} {v11 : Int32} {μ : jM} {z : ((Int32 × Int32 × jM) ⊕ ((Int32 × Int32 × jM) ⊕ (Int32 × jM)))} (H : b_X11_rivals_193 Y v0 v2 v3 v4 v5 v6 v7 v8 v10 v11 μ = some z) (D : Sum.elim (fun (s : Int32 × Int32 × jM) => JW X (jEnd X n Y (some (.int rr)) μr 0 0) 0 0 n Y 128 [(0, .ref v0), (2, .int v2), (3, .int v3), (4, .ref v4), (5, .int s.1), (6, .int v6), (7, .int v7), (8, .int v8), (10, .int v10), (11, .int s.2.1)] [] s.2.2) (Sum.elim (fun (s : Int32 × Int32 × jM) => JW X (jEnd X n Y (some (.int rr)) μr 0 0) 0 0 n Y 46 [(0, .ref v0), (2, .int v2), (3, .int v3), (4, .ref v4), (5, .int s.1), (6, .int s.2.1)] [] s.2.2) (fun r => r = (rr, μr))) z) : JW X (jEnd X n Y (some (.int rr)) μr 0 0) 0 0 n Y 193 [(0, .ref v0), (2, .int v2), (3, .int v3), (4, .ref v4), (5, .int v5), (6, .int v6), (7, .int v7), (8, .int v8), (10, .int v10), (11, .int v11)] [] μ := by
  unfold b_X11_rivals_193 at H
  refine r_iinc K 9 [(11, .int _), (0, .ref _), (2, .int _), (3, .int _), (4, .ref _), (5, .int _), (6, .int _), (7, .int _), (8, .int _), (10, .int _)] (v := _ + (1 : Int32)) dX11_rivals_193 rfl rfl (by decide) rfl ?_
  refine r_goto K 128 dX11_rivals_196 (by decide) ?_
  cases H
  exact r_sub [1, 2, 3, 4, 5, 6, 7, 8, 9, 0] rfl D
set_option maxRecDepth 10000 in
theorem t_X11_rivals_189 {X : jX} {l : Launch} {n : Nat} {Y : jY} (K : jOK X RX11 cX11_rivals 12 (some .int) 7) (hl : X.2.1 = l) {rr : Int32} {μr : jM} {t0 : Int32} {μ : jM} {z : (Int32 × jM)} (H : b_X11_rivals_189 Y t0 μ = some z) (D : z = (rr, μr)) : JW X (jEnd X n Y (some (.int rr)) μr 0 0) 0 0 n Y 189 [] [.int t0] μ := by
  unfold b_X11_rivals_189 at H
  cases H
  obtain ⟨rfl, rfl⟩ := jfin2 D
  exact r_iret K dX11_rivals_189
set_option maxRecDepth 10000 in
theorem t_X11_rivals_128 {X : jX} {l : Launch} {n : Nat} {Y : jY} (K : jOK X RX11 cX11_rivals 12 (some .int) 7) (hl : X.2.1 = l) {rr : Int32} {μr : jM} {v0 : Nat} {v2 : Int32} {v3 : Int32} {v4 : Nat} {v5 : Int32} {v6 : Int32} {v7 : Int32} {v8 : Int32} {v10 : Int32} {v11 : Int32} {μ : jM} {z : ((Int32 × Int32 × jM) ⊕ ((Int32 × Int32 × jM) ⊕ (Int32 × jM)))} (H : b_X11_rivals_128 Y v0 v2 v3 v4 v5 v6 v7 v8 v10 v11 μ = some z) (D : Sum.elim (fun (s : Int32 × Int32 × jM) => JW X (jEnd X n Y (some (.int rr)) μr 0 0) 0 0 n Y 128 [(0, .ref v0), (2, .int v2), (3, .int v3), (4, .ref v4), (5, .int s.1), (6, .int v6), (7, .int v7), (8, .int v8), (10, .int v10), (11, .int s.2.1)] [] s.2.2) (Sum.elim (fun (s : Int32 × Int32 × jM) => JW X (jEnd X n Y (some (.int rr)) μr 0 0) 0 0 n Y 46 [(0, .ref v0), (2, .int v2), (3, .int v3), (4, .ref v4), (5, .int s.1), (6, .int s.2.1)] [] s.2.2) (fun r => r = (rr, μr))) z) : JW X (jEnd X n Y (some (.int rr)) μr 0 0) 0 0 n Y 128 [(0, .ref v0), (2, .int v2), (3, .int v3), (4, .ref v4), (5, .int v5), (6, .int v6), (7, .int v7), (8, .int v8), (10, .int v10), (11, .int v11)] [] μ := by
  unfold b_X11_rivals_128 at H
  refine r_iload K 9 dX11_rivals_128 rfl ?_
  refine r_iload K 8 dX11_rivals_130 rfl ?_
  refine w_icmp_gt K 199 dX11_rivals_132 (by decide) H (fun _ H => ?_) (fun _ H => ?_)
  · refine r_iinc K 5 [(6, .int _), (0, .ref _), (2, .int _), (3, .int _), (4, .ref _), (5, .int _), (7, .int _), (8, .int _), (10, .int _), (11, .int _)] (v := _ + (1 : Int32)) dX11_rivals_199 rfl rfl (by decide) rfl ?_
    refine r_goto K 46 dX11_rivals_202 (by decide) ?_
    cases H
    exact r_sub [1, 2, 3, 4, 5, 0] rfl D
  · refine r_aload_n K 0 dX11_rivals_135 rfl rfl ?_
    refine r_aload K 3 dX11_rivals_136 rfl ?_
    refine r_iload K 6 dX11_rivals_138 rfl ?_
    refine r_iload K 7 dX11_rivals_140 rfl ?_
    refine r_iload K 9 dX11_rivals_142 rfl ?_
    refine r_iload_n K 1 dX11_rivals_144 rfl rfl ?_
    refine w_callV K hl H (fun r h => c_X11_isRival l h) mC_yX11_isRival mM_RX11_350 mI_yX11_isRival mS_yX11_isRival mZ_RX11 vc11 (Nat.le_of_ble_eq_true rfl) (Nat.le_of_ble_eq_true rfl) np_yX11_isRival rfl (Nat.le_of_ble_eq_true rfl) dX11_rivals_145 (fun r1 H => ?_) ⟨Nat.zero_le _, Nat.zero_le _⟩
    refine w_if_ne K 154 dX11_rivals_148 (by decide) H (fun _ H => ?_) (fun _ H => ?_)
    · refine r_iload_n K 2 dX11_rivals_154 rfl rfl ?_
      refine w_if_eq K 190 dX11_rivals_155 (by decide) H (fun _ H => ?_) (fun _ H => ?_)
      · refine r_iinc K 4 [(5, .int _), (0, .ref _), (2, .int _), (3, .int _), (4, .ref _), (6, .int _), (7, .int _), (8, .int _), (10, .int _), (11, .int _)] (v := _ + (1 : Int32)) dX11_rivals_190 rfl rfl (by decide) rfl ?_
        exact r_sub [1, 2, 3, 4, 0, 5, 6, 7, 8, 9] rfl (t_X11_rivals_193 K hl H D)
      · refine r_iload K 6 dX11_rivals_158 rfl ?_
        refine w_if_eq K 177 dX11_rivals_160 (by decide) H (fun _ H => ?_) (fun _ H => ?_)
        · refine r_sipush (v := 1000) K dX11_rivals_177 (by decide) ?_
          refine r_bipush (v := 100) K dX11_rivals_180 (by decide) ?_
          refine r_iload K 7 dX11_rivals_182 rfl ?_
          refine r_imul K dX11_rivals_184 ?_
          refine r_iadd K dX11_rivals_185 ?_
          refine r_iload K 9 dX11_rivals_186 rfl ?_
          refine r_iadd K dX11_rivals_188 ?_
          obtain ⟨z2, H2, rfl⟩ := jmap H
          exact r_sub [] rfl (t_X11_rivals_189 K hl H2 D)
        · refine r_bipush (v := 100) K dX11_rivals_163 (by decide) ?_
          refine r_iload K 7 dX11_rivals_165 rfl ?_
          refine r_imul K dX11_rivals_167 ?_
          refine r_iload K 9 dX11_rivals_168 rfl ?_
          refine r_iadd K dX11_rivals_170 ?_
          refine r_bipush (v := 6) K dX11_rivals_171 (by decide) ?_
          refine r_iadd K dX11_rivals_173 ?_
          refine r_goto K 189 dX11_rivals_174 (by decide) ?_
          obtain ⟨z2, H2, rfl⟩ := jmap H
          exact r_sub [] rfl (t_X11_rivals_189 K hl H2 D)
    · refine r_goto K 193 dX11_rivals_151 (by decide) ?_
      exact r_sub [0, 1, 2, 3, 4, 5, 6, 7, 8, 9] rfl (t_X11_rivals_193 K hl H D)
set_option maxRecDepth 10000 in
theorem l_X11_rivals_128 {X : jX} {l : Launch} {n : Nat} {Y : jY} (K : jOK X RX11 cX11_rivals 12 (some .int) 7) (hl : X.2.1 = l) {rr : Int32} {μr : jM} {v0 : Nat} {v2 : Int32} {v3 : Int32} {v4 : Nat} {v6 : Int32} {v7 : Int32} {v8 : Int32} {v10 : Int32}  {s0 : Int32 × Int32 × jM} {z : ((Int32 × Int32 × jM) ⊕ (Int32 × jM))} (H : jit jF (fun (s : Int32 × Int32 × jM) => b_X11_rivals_128 Y v0 v2 v3 v4 s.1 v6 v7 v8 v10 s.2.1 s.2.2) s0 = some z) (D : Sum.elim (fun (s : Int32 × Int32 × jM) => JW X (jEnd X n Y (some (.int rr)) μr 0 0) 0 0 n Y 46 [(0, .ref v0), (2, .int v2), (3, .int v3), (4, .ref v4), (5, .int s.1), (6, .int s.2.1)] [] s.2.2) (fun r => r = (rr, μr)) z) : JW X (jEnd X n Y (some (.int rr)) μr 0 0) 0 0 n Y 128 [(0, .ref v0), (2, .int v2), (3, .int v3), (4, .ref v4), (5, .int s0.1), (6, .int v6), (7, .int v7), (8, .int v8), (10, .int v10), (11, .int s0.2.1)] [] s0.2.2 :=
  jit_ind (P := fun (s : Int32 × Int32 × jM) => JW X (jEnd X n Y (some (.int rr)) μr 0 0) 0 0 n Y 128 [(0, .ref v0), (2, .int v2), (3, .int v3), (4, .ref v4), (5, .int s.1), (6, .int v6), (7, .int v7), (8, .int v8), (10, .int v10), (11, .int s.2.1)] [] s.2.2) (D := Sum.elim (fun (s : Int32 × Int32 × jM) => JW X (jEnd X n Y (some (.int rr)) μr 0 0) 0 0 n Y 46 [(0, .ref v0), (2, .int v2), (3, .int v3), (4, .ref v4), (5, .int s.1), (6, .int s.2.1)] [] s.2.2) (fun r => r = (rr, μr))) (fun s z Hs Ds => t_X11_rivals_128 K hl Hs Ds) jF s0 z H D
set_option maxRecDepth 10000 in
theorem t_X11_rivals_122 {X : jX} {l : Launch} {n : Nat} {Y : jY} (K : jOK X RX11 cX11_rivals 12 (some .int) 7) (hl : X.2.1 = l) {rr : Int32} {μr : jM} {v0 : Nat} {v2 : Int32} {v3 : Int32} {v4 : Nat} {v5 : Int32} {v6 : Int32} {v7 : Int32} {v8 : Int32} {v9 : Int32} {t0 : Int32} {μ : jM} {z : ((Int32 × Int32 × jM) ⊕ (Int32 × jM))} (H : b_X11_rivals_122 Y v0 v2 v3 v4 v5 v6 v7 v8 v9 t0 μ = some z) (D : Sum.elim (fun (s : Int32 × Int32 × jM) => JW X (jEnd X n Y (some (.int rr)) μr 0 0) 0 0 n Y 46 [(0, .ref v0), (2, .int v2), (3, .int v3), (4, .ref v4), (5, .int s.1), (6, .int s.2.1)] [] s.2.2) (fun r => r = (rr, μr)) z) : JW X (jEnd X n Y (some (.int rr)) μr 0 0) 0 0 n Y 122 [(0, .ref v0), (2, .int v2), (3, .int v3), (4, .ref v4), (5, .int v5), (6, .int v6), (7, .int v7), (8, .int v8), (9, .int v9)] [.int t0] μ := by
  unfold b_X11_rivals_122 at H
  refine r_istore K [(10, .int _), (0, .ref _), (2, .int _), (3, .int _), (4, .ref _), (5, .int _), (6, .int _), (7, .int _), (8, .int _), (9, .int _)] dX11_rivals_122 (by decide) rfl ?_
  refine r_iload K 9 dX11_rivals_124 rfl ?_
  refine r_istore K [(11, .int _), (10, .int _), (0, .ref _), (2, .int _), (3, .int _), (4, .ref _), (5, .int _), (6, .int _), (7, .int _), (8, .int _), (9, .int _)] dX11_rivals_126 (by decide) rfl ?_
  exact r_sub [2, 3, 4, 5, 6, 7, 8, 9, 1, 0] rfl (l_X11_rivals_128 K hl H D)
set_option maxRecDepth 10000 in
theorem t_X11_rivals_108 {X : jX} {l : Launch} {n : Nat} {Y : jY} (K : jOK X RX11 cX11_rivals 12 (some .int) 7) (hl : X.2.1 = l) {rr : Int32} {μr : jM} {v0 : Nat} {v2 : Int32} {v3 : Int32} {v4 : Nat} {v5 : Int32} {v6 : Int32} {v7 : Int32} {v8 : Int32} {t0 : Int32} {μ : jM} {z : ((Int32 × Int32 × jM) ⊕ (Int32 × jM))} (H : b_X11_rivals_108 Y v0 v2 v3 v4 v5 v6 v7 v8 t0 μ = some z) (D : Sum.elim (fun (s : Int32 × Int32 × jM) => JW X (jEnd X n Y (some (.int rr)) μr 0 0) 0 0 n Y 46 [(0, .ref v0), (2, .int v2), (3, .int v3), (4, .ref v4), (5, .int s.1), (6, .int s.2.1)] [] s.2.2) (fun r => r = (rr, μr)) z) : JW X (jEnd X n Y (some (.int rr)) μr 0 0) 0 0 n Y 108 [(0, .ref v0), (2, .int v2), (3, .int v3), (4, .ref v4), (5, .int v5), (6, .int v6), (7, .int v7), (8, .int v8)] [.int t0] μ := by
  unfold b_X11_rivals_108 at H
  refine r_istore K [(9, .int _), (0, .ref _), (2, .int _), (3, .int _), (4, .ref _), (5, .int _), (6, .int _), (7, .int _), (8, .int _)] dX11_rivals_108 (by decide) rfl ?_
  refine r_iload K 7 dX11_rivals_110 rfl ?_
  refine w_if_eq K 120 dX11_rivals_112 (by decide) H (fun _ H => ?_) (fun _ H => ?_)
  · refine r_bipush (v := 36) K dX11_rivals_120 (by decide) ?_
    exact r_sub [1, 2, 3, 4, 5, 6, 7, 8, 0] rfl (t_X11_rivals_122 K hl H D)
  · refine r_bipush (v := 6) K dX11_rivals_115 (by decide) ?_
    refine r_goto K 122 dX11_rivals_117 (by decide) ?_
    exact r_sub [1, 2, 3, 4, 5, 6, 7, 8, 0] rfl (t_X11_rivals_122 K hl H D)
set_option maxRecDepth 10000 in
theorem t_X11_rivals_95 {X : jX} {l : Launch} {n : Nat} {Y : jY} (K : jOK X RX11 cX11_rivals 12 (some .int) 7) (hl : X.2.1 = l) {rr : Int32} {μr : jM} {v0 : Nat} {v2 : Int32} {v3 : Int32} {v4 : Nat} {v5 : Int32} {v6 : Int32} {v7 : Int32} {t0 : Int32} {μ : jM} {z : ((Int32 × Int32 × jM) ⊕ (Int32 × jM))} (H : b_X11_rivals_95 Y v0 v2 v3 v4 v5 v6 v7 t0 μ = some z) (D : Sum.elim (fun (s : Int32 × Int32 × jM) => JW X (jEnd X n Y (some (.int rr)) μr 0 0) 0 0 n Y 46 [(0, .ref v0), (2, .int v2), (3, .int v3), (4, .ref v4), (5, .int s.1), (6, .int s.2.1)] [] s.2.2) (fun r => r = (rr, μr)) z) : JW X (jEnd X n Y (some (.int rr)) μr 0 0) 0 0 n Y 95 [(0, .ref v0), (2, .int v2), (3, .int v3), (4, .ref v4), (5, .int v5), (6, .int v6), (7, .int v7)] [.int t0] μ := by
  unfold b_X11_rivals_95 at H
  refine r_istore K [(8, .int _), (0, .ref _), (2, .int _), (3, .int _), (4, .ref _), (5, .int _), (6, .int _), (7, .int _)] dX11_rivals_95 (by decide) rfl ?_
  refine r_iload K 7 dX11_rivals_97 rfl ?_
  refine w_if_eq K 107 dX11_rivals_99 (by decide) H (fun _ H => ?_) (fun _ H => ?_)
  · refine r_iconst (v := 1) K dX11_rivals_107 (by decide) ?_
    exact r_sub [1, 2, 3, 4, 5, 6, 7, 0] rfl (t_X11_rivals_108 K hl H D)
  · refine r_bipush (v := -6) K dX11_rivals_102 (by decide) ?_
    refine r_goto K 108 dX11_rivals_104 (by decide) ?_
    exact r_sub [1, 2, 3, 4, 5, 6, 7, 0] rfl (t_X11_rivals_108 K hl H D)
set_option maxRecDepth 10000 in
theorem t_X11_rivals_75 {X : jX} {l : Launch} {n : Nat} {Y : jY} (K : jOK X RX11 cX11_rivals 12 (some .int) 7) (hl : X.2.1 = l) {rr : Int32} {μr : jM} {v0 : Nat} {v2 : Int32} {v3 : Int32} {v4 : Nat} {v5 : Int32} {v6 : Int32} {t0 : Int32} {μ : jM} {z : ((Int32 × Int32 × jM) ⊕ (Int32 × jM))} (H : b_X11_rivals_75 Y v0 v2 v3 v4 v5 v6 t0 μ = some z) (D : Sum.elim (fun (s : Int32 × Int32 × jM) => JW X (jEnd X n Y (some (.int rr)) μr 0 0) 0 0 n Y 46 [(0, .ref v0), (2, .int v2), (3, .int v3), (4, .ref v4), (5, .int s.1), (6, .int s.2.1)] [] s.2.2) (fun r => r = (rr, μr)) z) : JW X (jEnd X n Y (some (.int rr)) μr 0 0) 0 0 n Y 75 [(0, .ref v0), (2, .int v2), (3, .int v3), (4, .ref v4), (5, .int v5), (6, .int v6)] [.int t0] μ := by
  unfold b_X11_rivals_75 at H
  refine r_istore K [(7, .int _), (0, .ref _), (2, .int _), (3, .int _), (4, .ref _), (5, .int _), (6, .int _)] dX11_rivals_75 (by decide) rfl ?_
  refine r_iload K 0 dX11_rivals_77 rfl ?_
  refine w_if_eq K 87 dX11_rivals_79 (by decide) H (fun _ H => ?_) (fun _ H => ?_)
  · refine r_iload K 6 dX11_rivals_87 rfl ?_
    refine r_aload K 4 dX11_rivals_89 rfl ?_
    refine w_getI K vc10 inX10 0 (by decide) mF_RX11_263 dX11_rivals_91 H (fun x1 H => ?_)
    refine r_isub K dX11_rivals_94 ?_
    exact r_sub [1, 2, 3, 4, 5, 6, 0] rfl (t_X11_rivals_95 K hl H D)
  · refine r_iload K 6 dX11_rivals_82 rfl ?_
    refine r_goto K 95 dX11_rivals_84 (by decide) ?_
    exact r_sub [1, 2, 3, 4, 5, 6, 0] rfl (t_X11_rivals_95 K hl H D)
set_option maxRecDepth 10000 in
theorem t_X11_rivals_46 {X : jX} {l : Launch} {n : Nat} {Y : jY} (K : jOK X RX11 cX11_rivals 12 (some .int) 7) (hl : X.2.1 = l) {rr : Int32} {μr : jM} {v0 : Nat} {v2 : Int32} {v3 : Int32} {v4 : Nat} {v5 : Int32} {v6 : Int32} {μ : jM} {z : ((Int32 × Int32 × jM) ⊕ (Int32 × jM))} (H : b_X11_rivals_46 Y v0 v2 v3 v4 v5 v6 μ = some z) (D : Sum.elim (fun (s : Int32 × Int32 × jM) => JW X (jEnd X n Y (some (.int rr)) μr 0 0) 0 0 n Y 46 [(0, .ref v0), (2, .int v2), (3, .int v3), (4, .ref v4), (5, .int s.1), (6, .int s.2.1)] [] s.2.2) (fun r => r = (rr, μr)) z) : JW X (jEnd X n Y (some (.int rr)) μr 0 0) 0 0 n Y 46 [(0, .ref v0), (2, .int v2), (3, .int v3), (4, .ref v4), (5, .int v5), (6, .int v6)] [] μ := by
  unfold b_X11_rivals_46 at H
  refine r_iload K 5 dX11_rivals_46 rfl ?_
  refine r_iconst (v := 2) K dX11_rivals_48 (by decide) ?_
  refine r_aload K 3 dX11_rivals_49 rfl ?_
  refine w_getI K vc10 inX10 0 (by decide) mF_RX11_263 dX11_rivals_51 H (fun x1 H => ?_)
  refine r_imul K dX11_rivals_54 ?_
  refine r_iconst (v := 1) K dX11_rivals_55 (by decide) ?_
  refine r_isub K dX11_rivals_56 ?_
  refine w_icmp_ge K 205 dX11_rivals_57 (by decide) H (fun _ H => ?_) (fun _ H => ?_)
  · refine r_iload_n K 2 dX11_rivals_205 rfl rfl ?_
    refine w_if_eq K 213 dX11_rivals_206 (by decide) H (fun _ H => ?_) (fun _ H => ?_)
    · refine r_iload K 4 dX11_rivals_213 rfl ?_
      obtain ⟨z2, H2, rfl⟩ := jmap H
      exact r_sub [] rfl (t_X11_rivals_215 K hl H2 D)
    · refine r_iconst (v := -1) K dX11_rivals_209 (by decide) ?_
      refine r_goto K 215 dX11_rivals_210 (by decide) ?_
      obtain ⟨z2, H2, rfl⟩ := jmap H
      exact r_sub [] rfl (t_X11_rivals_215 K hl H2 D)
  · refine r_iload K 5 dX11_rivals_60 rfl ?_
    refine r_aload K 3 dX11_rivals_62 rfl ?_
    refine w_getI K vc10 inX10 0 (by decide) mF_RX11_263 dX11_rivals_64 H (fun x2 H => ?_)
    refine w_icmp_ge K 74 dX11_rivals_67 (by decide) H (fun _ H => ?_) (fun _ H => ?_)
    · refine r_iconst (v := 0) K dX11_rivals_74 (by decide) ?_
      exact r_sub [0, 1, 2, 3, 4, 5] rfl (t_X11_rivals_75 K hl H D)
    · refine r_iconst (v := 1) K dX11_rivals_70 (by decide) ?_
      refine r_goto K 75 dX11_rivals_71 (by decide) ?_
      exact r_sub [0, 1, 2, 3, 4, 5] rfl (t_X11_rivals_75 K hl H D)
set_option maxRecDepth 10000 in
theorem l_X11_rivals_46 {X : jX} {l : Launch} {n : Nat} {Y : jY} (K : jOK X RX11 cX11_rivals 12 (some .int) 7) (hl : X.2.1 = l) {rr : Int32} {μr : jM} {v0 : Nat} {v2 : Int32} {v3 : Int32} {v4 : Nat}  {s0 : Int32 × Int32 × jM} {z : (Int32 × jM)} (H : jit jF (fun (s : Int32 × Int32 × jM) => b_X11_rivals_46 Y v0 v2 v3 v4 s.1 s.2.1 s.2.2) s0 = some z) (D : z = (rr, μr)) : JW X (jEnd X n Y (some (.int rr)) μr 0 0) 0 0 n Y 46 [(0, .ref v0), (2, .int v2), (3, .int v3), (4, .ref v4), (5, .int s0.1), (6, .int s0.2.1)] [] s0.2.2 :=
  jit_ind (P := fun (s : Int32 × Int32 × jM) => JW X (jEnd X n Y (some (.int rr)) μr 0 0) 0 0 n Y 46 [(0, .ref v0), (2, .int v2), (3, .int v3), (4, .ref v4), (5, .int s.1), (6, .int s.2.1)] [] s.2.2) (D := fun r => r = (rr, μr)) (fun s z Hs Ds => t_X11_rivals_46 K hl Hs Ds) jF s0 z H D
set_option maxRecDepth 10000 in
theorem t_X11_rivals_0 {X : jX} {l : Launch} {n : Nat} {Y : jY} (K : jOK X RX11 cX11_rivals 12 (some .int) 7) (hl : X.2.1 = l) {rr : Int32} {μr : jM} {v0 : Nat} {v1 : Int32} {v2 : Int32} {v3 : Int32} {μ : jM} {z : (Int32 × jM)} (H : f_X11_rivals Y v0 v1 v2 v3 μ = some z) (D : z = (rr, μr)) : JW X (jEnd X n Y (some (.int rr)) μr 0 0) 0 0 n Y 0 [(0, .ref v0), (1, .int v1), (2, .int v2), (3, .int v3)] [] μ := by
  unfold f_X11_rivals at H
  refine r_iload_n K 1 dX11_rivals_0 rfl rfl ?_
  refine w_callS K hl H (fun r h => c_X11_isDrawer l h) mC_yX11_isDrawer mM_RX11_252 mT_yX11_isDrawer mZ_RX11 (Nat.le_of_ble_eq_true rfl) (Nat.le_of_ble_eq_true rfl) np_yX11_isDrawer rfl (Nat.le_of_ble_eq_true rfl) dX11_rivals_1 (fun r1 H => ?_) ⟨Nat.zero_le _, Nat.zero_le _⟩
  refine w_if_eq K 16 dX11_rivals_4 (by decide) H (fun _ H => ?_) (fun _ H => ?_)
  · exact r_sub [] rfl (t_X11_rivals_16 K hl H D)
  · refine r_iload_n K 2 dX11_rivals_7 rfl rfl ?_
    refine r_iconst (v := 0) K dX11_rivals_8 (by decide) ?_
    refine r_iconst (v := 2) K dX11_rivals_9 (by decide) ?_
    refine w_callS K hl H (fun r h => c_X11_within l h) mC_yX11_within mM_RX11_133 mT_yX11_within mZ_RX11 (Nat.le_of_ble_eq_true rfl) (Nat.le_of_ble_eq_true rfl) np_yX11_within rfl (Nat.le_of_ble_eq_true rfl) dX11_rivals_10 (fun r2 H => ?_) ⟨Nat.zero_le _, Nat.zero_le _⟩
    refine w_if_ne K 18 dX11_rivals_13 (by decide) H (fun _ H => ?_) (fun _ H => ?_)
    · refine r_aload_n K 0 dX11_rivals_18 rfl rfl ?_
      refine w_getO K vc11 inX11 3 (by decide) mF_RX11_35 dX11_rivals_19 H (fun x3 H => ?_)
      refine w_getO K vc3 inX3 1 (by decide) mF_RX11_255 dX11_rivals_22 H (fun x4 H => ?_)
      refine r_iload_n K 1 dX11_rivals_25 rfl rfl ?_
      refine w_aald K 24 rfl rfl dX11_rivals_26 H (fun x5 H => ?_)
      refine r_astore K [(4, .ref _), (0, .ref _), (1, .int _), (2, .int _), (3, .int _)] dX11_rivals_27 (by decide) rfl ?_
      refine r_aload K 0 dX11_rivals_29 rfl ?_
      refine w_getI K vc10 inX10 0 (by decide) mF_RX11_263 dX11_rivals_31 H (fun x6 H => ?_)
      refine w_if_ne K 40 dX11_rivals_34 (by decide) H (fun _ H => ?_) (fun _ H => ?_)
      · refine r_iconst (v := 0) K dX11_rivals_40 (by decide) ?_
        refine r_istore K [(5, .int _), (4, .ref _), (0, .ref _), (1, .int _), (2, .int _), (3, .int _)] dX11_rivals_41 (by decide) rfl ?_
        refine r_iconst (v := 0) K dX11_rivals_43 (by decide) ?_
        refine r_istore K [(6, .int _), (5, .int _), (4, .ref _), (0, .ref _), (1, .int _), (2, .int _), (3, .int _)] dX11_rivals_44 (by decide) rfl ?_
        exact r_sub [3, 5, 6, 2, 1, 0] rfl (l_X11_rivals_46 K hl H D)
      · refine r_bipush (v := -2) K dX11_rivals_37 (by decide) ?_
        cases H
        obtain ⟨rfl, rfl⟩ := jfin2 D
        exact r_iret K dX11_rivals_39
    · exact r_sub [] rfl (t_X11_rivals_16 K hl H D)
theorem c_X11_rivals (l : Launch) {n : Nat} {Y : jY} {v0 : Nat} {v1 : Int32} {v2 : Int32} {v3 : Int32} {μ : jM} {z : Int32 × jM} (H : f_X11_rivals Y v0 v1 v2 v3 μ = some z) : jC l yX11_rivals cX11_rivals 12 (some .int) 7 0 0 [.ref v0, .int v1, .int v2, .int v3] n Y μ n Y (some (.int z.1)) z.2 := by
  refine jC_of (by decide +kernel) (Nat.le_of_ble_eq_true rfl) (fun X hl K _ _ _ => ?_)
  obtain ⟨rr, μr⟩ := z
  exact t_X11_rivals_0 K hl H rfl
/-! RX12 in(III)Z -/
def b_X12_in_15 (Y : jY) (t0 : Int32) (μ : jM) : Option (Int32 × jM) :=
  (jbool t0).bind fun x1 =>
  some (x1, μ)
def b_X12_in_14 (Y : jY) (μ : jM) : Option (Int32 × jM) :=
  b_X12_in_15 Y (0 : Int32) μ
def f_X12_in (Y : jY) (v0 : Int32) (v1 : Int32) (v2 : Int32) (μ : jM) : Option (Int32 × jM) :=
  if v0 < v1 then
    b_X12_in_14 Y μ
  else
    if v2 < v0 then
      b_X12_in_14 Y μ
    else
      b_X12_in_15 Y (1 : Int32) μ
set_option maxRecDepth 10000 in
theorem t_X12_in_15 {X : jX} {l : Launch} {n : Nat} {Y : jY} (K : jOK X RX12 cX12_in 3 (some .boolean) 1) (hl : X.2.1 = l) {rr : Int32} {μr : jM} {t0 : Int32} {μ : jM} {z : (Int32 × jM)} (H : b_X12_in_15 Y t0 μ = some z) (D : z = (rr, μr)) : JW X (jEnd X n Y (some (.int rr)) μr 0 0) 0 0 n Y 15 [] [.int t0] μ := by
  unfold b_X12_in_15 at H
  refine w_zret K dX12_in_15 H (fun hz H => ?_)
  cases H
  obtain ⟨rfl, rfl⟩ := jfin2 D
  exact r_zret K hz dX12_in_15
set_option maxRecDepth 10000 in
theorem t_X12_in_14 {X : jX} {l : Launch} {n : Nat} {Y : jY} (K : jOK X RX12 cX12_in 3 (some .boolean) 1) (hl : X.2.1 = l) {rr : Int32} {μr : jM} {μ : jM} {z : (Int32 × jM)} (H : b_X12_in_14 Y μ = some z) (D : z = (rr, μr)) : JW X (jEnd X n Y (some (.int rr)) μr 0 0) 0 0 n Y 14 [] [] μ := by
  unfold b_X12_in_14 at H
  refine r_iconst (v := 0) K dX12_in_14 (by decide) ?_
  exact r_sub [] rfl (t_X12_in_15 K hl H D)
set_option maxRecDepth 10000 in
theorem t_X12_in_0 {X : jX} {l : Launch} {n : Nat} {Y : jY} (K : jOK X RX12 cX12_in 3 (some .boolean) 1) (hl : X.2.1 = l) {rr : Int32} {μr : jM} {v0 : Int32} {v1 : Int32} {v2 : Int32} {μ : jM} {z : (Int32 × jM)} (H : f_X12_in Y v0 v1 v2 μ = some z) (D : z = (rr, μr)) : JW X (jEnd X n Y (some (.int rr)) μr 0 0) 0 0 n Y 0 [(0, .int v0), (1, .int v1), (2, .int v2)] [] μ := by
  unfold f_X12_in at H
  refine r_iload_n K 0 dX12_in_0 rfl rfl ?_
  refine r_iload_n K 1 dX12_in_1 rfl rfl ?_
  refine w_icmp_lt K 14 dX12_in_2 (by decide) H (fun _ H => ?_) (fun _ H => ?_)
  · exact r_sub [] rfl (t_X12_in_14 K hl H D)
  · refine r_iload_n K 0 dX12_in_5 rfl rfl ?_
    refine r_iload_n K 2 dX12_in_6 rfl rfl ?_
    refine w_icmp_gt K 14 dX12_in_7 (by decide) H (fun _ H => ?_) (fun _ H => ?_)
    · exact r_sub [] rfl (t_X12_in_14 K hl H D)
    · refine r_iconst (v := 1) K dX12_in_10 (by decide) ?_
      refine r_goto K 15 dX12_in_11 (by decide) ?_
      exact r_sub [] rfl (t_X12_in_15 K hl H D)
theorem c_X12_in (l : Launch) {n : Nat} {Y : jY} {v0 : Int32} {v1 : Int32} {v2 : Int32} {μ : jM} {z : Int32 × jM} (H : f_X12_in Y v0 v1 v2 μ = some z) : jC l yX12_in cX12_in 3 (some .boolean) 1 0 0 [.int v0, .int v1, .int v2] n Y μ n Y (some (.int z.1)) z.2 := by
  refine jC_of (by decide +kernel) (Nat.le_of_ble_eq_true rfl) (fun X hl K _ _ _ => ?_)
  obtain ⟨rr, μr⟩ := z
  exact t_X12_in_0 K hl H rfl
/-! RX12 isDrawer(I)Z -/
def f_X12_isDrawer (Y : jY) (v0 : Int32) (μ : jM) : Option (Int32 × jM) :=
  (f_X12_in Y v0 ((0 : Int32)) ((3 : Int32)) μ).bind fun r1 =>
  (jbool r1.1).bind fun x2 =>
  some (x2, r1.2)
set_option maxRecDepth 10000 in
theorem t_X12_isDrawer_0 {X : jX} {l : Launch} {n : Nat} {Y : jY} (K : jOK X RX12 cX12_isDrawer 1 (some .boolean) 2) (hl : X.2.1 = l) {rr : Int32} {μr : jM} {v0 : Int32} {μ : jM} {z : (Int32 × jM)} (H : f_X12_isDrawer Y v0 μ = some z) (D : z = (rr, μr)) : JW X (jEnd X n Y (some (.int rr)) μr 0 0) 0 0 n Y 0 [(0, .int v0)] [] μ := by
  unfold f_X12_isDrawer at H
  refine r_iload_n K 0 dX12_isDrawer_0 rfl rfl ?_
  refine r_iconst (v := 0) K dX12_isDrawer_1 (by decide) ?_
  refine r_iconst (v := 3) K dX12_isDrawer_2 (by decide) ?_
  refine w_callS K hl H (fun r h => c_X12_in l h) mC_yX12_in mM_RX12_134 mT_yX12_in mZ_RX12 (Nat.le_of_ble_eq_true rfl) (Nat.le_of_ble_eq_true rfl) np_yX12_in rfl (Nat.le_of_ble_eq_true rfl) dX12_isDrawer_3 (fun r1 H => ?_) ⟨Nat.zero_le _, Nat.zero_le _⟩
  refine w_zret K dX12_isDrawer_6 H (fun hz H => ?_)
  cases H
  obtain ⟨rfl, rfl⟩ := jfin2 D
  exact r_zret K hz dX12_isDrawer_6
theorem c_X12_isDrawer (l : Launch) {n : Nat} {Y : jY} {v0 : Int32} {μ : jM} {z : Int32 × jM} (H : f_X12_isDrawer Y v0 μ = some z) : jC l yX12_isDrawer cX12_isDrawer 1 (some .boolean) 2 0 0 [.int v0] n Y μ n Y (some (.int z.1)) z.2 := by
  refine jC_of (by decide +kernel) (Nat.le_of_ble_eq_true rfl) (fun X hl K _ _ _ => ?_)
  obtain ⟨rr, μr⟩ := z
  exact t_X12_isDrawer_0 K hl H rfl
/-! RX12 a(II)I -/
def f_X12_a (Y : jY) (v0 : Nat) (v1 : Int32) (v2 : Int32) (μ : jM) : Option (Int32 × jM) :=
  (jgO Y μ v0 12 27).bind fun x1 =>
  (jaI Y μ x1 20 ((((((5 : Int32)) * v1)) + v2))).bind fun x2 =>
  some (x2, μ)
set_option maxRecDepth 10000 in
theorem t_X12_a_0 {X : jX} {l : Launch} {n : Nat} {Y : jY} (K : jOK X RX12 cX12_a 3 (some .int) 1) (hl : X.2.1 = l) {rr : Int32} {μr : jM} {v0 : Nat} {v1 : Int32} {v2 : Int32} {μ : jM} {z : (Int32 × jM)} (H : f_X12_a Y v0 v1 v2 μ = some z) (D : z = (rr, μr)) : JW X (jEnd X n Y (some (.int rr)) μr 0 0) 0 0 n Y 0 [(0, .ref v0), (1, .int v1), (2, .int v2)] [] μ := by
  unfold f_X12_a at H
  refine r_aload_n K 0 dX12_a_0 rfl rfl ?_
  refine w_getO K vc12 inX12 27 (by decide) mF_RX12_51 dX12_a_1 H (fun x1 H => ?_)
  refine r_iconst (v := 5) K dX12_a_4 (by decide) ?_
  refine r_iload_n K 1 dX12_a_5 rfl rfl ?_
  refine r_imul K dX12_a_6 ?_
  refine r_iload_n K 2 dX12_a_7 rfl rfl ?_
  refine r_iadd K dX12_a_8 ?_
  refine w_iald K dX12_a_9 H (fun x2 H => ?_)
  cases H
  obtain ⟨rfl, rfl⟩ := jfin2 D
  exact r_iret K dX12_a_10
theorem c_X12_a (l : Launch) {n : Nat} {Y : jY} {v0 : Nat} {v1 : Int32} {v2 : Int32} {μ : jM} {z : Int32 × jM} (H : f_X12_a Y v0 v1 v2 μ = some z) : jC l yX12_a cX12_a 3 (some .int) 1 0 0 [.ref v0, .int v1, .int v2] n Y μ n Y (some (.int z.1)) z.2 := by
  refine jC_of (by decide +kernel) (Nat.le_of_ble_eq_true rfl) (fun X hl K _ _ _ => ?_)
  obtain ⟨rr, μr⟩ := z
  exact t_X12_a_0 K hl H rfl
/-! RX12 c(II)I -/
def f_X12_c (Y : jY) (v0 : Nat) (v1 : Int32) (v2 : Int32) (μ : jM) : Option (Int32 × jM) :=
  (jgO Y μ v0 12 28).bind fun x1 =>
  (jaI Y μ x1 20 ((((((5 : Int32)) * v1)) + v2))).bind fun x2 =>
  some (x2, μ)
set_option maxRecDepth 10000 in
theorem t_X12_c_0 {X : jX} {l : Launch} {n : Nat} {Y : jY} (K : jOK X RX12 cX12_c 3 (some .int) 1) (hl : X.2.1 = l) {rr : Int32} {μr : jM} {v0 : Nat} {v1 : Int32} {v2 : Int32} {μ : jM} {z : (Int32 × jM)} (H : f_X12_c Y v0 v1 v2 μ = some z) (D : z = (rr, μr)) : JW X (jEnd X n Y (some (.int rr)) μr 0 0) 0 0 n Y 0 [(0, .ref v0), (1, .int v1), (2, .int v2)] [] μ := by
  unfold f_X12_c at H
  refine r_aload_n K 0 dX12_c_0 rfl rfl ?_
  refine w_getO K vc12 inX12 28 (by decide) mF_RX12_54 dX12_c_1 H (fun x1 H => ?_)
  refine r_iconst (v := 5) K dX12_c_4 (by decide) ?_
  refine r_iload_n K 1 dX12_c_5 rfl rfl ?_
  refine r_imul K dX12_c_6 ?_
  refine r_iload_n K 2 dX12_c_7 rfl rfl ?_
  refine r_iadd K dX12_c_8 ?_
  refine w_iald K dX12_c_9 H (fun x2 H => ?_)
  cases H
  obtain ⟨rfl, rfl⟩ := jfin2 D
  exact r_iret K dX12_c_10
theorem c_X12_c (l : Launch) {n : Nat} {Y : jY} {v0 : Nat} {v1 : Int32} {v2 : Int32} {μ : jM} {z : Int32 × jM} (H : f_X12_c Y v0 v1 v2 μ = some z) : jC l yX12_c cX12_c 3 (some .int) 1 0 0 [.ref v0, .int v1, .int v2] n Y μ n Y (some (.int z.1)) z.2 := by
  refine jC_of (by decide +kernel) (Nat.le_of_ble_eq_true rfl) (fun X hl K _ _ _ => ?_)
  obtain ⟨rr, μr⟩ := z
  exact t_X12_c_0 K hl H rfl
/-! RX12 belowOf(IIIII)I -/
def b_X12_belowOf_125 (Y : jY) (v0 : Nat) (v1 : Int32) (v2 : Int32) (v3 : Int32) (v4 : Int32) (v5 : Int32) (v6 : Int64) (v12 : Int32) (v13 : Int64) (v15 : Int32) (t0 : Int32) (t1 : Int32) (μ : jM) : Option ((Int64 × Int64 × Int32 × Int32 × Int32 × jM) ⊕ (Int32 × jM)) :=
  some (.inl (v13, v6, v15, (t0 + t1), (v12 + (1 : Int32)), μ))
def b_X12_belowOf_109 (Y : jY) (v0 : Nat) (v1 : Int32) (v2 : Int32) (v3 : Int32) (v4 : Int32) (v5 : Int32) (v6 : Int64) (v10 : Int32) (v11 : Int32) (v12 : Int32) (v13 : Int64) (t0 : Int32) (μ : jM) : Option ((Int64 × Int64 × Int32 × Int32 × Int32 × jM) ⊕ (Int32 × jM)) :=
  if t0 = v10 then
    b_X12_belowOf_125 Y v0 v1 v2 v3 v4 v5 v6 v12 v13 t0 v11 (1 : Int32) μ
  else
    b_X12_belowOf_125 Y v0 v1 v2 v3 v4 v5 v6 v12 v13 t0 v11 (0 : Int32) μ
def b_X12_belowOf_74 (Y : jY) (v0 : Nat) (v1 : Int32) (v2 : Int32) (v3 : Int32) (v4 : Int32) (v5 : Int32) (v6 : Int64) (v10 : Int32) (v11 : Int32) (v12 : Int32) (t0 : Int64) (t1 : Int64) (μ : jM) : Option ((Int64 × Int64 × Int32 × Int32 × Int32 × jM) ⊕ (Int32 × jM)) :=
  if ((lg_cmp ((t0 - t1)) ((0 : Int64)))) = 0 then
    if v10 = 0 then
      b_X12_belowOf_109 Y v0 v1 v2 v3 v4 v5 v6 v10 v11 v12 (t0 - t1) (1 : Int32) μ
    else
      b_X12_belowOf_109 Y v0 v1 v2 v3 v4 v5 v6 v10 v11 v12 (t0 - t1) (0 : Int32) μ
  else
    if ((lg_cmp ((t0 - t1)) ((0 : Int64)))) ≤ 0 then
      b_X12_belowOf_109 Y v0 v1 v2 v3 v4 v5 v6 v10 v11 v12 (t0 - t1) (0 : Int32) μ
    else
      b_X12_belowOf_109 Y v0 v1 v2 v3 v4 v5 v6 v10 v11 v12 (t0 - t1) (1 : Int32) μ
def b_X12_belowOf_15 (Y : jY) (v0 : Nat) (v1 : Int32) (v2 : Int32) (v3 : Int32) (v4 : Int32) (v5 : Int32) (v6 : Int64) (v8 : Int64) (v10 : Int32) (v11 : Int32) (v12 : Int32) (μ : jM) : Option ((Int64 × Int64 × Int32 × Int32 × Int32 × jM) ⊕ (Int32 × jM)) :=
  if v3 ≤ v12 then
    some (.inr (v11, μ))
  else
    (jrcv Y v0 12 (f_X12_a Y v0 v1 ((v2 + v12)) μ)).bind fun r1 =>
    if v12 ≤ 0 then
      b_X12_belowOf_74 Y v0 v1 v2 v3 v4 v5 v6 v10 v11 v12 (((((v4.toInt64)) - ((((r1.1.toInt64)) * ((v5.toInt64)))))) * v6) (0 : Int64) r1.2
    else
      (jrcv Y v0 12 (f_X12_c Y v0 v1 ((((v2 + v12)) - ((1 : Int32)))) r1.2)).bind fun r2 =>
      b_X12_belowOf_74 Y v0 v1 v2 v3 v4 v5 v6 v10 v11 v12 (((((v4.toInt64)) - ((((r1.1.toInt64)) * ((v5.toInt64)))))) * v6) (((((((r2.1.toInt64)) * ((v5.toInt64)))) * ((v5.toInt64)))) * v8) r2.2
def f_X12_belowOf (Y : jY) (v0 : Nat) (v1 : Int32) (v2 : Int32) (v3 : Int32) (v4 : Int32) (v5 : Int32) (μ : jM) : Option (Int32 × jM) :=
  jit jF (fun (s : Int64 × Int64 × Int32 × Int32 × Int32 × jM) => b_X12_belowOf_15 Y v0 v1 v2 v3 v4 v5 s.1 s.2.1 s.2.2.1 s.2.2.2.1 s.2.2.2.2.1 s.2.2.2.2.2) ((1 : Int64), (0 : Int64), (1 : Int32), (0 : Int32), (0 : Int32), μ)
set_option maxRecDepth 10000 in
theorem t_X12_belowOf_125 {X : jX} {l : Launch} {n : Nat} {Y : jY} (K : jOK X RX12 cX12_belowOf 16 (some .int) 2) (hl : X.2.1 = l) {rr : Int32} {μr : jM} {v0 : Nat} {v1 : Int32} {v2 : Int32} {v3 : Int32} {v4 : Int32} {v5 : Int32} {v6 : Int64} {v12 : Int32} {v13 : Int64} {v15 : Int32} {t0 : Int32} {t1 : Int32} {μ : jM} {z : ((Int64 × Int64 × Int32 × Int32 × Int32 × jM) ⊕ (Int32 × jM))} (H : b_X12_belowOf_125 Y v0 v1 v2 v3 v4 v5 v6 v12 v13 v15 t0 t1 μ = some z) (D : Sum.elim (fun (s : Int64 × Int64 × Int32 × Int32 × Int32 × jM) => JW X (jEnd X n Y (some (.int rr)) μr 0 0) 0 0 n Y 15 [(0, .ref v0), (1, .int v1), (2, .int v2), (3, .int v3), (4, .int v4), (5, .int v5), (6, .long s.1), (8, .long s.2.1), (10, .int s.2.2.1), (11, .int s.2.2.2.1), (12, .int s.2.2.2.2.1)] [] s.2.2.2.2.2) (fun r => r = (rr, μr)) z) : JW X (jEnd X n Y (some (.int rr)) μr 0 0) 0 0 n Y 125 [(0, .ref v0), (1, .int v1), (2, .int v2), (3, .int v3), (4, .int v4), (5, .int v5), (6, .long v6), (12, .int v12), (13, .long v13), (15, .int v15)] [.int t1, .int t0] μ := by
  unfold b_X12_belowOf_125 at H
  refine r_iadd K dX12_belowOf_125 ?_
  refine r_istore K [(11, .int _), (0, .ref _), (1, .int _), (2, .int _), (3, .int _), (4, .int _), (5, .int _), (6, .long _), (12, .int _), (13, .long _), (15, .int _)] dX12_belowOf_126 (by decide) rfl ?_
  refine r_iload K 10 dX12_belowOf_128 rfl ?_
  refine r_istore K [(10, .int _), (11, .int _), (0, .ref _), (1, .int _), (2, .int _), (3, .int _), (4, .int _), (5, .int _), (6, .long _), (12, .int _), (13, .long _), (15, .int _)] dX12_belowOf_130 (by decide) rfl ?_
  refine r_lload K 8 dX12_belowOf_132 rfl ?_
  refine r_lstore K [(8, .long _), (10, .int _), (11, .int _), (0, .ref _), (1, .int _), (2, .int _), (3, .int _), (4, .int _), (5, .int _), (6, .long _), (12, .int _), (13, .long _), (15, .int _)] dX12_belowOf_134 (by decide) rfl ?_
  refine r_lload K 11 dX12_belowOf_136 rfl ?_
  refine r_lstore K [(6, .long _), (8, .long _), (10, .int _), (11, .int _), (0, .ref _), (1, .int _), (2, .int _), (3, .int _), (4, .int _), (5, .int _), (12, .int _), (13, .long _), (15, .int _)] dX12_belowOf_138 (by decide) rfl ?_
  refine r_iinc K 10 [(12, .int _), (6, .long _), (8, .long _), (10, .int _), (11, .int _), (0, .ref _), (1, .int _), (2, .int _), (3, .int _), (4, .int _), (5, .int _), (13, .long _), (15, .int _)] (v := _ + (1 : Int32)) dX12_belowOf_140 rfl rfl (by decide) rfl ?_
  refine r_goto K 15 dX12_belowOf_143 (by decide) ?_
  cases H
  exact r_sub [5, 6, 7, 8, 9, 10, 1, 2, 3, 4, 0] rfl D
set_option maxRecDepth 10000 in
theorem t_X12_belowOf_109 {X : jX} {l : Launch} {n : Nat} {Y : jY} (K : jOK X RX12 cX12_belowOf 16 (some .int) 2) (hl : X.2.1 = l) {rr : Int32} {μr : jM} {v0 : Nat} {v1 : Int32} {v2 : Int32} {v3 : Int32} {v4 : Int32} {v5 : Int32} {v6 : Int64} {v10 : Int32} {v11 : Int32} {v12 : Int32} {v13 : Int64} {t0 : Int32} {μ : jM} {z : ((Int64 × Int64 × Int32 × Int32 × Int32 × jM) ⊕ (Int32 × jM))} (H : b_X12_belowOf_109 Y v0 v1 v2 v3 v4 v5 v6 v10 v11 v12 v13 t0 μ = some z) (D : Sum.elim (fun (s : Int64 × Int64 × Int32 × Int32 × Int32 × jM) => JW X (jEnd X n Y (some (.int rr)) μr 0 0) 0 0 n Y 15 [(0, .ref v0), (1, .int v1), (2, .int v2), (3, .int v3), (4, .int v4), (5, .int v5), (6, .long s.1), (8, .long s.2.1), (10, .int s.2.2.1), (11, .int s.2.2.2.1), (12, .int s.2.2.2.2.1)] [] s.2.2.2.2.2) (fun r => r = (rr, μr)) z) : JW X (jEnd X n Y (some (.int rr)) μr 0 0) 0 0 n Y 109 [(0, .ref v0), (1, .int v1), (2, .int v2), (3, .int v3), (4, .int v4), (5, .int v5), (6, .long v6), (10, .int v10), (11, .int v11), (12, .int v12), (13, .long v13)] [.int t0] μ := by
  unfold b_X12_belowOf_109 at H
  refine r_istore K [(15, .int _), (0, .ref _), (1, .int _), (2, .int _), (3, .int _), (4, .int _), (5, .int _), (6, .long _), (10, .int _), (11, .int _), (12, .int _), (13, .long _)] dX12_belowOf_109 (by decide) rfl ?_
  refine r_iload K 9 dX12_belowOf_111 rfl ?_
  refine r_iload K 0 dX12_belowOf_113 rfl ?_
  refine r_iload K 8 dX12_belowOf_115 rfl ?_
  refine w_icmp_ne K 124 dX12_belowOf_117 (by decide) H (fun _ H => ?_) (fun _ H => ?_)
  · refine r_iconst (v := 0) K dX12_belowOf_124 (by decide) ?_
    exact r_sub [1, 2, 3, 4, 5, 6, 7, 10, 11, 0] rfl (t_X12_belowOf_125 K hl H D)
  · refine r_iconst (v := 1) K dX12_belowOf_120 (by decide) ?_
    refine r_goto K 125 dX12_belowOf_121 (by decide) ?_
    exact r_sub [1, 2, 3, 4, 5, 6, 7, 10, 11, 0] rfl (t_X12_belowOf_125 K hl H D)
set_option maxRecDepth 10000 in
theorem t_X12_belowOf_74 {X : jX} {l : Launch} {n : Nat} {Y : jY} (K : jOK X RX12 cX12_belowOf 16 (some .int) 2) (hl : X.2.1 = l) {rr : Int32} {μr : jM} {v0 : Nat} {v1 : Int32} {v2 : Int32} {v3 : Int32} {v4 : Int32} {v5 : Int32} {v6 : Int64} {v10 : Int32} {v11 : Int32} {v12 : Int32} {t0 : Int64} {t1 : Int64} {μ : jM} {z : ((Int64 × Int64 × Int32 × Int32 × Int32 × jM) ⊕ (Int32 × jM))} (H : b_X12_belowOf_74 Y v0 v1 v2 v3 v4 v5 v6 v10 v11 v12 t0 t1 μ = some z) (D : Sum.elim (fun (s : Int64 × Int64 × Int32 × Int32 × Int32 × jM) => JW X (jEnd X n Y (some (.int rr)) μr 0 0) 0 0 n Y 15 [(0, .ref v0), (1, .int v1), (2, .int v2), (3, .int v3), (4, .int v4), (5, .int v5), (6, .long s.1), (8, .long s.2.1), (10, .int s.2.2.1), (11, .int s.2.2.2.1), (12, .int s.2.2.2.2.1)] [] s.2.2.2.2.2) (fun r => r = (rr, μr)) z) : JW X (jEnd X n Y (some (.int rr)) μr 0 0) 0 0 n Y 74 [(0, .ref v0), (1, .int v1), (2, .int v2), (3, .int v3), (4, .int v4), (5, .int v5), (6, .long v6), (10, .int v10), (11, .int v11), (12, .int v12)] [.long t1, .long t0] μ := by
  unfold b_X12_belowOf_74 at H
  refine r_lsub K dX12_belowOf_74 ?_
  refine r_lstore K [(13, .long _), (0, .ref _), (1, .int _), (2, .int _), (3, .int _), (4, .int _), (5, .int _), (6, .long _), (10, .int _), (11, .int _), (12, .int _)] dX12_belowOf_75 (by decide) rfl ?_
  refine r_lload K 0 dX12_belowOf_77 rfl ?_
  refine r_lconst (v := 0) K dX12_belowOf_79 (by decide) ?_
  refine r_lcmp K dX12_belowOf_80 ?_
  refine w_if_ne K 97 dX12_belowOf_81 (by decide) H (fun _ H => ?_) (fun _ H => ?_)
  · refine r_lload K 0 dX12_belowOf_97 rfl ?_
    refine r_lconst (v := 0) K dX12_belowOf_99 (by decide) ?_
    refine r_lcmp K dX12_belowOf_100 ?_
    refine w_if_le K 108 dX12_belowOf_101 (by decide) H (fun _ H => ?_) (fun _ H => ?_)
    · refine r_iconst (v := 0) K dX12_belowOf_108 (by decide) ?_
      exact r_sub [1, 2, 3, 4, 5, 6, 7, 8, 9, 10, 0] rfl (t_X12_belowOf_109 K hl H D)
    · refine r_iconst (v := 1) K dX12_belowOf_104 (by decide) ?_
      refine r_goto K 109 dX12_belowOf_105 (by decide) ?_
      exact r_sub [1, 2, 3, 4, 5, 6, 7, 8, 9, 10, 0] rfl (t_X12_belowOf_109 K hl H D)
  · refine r_iload K 8 dX12_belowOf_84 rfl ?_
    refine w_if_ne K 93 dX12_belowOf_86 (by decide) H (fun _ H => ?_) (fun _ H => ?_)
    · refine r_iconst (v := 0) K dX12_belowOf_93 (by decide) ?_
      refine r_goto K 109 dX12_belowOf_94 (by decide) ?_
      exact r_sub [1, 2, 3, 4, 5, 6, 7, 8, 9, 10, 0] rfl (t_X12_belowOf_109 K hl H D)
    · refine r_iconst (v := 1) K dX12_belowOf_89 (by decide) ?_
      refine r_goto K 109 dX12_belowOf_90 (by decide) ?_
      exact r_sub [1, 2, 3, 4, 5, 6, 7, 8, 9, 10, 0] rfl (t_X12_belowOf_109 K hl H D)
set_option maxRecDepth 10000 in
theorem t_X12_belowOf_15 {X : jX} {l : Launch} {n : Nat} {Y : jY} (K : jOK X RX12 cX12_belowOf 16 (some .int) 2) (hl : X.2.1 = l) {rr : Int32} {μr : jM} {v0 : Nat} {v1 : Int32} {v2 : Int32} {v3 : Int32} {v4 : Int32} {v5 : Int32} {v6 : Int64} {v8 : Int64} {v10 : Int32} {v11 : Int32} {v12 : Int32} {μ : jM} {z : ((Int64 × Int64 × Int32 × Int32 × Int32 × jM) ⊕ (Int32 × jM))} (H : b_X12_belowOf_15 Y v0 v1 v2 v3 v4 v5 v6 v8 v10 v11 v12 μ = some z) (D : Sum.elim (fun (s : Int64 × Int64 × Int32 × Int32 × Int32 × jM) => JW X (jEnd X n Y (some (.int rr)) μr 0 0) 0 0 n Y 15 [(0, .ref v0), (1, .int v1), (2, .int v2), (3, .int v3), (4, .int v4), (5, .int v5), (6, .long s.1), (8, .long s.2.1), (10, .int s.2.2.1), (11, .int s.2.2.2.1), (12, .int s.2.2.2.2.1)] [] s.2.2.2.2.2) (fun r => r = (rr, μr)) z) : JW X (jEnd X n Y (some (.int rr)) μr 0 0) 0 0 n Y 15 [(0, .ref v0), (1, .int v1), (2, .int v2), (3, .int v3), (4, .int v4), (5, .int v5), (6, .long v6), (8, .long v8), (10, .int v10), (11, .int v11), (12, .int v12)] [] μ := by
  unfold b_X12_belowOf_15 at H
  refine r_iload K 10 dX12_belowOf_15 rfl ?_
  refine r_iload_n K 3 dX12_belowOf_17 rfl rfl ?_
  refine w_icmp_ge K 146 dX12_belowOf_18 (by decide) H (fun _ H => ?_) (fun _ H => ?_)
  · refine r_iload K 9 dX12_belowOf_146 rfl ?_
    cases H
    simp only [Sum.elim_inr] at D
    obtain ⟨rfl, rfl⟩ := jfin2 D
    exact r_iret K dX12_belowOf_148
  · refine r_iload K 4 dX12_belowOf_21 rfl ?_
    refine r_i2l K dX12_belowOf_23 ?_
    refine r_aload_n K 0 dX12_belowOf_24 rfl rfl ?_
    refine r_iload_n K 1 dX12_belowOf_25 rfl rfl ?_
    refine r_iload_n K 2 dX12_belowOf_26 rfl rfl ?_
    refine r_iload K 10 dX12_belowOf_27 rfl ?_
    refine r_iadd K dX12_belowOf_29 ?_
    refine w_callV K hl H (fun r h => c_X12_a l h) mC_yX12_a mM_RX12_256 mI_yX12_a mS_yX12_a mZ_RX12 vc12 (Nat.le_of_ble_eq_true rfl) (Nat.le_of_ble_eq_true rfl) np_yX12_a rfl (Nat.le_of_ble_eq_true rfl) dX12_belowOf_30 (fun r1 H => ?_) ⟨Nat.zero_le _, Nat.zero_le _⟩
    refine r_i2l K dX12_belowOf_33 ?_
    refine r_iload K 5 dX12_belowOf_34 rfl ?_
    refine r_i2l K dX12_belowOf_36 ?_
    refine r_lmul K dX12_belowOf_37 ?_
    refine r_lsub K dX12_belowOf_38 ?_
    refine r_lload K 6 dX12_belowOf_39 rfl ?_
    refine r_lmul K dX12_belowOf_41 ?_
    refine r_iload K 10 dX12_belowOf_42 rfl ?_
    refine w_if_le K 73 dX12_belowOf_44 (by decide) H (fun _ H => ?_) (fun _ H => ?_)
    · refine r_lconst (v := 0) K dX12_belowOf_73 (by decide) ?_
      exact r_sub [0, 1, 2, 3, 4, 5, 6, 8, 9, 10] rfl (t_X12_belowOf_74 K hl H D)
    · refine r_aload_n K 0 dX12_belowOf_47 rfl rfl ?_
      refine r_iload_n K 1 dX12_belowOf_48 rfl rfl ?_
      refine r_iload_n K 2 dX12_belowOf_49 rfl rfl ?_
      refine r_iload K 10 dX12_belowOf_50 rfl ?_
      refine r_iadd K dX12_belowOf_52 ?_
      refine r_iconst (v := 1) K dX12_belowOf_53 (by decide) ?_
      refine r_isub K dX12_belowOf_54 ?_
      refine w_callV K hl H (fun r h => c_X12_c l h) mC_yX12_c mM_RX12_260 mI_yX12_c mS_yX12_c mZ_RX12 vc12 (Nat.le_of_ble_eq_true rfl) (Nat.le_of_ble_eq_true rfl) np_yX12_c rfl (Nat.le_of_ble_eq_true rfl) dX12_belowOf_55 (fun r2 H => ?_) ⟨Nat.zero_le _, Nat.zero_le _⟩
      refine r_i2l K dX12_belowOf_58 ?_
      refine r_iload K 5 dX12_belowOf_59 rfl ?_
      refine r_i2l K dX12_belowOf_61 ?_
      refine r_lmul K dX12_belowOf_62 ?_
      refine r_iload K 5 dX12_belowOf_63 rfl ?_
      refine r_i2l K dX12_belowOf_65 ?_
      refine r_lmul K dX12_belowOf_66 ?_
      refine r_lload K 7 dX12_belowOf_67 rfl ?_
      refine r_lmul K dX12_belowOf_69 ?_
      refine r_goto K 74 dX12_belowOf_70 (by decide) ?_
      exact r_sub [0, 1, 2, 3, 4, 5, 6, 8, 9, 10] rfl (t_X12_belowOf_74 K hl H D)
set_option maxRecDepth 10000 in
theorem l_X12_belowOf_15 {X : jX} {l : Launch} {n : Nat} {Y : jY} (K : jOK X RX12 cX12_belowOf 16 (some .int) 2) (hl : X.2.1 = l) {rr : Int32} {μr : jM} {v0 : Nat} {v1 : Int32} {v2 : Int32} {v3 : Int32} {v4 : Int32} {v5 : Int32}  {s0 : Int64 × Int64 × Int32 × Int32 × Int32 × jM} {z : (Int32 × jM)} (H : jit jF (fun (s : Int64 × Int64 × Int32 × Int32 × Int32 × jM) => b_X12_belowOf_15 Y v0 v1 v2 v3 v4 v5 s.1 s.2.1 s.2.2.1 s.2.2.2.1 s.2.2.2.2.1 s.2.2.2.2.2) s0 = some z) (D : z = (rr, μr)) : JW X (jEnd X n Y (some (.int rr)) μr 0 0) 0 0 n Y 15 [(0, .ref v0), (1, .int v1), (2, .int v2), (3, .int v3), (4, .int v4), (5, .int v5), (6, .long s0.1), (8, .long s0.2.1), (10, .int s0.2.2.1), (11, .int s0.2.2.2.1), (12, .int s0.2.2.2.2.1)] [] s0.2.2.2.2.2 :=
  jit_ind (P := fun (s : Int64 × Int64 × Int32 × Int32 × Int32 × jM) => JW X (jEnd X n Y (some (.int rr)) μr 0 0) 0 0 n Y 15 [(0, .ref v0), (1, .int v1), (2, .int v2), (3, .int v3), (4, .int v4), (5, .int v5), (6, .long s.1), (8, .long s.2.1), (10, .int s.2.2.1), (11, .int s.2.2.2.1), (12, .int s.2.2.2.2.1)] [] s.2.2.2.2.2) (D := fun r => r = (rr, μr)) (fun s z Hs Ds => t_X12_belowOf_15 K hl Hs Ds) jF s0 z H D
set_option maxRecDepth 10000 in
theorem t_X12_belowOf_0 {X : jX} {l : Launch} {n : Nat} {Y : jY} (K : jOK X RX12 cX12_belowOf 16 (some .int) 2) (hl : X.2.1 = l) {rr : Int32} {μr : jM} {v0 : Nat} {v1 : Int32} {v2 : Int32} {v3 : Int32} {v4 : Int32} {v5 : Int32} {μ : jM} {z : (Int32 × jM)} (H : f_X12_belowOf Y v0 v1 v2 v3 v4 v5 μ = some z) (D : z = (rr, μr)) : JW X (jEnd X n Y (some (.int rr)) μr 0 0) 0 0 n Y 0 [(0, .ref v0), (1, .int v1), (2, .int v2), (3, .int v3), (4, .int v4), (5, .int v5)] [] μ := by
  unfold f_X12_belowOf at H
  refine r_lconst (v := 1) K dX12_belowOf_0 (by decide) ?_
  refine r_lstore K [(6, .long _), (0, .ref _), (1, .int _), (2, .int _), (3, .int _), (4, .int _), (5, .int _)] dX12_belowOf_1 (by decide) rfl ?_
  refine r_lconst (v := 0) K dX12_belowOf_3 (by decide) ?_
  refine r_lstore K [(8, .long _), (6, .long _), (0, .ref _), (1, .int _), (2, .int _), (3, .int _), (4, .int _), (5, .int _)] dX12_belowOf_4 (by decide) rfl ?_
  refine r_iconst (v := 1) K dX12_belowOf_6 (by decide) ?_
  refine r_istore K [(10, .int _), (8, .long _), (6, .long _), (0, .ref _), (1, .int _), (2, .int _), (3, .int _), (4, .int _), (5, .int _)] dX12_belowOf_7 (by decide) rfl ?_
  refine r_iconst (v := 0) K dX12_belowOf_9 (by decide) ?_
  refine r_istore K [(11, .int _), (10, .int _), (8, .long _), (6, .long _), (0, .ref _), (1, .int _), (2, .int _), (3, .int _), (4, .int _), (5, .int _)] dX12_belowOf_10 (by decide) rfl ?_
  refine r_iconst (v := 0) K dX12_belowOf_12 (by decide) ?_
  refine r_istore K [(12, .int _), (11, .int _), (10, .int _), (8, .long _), (6, .long _), (0, .ref _), (1, .int _), (2, .int _), (3, .int _), (4, .int _), (5, .int _)] dX12_belowOf_13 (by decide) rfl ?_
  exact r_sub [5, 6, 7, 8, 9, 10, 4, 3, 2, 1, 0] rfl (l_X12_belowOf_15 K hl H D)
theorem c_X12_belowOf (l : Launch) {n : Nat} {Y : jY} {v0 : Nat} {v1 : Int32} {v2 : Int32} {v3 : Int32} {v4 : Int32} {v5 : Int32} {μ : jM} {z : Int32 × jM} (H : f_X12_belowOf Y v0 v1 v2 v3 v4 v5 μ = some z) : jC l yX12_belowOf cX12_belowOf 16 (some .int) 2 0 0 [.ref v0, .int v1, .int v2, .int v3, .int v4, .int v5] n Y μ n Y (some (.int z.1)) z.2 := by
  refine jC_of (by decide +kernel) (Nat.le_of_ble_eq_true rfl) (fun X hl K _ _ _ => ?_)
  obtain ⟨rr, μr⟩ := z
  exact t_X12_belowOf_0 K hl H rfl
/-! RX12 rootOf(IIIII)I -/
def b_X12_rootOf_64 (Y : jY) (v0 : Nat) (v1 : Int32) (v2 : Int32) (v3 : Int32) (v4 : Int32) (v5 : Int32) (v6 : Int32) (v7 : Int32) (μ : jM) : Option ((Int32 × Int32 × jM) ⊕ (Int32 × jM)) :=
  some (.inl (v6, v7, μ))
def b_X12_rootOf_14 (Y : jY) (v0 : Nat) (v1 : Int32) (v2 : Int32) (v3 : Int32) (v4 : Int32) (v5 : Int32) (v6 : Int32) (v7 : Int32) (μ : jM) : Option ((Int32 × Int32 × jM) ⊕ (Int32 × jM)) :=
  if v7 ≤ v6 then
    some (.inr (v6, μ))
  else
    (jdivI ((((v7 - v6)) + ((1 : Int32)))) ((2 : Int32))).bind fun x1 =>
    (jrcv Y v0 12 (f_X12_belowOf Y v0 v1 v2 v3 ((v6 + x1)) v5 μ)).bind fun r2 =>
    if v4 < r2.1 then
      b_X12_rootOf_64 Y v0 v1 v2 v3 v4 v5 v6 (((v6 + x1)) - ((1 : Int32))) r2.2
    else
      b_X12_rootOf_64 Y v0 v1 v2 v3 v4 v5 (v6 + x1) v7 r2.2
def f_X12_rootOf (Y : jY) (v0 : Nat) (v1 : Int32) (v2 : Int32) (v3 : Int32) (v4 : Int32) (v5 : Int32) (μ : jM) : Option (Int32 × jM) :=
  jit jF (fun (s : Int32 × Int32 × jM) => b_X12_rootOf_14 Y v0 v1 v2 v3 v4 v5 s.1 s.2.1 s.2.2) ((((-20 : Int32)) * v5), (((20 : Int32)) * v5), μ)
set_option maxRecDepth 10000 in
theorem t_X12_rootOf_64 {X : jX} {l : Launch} {n : Nat} {Y : jY} (K : jOK X RX12 cX12_rootOf 9 (some .int) 3) (hl : X.2.1 = l) {rr : Int32} {μr : jM} {v0 : Nat} {v1 : Int32} {v2 : Int32} {v3 : Int32} {v4 : Int32} {v5 : Int32} {v6 : Int32} {v7 : Int32} {μ : jM} {z : ((Int32 × Int32 × jM) ⊕ (Int32 × jM))} (H : b_X12_rootOf_64 Y v0 v1 v2 v3 v4 v5 v6 v7 μ = some z) (D : Sum.elim (fun (s : Int32 × Int32 × jM) => JW X (jEnd X n Y (some (.int rr)) μr 0 0) 0 0 n Y 14 [(0, .ref v0), (1, .int v1), (2, .int v2), (3, .int v3), (4, .int v4), (5, .int v5), (6, .int s.1), (7, .int s.2.1)] [] s.2.2) (fun r => r = (rr, μr)) z) : JW X (jEnd X n Y (some (.int rr)) μr 0 0) 0 0 n Y 64 [(0, .ref v0), (1, .int v1), (2, .int v2), (3, .int v3), (4, .int v4), (5, .int v5), (6, .int v6), (7, .int v7)] [] μ := by
  unfold b_X12_rootOf_64 at H
  refine r_goto K 14 dX12_rootOf_64 (by decide) ?_
  cases H
  exact r_sub [0, 1, 2, 3, 4, 5, 6, 7] rfl D
set_option maxRecDepth 10000 in
theorem t_X12_rootOf_14 {X : jX} {l : Launch} {n : Nat} {Y : jY} (K : jOK X RX12 cX12_rootOf 9 (some .int) 3) (hl : X.2.1 = l) {rr : Int32} {μr : jM} {v0 : Nat} {v1 : Int32} {v2 : Int32} {v3 : Int32} {v4 : Int32} {v5 : Int32} {v6 : Int32} {v7 : Int32} {μ : jM} {z : ((Int32 × Int32 × jM) ⊕ (Int32 × jM))} (H : b_X12_rootOf_14 Y v0 v1 v2 v3 v4 v5 v6 v7 μ = some z) (D : Sum.elim (fun (s : Int32 × Int32 × jM) => JW X (jEnd X n Y (some (.int rr)) μr 0 0) 0 0 n Y 14 [(0, .ref v0), (1, .int v1), (2, .int v2), (3, .int v3), (4, .int v4), (5, .int v5), (6, .int s.1), (7, .int s.2.1)] [] s.2.2) (fun r => r = (rr, μr)) z) : JW X (jEnd X n Y (some (.int rr)) μr 0 0) 0 0 n Y 14 [(0, .ref v0), (1, .int v1), (2, .int v2), (3, .int v3), (4, .int v4), (5, .int v5), (6, .int v6), (7, .int v7)] [] μ := by
  unfold b_X12_rootOf_14 at H
  refine r_iload K 6 dX12_rootOf_14 rfl ?_
  refine r_iload K 7 dX12_rootOf_16 rfl ?_
  refine w_icmp_ge K 67 dX12_rootOf_18 (by decide) H (fun _ H => ?_) (fun _ H => ?_)
  · refine r_iload K 6 dX12_rootOf_67 rfl ?_
    cases H
    simp only [Sum.elim_inr] at D
    obtain ⟨rfl, rfl⟩ := jfin2 D
    exact r_iret K dX12_rootOf_69
  · refine r_iload K 6 dX12_rootOf_21 rfl ?_
    refine r_iload K 7 dX12_rootOf_23 rfl ?_
    refine r_iload K 6 dX12_rootOf_25 rfl ?_
    refine r_isub K dX12_rootOf_27 ?_
    refine r_iconst (v := 1) K dX12_rootOf_28 (by decide) ?_
    refine r_iadd K dX12_rootOf_29 ?_
    refine r_iconst (v := 2) K dX12_rootOf_30 (by decide) ?_
    refine w_idiv K dX12_rootOf_31 H (fun x1 H => ?_)
    refine r_iadd K dX12_rootOf_32 ?_
    refine r_istore K [(8, .int _), (0, .ref _), (1, .int _), (2, .int _), (3, .int _), (4, .int _), (5, .int _), (6, .int _), (7, .int _)] dX12_rootOf_33 (by decide) rfl ?_
    refine r_aload_n K 1 dX12_rootOf_35 rfl rfl ?_
    refine r_iload_n K 2 dX12_rootOf_36 rfl rfl ?_
    refine r_iload_n K 3 dX12_rootOf_37 rfl rfl ?_
    refine r_iload_n K 4 dX12_rootOf_38 rfl rfl ?_
    refine r_iload K 0 dX12_rootOf_39 rfl ?_
    refine r_iload K 6 dX12_rootOf_41 rfl ?_
    refine w_callV K hl H (fun r h => c_X12_belowOf l h) mC_yX12_belowOf mM_RX12_283 mI_yX12_belowOf mS_yX12_belowOf mZ_RX12 vc12 (Nat.le_of_ble_eq_true rfl) (Nat.le_of_ble_eq_true rfl) np_yX12_belowOf rfl (Nat.le_of_ble_eq_true rfl) dX12_rootOf_43 (fun r2 H => ?_) ⟨Nat.zero_le _, Nat.zero_le _⟩
    refine r_iload K 5 dX12_rootOf_46 rfl ?_
    refine w_icmp_gt K 58 dX12_rootOf_48 (by decide) H (fun _ H => ?_) (fun _ H => ?_)
    · refine r_iload K 0 dX12_rootOf_58 rfl ?_
      refine r_iconst (v := 1) K dX12_rootOf_60 (by decide) ?_
      refine r_isub K dX12_rootOf_61 ?_
      refine r_istore K [(7, .int _), (8, .int _), (0, .ref _), (1, .int _), (2, .int _), (3, .int _), (4, .int _), (5, .int _), (6, .int _)] dX12_rootOf_62 (by decide) rfl ?_
      exact r_sub [2, 3, 4, 5, 6, 7, 8, 0] rfl (t_X12_rootOf_64 K hl H D)
    · refine r_iload K 0 dX12_rootOf_51 rfl ?_
      refine r_istore K [(6, .int _), (8, .int _), (0, .ref _), (1, .int _), (2, .int _), (3, .int _), (4, .int _), (5, .int _), (7, .int _)] dX12_rootOf_53 (by decide) rfl ?_
      refine r_goto K 64 dX12_rootOf_55 (by decide) ?_
      exact r_sub [2, 3, 4, 5, 6, 7, 0, 8] rfl (t_X12_rootOf_64 K hl H D)
set_option maxRecDepth 10000 in
theorem l_X12_rootOf_14 {X : jX} {l : Launch} {n : Nat} {Y : jY} (K : jOK X RX12 cX12_rootOf 9 (some .int) 3) (hl : X.2.1 = l) {rr : Int32} {μr : jM} {v0 : Nat} {v1 : Int32} {v2 : Int32} {v3 : Int32} {v4 : Int32} {v5 : Int32}  {s0 : Int32 × Int32 × jM} {z : (Int32 × jM)} (H : jit jF (fun (s : Int32 × Int32 × jM) => b_X12_rootOf_14 Y v0 v1 v2 v3 v4 v5 s.1 s.2.1 s.2.2) s0 = some z) (D : z = (rr, μr)) : JW X (jEnd X n Y (some (.int rr)) μr 0 0) 0 0 n Y 14 [(0, .ref v0), (1, .int v1), (2, .int v2), (3, .int v3), (4, .int v4), (5, .int v5), (6, .int s0.1), (7, .int s0.2.1)] [] s0.2.2 :=
  jit_ind (P := fun (s : Int32 × Int32 × jM) => JW X (jEnd X n Y (some (.int rr)) μr 0 0) 0 0 n Y 14 [(0, .ref v0), (1, .int v1), (2, .int v2), (3, .int v3), (4, .int v4), (5, .int v5), (6, .int s.1), (7, .int s.2.1)] [] s.2.2) (D := fun r => r = (rr, μr)) (fun s z Hs Ds => t_X12_rootOf_14 K hl Hs Ds) jF s0 z H D
set_option maxRecDepth 10000 in
theorem t_X12_rootOf_0 {X : jX} {l : Launch} {n : Nat} {Y : jY} (K : jOK X RX12 cX12_rootOf 9 (some .int) 3) (hl : X.2.1 = l) {rr : Int32} {μr : jM} {v0 : Nat} {v1 : Int32} {v2 : Int32} {v3 : Int32} {v4 : Int32} {v5 : Int32} {μ : jM} {z : (Int32 × jM)} (H : f_X12_rootOf Y v0 v1 v2 v3 v4 v5 μ = some z) (D : z = (rr, μr)) : JW X (jEnd X n Y (some (.int rr)) μr 0 0) 0 0 n Y 0 [(0, .ref v0), (1, .int v1), (2, .int v2), (3, .int v3), (4, .int v4), (5, .int v5)] [] μ := by
  unfold f_X12_rootOf at H
  refine r_bipush (v := -20) K dX12_rootOf_0 (by decide) ?_
  refine r_iload K 5 dX12_rootOf_2 rfl ?_
  refine r_imul K dX12_rootOf_4 ?_
  refine r_istore K [(6, .int _), (0, .ref _), (1, .int _), (2, .int _), (3, .int _), (4, .int _), (5, .int _)] dX12_rootOf_5 (by decide) rfl ?_
  refine r_bipush (v := 20) K dX12_rootOf_7 (by decide) ?_
  refine r_iload K 6 dX12_rootOf_9 rfl ?_
  refine r_imul K dX12_rootOf_11 ?_
  refine r_istore K [(7, .int _), (6, .int _), (0, .ref _), (1, .int _), (2, .int _), (3, .int _), (4, .int _), (5, .int _)] dX12_rootOf_12 (by decide) rfl ?_
  exact r_sub [2, 3, 4, 5, 6, 7, 1, 0] rfl (l_X12_rootOf_14 K hl H D)
theorem c_X12_rootOf (l : Launch) {n : Nat} {Y : jY} {v0 : Nat} {v1 : Int32} {v2 : Int32} {v3 : Int32} {v4 : Int32} {v5 : Int32} {μ : jM} {z : Int32 × jM} (H : f_X12_rootOf Y v0 v1 v2 v3 v4 v5 μ = some z) : jC l yX12_rootOf cX12_rootOf 9 (some .int) 3 0 0 [.ref v0, .int v1, .int v2, .int v3, .int v4, .int v5] n Y μ n Y (some (.int z.1)) z.2 := by
  refine jC_of (by decide +kernel) (Nat.le_of_ble_eq_true rfl) (fun X hl K _ _ _ => ?_)
  obtain ⟨rr, μr⟩ := z
  exact t_X12_rootOf_0 K hl H rfl
/-! RX12 root(IIII)I -/
def b_X12_root_52 (Y : jY) (μ : jM) : Option (Int32 × jM) :=
  some ((-100001 : Int32), μ)
def b_X12_root_81 (Y : jY) (t0 : Int32) (μ : jM) : Option (Int32 × jM) :=
  some (t0, μ)
def b_X12_root_56 (Y : jY) (v0 : Nat) (v1 : Int32) (v2 : Int32) (v3 : Int32) (v4 : Int32) (μ : jM) : Option (Int32 × jM) :=
  (jgO Y μ v0 12 26).bind fun x1 =>
  (jaI Y μ x1 20 v1).bind fun x2 =>
  if x2 = 0 then
    b_X12_root_81 Y (-100000 : Int32) μ
  else
    (jrcv Y v0 12 (f_X12_rootOf Y v0 v1 ((0 : Int32)) v2 v3 v4 μ)).bind fun r3 =>
    b_X12_root_81 Y r3.1 r3.2
def f_X12_root (Y : jY) (v0 : Nat) (v1 : Int32) (v2 : Int32) (v3 : Int32) (v4 : Int32) (μ : jM) : Option (Int32 × jM) :=
  (f_X12_isDrawer Y v1 μ).bind fun r1 =>
  if r1.1 = 0 then
    b_X12_root_52 Y r1.2
  else
    (f_X12_in Y v4 ((1 : Int32)) ((50 : Int32)) r1.2).bind fun r2 =>
    if r2.1 = 0 then
      b_X12_root_52 Y r2.2
    else
      (jgO Y r2.2 v0 12 26).bind fun x3 =>
      (jaI Y r2.2 x3 20 v1).bind fun x4 =>
      if x4 ≤ 0 then
        b_X12_root_56 Y v0 v1 v2 v3 v4 r2.2
      else
        (jgO Y r2.2 v0 12 26).bind fun x5 =>
        (jaI Y r2.2 x5 20 v1).bind fun x6 =>
        (f_X12_in Y v2 ((1 : Int32)) x6 r2.2).bind fun r7 =>
        if r7.1 = 0 then
          b_X12_root_52 Y r7.2
        else
          (f_X12_in Y v3 ((0 : Int32)) ((v2 - ((1 : Int32)))) r7.2).bind fun r8 =>
          if r8.1 = 0 then
            b_X12_root_52 Y r8.2
          else
            b_X12_root_56 Y v0 v1 v2 v3 v4 r8.2
set_option maxRecDepth 10000 in
theorem t_X12_root_52 {X : jX} {l : Launch} {n : Nat} {Y : jY} (K : jOK X RX12 cX12_root 5 (some .int) 4) (hl : X.2.1 = l) {rr : Int32} {μr : jM} {μ : jM} {z : (Int32 × jM)} (H : b_X12_root_52 Y μ = some z) (D : z = (rr, μr)) : JW X (jEnd X n Y (some (.int rr)) μr 0 0) 0 0 n Y 52 [] [] μ := by
  unfold b_X12_root_52 at H
  refine r_ldc_w K (-100001) mc_RX12_287 dX12_root_52 ?_
  cases H
  obtain ⟨rfl, rfl⟩ := jfin2 D
  exact r_iret K dX12_root_55
set_option maxRecDepth 10000 in
theorem t_X12_root_81 {X : jX} {l : Launch} {n : Nat} {Y : jY} (K : jOK X RX12 cX12_root 5 (some .int) 4) (hl : X.2.1 = l) {rr : Int32} {μr : jM} {t0 : Int32} {μ : jM} {z : (Int32 × jM)} (H : b_X12_root_81 Y t0 μ = some z) (D : z = (rr, μr)) : JW X (jEnd X n Y (some (.int rr)) μr 0 0) 0 0 n Y 81 [] [.int t0] μ := by
  unfold b_X12_root_81 at H
  cases H
  obtain ⟨rfl, rfl⟩ := jfin2 D
  exact r_iret K dX12_root_81
set_option maxRecDepth 10000 in
theorem t_X12_root_56 {X : jX} {l : Launch} {n : Nat} {Y : jY} (K : jOK X RX12 cX12_root 5 (some .int) 4) (hl : X.2.1 = l) {rr : Int32} {μr : jM} {v0 : Nat} {v1 : Int32} {v2 : Int32} {v3 : Int32} {v4 : Int32} {μ : jM} {z : (Int32 × jM)} (H : b_X12_root_56 Y v0 v1 v2 v3 v4 μ = some z) (D : z = (rr, μr)) : JW X (jEnd X n Y (some (.int rr)) μr 0 0) 0 0 n Y 56 [(0, .ref v0), (1, .int v1), (2, .int v2), (3, .int v3), (4, .int v4)] [] μ := by
  unfold b_X12_root_56 at H
  refine r_aload_n K 0 dX12_root_56 rfl rfl ?_
  refine w_getO K vc12 inX12 26 (by decide) mF_RX12_48 dX12_root_57 H (fun x1 H => ?_)
  refine r_iload_n K 1 dX12_root_60 rfl rfl ?_
  refine w_iald K dX12_root_61 H (fun x2 H => ?_)
  refine w_if_ne K 71 dX12_root_62 (by decide) H (fun _ H => ?_) (fun _ H => ?_)
  · refine r_aload_n K 0 dX12_root_71 rfl rfl ?_
    refine r_iload_n K 1 dX12_root_72 rfl rfl ?_
    refine r_iconst (v := 0) K dX12_root_73 (by decide) ?_
    refine r_iload_n K 2 dX12_root_74 rfl rfl ?_
    refine r_iload_n K 3 dX12_root_75 rfl rfl ?_
    refine r_iload K 4 dX12_root_76 rfl ?_
    refine w_callV K hl H (fun r h => c_X12_rootOf l h) mC_yX12_rootOf mM_RX12_289 mI_yX12_rootOf mS_yX12_rootOf mZ_RX12 vc12 (Nat.le_of_ble_eq_true rfl) (Nat.le_of_ble_eq_true rfl) np_yX12_rootOf rfl (Nat.le_of_ble_eq_true rfl) dX12_root_78 (fun r3 H => ?_) ⟨Nat.zero_le _, Nat.zero_le _⟩
    exact r_sub [] rfl (t_X12_root_81 K hl H D)
  · refine r_ldc_w K (-100000) mc_RX12_288 dX12_root_65 ?_
    refine r_goto K 81 dX12_root_68 (by decide) ?_
    exact r_sub [] rfl (t_X12_root_81 K hl H D)
set_option maxRecDepth 10000 in
theorem t_X12_root_0 {X : jX} {l : Launch} {n : Nat} {Y : jY} (K : jOK X RX12 cX12_root 5 (some .int) 4) (hl : X.2.1 = l) {rr : Int32} {μr : jM} {v0 : Nat} {v1 : Int32} {v2 : Int32} {v3 : Int32} {v4 : Int32} {μ : jM} {z : (Int32 × jM)} (H : f_X12_root Y v0 v1 v2 v3 v4 μ = some z) (D : z = (rr, μr)) : JW X (jEnd X n Y (some (.int rr)) μr 0 0) 0 0 n Y 0 [(0, .ref v0), (1, .int v1), (2, .int v2), (3, .int v3), (4, .int v4)] [] μ := by
  unfold f_X12_root at H
  refine r_iload_n K 1 dX12_root_0 rfl rfl ?_
  refine w_callS K hl H (fun r h => c_X12_isDrawer l h) mC_yX12_isDrawer mM_RX12_253 mT_yX12_isDrawer mZ_RX12 (Nat.le_of_ble_eq_true rfl) (Nat.le_of_ble_eq_true rfl) np_yX12_isDrawer rfl (Nat.le_of_ble_eq_true rfl) dX12_root_1 (fun r1 H => ?_) ⟨Nat.zero_le _, Nat.zero_le _⟩
  refine w_if_eq K 52 dX12_root_4 (by decide) H (fun _ H => ?_) (fun _ H => ?_)
  · exact r_sub [] rfl (t_X12_root_52 K hl H D)
  · refine r_iload K 4 dX12_root_7 rfl ?_
    refine r_iconst (v := 1) K dX12_root_9 (by decide) ?_
    refine r_bipush (v := 50) K dX12_root_10 (by decide) ?_
    refine w_callS K hl H (fun r h => c_X12_in l h) mC_yX12_in mM_RX12_134 mT_yX12_in mZ_RX12 (Nat.le_of_ble_eq_true rfl) (Nat.le_of_ble_eq_true rfl) np_yX12_in rfl (Nat.le_of_ble_eq_true rfl) dX12_root_12 (fun r2 H => ?_) ⟨Nat.zero_le _, Nat.zero_le _⟩
    refine w_if_eq K 52 dX12_root_15 (by decide) H (fun _ H => ?_) (fun _ H => ?_)
    · exact r_sub [] rfl (t_X12_root_52 K hl H D)
    · refine r_aload_n K 0 dX12_root_18 rfl rfl ?_
      refine w_getO K vc12 inX12 26 (by decide) mF_RX12_48 dX12_root_19 H (fun x3 H => ?_)
      refine r_iload_n K 1 dX12_root_22 rfl rfl ?_
      refine w_iald K dX12_root_23 H (fun x4 H => ?_)
      refine w_if_le K 56 dX12_root_24 (by decide) H (fun _ H => ?_) (fun _ H => ?_)
      · exact r_sub [0, 1, 2, 3, 4] rfl (t_X12_root_56 K hl H D)
      · refine r_iload_n K 2 dX12_root_27 rfl rfl ?_
        refine r_iconst (v := 1) K dX12_root_28 (by decide) ?_
        refine r_aload_n K 0 dX12_root_29 rfl rfl ?_
        refine w_getO K vc12 inX12 26 (by decide) mF_RX12_48 dX12_root_30 H (fun x5 H => ?_)
        refine r_iload_n K 1 dX12_root_33 rfl rfl ?_
        refine w_iald K dX12_root_34 H (fun x6 H => ?_)
        refine w_callS K hl H (fun r h => c_X12_in l h) mC_yX12_in mM_RX12_134 mT_yX12_in mZ_RX12 (Nat.le_of_ble_eq_true rfl) (Nat.le_of_ble_eq_true rfl) np_yX12_in rfl (Nat.le_of_ble_eq_true rfl) dX12_root_35 (fun r7 H => ?_) ⟨Nat.zero_le _, Nat.zero_le _⟩
        refine w_if_eq K 52 dX12_root_38 (by decide) H (fun _ H => ?_) (fun _ H => ?_)
        · exact r_sub [] rfl (t_X12_root_52 K hl H D)
        · refine r_iload_n K 3 dX12_root_41 rfl rfl ?_
          refine r_iconst (v := 0) K dX12_root_42 (by decide) ?_
          refine r_iload_n K 2 dX12_root_43 rfl rfl ?_
          refine r_iconst (v := 1) K dX12_root_44 (by decide) ?_
          refine r_isub K dX12_root_45 ?_
          refine w_callS K hl H (fun r h => c_X12_in l h) mC_yX12_in mM_RX12_134 mT_yX12_in mZ_RX12 (Nat.le_of_ble_eq_true rfl) (Nat.le_of_ble_eq_true rfl) np_yX12_in rfl (Nat.le_of_ble_eq_true rfl) dX12_root_46 (fun r8 H => ?_) ⟨Nat.zero_le _, Nat.zero_le _⟩
          refine w_if_ne K 56 dX12_root_49 (by decide) H (fun _ H => ?_) (fun _ H => ?_)
          · exact r_sub [0, 1, 2, 3, 4] rfl (t_X12_root_56 K hl H D)
          · exact r_sub [] rfl (t_X12_root_52 K hl H D)
theorem c_X12_root (l : Launch) {n : Nat} {Y : jY} {v0 : Nat} {v1 : Int32} {v2 : Int32} {v3 : Int32} {v4 : Int32} {μ : jM} {z : Int32 × jM} (H : f_X12_root Y v0 v1 v2 v3 v4 μ = some z) : jC l yX12_root cX12_root 5 (some .int) 4 0 0 [.ref v0, .int v1, .int v2, .int v3, .int v4] n Y μ n Y (some (.int z.1)) z.2 := by
  refine jC_of (by decide +kernel) (Nat.le_of_ble_eq_true rfl) (fun X hl K _ _ _ => ?_)
  obtain ⟨rr, μr⟩ := z
  exact t_X12_root_0 K hl H rfl
/-! RX12 typed4(I)V -/
def b_X12_typed4_2 (Y : jY) (v0 : Nat) (v1 : Int32) (v2 : Int32) (μ : jM) : Option ((Int32 × jM) ⊕ (jM)) :=
  if v2 < 0 then
    some (.inr μ)
  else
    (jgO Y μ v0 12 0).bind fun x1 =>
    (jgI Y μ v0 12 1).bind fun x2 =>
    (jas Y μ x1 22 x2 (.int ((((v1 >>> (((((8 : Int32)) * v2)) &&& 31))).toInt8.toInt32)).toInt8.toInt32)).bind fun μ3 =>
    (jgI Y μ3 v0 12 1).bind fun x4 =>
    (jput Y μ3 v0 12 1 (.int ((x4 + ((1 : Int32)))))).bind fun μ5 =>
    some (.inl ((v2 + (-1 : Int32)), μ5))
def f_X12_typed4 (Y : jY) (v0 : Nat) (v1 : Int32) (μ : jM) : Option (jM) :=
  jit jF (fun (s : Int32 × jM) => b_X12_typed4_2 Y v0 v1 s.1 s.2) ((3 : Int32), μ)
set_option maxRecDepth 10000 in
theorem t_X12_typed4_2 {X : jX} {l : Launch} {n : Nat} {Y : jY} (K : jOK X RX12 cX12_typed4 3 none 1) (hl : X.2.1 = l) {μr : jM} {v0 : Nat} {v1 : Int32} {v2 : Int32} {μ : jM} {z : ((Int32 × jM) ⊕ (jM))} (H : b_X12_typed4_2 Y v0 v1 v2 μ = some z) (D : Sum.elim (fun (s : Int32 × jM) => JW X (jEnd X n Y none μr 0 0) 0 0 n Y 2 [(0, .ref v0), (1, .int v1), (2, .int s.1)] [] s.2) (fun r => r = μr) z) : JW X (jEnd X n Y none μr 0 0) 0 0 n Y 2 [(0, .ref v0), (1, .int v1), (2, .int v2)] [] μ := by
  unfold b_X12_typed4_2 at H
  refine r_iload_n K 2 dX12_typed4_2 rfl rfl ?_
  refine w_if_lt K 38 dX12_typed4_3 (by decide) H (fun _ H => ?_) (fun _ H => ?_)
  · cases H
    simp only [Sum.elim_inr] at D
    subst D
    exact r_vret K dX12_typed4_38
  · refine r_aload_n K 0 dX12_typed4_6 rfl rfl ?_
    refine w_getO K vc12 inX12 0 (by decide) mF_RX12_7 dX12_typed4_7 H (fun x1 H => ?_)
    refine r_aload_n K 0 dX12_typed4_10 rfl rfl ?_
    refine w_getI K vc12 inX12 1 (by decide) mF_RX12_93 dX12_typed4_11 H (fun x2 H => ?_)
    refine r_iload_n K 1 dX12_typed4_14 rfl rfl ?_
    refine r_bipush (v := 8) K dX12_typed4_15 (by decide) ?_
    refine r_iload_n K 2 dX12_typed4_17 rfl rfl ?_
    refine r_imul K dX12_typed4_18 ?_
    refine r_ishr K dX12_typed4_19 ?_
    refine r_i2b K dX12_typed4_20 ?_
    refine w_bast K dX12_typed4_21 H (fun μ3 H => ?_)
    refine r_aload_n K 0 dX12_typed4_22 rfl rfl ?_
    refine r_aload_n K 0 dX12_typed4_23 rfl rfl ?_
    refine w_getI K vc12 inX12 1 (by decide) mF_RX12_93 dX12_typed4_24 H (fun x4 H => ?_)
    refine r_iconst (v := 1) K dX12_typed4_27 (by decide) ?_
    refine r_iadd K dX12_typed4_28 ?_
    refine w_put K vc12 inX12 tyX12_ok nmX12 1 (by decide) mF_RX12_93 rfl (fun _ => rfl) (fun _ => rfl) dX12_typed4_29 H (fun μ5 H => ?_)
    refine r_iinc K 2 [(2, .int _), (0, .ref _), (1, .int _)] (v := _ + (-1 : Int32)) dX12_typed4_32 rfl rfl (by decide) rfl ?_
    refine r_goto K 2 dX12_typed4_35 (by decide) ?_
    cases H
    exact r_sub [1, 2, 0] rfl D
set_option maxRecDepth 10000 in
theorem l_X12_typed4_2 {X : jX} {l : Launch} {n : Nat} {Y : jY} (K : jOK X RX12 cX12_typed4 3 none 1) (hl : X.2.1 = l) {μr : jM} {v0 : Nat} {v1 : Int32}  {s0 : Int32 × jM} {z : (jM)} (H : jit jF (fun (s : Int32 × jM) => b_X12_typed4_2 Y v0 v1 s.1 s.2) s0 = some z) (D : z = μr) : JW X (jEnd X n Y none μr 0 0) 0 0 n Y 2 [(0, .ref v0), (1, .int v1), (2, .int s0.1)] [] s0.2 :=
  jit_ind (P := fun (s : Int32 × jM) => JW X (jEnd X n Y none μr 0 0) 0 0 n Y 2 [(0, .ref v0), (1, .int v1), (2, .int s.1)] [] s.2) (D := fun r => r = μr) (fun s z Hs Ds => t_X12_typed4_2 K hl Hs Ds) jF s0 z H D
set_option maxRecDepth 10000 in
theorem t_X12_typed4_0 {X : jX} {l : Launch} {n : Nat} {Y : jY} (K : jOK X RX12 cX12_typed4 3 none 1) (hl : X.2.1 = l) {μr : jM} {v0 : Nat} {v1 : Int32} {μ : jM} {z : (jM)} (H : f_X12_typed4 Y v0 v1 μ = some z) (D : z = μr) : JW X (jEnd X n Y none μr 0 0) 0 0 n Y 0 [(0, .ref v0), (1, .int v1)] [] μ := by
  unfold f_X12_typed4 at H
  refine r_iconst (v := 3) K dX12_typed4_0 (by decide) ?_
  refine r_istore_n K [(2, .int _), (0, .ref _), (1, .int _)] dX12_typed4_1 rfl (by decide) rfl ?_
  exact r_sub [1, 2, 0] rfl (l_X12_typed4_2 K hl H D)
theorem c_X12_typed4 (l : Launch) {n : Nat} {Y : jY} {v0 : Nat} {v1 : Int32} {μ : jM} {z : jM} (H : f_X12_typed4 Y v0 v1 μ = some z) : jC l yX12_typed4 cX12_typed4 3 none 1 0 0 [.ref v0, .int v1] n Y μ n Y none z := by
  refine jC_of (by decide +kernel) (Nat.le_of_ble_eq_true rfl) (fun X hl K _ _ _ => ?_)
  exact t_X12_typed4_0 K hl H rfl
/-! RX12 common(JJ)J -/
def b_X12_common_28 (Y : jY) (v4 : Int64) (v6 : Int64) (μ : jM) : Option ((Int64 × Int64 × jM) ⊕ (Int64 × jM)) :=
  if ((lg_cmp v6 ((0 : Int64)))) = 0 then
    some (.inr (v4, μ))
  else
    (jremL v4 v6).bind fun x1 =>
    some (.inl (v6, x1, μ))
def b_X12_common_26 (Y : jY) (v4 : Int64) (t0 : Int64) (μ : jM) : Option (Int64 × jM) :=
  jit jF (fun (s : Int64 × Int64 × jM) => b_X12_common_28 Y s.1 s.2.1 s.2.2) (v4, t0, μ)
def b_X12_common_12 (Y : jY) (v2 : Int64) (t0 : Int64) (μ : jM) : Option (Int64 × jM) :=
  if 0 ≤ ((lg_cmp v2 ((0 : Int64)))) then
    b_X12_common_26 Y t0 v2 μ
  else
    b_X12_common_26 Y t0 (-v2) μ
def f_X12_common (Y : jY) (v0 : Int64) (v2 : Int64) (μ : jM) : Option (Int64 × jM) :=
  if 0 ≤ ((lg_cmp v0 ((0 : Int64)))) then
    b_X12_common_12 Y v2 v0 μ
  else
    b_X12_common_12 Y v2 (-v0) μ
set_option maxRecDepth 10000 in
theorem t_X12_common_28 {X : jX} {l : Launch} {n : Nat} {Y : jY} (K : jOK X RX12 cX12_common 10 (some .long) 1) (hl : X.2.1 = l) {rr : Int64} {μr : jM} {v4 : Int64} {v6 : Int64} {μ : jM} {z : ((Int64 × Int64 × jM) ⊕ (Int64 × jM))} (H : b_X12_common_28 Y v4 v6 μ = some z) (D : Sum.elim (fun (s : Int64 × Int64 × jM) => JW X (jEnd X n Y (some (.long rr)) μr 0 0) 0 0 n Y 28 [(4, .long s.1), (6, .long s.2.1)] [] s.2.2) (fun r => r = (rr, μr)) z) : JW X (jEnd X n Y (some (.long rr)) μr 0 0) 0 0 n Y 28 [(4, .long v4), (6, .long v6)] [] μ := by
  unfold b_X12_common_28 at H
  refine r_lload K 1 dX12_common_28 rfl ?_
  refine r_lconst (v := 0) K dX12_common_30 (by decide) ?_
  refine r_lcmp K dX12_common_31 ?_
  refine w_if_eq K 53 dX12_common_32 (by decide) H (fun _ H => ?_) (fun _ H => ?_)
  · refine r_lload K 0 dX12_common_53 rfl ?_
    cases H
    simp only [Sum.elim_inr] at D
    obtain ⟨rfl, rfl⟩ := jfin2 D
    exact r_lret K dX12_common_55
  · refine r_lload K 0 dX12_common_35 rfl ?_
    refine r_lload K 1 dX12_common_37 rfl ?_
    refine w_lrem K dX12_common_39 H (fun x1 H => ?_)
    refine r_lstore K [(8, .long _), (4, .long _), (6, .long _)] dX12_common_40 (by decide) rfl ?_
    refine r_lload K 2 dX12_common_42 rfl ?_
    refine r_lstore K [(4, .long _), (8, .long _), (6, .long _)] dX12_common_44 (by decide) rfl ?_
    refine r_lload K 1 dX12_common_46 rfl ?_
    refine r_lstore K [(6, .long _), (4, .long _), (8, .long _)] dX12_common_48 (by decide) rfl ?_
    refine r_goto K 28 dX12_common_50 (by decide) ?_
    cases H
    exact r_sub [1, 0] rfl D
set_option maxRecDepth 10000 in
theorem l_X12_common_28 {X : jX} {l : Launch} {n : Nat} {Y : jY} (K : jOK X RX12 cX12_common 10 (some .long) 1) (hl : X.2.1 = l) {rr : Int64} {μr : jM}   {s0 : Int64 × Int64 × jM} {z : (Int64 × jM)} (H : jit jF (fun (s : Int64 × Int64 × jM) => b_X12_common_28 Y s.1 s.2.1 s.2.2) s0 = some z) (D : z = (rr, μr)) : JW X (jEnd X n Y (some (.long rr)) μr 0 0) 0 0 n Y 28 [(4, .long s0.1), (6, .long s0.2.1)] [] s0.2.2 :=
  jit_ind (P := fun (s : Int64 × Int64 × jM) => JW X (jEnd X n Y (some (.long rr)) μr 0 0) 0 0 n Y 28 [(4, .long s.1), (6, .long s.2.1)] [] s.2.2) (D := fun r => r = (rr, μr)) (fun s z Hs Ds => t_X12_common_28 K hl Hs Ds) jF s0 z H D
set_option maxRecDepth 10000 in
theorem t_X12_common_26 {X : jX} {l : Launch} {n : Nat} {Y : jY} (K : jOK X RX12 cX12_common 10 (some .long) 1) (hl : X.2.1 = l) {rr : Int64} {μr : jM} {v4 : Int64} {t0 : Int64} {μ : jM} {z : (Int64 × jM)} (H : b_X12_common_26 Y v4 t0 μ = some z) (D : z = (rr, μr)) : JW X (jEnd X n Y (some (.long rr)) μr 0 0) 0 0 n Y 26 [(4, .long v4)] [.long t0] μ := by
  unfold b_X12_common_26 at H
  refine r_lstore K [(6, .long _), (4, .long _)] dX12_common_26 (by decide) rfl ?_
  exact r_sub [1, 0] rfl (l_X12_common_28 K hl H D)
set_option maxRecDepth 10000 in
theorem t_X12_common_12 {X : jX} {l : Launch} {n : Nat} {Y : jY} (K : jOK X RX12 cX12_common 10 (some .long) 1) (hl : X.2.1 = l) {rr : Int64} {μr : jM} {v2 : Int64} {t0 : Int64} {μ : jM} {z : (Int64 × jM)} (H : b_X12_common_12 Y v2 t0 μ = some z) (D : z = (rr, μr)) : JW X (jEnd X n Y (some (.long rr)) μr 0 0) 0 0 n Y 12 [(2, .long v2)] [.long t0] μ := by
  unfold b_X12_common_12 at H
  refine r_lstore K [(4, .long _), (2, .long _)] dX12_common_12 (by decide) rfl ?_
  refine r_lload_n K 1 dX12_common_14 rfl rfl ?_
  refine r_lconst (v := 0) K dX12_common_15 (by decide) ?_
  refine r_lcmp K dX12_common_16 ?_
  refine w_if_ge K 25 dX12_common_17 (by decide) H (fun _ H => ?_) (fun _ H => ?_)
  · refine r_lload_n K 1 dX12_common_25 rfl rfl ?_
    exact r_sub [0] rfl (t_X12_common_26 K hl H D)
  · refine r_lload_n K 1 dX12_common_20 rfl rfl ?_
    refine r_lneg K dX12_common_21 ?_
    refine r_goto K 26 dX12_common_22 (by decide) ?_
    exact r_sub [0] rfl (t_X12_common_26 K hl H D)
set_option maxRecDepth 10000 in
theorem t_X12_common_0 {X : jX} {l : Launch} {n : Nat} {Y : jY} (K : jOK X RX12 cX12_common 10 (some .long) 1) (hl : X.2.1 = l) {rr : Int64} {μr : jM} {v0 : Int64} {v2 : Int64} {μ : jM} {z : (Int64 × jM)} (H : f_X12_common Y v0 v2 μ = some z) (D : z = (rr, μr)) : JW X (jEnd X n Y (some (.long rr)) μr 0 0) 0 0 n Y 0 [(0, .long v0), (2, .long v2)] [] μ := by
  unfold f_X12_common at H
  refine r_lload_n K 0 dX12_common_0 rfl rfl ?_
  refine r_lconst (v := 0) K dX12_common_1 (by decide) ?_
  refine r_lcmp K dX12_common_2 ?_
  refine w_if_ge K 11 dX12_common_3 (by decide) H (fun _ H => ?_) (fun _ H => ?_)
  · refine r_lload_n K 0 dX12_common_11 rfl rfl ?_
    exact r_sub [1] rfl (t_X12_common_12 K hl H D)
  · refine r_lload_n K 0 dX12_common_6 rfl rfl ?_
    refine r_lneg K dX12_common_7 ?_
    refine r_goto K 12 dX12_common_8 (by decide) ?_
    exact r_sub [1] rfl (t_X12_common_12 K hl H D)
theorem c_X12_common (l : Launch) {n : Nat} {Y : jY} {v0 : Int64} {v2 : Int64} {μ : jM} {z : Int64 × jM} (H : f_X12_common Y v0 v2 μ = some z) : jC l yX12_common cX12_common 10 (some .long) 1 0 0 [.long v0, .long v2] n Y μ n Y (some (.long z.1)) z.2 := by
  refine jC_of (by decide +kernel) (Nat.le_of_ble_eq_true rfl) (fun X hl K _ _ _ => ?_)
  obtain ⟨rr, μr⟩ := z
  exact t_X12_common_0 K hl H rfl
/-! RX12 reduces()V -/
def b_X12_reduces_27 (Y : jY) (v0 : Nat) (t0 : Int64) (μ : jM) : Option (jM) :=
  (jgL Y μ v0 12 16).bind fun x1 =>
  (jdivL x1 t0).bind fun x2 =>
  (jput Y μ v0 12 16 (.long x2)).bind fun μ3 =>
  (jgL Y μ3 v0 12 17).bind fun x4 =>
  (jdivL x4 t0).bind fun x5 =>
  (jput Y μ3 v0 12 17 (.long x5)).bind fun μ6 =>
  some μ6
def f_X12_reduces (Y : jY) (v0 : Nat) (μ : jM) : Option (jM) :=
  (jgL Y μ v0 12 16).bind fun x1 =>
  (jgL Y μ v0 12 17).bind fun x2 =>
  (f_X12_common Y x1 x2 μ).bind fun r3 =>
  (jgL Y r3.2 v0 12 17).bind fun x4 =>
  if 0 ≤ ((lg_cmp x4 ((0 : Int64)))) then
    b_X12_reduces_27 Y v0 r3.1 r3.2
  else
    b_X12_reduces_27 Y v0 (-r3.1) r3.2
set_option maxRecDepth 10000 in
theorem t_X12_reduces_27 {X : jX} {l : Launch} {n : Nat} {Y : jY} (K : jOK X RX12 cX12_reduces 3 none 2) (hl : X.2.1 = l) {μr : jM} {v0 : Nat} {t0 : Int64} {μ : jM} {z : (jM)} (H : b_X12_reduces_27 Y v0 t0 μ = some z) (D : z = μr) : JW X (jEnd X n Y none μr 0 0) 0 0 n Y 27 [(0, .ref v0)] [.long t0] μ := by
  unfold b_X12_reduces_27 at H
  refine r_lstore_n K [(1, .long _), (0, .ref _)] dX12_reduces_27 rfl (by decide) rfl ?_
  refine r_aload_n K 1 dX12_reduces_28 rfl rfl ?_
  refine r_aload_n K 1 dX12_reduces_29 rfl rfl ?_
  refine w_getL K vc12 inX12 16 (by decide) mF_RX12_177 dX12_reduces_30 H (fun x1 H => ?_)
  refine r_lload_n K 0 dX12_reduces_33 rfl rfl ?_
  refine w_ldiv K dX12_reduces_34 H (fun x2 H => ?_)
  refine w_put K vc12 inX12 tyX12_ok nmX12 16 (by decide) mF_RX12_177 rfl (fun _ => rfl) (fun _ => rfl) dX12_reduces_35 H (fun μ3 H => ?_)
  refine r_aload_n K 1 dX12_reduces_38 rfl rfl ?_
  refine r_aload_n K 1 dX12_reduces_39 rfl rfl ?_
  refine w_getL K vc12 inX12 17 (by decide) mF_RX12_181 dX12_reduces_40 H (fun x4 H => ?_)
  refine r_lload_n K 0 dX12_reduces_43 rfl rfl ?_
  refine w_ldiv K dX12_reduces_44 H (fun x5 H => ?_)
  refine w_put K vc12 inX12 tyX12_ok nmX12 17 (by decide) mF_RX12_181 rfl (fun _ => rfl) (fun _ => rfl) dX12_reduces_45 H (fun μ6 H => ?_)
  cases H
  subst D
  exact r_vret K dX12_reduces_48
set_option maxRecDepth 10000 in
theorem t_X12_reduces_0 {X : jX} {l : Launch} {n : Nat} {Y : jY} (K : jOK X RX12 cX12_reduces 3 none 2) (hl : X.2.1 = l) {μr : jM} {v0 : Nat} {μ : jM} {z : (jM)} (H : f_X12_reduces Y v0 μ = some z) (D : z = μr) : JW X (jEnd X n Y none μr 0 0) 0 0 n Y 0 [(0, .ref v0)] [] μ := by
  unfold f_X12_reduces at H
  refine r_aload_n K 0 dX12_reduces_0 rfl rfl ?_
  refine w_getL K vc12 inX12 16 (by decide) mF_RX12_177 dX12_reduces_1 H (fun x1 H => ?_)
  refine r_aload_n K 0 dX12_reduces_4 rfl rfl ?_
  refine w_getL K vc12 inX12 17 (by decide) mF_RX12_181 dX12_reduces_5 H (fun x2 H => ?_)
  refine w_callS K hl H (fun r h => c_X12_common l h) mC_yX12_common mM_RX12_184 mT_yX12_common mZ_RX12 (Nat.le_of_ble_eq_true rfl) (Nat.le_of_ble_eq_true rfl) np_yX12_common rfl (Nat.le_of_ble_eq_true rfl) dX12_reduces_8 (fun r3 H => ?_) ⟨Nat.zero_le _, Nat.zero_le _⟩
  refine r_lstore_n K [(1, .long _), (0, .ref _)] dX12_reduces_11 rfl (by decide) rfl ?_
  refine r_aload_n K 1 dX12_reduces_12 rfl rfl ?_
  refine w_getL K vc12 inX12 17 (by decide) mF_RX12_181 dX12_reduces_13 H (fun x4 H => ?_)
  refine r_lconst (v := 0) K dX12_reduces_16 (by decide) ?_
  refine r_lcmp K dX12_reduces_17 ?_
  refine w_if_ge K 26 dX12_reduces_18 (by decide) H (fun _ H => ?_) (fun _ H => ?_)
  · refine r_lload_n K 0 dX12_reduces_26 rfl rfl ?_
    exact r_sub [1] rfl (t_X12_reduces_27 K hl H D)
  · refine r_lload_n K 0 dX12_reduces_21 rfl rfl ?_
    refine r_lneg K dX12_reduces_22 ?_
    refine r_goto K 27 dX12_reduces_23 (by decide) ?_
    exact r_sub [1] rfl (t_X12_reduces_27 K hl H D)
theorem c_X12_reduces (l : Launch) {n : Nat} {Y : jY} {v0 : Nat} {μ : jM} {z : jM} (H : f_X12_reduces Y v0 μ = some z) : jC l yX12_reduces cX12_reduces 3 none 2 0 0 [.ref v0] n Y μ n Y none z := by
  refine jC_of (by decide +kernel) (Nat.le_of_ble_eq_true rfl) (fun X hl K _ _ _ => ?_)
  exact t_X12_reduces_0 K hl H rfl
/-! RX12 adds(JJ)V -/
def f_X12_adds (Y : jY) (v0 : Nat) (v1 : Int64) (v3 : Int64) (μ : jM) : Option (jM) :=
  (f_X12_common Y v1 v3 μ).bind fun r1 =>
  (jdivL v1 r1.1).bind fun x2 =>
  (jdivL v3 r1.1).bind fun x3 =>
  (jgL Y r1.2 v0 12 17).bind fun x4 =>
  (f_X12_common Y x4 x3 r1.2).bind fun r5 =>
  (jgL Y r5.2 v0 12 16).bind fun x6 =>
  (jdivL x3 r5.1).bind fun x7 =>
  (jgL Y r5.2 v0 12 17).bind fun x8 =>
  (jdivL x8 r5.1).bind fun x9 =>
  (jput Y r5.2 v0 12 16 (.long ((((x6 * x7)) + ((x2 * x9)))))).bind fun μ10 =>
  (jgL Y μ10 v0 12 17).bind fun x11 =>
  (jdivL x11 r5.1).bind fun x12 =>
  (jput Y μ10 v0 12 17 (.long ((x12 * x3)))).bind fun μ13 =>
  (jrcv Y v0 12 (f_X12_reduces Y v0 μ13)).bind fun μ14 =>
  some μ14
set_option maxRecDepth 10000 in
theorem t_X12_adds_0 {X : jX} {l : Launch} {n : Nat} {Y : jY} (K : jOK X RX12 cX12_adds 13 none 3) (hl : X.2.1 = l) {μr : jM} {v0 : Nat} {v1 : Int64} {v3 : Int64} {μ : jM} {z : (jM)} (H : f_X12_adds Y v0 v1 v3 μ = some z) (D : z = μr) : JW X (jEnd X n Y none μr 0 0) 0 0 n Y 0 [(0, .ref v0), (1, .long v1), (3, .long v3)] [] μ := by
  unfold f_X12_adds at H
  refine r_lload_n K 1 dX12_adds_0 rfl rfl ?_
  refine r_lload_n K 2 dX12_adds_1 rfl rfl ?_
  refine w_callS K hl H (fun r h => c_X12_common l h) mC_yX12_common mM_RX12_184 mT_yX12_common mZ_RX12 (Nat.le_of_ble_eq_true rfl) (Nat.le_of_ble_eq_true rfl) np_yX12_common rfl (Nat.le_of_ble_eq_true rfl) dX12_adds_2 (fun r1 H => ?_) ⟨Nat.zero_le _, Nat.zero_le _⟩
  refine r_lstore K [(5, .long _), (0, .ref _), (1, .long _), (3, .long _)] dX12_adds_5 (by decide) rfl ?_
  refine r_lload_n K 2 dX12_adds_7 rfl rfl ?_
  refine r_lload K 0 dX12_adds_8 rfl ?_
  refine w_ldiv K dX12_adds_10 H (fun x2 H => ?_)
  refine r_lstore K [(7, .long _), (5, .long _), (0, .ref _), (1, .long _), (3, .long _)] dX12_adds_11 (by decide) rfl ?_
  refine r_lload_n K 4 dX12_adds_13 rfl rfl ?_
  refine r_lload K 1 dX12_adds_14 rfl ?_
  refine w_ldiv K dX12_adds_16 H (fun x3 H => ?_)
  refine r_lstore K [(9, .long _), (7, .long _), (5, .long _), (0, .ref _), (1, .long _), (3, .long _)] dX12_adds_17 (by decide) rfl ?_
  refine r_aload_n K 3 dX12_adds_19 rfl rfl ?_
  refine w_getL K vc12 inX12 17 (by decide) mF_RX12_181 dX12_adds_20 H (fun x4 H => ?_)
  refine r_lload K 0 dX12_adds_23 rfl ?_
  refine w_callS K hl H (fun r h => c_X12_common l h) mC_yX12_common mM_RX12_184 mT_yX12_common mZ_RX12 (Nat.le_of_ble_eq_true rfl) (Nat.le_of_ble_eq_true rfl) np_yX12_common rfl (Nat.le_of_ble_eq_true rfl) dX12_adds_25 (fun r5 H => ?_) ⟨Nat.zero_le _, Nat.zero_le _⟩
  refine r_lstore K [(11, .long _), (9, .long _), (7, .long _), (5, .long _), (0, .ref _), (1, .long _), (3, .long _)] dX12_adds_28 (by decide) rfl ?_
  refine r_aload_n K 4 dX12_adds_30 rfl rfl ?_
  refine r_aload_n K 4 dX12_adds_31 rfl rfl ?_
  refine w_getL K vc12 inX12 16 (by decide) mF_RX12_177 dX12_adds_32 H (fun x6 H => ?_)
  refine r_lload K 1 dX12_adds_35 rfl ?_
  refine r_lload K 0 dX12_adds_37 rfl ?_
  refine w_ldiv K dX12_adds_39 H (fun x7 H => ?_)
  refine r_lmul K dX12_adds_40 ?_
  refine r_lload K 2 dX12_adds_41 rfl ?_
  refine r_aload_n K 4 dX12_adds_43 rfl rfl ?_
  refine w_getL K vc12 inX12 17 (by decide) mF_RX12_181 dX12_adds_44 H (fun x8 H => ?_)
  refine r_lload K 0 dX12_adds_47 rfl ?_
  refine w_ldiv K dX12_adds_49 H (fun x9 H => ?_)
  refine r_lmul K dX12_adds_50 ?_
  refine r_ladd K dX12_adds_51 ?_
  refine w_put K vc12 inX12 tyX12_ok nmX12 16 (by decide) mF_RX12_177 rfl (fun _ => rfl) (fun _ => rfl) dX12_adds_52 H (fun μ10 H => ?_)
  refine r_aload_n K 4 dX12_adds_55 rfl rfl ?_
  refine r_aload_n K 4 dX12_adds_56 rfl rfl ?_
  refine w_getL K vc12 inX12 17 (by decide) mF_RX12_181 dX12_adds_57 H (fun x11 H => ?_)
  refine r_lload K 0 dX12_adds_60 rfl ?_
  refine w_ldiv K dX12_adds_62 H (fun x12 H => ?_)
  refine r_lload K 1 dX12_adds_63 rfl ?_
  refine r_lmul K dX12_adds_65 ?_
  refine w_put K vc12 inX12 tyX12_ok nmX12 17 (by decide) mF_RX12_181 rfl (fun _ => rfl) (fun _ => rfl) dX12_adds_66 H (fun μ13 H => ?_)
  refine r_aload_n K 4 dX12_adds_69 rfl rfl ?_
  refine w_callV K hl H (fun r h => c_X12_reduces l h) mC_yX12_reduces mM_RX12_188 mI_yX12_reduces mS_yX12_reduces mZ_RX12 vc12 (Nat.le_of_ble_eq_true rfl) (Nat.le_of_ble_eq_true rfl) np_yX12_reduces rfl (Nat.le_of_ble_eq_true rfl) dX12_adds_70 (fun μ14 H => ?_) ⟨Nat.zero_le _, Nat.zero_le _⟩
  cases H
  subst D
  exact r_vret K dX12_adds_73
theorem c_X12_adds (l : Launch) {n : Nat} {Y : jY} {v0 : Nat} {v1 : Int64} {v3 : Int64} {μ : jM} {z : jM} (H : f_X12_adds Y v0 v1 v3 μ = some z) : jC l yX12_adds cX12_adds 13 none 3 0 0 [.ref v0, .long v1, .long v3] n Y μ n Y none z := by
  refine jC_of (by decide +kernel) (Nat.le_of_ble_eq_true rfl) (fun X hl K _ _ _ => ?_)
  exact t_X12_adds_0 K hl H rfl
/-! RX12 at(IIII)J -/
def b_X12_at_18 (Y : jY) (v3 : Int32) (t0 : Nat) (t1 : Int32) (t2 : Int32) (μ : jM) : Option (Int64 × jM) :=
  (jaL Y μ t0 21 ((((t1 + t2)) + v3))).bind fun x1 =>
  some (x1, μ)
def f_X12_at (Y : jY) (v0 : Nat) (v1 : Int32) (v2 : Int32) (v3 : Int32) (v4 : Int32) (μ : jM) : Option (Int64 × jM) :=
  (jgO Y μ v0 12 15).bind fun x1 =>
  if v4 ≤ v2 then
    b_X12_at_18 Y v3 x1 v1 (v2 + ((1 : Int32))) μ
  else
    b_X12_at_18 Y v3 x1 v1 v2 μ
set_option maxRecDepth 10000 in
theorem t_X12_at_18 {X : jX} {l : Launch} {n : Nat} {Y : jY} (K : jOK X RX12 cX12_at 5 (some .long) 1) (hl : X.2.1 = l) {rr : Int64} {μr : jM} {v3 : Int32} {t0 : Nat} {t1 : Int32} {t2 : Int32} {μ : jM} {z : (Int64 × jM)} (H : b_X12_at_18 Y v3 t0 t1 t2 μ = some z) (D : z = (rr, μr)) : JW X (jEnd X n Y (some (.long rr)) μr 0 0) 0 0 n Y 18 [(3, .int v3)] [.int t2, .int t1, .ref t0] μ := by
  unfold b_X12_at_18 at H
  refine r_iadd K dX12_at_18 ?_
  refine r_iload_n K 0 dX12_at_19 rfl rfl ?_
  refine r_iadd K dX12_at_20 ?_
  refine w_lald K dX12_at_21 H (fun x1 H => ?_)
  cases H
  obtain ⟨rfl, rfl⟩ := jfin2 D
  exact r_lret K dX12_at_22
set_option maxRecDepth 10000 in
theorem t_X12_at_0 {X : jX} {l : Launch} {n : Nat} {Y : jY} (K : jOK X RX12 cX12_at 5 (some .long) 1) (hl : X.2.1 = l) {rr : Int64} {μr : jM} {v0 : Nat} {v1 : Int32} {v2 : Int32} {v3 : Int32} {v4 : Int32} {μ : jM} {z : (Int64 × jM)} (H : f_X12_at Y v0 v1 v2 v3 v4 μ = some z) (D : z = (rr, μr)) : JW X (jEnd X n Y (some (.long rr)) μr 0 0) 0 0 n Y 0 [(0, .ref v0), (1, .int v1), (2, .int v2), (3, .int v3), (4, .int v4)] [] μ := by
  unfold f_X12_at at H
  refine r_aload_n K 0 dX12_at_0 rfl rfl ?_
  refine w_getO K vc12 inX12 15 (by decide) mF_RX12_33 dX12_at_1 H (fun x1 H => ?_)
  refine r_iload_n K 1 dX12_at_4 rfl rfl ?_
  refine r_iload_n K 2 dX12_at_5 rfl rfl ?_
  refine r_iload K 4 dX12_at_6 rfl ?_
  refine w_icmp_ge K 15 dX12_at_8 (by decide) H (fun _ H => ?_) (fun _ H => ?_)
  · refine r_iload_n K 2 dX12_at_15 rfl rfl ?_
    refine r_iconst (v := 1) K dX12_at_16 (by decide) ?_
    refine r_iadd K dX12_at_17 ?_
    exact r_sub [3] rfl (t_X12_at_18 K hl H D)
  · refine r_iload_n K 2 dX12_at_11 rfl rfl ?_
    refine r_goto K 18 dX12_at_12 (by decide) ?_
    exact r_sub [3] rfl (t_X12_at_18 K hl H D)
theorem c_X12_at (l : Launch) {n : Nat} {Y : jY} {v0 : Nat} {v1 : Int32} {v2 : Int32} {v3 : Int32} {v4 : Int32} {μ : jM} {z : Int64 × jM} (H : f_X12_at Y v0 v1 v2 v3 v4 μ = some z) : jC l yX12_at cX12_at 5 (some .long) 1 0 0 [.ref v0, .int v1, .int v2, .int v3, .int v4] n Y μ n Y (some (.long z.1)) z.2 := by
  refine jC_of (by decide +kernel) (Nat.le_of_ble_eq_true rfl) (fun X hl K _ _ _ => ?_)
  obtain ⟨rr, μr⟩ := z
  exact t_X12_at_0 K hl H rfl
/-! RX12 two(IIIIII)J -/
def f_X12_two (Y : jY) (v0 : Nat) (v1 : Int32) (v2 : Int32) (v3 : Int32) (v4 : Int32) (v5 : Int32) (v6 : Int32) (μ : jM) : Option (Int64 × jM) :=
  (jrcv Y v0 12 (f_X12_at Y v0 v1 v3 v5 v6 μ)).bind fun r1 =>
  (jrcv Y v0 12 (f_X12_at Y v0 v2 v4 v5 v6 r1.2)).bind fun r2 =>
  (jrcv Y v0 12 (f_X12_at Y v0 v1 v4 v5 v6 r2.2)).bind fun r3 =>
  (jrcv Y v0 12 (f_X12_at Y v0 v2 v3 v5 v6 r3.2)).bind fun r4 =>
  some ((((r1.1 * r2.1)) - ((r3.1 * r4.1))), r4.2)
set_option maxRecDepth 10000 in
theorem t_X12_two_0 {X : jX} {l : Launch} {n : Nat} {Y : jY} (K : jOK X RX12 cX12_two 7 (some .long) 2) (hl : X.2.1 = l) {rr : Int64} {μr : jM} {v0 : Nat} {v1 : Int32} {v2 : Int32} {v3 : Int32} {v4 : Int32} {v5 : Int32} {v6 : Int32} {μ : jM} {z : (Int64 × jM)} (H : f_X12_two Y v0 v1 v2 v3 v4 v5 v6 μ = some z) (D : z = (rr, μr)) : JW X (jEnd X n Y (some (.long rr)) μr 0 0) 0 0 n Y 0 [(0, .ref v0), (1, .int v1), (2, .int v2), (3, .int v3), (4, .int v4), (5, .int v5), (6, .int v6)] [] μ := by
  unfold f_X12_two at H
  refine r_aload_n K 0 dX12_two_0 rfl rfl ?_
  refine r_iload_n K 1 dX12_two_1 rfl rfl ?_
  refine r_iload_n K 3 dX12_two_2 rfl rfl ?_
  refine r_iload K 5 dX12_two_3 rfl ?_
  refine r_iload K 6 dX12_two_5 rfl ?_
  refine w_callV K hl H (fun r h => c_X12_at l h) mC_yX12_at mM_RX12_161 mI_yX12_at mS_yX12_at mZ_RX12 vc12 (Nat.le_of_ble_eq_true rfl) (Nat.le_of_ble_eq_true rfl) np_yX12_at rfl (Nat.le_of_ble_eq_true rfl) dX12_two_7 (fun r1 H => ?_) ⟨Nat.zero_le _, Nat.zero_le _⟩
  refine r_aload_n K 0 dX12_two_10 rfl rfl ?_
  refine r_iload_n K 2 dX12_two_11 rfl rfl ?_
  refine r_iload K 4 dX12_two_12 rfl ?_
  refine r_iload K 5 dX12_two_14 rfl ?_
  refine r_iload K 6 dX12_two_16 rfl ?_
  refine w_callV K hl H (fun r h => c_X12_at l h) mC_yX12_at mM_RX12_161 mI_yX12_at mS_yX12_at mZ_RX12 vc12 (Nat.le_of_ble_eq_true rfl) (Nat.le_of_ble_eq_true rfl) np_yX12_at rfl (Nat.le_of_ble_eq_true rfl) dX12_two_18 (fun r2 H => ?_) ⟨Nat.zero_le _, Nat.zero_le _⟩
  refine r_lmul K dX12_two_21 ?_
  refine r_aload_n K 0 dX12_two_22 rfl rfl ?_
  refine r_iload_n K 1 dX12_two_23 rfl rfl ?_
  refine r_iload K 4 dX12_two_24 rfl ?_
  refine r_iload K 5 dX12_two_26 rfl ?_
  refine r_iload K 6 dX12_two_28 rfl ?_
  refine w_callV K hl H (fun r h => c_X12_at l h) mC_yX12_at mM_RX12_161 mI_yX12_at mS_yX12_at mZ_RX12 vc12 (Nat.le_of_ble_eq_true rfl) (Nat.le_of_ble_eq_true rfl) np_yX12_at rfl (Nat.le_of_ble_eq_true rfl) dX12_two_30 (fun r3 H => ?_) ⟨Nat.zero_le _, Nat.zero_le _⟩
  refine r_aload_n K 0 dX12_two_33 rfl rfl ?_
  refine r_iload_n K 2 dX12_two_34 rfl rfl ?_
  refine r_iload_n K 3 dX12_two_35 rfl rfl ?_
  refine r_iload K 5 dX12_two_36 rfl ?_
  refine r_iload K 6 dX12_two_38 rfl ?_
  refine w_callV K hl H (fun r h => c_X12_at l h) mC_yX12_at mM_RX12_161 mI_yX12_at mS_yX12_at mZ_RX12 vc12 (Nat.le_of_ble_eq_true rfl) (Nat.le_of_ble_eq_true rfl) np_yX12_at rfl (Nat.le_of_ble_eq_true rfl) dX12_two_40 (fun r4 H => ?_) ⟨Nat.zero_le _, Nat.zero_le _⟩
  refine r_lmul K dX12_two_43 ?_
  refine r_lsub K dX12_two_44 ?_
  cases H
  obtain ⟨rfl, rfl⟩ := jfin2 D
  exact r_lret K dX12_two_45
theorem c_X12_two (l : Launch) {n : Nat} {Y : jY} {v0 : Nat} {v1 : Int32} {v2 : Int32} {v3 : Int32} {v4 : Int32} {v5 : Int32} {v6 : Int32} {μ : jM} {z : Int64 × jM} (H : f_X12_two Y v0 v1 v2 v3 v4 v5 v6 μ = some z) : jC l yX12_two cX12_two 7 (some .long) 2 0 0 [.ref v0, .int v1, .int v2, .int v3, .int v4, .int v5, .int v6] n Y μ n Y (some (.long z.1)) z.2 := by
  refine jC_of (by decide +kernel) (Nat.le_of_ble_eq_true rfl) (fun X hl K _ _ _ => ?_)
  obtain ⟨rr, μr⟩ := z
  exact t_X12_two_0 K hl H rfl
/-! RX12 three(IIIII)J -/
def f_X12_three (Y : jY) (v0 : Nat) (v1 : Int32) (v2 : Int32) (v3 : Int32) (v4 : Int32) (v5 : Int32) (μ : jM) : Option (Int64 × jM) :=
  (jrcv Y v0 12 (f_X12_at Y v0 ((2 : Int32)) v1 v4 v5 μ)).bind fun r1 =>
  (jrcv Y v0 12 (f_X12_two Y v0 ((0 : Int32)) ((1 : Int32)) v2 v3 v4 v5 r1.2)).bind fun r2 =>
  (jrcv Y v0 12 (f_X12_at Y v0 ((2 : Int32)) v2 v4 v5 r2.2)).bind fun r3 =>
  (jrcv Y v0 12 (f_X12_two Y v0 ((0 : Int32)) ((1 : Int32)) v1 v3 v4 v5 r3.2)).bind fun r4 =>
  (jrcv Y v0 12 (f_X12_at Y v0 ((2 : Int32)) v3 v4 v5 r4.2)).bind fun r5 =>
  (jrcv Y v0 12 (f_X12_two Y v0 ((0 : Int32)) ((1 : Int32)) v1 v2 v4 v5 r5.2)).bind fun r6 =>
  some ((((((r1.1 * r2.1)) - ((r3.1 * r4.1)))) + ((r5.1 * r6.1))), r6.2)
set_option maxRecDepth 10000 in
theorem t_X12_three_0 {X : jX} {l : Launch} {n : Nat} {Y : jY} (K : jOK X RX12 cX12_three 6 (some .long) 3) (hl : X.2.1 = l) {rr : Int64} {μr : jM} {v0 : Nat} {v1 : Int32} {v2 : Int32} {v3 : Int32} {v4 : Int32} {v5 : Int32} {μ : jM} {z : (Int64 × jM)} (H : f_X12_three Y v0 v1 v2 v3 v4 v5 μ = some z) (D : z = (rr, μr)) : JW X (jEnd X n Y (some (.long rr)) μr 0 0) 0 0 n Y 0 [(0, .ref v0), (1, .int v1), (2, .int v2), (3, .int v3), (4, .int v4), (5, .int v5)] [] μ := by
  unfold f_X12_three at H
  refine r_aload_n K 0 dX12_three_0 rfl rfl ?_
  refine r_iconst (v := 2) K dX12_three_1 (by decide) ?_
  refine r_iload_n K 1 dX12_three_2 rfl rfl ?_
  refine r_iload K 4 dX12_three_3 rfl ?_
  refine r_iload K 5 dX12_three_5 rfl ?_
  refine w_callV K hl H (fun r h => c_X12_at l h) mC_yX12_at mM_RX12_161 mI_yX12_at mS_yX12_at mZ_RX12 vc12 (Nat.le_of_ble_eq_true rfl) (Nat.le_of_ble_eq_true rfl) np_yX12_at rfl (Nat.le_of_ble_eq_true rfl) dX12_three_7 (fun r1 H => ?_) ⟨Nat.zero_le _, Nat.zero_le _⟩
  refine r_aload_n K 0 dX12_three_10 rfl rfl ?_
  refine r_iconst (v := 0) K dX12_three_11 (by decide) ?_
  refine r_iconst (v := 1) K dX12_three_12 (by decide) ?_
  refine r_iload_n K 2 dX12_three_13 rfl rfl ?_
  refine r_iload_n K 3 dX12_three_14 rfl rfl ?_
  refine r_iload K 4 dX12_three_15 rfl ?_
  refine r_iload K 5 dX12_three_17 rfl ?_
  refine w_callV K hl H (fun r h => c_X12_two l h) mC_yX12_two mM_RX12_165 mI_yX12_two mS_yX12_two mZ_RX12 vc12 (Nat.le_of_ble_eq_true rfl) (Nat.le_of_ble_eq_true rfl) np_yX12_two rfl (Nat.le_of_ble_eq_true rfl) dX12_three_19 (fun r2 H => ?_) ⟨Nat.zero_le _, Nat.zero_le _⟩
  refine r_lmul K dX12_three_22 ?_
  refine r_aload_n K 0 dX12_three_23 rfl rfl ?_
  refine r_iconst (v := 2) K dX12_three_24 (by decide) ?_
  refine r_iload_n K 2 dX12_three_25 rfl rfl ?_
  refine r_iload K 4 dX12_three_26 rfl ?_
  refine r_iload K 5 dX12_three_28 rfl ?_
  refine w_callV K hl H (fun r h => c_X12_at l h) mC_yX12_at mM_RX12_161 mI_yX12_at mS_yX12_at mZ_RX12 vc12 (Nat.le_of_ble_eq_true rfl) (Nat.le_of_ble_eq_true rfl) np_yX12_at rfl (Nat.le_of_ble_eq_true rfl) dX12_three_30 (fun r3 H => ?_) ⟨Nat.zero_le _, Nat.zero_le _⟩
  refine r_aload_n K 0 dX12_three_33 rfl rfl ?_
  refine r_iconst (v := 0) K dX12_three_34 (by decide) ?_
  refine r_iconst (v := 1) K dX12_three_35 (by decide) ?_
  refine r_iload_n K 1 dX12_three_36 rfl rfl ?_
  refine r_iload_n K 3 dX12_three_37 rfl rfl ?_
  refine r_iload K 4 dX12_three_38 rfl ?_
  refine r_iload K 5 dX12_three_40 rfl ?_
  refine w_callV K hl H (fun r h => c_X12_two l h) mC_yX12_two mM_RX12_165 mI_yX12_two mS_yX12_two mZ_RX12 vc12 (Nat.le_of_ble_eq_true rfl) (Nat.le_of_ble_eq_true rfl) np_yX12_two rfl (Nat.le_of_ble_eq_true rfl) dX12_three_42 (fun r4 H => ?_) ⟨Nat.zero_le _, Nat.zero_le _⟩
  refine r_lmul K dX12_three_45 ?_
  refine r_lsub K dX12_three_46 ?_
  refine r_aload_n K 0 dX12_three_47 rfl rfl ?_
  refine r_iconst (v := 2) K dX12_three_48 (by decide) ?_
  refine r_iload_n K 3 dX12_three_49 rfl rfl ?_
  refine r_iload K 4 dX12_three_50 rfl ?_
  refine r_iload K 5 dX12_three_52 rfl ?_
  refine w_callV K hl H (fun r h => c_X12_at l h) mC_yX12_at mM_RX12_161 mI_yX12_at mS_yX12_at mZ_RX12 vc12 (Nat.le_of_ble_eq_true rfl) (Nat.le_of_ble_eq_true rfl) np_yX12_at rfl (Nat.le_of_ble_eq_true rfl) dX12_three_54 (fun r5 H => ?_) ⟨Nat.zero_le _, Nat.zero_le _⟩
  refine r_aload_n K 0 dX12_three_57 rfl rfl ?_
  refine r_iconst (v := 0) K dX12_three_58 (by decide) ?_
  refine r_iconst (v := 1) K dX12_three_59 (by decide) ?_
  refine r_iload_n K 1 dX12_three_60 rfl rfl ?_
  refine r_iload_n K 2 dX12_three_61 rfl rfl ?_
  refine r_iload K 4 dX12_three_62 rfl ?_
  refine r_iload K 5 dX12_three_64 rfl ?_
  refine w_callV K hl H (fun r h => c_X12_two l h) mC_yX12_two mM_RX12_165 mI_yX12_two mS_yX12_two mZ_RX12 vc12 (Nat.le_of_ble_eq_true rfl) (Nat.le_of_ble_eq_true rfl) np_yX12_two rfl (Nat.le_of_ble_eq_true rfl) dX12_three_66 (fun r6 H => ?_) ⟨Nat.zero_le _, Nat.zero_le _⟩
  refine r_lmul K dX12_three_69 ?_
  refine r_ladd K dX12_three_70 ?_
  cases H
  obtain ⟨rfl, rfl⟩ := jfin2 D
  exact r_lret K dX12_three_71
theorem c_X12_three (l : Launch) {n : Nat} {Y : jY} {v0 : Nat} {v1 : Int32} {v2 : Int32} {v3 : Int32} {v4 : Int32} {v5 : Int32} {μ : jM} {z : Int64 × jM} (H : f_X12_three Y v0 v1 v2 v3 v4 v5 μ = some z) : jC l yX12_three cX12_three 6 (some .long) 3 0 0 [.ref v0, .int v1, .int v2, .int v3, .int v4, .int v5] n Y μ n Y (some (.long z.1)) z.2 := by
  refine jC_of (by decide +kernel) (Nat.le_of_ble_eq_true rfl) (fun X hl K _ _ _ => ?_)
  obtain ⟨rr, μr⟩ := z
  exact t_X12_three_0 K hl H rfl
/-! RX12 minor(III)J -/
def b_X12_minor_131 (Y : jY) (v0 : Nat) (v2 : Int32) (v3 : Int32) (v6 : Int32) (t0 : Int64) (t1 : Int64) (μ : jM) : Option ((Int64 × Int32 × jM) ⊕ (Int64 × jM)) :=
  some (.inl ((t0 + t1), (v6 + (1 : Int32)), μ))
def b_X12_minor_105 (Y : jY) (v0 : Nat) (v2 : Int32) (v3 : Int32) (v4 : Int64) (v6 : Int32) (t0 : Int64) (t1 : Nat) (t2 : Int32) (t3 : Int32) (t4 : Int32) (μ : jM) : Option ((Int64 × Int32 × jM) ⊕ (Int64 × jM)) :=
  (jrcv Y t1 12 (f_X12_three Y t1 t2 t3 t4 v2 v3 μ)).bind fun r1 =>
  (jremI v6 ((2 : Int32))).bind fun x2 =>
  if x2 = ((1 : Int32)) then
    b_X12_minor_131 Y v0 v2 v3 v6 v4 (t0 * r1.1) r1.2
  else
    b_X12_minor_131 Y v0 v2 v3 v6 v4 (-((t0 * r1.1))) r1.2
def b_X12_minor_94 (Y : jY) (v0 : Nat) (v2 : Int32) (v3 : Int32) (v4 : Int64) (v6 : Int32) (t0 : Int64) (t1 : Nat) (t2 : Int32) (t3 : Int32) (μ : jM) : Option ((Int64 × Int32 × jM) ⊕ (Int64 × jM)) :=
  if ((3 : Int32)) ≤ v6 then
    b_X12_minor_105 Y v0 v2 v3 v4 v6 t0 t1 t2 t3 (2 : Int32) μ
  else
    b_X12_minor_105 Y v0 v2 v3 v4 v6 t0 t1 t2 t3 (3 : Int32) μ
def b_X12_minor_83 (Y : jY) (v0 : Nat) (v2 : Int32) (v3 : Int32) (v4 : Int64) (v6 : Int32) (t0 : Int64) (t1 : Nat) (t2 : Int32) (μ : jM) : Option ((Int64 × Int32 × jM) ⊕ (Int64 × jM)) :=
  if ((2 : Int32)) ≤ v6 then
    b_X12_minor_94 Y v0 v2 v3 v4 v6 t0 t1 t2 (1 : Int32) μ
  else
    b_X12_minor_94 Y v0 v2 v3 v4 v6 t0 t1 t2 (2 : Int32) μ
def b_X12_minor_57 (Y : jY) (v0 : Nat) (v2 : Int32) (v3 : Int32) (v4 : Int64) (v6 : Int32) (μ : jM) : Option ((Int64 × Int32 × jM) ⊕ (Int64 × jM)) :=
  if ((4 : Int32)) ≤ v6 then
    some (.inr (v4, μ))
  else
    (jrcv Y v0 12 (f_X12_at Y v0 ((3 : Int32)) v6 v2 v3 μ)).bind fun r1 =>
    if v6 = 0 then
      b_X12_minor_83 Y v0 v2 v3 v4 v6 r1.1 v0 (1 : Int32) r1.2
    else
      b_X12_minor_83 Y v0 v2 v3 v4 v6 r1.1 v0 (0 : Int32) r1.2
def f_X12_minor (Y : jY) (v0 : Nat) (v1 : Int32) (v2 : Int32) (v3 : Int32) (μ : jM) : Option (Int64 × jM) :=
  if v1 = 0 then
    some ((1 : Int64), μ)
  else
    if v1 = ((1 : Int32)) then
      (jrcv Y v0 12 (f_X12_at Y v0 ((0 : Int32)) ((0 : Int32)) v2 v3 μ)).bind fun r3 =>
      some (r3.1, r3.2)
    else
      if v1 = ((2 : Int32)) then
        (jrcv Y v0 12 (f_X12_two Y v0 ((0 : Int32)) ((1 : Int32)) ((0 : Int32)) ((1 : Int32)) v2 v3 μ)).bind fun r2 =>
        some (r2.1, r2.2)
      else
        if v1 = ((3 : Int32)) then
          (jrcv Y v0 12 (f_X12_three Y v0 ((0 : Int32)) ((1 : Int32)) ((2 : Int32)) v2 v3 μ)).bind fun r1 =>
          some (r1.1, r1.2)
        else
          jit jF (fun (s : Int64 × Int32 × jM) => b_X12_minor_57 Y v0 v2 v3 s.1 s.2.1 s.2.2) ((0 : Int64), (0 : Int32), μ)
set_option maxRecDepth 10000 in
theorem t_X12_minor_131 {X : jX} {l : Launch} {n : Nat} {Y : jY} (K : jOK X RX12 cX12_minor 9 (some .long) 4) (hl : X.2.1 = l) {rr : Int64} {μr : jM} {v0 : Nat} {v2 : Int32} {v3 : Int32} {v6 : Int32} {t0 : Int64} {t1 : Int64} {μ : jM} {z : ((Int64 × Int32 × jM) ⊕ (Int64 × jM))} (H : b_X12_minor_131 Y v0 v2 v3 v6 t0 t1 μ = some z) (D : Sum.elim (fun (s : Int64 × Int32 × jM) => JW X (jEnd X n Y (some (.long rr)) μr 0 0) 0 0 n Y 57 [(0, .ref v0), (2, .int v2), (3, .int v3), (4, .long s.1), (6, .int s.2.1)] [] s.2.2) (fun r => r = (rr, μr)) z) : JW X (jEnd X n Y (some (.long rr)) μr 0 0) 0 0 n Y 131 [(0, .ref v0), (2, .int v2), (3, .int v3), (6, .int v6)] [.long t1, .long t0] μ := by
  unfold b_X12_minor_131 at H
  refine r_ladd K dX12_minor_131 ?_
  refine r_lstore K [(4, .long _), (0, .ref _), (2, .int _), (3, .int _), (6, .int _)] dX12_minor_132 (by decide) rfl ?_
  refine r_iinc K 4 [(6, .int _), (4, .long _), (0, .ref _), (2, .int _), (3, .int _)] (v := _ + (1 : Int32)) dX12_minor_134 rfl rfl (by decide) rfl ?_
  refine r_goto K 57 dX12_minor_137 (by decide) ?_
  cases H
  exact r_sub [2, 3, 4, 1, 0] rfl D
set_option maxRecDepth 10000 in
theorem t_X12_minor_105 {X : jX} {l : Launch} {n : Nat} {Y : jY} (K : jOK X RX12 cX12_minor 9 (some .long) 4) (hl : X.2.1 = l) {rr : Int64} {μr : jM} {v0 : Nat} {v2 : Int32} {v3 : Int32} {v4 : Int64} {v6 : Int32} {t0 : Int64} {t1 : Nat} {t2 : Int32} {t3 : Int32} {t4 : Int32} {μ : jM} {z : ((Int64 × Int32 × jM) ⊕ (Int64 × jM))} (H : b_X12_minor_105 Y v0 v2 v3 v4 v6 t0 t1 t2 t3 t4 μ = some z) (D : Sum.elim (fun (s : Int64 × Int32 × jM) => JW X (jEnd X n Y (some (.long rr)) μr 0 0) 0 0 n Y 57 [(0, .ref v0), (2, .int v2), (3, .int v3), (4, .long s.1), (6, .int s.2.1)] [] s.2.2) (fun r => r = (rr, μr)) z) : JW X (jEnd X n Y (some (.long rr)) μr 0 0) 0 0 n Y 105 [(0, .ref v0), (2, .int v2), (3, .int v3), (4, .long v4), (6, .int v6)] [.int t4, .int t3, .int t2, .ref t1, .long t0] μ := by
  unfold b_X12_minor_105 at H
  refine r_iload_n K 1 dX12_minor_105 rfl rfl ?_
  refine r_iload_n K 2 dX12_minor_106 rfl rfl ?_
  refine w_callV K hl H (fun r h => c_X12_three l h) mC_yX12_three mM_RX12_169 mI_yX12_three mS_yX12_three mZ_RX12 vc12 (Nat.le_of_ble_eq_true rfl) (Nat.le_of_ble_eq_true rfl) np_yX12_three rfl (Nat.le_of_ble_eq_true rfl) dX12_minor_107 (fun r1 H => ?_) ⟨Nat.zero_le _, Nat.zero_le _⟩
  refine r_lmul K dX12_minor_110 ?_
  refine r_lstore K [(7, .long _), (0, .ref _), (2, .int _), (3, .int _), (4, .long _), (6, .int _)] dX12_minor_111 (by decide) rfl ?_
  refine r_lload K 4 dX12_minor_113 rfl ?_
  refine r_iload K 5 dX12_minor_115 rfl ?_
  refine r_iconst (v := 2) K dX12_minor_117 (by decide) ?_
  refine w_irem K dX12_minor_118 H (fun x2 H => ?_)
  refine r_iconst (v := 1) K dX12_minor_119 (by decide) ?_
  refine w_icmp_ne K 128 dX12_minor_120 (by decide) H (fun _ H => ?_) (fun _ H => ?_)
  · refine r_lload K 0 dX12_minor_128 rfl ?_
    refine r_lneg K dX12_minor_130 ?_
    exact r_sub [1, 2, 3, 5] rfl (t_X12_minor_131 K hl H D)
  · refine r_lload K 0 dX12_minor_123 rfl ?_
    refine r_goto K 131 dX12_minor_125 (by decide) ?_
    exact r_sub [1, 2, 3, 5] rfl (t_X12_minor_131 K hl H D)
set_option maxRecDepth 10000 in
theorem t_X12_minor_94 {X : jX} {l : Launch} {n : Nat} {Y : jY} (K : jOK X RX12 cX12_minor 9 (some .long) 4) (hl : X.2.1 = l) {rr : Int64} {μr : jM} {v0 : Nat} {v2 : Int32} {v3 : Int32} {v4 : Int64} {v6 : Int32} {t0 : Int64} {t1 : Nat} {t2 : Int32} {t3 : Int32} {μ : jM} {z : ((Int64 × Int32 × jM) ⊕ (Int64 × jM))} (H : b_X12_minor_94 Y v0 v2 v3 v4 v6 t0 t1 t2 t3 μ = some z) (D : Sum.elim (fun (s : Int64 × Int32 × jM) => JW X (jEnd X n Y (some (.long rr)) μr 0 0) 0 0 n Y 57 [(0, .ref v0), (2, .int v2), (3, .int v3), (4, .long s.1), (6, .int s.2.1)] [] s.2.2) (fun r => r = (rr, μr)) z) : JW X (jEnd X n Y (some (.long rr)) μr 0 0) 0 0 n Y 94 [(0, .ref v0), (2, .int v2), (3, .int v3), (4, .long v4), (6, .int v6)] [.int t3, .int t2, .ref t1, .long t0] μ := by
  unfold b_X12_minor_94 at H
  refine r_iload K 4 dX12_minor_94 rfl ?_
  refine r_iconst (v := 3) K dX12_minor_96 (by decide) ?_
  refine w_icmp_ge K 104 dX12_minor_97 (by decide) H (fun _ H => ?_) (fun _ H => ?_)
  · refine r_iconst (v := 2) K dX12_minor_104 (by decide) ?_
    exact r_sub [0, 1, 2, 3, 4] rfl (t_X12_minor_105 K hl H D)
  · refine r_iconst (v := 3) K dX12_minor_100 (by decide) ?_
    refine r_goto K 105 dX12_minor_101 (by decide) ?_
    exact r_sub [0, 1, 2, 3, 4] rfl (t_X12_minor_105 K hl H D)
set_option maxRecDepth 10000 in
theorem t_X12_minor_83 {X : jX} {l : Launch} {n : Nat} {Y : jY} (K : jOK X RX12 cX12_minor 9 (some .long) 4) (hl : X.2.1 = l) {rr : Int64} {μr : jM} {v0 : Nat} {v2 : Int32} {v3 : Int32} {v4 : Int64} {v6 : Int32} {t0 : Int64} {t1 : Nat} {t2 : Int32} {μ : jM} {z : ((Int64 × Int32 × jM) ⊕ (Int64 × jM))} (H : b_X12_minor_83 Y v0 v2 v3 v4 v6 t0 t1 t2 μ = some z) (D : Sum.elim (fun (s : Int64 × Int32 × jM) => JW X (jEnd X n Y (some (.long rr)) μr 0 0) 0 0 n Y 57 [(0, .ref v0), (2, .int v2), (3, .int v3), (4, .long s.1), (6, .int s.2.1)] [] s.2.2) (fun r => r = (rr, μr)) z) : JW X (jEnd X n Y (some (.long rr)) μr 0 0) 0 0 n Y 83 [(0, .ref v0), (2, .int v2), (3, .int v3), (4, .long v4), (6, .int v6)] [.int t2, .ref t1, .long t0] μ := by
  unfold b_X12_minor_83 at H
  refine r_iload K 4 dX12_minor_83 rfl ?_
  refine r_iconst (v := 2) K dX12_minor_85 (by decide) ?_
  refine w_icmp_ge K 93 dX12_minor_86 (by decide) H (fun _ H => ?_) (fun _ H => ?_)
  · refine r_iconst (v := 1) K dX12_minor_93 (by decide) ?_
    exact r_sub [0, 1, 2, 3, 4] rfl (t_X12_minor_94 K hl H D)
  · refine r_iconst (v := 2) K dX12_minor_89 (by decide) ?_
    refine r_goto K 94 dX12_minor_90 (by decide) ?_
    exact r_sub [0, 1, 2, 3, 4] rfl (t_X12_minor_94 K hl H D)
set_option maxRecDepth 10000 in
theorem t_X12_minor_57 {X : jX} {l : Launch} {n : Nat} {Y : jY} (K : jOK X RX12 cX12_minor 9 (some .long) 4) (hl : X.2.1 = l) {rr : Int64} {μr : jM} {v0 : Nat} {v2 : Int32} {v3 : Int32} {v4 : Int64} {v6 : Int32} {μ : jM} {z : ((Int64 × Int32 × jM) ⊕ (Int64 × jM))} (H : b_X12_minor_57 Y v0 v2 v3 v4 v6 μ = some z) (D : Sum.elim (fun (s : Int64 × Int32 × jM) => JW X (jEnd X n Y (some (.long rr)) μr 0 0) 0 0 n Y 57 [(0, .ref v0), (2, .int v2), (3, .int v3), (4, .long s.1), (6, .int s.2.1)] [] s.2.2) (fun r => r = (rr, μr)) z) : JW X (jEnd X n Y (some (.long rr)) μr 0 0) 0 0 n Y 57 [(0, .ref v0), (2, .int v2), (3, .int v3), (4, .long v4), (6, .int v6)] [] μ := by
  unfold b_X12_minor_57 at H
  refine r_iload K 4 dX12_minor_57 rfl ?_
  refine r_iconst (v := 4) K dX12_minor_59 (by decide) ?_
  refine w_icmp_ge K 140 dX12_minor_60 (by decide) H (fun _ H => ?_) (fun _ H => ?_)
  · refine r_lload K 3 dX12_minor_140 rfl ?_
    cases H
    simp only [Sum.elim_inr] at D
    obtain ⟨rfl, rfl⟩ := jfin2 D
    exact r_lret K dX12_minor_142
  · refine r_aload_n K 0 dX12_minor_63 rfl rfl ?_
    refine r_iconst (v := 3) K dX12_minor_64 (by decide) ?_
    refine r_iload K 4 dX12_minor_65 rfl ?_
    refine r_iload_n K 1 dX12_minor_67 rfl rfl ?_
    refine r_iload_n K 2 dX12_minor_68 rfl rfl ?_
    refine w_callV K hl H (fun r h => c_X12_at l h) mC_yX12_at mM_RX12_161 mI_yX12_at mS_yX12_at mZ_RX12 vc12 (Nat.le_of_ble_eq_true rfl) (Nat.le_of_ble_eq_true rfl) np_yX12_at rfl (Nat.le_of_ble_eq_true rfl) dX12_minor_69 (fun r1 H => ?_) ⟨Nat.zero_le _, Nat.zero_le _⟩
    refine r_aload_n K 0 dX12_minor_72 rfl rfl ?_
    refine r_iload K 4 dX12_minor_73 rfl ?_
    refine w_if_ne K 82 dX12_minor_75 (by decide) H (fun _ H => ?_) (fun _ H => ?_)
    · refine r_iconst (v := 0) K dX12_minor_82 (by decide) ?_
      exact r_sub [0, 1, 2, 3, 4] rfl (t_X12_minor_83 K hl H D)
    · refine r_iconst (v := 1) K dX12_minor_78 (by decide) ?_
      refine r_goto K 83 dX12_minor_79 (by decide) ?_
      exact r_sub [0, 1, 2, 3, 4] rfl (t_X12_minor_83 K hl H D)
set_option maxRecDepth 10000 in
theorem l_X12_minor_57 {X : jX} {l : Launch} {n : Nat} {Y : jY} (K : jOK X RX12 cX12_minor 9 (some .long) 4) (hl : X.2.1 = l) {rr : Int64} {μr : jM} {v0 : Nat} {v2 : Int32} {v3 : Int32}  {s0 : Int64 × Int32 × jM} {z : (Int64 × jM)} (H : jit jF (fun (s : Int64 × Int32 × jM) => b_X12_minor_57 Y v0 v2 v3 s.1 s.2.1 s.2.2) s0 = some z) (D : z = (rr, μr)) : JW X (jEnd X n Y (some (.long rr)) μr 0 0) 0 0 n Y 57 [(0, .ref v0), (2, .int v2), (3, .int v3), (4, .long s0.1), (6, .int s0.2.1)] [] s0.2.2 :=
  jit_ind (P := fun (s : Int64 × Int32 × jM) => JW X (jEnd X n Y (some (.long rr)) μr 0 0) 0 0 n Y 57 [(0, .ref v0), (2, .int v2), (3, .int v3), (4, .long s.1), (6, .int s.2.1)] [] s.2.2) (D := fun r => r = (rr, μr)) (fun s z Hs Ds => t_X12_minor_57 K hl Hs Ds) jF s0 z H D
set_option maxRecDepth 10000 in
theorem t_X12_minor_0 {X : jX} {l : Launch} {n : Nat} {Y : jY} (K : jOK X RX12 cX12_minor 9 (some .long) 4) (hl : X.2.1 = l) {rr : Int64} {μr : jM} {v0 : Nat} {v1 : Int32} {v2 : Int32} {v3 : Int32} {μ : jM} {z : (Int64 × jM)} (H : f_X12_minor Y v0 v1 v2 v3 μ = some z) (D : z = (rr, μr)) : JW X (jEnd X n Y (some (.long rr)) μr 0 0) 0 0 n Y 0 [(0, .ref v0), (1, .int v1), (2, .int v2), (3, .int v3)] [] μ := by
  unfold f_X12_minor at H
  refine r_iload_n K 1 dX12_minor_0 rfl rfl ?_
  refine w_if_ne K 6 dX12_minor_1 (by decide) H (fun _ H => ?_) (fun _ H => ?_)
  · refine r_iload_n K 1 dX12_minor_6 rfl rfl ?_
    refine r_iconst (v := 1) K dX12_minor_7 (by decide) ?_
    refine w_icmp_ne K 20 dX12_minor_8 (by decide) H (fun _ H => ?_) (fun _ H => ?_)
    · refine r_iload_n K 1 dX12_minor_20 rfl rfl ?_
      refine r_iconst (v := 2) K dX12_minor_21 (by decide) ?_
      refine w_icmp_ne K 36 dX12_minor_22 (by decide) H (fun _ H => ?_) (fun _ H => ?_)
      · refine r_iload_n K 1 dX12_minor_36 rfl rfl ?_
        refine r_iconst (v := 3) K dX12_minor_37 (by decide) ?_
        refine w_icmp_ne K 51 dX12_minor_38 (by decide) H (fun _ H => ?_) (fun _ H => ?_)
        · refine r_lconst (v := 0) K dX12_minor_51 (by decide) ?_
          refine r_lstore K [(4, .long _), (0, .ref _), (1, .int _), (2, .int _), (3, .int _)] dX12_minor_52 (by decide) rfl ?_
          refine r_iconst (v := 0) K dX12_minor_54 (by decide) ?_
          refine r_istore K [(6, .int _), (4, .long _), (0, .ref _), (1, .int _), (2, .int _), (3, .int _)] dX12_minor_55 (by decide) rfl ?_
          exact r_sub [2, 4, 5, 1, 0] rfl (l_X12_minor_57 K hl H D)
        · refine r_aload_n K 0 dX12_minor_41 rfl rfl ?_
          refine r_iconst (v := 0) K dX12_minor_42 (by decide) ?_
          refine r_iconst (v := 1) K dX12_minor_43 (by decide) ?_
          refine r_iconst (v := 2) K dX12_minor_44 (by decide) ?_
          refine r_iload_n K 2 dX12_minor_45 rfl rfl ?_
          refine r_iload_n K 3 dX12_minor_46 rfl rfl ?_
          refine w_callV K hl H (fun r h => c_X12_three l h) mC_yX12_three mM_RX12_169 mI_yX12_three mS_yX12_three mZ_RX12 vc12 (Nat.le_of_ble_eq_true rfl) (Nat.le_of_ble_eq_true rfl) np_yX12_three rfl (Nat.le_of_ble_eq_true rfl) dX12_minor_47 (fun r1 H => ?_) ⟨Nat.zero_le _, Nat.zero_le _⟩
          cases H
          obtain ⟨rfl, rfl⟩ := jfin2 D
          exact r_lret K dX12_minor_50
      · refine r_aload_n K 0 dX12_minor_25 rfl rfl ?_
        refine r_iconst (v := 0) K dX12_minor_26 (by decide) ?_
        refine r_iconst (v := 1) K dX12_minor_27 (by decide) ?_
        refine r_iconst (v := 0) K dX12_minor_28 (by decide) ?_
        refine r_iconst (v := 1) K dX12_minor_29 (by decide) ?_
        refine r_iload_n K 2 dX12_minor_30 rfl rfl ?_
        refine r_iload_n K 3 dX12_minor_31 rfl rfl ?_
        refine w_callV K hl H (fun r h => c_X12_two l h) mC_yX12_two mM_RX12_165 mI_yX12_two mS_yX12_two mZ_RX12 vc12 (Nat.le_of_ble_eq_true rfl) (Nat.le_of_ble_eq_true rfl) np_yX12_two rfl (Nat.le_of_ble_eq_true rfl) dX12_minor_32 (fun r2 H => ?_) ⟨Nat.zero_le _, Nat.zero_le _⟩
        cases H
        obtain ⟨rfl, rfl⟩ := jfin2 D
        exact r_lret K dX12_minor_35
    · refine r_aload_n K 0 dX12_minor_11 rfl rfl ?_
      refine r_iconst (v := 0) K dX12_minor_12 (by decide) ?_
      refine r_iconst (v := 0) K dX12_minor_13 (by decide) ?_
      refine r_iload_n K 2 dX12_minor_14 rfl rfl ?_
      refine r_iload_n K 3 dX12_minor_15 rfl rfl ?_
      refine w_callV K hl H (fun r h => c_X12_at l h) mC_yX12_at mM_RX12_161 mI_yX12_at mS_yX12_at mZ_RX12 vc12 (Nat.le_of_ble_eq_true rfl) (Nat.le_of_ble_eq_true rfl) np_yX12_at rfl (Nat.le_of_ble_eq_true rfl) dX12_minor_16 (fun r3 H => ?_) ⟨Nat.zero_le _, Nat.zero_le _⟩
      cases H
      obtain ⟨rfl, rfl⟩ := jfin2 D
      exact r_lret K dX12_minor_19
  · refine r_lconst (v := 1) K dX12_minor_4 (by decide) ?_
    cases H
    obtain ⟨rfl, rfl⟩ := jfin2 D
    exact r_lret K dX12_minor_5
theorem c_X12_minor (l : Launch) {n : Nat} {Y : jY} {v0 : Nat} {v1 : Int32} {v2 : Int32} {v3 : Int32} {μ : jM} {z : Int64 × jM} (H : f_X12_minor Y v0 v1 v2 v3 μ = some z) : jC l yX12_minor cX12_minor 9 (some .long) 4 0 0 [.ref v0, .int v1, .int v2, .int v3] n Y μ n Y (some (.long z.1)) z.2 := by
  refine jC_of (by decide +kernel) (Nat.le_of_ble_eq_true rfl) (fun X hl K _ _ _ => ?_)
  obtain ⟨rr, μr⟩ := z
  exact t_X12_minor_0 K hl H rfl
/-! RX12 hankel(I)J -/
def f_X12_hankel (Y : jY) (v0 : Nat) (v1 : Int32) (μ : jM) : Option (Int64 × jM) :=
  (jrcv Y v0 12 (f_X12_minor Y v0 v1 ((0 : Int32)) v1 μ)).bind fun r1 =>
  some (r1.1, r1.2)
set_option maxRecDepth 10000 in
theorem t_X12_hankel_0 {X : jX} {l : Launch} {n : Nat} {Y : jY} (K : jOK X RX12 cX12_hankel 2 (some .long) 5) (hl : X.2.1 = l) {rr : Int64} {μr : jM} {v0 : Nat} {v1 : Int32} {μ : jM} {z : (Int64 × jM)} (H : f_X12_hankel Y v0 v1 μ = some z) (D : z = (rr, μr)) : JW X (jEnd X n Y (some (.long rr)) μr 0 0) 0 0 n Y 0 [(0, .ref v0), (1, .int v1)] [] μ := by
  unfold f_X12_hankel at H
  refine r_aload_n K 0 dX12_hankel_0 rfl rfl ?_
  refine r_iload_n K 1 dX12_hankel_1 rfl rfl ?_
  refine r_iconst (v := 0) K dX12_hankel_2 (by decide) ?_
  refine r_iload_n K 1 dX12_hankel_3 rfl rfl ?_
  refine w_callV K hl H (fun r h => c_X12_minor l h) mC_yX12_minor mM_RX12_173 mI_yX12_minor mS_yX12_minor mZ_RX12 vc12 (Nat.le_of_ble_eq_true rfl) (Nat.le_of_ble_eq_true rfl) np_yX12_minor rfl (Nat.le_of_ble_eq_true rfl) dX12_hankel_4 (fun r1 H => ?_) ⟨Nat.zero_le _, Nat.zero_le _⟩
  cases H
  obtain ⟨rfl, rfl⟩ := jfin2 D
  exact r_lret K dX12_hankel_7
theorem c_X12_hankel (l : Launch) {n : Nat} {Y : jY} {v0 : Nat} {v1 : Int32} {μ : jM} {z : Int64 × jM} (H : f_X12_hankel Y v0 v1 μ = some z) : jC l yX12_hankel cX12_hankel 2 (some .long) 5 0 0 [.ref v0, .int v1] n Y μ n Y (some (.long z.1)) z.2 := by
  refine jC_of (by decide +kernel) (Nat.le_of_ble_eq_true rfl) (fun X hl K _ _ _ => ?_)
  obtain ⟨rr, μr⟩ := z
  exact t_X12_hankel_0 K hl H rfl
/-! RX12 sets(JJ)V -/
def f_X12_sets (Y : jY) (v0 : Nat) (v1 : Int64) (v3 : Int64) (μ : jM) : Option (jM) :=
  (jput Y μ v0 12 16 (.long v1)).bind fun μ1 =>
  (jput Y μ1 v0 12 17 (.long v3)).bind fun μ2 =>
  (jrcv Y v0 12 (f_X12_reduces Y v0 μ2)).bind fun μ3 =>
  some μ3
set_option maxRecDepth 10000 in
theorem t_X12_sets_0 {X : jX} {l : Launch} {n : Nat} {Y : jY} (K : jOK X RX12 cX12_sets 5 none 3) (hl : X.2.1 = l) {μr : jM} {v0 : Nat} {v1 : Int64} {v3 : Int64} {μ : jM} {z : (jM)} (H : f_X12_sets Y v0 v1 v3 μ = some z) (D : z = μr) : JW X (jEnd X n Y none μr 0 0) 0 0 n Y 0 [(0, .ref v0), (1, .long v1), (3, .long v3)] [] μ := by
  unfold f_X12_sets at H
  refine r_aload_n K 0 dX12_sets_0 rfl rfl ?_
  refine r_lload_n K 1 dX12_sets_1 rfl rfl ?_
  refine w_put K vc12 inX12 tyX12_ok nmX12 16 (by decide) mF_RX12_177 rfl (fun _ => rfl) (fun _ => rfl) dX12_sets_2 H (fun μ1 H => ?_)
  refine r_aload_n K 0 dX12_sets_5 rfl rfl ?_
  refine r_lload_n K 2 dX12_sets_6 rfl rfl ?_
  refine w_put K vc12 inX12 tyX12_ok nmX12 17 (by decide) mF_RX12_181 rfl (fun _ => rfl) (fun _ => rfl) dX12_sets_7 H (fun μ2 H => ?_)
  refine r_aload_n K 0 dX12_sets_10 rfl rfl ?_
  refine w_callV K hl H (fun r h => c_X12_reduces l h) mC_yX12_reduces mM_RX12_188 mI_yX12_reduces mS_yX12_reduces mZ_RX12 vc12 (Nat.le_of_ble_eq_true rfl) (Nat.le_of_ble_eq_true rfl) np_yX12_reduces rfl (Nat.le_of_ble_eq_true rfl) dX12_sets_11 (fun μ3 H => ?_) ⟨Nat.zero_le _, Nat.zero_le _⟩
  cases H
  subst D
  exact r_vret K dX12_sets_14
theorem c_X12_sets (l : Launch) {n : Nat} {Y : jY} {v0 : Nat} {v1 : Int64} {v3 : Int64} {μ : jM} {z : jM} (H : f_X12_sets Y v0 v1 v3 μ = some z) : jC l yX12_sets cX12_sets 5 none 3 0 0 [.ref v0, .long v1, .long v3] n Y μ n Y none z := by
  refine jC_of (by decide +kernel) (Nat.le_of_ble_eq_true rfl) (fun X hl K _ _ _ => ?_)
  exact t_X12_sets_0 K hl H rfl
/-! RX12 sumTo(I)V -/
def b_X12_sumTo_59 (Y : jY) (μ : jM) : Option (jM) :=
  some μ
def f_X12_sumTo (Y : jY) (v0 : Nat) (v1 : Int32) (μ : jM) : Option (jM) :=
  (jgI Y μ v0 12 10).bind fun x1 =>
  if v1 = x1 then
    (jgO Y μ v0 12 13).bind fun x6 =>
    (jgI Y μ v0 12 10).bind fun x7 =>
    (jaL Y μ x6 21 ((x7 - ((1 : Int32))))).bind fun x8 =>
    (jrcv Y v0 12 (f_X12_sets Y v0 ((-x8)) ((1 : Int64)) μ)).bind fun μ9 =>
    b_X12_sumTo_59 Y μ9
  else
    if v1 = 0 then
      (jrcv Y v0 12 (f_X12_sets Y v0 ((0 : Int64)) ((1 : Int64)) μ)).bind fun μ5 =>
      b_X12_sumTo_59 Y μ5
    else
      (jrcv Y v0 12 (f_X12_minor Y v0 v1 ((0 : Int32)) ((v1 - ((1 : Int32)))) μ)).bind fun r2 =>
      (jrcv Y v0 12 (f_X12_hankel Y v0 v1 r2.2)).bind fun r3 =>
      (jrcv Y v0 12 (f_X12_sets Y v0 r2.1 r3.1 r3.2)).bind fun μ4 =>
      b_X12_sumTo_59 Y μ4
set_option maxRecDepth 10000 in
theorem t_X12_sumTo_59 {X : jX} {l : Launch} {n : Nat} {Y : jY} (K : jOK X RX12 cX12_sumTo 2 none 6) (hl : X.2.1 = l) {μr : jM} {μ : jM} {z : (jM)} (H : b_X12_sumTo_59 Y μ = some z) (D : z = μr) : JW X (jEnd X n Y none μr 0 0) 0 0 n Y 59 [] [] μ := by
  unfold b_X12_sumTo_59 at H
  cases H
  subst D
  exact r_vret K dX12_sumTo_59
set_option maxRecDepth 10000 in
theorem t_X12_sumTo_0 {X : jX} {l : Launch} {n : Nat} {Y : jY} (K : jOK X RX12 cX12_sumTo 2 none 6) (hl : X.2.1 = l) {μr : jM} {v0 : Nat} {v1 : Int32} {μ : jM} {z : (jM)} (H : f_X12_sumTo Y v0 v1 μ = some z) (D : z = μr) : JW X (jEnd X n Y none μr 0 0) 0 0 n Y 0 [(0, .ref v0), (1, .int v1)] [] μ := by
  unfold f_X12_sumTo at H
  refine r_iload_n K 1 dX12_sumTo_0 rfl rfl ?_
  refine r_aload_n K 0 dX12_sumTo_1 rfl rfl ?_
  refine w_getI K vc12 inX12 10 (by decide) mF_RX12_145 dX12_sumTo_2 H (fun x1 H => ?_)
  refine w_icmp_ne K 28 dX12_sumTo_5 (by decide) H (fun _ H => ?_) (fun _ H => ?_)
  · refine r_iload_n K 1 dX12_sumTo_28 rfl rfl ?_
    refine w_if_ne K 41 dX12_sumTo_29 (by decide) H (fun _ H => ?_) (fun _ H => ?_)
    · refine r_aload_n K 0 dX12_sumTo_41 rfl rfl ?_
      refine r_aload_n K 0 dX12_sumTo_42 rfl rfl ?_
      refine r_iload_n K 1 dX12_sumTo_43 rfl rfl ?_
      refine r_iconst (v := 0) K dX12_sumTo_44 (by decide) ?_
      refine r_iload_n K 1 dX12_sumTo_45 rfl rfl ?_
      refine r_iconst (v := 1) K dX12_sumTo_46 (by decide) ?_
      refine r_isub K dX12_sumTo_47 ?_
      refine w_callV K hl H (fun r h => c_X12_minor l h) mC_yX12_minor mM_RX12_173 mI_yX12_minor mS_yX12_minor mZ_RX12 vc12 (Nat.le_of_ble_eq_true rfl) (Nat.le_of_ble_eq_true rfl) np_yX12_minor rfl (Nat.le_of_ble_eq_true rfl) dX12_sumTo_48 (fun r2 H => ?_) ⟨Nat.zero_le _, Nat.zero_le _⟩
      refine r_aload_n K 0 dX12_sumTo_51 rfl rfl ?_
      refine r_iload_n K 1 dX12_sumTo_52 rfl rfl ?_
      refine w_callV K hl H (fun r h => c_X12_hankel l h) mC_yX12_hankel mM_RX12_199 mI_yX12_hankel mS_yX12_hankel mZ_RX12 vc12 (Nat.le_of_ble_eq_true rfl) (Nat.le_of_ble_eq_true rfl) np_yX12_hankel rfl (Nat.le_of_ble_eq_true rfl) dX12_sumTo_53 (fun r3 H => ?_) ⟨Nat.zero_le _, Nat.zero_le _⟩
      refine w_callV K hl H (fun r h => c_X12_sets l h) mC_yX12_sets mM_RX12_191 mI_yX12_sets mS_yX12_sets mZ_RX12 vc12 (Nat.le_of_ble_eq_true rfl) (Nat.le_of_ble_eq_true rfl) np_yX12_sets rfl (Nat.le_of_ble_eq_true rfl) dX12_sumTo_56 (fun μ4 H => ?_) ⟨Nat.zero_le _, Nat.zero_le _⟩
      exact r_sub [] rfl (t_X12_sumTo_59 K hl H D)
    · refine r_aload_n K 0 dX12_sumTo_32 rfl rfl ?_
      refine r_lconst (v := 0) K dX12_sumTo_33 (by decide) ?_
      refine r_lconst (v := 1) K dX12_sumTo_34 (by decide) ?_
      refine w_callV K hl H (fun r h => c_X12_sets l h) mC_yX12_sets mM_RX12_191 mI_yX12_sets mS_yX12_sets mZ_RX12 vc12 (Nat.le_of_ble_eq_true rfl) (Nat.le_of_ble_eq_true rfl) np_yX12_sets rfl (Nat.le_of_ble_eq_true rfl) dX12_sumTo_35 (fun μ5 H => ?_) ⟨Nat.zero_le _, Nat.zero_le _⟩
      refine r_goto K 59 dX12_sumTo_38 (by decide) ?_
      exact r_sub [] rfl (t_X12_sumTo_59 K hl H D)
  · refine r_aload_n K 0 dX12_sumTo_8 rfl rfl ?_
    refine r_aload_n K 0 dX12_sumTo_9 rfl rfl ?_
    refine w_getO K vc12 inX12 13 (by decide) mF_RX12_26 dX12_sumTo_10 H (fun x6 H => ?_)
    refine r_aload_n K 0 dX12_sumTo_13 rfl rfl ?_
    refine w_getI K vc12 inX12 10 (by decide) mF_RX12_145 dX12_sumTo_14 H (fun x7 H => ?_)
    refine r_iconst (v := 1) K dX12_sumTo_17 (by decide) ?_
    refine r_isub K dX12_sumTo_18 ?_
    refine w_lald K dX12_sumTo_19 H (fun x8 H => ?_)
    refine r_lneg K dX12_sumTo_20 ?_
    refine r_lconst (v := 1) K dX12_sumTo_21 (by decide) ?_
    refine w_callV K hl H (fun r h => c_X12_sets l h) mC_yX12_sets mM_RX12_191 mI_yX12_sets mS_yX12_sets mZ_RX12 vc12 (Nat.le_of_ble_eq_true rfl) (Nat.le_of_ble_eq_true rfl) np_yX12_sets rfl (Nat.le_of_ble_eq_true rfl) dX12_sumTo_22 (fun μ9 H => ?_) ⟨Nat.zero_le _, Nat.zero_le _⟩
    refine r_goto K 59 dX12_sumTo_25 (by decide) ?_
    exact r_sub [] rfl (t_X12_sumTo_59 K hl H D)
theorem c_X12_sumTo (l : Launch) {n : Nat} {Y : jY} {v0 : Nat} {v1 : Int32} {μ : jM} {z : jM} (H : f_X12_sumTo Y v0 v1 μ = some z) : jC l yX12_sumTo cX12_sumTo 2 none 6 0 0 [.ref v0, .int v1] n Y μ n Y none z := by
  refine jC_of (by decide +kernel) (Nat.le_of_ble_eq_true rfl) (fun X hl K _ _ _ => ?_)
  exact t_X12_sumTo_0 K hl H rfl
/-! RX12 laysA(I)V -/
def f_X12_laysA (Y : jY) (v0 : Nat) (v1 : Int32) (μ : jM) : Option (jM) :=
  (jrcv Y v0 12 (f_X12_sumTo Y v0 v1 μ)).bind fun μ1 =>
  (jgL Y μ1 v0 12 16).bind fun x2 =>
  (jgL Y μ1 v0 12 17).bind fun x3 =>
  (jrcv Y v0 12 (f_X12_sumTo Y v0 ((v1 + ((1 : Int32)))) μ1)).bind fun μ4 =>
  (jrcv Y v0 12 (f_X12_adds Y v0 ((-x2)) x3 μ4)).bind fun μ5 =>
  some μ5
set_option maxRecDepth 10000 in
theorem t_X12_laysA_0 {X : jX} {l : Launch} {n : Nat} {Y : jY} (K : jOK X RX12 cX12_laysA 6 none 7) (hl : X.2.1 = l) {μr : jM} {v0 : Nat} {v1 : Int32} {μ : jM} {z : (jM)} (H : f_X12_laysA Y v0 v1 μ = some z) (D : z = μr) : JW X (jEnd X n Y none μr 0 0) 0 0 n Y 0 [(0, .ref v0), (1, .int v1)] [] μ := by
  unfold f_X12_laysA at H
  refine r_aload_n K 0 dX12_laysA_0 rfl rfl ?_
  refine r_iload_n K 1 dX12_laysA_1 rfl rfl ?_
  refine w_callV K hl H (fun r h => c_X12_sumTo l h) mC_yX12_sumTo mM_RX12_202 mI_yX12_sumTo mS_yX12_sumTo mZ_RX12 vc12 (Nat.le_of_ble_eq_true rfl) (Nat.le_of_ble_eq_true rfl) np_yX12_sumTo rfl (Nat.le_of_ble_eq_true rfl) dX12_laysA_2 (fun μ1 H => ?_) ⟨Nat.zero_le _, Nat.zero_le _⟩
  refine r_aload_n K 0 dX12_laysA_5 rfl rfl ?_
  refine w_getL K vc12 inX12 16 (by decide) mF_RX12_177 dX12_laysA_6 H (fun x2 H => ?_)
  refine r_lstore_n K [(2, .long _), (0, .ref _), (1, .int _)] dX12_laysA_9 rfl (by decide) rfl ?_
  refine r_aload_n K 1 dX12_laysA_10 rfl rfl ?_
  refine w_getL K vc12 inX12 17 (by decide) mF_RX12_181 dX12_laysA_11 H (fun x3 H => ?_)
  refine r_lstore K [(4, .long _), (2, .long _), (0, .ref _), (1, .int _)] dX12_laysA_14 (by decide) rfl ?_
  refine r_aload_n K 2 dX12_laysA_16 rfl rfl ?_
  refine r_iload_n K 3 dX12_laysA_17 rfl rfl ?_
  refine r_iconst (v := 1) K dX12_laysA_18 (by decide) ?_
  refine r_iadd K dX12_laysA_19 ?_
  refine w_callV K hl H (fun r h => c_X12_sumTo l h) mC_yX12_sumTo mM_RX12_202 mI_yX12_sumTo mS_yX12_sumTo mZ_RX12 vc12 (Nat.le_of_ble_eq_true rfl) (Nat.le_of_ble_eq_true rfl) np_yX12_sumTo rfl (Nat.le_of_ble_eq_true rfl) dX12_laysA_20 (fun μ4 H => ?_) ⟨Nat.zero_le _, Nat.zero_le _⟩
  refine r_aload_n K 2 dX12_laysA_23 rfl rfl ?_
  refine r_lload_n K 1 dX12_laysA_24 rfl rfl ?_
  refine r_lneg K dX12_laysA_25 ?_
  refine r_lload K 0 dX12_laysA_26 rfl ?_
  refine w_callV K hl H (fun r h => c_X12_adds l h) mC_yX12_adds mM_RX12_205 mI_yX12_adds mS_yX12_adds mZ_RX12 vc12 (Nat.le_of_ble_eq_true rfl) (Nat.le_of_ble_eq_true rfl) np_yX12_adds rfl (Nat.le_of_ble_eq_true rfl) dX12_laysA_28 (fun μ5 H => ?_) ⟨Nat.zero_le _, Nat.zero_le _⟩
  cases H
  subst D
  exact r_vret K dX12_laysA_31
theorem c_X12_laysA (l : Launch) {n : Nat} {Y : jY} {v0 : Nat} {v1 : Int32} {μ : jM} {z : jM} (H : f_X12_laysA Y v0 v1 μ = some z) : jC l yX12_laysA cX12_laysA 6 none 7 0 0 [.ref v0, .int v1] n Y μ n Y none z := by
  refine jC_of (by decide +kernel) (Nat.le_of_ble_eq_true rfl) (fun X hl K _ _ _ => ?_)
  exact t_X12_laysA_0 K hl H rfl
/-! RX12 times([JII)V -/
def b_X12_times_10 (Y : jY) (v0 : Nat) (v2 : Int32) (v3 : Int32) (μ : jM) : Option ((Int32 × jM) ⊕ (jM)) :=
  if v3 ≤ 0 then
    (jaL Y μ v0 21 ((0 : Int32))).bind fun x1 =>
    (jas Y μ v0 21 ((0 : Int32)) (.long ((((((-v2)).toInt64)) * x1)))).bind fun μ2 =>
    some (.inr μ2)
  else
    (jaL Y μ v0 21 ((v3 - ((1 : Int32))))).bind fun x3 =>
    (jaL Y μ v0 21 v3).bind fun x4 =>
    (jas Y μ v0 21 v3 (.long ((x3 - ((((v2.toInt64)) * x4)))))).bind fun μ5 =>
    some (.inl ((v3 + (-1 : Int32)), μ5))
def f_X12_times (Y : jY) (v0 : Nat) (v1 : Int32) (v2 : Int32) (μ : jM) : Option (jM) :=
  (jaL Y μ v0 21 v1).bind fun x1 =>
  (jas Y μ v0 21 ((v1 + ((1 : Int32)))) (.long x1)).bind fun μ2 =>
  jit jF (fun (s : Int32 × jM) => b_X12_times_10 Y v0 v2 s.1 s.2) (v1, μ2)
set_option maxRecDepth 10000 in
theorem t_X12_times_10 {X : jX} {l : Launch} {n : Nat} {Y : jY} (K : jOK X RX12 cX12_times 4 none 1) (hl : X.2.1 = l) {μr : jM} {v0 : Nat} {v2 : Int32} {v3 : Int32} {μ : jM} {z : ((Int32 × jM) ⊕ (jM))} (H : b_X12_times_10 Y v0 v2 v3 μ = some z) (D : Sum.elim (fun (s : Int32 × jM) => JW X (jEnd X n Y none μr 0 0) 0 0 n Y 10 [(0, .ref v0), (2, .int v2), (3, .int s.1)] [] s.2) (fun r => r = μr) z) : JW X (jEnd X n Y none μr 0 0) 0 0 n Y 10 [(0, .ref v0), (2, .int v2), (3, .int v3)] [] μ := by
  unfold b_X12_times_10 at H
  refine r_iload_n K 2 dX12_times_10 rfl rfl ?_
  refine w_if_le K 35 dX12_times_11 (by decide) H (fun _ H => ?_) (fun _ H => ?_)
  · refine r_aload_n K 0 dX12_times_35 rfl rfl ?_
    refine r_iconst (v := 0) K dX12_times_36 (by decide) ?_
    refine r_iload_n K 1 dX12_times_37 rfl rfl ?_
    refine r_ineg K dX12_times_38 ?_
    refine r_i2l K dX12_times_39 ?_
    refine r_aload_n K 0 dX12_times_40 rfl rfl ?_
    refine r_iconst (v := 0) K dX12_times_41 (by decide) ?_
    refine w_lald K dX12_times_42 H (fun x1 H => ?_)
    refine r_lmul K dX12_times_43 ?_
    refine w_last K dX12_times_44 H (fun μ2 H => ?_)
    cases H
    simp only [Sum.elim_inr] at D
    subst D
    exact r_vret K dX12_times_45
  · refine r_aload_n K 0 dX12_times_14 rfl rfl ?_
    refine r_iload_n K 2 dX12_times_15 rfl rfl ?_
    refine r_aload_n K 0 dX12_times_16 rfl rfl ?_
    refine r_iload_n K 2 dX12_times_17 rfl rfl ?_
    refine r_iconst (v := 1) K dX12_times_18 (by decide) ?_
    refine r_isub K dX12_times_19 ?_
    refine w_lald K dX12_times_20 H (fun x3 H => ?_)
    refine r_iload_n K 1 dX12_times_21 rfl rfl ?_
    refine r_i2l K dX12_times_22 ?_
    refine r_aload_n K 0 dX12_times_23 rfl rfl ?_
    refine r_iload_n K 2 dX12_times_24 rfl rfl ?_
    refine w_lald K dX12_times_25 H (fun x4 H => ?_)
    refine r_lmul K dX12_times_26 ?_
    refine r_lsub K dX12_times_27 ?_
    refine w_last K dX12_times_28 H (fun μ5 H => ?_)
    refine r_iinc K 2 [(3, .int _), (0, .ref _), (2, .int _)] (v := _ + (-1 : Int32)) dX12_times_29 rfl rfl (by decide) rfl ?_
    refine r_goto K 10 dX12_times_32 (by decide) ?_
    cases H
    exact r_sub [1, 2, 0] rfl D
set_option maxRecDepth 10000 in
theorem l_X12_times_10 {X : jX} {l : Launch} {n : Nat} {Y : jY} (K : jOK X RX12 cX12_times 4 none 1) (hl : X.2.1 = l) {μr : jM} {v0 : Nat} {v2 : Int32}  {s0 : Int32 × jM} {z : (jM)} (H : jit jF (fun (s : Int32 × jM) => b_X12_times_10 Y v0 v2 s.1 s.2) s0 = some z) (D : z = μr) : JW X (jEnd X n Y none μr 0 0) 0 0 n Y 10 [(0, .ref v0), (2, .int v2), (3, .int s0.1)] [] s0.2 :=
  jit_ind (P := fun (s : Int32 × jM) => JW X (jEnd X n Y none μr 0 0) 0 0 n Y 10 [(0, .ref v0), (2, .int v2), (3, .int s.1)] [] s.2) (D := fun r => r = μr) (fun s z Hs Ds => t_X12_times_10 K hl Hs Ds) jF s0 z H D
set_option maxRecDepth 10000 in
theorem t_X12_times_0 {X : jX} {l : Launch} {n : Nat} {Y : jY} (K : jOK X RX12 cX12_times 4 none 1) (hl : X.2.1 = l) {μr : jM} {v0 : Nat} {v1 : Int32} {v2 : Int32} {μ : jM} {z : (jM)} (H : f_X12_times Y v0 v1 v2 μ = some z) (D : z = μr) : JW X (jEnd X n Y none μr 0 0) 0 0 n Y 0 [(0, .ref v0), (1, .int v1), (2, .int v2)] [] μ := by
  unfold f_X12_times at H
  refine r_aload_n K 0 dX12_times_0 rfl rfl ?_
  refine r_iload_n K 1 dX12_times_1 rfl rfl ?_
  refine r_iconst (v := 1) K dX12_times_2 (by decide) ?_
  refine r_iadd K dX12_times_3 ?_
  refine r_aload_n K 0 dX12_times_4 rfl rfl ?_
  refine r_iload_n K 1 dX12_times_5 rfl rfl ?_
  refine w_lald K dX12_times_6 H (fun x1 H => ?_)
  refine w_last K dX12_times_7 H (fun μ2 H => ?_)
  refine r_iload_n K 1 dX12_times_8 rfl rfl ?_
  refine r_istore_n K [(3, .int _), (0, .ref _), (1, .int _), (2, .int _)] dX12_times_9 rfl (by decide) rfl ?_
  exact r_sub [1, 3, 0] rfl (l_X12_times_10 K hl H D)
theorem c_X12_times (l : Launch) {n : Nat} {Y : jY} {v0 : Nat} {v1 : Int32} {v2 : Int32} {μ : jM} {z : jM} (H : f_X12_times Y v0 v1 v2 μ = some z) : jC l yX12_times cX12_times 4 none 1 0 0 [.ref v0, .int v1, .int v2] n Y μ n Y none z := by
  refine jC_of (by decide +kernel) (Nat.le_of_ble_eq_true rfl) (fun X hl K _ _ _ => ?_)
  exact t_X12_times_0 K hl H rfl
/-! RX12 laysTones()V -/
def b_X12_laysTones_169 (Y : jY) (v0 : Nat) (v1 : Int32) (μ : jM) : Option ((Int32 × jM) ⊕ (jM)) :=
  some (.inl ((v1 + (1 : Int32)), μ))
def b_X12_laysTones_117 (Y : jY) (v0 : Nat) (v1 : Int32) (v2 : Int32) (μ : jM) : Option ((Int32 × jM) ⊕ ((Int32 × jM) ⊕ (jM))) :=
  (jgI Y μ v0 12 10).bind fun x1 =>
  if x1 < v2 then
    (b_X12_laysTones_169 Y v0 v1 μ).map (fun r => (.inr r))
  else
    if v1 < v2 then
      (b_X12_laysTones_169 Y v0 v1 μ).map (fun r => (.inr r))
    else
      (jgO Y μ v0 12 15).bind fun x2 =>
      (jgO Y μ v0 12 15).bind fun x3 =>
      (jaL Y μ x3 21 v1).bind fun x4 =>
      (jgO Y μ v0 12 13).bind fun x5 =>
      (jgI Y μ v0 12 10).bind fun x6 =>
      (jaL Y μ x5 21 ((x6 - v2))).bind fun x7 =>
      (jgO Y μ v0 12 15).bind fun x8 =>
      (jaL Y μ x8 21 ((v1 - v2))).bind fun x9 =>
      (jas Y μ x2 21 v1 (.long ((x4 - ((x7 * x9)))))).bind fun μ10 =>
      some (.inl ((v2 + (1 : Int32)), μ10))
def b_X12_laysTones_114 (Y : jY) (v0 : Nat) (v1 : Int32) (t0 : Nat) (t1 : Int32) (t2 : Int64) (μ : jM) : Option ((Int32 × jM) ⊕ (jM)) :=
  (jas Y μ t0 21 t1 (.long t2)).bind fun μ1 =>
  jit jF (fun (s : Int32 × jM) => b_X12_laysTones_117 Y v0 v1 s.1 s.2) ((1 : Int32), μ1)
def b_X12_laysTones_78 (Y : jY) (v0 : Nat) (v1 : Int32) (μ : jM) : Option ((Int32 × jM) ⊕ (jM)) :=
  if ((8 : Int32)) ≤ v1 then
    some (.inr μ)
  else
    (jgO Y μ v0 12 15).bind fun x1 =>
    (jgI Y μ v0 12 10).bind fun x2 =>
    if x2 ≤ v1 then
      b_X12_laysTones_114 Y v0 v1 x1 v1 (0 : Int64) μ
    else
      (jgO Y μ v0 12 14).bind fun x3 =>
      (jgI Y μ v0 12 10).bind fun x4 =>
      (jaL Y μ x3 21 ((((x4 - ((1 : Int32)))) - v1))).bind fun x5 =>
      b_X12_laysTones_114 Y v0 v1 x1 v1 x5 μ
def b_X12_laysTones_46 (Y : jY) (v0 : Nat) (v1 : Int32) (μ : jM) : Option ((Int32 × jM) ⊕ (jM)) :=
  (jgI Y μ v0 12 10).bind fun x1 =>
  if ((x1 - ((1 : Int32)))) ≤ v1 then
    (jit jF (fun (s : Int32 × jM) => b_X12_laysTones_78 Y v0 s.1 s.2) ((0 : Int32), μ)).map (fun r => (.inr r))
  else
    (jgO Y μ v0 12 14).bind fun x2 =>
    (jgO Y μ v0 12 12).bind fun x3 =>
    (jaI Y μ x3 20 v1).bind fun x4 =>
    (f_X12_times Y x2 v1 x4 μ).bind fun μ5 =>
    some (.inl ((v1 + (1 : Int32)), μ5))
def b_X12_laysTones_16 (Y : jY) (v0 : Nat) (v1 : Int32) (μ : jM) : Option ((Int32 × jM) ⊕ (jM)) :=
  (jgI Y μ v0 12 10).bind fun x1 =>
  if x1 ≤ v1 then
    (jit jF (fun (s : Int32 × jM) => b_X12_laysTones_46 Y v0 s.1 s.2) ((0 : Int32), μ)).map (fun r => (.inr r))
  else
    (jgO Y μ v0 12 13).bind fun x2 =>
    (jgO Y μ v0 12 11).bind fun x3 =>
    (jaI Y μ x3 20 v1).bind fun x4 =>
    (f_X12_times Y x2 v1 x4 μ).bind fun μ5 =>
    some (.inl ((v1 + (1 : Int32)), μ5))
def f_X12_laysTones (Y : jY) (v0 : Nat) (μ : jM) : Option (jM) :=
  (jgO Y μ v0 12 13).bind fun x1 =>
  (jas Y μ x1 21 ((0 : Int32)) (.long ((1 : Int64)))).bind fun μ2 =>
  (jgO Y μ2 v0 12 14).bind fun x3 =>
  (jas Y μ2 x3 21 ((0 : Int32)) (.long ((1 : Int64)))).bind fun μ4 =>
  jit jF (fun (s : Int32 × jM) => b_X12_laysTones_16 Y v0 s.1 s.2) ((0 : Int32), μ4)
set_option maxRecDepth 10000 in
theorem t_X12_laysTones_169 {X : jX} {l : Launch} {n : Nat} {Y : jY} (K : jOK X RX12 cX12_laysTones 3 none 2) (hl : X.2.1 = l) {μr : jM} {v0 : Nat} {v1 : Int32} {μ : jM} {z : ((Int32 × jM) ⊕ (jM))} (H : b_X12_laysTones_169 Y v0 v1 μ = some z) (D : Sum.elim (fun (s : Int32 × jM) => JW X (jEnd X n Y none μr 0 0) 0 0 n Y 78 [(0, .ref v0), (1, .int s.1)] [] s.2) (fun r => r = μr) z) : JW X (jEnd X n Y none μr 0 0) 0 0 n Y 169 [(0, .ref v0), (1, .int v1)] [] μ := by
  unfold b_X12_laysTones_169 at H
  refine r_iinc K 1 [(1, .int _), (0, .ref _)] (v := _ + (1 : Int32)) dX12_laysTones_169 rfl rfl (by decide) rfl ?_
  refine r_goto K 78 dX12_laysTones_172 (by decide) ?_
  cases H
  exact r_sub [1, 0] rfl D
set_option maxRecDepth 10000 in
theorem t_X12_laysTones_117 {X : jX} {l : Launch} {n : Nat} {Y : jY} (K : jOK X RX12 cX12_laysTones 3 none 2) (hl : X.2.1 = l) {μr : jM} {v0 : Nat} {v1 : Int32} {v2 : Int32} {μ : jM} {z : ((Int32 × jM) ⊕ ((Int32 × jM) ⊕ (jM)))} (H : b_X12_laysTones_117 Y v0 v1 v2 μ = some z) (D : Sum.elim (fun (s : Int32 × jM) => JW X (jEnd X n Y none μr 0 0) 0 0 n Y 117 [(0, .ref v0), (1, .int v1), (2, .int s.1)] [] s.2) (Sum.elim (fun (s : Int32 × jM) => JW X (jEnd X n Y none μr 0 0) 0 0 n Y 78 [(0, .ref v0), (1, .int s.1)] [] s.2) (fun r => r = μr)) z) : JW X (jEnd X n Y none μr 0 0) 0 0 n Y 117 [(0, .ref v0), (1, .int v1), (2, .int v2)] [] μ := by
  unfold b_X12_laysTones_117 at H
  refine r_iload_n K 2 dX12_laysTones_117 rfl rfl ?_
  refine r_aload_n K 0 dX12_laysTones_118 rfl rfl ?_
  refine w_getI K vc12 inX12 10 (by decide) mF_RX12_145 dX12_laysTones_119 H (fun x1 H => ?_)
  refine w_icmp_gt K 169 dX12_laysTones_122 (by decide) H (fun _ H => ?_) (fun _ H => ?_)
  · obtain ⟨z2, H2, rfl⟩ := jmap H
    exact r_sub [0, 1] rfl (t_X12_laysTones_169 K hl H2 D)
  · refine r_iload_n K 2 dX12_laysTones_125 rfl rfl ?_
    refine r_iload_n K 1 dX12_laysTones_126 rfl rfl ?_
    refine w_icmp_gt K 169 dX12_laysTones_127 (by decide) H (fun _ H => ?_) (fun _ H => ?_)
    · obtain ⟨z2, H2, rfl⟩ := jmap H
      exact r_sub [0, 1] rfl (t_X12_laysTones_169 K hl H2 D)
    · refine r_aload_n K 0 dX12_laysTones_130 rfl rfl ?_
      refine w_getO K vc12 inX12 15 (by decide) mF_RX12_33 dX12_laysTones_131 H (fun x2 H => ?_)
      refine r_iload_n K 1 dX12_laysTones_134 rfl rfl ?_
      refine r_aload_n K 0 dX12_laysTones_135 rfl rfl ?_
      refine w_getO K vc12 inX12 15 (by decide) mF_RX12_33 dX12_laysTones_136 H (fun x3 H => ?_)
      refine r_iload_n K 1 dX12_laysTones_139 rfl rfl ?_
      refine w_lald K dX12_laysTones_140 H (fun x4 H => ?_)
      refine r_aload_n K 0 dX12_laysTones_141 rfl rfl ?_
      refine w_getO K vc12 inX12 13 (by decide) mF_RX12_26 dX12_laysTones_142 H (fun x5 H => ?_)
      refine r_aload_n K 0 dX12_laysTones_145 rfl rfl ?_
      refine w_getI K vc12 inX12 10 (by decide) mF_RX12_145 dX12_laysTones_146 H (fun x6 H => ?_)
      refine r_iload_n K 2 dX12_laysTones_149 rfl rfl ?_
      refine r_isub K dX12_laysTones_150 ?_
      refine w_lald K dX12_laysTones_151 H (fun x7 H => ?_)
      refine r_aload_n K 0 dX12_laysTones_152 rfl rfl ?_
      refine w_getO K vc12 inX12 15 (by decide) mF_RX12_33 dX12_laysTones_153 H (fun x8 H => ?_)
      refine r_iload_n K 1 dX12_laysTones_156 rfl rfl ?_
      refine r_iload_n K 2 dX12_laysTones_157 rfl rfl ?_
      refine r_isub K dX12_laysTones_158 ?_
      refine w_lald K dX12_laysTones_159 H (fun x9 H => ?_)
      refine r_lmul K dX12_laysTones_160 ?_
      refine r_lsub K dX12_laysTones_161 ?_
      refine w_last K dX12_laysTones_162 H (fun μ10 H => ?_)
      refine r_iinc K 2 [(2, .int _), (0, .ref _), (1, .int _)] (v := _ + (1 : Int32)) dX12_laysTones_163 rfl rfl (by decide) rfl ?_
      refine r_goto K 117 dX12_laysTones_166 (by decide) ?_
      cases H
      exact r_sub [1, 2, 0] rfl D
set_option maxRecDepth 10000 in
theorem l_X12_laysTones_117 {X : jX} {l : Launch} {n : Nat} {Y : jY} (K : jOK X RX12 cX12_laysTones 3 none 2) (hl : X.2.1 = l) {μr : jM} {v0 : Nat} {v1 : Int32}  {s0 : Int32 × jM} {z : ((Int32 × jM) ⊕ (jM))} (H : jit jF (fun (s : Int32 × jM) => b_X12_laysTones_117 Y v0 v1 s.1 s.2) s0 = some z) (D : Sum.elim (fun (s : Int32 × jM) => JW X (jEnd X n Y none μr 0 0) 0 0 n Y 78 [(0, .ref v0), (1, .int s.1)] [] s.2) (fun r => r = μr) z) : JW X (jEnd X n Y none μr 0 0) 0 0 n Y 117 [(0, .ref v0), (1, .int v1), (2, .int s0.1)] [] s0.2 :=
  jit_ind (P := fun (s : Int32 × jM) => JW X (jEnd X n Y none μr 0 0) 0 0 n Y 117 [(0, .ref v0), (1, .int v1), (2, .int s.1)] [] s.2) (D := Sum.elim (fun (s : Int32 × jM) => JW X (jEnd X n Y none μr 0 0) 0 0 n Y 78 [(0, .ref v0), (1, .int s.1)] [] s.2) (fun r => r = μr)) (fun s z Hs Ds => t_X12_laysTones_117 K hl Hs Ds) jF s0 z H D
set_option maxRecDepth 10000 in
theorem t_X12_laysTones_114 {X : jX} {l : Launch} {n : Nat} {Y : jY} (K : jOK X RX12 cX12_laysTones 3 none 2) (hl : X.2.1 = l) {μr : jM} {v0 : Nat} {v1 : Int32} {t0 : Nat} {t1 : Int32} {t2 : Int64} {μ : jM} {z : ((Int32 × jM) ⊕ (jM))} (H : b_X12_laysTones_114 Y v0 v1 t0 t1 t2 μ = some z) (D : Sum.elim (fun (s : Int32 × jM) => JW X (jEnd X n Y none μr 0 0) 0 0 n Y 78 [(0, .ref v0), (1, .int s.1)] [] s.2) (fun r => r = μr) z) : JW X (jEnd X n Y none μr 0 0) 0 0 n Y 114 [(0, .ref v0), (1, .int v1)] [.long t2, .int t1, .ref t0] μ := by
  unfold b_X12_laysTones_114 at H
  refine w_last K dX12_laysTones_114 H (fun μ1 H => ?_)
  refine r_iconst (v := 1) K dX12_laysTones_115 (by decide) ?_
  refine r_istore_n K [(2, .int _), (0, .ref _), (1, .int _)] dX12_laysTones_116 rfl (by decide) rfl ?_
  exact r_sub [1, 2, 0] rfl (l_X12_laysTones_117 K hl H D)
set_option maxRecDepth 10000 in
theorem t_X12_laysTones_78 {X : jX} {l : Launch} {n : Nat} {Y : jY} (K : jOK X RX12 cX12_laysTones 3 none 2) (hl : X.2.1 = l) {μr : jM} {v0 : Nat} {v1 : Int32} {μ : jM} {z : ((Int32 × jM) ⊕ (jM))} (H : b_X12_laysTones_78 Y v0 v1 μ = some z) (D : Sum.elim (fun (s : Int32 × jM) => JW X (jEnd X n Y none μr 0 0) 0 0 n Y 78 [(0, .ref v0), (1, .int s.1)] [] s.2) (fun r => r = μr) z) : JW X (jEnd X n Y none μr 0 0) 0 0 n Y 78 [(0, .ref v0), (1, .int v1)] [] μ := by
  unfold b_X12_laysTones_78 at H
  refine r_iload_n K 1 dX12_laysTones_78 rfl rfl ?_
  refine r_bipush (v := 8) K dX12_laysTones_79 (by decide) ?_
  refine w_icmp_ge K 175 dX12_laysTones_81 (by decide) H (fun _ H => ?_) (fun _ H => ?_)
  · cases H
    simp only [Sum.elim_inr] at D
    subst D
    exact r_vret K dX12_laysTones_175
  · refine r_aload_n K 0 dX12_laysTones_84 rfl rfl ?_
    refine w_getO K vc12 inX12 15 (by decide) mF_RX12_33 dX12_laysTones_85 H (fun x1 H => ?_)
    refine r_iload_n K 1 dX12_laysTones_88 rfl rfl ?_
    refine r_iload_n K 1 dX12_laysTones_89 rfl rfl ?_
    refine r_aload_n K 0 dX12_laysTones_90 rfl rfl ?_
    refine w_getI K vc12 inX12 10 (by decide) mF_RX12_145 dX12_laysTones_91 H (fun x2 H => ?_)
    refine w_icmp_ge K 113 dX12_laysTones_94 (by decide) H (fun _ H => ?_) (fun _ H => ?_)
    · refine r_lconst (v := 0) K dX12_laysTones_113 (by decide) ?_
      exact r_sub [0, 1] rfl (t_X12_laysTones_114 K hl H D)
    · refine r_aload_n K 0 dX12_laysTones_97 rfl rfl ?_
      refine w_getO K vc12 inX12 14 (by decide) mF_RX12_30 dX12_laysTones_98 H (fun x3 H => ?_)
      refine r_aload_n K 0 dX12_laysTones_101 rfl rfl ?_
      refine w_getI K vc12 inX12 10 (by decide) mF_RX12_145 dX12_laysTones_102 H (fun x4 H => ?_)
      refine r_iconst (v := 1) K dX12_laysTones_105 (by decide) ?_
      refine r_isub K dX12_laysTones_106 ?_
      refine r_iload_n K 1 dX12_laysTones_107 rfl rfl ?_
      refine r_isub K dX12_laysTones_108 ?_
      refine w_lald K dX12_laysTones_109 H (fun x5 H => ?_)
      refine r_goto K 114 dX12_laysTones_110 (by decide) ?_
      exact r_sub [0, 1] rfl (t_X12_laysTones_114 K hl H D)
set_option maxRecDepth 10000 in
theorem l_X12_laysTones_78 {X : jX} {l : Launch} {n : Nat} {Y : jY} (K : jOK X RX12 cX12_laysTones 3 none 2) (hl : X.2.1 = l) {μr : jM} {v0 : Nat}  {s0 : Int32 × jM} {z : (jM)} (H : jit jF (fun (s : Int32 × jM) => b_X12_laysTones_78 Y v0 s.1 s.2) s0 = some z) (D : z = μr) : JW X (jEnd X n Y none μr 0 0) 0 0 n Y 78 [(0, .ref v0), (1, .int s0.1)] [] s0.2 :=
  jit_ind (P := fun (s : Int32 × jM) => JW X (jEnd X n Y none μr 0 0) 0 0 n Y 78 [(0, .ref v0), (1, .int s.1)] [] s.2) (D := fun r => r = μr) (fun s z Hs Ds => t_X12_laysTones_78 K hl Hs Ds) jF s0 z H D
set_option maxRecDepth 10000 in
theorem t_X12_laysTones_46 {X : jX} {l : Launch} {n : Nat} {Y : jY} (K : jOK X RX12 cX12_laysTones 3 none 2) (hl : X.2.1 = l) {μr : jM} {v0 : Nat} {v1 : Int32} {μ : jM} {z : ((Int32 × jM) ⊕ (jM))} (H : b_X12_laysTones_46 Y v0 v1 μ = some z) (D : Sum.elim (fun (s : Int32 × jM) => JW X (jEnd X n Y none μr 0 0) 0 0 n Y 46 [(0, .ref v0), (1, .int s.1)] [] s.2) (fun r => r = μr) z) : JW X (jEnd X n Y none μr 0 0) 0 0 n Y 46 [(0, .ref v0), (1, .int v1)] [] μ := by
  unfold b_X12_laysTones_46 at H
  refine r_iload_n K 1 dX12_laysTones_46 rfl rfl ?_
  refine r_aload_n K 0 dX12_laysTones_47 rfl rfl ?_
  refine w_getI K vc12 inX12 10 (by decide) mF_RX12_145 dX12_laysTones_48 H (fun x1 H => ?_)
  refine r_iconst (v := 1) K dX12_laysTones_51 (by decide) ?_
  refine r_isub K dX12_laysTones_52 ?_
  refine w_icmp_ge K 76 dX12_laysTones_53 (by decide) H (fun _ H => ?_) (fun _ H => ?_)
  · refine r_iconst (v := 0) K dX12_laysTones_76 (by decide) ?_
    refine r_istore_n K [(1, .int _), (0, .ref _)] dX12_laysTones_77 rfl (by decide) rfl ?_
    obtain ⟨z2, H2, rfl⟩ := jmap H
    exact r_sub [1, 0] rfl (l_X12_laysTones_78 K hl H2 D)
  · refine r_aload_n K 0 dX12_laysTones_56 rfl rfl ?_
    refine w_getO K vc12 inX12 14 (by decide) mF_RX12_30 dX12_laysTones_57 H (fun x2 H => ?_)
    refine r_iload_n K 1 dX12_laysTones_60 rfl rfl ?_
    refine r_aload_n K 0 dX12_laysTones_61 rfl rfl ?_
    refine w_getO K vc12 inX12 12 (by decide) mF_RX12_23 dX12_laysTones_62 H (fun x3 H => ?_)
    refine r_iload_n K 1 dX12_laysTones_65 rfl rfl ?_
    refine w_iald K dX12_laysTones_66 H (fun x4 H => ?_)
    refine w_callS K hl H (fun r h => c_X12_times l h) mC_yX12_times mM_RX12_152 mT_yX12_times mZ_RX12 (Nat.le_of_ble_eq_true rfl) (Nat.le_of_ble_eq_true rfl) np_yX12_times rfl (Nat.le_of_ble_eq_true rfl) dX12_laysTones_67 (fun μ5 H => ?_) ⟨Nat.zero_le _, Nat.zero_le _⟩
    refine r_iinc K 1 [(1, .int _), (0, .ref _)] (v := _ + (1 : Int32)) dX12_laysTones_70 rfl rfl (by decide) rfl ?_
    refine r_goto K 46 dX12_laysTones_73 (by decide) ?_
    cases H
    exact r_sub [1, 0] rfl D
set_option maxRecDepth 10000 in
theorem l_X12_laysTones_46 {X : jX} {l : Launch} {n : Nat} {Y : jY} (K : jOK X RX12 cX12_laysTones 3 none 2) (hl : X.2.1 = l) {μr : jM} {v0 : Nat}  {s0 : Int32 × jM} {z : (jM)} (H : jit jF (fun (s : Int32 × jM) => b_X12_laysTones_46 Y v0 s.1 s.2) s0 = some z) (D : z = μr) : JW X (jEnd X n Y none μr 0 0) 0 0 n Y 46 [(0, .ref v0), (1, .int s0.1)] [] s0.2 :=
  jit_ind (P := fun (s : Int32 × jM) => JW X (jEnd X n Y none μr 0 0) 0 0 n Y 46 [(0, .ref v0), (1, .int s.1)] [] s.2) (D := fun r => r = μr) (fun s z Hs Ds => t_X12_laysTones_46 K hl Hs Ds) jF s0 z H D
set_option maxRecDepth 10000 in
theorem t_X12_laysTones_16 {X : jX} {l : Launch} {n : Nat} {Y : jY} (K : jOK X RX12 cX12_laysTones 3 none 2) (hl : X.2.1 = l) {μr : jM} {v0 : Nat} {v1 : Int32} {μ : jM} {z : ((Int32 × jM) ⊕ (jM))} (H : b_X12_laysTones_16 Y v0 v1 μ = some z) (D : Sum.elim (fun (s : Int32 × jM) => JW X (jEnd X n Y none μr 0 0) 0 0 n Y 16 [(0, .ref v0), (1, .int s.1)] [] s.2) (fun r => r = μr) z) : JW X (jEnd X n Y none μr 0 0) 0 0 n Y 16 [(0, .ref v0), (1, .int v1)] [] μ := by
  unfold b_X12_laysTones_16 at H
  refine r_iload_n K 1 dX12_laysTones_16 rfl rfl ?_
  refine r_aload_n K 0 dX12_laysTones_17 rfl rfl ?_
  refine w_getI K vc12 inX12 10 (by decide) mF_RX12_145 dX12_laysTones_18 H (fun x1 H => ?_)
  refine w_icmp_ge K 44 dX12_laysTones_21 (by decide) H (fun _ H => ?_) (fun _ H => ?_)
  · refine r_iconst (v := 0) K dX12_laysTones_44 (by decide) ?_
    refine r_istore_n K [(1, .int _), (0, .ref _)] dX12_laysTones_45 rfl (by decide) rfl ?_
    obtain ⟨z2, H2, rfl⟩ := jmap H
    exact r_sub [1, 0] rfl (l_X12_laysTones_46 K hl H2 D)
  · refine r_aload_n K 0 dX12_laysTones_24 rfl rfl ?_
    refine w_getO K vc12 inX12 13 (by decide) mF_RX12_26 dX12_laysTones_25 H (fun x2 H => ?_)
    refine r_iload_n K 1 dX12_laysTones_28 rfl rfl ?_
    refine r_aload_n K 0 dX12_laysTones_29 rfl rfl ?_
    refine w_getO K vc12 inX12 11 (by decide) mF_RX12_20 dX12_laysTones_30 H (fun x3 H => ?_)
    refine r_iload_n K 1 dX12_laysTones_33 rfl rfl ?_
    refine w_iald K dX12_laysTones_34 H (fun x4 H => ?_)
    refine w_callS K hl H (fun r h => c_X12_times l h) mC_yX12_times mM_RX12_152 mT_yX12_times mZ_RX12 (Nat.le_of_ble_eq_true rfl) (Nat.le_of_ble_eq_true rfl) np_yX12_times rfl (Nat.le_of_ble_eq_true rfl) dX12_laysTones_35 (fun μ5 H => ?_) ⟨Nat.zero_le _, Nat.zero_le _⟩
    refine r_iinc K 1 [(1, .int _), (0, .ref _)] (v := _ + (1 : Int32)) dX12_laysTones_38 rfl rfl (by decide) rfl ?_
    refine r_goto K 16 dX12_laysTones_41 (by decide) ?_
    cases H
    exact r_sub [1, 0] rfl D
set_option maxRecDepth 10000 in
theorem l_X12_laysTones_16 {X : jX} {l : Launch} {n : Nat} {Y : jY} (K : jOK X RX12 cX12_laysTones 3 none 2) (hl : X.2.1 = l) {μr : jM} {v0 : Nat}  {s0 : Int32 × jM} {z : (jM)} (H : jit jF (fun (s : Int32 × jM) => b_X12_laysTones_16 Y v0 s.1 s.2) s0 = some z) (D : z = μr) : JW X (jEnd X n Y none μr 0 0) 0 0 n Y 16 [(0, .ref v0), (1, .int s0.1)] [] s0.2 :=
  jit_ind (P := fun (s : Int32 × jM) => JW X (jEnd X n Y none μr 0 0) 0 0 n Y 16 [(0, .ref v0), (1, .int s.1)] [] s.2) (D := fun r => r = μr) (fun s z Hs Ds => t_X12_laysTones_16 K hl Hs Ds) jF s0 z H D
set_option maxRecDepth 10000 in
theorem t_X12_laysTones_0 {X : jX} {l : Launch} {n : Nat} {Y : jY} (K : jOK X RX12 cX12_laysTones 3 none 2) (hl : X.2.1 = l) {μr : jM} {v0 : Nat} {μ : jM} {z : (jM)} (H : f_X12_laysTones Y v0 μ = some z) (D : z = μr) : JW X (jEnd X n Y none μr 0 0) 0 0 n Y 0 [(0, .ref v0)] [] μ := by
  unfold f_X12_laysTones at H
  refine r_aload_n K 0 dX12_laysTones_0 rfl rfl ?_
  refine w_getO K vc12 inX12 13 (by decide) mF_RX12_26 dX12_laysTones_1 H (fun x1 H => ?_)
  refine r_iconst (v := 0) K dX12_laysTones_4 (by decide) ?_
  refine r_lconst (v := 1) K dX12_laysTones_5 (by decide) ?_
  refine w_last K dX12_laysTones_6 H (fun μ2 H => ?_)
  refine r_aload_n K 0 dX12_laysTones_7 rfl rfl ?_
  refine w_getO K vc12 inX12 14 (by decide) mF_RX12_30 dX12_laysTones_8 H (fun x3 H => ?_)
  refine r_iconst (v := 0) K dX12_laysTones_11 (by decide) ?_
  refine r_lconst (v := 1) K dX12_laysTones_12 (by decide) ?_
  refine w_last K dX12_laysTones_13 H (fun μ4 H => ?_)
  refine r_iconst (v := 0) K dX12_laysTones_14 (by decide) ?_
  refine r_istore_n K [(1, .int _), (0, .ref _)] dX12_laysTones_15 rfl (by decide) rfl ?_
  exact r_sub [1, 0] rfl (l_X12_laysTones_16 K hl H D)
theorem c_X12_laysTones (l : Launch) {n : Nat} {Y : jY} {v0 : Nat} {μ : jM} {z : jM} (H : f_X12_laysTones Y v0 μ = some z) : jC l yX12_laysTones cX12_laysTones 3 none 2 0 0 [.ref v0] n Y μ n Y none z := by
  refine jC_of (by decide +kernel) (Nat.le_of_ble_eq_true rfl) (fun X hl K _ _ _ => ?_)
  exact t_X12_laysTones_0 K hl H rfl
