/-! RX9 negateBackwards([II)V -/
def b_X9_negateBackwards_6 (Y : jY) (v0 : Nat) (v2 : Int32) (v3 : Int32) (μ : jM) : Option ((Int32 × Int32 × jM) ⊕ (jM)) :=
  if v3 < v2 then
    some (.inr μ)
  else
    (jaI Y μ v0 20 v2).bind fun x1 =>
    (jaI Y μ v0 20 v3).bind fun x2 =>
    (jas Y μ v0 20 v2 (.int ((-x2)))).bind fun μ3 =>
    (jas Y μ3 v0 20 v3 (.int ((-x1)))).bind fun μ4 =>
    some (.inl ((v2 + (1 : Int32)), (v3 + (-1 : Int32)), μ4))
def f_X9_negateBackwards (Y : jY) (v0 : Nat) (v1 : Int32) (μ : jM) : Option (jM) :=
  jit jF (fun (s : Int32 × Int32 × jM) => b_X9_negateBackwards_6 Y v0 s.1 s.2.1 s.2.2) ((0 : Int32), (v1 - ((1 : Int32))), μ)
set_option maxRecDepth 10000 in
theorem t_X9_negateBackwards_6 {X : jX} {l : Launch} {n : Nat} {Y : jY} (K : jOK X RX9 cX9_negateBackwards 5 none 1) (hl : X.2.1 = l) {μr : jM} {v0 : Nat} {v2 : Int32} {v3 : Int32} {μ : jM} {z : ((Int32 × Int32 × jM) ⊕ (jM))} (H : b_X9_negateBackwards_6 Y v0 v2 v3 μ = some z) (D : Sum.elim (fun (s : Int32 × Int32 × jM) => JW X (jEnd X n Y none μr 0 0) 0 0 n Y 6 [(0, .ref v0), (2, .int s.1), (3, .int s.2.1)] [] s.2.2) (fun r => r = μr) z) : JW X (jEnd X n Y none μr 0 0) 0 0 n Y 6 [(0, .ref v0), (2, .int v2), (3, .int v3)] [] μ := by
  unfold b_X9_negateBackwards_6 at H
  refine r_iload_n K 1 dX9_negateBackwards_6 rfl rfl ?_
  refine r_iload_n K 2 dX9_negateBackwards_7 rfl rfl ?_
  refine w_icmp_gt K 38 dX9_negateBackwards_8 (by decide) H (fun _ H => ?_) (fun _ H => ?_)
  · cases H
    simp only [Sum.elim_inr] at D
    subst D
    exact r_vret K dX9_negateBackwards_38
  · refine r_aload_n K 0 dX9_negateBackwards_11 rfl rfl ?_
    refine r_iload_n K 1 dX9_negateBackwards_12 rfl rfl ?_
    refine w_iald K dX9_negateBackwards_13 H (fun x1 H => ?_)
    refine r_istore K [(4, .int _), (0, .ref _), (2, .int _), (3, .int _)] dX9_negateBackwards_14 (by decide) rfl ?_
    refine r_aload_n K 1 dX9_negateBackwards_16 rfl rfl ?_
    refine r_iload_n K 2 dX9_negateBackwards_17 rfl rfl ?_
    refine r_aload_n K 1 dX9_negateBackwards_18 rfl rfl ?_
    refine r_iload_n K 3 dX9_negateBackwards_19 rfl rfl ?_
    refine w_iald K dX9_negateBackwards_20 H (fun x2 H => ?_)
    refine r_ineg K dX9_negateBackwards_21 ?_
    refine w_iast K dX9_negateBackwards_22 H (fun μ3 H => ?_)
    refine r_aload_n K 1 dX9_negateBackwards_23 rfl rfl ?_
    refine r_iload_n K 3 dX9_negateBackwards_24 rfl rfl ?_
    refine r_iload K 0 dX9_negateBackwards_25 rfl ?_
    refine r_ineg K dX9_negateBackwards_27 ?_
    refine w_iast K dX9_negateBackwards_28 H (fun μ4 H => ?_)
    refine r_iinc K 2 [(2, .int _), (4, .int _), (0, .ref _), (3, .int _)] (v := _ + (1 : Int32)) dX9_negateBackwards_29 rfl rfl (by decide) rfl ?_
    refine r_iinc K 3 [(3, .int _), (2, .int _), (4, .int _), (0, .ref _)] (v := _ + (-1 : Int32)) dX9_negateBackwards_32 rfl rfl (by decide) rfl ?_
    refine r_goto K 6 dX9_negateBackwards_35 (by decide) ?_
    cases H
    exact r_sub [3, 1, 0] rfl D
set_option maxRecDepth 10000 in
theorem l_X9_negateBackwards_6 {X : jX} {l : Launch} {n : Nat} {Y : jY} (K : jOK X RX9 cX9_negateBackwards 5 none 1) (hl : X.2.1 = l) {μr : jM} {v0 : Nat}  {s0 : Int32 × Int32 × jM} {z : (jM)} (H : jit jF (fun (s : Int32 × Int32 × jM) => b_X9_negateBackwards_6 Y v0 s.1 s.2.1 s.2.2) s0 = some z) (D : z = μr) : JW X (jEnd X n Y none μr 0 0) 0 0 n Y 6 [(0, .ref v0), (2, .int s0.1), (3, .int s0.2.1)] [] s0.2.2 :=
  jit_ind (P := fun (s : Int32 × Int32 × jM) => JW X (jEnd X n Y none μr 0 0) 0 0 n Y 6 [(0, .ref v0), (2, .int s.1), (3, .int s.2.1)] [] s.2.2) (D := fun r => r = μr) (fun s z Hs Ds => t_X9_negateBackwards_6 K hl Hs Ds) jF s0 z H D
set_option maxRecDepth 10000 in
theorem t_X9_negateBackwards_0 {X : jX} {l : Launch} {n : Nat} {Y : jY} (K : jOK X RX9 cX9_negateBackwards 5 none 1) (hl : X.2.1 = l) {μr : jM} {v0 : Nat} {v1 : Int32} {μ : jM} {z : (jM)} (H : f_X9_negateBackwards Y v0 v1 μ = some z) (D : z = μr) : JW X (jEnd X n Y none μr 0 0) 0 0 n Y 0 [(0, .ref v0), (1, .int v1)] [] μ := by
  unfold f_X9_negateBackwards at H
  refine r_iconst (v := 0) K dX9_negateBackwards_0 (by decide) ?_
  refine r_istore_n K [(2, .int _), (0, .ref _), (1, .int _)] dX9_negateBackwards_1 rfl (by decide) rfl ?_
  refine r_iload_n K 2 dX9_negateBackwards_2 rfl rfl ?_
  refine r_iconst (v := 1) K dX9_negateBackwards_3 (by decide) ?_
  refine r_isub K dX9_negateBackwards_4 ?_
  refine r_istore_n K [(3, .int _), (2, .int _), (0, .ref _), (1, .int _)] dX9_negateBackwards_5 rfl (by decide) rfl ?_
  exact r_sub [2, 1, 0] rfl (l_X9_negateBackwards_6 K hl H D)
theorem c_X9_negateBackwards (l : Launch) {n : Nat} {Y : jY} {v0 : Nat} {v1 : Int32} {μ : jM} {z : jM} (H : f_X9_negateBackwards Y v0 v1 μ = some z) : jC l yX9_negateBackwards cX9_negateBackwards 5 none 1 0 0 [.ref v0, .int v1] n Y μ n Y none z := by
  refine jC_of (by decide +kernel) (Nat.le_of_ble_eq_true rfl) (fun X hl K _ _ _ => ?_)
  exact t_X9_negateBackwards_0 K hl H rfl
/-! RX9 weigh(ILChainTables$Fraction;)V -/
def b_X9_weigh_81 (Y : jY) (v0 : Nat) (v1 : Int32) (v2 : Nat) (v3 : Int64) (v5 : Int64) (v7 : Int32) (μ : jM) : Option ((Int64 × Int32 × jM) ⊕ (jM)) :=
  some (.inl (v5, (v7 + (1 : Int32)), μ))
def b_X9_weigh_46 (Y : jY) (v0 : Nat) (v1 : Int32) (v2 : Nat) (v3 : Int64) (v5 : Int64) (v7 : Int32) (μ : jM) : Option ((Int64 × Int32 × jM) ⊕ (jM)) :=
  (jgI Y μ v0 9 0).bind fun x1 =>
  if x1 ≤ v7 then
    (jrcv Y v2 1 (f_X1_set Y v2 v3 v5 μ)).bind fun μ2 =>
    some (.inr μ2)
  else
    if v7 = v1 then
      b_X9_weigh_81 Y v0 v1 v2 v3 v5 v7 μ
    else
      (jgO Y μ v0 9 1).bind fun x3 =>
      (jaI Y μ x3 20 v1).bind fun x4 =>
      (jgO Y μ v0 9 1).bind fun x5 =>
      (jaI Y μ x5 20 v7).bind fun x6 =>
      b_X9_weigh_81 Y v0 v1 v2 v3 (v5 * ((((x4 - x6)).toInt64))) v7 μ
def b_X9_weigh_5 (Y : jY) (v0 : Nat) (v1 : Int32) (v2 : Nat) (v3 : Int64) (v5 : Int32) (μ : jM) : Option ((Int64 × Int32 × jM) ⊕ (jM)) :=
  (jgI Y μ v0 9 0).bind fun x1 =>
  if ((x1 - ((1 : Int32)))) ≤ v5 then
    (jit jF (fun (s : Int64 × Int32 × jM) => b_X9_weigh_46 Y v0 v1 v2 v3 s.1 s.2.1 s.2.2) ((1 : Int64), (0 : Int32), μ)).map (fun r => (.inr r))
  else
    (jgO Y μ v0 9 1).bind fun x2 =>
    (jaI Y μ x2 20 v1).bind fun x3 =>
    (jgO Y μ v0 9 2).bind fun x4 =>
    (jaI Y μ x4 20 v5).bind fun x5 =>
    some (.inl ((v3 * ((((x3 - x5)).toInt64))), (v5 + (1 : Int32)), μ))
def f_X9_weigh (Y : jY) (v0 : Nat) (v1 : Int32) (v2 : Nat) (μ : jM) : Option (jM) :=
  jit jF (fun (s : Int64 × Int32 × jM) => b_X9_weigh_5 Y v0 v1 v2 s.1 s.2.1 s.2.2) ((1 : Int64), (0 : Int32), μ)
set_option maxRecDepth 10000 in
theorem t_X9_weigh_81 {X : jX} {l : Launch} {n : Nat} {Y : jY} (K : jOK X RX9 cX9_weigh 8 none 3) (hl : X.2.1 = l) {μr : jM} {v0 : Nat} {v1 : Int32} {v2 : Nat} {v3 : Int64} {v5 : Int64} {v7 : Int32} {μ : jM} {z : ((Int64 × Int32 × jM) ⊕ (jM))} (H : b_X9_weigh_81 Y v0 v1 v2 v3 v5 v7 μ = some z) (D : Sum.elim (fun (s : Int64 × Int32 × jM) => JW X (jEnd X n Y none μr 0 0) 0 0 n Y 46 [(0, .ref v0), (1, .int v1), (2, .ref v2), (3, .long v3), (5, .long s.1), (7, .int s.2.1)] [] s.2.2) (fun r => r = μr) z) : JW X (jEnd X n Y none μr 0 0) 0 0 n Y 81 [(0, .ref v0), (1, .int v1), (2, .ref v2), (3, .long v3), (5, .long v5), (7, .int v7)] [] μ := by
  unfold b_X9_weigh_81 at H
  refine r_iinc K 5 [(7, .int _), (0, .ref _), (1, .int _), (2, .ref _), (3, .long _), (5, .long _)] (v := _ + (1 : Int32)) dX9_weigh_81 rfl rfl (by decide) rfl ?_
  refine r_goto K 46 dX9_weigh_84 (by decide) ?_
  cases H
  exact r_sub [1, 2, 3, 4, 5, 0] rfl D
set_option maxRecDepth 10000 in
theorem t_X9_weigh_46 {X : jX} {l : Launch} {n : Nat} {Y : jY} (K : jOK X RX9 cX9_weigh 8 none 3) (hl : X.2.1 = l) {μr : jM} {v0 : Nat} {v1 : Int32} {v2 : Nat} {v3 : Int64} {v5 : Int64} {v7 : Int32} {μ : jM} {z : ((Int64 × Int32 × jM) ⊕ (jM))} (H : b_X9_weigh_46 Y v0 v1 v2 v3 v5 v7 μ = some z) (D : Sum.elim (fun (s : Int64 × Int32 × jM) => JW X (jEnd X n Y none μr 0 0) 0 0 n Y 46 [(0, .ref v0), (1, .int v1), (2, .ref v2), (3, .long v3), (5, .long s.1), (7, .int s.2.1)] [] s.2.2) (fun r => r = μr) z) : JW X (jEnd X n Y none μr 0 0) 0 0 n Y 46 [(0, .ref v0), (1, .int v1), (2, .ref v2), (3, .long v3), (5, .long v5), (7, .int v7)] [] μ := by
  unfold b_X9_weigh_46 at H
  refine r_iload K 5 dX9_weigh_46 rfl ?_
  refine r_aload_n K 0 dX9_weigh_48 rfl rfl ?_
  refine w_getI K vc9 inX9 0 (by decide) mF_RX9_9 dX9_weigh_49 H (fun x1 H => ?_)
  refine w_icmp_ge K 87 dX9_weigh_52 (by decide) H (fun _ H => ?_) (fun _ H => ?_)
  · refine r_aload_n K 2 dX9_weigh_87 rfl rfl ?_
    refine r_lload_n K 3 dX9_weigh_88 rfl rfl ?_
    refine r_lload K 4 dX9_weigh_89 rfl ?_
    refine w_callV K hl H (fun r h => c_X1_set l h) mC_yX1_set mM_RX9_47 mI_yX1_set mS_yX1_set mZ_RX1 vc1 (Nat.le_of_ble_eq_true rfl) (Nat.le_of_ble_eq_true rfl) np_yX1_set rfl (Nat.le_of_ble_eq_true rfl) dX9_weigh_91 (fun μ2 H => ?_) ⟨Nat.zero_le _, Nat.zero_le _⟩
    cases H
    simp only [Sum.elim_inr] at D
    subst D
    exact r_vret K dX9_weigh_94
  · refine r_iload K 5 dX9_weigh_55 rfl ?_
    refine r_iload_n K 1 dX9_weigh_57 rfl rfl ?_
    refine w_icmp_eq K 81 dX9_weigh_58 (by decide) H (fun _ H => ?_) (fun _ H => ?_)
    · exact r_sub [0, 1, 2, 3, 4, 5] rfl (t_X9_weigh_81 K hl H D)
    · refine r_lload K 4 dX9_weigh_61 rfl ?_
      refine r_aload_n K 0 dX9_weigh_63 rfl rfl ?_
      refine w_getO K vc9 inX9 1 (by decide) mF_RX9_15 dX9_weigh_64 H (fun x3 H => ?_)
      refine r_iload_n K 1 dX9_weigh_67 rfl rfl ?_
      refine w_iald K dX9_weigh_68 H (fun x4 H => ?_)
      refine r_aload_n K 0 dX9_weigh_69 rfl rfl ?_
      refine w_getO K vc9 inX9 1 (by decide) mF_RX9_15 dX9_weigh_70 H (fun x5 H => ?_)
      refine r_iload K 5 dX9_weigh_73 rfl ?_
      refine w_iald K dX9_weigh_75 H (fun x6 H => ?_)
      refine r_isub K dX9_weigh_76 ?_
      refine r_i2l K dX9_weigh_77 ?_
      refine r_lmul K dX9_weigh_78 ?_
      refine r_lstore K [(5, .long _), (0, .ref _), (1, .int _), (2, .ref _), (3, .long _), (7, .int _)] dX9_weigh_79 (by decide) rfl ?_
      exact r_sub [1, 2, 3, 4, 0, 5] rfl (t_X9_weigh_81 K hl H D)
set_option maxRecDepth 10000 in
theorem l_X9_weigh_46 {X : jX} {l : Launch} {n : Nat} {Y : jY} (K : jOK X RX9 cX9_weigh 8 none 3) (hl : X.2.1 = l) {μr : jM} {v0 : Nat} {v1 : Int32} {v2 : Nat} {v3 : Int64}  {s0 : Int64 × Int32 × jM} {z : (jM)} (H : jit jF (fun (s : Int64 × Int32 × jM) => b_X9_weigh_46 Y v0 v1 v2 v3 s.1 s.2.1 s.2.2) s0 = some z) (D : z = μr) : JW X (jEnd X n Y none μr 0 0) 0 0 n Y 46 [(0, .ref v0), (1, .int v1), (2, .ref v2), (3, .long v3), (5, .long s0.1), (7, .int s0.2.1)] [] s0.2.2 :=
  jit_ind (P := fun (s : Int64 × Int32 × jM) => JW X (jEnd X n Y none μr 0 0) 0 0 n Y 46 [(0, .ref v0), (1, .int v1), (2, .ref v2), (3, .long v3), (5, .long s.1), (7, .int s.2.1)] [] s.2.2) (D := fun r => r = μr) (fun s z Hs Ds => t_X9_weigh_46 K hl Hs Ds) jF s0 z H D
set_option maxRecDepth 10000 in
theorem t_X9_weigh_5 {X : jX} {l : Launch} {n : Nat} {Y : jY} (K : jOK X RX9 cX9_weigh 8 none 3) (hl : X.2.1 = l) {μr : jM} {v0 : Nat} {v1 : Int32} {v2 : Nat} {v3 : Int64} {v5 : Int32} {μ : jM} {z : ((Int64 × Int32 × jM) ⊕ (jM))} (H : b_X9_weigh_5 Y v0 v1 v2 v3 v5 μ = some z) (D : Sum.elim (fun (s : Int64 × Int32 × jM) => JW X (jEnd X n Y none μr 0 0) 0 0 n Y 5 [(0, .ref v0), (1, .int v1), (2, .ref v2), (3, .long s.1), (5, .int s.2.1)] [] s.2.2) (fun r => r = μr) z) : JW X (jEnd X n Y none μr 0 0) 0 0 n Y 5 [(0, .ref v0), (1, .int v1), (2, .ref v2), (3, .long v3), (5, .int v5)] [] μ := by
  unfold b_X9_weigh_5 at H
  refine r_iload K 4 dX9_weigh_5 rfl ?_
  refine r_aload_n K 0 dX9_weigh_7 rfl rfl ?_
  refine w_getI K vc9 inX9 0 (by decide) mF_RX9_9 dX9_weigh_8 H (fun x1 H => ?_)
  refine r_iconst (v := 1) K dX9_weigh_11 (by decide) ?_
  refine r_isub K dX9_weigh_12 ?_
  refine w_icmp_ge K 40 dX9_weigh_13 (by decide) H (fun _ H => ?_) (fun _ H => ?_)
  · refine r_lconst (v := 1) K dX9_weigh_40 (by decide) ?_
    refine r_lstore K [(5, .long _), (0, .ref _), (1, .int _), (2, .ref _), (3, .long _)] dX9_weigh_41 (by decide) rfl ?_
    refine r_iconst (v := 0) K dX9_weigh_43 (by decide) ?_
    refine r_istore K [(7, .int _), (5, .long _), (0, .ref _), (1, .int _), (2, .ref _), (3, .long _)] dX9_weigh_44 (by decide) rfl ?_
    obtain ⟨z2, H2, rfl⟩ := jmap H
    exact r_sub [2, 3, 4, 5, 1, 0] rfl (l_X9_weigh_46 K hl H2 D)
  · refine r_lload_n K 3 dX9_weigh_16 rfl rfl ?_
    refine r_aload_n K 0 dX9_weigh_17 rfl rfl ?_
    refine w_getO K vc9 inX9 1 (by decide) mF_RX9_15 dX9_weigh_18 H (fun x2 H => ?_)
    refine r_iload_n K 1 dX9_weigh_21 rfl rfl ?_
    refine w_iald K dX9_weigh_22 H (fun x3 H => ?_)
    refine r_aload_n K 0 dX9_weigh_23 rfl rfl ?_
    refine w_getO K vc9 inX9 2 (by decide) mF_RX9_19 dX9_weigh_24 H (fun x4 H => ?_)
    refine r_iload K 4 dX9_weigh_27 rfl ?_
    refine w_iald K dX9_weigh_29 H (fun x5 H => ?_)
    refine r_isub K dX9_weigh_30 ?_
    refine r_i2l K dX9_weigh_31 ?_
    refine r_lmul K dX9_weigh_32 ?_
    refine r_lstore_n K [(3, .long _), (0, .ref _), (1, .int _), (2, .ref _), (5, .int _)] dX9_weigh_33 rfl (by decide) rfl ?_
    refine r_iinc K 4 [(5, .int _), (3, .long _), (0, .ref _), (1, .int _), (2, .ref _)] (v := _ + (1 : Int32)) dX9_weigh_34 rfl rfl (by decide) rfl ?_
    refine r_goto K 5 dX9_weigh_37 (by decide) ?_
    cases H
    exact r_sub [2, 3, 4, 1, 0] rfl D
set_option maxRecDepth 10000 in
theorem l_X9_weigh_5 {X : jX} {l : Launch} {n : Nat} {Y : jY} (K : jOK X RX9 cX9_weigh 8 none 3) (hl : X.2.1 = l) {μr : jM} {v0 : Nat} {v1 : Int32} {v2 : Nat}  {s0 : Int64 × Int32 × jM} {z : (jM)} (H : jit jF (fun (s : Int64 × Int32 × jM) => b_X9_weigh_5 Y v0 v1 v2 s.1 s.2.1 s.2.2) s0 = some z) (D : z = μr) : JW X (jEnd X n Y none μr 0 0) 0 0 n Y 5 [(0, .ref v0), (1, .int v1), (2, .ref v2), (3, .long s0.1), (5, .int s0.2.1)] [] s0.2.2 :=
  jit_ind (P := fun (s : Int64 × Int32 × jM) => JW X (jEnd X n Y none μr 0 0) 0 0 n Y 5 [(0, .ref v0), (1, .int v1), (2, .ref v2), (3, .long s.1), (5, .int s.2.1)] [] s.2.2) (D := fun r => r = μr) (fun s z Hs Ds => t_X9_weigh_5 K hl Hs Ds) jF s0 z H D
set_option maxRecDepth 10000 in
theorem t_X9_weigh_0 {X : jX} {l : Launch} {n : Nat} {Y : jY} (K : jOK X RX9 cX9_weigh 8 none 3) (hl : X.2.1 = l) {μr : jM} {v0 : Nat} {v1 : Int32} {v2 : Nat} {μ : jM} {z : (jM)} (H : f_X9_weigh Y v0 v1 v2 μ = some z) (D : z = μr) : JW X (jEnd X n Y none μr 0 0) 0 0 n Y 0 [(0, .ref v0), (1, .int v1), (2, .ref v2)] [] μ := by
  unfold f_X9_weigh at H
  refine r_lconst (v := 1) K dX9_weigh_0 (by decide) ?_
  refine r_lstore_n K [(3, .long _), (0, .ref _), (1, .int _), (2, .ref _)] dX9_weigh_1 rfl (by decide) rfl ?_
  refine r_iconst (v := 0) K dX9_weigh_2 (by decide) ?_
  refine r_istore K [(5, .int _), (3, .long _), (0, .ref _), (1, .int _), (2, .ref _)] dX9_weigh_3 (by decide) rfl ?_
  exact r_sub [2, 3, 4, 1, 0] rfl (l_X9_weigh_5 K hl H D)
theorem c_X9_weigh (l : Launch) {n : Nat} {Y : jY} {v0 : Nat} {v1 : Int32} {v2 : Nat} {μ : jM} {z : jM} (H : f_X9_weigh Y v0 v1 v2 μ = some z) : jC l yX9_weigh cX9_weigh 8 none 3 0 0 [.ref v0, .int v1, .ref v2] n Y μ n Y none z := by
  refine jC_of (by decide +kernel) (Nat.le_of_ble_eq_true rfl) (fun X hl K _ _ _ => ?_)
  exact t_X9_weigh_0 K hl H rfl
/-! RX9 moveBy(I)V -/
def b_X9_moveBy_28 (Y : jY) (v0 : Nat) (v1 : Int32) (v2 : Int32) (μ : jM) : Option ((Int32 × jM) ⊕ (jM)) :=
  (jgI Y μ v0 9 0).bind fun x1 =>
  if ((x1 - ((1 : Int32)))) ≤ v2 then
    some (.inr μ)
  else
    (jgO Y μ v0 9 2).bind fun x2 =>
    (jaI Y μ x2 20 v2).bind fun x3 =>
    (jas Y μ x2 20 v2 (.int ((x3 + v1)))).bind fun μ4 =>
    some (.inl ((v2 + (1 : Int32)), μ4))
def b_X9_moveBy_2 (Y : jY) (v0 : Nat) (v1 : Int32) (v2 : Int32) (μ : jM) : Option ((Int32 × jM) ⊕ (jM)) :=
  (jgI Y μ v0 9 0).bind fun x1 =>
  if x1 ≤ v2 then
    (jit jF (fun (s : Int32 × jM) => b_X9_moveBy_28 Y v0 v1 s.1 s.2) ((0 : Int32), μ)).map (fun r => (.inr r))
  else
    (jgO Y μ v0 9 1).bind fun x2 =>
    (jaI Y μ x2 20 v2).bind fun x3 =>
    (jas Y μ x2 20 v2 (.int ((x3 + v1)))).bind fun μ4 =>
    some (.inl ((v2 + (1 : Int32)), μ4))
def f_X9_moveBy (Y : jY) (v0 : Nat) (v1 : Int32) (μ : jM) : Option (jM) :=
  jit jF (fun (s : Int32 × jM) => b_X9_moveBy_2 Y v0 v1 s.1 s.2) ((0 : Int32), μ)
set_option maxRecDepth 10000 in
theorem t_X9_moveBy_28 {X : jX} {l : Launch} {n : Nat} {Y : jY} (K : jOK X RX9 cX9_moveBy 3 none 1) (hl : X.2.1 = l) {μr : jM} {v0 : Nat} {v1 : Int32} {v2 : Int32} {μ : jM} {z : ((Int32 × jM) ⊕ (jM))} (H : b_X9_moveBy_28 Y v0 v1 v2 μ = some z) (D : Sum.elim (fun (s : Int32 × jM) => JW X (jEnd X n Y none μr 0 0) 0 0 n Y 28 [(0, .ref v0), (1, .int v1), (2, .int s.1)] [] s.2) (fun r => r = μr) z) : JW X (jEnd X n Y none μr 0 0) 0 0 n Y 28 [(0, .ref v0), (1, .int v1), (2, .int v2)] [] μ := by
  unfold b_X9_moveBy_28 at H
  refine r_iload_n K 2 dX9_moveBy_28 rfl rfl ?_
  refine r_aload_n K 0 dX9_moveBy_29 rfl rfl ?_
  refine w_getI K vc9 inX9 0 (by decide) mF_RX9_9 dX9_moveBy_30 H (fun x1 H => ?_)
  refine r_iconst (v := 1) K dX9_moveBy_33 (by decide) ?_
  refine r_isub K dX9_moveBy_34 ?_
  refine w_icmp_ge K 54 dX9_moveBy_35 (by decide) H (fun _ H => ?_) (fun _ H => ?_)
  · cases H
    simp only [Sum.elim_inr] at D
    subst D
    exact r_vret K dX9_moveBy_54
  · refine r_aload_n K 0 dX9_moveBy_38 rfl rfl ?_
    refine w_getO K vc9 inX9 2 (by decide) mF_RX9_19 dX9_moveBy_39 H (fun x2 H => ?_)
    refine r_iload_n K 2 dX9_moveBy_42 rfl rfl ?_
    refine r_dup2_11 K dX9_moveBy_43 rfl rfl ?_
    refine w_iald K dX9_moveBy_44 H (fun x3 H => ?_)
    refine r_iload_n K 1 dX9_moveBy_45 rfl rfl ?_
    refine r_iadd K dX9_moveBy_46 ?_
    refine w_iast K dX9_moveBy_47 H (fun μ4 H => ?_)
    refine r_iinc K 2 [(2, .int _), (0, .ref _), (1, .int _)] (v := _ + (1 : Int32)) dX9_moveBy_48 rfl rfl (by decide) rfl ?_
    refine r_goto K 28 dX9_moveBy_51 (by decide) ?_
    cases H
    exact r_sub [1, 2, 0] rfl D
set_option maxRecDepth 10000 in
theorem l_X9_moveBy_28 {X : jX} {l : Launch} {n : Nat} {Y : jY} (K : jOK X RX9 cX9_moveBy 3 none 1) (hl : X.2.1 = l) {μr : jM} {v0 : Nat} {v1 : Int32}  {s0 : Int32 × jM} {z : (jM)} (H : jit jF (fun (s : Int32 × jM) => b_X9_moveBy_28 Y v0 v1 s.1 s.2) s0 = some z) (D : z = μr) : JW X (jEnd X n Y none μr 0 0) 0 0 n Y 28 [(0, .ref v0), (1, .int v1), (2, .int s0.1)] [] s0.2 :=
  jit_ind (P := fun (s : Int32 × jM) => JW X (jEnd X n Y none μr 0 0) 0 0 n Y 28 [(0, .ref v0), (1, .int v1), (2, .int s.1)] [] s.2) (D := fun r => r = μr) (fun s z Hs Ds => t_X9_moveBy_28 K hl Hs Ds) jF s0 z H D
set_option maxRecDepth 10000 in
theorem t_X9_moveBy_2 {X : jX} {l : Launch} {n : Nat} {Y : jY} (K : jOK X RX9 cX9_moveBy 3 none 1) (hl : X.2.1 = l) {μr : jM} {v0 : Nat} {v1 : Int32} {v2 : Int32} {μ : jM} {z : ((Int32 × jM) ⊕ (jM))} (H : b_X9_moveBy_2 Y v0 v1 v2 μ = some z) (D : Sum.elim (fun (s : Int32 × jM) => JW X (jEnd X n Y none μr 0 0) 0 0 n Y 2 [(0, .ref v0), (1, .int v1), (2, .int s.1)] [] s.2) (fun r => r = μr) z) : JW X (jEnd X n Y none μr 0 0) 0 0 n Y 2 [(0, .ref v0), (1, .int v1), (2, .int v2)] [] μ := by
  unfold b_X9_moveBy_2 at H
  refine r_iload_n K 2 dX9_moveBy_2 rfl rfl ?_
  refine r_aload_n K 0 dX9_moveBy_3 rfl rfl ?_
  refine w_getI K vc9 inX9 0 (by decide) mF_RX9_9 dX9_moveBy_4 H (fun x1 H => ?_)
  refine w_icmp_ge K 26 dX9_moveBy_7 (by decide) H (fun _ H => ?_) (fun _ H => ?_)
  · refine r_iconst (v := 0) K dX9_moveBy_26 (by decide) ?_
    refine r_istore_n K [(2, .int _), (0, .ref _), (1, .int _)] dX9_moveBy_27 rfl (by decide) rfl ?_
    obtain ⟨z2, H2, rfl⟩ := jmap H
    exact r_sub [1, 2, 0] rfl (l_X9_moveBy_28 K hl H2 D)
  · refine r_aload_n K 0 dX9_moveBy_10 rfl rfl ?_
    refine w_getO K vc9 inX9 1 (by decide) mF_RX9_15 dX9_moveBy_11 H (fun x2 H => ?_)
    refine r_iload_n K 2 dX9_moveBy_14 rfl rfl ?_
    refine r_dup2_11 K dX9_moveBy_15 rfl rfl ?_
    refine w_iald K dX9_moveBy_16 H (fun x3 H => ?_)
    refine r_iload_n K 1 dX9_moveBy_17 rfl rfl ?_
    refine r_iadd K dX9_moveBy_18 ?_
    refine w_iast K dX9_moveBy_19 H (fun μ4 H => ?_)
    refine r_iinc K 2 [(2, .int _), (0, .ref _), (1, .int _)] (v := _ + (1 : Int32)) dX9_moveBy_20 rfl rfl (by decide) rfl ?_
    refine r_goto K 2 dX9_moveBy_23 (by decide) ?_
    cases H
    exact r_sub [1, 2, 0] rfl D
set_option maxRecDepth 10000 in
theorem l_X9_moveBy_2 {X : jX} {l : Launch} {n : Nat} {Y : jY} (K : jOK X RX9 cX9_moveBy 3 none 1) (hl : X.2.1 = l) {μr : jM} {v0 : Nat} {v1 : Int32}  {s0 : Int32 × jM} {z : (jM)} (H : jit jF (fun (s : Int32 × jM) => b_X9_moveBy_2 Y v0 v1 s.1 s.2) s0 = some z) (D : z = μr) : JW X (jEnd X n Y none μr 0 0) 0 0 n Y 2 [(0, .ref v0), (1, .int v1), (2, .int s0.1)] [] s0.2 :=
  jit_ind (P := fun (s : Int32 × jM) => JW X (jEnd X n Y none μr 0 0) 0 0 n Y 2 [(0, .ref v0), (1, .int v1), (2, .int s.1)] [] s.2) (D := fun r => r = μr) (fun s z Hs Ds => t_X9_moveBy_2 K hl Hs Ds) jF s0 z H D
set_option maxRecDepth 10000 in
theorem t_X9_moveBy_0 {X : jX} {l : Launch} {n : Nat} {Y : jY} (K : jOK X RX9 cX9_moveBy 3 none 1) (hl : X.2.1 = l) {μr : jM} {v0 : Nat} {v1 : Int32} {μ : jM} {z : (jM)} (H : f_X9_moveBy Y v0 v1 μ = some z) (D : z = μr) : JW X (jEnd X n Y none μr 0 0) 0 0 n Y 0 [(0, .ref v0), (1, .int v1)] [] μ := by
  unfold f_X9_moveBy at H
  refine r_iconst (v := 0) K dX9_moveBy_0 (by decide) ?_
  refine r_istore_n K [(2, .int _), (0, .ref _), (1, .int _)] dX9_moveBy_1 rfl (by decide) rfl ?_
  exact r_sub [1, 2, 0] rfl (l_X9_moveBy_2 K hl H D)
theorem c_X9_moveBy (l : Launch) {n : Nat} {Y : jY} {v0 : Nat} {v1 : Int32} {μ : jM} {z : jM} (H : f_X9_moveBy Y v0 v1 μ = some z) : jC l yX9_moveBy cX9_moveBy 3 none 1 0 0 [.ref v0, .int v1] n Y μ n Y none z := by
  refine jC_of (by decide +kernel) (Nat.le_of_ble_eq_true rfl) (fun X hl K _ _ _ => ?_)
  exact t_X9_moveBy_0 K hl H rfl
/-! RX9 take(LChainTables$TextReader;)V -/
def b_X9_take_42 (Y : jY) (v0 : Nat) (v1 : Nat) (v2 : Int32) (μ : jM) : Option ((Int32 × jM) ⊕ (jM)) :=
  (jgI Y μ v0 9 0).bind fun x1 =>
  if ((x1 - ((1 : Int32)))) ≤ v2 then
    some (.inr μ)
  else
    (jgO Y μ v0 9 2).bind fun x2 =>
    (jgO Y μ v1 6 1).bind fun x3 =>
    (jaI Y μ x3 20 v2).bind fun x4 =>
    (jas Y μ x2 20 v2 (.int x4)).bind fun μ5 =>
    some (.inl ((v2 + (1 : Int32)), μ5))
def b_X9_take_14 (Y : jY) (v0 : Nat) (v1 : Nat) (v2 : Int32) (μ : jM) : Option ((Int32 × jM) ⊕ (jM)) :=
  (jgI Y μ v0 9 0).bind fun x1 =>
  if x1 ≤ v2 then
    (jit jF (fun (s : Int32 × jM) => b_X9_take_42 Y v0 v1 s.1 s.2) ((0 : Int32), μ)).map (fun r => (.inr r))
  else
    (jgO Y μ v0 9 1).bind fun x2 =>
    (jgO Y μ v1 6 0).bind fun x3 =>
    (jaI Y μ x3 20 v2).bind fun x4 =>
    (jas Y μ x2 20 v2 (.int x4)).bind fun μ5 =>
    some (.inl ((v2 + (1 : Int32)), μ5))
def f_X9_take (Y : jY) (v0 : Nat) (v1 : Nat) (μ : jM) : Option (jM) :=
  (jgI Y μ v1 6 2).bind fun x1 =>
  (jput Y μ v0 9 0 (.int ((jminI x1 ((4 : Int32)))))).bind fun μ2 =>
  jit jF (fun (s : Int32 × jM) => b_X9_take_14 Y v0 v1 s.1 s.2) ((0 : Int32), μ2)
set_option maxRecDepth 10000 in
theorem t_X9_take_42 {X : jX} {l : Launch} {n : Nat} {Y : jY} (K : jOK X RX9 cX9_take 3 none 1) (hl : X.2.1 = l) {μr : jM} {v0 : Nat} {v1 : Nat} {v2 : Int32} {μ : jM} {z : ((Int32 × jM) ⊕ (jM))} (H : b_X9_take_42 Y v0 v1 v2 μ = some z) (D : Sum.elim (fun (s : Int32 × jM) => JW X (jEnd X n Y none μr 0 0) 0 0 n Y 42 [(0, .ref v0), (1, .ref v1), (2, .int s.1)] [] s.2) (fun r => r = μr) z) : JW X (jEnd X n Y none μr 0 0) 0 0 n Y 42 [(0, .ref v0), (1, .ref v1), (2, .int v2)] [] μ := by
  unfold b_X9_take_42 at H
  refine r_iload_n K 2 dX9_take_42 rfl rfl ?_
  refine r_aload_n K 0 dX9_take_43 rfl rfl ?_
  refine w_getI K vc9 inX9 0 (by decide) mF_RX9_9 dX9_take_44 H (fun x1 H => ?_)
  refine r_iconst (v := 1) K dX9_take_47 (by decide) ?_
  refine r_isub K dX9_take_48 ?_
  refine w_icmp_ge K 70 dX9_take_49 (by decide) H (fun _ H => ?_) (fun _ H => ?_)
  · cases H
    simp only [Sum.elim_inr] at D
    subst D
    exact r_vret K dX9_take_70
  · refine r_aload_n K 0 dX9_take_52 rfl rfl ?_
    refine w_getO K vc9 inX9 2 (by decide) mF_RX9_19 dX9_take_53 H (fun x2 H => ?_)
    refine r_iload_n K 2 dX9_take_56 rfl rfl ?_
    refine r_aload_n K 1 dX9_take_57 rfl rfl ?_
    refine w_getO K vc6 inX6 1 (by decide) mF_RX9_36 dX9_take_58 H (fun x3 H => ?_)
    refine r_iload_n K 2 dX9_take_61 rfl rfl ?_
    refine w_iald K dX9_take_62 H (fun x4 H => ?_)
    refine w_iast K dX9_take_63 H (fun μ5 H => ?_)
    refine r_iinc K 2 [(2, .int _), (0, .ref _), (1, .ref _)] (v := _ + (1 : Int32)) dX9_take_64 rfl rfl (by decide) rfl ?_
    refine r_goto K 42 dX9_take_67 (by decide) ?_
    cases H
    exact r_sub [1, 2, 0] rfl D
set_option maxRecDepth 10000 in
theorem l_X9_take_42 {X : jX} {l : Launch} {n : Nat} {Y : jY} (K : jOK X RX9 cX9_take 3 none 1) (hl : X.2.1 = l) {μr : jM} {v0 : Nat} {v1 : Nat}  {s0 : Int32 × jM} {z : (jM)} (H : jit jF (fun (s : Int32 × jM) => b_X9_take_42 Y v0 v1 s.1 s.2) s0 = some z) (D : z = μr) : JW X (jEnd X n Y none μr 0 0) 0 0 n Y 42 [(0, .ref v0), (1, .ref v1), (2, .int s0.1)] [] s0.2 :=
  jit_ind (P := fun (s : Int32 × jM) => JW X (jEnd X n Y none μr 0 0) 0 0 n Y 42 [(0, .ref v0), (1, .ref v1), (2, .int s.1)] [] s.2) (D := fun r => r = μr) (fun s z Hs Ds => t_X9_take_42 K hl Hs Ds) jF s0 z H D
set_option maxRecDepth 10000 in
theorem t_X9_take_14 {X : jX} {l : Launch} {n : Nat} {Y : jY} (K : jOK X RX9 cX9_take 3 none 1) (hl : X.2.1 = l) {μr : jM} {v0 : Nat} {v1 : Nat} {v2 : Int32} {μ : jM} {z : ((Int32 × jM) ⊕ (jM))} (H : b_X9_take_14 Y v0 v1 v2 μ = some z) (D : Sum.elim (fun (s : Int32 × jM) => JW X (jEnd X n Y none μr 0 0) 0 0 n Y 14 [(0, .ref v0), (1, .ref v1), (2, .int s.1)] [] s.2) (fun r => r = μr) z) : JW X (jEnd X n Y none μr 0 0) 0 0 n Y 14 [(0, .ref v0), (1, .ref v1), (2, .int v2)] [] μ := by
  unfold b_X9_take_14 at H
  refine r_iload_n K 2 dX9_take_14 rfl rfl ?_
  refine r_aload_n K 0 dX9_take_15 rfl rfl ?_
  refine w_getI K vc9 inX9 0 (by decide) mF_RX9_9 dX9_take_16 H (fun x1 H => ?_)
  refine w_icmp_ge K 40 dX9_take_19 (by decide) H (fun _ H => ?_) (fun _ H => ?_)
  · refine r_iconst (v := 0) K dX9_take_40 (by decide) ?_
    refine r_istore_n K [(2, .int _), (0, .ref _), (1, .ref _)] dX9_take_41 rfl (by decide) rfl ?_
    obtain ⟨z2, H2, rfl⟩ := jmap H
    exact r_sub [1, 2, 0] rfl (l_X9_take_42 K hl H2 D)
  · refine r_aload_n K 0 dX9_take_22 rfl rfl ?_
    refine w_getO K vc9 inX9 1 (by decide) mF_RX9_15 dX9_take_23 H (fun x2 H => ?_)
    refine r_iload_n K 2 dX9_take_26 rfl rfl ?_
    refine r_aload_n K 1 dX9_take_27 rfl rfl ?_
    refine w_getO K vc6 inX6 0 (by decide) mF_RX9_33 dX9_take_28 H (fun x3 H => ?_)
    refine r_iload_n K 2 dX9_take_31 rfl rfl ?_
    refine w_iald K dX9_take_32 H (fun x4 H => ?_)
    refine w_iast K dX9_take_33 H (fun μ5 H => ?_)
    refine r_iinc K 2 [(2, .int _), (0, .ref _), (1, .ref _)] (v := _ + (1 : Int32)) dX9_take_34 rfl rfl (by decide) rfl ?_
    refine r_goto K 14 dX9_take_37 (by decide) ?_
    cases H
    exact r_sub [1, 2, 0] rfl D
set_option maxRecDepth 10000 in
theorem l_X9_take_14 {X : jX} {l : Launch} {n : Nat} {Y : jY} (K : jOK X RX9 cX9_take 3 none 1) (hl : X.2.1 = l) {μr : jM} {v0 : Nat} {v1 : Nat}  {s0 : Int32 × jM} {z : (jM)} (H : jit jF (fun (s : Int32 × jM) => b_X9_take_14 Y v0 v1 s.1 s.2) s0 = some z) (D : z = μr) : JW X (jEnd X n Y none μr 0 0) 0 0 n Y 14 [(0, .ref v0), (1, .ref v1), (2, .int s0.1)] [] s0.2 :=
  jit_ind (P := fun (s : Int32 × jM) => JW X (jEnd X n Y none μr 0 0) 0 0 n Y 14 [(0, .ref v0), (1, .ref v1), (2, .int s.1)] [] s.2) (D := fun r => r = μr) (fun s z Hs Ds => t_X9_take_14 K hl Hs Ds) jF s0 z H D
set_option maxRecDepth 10000 in
theorem t_X9_take_0 {X : jX} {l : Launch} {n : Nat} {Y : jY} (K : jOK X RX9 cX9_take 3 none 1) (hl : X.2.1 = l) {μr : jM} {v0 : Nat} {v1 : Nat} {μ : jM} {z : (jM)} (H : f_X9_take Y v0 v1 μ = some z) (D : z = μr) : JW X (jEnd X n Y none μr 0 0) 0 0 n Y 0 [(0, .ref v0), (1, .ref v1)] [] μ := by
  unfold f_X9_take at H
  refine r_aload_n K 0 dX9_take_0 rfl rfl ?_
  refine r_aload_n K 1 dX9_take_1 rfl rfl ?_
  refine w_getI K vc6 inX6 2 (by decide) mF_RX9_22 dX9_take_2 H (fun x1 H => ?_)
  refine r_iconst (v := 4) K dX9_take_5 (by decide) ?_
  refine r_mmin K mM_RX9_27 mT_minI mZ_Math mC_minI (Nat.le_of_ble_eq_true rfl) (Nat.le_of_ble_eq_true rfl) ⟨Nat.zero_le _, Nat.zero_le _⟩ dX9_take_6 ?_
  refine w_put K vc9 inX9 tyX9_ok nmX9 0 (by decide) mF_RX9_9 rfl (fun _ => rfl) (fun _ => rfl) dX9_take_9 H (fun μ2 H => ?_)
  refine r_iconst (v := 0) K dX9_take_12 (by decide) ?_
  refine r_istore_n K [(2, .int _), (0, .ref _), (1, .ref _)] dX9_take_13 rfl (by decide) rfl ?_
  exact r_sub [1, 2, 0] rfl (l_X9_take_14 K hl H D)
theorem c_X9_take (l : Launch) {n : Nat} {Y : jY} {v0 : Nat} {v1 : Nat} {μ : jM} {z : jM} (H : f_X9_take Y v0 v1 μ = some z) : jC l yX9_take cX9_take 3 none 1 0 0 [.ref v0, .ref v1] n Y μ n Y none z := by
  refine jC_of (by decide +kernel) (Nat.le_of_ble_eq_true rfl) (fun X hl K _ _ _ => ?_)
  exact t_X9_take_0 K hl H rfl
/-! RX9 distances()J -/
def b_X9_distances_15 (Y : jY) (v0 : Nat) (v1 : Int64) (v3 : Int32) (v4 : Int32) (μ : jM) : Option ((Int64 × Int32 × jM) ⊕ ((Int64 × Int32 × jM) ⊕ (Int64 × jM))) :=
  if v3 ≤ v4 then
    some (.inr (.inl (v1, (v3 + (1 : Int32)), μ)))
  else
    (jgO Y μ v0 9 1).bind fun x1 =>
    (jaI Y μ x1 20 v3).bind fun x2 =>
    (jgO Y μ v0 9 1).bind fun x3 =>
    (jaI Y μ x3 20 v4).bind fun x4 =>
    (jgO Y μ v0 9 1).bind fun x5 =>
    (jaI Y μ x5 20 v3).bind fun x6 =>
    (jgO Y μ v0 9 1).bind fun x7 =>
    (jaI Y μ x7 20 v4).bind fun x8 =>
    some (.inl ((v1 * ((((((x2 - x4)) * ((x6 - x8)))).toInt64))), (v4 + (1 : Int32)), μ))
def b_X9_distances_4 (Y : jY) (v0 : Nat) (v1 : Int64) (v3 : Int32) (μ : jM) : Option ((Int64 × Int32 × jM) ⊕ (Int64 × jM)) :=
  (jgI Y μ v0 9 0).bind fun x1 =>
  if x1 ≤ v3 then
    some (.inr (v1, μ))
  else
    jit jF (fun (s : Int64 × Int32 × jM) => b_X9_distances_15 Y v0 s.1 v3 s.2.1 s.2.2) (v1, (0 : Int32), μ)
def f_X9_distances (Y : jY) (v0 : Nat) (μ : jM) : Option (Int64 × jM) :=
  jit jF (fun (s : Int64 × Int32 × jM) => b_X9_distances_4 Y v0 s.1 s.2.1 s.2.2) ((1 : Int64), (0 : Int32), μ)
set_option maxRecDepth 10000 in
theorem t_X9_distances_15 {X : jX} {l : Launch} {n : Nat} {Y : jY} (K : jOK X RX9 cX9_distances 5 (some .long) 1) (hl : X.2.1 = l) {rr : Int64} {μr : jM} {v0 : Nat} {v1 : Int64} {v3 : Int32} {v4 : Int32} {μ : jM} {z : ((Int64 × Int32 × jM) ⊕ ((Int64 × Int32 × jM) ⊕ (Int64 × jM)))} (H : b_X9_distances_15 Y v0 v1 v3 v4 μ = some z) (D : Sum.elim (fun (s : Int64 × Int32 × jM) => JW X (jEnd X n Y (some (.long rr)) μr 0 0) 0 0 n Y 15 [(0, .ref v0), (1, .long s.1), (3, .int v3), (4, .int s.2.1)] [] s.2.2) (Sum.elim (fun (s : Int64 × Int32 × jM) => JW X (jEnd X n Y (some (.long rr)) μr 0 0) 0 0 n Y 4 [(0, .ref v0), (1, .long s.1), (3, .int s.2.1)] [] s.2.2) (fun r => r = (rr, μr))) z) : JW X (jEnd X n Y (some (.long rr)) μr 0 0) 0 0 n Y 15 [(0, .ref v0), (1, .long v1), (3, .int v3), (4, .int v4)] [] μ := by
  unfold b_X9_distances_15 at H
  refine r_iload K 3 dX9_distances_15 rfl ?_
  refine r_iload_n K 2 dX9_distances_17 rfl rfl ?_
  refine w_icmp_ge K 60 dX9_distances_18 (by decide) H (fun _ H => ?_) (fun _ H => ?_)
  · refine r_iinc K 2 [(3, .int _), (0, .ref _), (1, .long _), (4, .int _)] (v := _ + (1 : Int32)) dX9_distances_60 rfl rfl (by decide) rfl ?_
    refine r_goto K 4 dX9_distances_63 (by decide) ?_
    cases H
    exact r_sub [1, 2, 0] rfl D
  · refine r_lload_n K 1 dX9_distances_21 rfl rfl ?_
    refine r_aload_n K 0 dX9_distances_22 rfl rfl ?_
    refine w_getO K vc9 inX9 1 (by decide) mF_RX9_15 dX9_distances_23 H (fun x1 H => ?_)
    refine r_iload_n K 2 dX9_distances_26 rfl rfl ?_
    refine w_iald K dX9_distances_27 H (fun x2 H => ?_)
    refine r_aload_n K 0 dX9_distances_28 rfl rfl ?_
    refine w_getO K vc9 inX9 1 (by decide) mF_RX9_15 dX9_distances_29 H (fun x3 H => ?_)
    refine r_iload K 3 dX9_distances_32 rfl ?_
    refine w_iald K dX9_distances_34 H (fun x4 H => ?_)
    refine r_isub K dX9_distances_35 ?_
    refine r_aload_n K 0 dX9_distances_36 rfl rfl ?_
    refine w_getO K vc9 inX9 1 (by decide) mF_RX9_15 dX9_distances_37 H (fun x5 H => ?_)
    refine r_iload_n K 2 dX9_distances_40 rfl rfl ?_
    refine w_iald K dX9_distances_41 H (fun x6 H => ?_)
    refine r_aload_n K 0 dX9_distances_42 rfl rfl ?_
    refine w_getO K vc9 inX9 1 (by decide) mF_RX9_15 dX9_distances_43 H (fun x7 H => ?_)
    refine r_iload K 3 dX9_distances_46 rfl ?_
    refine w_iald K dX9_distances_48 H (fun x8 H => ?_)
    refine r_isub K dX9_distances_49 ?_
    refine r_imul K dX9_distances_50 ?_
    refine r_i2l K dX9_distances_51 ?_
    refine r_lmul K dX9_distances_52 ?_
    refine r_lstore_n K [(1, .long _), (0, .ref _), (3, .int _), (4, .int _)] dX9_distances_53 rfl (by decide) rfl ?_
    refine r_iinc K 3 [(4, .int _), (1, .long _), (0, .ref _), (3, .int _)] (v := _ + (1 : Int32)) dX9_distances_54 rfl rfl (by decide) rfl ?_
    refine r_goto K 15 dX9_distances_57 (by decide) ?_
    cases H
    exact r_sub [2, 1, 3, 0] rfl D
set_option maxRecDepth 10000 in
theorem l_X9_distances_15 {X : jX} {l : Launch} {n : Nat} {Y : jY} (K : jOK X RX9 cX9_distances 5 (some .long) 1) (hl : X.2.1 = l) {rr : Int64} {μr : jM} {v0 : Nat} {v3 : Int32}  {s0 : Int64 × Int32 × jM} {z : ((Int64 × Int32 × jM) ⊕ (Int64 × jM))} (H : jit jF (fun (s : Int64 × Int32 × jM) => b_X9_distances_15 Y v0 s.1 v3 s.2.1 s.2.2) s0 = some z) (D : Sum.elim (fun (s : Int64 × Int32 × jM) => JW X (jEnd X n Y (some (.long rr)) μr 0 0) 0 0 n Y 4 [(0, .ref v0), (1, .long s.1), (3, .int s.2.1)] [] s.2.2) (fun r => r = (rr, μr)) z) : JW X (jEnd X n Y (some (.long rr)) μr 0 0) 0 0 n Y 15 [(0, .ref v0), (1, .long s0.1), (3, .int v3), (4, .int s0.2.1)] [] s0.2.2 :=
  jit_ind (P := fun (s : Int64 × Int32 × jM) => JW X (jEnd X n Y (some (.long rr)) μr 0 0) 0 0 n Y 15 [(0, .ref v0), (1, .long s.1), (3, .int v3), (4, .int s.2.1)] [] s.2.2) (D := Sum.elim (fun (s : Int64 × Int32 × jM) => JW X (jEnd X n Y (some (.long rr)) μr 0 0) 0 0 n Y 4 [(0, .ref v0), (1, .long s.1), (3, .int s.2.1)] [] s.2.2) (fun r => r = (rr, μr))) (fun s z Hs Ds => t_X9_distances_15 K hl Hs Ds) jF s0 z H D
set_option maxRecDepth 10000 in
theorem t_X9_distances_4 {X : jX} {l : Launch} {n : Nat} {Y : jY} (K : jOK X RX9 cX9_distances 5 (some .long) 1) (hl : X.2.1 = l) {rr : Int64} {μr : jM} {v0 : Nat} {v1 : Int64} {v3 : Int32} {μ : jM} {z : ((Int64 × Int32 × jM) ⊕ (Int64 × jM))} (H : b_X9_distances_4 Y v0 v1 v3 μ = some z) (D : Sum.elim (fun (s : Int64 × Int32 × jM) => JW X (jEnd X n Y (some (.long rr)) μr 0 0) 0 0 n Y 4 [(0, .ref v0), (1, .long s.1), (3, .int s.2.1)] [] s.2.2) (fun r => r = (rr, μr)) z) : JW X (jEnd X n Y (some (.long rr)) μr 0 0) 0 0 n Y 4 [(0, .ref v0), (1, .long v1), (3, .int v3)] [] μ := by
  unfold b_X9_distances_4 at H
  refine r_iload_n K 2 dX9_distances_4 rfl rfl ?_
  refine r_aload_n K 0 dX9_distances_5 rfl rfl ?_
  refine w_getI K vc9 inX9 0 (by decide) mF_RX9_9 dX9_distances_6 H (fun x1 H => ?_)
  refine w_icmp_ge K 66 dX9_distances_9 (by decide) H (fun _ H => ?_) (fun _ H => ?_)
  · refine r_lload_n K 1 dX9_distances_66 rfl rfl ?_
    cases H
    simp only [Sum.elim_inr] at D
    obtain ⟨rfl, rfl⟩ := jfin2 D
    exact r_lret K dX9_distances_67
  · refine r_iconst (v := 0) K dX9_distances_12 (by decide) ?_
    refine r_istore K [(4, .int _), (0, .ref _), (1, .long _), (3, .int _)] dX9_distances_13 (by decide) rfl ?_
    exact r_sub [1, 2, 3, 0] rfl (l_X9_distances_15 K hl H D)
set_option maxRecDepth 10000 in
theorem l_X9_distances_4 {X : jX} {l : Launch} {n : Nat} {Y : jY} (K : jOK X RX9 cX9_distances 5 (some .long) 1) (hl : X.2.1 = l) {rr : Int64} {μr : jM} {v0 : Nat}  {s0 : Int64 × Int32 × jM} {z : (Int64 × jM)} (H : jit jF (fun (s : Int64 × Int32 × jM) => b_X9_distances_4 Y v0 s.1 s.2.1 s.2.2) s0 = some z) (D : z = (rr, μr)) : JW X (jEnd X n Y (some (.long rr)) μr 0 0) 0 0 n Y 4 [(0, .ref v0), (1, .long s0.1), (3, .int s0.2.1)] [] s0.2.2 :=
  jit_ind (P := fun (s : Int64 × Int32 × jM) => JW X (jEnd X n Y (some (.long rr)) μr 0 0) 0 0 n Y 4 [(0, .ref v0), (1, .long s.1), (3, .int s.2.1)] [] s.2.2) (D := fun r => r = (rr, μr)) (fun s z Hs Ds => t_X9_distances_4 K hl Hs Ds) jF s0 z H D
set_option maxRecDepth 10000 in
theorem t_X9_distances_0 {X : jX} {l : Launch} {n : Nat} {Y : jY} (K : jOK X RX9 cX9_distances 5 (some .long) 1) (hl : X.2.1 = l) {rr : Int64} {μr : jM} {v0 : Nat} {μ : jM} {z : (Int64 × jM)} (H : f_X9_distances Y v0 μ = some z) (D : z = (rr, μr)) : JW X (jEnd X n Y (some (.long rr)) μr 0 0) 0 0 n Y 0 [(0, .ref v0)] [] μ := by
  unfold f_X9_distances at H
  refine r_lconst (v := 1) K dX9_distances_0 (by decide) ?_
  refine r_lstore_n K [(1, .long _), (0, .ref _)] dX9_distances_1 rfl (by decide) rfl ?_
  refine r_iconst (v := 0) K dX9_distances_2 (by decide) ?_
  refine r_istore_n K [(3, .int _), (1, .long _), (0, .ref _)] dX9_distances_3 rfl (by decide) rfl ?_
  exact r_sub [2, 1, 0] rfl (l_X9_distances_4 K hl H D)
theorem c_X9_distances (l : Launch) {n : Nat} {Y : jY} {v0 : Nat} {μ : jM} {z : Int64 × jM} (H : f_X9_distances Y v0 μ = some z) : jC l yX9_distances cX9_distances 5 (some .long) 1 0 0 [.ref v0] n Y μ n Y (some (.long z.1)) z.2 := by
  refine jC_of (by decide +kernel) (Nat.le_of_ble_eq_true rfl) (fun X hl K _ _ _ => ?_)
  obtain ⟨rr, μr⟩ := z
  exact t_X9_distances_0 K hl H rfl
/-! RX9 turnAbout()V -/
def f_X9_turnAbout (Y : jY) (v0 : Nat) (μ : jM) : Option (jM) :=
  (jgO Y μ v0 9 1).bind fun x1 =>
  (jgI Y μ v0 9 0).bind fun x2 =>
  (f_X9_negateBackwards Y x1 x2 μ).bind fun μ3 =>
  (jgO Y μ3 v0 9 2).bind fun x4 =>
  (jgI Y μ3 v0 9 0).bind fun x5 =>
  (f_X9_negateBackwards Y x4 ((x5 - ((1 : Int32)))) μ3).bind fun μ6 =>
  some μ6
set_option maxRecDepth 10000 in
theorem t_X9_turnAbout_0 {X : jX} {l : Launch} {n : Nat} {Y : jY} (K : jOK X RX9 cX9_turnAbout 1 none 2) (hl : X.2.1 = l) {μr : jM} {v0 : Nat} {μ : jM} {z : (jM)} (H : f_X9_turnAbout Y v0 μ = some z) (D : z = μr) : JW X (jEnd X n Y none μr 0 0) 0 0 n Y 0 [(0, .ref v0)] [] μ := by
  unfold f_X9_turnAbout at H
  refine r_aload_n K 0 dX9_turnAbout_0 rfl rfl ?_
  refine w_getO K vc9 inX9 1 (by decide) mF_RX9_15 dX9_turnAbout_1 H (fun x1 H => ?_)
  refine r_aload_n K 0 dX9_turnAbout_4 rfl rfl ?_
  refine w_getI K vc9 inX9 0 (by decide) mF_RX9_9 dX9_turnAbout_5 H (fun x2 H => ?_)
  refine w_callS K hl H (fun r h => c_X9_negateBackwards l h) mC_yX9_negateBackwards mM_RX9_43 mT_yX9_negateBackwards mZ_RX9 (Nat.le_of_ble_eq_true rfl) (Nat.le_of_ble_eq_true rfl) np_yX9_negateBackwards rfl (Nat.le_of_ble_eq_true rfl) dX9_turnAbout_8 (fun μ3 H => ?_) ⟨Nat.zero_le _, Nat.zero_le _⟩
  refine r_aload_n K 0 dX9_turnAbout_11 rfl rfl ?_
  refine w_getO K vc9 inX9 2 (by decide) mF_RX9_19 dX9_turnAbout_12 H (fun x4 H => ?_)
  refine r_aload_n K 0 dX9_turnAbout_15 rfl rfl ?_
  refine w_getI K vc9 inX9 0 (by decide) mF_RX9_9 dX9_turnAbout_16 H (fun x5 H => ?_)
  refine r_iconst (v := 1) K dX9_turnAbout_19 (by decide) ?_
  refine r_isub K dX9_turnAbout_20 ?_
  refine w_callS K hl H (fun r h => c_X9_negateBackwards l h) mC_yX9_negateBackwards mM_RX9_43 mT_yX9_negateBackwards mZ_RX9 (Nat.le_of_ble_eq_true rfl) (Nat.le_of_ble_eq_true rfl) np_yX9_negateBackwards rfl (Nat.le_of_ble_eq_true rfl) dX9_turnAbout_21 (fun μ6 H => ?_) ⟨Nat.zero_le _, Nat.zero_le _⟩
  cases H
  subst D
  exact r_vret K dX9_turnAbout_24
theorem c_X9_turnAbout (l : Launch) {n : Nat} {Y : jY} {v0 : Nat} {μ : jM} {z : jM} (H : f_X9_turnAbout Y v0 μ = some z) : jC l yX9_turnAbout cX9_turnAbout 1 none 2 0 0 [.ref v0] n Y μ n Y none z := by
  refine jC_of (by decide +kernel) (Nat.le_of_ble_eq_true rfl) (fun X hl K _ _ _ => ?_)
  exact t_X9_turnAbout_0 K hl H rfl
/-! RX9 weighPowers(ILChainTables$Fraction;)V -/
def b_X9_weighPowers_27 (Y : jY) (v0 : Nat) (v1 : Int32) (v2 : Nat) (v3 : Int64) (v5 : Int64) (v7 : Int32) (v8 : Int32) (μ : jM) : Option ((Int32 × jM) ⊕ ((Int64 × Int64 × Int32 × jM) ⊕ (jM))) :=
  if v1 ≤ v8 then
    (jrcv Y v2 1 (f_X1_add_ Y v2 v3 v5 μ)).bind fun μ1 =>
    (jgL Y μ1 v2 1 0).bind fun x2 =>
    (jgL Y μ1 v2 1 1).bind fun x3 =>
    some (.inr (.inl (x2, x3, (v7 + (1 : Int32)), μ1)))
  else
    (jgO Y μ v0 9 1).bind fun x4 =>
    (jaI Y μ x4 20 v7).bind fun x5 =>
    (jrcv Y v2 1 (f_X1_multiply_ Y v2 ((x5.toInt64)) ((1 : Int64)) μ)).bind fun μ6 =>
    some (.inl ((v8 + (1 : Int32)), μ6))
def b_X9_weighPowers_8 (Y : jY) (v0 : Nat) (v1 : Int32) (v2 : Nat) (v3 : Int64) (v5 : Int64) (v7 : Int32) (μ : jM) : Option ((Int64 × Int64 × Int32 × jM) ⊕ (jM)) :=
  (jgI Y μ v0 9 0).bind fun x1 =>
  if x1 ≤ v7 then
    some (.inr μ)
  else
    (jrcv Y v0 9 (f_X9_weigh Y v0 v7 v2 μ)).bind fun μ2 =>
    jit jF (fun (s : Int32 × jM) => b_X9_weighPowers_27 Y v0 v1 v2 v3 v5 v7 s.1 s.2) ((0 : Int32), μ2)
def f_X9_weighPowers (Y : jY) (v0 : Nat) (v1 : Int32) (v2 : Nat) (μ : jM) : Option (jM) :=
  jit jF (fun (s : Int64 × Int64 × Int32 × jM) => b_X9_weighPowers_8 Y v0 v1 v2 s.1 s.2.1 s.2.2.1 s.2.2.2) ((0 : Int64), (1 : Int64), (0 : Int32), μ)
set_option maxRecDepth 10000 in
theorem t_X9_weighPowers_27 {X : jX} {l : Launch} {n : Nat} {Y : jY} (K : jOK X RX9 cX9_weighPowers 9 none 4) (hl : X.2.1 = l) {μr : jM} {v0 : Nat} {v1 : Int32} {v2 : Nat} {v3 : Int64} {v5 : Int64} {v7 : Int32} {v8 : Int32} {μ : jM} {z : ((Int32 × jM) ⊕ ((Int64 × Int64 × Int32 × jM) ⊕ (jM)))} (H : b_X9_weighPowers_27 Y v0 v1 v2 v3 v5 v7 v8 μ = some z) (D : Sum.elim (fun (s : Int32 × jM) => JW X (jEnd X n Y none μr 0 0) 0 0 n Y 27 [(0, .ref v0), (1, .int v1), (2, .ref v2), (3, .long v3), (5, .long v5), (7, .int v7), (8, .int s.1)] [] s.2) (Sum.elim (fun (s : Int64 × Int64 × Int32 × jM) => JW X (jEnd X n Y none μr 0 0) 0 0 n Y 8 [(0, .ref v0), (1, .int v1), (2, .ref v2), (3, .long s.1), (5, .long s.2.1), (7, .int s.2.2.1)] [] s.2.2.2) (fun r => r = μr)) z) : JW X (jEnd X n Y none μr 0 0) 0 0 n Y 27 [(0, .ref v0), (1, .int v1), (2, .ref v2), (3, .long v3), (5, .long v5), (7, .int v7), (8, .int v8)] [] μ := by
  unfold b_X9_weighPowers_27 at H
  refine r_iload K 6 dX9_weighPowers_27 rfl ?_
  refine r_iload_n K 1 dX9_weighPowers_29 rfl rfl ?_
  refine w_icmp_ge K 52 dX9_weighPowers_30 (by decide) H (fun _ H => ?_) (fun _ H => ?_)
  · refine r_aload_n K 2 dX9_weighPowers_52 rfl rfl ?_
    refine r_lload_n K 3 dX9_weighPowers_53 rfl rfl ?_
    refine r_lload K 4 dX9_weighPowers_54 rfl ?_
    refine w_callV K hl H (fun r h => c_X1_add_ l h) mC_yX1_add_ mM_RX9_60 mI_yX1_add_ mS_yX1_add_ mZ_RX1 vc1 (Nat.le_of_ble_eq_true rfl) (Nat.le_of_ble_eq_true rfl) np_yX1_add_ rfl (Nat.le_of_ble_eq_true rfl) dX9_weighPowers_56 (fun μ1 H => ?_) ⟨Nat.zero_le _, Nat.zero_le _⟩
    refine r_aload_n K 2 dX9_weighPowers_59 rfl rfl ?_
    refine w_getL K vc1 inX1 0 (by decide) mF_RX9_63 dX9_weighPowers_60 H (fun x2 H => ?_)
    refine r_lstore_n K [(3, .long _), (0, .ref _), (1, .int _), (2, .ref _), (5, .long _), (7, .int _), (8, .int _)] dX9_weighPowers_63 rfl (by decide) rfl ?_
    refine r_aload_n K 3 dX9_weighPowers_64 rfl rfl ?_
    refine w_getL K vc1 inX1 1 (by decide) mF_RX9_67 dX9_weighPowers_65 H (fun x3 H => ?_)
    refine r_lstore K [(5, .long _), (3, .long _), (0, .ref _), (1, .int _), (2, .ref _), (7, .int _), (8, .int _)] dX9_weighPowers_68 (by decide) rfl ?_
    refine r_iinc K 5 [(7, .int _), (5, .long _), (3, .long _), (0, .ref _), (1, .int _), (2, .ref _), (8, .int _)] (v := _ + (1 : Int32)) dX9_weighPowers_70 rfl rfl (by decide) rfl ?_
    refine r_goto K 8 dX9_weighPowers_73 (by decide) ?_
    cases H
    exact r_sub [3, 4, 5, 2, 1, 0] rfl D
  · refine r_aload_n K 2 dX9_weighPowers_33 rfl rfl ?_
    refine r_aload_n K 0 dX9_weighPowers_34 rfl rfl ?_
    refine w_getO K vc9 inX9 1 (by decide) mF_RX9_15 dX9_weighPowers_35 H (fun x4 H => ?_)
    refine r_iload K 5 dX9_weighPowers_38 rfl ?_
    refine w_iald K dX9_weighPowers_40 H (fun x5 H => ?_)
    refine r_i2l K dX9_weighPowers_41 ?_
    refine r_lconst (v := 1) K dX9_weighPowers_42 (by decide) ?_
    refine w_callV K hl H (fun r h => c_X1_multiply_ l h) mC_yX1_multiply_ mM_RX9_57 mI_yX1_multiply_ mS_yX1_multiply_ mZ_RX1 vc1 (Nat.le_of_ble_eq_true rfl) (Nat.le_of_ble_eq_true rfl) np_yX1_multiply_ rfl (Nat.le_of_ble_eq_true rfl) dX9_weighPowers_43 (fun μ6 H => ?_) ⟨Nat.zero_le _, Nat.zero_le _⟩
    refine r_iinc K 6 [(8, .int _), (0, .ref _), (1, .int _), (2, .ref _), (3, .long _), (5, .long _), (7, .int _)] (v := _ + (1 : Int32)) dX9_weighPowers_46 rfl rfl (by decide) rfl ?_
    refine r_goto K 27 dX9_weighPowers_49 (by decide) ?_
    cases H
    exact r_sub [1, 2, 3, 4, 5, 6, 0] rfl D
set_option maxRecDepth 10000 in
theorem l_X9_weighPowers_27 {X : jX} {l : Launch} {n : Nat} {Y : jY} (K : jOK X RX9 cX9_weighPowers 9 none 4) (hl : X.2.1 = l) {μr : jM} {v0 : Nat} {v1 : Int32} {v2 : Nat} {v3 : Int64} {v5 : Int64} {v7 : Int32}  {s0 : Int32 × jM} {z : ((Int64 × Int64 × Int32 × jM) ⊕ (jM))} (H : jit jF (fun (s : Int32 × jM) => b_X9_weighPowers_27 Y v0 v1 v2 v3 v5 v7 s.1 s.2) s0 = some z) (D : Sum.elim (fun (s : Int64 × Int64 × Int32 × jM) => JW X (jEnd X n Y none μr 0 0) 0 0 n Y 8 [(0, .ref v0), (1, .int v1), (2, .ref v2), (3, .long s.1), (5, .long s.2.1), (7, .int s.2.2.1)] [] s.2.2.2) (fun r => r = μr) z) : JW X (jEnd X n Y none μr 0 0) 0 0 n Y 27 [(0, .ref v0), (1, .int v1), (2, .ref v2), (3, .long v3), (5, .long v5), (7, .int v7), (8, .int s0.1)] [] s0.2 :=
  jit_ind (P := fun (s : Int32 × jM) => JW X (jEnd X n Y none μr 0 0) 0 0 n Y 27 [(0, .ref v0), (1, .int v1), (2, .ref v2), (3, .long v3), (5, .long v5), (7, .int v7), (8, .int s.1)] [] s.2) (D := Sum.elim (fun (s : Int64 × Int64 × Int32 × jM) => JW X (jEnd X n Y none μr 0 0) 0 0 n Y 8 [(0, .ref v0), (1, .int v1), (2, .ref v2), (3, .long s.1), (5, .long s.2.1), (7, .int s.2.2.1)] [] s.2.2.2) (fun r => r = μr)) (fun s z Hs Ds => t_X9_weighPowers_27 K hl Hs Ds) jF s0 z H D
set_option maxRecDepth 10000 in
theorem t_X9_weighPowers_8 {X : jX} {l : Launch} {n : Nat} {Y : jY} (K : jOK X RX9 cX9_weighPowers 9 none 4) (hl : X.2.1 = l) {μr : jM} {v0 : Nat} {v1 : Int32} {v2 : Nat} {v3 : Int64} {v5 : Int64} {v7 : Int32} {μ : jM} {z : ((Int64 × Int64 × Int32 × jM) ⊕ (jM))} (H : b_X9_weighPowers_8 Y v0 v1 v2 v3 v5 v7 μ = some z) (D : Sum.elim (fun (s : Int64 × Int64 × Int32 × jM) => JW X (jEnd X n Y none μr 0 0) 0 0 n Y 8 [(0, .ref v0), (1, .int v1), (2, .ref v2), (3, .long s.1), (5, .long s.2.1), (7, .int s.2.2.1)] [] s.2.2.2) (fun r => r = μr) z) : JW X (jEnd X n Y none μr 0 0) 0 0 n Y 8 [(0, .ref v0), (1, .int v1), (2, .ref v2), (3, .long v3), (5, .long v5), (7, .int v7)] [] μ := by
  unfold b_X9_weighPowers_8 at H
  refine r_iload K 5 dX9_weighPowers_8 rfl ?_
  refine r_aload_n K 0 dX9_weighPowers_10 rfl rfl ?_
  refine w_getI K vc9 inX9 0 (by decide) mF_RX9_9 dX9_weighPowers_11 H (fun x1 H => ?_)
  refine w_icmp_ge K 76 dX9_weighPowers_14 (by decide) H (fun _ H => ?_) (fun _ H => ?_)
  · cases H
    simp only [Sum.elim_inr] at D
    subst D
    exact r_vret K dX9_weighPowers_76
  · refine r_aload_n K 0 dX9_weighPowers_17 rfl rfl ?_
    refine r_iload K 5 dX9_weighPowers_18 rfl ?_
    refine r_aload_n K 2 dX9_weighPowers_20 rfl rfl ?_
    refine w_callV K hl H (fun r h => c_X9_weigh l h) mC_yX9_weigh mM_RX9_53 mI_yX9_weigh mS_yX9_weigh mZ_RX9 vc9 (Nat.le_of_ble_eq_true rfl) (Nat.le_of_ble_eq_true rfl) np_yX9_weigh rfl (Nat.le_of_ble_eq_true rfl) dX9_weighPowers_21 (fun μ2 H => ?_) ⟨Nat.zero_le _, Nat.zero_le _⟩
    refine r_iconst (v := 0) K dX9_weighPowers_24 (by decide) ?_
    refine r_istore K [(8, .int _), (0, .ref _), (1, .int _), (2, .ref _), (3, .long _), (5, .long _), (7, .int _)] dX9_weighPowers_25 (by decide) rfl ?_
    exact r_sub [1, 2, 3, 4, 5, 6, 0] rfl (l_X9_weighPowers_27 K hl H D)
set_option maxRecDepth 10000 in
theorem l_X9_weighPowers_8 {X : jX} {l : Launch} {n : Nat} {Y : jY} (K : jOK X RX9 cX9_weighPowers 9 none 4) (hl : X.2.1 = l) {μr : jM} {v0 : Nat} {v1 : Int32} {v2 : Nat}  {s0 : Int64 × Int64 × Int32 × jM} {z : (jM)} (H : jit jF (fun (s : Int64 × Int64 × Int32 × jM) => b_X9_weighPowers_8 Y v0 v1 v2 s.1 s.2.1 s.2.2.1 s.2.2.2) s0 = some z) (D : z = μr) : JW X (jEnd X n Y none μr 0 0) 0 0 n Y 8 [(0, .ref v0), (1, .int v1), (2, .ref v2), (3, .long s0.1), (5, .long s0.2.1), (7, .int s0.2.2.1)] [] s0.2.2.2 :=
  jit_ind (P := fun (s : Int64 × Int64 × Int32 × jM) => JW X (jEnd X n Y none μr 0 0) 0 0 n Y 8 [(0, .ref v0), (1, .int v1), (2, .ref v2), (3, .long s.1), (5, .long s.2.1), (7, .int s.2.2.1)] [] s.2.2.2) (D := fun r => r = μr) (fun s z Hs Ds => t_X9_weighPowers_8 K hl Hs Ds) jF s0 z H D
set_option maxRecDepth 10000 in
theorem t_X9_weighPowers_0 {X : jX} {l : Launch} {n : Nat} {Y : jY} (K : jOK X RX9 cX9_weighPowers 9 none 4) (hl : X.2.1 = l) {μr : jM} {v0 : Nat} {v1 : Int32} {v2 : Nat} {μ : jM} {z : (jM)} (H : f_X9_weighPowers Y v0 v1 v2 μ = some z) (D : z = μr) : JW X (jEnd X n Y none μr 0 0) 0 0 n Y 0 [(0, .ref v0), (1, .int v1), (2, .ref v2)] [] μ := by
  unfold f_X9_weighPowers at H
  refine r_lconst (v := 0) K dX9_weighPowers_0 (by decide) ?_
  refine r_lstore_n K [(3, .long _), (0, .ref _), (1, .int _), (2, .ref _)] dX9_weighPowers_1 rfl (by decide) rfl ?_
  refine r_lconst (v := 1) K dX9_weighPowers_2 (by decide) ?_
  refine r_lstore K [(5, .long _), (3, .long _), (0, .ref _), (1, .int _), (2, .ref _)] dX9_weighPowers_3 (by decide) rfl ?_
  refine r_iconst (v := 0) K dX9_weighPowers_5 (by decide) ?_
  refine r_istore K [(7, .int _), (5, .long _), (3, .long _), (0, .ref _), (1, .int _), (2, .ref _)] dX9_weighPowers_6 (by decide) rfl ?_
  exact r_sub [3, 4, 5, 2, 1, 0] rfl (l_X9_weighPowers_8 K hl H D)
theorem c_X9_weighPowers (l : Launch) {n : Nat} {Y : jY} {v0 : Nat} {v1 : Int32} {v2 : Nat} {μ : jM} {z : jM} (H : f_X9_weighPowers Y v0 v1 v2 μ = some z) : jC l yX9_weighPowers cX9_weighPowers 9 none 4 0 0 [.ref v0, .int v1, .ref v2] n Y μ n Y none z := by
  refine jC_of (by decide +kernel) (Nat.le_of_ble_eq_true rfl) (fun X hl K _ _ _ => ?_)
  exact t_X9_weighPowers_0 K hl H rfl
/-! RX10 wholeRoots(I)I -/
def b_X10_wholeRoots_27 (Y : jY) (v0 : Nat) (v1 : Int32) (v2 : Int32) (v3 : Int32) (μ : jM) : Option ((Int32 × Int32 × jM) ⊕ (Int32 × jM)) :=
  some (.inl (v2, (v3 + (1 : Int32)), μ))
def b_X10_wholeRoots_5 (Y : jY) (v0 : Nat) (v1 : Int32) (v2 : Int32) (v3 : Int32) (μ : jM) : Option ((Int32 × Int32 × jM) ⊕ (Int32 × jM)) :=
  if ((18 : Int32)) < v3 then
    some (.inr (v2, μ))
  else
    (jrcv Y v0 10 (f_X10_valueAt Y v0 ((0 : Int32)) v1 v3 ((1 : Int32)) μ)).bind fun r1 =>
    if ((lg_cmp r1.1 ((0 : Int64)))) = 0 then
      b_X10_wholeRoots_27 Y v0 v1 (v2 + (1 : Int32)) v3 r1.2
    else
      b_X10_wholeRoots_27 Y v0 v1 v2 v3 r1.2
def f_X10_wholeRoots (Y : jY) (v0 : Nat) (v1 : Int32) (μ : jM) : Option (Int32 × jM) :=
  jit jF (fun (s : Int32 × Int32 × jM) => b_X10_wholeRoots_5 Y v0 v1 s.1 s.2.1 s.2.2) ((0 : Int32), (-18 : Int32), μ)
set_option maxRecDepth 10000 in
theorem t_X10_wholeRoots_27 {X : jX} {l : Launch} {n : Nat} {Y : jY} (K : jOK X RX10 cX10_wholeRoots 4 (some .int) 3) (hl : X.2.1 = l) {rr : Int32} {μr : jM} {v0 : Nat} {v1 : Int32} {v2 : Int32} {v3 : Int32} {μ : jM} {z : ((Int32 × Int32 × jM) ⊕ (Int32 × jM))} (H : b_X10_wholeRoots_27 Y v0 v1 v2 v3 μ = some z) (D : Sum.elim (fun (s : Int32 × Int32 × jM) => JW X (jEnd X n Y (some (.int rr)) μr 0 0) 0 0 n Y 5 [(0, .ref v0), (1, .int v1), (2, .int s.1), (3, .int s.2.1)] [] s.2.2) (fun r => r = (rr, μr)) z) : JW X (jEnd X n Y (some (.int rr)) μr 0 0) 0 0 n Y 27 [(0, .ref v0), (1, .int v1), (2, .int v2), (3, .int v3)] [] μ := by
  unfold b_X10_wholeRoots_27 at H
  refine r_iinc K 3 [(3, .int _), (0, .ref _), (1, .int _), (2, .int _)] (v := _ + (1 : Int32)) dX10_wholeRoots_27 rfl rfl (by decide) rfl ?_
  refine r_goto K 5 dX10_wholeRoots_30 (by decide) ?_
  cases H
  exact r_sub [1, 2, 3, 0] rfl D
set_option maxRecDepth 10000 in
theorem t_X10_wholeRoots_5 {X : jX} {l : Launch} {n : Nat} {Y : jY} (K : jOK X RX10 cX10_wholeRoots 4 (some .int) 3) (hl : X.2.1 = l) {rr : Int32} {μr : jM} {v0 : Nat} {v1 : Int32} {v2 : Int32} {v3 : Int32} {μ : jM} {z : ((Int32 × Int32 × jM) ⊕ (Int32 × jM))} (H : b_X10_wholeRoots_5 Y v0 v1 v2 v3 μ = some z) (D : Sum.elim (fun (s : Int32 × Int32 × jM) => JW X (jEnd X n Y (some (.int rr)) μr 0 0) 0 0 n Y 5 [(0, .ref v0), (1, .int v1), (2, .int s.1), (3, .int s.2.1)] [] s.2.2) (fun r => r = (rr, μr)) z) : JW X (jEnd X n Y (some (.int rr)) μr 0 0) 0 0 n Y 5 [(0, .ref v0), (1, .int v1), (2, .int v2), (3, .int v3)] [] μ := by
  unfold b_X10_wholeRoots_5 at H
  refine r_iload_n K 3 dX10_wholeRoots_5 rfl rfl ?_
  refine r_bipush (v := 18) K dX10_wholeRoots_6 (by decide) ?_
  refine w_icmp_gt K 33 dX10_wholeRoots_8 (by decide) H (fun _ H => ?_) (fun _ H => ?_)
  · refine r_iload_n K 2 dX10_wholeRoots_33 rfl rfl ?_
    cases H
    simp only [Sum.elim_inr] at D
    obtain ⟨rfl, rfl⟩ := jfin2 D
    exact r_iret K dX10_wholeRoots_34
  · refine r_aload_n K 0 dX10_wholeRoots_11 rfl rfl ?_
    refine r_iconst (v := 0) K dX10_wholeRoots_12 (by decide) ?_
    refine r_iload_n K 1 dX10_wholeRoots_13 rfl rfl ?_
    refine r_iload_n K 3 dX10_wholeRoots_14 rfl rfl ?_
    refine r_iconst (v := 1) K dX10_wholeRoots_15 (by decide) ?_
    refine w_callV K hl H (fun r h => c_X10_valueAt l h) mC_yX10_valueAt mM_RX10_45 mI_yX10_valueAt mS_yX10_valueAt mZ_RX10 vc10 (Nat.le_of_ble_eq_true rfl) (Nat.le_of_ble_eq_true rfl) np_yX10_valueAt rfl (Nat.le_of_ble_eq_true rfl) dX10_wholeRoots_16 (fun r1 H => ?_) ⟨Nat.zero_le _, Nat.zero_le _⟩
    refine r_lconst (v := 0) K dX10_wholeRoots_19 (by decide) ?_
    refine r_lcmp K dX10_wholeRoots_20 ?_
    refine w_if_ne K 27 dX10_wholeRoots_21 (by decide) H (fun _ H => ?_) (fun _ H => ?_)
    · exact r_sub [0, 1, 2, 3] rfl (t_X10_wholeRoots_27 K hl H D)
    · refine r_iinc K 2 [(2, .int _), (0, .ref _), (1, .int _), (3, .int _)] (v := _ + (1 : Int32)) dX10_wholeRoots_24 rfl rfl (by decide) rfl ?_
      exact r_sub [1, 2, 0, 3] rfl (t_X10_wholeRoots_27 K hl H D)
set_option maxRecDepth 10000 in
theorem l_X10_wholeRoots_5 {X : jX} {l : Launch} {n : Nat} {Y : jY} (K : jOK X RX10 cX10_wholeRoots 4 (some .int) 3) (hl : X.2.1 = l) {rr : Int32} {μr : jM} {v0 : Nat} {v1 : Int32}  {s0 : Int32 × Int32 × jM} {z : (Int32 × jM)} (H : jit jF (fun (s : Int32 × Int32 × jM) => b_X10_wholeRoots_5 Y v0 v1 s.1 s.2.1 s.2.2) s0 = some z) (D : z = (rr, μr)) : JW X (jEnd X n Y (some (.int rr)) μr 0 0) 0 0 n Y 5 [(0, .ref v0), (1, .int v1), (2, .int s0.1), (3, .int s0.2.1)] [] s0.2.2 :=
  jit_ind (P := fun (s : Int32 × Int32 × jM) => JW X (jEnd X n Y (some (.int rr)) μr 0 0) 0 0 n Y 5 [(0, .ref v0), (1, .int v1), (2, .int s.1), (3, .int s.2.1)] [] s.2.2) (D := fun r => r = (rr, μr)) (fun s z Hs Ds => t_X10_wholeRoots_5 K hl Hs Ds) jF s0 z H D
set_option maxRecDepth 10000 in
theorem t_X10_wholeRoots_0 {X : jX} {l : Launch} {n : Nat} {Y : jY} (K : jOK X RX10 cX10_wholeRoots 4 (some .int) 3) (hl : X.2.1 = l) {rr : Int32} {μr : jM} {v0 : Nat} {v1 : Int32} {μ : jM} {z : (Int32 × jM)} (H : f_X10_wholeRoots Y v0 v1 μ = some z) (D : z = (rr, μr)) : JW X (jEnd X n Y (some (.int rr)) μr 0 0) 0 0 n Y 0 [(0, .ref v0), (1, .int v1)] [] μ := by
  unfold f_X10_wholeRoots at H
  refine r_iconst (v := 0) K dX10_wholeRoots_0 (by decide) ?_
  refine r_istore_n K [(2, .int _), (0, .ref _), (1, .int _)] dX10_wholeRoots_1 rfl (by decide) rfl ?_
  refine r_bipush (v := -18) K dX10_wholeRoots_2 (by decide) ?_
  refine r_istore_n K [(3, .int _), (2, .int _), (0, .ref _), (1, .int _)] dX10_wholeRoots_4 rfl (by decide) rfl ?_
  exact r_sub [2, 3, 1, 0] rfl (l_X10_wholeRoots_5 K hl H D)
theorem c_X10_wholeRoots (l : Launch) {n : Nat} {Y : jY} {v0 : Nat} {v1 : Int32} {μ : jM} {z : Int32 × jM} (H : f_X10_wholeRoots Y v0 v1 μ = some z) : jC l yX10_wholeRoots cX10_wholeRoots 4 (some .int) 3 0 0 [.ref v0, .int v1] n Y μ n Y (some (.int z.1)) z.2 := by
  refine jC_of (by decide +kernel) (Nat.le_of_ble_eq_true rfl) (fun X hl K _ _ _ => ?_)
  obtain ⟨rr, μr⟩ := z
  exact t_X10_wholeRoots_0 K hl H rfl
/-! RX10 rootsBelow(III)I -/
def b_X10_rootsBelow_115 (Y : jY) (v4 : Int32) (μ : jM) : Option (Int32 × jM) :=
  some (v4, μ)
def b_X10_rootsBelow_101 (Y : jY) (v0 : Nat) (v1 : Int32) (v2 : Int32) (v3 : Int32) (v4 : Int32) (v5 : Int32) (v8 : Int64) (v10 : Int32) (v11 : Int64) (μ : jM) : Option ((Int32 × Int32 × Int64 × Int64 × Int32 × jM) ⊕ (Int32 × jM)) :=
  some (.inl (v4, v5, v8, v11, (v10 + (1 : Int32)), μ))
def b_X10_rootsBelow_99 (Y : jY) (v0 : Nat) (v1 : Int32) (v2 : Int32) (v3 : Int32) (v4 : Int32) (v8 : Int64) (v10 : Int32) (v11 : Int64) (t0 : Int32) (μ : jM) : Option ((Int32 × Int32 × Int64 × Int64 × Int32 × jM) ⊕ (Int32 × jM)) :=
  b_X10_rootsBelow_101 Y v0 v1 v2 v3 v4 t0 v8 v10 v11 μ
def b_X10_rootsBelow_76 (Y : jY) (v0 : Nat) (v1 : Int32) (v2 : Int32) (v3 : Int32) (v4 : Int32) (v5 : Int32) (v8 : Int64) (v10 : Int32) (v11 : Int64) (t0 : Int32) (μ : jM) : Option ((Int32 × Int32 × Int64 × Int64 × Int32 × jM) ⊕ (Int32 × jM)) :=
  if t0 = 0 then
    if v5 = 0 then
      b_X10_rootsBelow_99 Y v0 v1 v2 v3 v4 v8 v10 v11 (1 : Int32) μ
    else
      b_X10_rootsBelow_99 Y v0 v1 v2 v3 v4 v8 v10 v11 (0 : Int32) μ
  else
    b_X10_rootsBelow_101 Y v0 v1 v2 v3 (v4 + (1 : Int32)) v5 v8 v10 v11 μ
def b_X10_rootsBelow_15 (Y : jY) (v0 : Nat) (v1 : Int32) (v2 : Int32) (v3 : Int32) (v4 : Int32) (v5 : Int32) (v6 : Int64) (v8 : Int64) (v10 : Int32) (μ : jM) : Option ((Int32 × Int32 × Int64 × Int64 × Int32 × jM) ⊕ (Int32 × jM)) :=
  if v1 ≤ v10 then
    (b_X10_rootsBelow_115 Y v4 μ).map (fun r => (.inr r))
  else
    (jgI Y μ v0 10 0).bind fun x1 =>
    if x1 ≤ v10 then
      (b_X10_rootsBelow_115 Y v4 μ).map (fun r => (.inr r))
    else
      (jrcv Y v0 10 (f_X10_valueBehind Y v0 v10 v6 v8 v2 v3 μ)).bind fun r2 =>
      if v5 = 0 then
        if 0 ≤ ((lg_cmp r2.1 ((0 : Int64)))) then
          b_X10_rootsBelow_76 Y v0 v1 v2 v3 v4 v5 v8 v10 r2.1 (0 : Int32) r2.2
        else
          b_X10_rootsBelow_76 Y v0 v1 v2 v3 v4 v5 v8 v10 r2.1 (1 : Int32) r2.2
      else
        if ((lg_cmp r2.1 ((0 : Int64)))) ≤ 0 then
          b_X10_rootsBelow_76 Y v0 v1 v2 v3 v4 v5 v8 v10 r2.1 (0 : Int32) r2.2
        else
          b_X10_rootsBelow_76 Y v0 v1 v2 v3 v4 v5 v8 v10 r2.1 (1 : Int32) r2.2
def f_X10_rootsBelow (Y : jY) (v0 : Nat) (v1 : Int32) (v2 : Int32) (v3 : Int32) (μ : jM) : Option (Int32 × jM) :=
  jit jF (fun (s : Int32 × Int32 × Int64 × Int64 × Int32 × jM) => b_X10_rootsBelow_15 Y v0 v1 v2 v3 s.1 s.2.1 s.2.2.1 s.2.2.2.1 s.2.2.2.2.1 s.2.2.2.2.2) ((0 : Int32), (1 : Int32), (0 : Int64), (1 : Int64), (0 : Int32), μ)
set_option maxRecDepth 10000 in
theorem t_X10_rootsBelow_115 {X : jX} {l : Launch} {n : Nat} {Y : jY} (K : jOK X RX10 cX10_rootsBelow 14 (some .int) 2) (hl : X.2.1 = l) {rr : Int32} {μr : jM} {v4 : Int32} {μ : jM} {z : (Int32 × jM)} (H : b_X10_rootsBelow_115 Y v4 μ = some z) (D : z = (rr, μr)) : JW X (jEnd X n Y (some (.int rr)) μr 0 0) 0 0 n Y 115 [(4, .int v4)] [] μ := by
  unfold b_X10_rootsBelow_115 at H
  refine r_iload K 0 dX10_rootsBelow_115 rfl ?_
  cases H
  obtain ⟨rfl, rfl⟩ := jfin2 D
  exact r_iret K dX10_rootsBelow_117
set_option maxRecDepth 10000 in
theorem t_X10_rootsBelow_101 {X : jX} {l : Launch} {n : Nat} {Y : jY} (K : jOK X RX10 cX10_rootsBelow 14 (some .int) 2) (hl : X.2.1 = l) {rr : Int32} {μr : jM} {v0 : Nat} {v1 : Int32} {v2 : Int32} {v3 : Int32} {v4 : Int32} {v5 : Int32} {v8 : Int64} {v10 : Int32} {v11 : Int64} {μ : jM} {z : ((Int32 × Int32 × Int64 × Int64 × Int32 × jM) ⊕ (Int32 × jM))} (H : b_X10_rootsBelow_101 Y v0 v1 v2 v3 v4 v5 v8 v10 v11 μ = some z) (D : Sum.elim (fun (s : Int32 × Int32 × Int64 × Int64 × Int32 × jM) => JW X (jEnd X n Y (some (.int rr)) μr 0 0) 0 0 n Y 15 [(0, .ref v0), (1, .int v1), (2, .int v2), (3, .int v3), (4, .int s.1), (5, .int s.2.1), (6, .long s.2.2.1), (8, .long s.2.2.2.1), (10, .int s.2.2.2.2.1)] [] s.2.2.2.2.2) (fun r => r = (rr, μr)) z) : JW X (jEnd X n Y (some (.int rr)) μr 0 0) 0 0 n Y 101 [(0, .ref v0), (1, .int v1), (2, .int v2), (3, .int v3), (4, .int v4), (5, .int v5), (8, .long v8), (10, .int v10), (11, .long v11)] [] μ := by
  unfold b_X10_rootsBelow_101 at H
  refine r_lload K 6 dX10_rootsBelow_101 rfl ?_
  refine r_lstore K [(6, .long _), (0, .ref _), (1, .int _), (2, .int _), (3, .int _), (4, .int _), (5, .int _), (8, .long _), (10, .int _), (11, .long _)] dX10_rootsBelow_103 (by decide) rfl ?_
  refine r_lload K 9 dX10_rootsBelow_105 rfl ?_
  refine r_lstore K [(8, .long _), (6, .long _), (0, .ref _), (1, .int _), (2, .int _), (3, .int _), (4, .int _), (5, .int _), (10, .int _), (11, .long _)] dX10_rootsBelow_107 (by decide) rfl ?_
  refine r_iinc K 8 [(10, .int _), (8, .long _), (6, .long _), (0, .ref _), (1, .int _), (2, .int _), (3, .int _), (4, .int _), (5, .int _), (11, .long _)] (v := _ + (1 : Int32)) dX10_rootsBelow_109 rfl rfl (by decide) rfl ?_
  refine r_goto K 15 dX10_rootsBelow_112 (by decide) ?_
  cases H
  exact r_sub [3, 4, 5, 6, 7, 8, 2, 1, 0] rfl D
set_option maxRecDepth 10000 in
theorem t_X10_rootsBelow_99 {X : jX} {l : Launch} {n : Nat} {Y : jY} (K : jOK X RX10 cX10_rootsBelow 14 (some .int) 2) (hl : X.2.1 = l) {rr : Int32} {μr : jM} {v0 : Nat} {v1 : Int32} {v2 : Int32} {v3 : Int32} {v4 : Int32} {v8 : Int64} {v10 : Int32} {v11 : Int64} {t0 : Int32} {μ : jM} {z : ((Int32 × Int32 × Int64 × Int64 × Int32 × jM) ⊕ (Int32 × jM))} (H : b_X10_rootsBelow_99 Y v0 v1 v2 v3 v4 v8 v10 v11 t0 μ = some z) (D : Sum.elim (fun (s : Int32 × Int32 × Int64 × Int64 × Int32 × jM) => JW X (jEnd X n Y (some (.int rr)) μr 0 0) 0 0 n Y 15 [(0, .ref v0), (1, .int v1), (2, .int v2), (3, .int v3), (4, .int s.1), (5, .int s.2.1), (6, .long s.2.2.1), (8, .long s.2.2.2.1), (10, .int s.2.2.2.2.1)] [] s.2.2.2.2.2) (fun r => r = (rr, μr)) z) : JW X (jEnd X n Y (some (.int rr)) μr 0 0) 0 0 n Y 99 [(0, .ref v0), (1, .int v1), (2, .int v2), (3, .int v3), (4, .int v4), (8, .long v8), (10, .int v10), (11, .long v11)] [.int t0] μ := by
  unfold b_X10_rootsBelow_99 at H
  refine r_istore K [(5, .int _), (0, .ref _), (1, .int _), (2, .int _), (3, .int _), (4, .int _), (8, .long _), (10, .int _), (11, .long _)] dX10_rootsBelow_99 (by decide) rfl ?_
  exact r_sub [1, 2, 3, 4, 5, 0, 6, 7, 8] rfl (t_X10_rootsBelow_101 K hl H D)
set_option maxRecDepth 10000 in
theorem t_X10_rootsBelow_76 {X : jX} {l : Launch} {n : Nat} {Y : jY} (K : jOK X RX10 cX10_rootsBelow 14 (some .int) 2) (hl : X.2.1 = l) {rr : Int32} {μr : jM} {v0 : Nat} {v1 : Int32} {v2 : Int32} {v3 : Int32} {v4 : Int32} {v5 : Int32} {v8 : Int64} {v10 : Int32} {v11 : Int64} {t0 : Int32} {μ : jM} {z : ((Int32 × Int32 × Int64 × Int64 × Int32 × jM) ⊕ (Int32 × jM))} (H : b_X10_rootsBelow_76 Y v0 v1 v2 v3 v4 v5 v8 v10 v11 t0 μ = some z) (D : Sum.elim (fun (s : Int32 × Int32 × Int64 × Int64 × Int32 × jM) => JW X (jEnd X n Y (some (.int rr)) μr 0 0) 0 0 n Y 15 [(0, .ref v0), (1, .int v1), (2, .int v2), (3, .int v3), (4, .int s.1), (5, .int s.2.1), (6, .long s.2.2.1), (8, .long s.2.2.2.1), (10, .int s.2.2.2.2.1)] [] s.2.2.2.2.2) (fun r => r = (rr, μr)) z) : JW X (jEnd X n Y (some (.int rr)) μr 0 0) 0 0 n Y 76 [(0, .ref v0), (1, .int v1), (2, .int v2), (3, .int v3), (4, .int v4), (5, .int v5), (8, .long v8), (10, .int v10), (11, .long v11)] [.int t0] μ := by
  unfold b_X10_rootsBelow_76 at H
  refine r_istore K [(13, .int _), (0, .ref _), (1, .int _), (2, .int _), (3, .int _), (4, .int _), (5, .int _), (8, .long _), (10, .int _), (11, .long _)] dX10_rootsBelow_76 (by decide) rfl ?_
  refine r_iload K 0 dX10_rootsBelow_78 rfl ?_
  refine w_if_eq K 89 dX10_rootsBelow_80 (by decide) H (fun _ H => ?_) (fun _ H => ?_)
  · refine r_iload K 6 dX10_rootsBelow_89 rfl ?_
    refine w_if_ne K 98 dX10_rootsBelow_91 (by decide) H (fun _ H => ?_) (fun _ H => ?_)
    · refine r_iconst (v := 0) K dX10_rootsBelow_98 (by decide) ?_
      exact r_sub [1, 2, 3, 4, 5, 7, 8, 9] rfl (t_X10_rootsBelow_99 K hl H D)
    · refine r_iconst (v := 1) K dX10_rootsBelow_94 (by decide) ?_
      refine r_goto K 99 dX10_rootsBelow_95 (by decide) ?_
      exact r_sub [1, 2, 3, 4, 5, 7, 8, 9] rfl (t_X10_rootsBelow_99 K hl H D)
  · refine r_iinc K 5 [(4, .int _), (13, .int _), (0, .ref _), (1, .int _), (2, .int _), (3, .int _), (5, .int _), (8, .long _), (10, .int _), (11, .long _)] (v := _ + (1 : Int32)) dX10_rootsBelow_83 rfl rfl (by decide) rfl ?_
    refine r_goto K 101 dX10_rootsBelow_86 (by decide) ?_
    exact r_sub [2, 3, 4, 5, 0, 6, 7, 8, 9] rfl (t_X10_rootsBelow_101 K hl H D)
set_option maxRecDepth 10000 in
theorem t_X10_rootsBelow_15 {X : jX} {l : Launch} {n : Nat} {Y : jY} (K : jOK X RX10 cX10_rootsBelow 14 (some .int) 2) (hl : X.2.1 = l) {rr : Int32} {μr : jM} {v0 : Nat} {v1 : Int32} {v2 : Int32} {v3 : Int32} {v4 : Int32} {v5 : Int32} {v6 : Int64} {v8 : Int64} {v10 : Int32} {μ : jM} {z : ((Int32 × Int32 × Int64 × Int64 × Int32 × jM) ⊕ (Int32 × jM))} (H : b_X10_rootsBelow_15 Y v0 v1 v2 v3 v4 v5 v6 v8 v10 μ = some z) (D : Sum.elim (fun (s : Int32 × Int32 × Int64 × Int64 × Int32 × jM) => JW X (jEnd X n Y (some (.int rr)) μr 0 0) 0 0 n Y 15 [(0, .ref v0), (1, .int v1), (2, .int v2), (3, .int v3), (4, .int s.1), (5, .int s.2.1), (6, .long s.2.2.1), (8, .long s.2.2.2.1), (10, .int s.2.2.2.2.1)] [] s.2.2.2.2.2) (fun r => r = (rr, μr)) z) : JW X (jEnd X n Y (some (.int rr)) μr 0 0) 0 0 n Y 15 [(0, .ref v0), (1, .int v1), (2, .int v2), (3, .int v3), (4, .int v4), (5, .int v5), (6, .long v6), (8, .long v8), (10, .int v10)] [] μ := by
  unfold b_X10_rootsBelow_15 at H
  refine r_iload K 8 dX10_rootsBelow_15 rfl ?_
  refine r_iload_n K 1 dX10_rootsBelow_17 rfl rfl ?_
  refine w_icmp_ge K 115 dX10_rootsBelow_18 (by decide) H (fun _ H => ?_) (fun _ H => ?_)
  · obtain ⟨z2, H2, rfl⟩ := jmap H
    exact r_sub [4] rfl (t_X10_rootsBelow_115 K hl H2 D)
  · refine r_iload K 8 dX10_rootsBelow_21 rfl ?_
    refine r_aload_n K 0 dX10_rootsBelow_23 rfl rfl ?_
    refine w_getI K vc10 inX10 0 (by decide) mF_RX10_9 dX10_rootsBelow_24 H (fun x1 H => ?_)
    refine w_icmp_ge K 115 dX10_rootsBelow_27 (by decide) H (fun _ H => ?_) (fun _ H => ?_)
    · obtain ⟨z2, H2, rfl⟩ := jmap H
      exact r_sub [4] rfl (t_X10_rootsBelow_115 K hl H2 D)
    · refine r_aload_n K 0 dX10_rootsBelow_30 rfl rfl ?_
      refine r_iload K 8 dX10_rootsBelow_31 rfl ?_
      refine r_lload K 6 dX10_rootsBelow_33 rfl ?_
      refine r_lload K 7 dX10_rootsBelow_35 rfl ?_
      refine r_iload_n K 2 dX10_rootsBelow_37 rfl rfl ?_
      refine r_iload_n K 3 dX10_rootsBelow_38 rfl rfl ?_
      refine w_callV K hl H (fun r h => c_X10_valueBehind l h) mC_yX10_valueBehind mM_RX10_37 mI_yX10_valueBehind mS_yX10_valueBehind mZ_RX10 vc10 (Nat.le_of_ble_eq_true rfl) (Nat.le_of_ble_eq_true rfl) np_yX10_valueBehind rfl (Nat.le_of_ble_eq_true rfl) dX10_rootsBelow_39 (fun r2 H => ?_) ⟨Nat.zero_le _, Nat.zero_le _⟩
      refine r_lstore K [(11, .long _), (0, .ref _), (1, .int _), (2, .int _), (3, .int _), (4, .int _), (5, .int _), (6, .long _), (8, .long _), (10, .int _)] dX10_rootsBelow_42 (by decide) rfl ?_
      refine r_iload K 6 dX10_rootsBelow_44 rfl ?_
      refine w_if_eq K 64 dX10_rootsBelow_46 (by decide) H (fun _ H => ?_) (fun _ H => ?_)
      · refine r_lload K 0 dX10_rootsBelow_64 rfl ?_
        refine r_lconst (v := 0) K dX10_rootsBelow_66 (by decide) ?_
        refine r_lcmp K dX10_rootsBelow_67 ?_
        refine w_if_ge K 75 dX10_rootsBelow_68 (by decide) H (fun _ H => ?_) (fun _ H => ?_)
        · refine r_iconst (v := 0) K dX10_rootsBelow_75 (by decide) ?_
          exact r_sub [1, 2, 3, 4, 5, 6, 8, 9, 0] rfl (t_X10_rootsBelow_76 K hl H D)
        · refine r_iconst (v := 1) K dX10_rootsBelow_71 (by decide) ?_
          refine r_goto K 76 dX10_rootsBelow_72 (by decide) ?_
          exact r_sub [1, 2, 3, 4, 5, 6, 8, 9, 0] rfl (t_X10_rootsBelow_76 K hl H D)
      · refine r_lload K 0 dX10_rootsBelow_49 rfl ?_
        refine r_lconst (v := 0) K dX10_rootsBelow_51 (by decide) ?_
        refine r_lcmp K dX10_rootsBelow_52 ?_
        refine w_if_le K 60 dX10_rootsBelow_53 (by decide) H (fun _ H => ?_) (fun _ H => ?_)
        · refine r_iconst (v := 0) K dX10_rootsBelow_60 (by decide) ?_
          refine r_goto K 76 dX10_rootsBelow_61 (by decide) ?_
          exact r_sub [1, 2, 3, 4, 5, 6, 8, 9, 0] rfl (t_X10_rootsBelow_76 K hl H D)
        · refine r_iconst (v := 1) K dX10_rootsBelow_56 (by decide) ?_
          refine r_goto K 76 dX10_rootsBelow_57 (by decide) ?_
          exact r_sub [1, 2, 3, 4, 5, 6, 8, 9, 0] rfl (t_X10_rootsBelow_76 K hl H D)
set_option maxRecDepth 10000 in
theorem l_X10_rootsBelow_15 {X : jX} {l : Launch} {n : Nat} {Y : jY} (K : jOK X RX10 cX10_rootsBelow 14 (some .int) 2) (hl : X.2.1 = l) {rr : Int32} {μr : jM} {v0 : Nat} {v1 : Int32} {v2 : Int32} {v3 : Int32}  {s0 : Int32 × Int32 × Int64 × Int64 × Int32 × jM} {z : (Int32 × jM)} (H : jit jF (fun (s : Int32 × Int32 × Int64 × Int64 × Int32 × jM) => b_X10_rootsBelow_15 Y v0 v1 v2 v3 s.1 s.2.1 s.2.2.1 s.2.2.2.1 s.2.2.2.2.1 s.2.2.2.2.2) s0 = some z) (D : z = (rr, μr)) : JW X (jEnd X n Y (some (.int rr)) μr 0 0) 0 0 n Y 15 [(0, .ref v0), (1, .int v1), (2, .int v2), (3, .int v3), (4, .int s0.1), (5, .int s0.2.1), (6, .long s0.2.2.1), (8, .long s0.2.2.2.1), (10, .int s0.2.2.2.2.1)] [] s0.2.2.2.2.2 :=
  jit_ind (P := fun (s : Int32 × Int32 × Int64 × Int64 × Int32 × jM) => JW X (jEnd X n Y (some (.int rr)) μr 0 0) 0 0 n Y 15 [(0, .ref v0), (1, .int v1), (2, .int v2), (3, .int v3), (4, .int s.1), (5, .int s.2.1), (6, .long s.2.2.1), (8, .long s.2.2.2.1), (10, .int s.2.2.2.2.1)] [] s.2.2.2.2.2) (D := fun r => r = (rr, μr)) (fun s z Hs Ds => t_X10_rootsBelow_15 K hl Hs Ds) jF s0 z H D
set_option maxRecDepth 10000 in
theorem t_X10_rootsBelow_0 {X : jX} {l : Launch} {n : Nat} {Y : jY} (K : jOK X RX10 cX10_rootsBelow 14 (some .int) 2) (hl : X.2.1 = l) {rr : Int32} {μr : jM} {v0 : Nat} {v1 : Int32} {v2 : Int32} {v3 : Int32} {μ : jM} {z : (Int32 × jM)} (H : f_X10_rootsBelow Y v0 v1 v2 v3 μ = some z) (D : z = (rr, μr)) : JW X (jEnd X n Y (some (.int rr)) μr 0 0) 0 0 n Y 0 [(0, .ref v0), (1, .int v1), (2, .int v2), (3, .int v3)] [] μ := by
  unfold f_X10_rootsBelow at H
  refine r_iconst (v := 0) K dX10_rootsBelow_0 (by decide) ?_
  refine r_istore K [(4, .int _), (0, .ref _), (1, .int _), (2, .int _), (3, .int _)] dX10_rootsBelow_1 (by decide) rfl ?_
  refine r_iconst (v := 1) K dX10_rootsBelow_3 (by decide) ?_
  refine r_istore K [(5, .int _), (4, .int _), (0, .ref _), (1, .int _), (2, .int _), (3, .int _)] dX10_rootsBelow_4 (by decide) rfl ?_
  refine r_lconst (v := 0) K dX10_rootsBelow_6 (by decide) ?_
  refine r_lstore K [(6, .long _), (5, .int _), (4, .int _), (0, .ref _), (1, .int _), (2, .int _), (3, .int _)] dX10_rootsBelow_7 (by decide) rfl ?_
  refine r_lconst (v := 1) K dX10_rootsBelow_9 (by decide) ?_
  refine r_lstore K [(8, .long _), (6, .long _), (5, .int _), (4, .int _), (0, .ref _), (1, .int _), (2, .int _), (3, .int _)] dX10_rootsBelow_10 (by decide) rfl ?_
  refine r_iconst (v := 0) K dX10_rootsBelow_12 (by decide) ?_
  refine r_istore K [(10, .int _), (8, .long _), (6, .long _), (5, .int _), (4, .int _), (0, .ref _), (1, .int _), (2, .int _), (3, .int _)] dX10_rootsBelow_13 (by decide) rfl ?_
  exact r_sub [5, 6, 7, 8, 4, 3, 2, 1, 0] rfl (l_X10_rootsBelow_15 K hl H D)
theorem c_X10_rootsBelow (l : Launch) {n : Nat} {Y : jY} {v0 : Nat} {v1 : Int32} {v2 : Int32} {v3 : Int32} {μ : jM} {z : Int32 × jM} (H : f_X10_rootsBelow Y v0 v1 v2 v3 μ = some z) : jC l yX10_rootsBelow cX10_rootsBelow 14 (some .int) 2 0 0 [.ref v0, .int v1, .int v2, .int v3] n Y μ n Y (some (.int z.1)) z.2 := by
  refine jC_of (by decide +kernel) (Nat.le_of_ble_eq_true rfl) (fun X hl K _ _ _ => ?_)
  obtain ⟨rr, μr⟩ := z
  exact t_X10_rootsBelow_0 K hl H rfl
/-! RX10 rootInParts(III)I -/
def b_X10_rootInParts_50 (Y : jY) (v0 : Nat) (v1 : Int32) (v2 : Int32) (v3 : Int32) (v4 : Int32) (v5 : Int32) (μ : jM) : Option ((Int32 × Int32 × jM) ⊕ (Int32 × jM)) :=
  (jdivI v5 ((2 : Int32))).bind fun x1 =>
  some (.inl (v4, x1, μ))
def b_X10_rootInParts_11 (Y : jY) (v0 : Nat) (v1 : Int32) (v2 : Int32) (v3 : Int32) (v4 : Int32) (v5 : Int32) (μ : jM) : Option ((Int32 × Int32 × jM) ⊕ (Int32 × jM)) :=
  if v5 ≤ 0 then
    some (.inr (v4, μ))
  else
    if ((((18 : Int32)) * v3)) < ((v4 + v5)) then
      b_X10_rootInParts_50 Y v0 v1 v2 v3 v4 v5 μ
    else
      (jrcv Y v0 10 (f_X10_rootsBelow Y v0 v1 ((v4 + v5)) v3 μ)).bind fun r1 =>
      if v2 < r1.1 then
        b_X10_rootInParts_50 Y v0 v1 v2 v3 v4 v5 r1.2
      else
        b_X10_rootInParts_50 Y v0 v1 v2 v3 (v4 + v5) v5 r1.2
def f_X10_rootInParts (Y : jY) (v0 : Nat) (v1 : Int32) (v2 : Int32) (v3 : Int32) (μ : jM) : Option (Int32 × jM) :=
  jit jF (fun (s : Int32 × Int32 × jM) => b_X10_rootInParts_11 Y v0 v1 v2 v3 s.1 s.2.1 s.2.2) ((((-18 : Int32)) * v3), (1024 : Int32), μ)
set_option maxRecDepth 10000 in
theorem t_X10_rootInParts_50 {X : jX} {l : Launch} {n : Nat} {Y : jY} (K : jOK X RX10 cX10_rootInParts 6 (some .int) 3) (hl : X.2.1 = l) {rr : Int32} {μr : jM} {v0 : Nat} {v1 : Int32} {v2 : Int32} {v3 : Int32} {v4 : Int32} {v5 : Int32} {μ : jM} {z : ((Int32 × Int32 × jM) ⊕ (Int32 × jM))} (H : b_X10_rootInParts_50 Y v0 v1 v2 v3 v4 v5 μ = some z) (D : Sum.elim (fun (s : Int32 × Int32 × jM) => JW X (jEnd X n Y (some (.int rr)) μr 0 0) 0 0 n Y 11 [(0, .ref v0), (1, .int v1), (2, .int v2), (3, .int v3), (4, .int s.1), (5, .int s.2.1)] [] s.2.2) (fun r => r = (rr, μr)) z) : JW X (jEnd X n Y (some (.int rr)) μr 0 0) 0 0 n Y 50 [(0, .ref v0), (1, .int v1), (2, .int v2), (3, .int v3), (4, .int v4), (5, .int v5)] [] μ := by
  unfold b_X10_rootInParts_50 at H
  refine r_iload K 5 dX10_rootInParts_50 rfl ?_
  refine r_iconst (v := 2) K dX10_rootInParts_52 (by decide) ?_
  refine w_idiv K dX10_rootInParts_53 H (fun x1 H => ?_)
  refine r_istore K [(5, .int _), (0, .ref _), (1, .int _), (2, .int _), (3, .int _), (4, .int _)] dX10_rootInParts_54 (by decide) rfl ?_
  refine r_goto K 11 dX10_rootInParts_56 (by decide) ?_
  cases H
  exact r_sub [1, 2, 3, 4, 5, 0] rfl D
set_option maxRecDepth 10000 in
theorem t_X10_rootInParts_11 {X : jX} {l : Launch} {n : Nat} {Y : jY} (K : jOK X RX10 cX10_rootInParts 6 (some .int) 3) (hl : X.2.1 = l) {rr : Int32} {μr : jM} {v0 : Nat} {v1 : Int32} {v2 : Int32} {v3 : Int32} {v4 : Int32} {v5 : Int32} {μ : jM} {z : ((Int32 × Int32 × jM) ⊕ (Int32 × jM))} (H : b_X10_rootInParts_11 Y v0 v1 v2 v3 v4 v5 μ = some z) (D : Sum.elim (fun (s : Int32 × Int32 × jM) => JW X (jEnd X n Y (some (.int rr)) μr 0 0) 0 0 n Y 11 [(0, .ref v0), (1, .int v1), (2, .int v2), (3, .int v3), (4, .int s.1), (5, .int s.2.1)] [] s.2.2) (fun r => r = (rr, μr)) z) : JW X (jEnd X n Y (some (.int rr)) μr 0 0) 0 0 n Y 11 [(0, .ref v0), (1, .int v1), (2, .int v2), (3, .int v3), (4, .int v4), (5, .int v5)] [] μ := by
  unfold b_X10_rootInParts_11 at H
  refine r_iload K 5 dX10_rootInParts_11 rfl ?_
  refine w_if_le K 59 dX10_rootInParts_13 (by decide) H (fun _ H => ?_) (fun _ H => ?_)
  · refine r_iload K 4 dX10_rootInParts_59 rfl ?_
    cases H
    simp only [Sum.elim_inr] at D
    obtain ⟨rfl, rfl⟩ := jfin2 D
    exact r_iret K dX10_rootInParts_61
  · refine r_iload K 4 dX10_rootInParts_16 rfl ?_
    refine r_iload K 5 dX10_rootInParts_18 rfl ?_
    refine r_iadd K dX10_rootInParts_20 ?_
    refine r_bipush (v := 18) K dX10_rootInParts_21 (by decide) ?_
    refine r_iload_n K 3 dX10_rootInParts_23 rfl rfl ?_
    refine r_imul K dX10_rootInParts_24 ?_
    refine w_icmp_gt K 50 dX10_rootInParts_25 (by decide) H (fun _ H => ?_) (fun _ H => ?_)
    · exact r_sub [0, 1, 2, 3, 4, 5] rfl (t_X10_rootInParts_50 K hl H D)
    · refine r_aload_n K 0 dX10_rootInParts_28 rfl rfl ?_
      refine r_iload_n K 1 dX10_rootInParts_29 rfl rfl ?_
      refine r_iload K 4 dX10_rootInParts_30 rfl ?_
      refine r_iload K 5 dX10_rootInParts_32 rfl ?_
      refine r_iadd K dX10_rootInParts_34 ?_
      refine r_iload_n K 3 dX10_rootInParts_35 rfl rfl ?_
      refine w_callV K hl H (fun r h => c_X10_rootsBelow l h) mC_yX10_rootsBelow mM_RX10_41 mI_yX10_rootsBelow mS_yX10_rootsBelow mZ_RX10 vc10 (Nat.le_of_ble_eq_true rfl) (Nat.le_of_ble_eq_true rfl) np_yX10_rootsBelow rfl (Nat.le_of_ble_eq_true rfl) dX10_rootInParts_36 (fun r1 H => ?_) ⟨Nat.zero_le _, Nat.zero_le _⟩
      refine r_iload_n K 2 dX10_rootInParts_39 rfl rfl ?_
      refine w_icmp_gt K 50 dX10_rootInParts_40 (by decide) H (fun _ H => ?_) (fun _ H => ?_)
      · exact r_sub [0, 1, 2, 3, 4, 5] rfl (t_X10_rootInParts_50 K hl H D)
      · refine r_iload K 4 dX10_rootInParts_43 rfl ?_
        refine r_iload K 5 dX10_rootInParts_45 rfl ?_
        refine r_iadd K dX10_rootInParts_47 ?_
        refine r_istore K [(4, .int _), (0, .ref _), (1, .int _), (2, .int _), (3, .int _), (5, .int _)] dX10_rootInParts_48 (by decide) rfl ?_
        exact r_sub [1, 2, 3, 4, 0, 5] rfl (t_X10_rootInParts_50 K hl H D)
set_option maxRecDepth 10000 in
theorem l_X10_rootInParts_11 {X : jX} {l : Launch} {n : Nat} {Y : jY} (K : jOK X RX10 cX10_rootInParts 6 (some .int) 3) (hl : X.2.1 = l) {rr : Int32} {μr : jM} {v0 : Nat} {v1 : Int32} {v2 : Int32} {v3 : Int32}  {s0 : Int32 × Int32 × jM} {z : (Int32 × jM)} (H : jit jF (fun (s : Int32 × Int32 × jM) => b_X10_rootInParts_11 Y v0 v1 v2 v3 s.1 s.2.1 s.2.2) s0 = some z) (D : z = (rr, μr)) : JW X (jEnd X n Y (some (.int rr)) μr 0 0) 0 0 n Y 11 [(0, .ref v0), (1, .int v1), (2, .int v2), (3, .int v3), (4, .int s0.1), (5, .int s0.2.1)] [] s0.2.2 :=
  jit_ind (P := fun (s : Int32 × Int32 × jM) => JW X (jEnd X n Y (some (.int rr)) μr 0 0) 0 0 n Y 11 [(0, .ref v0), (1, .int v1), (2, .int v2), (3, .int v3), (4, .int s.1), (5, .int s.2.1)] [] s.2.2) (D := fun r => r = (rr, μr)) (fun s z Hs Ds => t_X10_rootInParts_11 K hl Hs Ds) jF s0 z H D
set_option maxRecDepth 10000 in
theorem t_X10_rootInParts_0 {X : jX} {l : Launch} {n : Nat} {Y : jY} (K : jOK X RX10 cX10_rootInParts 6 (some .int) 3) (hl : X.2.1 = l) {rr : Int32} {μr : jM} {v0 : Nat} {v1 : Int32} {v2 : Int32} {v3 : Int32} {μ : jM} {z : (Int32 × jM)} (H : f_X10_rootInParts Y v0 v1 v2 v3 μ = some z) (D : z = (rr, μr)) : JW X (jEnd X n Y (some (.int rr)) μr 0 0) 0 0 n Y 0 [(0, .ref v0), (1, .int v1), (2, .int v2), (3, .int v3)] [] μ := by
  unfold f_X10_rootInParts at H
  refine r_bipush (v := -18) K dX10_rootInParts_0 (by decide) ?_
  refine r_iload_n K 3 dX10_rootInParts_2 rfl rfl ?_
  refine r_imul K dX10_rootInParts_3 ?_
  refine r_istore K [(4, .int _), (0, .ref _), (1, .int _), (2, .int _), (3, .int _)] dX10_rootInParts_4 (by decide) rfl ?_
  refine r_sipush (v := 1024) K dX10_rootInParts_6 (by decide) ?_
  refine r_istore K [(5, .int _), (4, .int _), (0, .ref _), (1, .int _), (2, .int _), (3, .int _)] dX10_rootInParts_9 (by decide) rfl ?_
  exact r_sub [2, 3, 4, 5, 1, 0] rfl (l_X10_rootInParts_11 K hl H D)
theorem c_X10_rootInParts (l : Launch) {n : Nat} {Y : jY} {v0 : Nat} {v1 : Int32} {v2 : Int32} {v3 : Int32} {μ : jM} {z : Int32 × jM} (H : f_X10_rootInParts Y v0 v1 v2 v3 μ = some z) : jC l yX10_rootInParts cX10_rootInParts 6 (some .int) 3 0 0 [.ref v0, .int v1, .int v2, .int v3] n Y μ n Y (some (.int z.1)) z.2 := by
  refine jC_of (by decide +kernel) (Nat.le_of_ble_eq_true rfl) (fun X hl K _ _ _ => ?_)
  obtain ⟨rr, μr⟩ := z
  exact t_X10_rootInParts_0 K hl H rfl
/-! RX10 leastStep(I)I -/
def b_X10_leastStep_5 (Y : jY) (v0 : Nat) (v1 : Int32) (v2 : Int32) (v3 : Int32) (μ : jM) : Option ((Int32 × Int32 × jM) ⊕ (Int32 × jM)) :=
  (jgI Y μ v0 10 0).bind fun x1 =>
  if x1 ≤ ((v3 + ((1 : Int32)))) then
    some (.inr (v2, μ))
  else
    (jgI Y μ v0 10 0).bind fun x2 =>
    (jrcv Y v0 10 (f_X10_rootInParts Y v0 x2 ((v3 + ((1 : Int32)))) v1 μ)).bind fun r3 =>
    (jgI Y r3.2 v0 10 0).bind fun x4 =>
    (jrcv Y v0 10 (f_X10_rootInParts Y v0 x4 v3 v1 r3.2)).bind fun r5 =>
    some (.inl ((jminI v2 ((r3.1 - r5.1))), (v3 + (1 : Int32)), r5.2))
def f_X10_leastStep (Y : jY) (v0 : Nat) (v1 : Int32) (μ : jM) : Option (Int32 × jM) :=
  jit jF (fun (s : Int32 × Int32 × jM) => b_X10_leastStep_5 Y v0 v1 s.1 s.2.1 s.2.2) ((2147483647 : Int32), (0 : Int32), μ)
set_option maxRecDepth 10000 in
theorem t_X10_leastStep_5 {X : jX} {l : Launch} {n : Nat} {Y : jY} (K : jOK X RX10 cX10_leastStep 4 (some .int) 4) (hl : X.2.1 = l) {rr : Int32} {μr : jM} {v0 : Nat} {v1 : Int32} {v2 : Int32} {v3 : Int32} {μ : jM} {z : ((Int32 × Int32 × jM) ⊕ (Int32 × jM))} (H : b_X10_leastStep_5 Y v0 v1 v2 v3 μ = some z) (D : Sum.elim (fun (s : Int32 × Int32 × jM) => JW X (jEnd X n Y (some (.int rr)) μr 0 0) 0 0 n Y 5 [(0, .ref v0), (1, .int v1), (2, .int s.1), (3, .int s.2.1)] [] s.2.2) (fun r => r = (rr, μr)) z) : JW X (jEnd X n Y (some (.int rr)) μr 0 0) 0 0 n Y 5 [(0, .ref v0), (1, .int v1), (2, .int v2), (3, .int v3)] [] μ := by
  unfold b_X10_leastStep_5 at H
  refine r_iload_n K 3 dX10_leastStep_5 rfl rfl ?_
  refine r_iconst (v := 1) K dX10_leastStep_6 (by decide) ?_
  refine r_iadd K dX10_leastStep_7 ?_
  refine r_aload_n K 0 dX10_leastStep_8 rfl rfl ?_
  refine w_getI K vc10 inX10 0 (by decide) mF_RX10_9 dX10_leastStep_9 H (fun x1 H => ?_)
  refine w_icmp_ge K 49 dX10_leastStep_12 (by decide) H (fun _ H => ?_) (fun _ H => ?_)
  · refine r_iload_n K 2 dX10_leastStep_49 rfl rfl ?_
    cases H
    simp only [Sum.elim_inr] at D
    obtain ⟨rfl, rfl⟩ := jfin2 D
    exact r_iret K dX10_leastStep_50
  · refine r_iload_n K 2 dX10_leastStep_15 rfl rfl ?_
    refine r_aload_n K 0 dX10_leastStep_16 rfl rfl ?_
    refine r_aload_n K 0 dX10_leastStep_17 rfl rfl ?_
    refine w_getI K vc10 inX10 0 (by decide) mF_RX10_9 dX10_leastStep_18 H (fun x2 H => ?_)
    refine r_iload_n K 3 dX10_leastStep_21 rfl rfl ?_
    refine r_iconst (v := 1) K dX10_leastStep_22 (by decide) ?_
    refine r_iadd K dX10_leastStep_23 ?_
    refine r_iload_n K 1 dX10_leastStep_24 rfl rfl ?_
    refine w_callV K hl H (fun r h => c_X10_rootInParts l h) mC_yX10_rootInParts mM_RX10_78 mI_yX10_rootInParts mS_yX10_rootInParts mZ_RX10 vc10 (Nat.le_of_ble_eq_true rfl) (Nat.le_of_ble_eq_true rfl) np_yX10_rootInParts rfl (Nat.le_of_ble_eq_true rfl) dX10_leastStep_25 (fun r3 H => ?_) ⟨Nat.zero_le _, Nat.zero_le _⟩
    refine r_aload_n K 0 dX10_leastStep_28 rfl rfl ?_
    refine r_aload_n K 0 dX10_leastStep_29 rfl rfl ?_
    refine w_getI K vc10 inX10 0 (by decide) mF_RX10_9 dX10_leastStep_30 H (fun x4 H => ?_)
    refine r_iload_n K 3 dX10_leastStep_33 rfl rfl ?_
    refine r_iload_n K 1 dX10_leastStep_34 rfl rfl ?_
    refine w_callV K hl H (fun r h => c_X10_rootInParts l h) mC_yX10_rootInParts mM_RX10_78 mI_yX10_rootInParts mS_yX10_rootInParts mZ_RX10 vc10 (Nat.le_of_ble_eq_true rfl) (Nat.le_of_ble_eq_true rfl) np_yX10_rootInParts rfl (Nat.le_of_ble_eq_true rfl) dX10_leastStep_35 (fun r5 H => ?_) ⟨Nat.zero_le _, Nat.zero_le _⟩
    refine r_isub K dX10_leastStep_38 ?_
    refine r_mmin K mM_RX10_53 mT_minI mZ_Math mC_minI (Nat.le_of_ble_eq_true rfl) (Nat.le_of_ble_eq_true rfl) ⟨Nat.zero_le _, Nat.zero_le _⟩ dX10_leastStep_39 ?_
    refine r_istore_n K [(2, .int _), (0, .ref _), (1, .int _), (3, .int _)] dX10_leastStep_42 rfl (by decide) rfl ?_
    refine r_iinc K 3 [(3, .int _), (2, .int _), (0, .ref _), (1, .int _)] (v := _ + (1 : Int32)) dX10_leastStep_43 rfl rfl (by decide) rfl ?_
    refine r_goto K 5 dX10_leastStep_46 (by decide) ?_
    cases H
    exact r_sub [2, 3, 1, 0] rfl D
set_option maxRecDepth 10000 in
theorem l_X10_leastStep_5 {X : jX} {l : Launch} {n : Nat} {Y : jY} (K : jOK X RX10 cX10_leastStep 4 (some .int) 4) (hl : X.2.1 = l) {rr : Int32} {μr : jM} {v0 : Nat} {v1 : Int32}  {s0 : Int32 × Int32 × jM} {z : (Int32 × jM)} (H : jit jF (fun (s : Int32 × Int32 × jM) => b_X10_leastStep_5 Y v0 v1 s.1 s.2.1 s.2.2) s0 = some z) (D : z = (rr, μr)) : JW X (jEnd X n Y (some (.int rr)) μr 0 0) 0 0 n Y 5 [(0, .ref v0), (1, .int v1), (2, .int s0.1), (3, .int s0.2.1)] [] s0.2.2 :=
  jit_ind (P := fun (s : Int32 × Int32 × jM) => JW X (jEnd X n Y (some (.int rr)) μr 0 0) 0 0 n Y 5 [(0, .ref v0), (1, .int v1), (2, .int s.1), (3, .int s.2.1)] [] s.2.2) (D := fun r => r = (rr, μr)) (fun s z Hs Ds => t_X10_leastStep_5 K hl Hs Ds) jF s0 z H D
set_option maxRecDepth 10000 in
theorem t_X10_leastStep_0 {X : jX} {l : Launch} {n : Nat} {Y : jY} (K : jOK X RX10 cX10_leastStep 4 (some .int) 4) (hl : X.2.1 = l) {rr : Int32} {μr : jM} {v0 : Nat} {v1 : Int32} {μ : jM} {z : (Int32 × jM)} (H : f_X10_leastStep Y v0 v1 μ = some z) (D : z = (rr, μr)) : JW X (jEnd X n Y (some (.int rr)) μr 0 0) 0 0 n Y 0 [(0, .ref v0), (1, .int v1)] [] μ := by
  unfold f_X10_leastStep at H
  refine r_ldc K (2147483647) mc_RX10_87 dX10_leastStep_0 ?_
  refine r_istore_n K [(2, .int _), (0, .ref _), (1, .int _)] dX10_leastStep_2 rfl (by decide) rfl ?_
  refine r_iconst (v := 0) K dX10_leastStep_3 (by decide) ?_
  refine r_istore_n K [(3, .int _), (2, .int _), (0, .ref _), (1, .int _)] dX10_leastStep_4 rfl (by decide) rfl ?_
  exact r_sub [2, 3, 1, 0] rfl (l_X10_leastStep_5 K hl H D)
theorem c_X10_leastStep (l : Launch) {n : Nat} {Y : jY} {v0 : Nat} {v1 : Int32} {μ : jM} {z : Int32 × jM} (H : f_X10_leastStep Y v0 v1 μ = some z) : jC l yX10_leastStep cX10_leastStep 4 (some .int) 4 0 0 [.ref v0, .int v1] n Y μ n Y (some (.int z.1)) z.2 := by
  refine jC_of (by decide +kernel) (Nat.le_of_ble_eq_true rfl) (fun X hl K _ _ _ => ?_)
  obtain ⟨rr, μr⟩ := z
  exact t_X10_leastStep_0 K hl H rfl
/-! RX10 invert(IILChainTables$Fraction;)Z -/
def b_X10_invert_109 (Y : jY) (v0 : Nat) (v3 : Nat) (v5 : Int32) (v10 : Int32) (μ : jM) : Option ((Int32 × jM) ⊕ (Int32 × jM)) :=
  if v5 ≤ v10 then
    (jbool ((1 : Int32))).bind fun x1 =>
    some (.inr (x1, μ))
  else
    (jgO Y μ v0 10 2).bind fun x2 =>
    (jaI Y μ x2 20 v10).bind fun x3 =>
    (jrcv Y v3 1 (f_X1_multiply_ Y v3 ((x3.toInt64)) ((1 : Int64)) μ)).bind fun μ4 =>
    some (.inl ((v10 + (1 : Int32)), μ4))
def f_X10_invert (Y : jY) (v0 : Nat) (v1 : Int32) (v2 : Int32) (v3 : Nat) (μ : jM) : Option (Int32 × jM) :=
  (jgI Y μ v0 10 0).bind fun x1 =>
  (jrcv Y v0 10 (f_X10_valueAt Y v0 ((0 : Int32)) x1 ((0 : Int32)) ((1 : Int32)) μ)).bind fun r2 =>
  if ((lg_cmp r2.1 ((0 : Int64)))) = 0 then
    (jbool ((0 : Int32))).bind fun x12 =>
    some (x12, r2.2)
  else
    (jrcv Y v0 10 (f_X10_valueAt Y v0 ((0 : Int32)) ((jminI v1 v2)) ((0 : Int32)) ((1 : Int32)) r2.2)).bind fun r3 =>
    (jgI Y r3.2 v0 10 0).bind fun x4 =>
    (jrcv Y v0 10 (f_X10_valueAt Y v0 ((((jmaxI v1 v2)) + ((1 : Int32)))) ((((x4 - ((jmaxI v1 v2)))) - ((1 : Int32)))) ((0 : Int32)) ((1 : Int32)) r3.2)).bind fun r5 =>
    if ((jminI v1 v2)) = ((jmaxI v1 v2)) then
      (jrcv Y v3 1 (f_X1_set Y v3 ((-((r3.1 * r5.1)))) r2.1 r5.2)).bind fun μ10 =>
      (jbool ((1 : Int32))).bind fun x11 =>
      some (x11, μ10)
    else
      (jrcv Y v3 1 (f_X1_set Y v3 ((r3.1 * r5.1)) r2.1 r5.2)).bind fun μ6 =>
      (jgL Y μ6 v3 1 0).bind fun x7 =>
      (jgL Y μ6 v3 1 1).bind fun x8 =>
      (jrcv Y v3 1 (f_X1_multiply_ Y v3 x7 x8 μ6)).bind fun μ9 =>
      jit jF (fun (s : Int32 × jM) => b_X10_invert_109 Y v0 v3 (jmaxI v1 v2) s.1 s.2) ((jminI v1 v2), μ9)
set_option maxRecDepth 10000 in
theorem t_X10_invert_109 {X : jX} {l : Launch} {n : Nat} {Y : jY} (K : jOK X RX10 cX10_invert 11 (some .boolean) 4) (hl : X.2.1 = l) {rr : Int32} {μr : jM} {v0 : Nat} {v3 : Nat} {v5 : Int32} {v10 : Int32} {μ : jM} {z : ((Int32 × jM) ⊕ (Int32 × jM))} (H : b_X10_invert_109 Y v0 v3 v5 v10 μ = some z) (D : Sum.elim (fun (s : Int32 × jM) => JW X (jEnd X n Y (some (.int rr)) μr 0 0) 0 0 n Y 109 [(0, .ref v0), (3, .ref v3), (5, .int v5), (10, .int s.1)] [] s.2) (fun r => r = (rr, μr)) z) : JW X (jEnd X n Y (some (.int rr)) μr 0 0) 0 0 n Y 109 [(0, .ref v0), (3, .ref v3), (5, .int v5), (10, .int v10)] [] μ := by
  unfold b_X10_invert_109 at H
  refine r_iload K 3 dX10_invert_109 rfl ?_
  refine r_iload K 2 dX10_invert_111 rfl ?_
  refine w_icmp_ge K 135 dX10_invert_113 (by decide) H (fun _ H => ?_) (fun _ H => ?_)
  · refine r_iconst (v := 1) K dX10_invert_135 (by decide) ?_
    refine w_zret K dX10_invert_136 H (fun hz H => ?_)
    cases H
    simp only [Sum.elim_inr] at D
    obtain ⟨rfl, rfl⟩ := jfin2 D
    exact r_zret K hz dX10_invert_136
  · refine r_aload_n K 1 dX10_invert_116 rfl rfl ?_
    refine r_aload_n K 0 dX10_invert_117 rfl rfl ?_
    refine w_getO K vc10 inX10 2 (by decide) mF_RX10_19 dX10_invert_118 H (fun x2 H => ?_)
    refine r_iload K 3 dX10_invert_121 rfl ?_
    refine w_iald K dX10_invert_123 H (fun x3 H => ?_)
    refine r_i2l K dX10_invert_124 ?_
    refine r_lconst (v := 1) K dX10_invert_125 (by decide) ?_
    refine w_callV K hl H (fun r h => c_X1_multiply_ l h) mC_yX1_multiply_ mM_RX10_75 mI_yX1_multiply_ mS_yX1_multiply_ mZ_RX1 vc1 (Nat.le_of_ble_eq_true rfl) (Nat.le_of_ble_eq_true rfl) np_yX1_multiply_ rfl (Nat.le_of_ble_eq_true rfl) dX10_invert_126 (fun μ4 H => ?_) ⟨Nat.zero_le _, Nat.zero_le _⟩
    refine r_iinc K 3 [(10, .int _), (0, .ref _), (3, .ref _), (5, .int _)] (v := _ + (1 : Int32)) dX10_invert_129 rfl rfl (by decide) rfl ?_
    refine r_goto K 109 dX10_invert_132 (by decide) ?_
    cases H
    exact r_sub [1, 2, 3, 0] rfl D
set_option maxRecDepth 10000 in
theorem l_X10_invert_109 {X : jX} {l : Launch} {n : Nat} {Y : jY} (K : jOK X RX10 cX10_invert 11 (some .boolean) 4) (hl : X.2.1 = l) {rr : Int32} {μr : jM} {v0 : Nat} {v3 : Nat} {v5 : Int32}  {s0 : Int32 × jM} {z : (Int32 × jM)} (H : jit jF (fun (s : Int32 × jM) => b_X10_invert_109 Y v0 v3 v5 s.1 s.2) s0 = some z) (D : z = (rr, μr)) : JW X (jEnd X n Y (some (.int rr)) μr 0 0) 0 0 n Y 109 [(0, .ref v0), (3, .ref v3), (5, .int v5), (10, .int s0.1)] [] s0.2 :=
  jit_ind (P := fun (s : Int32 × jM) => JW X (jEnd X n Y (some (.int rr)) μr 0 0) 0 0 n Y 109 [(0, .ref v0), (3, .ref v3), (5, .int v5), (10, .int s.1)] [] s.2) (D := fun r => r = (rr, μr)) (fun s z Hs Ds => t_X10_invert_109 K hl Hs Ds) jF s0 z H D
set_option maxRecDepth 10000 in
theorem t_X10_invert_0 {X : jX} {l : Launch} {n : Nat} {Y : jY} (K : jOK X RX10 cX10_invert 11 (some .boolean) 4) (hl : X.2.1 = l) {rr : Int32} {μr : jM} {v0 : Nat} {v1 : Int32} {v2 : Int32} {v3 : Nat} {μ : jM} {z : (Int32 × jM)} (H : f_X10_invert Y v0 v1 v2 v3 μ = some z) (D : z = (rr, μr)) : JW X (jEnd X n Y (some (.int rr)) μr 0 0) 0 0 n Y 0 [(0, .ref v0), (1, .int v1), (2, .int v2), (3, .ref v3)] [] μ := by
  unfold f_X10_invert at H
  refine r_iload_n K 1 dX10_invert_0 rfl rfl ?_
  refine r_iload_n K 2 dX10_invert_1 rfl rfl ?_
  refine r_mmin K mM_RX10_53 mT_minI mZ_Math mC_minI (Nat.le_of_ble_eq_true rfl) (Nat.le_of_ble_eq_true rfl) ⟨Nat.zero_le _, Nat.zero_le _⟩ dX10_invert_2 ?_
  refine r_istore K [(4, .int _), (0, .ref _), (1, .int _), (2, .int _), (3, .ref _)] dX10_invert_5 (by decide) rfl ?_
  refine r_iload_n K 2 dX10_invert_7 rfl rfl ?_
  refine r_iload_n K 3 dX10_invert_8 rfl rfl ?_
  refine r_mmax K mM_RX10_59 mT_maxI mZ_Math mC_maxI (Nat.le_of_ble_eq_true rfl) (Nat.le_of_ble_eq_true rfl) ⟨Nat.zero_le _, Nat.zero_le _⟩ dX10_invert_9 ?_
  refine r_istore K [(5, .int _), (4, .int _), (0, .ref _), (1, .int _), (2, .int _), (3, .ref _)] dX10_invert_12 (by decide) rfl ?_
  refine r_aload_n K 2 dX10_invert_14 rfl rfl ?_
  refine r_iconst (v := 0) K dX10_invert_15 (by decide) ?_
  refine r_aload_n K 2 dX10_invert_16 rfl rfl ?_
  refine w_getI K vc10 inX10 0 (by decide) mF_RX10_9 dX10_invert_17 H (fun x1 H => ?_)
  refine r_iconst (v := 0) K dX10_invert_20 (by decide) ?_
  refine r_iconst (v := 1) K dX10_invert_21 (by decide) ?_
  refine w_callV K hl H (fun r h => c_X10_valueAt l h) mC_yX10_valueAt mM_RX10_45 mI_yX10_valueAt mS_yX10_valueAt mZ_RX10 vc10 (Nat.le_of_ble_eq_true rfl) (Nat.le_of_ble_eq_true rfl) np_yX10_valueAt rfl (Nat.le_of_ble_eq_true rfl) dX10_invert_22 (fun r2 H => ?_) ⟨Nat.zero_le _, Nat.zero_le _⟩
  refine r_lstore K [(6, .long _), (5, .int _), (4, .int _), (0, .ref _), (1, .int _), (2, .int _), (3, .ref _)] dX10_invert_25 (by decide) rfl ?_
  refine r_lload K 0 dX10_invert_27 rfl ?_
  refine r_lconst (v := 0) K dX10_invert_29 (by decide) ?_
  refine r_lcmp K dX10_invert_30 ?_
  refine w_if_ne K 36 dX10_invert_31 (by decide) H (fun _ H => ?_) (fun _ H => ?_)
  · refine r_aload_n K 3 dX10_invert_36 rfl rfl ?_
    refine r_iconst (v := 0) K dX10_invert_37 (by decide) ?_
    refine r_iload K 2 dX10_invert_38 rfl ?_
    refine r_iconst (v := 0) K dX10_invert_40 (by decide) ?_
    refine r_iconst (v := 1) K dX10_invert_41 (by decide) ?_
    refine w_callV K hl H (fun r h => c_X10_valueAt l h) mC_yX10_valueAt mM_RX10_45 mI_yX10_valueAt mS_yX10_valueAt mZ_RX10 vc10 (Nat.le_of_ble_eq_true rfl) (Nat.le_of_ble_eq_true rfl) np_yX10_valueAt rfl (Nat.le_of_ble_eq_true rfl) dX10_invert_42 (fun r3 H => ?_) ⟨Nat.zero_le _, Nat.zero_le _⟩
    refine r_aload_n K 3 dX10_invert_45 rfl rfl ?_
    refine r_iload K 1 dX10_invert_46 rfl ?_
    refine r_iconst (v := 1) K dX10_invert_48 (by decide) ?_
    refine r_iadd K dX10_invert_49 ?_
    refine r_aload_n K 3 dX10_invert_50 rfl rfl ?_
    refine w_getI K vc10 inX10 0 (by decide) mF_RX10_9 dX10_invert_51 H (fun x4 H => ?_)
    refine r_iload K 1 dX10_invert_54 rfl ?_
    refine r_isub K dX10_invert_56 ?_
    refine r_iconst (v := 1) K dX10_invert_57 (by decide) ?_
    refine r_isub K dX10_invert_58 ?_
    refine r_iconst (v := 0) K dX10_invert_59 (by decide) ?_
    refine r_iconst (v := 1) K dX10_invert_60 (by decide) ?_
    refine w_callV K hl H (fun r h => c_X10_valueAt l h) mC_yX10_valueAt mM_RX10_45 mI_yX10_valueAt mS_yX10_valueAt mZ_RX10 vc10 (Nat.le_of_ble_eq_true rfl) (Nat.le_of_ble_eq_true rfl) np_yX10_valueAt rfl (Nat.le_of_ble_eq_true rfl) dX10_invert_61 (fun r5 H => ?_) ⟨Nat.zero_le _, Nat.zero_le _⟩
    refine r_lmul K dX10_invert_64 ?_
    refine r_lstore K [(8, .long _), (6, .long _), (5, .int _), (4, .int _), (0, .ref _), (1, .int _), (2, .int _), (3, .ref _)] dX10_invert_65 (by decide) rfl ?_
    refine r_iload K 3 dX10_invert_67 rfl ?_
    refine r_iload K 2 dX10_invert_69 rfl ?_
    refine w_icmp_ne K 85 dX10_invert_71 (by decide) H (fun _ H => ?_) (fun _ H => ?_)
    · refine r_aload_n K 7 dX10_invert_85 rfl rfl ?_
      refine r_lload K 0 dX10_invert_86 rfl ?_
      refine r_lload K 1 dX10_invert_88 rfl ?_
      refine w_callV K hl H (fun r h => c_X1_set l h) mC_yX1_set mM_RX10_62 mI_yX1_set mS_yX1_set mZ_RX1 vc1 (Nat.le_of_ble_eq_true rfl) (Nat.le_of_ble_eq_true rfl) np_yX1_set rfl (Nat.le_of_ble_eq_true rfl) dX10_invert_90 (fun μ6 H => ?_) ⟨Nat.zero_le _, Nat.zero_le _⟩
      refine r_aload_n K 7 dX10_invert_93 rfl rfl ?_
      refine r_aload_n K 7 dX10_invert_94 rfl rfl ?_
      refine w_getL K vc1 inX1 0 (by decide) mF_RX10_68 dX10_invert_95 H (fun x7 H => ?_)
      refine r_aload_n K 7 dX10_invert_98 rfl rfl ?_
      refine w_getL K vc1 inX1 1 (by decide) mF_RX10_72 dX10_invert_99 H (fun x8 H => ?_)
      refine w_callV K hl H (fun r h => c_X1_multiply_ l h) mC_yX1_multiply_ mM_RX10_75 mI_yX1_multiply_ mS_yX1_multiply_ mZ_RX1 vc1 (Nat.le_of_ble_eq_true rfl) (Nat.le_of_ble_eq_true rfl) np_yX1_multiply_ rfl (Nat.le_of_ble_eq_true rfl) dX10_invert_102 (fun μ9 H => ?_) ⟨Nat.zero_le _, Nat.zero_le _⟩
      refine r_iload K 3 dX10_invert_105 rfl ?_
      refine r_istore K [(10, .int _), (8, .long _), (6, .long _), (5, .int _), (4, .int _), (0, .ref _), (1, .int _), (2, .int _), (3, .ref _)] dX10_invert_107 (by decide) rfl ?_
      exact r_sub [5, 8, 3, 0] rfl (l_X10_invert_109 K hl H D)
    · refine r_aload_n K 7 dX10_invert_74 rfl rfl ?_
      refine r_lload K 0 dX10_invert_75 rfl ?_
      refine r_lneg K dX10_invert_77 ?_
      refine r_lload K 1 dX10_invert_78 rfl ?_
      refine w_callV K hl H (fun r h => c_X1_set l h) mC_yX1_set mM_RX10_62 mI_yX1_set mS_yX1_set mZ_RX1 vc1 (Nat.le_of_ble_eq_true rfl) (Nat.le_of_ble_eq_true rfl) np_yX1_set rfl (Nat.le_of_ble_eq_true rfl) dX10_invert_80 (fun μ10 H => ?_) ⟨Nat.zero_le _, Nat.zero_le _⟩
      refine r_iconst (v := 1) K dX10_invert_83 (by decide) ?_
      refine w_zret K dX10_invert_84 H (fun hz H => ?_)
      cases H
      obtain ⟨rfl, rfl⟩ := jfin2 D
      exact r_zret K hz dX10_invert_84
  · refine r_iconst (v := 0) K dX10_invert_34 (by decide) ?_
    refine w_zret K dX10_invert_35 H (fun hz H => ?_)
    cases H
    obtain ⟨rfl, rfl⟩ := jfin2 D
    exact r_zret K hz dX10_invert_35
theorem c_X10_invert (l : Launch) {n : Nat} {Y : jY} {v0 : Nat} {v1 : Int32} {v2 : Int32} {v3 : Nat} {μ : jM} {z : Int32 × jM} (H : f_X10_invert Y v0 v1 v2 v3 μ = some z) : jC l yX10_invert cX10_invert 11 (some .boolean) 4 0 0 [.ref v0, .int v1, .int v2, .ref v3] n Y μ n Y (some (.int z.1)) z.2 := by
  refine jC_of (by decide +kernel) (Nat.le_of_ble_eq_true rfl) (fun X hl K _ _ _ => ?_)
  obtain ⟨rr, μr⟩ := z
  exact t_X10_invert_0 K hl H rfl
/-! RX10 canBe(ZI)Z -/
def b_X10_canBe_22 (Y : jY) (t0 : Int32) (μ : jM) : Option (Int32 × jM) :=
  (jbool t0).bind fun x1 =>
  some (x1, μ)
def f_X10_canBe (Y : jY) (v0 : Int32) (v1 : Int32) (μ : jM) : Option (Int32 × jM) :=
  if v0 = 0 then
    (f_X11_within Y v1 ((1 : Int32)) ((36 : Int32)) μ).bind fun r1 =>
    b_X10_canBe_22 Y r1.1 r1.2
  else
    (f_X11_within Y v1 ((-6 : Int32)) ((6 : Int32)) μ).bind fun r2 =>
    b_X10_canBe_22 Y r2.1 r2.2
set_option maxRecDepth 10000 in
theorem t_X10_canBe_22 {X : jX} {l : Launch} {n : Nat} {Y : jY} (K : jOK X RX10 cX10_canBe 2 (some .boolean) 2) (hl : X.2.1 = l) {rr : Int32} {μr : jM} {t0 : Int32} {μ : jM} {z : (Int32 × jM)} (H : b_X10_canBe_22 Y t0 μ = some z) (D : z = (rr, μr)) : JW X (jEnd X n Y (some (.int rr)) μr 0 0) 0 0 n Y 22 [] [.int t0] μ := by
  unfold b_X10_canBe_22 at H
  refine w_zret K dX10_canBe_22 H (fun hz H => ?_)
  cases H
  obtain ⟨rfl, rfl⟩ := jfin2 D
  exact r_zret K hz dX10_canBe_22
set_option maxRecDepth 10000 in
theorem t_X10_canBe_0 {X : jX} {l : Launch} {n : Nat} {Y : jY} (K : jOK X RX10 cX10_canBe 2 (some .boolean) 2) (hl : X.2.1 = l) {rr : Int32} {μr : jM} {v0 : Int32} {v1 : Int32} {μ : jM} {z : (Int32 × jM)} (H : f_X10_canBe Y v0 v1 μ = some z) (D : z = (rr, μr)) : JW X (jEnd X n Y (some (.int rr)) μr 0 0) 0 0 n Y 0 [(0, .int v0), (1, .int v1)] [] μ := by
  unfold f_X10_canBe at H
  refine r_iload_n K 0 dX10_canBe_0 rfl rfl ?_
  refine w_if_eq K 15 dX10_canBe_1 (by decide) H (fun _ H => ?_) (fun _ H => ?_)
  · refine r_iload_n K 1 dX10_canBe_15 rfl rfl ?_
    refine r_iconst (v := 1) K dX10_canBe_16 (by decide) ?_
    refine r_bipush (v := 36) K dX10_canBe_17 (by decide) ?_
    refine w_callSN K hl H (fun r h => c_X11_within l h) mC_yX11_within mQ_RX10_33 mT_yX11_within mZ_RX11 (Nat.le_of_ble_eq_true rfl) (Nat.le_of_ble_eq_true rfl) np_yX11_within rfl (Nat.le_of_ble_eq_true rfl) dX10_canBe_19 (fun r1 H => ?_) ⟨Nat.zero_le _, Nat.zero_le _⟩
    exact r_sub [] rfl (t_X10_canBe_22 K hl H D)
  · refine r_iload_n K 1 dX10_canBe_4 rfl rfl ?_
    refine r_bipush (v := -6) K dX10_canBe_5 (by decide) ?_
    refine r_bipush (v := 6) K dX10_canBe_7 (by decide) ?_
    refine w_callSN K hl H (fun r h => c_X11_within l h) mC_yX11_within mQ_RX10_33 mT_yX11_within mZ_RX11 (Nat.le_of_ble_eq_true rfl) (Nat.le_of_ble_eq_true rfl) np_yX11_within rfl (Nat.le_of_ble_eq_true rfl) dX10_canBe_9 (fun r2 H => ?_) ⟨Nat.zero_le _, Nat.zero_le _⟩
    refine r_goto K 22 dX10_canBe_12 (by decide) ?_
    exact r_sub [] rfl (t_X10_canBe_22 K hl H D)
theorem c_X10_canBe (l : Launch) {n : Nat} {Y : jY} {v0 : Int32} {v1 : Int32} {μ : jM} {z : Int32 × jM} (H : f_X10_canBe Y v0 v1 μ = some z) : jC l yX10_canBe cX10_canBe 2 (some .boolean) 2 0 0 [.int v0, .int v1] n Y μ n Y (some (.int z.1)) z.2 := by
  refine jC_of (by decide +kernel) (Nat.le_of_ble_eq_true rfl) (fun X hl K _ _ _ => ?_)
  obtain ⟨rr, μr⟩ := z
  exact t_X10_canBe_0 K hl H rfl
/-! RX10 rootsEnclose(LChainTables$WholeTable;I)Z -/
def b_X10_rootsEnclose_54 (Y : jY) (μ : jM) : Option (Int32 × jM) :=
  (jbool ((0 : Int32))).bind fun x1 =>
  some (x1, μ)
def b_X10_rootsEnclose_2 (Y : jY) (v0 : Nat) (v1 : Nat) (v2 : Int32) (v3 : Int32) (μ : jM) : Option ((Int32 × jM) ⊕ (Int32 × jM)) :=
  (jgI Y μ v1 10 0).bind fun x1 =>
  if x1 ≤ v3 then
    (jbool ((1 : Int32))).bind fun x2 =>
    some (.inr (x2, μ))
  else
    (jgI Y μ v1 10 0).bind fun x3 =>
    (jrcv Y v1 10 (f_X10_rootInParts Y v1 x3 v3 v2 μ)).bind fun r4 =>
    (jgI Y r4.2 v0 10 0).bind fun x5 =>
    (jrcv Y v0 10 (f_X10_rootInParts Y v0 x5 v3 v2 r4.2)).bind fun r6 =>
    if r4.1 < r6.1 then
      (b_X10_rootsEnclose_54 Y r6.2).map (fun r => (.inr r))
    else
      (jgI Y r6.2 v0 10 0).bind fun x7 =>
      (jrcv Y v0 10 (f_X10_rootInParts Y v0 x7 ((v3 + ((1 : Int32)))) v2 r6.2)).bind fun r8 =>
      if r4.1 ≤ r8.1 then
        some (.inl ((v3 + (1 : Int32)), r8.2))
      else
        (b_X10_rootsEnclose_54 Y r8.2).map (fun r => (.inr r))
def f_X10_rootsEnclose (Y : jY) (v0 : Nat) (v1 : Nat) (v2 : Int32) (μ : jM) : Option (Int32 × jM) :=
  jit jF (fun (s : Int32 × jM) => b_X10_rootsEnclose_2 Y v0 v1 v2 s.1 s.2) ((0 : Int32), μ)
set_option maxRecDepth 10000 in
theorem t_X10_rootsEnclose_54 {X : jX} {l : Launch} {n : Nat} {Y : jY} (K : jOK X RX10 cX10_rootsEnclose 5 (some .boolean) 4) (hl : X.2.1 = l) {rr : Int32} {μr : jM} {μ : jM} {z : (Int32 × jM)} (H : b_X10_rootsEnclose_54 Y μ = some z) (D : z = (rr, μr)) : JW X (jEnd X n Y (some (.int rr)) μr 0 0) 0 0 n Y 54 [] [] μ := by
  unfold b_X10_rootsEnclose_54 at H
  refine r_iconst (v := 0) K dX10_rootsEnclose_54 (by decide) ?_
  refine w_zret K dX10_rootsEnclose_55 H (fun hz H => ?_)
  cases H
  obtain ⟨rfl, rfl⟩ := jfin2 D
  exact r_zret K hz dX10_rootsEnclose_55
set_option maxRecDepth 10000 in
theorem t_X10_rootsEnclose_2 {X : jX} {l : Launch} {n : Nat} {Y : jY} (K : jOK X RX10 cX10_rootsEnclose 5 (some .boolean) 4) (hl : X.2.1 = l) {rr : Int32} {μr : jM} {v0 : Nat} {v1 : Nat} {v2 : Int32} {v3 : Int32} {μ : jM} {z : ((Int32 × jM) ⊕ (Int32 × jM))} (H : b_X10_rootsEnclose_2 Y v0 v1 v2 v3 μ = some z) (D : Sum.elim (fun (s : Int32 × jM) => JW X (jEnd X n Y (some (.int rr)) μr 0 0) 0 0 n Y 2 [(0, .ref v0), (1, .ref v1), (2, .int v2), (3, .int s.1)] [] s.2) (fun r => r = (rr, μr)) z) : JW X (jEnd X n Y (some (.int rr)) μr 0 0) 0 0 n Y 2 [(0, .ref v0), (1, .ref v1), (2, .int v2), (3, .int v3)] [] μ := by
  unfold b_X10_rootsEnclose_2 at H
  refine r_iload_n K 3 dX10_rootsEnclose_2 rfl rfl ?_
  refine r_aload_n K 1 dX10_rootsEnclose_3 rfl rfl ?_
  refine w_getI K vc10 inX10 0 (by decide) mF_RX10_9 dX10_rootsEnclose_4 H (fun x1 H => ?_)
  refine w_icmp_ge K 62 dX10_rootsEnclose_7 (by decide) H (fun _ H => ?_) (fun _ H => ?_)
  · refine r_iconst (v := 1) K dX10_rootsEnclose_62 (by decide) ?_
    refine w_zret K dX10_rootsEnclose_63 H (fun hz H => ?_)
    cases H
    simp only [Sum.elim_inr] at D
    obtain ⟨rfl, rfl⟩ := jfin2 D
    exact r_zret K hz dX10_rootsEnclose_63
  · refine r_aload_n K 1 dX10_rootsEnclose_10 rfl rfl ?_
    refine r_aload_n K 1 dX10_rootsEnclose_11 rfl rfl ?_
    refine w_getI K vc10 inX10 0 (by decide) mF_RX10_9 dX10_rootsEnclose_12 H (fun x3 H => ?_)
    refine r_iload_n K 3 dX10_rootsEnclose_15 rfl rfl ?_
    refine r_iload_n K 2 dX10_rootsEnclose_16 rfl rfl ?_
    refine w_callV K hl H (fun r h => c_X10_rootInParts l h) mC_yX10_rootInParts mM_RX10_78 mI_yX10_rootInParts mS_yX10_rootInParts mZ_RX10 vc10 (Nat.le_of_ble_eq_true rfl) (Nat.le_of_ble_eq_true rfl) np_yX10_rootInParts rfl (Nat.le_of_ble_eq_true rfl) dX10_rootsEnclose_17 (fun r4 H => ?_) ⟨Nat.zero_le _, Nat.zero_le _⟩
    refine r_istore K [(4, .int _), (0, .ref _), (1, .ref _), (2, .int _), (3, .int _)] dX10_rootsEnclose_20 (by decide) rfl ?_
    refine r_iload K 0 dX10_rootsEnclose_22 rfl ?_
    refine r_aload_n K 1 dX10_rootsEnclose_24 rfl rfl ?_
    refine r_aload_n K 1 dX10_rootsEnclose_25 rfl rfl ?_
    refine w_getI K vc10 inX10 0 (by decide) mF_RX10_9 dX10_rootsEnclose_26 H (fun x5 H => ?_)
    refine r_iload_n K 4 dX10_rootsEnclose_29 rfl rfl ?_
    refine r_iload_n K 3 dX10_rootsEnclose_30 rfl rfl ?_
    refine w_callV K hl H (fun r h => c_X10_rootInParts l h) mC_yX10_rootInParts mM_RX10_78 mI_yX10_rootInParts mS_yX10_rootInParts mZ_RX10 vc10 (Nat.le_of_ble_eq_true rfl) (Nat.le_of_ble_eq_true rfl) np_yX10_rootInParts rfl (Nat.le_of_ble_eq_true rfl) dX10_rootsEnclose_31 (fun r6 H => ?_) ⟨Nat.zero_le _, Nat.zero_le _⟩
    refine w_icmp_lt K 54 dX10_rootsEnclose_34 (by decide) H (fun _ H => ?_) (fun _ H => ?_)
    · obtain ⟨z2, H2, rfl⟩ := jmap H
      exact r_sub [] rfl (t_X10_rootsEnclose_54 K hl H2 D)
    · refine r_iload K 0 dX10_rootsEnclose_37 rfl ?_
      refine r_aload_n K 1 dX10_rootsEnclose_39 rfl rfl ?_
      refine r_aload_n K 1 dX10_rootsEnclose_40 rfl rfl ?_
      refine w_getI K vc10 inX10 0 (by decide) mF_RX10_9 dX10_rootsEnclose_41 H (fun x7 H => ?_)
      refine r_iload_n K 4 dX10_rootsEnclose_44 rfl rfl ?_
      refine r_iconst (v := 1) K dX10_rootsEnclose_45 (by decide) ?_
      refine r_iadd K dX10_rootsEnclose_46 ?_
      refine r_iload_n K 3 dX10_rootsEnclose_47 rfl rfl ?_
      refine w_callV K hl H (fun r h => c_X10_rootInParts l h) mC_yX10_rootInParts mM_RX10_78 mI_yX10_rootInParts mS_yX10_rootInParts mZ_RX10 vc10 (Nat.le_of_ble_eq_true rfl) (Nat.le_of_ble_eq_true rfl) np_yX10_rootInParts rfl (Nat.le_of_ble_eq_true rfl) dX10_rootsEnclose_48 (fun r8 H => ?_) ⟨Nat.zero_le _, Nat.zero_le _⟩
      refine w_icmp_le K 56 dX10_rootsEnclose_51 (by decide) H (fun _ H => ?_) (fun _ H => ?_)
      · refine r_iinc K 4 [(3, .int _), (4, .int _), (0, .ref _), (1, .ref _), (2, .int _)] (v := _ + (1 : Int32)) dX10_rootsEnclose_56 rfl rfl (by decide) rfl ?_
        refine r_goto K 2 dX10_rootsEnclose_59 (by decide) ?_
        cases H
        exact r_sub [2, 3, 4, 0] rfl D
      · obtain ⟨z2, H2, rfl⟩ := jmap H
        exact r_sub [] rfl (t_X10_rootsEnclose_54 K hl H2 D)
set_option maxRecDepth 10000 in
theorem l_X10_rootsEnclose_2 {X : jX} {l : Launch} {n : Nat} {Y : jY} (K : jOK X RX10 cX10_rootsEnclose 5 (some .boolean) 4) (hl : X.2.1 = l) {rr : Int32} {μr : jM} {v0 : Nat} {v1 : Nat} {v2 : Int32}  {s0 : Int32 × jM} {z : (Int32 × jM)} (H : jit jF (fun (s : Int32 × jM) => b_X10_rootsEnclose_2 Y v0 v1 v2 s.1 s.2) s0 = some z) (D : z = (rr, μr)) : JW X (jEnd X n Y (some (.int rr)) μr 0 0) 0 0 n Y 2 [(0, .ref v0), (1, .ref v1), (2, .int v2), (3, .int s0.1)] [] s0.2 :=
  jit_ind (P := fun (s : Int32 × jM) => JW X (jEnd X n Y (some (.int rr)) μr 0 0) 0 0 n Y 2 [(0, .ref v0), (1, .ref v1), (2, .int v2), (3, .int s.1)] [] s.2) (D := fun r => r = (rr, μr)) (fun s z Hs Ds => t_X10_rootsEnclose_2 K hl Hs Ds) jF s0 z H D
set_option maxRecDepth 10000 in
theorem t_X10_rootsEnclose_0 {X : jX} {l : Launch} {n : Nat} {Y : jY} (K : jOK X RX10 cX10_rootsEnclose 5 (some .boolean) 4) (hl : X.2.1 = l) {rr : Int32} {μr : jM} {v0 : Nat} {v1 : Nat} {v2 : Int32} {μ : jM} {z : (Int32 × jM)} (H : f_X10_rootsEnclose Y v0 v1 v2 μ = some z) (D : z = (rr, μr)) : JW X (jEnd X n Y (some (.int rr)) μr 0 0) 0 0 n Y 0 [(0, .ref v0), (1, .ref v1), (2, .int v2)] [] μ := by
  unfold f_X10_rootsEnclose at H
  refine r_iconst (v := 0) K dX10_rootsEnclose_0 (by decide) ?_
  refine r_istore_n K [(3, .int _), (0, .ref _), (1, .ref _), (2, .int _)] dX10_rootsEnclose_1 rfl (by decide) rfl ?_
  exact r_sub [1, 2, 3, 0] rfl (l_X10_rootsEnclose_2 K hl H D)
theorem c_X10_rootsEnclose (l : Launch) {n : Nat} {Y : jY} {v0 : Nat} {v1 : Nat} {v2 : Int32} {μ : jM} {z : Int32 × jM} (H : f_X10_rootsEnclose Y v0 v1 v2 μ = some z) : jC l yX10_rootsEnclose cX10_rootsEnclose 5 (some .boolean) 4 0 0 [.ref v0, .ref v1, .int v2] n Y μ n Y (some (.int z.1)) z.2 := by
  refine jC_of (by decide +kernel) (Nat.le_of_ble_eq_true rfl) (fun X hl K _ _ _ => ?_)
  obtain ⟨rr, μr⟩ := z
  exact t_X10_rootsEnclose_0 K hl H rfl
/-! RX10 turnRound([II)V -/
def b_X10_turnRound_6 (Y : jY) (v0 : Nat) (v2 : Int32) (v3 : Int32) (μ : jM) : Option ((Int32 × Int32 × jM) ⊕ (jM)) :=
  if v3 ≤ v2 then
    some (.inr μ)
  else
    (jaI Y μ v0 20 v2).bind fun x1 =>
    (jaI Y μ v0 20 v3).bind fun x2 =>
    (jas Y μ v0 20 v2 (.int x2)).bind fun μ3 =>
    (jas Y μ3 v0 20 v3 (.int x1)).bind fun μ4 =>
    some (.inl ((v2 + (1 : Int32)), (v3 + (-1 : Int32)), μ4))
def f_X10_turnRound (Y : jY) (v0 : Nat) (v1 : Int32) (μ : jM) : Option (jM) :=
  jit jF (fun (s : Int32 × Int32 × jM) => b_X10_turnRound_6 Y v0 s.1 s.2.1 s.2.2) ((0 : Int32), (v1 - ((1 : Int32))), μ)
set_option maxRecDepth 10000 in
theorem t_X10_turnRound_6 {X : jX} {l : Launch} {n : Nat} {Y : jY} (K : jOK X RX10 cX10_turnRound 5 none 1) (hl : X.2.1 = l) {μr : jM} {v0 : Nat} {v2 : Int32} {v3 : Int32} {μ : jM} {z : ((Int32 × Int32 × jM) ⊕ (jM))} (H : b_X10_turnRound_6 Y v0 v2 v3 μ = some z) (D : Sum.elim (fun (s : Int32 × Int32 × jM) => JW X (jEnd X n Y none μr 0 0) 0 0 n Y 6 [(0, .ref v0), (2, .int s.1), (3, .int s.2.1)] [] s.2.2) (fun r => r = μr) z) : JW X (jEnd X n Y none μr 0 0) 0 0 n Y 6 [(0, .ref v0), (2, .int v2), (3, .int v3)] [] μ := by
  unfold b_X10_turnRound_6 at H
  refine r_iload_n K 1 dX10_turnRound_6 rfl rfl ?_
  refine r_iload_n K 2 dX10_turnRound_7 rfl rfl ?_
  refine w_icmp_ge K 36 dX10_turnRound_8 (by decide) H (fun _ H => ?_) (fun _ H => ?_)
  · cases H
    simp only [Sum.elim_inr] at D
    subst D
    exact r_vret K dX10_turnRound_36
  · refine r_aload_n K 0 dX10_turnRound_11 rfl rfl ?_
    refine r_iload_n K 1 dX10_turnRound_12 rfl rfl ?_
    refine w_iald K dX10_turnRound_13 H (fun x1 H => ?_)
    refine r_istore K [(4, .int _), (0, .ref _), (2, .int _), (3, .int _)] dX10_turnRound_14 (by decide) rfl ?_
    refine r_aload_n K 1 dX10_turnRound_16 rfl rfl ?_
    refine r_iload_n K 2 dX10_turnRound_17 rfl rfl ?_
    refine r_aload_n K 1 dX10_turnRound_18 rfl rfl ?_
    refine r_iload_n K 3 dX10_turnRound_19 rfl rfl ?_
    refine w_iald K dX10_turnRound_20 H (fun x2 H => ?_)
    refine w_iast K dX10_turnRound_21 H (fun μ3 H => ?_)
    refine r_aload_n K 1 dX10_turnRound_22 rfl rfl ?_
    refine r_iload_n K 3 dX10_turnRound_23 rfl rfl ?_
    refine r_iload K 0 dX10_turnRound_24 rfl ?_
    refine w_iast K dX10_turnRound_26 H (fun μ4 H => ?_)
    refine r_iinc K 2 [(2, .int _), (4, .int _), (0, .ref _), (3, .int _)] (v := _ + (1 : Int32)) dX10_turnRound_27 rfl rfl (by decide) rfl ?_
    refine r_iinc K 3 [(3, .int _), (2, .int _), (4, .int _), (0, .ref _)] (v := _ + (-1 : Int32)) dX10_turnRound_30 rfl rfl (by decide) rfl ?_
    refine r_goto K 6 dX10_turnRound_33 (by decide) ?_
    cases H
    exact r_sub [3, 1, 0] rfl D
set_option maxRecDepth 10000 in
theorem l_X10_turnRound_6 {X : jX} {l : Launch} {n : Nat} {Y : jY} (K : jOK X RX10 cX10_turnRound 5 none 1) (hl : X.2.1 = l) {μr : jM} {v0 : Nat}  {s0 : Int32 × Int32 × jM} {z : (jM)} (H : jit jF (fun (s : Int32 × Int32 × jM) => b_X10_turnRound_6 Y v0 s.1 s.2.1 s.2.2) s0 = some z) (D : z = μr) : JW X (jEnd X n Y none μr 0 0) 0 0 n Y 6 [(0, .ref v0), (2, .int s0.1), (3, .int s0.2.1)] [] s0.2.2 :=
  jit_ind (P := fun (s : Int32 × Int32 × jM) => JW X (jEnd X n Y none μr 0 0) 0 0 n Y 6 [(0, .ref v0), (2, .int s.1), (3, .int s.2.1)] [] s.2.2) (D := fun r => r = μr) (fun s z Hs Ds => t_X10_turnRound_6 K hl Hs Ds) jF s0 z H D
set_option maxRecDepth 10000 in
theorem t_X10_turnRound_0 {X : jX} {l : Launch} {n : Nat} {Y : jY} (K : jOK X RX10 cX10_turnRound 5 none 1) (hl : X.2.1 = l) {μr : jM} {v0 : Nat} {v1 : Int32} {μ : jM} {z : (jM)} (H : f_X10_turnRound Y v0 v1 μ = some z) (D : z = μr) : JW X (jEnd X n Y none μr 0 0) 0 0 n Y 0 [(0, .ref v0), (1, .int v1)] [] μ := by
  unfold f_X10_turnRound at H
  refine r_iconst (v := 0) K dX10_turnRound_0 (by decide) ?_
  refine r_istore_n K [(2, .int _), (0, .ref _), (1, .int _)] dX10_turnRound_1 rfl (by decide) rfl ?_
  refine r_iload_n K 2 dX10_turnRound_2 rfl rfl ?_
  refine r_iconst (v := 1) K dX10_turnRound_3 (by decide) ?_
  refine r_isub K dX10_turnRound_4 ?_
  refine r_istore_n K [(3, .int _), (2, .int _), (0, .ref _), (1, .int _)] dX10_turnRound_5 rfl (by decide) rfl ?_
  exact r_sub [2, 1, 0] rfl (l_X10_turnRound_6 K hl H D)
theorem c_X10_turnRound (l : Launch) {n : Nat} {Y : jY} {v0 : Nat} {v1 : Int32} {μ : jM} {z : jM} (H : f_X10_turnRound Y v0 v1 μ = some z) : jC l yX10_turnRound cX10_turnRound 5 none 1 0 0 [.ref v0, .int v1] n Y μ n Y none z := by
  refine jC_of (by decide +kernel) (Nat.le_of_ble_eq_true rfl) (fun X hl K _ _ _ => ?_)
  exact t_X10_turnRound_0 K hl H rfl
/-! RX10 drawnBehind(I)I -/
def f_X10_drawnBehind (Y : jY) (v0 : Int32) (μ : jM) : Option (Int32 × jM) :=
  some ((((((((25173 : Int32)) * v0)) + ((13849 : Int32)))) &&& ((65535 : Int32))), μ)
set_option maxRecDepth 10000 in
theorem t_X10_drawnBehind_0 {X : jX} {l : Launch} {n : Nat} {Y : jY} (K : jOK X RX10 cX10_drawnBehind 1 (some .int) 1) (hl : X.2.1 = l) {rr : Int32} {μr : jM} {v0 : Int32} {μ : jM} {z : (Int32 × jM)} (H : f_X10_drawnBehind Y v0 μ = some z) (D : z = (rr, μr)) : JW X (jEnd X n Y (some (.int rr)) μr 0 0) 0 0 n Y 0 [(0, .int v0)] [] μ := by
  unfold f_X10_drawnBehind at H
  refine r_sipush (v := 25173) K dX10_drawnBehind_0 (by decide) ?_
  refine r_iload_n K 0 dX10_drawnBehind_3 rfl rfl ?_
  refine r_imul K dX10_drawnBehind_4 ?_
  refine r_sipush (v := 13849) K dX10_drawnBehind_5 (by decide) ?_
  refine r_iadd K dX10_drawnBehind_8 ?_
  refine r_ldc K (65535) mc_RX10_103 dX10_drawnBehind_9 ?_
  refine r_iand K dX10_drawnBehind_11 ?_
  cases H
  obtain ⟨rfl, rfl⟩ := jfin2 D
  exact r_iret K dX10_drawnBehind_12
theorem c_X10_drawnBehind (l : Launch) {n : Nat} {Y : jY} {v0 : Int32} {μ : jM} {z : Int32 × jM} (H : f_X10_drawnBehind Y v0 μ = some z) : jC l yX10_drawnBehind cX10_drawnBehind 1 (some .int) 1 0 0 [.int v0] n Y μ n Y (some (.int z.1)) z.2 := by
  refine jC_of (by decide +kernel) (Nat.le_of_ble_eq_true rfl) (fun X hl K _ _ _ => ?_)
  obtain ⟨rr, μr⟩ := z
  exact t_X10_drawnBehind_0 K hl H rfl
/-! RX10 hasNumber(ZI)Z -/
def b_X10_hasNumber_21 (Y : jY) (t0 : Int32) (t1 : Int32) (t2 : Int32) (μ : jM) : Option (Int32 × jM) :=
  (f_X11_within Y t0 t1 t2 μ).bind fun r1 =>
  (jbool r1.1).bind fun x2 =>
  some (x2, r1.2)
def f_X10_hasNumber (Y : jY) (v0 : Nat) (v1 : Int32) (v2 : Int32) (μ : jM) : Option (Int32 × jM) :=
  if v1 = 0 then
    (jgI Y μ v0 10 0).bind fun x1 =>
    b_X10_hasNumber_21 Y v2 (0 : Int32) (x1 - ((2 : Int32))) μ
  else
    (jgI Y μ v0 10 0).bind fun x2 =>
    b_X10_hasNumber_21 Y v2 (0 : Int32) (x2 - ((1 : Int32))) μ
set_option maxRecDepth 10000 in
theorem t_X10_hasNumber_21 {X : jX} {l : Launch} {n : Nat} {Y : jY} (K : jOK X RX10 cX10_hasNumber 3 (some .boolean) 2) (hl : X.2.1 = l) {rr : Int32} {μr : jM} {t0 : Int32} {t1 : Int32} {t2 : Int32} {μ : jM} {z : (Int32 × jM)} (H : b_X10_hasNumber_21 Y t0 t1 t2 μ = some z) (D : z = (rr, μr)) : JW X (jEnd X n Y (some (.int rr)) μr 0 0) 0 0 n Y 21 [] [.int t2, .int t1, .int t0] μ := by
  unfold b_X10_hasNumber_21 at H
  refine w_callSN K hl H (fun r h => c_X11_within l h) mC_yX11_within mQ_RX10_33 mT_yX11_within mZ_RX11 (Nat.le_of_ble_eq_true rfl) (Nat.le_of_ble_eq_true rfl) np_yX11_within rfl (Nat.le_of_ble_eq_true rfl) dX10_hasNumber_21 (fun r1 H => ?_) ⟨Nat.zero_le _, Nat.zero_le _⟩
  refine w_zret K dX10_hasNumber_24 H (fun hz H => ?_)
  cases H
  obtain ⟨rfl, rfl⟩ := jfin2 D
  exact r_zret K hz dX10_hasNumber_24
set_option maxRecDepth 10000 in
theorem t_X10_hasNumber_0 {X : jX} {l : Launch} {n : Nat} {Y : jY} (K : jOK X RX10 cX10_hasNumber 3 (some .boolean) 2) (hl : X.2.1 = l) {rr : Int32} {μr : jM} {v0 : Nat} {v1 : Int32} {v2 : Int32} {μ : jM} {z : (Int32 × jM)} (H : f_X10_hasNumber Y v0 v1 v2 μ = some z) (D : z = (rr, μr)) : JW X (jEnd X n Y (some (.int rr)) μr 0 0) 0 0 n Y 0 [(0, .ref v0), (1, .int v1), (2, .int v2)] [] μ := by
  unfold f_X10_hasNumber at H
  refine r_iload_n K 2 dX10_hasNumber_0 rfl rfl ?_
  refine r_iconst (v := 0) K dX10_hasNumber_1 (by decide) ?_
  refine r_iload_n K 1 dX10_hasNumber_2 rfl rfl ?_
  refine w_if_eq K 15 dX10_hasNumber_3 (by decide) H (fun _ H => ?_) (fun _ H => ?_)
  · refine r_aload_n K 0 dX10_hasNumber_15 rfl rfl ?_
    refine w_getI K vc10 inX10 0 (by decide) mF_RX10_9 dX10_hasNumber_16 H (fun x1 H => ?_)
    refine r_iconst (v := 2) K dX10_hasNumber_19 (by decide) ?_
    refine r_isub K dX10_hasNumber_20 ?_
    exact r_sub [] rfl (t_X10_hasNumber_21 K hl H D)
  · refine r_aload_n K 0 dX10_hasNumber_6 rfl rfl ?_
    refine w_getI K vc10 inX10 0 (by decide) mF_RX10_9 dX10_hasNumber_7 H (fun x2 H => ?_)
    refine r_iconst (v := 1) K dX10_hasNumber_10 (by decide) ?_
    refine r_isub K dX10_hasNumber_11 ?_
    refine r_goto K 21 dX10_hasNumber_12 (by decide) ?_
    exact r_sub [] rfl (t_X10_hasNumber_21 K hl H D)
theorem c_X10_hasNumber (l : Launch) {n : Nat} {Y : jY} {v0 : Nat} {v1 : Int32} {v2 : Int32} {μ : jM} {z : Int32 × jM} (H : f_X10_hasNumber Y v0 v1 v2 μ = some z) : jC l yX10_hasNumber cX10_hasNumber 3 (some .boolean) 2 0 0 [.ref v0, .int v1, .int v2] n Y μ n Y (some (.int z.1)) z.2 := by
  refine jC_of (by decide +kernel) (Nat.le_of_ble_eq_true rfl) (fun X hl K _ _ _ => ?_)
  obtain ⟨rr, μr⟩ := z
  exact t_X10_hasNumber_0 K hl H rfl
/-! RX10 take(LChainTables$TextReader;)V -/
def b_X10_take_35 (Y : jY) (v0 : Nat) (v1 : Nat) (v2 : Int32) (μ : jM) : Option ((Int32 × jM) ⊕ (jM)) :=
  if ((4 : Int32)) ≤ v2 then
    some (.inr μ)
  else
    (jgO Y μ v0 10 2).bind fun x1 =>
    (jgO Y μ v1 6 1).bind fun x2 =>
    (jaI Y μ x2 20 v2).bind fun x3 =>
    (jas Y μ x1 20 v2 (.int x3)).bind fun μ4 =>
    some (.inl ((v2 + (1 : Int32)), μ4))
def b_X10_take_10 (Y : jY) (v0 : Nat) (v1 : Nat) (v2 : Int32) (μ : jM) : Option ((Int32 × jM) ⊕ (jM)) :=
  if ((5 : Int32)) ≤ v2 then
    (jit jF (fun (s : Int32 × jM) => b_X10_take_35 Y v0 v1 s.1 s.2) ((0 : Int32), μ)).map (fun r => (.inr r))
  else
    (jgO Y μ v0 10 1).bind fun x1 =>
    (jgO Y μ v1 6 0).bind fun x2 =>
    (jaI Y μ x2 20 v2).bind fun x3 =>
    (jas Y μ x1 20 v2 (.int x3)).bind fun μ4 =>
    some (.inl ((v2 + (1 : Int32)), μ4))
def f_X10_take (Y : jY) (v0 : Nat) (v1 : Nat) (μ : jM) : Option (jM) :=
  (jgI Y μ v1 6 2).bind fun x1 =>
  (jput Y μ v0 10 0 (.int x1)).bind fun μ2 =>
  jit jF (fun (s : Int32 × jM) => b_X10_take_10 Y v0 v1 s.1 s.2) ((0 : Int32), μ2)
set_option maxRecDepth 10000 in
theorem t_X10_take_35 {X : jX} {l : Launch} {n : Nat} {Y : jY} (K : jOK X RX10 cX10_take 3 none 1) (hl : X.2.1 = l) {μr : jM} {v0 : Nat} {v1 : Nat} {v2 : Int32} {μ : jM} {z : ((Int32 × jM) ⊕ (jM))} (H : b_X10_take_35 Y v0 v1 v2 μ = some z) (D : Sum.elim (fun (s : Int32 × jM) => JW X (jEnd X n Y none μr 0 0) 0 0 n Y 35 [(0, .ref v0), (1, .ref v1), (2, .int s.1)] [] s.2) (fun r => r = μr) z) : JW X (jEnd X n Y none μr 0 0) 0 0 n Y 35 [(0, .ref v0), (1, .ref v1), (2, .int v2)] [] μ := by
  unfold b_X10_take_35 at H
  refine r_iload_n K 2 dX10_take_35 rfl rfl ?_
  refine r_iconst (v := 4) K dX10_take_36 (by decide) ?_
  refine w_icmp_ge K 58 dX10_take_37 (by decide) H (fun _ H => ?_) (fun _ H => ?_)
  · cases H
    simp only [Sum.elim_inr] at D
    subst D
    exact r_vret K dX10_take_58
  · refine r_aload_n K 0 dX10_take_40 rfl rfl ?_
    refine w_getO K vc10 inX10 2 (by decide) mF_RX10_19 dX10_take_41 H (fun x1 H => ?_)
    refine r_iload_n K 2 dX10_take_44 rfl rfl ?_
    refine r_aload_n K 1 dX10_take_45 rfl rfl ?_
    refine w_getO K vc6 inX6 1 (by decide) mF_RX10_30 dX10_take_46 H (fun x2 H => ?_)
    refine r_iload_n K 2 dX10_take_49 rfl rfl ?_
    refine w_iald K dX10_take_50 H (fun x3 H => ?_)
    refine w_iast K dX10_take_51 H (fun μ4 H => ?_)
    refine r_iinc K 2 [(2, .int _), (0, .ref _), (1, .ref _)] (v := _ + (1 : Int32)) dX10_take_52 rfl rfl (by decide) rfl ?_
    refine r_goto K 35 dX10_take_55 (by decide) ?_
    cases H
    exact r_sub [1, 2, 0] rfl D
set_option maxRecDepth 10000 in
theorem l_X10_take_35 {X : jX} {l : Launch} {n : Nat} {Y : jY} (K : jOK X RX10 cX10_take 3 none 1) (hl : X.2.1 = l) {μr : jM} {v0 : Nat} {v1 : Nat}  {s0 : Int32 × jM} {z : (jM)} (H : jit jF (fun (s : Int32 × jM) => b_X10_take_35 Y v0 v1 s.1 s.2) s0 = some z) (D : z = μr) : JW X (jEnd X n Y none μr 0 0) 0 0 n Y 35 [(0, .ref v0), (1, .ref v1), (2, .int s0.1)] [] s0.2 :=
  jit_ind (P := fun (s : Int32 × jM) => JW X (jEnd X n Y none μr 0 0) 0 0 n Y 35 [(0, .ref v0), (1, .ref v1), (2, .int s.1)] [] s.2) (D := fun r => r = μr) (fun s z Hs Ds => t_X10_take_35 K hl Hs Ds) jF s0 z H D
set_option maxRecDepth 10000 in
theorem t_X10_take_10 {X : jX} {l : Launch} {n : Nat} {Y : jY} (K : jOK X RX10 cX10_take 3 none 1) (hl : X.2.1 = l) {μr : jM} {v0 : Nat} {v1 : Nat} {v2 : Int32} {μ : jM} {z : ((Int32 × jM) ⊕ (jM))} (H : b_X10_take_10 Y v0 v1 v2 μ = some z) (D : Sum.elim (fun (s : Int32 × jM) => JW X (jEnd X n Y none μr 0 0) 0 0 n Y 10 [(0, .ref v0), (1, .ref v1), (2, .int s.1)] [] s.2) (fun r => r = μr) z) : JW X (jEnd X n Y none μr 0 0) 0 0 n Y 10 [(0, .ref v0), (1, .ref v1), (2, .int v2)] [] μ := by
  unfold b_X10_take_10 at H
  refine r_iload_n K 2 dX10_take_10 rfl rfl ?_
  refine r_iconst (v := 5) K dX10_take_11 (by decide) ?_
  refine w_icmp_ge K 33 dX10_take_12 (by decide) H (fun _ H => ?_) (fun _ H => ?_)
  · refine r_iconst (v := 0) K dX10_take_33 (by decide) ?_
    refine r_istore_n K [(2, .int _), (0, .ref _), (1, .ref _)] dX10_take_34 rfl (by decide) rfl ?_
    obtain ⟨z2, H2, rfl⟩ := jmap H
    exact r_sub [1, 2, 0] rfl (l_X10_take_35 K hl H2 D)
  · refine r_aload_n K 0 dX10_take_15 rfl rfl ?_
    refine w_getO K vc10 inX10 1 (by decide) mF_RX10_15 dX10_take_16 H (fun x1 H => ?_)
    refine r_iload_n K 2 dX10_take_19 rfl rfl ?_
    refine r_aload_n K 1 dX10_take_20 rfl rfl ?_
    refine w_getO K vc6 inX6 0 (by decide) mF_RX10_27 dX10_take_21 H (fun x2 H => ?_)
    refine r_iload_n K 2 dX10_take_24 rfl rfl ?_
    refine w_iald K dX10_take_25 H (fun x3 H => ?_)
    refine w_iast K dX10_take_26 H (fun μ4 H => ?_)
    refine r_iinc K 2 [(2, .int _), (0, .ref _), (1, .ref _)] (v := _ + (1 : Int32)) dX10_take_27 rfl rfl (by decide) rfl ?_
    refine r_goto K 10 dX10_take_30 (by decide) ?_
    cases H
    exact r_sub [1, 2, 0] rfl D
set_option maxRecDepth 10000 in
theorem l_X10_take_10 {X : jX} {l : Launch} {n : Nat} {Y : jY} (K : jOK X RX10 cX10_take 3 none 1) (hl : X.2.1 = l) {μr : jM} {v0 : Nat} {v1 : Nat}  {s0 : Int32 × jM} {z : (jM)} (H : jit jF (fun (s : Int32 × jM) => b_X10_take_10 Y v0 v1 s.1 s.2) s0 = some z) (D : z = μr) : JW X (jEnd X n Y none μr 0 0) 0 0 n Y 10 [(0, .ref v0), (1, .ref v1), (2, .int s0.1)] [] s0.2 :=
  jit_ind (P := fun (s : Int32 × jM) => JW X (jEnd X n Y none μr 0 0) 0 0 n Y 10 [(0, .ref v0), (1, .ref v1), (2, .int s.1)] [] s.2) (D := fun r => r = μr) (fun s z Hs Ds => t_X10_take_10 K hl Hs Ds) jF s0 z H D
set_option maxRecDepth 10000 in
theorem t_X10_take_0 {X : jX} {l : Launch} {n : Nat} {Y : jY} (K : jOK X RX10 cX10_take 3 none 1) (hl : X.2.1 = l) {μr : jM} {v0 : Nat} {v1 : Nat} {μ : jM} {z : (jM)} (H : f_X10_take Y v0 v1 μ = some z) (D : z = μr) : JW X (jEnd X n Y none μr 0 0) 0 0 n Y 0 [(0, .ref v0), (1, .ref v1)] [] μ := by
  unfold f_X10_take at H
  refine r_aload_n K 0 dX10_take_0 rfl rfl ?_
  refine r_aload_n K 1 dX10_take_1 rfl rfl ?_
  refine w_getI K vc6 inX6 2 (by decide) mF_RX10_22 dX10_take_2 H (fun x1 H => ?_)
  refine w_put K vc10 inX10 tyX10_ok nmX10 0 (by decide) mF_RX10_9 rfl (fun _ => rfl) (fun _ => rfl) dX10_take_5 H (fun μ2 H => ?_)
  refine r_iconst (v := 0) K dX10_take_8 (by decide) ?_
  refine r_istore_n K [(2, .int _), (0, .ref _), (1, .ref _)] dX10_take_9 rfl (by decide) rfl ?_
  exact r_sub [1, 2, 0] rfl (l_X10_take_10 K hl H D)
theorem c_X10_take (l : Launch) {n : Nat} {Y : jY} {v0 : Nat} {v1 : Nat} {μ : jM} {z : jM} (H : f_X10_take Y v0 v1 μ = some z) : jC l yX10_take cX10_take 3 none 1 0 0 [.ref v0, .ref v1] n Y μ n Y none z := by
  refine jC_of (by decide +kernel) (Nat.le_of_ble_eq_true rfl) (fun X hl K _ _ _ => ?_)
  exact t_X10_take_0 K hl H rfl
/-! RX10 hasRootAt(II)Z -/
def b_X10_hasRootAt_2 (Y : jY) (v0 : Nat) (v1 : Int32) (v2 : Int32) (v3 : Int32) (μ : jM) : Option ((Int32 × jM) ⊕ (Int32 × jM)) :=
  (jgI Y μ v0 10 0).bind fun x1 =>
  if x1 ≤ v3 then
    (jbool ((0 : Int32))).bind fun x2 =>
    some (.inr (x2, μ))
  else
    (jgI Y μ v0 10 0).bind fun x3 =>
    (jrcv Y v0 10 (f_X10_rootInParts Y v0 x3 v3 v2 μ)).bind fun r4 =>
    if r4.1 = v1 then
      (jbool ((1 : Int32))).bind fun x5 =>
      some (.inr (x5, r4.2))
    else
      some (.inl ((v3 + (1 : Int32)), r4.2))
def f_X10_hasRootAt (Y : jY) (v0 : Nat) (v1 : Int32) (v2 : Int32) (μ : jM) : Option (Int32 × jM) :=
  jit jF (fun (s : Int32 × jM) => b_X10_hasRootAt_2 Y v0 v1 v2 s.1 s.2) ((0 : Int32), μ)
set_option maxRecDepth 10000 in
theorem t_X10_hasRootAt_2 {X : jX} {l : Launch} {n : Nat} {Y : jY} (K : jOK X RX10 cX10_hasRootAt 4 (some .boolean) 4) (hl : X.2.1 = l) {rr : Int32} {μr : jM} {v0 : Nat} {v1 : Int32} {v2 : Int32} {v3 : Int32} {μ : jM} {z : ((Int32 × jM) ⊕ (Int32 × jM))} (H : b_X10_hasRootAt_2 Y v0 v1 v2 v3 μ = some z) (D : Sum.elim (fun (s : Int32 × jM) => JW X (jEnd X n Y (some (.int rr)) μr 0 0) 0 0 n Y 2 [(0, .ref v0), (1, .int v1), (2, .int v2), (3, .int s.1)] [] s.2) (fun r => r = (rr, μr)) z) : JW X (jEnd X n Y (some (.int rr)) μr 0 0) 0 0 n Y 2 [(0, .ref v0), (1, .int v1), (2, .int v2), (3, .int v3)] [] μ := by
  unfold b_X10_hasRootAt_2 at H
  refine r_iload_n K 3 dX10_hasRootAt_2 rfl rfl ?_
  refine r_aload_n K 0 dX10_hasRootAt_3 rfl rfl ?_
  refine w_getI K vc10 inX10 0 (by decide) mF_RX10_9 dX10_hasRootAt_4 H (fun x1 H => ?_)
  refine w_icmp_ge K 32 dX10_hasRootAt_7 (by decide) H (fun _ H => ?_) (fun _ H => ?_)
  · refine r_iconst (v := 0) K dX10_hasRootAt_32 (by decide) ?_
    refine w_zret K dX10_hasRootAt_33 H (fun hz H => ?_)
    cases H
    simp only [Sum.elim_inr] at D
    obtain ⟨rfl, rfl⟩ := jfin2 D
    exact r_zret K hz dX10_hasRootAt_33
  · refine r_aload_n K 0 dX10_hasRootAt_10 rfl rfl ?_
    refine r_aload_n K 0 dX10_hasRootAt_11 rfl rfl ?_
    refine w_getI K vc10 inX10 0 (by decide) mF_RX10_9 dX10_hasRootAt_12 H (fun x3 H => ?_)
    refine r_iload_n K 3 dX10_hasRootAt_15 rfl rfl ?_
    refine r_iload_n K 2 dX10_hasRootAt_16 rfl rfl ?_
    refine w_callV K hl H (fun r h => c_X10_rootInParts l h) mC_yX10_rootInParts mM_RX10_78 mI_yX10_rootInParts mS_yX10_rootInParts mZ_RX10 vc10 (Nat.le_of_ble_eq_true rfl) (Nat.le_of_ble_eq_true rfl) np_yX10_rootInParts rfl (Nat.le_of_ble_eq_true rfl) dX10_hasRootAt_17 (fun r4 H => ?_) ⟨Nat.zero_le _, Nat.zero_le _⟩
    refine r_iload_n K 1 dX10_hasRootAt_20 rfl rfl ?_
    refine w_icmp_ne K 26 dX10_hasRootAt_21 (by decide) H (fun _ H => ?_) (fun _ H => ?_)
    · refine r_iinc K 3 [(3, .int _), (0, .ref _), (1, .int _), (2, .int _)] (v := _ + (1 : Int32)) dX10_hasRootAt_26 rfl rfl (by decide) rfl ?_
      refine r_goto K 2 dX10_hasRootAt_29 (by decide) ?_
      cases H
      exact r_sub [1, 2, 3, 0] rfl D
    · refine r_iconst (v := 1) K dX10_hasRootAt_24 (by decide) ?_
      refine w_zret K dX10_hasRootAt_25 H (fun hz H => ?_)
      cases H
      simp only [Sum.elim_inr] at D
      obtain ⟨rfl, rfl⟩ := jfin2 D
      exact r_zret K hz dX10_hasRootAt_25
set_option maxRecDepth 10000 in
theorem l_X10_hasRootAt_2 {X : jX} {l : Launch} {n : Nat} {Y : jY} (K : jOK X RX10 cX10_hasRootAt 4 (some .boolean) 4) (hl : X.2.1 = l) {rr : Int32} {μr : jM} {v0 : Nat} {v1 : Int32} {v2 : Int32}  {s0 : Int32 × jM} {z : (Int32 × jM)} (H : jit jF (fun (s : Int32 × jM) => b_X10_hasRootAt_2 Y v0 v1 v2 s.1 s.2) s0 = some z) (D : z = (rr, μr)) : JW X (jEnd X n Y (some (.int rr)) μr 0 0) 0 0 n Y 2 [(0, .ref v0), (1, .int v1), (2, .int v2), (3, .int s0.1)] [] s0.2 :=
  jit_ind (P := fun (s : Int32 × jM) => JW X (jEnd X n Y (some (.int rr)) μr 0 0) 0 0 n Y 2 [(0, .ref v0), (1, .int v1), (2, .int v2), (3, .int s.1)] [] s.2) (D := fun r => r = (rr, μr)) (fun s z Hs Ds => t_X10_hasRootAt_2 K hl Hs Ds) jF s0 z H D
set_option maxRecDepth 10000 in
theorem t_X10_hasRootAt_0 {X : jX} {l : Launch} {n : Nat} {Y : jY} (K : jOK X RX10 cX10_hasRootAt 4 (some .boolean) 4) (hl : X.2.1 = l) {rr : Int32} {μr : jM} {v0 : Nat} {v1 : Int32} {v2 : Int32} {μ : jM} {z : (Int32 × jM)} (H : f_X10_hasRootAt Y v0 v1 v2 μ = some z) (D : z = (rr, μr)) : JW X (jEnd X n Y (some (.int rr)) μr 0 0) 0 0 n Y 0 [(0, .ref v0), (1, .int v1), (2, .int v2)] [] μ := by
  unfold f_X10_hasRootAt at H
  refine r_iconst (v := 0) K dX10_hasRootAt_0 (by decide) ?_
  refine r_istore_n K [(3, .int _), (0, .ref _), (1, .int _), (2, .int _)] dX10_hasRootAt_1 rfl (by decide) rfl ?_
  exact r_sub [1, 2, 3, 0] rfl (l_X10_hasRootAt_2 K hl H D)
theorem c_X10_hasRootAt (l : Launch) {n : Nat} {Y : jY} {v0 : Nat} {v1 : Int32} {v2 : Int32} {μ : jM} {z : Int32 × jM} (H : f_X10_hasRootAt Y v0 v1 v2 μ = some z) : jC l yX10_hasRootAt cX10_hasRootAt 4 (some .boolean) 4 0 0 [.ref v0, .int v1, .int v2] n Y μ n Y (some (.int z.1)) z.2 := by
  refine jC_of (by decide +kernel) (Nat.le_of_ble_eq_true rfl) (fun X hl K _ _ _ => ?_)
  obtain ⟨rr, μr⟩ := z
  exact t_X10_hasRootAt_0 K hl H rfl
/-! RX10 sharedRoots(LChainTables$WholeTable;I)I -/
def b_X10_sharedRoots_36 (Y : jY) (v0 : Nat) (v1 : Nat) (v2 : Int32) (v3 : Int32) (v4 : Int32) (μ : jM) : Option ((Int32 × Int32 × jM) ⊕ (Int32 × jM)) :=
  some (.inl (v3, (v4 + (1 : Int32)), μ))
def b_X10_sharedRoots_5 (Y : jY) (v0 : Nat) (v1 : Nat) (v2 : Int32) (v3 : Int32) (v4 : Int32) (μ : jM) : Option ((Int32 × Int32 × jM) ⊕ (Int32 × jM)) :=
  (jgI Y μ v0 10 0).bind fun x1 =>
  if x1 ≤ v4 then
    some (.inr (v3, μ))
  else
    (jgI Y μ v0 10 0).bind fun x2 =>
    (jrcv Y v0 10 (f_X10_rootInParts Y v0 x2 v4 v2 μ)).bind fun r3 =>
    (jrcv Y v1 10 (f_X10_hasRootAt Y v1 r3.1 v2 r3.2)).bind fun r4 =>
    if r4.1 = 0 then
      b_X10_sharedRoots_36 Y v0 v1 v2 v3 v4 r4.2
    else
      b_X10_sharedRoots_36 Y v0 v1 v2 (v3 + (1 : Int32)) v4 r4.2
def f_X10_sharedRoots (Y : jY) (v0 : Nat) (v1 : Nat) (v2 : Int32) (μ : jM) : Option (Int32 × jM) :=
  jit jF (fun (s : Int32 × Int32 × jM) => b_X10_sharedRoots_5 Y v0 v1 v2 s.1 s.2.1 s.2.2) ((0 : Int32), (0 : Int32), μ)
set_option maxRecDepth 10000 in
theorem t_X10_sharedRoots_36 {X : jX} {l : Launch} {n : Nat} {Y : jY} (K : jOK X RX10 cX10_sharedRoots 5 (some .int) 5) (hl : X.2.1 = l) {rr : Int32} {μr : jM} {v0 : Nat} {v1 : Nat} {v2 : Int32} {v3 : Int32} {v4 : Int32} {μ : jM} {z : ((Int32 × Int32 × jM) ⊕ (Int32 × jM))} (H : b_X10_sharedRoots_36 Y v0 v1 v2 v3 v4 μ = some z) (D : Sum.elim (fun (s : Int32 × Int32 × jM) => JW X (jEnd X n Y (some (.int rr)) μr 0 0) 0 0 n Y 5 [(0, .ref v0), (1, .ref v1), (2, .int v2), (3, .int s.1), (4, .int s.2.1)] [] s.2.2) (fun r => r = (rr, μr)) z) : JW X (jEnd X n Y (some (.int rr)) μr 0 0) 0 0 n Y 36 [(0, .ref v0), (1, .ref v1), (2, .int v2), (3, .int v3), (4, .int v4)] [] μ := by
  unfold b_X10_sharedRoots_36 at H
  refine r_iinc K 4 [(4, .int _), (0, .ref _), (1, .ref _), (2, .int _), (3, .int _)] (v := _ + (1 : Int32)) dX10_sharedRoots_36 rfl rfl (by decide) rfl ?_
  refine r_goto K 5 dX10_sharedRoots_39 (by decide) ?_
  cases H
  exact r_sub [1, 2, 3, 4, 0] rfl D
set_option maxRecDepth 10000 in
theorem t_X10_sharedRoots_5 {X : jX} {l : Launch} {n : Nat} {Y : jY} (K : jOK X RX10 cX10_sharedRoots 5 (some .int) 5) (hl : X.2.1 = l) {rr : Int32} {μr : jM} {v0 : Nat} {v1 : Nat} {v2 : Int32} {v3 : Int32} {v4 : Int32} {μ : jM} {z : ((Int32 × Int32 × jM) ⊕ (Int32 × jM))} (H : b_X10_sharedRoots_5 Y v0 v1 v2 v3 v4 μ = some z) (D : Sum.elim (fun (s : Int32 × Int32 × jM) => JW X (jEnd X n Y (some (.int rr)) μr 0 0) 0 0 n Y 5 [(0, .ref v0), (1, .ref v1), (2, .int v2), (3, .int s.1), (4, .int s.2.1)] [] s.2.2) (fun r => r = (rr, μr)) z) : JW X (jEnd X n Y (some (.int rr)) μr 0 0) 0 0 n Y 5 [(0, .ref v0), (1, .ref v1), (2, .int v2), (3, .int v3), (4, .int v4)] [] μ := by
  unfold b_X10_sharedRoots_5 at H
  refine r_iload K 4 dX10_sharedRoots_5 rfl ?_
  refine r_aload_n K 0 dX10_sharedRoots_7 rfl rfl ?_
  refine w_getI K vc10 inX10 0 (by decide) mF_RX10_9 dX10_sharedRoots_8 H (fun x1 H => ?_)
  refine w_icmp_ge K 42 dX10_sharedRoots_11 (by decide) H (fun _ H => ?_) (fun _ H => ?_)
  · refine r_iload_n K 3 dX10_sharedRoots_42 rfl rfl ?_
    cases H
    simp only [Sum.elim_inr] at D
    obtain ⟨rfl, rfl⟩ := jfin2 D
    exact r_iret K dX10_sharedRoots_43
  · refine r_aload_n K 1 dX10_sharedRoots_14 rfl rfl ?_
    refine r_aload_n K 0 dX10_sharedRoots_15 rfl rfl ?_
    refine r_aload_n K 0 dX10_sharedRoots_16 rfl rfl ?_
    refine w_getI K vc10 inX10 0 (by decide) mF_RX10_9 dX10_sharedRoots_17 H (fun x2 H => ?_)
    refine r_iload K 4 dX10_sharedRoots_20 rfl ?_
    refine r_iload_n K 2 dX10_sharedRoots_22 rfl rfl ?_
    refine w_callV K hl H (fun r h => c_X10_rootInParts l h) mC_yX10_rootInParts mM_RX10_78 mI_yX10_rootInParts mS_yX10_rootInParts mZ_RX10 vc10 (Nat.le_of_ble_eq_true rfl) (Nat.le_of_ble_eq_true rfl) np_yX10_rootInParts rfl (Nat.le_of_ble_eq_true rfl) dX10_sharedRoots_23 (fun r3 H => ?_) ⟨Nat.zero_le _, Nat.zero_le _⟩
    refine r_iload_n K 2 dX10_sharedRoots_26 rfl rfl ?_
    refine w_callV K hl H (fun r h => c_X10_hasRootAt l h) mC_yX10_hasRootAt mM_RX10_81 mI_yX10_hasRootAt mS_yX10_hasRootAt mZ_RX10 vc10 (Nat.le_of_ble_eq_true rfl) (Nat.le_of_ble_eq_true rfl) np_yX10_hasRootAt rfl (Nat.le_of_ble_eq_true rfl) dX10_sharedRoots_27 (fun r4 H => ?_) ⟨Nat.zero_le _, Nat.zero_le _⟩
    refine w_if_eq K 36 dX10_sharedRoots_30 (by decide) H (fun _ H => ?_) (fun _ H => ?_)
    · exact r_sub [0, 1, 2, 3, 4] rfl (t_X10_sharedRoots_36 K hl H D)
    · refine r_iinc K 3 [(3, .int _), (0, .ref _), (1, .ref _), (2, .int _), (4, .int _)] (v := _ + (1 : Int32)) dX10_sharedRoots_33 rfl rfl (by decide) rfl ?_
      exact r_sub [1, 2, 3, 0, 4] rfl (t_X10_sharedRoots_36 K hl H D)
set_option maxRecDepth 10000 in
theorem l_X10_sharedRoots_5 {X : jX} {l : Launch} {n : Nat} {Y : jY} (K : jOK X RX10 cX10_sharedRoots 5 (some .int) 5) (hl : X.2.1 = l) {rr : Int32} {μr : jM} {v0 : Nat} {v1 : Nat} {v2 : Int32}  {s0 : Int32 × Int32 × jM} {z : (Int32 × jM)} (H : jit jF (fun (s : Int32 × Int32 × jM) => b_X10_sharedRoots_5 Y v0 v1 v2 s.1 s.2.1 s.2.2) s0 = some z) (D : z = (rr, μr)) : JW X (jEnd X n Y (some (.int rr)) μr 0 0) 0 0 n Y 5 [(0, .ref v0), (1, .ref v1), (2, .int v2), (3, .int s0.1), (4, .int s0.2.1)] [] s0.2.2 :=
  jit_ind (P := fun (s : Int32 × Int32 × jM) => JW X (jEnd X n Y (some (.int rr)) μr 0 0) 0 0 n Y 5 [(0, .ref v0), (1, .ref v1), (2, .int v2), (3, .int s.1), (4, .int s.2.1)] [] s.2.2) (D := fun r => r = (rr, μr)) (fun s z Hs Ds => t_X10_sharedRoots_5 K hl Hs Ds) jF s0 z H D
set_option maxRecDepth 10000 in
theorem t_X10_sharedRoots_0 {X : jX} {l : Launch} {n : Nat} {Y : jY} (K : jOK X RX10 cX10_sharedRoots 5 (some .int) 5) (hl : X.2.1 = l) {rr : Int32} {μr : jM} {v0 : Nat} {v1 : Nat} {v2 : Int32} {μ : jM} {z : (Int32 × jM)} (H : f_X10_sharedRoots Y v0 v1 v2 μ = some z) (D : z = (rr, μr)) : JW X (jEnd X n Y (some (.int rr)) μr 0 0) 0 0 n Y 0 [(0, .ref v0), (1, .ref v1), (2, .int v2)] [] μ := by
  unfold f_X10_sharedRoots at H
  refine r_iconst (v := 0) K dX10_sharedRoots_0 (by decide) ?_
  refine r_istore_n K [(3, .int _), (0, .ref _), (1, .ref _), (2, .int _)] dX10_sharedRoots_1 rfl (by decide) rfl ?_
  refine r_iconst (v := 0) K dX10_sharedRoots_2 (by decide) ?_
  refine r_istore K [(4, .int _), (3, .int _), (0, .ref _), (1, .ref _), (2, .int _)] dX10_sharedRoots_3 (by decide) rfl ?_
  exact r_sub [2, 3, 4, 1, 0] rfl (l_X10_sharedRoots_5 K hl H D)
theorem c_X10_sharedRoots (l : Launch) {n : Nat} {Y : jY} {v0 : Nat} {v1 : Nat} {v2 : Int32} {μ : jM} {z : Int32 × jM} (H : f_X10_sharedRoots Y v0 v1 v2 μ = some z) : jC l yX10_sharedRoots cX10_sharedRoots 5 (some .int) 5 0 0 [.ref v0, .ref v1, .int v2] n Y μ n Y (some (.int z.1)) z.2 := by
  refine jC_of (by decide +kernel) (Nat.le_of_ble_eq_true rfl) (fun X hl K _ _ _ => ?_)
  obtain ⟨rr, μr⟩ := z
  exact t_X10_sharedRoots_0 K hl H rfl
/-! RX10 dropFirst([I)V -/
def b_X10_dropFirst_2 (Y : jY) (v0 : Nat) (v1 : Int32) (μ : jM) : Option ((Int32 × jM) ⊕ (jM)) :=
  (jlen Y v0 20).bind fun x1 =>
  if x1 ≤ ((v1 + ((1 : Int32)))) then
    some (.inr μ)
  else
    (jaI Y μ v0 20 ((v1 + ((1 : Int32))))).bind fun x2 =>
    (jas Y μ v0 20 v1 (.int x2)).bind fun μ3 =>
    some (.inl ((v1 + (1 : Int32)), μ3))
def f_X10_dropFirst (Y : jY) (v0 : Nat) (μ : jM) : Option (jM) :=
  jit jF (fun (s : Int32 × jM) => b_X10_dropFirst_2 Y v0 s.1 s.2) ((0 : Int32), μ)
set_option maxRecDepth 10000 in
theorem t_X10_dropFirst_2 {X : jX} {l : Launch} {n : Nat} {Y : jY} (K : jOK X RX10 cX10_dropFirst 2 none 1) (hl : X.2.1 = l) {μr : jM} {v0 : Nat} {v1 : Int32} {μ : jM} {z : ((Int32 × jM) ⊕ (jM))} (H : b_X10_dropFirst_2 Y v0 v1 μ = some z) (D : Sum.elim (fun (s : Int32 × jM) => JW X (jEnd X n Y none μr 0 0) 0 0 n Y 2 [(0, .ref v0), (1, .int s.1)] [] s.2) (fun r => r = μr) z) : JW X (jEnd X n Y none μr 0 0) 0 0 n Y 2 [(0, .ref v0), (1, .int v1)] [] μ := by
  unfold b_X10_dropFirst_2 at H
  refine r_iload_n K 1 dX10_dropFirst_2 rfl rfl ?_
  refine r_iconst (v := 1) K dX10_dropFirst_3 (by decide) ?_
  refine r_iadd K dX10_dropFirst_4 ?_
  refine r_aload_n K 0 dX10_dropFirst_5 rfl rfl ?_
  refine w_alen K 20 rfl dX10_dropFirst_6 H (fun x1 H => ?_)
  refine w_icmp_ge K 24 dX10_dropFirst_7 (by decide) H (fun _ H => ?_) (fun _ H => ?_)
  · cases H
    simp only [Sum.elim_inr] at D
    subst D
    exact r_vret K dX10_dropFirst_24
  · refine r_aload_n K 0 dX10_dropFirst_10 rfl rfl ?_
    refine r_iload_n K 1 dX10_dropFirst_11 rfl rfl ?_
    refine r_aload_n K 0 dX10_dropFirst_12 rfl rfl ?_
    refine r_iload_n K 1 dX10_dropFirst_13 rfl rfl ?_
    refine r_iconst (v := 1) K dX10_dropFirst_14 (by decide) ?_
    refine r_iadd K dX10_dropFirst_15 ?_
    refine w_iald K dX10_dropFirst_16 H (fun x2 H => ?_)
    refine w_iast K dX10_dropFirst_17 H (fun μ3 H => ?_)
    refine r_iinc K 1 [(1, .int _), (0, .ref _)] (v := _ + (1 : Int32)) dX10_dropFirst_18 rfl rfl (by decide) rfl ?_
    refine r_goto K 2 dX10_dropFirst_21 (by decide) ?_
    cases H
    exact r_sub [1, 0] rfl D
set_option maxRecDepth 10000 in
theorem l_X10_dropFirst_2 {X : jX} {l : Launch} {n : Nat} {Y : jY} (K : jOK X RX10 cX10_dropFirst 2 none 1) (hl : X.2.1 = l) {μr : jM} {v0 : Nat}  {s0 : Int32 × jM} {z : (jM)} (H : jit jF (fun (s : Int32 × jM) => b_X10_dropFirst_2 Y v0 s.1 s.2) s0 = some z) (D : z = μr) : JW X (jEnd X n Y none μr 0 0) 0 0 n Y 2 [(0, .ref v0), (1, .int s0.1)] [] s0.2 :=
  jit_ind (P := fun (s : Int32 × jM) => JW X (jEnd X n Y none μr 0 0) 0 0 n Y 2 [(0, .ref v0), (1, .int s.1)] [] s.2) (D := fun r => r = μr) (fun s z Hs Ds => t_X10_dropFirst_2 K hl Hs Ds) jF s0 z H D
set_option maxRecDepth 10000 in
theorem t_X10_dropFirst_0 {X : jX} {l : Launch} {n : Nat} {Y : jY} (K : jOK X RX10 cX10_dropFirst 2 none 1) (hl : X.2.1 = l) {μr : jM} {v0 : Nat} {μ : jM} {z : (jM)} (H : f_X10_dropFirst Y v0 μ = some z) (D : z = μr) : JW X (jEnd X n Y none μr 0 0) 0 0 n Y 0 [(0, .ref v0)] [] μ := by
  unfold f_X10_dropFirst at H
  refine r_iconst (v := 0) K dX10_dropFirst_0 (by decide) ?_
  refine r_istore_n K [(1, .int _), (0, .ref _)] dX10_dropFirst_1 rfl (by decide) rfl ?_
  exact r_sub [1, 0] rfl (l_X10_dropFirst_2 K hl H D)
theorem c_X10_dropFirst (l : Launch) {n : Nat} {Y : jY} {v0 : Nat} {μ : jM} {z : jM} (H : f_X10_dropFirst Y v0 μ = some z) : jC l yX10_dropFirst cX10_dropFirst 2 none 1 0 0 [.ref v0] n Y μ n Y none z := by
  refine jC_of (by decide +kernel) (Nat.le_of_ble_eq_true rfl) (fun X hl K _ _ _ => ?_)
  exact t_X10_dropFirst_0 K hl H rfl
/-! RX10 append(LChainTables$WholeTable;I)V -/
def b_X10_append_54 (Y : jY) (v0 : Nat) (v1 : Nat) (v3 : Int32) (v4 : Int32) (μ : jM) : Option ((Int32 × jM) ⊕ (jM)) :=
  if ((v3 - ((1 : Int32)))) ≤ v4 then
    (jgI Y μ v0 10 0).bind fun x1 =>
    (jput Y μ v0 10 0 (.int ((x1 + v3)))).bind fun μ2 =>
    some (.inr μ2)
  else
    (jgO Y μ v0 10 2).bind fun x3 =>
    (jgI Y μ v0 10 0).bind fun x4 =>
    (jgO Y μ v1 10 2).bind fun x5 =>
    (jaI Y μ x5 20 v4).bind fun x6 =>
    (jas Y μ x3 20 ((x4 + v4)) (.int x6)).bind fun μ7 =>
    some (.inl ((v4 + (1 : Int32)), μ7))
def b_X10_append_20 (Y : jY) (v0 : Nat) (v1 : Nat) (v3 : Int32) (v4 : Int32) (μ : jM) : Option ((Int32 × jM) ⊕ (jM)) :=
  if v3 ≤ v4 then
    (jit jF (fun (s : Int32 × jM) => b_X10_append_54 Y v0 v1 v3 s.1 s.2) ((0 : Int32), μ)).map (fun r => (.inr r))
  else
    (jgO Y μ v0 10 1).bind fun x1 =>
    (jgI Y μ v0 10 0).bind fun x2 =>
    (jgO Y μ v1 10 1).bind fun x3 =>
    (jaI Y μ x3 20 v4).bind fun x4 =>
    (jas Y μ x1 20 ((x2 + v4)) (.int x4)).bind fun μ5 =>
    some (.inl ((v4 + (1 : Int32)), μ5))
def f_X10_append (Y : jY) (v0 : Nat) (v1 : Nat) (v2 : Int32) (μ : jM) : Option (jM) :=
  (jgI Y μ v1 10 0).bind fun x1 =>
  (jgO Y μ v0 10 2).bind fun x2 =>
  (jgI Y μ v0 10 0).bind fun x3 =>
  (jas Y μ x2 20 ((x3 - ((1 : Int32)))) (.int v2)).bind fun μ4 =>
  jit jF (fun (s : Int32 × jM) => b_X10_append_20 Y v0 v1 x1 s.1 s.2) ((0 : Int32), μ4)
set_option maxRecDepth 10000 in
theorem t_X10_append_54 {X : jX} {l : Launch} {n : Nat} {Y : jY} (K : jOK X RX10 cX10_append 5 none 1) (hl : X.2.1 = l) {μr : jM} {v0 : Nat} {v1 : Nat} {v3 : Int32} {v4 : Int32} {μ : jM} {z : ((Int32 × jM) ⊕ (jM))} (H : b_X10_append_54 Y v0 v1 v3 v4 μ = some z) (D : Sum.elim (fun (s : Int32 × jM) => JW X (jEnd X n Y none μr 0 0) 0 0 n Y 54 [(0, .ref v0), (1, .ref v1), (3, .int v3), (4, .int s.1)] [] s.2) (fun r => r = μr) z) : JW X (jEnd X n Y none μr 0 0) 0 0 n Y 54 [(0, .ref v0), (1, .ref v1), (3, .int v3), (4, .int v4)] [] μ := by
  unfold b_X10_append_54 at H
  refine r_iload K 3 dX10_append_54 rfl ?_
  refine r_iload_n K 2 dX10_append_56 rfl rfl ?_
  refine r_iconst (v := 1) K dX10_append_57 (by decide) ?_
  refine r_isub K dX10_append_58 ?_
  refine w_icmp_ge K 87 dX10_append_59 (by decide) H (fun _ H => ?_) (fun _ H => ?_)
  · refine r_aload_n K 0 dX10_append_87 rfl rfl ?_
    refine r_dup K dX10_append_88 rfl ?_
    refine w_getI K vc10 inX10 0 (by decide) mF_RX10_9 dX10_append_89 H (fun x1 H => ?_)
    refine r_iload_n K 2 dX10_append_92 rfl rfl ?_
    refine r_iadd K dX10_append_93 ?_
    refine w_put K vc10 inX10 tyX10_ok nmX10 0 (by decide) mF_RX10_9 rfl (fun _ => rfl) (fun _ => rfl) dX10_append_94 H (fun μ2 H => ?_)
    cases H
    simp only [Sum.elim_inr] at D
    subst D
    exact r_vret K dX10_append_97
  · refine r_aload_n K 0 dX10_append_62 rfl rfl ?_
    refine w_getO K vc10 inX10 2 (by decide) mF_RX10_19 dX10_append_63 H (fun x3 H => ?_)
    refine r_aload_n K 0 dX10_append_66 rfl rfl ?_
    refine w_getI K vc10 inX10 0 (by decide) mF_RX10_9 dX10_append_67 H (fun x4 H => ?_)
    refine r_iload K 3 dX10_append_70 rfl ?_
    refine r_iadd K dX10_append_72 ?_
    refine r_aload_n K 1 dX10_append_73 rfl rfl ?_
    refine w_getO K vc10 inX10 2 (by decide) mF_RX10_19 dX10_append_74 H (fun x5 H => ?_)
    refine r_iload K 3 dX10_append_77 rfl ?_
    refine w_iald K dX10_append_79 H (fun x6 H => ?_)
    refine w_iast K dX10_append_80 H (fun μ7 H => ?_)
    refine r_iinc K 3 [(4, .int _), (0, .ref _), (1, .ref _), (3, .int _)] (v := _ + (1 : Int32)) dX10_append_81 rfl rfl (by decide) rfl ?_
    refine r_goto K 54 dX10_append_84 (by decide) ?_
    cases H
    exact r_sub [1, 2, 3, 0] rfl D
set_option maxRecDepth 10000 in
theorem l_X10_append_54 {X : jX} {l : Launch} {n : Nat} {Y : jY} (K : jOK X RX10 cX10_append 5 none 1) (hl : X.2.1 = l) {μr : jM} {v0 : Nat} {v1 : Nat} {v3 : Int32}  {s0 : Int32 × jM} {z : (jM)} (H : jit jF (fun (s : Int32 × jM) => b_X10_append_54 Y v0 v1 v3 s.1 s.2) s0 = some z) (D : z = μr) : JW X (jEnd X n Y none μr 0 0) 0 0 n Y 54 [(0, .ref v0), (1, .ref v1), (3, .int v3), (4, .int s0.1)] [] s0.2 :=
  jit_ind (P := fun (s : Int32 × jM) => JW X (jEnd X n Y none μr 0 0) 0 0 n Y 54 [(0, .ref v0), (1, .ref v1), (3, .int v3), (4, .int s.1)] [] s.2) (D := fun r => r = μr) (fun s z Hs Ds => t_X10_append_54 K hl Hs Ds) jF s0 z H D
set_option maxRecDepth 10000 in
theorem t_X10_append_20 {X : jX} {l : Launch} {n : Nat} {Y : jY} (K : jOK X RX10 cX10_append 5 none 1) (hl : X.2.1 = l) {μr : jM} {v0 : Nat} {v1 : Nat} {v3 : Int32} {v4 : Int32} {μ : jM} {z : ((Int32 × jM) ⊕ (jM))} (H : b_X10_append_20 Y v0 v1 v3 v4 μ = some z) (D : Sum.elim (fun (s : Int32 × jM) => JW X (jEnd X n Y none μr 0 0) 0 0 n Y 20 [(0, .ref v0), (1, .ref v1), (3, .int v3), (4, .int s.1)] [] s.2) (fun r => r = μr) z) : JW X (jEnd X n Y none μr 0 0) 0 0 n Y 20 [(0, .ref v0), (1, .ref v1), (3, .int v3), (4, .int v4)] [] μ := by
  unfold b_X10_append_20 at H
  refine r_iload K 3 dX10_append_20 rfl ?_
  refine r_iload_n K 2 dX10_append_22 rfl rfl ?_
  refine w_icmp_ge K 51 dX10_append_23 (by decide) H (fun _ H => ?_) (fun _ H => ?_)
  · refine r_iconst (v := 0) K dX10_append_51 (by decide) ?_
    refine r_istore K [(4, .int _), (0, .ref _), (1, .ref _), (3, .int _)] dX10_append_52 (by decide) rfl ?_
    obtain ⟨z2, H2, rfl⟩ := jmap H
    exact r_sub [1, 2, 3, 0] rfl (l_X10_append_54 K hl H2 D)
  · refine r_aload_n K 0 dX10_append_26 rfl rfl ?_
    refine w_getO K vc10 inX10 1 (by decide) mF_RX10_15 dX10_append_27 H (fun x1 H => ?_)
    refine r_aload_n K 0 dX10_append_30 rfl rfl ?_
    refine w_getI K vc10 inX10 0 (by decide) mF_RX10_9 dX10_append_31 H (fun x2 H => ?_)
    refine r_iload K 3 dX10_append_34 rfl ?_
    refine r_iadd K dX10_append_36 ?_
    refine r_aload_n K 1 dX10_append_37 rfl rfl ?_
    refine w_getO K vc10 inX10 1 (by decide) mF_RX10_15 dX10_append_38 H (fun x3 H => ?_)
    refine r_iload K 3 dX10_append_41 rfl ?_
    refine w_iald K dX10_append_43 H (fun x4 H => ?_)
    refine w_iast K dX10_append_44 H (fun μ5 H => ?_)
    refine r_iinc K 3 [(4, .int _), (0, .ref _), (1, .ref _), (3, .int _)] (v := _ + (1 : Int32)) dX10_append_45 rfl rfl (by decide) rfl ?_
    refine r_goto K 20 dX10_append_48 (by decide) ?_
    cases H
    exact r_sub [1, 2, 3, 0] rfl D
set_option maxRecDepth 10000 in
theorem l_X10_append_20 {X : jX} {l : Launch} {n : Nat} {Y : jY} (K : jOK X RX10 cX10_append 5 none 1) (hl : X.2.1 = l) {μr : jM} {v0 : Nat} {v1 : Nat} {v3 : Int32}  {s0 : Int32 × jM} {z : (jM)} (H : jit jF (fun (s : Int32 × jM) => b_X10_append_20 Y v0 v1 v3 s.1 s.2) s0 = some z) (D : z = μr) : JW X (jEnd X n Y none μr 0 0) 0 0 n Y 20 [(0, .ref v0), (1, .ref v1), (3, .int v3), (4, .int s0.1)] [] s0.2 :=
  jit_ind (P := fun (s : Int32 × jM) => JW X (jEnd X n Y none μr 0 0) 0 0 n Y 20 [(0, .ref v0), (1, .ref v1), (3, .int v3), (4, .int s.1)] [] s.2) (D := fun r => r = μr) (fun s z Hs Ds => t_X10_append_20 K hl Hs Ds) jF s0 z H D
set_option maxRecDepth 10000 in
theorem t_X10_append_0 {X : jX} {l : Launch} {n : Nat} {Y : jY} (K : jOK X RX10 cX10_append 5 none 1) (hl : X.2.1 = l) {μr : jM} {v0 : Nat} {v1 : Nat} {v2 : Int32} {μ : jM} {z : (jM)} (H : f_X10_append Y v0 v1 v2 μ = some z) (D : z = μr) : JW X (jEnd X n Y none μr 0 0) 0 0 n Y 0 [(0, .ref v0), (1, .ref v1), (2, .int v2)] [] μ := by
  unfold f_X10_append at H
  refine r_aload_n K 1 dX10_append_0 rfl rfl ?_
  refine w_getI K vc10 inX10 0 (by decide) mF_RX10_9 dX10_append_1 H (fun x1 H => ?_)
  refine r_istore_n K [(3, .int _), (0, .ref _), (1, .ref _), (2, .int _)] dX10_append_4 rfl (by decide) rfl ?_
  refine r_aload_n K 1 dX10_append_5 rfl rfl ?_
  refine w_getO K vc10 inX10 2 (by decide) mF_RX10_19 dX10_append_6 H (fun x2 H => ?_)
  refine r_aload_n K 1 dX10_append_9 rfl rfl ?_
  refine w_getI K vc10 inX10 0 (by decide) mF_RX10_9 dX10_append_10 H (fun x3 H => ?_)
  refine r_iconst (v := 1) K dX10_append_13 (by decide) ?_
  refine r_isub K dX10_append_14 ?_
  refine r_iload_n K 3 dX10_append_15 rfl rfl ?_
  refine w_iast K dX10_append_16 H (fun μ4 H => ?_)
  refine r_iconst (v := 0) K dX10_append_17 (by decide) ?_
  refine r_istore K [(4, .int _), (3, .int _), (0, .ref _), (1, .ref _), (2, .int _)] dX10_append_18 (by decide) rfl ?_
  exact r_sub [2, 3, 1, 0] rfl (l_X10_append_20 K hl H D)
theorem c_X10_append (l : Launch) {n : Nat} {Y : jY} {v0 : Nat} {v1 : Nat} {v2 : Int32} {μ : jM} {z : jM} (H : f_X10_append Y v0 v1 v2 μ = some z) : jC l yX10_append cX10_append 5 none 1 0 0 [.ref v0, .ref v1, .int v2] n Y μ n Y none z := by
  refine jC_of (by decide +kernel) (Nat.le_of_ble_eq_true rfl) (fun X hl K _ _ _ => ?_)
  exact t_X10_append_0 K hl H rfl
/-! RX10 numberAt(ZI)I -/
def b_X10_numberAt_19 (Y : jY) (t0 : Int32) (μ : jM) : Option (Int32 × jM) :=
  some (t0, μ)
def f_X10_numberAt (Y : jY) (v0 : Nat) (v1 : Int32) (v2 : Int32) (μ : jM) : Option (Int32 × jM) :=
  if v1 = 0 then
    (jgO Y μ v0 10 2).bind fun x1 =>
    (jaI Y μ x1 20 v2).bind fun x2 =>
    b_X10_numberAt_19 Y x2 μ
  else
    (jgO Y μ v0 10 1).bind fun x3 =>
    (jaI Y μ x3 20 v2).bind fun x4 =>
    b_X10_numberAt_19 Y x4 μ
set_option maxRecDepth 10000 in
theorem t_X10_numberAt_19 {X : jX} {l : Launch} {n : Nat} {Y : jY} (K : jOK X RX10 cX10_numberAt 3 (some .int) 1) (hl : X.2.1 = l) {rr : Int32} {μr : jM} {t0 : Int32} {μ : jM} {z : (Int32 × jM)} (H : b_X10_numberAt_19 Y t0 μ = some z) (D : z = (rr, μr)) : JW X (jEnd X n Y (some (.int rr)) μr 0 0) 0 0 n Y 19 [] [.int t0] μ := by
  unfold b_X10_numberAt_19 at H
  cases H
  obtain ⟨rfl, rfl⟩ := jfin2 D
  exact r_iret K dX10_numberAt_19
set_option maxRecDepth 10000 in
theorem t_X10_numberAt_0 {X : jX} {l : Launch} {n : Nat} {Y : jY} (K : jOK X RX10 cX10_numberAt 3 (some .int) 1) (hl : X.2.1 = l) {rr : Int32} {μr : jM} {v0 : Nat} {v1 : Int32} {v2 : Int32} {μ : jM} {z : (Int32 × jM)} (H : f_X10_numberAt Y v0 v1 v2 μ = some z) (D : z = (rr, μr)) : JW X (jEnd X n Y (some (.int rr)) μr 0 0) 0 0 n Y 0 [(0, .ref v0), (1, .int v1), (2, .int v2)] [] μ := by
  unfold f_X10_numberAt at H
  refine r_iload_n K 1 dX10_numberAt_0 rfl rfl ?_
  refine w_if_eq K 13 dX10_numberAt_1 (by decide) H (fun _ H => ?_) (fun _ H => ?_)
  · refine r_aload_n K 0 dX10_numberAt_13 rfl rfl ?_
    refine w_getO K vc10 inX10 2 (by decide) mF_RX10_19 dX10_numberAt_14 H (fun x1 H => ?_)
    refine r_iload_n K 2 dX10_numberAt_17 rfl rfl ?_
    refine w_iald K dX10_numberAt_18 H (fun x2 H => ?_)
    exact r_sub [] rfl (t_X10_numberAt_19 K hl H D)
  · refine r_aload_n K 0 dX10_numberAt_4 rfl rfl ?_
    refine w_getO K vc10 inX10 1 (by decide) mF_RX10_15 dX10_numberAt_5 H (fun x3 H => ?_)
    refine r_iload_n K 2 dX10_numberAt_8 rfl rfl ?_
    refine w_iald K dX10_numberAt_9 H (fun x4 H => ?_)
    refine r_goto K 19 dX10_numberAt_10 (by decide) ?_
    exact r_sub [] rfl (t_X10_numberAt_19 K hl H D)
theorem c_X10_numberAt (l : Launch) {n : Nat} {Y : jY} {v0 : Nat} {v1 : Int32} {v2 : Int32} {μ : jM} {z : Int32 × jM} (H : f_X10_numberAt Y v0 v1 v2 μ = some z) : jC l yX10_numberAt cX10_numberAt 3 (some .int) 1 0 0 [.ref v0, .int v1, .int v2] n Y μ n Y (some (.int z.1)) z.2 := by
  refine jC_of (by decide +kernel) (Nat.le_of_ble_eq_true rfl) (fun X hl K _ _ _ => ?_)
  obtain ⟨rr, μr⟩ := z
  exact t_X10_numberAt_0 K hl H rfl
/-! RX10 draw(II)I -/
def b_X10_draw_49 (Y : jY) (v0 : Nat) (v1 : Int32) (v3 : Int32) (v4 : Int32) (μ : jM) : Option ((Int32 × Int32 × jM) ⊕ (Int32 × jM)) :=
  if ((v1 - ((1 : Int32)))) ≤ v4 then
    some (.inr (v3, μ))
  else
    (f_X10_drawnBehind Y v3 μ).bind fun r1 =>
    (jgO Y r1.2 v0 10 2).bind fun x2 =>
    (jdivI r1.1 ((4 : Int32))).bind fun x3 =>
    (jremI x3 ((36 : Int32))).bind fun x4 =>
    (jas Y r1.2 x2 20 v4 (.int ((x4 + ((1 : Int32)))))).bind fun μ5 =>
    some (.inl (r1.1, (v4 + (1 : Int32)), μ5))
def b_X10_draw_13 (Y : jY) (v0 : Nat) (v1 : Int32) (v3 : Int32) (v4 : Int32) (μ : jM) : Option ((Int32 × Int32 × jM) ⊕ (Int32 × jM)) :=
  if v1 ≤ v4 then
    (jit jF (fun (s : Int32 × Int32 × jM) => b_X10_draw_49 Y v0 v1 s.1 s.2.1 s.2.2) (v3, (0 : Int32), μ)).map (fun r => (.inr r))
  else
    (f_X10_drawnBehind Y v3 μ).bind fun r1 =>
    (jgO Y r1.2 v0 10 1).bind fun x2 =>
    (jdivI r1.1 ((4 : Int32))).bind fun x3 =>
    (jremI x3 ((13 : Int32))).bind fun x4 =>
    (jas Y r1.2 x2 20 v4 (.int ((x4 - ((6 : Int32)))))).bind fun μ5 =>
    some (.inl (r1.1, (v4 + (1 : Int32)), μ5))
def f_X10_draw (Y : jY) (v0 : Nat) (v1 : Int32) (v2 : Int32) (μ : jM) : Option (Int32 × jM) :=
  (jput Y μ v0 10 0 (.int v1)).bind fun μ1 =>
  jit jF (fun (s : Int32 × Int32 × jM) => b_X10_draw_13 Y v0 v1 s.1 s.2.1 s.2.2) ((v2 &&& ((65535 : Int32))), (0 : Int32), μ1)
set_option maxRecDepth 10000 in
theorem t_X10_draw_49 {X : jX} {l : Launch} {n : Nat} {Y : jY} (K : jOK X RX10 cX10_draw 5 (some .int) 2) (hl : X.2.1 = l) {rr : Int32} {μr : jM} {v0 : Nat} {v1 : Int32} {v3 : Int32} {v4 : Int32} {μ : jM} {z : ((Int32 × Int32 × jM) ⊕ (Int32 × jM))} (H : b_X10_draw_49 Y v0 v1 v3 v4 μ = some z) (D : Sum.elim (fun (s : Int32 × Int32 × jM) => JW X (jEnd X n Y (some (.int rr)) μr 0 0) 0 0 n Y 49 [(0, .ref v0), (1, .int v1), (3, .int s.1), (4, .int s.2.1)] [] s.2.2) (fun r => r = (rr, μr)) z) : JW X (jEnd X n Y (some (.int rr)) μr 0 0) 0 0 n Y 49 [(0, .ref v0), (1, .int v1), (3, .int v3), (4, .int v4)] [] μ := by
  unfold b_X10_draw_49 at H
  refine r_iload K 3 dX10_draw_49 rfl ?_
  refine r_iload_n K 1 dX10_draw_51 rfl rfl ?_
  refine r_iconst (v := 1) K dX10_draw_52 (by decide) ?_
  refine r_isub K dX10_draw_53 ?_
  refine w_icmp_ge K 83 dX10_draw_54 (by decide) H (fun _ H => ?_) (fun _ H => ?_)
  · refine r_iload_n K 2 dX10_draw_83 rfl rfl ?_
    cases H
    simp only [Sum.elim_inr] at D
    obtain ⟨rfl, rfl⟩ := jfin2 D
    exact r_iret K dX10_draw_84
  · refine r_iload_n K 2 dX10_draw_57 rfl rfl ?_
    refine w_callS K hl H (fun r h => c_X10_drawnBehind l h) mC_yX10_drawnBehind mM_RX10_104 mT_yX10_drawnBehind mZ_RX10 (Nat.le_of_ble_eq_true rfl) (Nat.le_of_ble_eq_true rfl) np_yX10_drawnBehind rfl (Nat.le_of_ble_eq_true rfl) dX10_draw_58 (fun r1 H => ?_) ⟨Nat.zero_le _, Nat.zero_le _⟩
    refine r_istore_n K [(3, .int _), (0, .ref _), (1, .int _), (4, .int _)] dX10_draw_61 rfl (by decide) rfl ?_
    refine r_aload_n K 1 dX10_draw_62 rfl rfl ?_
    refine w_getO K vc10 inX10 2 (by decide) mF_RX10_19 dX10_draw_63 H (fun x2 H => ?_)
    refine r_iload K 3 dX10_draw_66 rfl ?_
    refine r_iload_n K 0 dX10_draw_68 rfl rfl ?_
    refine r_iconst (v := 4) K dX10_draw_69 (by decide) ?_
    refine w_idiv K dX10_draw_70 H (fun x3 H => ?_)
    refine r_bipush (v := 36) K dX10_draw_71 (by decide) ?_
    refine w_irem K dX10_draw_73 H (fun x4 H => ?_)
    refine r_iconst (v := 1) K dX10_draw_74 (by decide) ?_
    refine r_iadd K dX10_draw_75 ?_
    refine w_iast K dX10_draw_76 H (fun μ5 H => ?_)
    refine r_iinc K 3 [(4, .int _), (3, .int _), (0, .ref _), (1, .int _)] (v := _ + (1 : Int32)) dX10_draw_77 rfl rfl (by decide) rfl ?_
    refine r_goto K 49 dX10_draw_80 (by decide) ?_
    cases H
    exact r_sub [2, 3, 1, 0] rfl D
set_option maxRecDepth 10000 in
theorem l_X10_draw_49 {X : jX} {l : Launch} {n : Nat} {Y : jY} (K : jOK X RX10 cX10_draw 5 (some .int) 2) (hl : X.2.1 = l) {rr : Int32} {μr : jM} {v0 : Nat} {v1 : Int32}  {s0 : Int32 × Int32 × jM} {z : (Int32 × jM)} (H : jit jF (fun (s : Int32 × Int32 × jM) => b_X10_draw_49 Y v0 v1 s.1 s.2.1 s.2.2) s0 = some z) (D : z = (rr, μr)) : JW X (jEnd X n Y (some (.int rr)) μr 0 0) 0 0 n Y 49 [(0, .ref v0), (1, .int v1), (3, .int s0.1), (4, .int s0.2.1)] [] s0.2.2 :=
  jit_ind (P := fun (s : Int32 × Int32 × jM) => JW X (jEnd X n Y (some (.int rr)) μr 0 0) 0 0 n Y 49 [(0, .ref v0), (1, .int v1), (3, .int s.1), (4, .int s.2.1)] [] s.2.2) (D := fun r => r = (rr, μr)) (fun s z Hs Ds => t_X10_draw_49 K hl Hs Ds) jF s0 z H D
set_option maxRecDepth 10000 in
theorem t_X10_draw_13 {X : jX} {l : Launch} {n : Nat} {Y : jY} (K : jOK X RX10 cX10_draw 5 (some .int) 2) (hl : X.2.1 = l) {rr : Int32} {μr : jM} {v0 : Nat} {v1 : Int32} {v3 : Int32} {v4 : Int32} {μ : jM} {z : ((Int32 × Int32 × jM) ⊕ (Int32 × jM))} (H : b_X10_draw_13 Y v0 v1 v3 v4 μ = some z) (D : Sum.elim (fun (s : Int32 × Int32 × jM) => JW X (jEnd X n Y (some (.int rr)) μr 0 0) 0 0 n Y 13 [(0, .ref v0), (1, .int v1), (3, .int s.1), (4, .int s.2.1)] [] s.2.2) (fun r => r = (rr, μr)) z) : JW X (jEnd X n Y (some (.int rr)) μr 0 0) 0 0 n Y 13 [(0, .ref v0), (1, .int v1), (3, .int v3), (4, .int v4)] [] μ := by
  unfold b_X10_draw_13 at H
  refine r_iload K 3 dX10_draw_13 rfl ?_
  refine r_iload_n K 1 dX10_draw_15 rfl rfl ?_
  refine w_icmp_ge K 46 dX10_draw_16 (by decide) H (fun _ H => ?_) (fun _ H => ?_)
  · refine r_iconst (v := 0) K dX10_draw_46 (by decide) ?_
    refine r_istore K [(4, .int _), (0, .ref _), (1, .int _), (3, .int _)] dX10_draw_47 (by decide) rfl ?_
    obtain ⟨z2, H2, rfl⟩ := jmap H
    exact r_sub [1, 2, 3, 0] rfl (l_X10_draw_49 K hl H2 D)
  · refine r_iload_n K 2 dX10_draw_19 rfl rfl ?_
    refine w_callS K hl H (fun r h => c_X10_drawnBehind l h) mC_yX10_drawnBehind mM_RX10_104 mT_yX10_drawnBehind mZ_RX10 (Nat.le_of_ble_eq_true rfl) (Nat.le_of_ble_eq_true rfl) np_yX10_drawnBehind rfl (Nat.le_of_ble_eq_true rfl) dX10_draw_20 (fun r1 H => ?_) ⟨Nat.zero_le _, Nat.zero_le _⟩
    refine r_istore_n K [(3, .int _), (0, .ref _), (1, .int _), (4, .int _)] dX10_draw_23 rfl (by decide) rfl ?_
    refine r_aload_n K 1 dX10_draw_24 rfl rfl ?_
    refine w_getO K vc10 inX10 1 (by decide) mF_RX10_15 dX10_draw_25 H (fun x2 H => ?_)
    refine r_iload K 3 dX10_draw_28 rfl ?_
    refine r_iload_n K 0 dX10_draw_30 rfl rfl ?_
    refine r_iconst (v := 4) K dX10_draw_31 (by decide) ?_
    refine w_idiv K dX10_draw_32 H (fun x3 H => ?_)
    refine r_bipush (v := 13) K dX10_draw_33 (by decide) ?_
    refine w_irem K dX10_draw_35 H (fun x4 H => ?_)
    refine r_bipush (v := 6) K dX10_draw_36 (by decide) ?_
    refine r_isub K dX10_draw_38 ?_
    refine w_iast K dX10_draw_39 H (fun μ5 H => ?_)
    refine r_iinc K 3 [(4, .int _), (3, .int _), (0, .ref _), (1, .int _)] (v := _ + (1 : Int32)) dX10_draw_40 rfl rfl (by decide) rfl ?_
    refine r_goto K 13 dX10_draw_43 (by decide) ?_
    cases H
    exact r_sub [2, 3, 1, 0] rfl D
set_option maxRecDepth 10000 in
theorem l_X10_draw_13 {X : jX} {l : Launch} {n : Nat} {Y : jY} (K : jOK X RX10 cX10_draw 5 (some .int) 2) (hl : X.2.1 = l) {rr : Int32} {μr : jM} {v0 : Nat} {v1 : Int32}  {s0 : Int32 × Int32 × jM} {z : (Int32 × jM)} (H : jit jF (fun (s : Int32 × Int32 × jM) => b_X10_draw_13 Y v0 v1 s.1 s.2.1 s.2.2) s0 = some z) (D : z = (rr, μr)) : JW X (jEnd X n Y (some (.int rr)) μr 0 0) 0 0 n Y 13 [(0, .ref v0), (1, .int v1), (3, .int s0.1), (4, .int s0.2.1)] [] s0.2.2 :=
  jit_ind (P := fun (s : Int32 × Int32 × jM) => JW X (jEnd X n Y (some (.int rr)) μr 0 0) 0 0 n Y 13 [(0, .ref v0), (1, .int v1), (3, .int s.1), (4, .int s.2.1)] [] s.2.2) (D := fun r => r = (rr, μr)) (fun s z Hs Ds => t_X10_draw_13 K hl Hs Ds) jF s0 z H D
set_option maxRecDepth 10000 in
theorem t_X10_draw_0 {X : jX} {l : Launch} {n : Nat} {Y : jY} (K : jOK X RX10 cX10_draw 5 (some .int) 2) (hl : X.2.1 = l) {rr : Int32} {μr : jM} {v0 : Nat} {v1 : Int32} {v2 : Int32} {μ : jM} {z : (Int32 × jM)} (H : f_X10_draw Y v0 v1 v2 μ = some z) (D : z = (rr, μr)) : JW X (jEnd X n Y (some (.int rr)) μr 0 0) 0 0 n Y 0 [(0, .ref v0), (1, .int v1), (2, .int v2)] [] μ := by
  unfold f_X10_draw at H
  refine r_aload_n K 0 dX10_draw_0 rfl rfl ?_
  refine r_iload_n K 1 dX10_draw_1 rfl rfl ?_
  refine w_put K vc10 inX10 tyX10_ok nmX10 0 (by decide) mF_RX10_9 rfl (fun _ => rfl) (fun _ => rfl) dX10_draw_2 H (fun μ1 H => ?_)
  refine r_iload_n K 2 dX10_draw_5 rfl rfl ?_
  refine r_ldc K (65535) mc_RX10_103 dX10_draw_6 ?_
  refine r_iand K dX10_draw_8 ?_
  refine r_istore_n K [(3, .int _), (0, .ref _), (1, .int _), (2, .int _)] dX10_draw_9 rfl (by decide) rfl ?_
  refine r_iconst (v := 0) K dX10_draw_10 (by decide) ?_
  refine r_istore K [(4, .int _), (3, .int _), (0, .ref _), (1, .int _), (2, .int _)] dX10_draw_11 (by decide) rfl ?_
  exact r_sub [2, 3, 1, 0] rfl (l_X10_draw_13 K hl H D)
theorem c_X10_draw (l : Launch) {n : Nat} {Y : jY} {v0 : Nat} {v1 : Int32} {v2 : Int32} {μ : jM} {z : Int32 × jM} (H : f_X10_draw Y v0 v1 v2 μ = some z) : jC l yX10_draw cX10_draw 5 (some .int) 2 0 0 [.ref v0, .int v1, .int v2] n Y μ n Y (some (.int z.1)) z.2 := by
  refine jC_of (by decide +kernel) (Nat.le_of_ble_eq_true rfl) (fun X hl K _ _ _ => ?_)
  obtain ⟨rr, μr⟩ := z
  exact t_X10_draw_0 K hl H rfl
/-! RX10 raise(I)Z -/
def b_X10_raise_35 (Y : jY) (v0 : Nat) (v1 : Int32) (v2 : Int32) (μ : jM) : Option ((Int32 × jM) ⊕ (Int32 × jM)) :=
  (jgI Y μ v0 10 0).bind fun x1 =>
  if x1 ≤ v2 then
    (jbool ((1 : Int32))).bind fun x2 =>
    some (.inr (x2, μ))
  else
    (jgO Y μ v0 10 1).bind fun x3 =>
    (jaI Y μ x3 20 v2).bind fun x4 =>
    (jas Y μ x3 20 v2 (.int ((x4 + v1)))).bind fun μ5 =>
    some (.inl ((v2 + (1 : Int32)), μ5))
def b_X10_raise_2 (Y : jY) (v0 : Nat) (v1 : Int32) (v2 : Int32) (μ : jM) : Option ((Int32 × jM) ⊕ (Int32 × jM)) :=
  (jgI Y μ v0 10 0).bind fun x1 =>
  if x1 ≤ v2 then
    (jit jF (fun (s : Int32 × jM) => b_X10_raise_35 Y v0 v1 s.1 s.2) ((0 : Int32), μ)).map (fun r => (.inr r))
  else
    (jgO Y μ v0 10 1).bind fun x2 =>
    (jaI Y μ x2 20 v2).bind fun x3 =>
    (f_X10_canBe Y ((1 : Int32)) ((x3 + v1)) μ).bind fun r4 =>
    if r4.1 = 0 then
      (jbool ((0 : Int32))).bind fun x5 =>
      some (.inr (x5, r4.2))
    else
      some (.inl ((v2 + (1 : Int32)), r4.2))
def f_X10_raise (Y : jY) (v0 : Nat) (v1 : Int32) (μ : jM) : Option (Int32 × jM) :=
  jit jF (fun (s : Int32 × jM) => b_X10_raise_2 Y v0 v1 s.1 s.2) ((0 : Int32), μ)
set_option maxRecDepth 10000 in
theorem t_X10_raise_35 {X : jX} {l : Launch} {n : Nat} {Y : jY} (K : jOK X RX10 cX10_raise 3 (some .boolean) 3) (hl : X.2.1 = l) {rr : Int32} {μr : jM} {v0 : Nat} {v1 : Int32} {v2 : Int32} {μ : jM} {z : ((Int32 × jM) ⊕ (Int32 × jM))} (H : b_X10_raise_35 Y v0 v1 v2 μ = some z) (D : Sum.elim (fun (s : Int32 × jM) => JW X (jEnd X n Y (some (.int rr)) μr 0 0) 0 0 n Y 35 [(0, .ref v0), (1, .int v1), (2, .int s.1)] [] s.2) (fun r => r = (rr, μr)) z) : JW X (jEnd X n Y (some (.int rr)) μr 0 0) 0 0 n Y 35 [(0, .ref v0), (1, .int v1), (2, .int v2)] [] μ := by
  unfold b_X10_raise_35 at H
  refine r_iload_n K 2 dX10_raise_35 rfl rfl ?_
  refine r_aload_n K 0 dX10_raise_36 rfl rfl ?_
  refine w_getI K vc10 inX10 0 (by decide) mF_RX10_9 dX10_raise_37 H (fun x1 H => ?_)
  refine w_icmp_ge K 59 dX10_raise_40 (by decide) H (fun _ H => ?_) (fun _ H => ?_)
  · refine r_iconst (v := 1) K dX10_raise_59 (by decide) ?_
    refine w_zret K dX10_raise_60 H (fun hz H => ?_)
    cases H
    simp only [Sum.elim_inr] at D
    obtain ⟨rfl, rfl⟩ := jfin2 D
    exact r_zret K hz dX10_raise_60
  · refine r_aload_n K 0 dX10_raise_43 rfl rfl ?_
    refine w_getO K vc10 inX10 1 (by decide) mF_RX10_15 dX10_raise_44 H (fun x3 H => ?_)
    refine r_iload_n K 2 dX10_raise_47 rfl rfl ?_
    refine r_dup2_11 K dX10_raise_48 rfl rfl ?_
    refine w_iald K dX10_raise_49 H (fun x4 H => ?_)
    refine r_iload_n K 1 dX10_raise_50 rfl rfl ?_
    refine r_iadd K dX10_raise_51 ?_
    refine w_iast K dX10_raise_52 H (fun μ5 H => ?_)
    refine r_iinc K 2 [(2, .int _), (0, .ref _), (1, .int _)] (v := _ + (1 : Int32)) dX10_raise_53 rfl rfl (by decide) rfl ?_
    refine r_goto K 35 dX10_raise_56 (by decide) ?_
    cases H
    exact r_sub [1, 2, 0] rfl D
set_option maxRecDepth 10000 in
theorem l_X10_raise_35 {X : jX} {l : Launch} {n : Nat} {Y : jY} (K : jOK X RX10 cX10_raise 3 (some .boolean) 3) (hl : X.2.1 = l) {rr : Int32} {μr : jM} {v0 : Nat} {v1 : Int32}  {s0 : Int32 × jM} {z : (Int32 × jM)} (H : jit jF (fun (s : Int32 × jM) => b_X10_raise_35 Y v0 v1 s.1 s.2) s0 = some z) (D : z = (rr, μr)) : JW X (jEnd X n Y (some (.int rr)) μr 0 0) 0 0 n Y 35 [(0, .ref v0), (1, .int v1), (2, .int s0.1)] [] s0.2 :=
  jit_ind (P := fun (s : Int32 × jM) => JW X (jEnd X n Y (some (.int rr)) μr 0 0) 0 0 n Y 35 [(0, .ref v0), (1, .int v1), (2, .int s.1)] [] s.2) (D := fun r => r = (rr, μr)) (fun s z Hs Ds => t_X10_raise_35 K hl Hs Ds) jF s0 z H D
set_option maxRecDepth 10000 in
theorem t_X10_raise_2 {X : jX} {l : Launch} {n : Nat} {Y : jY} (K : jOK X RX10 cX10_raise 3 (some .boolean) 3) (hl : X.2.1 = l) {rr : Int32} {μr : jM} {v0 : Nat} {v1 : Int32} {v2 : Int32} {μ : jM} {z : ((Int32 × jM) ⊕ (Int32 × jM))} (H : b_X10_raise_2 Y v0 v1 v2 μ = some z) (D : Sum.elim (fun (s : Int32 × jM) => JW X (jEnd X n Y (some (.int rr)) μr 0 0) 0 0 n Y 2 [(0, .ref v0), (1, .int v1), (2, .int s.1)] [] s.2) (fun r => r = (rr, μr)) z) : JW X (jEnd X n Y (some (.int rr)) μr 0 0) 0 0 n Y 2 [(0, .ref v0), (1, .int v1), (2, .int v2)] [] μ := by
  unfold b_X10_raise_2 at H
  refine r_iload_n K 2 dX10_raise_2 rfl rfl ?_
  refine r_aload_n K 0 dX10_raise_3 rfl rfl ?_
  refine w_getI K vc10 inX10 0 (by decide) mF_RX10_9 dX10_raise_4 H (fun x1 H => ?_)
  refine w_icmp_ge K 33 dX10_raise_7 (by decide) H (fun _ H => ?_) (fun _ H => ?_)
  · refine r_iconst (v := 0) K dX10_raise_33 (by decide) ?_
    refine r_istore_n K [(2, .int _), (0, .ref _), (1, .int _)] dX10_raise_34 rfl (by decide) rfl ?_
    obtain ⟨z2, H2, rfl⟩ := jmap H
    exact r_sub [1, 2, 0] rfl (l_X10_raise_35 K hl H2 D)
  · refine r_iconst (v := 1) K dX10_raise_10 (by decide) ?_
    refine r_aload_n K 0 dX10_raise_11 rfl rfl ?_
    refine w_getO K vc10 inX10 1 (by decide) mF_RX10_15 dX10_raise_12 H (fun x2 H => ?_)
    refine r_iload_n K 2 dX10_raise_15 rfl rfl ?_
    refine w_iald K dX10_raise_16 H (fun x3 H => ?_)
    refine r_iload_n K 1 dX10_raise_17 rfl rfl ?_
    refine r_iadd K dX10_raise_18 ?_
    refine w_callS K hl H (fun r h => c_X10_canBe l h) mC_yX10_canBe mM_RX10_99 mT_yX10_canBe mZ_RX10 (Nat.le_of_ble_eq_true rfl) (Nat.le_of_ble_eq_true rfl) np_yX10_canBe rfl (Nat.le_of_ble_eq_true rfl) dX10_raise_19 (fun r4 H => ?_) ⟨Nat.zero_le _, Nat.zero_le _⟩
    refine w_if_ne K 27 dX10_raise_22 (by decide) H (fun _ H => ?_) (fun _ H => ?_)
    · refine r_iinc K 2 [(2, .int _), (0, .ref _), (1, .int _)] (v := _ + (1 : Int32)) dX10_raise_27 rfl rfl (by decide) rfl ?_
      refine r_goto K 2 dX10_raise_30 (by decide) ?_
      cases H
      exact r_sub [1, 2, 0] rfl D
    · refine r_iconst (v := 0) K dX10_raise_25 (by decide) ?_
      refine w_zret K dX10_raise_26 H (fun hz H => ?_)
      cases H
      simp only [Sum.elim_inr] at D
      obtain ⟨rfl, rfl⟩ := jfin2 D
      exact r_zret K hz dX10_raise_26
set_option maxRecDepth 10000 in
theorem l_X10_raise_2 {X : jX} {l : Launch} {n : Nat} {Y : jY} (K : jOK X RX10 cX10_raise 3 (some .boolean) 3) (hl : X.2.1 = l) {rr : Int32} {μr : jM} {v0 : Nat} {v1 : Int32}  {s0 : Int32 × jM} {z : (Int32 × jM)} (H : jit jF (fun (s : Int32 × jM) => b_X10_raise_2 Y v0 v1 s.1 s.2) s0 = some z) (D : z = (rr, μr)) : JW X (jEnd X n Y (some (.int rr)) μr 0 0) 0 0 n Y 2 [(0, .ref v0), (1, .int v1), (2, .int s0.1)] [] s0.2 :=
  jit_ind (P := fun (s : Int32 × jM) => JW X (jEnd X n Y (some (.int rr)) μr 0 0) 0 0 n Y 2 [(0, .ref v0), (1, .int v1), (2, .int s.1)] [] s.2) (D := fun r => r = (rr, μr)) (fun s z Hs Ds => t_X10_raise_2 K hl Hs Ds) jF s0 z H D
set_option maxRecDepth 10000 in
theorem t_X10_raise_0 {X : jX} {l : Launch} {n : Nat} {Y : jY} (K : jOK X RX10 cX10_raise 3 (some .boolean) 3) (hl : X.2.1 = l) {rr : Int32} {μr : jM} {v0 : Nat} {v1 : Int32} {μ : jM} {z : (Int32 × jM)} (H : f_X10_raise Y v0 v1 μ = some z) (D : z = (rr, μr)) : JW X (jEnd X n Y (some (.int rr)) μr 0 0) 0 0 n Y 0 [(0, .ref v0), (1, .int v1)] [] μ := by
  unfold f_X10_raise at H
  refine r_iconst (v := 0) K dX10_raise_0 (by decide) ?_
  refine r_istore_n K [(2, .int _), (0, .ref _), (1, .int _)] dX10_raise_1 rfl (by decide) rfl ?_
  exact r_sub [1, 2, 0] rfl (l_X10_raise_2 K hl H D)
theorem c_X10_raise (l : Launch) {n : Nat} {Y : jY} {v0 : Nat} {v1 : Int32} {μ : jM} {z : Int32 × jM} (H : f_X10_raise Y v0 v1 μ = some z) : jC l yX10_raise cX10_raise 3 (some .boolean) 3 0 0 [.ref v0, .int v1] n Y μ n Y (some (.int z.1)) z.2 := by
  refine jC_of (by decide +kernel) (Nat.le_of_ble_eq_true rfl) (fun X hl K _ _ _ => ?_)
  obtain ⟨rr, μr⟩ := z
  exact t_X10_raise_0 K hl H rfl
/-! RX10 soundsLike(LChainTables$WholeTable;)Z -/
def b_X10_soundsLike_15 (Y : jY) (v0 : Nat) (v1 : Nat) (v2 : Int32) (μ : jM) : Option ((Int32 × jM) ⊕ (Int32 × jM)) :=
  (jgI Y μ v0 10 0).bind fun x1 =>
  if x1 ≤ v2 then
    (jbool ((1 : Int32))).bind fun x2 =>
    some (.inr (x2, μ))
  else
    (jgI Y μ v0 10 0).bind fun x3 =>
    (jrcv Y v0 10 (f_X10_valueAt Y v0 ((0 : Int32)) x3 v2 ((1 : Int32)) μ)).bind fun r4 =>
    (jgI Y r4.2 v0 10 0).bind fun x5 =>
    (jrcv Y v1 10 (f_X10_valueAt Y v1 ((0 : Int32)) x5 v2 ((1 : Int32)) r4.2)).bind fun r6 =>
    if ((lg_cmp r4.1 r6.1)) = 0 then
      some (.inl ((v2 + (1 : Int32)), r6.2))
    else
      (jbool ((0 : Int32))).bind fun x7 =>
      some (.inr (x7, r6.2))
def f_X10_soundsLike (Y : jY) (v0 : Nat) (v1 : Nat) (μ : jM) : Option (Int32 × jM) :=
  (jgI Y μ v0 10 0).bind fun x1 =>
  (jgI Y μ v1 10 0).bind fun x2 =>
  if x1 = x2 then
    jit jF (fun (s : Int32 × jM) => b_X10_soundsLike_15 Y v0 v1 s.1 s.2) ((0 : Int32), μ)
  else
    (jbool ((0 : Int32))).bind fun x3 =>
    some (x3, μ)
set_option maxRecDepth 10000 in
theorem t_X10_soundsLike_15 {X : jX} {l : Launch} {n : Nat} {Y : jY} (K : jOK X RX10 cX10_soundsLike 3 (some .boolean) 3) (hl : X.2.1 = l) {rr : Int32} {μr : jM} {v0 : Nat} {v1 : Nat} {v2 : Int32} {μ : jM} {z : ((Int32 × jM) ⊕ (Int32 × jM))} (H : b_X10_soundsLike_15 Y v0 v1 v2 μ = some z) (D : Sum.elim (fun (s : Int32 × jM) => JW X (jEnd X n Y (some (.int rr)) μr 0 0) 0 0 n Y 15 [(0, .ref v0), (1, .ref v1), (2, .int s.1)] [] s.2) (fun r => r = (rr, μr)) z) : JW X (jEnd X n Y (some (.int rr)) μr 0 0) 0 0 n Y 15 [(0, .ref v0), (1, .ref v1), (2, .int v2)] [] μ := by
  unfold b_X10_soundsLike_15 at H
  refine r_iload_n K 2 dX10_soundsLike_15 rfl rfl ?_
  refine r_aload_n K 0 dX10_soundsLike_16 rfl rfl ?_
  refine w_getI K vc10 inX10 0 (by decide) mF_RX10_9 dX10_soundsLike_17 H (fun x1 H => ?_)
  refine w_icmp_ge K 57 dX10_soundsLike_20 (by decide) H (fun _ H => ?_) (fun _ H => ?_)
  · refine r_iconst (v := 1) K dX10_soundsLike_57 (by decide) ?_
    refine w_zret K dX10_soundsLike_58 H (fun hz H => ?_)
    cases H
    simp only [Sum.elim_inr] at D
    obtain ⟨rfl, rfl⟩ := jfin2 D
    exact r_zret K hz dX10_soundsLike_58
  · refine r_aload_n K 0 dX10_soundsLike_23 rfl rfl ?_
    refine r_iconst (v := 0) K dX10_soundsLike_24 (by decide) ?_
    refine r_aload_n K 0 dX10_soundsLike_25 rfl rfl ?_
    refine w_getI K vc10 inX10 0 (by decide) mF_RX10_9 dX10_soundsLike_26 H (fun x3 H => ?_)
    refine r_iload_n K 2 dX10_soundsLike_29 rfl rfl ?_
    refine r_iconst (v := 1) K dX10_soundsLike_30 (by decide) ?_
    refine w_callV K hl H (fun r h => c_X10_valueAt l h) mC_yX10_valueAt mM_RX10_45 mI_yX10_valueAt mS_yX10_valueAt mZ_RX10 vc10 (Nat.le_of_ble_eq_true rfl) (Nat.le_of_ble_eq_true rfl) np_yX10_valueAt rfl (Nat.le_of_ble_eq_true rfl) dX10_soundsLike_31 (fun r4 H => ?_) ⟨Nat.zero_le _, Nat.zero_le _⟩
    refine r_aload_n K 1 dX10_soundsLike_34 rfl rfl ?_
    refine r_iconst (v := 0) K dX10_soundsLike_35 (by decide) ?_
    refine r_aload_n K 0 dX10_soundsLike_36 rfl rfl ?_
    refine w_getI K vc10 inX10 0 (by decide) mF_RX10_9 dX10_soundsLike_37 H (fun x5 H => ?_)
    refine r_iload_n K 2 dX10_soundsLike_40 rfl rfl ?_
    refine r_iconst (v := 1) K dX10_soundsLike_41 (by decide) ?_
    refine w_callV K hl H (fun r h => c_X10_valueAt l h) mC_yX10_valueAt mM_RX10_45 mI_yX10_valueAt mS_yX10_valueAt mZ_RX10 vc10 (Nat.le_of_ble_eq_true rfl) (Nat.le_of_ble_eq_true rfl) np_yX10_valueAt rfl (Nat.le_of_ble_eq_true rfl) dX10_soundsLike_42 (fun r6 H => ?_) ⟨Nat.zero_le _, Nat.zero_le _⟩
    refine r_lcmp K dX10_soundsLike_45 ?_
    refine w_if_eq K 51 dX10_soundsLike_46 (by decide) H (fun _ H => ?_) (fun _ H => ?_)
    · refine r_iinc K 2 [(2, .int _), (0, .ref _), (1, .ref _)] (v := _ + (1 : Int32)) dX10_soundsLike_51 rfl rfl (by decide) rfl ?_
      refine r_goto K 15 dX10_soundsLike_54 (by decide) ?_
      cases H
      exact r_sub [1, 2, 0] rfl D
    · refine r_iconst (v := 0) K dX10_soundsLike_49 (by decide) ?_
      refine w_zret K dX10_soundsLike_50 H (fun hz H => ?_)
      cases H
      simp only [Sum.elim_inr] at D
      obtain ⟨rfl, rfl⟩ := jfin2 D
      exact r_zret K hz dX10_soundsLike_50
set_option maxRecDepth 10000 in
theorem l_X10_soundsLike_15 {X : jX} {l : Launch} {n : Nat} {Y : jY} (K : jOK X RX10 cX10_soundsLike 3 (some .boolean) 3) (hl : X.2.1 = l) {rr : Int32} {μr : jM} {v0 : Nat} {v1 : Nat}  {s0 : Int32 × jM} {z : (Int32 × jM)} (H : jit jF (fun (s : Int32 × jM) => b_X10_soundsLike_15 Y v0 v1 s.1 s.2) s0 = some z) (D : z = (rr, μr)) : JW X (jEnd X n Y (some (.int rr)) μr 0 0) 0 0 n Y 15 [(0, .ref v0), (1, .ref v1), (2, .int s0.1)] [] s0.2 :=
  jit_ind (P := fun (s : Int32 × jM) => JW X (jEnd X n Y (some (.int rr)) μr 0 0) 0 0 n Y 15 [(0, .ref v0), (1, .ref v1), (2, .int s.1)] [] s.2) (D := fun r => r = (rr, μr)) (fun s z Hs Ds => t_X10_soundsLike_15 K hl Hs Ds) jF s0 z H D
set_option maxRecDepth 10000 in
theorem t_X10_soundsLike_0 {X : jX} {l : Launch} {n : Nat} {Y : jY} (K : jOK X RX10 cX10_soundsLike 3 (some .boolean) 3) (hl : X.2.1 = l) {rr : Int32} {μr : jM} {v0 : Nat} {v1 : Nat} {μ : jM} {z : (Int32 × jM)} (H : f_X10_soundsLike Y v0 v1 μ = some z) (D : z = (rr, μr)) : JW X (jEnd X n Y (some (.int rr)) μr 0 0) 0 0 n Y 0 [(0, .ref v0), (1, .ref v1)] [] μ := by
  unfold f_X10_soundsLike at H
  refine r_aload_n K 0 dX10_soundsLike_0 rfl rfl ?_
  refine w_getI K vc10 inX10 0 (by decide) mF_RX10_9 dX10_soundsLike_1 H (fun x1 H => ?_)
  refine r_aload_n K 1 dX10_soundsLike_4 rfl rfl ?_
  refine w_getI K vc10 inX10 0 (by decide) mF_RX10_9 dX10_soundsLike_5 H (fun x2 H => ?_)
  refine w_icmp_eq K 13 dX10_soundsLike_8 (by decide) H (fun _ H => ?_) (fun _ H => ?_)
  · refine r_iconst (v := 0) K dX10_soundsLike_13 (by decide) ?_
    refine r_istore_n K [(2, .int _), (0, .ref _), (1, .ref _)] dX10_soundsLike_14 rfl (by decide) rfl ?_
    exact r_sub [1, 2, 0] rfl (l_X10_soundsLike_15 K hl H D)
  · refine r_iconst (v := 0) K dX10_soundsLike_11 (by decide) ?_
    refine w_zret K dX10_soundsLike_12 H (fun hz H => ?_)
    cases H
    obtain ⟨rfl, rfl⟩ := jfin2 D
    exact r_zret K hz dX10_soundsLike_12
theorem c_X10_soundsLike (l : Launch) {n : Nat} {Y : jY} {v0 : Nat} {v1 : Nat} {μ : jM} {z : Int32 × jM} (H : f_X10_soundsLike Y v0 v1 μ = some z) : jC l yX10_soundsLike cX10_soundsLike 3 (some .boolean) 3 0 0 [.ref v0, .ref v1] n Y μ n Y (some (.int z.1)) z.2 := by
  refine jC_of (by decide +kernel) (Nat.le_of_ble_eq_true rfl) (fun X hl K _ _ _ => ?_)
  obtain ⟨rr, μr⟩ := z
  exact t_X10_soundsLike_0 K hl H rfl
