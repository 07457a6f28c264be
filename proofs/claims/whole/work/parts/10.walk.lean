/-! RX10 begin(I)V -/
def b_X10_begin_27 (Y : jY) (v0 : Nat) (v2 : Int32) (μ : jM) : Option ((Int32 × jM) ⊕ (jM)) :=
  if ((4 : Int32)) ≤ v2 then
    some (.inr μ)
  else
    (jgO Y μ v0 10 2).bind fun x1 =>
    (jas Y μ x1 20 v2 (.int ((1 : Int32)))).bind fun μ2 =>
    some (.inl ((v2 + (1 : Int32)), μ2))
def b_X10_begin_7 (Y : jY) (v0 : Nat) (v2 : Int32) (μ : jM) : Option ((Int32 × jM) ⊕ (jM)) :=
  if ((5 : Int32)) ≤ v2 then
    (jit jF (fun (s : Int32 × jM) => b_X10_begin_27 Y v0 s.1 s.2) ((0 : Int32), μ)).map (fun r => (.inr r))
  else
    (jgO Y μ v0 10 1).bind fun x1 =>
    (jas Y μ x1 20 v2 (.int ((0 : Int32)))).bind fun μ2 =>
    some (.inl ((v2 + (1 : Int32)), μ2))
def f_X10_begin (Y : jY) (v0 : Nat) (v1 : Int32) (μ : jM) : Option (jM) :=
  (jput Y μ v0 10 0 (.int v1)).bind fun μ1 =>
  jit jF (fun (s : Int32 × jM) => b_X10_begin_7 Y v0 s.1 s.2) ((0 : Int32), μ1)
set_option maxRecDepth 10000 in
theorem t_X10_begin_27 {X : jX} {l : Launch} {n : Nat} {Y : jY} (K : jOK X RX10 cX10_begin 3 none 1) (hl : X.2.1 = l) {μr : jM} {v0 : Nat} {v2 : Int32} {μ : jM} {z : ((Int32 × jM) ⊕ (jM))} (H : b_X10_begin_27 Y v0 v2 μ = some z) (D : Sum.elim (fun (s : Int32 × jM) => JW X (jEnd X n Y none μr 0 0) 0 0 n Y 27 [(0, .ref v0), (2, .int s.1)] [] s.2) (fun r => r = μr) z) : JW X (jEnd X n Y none μr 0 0) 0 0 n Y 27 [(0, .ref v0), (2, .int v2)] [] μ := by
  unfold b_X10_begin_27 at H
  refine r_iload_n K 1 dX10_begin_27 rfl rfl ?_
  refine r_iconst (v := 4) K dX10_begin_28 (by decide) ?_
  refine w_icmp_ge K 45 dX10_begin_29 (by decide) H (fun _ H => ?_) (fun _ H => ?_)
  · cases H
    simp only [Sum.elim_inr] at D
    subst D
    exact r_vret K dX10_begin_45
  · refine r_aload_n K 0 dX10_begin_32 rfl rfl ?_
    refine w_getO K vc10 inX10 2 (by decide) mF_RX10_19 dX10_begin_33 H (fun x1 H => ?_)
    refine r_iload_n K 1 dX10_begin_36 rfl rfl ?_
    refine r_iconst (v := 1) K dX10_begin_37 (by decide) ?_
    refine w_iast K dX10_begin_38 H (fun μ2 H => ?_)
    refine r_iinc K 1 [(2, .int _), (0, .ref _)] (v := _ + (1 : Int32)) dX10_begin_39 rfl rfl (by decide) rfl ?_
    refine r_goto K 27 dX10_begin_42 (by decide) ?_
    cases H
    exact r_sub [1, 0] rfl D
set_option maxRecDepth 10000 in
theorem l_X10_begin_27 {X : jX} {l : Launch} {n : Nat} {Y : jY} (K : jOK X RX10 cX10_begin 3 none 1) (hl : X.2.1 = l) {μr : jM} {v0 : Nat}  {s0 : Int32 × jM} {z : (jM)} (H : jit jF (fun (s : Int32 × jM) => b_X10_begin_27 Y v0 s.1 s.2) s0 = some z) (D : z = μr) : JW X (jEnd X n Y none μr 0 0) 0 0 n Y 27 [(0, .ref v0), (2, .int s0.1)] [] s0.2 :=
  jit_ind (P := fun (s : Int32 × jM) => JW X (jEnd X n Y none μr 0 0) 0 0 n Y 27 [(0, .ref v0), (2, .int s.1)] [] s.2) (D := fun r => r = μr) (fun s z Hs Ds => t_X10_begin_27 K hl Hs Ds) jF s0 z H D
set_option maxRecDepth 10000 in
theorem t_X10_begin_7 {X : jX} {l : Launch} {n : Nat} {Y : jY} (K : jOK X RX10 cX10_begin 3 none 1) (hl : X.2.1 = l) {μr : jM} {v0 : Nat} {v2 : Int32} {μ : jM} {z : ((Int32 × jM) ⊕ (jM))} (H : b_X10_begin_7 Y v0 v2 μ = some z) (D : Sum.elim (fun (s : Int32 × jM) => JW X (jEnd X n Y none μr 0 0) 0 0 n Y 7 [(0, .ref v0), (2, .int s.1)] [] s.2) (fun r => r = μr) z) : JW X (jEnd X n Y none μr 0 0) 0 0 n Y 7 [(0, .ref v0), (2, .int v2)] [] μ := by
  unfold b_X10_begin_7 at H
  refine r_iload_n K 1 dX10_begin_7 rfl rfl ?_
  refine r_iconst (v := 5) K dX10_begin_8 (by decide) ?_
  refine w_icmp_ge K 25 dX10_begin_9 (by decide) H (fun _ H => ?_) (fun _ H => ?_)
  · refine r_iconst (v := 0) K dX10_begin_25 (by decide) ?_
    refine r_istore_n K [(2, .int _), (0, .ref _)] dX10_begin_26 rfl (by decide) rfl ?_
    obtain ⟨z2, H2, rfl⟩ := jmap H
    exact r_sub [1, 0] rfl (l_X10_begin_27 K hl H2 D)
  · refine r_aload_n K 0 dX10_begin_12 rfl rfl ?_
    refine w_getO K vc10 inX10 1 (by decide) mF_RX10_15 dX10_begin_13 H (fun x1 H => ?_)
    refine r_iload_n K 1 dX10_begin_16 rfl rfl ?_
    refine r_iconst (v := 0) K dX10_begin_17 (by decide) ?_
    refine w_iast K dX10_begin_18 H (fun μ2 H => ?_)
    refine r_iinc K 1 [(2, .int _), (0, .ref _)] (v := _ + (1 : Int32)) dX10_begin_19 rfl rfl (by decide) rfl ?_
    refine r_goto K 7 dX10_begin_22 (by decide) ?_
    cases H
    exact r_sub [1, 0] rfl D
set_option maxRecDepth 10000 in
theorem l_X10_begin_7 {X : jX} {l : Launch} {n : Nat} {Y : jY} (K : jOK X RX10 cX10_begin 3 none 1) (hl : X.2.1 = l) {μr : jM} {v0 : Nat}  {s0 : Int32 × jM} {z : (jM)} (H : jit jF (fun (s : Int32 × jM) => b_X10_begin_7 Y v0 s.1 s.2) s0 = some z) (D : z = μr) : JW X (jEnd X n Y none μr 0 0) 0 0 n Y 7 [(0, .ref v0), (2, .int s0.1)] [] s0.2 :=
  jit_ind (P := fun (s : Int32 × jM) => JW X (jEnd X n Y none μr 0 0) 0 0 n Y 7 [(0, .ref v0), (2, .int s.1)] [] s.2) (D := fun r => r = μr) (fun s z Hs Ds => t_X10_begin_7 K hl Hs Ds) jF s0 z H D
set_option maxRecDepth 10000 in
theorem t_X10_begin_0 {X : jX} {l : Launch} {n : Nat} {Y : jY} (K : jOK X RX10 cX10_begin 3 none 1) (hl : X.2.1 = l) {μr : jM} {v0 : Nat} {v1 : Int32} {μ : jM} {z : (jM)} (H : f_X10_begin Y v0 v1 μ = some z) (D : z = μr) : JW X (jEnd X n Y none μr 0 0) 0 0 n Y 0 [(0, .ref v0), (1, .int v1)] [] μ := by
  unfold f_X10_begin at H
  refine r_aload_n K 0 dX10_begin_0 rfl rfl ?_
  refine r_iload_n K 1 dX10_begin_1 rfl rfl ?_
  refine w_put K vc10 inX10 tyX10_ok nmX10 0 (by decide) mF_RX10_9 rfl (fun _ => rfl) (fun _ => rfl) dX10_begin_2 H (fun μ1 H => ?_)
  refine r_iconst (v := 0) K dX10_begin_5 (by decide) ?_
  refine r_istore_n K [(2, .int _), (0, .ref _), (1, .int _)] dX10_begin_6 rfl (by decide) rfl ?_
  exact r_sub [1, 0] rfl (l_X10_begin_7 K hl H D)
theorem c_X10_begin (l : Launch) {n : Nat} {Y : jY} {v0 : Nat} {v1 : Int32} {μ : jM} {z : jM} (H : f_X10_begin Y v0 v1 μ = some z) : jC l yX10_begin cX10_begin 3 none 1 0 0 [.ref v0, .int v1] n Y μ n Y none z := by
  refine jC_of (by decide +kernel) (Nat.le_of_ble_eq_true rfl) (fun X hl K _ _ _ => ?_)
  exact t_X10_begin_0 K hl H rfl
/-! RX0 begin(LChainTables$ToneNumbers;)V -/
def b_X0_begin_53 (Y : jY) (v0 : Nat) (v1 : Nat) (v2 : Int32) (μ : jM) : Option ((Int32 × jM) ⊕ (jM)) :=
  (jgI Y μ v0 0 1).bind fun x1 =>
  if x1 ≤ v2 then
    some (.inr μ)
  else
    (jgO Y μ v0 0 3).bind fun x2 =>
    (jgO Y μ v1 7 2).bind fun x3 =>
    (jaL Y μ x3 21 v2).bind fun x4 =>
    (jas Y μ x2 21 v2 (.long x4)).bind fun μ5 =>
    some (.inl ((v2 + (1 : Int32)), μ5))
def b_X0_begin_25 (Y : jY) (v0 : Nat) (v1 : Nat) (v2 : Int32) (μ : jM) : Option ((Int32 × jM) ⊕ (jM)) :=
  (jgI Y μ v0 0 1).bind fun x1 =>
  if x1 < v2 then
    (jit jF (fun (s : Int32 × jM) => b_X0_begin_53 Y v0 v1 s.1 s.2) ((0 : Int32), μ)).map (fun r => (.inr r))
  else
    (jgO Y μ v0 0 2).bind fun x2 =>
    (jgO Y μ v1 7 1).bind fun x3 =>
    (jaL Y μ x3 21 v2).bind fun x4 =>
    (jas Y μ x2 21 v2 (.long x4)).bind fun μ5 =>
    some (.inl ((v2 + (1 : Int32)), μ5))
def f_X0_begin (Y : jY) (v0 : Nat) (v1 : Nat) (μ : jM) : Option (jM) :=
  (jgI Y μ v1 7 0).bind fun x1 =>
  (jput Y μ v0 0 1 (.int ((jminI x1 ((3 : Int32)))))).bind fun μ2 =>
  (jgO Y μ2 v0 0 0).bind fun x3 =>
  (jgI Y μ2 v0 0 1).bind fun x4 =>
  (jrcv Y x3 10 (f_X10_begin Y x3 x4 μ2)).bind fun μ5 =>
  jit jF (fun (s : Int32 × jM) => b_X0_begin_25 Y v0 v1 s.1 s.2) ((0 : Int32), μ5)
set_option maxRecDepth 10000 in
theorem t_X0_begin_53 {X : jX} {l : Launch} {n : Nat} {Y : jY} (K : jOK X RX0 cX0_begin 3 none 2) (hl : X.2.1 = l) {μr : jM} {v0 : Nat} {v1 : Nat} {v2 : Int32} {μ : jM} {z : ((Int32 × jM) ⊕ (jM))} (H : b_X0_begin_53 Y v0 v1 v2 μ = some z) (D : Sum.elim (fun (s : Int32 × jM) => JW X (jEnd X n Y none μr 0 0) 0 0 n Y 53 [(0, .ref v0), (1, .ref v1), (2, .int s.1)] [] s.2) (fun r => r = μr) z) : JW X (jEnd X n Y none μr 0 0) 0 0 n Y 53 [(0, .ref v0), (1, .ref v1), (2, .int v2)] [] μ := by
  unfold b_X0_begin_53 at H
  refine r_iload_n K 2 dX0_begin_53 rfl rfl ?_
  refine r_aload_n K 0 dX0_begin_54 rfl rfl ?_
  refine w_getI K vc0 inX0 1 (by decide) mF_RX0_18 dX0_begin_55 H (fun x1 H => ?_)
  refine w_icmp_ge K 79 dX0_begin_58 (by decide) H (fun _ H => ?_) (fun _ H => ?_)
  · cases H
    simp only [Sum.elim_inr] at D
    subst D
    exact r_vret K dX0_begin_79
  · refine r_aload_n K 0 dX0_begin_61 rfl rfl ?_
    refine w_getO K vc0 inX0 3 (by decide) mF_RX0_26 dX0_begin_62 H (fun x2 H => ?_)
    refine r_iload_n K 2 dX0_begin_65 rfl rfl ?_
    refine r_aload_n K 1 dX0_begin_66 rfl rfl ?_
    refine w_getO K vc7 inX7 2 (by decide) mF_RX0_43 dX0_begin_67 H (fun x3 H => ?_)
    refine r_iload_n K 2 dX0_begin_70 rfl rfl ?_
    refine w_lald K dX0_begin_71 H (fun x4 H => ?_)
    refine w_last K dX0_begin_72 H (fun μ5 H => ?_)
    refine r_iinc K 2 [(2, .int _), (0, .ref _), (1, .ref _)] (v := _ + (1 : Int32)) dX0_begin_73 rfl rfl (by decide) rfl ?_
    refine r_goto K 53 dX0_begin_76 (by decide) ?_
    cases H
    exact r_sub [1, 2, 0] rfl D
set_option maxRecDepth 10000 in
theorem l_X0_begin_53 {X : jX} {l : Launch} {n : Nat} {Y : jY} (K : jOK X RX0 cX0_begin 3 none 2) (hl : X.2.1 = l) {μr : jM} {v0 : Nat} {v1 : Nat}  {s0 : Int32 × jM} {z : (jM)} (H : jit jF (fun (s : Int32 × jM) => b_X0_begin_53 Y v0 v1 s.1 s.2) s0 = some z) (D : z = μr) : JW X (jEnd X n Y none μr 0 0) 0 0 n Y 53 [(0, .ref v0), (1, .ref v1), (2, .int s0.1)] [] s0.2 :=
  jit_ind (P := fun (s : Int32 × jM) => JW X (jEnd X n Y none μr 0 0) 0 0 n Y 53 [(0, .ref v0), (1, .ref v1), (2, .int s.1)] [] s.2) (D := fun r => r = μr) (fun s z Hs Ds => t_X0_begin_53 K hl Hs Ds) jF s0 z H D
set_option maxRecDepth 10000 in
theorem t_X0_begin_25 {X : jX} {l : Launch} {n : Nat} {Y : jY} (K : jOK X RX0 cX0_begin 3 none 2) (hl : X.2.1 = l) {μr : jM} {v0 : Nat} {v1 : Nat} {v2 : Int32} {μ : jM} {z : ((Int32 × jM) ⊕ (jM))} (H : b_X0_begin_25 Y v0 v1 v2 μ = some z) (D : Sum.elim (fun (s : Int32 × jM) => JW X (jEnd X n Y none μr 0 0) 0 0 n Y 25 [(0, .ref v0), (1, .ref v1), (2, .int s.1)] [] s.2) (fun r => r = μr) z) : JW X (jEnd X n Y none μr 0 0) 0 0 n Y 25 [(0, .ref v0), (1, .ref v1), (2, .int v2)] [] μ := by
  unfold b_X0_begin_25 at H
  refine r_iload_n K 2 dX0_begin_25 rfl rfl ?_
  refine r_aload_n K 0 dX0_begin_26 rfl rfl ?_
  refine w_getI K vc0 inX0 1 (by decide) mF_RX0_18 dX0_begin_27 H (fun x1 H => ?_)
  refine w_icmp_gt K 51 dX0_begin_30 (by decide) H (fun _ H => ?_) (fun _ H => ?_)
  · refine r_iconst (v := 0) K dX0_begin_51 (by decide) ?_
    refine r_istore_n K [(2, .int _), (0, .ref _), (1, .ref _)] dX0_begin_52 rfl (by decide) rfl ?_
    obtain ⟨z2, H2, rfl⟩ := jmap H
    exact r_sub [1, 2, 0] rfl (l_X0_begin_53 K hl H2 D)
  · refine r_aload_n K 0 dX0_begin_33 rfl rfl ?_
    refine w_getO K vc0 inX0 2 (by decide) mF_RX0_22 dX0_begin_34 H (fun x2 H => ?_)
    refine r_iload_n K 2 dX0_begin_37 rfl rfl ?_
    refine r_aload_n K 1 dX0_begin_38 rfl rfl ?_
    refine w_getO K vc7 inX7 1 (by decide) mF_RX0_42 dX0_begin_39 H (fun x3 H => ?_)
    refine r_iload_n K 2 dX0_begin_42 rfl rfl ?_
    refine w_lald K dX0_begin_43 H (fun x4 H => ?_)
    refine w_last K dX0_begin_44 H (fun μ5 H => ?_)
    refine r_iinc K 2 [(2, .int _), (0, .ref _), (1, .ref _)] (v := _ + (1 : Int32)) dX0_begin_45 rfl rfl (by decide) rfl ?_
    refine r_goto K 25 dX0_begin_48 (by decide) ?_
    cases H
    exact r_sub [1, 2, 0] rfl D
set_option maxRecDepth 10000 in
theorem l_X0_begin_25 {X : jX} {l : Launch} {n : Nat} {Y : jY} (K : jOK X RX0 cX0_begin 3 none 2) (hl : X.2.1 = l) {μr : jM} {v0 : Nat} {v1 : Nat}  {s0 : Int32 × jM} {z : (jM)} (H : jit jF (fun (s : Int32 × jM) => b_X0_begin_25 Y v0 v1 s.1 s.2) s0 = some z) (D : z = μr) : JW X (jEnd X n Y none μr 0 0) 0 0 n Y 25 [(0, .ref v0), (1, .ref v1), (2, .int s0.1)] [] s0.2 :=
  jit_ind (P := fun (s : Int32 × jM) => JW X (jEnd X n Y none μr 0 0) 0 0 n Y 25 [(0, .ref v0), (1, .ref v1), (2, .int s.1)] [] s.2) (D := fun r => r = μr) (fun s z Hs Ds => t_X0_begin_25 K hl Hs Ds) jF s0 z H D
set_option maxRecDepth 10000 in
theorem t_X0_begin_0 {X : jX} {l : Launch} {n : Nat} {Y : jY} (K : jOK X RX0 cX0_begin 3 none 2) (hl : X.2.1 = l) {μr : jM} {v0 : Nat} {v1 : Nat} {μ : jM} {z : (jM)} (H : f_X0_begin Y v0 v1 μ = some z) (D : z = μr) : JW X (jEnd X n Y none μr 0 0) 0 0 n Y 0 [(0, .ref v0), (1, .ref v1)] [] μ := by
  unfold f_X0_begin at H
  refine r_aload_n K 0 dX0_begin_0 rfl rfl ?_
  refine r_aload_n K 1 dX0_begin_1 rfl rfl ?_
  refine w_getI K vc7 inX7 0 (by decide) mF_RX0_29 dX0_begin_2 H (fun x1 H => ?_)
  refine r_iconst (v := 3) K dX0_begin_5 (by decide) ?_
  refine r_mmin K mM_RX0_32 mT_minI mZ_Math mC_minI (Nat.le_of_ble_eq_true rfl) (Nat.le_of_ble_eq_true rfl) ⟨Nat.zero_le _, Nat.zero_le _⟩ dX0_begin_6 ?_
  refine w_put K vc0 inX0 tyX0_ok nmX0 1 (by decide) mF_RX0_18 rfl (fun _ => rfl) (fun _ => rfl) dX0_begin_9 H (fun μ2 H => ?_)
  refine r_aload_n K 0 dX0_begin_12 rfl rfl ?_
  refine w_getO K vc0 inX0 0 (by decide) mF_RX0_12 dX0_begin_13 H (fun x3 H => ?_)
  refine r_aload_n K 0 dX0_begin_16 rfl rfl ?_
  refine w_getI K vc0 inX0 1 (by decide) mF_RX0_18 dX0_begin_17 H (fun x4 H => ?_)
  refine w_callV K hl H (fun r h => c_X10_begin l h) mC_yX10_begin mM_RX0_38 mI_yX10_begin mS_yX10_begin mZ_RX10 vc10 (Nat.le_of_ble_eq_true rfl) (Nat.le_of_ble_eq_true rfl) np_yX10_begin rfl (Nat.le_of_ble_eq_true rfl) dX0_begin_20 (fun μ5 H => ?_) ⟨Nat.zero_le _, Nat.zero_le _⟩
  refine r_iconst (v := 0) K dX0_begin_23 (by decide) ?_
  refine r_istore_n K [(2, .int _), (0, .ref _), (1, .ref _)] dX0_begin_24 rfl (by decide) rfl ?_
  exact r_sub [1, 2, 0] rfl (l_X0_begin_25 K hl H D)
theorem c_X0_begin (l : Launch) {n : Nat} {Y : jY} {v0 : Nat} {v1 : Nat} {μ : jM} {z : jM} (H : f_X0_begin Y v0 v1 μ = some z) : jC l yX0_begin cX0_begin 3 none 2 0 0 [.ref v0, .ref v1] n Y μ n Y none z := by
  refine jC_of (by decide +kernel) (Nat.le_of_ble_eq_true rfl) (fun X hl K _ _ _ => ?_)
  exact t_X0_begin_0 K hl H rfl
/-! RX0 setLastA()Z -/
def b_X0_setLastA_60 (Y : jY) (μ : jM) : Option (Int32 × jM) :=
  (jbool ((0 : Int32))).bind fun x1 =>
  some (x1, μ)
def b_X0_setLastA_15 (Y : jY) (v0 : Nat) (v1 : Int64) (v3 : Int32) (μ : jM) : Option ((Int64 × Int32 × jM) ⊕ (Int32 × jM)) :=
  (jgI Y μ v0 0 1).bind fun x1 =>
  if ((x1 - ((1 : Int32)))) ≤ v3 then
    if ((lg_cmp v1 ((-6 : Int64)))) < 0 then
      (b_X0_setLastA_60 Y μ).map (fun r => (.inr r))
    else
      if ((lg_cmp v1 ((6 : Int64)))) ≤ 0 then
        (jgO Y μ v0 0 0).bind fun x2 =>
        (jgO Y μ x2 10 1).bind fun x3 =>
        (jgI Y μ v0 0 1).bind fun x4 =>
        (jas Y μ x3 20 ((x4 - ((1 : Int32)))) (.int ((v1.toInt32)))).bind fun μ5 =>
        (jbool ((1 : Int32))).bind fun x6 =>
        some (.inr (x6, μ5))
      else
        (b_X0_setLastA_60 Y μ).map (fun r => (.inr r))
  else
    (jgO Y μ v0 0 0).bind fun x7 =>
    (jgO Y μ x7 10 1).bind fun x8 =>
    (jaI Y μ x8 20 v3).bind fun x9 =>
    some (.inl ((v1 - ((x9.toInt64))), (v3 + (1 : Int32)), μ))
def f_X0_setLastA (Y : jY) (v0 : Nat) (μ : jM) : Option (Int32 × jM) :=
  (jgO Y μ v0 0 2).bind fun x1 =>
  (jgI Y μ v0 0 1).bind fun x2 =>
  (jaL Y μ x1 21 ((x2 - ((1 : Int32))))).bind fun x3 =>
  jit jF (fun (s : Int64 × Int32 × jM) => b_X0_setLastA_15 Y v0 s.1 s.2.1 s.2.2) ((-x3), (0 : Int32), μ)
set_option maxRecDepth 10000 in
theorem t_X0_setLastA_60 {X : jX} {l : Launch} {n : Nat} {Y : jY} (K : jOK X RX0 cX0_setLastA 4 (some .boolean) 1) (hl : X.2.1 = l) {rr : Int32} {μr : jM} {μ : jM} {z : (Int32 × jM)} (H : b_X0_setLastA_60 Y μ = some z) (D : z = (rr, μr)) : JW X (jEnd X n Y (some (.int rr)) μr 0 0) 0 0 n Y 60 [] [] μ := by
  unfold b_X0_setLastA_60 at H
  refine r_iconst (v := 0) K dX0_setLastA_60 (by decide) ?_
  refine w_zret K dX0_setLastA_61 H (fun hz H => ?_)
  cases H
  obtain ⟨rfl, rfl⟩ := jfin2 D
  exact r_zret K hz dX0_setLastA_61
set_option maxRecDepth 10000 in
theorem t_X0_setLastA_15 {X : jX} {l : Launch} {n : Nat} {Y : jY} (K : jOK X RX0 cX0_setLastA 4 (some .boolean) 1) (hl : X.2.1 = l) {rr : Int32} {μr : jM} {v0 : Nat} {v1 : Int64} {v3 : Int32} {μ : jM} {z : ((Int64 × Int32 × jM) ⊕ (Int32 × jM))} (H : b_X0_setLastA_15 Y v0 v1 v3 μ = some z) (D : Sum.elim (fun (s : Int64 × Int32 × jM) => JW X (jEnd X n Y (some (.int rr)) μr 0 0) 0 0 n Y 15 [(0, .ref v0), (1, .long s.1), (3, .int s.2.1)] [] s.2.2) (fun r => r = (rr, μr)) z) : JW X (jEnd X n Y (some (.int rr)) μr 0 0) 0 0 n Y 15 [(0, .ref v0), (1, .long v1), (3, .int v3)] [] μ := by
  unfold b_X0_setLastA_15 at H
  refine r_iload_n K 2 dX0_setLastA_15 rfl rfl ?_
  refine r_aload_n K 0 dX0_setLastA_16 rfl rfl ?_
  refine w_getI K vc0 inX0 1 (by decide) mF_RX0_18 dX0_setLastA_17 H (fun x1 H => ?_)
  refine r_iconst (v := 1) K dX0_setLastA_20 (by decide) ?_
  refine r_isub K dX0_setLastA_21 ?_
  refine w_icmp_ge K 44 dX0_setLastA_22 (by decide) H (fun _ H => ?_) (fun _ H => ?_)
  · refine r_lload_n K 1 dX0_setLastA_44 rfl rfl ?_
    refine r_ldc2 K (-6) mc_RX0_62 dX0_setLastA_45 ?_
    refine r_lcmp K dX0_setLastA_48 ?_
    refine w_if_lt K 60 dX0_setLastA_49 (by decide) H (fun _ H => ?_) (fun _ H => ?_)
    · obtain ⟨z2, H2, rfl⟩ := jmap H
      exact r_sub [] rfl (t_X0_setLastA_60 K hl H2 D)
    · refine r_lload_n K 1 dX0_setLastA_52 rfl rfl ?_
      refine r_ldc2 K (6) mc_RX0_64 dX0_setLastA_53 ?_
      refine r_lcmp K dX0_setLastA_56 ?_
      refine w_if_le K 62 dX0_setLastA_57 (by decide) H (fun _ H => ?_) (fun _ H => ?_)
      · refine r_aload_n K 0 dX0_setLastA_62 rfl rfl ?_
        refine w_getO K vc0 inX0 0 (by decide) mF_RX0_12 dX0_setLastA_63 H (fun x2 H => ?_)
        refine w_getO K vc10 inX10 1 (by decide) mF_RX0_44 dX0_setLastA_66 H (fun x3 H => ?_)
        refine r_aload_n K 0 dX0_setLastA_69 rfl rfl ?_
        refine w_getI K vc0 inX0 1 (by decide) mF_RX0_18 dX0_setLastA_70 H (fun x4 H => ?_)
        refine r_iconst (v := 1) K dX0_setLastA_73 (by decide) ?_
        refine r_isub K dX0_setLastA_74 ?_
        refine r_lload_n K 1 dX0_setLastA_75 rfl rfl ?_
        refine r_l2i K dX0_setLastA_76 ?_
        refine w_iast K dX0_setLastA_77 H (fun μ5 H => ?_)
        refine r_iconst (v := 1) K dX0_setLastA_78 (by decide) ?_
        refine w_zret K dX0_setLastA_79 H (fun hz H => ?_)
        cases H
        simp only [Sum.elim_inr] at D
        obtain ⟨rfl, rfl⟩ := jfin2 D
        exact r_zret K hz dX0_setLastA_79
      · obtain ⟨z2, H2, rfl⟩ := jmap H
        exact r_sub [] rfl (t_X0_setLastA_60 K hl H2 D)
  · refine r_lload_n K 1 dX0_setLastA_25 rfl rfl ?_
    refine r_aload_n K 0 dX0_setLastA_26 rfl rfl ?_
    refine w_getO K vc0 inX0 0 (by decide) mF_RX0_12 dX0_setLastA_27 H (fun x7 H => ?_)
    refine w_getO K vc10 inX10 1 (by decide) mF_RX0_44 dX0_setLastA_30 H (fun x8 H => ?_)
    refine r_iload_n K 2 dX0_setLastA_33 rfl rfl ?_
    refine w_iald K dX0_setLastA_34 H (fun x9 H => ?_)
    refine r_i2l K dX0_setLastA_35 ?_
    refine r_lsub K dX0_setLastA_36 ?_
    refine r_lstore_n K [(1, .long _), (0, .ref _), (3, .int _)] dX0_setLastA_37 rfl (by decide) rfl ?_
    refine r_iinc K 2 [(3, .int _), (1, .long _), (0, .ref _)] (v := _ + (1 : Int32)) dX0_setLastA_38 rfl rfl (by decide) rfl ?_
    refine r_goto K 15 dX0_setLastA_41 (by decide) ?_
    cases H
    exact r_sub [2, 1, 0] rfl D
set_option maxRecDepth 10000 in
theorem l_X0_setLastA_15 {X : jX} {l : Launch} {n : Nat} {Y : jY} (K : jOK X RX0 cX0_setLastA 4 (some .boolean) 1) (hl : X.2.1 = l) {rr : Int32} {μr : jM} {v0 : Nat}  {s0 : Int64 × Int32 × jM} {z : (Int32 × jM)} (H : jit jF (fun (s : Int64 × Int32 × jM) => b_X0_setLastA_15 Y v0 s.1 s.2.1 s.2.2) s0 = some z) (D : z = (rr, μr)) : JW X (jEnd X n Y (some (.int rr)) μr 0 0) 0 0 n Y 15 [(0, .ref v0), (1, .long s0.1), (3, .int s0.2.1)] [] s0.2.2 :=
  jit_ind (P := fun (s : Int64 × Int32 × jM) => JW X (jEnd X n Y (some (.int rr)) μr 0 0) 0 0 n Y 15 [(0, .ref v0), (1, .long s.1), (3, .int s.2.1)] [] s.2.2) (D := fun r => r = (rr, μr)) (fun s z Hs Ds => t_X0_setLastA_15 K hl Hs Ds) jF s0 z H D
set_option maxRecDepth 10000 in
theorem t_X0_setLastA_0 {X : jX} {l : Launch} {n : Nat} {Y : jY} (K : jOK X RX0 cX0_setLastA 4 (some .boolean) 1) (hl : X.2.1 = l) {rr : Int32} {μr : jM} {v0 : Nat} {μ : jM} {z : (Int32 × jM)} (H : f_X0_setLastA Y v0 μ = some z) (D : z = (rr, μr)) : JW X (jEnd X n Y (some (.int rr)) μr 0 0) 0 0 n Y 0 [(0, .ref v0)] [] μ := by
  unfold f_X0_setLastA at H
  refine r_aload_n K 0 dX0_setLastA_0 rfl rfl ?_
  refine w_getO K vc0 inX0 2 (by decide) mF_RX0_22 dX0_setLastA_1 H (fun x1 H => ?_)
  refine r_aload_n K 0 dX0_setLastA_4 rfl rfl ?_
  refine w_getI K vc0 inX0 1 (by decide) mF_RX0_18 dX0_setLastA_5 H (fun x2 H => ?_)
  refine r_iconst (v := 1) K dX0_setLastA_8 (by decide) ?_
  refine r_isub K dX0_setLastA_9 ?_
  refine w_lald K dX0_setLastA_10 H (fun x3 H => ?_)
  refine r_lneg K dX0_setLastA_11 ?_
  refine r_lstore_n K [(1, .long _), (0, .ref _)] dX0_setLastA_12 rfl (by decide) rfl ?_
  refine r_iconst (v := 0) K dX0_setLastA_13 (by decide) ?_
  refine r_istore_n K [(3, .int _), (1, .long _), (0, .ref _)] dX0_setLastA_14 rfl (by decide) rfl ?_
  exact r_sub [2, 1, 0] rfl (l_X0_setLastA_15 K hl H D)
theorem c_X0_setLastA (l : Launch) {n : Nat} {Y : jY} {v0 : Nat} {μ : jM} {z : Int32 × jM} (H : f_X0_setLastA Y v0 μ = some z) : jC l yX0_setLastA cX0_setLastA 4 (some .boolean) 1 0 0 [.ref v0] n Y μ n Y (some (.int z.1)) z.2 := by
  refine jC_of (by decide +kernel) (Nat.le_of_ble_eq_true rfl) (fun X hl K _ _ _ => ?_)
  obtain ⟨rr, μr⟩ := z
  exact t_X0_setLastA_0 K hl H rfl
/-! RX0 codes()I -/
def b_X0_codes_26 (Y : jY) (t0 : Int32) (μ : jM) : Option (Int32 × jM) :=
  some (t0, μ)
def f_X0_codes (Y : jY) (v0 : Nat) (μ : jM) : Option (Int32 × jM) :=
  (jgI Y μ v0 0 1).bind fun x1 =>
  if x1 = ((3 : Int32)) then
    some ((6084 : Int32), μ)
  else
    (jgI Y μ v0 0 1).bind fun x2 =>
    if x2 = ((2 : Int32)) then
      b_X0_codes_26 Y (13 : Int32) μ
    else
      b_X0_codes_26 Y (1 : Int32) μ
set_option maxRecDepth 10000 in
theorem t_X0_codes_26 {X : jX} {l : Launch} {n : Nat} {Y : jY} (K : jOK X RX0 cX0_codes 1 (some .int) 1) (hl : X.2.1 = l) {rr : Int32} {μr : jM} {t0 : Int32} {μ : jM} {z : (Int32 × jM)} (H : b_X0_codes_26 Y t0 μ = some z) (D : z = (rr, μr)) : JW X (jEnd X n Y (some (.int rr)) μr 0 0) 0 0 n Y 26 [] [.int t0] μ := by
  unfold b_X0_codes_26 at H
  cases H
  obtain ⟨rfl, rfl⟩ := jfin2 D
  exact r_iret K dX0_codes_26
set_option maxRecDepth 10000 in
theorem t_X0_codes_0 {X : jX} {l : Launch} {n : Nat} {Y : jY} (K : jOK X RX0 cX0_codes 1 (some .int) 1) (hl : X.2.1 = l) {rr : Int32} {μr : jM} {v0 : Nat} {μ : jM} {z : (Int32 × jM)} (H : f_X0_codes Y v0 μ = some z) (D : z = (rr, μr)) : JW X (jEnd X n Y (some (.int rr)) μr 0 0) 0 0 n Y 0 [(0, .ref v0)] [] μ := by
  unfold f_X0_codes at H
  refine r_aload_n K 0 dX0_codes_0 rfl rfl ?_
  refine w_getI K vc0 inX0 1 (by decide) mF_RX0_18 dX0_codes_1 H (fun x1 H => ?_)
  refine r_iconst (v := 3) K dX0_codes_4 (by decide) ?_
  refine w_icmp_ne K 12 dX0_codes_5 (by decide) H (fun _ H => ?_) (fun _ H => ?_)
  · refine r_aload_n K 0 dX0_codes_12 rfl rfl ?_
    refine w_getI K vc0 inX0 1 (by decide) mF_RX0_18 dX0_codes_13 H (fun x2 H => ?_)
    refine r_iconst (v := 2) K dX0_codes_16 (by decide) ?_
    refine w_icmp_ne K 25 dX0_codes_17 (by decide) H (fun _ H => ?_) (fun _ H => ?_)
    · refine r_iconst (v := 1) K dX0_codes_25 (by decide) ?_
      exact r_sub [] rfl (t_X0_codes_26 K hl H D)
    · refine r_bipush (v := 13) K dX0_codes_20 (by decide) ?_
      refine r_goto K 26 dX0_codes_22 (by decide) ?_
      exact r_sub [] rfl (t_X0_codes_26 K hl H D)
  · refine r_sipush (v := 6084) K dX0_codes_8 (by decide) ?_
    cases H
    obtain ⟨rfl, rfl⟩ := jfin2 D
    exact r_iret K dX0_codes_11
theorem c_X0_codes (l : Launch) {n : Nat} {Y : jY} {v0 : Nat} {μ : jM} {z : Int32 × jM} (H : f_X0_codes Y v0 μ = some z) : jC l yX0_codes cX0_codes 1 (some .int) 1 0 0 [.ref v0] n Y μ n Y (some (.int z.1)) z.2 := by
  refine jC_of (by decide +kernel) (Nat.le_of_ble_eq_true rfl) (fun X hl K _ _ _ => ?_)
  obtain ⟨rr, μr⟩ := z
  exact t_X0_codes_0 K hl H rfl
/-! RX0 setLastC()Z -/
def b_X0_setLastC_123 (Y : jY) (μ : jM) : Option (Int32 × jM) :=
  (jbool ((0 : Int32))).bind fun x1 =>
  some (x1, μ)
def b_X0_setLastC_80 (Y : jY) (v0 : Nat) (v1 : Int64) (v3 : Int32) (μ : jM) : Option ((Int64 × Int32 × jM) ⊕ (Int32 × jM)) :=
  (jgI Y μ v0 0 1).bind fun x1 =>
  if ((x1 - ((2 : Int32)))) ≤ v3 then
    if ((lg_cmp v1 ((1 : Int64)))) < 0 then
      (b_X0_setLastC_123 Y μ).map (fun r => (.inr r))
    else
      if ((lg_cmp v1 ((36 : Int64)))) ≤ 0 then
        (jgO Y μ v0 0 0).bind fun x2 =>
        (jgO Y μ x2 10 2).bind fun x3 =>
        (jgI Y μ v0 0 1).bind fun x4 =>
        (jas Y μ x3 20 ((x4 - ((2 : Int32)))) (.int ((v1.toInt32)))).bind fun μ5 =>
        (jbool ((1 : Int32))).bind fun x6 =>
        some (.inr (x6, μ5))
      else
        (b_X0_setLastC_123 Y μ).map (fun r => (.inr r))
  else
    (jgO Y μ v0 0 0).bind fun x7 =>
    (jgO Y μ x7 10 2).bind fun x8 =>
    (jaI Y μ x8 20 v3).bind fun x9 =>
    some (.inl ((v1 - ((x9.toInt64))), (v3 + (1 : Int32)), μ))
def b_X0_setLastC_36 (Y : jY) (v0 : Nat) (v1 : Int64) (v3 : Int32) (v4 : Int32) (μ : jM) : Option ((Int64 × Int32 × jM) ⊕ ((Int64 × Int32 × jM) ⊕ (Int32 × jM))) :=
  if v3 ≤ v4 then
    some (.inr (.inl (v1, (v3 + (1 : Int32)), μ)))
  else
    (jgO Y μ v0 0 0).bind fun x1 =>
    (jgO Y μ x1 10 1).bind fun x2 =>
    (jaI Y μ x2 20 v3).bind fun x3 =>
    (jgO Y μ v0 0 0).bind fun x4 =>
    (jgO Y μ x4 10 1).bind fun x5 =>
    (jaI Y μ x5 20 v4).bind fun x6 =>
    some (.inl ((v1 + ((((x3 * x6)).toInt64))), (v4 + (1 : Int32)), μ))
def b_X0_setLastC_25 (Y : jY) (v0 : Nat) (v1 : Int64) (v3 : Int32) (μ : jM) : Option ((Int64 × Int32 × jM) ⊕ (Int32 × jM)) :=
  (jgI Y μ v0 0 1).bind fun x1 =>
  if x1 ≤ v3 then
    (jit jF (fun (s : Int64 × Int32 × jM) => b_X0_setLastC_80 Y v0 s.1 s.2.1 s.2.2) (v1, (0 : Int32), μ)).map (fun r => (.inr r))
  else
    jit jF (fun (s : Int64 × Int32 × jM) => b_X0_setLastC_36 Y v0 s.1 v3 s.2.1 s.2.2) (v1, (0 : Int32), μ)
def f_X0_setLastC (Y : jY) (v0 : Nat) (μ : jM) : Option (Int32 × jM) :=
  (jgI Y μ v0 0 1).bind fun x1 =>
  if ((2 : Int32)) ≤ x1 then
    (jgO Y μ v0 0 2).bind fun x2 =>
    (jgI Y μ v0 0 1).bind fun x3 =>
    (jaL Y μ x2 21 ((x3 - ((2 : Int32))))).bind fun x4 =>
    jit jF (fun (s : Int64 × Int32 × jM) => b_X0_setLastC_25 Y v0 s.1 s.2.1 s.2.2) ((-x4), (0 : Int32), μ)
  else
    (jbool ((1 : Int32))).bind fun x5 =>
    some (x5, μ)
set_option maxRecDepth 10000 in
theorem t_X0_setLastC_123 {X : jX} {l : Launch} {n : Nat} {Y : jY} (K : jOK X RX0 cX0_setLastC 5 (some .boolean) 1) (hl : X.2.1 = l) {rr : Int32} {μr : jM} {μ : jM} {z : (Int32 × jM)} (H : b_X0_setLastC_123 Y μ = some z) (D : z = (rr, μr)) : JW X (jEnd X n Y (some (.int rr)) μr 0 0) 0 0 n Y 123 [] [] μ := by
  unfold b_X0_setLastC_123 at H
  refine r_iconst (v := 0) K dX0_setLastC_123 (by decide) ?_
  refine w_zret K dX0_setLastC_124 H (fun hz H => ?_)
  cases H
  obtain ⟨rfl, rfl⟩ := jfin2 D
  exact r_zret K hz dX0_setLastC_124
set_option maxRecDepth 10000 in
theorem t_X0_setLastC_80 {X : jX} {l : Launch} {n : Nat} {Y : jY} (K : jOK X RX0 cX0_setLastC 5 (some .boolean) 1) (hl : X.2.1 = l) {rr : Int32} {μr : jM} {v0 : Nat} {v1 : Int64} {v3 : Int32} {μ : jM} {z : ((Int64 × Int32 × jM) ⊕ (Int32 × jM))} (H : b_X0_setLastC_80 Y v0 v1 v3 μ = some z) (D : Sum.elim (fun (s : Int64 × Int32 × jM) => JW X (jEnd X n Y (some (.int rr)) μr 0 0) 0 0 n Y 80 [(0, .ref v0), (1, .long s.1), (3, .int s.2.1)] [] s.2.2) (fun r => r = (rr, μr)) z) : JW X (jEnd X n Y (some (.int rr)) μr 0 0) 0 0 n Y 80 [(0, .ref v0), (1, .long v1), (3, .int v3)] [] μ := by
  unfold b_X0_setLastC_80 at H
  refine r_iload_n K 2 dX0_setLastC_80 rfl rfl ?_
  refine r_aload_n K 0 dX0_setLastC_81 rfl rfl ?_
  refine w_getI K vc0 inX0 1 (by decide) mF_RX0_18 dX0_setLastC_82 H (fun x1 H => ?_)
  refine r_iconst (v := 2) K dX0_setLastC_85 (by decide) ?_
  refine r_isub K dX0_setLastC_86 ?_
  refine w_icmp_ge K 109 dX0_setLastC_87 (by decide) H (fun _ H => ?_) (fun _ H => ?_)
  · refine r_lload_n K 1 dX0_setLastC_109 rfl rfl ?_
    refine r_lconst (v := 1) K dX0_setLastC_110 (by decide) ?_
    refine r_lcmp K dX0_setLastC_111 ?_
    refine w_if_lt K 123 dX0_setLastC_112 (by decide) H (fun _ H => ?_) (fun _ H => ?_)
    · obtain ⟨z2, H2, rfl⟩ := jmap H
      exact r_sub [] rfl (t_X0_setLastC_123 K hl H2 D)
    · refine r_lload_n K 1 dX0_setLastC_115 rfl rfl ?_
      refine r_ldc2 K (36) mc_RX0_66 dX0_setLastC_116 ?_
      refine r_lcmp K dX0_setLastC_119 ?_
      refine w_if_le K 125 dX0_setLastC_120 (by decide) H (fun _ H => ?_) (fun _ H => ?_)
      · refine r_aload_n K 0 dX0_setLastC_125 rfl rfl ?_
        refine w_getO K vc0 inX0 0 (by decide) mF_RX0_12 dX0_setLastC_126 H (fun x2 H => ?_)
        refine w_getO K vc10 inX10 2 (by decide) mF_RX0_48 dX0_setLastC_129 H (fun x3 H => ?_)
        refine r_aload_n K 0 dX0_setLastC_132 rfl rfl ?_
        refine w_getI K vc0 inX0 1 (by decide) mF_RX0_18 dX0_setLastC_133 H (fun x4 H => ?_)
        refine r_iconst (v := 2) K dX0_setLastC_136 (by decide) ?_
        refine r_isub K dX0_setLastC_137 ?_
        refine r_lload_n K 1 dX0_setLastC_138 rfl rfl ?_
        refine r_l2i K dX0_setLastC_139 ?_
        refine w_iast K dX0_setLastC_140 H (fun μ5 H => ?_)
        refine r_iconst (v := 1) K dX0_setLastC_141 (by decide) ?_
        refine w_zret K dX0_setLastC_142 H (fun hz H => ?_)
        cases H
        simp only [Sum.elim_inr] at D
        obtain ⟨rfl, rfl⟩ := jfin2 D
        exact r_zret K hz dX0_setLastC_142
      · obtain ⟨z2, H2, rfl⟩ := jmap H
        exact r_sub [] rfl (t_X0_setLastC_123 K hl H2 D)
  · refine r_lload_n K 1 dX0_setLastC_90 rfl rfl ?_
    refine r_aload_n K 0 dX0_setLastC_91 rfl rfl ?_
    refine w_getO K vc0 inX0 0 (by decide) mF_RX0_12 dX0_setLastC_92 H (fun x7 H => ?_)
    refine w_getO K vc10 inX10 2 (by decide) mF_RX0_48 dX0_setLastC_95 H (fun x8 H => ?_)
    refine r_iload_n K 2 dX0_setLastC_98 rfl rfl ?_
    refine w_iald K dX0_setLastC_99 H (fun x9 H => ?_)
    refine r_i2l K dX0_setLastC_100 ?_
    refine r_lsub K dX0_setLastC_101 ?_
    refine r_lstore_n K [(1, .long _), (0, .ref _), (3, .int _)] dX0_setLastC_102 rfl (by decide) rfl ?_
    refine r_iinc K 2 [(3, .int _), (1, .long _), (0, .ref _)] (v := _ + (1 : Int32)) dX0_setLastC_103 rfl rfl (by decide) rfl ?_
    refine r_goto K 80 dX0_setLastC_106 (by decide) ?_
    cases H
    exact r_sub [2, 1, 0] rfl D
set_option maxRecDepth 10000 in
theorem l_X0_setLastC_80 {X : jX} {l : Launch} {n : Nat} {Y : jY} (K : jOK X RX0 cX0_setLastC 5 (some .boolean) 1) (hl : X.2.1 = l) {rr : Int32} {μr : jM} {v0 : Nat}  {s0 : Int64 × Int32 × jM} {z : (Int32 × jM)} (H : jit jF (fun (s : Int64 × Int32 × jM) => b_X0_setLastC_80 Y v0 s.1 s.2.1 s.2.2) s0 = some z) (D : z = (rr, μr)) : JW X (jEnd X n Y (some (.int rr)) μr 0 0) 0 0 n Y 80 [(0, .ref v0), (1, .long s0.1), (3, .int s0.2.1)] [] s0.2.2 :=
  jit_ind (P := fun (s : Int64 × Int32 × jM) => JW X (jEnd X n Y (some (.int rr)) μr 0 0) 0 0 n Y 80 [(0, .ref v0), (1, .long s.1), (3, .int s.2.1)] [] s.2.2) (D := fun r => r = (rr, μr)) (fun s z Hs Ds => t_X0_setLastC_80 K hl Hs Ds) jF s0 z H D
set_option maxRecDepth 10000 in
theorem t_X0_setLastC_36 {X : jX} {l : Launch} {n : Nat} {Y : jY} (K : jOK X RX0 cX0_setLastC 5 (some .boolean) 1) (hl : X.2.1 = l) {rr : Int32} {μr : jM} {v0 : Nat} {v1 : Int64} {v3 : Int32} {v4 : Int32} {μ : jM} {z : ((Int64 × Int32 × jM) ⊕ ((Int64 × Int32 × jM) ⊕ (Int32 × jM)))} (H : b_X0_setLastC_36 Y v0 v1 v3 v4 μ = some z) (D : Sum.elim (fun (s : Int64 × Int32 × jM) => JW X (jEnd X n Y (some (.int rr)) μr 0 0) 0 0 n Y 36 [(0, .ref v0), (1, .long s.1), (3, .int v3), (4, .int s.2.1)] [] s.2.2) (Sum.elim (fun (s : Int64 × Int32 × jM) => JW X (jEnd X n Y (some (.int rr)) μr 0 0) 0 0 n Y 25 [(0, .ref v0), (1, .long s.1), (3, .int s.2.1)] [] s.2.2) (fun r => r = (rr, μr))) z) : JW X (jEnd X n Y (some (.int rr)) μr 0 0) 0 0 n Y 36 [(0, .ref v0), (1, .long v1), (3, .int v3), (4, .int v4)] [] μ := by
  unfold b_X0_setLastC_36 at H
  refine r_iload K 3 dX0_setLastC_36 rfl ?_
  refine r_iload_n K 2 dX0_setLastC_38 rfl rfl ?_
  refine w_icmp_ge K 72 dX0_setLastC_39 (by decide) H (fun _ H => ?_) (fun _ H => ?_)
  · refine r_iinc K 2 [(3, .int _), (0, .ref _), (1, .long _), (4, .int _)] (v := _ + (1 : Int32)) dX0_setLastC_72 rfl rfl (by decide) rfl ?_
    refine r_goto K 25 dX0_setLastC_75 (by decide) ?_
    cases H
    exact r_sub [1, 2, 0] rfl D
  · refine r_lload_n K 1 dX0_setLastC_42 rfl rfl ?_
    refine r_aload_n K 0 dX0_setLastC_43 rfl rfl ?_
    refine w_getO K vc0 inX0 0 (by decide) mF_RX0_12 dX0_setLastC_44 H (fun x1 H => ?_)
    refine w_getO K vc10 inX10 1 (by decide) mF_RX0_44 dX0_setLastC_47 H (fun x2 H => ?_)
    refine r_iload_n K 2 dX0_setLastC_50 rfl rfl ?_
    refine w_iald K dX0_setLastC_51 H (fun x3 H => ?_)
    refine r_aload_n K 0 dX0_setLastC_52 rfl rfl ?_
    refine w_getO K vc0 inX0 0 (by decide) mF_RX0_12 dX0_setLastC_53 H (fun x4 H => ?_)
    refine w_getO K vc10 inX10 1 (by decide) mF_RX0_44 dX0_setLastC_56 H (fun x5 H => ?_)
    refine r_iload K 3 dX0_setLastC_59 rfl ?_
    refine w_iald K dX0_setLastC_61 H (fun x6 H => ?_)
    refine r_imul K dX0_setLastC_62 ?_
    refine r_i2l K dX0_setLastC_63 ?_
    refine r_ladd K dX0_setLastC_64 ?_
    refine r_lstore_n K [(1, .long _), (0, .ref _), (3, .int _), (4, .int _)] dX0_setLastC_65 rfl (by decide) rfl ?_
    refine r_iinc K 3 [(4, .int _), (1, .long _), (0, .ref _), (3, .int _)] (v := _ + (1 : Int32)) dX0_setLastC_66 rfl rfl (by decide) rfl ?_
    refine r_goto K 36 dX0_setLastC_69 (by decide) ?_
    cases H
    exact r_sub [2, 1, 3, 0] rfl D
set_option maxRecDepth 10000 in
theorem l_X0_setLastC_36 {X : jX} {l : Launch} {n : Nat} {Y : jY} (K : jOK X RX0 cX0_setLastC 5 (some .boolean) 1) (hl : X.2.1 = l) {rr : Int32} {μr : jM} {v0 : Nat} {v3 : Int32}  {s0 : Int64 × Int32 × jM} {z : ((Int64 × Int32 × jM) ⊕ (Int32 × jM))} (H : jit jF (fun (s : Int64 × Int32 × jM) => b_X0_setLastC_36 Y v0 s.1 v3 s.2.1 s.2.2) s0 = some z) (D : Sum.elim (fun (s : Int64 × Int32 × jM) => JW X (jEnd X n Y (some (.int rr)) μr 0 0) 0 0 n Y 25 [(0, .ref v0), (1, .long s.1), (3, .int s.2.1)] [] s.2.2) (fun r => r = (rr, μr)) z) : JW X (jEnd X n Y (some (.int rr)) μr 0 0) 0 0 n Y 36 [(0, .ref v0), (1, .long s0.1), (3, .int v3), (4, .int s0.2.1)] [] s0.2.2 :=
  jit_ind (P := fun (s : Int64 × Int32 × jM) => JW X (jEnd X n Y (some (.int rr)) μr 0 0) 0 0 n Y 36 [(0, .ref v0), (1, .long s.1), (3, .int v3), (4, .int s.2.1)] [] s.2.2) (D := Sum.elim (fun (s : Int64 × Int32 × jM) => JW X (jEnd X n Y (some (.int rr)) μr 0 0) 0 0 n Y 25 [(0, .ref v0), (1, .long s.1), (3, .int s.2.1)] [] s.2.2) (fun r => r = (rr, μr))) (fun s z Hs Ds => t_X0_setLastC_36 K hl Hs Ds) jF s0 z H D
set_option maxRecDepth 10000 in
theorem t_X0_setLastC_25 {X : jX} {l : Launch} {n : Nat} {Y : jY} (K : jOK X RX0 cX0_setLastC 5 (some .boolean) 1) (hl : X.2.1 = l) {rr : Int32} {μr : jM} {v0 : Nat} {v1 : Int64} {v3 : Int32} {μ : jM} {z : ((Int64 × Int32 × jM) ⊕ (Int32 × jM))} (H : b_X0_setLastC_25 Y v0 v1 v3 μ = some z) (D : Sum.elim (fun (s : Int64 × Int32 × jM) => JW X (jEnd X n Y (some (.int rr)) μr 0 0) 0 0 n Y 25 [(0, .ref v0), (1, .long s.1), (3, .int s.2.1)] [] s.2.2) (fun r => r = (rr, μr)) z) : JW X (jEnd X n Y (some (.int rr)) μr 0 0) 0 0 n Y 25 [(0, .ref v0), (1, .long v1), (3, .int v3)] [] μ := by
  unfold b_X0_setLastC_25 at H
  refine r_iload_n K 2 dX0_setLastC_25 rfl rfl ?_
  refine r_aload_n K 0 dX0_setLastC_26 rfl rfl ?_
  refine w_getI K vc0 inX0 1 (by decide) mF_RX0_18 dX0_setLastC_27 H (fun x1 H => ?_)
  refine w_icmp_ge K 78 dX0_setLastC_30 (by decide) H (fun _ H => ?_) (fun _ H => ?_)
  · refine r_iconst (v := 0) K dX0_setLastC_78 (by decide) ?_
    refine r_istore_n K [(3, .int _), (0, .ref _), (1, .long _)] dX0_setLastC_79 rfl (by decide) rfl ?_
    obtain ⟨z2, H2, rfl⟩ := jmap H
    exact r_sub [1, 2, 0] rfl (l_X0_setLastC_80 K hl H2 D)
  · refine r_iconst (v := 0) K dX0_setLastC_33 (by decide) ?_
    refine r_istore K [(4, .int _), (0, .ref _), (1, .long _), (3, .int _)] dX0_setLastC_34 (by decide) rfl ?_
    exact r_sub [1, 2, 3, 0] rfl (l_X0_setLastC_36 K hl H D)
set_option maxRecDepth 10000 in
theorem l_X0_setLastC_25 {X : jX} {l : Launch} {n : Nat} {Y : jY} (K : jOK X RX0 cX0_setLastC 5 (some .boolean) 1) (hl : X.2.1 = l) {rr : Int32} {μr : jM} {v0 : Nat}  {s0 : Int64 × Int32 × jM} {z : (Int32 × jM)} (H : jit jF (fun (s : Int64 × Int32 × jM) => b_X0_setLastC_25 Y v0 s.1 s.2.1 s.2.2) s0 = some z) (D : z = (rr, μr)) : JW X (jEnd X n Y (some (.int rr)) μr 0 0) 0 0 n Y 25 [(0, .ref v0), (1, .long s0.1), (3, .int s0.2.1)] [] s0.2.2 :=
  jit_ind (P := fun (s : Int64 × Int32 × jM) => JW X (jEnd X n Y (some (.int rr)) μr 0 0) 0 0 n Y 25 [(0, .ref v0), (1, .long s.1), (3, .int s.2.1)] [] s.2.2) (D := fun r => r = (rr, μr)) (fun s z Hs Ds => t_X0_setLastC_25 K hl Hs Ds) jF s0 z H D
set_option maxRecDepth 10000 in
theorem t_X0_setLastC_0 {X : jX} {l : Launch} {n : Nat} {Y : jY} (K : jOK X RX0 cX0_setLastC 5 (some .boolean) 1) (hl : X.2.1 = l) {rr : Int32} {μr : jM} {v0 : Nat} {μ : jM} {z : (Int32 × jM)} (H : f_X0_setLastC Y v0 μ = some z) (D : z = (rr, μr)) : JW X (jEnd X n Y (some (.int rr)) μr 0 0) 0 0 n Y 0 [(0, .ref v0)] [] μ := by
  unfold f_X0_setLastC at H
  refine r_aload_n K 0 dX0_setLastC_0 rfl rfl ?_
  refine w_getI K vc0 inX0 1 (by decide) mF_RX0_18 dX0_setLastC_1 H (fun x1 H => ?_)
  refine r_iconst (v := 2) K dX0_setLastC_4 (by decide) ?_
  refine w_icmp_ge K 10 dX0_setLastC_5 (by decide) H (fun _ H => ?_) (fun _ H => ?_)
  · refine r_aload_n K 0 dX0_setLastC_10 rfl rfl ?_
    refine w_getO K vc0 inX0 2 (by decide) mF_RX0_22 dX0_setLastC_11 H (fun x2 H => ?_)
    refine r_aload_n K 0 dX0_setLastC_14 rfl rfl ?_
    refine w_getI K vc0 inX0 1 (by decide) mF_RX0_18 dX0_setLastC_15 H (fun x3 H => ?_)
    refine r_iconst (v := 2) K dX0_setLastC_18 (by decide) ?_
    refine r_isub K dX0_setLastC_19 ?_
    refine w_lald K dX0_setLastC_20 H (fun x4 H => ?_)
    refine r_lneg K dX0_setLastC_21 ?_
    refine r_lstore_n K [(1, .long _), (0, .ref _)] dX0_setLastC_22 rfl (by decide) rfl ?_
    refine r_iconst (v := 0) K dX0_setLastC_23 (by decide) ?_
    refine r_istore_n K [(3, .int _), (1, .long _), (0, .ref _)] dX0_setLastC_24 rfl (by decide) rfl ?_
    exact r_sub [2, 1, 0] rfl (l_X0_setLastC_25 K hl H D)
  · refine r_iconst (v := 1) K dX0_setLastC_8 (by decide) ?_
    refine w_zret K dX0_setLastC_9 H (fun hz H => ?_)
    cases H
    obtain ⟨rfl, rfl⟩ := jfin2 D
    exact r_zret K hz dX0_setLastC_9
theorem c_X0_setLastC (l : Launch) {n : Nat} {Y : jY} {v0 : Nat} {μ : jM} {z : Int32 × jM} (H : f_X0_setLastC Y v0 μ = some z) : jC l yX0_setLastC cX0_setLastC 5 (some .boolean) 1 0 0 [.ref v0] n Y μ n Y (some (.int z.1)) z.2 := by
  refine jC_of (by decide +kernel) (Nat.le_of_ble_eq_true rfl) (fun X hl K _ _ _ => ?_)
  obtain ⟨rr, μr⟩ := z
  exact t_X0_setLastC_0 K hl H rfl
/-! RX10 valueBehind(IJJII)J -/
def b_X10_valueBehind_49 (Y : jY) (t0 : Int64) (μ : jM) : Option (Int64 × jM) :=
  some (t0, μ)
def f_X10_valueBehind (Y : jY) (v0 : Nat) (v1 : Int32) (v2 : Int64) (v4 : Int64) (v6 : Int32) (v7 : Int32) (μ : jM) : Option (Int64 × jM) :=
  (jgO Y μ v0 10 1).bind fun x1 =>
  (jaI Y μ x1 20 v1).bind fun x2 =>
  if v1 = 0 then
    b_X10_valueBehind_49 Y (((((v6 - ((v7 * x2)))).toInt64)) * v4) μ
  else
    (jgO Y μ v0 10 2).bind fun x3 =>
    (jaI Y μ x3 20 ((v1 - ((1 : Int32))))).bind fun x4 =>
    b_X10_valueBehind_49 Y (((((((v6 - ((v7 * x2)))).toInt64)) * v4)) - ((((((((v7.toInt64)) * ((v7.toInt64)))) * ((x4.toInt64)))) * v2))) μ
set_option maxRecDepth 10000 in
theorem t_X10_valueBehind_49 {X : jX} {l : Launch} {n : Nat} {Y : jY} (K : jOK X RX10 cX10_valueBehind 10 (some .long) 1) (hl : X.2.1 = l) {rr : Int64} {μr : jM} {t0 : Int64} {μ : jM} {z : (Int64 × jM)} (H : b_X10_valueBehind_49 Y t0 μ = some z) (D : z = (rr, μr)) : JW X (jEnd X n Y (some (.long rr)) μr 0 0) 0 0 n Y 49 [] [.long t0] μ := by
  unfold b_X10_valueBehind_49 at H
  cases H
  obtain ⟨rfl, rfl⟩ := jfin2 D
  exact r_lret K dX10_valueBehind_49
set_option maxRecDepth 10000 in
theorem t_X10_valueBehind_0 {X : jX} {l : Launch} {n : Nat} {Y : jY} (K : jOK X RX10 cX10_valueBehind 10 (some .long) 1) (hl : X.2.1 = l) {rr : Int64} {μr : jM} {v0 : Nat} {v1 : Int32} {v2 : Int64} {v4 : Int64} {v6 : Int32} {v7 : Int32} {μ : jM} {z : (Int64 × jM)} (H : f_X10_valueBehind Y v0 v1 v2 v4 v6 v7 μ = some z) (D : z = (rr, μr)) : JW X (jEnd X n Y (some (.long rr)) μr 0 0) 0 0 n Y 0 [(0, .ref v0), (1, .int v1), (2, .long v2), (4, .long v4), (6, .int v6), (7, .int v7)] [] μ := by
  unfold f_X10_valueBehind at H
  refine r_iload K 4 dX10_valueBehind_0 rfl ?_
  refine r_iload K 5 dX10_valueBehind_2 rfl ?_
  refine r_aload_n K 0 dX10_valueBehind_4 rfl rfl ?_
  refine w_getO K vc10 inX10 1 (by decide) mF_RX10_15 dX10_valueBehind_5 H (fun x1 H => ?_)
  refine r_iload_n K 1 dX10_valueBehind_8 rfl rfl ?_
  refine w_iald K dX10_valueBehind_9 H (fun x2 H => ?_)
  refine r_imul K dX10_valueBehind_10 ?_
  refine r_isub K dX10_valueBehind_11 ?_
  refine r_i2l K dX10_valueBehind_12 ?_
  refine r_lload K 3 dX10_valueBehind_13 rfl ?_
  refine r_lmul K dX10_valueBehind_15 ?_
  refine r_lstore K [(8, .long _), (0, .ref _), (1, .int _), (2, .long _), (4, .long _), (6, .int _), (7, .int _)] dX10_valueBehind_16 (by decide) rfl ?_
  refine r_iload_n K 2 dX10_valueBehind_18 rfl rfl ?_
  refine w_if_ne K 27 dX10_valueBehind_19 (by decide) H (fun _ H => ?_) (fun _ H => ?_)
  · refine r_lload K 0 dX10_valueBehind_27 rfl ?_
    refine r_iload K 6 dX10_valueBehind_29 rfl ?_
    refine r_i2l K dX10_valueBehind_31 ?_
    refine r_iload K 6 dX10_valueBehind_32 rfl ?_
    refine r_i2l K dX10_valueBehind_34 ?_
    refine r_lmul K dX10_valueBehind_35 ?_
    refine r_aload_n K 1 dX10_valueBehind_36 rfl rfl ?_
    refine w_getO K vc10 inX10 2 (by decide) mF_RX10_19 dX10_valueBehind_37 H (fun x3 H => ?_)
    refine r_iload_n K 2 dX10_valueBehind_40 rfl rfl ?_
    refine r_iconst (v := 1) K dX10_valueBehind_41 (by decide) ?_
    refine r_isub K dX10_valueBehind_42 ?_
    refine w_iald K dX10_valueBehind_43 H (fun x4 H => ?_)
    refine r_i2l K dX10_valueBehind_44 ?_
    refine r_lmul K dX10_valueBehind_45 ?_
    refine r_lload_n K 3 dX10_valueBehind_46 rfl rfl ?_
    refine r_lmul K dX10_valueBehind_47 ?_
    refine r_lsub K dX10_valueBehind_48 ?_
    exact r_sub [] rfl (t_X10_valueBehind_49 K hl H D)
  · refine r_lload K 0 dX10_valueBehind_22 rfl ?_
    refine r_goto K 49 dX10_valueBehind_24 (by decide) ?_
    exact r_sub [] rfl (t_X10_valueBehind_49 K hl H D)
theorem c_X10_valueBehind (l : Launch) {n : Nat} {Y : jY} {v0 : Nat} {v1 : Int32} {v2 : Int64} {v4 : Int64} {v6 : Int32} {v7 : Int32} {μ : jM} {z : Int64 × jM} (H : f_X10_valueBehind Y v0 v1 v2 v4 v6 v7 μ = some z) : jC l yX10_valueBehind cX10_valueBehind 10 (some .long) 1 0 0 [.ref v0, .int v1, .long v2, .long v4, .int v6, .int v7] n Y μ n Y (some (.long z.1)) z.2 := by
  refine jC_of (by decide +kernel) (Nat.le_of_ble_eq_true rfl) (fun X hl K _ _ _ => ?_)
  obtain ⟨rr, μr⟩ := z
  exact t_X10_valueBehind_0 K hl H rfl
/-! RX10 valueAt(IIII)J -/
def b_X10_valueAt_55 (Y : jY) (v7 : Int64) (μ : jM) : Option (Int64 × jM) :=
  some (v7, μ)
def b_X10_valueAt_9 (Y : jY) (v0 : Nat) (v1 : Int32) (v2 : Int32) (v3 : Int32) (v4 : Int32) (v5 : Int64) (v7 : Int64) (v9 : Int32) (μ : jM) : Option ((Int64 × Int64 × Int32 × jM) ⊕ (Int64 × jM)) :=
  if ((v1 + v2)) ≤ v9 then
    (b_X10_valueAt_55 Y v7 μ).map (fun r => (.inr r))
  else
    (jgI Y μ v0 10 0).bind fun x1 =>
    if x1 ≤ v9 then
      (b_X10_valueAt_55 Y v7 μ).map (fun r => (.inr r))
    else
      (jrcv Y v0 10 (f_X10_valueBehind Y v0 v9 v5 v7 v3 v4 μ)).bind fun r2 =>
      some (.inl (v7, r2.1, (v9 + (1 : Int32)), r2.2))
def f_X10_valueAt (Y : jY) (v0 : Nat) (v1 : Int32) (v2 : Int32) (v3 : Int32) (v4 : Int32) (μ : jM) : Option (Int64 × jM) :=
  jit jF (fun (s : Int64 × Int64 × Int32 × jM) => b_X10_valueAt_9 Y v0 v1 v2 v3 v4 s.1 s.2.1 s.2.2.1 s.2.2.2) ((0 : Int64), (1 : Int64), v1, μ)
set_option maxRecDepth 10000 in
theorem t_X10_valueAt_55 {X : jX} {l : Launch} {n : Nat} {Y : jY} (K : jOK X RX10 cX10_valueAt 12 (some .long) 2) (hl : X.2.1 = l) {rr : Int64} {μr : jM} {v7 : Int64} {μ : jM} {z : (Int64 × jM)} (H : b_X10_valueAt_55 Y v7 μ = some z) (D : z = (rr, μr)) : JW X (jEnd X n Y (some (.long rr)) μr 0 0) 0 0 n Y 55 [(7, .long v7)] [] μ := by
  unfold b_X10_valueAt_55 at H
  refine r_lload K 0 dX10_valueAt_55 rfl ?_
  cases H
  obtain ⟨rfl, rfl⟩ := jfin2 D
  exact r_lret K dX10_valueAt_57
set_option maxRecDepth 10000 in
theorem t_X10_valueAt_9 {X : jX} {l : Launch} {n : Nat} {Y : jY} (K : jOK X RX10 cX10_valueAt 12 (some .long) 2) (hl : X.2.1 = l) {rr : Int64} {μr : jM} {v0 : Nat} {v1 : Int32} {v2 : Int32} {v3 : Int32} {v4 : Int32} {v5 : Int64} {v7 : Int64} {v9 : Int32} {μ : jM} {z : ((Int64 × Int64 × Int32 × jM) ⊕ (Int64 × jM))} (H : b_X10_valueAt_9 Y v0 v1 v2 v3 v4 v5 v7 v9 μ = some z) (D : Sum.elim (fun (s : Int64 × Int64 × Int32 × jM) => JW X (jEnd X n Y (some (.long rr)) μr 0 0) 0 0 n Y 9 [(0, .ref v0), (1, .int v1), (2, .int v2), (3, .int v3), (4, .int v4), (5, .long s.1), (7, .long s.2.1), (9, .int s.2.2.1)] [] s.2.2.2) (fun r => r = (rr, μr)) z) : JW X (jEnd X n Y (some (.long rr)) μr 0 0) 0 0 n Y 9 [(0, .ref v0), (1, .int v1), (2, .int v2), (3, .int v3), (4, .int v4), (5, .long v5), (7, .long v7), (9, .int v9)] [] μ := by
  unfold b_X10_valueAt_9 at H
  refine r_iload K 7 dX10_valueAt_9 rfl ?_
  refine r_iload_n K 1 dX10_valueAt_11 rfl rfl ?_
  refine r_iload_n K 2 dX10_valueAt_12 rfl rfl ?_
  refine r_iadd K dX10_valueAt_13 ?_
  refine w_icmp_ge K 55 dX10_valueAt_14 (by decide) H (fun _ H => ?_) (fun _ H => ?_)
  · obtain ⟨z2, H2, rfl⟩ := jmap H
    exact r_sub [6] rfl (t_X10_valueAt_55 K hl H2 D)
  · refine r_iload K 7 dX10_valueAt_17 rfl ?_
    refine r_aload_n K 0 dX10_valueAt_19 rfl rfl ?_
    refine w_getI K vc10 inX10 0 (by decide) mF_RX10_9 dX10_valueAt_20 H (fun x1 H => ?_)
    refine w_icmp_ge K 55 dX10_valueAt_23 (by decide) H (fun _ H => ?_) (fun _ H => ?_)
    · obtain ⟨z2, H2, rfl⟩ := jmap H
      exact r_sub [6] rfl (t_X10_valueAt_55 K hl H2 D)
    · refine r_aload_n K 0 dX10_valueAt_26 rfl rfl ?_
      refine r_iload K 7 dX10_valueAt_27 rfl ?_
      refine r_lload K 5 dX10_valueAt_29 rfl ?_
      refine r_lload K 6 dX10_valueAt_31 rfl ?_
      refine r_iload_n K 3 dX10_valueAt_33 rfl rfl ?_
      refine r_iload K 4 dX10_valueAt_34 rfl ?_
      refine w_callV K hl H (fun r h => c_X10_valueBehind l h) mC_yX10_valueBehind mM_RX10_37 mI_yX10_valueBehind mS_yX10_valueBehind mZ_RX10 vc10 (Nat.le_of_ble_eq_true rfl) (Nat.le_of_ble_eq_true rfl) np_yX10_valueBehind rfl (Nat.le_of_ble_eq_true rfl) dX10_valueAt_36 (fun r2 H => ?_) ⟨Nat.zero_le _, Nat.zero_le _⟩
      refine r_lstore K [(10, .long _), (0, .ref _), (1, .int _), (2, .int _), (3, .int _), (4, .int _), (5, .long _), (7, .long _), (9, .int _)] dX10_valueAt_39 (by decide) rfl ?_
      refine r_lload K 7 dX10_valueAt_41 rfl ?_
      refine r_lstore K [(5, .long _), (10, .long _), (0, .ref _), (1, .int _), (2, .int _), (3, .int _), (4, .int _), (7, .long _), (9, .int _)] dX10_valueAt_43 (by decide) rfl ?_
      refine r_lload K 1 dX10_valueAt_45 rfl ?_
      refine r_lstore K [(7, .long _), (5, .long _), (10, .long _), (0, .ref _), (1, .int _), (2, .int _), (3, .int _), (4, .int _), (9, .int _)] dX10_valueAt_47 (by decide) rfl ?_
      refine r_iinc K 8 [(9, .int _), (7, .long _), (5, .long _), (10, .long _), (0, .ref _), (1, .int _), (2, .int _), (3, .int _), (4, .int _)] (v := _ + (1 : Int32)) dX10_valueAt_49 rfl rfl (by decide) rfl ?_
      refine r_goto K 9 dX10_valueAt_52 (by decide) ?_
      cases H
      exact r_sub [4, 5, 6, 7, 8, 2, 1, 0] rfl D
set_option maxRecDepth 10000 in
theorem l_X10_valueAt_9 {X : jX} {l : Launch} {n : Nat} {Y : jY} (K : jOK X RX10 cX10_valueAt 12 (some .long) 2) (hl : X.2.1 = l) {rr : Int64} {μr : jM} {v0 : Nat} {v1 : Int32} {v2 : Int32} {v3 : Int32} {v4 : Int32}  {s0 : Int64 × Int64 × Int32 × jM} {z : (Int64 × jM)} (H : jit jF (fun (s : Int64 × Int64 × Int32 × jM) => b_X10_valueAt_9 Y v0 v1 v2 v3 v4 s.1 s.2.1 s.2.2.1 s.2.2.2) s0 = some z) (D : z = (rr, μr)) : JW X (jEnd X n Y (some (.long rr)) μr 0 0) 0 0 n Y 9 [(0, .ref v0), (1, .int v1), (2, .int v2), (3, .int v3), (4, .int v4), (5, .long s0.1), (7, .long s0.2.1), (9, .int s0.2.2.1)] [] s0.2.2.2 :=
  jit_ind (P := fun (s : Int64 × Int64 × Int32 × jM) => JW X (jEnd X n Y (some (.long rr)) μr 0 0) 0 0 n Y 9 [(0, .ref v0), (1, .int v1), (2, .int v2), (3, .int v3), (4, .int v4), (5, .long s.1), (7, .long s.2.1), (9, .int s.2.2.1)] [] s.2.2.2) (D := fun r => r = (rr, μr)) (fun s z Hs Ds => t_X10_valueAt_9 K hl Hs Ds) jF s0 z H D
set_option maxRecDepth 10000 in
theorem t_X10_valueAt_0 {X : jX} {l : Launch} {n : Nat} {Y : jY} (K : jOK X RX10 cX10_valueAt 12 (some .long) 2) (hl : X.2.1 = l) {rr : Int64} {μr : jM} {v0 : Nat} {v1 : Int32} {v2 : Int32} {v3 : Int32} {v4 : Int32} {μ : jM} {z : (Int64 × jM)} (H : f_X10_valueAt Y v0 v1 v2 v3 v4 μ = some z) (D : z = (rr, μr)) : JW X (jEnd X n Y (some (.long rr)) μr 0 0) 0 0 n Y 0 [(0, .ref v0), (1, .int v1), (2, .int v2), (3, .int v3), (4, .int v4)] [] μ := by
  unfold f_X10_valueAt at H
  refine r_lconst (v := 0) K dX10_valueAt_0 (by decide) ?_
  refine r_lstore K [(5, .long _), (0, .ref _), (1, .int _), (2, .int _), (3, .int _), (4, .int _)] dX10_valueAt_1 (by decide) rfl ?_
  refine r_lconst (v := 1) K dX10_valueAt_3 (by decide) ?_
  refine r_lstore K [(7, .long _), (5, .long _), (0, .ref _), (1, .int _), (2, .int _), (3, .int _), (4, .int _)] dX10_valueAt_4 (by decide) rfl ?_
  refine r_iload_n K 3 dX10_valueAt_6 rfl rfl ?_
  refine r_istore K [(9, .int _), (7, .long _), (5, .long _), (0, .ref _), (1, .int _), (2, .int _), (3, .int _), (4, .int _)] dX10_valueAt_7 (by decide) rfl ?_
  exact r_sub [3, 4, 5, 6, 7, 2, 1, 0] rfl (l_X10_valueAt_9 K hl H D)
theorem c_X10_valueAt (l : Launch) {n : Nat} {Y : jY} {v0 : Nat} {v1 : Int32} {v2 : Int32} {v3 : Int32} {v4 : Int32} {μ : jM} {z : Int64 × jM} (H : f_X10_valueAt Y v0 v1 v2 v3 v4 μ = some z) : jC l yX10_valueAt cX10_valueAt 12 (some .long) 2 0 0 [.ref v0, .int v1, .int v2, .int v3, .int v4] n Y μ n Y (some (.long z.1)) z.2 := by
  refine jC_of (by decide +kernel) (Nat.le_of_ble_eq_true rfl) (fun X hl K _ _ _ => ?_)
  obtain ⟨rr, μr⟩ := z
  exact t_X10_valueAt_0 K hl H rfl
/-! RX0 endsWithLower()Z -/
def b_X0_endsWithLower_22 (Y : jY) (v0 : Nat) (v1 : Int32) (v2 : Int64) (v4 : Int32) (μ : jM) : Option ((Int64 × Int32 × jM) ⊕ ((Int32 × jM) ⊕ (Int32 × jM))) :=
  if v4 < 0 then
    (jgO Y μ v0 0 0).bind fun x1 =>
    (jgI Y μ v0 0 1).bind fun x2 =>
    (jrcv Y x1 10 (f_X10_valueAt Y x1 ((1 : Int32)) ((x2 - ((1 : Int32)))) v1 ((1 : Int32)) μ)).bind fun r3 =>
    if ((lg_cmp r3.1 v2)) = 0 then
      some (.inr (.inl ((v1 + (1 : Int32)), r3.2)))
    else
      (jbool ((0 : Int32))).bind fun x4 =>
      some (.inr (.inr (x4, r3.2)))
  else
    (jgO Y μ v0 0 3).bind fun x5 =>
    (jaL Y μ x5 21 v4).bind fun x6 =>
    some (.inl ((((v2 * ((v1.toInt64)))) + x6), (v4 + (-1 : Int32)), μ))
def b_X0_endsWithLower_2 (Y : jY) (v0 : Nat) (v1 : Int32) (μ : jM) : Option ((Int32 × jM) ⊕ (Int32 × jM)) :=
  (jgI Y μ v0 0 1).bind fun x1 =>
  if ((x1 - ((1 : Int32)))) ≤ v1 then
    (jbool ((1 : Int32))).bind fun x2 =>
    some (.inr (x2, μ))
  else
    (jgI Y μ v0 0 1).bind fun x3 =>
    jit jF (fun (s : Int64 × Int32 × jM) => b_X0_endsWithLower_22 Y v0 v1 s.1 s.2.1 s.2.2) ((0 : Int64), (x3 - ((1 : Int32))), μ)
def f_X0_endsWithLower (Y : jY) (v0 : Nat) (μ : jM) : Option (Int32 × jM) :=
  jit jF (fun (s : Int32 × jM) => b_X0_endsWithLower_2 Y v0 s.1 s.2) ((0 : Int32), μ)
set_option maxRecDepth 10000 in
theorem t_X0_endsWithLower_22 {X : jX} {l : Launch} {n : Nat} {Y : jY} (K : jOK X RX0 cX0_endsWithLower 5 (some .boolean) 3) (hl : X.2.1 = l) {rr : Int32} {μr : jM} {v0 : Nat} {v1 : Int32} {v2 : Int64} {v4 : Int32} {μ : jM} {z : ((Int64 × Int32 × jM) ⊕ ((Int32 × jM) ⊕ (Int32 × jM)))} (H : b_X0_endsWithLower_22 Y v0 v1 v2 v4 μ = some z) (D : Sum.elim (fun (s : Int64 × Int32 × jM) => JW X (jEnd X n Y (some (.int rr)) μr 0 0) 0 0 n Y 22 [(0, .ref v0), (1, .int v1), (2, .long s.1), (4, .int s.2.1)] [] s.2.2) (Sum.elim (fun (s : Int32 × jM) => JW X (jEnd X n Y (some (.int rr)) μr 0 0) 0 0 n Y 2 [(0, .ref v0), (1, .int s.1)] [] s.2) (fun r => r = (rr, μr))) z) : JW X (jEnd X n Y (some (.int rr)) μr 0 0) 0 0 n Y 22 [(0, .ref v0), (1, .int v1), (2, .long v2), (4, .int v4)] [] μ := by
  unfold b_X0_endsWithLower_22 at H
  refine r_iload K 3 dX0_endsWithLower_22 rfl ?_
  refine w_if_lt K 46 dX0_endsWithLower_24 (by decide) H (fun _ H => ?_) (fun _ H => ?_)
  · refine r_aload_n K 0 dX0_endsWithLower_46 rfl rfl ?_
    refine w_getO K vc0 inX0 0 (by decide) mF_RX0_12 dX0_endsWithLower_47 H (fun x1 H => ?_)
    refine r_iconst (v := 1) K dX0_endsWithLower_50 (by decide) ?_
    refine r_aload_n K 0 dX0_endsWithLower_51 rfl rfl ?_
    refine w_getI K vc0 inX0 1 (by decide) mF_RX0_18 dX0_endsWithLower_52 H (fun x2 H => ?_)
    refine r_iconst (v := 1) K dX0_endsWithLower_55 (by decide) ?_
    refine r_isub K dX0_endsWithLower_56 ?_
    refine r_iload_n K 1 dX0_endsWithLower_57 rfl rfl ?_
    refine r_iconst (v := 1) K dX0_endsWithLower_58 (by decide) ?_
    refine w_callV K hl H (fun r h => c_X10_valueAt l h) mC_yX10_valueAt mM_RX0_58 mI_yX10_valueAt mS_yX10_valueAt mZ_RX10 vc10 (Nat.le_of_ble_eq_true rfl) (Nat.le_of_ble_eq_true rfl) np_yX10_valueAt rfl (Nat.le_of_ble_eq_true rfl) dX0_endsWithLower_59 (fun r3 H => ?_) ⟨Nat.zero_le _, Nat.zero_le _⟩
    refine r_lload_n K 2 dX0_endsWithLower_62 rfl rfl ?_
    refine r_lcmp K dX0_endsWithLower_63 ?_
    refine w_if_eq K 69 dX0_endsWithLower_64 (by decide) H (fun _ H => ?_) (fun _ H => ?_)
    · refine r_iinc K 1 [(1, .int _), (0, .ref _), (2, .long _), (4, .int _)] (v := _ + (1 : Int32)) dX0_endsWithLower_69 rfl rfl (by decide) rfl ?_
      refine r_goto K 2 dX0_endsWithLower_72 (by decide) ?_
      cases H
      exact r_sub [1, 0] rfl D
    · refine r_iconst (v := 0) K dX0_endsWithLower_67 (by decide) ?_
      refine w_zret K dX0_endsWithLower_68 H (fun hz H => ?_)
      cases H
      simp only [Sum.elim_inr] at D
      obtain ⟨rfl, rfl⟩ := jfin2 D
      exact r_zret K hz dX0_endsWithLower_68
  · refine r_lload_n K 2 dX0_endsWithLower_27 rfl rfl ?_
    refine r_iload_n K 1 dX0_endsWithLower_28 rfl rfl ?_
    refine r_i2l K dX0_endsWithLower_29 ?_
    refine r_lmul K dX0_endsWithLower_30 ?_
    refine r_aload_n K 0 dX0_endsWithLower_31 rfl rfl ?_
    refine w_getO K vc0 inX0 3 (by decide) mF_RX0_26 dX0_endsWithLower_32 H (fun x5 H => ?_)
    refine r_iload K 3 dX0_endsWithLower_35 rfl ?_
    refine w_lald K dX0_endsWithLower_37 H (fun x6 H => ?_)
    refine r_ladd K dX0_endsWithLower_38 ?_
    refine r_lstore_n K [(2, .long _), (0, .ref _), (1, .int _), (4, .int _)] dX0_endsWithLower_39 rfl (by decide) rfl ?_
    refine r_iinc K 3 [(4, .int _), (2, .long _), (0, .ref _), (1, .int _)] (v := _ + (-1 : Int32)) dX0_endsWithLower_40 rfl rfl (by decide) rfl ?_
    refine r_goto K 22 dX0_endsWithLower_43 (by decide) ?_
    cases H
    exact r_sub [2, 3, 1, 0] rfl D
set_option maxRecDepth 10000 in
theorem l_X0_endsWithLower_22 {X : jX} {l : Launch} {n : Nat} {Y : jY} (K : jOK X RX0 cX0_endsWithLower 5 (some .boolean) 3) (hl : X.2.1 = l) {rr : Int32} {μr : jM} {v0 : Nat} {v1 : Int32}  {s0 : Int64 × Int32 × jM} {z : ((Int32 × jM) ⊕ (Int32 × jM))} (H : jit jF (fun (s : Int64 × Int32 × jM) => b_X0_endsWithLower_22 Y v0 v1 s.1 s.2.1 s.2.2) s0 = some z) (D : Sum.elim (fun (s : Int32 × jM) => JW X (jEnd X n Y (some (.int rr)) μr 0 0) 0 0 n Y 2 [(0, .ref v0), (1, .int s.1)] [] s.2) (fun r => r = (rr, μr)) z) : JW X (jEnd X n Y (some (.int rr)) μr 0 0) 0 0 n Y 22 [(0, .ref v0), (1, .int v1), (2, .long s0.1), (4, .int s0.2.1)] [] s0.2.2 :=
  jit_ind (P := fun (s : Int64 × Int32 × jM) => JW X (jEnd X n Y (some (.int rr)) μr 0 0) 0 0 n Y 22 [(0, .ref v0), (1, .int v1), (2, .long s.1), (4, .int s.2.1)] [] s.2.2) (D := Sum.elim (fun (s : Int32 × jM) => JW X (jEnd X n Y (some (.int rr)) μr 0 0) 0 0 n Y 2 [(0, .ref v0), (1, .int s.1)] [] s.2) (fun r => r = (rr, μr))) (fun s z Hs Ds => t_X0_endsWithLower_22 K hl Hs Ds) jF s0 z H D
set_option maxRecDepth 10000 in
theorem t_X0_endsWithLower_2 {X : jX} {l : Launch} {n : Nat} {Y : jY} (K : jOK X RX0 cX0_endsWithLower 5 (some .boolean) 3) (hl : X.2.1 = l) {rr : Int32} {μr : jM} {v0 : Nat} {v1 : Int32} {μ : jM} {z : ((Int32 × jM) ⊕ (Int32 × jM))} (H : b_X0_endsWithLower_2 Y v0 v1 μ = some z) (D : Sum.elim (fun (s : Int32 × jM) => JW X (jEnd X n Y (some (.int rr)) μr 0 0) 0 0 n Y 2 [(0, .ref v0), (1, .int s.1)] [] s.2) (fun r => r = (rr, μr)) z) : JW X (jEnd X n Y (some (.int rr)) μr 0 0) 0 0 n Y 2 [(0, .ref v0), (1, .int v1)] [] μ := by
  unfold b_X0_endsWithLower_2 at H
  refine r_iload_n K 1 dX0_endsWithLower_2 rfl rfl ?_
  refine r_aload_n K 0 dX0_endsWithLower_3 rfl rfl ?_
  refine w_getI K vc0 inX0 1 (by decide) mF_RX0_18 dX0_endsWithLower_4 H (fun x1 H => ?_)
  refine r_iconst (v := 1) K dX0_endsWithLower_7 (by decide) ?_
  refine r_isub K dX0_endsWithLower_8 ?_
  refine w_icmp_ge K 75 dX0_endsWithLower_9 (by decide) H (fun _ H => ?_) (fun _ H => ?_)
  · refine r_iconst (v := 1) K dX0_endsWithLower_75 (by decide) ?_
    refine w_zret K dX0_endsWithLower_76 H (fun hz H => ?_)
    cases H
    simp only [Sum.elim_inr] at D
    obtain ⟨rfl, rfl⟩ := jfin2 D
    exact r_zret K hz dX0_endsWithLower_76
  · refine r_lconst (v := 0) K dX0_endsWithLower_12 (by decide) ?_
    refine r_lstore_n K [(2, .long _), (0, .ref _), (1, .int _)] dX0_endsWithLower_13 rfl (by decide) rfl ?_
    refine r_aload_n K 1 dX0_endsWithLower_14 rfl rfl ?_
    refine w_getI K vc0 inX0 1 (by decide) mF_RX0_18 dX0_endsWithLower_15 H (fun x3 H => ?_)
    refine r_iconst (v := 1) K dX0_endsWithLower_18 (by decide) ?_
    refine r_isub K dX0_endsWithLower_19 ?_
    refine r_istore K [(4, .int _), (2, .long _), (0, .ref _), (1, .int _)] dX0_endsWithLower_20 (by decide) rfl ?_
    exact r_sub [2, 3, 1, 0] rfl (l_X0_endsWithLower_22 K hl H D)
set_option maxRecDepth 10000 in
theorem l_X0_endsWithLower_2 {X : jX} {l : Launch} {n : Nat} {Y : jY} (K : jOK X RX0 cX0_endsWithLower 5 (some .boolean) 3) (hl : X.2.1 = l) {rr : Int32} {μr : jM} {v0 : Nat}  {s0 : Int32 × jM} {z : (Int32 × jM)} (H : jit jF (fun (s : Int32 × jM) => b_X0_endsWithLower_2 Y v0 s.1 s.2) s0 = some z) (D : z = (rr, μr)) : JW X (jEnd X n Y (some (.int rr)) μr 0 0) 0 0 n Y 2 [(0, .ref v0), (1, .int s0.1)] [] s0.2 :=
  jit_ind (P := fun (s : Int32 × jM) => JW X (jEnd X n Y (some (.int rr)) μr 0 0) 0 0 n Y 2 [(0, .ref v0), (1, .int s.1)] [] s.2) (D := fun r => r = (rr, μr)) (fun s z Hs Ds => t_X0_endsWithLower_2 K hl Hs Ds) jF s0 z H D
set_option maxRecDepth 10000 in
theorem t_X0_endsWithLower_0 {X : jX} {l : Launch} {n : Nat} {Y : jY} (K : jOK X RX0 cX0_endsWithLower 5 (some .boolean) 3) (hl : X.2.1 = l) {rr : Int32} {μr : jM} {v0 : Nat} {μ : jM} {z : (Int32 × jM)} (H : f_X0_endsWithLower Y v0 μ = some z) (D : z = (rr, μr)) : JW X (jEnd X n Y (some (.int rr)) μr 0 0) 0 0 n Y 0 [(0, .ref v0)] [] μ := by
  unfold f_X0_endsWithLower at H
  refine r_iconst (v := 0) K dX0_endsWithLower_0 (by decide) ?_
  refine r_istore_n K [(1, .int _), (0, .ref _)] dX0_endsWithLower_1 rfl (by decide) rfl ?_
  exact r_sub [1, 0] rfl (l_X0_endsWithLower_2 K hl H D)
theorem c_X0_endsWithLower (l : Launch) {n : Nat} {Y : jY} {v0 : Nat} {μ : jM} {z : Int32 × jM} (H : f_X0_endsWithLower Y v0 μ = some z) : jC l yX0_endsWithLower cX0_endsWithLower 5 (some .boolean) 3 0 0 [.ref v0] n Y μ n Y (some (.int z.1)) z.2 := by
  refine jC_of (by decide +kernel) (Nat.le_of_ble_eq_true rfl) (fun X hl K _ _ _ => ?_)
  obtain ⟨rr, μr⟩ := z
  exact t_X0_endsWithLower_0 K hl H rfl
/-! RX10 areWhole(I)Z -/
def b_X10_areWhole_85 (Y : jY) (t0 : Int32) (μ : jM) : Option (Int32 × jM) :=
  (jbool t0).bind fun x1 =>
  some (x1, μ)
def b_X10_areWhole_69 (Y : jY) (v0 : Nat) (v1 : Int32) (v2 : Int32) (v3 : Int32) (μ : jM) : Option ((Int32 × Int32 × jM) ⊕ (Int32 × jM)) :=
  some (.inl (v2, (v3 + (1 : Int32)), μ))
def b_X10_areWhole_62 (Y : jY) (v0 : Nat) (v1 : Int32) (v2 : Int32) (v3 : Int32) (v6 : Int32) (t0 : Int32) (μ : jM) : Option ((Int32 × Int32 × jM) ⊕ (Int32 × jM)) :=
  if t0 = v6 then
    b_X10_areWhole_69 Y v0 v1 v2 v3 μ
  else
    (jbool ((0 : Int32))).bind fun x1 =>
    some (.inr (x1, μ))
def b_X10_areWhole_35 (Y : jY) (v0 : Nat) (v1 : Int32) (v2 : Int32) (v3 : Int32) (v4 : Int64) (t0 : Int32) (μ : jM) : Option ((Int32 × Int32 × jM) ⊕ (Int32 × jM)) :=
  if ((lg_cmp v4 ((0 : Int64)))) = 0 then
    b_X10_areWhole_69 Y v0 v1 (v2 + (1 : Int32)) v3 μ
  else
    if 0 ≤ ((lg_cmp v4 ((0 : Int64)))) then
      b_X10_areWhole_62 Y v0 v1 v2 v3 t0 (0 : Int32) μ
    else
      b_X10_areWhole_62 Y v0 v1 v2 v3 t0 (1 : Int32) μ
def b_X10_areWhole_5 (Y : jY) (v0 : Nat) (v1 : Int32) (v2 : Int32) (v3 : Int32) (μ : jM) : Option ((Int32 × Int32 × jM) ⊕ (Int32 × jM)) :=
  if ((18 : Int32)) < v3 then
    if v2 = v1 then
      (b_X10_areWhole_85 Y (1 : Int32) μ).map (fun r => (.inr r))
    else
      (b_X10_areWhole_85 Y (0 : Int32) μ).map (fun r => (.inr r))
  else
    (jrcv Y v0 10 (f_X10_valueAt Y v0 ((0 : Int32)) v1 v3 ((1 : Int32)) μ)).bind fun r1 =>
    (jremI ((v1 - v2)) ((2 : Int32))).bind fun x2 =>
    if x2 = ((1 : Int32)) then
      b_X10_areWhole_35 Y v0 v1 v2 v3 r1.1 (1 : Int32) r1.2
    else
      b_X10_areWhole_35 Y v0 v1 v2 v3 r1.1 (0 : Int32) r1.2
def f_X10_areWhole (Y : jY) (v0 : Nat) (v1 : Int32) (μ : jM) : Option (Int32 × jM) :=
  jit jF (fun (s : Int32 × Int32 × jM) => b_X10_areWhole_5 Y v0 v1 s.1 s.2.1 s.2.2) ((0 : Int32), (-18 : Int32), μ)
set_option maxRecDepth 10000 in
theorem t_X10_areWhole_85 {X : jX} {l : Launch} {n : Nat} {Y : jY} (K : jOK X RX10 cX10_areWhole 7 (some .boolean) 3) (hl : X.2.1 = l) {rr : Int32} {μr : jM} {t0 : Int32} {μ : jM} {z : (Int32 × jM)} (H : b_X10_areWhole_85 Y t0 μ = some z) (D : z = (rr, μr)) : JW X (jEnd X n Y (some (.int rr)) μr 0 0) 0 0 n Y 85 [] [.int t0] μ := by
  unfold b_X10_areWhole_85 at H
  refine w_zret K dX10_areWhole_85 H (fun hz H => ?_)
  cases H
  obtain ⟨rfl, rfl⟩ := jfin2 D
  exact r_zret K hz dX10_areWhole_85
set_option maxRecDepth 10000 in
theorem t_X10_areWhole_69 {X : jX} {l : Launch} {n : Nat} {Y : jY} (K : jOK X RX10 cX10_areWhole 7 (some .boolean) 3) (hl : X.2.1 = l) {rr : Int32} {μr : jM} {v0 : Nat} {v1 : Int32} {v2 : Int32} {v3 : Int32} {μ : jM} {z : ((Int32 × Int32 × jM) ⊕ (Int32 × jM))} (H : b_X10_areWhole_69 Y v0 v1 v2 v3 μ = some z) (D : Sum.elim (fun (s : Int32 × Int32 × jM) => JW X (jEnd X n Y (some (.int rr)) μr 0 0) 0 0 n Y 5 [(0, .ref v0), (1, .int v1), (2, .int s.1), (3, .int s.2.1)] [] s.2.2) (fun r => r = (rr, μr)) z) : JW X (jEnd X n Y (some (.int rr)) μr 0 0) 0 0 n Y 69 [(0, .ref v0), (1, .int v1), (2, .int v2), (3, .int v3)] [] μ := by
  unfold b_X10_areWhole_69 at H
  refine r_iinc K 3 [(3, .int _), (0, .ref _), (1, .int _), (2, .int _)] (v := _ + (1 : Int32)) dX10_areWhole_69 rfl rfl (by decide) rfl ?_
  refine r_goto K 5 dX10_areWhole_72 (by decide) ?_
  cases H
  exact r_sub [1, 2, 3, 0] rfl D
set_option maxRecDepth 10000 in
theorem t_X10_areWhole_62 {X : jX} {l : Launch} {n : Nat} {Y : jY} (K : jOK X RX10 cX10_areWhole 7 (some .boolean) 3) (hl : X.2.1 = l) {rr : Int32} {μr : jM} {v0 : Nat} {v1 : Int32} {v2 : Int32} {v3 : Int32} {v6 : Int32} {t0 : Int32} {μ : jM} {z : ((Int32 × Int32 × jM) ⊕ (Int32 × jM))} (H : b_X10_areWhole_62 Y v0 v1 v2 v3 v6 t0 μ = some z) (D : Sum.elim (fun (s : Int32 × Int32 × jM) => JW X (jEnd X n Y (some (.int rr)) μr 0 0) 0 0 n Y 5 [(0, .ref v0), (1, .int v1), (2, .int s.1), (3, .int s.2.1)] [] s.2.2) (fun r => r = (rr, μr)) z) : JW X (jEnd X n Y (some (.int rr)) μr 0 0) 0 0 n Y 62 [(0, .ref v0), (1, .int v1), (2, .int v2), (3, .int v3), (6, .int v6)] [.int t0] μ := by
  unfold b_X10_areWhole_62 at H
  refine r_iload K 4 dX10_areWhole_62 rfl ?_
  refine w_icmp_eq K 69 dX10_areWhole_64 (by decide) H (fun _ H => ?_) (fun _ H => ?_)
  · exact r_sub [0, 1, 2, 3] rfl (t_X10_areWhole_69 K hl H D)
  · refine r_iconst (v := 0) K dX10_areWhole_67 (by decide) ?_
    refine w_zret K dX10_areWhole_68 H (fun hz H => ?_)
    cases H
    simp only [Sum.elim_inr] at D
    obtain ⟨rfl, rfl⟩ := jfin2 D
    exact r_zret K hz dX10_areWhole_68
set_option maxRecDepth 10000 in
theorem t_X10_areWhole_35 {X : jX} {l : Launch} {n : Nat} {Y : jY} (K : jOK X RX10 cX10_areWhole 7 (some .boolean) 3) (hl : X.2.1 = l) {rr : Int32} {μr : jM} {v0 : Nat} {v1 : Int32} {v2 : Int32} {v3 : Int32} {v4 : Int64} {t0 : Int32} {μ : jM} {z : ((Int32 × Int32 × jM) ⊕ (Int32 × jM))} (H : b_X10_areWhole_35 Y v0 v1 v2 v3 v4 t0 μ = some z) (D : Sum.elim (fun (s : Int32 × Int32 × jM) => JW X (jEnd X n Y (some (.int rr)) μr 0 0) 0 0 n Y 5 [(0, .ref v0), (1, .int v1), (2, .int s.1), (3, .int s.2.1)] [] s.2.2) (fun r => r = (rr, μr)) z) : JW X (jEnd X n Y (some (.int rr)) μr 0 0) 0 0 n Y 35 [(0, .ref v0), (1, .int v1), (2, .int v2), (3, .int v3), (4, .long v4)] [.int t0] μ := by
  unfold b_X10_areWhole_35 at H
  refine r_istore K [(6, .int _), (0, .ref _), (1, .int _), (2, .int _), (3, .int _), (4, .long _)] dX10_areWhole_35 (by decide) rfl ?_
  refine r_lload K 5 dX10_areWhole_37 rfl ?_
  refine r_lconst (v := 0) K dX10_areWhole_39 (by decide) ?_
  refine r_lcmp K dX10_areWhole_40 ?_
  refine w_if_ne K 50 dX10_areWhole_41 (by decide) H (fun _ H => ?_) (fun _ H => ?_)
  · refine r_lload K 5 dX10_areWhole_50 rfl ?_
    refine r_lconst (v := 0) K dX10_areWhole_52 (by decide) ?_
    refine r_lcmp K dX10_areWhole_53 ?_
    refine w_if_ge K 61 dX10_areWhole_54 (by decide) H (fun _ H => ?_) (fun _ H => ?_)
    · refine r_iconst (v := 0) K dX10_areWhole_61 (by decide) ?_
      exact r_sub [1, 2, 3, 4, 0] rfl (t_X10_areWhole_62 K hl H D)
    · refine r_iconst (v := 1) K dX10_areWhole_57 (by decide) ?_
      refine r_goto K 62 dX10_areWhole_58 (by decide) ?_
      exact r_sub [1, 2, 3, 4, 0] rfl (t_X10_areWhole_62 K hl H D)
  · refine r_iinc K 3 [(2, .int _), (6, .int _), (0, .ref _), (1, .int _), (3, .int _), (4, .long _)] (v := _ + (1 : Int32)) dX10_areWhole_44 rfl rfl (by decide) rfl ?_
    refine r_goto K 69 dX10_areWhole_47 (by decide) ?_
    exact r_sub [2, 3, 0, 4] rfl (t_X10_areWhole_69 K hl H D)
set_option maxRecDepth 10000 in
theorem t_X10_areWhole_5 {X : jX} {l : Launch} {n : Nat} {Y : jY} (K : jOK X RX10 cX10_areWhole 7 (some .boolean) 3) (hl : X.2.1 = l) {rr : Int32} {μr : jM} {v0 : Nat} {v1 : Int32} {v2 : Int32} {v3 : Int32} {μ : jM} {z : ((Int32 × Int32 × jM) ⊕ (Int32 × jM))} (H : b_X10_areWhole_5 Y v0 v1 v2 v3 μ = some z) (D : Sum.elim (fun (s : Int32 × Int32 × jM) => JW X (jEnd X n Y (some (.int rr)) μr 0 0) 0 0 n Y 5 [(0, .ref v0), (1, .int v1), (2, .int s.1), (3, .int s.2.1)] [] s.2.2) (fun r => r = (rr, μr)) z) : JW X (jEnd X n Y (some (.int rr)) μr 0 0) 0 0 n Y 5 [(0, .ref v0), (1, .int v1), (2, .int v2), (3, .int v3)] [] μ := by
  unfold b_X10_areWhole_5 at H
  refine r_iload_n K 3 dX10_areWhole_5 rfl rfl ?_
  refine r_bipush (v := 18) K dX10_areWhole_6 (by decide) ?_
  refine w_icmp_gt K 75 dX10_areWhole_8 (by decide) H (fun _ H => ?_) (fun _ H => ?_)
  · refine r_iload_n K 2 dX10_areWhole_75 rfl rfl ?_
    refine r_iload_n K 1 dX10_areWhole_76 rfl rfl ?_
    refine w_icmp_ne K 84 dX10_areWhole_77 (by decide) H (fun _ H => ?_) (fun _ H => ?_)
    · refine r_iconst (v := 0) K dX10_areWhole_84 (by decide) ?_
      obtain ⟨z2, H2, rfl⟩ := jmap H
      exact r_sub [] rfl (t_X10_areWhole_85 K hl H2 D)
    · refine r_iconst (v := 1) K dX10_areWhole_80 (by decide) ?_
      refine r_goto K 85 dX10_areWhole_81 (by decide) ?_
      obtain ⟨z2, H2, rfl⟩ := jmap H
      exact r_sub [] rfl (t_X10_areWhole_85 K hl H2 D)
  · refine r_aload_n K 0 dX10_areWhole_11 rfl rfl ?_
    refine r_iconst (v := 0) K dX10_areWhole_12 (by decide) ?_
    refine r_iload_n K 1 dX10_areWhole_13 rfl rfl ?_
    refine r_iload_n K 3 dX10_areWhole_14 rfl rfl ?_
    refine r_iconst (v := 1) K dX10_areWhole_15 (by decide) ?_
    refine w_callV K hl H (fun r h => c_X10_valueAt l h) mC_yX10_valueAt mM_RX10_45 mI_yX10_valueAt mS_yX10_valueAt mZ_RX10 vc10 (Nat.le_of_ble_eq_true rfl) (Nat.le_of_ble_eq_true rfl) np_yX10_valueAt rfl (Nat.le_of_ble_eq_true rfl) dX10_areWhole_16 (fun r1 H => ?_) ⟨Nat.zero_le _, Nat.zero_le _⟩
    refine r_lstore K [(4, .long _), (0, .ref _), (1, .int _), (2, .int _), (3, .int _)] dX10_areWhole_19 (by decide) rfl ?_
    refine r_iload_n K 2 dX10_areWhole_21 rfl rfl ?_
    refine r_iload_n K 3 dX10_areWhole_22 rfl rfl ?_
    refine r_isub K dX10_areWhole_23 ?_
    refine r_iconst (v := 2) K dX10_areWhole_24 (by decide) ?_
    refine w_irem K dX10_areWhole_25 H (fun x2 H => ?_)
    refine r_iconst (v := 1) K dX10_areWhole_26 (by decide) ?_
    refine w_icmp_ne K 34 dX10_areWhole_27 (by decide) H (fun _ H => ?_) (fun _ H => ?_)
    · refine r_iconst (v := 0) K dX10_areWhole_34 (by decide) ?_
      exact r_sub [1, 2, 3, 4, 0] rfl (t_X10_areWhole_35 K hl H D)
    · refine r_iconst (v := 1) K dX10_areWhole_30 (by decide) ?_
      refine r_goto K 35 dX10_areWhole_31 (by decide) ?_
      exact r_sub [1, 2, 3, 4, 0] rfl (t_X10_areWhole_35 K hl H D)
set_option maxRecDepth 10000 in
theorem l_X10_areWhole_5 {X : jX} {l : Launch} {n : Nat} {Y : jY} (K : jOK X RX10 cX10_areWhole 7 (some .boolean) 3) (hl : X.2.1 = l) {rr : Int32} {μr : jM} {v0 : Nat} {v1 : Int32}  {s0 : Int32 × Int32 × jM} {z : (Int32 × jM)} (H : jit jF (fun (s : Int32 × Int32 × jM) => b_X10_areWhole_5 Y v0 v1 s.1 s.2.1 s.2.2) s0 = some z) (D : z = (rr, μr)) : JW X (jEnd X n Y (some (.int rr)) μr 0 0) 0 0 n Y 5 [(0, .ref v0), (1, .int v1), (2, .int s0.1), (3, .int s0.2.1)] [] s0.2.2 :=
  jit_ind (P := fun (s : Int32 × Int32 × jM) => JW X (jEnd X n Y (some (.int rr)) μr 0 0) 0 0 n Y 5 [(0, .ref v0), (1, .int v1), (2, .int s.1), (3, .int s.2.1)] [] s.2.2) (D := fun r => r = (rr, μr)) (fun s z Hs Ds => t_X10_areWhole_5 K hl Hs Ds) jF s0 z H D
set_option maxRecDepth 10000 in
theorem t_X10_areWhole_0 {X : jX} {l : Launch} {n : Nat} {Y : jY} (K : jOK X RX10 cX10_areWhole 7 (some .boolean) 3) (hl : X.2.1 = l) {rr : Int32} {μr : jM} {v0 : Nat} {v1 : Int32} {μ : jM} {z : (Int32 × jM)} (H : f_X10_areWhole Y v0 v1 μ = some z) (D : z = (rr, μr)) : JW X (jEnd X n Y (some (.int rr)) μr 0 0) 0 0 n Y 0 [(0, .ref v0), (1, .int v1)] [] μ := by
  unfold f_X10_areWhole at H
  refine r_iconst (v := 0) K dX10_areWhole_0 (by decide) ?_
  refine r_istore_n K [(2, .int _), (0, .ref _), (1, .int _)] dX10_areWhole_1 rfl (by decide) rfl ?_
  refine r_bipush (v := -18) K dX10_areWhole_2 (by decide) ?_
  refine r_istore_n K [(3, .int _), (2, .int _), (0, .ref _), (1, .int _)] dX10_areWhole_4 rfl (by decide) rfl ?_
  exact r_sub [2, 3, 1, 0] rfl (l_X10_areWhole_5 K hl H D)
theorem c_X10_areWhole (l : Launch) {n : Nat} {Y : jY} {v0 : Nat} {v1 : Int32} {μ : jM} {z : Int32 × jM} (H : f_X10_areWhole Y v0 v1 μ = some z) : jC l yX10_areWhole cX10_areWhole 7 (some .boolean) 3 0 0 [.ref v0, .int v1] n Y μ n Y (some (.int z.1)) z.2 := by
  refine jC_of (by decide +kernel) (Nat.le_of_ble_eq_true rfl) (fun X hl K _ _ _ => ?_)
  obtain ⟨rr, μr⟩ := z
  exact t_X10_areWhole_0 K hl H rfl
/-! RX10 isTurnOf(LChainTables$WholeTable;)Z -/
def b_X10_isTurnOf_55 (Y : jY) (v0 : Nat) (v1 : Nat) (v2 : Int32) (μ : jM) : Option ((Int32 × jM) ⊕ (Int32 × jM)) :=
  (jgI Y μ v0 10 0).bind fun x1 =>
  if ((x1 - ((1 : Int32)))) ≤ v2 then
    (jbool ((1 : Int32))).bind fun x2 =>
    some (.inr (x2, μ))
  else
    (jgO Y μ v0 10 2).bind fun x3 =>
    (jaI Y μ x3 20 v2).bind fun x4 =>
    (jgO Y μ v1 10 2).bind fun x5 =>
    (jgI Y μ v0 10 0).bind fun x6 =>
    (jaI Y μ x5 20 ((((x6 - ((2 : Int32)))) - v2))).bind fun x7 =>
    if x4 = x7 then
      some (.inl ((v2 + (1 : Int32)), μ))
    else
      (jbool ((0 : Int32))).bind fun x8 =>
      some (.inr (x8, μ))
def b_X10_isTurnOf_15 (Y : jY) (v0 : Nat) (v1 : Nat) (v2 : Int32) (μ : jM) : Option ((Int32 × jM) ⊕ (Int32 × jM)) :=
  (jgI Y μ v0 10 0).bind fun x1 =>
  if x1 ≤ v2 then
    (jit jF (fun (s : Int32 × jM) => b_X10_isTurnOf_55 Y v0 v1 s.1 s.2) ((0 : Int32), μ)).map (fun r => (.inr r))
  else
    (jgO Y μ v0 10 1).bind fun x2 =>
    (jaI Y μ x2 20 v2).bind fun x3 =>
    (jgO Y μ v1 10 1).bind fun x4 =>
    (jgI Y μ v0 10 0).bind fun x5 =>
    (jaI Y μ x4 20 ((((x5 - ((1 : Int32)))) - v2))).bind fun x6 =>
    if x3 = x6 then
      some (.inl ((v2 + (1 : Int32)), μ))
    else
      (jbool ((0 : Int32))).bind fun x7 =>
      some (.inr (x7, μ))
def f_X10_isTurnOf (Y : jY) (v0 : Nat) (v1 : Nat) (μ : jM) : Option (Int32 × jM) :=
  (jgI Y μ v0 10 0).bind fun x1 =>
  (jgI Y μ v1 10 0).bind fun x2 =>
  if x1 = x2 then
    jit jF (fun (s : Int32 × jM) => b_X10_isTurnOf_15 Y v0 v1 s.1 s.2) ((0 : Int32), μ)
  else
    (jbool ((0 : Int32))).bind fun x3 =>
    some (x3, μ)
set_option maxRecDepth 10000 in
theorem t_X10_isTurnOf_55 {X : jX} {l : Launch} {n : Nat} {Y : jY} (K : jOK X RX10 cX10_isTurnOf 3 (some .boolean) 1) (hl : X.2.1 = l) {rr : Int32} {μr : jM} {v0 : Nat} {v1 : Nat} {v2 : Int32} {μ : jM} {z : ((Int32 × jM) ⊕ (Int32 × jM))} (H : b_X10_isTurnOf_55 Y v0 v1 v2 μ = some z) (D : Sum.elim (fun (s : Int32 × jM) => JW X (jEnd X n Y (some (.int rr)) μr 0 0) 0 0 n Y 55 [(0, .ref v0), (1, .ref v1), (2, .int s.1)] [] s.2) (fun r => r = (rr, μr)) z) : JW X (jEnd X n Y (some (.int rr)) μr 0 0) 0 0 n Y 55 [(0, .ref v0), (1, .ref v1), (2, .int v2)] [] μ := by
  unfold b_X10_isTurnOf_55 at H
  refine r_iload_n K 2 dX10_isTurnOf_55 rfl rfl ?_
  refine r_aload_n K 0 dX10_isTurnOf_56 rfl rfl ?_
  refine w_getI K vc10 inX10 0 (by decide) mF_RX10_9 dX10_isTurnOf_57 H (fun x1 H => ?_)
  refine r_iconst (v := 1) K dX10_isTurnOf_60 (by decide) ?_
  refine r_isub K dX10_isTurnOf_61 ?_
  refine w_icmp_ge K 95 dX10_isTurnOf_62 (by decide) H (fun _ H => ?_) (fun _ H => ?_)
  · refine r_iconst (v := 1) K dX10_isTurnOf_95 (by decide) ?_
    refine w_zret K dX10_isTurnOf_96 H (fun hz H => ?_)
    cases H
    simp only [Sum.elim_inr] at D
    obtain ⟨rfl, rfl⟩ := jfin2 D
    exact r_zret K hz dX10_isTurnOf_96
  · refine r_aload_n K 0 dX10_isTurnOf_65 rfl rfl ?_
    refine w_getO K vc10 inX10 2 (by decide) mF_RX10_19 dX10_isTurnOf_66 H (fun x3 H => ?_)
    refine r_iload_n K 2 dX10_isTurnOf_69 rfl rfl ?_
    refine w_iald K dX10_isTurnOf_70 H (fun x4 H => ?_)
    refine r_aload_n K 1 dX10_isTurnOf_71 rfl rfl ?_
    refine w_getO K vc10 inX10 2 (by decide) mF_RX10_19 dX10_isTurnOf_72 H (fun x5 H => ?_)
    refine r_aload_n K 0 dX10_isTurnOf_75 rfl rfl ?_
    refine w_getI K vc10 inX10 0 (by decide) mF_RX10_9 dX10_isTurnOf_76 H (fun x6 H => ?_)
    refine r_iconst (v := 2) K dX10_isTurnOf_79 (by decide) ?_
    refine r_isub K dX10_isTurnOf_80 ?_
    refine r_iload_n K 2 dX10_isTurnOf_81 rfl rfl ?_
    refine r_isub K dX10_isTurnOf_82 ?_
    refine w_iald K dX10_isTurnOf_83 H (fun x7 H => ?_)
    refine w_icmp_eq K 89 dX10_isTurnOf_84 (by decide) H (fun _ H => ?_) (fun _ H => ?_)
    · refine r_iinc K 2 [(2, .int _), (0, .ref _), (1, .ref _)] (v := _ + (1 : Int32)) dX10_isTurnOf_89 rfl rfl (by decide) rfl ?_
      refine r_goto K 55 dX10_isTurnOf_92 (by decide) ?_
      cases H
      exact r_sub [1, 2, 0] rfl D
    · refine r_iconst (v := 0) K dX10_isTurnOf_87 (by decide) ?_
      refine w_zret K dX10_isTurnOf_88 H (fun hz H => ?_)
      cases H
      simp only [Sum.elim_inr] at D
      obtain ⟨rfl, rfl⟩ := jfin2 D
      exact r_zret K hz dX10_isTurnOf_88
set_option maxRecDepth 10000 in
theorem l_X10_isTurnOf_55 {X : jX} {l : Launch} {n : Nat} {Y : jY} (K : jOK X RX10 cX10_isTurnOf 3 (some .boolean) 1) (hl : X.2.1 = l) {rr : Int32} {μr : jM} {v0 : Nat} {v1 : Nat}  {s0 : Int32 × jM} {z : (Int32 × jM)} (H : jit jF (fun (s : Int32 × jM) => b_X10_isTurnOf_55 Y v0 v1 s.1 s.2) s0 = some z) (D : z = (rr, μr)) : JW X (jEnd X n Y (some (.int rr)) μr 0 0) 0 0 n Y 55 [(0, .ref v0), (1, .ref v1), (2, .int s0.1)] [] s0.2 :=
  jit_ind (P := fun (s : Int32 × jM) => JW X (jEnd X n Y (some (.int rr)) μr 0 0) 0 0 n Y 55 [(0, .ref v0), (1, .ref v1), (2, .int s.1)] [] s.2) (D := fun r => r = (rr, μr)) (fun s z Hs Ds => t_X10_isTurnOf_55 K hl Hs Ds) jF s0 z H D
set_option maxRecDepth 10000 in
theorem t_X10_isTurnOf_15 {X : jX} {l : Launch} {n : Nat} {Y : jY} (K : jOK X RX10 cX10_isTurnOf 3 (some .boolean) 1) (hl : X.2.1 = l) {rr : Int32} {μr : jM} {v0 : Nat} {v1 : Nat} {v2 : Int32} {μ : jM} {z : ((Int32 × jM) ⊕ (Int32 × jM))} (H : b_X10_isTurnOf_15 Y v0 v1 v2 μ = some z) (D : Sum.elim (fun (s : Int32 × jM) => JW X (jEnd X n Y (some (.int rr)) μr 0 0) 0 0 n Y 15 [(0, .ref v0), (1, .ref v1), (2, .int s.1)] [] s.2) (fun r => r = (rr, μr)) z) : JW X (jEnd X n Y (some (.int rr)) μr 0 0) 0 0 n Y 15 [(0, .ref v0), (1, .ref v1), (2, .int v2)] [] μ := by
  unfold b_X10_isTurnOf_15 at H
  refine r_iload_n K 2 dX10_isTurnOf_15 rfl rfl ?_
  refine r_aload_n K 0 dX10_isTurnOf_16 rfl rfl ?_
  refine w_getI K vc10 inX10 0 (by decide) mF_RX10_9 dX10_isTurnOf_17 H (fun x1 H => ?_)
  refine w_icmp_ge K 53 dX10_isTurnOf_20 (by decide) H (fun _ H => ?_) (fun _ H => ?_)
  · refine r_iconst (v := 0) K dX10_isTurnOf_53 (by decide) ?_
    refine r_istore_n K [(2, .int _), (0, .ref _), (1, .ref _)] dX10_isTurnOf_54 rfl (by decide) rfl ?_
    obtain ⟨z2, H2, rfl⟩ := jmap H
    exact r_sub [1, 2, 0] rfl (l_X10_isTurnOf_55 K hl H2 D)
  · refine r_aload_n K 0 dX10_isTurnOf_23 rfl rfl ?_
    refine w_getO K vc10 inX10 1 (by decide) mF_RX10_15 dX10_isTurnOf_24 H (fun x2 H => ?_)
    refine r_iload_n K 2 dX10_isTurnOf_27 rfl rfl ?_
    refine w_iald K dX10_isTurnOf_28 H (fun x3 H => ?_)
    refine r_aload_n K 1 dX10_isTurnOf_29 rfl rfl ?_
    refine w_getO K vc10 inX10 1 (by decide) mF_RX10_15 dX10_isTurnOf_30 H (fun x4 H => ?_)
    refine r_aload_n K 0 dX10_isTurnOf_33 rfl rfl ?_
    refine w_getI K vc10 inX10 0 (by decide) mF_RX10_9 dX10_isTurnOf_34 H (fun x5 H => ?_)
    refine r_iconst (v := 1) K dX10_isTurnOf_37 (by decide) ?_
    refine r_isub K dX10_isTurnOf_38 ?_
    refine r_iload_n K 2 dX10_isTurnOf_39 rfl rfl ?_
    refine r_isub K dX10_isTurnOf_40 ?_
    refine w_iald K dX10_isTurnOf_41 H (fun x6 H => ?_)
    refine w_icmp_eq K 47 dX10_isTurnOf_42 (by decide) H (fun _ H => ?_) (fun _ H => ?_)
    · refine r_iinc K 2 [(2, .int _), (0, .ref _), (1, .ref _)] (v := _ + (1 : Int32)) dX10_isTurnOf_47 rfl rfl (by decide) rfl ?_
      refine r_goto K 15 dX10_isTurnOf_50 (by decide) ?_
      cases H
      exact r_sub [1, 2, 0] rfl D
    · refine r_iconst (v := 0) K dX10_isTurnOf_45 (by decide) ?_
      refine w_zret K dX10_isTurnOf_46 H (fun hz H => ?_)
      cases H
      simp only [Sum.elim_inr] at D
      obtain ⟨rfl, rfl⟩ := jfin2 D
      exact r_zret K hz dX10_isTurnOf_46
set_option maxRecDepth 10000 in
theorem l_X10_isTurnOf_15 {X : jX} {l : Launch} {n : Nat} {Y : jY} (K : jOK X RX10 cX10_isTurnOf 3 (some .boolean) 1) (hl : X.2.1 = l) {rr : Int32} {μr : jM} {v0 : Nat} {v1 : Nat}  {s0 : Int32 × jM} {z : (Int32 × jM)} (H : jit jF (fun (s : Int32 × jM) => b_X10_isTurnOf_15 Y v0 v1 s.1 s.2) s0 = some z) (D : z = (rr, μr)) : JW X (jEnd X n Y (some (.int rr)) μr 0 0) 0 0 n Y 15 [(0, .ref v0), (1, .ref v1), (2, .int s0.1)] [] s0.2 :=
  jit_ind (P := fun (s : Int32 × jM) => JW X (jEnd X n Y (some (.int rr)) μr 0 0) 0 0 n Y 15 [(0, .ref v0), (1, .ref v1), (2, .int s.1)] [] s.2) (D := fun r => r = (rr, μr)) (fun s z Hs Ds => t_X10_isTurnOf_15 K hl Hs Ds) jF s0 z H D
set_option maxRecDepth 10000 in
theorem t_X10_isTurnOf_0 {X : jX} {l : Launch} {n : Nat} {Y : jY} (K : jOK X RX10 cX10_isTurnOf 3 (some .boolean) 1) (hl : X.2.1 = l) {rr : Int32} {μr : jM} {v0 : Nat} {v1 : Nat} {μ : jM} {z : (Int32 × jM)} (H : f_X10_isTurnOf Y v0 v1 μ = some z) (D : z = (rr, μr)) : JW X (jEnd X n Y (some (.int rr)) μr 0 0) 0 0 n Y 0 [(0, .ref v0), (1, .ref v1)] [] μ := by
  unfold f_X10_isTurnOf at H
  refine r_aload_n K 0 dX10_isTurnOf_0 rfl rfl ?_
  refine w_getI K vc10 inX10 0 (by decide) mF_RX10_9 dX10_isTurnOf_1 H (fun x1 H => ?_)
  refine r_aload_n K 1 dX10_isTurnOf_4 rfl rfl ?_
  refine w_getI K vc10 inX10 0 (by decide) mF_RX10_9 dX10_isTurnOf_5 H (fun x2 H => ?_)
  refine w_icmp_eq K 13 dX10_isTurnOf_8 (by decide) H (fun _ H => ?_) (fun _ H => ?_)
  · refine r_iconst (v := 0) K dX10_isTurnOf_13 (by decide) ?_
    refine r_istore_n K [(2, .int _), (0, .ref _), (1, .ref _)] dX10_isTurnOf_14 rfl (by decide) rfl ?_
    exact r_sub [1, 2, 0] rfl (l_X10_isTurnOf_15 K hl H D)
  · refine r_iconst (v := 0) K dX10_isTurnOf_11 (by decide) ?_
    refine w_zret K dX10_isTurnOf_12 H (fun hz H => ?_)
    cases H
    obtain ⟨rfl, rfl⟩ := jfin2 D
    exact r_zret K hz dX10_isTurnOf_12
theorem c_X10_isTurnOf (l : Launch) {n : Nat} {Y : jY} {v0 : Nat} {v1 : Nat} {μ : jM} {z : Int32 × jM} (H : f_X10_isTurnOf Y v0 v1 μ = some z) : jC l yX10_isTurnOf cX10_isTurnOf 3 (some .boolean) 1 0 0 [.ref v0, .ref v1] n Y μ n Y (some (.int z.1)) z.2 := by
  refine jC_of (by decide +kernel) (Nat.le_of_ble_eq_true rfl) (fun X hl K _ _ _ => ?_)
  obtain ⟨rr, μr⟩ := z
  exact t_X10_isTurnOf_0 K hl H rfl
/-! RX0 madeMeets(II)Z -/
def b_X0_madeMeets_66 (Y : jY) (t0 : Int32) (μ : jM) : Option (Int32 × jM) :=
  (jbool t0).bind fun x1 =>
  some (x1, μ)
def b_X0_madeMeets_93 (Y : jY) (t0 : Int32) (μ : jM) : Option (Int32 × jM) :=
  (jbool t0).bind fun x1 =>
  some (x1, μ)
def b_X0_madeMeets_92 (Y : jY) (μ : jM) : Option (Int32 × jM) :=
  b_X0_madeMeets_93 Y (0 : Int32) μ
def f_X0_madeMeets (Y : jY) (v0 : Nat) (v1 : Int32) (v2 : Int32) (μ : jM) : Option (Int32 × jM) :=
  if v1 = 0 then
    (jgO Y μ v0 0 0).bind fun x1 =>
    (jgO Y μ v0 0 0).bind fun x2 =>
    (jrcv Y x1 10 (f_X10_isTurnOf Y x1 x2 μ)).bind fun r3 =>
    (jbool r3.1).bind fun x4 =>
    some (x4, r3.2)
  else
  if v1 = 1 then
    (jgO Y μ v0 0 0).bind fun x5 =>
    (jgO Y μ x5 10 1).bind fun x6 =>
    (jaI Y μ x6 20 ((0 : Int32))).bind fun x7 =>
    if x7 = v2 then
      b_X0_madeMeets_66 Y (1 : Int32) μ
    else
      b_X0_madeMeets_66 Y (0 : Int32) μ
  else
  if v1 = 2 then
    (jgI Y μ v0 0 1).bind fun x8 =>
    if x8 ≤ ((1 : Int32)) then
      b_X0_madeMeets_92 Y μ
    else
      (jgO Y μ v0 0 0).bind fun x9 =>
      (jgO Y μ x9 10 2).bind fun x10 =>
      (jaI Y μ x10 20 ((0 : Int32))).bind fun x11 =>
      if x11 = v2 then
        b_X0_madeMeets_93 Y (1 : Int32) μ
      else
        b_X0_madeMeets_92 Y μ
  else
  if v1 = 3 then
    (jgO Y μ v0 0 0).bind fun x12 =>
    (jgI Y μ v0 0 1).bind fun x13 =>
    (jrcv Y x12 10 (f_X10_areWhole Y x12 ((x13 - ((1 : Int32)))) μ)).bind fun r14 =>
    (jbool r14.1).bind fun x15 =>
    some (x15, r14.2)
  else
  if v1 = 4 then
    (jrcv Y v0 0 (f_X0_endsWithLower Y v0 μ)).bind fun r16 =>
    (jbool r16.1).bind fun x17 =>
    some (x17, r16.2)
  else
  (jbool ((1 : Int32))).bind fun x18 =>
  some (x18, μ)
set_option maxRecDepth 10000 in
theorem t_X0_madeMeets_66 {X : jX} {l : Launch} {n : Nat} {Y : jY} (K : jOK X RX0 cX0_madeMeets 3 (some .boolean) 4) (hl : X.2.1 = l) {rr : Int32} {μr : jM} {t0 : Int32} {μ : jM} {z : (Int32 × jM)} (H : b_X0_madeMeets_66 Y t0 μ = some z) (D : z = (rr, μr)) : JW X (jEnd X n Y (some (.int rr)) μr 0 0) 0 0 n Y 66 [] [.int t0] μ := by
  unfold b_X0_madeMeets_66 at H
  refine w_zret K dX0_madeMeets_66 H (fun hz H => ?_)
  cases H
  obtain ⟨rfl, rfl⟩ := jfin2 D
  exact r_zret K hz dX0_madeMeets_66
set_option maxRecDepth 10000 in
theorem t_X0_madeMeets_93 {X : jX} {l : Launch} {n : Nat} {Y : jY} (K : jOK X RX0 cX0_madeMeets 3 (some .boolean) 4) (hl : X.2.1 = l) {rr : Int32} {μr : jM} {t0 : Int32} {μ : jM} {z : (Int32 × jM)} (H : b_X0_madeMeets_93 Y t0 μ = some z) (D : z = (rr, μr)) : JW X (jEnd X n Y (some (.int rr)) μr 0 0) 0 0 n Y 93 [] [.int t0] μ := by
  unfold b_X0_madeMeets_93 at H
  refine w_zret K dX0_madeMeets_93 H (fun hz H => ?_)
  cases H
  obtain ⟨rfl, rfl⟩ := jfin2 D
  exact r_zret K hz dX0_madeMeets_93
set_option maxRecDepth 10000 in
theorem t_X0_madeMeets_92 {X : jX} {l : Launch} {n : Nat} {Y : jY} (K : jOK X RX0 cX0_madeMeets 3 (some .boolean) 4) (hl : X.2.1 = l) {rr : Int32} {μr : jM} {μ : jM} {z : (Int32 × jM)} (H : b_X0_madeMeets_92 Y μ = some z) (D : z = (rr, μr)) : JW X (jEnd X n Y (some (.int rr)) μr 0 0) 0 0 n Y 92 [] [] μ := by
  unfold b_X0_madeMeets_92 at H
  refine r_iconst (v := 0) K dX0_madeMeets_92 (by decide) ?_
  exact r_sub [] rfl (t_X0_madeMeets_93 K hl H D)
set_option maxRecDepth 10000 in
theorem t_X0_madeMeets_0 {X : jX} {l : Launch} {n : Nat} {Y : jY} (K : jOK X RX0 cX0_madeMeets 3 (some .boolean) 4) (hl : X.2.1 = l) {rr : Int32} {μr : jM} {v0 : Nat} {v1 : Int32} {v2 : Int32} {μ : jM} {z : (Int32 × jM)} (H : f_X0_madeMeets Y v0 v1 v2 μ = some z) (D : z = (rr, μr)) : JW X (jEnd X n Y (some (.int rr)) μr 0 0) 0 0 n Y 0 [(0, .ref v0), (1, .int v1), (2, .int v2)] [] μ := by
  unfold f_X0_madeMeets at H
  refine r_iload_n K 1 dX0_madeMeets_0 rfl rfl ?_
  by_cases h0 : v1 = 0
  · rw [if_pos h0] at H
    refine r_tableIn K 36 dX0_madeMeets_1 (by rw [h0]; decide) (by rw [h0]; decide) (by rw [h0]; rfl) (by decide) ?_
    refine r_aload_n K 0 dX0_madeMeets_36 rfl rfl ?_
    refine w_getO K vc0 inX0 0 (by decide) mF_RX0_12 dX0_madeMeets_37 H (fun x1 H => ?_)
    refine r_aload_n K 0 dX0_madeMeets_40 rfl rfl ?_
    refine w_getO K vc0 inX0 0 (by decide) mF_RX0_12 dX0_madeMeets_41 H (fun x2 H => ?_)
    refine w_callV K hl H (fun r h => c_X10_isTurnOf l h) mC_yX10_isTurnOf mM_RX0_68 mI_yX10_isTurnOf mS_yX10_isTurnOf mZ_RX10 vc10 (Nat.le_of_ble_eq_true rfl) (Nat.le_of_ble_eq_true rfl) np_yX10_isTurnOf rfl (Nat.le_of_ble_eq_true rfl) dX0_madeMeets_44 (fun r3 H => ?_) ⟨Nat.zero_le _, Nat.zero_le _⟩
    refine w_zret K dX0_madeMeets_47 H (fun hz H => ?_)
    cases H
    obtain ⟨rfl, rfl⟩ := jfin2 D
    exact r_zret K hz dX0_madeMeets_47
  rw [if_neg h0] at H
  by_cases h1 : v1 = 1
  · rw [if_pos h1] at H
    refine r_tableIn K 48 dX0_madeMeets_1 (by rw [h1]; decide) (by rw [h1]; decide) (by rw [h1]; rfl) (by decide) ?_
    refine r_aload_n K 0 dX0_madeMeets_48 rfl rfl ?_
    refine w_getO K vc0 inX0 0 (by decide) mF_RX0_12 dX0_madeMeets_49 H (fun x5 H => ?_)
    refine w_getO K vc10 inX10 1 (by decide) mF_RX0_44 dX0_madeMeets_52 H (fun x6 H => ?_)
    refine r_iconst (v := 0) K dX0_madeMeets_55 (by decide) ?_
    refine w_iald K dX0_madeMeets_56 H (fun x7 H => ?_)
    refine r_iload_n K 2 dX0_madeMeets_57 rfl rfl ?_
    refine w_icmp_ne K 65 dX0_madeMeets_58 (by decide) H (fun _ H => ?_) (fun _ H => ?_)
    · refine r_iconst (v := 0) K dX0_madeMeets_65 (by decide) ?_
      exact r_sub [] rfl (t_X0_madeMeets_66 K hl H D)
    · refine r_iconst (v := 1) K dX0_madeMeets_61 (by decide) ?_
      refine r_goto K 66 dX0_madeMeets_62 (by decide) ?_
      exact r_sub [] rfl (t_X0_madeMeets_66 K hl H D)
  rw [if_neg h1] at H
  by_cases h2 : v1 = 2
  · rw [if_pos h2] at H
    refine r_tableIn K 67 dX0_madeMeets_1 (by rw [h2]; decide) (by rw [h2]; decide) (by rw [h2]; rfl) (by decide) ?_
    refine r_aload_n K 0 dX0_madeMeets_67 rfl rfl ?_
    refine w_getI K vc0 inX0 1 (by decide) mF_RX0_18 dX0_madeMeets_68 H (fun x8 H => ?_)
    refine r_iconst (v := 1) K dX0_madeMeets_71 (by decide) ?_
    refine w_icmp_le K 92 dX0_madeMeets_72 (by decide) H (fun _ H => ?_) (fun _ H => ?_)
    · exact r_sub [] rfl (t_X0_madeMeets_92 K hl H D)
    · refine r_aload_n K 0 dX0_madeMeets_75 rfl rfl ?_
      refine w_getO K vc0 inX0 0 (by decide) mF_RX0_12 dX0_madeMeets_76 H (fun x9 H => ?_)
      refine w_getO K vc10 inX10 2 (by decide) mF_RX0_48 dX0_madeMeets_79 H (fun x10 H => ?_)
      refine r_iconst (v := 0) K dX0_madeMeets_82 (by decide) ?_
      refine w_iald K dX0_madeMeets_83 H (fun x11 H => ?_)
      refine r_iload_n K 2 dX0_madeMeets_84 rfl rfl ?_
      refine w_icmp_ne K 92 dX0_madeMeets_85 (by decide) H (fun _ H => ?_) (fun _ H => ?_)
      · exact r_sub [] rfl (t_X0_madeMeets_92 K hl H D)
      · refine r_iconst (v := 1) K dX0_madeMeets_88 (by decide) ?_
        refine r_goto K 93 dX0_madeMeets_89 (by decide) ?_
        exact r_sub [] rfl (t_X0_madeMeets_93 K hl H D)
  rw [if_neg h2] at H
  by_cases h3 : v1 = 3
  · rw [if_pos h3] at H
    refine r_tableIn K 94 dX0_madeMeets_1 (by rw [h3]; decide) (by rw [h3]; decide) (by rw [h3]; rfl) (by decide) ?_
    refine r_aload_n K 0 dX0_madeMeets_94 rfl rfl ?_
    refine w_getO K vc0 inX0 0 (by decide) mF_RX0_12 dX0_madeMeets_95 H (fun x12 H => ?_)
    refine r_aload_n K 0 dX0_madeMeets_98 rfl rfl ?_
    refine w_getI K vc0 inX0 1 (by decide) mF_RX0_18 dX0_madeMeets_99 H (fun x13 H => ?_)
    refine r_iconst (v := 1) K dX0_madeMeets_102 (by decide) ?_
    refine r_isub K dX0_madeMeets_103 ?_
    refine w_callV K hl H (fun r h => c_X10_areWhole l h) mC_yX10_areWhole mM_RX0_72 mI_yX10_areWhole mS_yX10_areWhole mZ_RX10 vc10 (Nat.le_of_ble_eq_true rfl) (Nat.le_of_ble_eq_true rfl) np_yX10_areWhole rfl (Nat.le_of_ble_eq_true rfl) dX0_madeMeets_104 (fun r14 H => ?_) ⟨Nat.zero_le _, Nat.zero_le _⟩
    refine w_zret K dX0_madeMeets_107 H (fun hz H => ?_)
    cases H
    obtain ⟨rfl, rfl⟩ := jfin2 D
    exact r_zret K hz dX0_madeMeets_107
  rw [if_neg h3] at H
  by_cases h4 : v1 = 4
  · rw [if_pos h4] at H
    refine r_tableIn K 108 dX0_madeMeets_1 (by rw [h4]; decide) (by rw [h4]; decide) (by rw [h4]; rfl) (by decide) ?_
    refine r_aload_n K 0 dX0_madeMeets_108 rfl rfl ?_
    refine w_callV K hl H (fun r h => c_X0_endsWithLower l h) mC_yX0_endsWithLower mM_RX0_76 mI_yX0_endsWithLower mS_yX0_endsWithLower mZ_RX0 vc0 (Nat.le_of_ble_eq_true rfl) (Nat.le_of_ble_eq_true rfl) np_yX0_endsWithLower rfl (Nat.le_of_ble_eq_true rfl) dX0_madeMeets_109 (fun r16 H => ?_) ⟨Nat.zero_le _, Nat.zero_le _⟩
    refine w_zret K dX0_madeMeets_112 H (fun hz H => ?_)
    cases H
    obtain ⟨rfl, rfl⟩ := jfin2 D
    exact r_zret K hz dX0_madeMeets_112
  rw [if_neg h4] at H
  refine r_tableOut K 113 dX0_madeMeets_1 (by
    rw [← Int32.toInt_inj] at h0
    rw [← Int32.toInt_inj] at h1
    rw [← Int32.toInt_inj] at h2
    rw [← Int32.toInt_inj] at h3
    rw [← Int32.toInt_inj] at h4
    have e0 : (0 : Int32).toInt = 0 := rfl; have e1 : (1 : Int32).toInt = 1 := rfl; have e2 : (2 : Int32).toInt = 2 := rfl; have e3 : (3 : Int32).toInt = 3 := rfl; have e4 : (4 : Int32).toInt = 4 := rfl
    omega) (by decide) ?_
  refine r_iconst (v := 1) K dX0_madeMeets_113 (by decide) ?_
  refine w_zret K dX0_madeMeets_114 H (fun hz H => ?_)
  cases H
  obtain ⟨rfl, rfl⟩ := jfin2 D
  exact r_zret K hz dX0_madeMeets_114
theorem c_X0_madeMeets (l : Launch) {n : Nat} {Y : jY} {v0 : Nat} {v1 : Int32} {v2 : Int32} {μ : jM} {z : Int32 × jM} (H : f_X0_madeMeets Y v0 v1 v2 μ = some z) : jC l yX0_madeMeets cX0_madeMeets 3 (some .boolean) 4 0 0 [.ref v0, .int v1, .int v2] n Y μ n Y (some (.int z.1)) z.2 := by
  refine jC_of (by decide +kernel) (Nat.le_of_ble_eq_true rfl) (fun X hl K _ _ _ => ?_)
  obtain ⟨rr, μr⟩ := z
  exact t_X0_madeMeets_0 K hl H rfl
/-! RX0 makes(I)Z -/
def b_X0_makes_133 (Y : jY) (t0 : Int32) (μ : jM) : Option (Int32 × jM) :=
  (jbool t0).bind fun x1 =>
  some (x1, μ)
def b_X0_makes_132 (Y : jY) (μ : jM) : Option (Int32 × jM) :=
  b_X0_makes_133 Y (0 : Int32) μ
def b_X0_makes_90 (Y : jY) (v0 : Nat) (μ : jM) : Option (Int32 × jM) :=
  (jrcv Y v0 0 (f_X0_setLastA Y v0 μ)).bind fun r1 =>
  if r1.1 = 0 then
    b_X0_makes_132 Y r1.2
  else
    (jrcv Y v0 0 (f_X0_setLastC Y v0 r1.2)).bind fun r2 =>
    if r2.1 = 0 then
      b_X0_makes_132 Y r2.2
    else
      (jgO Y r2.2 v0 0 0).bind fun x3 =>
      (jgI Y r2.2 v0 0 1).bind fun x4 =>
      (jrcv Y x3 10 (f_X10_valueAt Y x3 ((0 : Int32)) x4 ((0 : Int32)) ((1 : Int32)) r2.2)).bind fun r5 =>
      (jgO Y r5.2 v0 0 2).bind fun x6 =>
      (jaL Y r5.2 x6 21 ((0 : Int32))).bind fun x7 =>
      if ((lg_cmp r5.1 x7)) = 0 then
        b_X0_makes_133 Y (1 : Int32) r5.2
      else
        b_X0_makes_132 Y r5.2
def b_X0_makes_31 (Y : jY) (v0 : Nat) (v1 : Int32) (μ : jM) : Option (Int32 × jM) :=
  (jgI Y μ v0 0 1).bind fun x1 =>
  if x1 = ((3 : Int32)) then
    (jgO Y μ v0 0 0).bind fun x2 =>
    (jgO Y μ x2 10 1).bind fun x3 =>
    (jdivI v1 ((468 : Int32))).bind fun x4 =>
    (jas Y μ x3 20 ((0 : Int32)) (.int ((x4 - ((6 : Int32)))))).bind fun μ5 =>
    (jgO Y μ5 v0 0 0).bind fun x6 =>
    (jgO Y μ5 x6 10 1).bind fun x7 =>
    (jdivI v1 ((36 : Int32))).bind fun x8 =>
    (jremI x8 ((13 : Int32))).bind fun x9 =>
    (jas Y μ5 x7 20 ((1 : Int32)) (.int ((x9 - ((6 : Int32)))))).bind fun μ10 =>
    (jgO Y μ10 v0 0 0).bind fun x11 =>
    (jgO Y μ10 x11 10 2).bind fun x12 =>
    (jremI v1 ((36 : Int32))).bind fun x13 =>
    (jas Y μ10 x12 20 ((0 : Int32)) (.int ((x13 + ((1 : Int32)))))).bind fun μ14 =>
    b_X0_makes_90 Y v0 μ14
  else
    b_X0_makes_90 Y v0 μ
def f_X0_makes (Y : jY) (v0 : Nat) (v1 : Int32) (μ : jM) : Option (Int32 × jM) :=
  (jgI Y μ v0 0 1).bind fun x1 =>
  if ((1 : Int32)) ≤ x1 then
    (jgI Y μ v0 0 1).bind fun x2 =>
    if x2 = ((2 : Int32)) then
      (jgO Y μ v0 0 0).bind fun x3 =>
      (jgO Y μ x3 10 1).bind fun x4 =>
      (jas Y μ x4 20 ((0 : Int32)) (.int ((v1 - ((6 : Int32)))))).bind fun μ5 =>
      b_X0_makes_31 Y v0 v1 μ5
    else
      b_X0_makes_31 Y v0 v1 μ
  else
    (jbool ((0 : Int32))).bind fun x6 =>
    some (x6, μ)
set_option maxRecDepth 10000 in
theorem t_X0_makes_133 {X : jX} {l : Launch} {n : Nat} {Y : jY} (K : jOK X RX0 cX0_makes 2 (some .boolean) 3) (hl : X.2.1 = l) {rr : Int32} {μr : jM} {t0 : Int32} {μ : jM} {z : (Int32 × jM)} (H : b_X0_makes_133 Y t0 μ = some z) (D : z = (rr, μr)) : JW X (jEnd X n Y (some (.int rr)) μr 0 0) 0 0 n Y 133 [] [.int t0] μ := by
  unfold b_X0_makes_133 at H
  refine w_zret K dX0_makes_133 H (fun hz H => ?_)
  cases H
  obtain ⟨rfl, rfl⟩ := jfin2 D
  exact r_zret K hz dX0_makes_133
set_option maxRecDepth 10000 in
theorem t_X0_makes_132 {X : jX} {l : Launch} {n : Nat} {Y : jY} (K : jOK X RX0 cX0_makes 2 (some .boolean) 3) (hl : X.2.1 = l) {rr : Int32} {μr : jM} {μ : jM} {z : (Int32 × jM)} (H : b_X0_makes_132 Y μ = some z) (D : z = (rr, μr)) : JW X (jEnd X n Y (some (.int rr)) μr 0 0) 0 0 n Y 132 [] [] μ := by
  unfold b_X0_makes_132 at H
  refine r_iconst (v := 0) K dX0_makes_132 (by decide) ?_
  exact r_sub [] rfl (t_X0_makes_133 K hl H D)
set_option maxRecDepth 10000 in
theorem t_X0_makes_90 {X : jX} {l : Launch} {n : Nat} {Y : jY} (K : jOK X RX0 cX0_makes 2 (some .boolean) 3) (hl : X.2.1 = l) {rr : Int32} {μr : jM} {v0 : Nat} {μ : jM} {z : (Int32 × jM)} (H : b_X0_makes_90 Y v0 μ = some z) (D : z = (rr, μr)) : JW X (jEnd X n Y (some (.int rr)) μr 0 0) 0 0 n Y 90 [(0, .ref v0)] [] μ := by
  unfold b_X0_makes_90 at H
  refine r_aload_n K 0 dX0_makes_90 rfl rfl ?_
  refine w_callV K hl H (fun r h => c_X0_setLastA l h) mC_yX0_setLastA mM_RX0_51 mI_yX0_setLastA mS_yX0_setLastA mZ_RX0 vc0 (Nat.le_of_ble_eq_true rfl) (Nat.le_of_ble_eq_true rfl) np_yX0_setLastA rfl (Nat.le_of_ble_eq_true rfl) dX0_makes_91 (fun r1 H => ?_) ⟨Nat.zero_le _, Nat.zero_le _⟩
  refine w_if_eq K 132 dX0_makes_94 (by decide) H (fun _ H => ?_) (fun _ H => ?_)
  · exact r_sub [] rfl (t_X0_makes_132 K hl H D)
  · refine r_aload_n K 0 dX0_makes_97 rfl rfl ?_
    refine w_callV K hl H (fun r h => c_X0_setLastC l h) mC_yX0_setLastC mM_RX0_55 mI_yX0_setLastC mS_yX0_setLastC mZ_RX0 vc0 (Nat.le_of_ble_eq_true rfl) (Nat.le_of_ble_eq_true rfl) np_yX0_setLastC rfl (Nat.le_of_ble_eq_true rfl) dX0_makes_98 (fun r2 H => ?_) ⟨Nat.zero_le _, Nat.zero_le _⟩
    refine w_if_eq K 132 dX0_makes_101 (by decide) H (fun _ H => ?_) (fun _ H => ?_)
    · exact r_sub [] rfl (t_X0_makes_132 K hl H D)
    · refine r_aload_n K 0 dX0_makes_104 rfl rfl ?_
      refine w_getO K vc0 inX0 0 (by decide) mF_RX0_12 dX0_makes_105 H (fun x3 H => ?_)
      refine r_iconst (v := 0) K dX0_makes_108 (by decide) ?_
      refine r_aload_n K 0 dX0_makes_109 rfl rfl ?_
      refine w_getI K vc0 inX0 1 (by decide) mF_RX0_18 dX0_makes_110 H (fun x4 H => ?_)
      refine r_iconst (v := 0) K dX0_makes_113 (by decide) ?_
      refine r_iconst (v := 1) K dX0_makes_114 (by decide) ?_
      refine w_callV K hl H (fun r h => c_X10_valueAt l h) mC_yX10_valueAt mM_RX0_58 mI_yX10_valueAt mS_yX10_valueAt mZ_RX10 vc10 (Nat.le_of_ble_eq_true rfl) (Nat.le_of_ble_eq_true rfl) np_yX10_valueAt rfl (Nat.le_of_ble_eq_true rfl) dX0_makes_115 (fun r5 H => ?_) ⟨Nat.zero_le _, Nat.zero_le _⟩
      refine r_aload_n K 0 dX0_makes_118 rfl rfl ?_
      refine w_getO K vc0 inX0 2 (by decide) mF_RX0_22 dX0_makes_119 H (fun x6 H => ?_)
      refine r_iconst (v := 0) K dX0_makes_122 (by decide) ?_
      refine w_lald K dX0_makes_123 H (fun x7 H => ?_)
      refine r_lcmp K dX0_makes_124 ?_
      refine w_if_ne K 132 dX0_makes_125 (by decide) H (fun _ H => ?_) (fun _ H => ?_)
      · exact r_sub [] rfl (t_X0_makes_132 K hl H D)
      · refine r_iconst (v := 1) K dX0_makes_128 (by decide) ?_
        refine r_goto K 133 dX0_makes_129 (by decide) ?_
        exact r_sub [] rfl (t_X0_makes_133 K hl H D)
set_option maxRecDepth 10000 in
theorem t_X0_makes_31 {X : jX} {l : Launch} {n : Nat} {Y : jY} (K : jOK X RX0 cX0_makes 2 (some .boolean) 3) (hl : X.2.1 = l) {rr : Int32} {μr : jM} {v0 : Nat} {v1 : Int32} {μ : jM} {z : (Int32 × jM)} (H : b_X0_makes_31 Y v0 v1 μ = some z) (D : z = (rr, μr)) : JW X (jEnd X n Y (some (.int rr)) μr 0 0) 0 0 n Y 31 [(0, .ref v0), (1, .int v1)] [] μ := by
  unfold b_X0_makes_31 at H
  refine r_aload_n K 0 dX0_makes_31 rfl rfl ?_
  refine w_getI K vc0 inX0 1 (by decide) mF_RX0_18 dX0_makes_32 H (fun x1 H => ?_)
  refine r_iconst (v := 3) K dX0_makes_35 (by decide) ?_
  refine w_icmp_ne K 90 dX0_makes_36 (by decide) H (fun _ H => ?_) (fun _ H => ?_)
  · exact r_sub [0] rfl (t_X0_makes_90 K hl H D)
  · refine r_aload_n K 0 dX0_makes_39 rfl rfl ?_
    refine w_getO K vc0 inX0 0 (by decide) mF_RX0_12 dX0_makes_40 H (fun x2 H => ?_)
    refine w_getO K vc10 inX10 1 (by decide) mF_RX0_44 dX0_makes_43 H (fun x3 H => ?_)
    refine r_iconst (v := 0) K dX0_makes_46 (by decide) ?_
    refine r_iload_n K 1 dX0_makes_47 rfl rfl ?_
    refine r_sipush (v := 468) K dX0_makes_48 (by decide) ?_
    refine w_idiv K dX0_makes_51 H (fun x4 H => ?_)
    refine r_bipush (v := 6) K dX0_makes_52 (by decide) ?_
    refine r_isub K dX0_makes_54 ?_
    refine w_iast K dX0_makes_55 H (fun μ5 H => ?_)
    refine r_aload_n K 0 dX0_makes_56 rfl rfl ?_
    refine w_getO K vc0 inX0 0 (by decide) mF_RX0_12 dX0_makes_57 H (fun x6 H => ?_)
    refine w_getO K vc10 inX10 1 (by decide) mF_RX0_44 dX0_makes_60 H (fun x7 H => ?_)
    refine r_iconst (v := 1) K dX0_makes_63 (by decide) ?_
    refine r_iload_n K 1 dX0_makes_64 rfl rfl ?_
    refine r_bipush (v := 36) K dX0_makes_65 (by decide) ?_
    refine w_idiv K dX0_makes_67 H (fun x8 H => ?_)
    refine r_bipush (v := 13) K dX0_makes_68 (by decide) ?_
    refine w_irem K dX0_makes_70 H (fun x9 H => ?_)
    refine r_bipush (v := 6) K dX0_makes_71 (by decide) ?_
    refine r_isub K dX0_makes_73 ?_
    refine w_iast K dX0_makes_74 H (fun μ10 H => ?_)
    refine r_aload_n K 0 dX0_makes_75 rfl rfl ?_
    refine w_getO K vc0 inX0 0 (by decide) mF_RX0_12 dX0_makes_76 H (fun x11 H => ?_)
    refine w_getO K vc10 inX10 2 (by decide) mF_RX0_48 dX0_makes_79 H (fun x12 H => ?_)
    refine r_iconst (v := 0) K dX0_makes_82 (by decide) ?_
    refine r_iload_n K 1 dX0_makes_83 rfl rfl ?_
    refine r_bipush (v := 36) K dX0_makes_84 (by decide) ?_
    refine w_irem K dX0_makes_86 H (fun x13 H => ?_)
    refine r_iconst (v := 1) K dX0_makes_87 (by decide) ?_
    refine r_iadd K dX0_makes_88 ?_
    refine w_iast K dX0_makes_89 H (fun μ14 H => ?_)
    exact r_sub [0] rfl (t_X0_makes_90 K hl H D)
set_option maxRecDepth 10000 in
theorem t_X0_makes_0 {X : jX} {l : Launch} {n : Nat} {Y : jY} (K : jOK X RX0 cX0_makes 2 (some .boolean) 3) (hl : X.2.1 = l) {rr : Int32} {μr : jM} {v0 : Nat} {v1 : Int32} {μ : jM} {z : (Int32 × jM)} (H : f_X0_makes Y v0 v1 μ = some z) (D : z = (rr, μr)) : JW X (jEnd X n Y (some (.int rr)) μr 0 0) 0 0 n Y 0 [(0, .ref v0), (1, .int v1)] [] μ := by
  unfold f_X0_makes at H
  refine r_aload_n K 0 dX0_makes_0 rfl rfl ?_
  refine w_getI K vc0 inX0 1 (by decide) mF_RX0_18 dX0_makes_1 H (fun x1 H => ?_)
  refine r_iconst (v := 1) K dX0_makes_4 (by decide) ?_
  refine w_icmp_ge K 10 dX0_makes_5 (by decide) H (fun _ H => ?_) (fun _ H => ?_)
  · refine r_aload_n K 0 dX0_makes_10 rfl rfl ?_
    refine w_getI K vc0 inX0 1 (by decide) mF_RX0_18 dX0_makes_11 H (fun x2 H => ?_)
    refine r_iconst (v := 2) K dX0_makes_14 (by decide) ?_
    refine w_icmp_ne K 31 dX0_makes_15 (by decide) H (fun _ H => ?_) (fun _ H => ?_)
    · exact r_sub [0, 1] rfl (t_X0_makes_31 K hl H D)
    · refine r_aload_n K 0 dX0_makes_18 rfl rfl ?_
      refine w_getO K vc0 inX0 0 (by decide) mF_RX0_12 dX0_makes_19 H (fun x3 H => ?_)
      refine w_getO K vc10 inX10 1 (by decide) mF_RX0_44 dX0_makes_22 H (fun x4 H => ?_)
      refine r_iconst (v := 0) K dX0_makes_25 (by decide) ?_
      refine r_iload_n K 1 dX0_makes_26 rfl rfl ?_
      refine r_bipush (v := 6) K dX0_makes_27 (by decide) ?_
      refine r_isub K dX0_makes_29 ?_
      refine w_iast K dX0_makes_30 H (fun μ5 H => ?_)
      exact r_sub [0, 1] rfl (t_X0_makes_31 K hl H D)
  · refine r_iconst (v := 0) K dX0_makes_8 (by decide) ?_
    refine w_zret K dX0_makes_9 H (fun hz H => ?_)
    cases H
    obtain ⟨rfl, rfl⟩ := jfin2 D
    exact r_zret K hz dX0_makes_9
theorem c_X0_makes (l : Launch) {n : Nat} {Y : jY} {v0 : Nat} {v1 : Int32} {μ : jM} {z : Int32 × jM} (H : f_X0_makes Y v0 v1 μ = some z) : jC l yX0_makes cX0_makes 2 (some .boolean) 3 0 0 [.ref v0, .int v1] n Y μ n Y (some (.int z.1)) z.2 := by
  refine jC_of (by decide +kernel) (Nat.le_of_ble_eq_true rfl) (fun X hl K _ _ _ => ?_)
  obtain ⟨rr, μr⟩ := z
  exact t_X0_makes_0 K hl H rfl
/-! RX1 commonDivisor(JJ)J -/
def b_X1_commonDivisor_50 (Y : jY) (v4 : Int64) (μ : jM) : Option (Int64 × jM) :=
  some ((jmaxL ((1 : Int64)) v4), μ)
def b_X1_commonDivisor_15 (Y : jY) (v4 : Int64) (v6 : Int64) (v8 : Int32) (μ : jM) : Option ((Int64 × Int64 × Int32 × jM) ⊕ (Int64 × jM)) :=
  if ((100 : Int32)) ≤ v8 then
    (b_X1_commonDivisor_50 Y v4 μ).map (fun r => (.inr r))
  else
    if ((lg_cmp v6 ((0 : Int64)))) = 0 then
      (b_X1_commonDivisor_50 Y v4 μ).map (fun r => (.inr r))
    else
      (jremL v4 v6).bind fun x1 =>
      some (.inl (v6, x1, (v8 + (1 : Int32)), μ))
def f_X1_commonDivisor (Y : jY) (v0 : Int64) (v2 : Int64) (μ : jM) : Option (Int64 × jM) :=
  jit jF (fun (s : Int64 × Int64 × Int32 × jM) => b_X1_commonDivisor_15 Y s.1 s.2.1 s.2.2.1 s.2.2.2) ((jabsL v0), (jabsL v2), (0 : Int32), μ)
set_option maxRecDepth 10000 in
theorem t_X1_commonDivisor_50 {X : jX} {l : Launch} {n : Nat} {Y : jY} (K : jOK X RX1 cX1_commonDivisor 11 (some .long) 1) (hl : X.2.1 = l) {rr : Int64} {μr : jM} {v4 : Int64} {μ : jM} {z : (Int64 × jM)} (H : b_X1_commonDivisor_50 Y v4 μ = some z) (D : z = (rr, μr)) : JW X (jEnd X n Y (some (.long rr)) μr 0 0) 0 0 n Y 50 [(4, .long v4)] [] μ := by
  unfold b_X1_commonDivisor_50 at H
  refine r_lconst (v := 1) K dX1_commonDivisor_50 (by decide) ?_
  refine r_lload K 0 dX1_commonDivisor_51 rfl ?_
  refine r_mmaxL K mM_RX1_43 mT_maxJ mZ_Math mC_maxJ (Nat.le_of_ble_eq_true rfl) (Nat.le_of_ble_eq_true rfl) ⟨Nat.zero_le _, Nat.zero_le _⟩ dX1_commonDivisor_53 ?_
  cases H
  obtain ⟨rfl, rfl⟩ := jfin2 D
  exact r_lret K dX1_commonDivisor_56
set_option maxRecDepth 10000 in
theorem t_X1_commonDivisor_15 {X : jX} {l : Launch} {n : Nat} {Y : jY} (K : jOK X RX1 cX1_commonDivisor 11 (some .long) 1) (hl : X.2.1 = l) {rr : Int64} {μr : jM} {v4 : Int64} {v6 : Int64} {v8 : Int32} {μ : jM} {z : ((Int64 × Int64 × Int32 × jM) ⊕ (Int64 × jM))} (H : b_X1_commonDivisor_15 Y v4 v6 v8 μ = some z) (D : Sum.elim (fun (s : Int64 × Int64 × Int32 × jM) => JW X (jEnd X n Y (some (.long rr)) μr 0 0) 0 0 n Y 15 [(4, .long s.1), (6, .long s.2.1), (8, .int s.2.2.1)] [] s.2.2.2) (fun r => r = (rr, μr)) z) : JW X (jEnd X n Y (some (.long rr)) μr 0 0) 0 0 n Y 15 [(4, .long v4), (6, .long v6), (8, .int v8)] [] μ := by
  unfold b_X1_commonDivisor_15 at H
  refine r_iload K 2 dX1_commonDivisor_15 rfl ?_
  refine r_bipush (v := 100) K dX1_commonDivisor_17 (by decide) ?_
  refine w_icmp_ge K 50 dX1_commonDivisor_19 (by decide) H (fun _ H => ?_) (fun _ H => ?_)
  · obtain ⟨z2, H2, rfl⟩ := jmap H
    exact r_sub [0] rfl (t_X1_commonDivisor_50 K hl H2 D)
  · refine r_lload K 1 dX1_commonDivisor_22 rfl ?_
    refine r_lconst (v := 0) K dX1_commonDivisor_24 (by decide) ?_
    refine r_lcmp K dX1_commonDivisor_25 ?_
    refine w_if_eq K 50 dX1_commonDivisor_26 (by decide) H (fun _ H => ?_) (fun _ H => ?_)
    · obtain ⟨z2, H2, rfl⟩ := jmap H
      exact r_sub [0] rfl (t_X1_commonDivisor_50 K hl H2 D)
    · refine r_lload K 0 dX1_commonDivisor_29 rfl ?_
      refine r_lload K 1 dX1_commonDivisor_31 rfl ?_
      refine w_lrem K dX1_commonDivisor_33 H (fun x1 H => ?_)
      refine r_lstore K [(9, .long _), (4, .long _), (6, .long _), (8, .int _)] dX1_commonDivisor_34 (by decide) rfl ?_
      refine r_lload K 2 dX1_commonDivisor_36 rfl ?_
      refine r_lstore K [(4, .long _), (9, .long _), (6, .long _), (8, .int _)] dX1_commonDivisor_38 (by decide) rfl ?_
      refine r_lload K 1 dX1_commonDivisor_40 rfl ?_
      refine r_lstore K [(6, .long _), (4, .long _), (9, .long _), (8, .int _)] dX1_commonDivisor_42 (by decide) rfl ?_
      refine r_iinc K 3 [(8, .int _), (6, .long _), (4, .long _), (9, .long _)] (v := _ + (1 : Int32)) dX1_commonDivisor_44 rfl rfl (by decide) rfl ?_
      refine r_goto K 15 dX1_commonDivisor_47 (by decide) ?_
      cases H
      exact r_sub [2, 1, 0] rfl D
set_option maxRecDepth 10000 in
theorem l_X1_commonDivisor_15 {X : jX} {l : Launch} {n : Nat} {Y : jY} (K : jOK X RX1 cX1_commonDivisor 11 (some .long) 1) (hl : X.2.1 = l) {rr : Int64} {μr : jM}   {s0 : Int64 × Int64 × Int32 × jM} {z : (Int64 × jM)} (H : jit jF (fun (s : Int64 × Int64 × Int32 × jM) => b_X1_commonDivisor_15 Y s.1 s.2.1 s.2.2.1 s.2.2.2) s0 = some z) (D : z = (rr, μr)) : JW X (jEnd X n Y (some (.long rr)) μr 0 0) 0 0 n Y 15 [(4, .long s0.1), (6, .long s0.2.1), (8, .int s0.2.2.1)] [] s0.2.2.2 :=
  jit_ind (P := fun (s : Int64 × Int64 × Int32 × jM) => JW X (jEnd X n Y (some (.long rr)) μr 0 0) 0 0 n Y 15 [(4, .long s.1), (6, .long s.2.1), (8, .int s.2.2.1)] [] s.2.2.2) (D := fun r => r = (rr, μr)) (fun s z Hs Ds => t_X1_commonDivisor_15 K hl Hs Ds) jF s0 z H D
set_option maxRecDepth 10000 in
theorem t_X1_commonDivisor_0 {X : jX} {l : Launch} {n : Nat} {Y : jY} (K : jOK X RX1 cX1_commonDivisor 11 (some .long) 1) (hl : X.2.1 = l) {rr : Int64} {μr : jM} {v0 : Int64} {v2 : Int64} {μ : jM} {z : (Int64 × jM)} (H : f_X1_commonDivisor Y v0 v2 μ = some z) (D : z = (rr, μr)) : JW X (jEnd X n Y (some (.long rr)) μr 0 0) 0 0 n Y 0 [(0, .long v0), (2, .long v2)] [] μ := by
  unfold f_X1_commonDivisor at H
  refine r_lload_n K 0 dX1_commonDivisor_0 rfl rfl ?_
  refine r_mabsL K mM_RX1_39 mT_absJ mZ_Math mC_absJ (Nat.le_of_ble_eq_true rfl) (Nat.le_of_ble_eq_true rfl) ⟨Nat.zero_le _, Nat.zero_le _⟩ dX1_commonDivisor_1 ?_
  refine r_lstore K [(4, .long _), (0, .long _), (2, .long _)] dX1_commonDivisor_4 (by decide) rfl ?_
  refine r_lload_n K 2 dX1_commonDivisor_6 rfl rfl ?_
  refine r_mabsL K mM_RX1_39 mT_absJ mZ_Math mC_absJ (Nat.le_of_ble_eq_true rfl) (Nat.le_of_ble_eq_true rfl) ⟨Nat.zero_le _, Nat.zero_le _⟩ dX1_commonDivisor_7 ?_
  refine r_lstore K [(6, .long _), (4, .long _), (0, .long _), (2, .long _)] dX1_commonDivisor_10 (by decide) rfl ?_
  refine r_iconst (v := 0) K dX1_commonDivisor_12 (by decide) ?_
  refine r_istore K [(8, .int _), (6, .long _), (4, .long _), (0, .long _), (2, .long _)] dX1_commonDivisor_13 (by decide) rfl ?_
  exact r_sub [2, 1, 0] rfl (l_X1_commonDivisor_15 K hl H D)
theorem c_X1_commonDivisor (l : Launch) {n : Nat} {Y : jY} {v0 : Int64} {v2 : Int64} {μ : jM} {z : Int64 × jM} (H : f_X1_commonDivisor Y v0 v2 μ = some z) : jC l yX1_commonDivisor cX1_commonDivisor 11 (some .long) 1 0 0 [.long v0, .long v2] n Y μ n Y (some (.long z.1)) z.2 := by
  refine jC_of (by decide +kernel) (Nat.le_of_ble_eq_true rfl) (fun X hl K _ _ _ => ?_)
  obtain ⟨rr, μr⟩ := z
  exact t_X1_commonDivisor_0 K hl H rfl
/-! RX1 set(JJ)V -/
def b_X1_set_37 (Y : jY) (v0 : Nat) (v1 : Int64) (v3 : Int64) (v5 : Int64) (t0 : Int64) (μ : jM) : Option (jM) :=
  (jdivL v1 v5).bind fun x1 =>
  (jput Y μ v0 1 0 (.long ((t0 * x1)))).bind fun μ2 =>
  (jdivL v3 v5).bind fun x3 =>
  (jput Y μ2 v0 1 1 (.long ((t0 * x3)))).bind fun μ4 =>
  some μ4
def f_X1_set (Y : jY) (v0 : Nat) (v1 : Int64) (v3 : Int64) (μ : jM) : Option (jM) :=
  if ((lg_cmp v3 ((0 : Int64)))) = 0 then
    (jput Y μ v0 1 0 (.long ((0 : Int64)))).bind fun μ2 =>
    (jput Y μ2 v0 1 1 (.long ((1 : Int64)))).bind fun μ3 =>
    some μ3
  else
    (f_X1_commonDivisor Y v1 v3 μ).bind fun r1 =>
    if 0 ≤ ((lg_cmp v3 ((0 : Int64)))) then
      b_X1_set_37 Y v0 v1 v3 r1.1 (1 : Int64) r1.2
    else
      b_X1_set_37 Y v0 v1 v3 r1.1 (-1 : Int64) r1.2
set_option maxRecDepth 10000 in
theorem t_X1_set_37 {X : jX} {l : Launch} {n : Nat} {Y : jY} (K : jOK X RX1 cX1_set 9 none 2) (hl : X.2.1 = l) {μr : jM} {v0 : Nat} {v1 : Int64} {v3 : Int64} {v5 : Int64} {t0 : Int64} {μ : jM} {z : (jM)} (H : b_X1_set_37 Y v0 v1 v3 v5 t0 μ = some z) (D : z = μr) : JW X (jEnd X n Y none μr 0 0) 0 0 n Y 37 [(0, .ref v0), (1, .long v1), (3, .long v3), (5, .long v5)] [.long t0] μ := by
  unfold b_X1_set_37 at H
  refine r_lstore K [(7, .long _), (0, .ref _), (1, .long _), (3, .long _), (5, .long _)] dX1_set_37 (by decide) rfl ?_
  refine r_aload_n K 1 dX1_set_39 rfl rfl ?_
  refine r_lload K 0 dX1_set_40 rfl ?_
  refine r_lload_n K 2 dX1_set_42 rfl rfl ?_
  refine r_lload K 4 dX1_set_43 rfl ?_
  refine w_ldiv K dX1_set_45 H (fun x1 H => ?_)
  refine r_lmul K dX1_set_46 ?_
  refine w_put K vc1 inX1 tyX1_ok nmX1 0 (by decide) mF_RX1_7 rfl (fun _ => rfl) (fun _ => rfl) dX1_set_47 H (fun μ2 H => ?_)
  refine r_aload_n K 1 dX1_set_50 rfl rfl ?_
  refine r_lload K 0 dX1_set_51 rfl ?_
  refine r_lload_n K 3 dX1_set_53 rfl rfl ?_
  refine r_lload K 4 dX1_set_54 rfl ?_
  refine w_ldiv K dX1_set_56 H (fun x3 H => ?_)
  refine r_lmul K dX1_set_57 ?_
  refine w_put K vc1 inX1 tyX1_ok nmX1 1 (by decide) mF_RX1_13 rfl (fun _ => rfl) (fun _ => rfl) dX1_set_58 H (fun μ4 H => ?_)
  cases H
  subst D
  exact r_vret K dX1_set_61
set_option maxRecDepth 10000 in
theorem t_X1_set_0 {X : jX} {l : Launch} {n : Nat} {Y : jY} (K : jOK X RX1 cX1_set 9 none 2) (hl : X.2.1 = l) {μr : jM} {v0 : Nat} {v1 : Int64} {v3 : Int64} {μ : jM} {z : (jM)} (H : f_X1_set Y v0 v1 v3 μ = some z) (D : z = μr) : JW X (jEnd X n Y none μr 0 0) 0 0 n Y 0 [(0, .ref v0), (1, .long v1), (3, .long v3)] [] μ := by
  unfold f_X1_set at H
  refine r_lload_n K 2 dX1_set_0 rfl rfl ?_
  refine r_lconst (v := 0) K dX1_set_1 (by decide) ?_
  refine r_lcmp K dX1_set_2 ?_
  refine w_if_ne K 17 dX1_set_3 (by decide) H (fun _ H => ?_) (fun _ H => ?_)
  · refine r_lload_n K 1 dX1_set_17 rfl rfl ?_
    refine r_lload_n K 2 dX1_set_18 rfl rfl ?_
    refine w_callS K hl H (fun r h => c_X1_commonDivisor l h) mC_yX1_commonDivisor mM_RX1_23 mT_yX1_commonDivisor mZ_RX1 (Nat.le_of_ble_eq_true rfl) (Nat.le_of_ble_eq_true rfl) np_yX1_commonDivisor rfl (Nat.le_of_ble_eq_true rfl) dX1_set_19 (fun r1 H => ?_) ⟨Nat.zero_le _, Nat.zero_le _⟩
    refine r_lstore K [(5, .long _), (0, .ref _), (1, .long _), (3, .long _)] dX1_set_22 (by decide) rfl ?_
    refine r_lload_n K 3 dX1_set_24 rfl rfl ?_
    refine r_lconst (v := 0) K dX1_set_25 (by decide) ?_
    refine r_lcmp K dX1_set_26 ?_
    refine w_if_ge K 36 dX1_set_27 (by decide) H (fun _ H => ?_) (fun _ H => ?_)
    · refine r_lconst (v := 1) K dX1_set_36 (by decide) ?_
      exact r_sub [1, 2, 3, 0] rfl (t_X1_set_37 K hl H D)
    · refine r_ldc2 K (-1) mc_RX1_27 dX1_set_30 ?_
      refine r_goto K 37 dX1_set_33 (by decide) ?_
      exact r_sub [1, 2, 3, 0] rfl (t_X1_set_37 K hl H D)
  · refine r_aload_n K 0 dX1_set_6 rfl rfl ?_
    refine r_lconst (v := 0) K dX1_set_7 (by decide) ?_
    refine w_put K vc1 inX1 tyX1_ok nmX1 0 (by decide) mF_RX1_7 rfl (fun _ => rfl) (fun _ => rfl) dX1_set_8 H (fun μ2 H => ?_)
    refine r_aload_n K 0 dX1_set_11 rfl rfl ?_
    refine r_lconst (v := 1) K dX1_set_12 (by decide) ?_
    refine w_put K vc1 inX1 tyX1_ok nmX1 1 (by decide) mF_RX1_13 rfl (fun _ => rfl) (fun _ => rfl) dX1_set_13 H (fun μ3 H => ?_)
    cases H
    subst D
    exact r_vret K dX1_set_16
theorem c_X1_set (l : Launch) {n : Nat} {Y : jY} {v0 : Nat} {v1 : Int64} {v3 : Int64} {μ : jM} {z : jM} (H : f_X1_set Y v0 v1 v3 μ = some z) : jC l yX1_set cX1_set 9 none 2 0 0 [.ref v0, .long v1, .long v3] n Y μ n Y none z := by
  refine jC_of (by decide +kernel) (Nat.le_of_ble_eq_true rfl) (fun X hl K _ _ _ => ?_)
  exact t_X1_set_0 K hl H rfl
/-! RX1 multiply(JJ)V -/
def f_X1_multiply_ (Y : jY) (v0 : Nat) (v1 : Int64) (v3 : Int64) (μ : jM) : Option (jM) :=
  (jgL Y μ v0 1 0).bind fun x1 =>
  (f_X1_commonDivisor Y x1 v3 μ).bind fun r2 =>
  (jgL Y r2.2 v0 1 1).bind fun x3 =>
  (f_X1_commonDivisor Y v1 x3 r2.2).bind fun r4 =>
  (jgL Y r4.2 v0 1 0).bind fun x5 =>
  (jdivL x5 r2.1).bind fun x6 =>
  (jdivL v1 r4.1).bind fun x7 =>
  (jgL Y r4.2 v0 1 1).bind fun x8 =>
  (jdivL x8 r4.1).bind fun x9 =>
  (jdivL v3 r2.1).bind fun x10 =>
  (jrcv Y v0 1 (f_X1_set Y v0 ((x6 * x7)) ((x9 * x10)) r4.2)).bind fun μ11 =>
  some μ11
set_option maxRecDepth 10000 in
theorem t_X1_multiply__0 {X : jX} {l : Launch} {n : Nat} {Y : jY} (K : jOK X RX1 cX1_multiply_ 9 none 3) (hl : X.2.1 = l) {μr : jM} {v0 : Nat} {v1 : Int64} {v3 : Int64} {μ : jM} {z : (jM)} (H : f_X1_multiply_ Y v0 v1 v3 μ = some z) (D : z = μr) : JW X (jEnd X n Y none μr 0 0) 0 0 n Y 0 [(0, .ref v0), (1, .long v1), (3, .long v3)] [] μ := by
  unfold f_X1_multiply_ at H
  refine r_aload_n K 0 dX1_multiply__0 rfl rfl ?_
  refine w_getL K vc1 inX1 0 (by decide) mF_RX1_7 dX1_multiply__1 H (fun x1 H => ?_)
  refine r_lload_n K 2 dX1_multiply__4 rfl rfl ?_
  refine w_callS K hl H (fun r h => c_X1_commonDivisor l h) mC_yX1_commonDivisor mM_RX1_23 mT_yX1_commonDivisor mZ_RX1 (Nat.le_of_ble_eq_true rfl) (Nat.le_of_ble_eq_true rfl) np_yX1_commonDivisor rfl (Nat.le_of_ble_eq_true rfl) dX1_multiply__5 (fun r2 H => ?_) ⟨Nat.zero_le _, Nat.zero_le _⟩
  refine r_lstore K [(5, .long _), (0, .ref _), (1, .long _), (3, .long _)] dX1_multiply__8 (by decide) rfl ?_
  refine r_lload_n K 2 dX1_multiply__10 rfl rfl ?_
  refine r_aload_n K 1 dX1_multiply__11 rfl rfl ?_
  refine w_getL K vc1 inX1 1 (by decide) mF_RX1_13 dX1_multiply__12 H (fun x3 H => ?_)
  refine w_callS K hl H (fun r h => c_X1_commonDivisor l h) mC_yX1_commonDivisor mM_RX1_23 mT_yX1_commonDivisor mZ_RX1 (Nat.le_of_ble_eq_true rfl) (Nat.le_of_ble_eq_true rfl) np_yX1_commonDivisor rfl (Nat.le_of_ble_eq_true rfl) dX1_multiply__15 (fun r4 H => ?_) ⟨Nat.zero_le _, Nat.zero_le _⟩
  refine r_lstore K [(7, .long _), (5, .long _), (0, .ref _), (1, .long _), (3, .long _)] dX1_multiply__18 (by decide) rfl ?_
  refine r_aload_n K 2 dX1_multiply__20 rfl rfl ?_
  refine r_aload_n K 2 dX1_multiply__21 rfl rfl ?_
  refine w_getL K vc1 inX1 0 (by decide) mF_RX1_7 dX1_multiply__22 H (fun x5 H => ?_)
  refine r_lload K 1 dX1_multiply__25 rfl ?_
  refine w_ldiv K dX1_multiply__27 H (fun x6 H => ?_)
  refine r_lload_n K 3 dX1_multiply__28 rfl rfl ?_
  refine r_lload K 0 dX1_multiply__29 rfl ?_
  refine w_ldiv K dX1_multiply__31 H (fun x7 H => ?_)
  refine r_lmul K dX1_multiply__32 ?_
  refine r_aload_n K 2 dX1_multiply__33 rfl rfl ?_
  refine w_getL K vc1 inX1 1 (by decide) mF_RX1_13 dX1_multiply__34 H (fun x8 H => ?_)
  refine r_lload K 0 dX1_multiply__37 rfl ?_
  refine w_ldiv K dX1_multiply__39 H (fun x9 H => ?_)
  refine r_lload_n K 4 dX1_multiply__40 rfl rfl ?_
  refine r_lload K 1 dX1_multiply__41 rfl ?_
  refine w_ldiv K dX1_multiply__43 H (fun x10 H => ?_)
  refine r_lmul K dX1_multiply__44 ?_
  refine w_callV K hl H (fun r h => c_X1_set l h) mC_yX1_set mM_RX1_36 mI_yX1_set mS_yX1_set mZ_RX1 vc1 (Nat.le_of_ble_eq_true rfl) (Nat.le_of_ble_eq_true rfl) np_yX1_set rfl (Nat.le_of_ble_eq_true rfl) dX1_multiply__45 (fun μ11 H => ?_) ⟨Nat.zero_le _, Nat.zero_le _⟩
  cases H
  subst D
  exact r_vret K dX1_multiply__48
theorem c_X1_multiply_ (l : Launch) {n : Nat} {Y : jY} {v0 : Nat} {v1 : Int64} {v3 : Int64} {μ : jM} {z : jM} (H : f_X1_multiply_ Y v0 v1 v3 μ = some z) : jC l yX1_multiply_ cX1_multiply_ 9 none 3 0 0 [.ref v0, .long v1, .long v3] n Y μ n Y none z := by
  refine jC_of (by decide +kernel) (Nat.le_of_ble_eq_true rfl) (fun X hl K _ _ _ => ?_)
  exact t_X1_multiply__0 K hl H rfl
/-! RX1 divide(LChainTables$Fraction;)V -/
def f_X1_divide (Y : jY) (v0 : Nat) (v1 : Nat) (μ : jM) : Option (jM) :=
  (jgL Y μ v1 1 1).bind fun x1 =>
  (jgL Y μ v1 1 0).bind fun x2 =>
  (jrcv Y v0 1 (f_X1_multiply_ Y v0 x1 x2 μ)).bind fun μ3 =>
  some μ3
set_option maxRecDepth 10000 in
theorem t_X1_divide_0 {X : jX} {l : Launch} {n : Nat} {Y : jY} (K : jOK X RX1 cX1_divide 2 none 4) (hl : X.2.1 = l) {μr : jM} {v0 : Nat} {v1 : Nat} {μ : jM} {z : (jM)} (H : f_X1_divide Y v0 v1 μ = some z) (D : z = μr) : JW X (jEnd X n Y none μr 0 0) 0 0 n Y 0 [(0, .ref v0), (1, .ref v1)] [] μ := by
  unfold f_X1_divide at H
  refine r_aload_n K 0 dX1_divide_0 rfl rfl ?_
  refine r_aload_n K 1 dX1_divide_1 rfl rfl ?_
  refine w_getL K vc1 inX1 1 (by decide) mF_RX1_13 dX1_divide_2 H (fun x1 H => ?_)
  refine r_aload_n K 1 dX1_divide_5 rfl rfl ?_
  refine w_getL K vc1 inX1 0 (by decide) mF_RX1_7 dX1_divide_6 H (fun x2 H => ?_)
  refine w_callV K hl H (fun r h => c_X1_multiply_ l h) mC_yX1_multiply_ mM_RX1_33 mI_yX1_multiply_ mS_yX1_multiply_ mZ_RX1 vc1 (Nat.le_of_ble_eq_true rfl) (Nat.le_of_ble_eq_true rfl) np_yX1_multiply_ rfl (Nat.le_of_ble_eq_true rfl) dX1_divide_9 (fun μ3 H => ?_) ⟨Nat.zero_le _, Nat.zero_le _⟩
  cases H
  subst D
  exact r_vret K dX1_divide_12
theorem c_X1_divide (l : Launch) {n : Nat} {Y : jY} {v0 : Nat} {v1 : Nat} {μ : jM} {z : jM} (H : f_X1_divide Y v0 v1 μ = some z) : jC l yX1_divide cX1_divide 2 none 4 0 0 [.ref v0, .ref v1] n Y μ n Y none z := by
  refine jC_of (by decide +kernel) (Nat.le_of_ble_eq_true rfl) (fun X hl K _ _ _ => ?_)
  exact t_X1_divide_0 K hl H rfl
/-! RX1 copy(LChainTables$Fraction;)V -/
def f_X1_copy (Y : jY) (v0 : Nat) (v1 : Nat) (μ : jM) : Option (jM) :=
  (jgL Y μ v1 1 0).bind fun x1 =>
  (jput Y μ v0 1 0 (.long x1)).bind fun μ2 =>
  (jgL Y μ2 v1 1 1).bind fun x3 =>
  (jput Y μ2 v0 1 1 (.long x3)).bind fun μ4 =>
  some μ4
set_option maxRecDepth 10000 in
theorem t_X1_copy_0 {X : jX} {l : Launch} {n : Nat} {Y : jY} (K : jOK X RX1 cX1_copy 2 none 1) (hl : X.2.1 = l) {μr : jM} {v0 : Nat} {v1 : Nat} {μ : jM} {z : (jM)} (H : f_X1_copy Y v0 v1 μ = some z) (D : z = μr) : JW X (jEnd X n Y none μr 0 0) 0 0 n Y 0 [(0, .ref v0), (1, .ref v1)] [] μ := by
  unfold f_X1_copy at H
  refine r_aload_n K 0 dX1_copy_0 rfl rfl ?_
  refine r_aload_n K 1 dX1_copy_1 rfl rfl ?_
  refine w_getL K vc1 inX1 0 (by decide) mF_RX1_7 dX1_copy_2 H (fun x1 H => ?_)
  refine w_put K vc1 inX1 tyX1_ok nmX1 0 (by decide) mF_RX1_7 rfl (fun _ => rfl) (fun _ => rfl) dX1_copy_5 H (fun μ2 H => ?_)
  refine r_aload_n K 0 dX1_copy_8 rfl rfl ?_
  refine r_aload_n K 1 dX1_copy_9 rfl rfl ?_
  refine w_getL K vc1 inX1 1 (by decide) mF_RX1_13 dX1_copy_10 H (fun x3 H => ?_)
  refine w_put K vc1 inX1 tyX1_ok nmX1 1 (by decide) mF_RX1_13 rfl (fun _ => rfl) (fun _ => rfl) dX1_copy_13 H (fun μ4 H => ?_)
  cases H
  subst D
  exact r_vret K dX1_copy_16
theorem c_X1_copy (l : Launch) {n : Nat} {Y : jY} {v0 : Nat} {v1 : Nat} {μ : jM} {z : jM} (H : f_X1_copy Y v0 v1 μ = some z) : jC l yX1_copy cX1_copy 2 none 1 0 0 [.ref v0, .ref v1] n Y μ n Y none z := by
  refine jC_of (by decide +kernel) (Nat.le_of_ble_eq_true rfl) (fun X hl K _ _ _ => ?_)
  exact t_X1_copy_0 K hl H rfl
/-! RX1 add(JJ)V -/
def f_X1_add_ (Y : jY) (v0 : Nat) (v1 : Int64) (v3 : Int64) (μ : jM) : Option (jM) :=
  (jgL Y μ v0 1 1).bind fun x1 =>
  (f_X1_commonDivisor Y x1 v3 μ).bind fun r2 =>
  (jgL Y r2.2 v0 1 0).bind fun x3 =>
  (jdivL v3 r2.1).bind fun x4 =>
  (jgL Y r2.2 v0 1 1).bind fun x5 =>
  (jdivL x5 r2.1).bind fun x6 =>
  (jgL Y r2.2 v0 1 1).bind fun x7 =>
  (jdivL x7 r2.1).bind fun x8 =>
  (jrcv Y v0 1 (f_X1_set Y v0 ((((x3 * x4)) + ((v1 * x6)))) ((x8 * v3)) r2.2)).bind fun μ9 =>
  some μ9
set_option maxRecDepth 10000 in
theorem t_X1_add__0 {X : jX} {l : Launch} {n : Nat} {Y : jY} (K : jOK X RX1 cX1_add_ 7 none 3) (hl : X.2.1 = l) {μr : jM} {v0 : Nat} {v1 : Int64} {v3 : Int64} {μ : jM} {z : (jM)} (H : f_X1_add_ Y v0 v1 v3 μ = some z) (D : z = μr) : JW X (jEnd X n Y none μr 0 0) 0 0 n Y 0 [(0, .ref v0), (1, .long v1), (3, .long v3)] [] μ := by
  unfold f_X1_add_ at H
  refine r_aload_n K 0 dX1_add__0 rfl rfl ?_
  refine w_getL K vc1 inX1 1 (by decide) mF_RX1_13 dX1_add__1 H (fun x1 H => ?_)
  refine r_lload_n K 2 dX1_add__4 rfl rfl ?_
  refine w_callS K hl H (fun r h => c_X1_commonDivisor l h) mC_yX1_commonDivisor mM_RX1_23 mT_yX1_commonDivisor mZ_RX1 (Nat.le_of_ble_eq_true rfl) (Nat.le_of_ble_eq_true rfl) np_yX1_commonDivisor rfl (Nat.le_of_ble_eq_true rfl) dX1_add__5 (fun r2 H => ?_) ⟨Nat.zero_le _, Nat.zero_le _⟩
  refine r_lstore K [(5, .long _), (0, .ref _), (1, .long _), (3, .long _)] dX1_add__8 (by decide) rfl ?_
  refine r_aload_n K 1 dX1_add__10 rfl rfl ?_
  refine r_aload_n K 1 dX1_add__11 rfl rfl ?_
  refine w_getL K vc1 inX1 0 (by decide) mF_RX1_7 dX1_add__12 H (fun x3 H => ?_)
  refine r_lload_n K 3 dX1_add__15 rfl rfl ?_
  refine r_lload K 0 dX1_add__16 rfl ?_
  refine w_ldiv K dX1_add__18 H (fun x4 H => ?_)
  refine r_lmul K dX1_add__19 ?_
  refine r_lload_n K 2 dX1_add__20 rfl rfl ?_
  refine r_aload_n K 1 dX1_add__21 rfl rfl ?_
  refine w_getL K vc1 inX1 1 (by decide) mF_RX1_13 dX1_add__22 H (fun x5 H => ?_)
  refine r_lload K 0 dX1_add__25 rfl ?_
  refine w_ldiv K dX1_add__27 H (fun x6 H => ?_)
  refine r_lmul K dX1_add__28 ?_
  refine r_ladd K dX1_add__29 ?_
  refine r_aload_n K 1 dX1_add__30 rfl rfl ?_
  refine w_getL K vc1 inX1 1 (by decide) mF_RX1_13 dX1_add__31 H (fun x7 H => ?_)
  refine r_lload K 0 dX1_add__34 rfl ?_
  refine w_ldiv K dX1_add__36 H (fun x8 H => ?_)
  refine r_lload_n K 3 dX1_add__37 rfl rfl ?_
  refine r_lmul K dX1_add__38 ?_
  refine w_callV K hl H (fun r h => c_X1_set l h) mC_yX1_set mM_RX1_36 mI_yX1_set mS_yX1_set mZ_RX1 vc1 (Nat.le_of_ble_eq_true rfl) (Nat.le_of_ble_eq_true rfl) np_yX1_set rfl (Nat.le_of_ble_eq_true rfl) dX1_add__39 (fun μ9 H => ?_) ⟨Nat.zero_le _, Nat.zero_le _⟩
  cases H
  subst D
  exact r_vret K dX1_add__42
theorem c_X1_add_ (l : Launch) {n : Nat} {Y : jY} {v0 : Nat} {v1 : Int64} {v3 : Int64} {μ : jM} {z : jM} (H : f_X1_add_ Y v0 v1 v3 μ = some z) : jC l yX1_add_ cX1_add_ 7 none 3 0 0 [.ref v0, .long v1, .long v3] n Y μ n Y none z := by
  refine jC_of (by decide +kernel) (Nat.le_of_ble_eq_true rfl) (fun X hl K _ _ _ => ?_)
  exact t_X1_add__0 K hl H rfl
/-! RX1 subtract(LChainTables$Fraction;)V -/
def f_X1_subtract (Y : jY) (v0 : Nat) (v1 : Nat) (μ : jM) : Option (jM) :=
  (jgL Y μ v1 1 0).bind fun x1 =>
  (jgL Y μ v1 1 1).bind fun x2 =>
  (jrcv Y v0 1 (f_X1_add_ Y v0 ((-x1)) x2 μ)).bind fun μ3 =>
  some μ3
set_option maxRecDepth 10000 in
theorem t_X1_subtract_0 {X : jX} {l : Launch} {n : Nat} {Y : jY} (K : jOK X RX1 cX1_subtract 2 none 4) (hl : X.2.1 = l) {μr : jM} {v0 : Nat} {v1 : Nat} {μ : jM} {z : (jM)} (H : f_X1_subtract Y v0 v1 μ = some z) (D : z = μr) : JW X (jEnd X n Y none μr 0 0) 0 0 n Y 0 [(0, .ref v0), (1, .ref v1)] [] μ := by
  unfold f_X1_subtract at H
  refine r_aload_n K 0 dX1_subtract_0 rfl rfl ?_
  refine r_aload_n K 1 dX1_subtract_1 rfl rfl ?_
  refine w_getL K vc1 inX1 0 (by decide) mF_RX1_7 dX1_subtract_2 H (fun x1 H => ?_)
  refine r_lneg K dX1_subtract_5 ?_
  refine r_aload_n K 1 dX1_subtract_6 rfl rfl ?_
  refine w_getL K vc1 inX1 1 (by decide) mF_RX1_13 dX1_subtract_7 H (fun x2 H => ?_)
  refine w_callV K hl H (fun r h => c_X1_add_ l h) mC_yX1_add_ mM_RX1_29 mI_yX1_add_ mS_yX1_add_ mZ_RX1 vc1 (Nat.le_of_ble_eq_true rfl) (Nat.le_of_ble_eq_true rfl) np_yX1_add_ rfl (Nat.le_of_ble_eq_true rfl) dX1_subtract_10 (fun μ3 H => ?_) ⟨Nat.zero_le _, Nat.zero_le _⟩
  cases H
  subst D
  exact r_vret K dX1_subtract_13
theorem c_X1_subtract (l : Launch) {n : Nat} {Y : jY} {v0 : Nat} {v1 : Nat} {μ : jM} {z : jM} (H : f_X1_subtract Y v0 v1 μ = some z) : jC l yX1_subtract cX1_subtract 2 none 4 0 0 [.ref v0, .ref v1] n Y μ n Y none z := by
  refine jC_of (by decide +kernel) (Nat.le_of_ble_eq_true rfl) (fun X hl K _ _ _ => ?_)
  exact t_X1_subtract_0 K hl H rfl
/-! RX1 add(LChainTables$Fraction;)V -/
def f_X1_add (Y : jY) (v0 : Nat) (v1 : Nat) (μ : jM) : Option (jM) :=
  (jgL Y μ v1 1 0).bind fun x1 =>
  (jgL Y μ v1 1 1).bind fun x2 =>
  (jrcv Y v0 1 (f_X1_add_ Y v0 x1 x2 μ)).bind fun μ3 =>
  some μ3
set_option maxRecDepth 10000 in
theorem t_X1_add_0 {X : jX} {l : Launch} {n : Nat} {Y : jY} (K : jOK X RX1 cX1_add 2 none 4) (hl : X.2.1 = l) {μr : jM} {v0 : Nat} {v1 : Nat} {μ : jM} {z : (jM)} (H : f_X1_add Y v0 v1 μ = some z) (D : z = μr) : JW X (jEnd X n Y none μr 0 0) 0 0 n Y 0 [(0, .ref v0), (1, .ref v1)] [] μ := by
  unfold f_X1_add at H
  refine r_aload_n K 0 dX1_add_0 rfl rfl ?_
  refine r_aload_n K 1 dX1_add_1 rfl rfl ?_
  refine w_getL K vc1 inX1 0 (by decide) mF_RX1_7 dX1_add_2 H (fun x1 H => ?_)
  refine r_aload_n K 1 dX1_add_5 rfl rfl ?_
  refine w_getL K vc1 inX1 1 (by decide) mF_RX1_13 dX1_add_6 H (fun x2 H => ?_)
  refine w_callV K hl H (fun r h => c_X1_add_ l h) mC_yX1_add_ mM_RX1_29 mI_yX1_add_ mS_yX1_add_ mZ_RX1 vc1 (Nat.le_of_ble_eq_true rfl) (Nat.le_of_ble_eq_true rfl) np_yX1_add_ rfl (Nat.le_of_ble_eq_true rfl) dX1_add_9 (fun μ3 H => ?_) ⟨Nat.zero_le _, Nat.zero_le _⟩
  cases H
  subst D
  exact r_vret K dX1_add_12
theorem c_X1_add (l : Launch) {n : Nat} {Y : jY} {v0 : Nat} {v1 : Nat} {μ : jM} {z : jM} (H : f_X1_add Y v0 v1 μ = some z) : jC l yX1_add cX1_add 2 none 4 0 0 [.ref v0, .ref v1] n Y μ n Y none z := by
  refine jC_of (by decide +kernel) (Nat.le_of_ble_eq_true rfl) (fun X hl K _ _ _ => ?_)
  exact t_X1_add_0 K hl H rfl
/-! RX1 isZero()Z -/
def b_X1_isZero_14 (Y : jY) (t0 : Int32) (μ : jM) : Option (Int32 × jM) :=
  (jbool t0).bind fun x1 =>
  some (x1, μ)
def f_X1_isZero (Y : jY) (v0 : Nat) (μ : jM) : Option (Int32 × jM) :=
  (jgL Y μ v0 1 0).bind fun x1 =>
  if ((lg_cmp x1 ((0 : Int64)))) = 0 then
    b_X1_isZero_14 Y (1 : Int32) μ
  else
    b_X1_isZero_14 Y (0 : Int32) μ
set_option maxRecDepth 10000 in
theorem t_X1_isZero_14 {X : jX} {l : Launch} {n : Nat} {Y : jY} (K : jOK X RX1 cX1_isZero 1 (some .boolean) 1) (hl : X.2.1 = l) {rr : Int32} {μr : jM} {t0 : Int32} {μ : jM} {z : (Int32 × jM)} (H : b_X1_isZero_14 Y t0 μ = some z) (D : z = (rr, μr)) : JW X (jEnd X n Y (some (.int rr)) μr 0 0) 0 0 n Y 14 [] [.int t0] μ := by
  unfold b_X1_isZero_14 at H
  refine w_zret K dX1_isZero_14 H (fun hz H => ?_)
  cases H
  obtain ⟨rfl, rfl⟩ := jfin2 D
  exact r_zret K hz dX1_isZero_14
set_option maxRecDepth 10000 in
theorem t_X1_isZero_0 {X : jX} {l : Launch} {n : Nat} {Y : jY} (K : jOK X RX1 cX1_isZero 1 (some .boolean) 1) (hl : X.2.1 = l) {rr : Int32} {μr : jM} {v0 : Nat} {μ : jM} {z : (Int32 × jM)} (H : f_X1_isZero Y v0 μ = some z) (D : z = (rr, μr)) : JW X (jEnd X n Y (some (.int rr)) μr 0 0) 0 0 n Y 0 [(0, .ref v0)] [] μ := by
  unfold f_X1_isZero at H
  refine r_aload_n K 0 dX1_isZero_0 rfl rfl ?_
  refine w_getL K vc1 inX1 0 (by decide) mF_RX1_7 dX1_isZero_1 H (fun x1 H => ?_)
  refine r_lconst (v := 0) K dX1_isZero_4 (by decide) ?_
  refine r_lcmp K dX1_isZero_5 ?_
  refine w_if_ne K 13 dX1_isZero_6 (by decide) H (fun _ H => ?_) (fun _ H => ?_)
  · refine r_iconst (v := 0) K dX1_isZero_13 (by decide) ?_
    exact r_sub [] rfl (t_X1_isZero_14 K hl H D)
  · refine r_iconst (v := 1) K dX1_isZero_9 (by decide) ?_
    refine r_goto K 14 dX1_isZero_10 (by decide) ?_
    exact r_sub [] rfl (t_X1_isZero_14 K hl H D)
theorem c_X1_isZero (l : Launch) {n : Nat} {Y : jY} {v0 : Nat} {μ : jM} {z : Int32 × jM} (H : f_X1_isZero Y v0 μ = some z) : jC l yX1_isZero cX1_isZero 1 (some .boolean) 1 0 0 [.ref v0] n Y μ n Y (some (.int z.1)) z.2 := by
  refine jC_of (by decide +kernel) (Nat.le_of_ble_eq_true rfl) (fun X hl K _ _ _ => ?_)
  obtain ⟨rr, μr⟩ := z
  exact t_X1_isZero_0 K hl H rfl
/-! RX1 multiply(LChainTables$Fraction;)V -/
def f_X1_multiply (Y : jY) (v0 : Nat) (v1 : Nat) (μ : jM) : Option (jM) :=
  (jgL Y μ v1 1 0).bind fun x1 =>
  (jgL Y μ v1 1 1).bind fun x2 =>
  (jrcv Y v0 1 (f_X1_multiply_ Y v0 x1 x2 μ)).bind fun μ3 =>
  some μ3
set_option maxRecDepth 10000 in
theorem t_X1_multiply_0 {X : jX} {l : Launch} {n : Nat} {Y : jY} (K : jOK X RX1 cX1_multiply 2 none 4) (hl : X.2.1 = l) {μr : jM} {v0 : Nat} {v1 : Nat} {μ : jM} {z : (jM)} (H : f_X1_multiply Y v0 v1 μ = some z) (D : z = μr) : JW X (jEnd X n Y none μr 0 0) 0 0 n Y 0 [(0, .ref v0), (1, .ref v1)] [] μ := by
  unfold f_X1_multiply at H
  refine r_aload_n K 0 dX1_multiply_0 rfl rfl ?_
  refine r_aload_n K 1 dX1_multiply_1 rfl rfl ?_
  refine w_getL K vc1 inX1 0 (by decide) mF_RX1_7 dX1_multiply_2 H (fun x1 H => ?_)
  refine r_aload_n K 1 dX1_multiply_5 rfl rfl ?_
  refine w_getL K vc1 inX1 1 (by decide) mF_RX1_13 dX1_multiply_6 H (fun x2 H => ?_)
  refine w_callV K hl H (fun r h => c_X1_multiply_ l h) mC_yX1_multiply_ mM_RX1_33 mI_yX1_multiply_ mS_yX1_multiply_ mZ_RX1 vc1 (Nat.le_of_ble_eq_true rfl) (Nat.le_of_ble_eq_true rfl) np_yX1_multiply_ rfl (Nat.le_of_ble_eq_true rfl) dX1_multiply_9 (fun μ3 H => ?_) ⟨Nat.zero_le _, Nat.zero_le _⟩
  cases H
  subst D
  exact r_vret K dX1_multiply_12
theorem c_X1_multiply (l : Launch) {n : Nat} {Y : jY} {v0 : Nat} {v1 : Nat} {μ : jM} {z : jM} (H : f_X1_multiply Y v0 v1 μ = some z) : jC l yX1_multiply cX1_multiply 2 none 4 0 0 [.ref v0, .ref v1] n Y μ n Y none z := by
  refine jC_of (by decide +kernel) (Nat.le_of_ble_eq_true rfl) (fun X hl K _ _ _ => ?_)
  exact t_X1_multiply_0 K hl H rfl
/-! RX1 part(I)J -/
def b_X1_part_15 (Y : jY) (t0 : Int64) (μ : jM) : Option (Int64 × jM) :=
  some (t0, μ)
def f_X1_part (Y : jY) (v0 : Nat) (v1 : Int32) (μ : jM) : Option (Int64 × jM) :=
  if v1 = 0 then
    (jgL Y μ v0 1 0).bind fun x2 =>
    b_X1_part_15 Y x2 μ
  else
    (jgL Y μ v0 1 1).bind fun x1 =>
    b_X1_part_15 Y x1 μ
set_option maxRecDepth 10000 in
theorem t_X1_part_15 {X : jX} {l : Launch} {n : Nat} {Y : jY} (K : jOK X RX1 cX1_part 2 (some .long) 1) (hl : X.2.1 = l) {rr : Int64} {μr : jM} {t0 : Int64} {μ : jM} {z : (Int64 × jM)} (H : b_X1_part_15 Y t0 μ = some z) (D : z = (rr, μr)) : JW X (jEnd X n Y (some (.long rr)) μr 0 0) 0 0 n Y 15 [] [.long t0] μ := by
  unfold b_X1_part_15 at H
  cases H
  obtain ⟨rfl, rfl⟩ := jfin2 D
  exact r_lret K dX1_part_15
set_option maxRecDepth 10000 in
theorem t_X1_part_0 {X : jX} {l : Launch} {n : Nat} {Y : jY} (K : jOK X RX1 cX1_part 2 (some .long) 1) (hl : X.2.1 = l) {rr : Int64} {μr : jM} {v0 : Nat} {v1 : Int32} {μ : jM} {z : (Int64 × jM)} (H : f_X1_part Y v0 v1 μ = some z) (D : z = (rr, μr)) : JW X (jEnd X n Y (some (.long rr)) μr 0 0) 0 0 n Y 0 [(0, .ref v0), (1, .int v1)] [] μ := by
  unfold f_X1_part at H
  refine r_iload_n K 1 dX1_part_0 rfl rfl ?_
  refine w_if_ne K 11 dX1_part_1 (by decide) H (fun _ H => ?_) (fun _ H => ?_)
  · refine r_aload_n K 0 dX1_part_11 rfl rfl ?_
    refine w_getL K vc1 inX1 1 (by decide) mF_RX1_13 dX1_part_12 H (fun x1 H => ?_)
    exact r_sub [] rfl (t_X1_part_15 K hl H D)
  · refine r_aload_n K 0 dX1_part_4 rfl rfl ?_
    refine w_getL K vc1 inX1 0 (by decide) mF_RX1_7 dX1_part_5 H (fun x2 H => ?_)
    refine r_goto K 15 dX1_part_8 (by decide) ?_
    exact r_sub [] rfl (t_X1_part_15 K hl H D)
theorem c_X1_part (l : Launch) {n : Nat} {Y : jY} {v0 : Nat} {v1 : Int32} {μ : jM} {z : Int64 × jM} (H : f_X1_part Y v0 v1 μ = some z) : jC l yX1_part cX1_part 2 (some .long) 1 0 0 [.ref v0, .int v1] n Y μ n Y (some (.long z.1)) z.2 := by
  refine jC_of (by decide +kernel) (Nat.le_of_ble_eq_true rfl) (fun X hl K _ _ _ => ?_)
  obtain ⟨rr, μr⟩ := z
  exact t_X1_part_0 K hl H rfl
/-! RX2 addByte(I)V -/
def b_X2_addByte_32 (Y : jY) (μ : jM) : Option (jM) :=
  some μ
def f_X2_addByte (Y : jY) (v0 : Nat) (v1 : Int32) (μ : jM) : Option (jM) :=
  (jgI Y μ v0 2 1).bind fun x1 =>
  (jgO Y μ v0 2 0).bind fun x2 =>
  (jlen Y x2 20).bind fun x3 =>
  if x3 ≤ x1 then
    b_X2_addByte_32 Y μ
  else
    (jgO Y μ v0 2 0).bind fun x4 =>
    (jgI Y μ v0 2 1).bind fun x5 =>
    (jas Y μ x4 20 x5 (.int v1)).bind fun μ6 =>
    (jgI Y μ6 v0 2 1).bind fun x7 =>
    (jput Y μ6 v0 2 1 (.int ((x7 + ((1 : Int32)))))).bind fun μ8 =>
    b_X2_addByte_32 Y μ8
set_option maxRecDepth 10000 in
theorem t_X2_addByte_32 {X : jX} {l : Launch} {n : Nat} {Y : jY} (K : jOK X RX2 cX2_addByte 2 none 1) (hl : X.2.1 = l) {μr : jM} {μ : jM} {z : (jM)} (H : b_X2_addByte_32 Y μ = some z) (D : z = μr) : JW X (jEnd X n Y none μr 0 0) 0 0 n Y 32 [] [] μ := by
  unfold b_X2_addByte_32 at H
  cases H
  subst D
  exact r_vret K dX2_addByte_32
set_option maxRecDepth 10000 in
theorem t_X2_addByte_0 {X : jX} {l : Launch} {n : Nat} {Y : jY} (K : jOK X RX2 cX2_addByte 2 none 1) (hl : X.2.1 = l) {μr : jM} {v0 : Nat} {v1 : Int32} {μ : jM} {z : (jM)} (H : f_X2_addByte Y v0 v1 μ = some z) (D : z = μr) : JW X (jEnd X n Y none μr 0 0) 0 0 n Y 0 [(0, .ref v0), (1, .int v1)] [] μ := by
  unfold f_X2_addByte at H
  refine r_aload_n K 0 dX2_addByte_0 rfl rfl ?_
  refine w_getI K vc2 inX2 1 (by decide) mF_RX2_15 dX2_addByte_1 H (fun x1 H => ?_)
  refine r_aload_n K 0 dX2_addByte_4 rfl rfl ?_
  refine w_getO K vc2 inX2 0 (by decide) mF_RX2_9 dX2_addByte_5 H (fun x2 H => ?_)
  refine w_alen K 20 rfl dX2_addByte_8 H (fun x3 H => ?_)
  refine w_icmp_ge K 32 dX2_addByte_9 (by decide) H (fun _ H => ?_) (fun _ H => ?_)
  · exact r_sub [] rfl (t_X2_addByte_32 K hl H D)
  · refine r_aload_n K 0 dX2_addByte_12 rfl rfl ?_
    refine w_getO K vc2 inX2 0 (by decide) mF_RX2_9 dX2_addByte_13 H (fun x4 H => ?_)
    refine r_aload_n K 0 dX2_addByte_16 rfl rfl ?_
    refine w_getI K vc2 inX2 1 (by decide) mF_RX2_15 dX2_addByte_17 H (fun x5 H => ?_)
    refine r_iload_n K 1 dX2_addByte_20 rfl rfl ?_
    refine w_iast K dX2_addByte_21 H (fun μ6 H => ?_)
    refine r_aload_n K 0 dX2_addByte_22 rfl rfl ?_
    refine r_dup K dX2_addByte_23 rfl ?_
    refine w_getI K vc2 inX2 1 (by decide) mF_RX2_15 dX2_addByte_24 H (fun x7 H => ?_)
    refine r_iconst (v := 1) K dX2_addByte_27 (by decide) ?_
    refine r_iadd K dX2_addByte_28 ?_
    refine w_put K vc2 inX2 tyX2_ok nmX2 1 (by decide) mF_RX2_15 rfl (fun _ => rfl) (fun _ => rfl) dX2_addByte_29 H (fun μ8 H => ?_)
    exact r_sub [] rfl (t_X2_addByte_32 K hl H D)
theorem c_X2_addByte (l : Launch) {n : Nat} {Y : jY} {v0 : Nat} {v1 : Int32} {μ : jM} {z : jM} (H : f_X2_addByte Y v0 v1 μ = some z) : jC l yX2_addByte cX2_addByte 2 none 1 0 0 [.ref v0, .int v1] n Y μ n Y none z := by
  refine jC_of (by decide +kernel) (Nat.le_of_ble_eq_true rfl) (fun X hl K _ _ _ => ?_)
  exact t_X2_addByte_0 K hl H rfl
/-! RX2 addNumber(I)V -/
def b_X2_addNumber_35 (Y : jY) (v0 : Nat) (v2 : Int32) (μ : jM) : Option (jM) :=
  (jremI v2 ((10 : Int32))).bind fun x1 =>
  (jrcv Y v0 2 (f_X2_addByte Y v0 ((((48 : Int32)) + x1)) μ)).bind fun μ2 =>
  some μ2
def b_X2_addNumber_10 (Y : jY) (v0 : Nat) (v1 : Int32) (μ : jM) : Option (jM) :=
  if ((jabsI v1)) ≤ ((9 : Int32)) then
    b_X2_addNumber_35 Y v0 (jabsI v1) μ
  else
    (jdivI ((jabsI v1)) ((10 : Int32))).bind fun x1 =>
    (jremI x1 ((10 : Int32))).bind fun x2 =>
    (jrcv Y v0 2 (f_X2_addByte Y v0 ((((48 : Int32)) + x2)) μ)).bind fun μ3 =>
    b_X2_addNumber_35 Y v0 (jabsI v1) μ3
def f_X2_addNumber (Y : jY) (v0 : Nat) (v1 : Int32) (μ : jM) : Option (jM) :=
  if 0 ≤ v1 then
    b_X2_addNumber_10 Y v0 v1 μ
  else
    (jrcv Y v0 2 (f_X2_addByte Y v0 ((45 : Int32)) μ)).bind fun μ1 =>
    b_X2_addNumber_10 Y v0 v1 μ1
set_option maxRecDepth 10000 in
theorem t_X2_addNumber_35 {X : jX} {l : Launch} {n : Nat} {Y : jY} (K : jOK X RX2 cX2_addNumber 3 none 2) (hl : X.2.1 = l) {μr : jM} {v0 : Nat} {v2 : Int32} {μ : jM} {z : (jM)} (H : b_X2_addNumber_35 Y v0 v2 μ = some z) (D : z = μr) : JW X (jEnd X n Y none μr 0 0) 0 0 n Y 35 [(0, .ref v0), (2, .int v2)] [] μ := by
  unfold b_X2_addNumber_35 at H
  refine r_aload_n K 0 dX2_addNumber_35 rfl rfl ?_
  refine r_bipush (v := 48) K dX2_addNumber_36 (by decide) ?_
  refine r_iload_n K 1 dX2_addNumber_38 rfl rfl ?_
  refine r_bipush (v := 10) K dX2_addNumber_39 (by decide) ?_
  refine w_irem K dX2_addNumber_41 H (fun x1 H => ?_)
  refine r_iadd K dX2_addNumber_42 ?_
  refine w_callV K hl H (fun r h => c_X2_addByte l h) mC_yX2_addByte mM_RX2_25 mI_yX2_addByte mS_yX2_addByte mZ_RX2 vc2 (Nat.le_of_ble_eq_true rfl) (Nat.le_of_ble_eq_true rfl) np_yX2_addByte rfl (Nat.le_of_ble_eq_true rfl) dX2_addNumber_43 (fun μ2 H => ?_) ⟨Nat.zero_le _, Nat.zero_le _⟩
  cases H
  subst D
  exact r_vret K dX2_addNumber_46
set_option maxRecDepth 10000 in
theorem t_X2_addNumber_10 {X : jX} {l : Launch} {n : Nat} {Y : jY} (K : jOK X RX2 cX2_addNumber 3 none 2) (hl : X.2.1 = l) {μr : jM} {v0 : Nat} {v1 : Int32} {μ : jM} {z : (jM)} (H : b_X2_addNumber_10 Y v0 v1 μ = some z) (D : z = μr) : JW X (jEnd X n Y none μr 0 0) 0 0 n Y 10 [(0, .ref v0), (1, .int v1)] [] μ := by
  unfold b_X2_addNumber_10 at H
  refine r_iload_n K 1 dX2_addNumber_10 rfl rfl ?_
  refine r_mabs K mM_RX2_36 mT_absI mZ_Math mC_absI (Nat.le_of_ble_eq_true rfl) (Nat.le_of_ble_eq_true rfl) ⟨Nat.zero_le _, Nat.zero_le _⟩ dX2_addNumber_11 ?_
  refine r_istore_n K [(2, .int _), (0, .ref _), (1, .int _)] dX2_addNumber_14 rfl (by decide) rfl ?_
  refine r_iload_n K 0 dX2_addNumber_15 rfl rfl ?_
  refine r_bipush (v := 9) K dX2_addNumber_16 (by decide) ?_
  refine w_icmp_le K 35 dX2_addNumber_18 (by decide) H (fun _ H => ?_) (fun _ H => ?_)
  · exact r_sub [1, 0] rfl (t_X2_addNumber_35 K hl H D)
  · refine r_aload_n K 1 dX2_addNumber_21 rfl rfl ?_
    refine r_bipush (v := 48) K dX2_addNumber_22 (by decide) ?_
    refine r_iload_n K 0 dX2_addNumber_24 rfl rfl ?_
    refine r_bipush (v := 10) K dX2_addNumber_25 (by decide) ?_
    refine w_idiv K dX2_addNumber_27 H (fun x1 H => ?_)
    refine r_bipush (v := 10) K dX2_addNumber_28 (by decide) ?_
    refine w_irem K dX2_addNumber_30 H (fun x2 H => ?_)
    refine r_iadd K dX2_addNumber_31 ?_
    refine w_callV K hl H (fun r h => c_X2_addByte l h) mC_yX2_addByte mM_RX2_25 mI_yX2_addByte mS_yX2_addByte mZ_RX2 vc2 (Nat.le_of_ble_eq_true rfl) (Nat.le_of_ble_eq_true rfl) np_yX2_addByte rfl (Nat.le_of_ble_eq_true rfl) dX2_addNumber_32 (fun μ3 H => ?_) ⟨Nat.zero_le _, Nat.zero_le _⟩
    exact r_sub [1, 0] rfl (t_X2_addNumber_35 K hl H D)
set_option maxRecDepth 10000 in
theorem t_X2_addNumber_0 {X : jX} {l : Launch} {n : Nat} {Y : jY} (K : jOK X RX2 cX2_addNumber 3 none 2) (hl : X.2.1 = l) {μr : jM} {v0 : Nat} {v1 : Int32} {μ : jM} {z : (jM)} (H : f_X2_addNumber Y v0 v1 μ = some z) (D : z = μr) : JW X (jEnd X n Y none μr 0 0) 0 0 n Y 0 [(0, .ref v0), (1, .int v1)] [] μ := by
  unfold f_X2_addNumber at H
  refine r_iload_n K 1 dX2_addNumber_0 rfl rfl ?_
  refine w_if_ge K 10 dX2_addNumber_1 (by decide) H (fun _ H => ?_) (fun _ H => ?_)
  · exact r_sub [0, 1] rfl (t_X2_addNumber_10 K hl H D)
  · refine r_aload_n K 0 dX2_addNumber_4 rfl rfl ?_
    refine r_bipush (v := 45) K dX2_addNumber_5 (by decide) ?_
    refine w_callV K hl H (fun r h => c_X2_addByte l h) mC_yX2_addByte mM_RX2_25 mI_yX2_addByte mS_yX2_addByte mZ_RX2 vc2 (Nat.le_of_ble_eq_true rfl) (Nat.le_of_ble_eq_true rfl) np_yX2_addByte rfl (Nat.le_of_ble_eq_true rfl) dX2_addNumber_7 (fun μ1 H => ?_) ⟨Nat.zero_le _, Nat.zero_le _⟩
    exact r_sub [0, 1] rfl (t_X2_addNumber_10 K hl H D)
theorem c_X2_addNumber (l : Launch) {n : Nat} {Y : jY} {v0 : Nat} {v1 : Int32} {μ : jM} {z : jM} (H : f_X2_addNumber Y v0 v1 μ = some z) : jC l yX2_addNumber cX2_addNumber 3 none 2 0 0 [.ref v0, .int v1] n Y μ n Y none z := by
  refine jC_of (by decide +kernel) (Nat.le_of_ble_eq_true rfl) (fun X hl K _ _ _ => ?_)
  exact t_X2_addNumber_0 K hl H rfl
/-! RX2 addRow([II)V -/
def b_X2_addRow_36 (Y : jY) (μ : jM) : Option (jM) :=
  some μ
def b_X2_addRow_23 (Y : jY) (v0 : Nat) (v1 : Nat) (v2 : Int32) (v3 : Int32) (μ : jM) : Option ((Int32 × jM) ⊕ (jM)) :=
  (jaI Y μ v1 20 v3).bind fun x1 =>
  (jrcv Y v0 2 (f_X2_addNumber Y v0 x1 μ)).bind fun μ2 =>
  some (.inl ((v3 + (1 : Int32)), μ2))
def b_X2_addRow_2 (Y : jY) (v0 : Nat) (v1 : Nat) (v2 : Int32) (v3 : Int32) (μ : jM) : Option ((Int32 × jM) ⊕ (jM)) :=
  if v2 ≤ v3 then
    (b_X2_addRow_36 Y μ).map (fun r => (.inr r))
  else
    (jlen Y v1 20).bind fun x1 =>
    if x1 ≤ v3 then
      (b_X2_addRow_36 Y μ).map (fun r => (.inr r))
    else
      if v3 ≤ 0 then
        b_X2_addRow_23 Y v0 v1 v2 v3 μ
      else
        (jrcv Y v0 2 (f_X2_addByte Y v0 ((32 : Int32)) μ)).bind fun μ2 =>
        b_X2_addRow_23 Y v0 v1 v2 v3 μ2
def f_X2_addRow (Y : jY) (v0 : Nat) (v1 : Nat) (v2 : Int32) (μ : jM) : Option (jM) :=
  jit jF (fun (s : Int32 × jM) => b_X2_addRow_2 Y v0 v1 v2 s.1 s.2) ((0 : Int32), μ)
set_option maxRecDepth 10000 in
theorem t_X2_addRow_36 {X : jX} {l : Launch} {n : Nat} {Y : jY} (K : jOK X RX2 cX2_addRow 4 none 3) (hl : X.2.1 = l) {μr : jM} {μ : jM} {z : (jM)} (H : b_X2_addRow_36 Y μ = some z) (D : z = μr) : JW X (jEnd X n Y none μr 0 0) 0 0 n Y 36 [] [] μ := by
  unfold b_X2_addRow_36 at H
  cases H
  subst D
  exact r_vret K dX2_addRow_36
set_option maxRecDepth 10000 in
theorem t_X2_addRow_23 {X : jX} {l : Launch} {n : Nat} {Y : jY} (K : jOK X RX2 cX2_addRow 4 none 3) (hl : X.2.1 = l) {μr : jM} {v0 : Nat} {v1 : Nat} {v2 : Int32} {v3 : Int32} {μ : jM} {z : ((Int32 × jM) ⊕ (jM))} (H : b_X2_addRow_23 Y v0 v1 v2 v3 μ = some z) (D : Sum.elim (fun (s : Int32 × jM) => JW X (jEnd X n Y none μr 0 0) 0 0 n Y 2 [(0, .ref v0), (1, .ref v1), (2, .int v2), (3, .int s.1)] [] s.2) (fun r => r = μr) z) : JW X (jEnd X n Y none μr 0 0) 0 0 n Y 23 [(0, .ref v0), (1, .ref v1), (2, .int v2), (3, .int v3)] [] μ := by
  unfold b_X2_addRow_23 at H
  refine r_aload_n K 0 dX2_addRow_23 rfl rfl ?_
  refine r_aload_n K 1 dX2_addRow_24 rfl rfl ?_
  refine r_iload_n K 3 dX2_addRow_25 rfl rfl ?_
  refine w_iald K dX2_addRow_26 H (fun x1 H => ?_)
  refine w_callV K hl H (fun r h => c_X2_addNumber l h) mC_yX2_addNumber mM_RX2_33 mI_yX2_addNumber mS_yX2_addNumber mZ_RX2 vc2 (Nat.le_of_ble_eq_true rfl) (Nat.le_of_ble_eq_true rfl) np_yX2_addNumber rfl (Nat.le_of_ble_eq_true rfl) dX2_addRow_27 (fun μ2 H => ?_) ⟨Nat.zero_le _, Nat.zero_le _⟩
  refine r_iinc K 3 [(3, .int _), (0, .ref _), (1, .ref _), (2, .int _)] (v := _ + (1 : Int32)) dX2_addRow_30 rfl rfl (by decide) rfl ?_
  refine r_goto K 2 dX2_addRow_33 (by decide) ?_
  cases H
  exact r_sub [1, 2, 3, 0] rfl D
set_option maxRecDepth 10000 in
theorem t_X2_addRow_2 {X : jX} {l : Launch} {n : Nat} {Y : jY} (K : jOK X RX2 cX2_addRow 4 none 3) (hl : X.2.1 = l) {μr : jM} {v0 : Nat} {v1 : Nat} {v2 : Int32} {v3 : Int32} {μ : jM} {z : ((Int32 × jM) ⊕ (jM))} (H : b_X2_addRow_2 Y v0 v1 v2 v3 μ = some z) (D : Sum.elim (fun (s : Int32 × jM) => JW X (jEnd X n Y none μr 0 0) 0 0 n Y 2 [(0, .ref v0), (1, .ref v1), (2, .int v2), (3, .int s.1)] [] s.2) (fun r => r = μr) z) : JW X (jEnd X n Y none μr 0 0) 0 0 n Y 2 [(0, .ref v0), (1, .ref v1), (2, .int v2), (3, .int v3)] [] μ := by
  unfold b_X2_addRow_2 at H
  refine r_iload_n K 3 dX2_addRow_2 rfl rfl ?_
  refine r_iload_n K 2 dX2_addRow_3 rfl rfl ?_
  refine w_icmp_ge K 36 dX2_addRow_4 (by decide) H (fun _ H => ?_) (fun _ H => ?_)
  · obtain ⟨z2, H2, rfl⟩ := jmap H
    exact r_sub [] rfl (t_X2_addRow_36 K hl H2 D)
  · refine r_iload_n K 3 dX2_addRow_7 rfl rfl ?_
    refine r_aload_n K 1 dX2_addRow_8 rfl rfl ?_
    refine w_alen K 20 rfl dX2_addRow_9 H (fun x1 H => ?_)
    refine w_icmp_ge K 36 dX2_addRow_10 (by decide) H (fun _ H => ?_) (fun _ H => ?_)
    · obtain ⟨z2, H2, rfl⟩ := jmap H
      exact r_sub [] rfl (t_X2_addRow_36 K hl H2 D)
    · refine r_iload_n K 3 dX2_addRow_13 rfl rfl ?_
      refine w_if_le K 23 dX2_addRow_14 (by decide) H (fun _ H => ?_) (fun _ H => ?_)
      · exact r_sub [0, 1, 2, 3] rfl (t_X2_addRow_23 K hl H D)
      · refine r_aload_n K 0 dX2_addRow_17 rfl rfl ?_
        refine r_bipush (v := 32) K dX2_addRow_18 (by decide) ?_
        refine w_callV K hl H (fun r h => c_X2_addByte l h) mC_yX2_addByte mM_RX2_25 mI_yX2_addByte mS_yX2_addByte mZ_RX2 vc2 (Nat.le_of_ble_eq_true rfl) (Nat.le_of_ble_eq_true rfl) np_yX2_addByte rfl (Nat.le_of_ble_eq_true rfl) dX2_addRow_20 (fun μ2 H => ?_) ⟨Nat.zero_le _, Nat.zero_le _⟩
        exact r_sub [0, 1, 2, 3] rfl (t_X2_addRow_23 K hl H D)
set_option maxRecDepth 10000 in
theorem l_X2_addRow_2 {X : jX} {l : Launch} {n : Nat} {Y : jY} (K : jOK X RX2 cX2_addRow 4 none 3) (hl : X.2.1 = l) {μr : jM} {v0 : Nat} {v1 : Nat} {v2 : Int32}  {s0 : Int32 × jM} {z : (jM)} (H : jit jF (fun (s : Int32 × jM) => b_X2_addRow_2 Y v0 v1 v2 s.1 s.2) s0 = some z) (D : z = μr) : JW X (jEnd X n Y none μr 0 0) 0 0 n Y 2 [(0, .ref v0), (1, .ref v1), (2, .int v2), (3, .int s0.1)] [] s0.2 :=
  jit_ind (P := fun (s : Int32 × jM) => JW X (jEnd X n Y none μr 0 0) 0 0 n Y 2 [(0, .ref v0), (1, .ref v1), (2, .int v2), (3, .int s.1)] [] s.2) (D := fun r => r = μr) (fun s z Hs Ds => t_X2_addRow_2 K hl Hs Ds) jF s0 z H D
set_option maxRecDepth 10000 in
theorem t_X2_addRow_0 {X : jX} {l : Launch} {n : Nat} {Y : jY} (K : jOK X RX2 cX2_addRow 4 none 3) (hl : X.2.1 = l) {μr : jM} {v0 : Nat} {v1 : Nat} {v2 : Int32} {μ : jM} {z : (jM)} (H : f_X2_addRow Y v0 v1 v2 μ = some z) (D : z = μr) : JW X (jEnd X n Y none μr 0 0) 0 0 n Y 0 [(0, .ref v0), (1, .ref v1), (2, .int v2)] [] μ := by
  unfold f_X2_addRow at H
  refine r_iconst (v := 0) K dX2_addRow_0 (by decide) ?_
  refine r_istore_n K [(3, .int _), (0, .ref _), (1, .ref _), (2, .int _)] dX2_addRow_1 rfl (by decide) rfl ?_
  exact r_sub [1, 2, 3, 0] rfl (l_X2_addRow_2 K hl H D)
theorem c_X2_addRow (l : Launch) {n : Nat} {Y : jY} {v0 : Nat} {v1 : Nat} {v2 : Int32} {μ : jM} {z : jM} (H : f_X2_addRow Y v0 v1 v2 μ = some z) : jC l yX2_addRow cX2_addRow 4 none 3 0 0 [.ref v0, .ref v1, .int v2] n Y μ n Y none z := by
  refine jC_of (by decide +kernel) (Nat.le_of_ble_eq_true rfl) (fun X hl K _ _ _ => ?_)
  exact t_X2_addRow_0 K hl H rfl
/-! RX2 tell([II[I)V -/
def f_X2_tell (Y : jY) (v0 : Nat) (v1 : Nat) (v2 : Int32) (v3 : Nat) (μ : jM) : Option (jM) :=
  (jput Y μ v0 2 1 (.int ((0 : Int32)))).bind fun μ1 =>
  (jrcv Y v0 2 (f_X2_addRow Y v0 v1 v2 μ1)).bind fun μ2 =>
  (jrcv Y v0 2 (f_X2_addByte Y v0 ((47 : Int32)) μ2)).bind fun μ3 =>
  (jrcv Y v0 2 (f_X2_addRow Y v0 v3 ((v2 - ((1 : Int32)))) μ3)).bind fun μ4 =>
  some μ4
set_option maxRecDepth 10000 in
theorem t_X2_tell_0 {X : jX} {l : Launch} {n : Nat} {Y : jY} (K : jOK X RX2 cX2_tell 4 none 4) (hl : X.2.1 = l) {μr : jM} {v0 : Nat} {v1 : Nat} {v2 : Int32} {v3 : Nat} {μ : jM} {z : (jM)} (H : f_X2_tell Y v0 v1 v2 v3 μ = some z) (D : z = μr) : JW X (jEnd X n Y none μr 0 0) 0 0 n Y 0 [(0, .ref v0), (1, .ref v1), (2, .int v2), (3, .ref v3)] [] μ := by
  unfold f_X2_tell at H
  refine r_aload_n K 0 dX2_tell_0 rfl rfl ?_
  refine r_iconst (v := 0) K dX2_tell_1 (by decide) ?_
  refine w_put K vc2 inX2 tyX2_ok nmX2 1 (by decide) mF_RX2_15 rfl (fun _ => rfl) (fun _ => rfl) dX2_tell_2 H (fun μ1 H => ?_)
  refine r_aload_n K 0 dX2_tell_5 rfl rfl ?_
  refine r_aload_n K 1 dX2_tell_6 rfl rfl ?_
  refine r_iload_n K 2 dX2_tell_7 rfl rfl ?_
  refine w_callV K hl H (fun r h => c_X2_addRow l h) mC_yX2_addRow mM_RX2_19 mI_yX2_addRow mS_yX2_addRow mZ_RX2 vc2 (Nat.le_of_ble_eq_true rfl) (Nat.le_of_ble_eq_true rfl) np_yX2_addRow rfl (Nat.le_of_ble_eq_true rfl) dX2_tell_8 (fun μ2 H => ?_) ⟨Nat.zero_le _, Nat.zero_le _⟩
  refine r_aload_n K 0 dX2_tell_11 rfl rfl ?_
  refine r_bipush (v := 47) K dX2_tell_12 (by decide) ?_
  refine w_callV K hl H (fun r h => c_X2_addByte l h) mC_yX2_addByte mM_RX2_25 mI_yX2_addByte mS_yX2_addByte mZ_RX2 vc2 (Nat.le_of_ble_eq_true rfl) (Nat.le_of_ble_eq_true rfl) np_yX2_addByte rfl (Nat.le_of_ble_eq_true rfl) dX2_tell_14 (fun μ3 H => ?_) ⟨Nat.zero_le _, Nat.zero_le _⟩
  refine r_aload_n K 0 dX2_tell_17 rfl rfl ?_
  refine r_aload_n K 3 dX2_tell_18 rfl rfl ?_
  refine r_iload_n K 2 dX2_tell_19 rfl rfl ?_
  refine r_iconst (v := 1) K dX2_tell_20 (by decide) ?_
  refine r_isub K dX2_tell_21 ?_
  refine w_callV K hl H (fun r h => c_X2_addRow l h) mC_yX2_addRow mM_RX2_19 mI_yX2_addRow mS_yX2_addRow mZ_RX2 vc2 (Nat.le_of_ble_eq_true rfl) (Nat.le_of_ble_eq_true rfl) np_yX2_addRow rfl (Nat.le_of_ble_eq_true rfl) dX2_tell_22 (fun μ4 H => ?_) ⟨Nat.zero_le _, Nat.zero_le _⟩
  cases H
  subst D
  exact r_vret K dX2_tell_25
theorem c_X2_tell (l : Launch) {n : Nat} {Y : jY} {v0 : Nat} {v1 : Nat} {v2 : Int32} {v3 : Nat} {μ : jM} {z : jM} (H : f_X2_tell Y v0 v1 v2 v3 μ = some z) : jC l yX2_tell cX2_tell 4 none 4 0 0 [.ref v0, .ref v1, .int v2, .ref v3] n Y μ n Y none z := by
  refine jC_of (by decide +kernel) (Nat.le_of_ble_eq_true rfl) (fun X hl K _ _ _ => ?_)
  exact t_X2_tell_0 K hl H rfl
/-! RX11 within(III)Z -/
def b_X11_within_15 (Y : jY) (t0 : Int32) (μ : jM) : Option (Int32 × jM) :=
  (jbool t0).bind fun x1 =>
  some (x1, μ)
def b_X11_within_14 (Y : jY) (μ : jM) : Option (Int32 × jM) :=
  b_X11_within_15 Y (0 : Int32) μ
def f_X11_within (Y : jY) (v0 : Int32) (v1 : Int32) (v2 : Int32) (μ : jM) : Option (Int32 × jM) :=
  if v0 < v1 then
    b_X11_within_14 Y μ
  else
    if v2 < v0 then
      b_X11_within_14 Y μ
    else
      b_X11_within_15 Y (1 : Int32) μ
set_option maxRecDepth 10000 in
theorem t_X11_within_15 {X : jX} {l : Launch} {n : Nat} {Y : jY} (K : jOK X RX11 cX11_within 3 (some .boolean) 1) (hl : X.2.1 = l) {rr : Int32} {μr : jM} {t0 : Int32} {μ : jM} {z : (Int32 × jM)} (H : b_X11_within_15 Y t0 μ = some z) (D : z = (rr, μr)) : JW X (jEnd X n Y (some (.int rr)) μr 0 0) 0 0 n Y 15 [] [.int t0] μ := by
  unfold b_X11_within_15 at H
  refine w_zret K dX11_within_15 H (fun hz H => ?_)
  cases H
  obtain ⟨rfl, rfl⟩ := jfin2 D
  exact r_zret K hz dX11_within_15
set_option maxRecDepth 10000 in
theorem t_X11_within_14 {X : jX} {l : Launch} {n : Nat} {Y : jY} (K : jOK X RX11 cX11_within 3 (some .boolean) 1) (hl : X.2.1 = l) {rr : Int32} {μr : jM} {μ : jM} {z : (Int32 × jM)} (H : b_X11_within_14 Y μ = some z) (D : z = (rr, μr)) : JW X (jEnd X n Y (some (.int rr)) μr 0 0) 0 0 n Y 14 [] [] μ := by
  unfold b_X11_within_14 at H
  refine r_iconst (v := 0) K dX11_within_14 (by decide) ?_
  exact r_sub [] rfl (t_X11_within_15 K hl H D)
set_option maxRecDepth 10000 in
theorem t_X11_within_0 {X : jX} {l : Launch} {n : Nat} {Y : jY} (K : jOK X RX11 cX11_within 3 (some .boolean) 1) (hl : X.2.1 = l) {rr : Int32} {μr : jM} {v0 : Int32} {v1 : Int32} {v2 : Int32} {μ : jM} {z : (Int32 × jM)} (H : f_X11_within Y v0 v1 v2 μ = some z) (D : z = (rr, μr)) : JW X (jEnd X n Y (some (.int rr)) μr 0 0) 0 0 n Y 0 [(0, .int v0), (1, .int v1), (2, .int v2)] [] μ := by
  unfold f_X11_within at H
  refine r_iload_n K 0 dX11_within_0 rfl rfl ?_
  refine r_iload_n K 1 dX11_within_1 rfl rfl ?_
  refine w_icmp_lt K 14 dX11_within_2 (by decide) H (fun _ H => ?_) (fun _ H => ?_)
  · exact r_sub [] rfl (t_X11_within_14 K hl H D)
  · refine r_iload_n K 0 dX11_within_5 rfl rfl ?_
    refine r_iload_n K 2 dX11_within_6 rfl rfl ?_
    refine w_icmp_gt K 14 dX11_within_7 (by decide) H (fun _ H => ?_) (fun _ H => ?_)
    · exact r_sub [] rfl (t_X11_within_14 K hl H D)
    · refine r_iconst (v := 1) K dX11_within_10 (by decide) ?_
      refine r_goto K 15 dX11_within_11 (by decide) ?_
      exact r_sub [] rfl (t_X11_within_15 K hl H D)
theorem c_X11_within (l : Launch) {n : Nat} {Y : jY} {v0 : Int32} {v1 : Int32} {v2 : Int32} {μ : jM} {z : Int32 × jM} (H : f_X11_within Y v0 v1 v2 μ = some z) : jC l yX11_within cX11_within 3 (some .boolean) 1 0 0 [.int v0, .int v1, .int v2] n Y μ n Y (some (.int z.1)) z.2 := by
  refine jC_of (by decide +kernel) (Nat.le_of_ble_eq_true rfl) (fun X hl K _ _ _ => ?_)
  obtain ⟨rr, μr⟩ := z
  exact t_X11_within_0 K hl H rfl
/-! RX2 at(I)I -/
def b_X2_at_35 (Y : jY) (t0 : Int32) (μ : jM) : Option (Int32 × jM) :=
  some (t0, μ)
def f_X2_at (Y : jY) (v0 : Nat) (v1 : Int32) (μ : jM) : Option (Int32 × jM) :=
  if v1 = ((-1 : Int32)) then
    (jgI Y μ v0 2 1).bind fun x5 =>
    some (x5, μ)
  else
    (jgI Y μ v0 2 1).bind fun x1 =>
    (f_X11_within Y v1 ((0 : Int32)) ((x1 - ((1 : Int32)))) μ).bind fun r2 =>
    if r2.1 = 0 then
      b_X2_at_35 Y (-3 : Int32) r2.2
    else
      (jgO Y r2.2 v0 2 0).bind fun x3 =>
      (jaI Y r2.2 x3 20 v1).bind fun x4 =>
      b_X2_at_35 Y x4 r2.2
set_option maxRecDepth 10000 in
theorem t_X2_at_35 {X : jX} {l : Launch} {n : Nat} {Y : jY} (K : jOK X RX2 cX2_at 2 (some .int) 2) (hl : X.2.1 = l) {rr : Int32} {μr : jM} {t0 : Int32} {μ : jM} {z : (Int32 × jM)} (H : b_X2_at_35 Y t0 μ = some z) (D : z = (rr, μr)) : JW X (jEnd X n Y (some (.int rr)) μr 0 0) 0 0 n Y 35 [] [.int t0] μ := by
  unfold b_X2_at_35 at H
  cases H
  obtain ⟨rfl, rfl⟩ := jfin2 D
  exact r_iret K dX2_at_35
set_option maxRecDepth 10000 in
theorem t_X2_at_0 {X : jX} {l : Launch} {n : Nat} {Y : jY} (K : jOK X RX2 cX2_at 2 (some .int) 2) (hl : X.2.1 = l) {rr : Int32} {μr : jM} {v0 : Nat} {v1 : Int32} {μ : jM} {z : (Int32 × jM)} (H : f_X2_at Y v0 v1 μ = some z) (D : z = (rr, μr)) : JW X (jEnd X n Y (some (.int rr)) μr 0 0) 0 0 n Y 0 [(0, .ref v0), (1, .int v1)] [] μ := by
  unfold f_X2_at at H
  refine r_iload_n K 1 dX2_at_0 rfl rfl ?_
  refine r_iconst (v := -1) K dX2_at_1 (by decide) ?_
  refine w_icmp_ne K 10 dX2_at_2 (by decide) H (fun _ H => ?_) (fun _ H => ?_)
  · refine r_iload_n K 1 dX2_at_10 rfl rfl ?_
    refine r_iconst (v := 0) K dX2_at_11 (by decide) ?_
    refine r_aload_n K 0 dX2_at_12 rfl rfl ?_
    refine w_getI K vc2 inX2 1 (by decide) mF_RX2_15 dX2_at_13 H (fun x1 H => ?_)
    refine r_iconst (v := 1) K dX2_at_16 (by decide) ?_
    refine r_isub K dX2_at_17 ?_
    refine w_callSN K hl H (fun r h => c_X11_within l h) mC_yX11_within mQ_RX2_29 mT_yX11_within mZ_RX11 (Nat.le_of_ble_eq_true rfl) (Nat.le_of_ble_eq_true rfl) np_yX11_within rfl (Nat.le_of_ble_eq_true rfl) dX2_at_18 (fun r2 H => ?_) ⟨Nat.zero_le _, Nat.zero_le _⟩
    refine w_if_eq K 33 dX2_at_21 (by decide) H (fun _ H => ?_) (fun _ H => ?_)
    · refine r_bipush (v := -3) K dX2_at_33 (by decide) ?_
      exact r_sub [] rfl (t_X2_at_35 K hl H D)
    · refine r_aload_n K 0 dX2_at_24 rfl rfl ?_
      refine w_getO K vc2 inX2 0 (by decide) mF_RX2_9 dX2_at_25 H (fun x3 H => ?_)
      refine r_iload_n K 1 dX2_at_28 rfl rfl ?_
      refine w_iald K dX2_at_29 H (fun x4 H => ?_)
      refine r_goto K 35 dX2_at_30 (by decide) ?_
      exact r_sub [] rfl (t_X2_at_35 K hl H D)
  · refine r_aload_n K 0 dX2_at_5 rfl rfl ?_
    refine w_getI K vc2 inX2 1 (by decide) mF_RX2_15 dX2_at_6 H (fun x5 H => ?_)
    cases H
    obtain ⟨rfl, rfl⟩ := jfin2 D
    exact r_iret K dX2_at_9
theorem c_X2_at (l : Launch) {n : Nat} {Y : jY} {v0 : Nat} {v1 : Int32} {μ : jM} {z : Int32 × jM} (H : f_X2_at Y v0 v1 μ = some z) : jC l yX2_at cX2_at 2 (some .int) 2 0 0 [.ref v0, .int v1] n Y μ n Y (some (.int z.1)) z.2 := by
  refine jC_of (by decide +kernel) (Nat.le_of_ble_eq_true rfl) (fun X hl K _ _ _ => ?_)
  obtain ⟨rr, μr⟩ := z
  exact t_X2_at_0 K hl H rfl
/-! RX3 filledDrawers()I -/
def b_X3_filledDrawers_27 (Y : jY) (v0 : Nat) (v1 : Int32) (v2 : Int32) (μ : jM) : Option ((Int32 × Int32 × jM) ⊕ (Int32 × jM)) :=
  some (.inl (v1, (v2 + (1 : Int32)), μ))
def b_X3_filledDrawers_4 (Y : jY) (v0 : Nat) (v1 : Int32) (v2 : Int32) (μ : jM) : Option ((Int32 × Int32 × jM) ⊕ (Int32 × jM)) :=
  if ((4 : Int32)) ≤ v2 then
    some (.inr (v1, μ))
  else
    (jgO Y μ v0 3 1).bind fun x1 =>
    (jaO Y μ x1 24 v2).bind fun x2 =>
    (jgI Y μ x2 10 0).bind fun x3 =>
    if x3 ≤ 0 then
      b_X3_filledDrawers_27 Y v0 v1 v2 μ
    else
      b_X3_filledDrawers_27 Y v0 (v1 ||| ((((1 : Int32)) <<< (v2 &&& 31)))) v2 μ
def f_X3_filledDrawers (Y : jY) (v0 : Nat) (μ : jM) : Option (Int32 × jM) :=
  jit jF (fun (s : Int32 × Int32 × jM) => b_X3_filledDrawers_4 Y v0 s.1 s.2.1 s.2.2) ((0 : Int32), (0 : Int32), μ)
set_option maxRecDepth 10000 in
theorem t_X3_filledDrawers_27 {X : jX} {l : Launch} {n : Nat} {Y : jY} (K : jOK X RX3 cX3_filledDrawers 3 (some .int) 1) (hl : X.2.1 = l) {rr : Int32} {μr : jM} {v0 : Nat} {v1 : Int32} {v2 : Int32} {μ : jM} {z : ((Int32 × Int32 × jM) ⊕ (Int32 × jM))} (H : b_X3_filledDrawers_27 Y v0 v1 v2 μ = some z) (D : Sum.elim (fun (s : Int32 × Int32 × jM) => JW X (jEnd X n Y (some (.int rr)) μr 0 0) 0 0 n Y 4 [(0, .ref v0), (1, .int s.1), (2, .int s.2.1)] [] s.2.2) (fun r => r = (rr, μr)) z) : JW X (jEnd X n Y (some (.int rr)) μr 0 0) 0 0 n Y 27 [(0, .ref v0), (1, .int v1), (2, .int v2)] [] μ := by
  unfold b_X3_filledDrawers_27 at H
  refine r_iinc K 2 [(2, .int _), (0, .ref _), (1, .int _)] (v := _ + (1 : Int32)) dX3_filledDrawers_27 rfl rfl (by decide) rfl ?_
  refine r_goto K 4 dX3_filledDrawers_30 (by decide) ?_
  cases H
  exact r_sub [1, 2, 0] rfl D
set_option maxRecDepth 10000 in
theorem t_X3_filledDrawers_4 {X : jX} {l : Launch} {n : Nat} {Y : jY} (K : jOK X RX3 cX3_filledDrawers 3 (some .int) 1) (hl : X.2.1 = l) {rr : Int32} {μr : jM} {v0 : Nat} {v1 : Int32} {v2 : Int32} {μ : jM} {z : ((Int32 × Int32 × jM) ⊕ (Int32 × jM))} (H : b_X3_filledDrawers_4 Y v0 v1 v2 μ = some z) (D : Sum.elim (fun (s : Int32 × Int32 × jM) => JW X (jEnd X n Y (some (.int rr)) μr 0 0) 0 0 n Y 4 [(0, .ref v0), (1, .int s.1), (2, .int s.2.1)] [] s.2.2) (fun r => r = (rr, μr)) z) : JW X (jEnd X n Y (some (.int rr)) μr 0 0) 0 0 n Y 4 [(0, .ref v0), (1, .int v1), (2, .int v2)] [] μ := by
  unfold b_X3_filledDrawers_4 at H
  refine r_iload_n K 2 dX3_filledDrawers_4 rfl rfl ?_
  refine r_iconst (v := 4) K dX3_filledDrawers_5 (by decide) ?_
  refine w_icmp_ge K 33 dX3_filledDrawers_6 (by decide) H (fun _ H => ?_) (fun _ H => ?_)
  · refine r_iload_n K 1 dX3_filledDrawers_33 rfl rfl ?_
    cases H
    simp only [Sum.elim_inr] at D
    obtain ⟨rfl, rfl⟩ := jfin2 D
    exact r_iret K dX3_filledDrawers_34
  · refine r_aload_n K 0 dX3_filledDrawers_9 rfl rfl ?_
    refine w_getO K vc3 inX3 1 (by decide) mF_RX3_20 dX3_filledDrawers_10 H (fun x1 H => ?_)
    refine r_iload_n K 2 dX3_filledDrawers_13 rfl rfl ?_
    refine w_aald K 24 rfl rfl dX3_filledDrawers_14 H (fun x2 H => ?_)
    refine w_getI K vc10 inX10 0 (by decide) mF_RX3_32 dX3_filledDrawers_15 H (fun x3 H => ?_)
    refine w_if_le K 27 dX3_filledDrawers_18 (by decide) H (fun _ H => ?_) (fun _ H => ?_)
    · exact r_sub [0, 1, 2] rfl (t_X3_filledDrawers_27 K hl H D)
    · refine r_iload_n K 1 dX3_filledDrawers_21 rfl rfl ?_
      refine r_iconst (v := 1) K dX3_filledDrawers_22 (by decide) ?_
      refine r_iload_n K 2 dX3_filledDrawers_23 rfl rfl ?_
      refine r_ishl K dX3_filledDrawers_24 ?_
      refine r_ior K dX3_filledDrawers_25 ?_
      refine r_istore_n K [(1, .int _), (0, .ref _), (2, .int _)] dX3_filledDrawers_26 rfl (by decide) rfl ?_
      exact r_sub [1, 0, 2] rfl (t_X3_filledDrawers_27 K hl H D)
set_option maxRecDepth 10000 in
theorem l_X3_filledDrawers_4 {X : jX} {l : Launch} {n : Nat} {Y : jY} (K : jOK X RX3 cX3_filledDrawers 3 (some .int) 1) (hl : X.2.1 = l) {rr : Int32} {μr : jM} {v0 : Nat}  {s0 : Int32 × Int32 × jM} {z : (Int32 × jM)} (H : jit jF (fun (s : Int32 × Int32 × jM) => b_X3_filledDrawers_4 Y v0 s.1 s.2.1 s.2.2) s0 = some z) (D : z = (rr, μr)) : JW X (jEnd X n Y (some (.int rr)) μr 0 0) 0 0 n Y 4 [(0, .ref v0), (1, .int s0.1), (2, .int s0.2.1)] [] s0.2.2 :=
  jit_ind (P := fun (s : Int32 × Int32 × jM) => JW X (jEnd X n Y (some (.int rr)) μr 0 0) 0 0 n Y 4 [(0, .ref v0), (1, .int s.1), (2, .int s.2.1)] [] s.2.2) (D := fun r => r = (rr, μr)) (fun s z Hs Ds => t_X3_filledDrawers_4 K hl Hs Ds) jF s0 z H D
set_option maxRecDepth 10000 in
theorem t_X3_filledDrawers_0 {X : jX} {l : Launch} {n : Nat} {Y : jY} (K : jOK X RX3 cX3_filledDrawers 3 (some .int) 1) (hl : X.2.1 = l) {rr : Int32} {μr : jM} {v0 : Nat} {μ : jM} {z : (Int32 × jM)} (H : f_X3_filledDrawers Y v0 μ = some z) (D : z = (rr, μr)) : JW X (jEnd X n Y (some (.int rr)) μr 0 0) 0 0 n Y 0 [(0, .ref v0)] [] μ := by
  unfold f_X3_filledDrawers at H
  refine r_iconst (v := 0) K dX3_filledDrawers_0 (by decide) ?_
  refine r_istore_n K [(1, .int _), (0, .ref _)] dX3_filledDrawers_1 rfl (by decide) rfl ?_
  refine r_iconst (v := 0) K dX3_filledDrawers_2 (by decide) ?_
  refine r_istore_n K [(2, .int _), (1, .int _), (0, .ref _)] dX3_filledDrawers_3 rfl (by decide) rfl ?_
  exact r_sub [2, 1, 0] rfl (l_X3_filledDrawers_4 K hl H D)
theorem c_X3_filledDrawers (l : Launch) {n : Nat} {Y : jY} {v0 : Nat} {μ : jM} {z : Int32 × jM} (H : f_X3_filledDrawers Y v0 μ = some z) : jC l yX3_filledDrawers cX3_filledDrawers 3 (some .int) 1 0 0 [.ref v0] n Y μ n Y (some (.int z.1)) z.2 := by
  refine jC_of (by decide +kernel) (Nat.le_of_ble_eq_true rfl) (fun X hl K _ _ _ => ?_)
  obtain ⟨rr, μr⟩ := z
  exact t_X3_filledDrawers_0 K hl H rfl
