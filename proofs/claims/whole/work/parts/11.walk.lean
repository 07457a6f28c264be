/-! RX10 copy(LChainTables$WholeTable;)V -/
def b_X10_copy_35 (Y : jY) (v0 : Nat) (v1 : Nat) (v2 : Int32) (μ : jM) : Option ((Int32 × jM) ⊕ (jM)) :=
  if ((4 : Int32)) ≤ v2 then
    some (.inr μ)
  else
    (jgO Y μ v0 10 2).bind fun x1 =>
    (jgO Y μ v1 10 2).bind fun x2 =>
    (jaI Y μ x2 20 v2).bind fun x3 =>
    (jas Y μ x1 20 v2 (.int x3)).bind fun μ4 =>
    some (.inl ((v2 + (1 : Int32)), μ4))
def b_X10_copy_10 (Y : jY) (v0 : Nat) (v1 : Nat) (v2 : Int32) (μ : jM) : Option ((Int32 × jM) ⊕ (jM)) :=
  if ((5 : Int32)) ≤ v2 then
    (jit jF (fun (s : Int32 × jM) => b_X10_copy_35 Y v0 v1 s.1 s.2) ((0 : Int32), μ)).map (fun r => (.inr r))
  else
    (jgO Y μ v0 10 1).bind fun x1 =>
    (jgO Y μ v1 10 1).bind fun x2 =>
    (jaI Y μ x2 20 v2).bind fun x3 =>
    (jas Y μ x1 20 v2 (.int x3)).bind fun μ4 =>
    some (.inl ((v2 + (1 : Int32)), μ4))
def f_X10_copy (Y : jY) (v0 : Nat) (v1 : Nat) (μ : jM) : Option (jM) :=
  (jgI Y μ v1 10 0).bind fun x1 =>
  (jput Y μ v0 10 0 (.int x1)).bind fun μ2 =>
  jit jF (fun (s : Int32 × jM) => b_X10_copy_10 Y v0 v1 s.1 s.2) ((0 : Int32), μ2)
set_option maxRecDepth 10000 in
theorem t_X10_copy_35 {X : jX} {l : Launch} {n : Nat} {Y : jY} (K : jOK X RX10 cX10_copy 3 none 1) (hl : X.2.1 = l) {μr : jM} {v0 : Nat} {v1 : Nat} {v2 : Int32} {μ : jM} {z : ((Int32 × jM) ⊕ (jM))} (H : b_X10_copy_35 Y v0 v1 v2 μ = some z) (D : Sum.elim (fun (s : Int32 × jM) => JW X (jEnd X n Y none μr 0 0) 0 0 n Y 35 [(0, .ref v0), (1, .ref v1), (2, .int s.1)] [] s.2) (fun r => r = μr) z) : JW X (jEnd X n Y none μr 0 0) 0 0 n Y 35 [(0, .ref v0), (1, .ref v1), (2, .int v2)] [] μ := by
  unfold b_X10_copy_35 at H
  refine r_iload_n K 2 dX10_copy_35 rfl rfl ?_
  refine r_iconst (v := 4) K dX10_copy_36 (by decide) ?_
  refine w_icmp_ge K 58 dX10_copy_37 (by decide) H (fun _ H => ?_) (fun _ H => ?_)
  · cases H
    simp only [Sum.elim_inr] at D
    subst D
    exact r_vret K dX10_copy_58
  · refine r_aload_n K 0 dX10_copy_40 rfl rfl ?_
    refine w_getO K vc10 inX10 2 (by decide) mF_RX10_19 dX10_copy_41 H (fun x1 H => ?_)
    refine r_iload_n K 2 dX10_copy_44 rfl rfl ?_
    refine r_aload_n K 1 dX10_copy_45 rfl rfl ?_
    refine w_getO K vc10 inX10 2 (by decide) mF_RX10_19 dX10_copy_46 H (fun x2 H => ?_)
    refine r_iload_n K 2 dX10_copy_49 rfl rfl ?_
    refine w_iald K dX10_copy_50 H (fun x3 H => ?_)
    refine w_iast K dX10_copy_51 H (fun μ4 H => ?_)
    refine r_iinc K 2 [(2, .int _), (0, .ref _), (1, .ref _)] (v := _ + (1 : Int32)) dX10_copy_52 rfl rfl (by decide) rfl ?_
    refine r_goto K 35 dX10_copy_55 (by decide) ?_
    cases H
    exact r_sub [1, 2, 0] rfl D
set_option maxRecDepth 10000 in
theorem l_X10_copy_35 {X : jX} {l : Launch} {n : Nat} {Y : jY} (K : jOK X RX10 cX10_copy 3 none 1) (hl : X.2.1 = l) {μr : jM} {v0 : Nat} {v1 : Nat}  {s0 : Int32 × jM} {z : (jM)} (H : jit jF (fun (s : Int32 × jM) => b_X10_copy_35 Y v0 v1 s.1 s.2) s0 = some z) (D : z = μr) : JW X (jEnd X n Y none μr 0 0) 0 0 n Y 35 [(0, .ref v0), (1, .ref v1), (2, .int s0.1)] [] s0.2 :=
  jit_ind (P := fun (s : Int32 × jM) => JW X (jEnd X n Y none μr 0 0) 0 0 n Y 35 [(0, .ref v0), (1, .ref v1), (2, .int s.1)] [] s.2) (D := fun r => r = μr) (fun s z Hs Ds => t_X10_copy_35 K hl Hs Ds) jF s0 z H D
set_option maxRecDepth 10000 in
theorem t_X10_copy_10 {X : jX} {l : Launch} {n : Nat} {Y : jY} (K : jOK X RX10 cX10_copy 3 none 1) (hl : X.2.1 = l) {μr : jM} {v0 : Nat} {v1 : Nat} {v2 : Int32} {μ : jM} {z : ((Int32 × jM) ⊕ (jM))} (H : b_X10_copy_10 Y v0 v1 v2 μ = some z) (D : Sum.elim (fun (s : Int32 × jM) => JW X (jEnd X n Y none μr 0 0) 0 0 n Y 10 [(0, .ref v0), (1, .ref v1), (2, .int s.1)] [] s.2) (fun r => r = μr) z) : JW X (jEnd X n Y none μr 0 0) 0 0 n Y 10 [(0, .ref v0), (1, .ref v1), (2, .int v2)] [] μ := by
  unfold b_X10_copy_10 at H
  refine r_iload_n K 2 dX10_copy_10 rfl rfl ?_
  refine r_iconst (v := 5) K dX10_copy_11 (by decide) ?_
  refine w_icmp_ge K 33 dX10_copy_12 (by decide) H (fun _ H => ?_) (fun _ H => ?_)
  · refine r_iconst (v := 0) K dX10_copy_33 (by decide) ?_
    refine r_istore_n K [(2, .int _), (0, .ref _), (1, .ref _)] dX10_copy_34 rfl (by decide) rfl ?_
    obtain ⟨z2, H2, rfl⟩ := jmap H
    exact r_sub [1, 2, 0] rfl (l_X10_copy_35 K hl H2 D)
  · refine r_aload_n K 0 dX10_copy_15 rfl rfl ?_
    refine w_getO K vc10 inX10 1 (by decide) mF_RX10_15 dX10_copy_16 H (fun x1 H => ?_)
    refine r_iload_n K 2 dX10_copy_19 rfl rfl ?_
    refine r_aload_n K 1 dX10_copy_20 rfl rfl ?_
    refine w_getO K vc10 inX10 1 (by decide) mF_RX10_15 dX10_copy_21 H (fun x2 H => ?_)
    refine r_iload_n K 2 dX10_copy_24 rfl rfl ?_
    refine w_iald K dX10_copy_25 H (fun x3 H => ?_)
    refine w_iast K dX10_copy_26 H (fun μ4 H => ?_)
    refine r_iinc K 2 [(2, .int _), (0, .ref _), (1, .ref _)] (v := _ + (1 : Int32)) dX10_copy_27 rfl rfl (by decide) rfl ?_
    refine r_goto K 10 dX10_copy_30 (by decide) ?_
    cases H
    exact r_sub [1, 2, 0] rfl D
set_option maxRecDepth 10000 in
theorem l_X10_copy_10 {X : jX} {l : Launch} {n : Nat} {Y : jY} (K : jOK X RX10 cX10_copy 3 none 1) (hl : X.2.1 = l) {μr : jM} {v0 : Nat} {v1 : Nat}  {s0 : Int32 × jM} {z : (jM)} (H : jit jF (fun (s : Int32 × jM) => b_X10_copy_10 Y v0 v1 s.1 s.2) s0 = some z) (D : z = μr) : JW X (jEnd X n Y none μr 0 0) 0 0 n Y 10 [(0, .ref v0), (1, .ref v1), (2, .int s0.1)] [] s0.2 :=
  jit_ind (P := fun (s : Int32 × jM) => JW X (jEnd X n Y none μr 0 0) 0 0 n Y 10 [(0, .ref v0), (1, .ref v1), (2, .int s.1)] [] s.2) (D := fun r => r = μr) (fun s z Hs Ds => t_X10_copy_10 K hl Hs Ds) jF s0 z H D
set_option maxRecDepth 10000 in
theorem t_X10_copy_0 {X : jX} {l : Launch} {n : Nat} {Y : jY} (K : jOK X RX10 cX10_copy 3 none 1) (hl : X.2.1 = l) {μr : jM} {v0 : Nat} {v1 : Nat} {μ : jM} {z : (jM)} (H : f_X10_copy Y v0 v1 μ = some z) (D : z = μr) : JW X (jEnd X n Y none μr 0 0) 0 0 n Y 0 [(0, .ref v0), (1, .ref v1)] [] μ := by
  unfold f_X10_copy at H
  refine r_aload_n K 0 dX10_copy_0 rfl rfl ?_
  refine r_aload_n K 1 dX10_copy_1 rfl rfl ?_
  refine w_getI K vc10 inX10 0 (by decide) mF_RX10_9 dX10_copy_2 H (fun x1 H => ?_)
  refine w_put K vc10 inX10 tyX10_ok nmX10 0 (by decide) mF_RX10_9 rfl (fun _ => rfl) (fun _ => rfl) dX10_copy_5 H (fun μ2 H => ?_)
  refine r_iconst (v := 0) K dX10_copy_8 (by decide) ?_
  refine r_istore_n K [(2, .int _), (0, .ref _), (1, .ref _)] dX10_copy_9 rfl (by decide) rfl ?_
  exact r_sub [1, 2, 0] rfl (l_X10_copy_10 K hl H D)
theorem c_X10_copy (l : Launch) {n : Nat} {Y : jY} {v0 : Nat} {v1 : Nat} {μ : jM} {z : jM} (H : f_X10_copy Y v0 v1 μ = some z) : jC l yX10_copy cX10_copy 3 none 1 0 0 [.ref v0, .ref v1] n Y μ n Y none z := by
  refine jC_of (by decide +kernel) (Nat.le_of_ble_eq_true rfl) (fun X hl K _ _ _ => ?_)
  exact t_X10_copy_0 K hl H rfl
/-! RX9 copy(LChainTables$Tones;)V -/
def b_X9_copy_35 (Y : jY) (v0 : Nat) (v1 : Nat) (v2 : Int32) (μ : jM) : Option ((Int32 × jM) ⊕ (jM)) :=
  if ((3 : Int32)) ≤ v2 then
    some (.inr μ)
  else
    (jgO Y μ v0 9 2).bind fun x1 =>
    (jgO Y μ v1 9 2).bind fun x2 =>
    (jaI Y μ x2 20 v2).bind fun x3 =>
    (jas Y μ x1 20 v2 (.int x3)).bind fun μ4 =>
    some (.inl ((v2 + (1 : Int32)), μ4))
def b_X9_copy_10 (Y : jY) (v0 : Nat) (v1 : Nat) (v2 : Int32) (μ : jM) : Option ((Int32 × jM) ⊕ (jM)) :=
  if ((4 : Int32)) ≤ v2 then
    (jit jF (fun (s : Int32 × jM) => b_X9_copy_35 Y v0 v1 s.1 s.2) ((0 : Int32), μ)).map (fun r => (.inr r))
  else
    (jgO Y μ v0 9 1).bind fun x1 =>
    (jgO Y μ v1 9 1).bind fun x2 =>
    (jaI Y μ x2 20 v2).bind fun x3 =>
    (jas Y μ x1 20 v2 (.int x3)).bind fun μ4 =>
    some (.inl ((v2 + (1 : Int32)), μ4))
def f_X9_copy (Y : jY) (v0 : Nat) (v1 : Nat) (μ : jM) : Option (jM) :=
  (jgI Y μ v1 9 0).bind fun x1 =>
  (jput Y μ v0 9 0 (.int x1)).bind fun μ2 =>
  jit jF (fun (s : Int32 × jM) => b_X9_copy_10 Y v0 v1 s.1 s.2) ((0 : Int32), μ2)
set_option maxRecDepth 10000 in
theorem t_X9_copy_35 {X : jX} {l : Launch} {n : Nat} {Y : jY} (K : jOK X RX9 cX9_copy 3 none 1) (hl : X.2.1 = l) {μr : jM} {v0 : Nat} {v1 : Nat} {v2 : Int32} {μ : jM} {z : ((Int32 × jM) ⊕ (jM))} (H : b_X9_copy_35 Y v0 v1 v2 μ = some z) (D : Sum.elim (fun (s : Int32 × jM) => JW X (jEnd X n Y none μr 0 0) 0 0 n Y 35 [(0, .ref v0), (1, .ref v1), (2, .int s.1)] [] s.2) (fun r => r = μr) z) : JW X (jEnd X n Y none μr 0 0) 0 0 n Y 35 [(0, .ref v0), (1, .ref v1), (2, .int v2)] [] μ := by
  unfold b_X9_copy_35 at H
  refine r_iload_n K 2 dX9_copy_35 rfl rfl ?_
  refine r_iconst (v := 3) K dX9_copy_36 (by decide) ?_
  refine w_icmp_ge K 58 dX9_copy_37 (by decide) H (fun _ H => ?_) (fun _ H => ?_)
  · cases H
    simp only [Sum.elim_inr] at D
    subst D
    exact r_vret K dX9_copy_58
  · refine r_aload_n K 0 dX9_copy_40 rfl rfl ?_
    refine w_getO K vc9 inX9 2 (by decide) mF_RX9_19 dX9_copy_41 H (fun x1 H => ?_)
    refine r_iload_n K 2 dX9_copy_44 rfl rfl ?_
    refine r_aload_n K 1 dX9_copy_45 rfl rfl ?_
    refine w_getO K vc9 inX9 2 (by decide) mF_RX9_19 dX9_copy_46 H (fun x2 H => ?_)
    refine r_iload_n K 2 dX9_copy_49 rfl rfl ?_
    refine w_iald K dX9_copy_50 H (fun x3 H => ?_)
    refine w_iast K dX9_copy_51 H (fun μ4 H => ?_)
    refine r_iinc K 2 [(2, .int _), (0, .ref _), (1, .ref _)] (v := _ + (1 : Int32)) dX9_copy_52 rfl rfl (by decide) rfl ?_
    refine r_goto K 35 dX9_copy_55 (by decide) ?_
    cases H
    exact r_sub [1, 2, 0] rfl D
set_option maxRecDepth 10000 in
theorem l_X9_copy_35 {X : jX} {l : Launch} {n : Nat} {Y : jY} (K : jOK X RX9 cX9_copy 3 none 1) (hl : X.2.1 = l) {μr : jM} {v0 : Nat} {v1 : Nat}  {s0 : Int32 × jM} {z : (jM)} (H : jit jF (fun (s : Int32 × jM) => b_X9_copy_35 Y v0 v1 s.1 s.2) s0 = some z) (D : z = μr) : JW X (jEnd X n Y none μr 0 0) 0 0 n Y 35 [(0, .ref v0), (1, .ref v1), (2, .int s0.1)] [] s0.2 :=
  jit_ind (P := fun (s : Int32 × jM) => JW X (jEnd X n Y none μr 0 0) 0 0 n Y 35 [(0, .ref v0), (1, .ref v1), (2, .int s.1)] [] s.2) (D := fun r => r = μr) (fun s z Hs Ds => t_X9_copy_35 K hl Hs Ds) jF s0 z H D
set_option maxRecDepth 10000 in
theorem t_X9_copy_10 {X : jX} {l : Launch} {n : Nat} {Y : jY} (K : jOK X RX9 cX9_copy 3 none 1) (hl : X.2.1 = l) {μr : jM} {v0 : Nat} {v1 : Nat} {v2 : Int32} {μ : jM} {z : ((Int32 × jM) ⊕ (jM))} (H : b_X9_copy_10 Y v0 v1 v2 μ = some z) (D : Sum.elim (fun (s : Int32 × jM) => JW X (jEnd X n Y none μr 0 0) 0 0 n Y 10 [(0, .ref v0), (1, .ref v1), (2, .int s.1)] [] s.2) (fun r => r = μr) z) : JW X (jEnd X n Y none μr 0 0) 0 0 n Y 10 [(0, .ref v0), (1, .ref v1), (2, .int v2)] [] μ := by
  unfold b_X9_copy_10 at H
  refine r_iload_n K 2 dX9_copy_10 rfl rfl ?_
  refine r_iconst (v := 4) K dX9_copy_11 (by decide) ?_
  refine w_icmp_ge K 33 dX9_copy_12 (by decide) H (fun _ H => ?_) (fun _ H => ?_)
  · refine r_iconst (v := 0) K dX9_copy_33 (by decide) ?_
    refine r_istore_n K [(2, .int _), (0, .ref _), (1, .ref _)] dX9_copy_34 rfl (by decide) rfl ?_
    obtain ⟨z2, H2, rfl⟩ := jmap H
    exact r_sub [1, 2, 0] rfl (l_X9_copy_35 K hl H2 D)
  · refine r_aload_n K 0 dX9_copy_15 rfl rfl ?_
    refine w_getO K vc9 inX9 1 (by decide) mF_RX9_15 dX9_copy_16 H (fun x1 H => ?_)
    refine r_iload_n K 2 dX9_copy_19 rfl rfl ?_
    refine r_aload_n K 1 dX9_copy_20 rfl rfl ?_
    refine w_getO K vc9 inX9 1 (by decide) mF_RX9_15 dX9_copy_21 H (fun x2 H => ?_)
    refine r_iload_n K 2 dX9_copy_24 rfl rfl ?_
    refine w_iald K dX9_copy_25 H (fun x3 H => ?_)
    refine w_iast K dX9_copy_26 H (fun μ4 H => ?_)
    refine r_iinc K 2 [(2, .int _), (0, .ref _), (1, .ref _)] (v := _ + (1 : Int32)) dX9_copy_27 rfl rfl (by decide) rfl ?_
    refine r_goto K 10 dX9_copy_30 (by decide) ?_
    cases H
    exact r_sub [1, 2, 0] rfl D
set_option maxRecDepth 10000 in
theorem l_X9_copy_10 {X : jX} {l : Launch} {n : Nat} {Y : jY} (K : jOK X RX9 cX9_copy 3 none 1) (hl : X.2.1 = l) {μr : jM} {v0 : Nat} {v1 : Nat}  {s0 : Int32 × jM} {z : (jM)} (H : jit jF (fun (s : Int32 × jM) => b_X9_copy_10 Y v0 v1 s.1 s.2) s0 = some z) (D : z = μr) : JW X (jEnd X n Y none μr 0 0) 0 0 n Y 10 [(0, .ref v0), (1, .ref v1), (2, .int s0.1)] [] s0.2 :=
  jit_ind (P := fun (s : Int32 × jM) => JW X (jEnd X n Y none μr 0 0) 0 0 n Y 10 [(0, .ref v0), (1, .ref v1), (2, .int s.1)] [] s.2) (D := fun r => r = μr) (fun s z Hs Ds => t_X9_copy_10 K hl Hs Ds) jF s0 z H D
set_option maxRecDepth 10000 in
theorem t_X9_copy_0 {X : jX} {l : Launch} {n : Nat} {Y : jY} (K : jOK X RX9 cX9_copy 3 none 1) (hl : X.2.1 = l) {μr : jM} {v0 : Nat} {v1 : Nat} {μ : jM} {z : (jM)} (H : f_X9_copy Y v0 v1 μ = some z) (D : z = μr) : JW X (jEnd X n Y none μr 0 0) 0 0 n Y 0 [(0, .ref v0), (1, .ref v1)] [] μ := by
  unfold f_X9_copy at H
  refine r_aload_n K 0 dX9_copy_0 rfl rfl ?_
  refine r_aload_n K 1 dX9_copy_1 rfl rfl ?_
  refine w_getI K vc9 inX9 0 (by decide) mF_RX9_9 dX9_copy_2 H (fun x1 H => ?_)
  refine w_put K vc9 inX9 tyX9_ok nmX9 0 (by decide) mF_RX9_9 rfl (fun _ => rfl) (fun _ => rfl) dX9_copy_5 H (fun μ2 H => ?_)
  refine r_iconst (v := 0) K dX9_copy_8 (by decide) ?_
  refine r_istore_n K [(2, .int _), (0, .ref _), (1, .ref _)] dX9_copy_9 rfl (by decide) rfl ?_
  exact r_sub [1, 2, 0] rfl (l_X9_copy_10 K hl H D)
theorem c_X9_copy (l : Launch) {n : Nat} {Y : jY} {v0 : Nat} {v1 : Nat} {μ : jM} {z : jM} (H : f_X9_copy Y v0 v1 μ = some z) : jC l yX9_copy cX9_copy 3 none 1 0 0 [.ref v0, .ref v1] n Y μ n Y none z := by
  refine jC_of (by decide +kernel) (Nat.le_of_ble_eq_true rfl) (fun X hl K _ _ _ => ?_)
  exact t_X9_copy_0 K hl H rfl
/-! RX3 copy(LChainTables$State;)V -/
def b_X3_copy_13 (Y : jY) (v0 : Nat) (v1 : Nat) (v2 : Int32) (μ : jM) : Option ((Int32 × jM) ⊕ (jM)) :=
  if ((4 : Int32)) ≤ v2 then
    some (.inr μ)
  else
    (jgO Y μ v0 3 1).bind fun x1 =>
    (jaO Y μ x1 24 v2).bind fun x2 =>
    (jgO Y μ v1 3 1).bind fun x3 =>
    (jaO Y μ x3 24 v2).bind fun x4 =>
    (jrcv Y x2 10 (f_X10_copy Y x2 x4 μ)).bind fun μ5 =>
    some (.inl ((v2 + (1 : Int32)), μ5))
def f_X3_copy (Y : jY) (v0 : Nat) (v1 : Nat) (μ : jM) : Option (jM) :=
  (jgO Y μ v0 3 0).bind fun x1 =>
  (jgO Y μ v1 3 0).bind fun x2 =>
  (jrcv Y x1 9 (f_X9_copy Y x1 x2 μ)).bind fun μ3 =>
  jit jF (fun (s : Int32 × jM) => b_X3_copy_13 Y v0 v1 s.1 s.2) ((0 : Int32), μ3)
set_option maxRecDepth 10000 in
theorem t_X3_copy_13 {X : jX} {l : Launch} {n : Nat} {Y : jY} (K : jOK X RX3 cX3_copy 3 none 2) (hl : X.2.1 = l) {μr : jM} {v0 : Nat} {v1 : Nat} {v2 : Int32} {μ : jM} {z : ((Int32 × jM) ⊕ (jM))} (H : b_X3_copy_13 Y v0 v1 v2 μ = some z) (D : Sum.elim (fun (s : Int32 × jM) => JW X (jEnd X n Y none μr 0 0) 0 0 n Y 13 [(0, .ref v0), (1, .ref v1), (2, .int s.1)] [] s.2) (fun r => r = μr) z) : JW X (jEnd X n Y none μr 0 0) 0 0 n Y 13 [(0, .ref v0), (1, .ref v1), (2, .int v2)] [] μ := by
  unfold b_X3_copy_13 at H
  refine r_iload_n K 2 dX3_copy_13 rfl rfl ?_
  refine r_iconst (v := 4) K dX3_copy_14 (by decide) ?_
  refine w_icmp_ge K 39 dX3_copy_15 (by decide) H (fun _ H => ?_) (fun _ H => ?_)
  · cases H
    simp only [Sum.elim_inr] at D
    subst D
    exact r_vret K dX3_copy_39
  · refine r_aload_n K 0 dX3_copy_18 rfl rfl ?_
    refine w_getO K vc3 inX3 1 (by decide) mF_RX3_20 dX3_copy_19 H (fun x1 H => ?_)
    refine r_iload_n K 2 dX3_copy_22 rfl rfl ?_
    refine w_aald K 24 rfl rfl dX3_copy_23 H (fun x2 H => ?_)
    refine r_aload_n K 1 dX3_copy_24 rfl rfl ?_
    refine w_getO K vc3 inX3 1 (by decide) mF_RX3_20 dX3_copy_25 H (fun x3 H => ?_)
    refine r_iload_n K 2 dX3_copy_28 rfl rfl ?_
    refine w_aald K 24 rfl rfl dX3_copy_29 H (fun x4 H => ?_)
    refine w_callV K hl H (fun r h => c_X10_copy l h) mC_yX10_copy mM_RX3_29 mI_yX10_copy mS_yX10_copy mZ_RX10 vc10 (Nat.le_of_ble_eq_true rfl) (Nat.le_of_ble_eq_true rfl) np_yX10_copy rfl (Nat.le_of_ble_eq_true rfl) dX3_copy_30 (fun μ5 H => ?_) ⟨Nat.zero_le _, Nat.zero_le _⟩
    refine r_iinc K 2 [(2, .int _), (0, .ref _), (1, .ref _)] (v := _ + (1 : Int32)) dX3_copy_33 rfl rfl (by decide) rfl ?_
    refine r_goto K 13 dX3_copy_36 (by decide) ?_
    cases H
    exact r_sub [1, 2, 0] rfl D
set_option maxRecDepth 10000 in
theorem l_X3_copy_13 {X : jX} {l : Launch} {n : Nat} {Y : jY} (K : jOK X RX3 cX3_copy 3 none 2) (hl : X.2.1 = l) {μr : jM} {v0 : Nat} {v1 : Nat}  {s0 : Int32 × jM} {z : (jM)} (H : jit jF (fun (s : Int32 × jM) => b_X3_copy_13 Y v0 v1 s.1 s.2) s0 = some z) (D : z = μr) : JW X (jEnd X n Y none μr 0 0) 0 0 n Y 13 [(0, .ref v0), (1, .ref v1), (2, .int s0.1)] [] s0.2 :=
  jit_ind (P := fun (s : Int32 × jM) => JW X (jEnd X n Y none μr 0 0) 0 0 n Y 13 [(0, .ref v0), (1, .ref v1), (2, .int s.1)] [] s.2) (D := fun r => r = μr) (fun s z Hs Ds => t_X3_copy_13 K hl Hs Ds) jF s0 z H D
set_option maxRecDepth 10000 in
theorem t_X3_copy_0 {X : jX} {l : Launch} {n : Nat} {Y : jY} (K : jOK X RX3 cX3_copy 3 none 2) (hl : X.2.1 = l) {μr : jM} {v0 : Nat} {v1 : Nat} {μ : jM} {z : (jM)} (H : f_X3_copy Y v0 v1 μ = some z) (D : z = μr) : JW X (jEnd X n Y none μr 0 0) 0 0 n Y 0 [(0, .ref v0), (1, .ref v1)] [] μ := by
  unfold f_X3_copy at H
  refine r_aload_n K 0 dX3_copy_0 rfl rfl ?_
  refine w_getO K vc3 inX3 0 (by decide) mF_RX3_12 dX3_copy_1 H (fun x1 H => ?_)
  refine r_aload_n K 1 dX3_copy_4 rfl rfl ?_
  refine w_getO K vc3 inX3 0 (by decide) mF_RX3_12 dX3_copy_5 H (fun x2 H => ?_)
  refine w_callV K hl H (fun r h => c_X9_copy l h) mC_yX9_copy mM_RX3_25 mI_yX9_copy mS_yX9_copy mZ_RX9 vc9 (Nat.le_of_ble_eq_true rfl) (Nat.le_of_ble_eq_true rfl) np_yX9_copy rfl (Nat.le_of_ble_eq_true rfl) dX3_copy_8 (fun μ3 H => ?_) ⟨Nat.zero_le _, Nat.zero_le _⟩
  refine r_iconst (v := 0) K dX3_copy_11 (by decide) ?_
  refine r_istore_n K [(2, .int _), (0, .ref _), (1, .ref _)] dX3_copy_12 rfl (by decide) rfl ?_
  exact r_sub [1, 2, 0] rfl (l_X3_copy_13 K hl H D)
theorem c_X3_copy (l : Launch) {n : Nat} {Y : jY} {v0 : Nat} {v1 : Nat} {μ : jM} {z : jM} (H : f_X3_copy Y v0 v1 μ = some z) : jC l yX3_copy cX3_copy 3 none 2 0 0 [.ref v0, .ref v1] n Y μ n Y none z := by
  refine jC_of (by decide +kernel) (Nat.le_of_ble_eq_true rfl) (fun X hl K _ _ _ => ?_)
  exact t_X3_copy_0 K hl H rfl
/-! RX4 pull(LChainTables$WholeTable;I)J -/
def b_X4_pull_61 (Y : jY) (v3 : Int64) (μ : jM) : Option (Int64 × jM) :=
  some (v3, μ)
def b_X4_pull_36 (Y : jY) (v0 : Nat) (v1 : Nat) (v2 : Int32) (v3 : Int64) (μ : jM) : Option (Int64 × jM) :=
  if v2 ≤ 0 then
    b_X4_pull_61 Y v3 μ
  else
    (jgO Y μ v1 10 2).bind fun x1 =>
    (jaI Y μ x1 20 ((v2 - ((1 : Int32))))).bind fun x2 =>
    (jgO Y μ v0 4 1).bind fun x3 =>
    (jaL Y μ x3 21 ((v2 - ((1 : Int32))))).bind fun x4 =>
    b_X4_pull_61 Y (v3 + ((((x2.toInt64)) * x4))) μ
def f_X4_pull (Y : jY) (v0 : Nat) (v1 : Nat) (v2 : Int32) (μ : jM) : Option (Int64 × jM) :=
  (jgO Y μ v1 10 1).bind fun x1 =>
  (jaI Y μ x1 20 v2).bind fun x2 =>
  (jgO Y μ v0 4 1).bind fun x3 =>
  (jaL Y μ x3 21 v2).bind fun x4 =>
  (jgI Y μ v1 10 0).bind fun x5 =>
  if x5 ≤ ((v2 + ((1 : Int32)))) then
    b_X4_pull_36 Y v0 v1 v2 (((x2.toInt64)) * x4) μ
  else
    (jgO Y μ v0 4 1).bind fun x6 =>
    (jaL Y μ x6 21 ((v2 + ((1 : Int32))))).bind fun x7 =>
    b_X4_pull_36 Y v0 v1 v2 (((((x2.toInt64)) * x4)) + x7) μ
set_option maxRecDepth 10000 in
theorem t_X4_pull_61 {X : jX} {l : Launch} {n : Nat} {Y : jY} (K : jOK X RX4 cX4_pull 5 (some .long) 1) (hl : X.2.1 = l) {rr : Int64} {μr : jM} {v3 : Int64} {μ : jM} {z : (Int64 × jM)} (H : b_X4_pull_61 Y v3 μ = some z) (D : z = (rr, μr)) : JW X (jEnd X n Y (some (.long rr)) μr 0 0) 0 0 n Y 61 [(3, .long v3)] [] μ := by
  unfold b_X4_pull_61 at H
  refine r_lload_n K 0 dX4_pull_61 rfl rfl ?_
  cases H
  obtain ⟨rfl, rfl⟩ := jfin2 D
  exact r_lret K dX4_pull_62
set_option maxRecDepth 10000 in
theorem t_X4_pull_36 {X : jX} {l : Launch} {n : Nat} {Y : jY} (K : jOK X RX4 cX4_pull 5 (some .long) 1) (hl : X.2.1 = l) {rr : Int64} {μr : jM} {v0 : Nat} {v1 : Nat} {v2 : Int32} {v3 : Int64} {μ : jM} {z : (Int64 × jM)} (H : b_X4_pull_36 Y v0 v1 v2 v3 μ = some z) (D : z = (rr, μr)) : JW X (jEnd X n Y (some (.long rr)) μr 0 0) 0 0 n Y 36 [(0, .ref v0), (1, .ref v1), (2, .int v2), (3, .long v3)] [] μ := by
  unfold b_X4_pull_36 at H
  refine r_iload_n K 2 dX4_pull_36 rfl rfl ?_
  refine w_if_le K 61 dX4_pull_37 (by decide) H (fun _ H => ?_) (fun _ H => ?_)
  · exact r_sub [3] rfl (t_X4_pull_61 K hl H D)
  · refine r_lload_n K 3 dX4_pull_40 rfl rfl ?_
    refine r_aload_n K 1 dX4_pull_41 rfl rfl ?_
    refine w_getO K vc10 inX10 2 (by decide) mF_RX4_33 dX4_pull_42 H (fun x1 H => ?_)
    refine r_iload_n K 2 dX4_pull_45 rfl rfl ?_
    refine r_iconst (v := 1) K dX4_pull_46 (by decide) ?_
    refine r_isub K dX4_pull_47 ?_
    refine w_iald K dX4_pull_48 H (fun x2 H => ?_)
    refine r_i2l K dX4_pull_49 ?_
    refine r_aload_n K 0 dX4_pull_50 rfl rfl ?_
    refine w_getO K vc4 inX4 1 (by decide) mF_RX4_16 dX4_pull_51 H (fun x3 H => ?_)
    refine r_iload_n K 2 dX4_pull_54 rfl rfl ?_
    refine r_iconst (v := 1) K dX4_pull_55 (by decide) ?_
    refine r_isub K dX4_pull_56 ?_
    refine w_lald K dX4_pull_57 H (fun x4 H => ?_)
    refine r_lmul K dX4_pull_58 ?_
    refine r_ladd K dX4_pull_59 ?_
    refine r_lstore_n K [(3, .long _), (0, .ref _), (1, .ref _), (2, .int _)] dX4_pull_60 rfl (by decide) rfl ?_
    exact r_sub [0] rfl (t_X4_pull_61 K hl H D)
set_option maxRecDepth 10000 in
theorem t_X4_pull_0 {X : jX} {l : Launch} {n : Nat} {Y : jY} (K : jOK X RX4 cX4_pull 5 (some .long) 1) (hl : X.2.1 = l) {rr : Int64} {μr : jM} {v0 : Nat} {v1 : Nat} {v2 : Int32} {μ : jM} {z : (Int64 × jM)} (H : f_X4_pull Y v0 v1 v2 μ = some z) (D : z = (rr, μr)) : JW X (jEnd X n Y (some (.long rr)) μr 0 0) 0 0 n Y 0 [(0, .ref v0), (1, .ref v1), (2, .int v2)] [] μ := by
  unfold f_X4_pull at H
  refine r_aload_n K 1 dX4_pull_0 rfl rfl ?_
  refine w_getO K vc10 inX10 1 (by decide) mF_RX4_29 dX4_pull_1 H (fun x1 H => ?_)
  refine r_iload_n K 2 dX4_pull_4 rfl rfl ?_
  refine w_iald K dX4_pull_5 H (fun x2 H => ?_)
  refine r_i2l K dX4_pull_6 ?_
  refine r_aload_n K 0 dX4_pull_7 rfl rfl ?_
  refine w_getO K vc4 inX4 1 (by decide) mF_RX4_16 dX4_pull_8 H (fun x3 H => ?_)
  refine r_iload_n K 2 dX4_pull_11 rfl rfl ?_
  refine w_lald K dX4_pull_12 H (fun x4 H => ?_)
  refine r_lmul K dX4_pull_13 ?_
  refine r_lstore_n K [(3, .long _), (0, .ref _), (1, .ref _), (2, .int _)] dX4_pull_14 rfl (by decide) rfl ?_
  refine r_iload_n K 3 dX4_pull_15 rfl rfl ?_
  refine r_iconst (v := 1) K dX4_pull_16 (by decide) ?_
  refine r_iadd K dX4_pull_17 ?_
  refine r_aload_n K 2 dX4_pull_18 rfl rfl ?_
  refine w_getI K vc10 inX10 0 (by decide) mF_RX4_23 dX4_pull_19 H (fun x5 H => ?_)
  refine w_icmp_ge K 36 dX4_pull_22 (by decide) H (fun _ H => ?_) (fun _ H => ?_)
  · exact r_sub [1, 2, 3, 0] rfl (t_X4_pull_36 K hl H D)
  · refine r_lload_n K 0 dX4_pull_25 rfl rfl ?_
    refine r_aload_n K 1 dX4_pull_26 rfl rfl ?_
    refine w_getO K vc4 inX4 1 (by decide) mF_RX4_16 dX4_pull_27 H (fun x6 H => ?_)
    refine r_iload_n K 3 dX4_pull_30 rfl rfl ?_
    refine r_iconst (v := 1) K dX4_pull_31 (by decide) ?_
    refine r_iadd K dX4_pull_32 ?_
    refine w_lald K dX4_pull_33 H (fun x7 H => ?_)
    refine r_ladd K dX4_pull_34 ?_
    refine r_lstore_n K [(3, .long _), (0, .ref _), (1, .ref _), (2, .int _)] dX4_pull_35 rfl (by decide) rfl ?_
    exact r_sub [1, 2, 3, 0] rfl (t_X4_pull_36 K hl H D)
theorem c_X4_pull (l : Launch) {n : Nat} {Y : jY} {v0 : Nat} {v1 : Nat} {v2 : Int32} {μ : jM} {z : Int64 × jM} (H : f_X4_pull Y v0 v1 v2 μ = some z) : jC l yX4_pull cX4_pull 5 (some .long) 1 0 0 [.ref v0, .ref v1, .int v2] n Y μ n Y (some (.long z.1)) z.2 := by
  refine jC_of (by decide +kernel) (Nat.le_of_ble_eq_true rfl) (fun X hl K _ _ _ => ?_)
  obtain ⟨rr, μr⟩ := z
  exact t_X4_pull_0 K hl H rfl
/-! RX4 swing(LChainTables$WholeTable;III)J -/
def b_X4_swing_91 (Y : jY) (v0 : Nat) (v1 : Nat) (v3 : Int32) (v4 : Int32) (v5 : Int32) (v6 : Int32) (μ : jM) : Option ((Int32 × jM) ⊕ ((Int32 × jM) ⊕ (Int64 × jM))) :=
  (jgI Y μ v1 10 0).bind fun x1 =>
  if x1 ≤ v6 then
    some (.inr (.inl ((v5 + (1 : Int32)), μ)))
  else
    (jgO Y μ v0 4 2).bind fun x2 =>
    (jaL Y μ x2 21 v6).bind fun x3 =>
    (jrcv Y v0 4 (f_X4_pull Y v0 v1 v6 μ)).bind fun r4 =>
    (jas Y r4.2 x2 21 v6 (.long ((x3 - r4.1)))).bind fun μ5 =>
    some (.inl ((v6 + (1 : Int32)), μ5))
def b_X4_swing_56 (Y : jY) (v0 : Nat) (v1 : Nat) (v3 : Int32) (v4 : Int32) (v5 : Int32) (v6 : Int32) (μ : jM) : Option ((Int32 × jM) ⊕ ((Int32 × jM) ⊕ (Int64 × jM))) :=
  (jgI Y μ v1 10 0).bind fun x1 =>
  if x1 ≤ v6 then
    (jit jF (fun (s : Int32 × jM) => b_X4_swing_91 Y v0 v1 v3 v4 v5 s.1 s.2) ((0 : Int32), μ)).map (fun r => (.inr r))
  else
    (jgO Y μ v0 4 1).bind fun x2 =>
    (jaL Y μ x2 21 v6).bind fun x3 =>
    (jgO Y μ v0 4 2).bind fun x4 =>
    (jaL Y μ x4 21 v6).bind fun x5 =>
    (jas Y μ x2 21 v6 (.long ((x3 + x5)))).bind fun μ6 =>
    some (.inl ((v6 + (1 : Int32)), μ6))
def b_X4_swing_47 (Y : jY) (v0 : Nat) (v1 : Nat) (v3 : Int32) (v4 : Int32) (v5 : Int32) (μ : jM) : Option ((Int32 × jM) ⊕ (Int64 × jM)) :=
  if v3 ≤ v5 then
    (jgO Y μ v0 4 1).bind fun x1 =>
    (jaL Y μ x1 21 v4).bind fun x2 =>
    some (.inr (x2, μ))
  else
    jit jF (fun (s : Int32 × jM) => b_X4_swing_56 Y v0 v1 v3 v4 v5 s.1 s.2) ((0 : Int32), μ)
def b_X4_swing_37 (Y : jY) (v0 : Nat) (v1 : Nat) (v2 : Int32) (v3 : Int32) (v4 : Int32) (v5 : Int32) (t0 : Nat) (t1 : Int32) (t2 : Int64) (μ : jM) : Option ((Int32 × jM) ⊕ (Int64 × jM)) :=
  (jas Y μ t0 21 t1 (.long t2)).bind fun μ1 =>
  some (.inl ((v5 + (1 : Int32)), μ1))
def b_X4_swing_3 (Y : jY) (v0 : Nat) (v1 : Nat) (v2 : Int32) (v3 : Int32) (v4 : Int32) (v5 : Int32) (μ : jM) : Option ((Int32 × jM) ⊕ (Int64 × jM)) :=
  (jgI Y μ v1 10 0).bind fun x1 =>
  if x1 ≤ v5 then
    (jit jF (fun (s : Int32 × jM) => b_X4_swing_47 Y v0 v1 v3 v4 s.1 s.2) ((0 : Int32), μ)).map (fun r => (.inr r))
  else
    (jgO Y μ v0 4 1).bind fun x2 =>
    (jas Y μ x2 21 v5 (.long ((0 : Int64)))).bind fun μ3 =>
    (jgO Y μ3 v0 4 2).bind fun x4 =>
    if v5 = v2 then
      b_X4_swing_37 Y v0 v1 v2 v3 v4 v5 x4 v5 (1 : Int64) μ3
    else
      b_X4_swing_37 Y v0 v1 v2 v3 v4 v5 x4 v5 (0 : Int64) μ3
def f_X4_swing (Y : jY) (v0 : Nat) (v1 : Nat) (v2 : Int32) (v3 : Int32) (v4 : Int32) (μ : jM) : Option (Int64 × jM) :=
  jit jF (fun (s : Int32 × jM) => b_X4_swing_3 Y v0 v1 v2 v3 v4 s.1 s.2) ((0 : Int32), μ)
set_option maxRecDepth 10000 in
theorem t_X4_swing_91 {X : jX} {l : Launch} {n : Nat} {Y : jY} (K : jOK X RX4 cX4_swing 7 (some .long) 2) (hl : X.2.1 = l) {rr : Int64} {μr : jM} {v0 : Nat} {v1 : Nat} {v3 : Int32} {v4 : Int32} {v5 : Int32} {v6 : Int32} {μ : jM} {z : ((Int32 × jM) ⊕ ((Int32 × jM) ⊕ (Int64 × jM)))} (H : b_X4_swing_91 Y v0 v1 v3 v4 v5 v6 μ = some z) (D : Sum.elim (fun (s : Int32 × jM) => JW X (jEnd X n Y (some (.long rr)) μr 0 0) 0 0 n Y 91 [(0, .ref v0), (1, .ref v1), (3, .int v3), (4, .int v4), (5, .int v5), (6, .int s.1)] [] s.2) (Sum.elim (fun (s : Int32 × jM) => JW X (jEnd X n Y (some (.long rr)) μr 0 0) 0 0 n Y 47 [(0, .ref v0), (1, .ref v1), (3, .int v3), (4, .int v4), (5, .int s.1)] [] s.2) (fun r => r = (rr, μr))) z) : JW X (jEnd X n Y (some (.long rr)) μr 0 0) 0 0 n Y 91 [(0, .ref v0), (1, .ref v1), (3, .int v3), (4, .int v4), (5, .int v5), (6, .int v6)] [] μ := by
  unfold b_X4_swing_91 at H
  refine r_iload K 5 dX4_swing_91 rfl ?_
  refine r_aload_n K 1 dX4_swing_93 rfl rfl ?_
  refine w_getI K vc10 inX10 0 (by decide) mF_RX4_23 dX4_swing_94 H (fun x1 H => ?_)
  refine w_icmp_ge K 123 dX4_swing_97 (by decide) H (fun _ H => ?_) (fun _ H => ?_)
  · refine r_iinc K 4 [(5, .int _), (0, .ref _), (1, .ref _), (3, .int _), (4, .int _), (6, .int _)] (v := _ + (1 : Int32)) dX4_swing_123 rfl rfl (by decide) rfl ?_
    refine r_goto K 47 dX4_swing_126 (by decide) ?_
    cases H
    exact r_sub [1, 2, 3, 4, 0] rfl D
  · refine r_aload_n K 0 dX4_swing_100 rfl rfl ?_
    refine w_getO K vc4 inX4 2 (by decide) mF_RX4_20 dX4_swing_101 H (fun x2 H => ?_)
    refine r_iload K 5 dX4_swing_104 rfl ?_
    refine r_dup2_11 K dX4_swing_106 rfl rfl ?_
    refine w_lald K dX4_swing_107 H (fun x3 H => ?_)
    refine r_aload_n K 0 dX4_swing_108 rfl rfl ?_
    refine r_aload_n K 1 dX4_swing_109 rfl rfl ?_
    refine r_iload K 5 dX4_swing_110 rfl ?_
    refine w_callV K hl H (fun r h => c_X4_pull l h) mC_yX4_pull mM_RX4_36 mI_yX4_pull mS_yX4_pull mZ_RX4 vc4 (Nat.le_of_ble_eq_true rfl) (Nat.le_of_ble_eq_true rfl) np_yX4_pull rfl (Nat.le_of_ble_eq_true rfl) dX4_swing_112 (fun r4 H => ?_) ⟨Nat.zero_le _, Nat.zero_le _⟩
    refine r_lsub K dX4_swing_115 ?_
    refine w_last K dX4_swing_116 H (fun μ5 H => ?_)
    refine r_iinc K 5 [(6, .int _), (0, .ref _), (1, .ref _), (3, .int _), (4, .int _), (5, .int _)] (v := _ + (1 : Int32)) dX4_swing_117 rfl rfl (by decide) rfl ?_
    refine r_goto K 91 dX4_swing_120 (by decide) ?_
    cases H
    exact r_sub [1, 2, 3, 4, 5, 0] rfl D
set_option maxRecDepth 10000 in
theorem l_X4_swing_91 {X : jX} {l : Launch} {n : Nat} {Y : jY} (K : jOK X RX4 cX4_swing 7 (some .long) 2) (hl : X.2.1 = l) {rr : Int64} {μr : jM} {v0 : Nat} {v1 : Nat} {v3 : Int32} {v4 : Int32} {v5 : Int32}  {s0 : Int32 × jM} {z : ((Int32 × jM) ⊕ (Int64 × jM))} (H : jit jF (fun (s : Int32 × jM) => b_X4_swing_91 Y v0 v1 v3 v4 v5 s.1 s.2) s0 = some z) (D : Sum.elim (fun (s : Int32 × jM) => JW X (jEnd X n Y (some (.long rr)) μr 0 0) 0 0 n Y 47 [(0, .ref v0), (1, .ref v1), (3, .int v3), (4, .int v4), (5, .int s.1)] [] s.2) (fun r => r = (rr, μr)) z) : JW X (jEnd X n Y (some (.long rr)) μr 0 0) 0 0 n Y 91 [(0, .ref v0), (1, .ref v1), (3, .int v3), (4, .int v4), (5, .int v5), (6, .int s0.1)] [] s0.2 :=
  jit_ind (P := fun (s : Int32 × jM) => JW X (jEnd X n Y (some (.long rr)) μr 0 0) 0 0 n Y 91 [(0, .ref v0), (1, .ref v1), (3, .int v3), (4, .int v4), (5, .int v5), (6, .int s.1)] [] s.2) (D := Sum.elim (fun (s : Int32 × jM) => JW X (jEnd X n Y (some (.long rr)) μr 0 0) 0 0 n Y 47 [(0, .ref v0), (1, .ref v1), (3, .int v3), (4, .int v4), (5, .int s.1)] [] s.2) (fun r => r = (rr, μr))) (fun s z Hs Ds => t_X4_swing_91 K hl Hs Ds) jF s0 z H D
set_option maxRecDepth 10000 in
theorem t_X4_swing_56 {X : jX} {l : Launch} {n : Nat} {Y : jY} (K : jOK X RX4 cX4_swing 7 (some .long) 2) (hl : X.2.1 = l) {rr : Int64} {μr : jM} {v0 : Nat} {v1 : Nat} {v3 : Int32} {v4 : Int32} {v5 : Int32} {v6 : Int32} {μ : jM} {z : ((Int32 × jM) ⊕ ((Int32 × jM) ⊕ (Int64 × jM)))} (H : b_X4_swing_56 Y v0 v1 v3 v4 v5 v6 μ = some z) (D : Sum.elim (fun (s : Int32 × jM) => JW X (jEnd X n Y (some (.long rr)) μr 0 0) 0 0 n Y 56 [(0, .ref v0), (1, .ref v1), (3, .int v3), (4, .int v4), (5, .int v5), (6, .int s.1)] [] s.2) (Sum.elim (fun (s : Int32 × jM) => JW X (jEnd X n Y (some (.long rr)) μr 0 0) 0 0 n Y 47 [(0, .ref v0), (1, .ref v1), (3, .int v3), (4, .int v4), (5, .int s.1)] [] s.2) (fun r => r = (rr, μr))) z) : JW X (jEnd X n Y (some (.long rr)) μr 0 0) 0 0 n Y 56 [(0, .ref v0), (1, .ref v1), (3, .int v3), (4, .int v4), (5, .int v5), (6, .int v6)] [] μ := by
  unfold b_X4_swing_56 at H
  refine r_iload K 5 dX4_swing_56 rfl ?_
  refine r_aload_n K 1 dX4_swing_58 rfl rfl ?_
  refine w_getI K vc10 inX10 0 (by decide) mF_RX4_23 dX4_swing_59 H (fun x1 H => ?_)
  refine w_icmp_ge K 88 dX4_swing_62 (by decide) H (fun _ H => ?_) (fun _ H => ?_)
  · refine r_iconst (v := 0) K dX4_swing_88 (by decide) ?_
    refine r_istore K [(6, .int _), (0, .ref _), (1, .ref _), (3, .int _), (4, .int _), (5, .int _)] dX4_swing_89 (by decide) rfl ?_
    obtain ⟨z2, H2, rfl⟩ := jmap H
    exact r_sub [1, 2, 3, 4, 5, 0] rfl (l_X4_swing_91 K hl H2 D)
  · refine r_aload_n K 0 dX4_swing_65 rfl rfl ?_
    refine w_getO K vc4 inX4 1 (by decide) mF_RX4_16 dX4_swing_66 H (fun x2 H => ?_)
    refine r_iload K 5 dX4_swing_69 rfl ?_
    refine r_dup2_11 K dX4_swing_71 rfl rfl ?_
    refine w_lald K dX4_swing_72 H (fun x3 H => ?_)
    refine r_aload_n K 0 dX4_swing_73 rfl rfl ?_
    refine w_getO K vc4 inX4 2 (by decide) mF_RX4_20 dX4_swing_74 H (fun x4 H => ?_)
    refine r_iload K 5 dX4_swing_77 rfl ?_
    refine w_lald K dX4_swing_79 H (fun x5 H => ?_)
    refine r_ladd K dX4_swing_80 ?_
    refine w_last K dX4_swing_81 H (fun μ6 H => ?_)
    refine r_iinc K 5 [(6, .int _), (0, .ref _), (1, .ref _), (3, .int _), (4, .int _), (5, .int _)] (v := _ + (1 : Int32)) dX4_swing_82 rfl rfl (by decide) rfl ?_
    refine r_goto K 56 dX4_swing_85 (by decide) ?_
    cases H
    exact r_sub [1, 2, 3, 4, 5, 0] rfl D
set_option maxRecDepth 10000 in
theorem l_X4_swing_56 {X : jX} {l : Launch} {n : Nat} {Y : jY} (K : jOK X RX4 cX4_swing 7 (some .long) 2) (hl : X.2.1 = l) {rr : Int64} {μr : jM} {v0 : Nat} {v1 : Nat} {v3 : Int32} {v4 : Int32} {v5 : Int32}  {s0 : Int32 × jM} {z : ((Int32 × jM) ⊕ (Int64 × jM))} (H : jit jF (fun (s : Int32 × jM) => b_X4_swing_56 Y v0 v1 v3 v4 v5 s.1 s.2) s0 = some z) (D : Sum.elim (fun (s : Int32 × jM) => JW X (jEnd X n Y (some (.long rr)) μr 0 0) 0 0 n Y 47 [(0, .ref v0), (1, .ref v1), (3, .int v3), (4, .int v4), (5, .int s.1)] [] s.2) (fun r => r = (rr, μr)) z) : JW X (jEnd X n Y (some (.long rr)) μr 0 0) 0 0 n Y 56 [(0, .ref v0), (1, .ref v1), (3, .int v3), (4, .int v4), (5, .int v5), (6, .int s0.1)] [] s0.2 :=
  jit_ind (P := fun (s : Int32 × jM) => JW X (jEnd X n Y (some (.long rr)) μr 0 0) 0 0 n Y 56 [(0, .ref v0), (1, .ref v1), (3, .int v3), (4, .int v4), (5, .int v5), (6, .int s.1)] [] s.2) (D := Sum.elim (fun (s : Int32 × jM) => JW X (jEnd X n Y (some (.long rr)) μr 0 0) 0 0 n Y 47 [(0, .ref v0), (1, .ref v1), (3, .int v3), (4, .int v4), (5, .int s.1)] [] s.2) (fun r => r = (rr, μr))) (fun s z Hs Ds => t_X4_swing_56 K hl Hs Ds) jF s0 z H D
set_option maxRecDepth 10000 in
theorem t_X4_swing_47 {X : jX} {l : Launch} {n : Nat} {Y : jY} (K : jOK X RX4 cX4_swing 7 (some .long) 2) (hl : X.2.1 = l) {rr : Int64} {μr : jM} {v0 : Nat} {v1 : Nat} {v3 : Int32} {v4 : Int32} {v5 : Int32} {μ : jM} {z : ((Int32 × jM) ⊕ (Int64 × jM))} (H : b_X4_swing_47 Y v0 v1 v3 v4 v5 μ = some z) (D : Sum.elim (fun (s : Int32 × jM) => JW X (jEnd X n Y (some (.long rr)) μr 0 0) 0 0 n Y 47 [(0, .ref v0), (1, .ref v1), (3, .int v3), (4, .int v4), (5, .int s.1)] [] s.2) (fun r => r = (rr, μr)) z) : JW X (jEnd X n Y (some (.long rr)) μr 0 0) 0 0 n Y 47 [(0, .ref v0), (1, .ref v1), (3, .int v3), (4, .int v4), (5, .int v5)] [] μ := by
  unfold b_X4_swing_47 at H
  refine r_iload K 4 dX4_swing_47 rfl ?_
  refine r_iload_n K 2 dX4_swing_49 rfl rfl ?_
  refine w_icmp_ge K 129 dX4_swing_50 (by decide) H (fun _ H => ?_) (fun _ H => ?_)
  · refine r_aload_n K 0 dX4_swing_129 rfl rfl ?_
    refine w_getO K vc4 inX4 1 (by decide) mF_RX4_16 dX4_swing_130 H (fun x1 H => ?_)
    refine r_iload K 3 dX4_swing_133 rfl ?_
    refine w_lald K dX4_swing_135 H (fun x2 H => ?_)
    cases H
    simp only [Sum.elim_inr] at D
    obtain ⟨rfl, rfl⟩ := jfin2 D
    exact r_lret K dX4_swing_136
  · refine r_iconst (v := 0) K dX4_swing_53 (by decide) ?_
    refine r_istore K [(6, .int _), (0, .ref _), (1, .ref _), (3, .int _), (4, .int _), (5, .int _)] dX4_swing_54 (by decide) rfl ?_
    exact r_sub [1, 2, 3, 4, 5, 0] rfl (l_X4_swing_56 K hl H D)
set_option maxRecDepth 10000 in
theorem l_X4_swing_47 {X : jX} {l : Launch} {n : Nat} {Y : jY} (K : jOK X RX4 cX4_swing 7 (some .long) 2) (hl : X.2.1 = l) {rr : Int64} {μr : jM} {v0 : Nat} {v1 : Nat} {v3 : Int32} {v4 : Int32}  {s0 : Int32 × jM} {z : (Int64 × jM)} (H : jit jF (fun (s : Int32 × jM) => b_X4_swing_47 Y v0 v1 v3 v4 s.1 s.2) s0 = some z) (D : z = (rr, μr)) : JW X (jEnd X n Y (some (.long rr)) μr 0 0) 0 0 n Y 47 [(0, .ref v0), (1, .ref v1), (3, .int v3), (4, .int v4), (5, .int s0.1)] [] s0.2 :=
  jit_ind (P := fun (s : Int32 × jM) => JW X (jEnd X n Y (some (.long rr)) μr 0 0) 0 0 n Y 47 [(0, .ref v0), (1, .ref v1), (3, .int v3), (4, .int v4), (5, .int s.1)] [] s.2) (D := fun r => r = (rr, μr)) (fun s z Hs Ds => t_X4_swing_47 K hl Hs Ds) jF s0 z H D
set_option maxRecDepth 10000 in
theorem t_X4_swing_37 {X : jX} {l : Launch} {n : Nat} {Y : jY} (K : jOK X RX4 cX4_swing 7 (some .long) 2) (hl : X.2.1 = l) {rr : Int64} {μr : jM} {v0 : Nat} {v1 : Nat} {v2 : Int32} {v3 : Int32} {v4 : Int32} {v5 : Int32} {t0 : Nat} {t1 : Int32} {t2 : Int64} {μ : jM} {z : ((Int32 × jM) ⊕ (Int64 × jM))} (H : b_X4_swing_37 Y v0 v1 v2 v3 v4 v5 t0 t1 t2 μ = some z) (D : Sum.elim (fun (s : Int32 × jM) => JW X (jEnd X n Y (some (.long rr)) μr 0 0) 0 0 n Y 3 [(0, .ref v0), (1, .ref v1), (2, .int v2), (3, .int v3), (4, .int v4), (5, .int s.1)] [] s.2) (fun r => r = (rr, μr)) z) : JW X (jEnd X n Y (some (.long rr)) μr 0 0) 0 0 n Y 37 [(0, .ref v0), (1, .ref v1), (2, .int v2), (3, .int v3), (4, .int v4), (5, .int v5)] [.long t2, .int t1, .ref t0] μ := by
  unfold b_X4_swing_37 at H
  refine w_last K dX4_swing_37 H (fun μ1 H => ?_)
  refine r_iinc K 5 [(5, .int _), (0, .ref _), (1, .ref _), (2, .int _), (3, .int _), (4, .int _)] (v := _ + (1 : Int32)) dX4_swing_38 rfl rfl (by decide) rfl ?_
  refine r_goto K 3 dX4_swing_41 (by decide) ?_
  cases H
  exact r_sub [1, 2, 3, 4, 5, 0] rfl D
set_option maxRecDepth 10000 in
theorem t_X4_swing_3 {X : jX} {l : Launch} {n : Nat} {Y : jY} (K : jOK X RX4 cX4_swing 7 (some .long) 2) (hl : X.2.1 = l) {rr : Int64} {μr : jM} {v0 : Nat} {v1 : Nat} {v2 : Int32} {v3 : Int32} {v4 : Int32} {v5 : Int32} {μ : jM} {z : ((Int32 × jM) ⊕ (Int64 × jM))} (H : b_X4_swing_3 Y v0 v1 v2 v3 v4 v5 μ = some z) (D : Sum.elim (fun (s : Int32 × jM) => JW X (jEnd X n Y (some (.long rr)) μr 0 0) 0 0 n Y 3 [(0, .ref v0), (1, .ref v1), (2, .int v2), (3, .int v3), (4, .int v4), (5, .int s.1)] [] s.2) (fun r => r = (rr, μr)) z) : JW X (jEnd X n Y (some (.long rr)) μr 0 0) 0 0 n Y 3 [(0, .ref v0), (1, .ref v1), (2, .int v2), (3, .int v3), (4, .int v4), (5, .int v5)] [] μ := by
  unfold b_X4_swing_3 at H
  refine r_iload K 5 dX4_swing_3 rfl ?_
  refine r_aload_n K 1 dX4_swing_5 rfl rfl ?_
  refine w_getI K vc10 inX10 0 (by decide) mF_RX4_23 dX4_swing_6 H (fun x1 H => ?_)
  refine w_icmp_ge K 44 dX4_swing_9 (by decide) H (fun _ H => ?_) (fun _ H => ?_)
  · refine r_iconst (v := 0) K dX4_swing_44 (by decide) ?_
    refine r_istore K [(5, .int _), (0, .ref _), (1, .ref _), (2, .int _), (3, .int _), (4, .int _)] dX4_swing_45 (by decide) rfl ?_
    obtain ⟨z2, H2, rfl⟩ := jmap H
    exact r_sub [1, 2, 4, 5, 0] rfl (l_X4_swing_47 K hl H2 D)
  · refine r_aload_n K 0 dX4_swing_12 rfl rfl ?_
    refine w_getO K vc4 inX4 1 (by decide) mF_RX4_16 dX4_swing_13 H (fun x2 H => ?_)
    refine r_iload K 5 dX4_swing_16 rfl ?_
    refine r_lconst (v := 0) K dX4_swing_18 (by decide) ?_
    refine w_last K dX4_swing_19 H (fun μ3 H => ?_)
    refine r_aload_n K 0 dX4_swing_20 rfl rfl ?_
    refine w_getO K vc4 inX4 2 (by decide) mF_RX4_20 dX4_swing_21 H (fun x4 H => ?_)
    refine r_iload K 5 dX4_swing_24 rfl ?_
    refine r_iload K 5 dX4_swing_26 rfl ?_
    refine r_iload_n K 2 dX4_swing_28 rfl rfl ?_
    refine w_icmp_ne K 36 dX4_swing_29 (by decide) H (fun _ H => ?_) (fun _ H => ?_)
    · refine r_lconst (v := 0) K dX4_swing_36 (by decide) ?_
      exact r_sub [0, 1, 2, 3, 4, 5] rfl (t_X4_swing_37 K hl H D)
    · refine r_lconst (v := 1) K dX4_swing_32 (by decide) ?_
      refine r_goto K 37 dX4_swing_33 (by decide) ?_
      exact r_sub [0, 1, 2, 3, 4, 5] rfl (t_X4_swing_37 K hl H D)
set_option maxRecDepth 10000 in
theorem l_X4_swing_3 {X : jX} {l : Launch} {n : Nat} {Y : jY} (K : jOK X RX4 cX4_swing 7 (some .long) 2) (hl : X.2.1 = l) {rr : Int64} {μr : jM} {v0 : Nat} {v1 : Nat} {v2 : Int32} {v3 : Int32} {v4 : Int32}  {s0 : Int32 × jM} {z : (Int64 × jM)} (H : jit jF (fun (s : Int32 × jM) => b_X4_swing_3 Y v0 v1 v2 v3 v4 s.1 s.2) s0 = some z) (D : z = (rr, μr)) : JW X (jEnd X n Y (some (.long rr)) μr 0 0) 0 0 n Y 3 [(0, .ref v0), (1, .ref v1), (2, .int v2), (3, .int v3), (4, .int v4), (5, .int s0.1)] [] s0.2 :=
  jit_ind (P := fun (s : Int32 × jM) => JW X (jEnd X n Y (some (.long rr)) μr 0 0) 0 0 n Y 3 [(0, .ref v0), (1, .ref v1), (2, .int v2), (3, .int v3), (4, .int v4), (5, .int s.1)] [] s.2) (D := fun r => r = (rr, μr)) (fun s z Hs Ds => t_X4_swing_3 K hl Hs Ds) jF s0 z H D
set_option maxRecDepth 10000 in
theorem t_X4_swing_0 {X : jX} {l : Launch} {n : Nat} {Y : jY} (K : jOK X RX4 cX4_swing 7 (some .long) 2) (hl : X.2.1 = l) {rr : Int64} {μr : jM} {v0 : Nat} {v1 : Nat} {v2 : Int32} {v3 : Int32} {v4 : Int32} {μ : jM} {z : (Int64 × jM)} (H : f_X4_swing Y v0 v1 v2 v3 v4 μ = some z) (D : z = (rr, μr)) : JW X (jEnd X n Y (some (.long rr)) μr 0 0) 0 0 n Y 0 [(0, .ref v0), (1, .ref v1), (2, .int v2), (3, .int v3), (4, .int v4)] [] μ := by
  unfold f_X4_swing at H
  refine r_iconst (v := 0) K dX4_swing_0 (by decide) ?_
  refine r_istore K [(5, .int _), (0, .ref _), (1, .ref _), (2, .int _), (3, .int _), (4, .int _)] dX4_swing_1 (by decide) rfl ?_
  exact r_sub [1, 2, 3, 4, 5, 0] rfl (l_X4_swing_3 K hl H D)
theorem c_X4_swing (l : Launch) {n : Nat} {Y : jY} {v0 : Nat} {v1 : Nat} {v2 : Int32} {v3 : Int32} {v4 : Int32} {μ : jM} {z : Int64 × jM} (H : f_X4_swing Y v0 v1 v2 v3 v4 μ = some z) : jC l yX4_swing cX4_swing 7 (some .long) 2 0 0 [.ref v0, .ref v1, .int v2, .int v3, .int v4] n Y μ n Y (some (.long z.1)) z.2 := by
  refine jC_of (by decide +kernel) (Nat.le_of_ble_eq_true rfl) (fun X hl K _ _ _ => ?_)
  obtain ⟨rr, μr⟩ := z
  exact t_X4_swing_0 K hl H rfl
/-! RX4 multiplyOut(LChainTables$WholeTable;)V -/
def b_X4_multiplyOut_114 (Y : jY) (v0 : Nat) (v1 : Nat) (v2 : Int32) (v3 : Int32) (v4 : Int64) (μ : jM) : Option ((Int32 × jM) ⊕ ((Int32 × jM) ⊕ (jM))) :=
  (jgO Y μ v0 4 0).bind fun x1 =>
  (jaO Y μ x1 26 ((v2 + ((1 : Int32))))).bind fun x2 =>
  (jas Y μ x2 21 v3 (.long v4)).bind fun μ3 =>
  some (.inl ((v3 + (1 : Int32)), μ3))
def b_X4_multiplyOut_85 (Y : jY) (v0 : Nat) (v1 : Nat) (v2 : Int32) (v3 : Int32) (v4 : Int64) (μ : jM) : Option ((Int32 × jM) ⊕ ((Int32 × jM) ⊕ (jM))) :=
  if v2 ≤ 0 then
    b_X4_multiplyOut_114 Y v0 v1 v2 v3 v4 μ
  else
    (jgO Y μ v1 10 2).bind fun x1 =>
    (jaI Y μ x1 20 ((v2 - ((1 : Int32))))).bind fun x2 =>
    (jgO Y μ v0 4 0).bind fun x3 =>
    (jaO Y μ x3 26 ((v2 - ((1 : Int32))))).bind fun x4 =>
    (jaL Y μ x4 21 v3).bind fun x5 =>
    b_X4_multiplyOut_114 Y v0 v1 v2 v3 (v4 - ((((x2.toInt64)) * x5))) μ
def b_X4_multiplyOut_42 (Y : jY) (v0 : Nat) (v1 : Nat) (v2 : Int32) (v3 : Int32) (μ : jM) : Option ((Int32 × jM) ⊕ ((Int32 × jM) ⊕ (jM))) :=
  if ((5 : Int32)) < v3 then
    some (.inr (.inl ((v2 + (1 : Int32)), μ)))
  else
    (jgO Y μ v1 10 1).bind fun x1 =>
    (jaI Y μ x1 20 v2).bind fun x2 =>
    (jgO Y μ v0 4 0).bind fun x3 =>
    (jaO Y μ x3 26 v2).bind fun x4 =>
    (jaL Y μ x4 21 v3).bind fun x5 =>
    if v3 ≤ 0 then
      b_X4_multiplyOut_85 Y v0 v1 v2 v3 (((((-x2)).toInt64)) * x5) μ
    else
      (jgO Y μ v0 4 0).bind fun x6 =>
      (jaO Y μ x6 26 v2).bind fun x7 =>
      (jaL Y μ x7 21 ((v3 - ((1 : Int32))))).bind fun x8 =>
      b_X4_multiplyOut_85 Y v0 v1 v2 v3 (((((((-x2)).toInt64)) * x5)) + x8) μ
def b_X4_multiplyOut_32 (Y : jY) (v0 : Nat) (v1 : Nat) (v2 : Int32) (μ : jM) : Option ((Int32 × jM) ⊕ (jM)) :=
  (jgI Y μ v1 10 0).bind fun x1 =>
  if x1 ≤ v2 then
    some (.inr μ)
  else
    jit jF (fun (s : Int32 × jM) => b_X4_multiplyOut_42 Y v0 v1 v2 s.1 s.2) ((0 : Int32), μ)
def b_X4_multiplyOut_23 (Y : jY) (v0 : Nat) (v1 : Nat) (v2 : Int32) (t0 : Nat) (t1 : Int32) (t2 : Int64) (μ : jM) : Option ((Int32 × jM) ⊕ (jM)) :=
  (jas Y μ t0 21 t1 (.long t2)).bind fun μ1 =>
  some (.inl ((v2 + (1 : Int32)), μ1))
def b_X4_multiplyOut_2 (Y : jY) (v0 : Nat) (v1 : Nat) (v2 : Int32) (μ : jM) : Option ((Int32 × jM) ⊕ (jM)) :=
  if ((5 : Int32)) < v2 then
    (jit jF (fun (s : Int32 × jM) => b_X4_multiplyOut_32 Y v0 v1 s.1 s.2) ((0 : Int32), μ)).map (fun r => (.inr r))
  else
    (jgO Y μ v0 4 0).bind fun x1 =>
    (jaO Y μ x1 26 ((0 : Int32))).bind fun x2 =>
    if v2 = 0 then
      b_X4_multiplyOut_23 Y v0 v1 v2 x2 v2 (1 : Int64) μ
    else
      b_X4_multiplyOut_23 Y v0 v1 v2 x2 v2 (0 : Int64) μ
def f_X4_multiplyOut (Y : jY) (v0 : Nat) (v1 : Nat) (μ : jM) : Option (jM) :=
  jit jF (fun (s : Int32 × jM) => b_X4_multiplyOut_2 Y v0 v1 s.1 s.2) ((0 : Int32), μ)
set_option maxRecDepth 10000 in
theorem t_X4_multiplyOut_114 {X : jX} {l : Launch} {n : Nat} {Y : jY} (K : jOK X RX4 cX4_multiplyOut 6 none 1) (hl : X.2.1 = l) {μr : jM} {v0 : Nat} {v1 : Nat} {v2 : Int32} {v3 : Int32} {v4 : Int64} {μ : jM} {z : ((Int32 × jM) ⊕ ((Int32 × jM) ⊕ (jM)))} (H : b_X4_multiplyOut_114 Y v0 v1 v2 v3 v4 μ = some z) (D : Sum.elim (fun (s : Int32 × jM) => JW X (jEnd X n Y none μr 0 0) 0 0 n Y 42 [(0, .ref v0), (1, .ref v1), (2, .int v2), (3, .int s.1)] [] s.2) (Sum.elim (fun (s : Int32 × jM) => JW X (jEnd X n Y none μr 0 0) 0 0 n Y 32 [(0, .ref v0), (1, .ref v1), (2, .int s.1)] [] s.2) (fun r => r = μr)) z) : JW X (jEnd X n Y none μr 0 0) 0 0 n Y 114 [(0, .ref v0), (1, .ref v1), (2, .int v2), (3, .int v3), (4, .long v4)] [] μ := by
  unfold b_X4_multiplyOut_114 at H
  refine r_aload_n K 0 dX4_multiplyOut_114 rfl rfl ?_
  refine w_getO K vc4 inX4 0 (by decide) mF_RX4_11 dX4_multiplyOut_115 H (fun x1 H => ?_)
  refine r_iload_n K 2 dX4_multiplyOut_118 rfl rfl ?_
  refine r_iconst (v := 1) K dX4_multiplyOut_119 (by decide) ?_
  refine r_iadd K dX4_multiplyOut_120 ?_
  refine w_aald K 26 rfl rfl dX4_multiplyOut_121 H (fun x2 H => ?_)
  refine r_iload_n K 3 dX4_multiplyOut_122 rfl rfl ?_
  refine r_lload K 4 dX4_multiplyOut_123 rfl ?_
  refine w_last K dX4_multiplyOut_125 H (fun μ3 H => ?_)
  refine r_iinc K 3 [(3, .int _), (0, .ref _), (1, .ref _), (2, .int _), (4, .long _)] (v := _ + (1 : Int32)) dX4_multiplyOut_126 rfl rfl (by decide) rfl ?_
  refine r_goto K 42 dX4_multiplyOut_129 (by decide) ?_
  cases H
  exact r_sub [1, 2, 3, 0] rfl D
set_option maxRecDepth 10000 in
theorem t_X4_multiplyOut_85 {X : jX} {l : Launch} {n : Nat} {Y : jY} (K : jOK X RX4 cX4_multiplyOut 6 none 1) (hl : X.2.1 = l) {μr : jM} {v0 : Nat} {v1 : Nat} {v2 : Int32} {v3 : Int32} {v4 : Int64} {μ : jM} {z : ((Int32 × jM) ⊕ ((Int32 × jM) ⊕ (jM)))} (H : b_X4_multiplyOut_85 Y v0 v1 v2 v3 v4 μ = some z) (D : Sum.elim (fun (s : Int32 × jM) => JW X (jEnd X n Y none μr 0 0) 0 0 n Y 42 [(0, .ref v0), (1, .ref v1), (2, .int v2), (3, .int s.1)] [] s.2) (Sum.elim (fun (s : Int32 × jM) => JW X (jEnd X n Y none μr 0 0) 0 0 n Y 32 [(0, .ref v0), (1, .ref v1), (2, .int s.1)] [] s.2) (fun r => r = μr)) z) : JW X (jEnd X n Y none μr 0 0) 0 0 n Y 85 [(0, .ref v0), (1, .ref v1), (2, .int v2), (3, .int v3), (4, .long v4)] [] μ := by
  unfold b_X4_multiplyOut_85 at H
  refine r_iload_n K 2 dX4_multiplyOut_85 rfl rfl ?_
  refine w_if_le K 114 dX4_multiplyOut_86 (by decide) H (fun _ H => ?_) (fun _ H => ?_)
  · exact r_sub [0, 1, 2, 3, 4] rfl (t_X4_multiplyOut_114 K hl H D)
  · refine r_lload K 4 dX4_multiplyOut_89 rfl ?_
    refine r_aload_n K 1 dX4_multiplyOut_91 rfl rfl ?_
    refine w_getO K vc10 inX10 2 (by decide) mF_RX4_33 dX4_multiplyOut_92 H (fun x1 H => ?_)
    refine r_iload_n K 2 dX4_multiplyOut_95 rfl rfl ?_
    refine r_iconst (v := 1) K dX4_multiplyOut_96 (by decide) ?_
    refine r_isub K dX4_multiplyOut_97 ?_
    refine w_iald K dX4_multiplyOut_98 H (fun x2 H => ?_)
    refine r_i2l K dX4_multiplyOut_99 ?_
    refine r_aload_n K 0 dX4_multiplyOut_100 rfl rfl ?_
    refine w_getO K vc4 inX4 0 (by decide) mF_RX4_11 dX4_multiplyOut_101 H (fun x3 H => ?_)
    refine r_iload_n K 2 dX4_multiplyOut_104 rfl rfl ?_
    refine r_iconst (v := 1) K dX4_multiplyOut_105 (by decide) ?_
    refine r_isub K dX4_multiplyOut_106 ?_
    refine w_aald K 26 rfl rfl dX4_multiplyOut_107 H (fun x4 H => ?_)
    refine r_iload_n K 3 dX4_multiplyOut_108 rfl rfl ?_
    refine w_lald K dX4_multiplyOut_109 H (fun x5 H => ?_)
    refine r_lmul K dX4_multiplyOut_110 ?_
    refine r_lsub K dX4_multiplyOut_111 ?_
    refine r_lstore K [(4, .long _), (0, .ref _), (1, .ref _), (2, .int _), (3, .int _)] dX4_multiplyOut_112 (by decide) rfl ?_
    exact r_sub [1, 2, 3, 4, 0] rfl (t_X4_multiplyOut_114 K hl H D)
set_option maxRecDepth 10000 in
theorem t_X4_multiplyOut_42 {X : jX} {l : Launch} {n : Nat} {Y : jY} (K : jOK X RX4 cX4_multiplyOut 6 none 1) (hl : X.2.1 = l) {μr : jM} {v0 : Nat} {v1 : Nat} {v2 : Int32} {v3 : Int32} {μ : jM} {z : ((Int32 × jM) ⊕ ((Int32 × jM) ⊕ (jM)))} (H : b_X4_multiplyOut_42 Y v0 v1 v2 v3 μ = some z) (D : Sum.elim (fun (s : Int32 × jM) => JW X (jEnd X n Y none μr 0 0) 0 0 n Y 42 [(0, .ref v0), (1, .ref v1), (2, .int v2), (3, .int s.1)] [] s.2) (Sum.elim (fun (s : Int32 × jM) => JW X (jEnd X n Y none μr 0 0) 0 0 n Y 32 [(0, .ref v0), (1, .ref v1), (2, .int s.1)] [] s.2) (fun r => r = μr)) z) : JW X (jEnd X n Y none μr 0 0) 0 0 n Y 42 [(0, .ref v0), (1, .ref v1), (2, .int v2), (3, .int v3)] [] μ := by
  unfold b_X4_multiplyOut_42 at H
  refine r_iload_n K 3 dX4_multiplyOut_42 rfl rfl ?_
  refine r_iconst (v := 5) K dX4_multiplyOut_43 (by decide) ?_
  refine w_icmp_gt K 132 dX4_multiplyOut_44 (by decide) H (fun _ H => ?_) (fun _ H => ?_)
  · refine r_iinc K 2 [(2, .int _), (0, .ref _), (1, .ref _), (3, .int _)] (v := _ + (1 : Int32)) dX4_multiplyOut_132 rfl rfl (by decide) rfl ?_
    refine r_goto K 32 dX4_multiplyOut_135 (by decide) ?_
    cases H
    exact r_sub [1, 2, 0] rfl D
  · refine r_aload_n K 1 dX4_multiplyOut_47 rfl rfl ?_
    refine w_getO K vc10 inX10 1 (by decide) mF_RX4_29 dX4_multiplyOut_48 H (fun x1 H => ?_)
    refine r_iload_n K 2 dX4_multiplyOut_51 rfl rfl ?_
    refine w_iald K dX4_multiplyOut_52 H (fun x2 H => ?_)
    refine r_ineg K dX4_multiplyOut_53 ?_
    refine r_i2l K dX4_multiplyOut_54 ?_
    refine r_aload_n K 0 dX4_multiplyOut_55 rfl rfl ?_
    refine w_getO K vc4 inX4 0 (by decide) mF_RX4_11 dX4_multiplyOut_56 H (fun x3 H => ?_)
    refine r_iload_n K 2 dX4_multiplyOut_59 rfl rfl ?_
    refine w_aald K 26 rfl rfl dX4_multiplyOut_60 H (fun x4 H => ?_)
    refine r_iload_n K 3 dX4_multiplyOut_61 rfl rfl ?_
    refine w_lald K dX4_multiplyOut_62 H (fun x5 H => ?_)
    refine r_lmul K dX4_multiplyOut_63 ?_
    refine r_lstore K [(4, .long _), (0, .ref _), (1, .ref _), (2, .int _), (3, .int _)] dX4_multiplyOut_64 (by decide) rfl ?_
    refine r_iload_n K 4 dX4_multiplyOut_66 rfl rfl ?_
    refine w_if_le K 85 dX4_multiplyOut_67 (by decide) H (fun _ H => ?_) (fun _ H => ?_)
    · exact r_sub [1, 2, 3, 4, 0] rfl (t_X4_multiplyOut_85 K hl H D)
    · refine r_lload K 0 dX4_multiplyOut_70 rfl ?_
      refine r_aload_n K 1 dX4_multiplyOut_72 rfl rfl ?_
      refine w_getO K vc4 inX4 0 (by decide) mF_RX4_11 dX4_multiplyOut_73 H (fun x6 H => ?_)
      refine r_iload_n K 3 dX4_multiplyOut_76 rfl rfl ?_
      refine w_aald K 26 rfl rfl dX4_multiplyOut_77 H (fun x7 H => ?_)
      refine r_iload_n K 4 dX4_multiplyOut_78 rfl rfl ?_
      refine r_iconst (v := 1) K dX4_multiplyOut_79 (by decide) ?_
      refine r_isub K dX4_multiplyOut_80 ?_
      refine w_lald K dX4_multiplyOut_81 H (fun x8 H => ?_)
      refine r_ladd K dX4_multiplyOut_82 ?_
      refine r_lstore K [(4, .long _), (0, .ref _), (1, .ref _), (2, .int _), (3, .int _)] dX4_multiplyOut_83 (by decide) rfl ?_
      exact r_sub [1, 2, 3, 4, 0] rfl (t_X4_multiplyOut_85 K hl H D)
set_option maxRecDepth 10000 in
theorem l_X4_multiplyOut_42 {X : jX} {l : Launch} {n : Nat} {Y : jY} (K : jOK X RX4 cX4_multiplyOut 6 none 1) (hl : X.2.1 = l) {μr : jM} {v0 : Nat} {v1 : Nat} {v2 : Int32}  {s0 : Int32 × jM} {z : ((Int32 × jM) ⊕ (jM))} (H : jit jF (fun (s : Int32 × jM) => b_X4_multiplyOut_42 Y v0 v1 v2 s.1 s.2) s0 = some z) (D : Sum.elim (fun (s : Int32 × jM) => JW X (jEnd X n Y none μr 0 0) 0 0 n Y 32 [(0, .ref v0), (1, .ref v1), (2, .int s.1)] [] s.2) (fun r => r = μr) z) : JW X (jEnd X n Y none μr 0 0) 0 0 n Y 42 [(0, .ref v0), (1, .ref v1), (2, .int v2), (3, .int s0.1)] [] s0.2 :=
  jit_ind (P := fun (s : Int32 × jM) => JW X (jEnd X n Y none μr 0 0) 0 0 n Y 42 [(0, .ref v0), (1, .ref v1), (2, .int v2), (3, .int s.1)] [] s.2) (D := Sum.elim (fun (s : Int32 × jM) => JW X (jEnd X n Y none μr 0 0) 0 0 n Y 32 [(0, .ref v0), (1, .ref v1), (2, .int s.1)] [] s.2) (fun r => r = μr)) (fun s z Hs Ds => t_X4_multiplyOut_42 K hl Hs Ds) jF s0 z H D
set_option maxRecDepth 10000 in
theorem t_X4_multiplyOut_32 {X : jX} {l : Launch} {n : Nat} {Y : jY} (K : jOK X RX4 cX4_multiplyOut 6 none 1) (hl : X.2.1 = l) {μr : jM} {v0 : Nat} {v1 : Nat} {v2 : Int32} {μ : jM} {z : ((Int32 × jM) ⊕ (jM))} (H : b_X4_multiplyOut_32 Y v0 v1 v2 μ = some z) (D : Sum.elim (fun (s : Int32 × jM) => JW X (jEnd X n Y none μr 0 0) 0 0 n Y 32 [(0, .ref v0), (1, .ref v1), (2, .int s.1)] [] s.2) (fun r => r = μr) z) : JW X (jEnd X n Y none μr 0 0) 0 0 n Y 32 [(0, .ref v0), (1, .ref v1), (2, .int v2)] [] μ := by
  unfold b_X4_multiplyOut_32 at H
  refine r_iload_n K 2 dX4_multiplyOut_32 rfl rfl ?_
  refine r_aload_n K 1 dX4_multiplyOut_33 rfl rfl ?_
  refine w_getI K vc10 inX10 0 (by decide) mF_RX4_23 dX4_multiplyOut_34 H (fun x1 H => ?_)
  refine w_icmp_ge K 138 dX4_multiplyOut_37 (by decide) H (fun _ H => ?_) (fun _ H => ?_)
  · cases H
    simp only [Sum.elim_inr] at D
    subst D
    exact r_vret K dX4_multiplyOut_138
  · refine r_iconst (v := 0) K dX4_multiplyOut_40 (by decide) ?_
    refine r_istore_n K [(3, .int _), (0, .ref _), (1, .ref _), (2, .int _)] dX4_multiplyOut_41 rfl (by decide) rfl ?_
    exact r_sub [1, 2, 3, 0] rfl (l_X4_multiplyOut_42 K hl H D)
set_option maxRecDepth 10000 in
theorem l_X4_multiplyOut_32 {X : jX} {l : Launch} {n : Nat} {Y : jY} (K : jOK X RX4 cX4_multiplyOut 6 none 1) (hl : X.2.1 = l) {μr : jM} {v0 : Nat} {v1 : Nat}  {s0 : Int32 × jM} {z : (jM)} (H : jit jF (fun (s : Int32 × jM) => b_X4_multiplyOut_32 Y v0 v1 s.1 s.2) s0 = some z) (D : z = μr) : JW X (jEnd X n Y none μr 0 0) 0 0 n Y 32 [(0, .ref v0), (1, .ref v1), (2, .int s0.1)] [] s0.2 :=
  jit_ind (P := fun (s : Int32 × jM) => JW X (jEnd X n Y none μr 0 0) 0 0 n Y 32 [(0, .ref v0), (1, .ref v1), (2, .int s.1)] [] s.2) (D := fun r => r = μr) (fun s z Hs Ds => t_X4_multiplyOut_32 K hl Hs Ds) jF s0 z H D
set_option maxRecDepth 10000 in
theorem t_X4_multiplyOut_23 {X : jX} {l : Launch} {n : Nat} {Y : jY} (K : jOK X RX4 cX4_multiplyOut 6 none 1) (hl : X.2.1 = l) {μr : jM} {v0 : Nat} {v1 : Nat} {v2 : Int32} {t0 : Nat} {t1 : Int32} {t2 : Int64} {μ : jM} {z : ((Int32 × jM) ⊕ (jM))} (H : b_X4_multiplyOut_23 Y v0 v1 v2 t0 t1 t2 μ = some z) (D : Sum.elim (fun (s : Int32 × jM) => JW X (jEnd X n Y none μr 0 0) 0 0 n Y 2 [(0, .ref v0), (1, .ref v1), (2, .int s.1)] [] s.2) (fun r => r = μr) z) : JW X (jEnd X n Y none μr 0 0) 0 0 n Y 23 [(0, .ref v0), (1, .ref v1), (2, .int v2)] [.long t2, .int t1, .ref t0] μ := by
  unfold b_X4_multiplyOut_23 at H
  refine w_last K dX4_multiplyOut_23 H (fun μ1 H => ?_)
  refine r_iinc K 2 [(2, .int _), (0, .ref _), (1, .ref _)] (v := _ + (1 : Int32)) dX4_multiplyOut_24 rfl rfl (by decide) rfl ?_
  refine r_goto K 2 dX4_multiplyOut_27 (by decide) ?_
  cases H
  exact r_sub [1, 2, 0] rfl D
set_option maxRecDepth 10000 in
theorem t_X4_multiplyOut_2 {X : jX} {l : Launch} {n : Nat} {Y : jY} (K : jOK X RX4 cX4_multiplyOut 6 none 1) (hl : X.2.1 = l) {μr : jM} {v0 : Nat} {v1 : Nat} {v2 : Int32} {μ : jM} {z : ((Int32 × jM) ⊕ (jM))} (H : b_X4_multiplyOut_2 Y v0 v1 v2 μ = some z) (D : Sum.elim (fun (s : Int32 × jM) => JW X (jEnd X n Y none μr 0 0) 0 0 n Y 2 [(0, .ref v0), (1, .ref v1), (2, .int s.1)] [] s.2) (fun r => r = μr) z) : JW X (jEnd X n Y none μr 0 0) 0 0 n Y 2 [(0, .ref v0), (1, .ref v1), (2, .int v2)] [] μ := by
  unfold b_X4_multiplyOut_2 at H
  refine r_iload_n K 2 dX4_multiplyOut_2 rfl rfl ?_
  refine r_iconst (v := 5) K dX4_multiplyOut_3 (by decide) ?_
  refine w_icmp_gt K 30 dX4_multiplyOut_4 (by decide) H (fun _ H => ?_) (fun _ H => ?_)
  · refine r_iconst (v := 0) K dX4_multiplyOut_30 (by decide) ?_
    refine r_istore_n K [(2, .int _), (0, .ref _), (1, .ref _)] dX4_multiplyOut_31 rfl (by decide) rfl ?_
    obtain ⟨z2, H2, rfl⟩ := jmap H
    exact r_sub [1, 2, 0] rfl (l_X4_multiplyOut_32 K hl H2 D)
  · refine r_aload_n K 0 dX4_multiplyOut_7 rfl rfl ?_
    refine w_getO K vc4 inX4 0 (by decide) mF_RX4_11 dX4_multiplyOut_8 H (fun x1 H => ?_)
    refine r_iconst (v := 0) K dX4_multiplyOut_11 (by decide) ?_
    refine w_aald K 26 rfl rfl dX4_multiplyOut_12 H (fun x2 H => ?_)
    refine r_iload_n K 2 dX4_multiplyOut_13 rfl rfl ?_
    refine r_iload_n K 2 dX4_multiplyOut_14 rfl rfl ?_
    refine w_if_ne K 22 dX4_multiplyOut_15 (by decide) H (fun _ H => ?_) (fun _ H => ?_)
    · refine r_lconst (v := 0) K dX4_multiplyOut_22 (by decide) ?_
      exact r_sub [0, 1, 2] rfl (t_X4_multiplyOut_23 K hl H D)
    · refine r_lconst (v := 1) K dX4_multiplyOut_18 (by decide) ?_
      refine r_goto K 23 dX4_multiplyOut_19 (by decide) ?_
      exact r_sub [0, 1, 2] rfl (t_X4_multiplyOut_23 K hl H D)
set_option maxRecDepth 10000 in
theorem l_X4_multiplyOut_2 {X : jX} {l : Launch} {n : Nat} {Y : jY} (K : jOK X RX4 cX4_multiplyOut 6 none 1) (hl : X.2.1 = l) {μr : jM} {v0 : Nat} {v1 : Nat}  {s0 : Int32 × jM} {z : (jM)} (H : jit jF (fun (s : Int32 × jM) => b_X4_multiplyOut_2 Y v0 v1 s.1 s.2) s0 = some z) (D : z = μr) : JW X (jEnd X n Y none μr 0 0) 0 0 n Y 2 [(0, .ref v0), (1, .ref v1), (2, .int s0.1)] [] s0.2 :=
  jit_ind (P := fun (s : Int32 × jM) => JW X (jEnd X n Y none μr 0 0) 0 0 n Y 2 [(0, .ref v0), (1, .ref v1), (2, .int s.1)] [] s.2) (D := fun r => r = μr) (fun s z Hs Ds => t_X4_multiplyOut_2 K hl Hs Ds) jF s0 z H D
set_option maxRecDepth 10000 in
theorem t_X4_multiplyOut_0 {X : jX} {l : Launch} {n : Nat} {Y : jY} (K : jOK X RX4 cX4_multiplyOut 6 none 1) (hl : X.2.1 = l) {μr : jM} {v0 : Nat} {v1 : Nat} {μ : jM} {z : (jM)} (H : f_X4_multiplyOut Y v0 v1 μ = some z) (D : z = μr) : JW X (jEnd X n Y none μr 0 0) 0 0 n Y 0 [(0, .ref v0), (1, .ref v1)] [] μ := by
  unfold f_X4_multiplyOut at H
  refine r_iconst (v := 0) K dX4_multiplyOut_0 (by decide) ?_
  refine r_istore_n K [(2, .int _), (0, .ref _), (1, .ref _)] dX4_multiplyOut_1 rfl (by decide) rfl ?_
  exact r_sub [1, 2, 0] rfl (l_X4_multiplyOut_2 K hl H D)
theorem c_X4_multiplyOut (l : Launch) {n : Nat} {Y : jY} {v0 : Nat} {v1 : Nat} {μ : jM} {z : jM} (H : f_X4_multiplyOut Y v0 v1 μ = some z) : jC l yX4_multiplyOut cX4_multiplyOut 6 none 1 0 0 [.ref v0, .ref v1] n Y μ n Y none z := by
  refine jC_of (by decide +kernel) (Nat.le_of_ble_eq_true rfl) (fun X hl K _ _ _ => ?_)
  exact t_X4_multiplyOut_0 K hl H rfl
/-! RX4 walk(LChainTables$WholeTable;III)J -/
def b_X4_walk_81 (Y : jY) (v0 : Nat) (v1 : Nat) (v2 : Int32) (v3 : Int32) (v5 : Int32) (v6 : Int32) (μ : jM) : Option ((Int32 × jM) ⊕ ((Int32 × jM) ⊕ (Int64 × jM))) :=
  (jgI Y μ v1 10 0).bind fun x1 =>
  if x1 ≤ v6 then
    some (.inr (.inl ((v5 + (1 : Int32)), μ)))
  else
    (jgO Y μ v0 4 1).bind fun x2 =>
    (jgO Y μ v0 4 2).bind fun x3 =>
    (jaL Y μ x3 21 v6).bind fun x4 =>
    (jas Y μ x2 21 v6 (.long x4)).bind fun μ5 =>
    some (.inl ((v6 + (1 : Int32)), μ5))
def b_X4_walk_49 (Y : jY) (v0 : Nat) (v1 : Nat) (v2 : Int32) (v3 : Int32) (v5 : Int32) (v6 : Int32) (μ : jM) : Option ((Int32 × jM) ⊕ ((Int32 × jM) ⊕ (Int64 × jM))) :=
  (jgI Y μ v1 10 0).bind fun x1 =>
  if x1 ≤ v6 then
    (jit jF (fun (s : Int32 × jM) => b_X4_walk_81 Y v0 v1 v2 v3 v5 s.1 s.2) ((0 : Int32), μ)).map (fun r => (.inr r))
  else
    (jgO Y μ v0 4 2).bind fun x2 =>
    (jrcv Y v0 4 (f_X4_pull Y v0 v1 v6 μ)).bind fun r3 =>
    (jas Y r3.2 x2 21 v6 (.long r3.1)).bind fun μ4 =>
    some (.inl ((v6 + (1 : Int32)), μ4))
def b_X4_walk_40 (Y : jY) (v0 : Nat) (v1 : Nat) (v2 : Int32) (v3 : Int32) (v5 : Int32) (μ : jM) : Option ((Int32 × jM) ⊕ (Int64 × jM)) :=
  if v2 ≤ v5 then
    (jgO Y μ v0 4 1).bind fun x1 =>
    (jaL Y μ x1 21 v3).bind fun x2 =>
    some (.inr (x2, μ))
  else
    jit jF (fun (s : Int32 × jM) => b_X4_walk_49 Y v0 v1 v2 v3 v5 s.1 s.2) ((0 : Int32), μ)
def b_X4_walk_30 (Y : jY) (v0 : Nat) (v1 : Nat) (v2 : Int32) (v3 : Int32) (v4 : Int32) (v5 : Int32) (t0 : Nat) (t1 : Int32) (t2 : Int64) (μ : jM) : Option ((Int32 × jM) ⊕ (Int64 × jM)) :=
  (jas Y μ t0 21 t1 (.long t2)).bind fun μ1 =>
  some (.inl ((v5 + (1 : Int32)), μ1))
def b_X4_walk_3 (Y : jY) (v0 : Nat) (v1 : Nat) (v2 : Int32) (v3 : Int32) (v4 : Int32) (v5 : Int32) (μ : jM) : Option ((Int32 × jM) ⊕ (Int64 × jM)) :=
  (jgI Y μ v1 10 0).bind fun x1 =>
  if x1 ≤ v5 then
    (jit jF (fun (s : Int32 × jM) => b_X4_walk_40 Y v0 v1 v2 v3 s.1 s.2) ((0 : Int32), μ)).map (fun r => (.inr r))
  else
    (jgO Y μ v0 4 1).bind fun x2 =>
    if v5 = v4 then
      b_X4_walk_30 Y v0 v1 v2 v3 v4 v5 x2 v5 (1 : Int64) μ
    else
      b_X4_walk_30 Y v0 v1 v2 v3 v4 v5 x2 v5 (0 : Int64) μ
def f_X4_walk (Y : jY) (v0 : Nat) (v1 : Nat) (v2 : Int32) (v3 : Int32) (v4 : Int32) (μ : jM) : Option (Int64 × jM) :=
  jit jF (fun (s : Int32 × jM) => b_X4_walk_3 Y v0 v1 v2 v3 v4 s.1 s.2) ((0 : Int32), μ)
set_option maxRecDepth 10000 in
theorem t_X4_walk_81 {X : jX} {l : Launch} {n : Nat} {Y : jY} (K : jOK X RX4 cX4_walk 7 (some .long) 2) (hl : X.2.1 = l) {rr : Int64} {μr : jM} {v0 : Nat} {v1 : Nat} {v2 : Int32} {v3 : Int32} {v5 : Int32} {v6 : Int32} {μ : jM} {z : ((Int32 × jM) ⊕ ((Int32 × jM) ⊕ (Int64 × jM)))} (H : b_X4_walk_81 Y v0 v1 v2 v3 v5 v6 μ = some z) (D : Sum.elim (fun (s : Int32 × jM) => JW X (jEnd X n Y (some (.long rr)) μr 0 0) 0 0 n Y 81 [(0, .ref v0), (1, .ref v1), (2, .int v2), (3, .int v3), (5, .int v5), (6, .int s.1)] [] s.2) (Sum.elim (fun (s : Int32 × jM) => JW X (jEnd X n Y (some (.long rr)) μr 0 0) 0 0 n Y 40 [(0, .ref v0), (1, .ref v1), (2, .int v2), (3, .int v3), (5, .int s.1)] [] s.2) (fun r => r = (rr, μr))) z) : JW X (jEnd X n Y (some (.long rr)) μr 0 0) 0 0 n Y 81 [(0, .ref v0), (1, .ref v1), (2, .int v2), (3, .int v3), (5, .int v5), (6, .int v6)] [] μ := by
  unfold b_X4_walk_81 at H
  refine r_iload K 5 dX4_walk_81 rfl ?_
  refine r_aload_n K 1 dX4_walk_83 rfl rfl ?_
  refine w_getI K vc10 inX10 0 (by decide) mF_RX4_23 dX4_walk_84 H (fun x1 H => ?_)
  refine w_icmp_ge K 110 dX4_walk_87 (by decide) H (fun _ H => ?_) (fun _ H => ?_)
  · refine r_iinc K 4 [(5, .int _), (0, .ref _), (1, .ref _), (2, .int _), (3, .int _), (6, .int _)] (v := _ + (1 : Int32)) dX4_walk_110 rfl rfl (by decide) rfl ?_
    refine r_goto K 40 dX4_walk_113 (by decide) ?_
    cases H
    exact r_sub [1, 2, 3, 4, 0] rfl D
  · refine r_aload_n K 0 dX4_walk_90 rfl rfl ?_
    refine w_getO K vc4 inX4 1 (by decide) mF_RX4_16 dX4_walk_91 H (fun x2 H => ?_)
    refine r_iload K 5 dX4_walk_94 rfl ?_
    refine r_aload_n K 0 dX4_walk_96 rfl rfl ?_
    refine w_getO K vc4 inX4 2 (by decide) mF_RX4_20 dX4_walk_97 H (fun x3 H => ?_)
    refine r_iload K 5 dX4_walk_100 rfl ?_
    refine w_lald K dX4_walk_102 H (fun x4 H => ?_)
    refine w_last K dX4_walk_103 H (fun μ5 H => ?_)
    refine r_iinc K 5 [(6, .int _), (0, .ref _), (1, .ref _), (2, .int _), (3, .int _), (5, .int _)] (v := _ + (1 : Int32)) dX4_walk_104 rfl rfl (by decide) rfl ?_
    refine r_goto K 81 dX4_walk_107 (by decide) ?_
    cases H
    exact r_sub [1, 2, 3, 4, 5, 0] rfl D
set_option maxRecDepth 10000 in
theorem l_X4_walk_81 {X : jX} {l : Launch} {n : Nat} {Y : jY} (K : jOK X RX4 cX4_walk 7 (some .long) 2) (hl : X.2.1 = l) {rr : Int64} {μr : jM} {v0 : Nat} {v1 : Nat} {v2 : Int32} {v3 : Int32} {v5 : Int32}  {s0 : Int32 × jM} {z : ((Int32 × jM) ⊕ (Int64 × jM))} (H : jit jF (fun (s : Int32 × jM) => b_X4_walk_81 Y v0 v1 v2 v3 v5 s.1 s.2) s0 = some z) (D : Sum.elim (fun (s : Int32 × jM) => JW X (jEnd X n Y (some (.long rr)) μr 0 0) 0 0 n Y 40 [(0, .ref v0), (1, .ref v1), (2, .int v2), (3, .int v3), (5, .int s.1)] [] s.2) (fun r => r = (rr, μr)) z) : JW X (jEnd X n Y (some (.long rr)) μr 0 0) 0 0 n Y 81 [(0, .ref v0), (1, .ref v1), (2, .int v2), (3, .int v3), (5, .int v5), (6, .int s0.1)] [] s0.2 :=
  jit_ind (P := fun (s : Int32 × jM) => JW X (jEnd X n Y (some (.long rr)) μr 0 0) 0 0 n Y 81 [(0, .ref v0), (1, .ref v1), (2, .int v2), (3, .int v3), (5, .int v5), (6, .int s.1)] [] s.2) (D := Sum.elim (fun (s : Int32 × jM) => JW X (jEnd X n Y (some (.long rr)) μr 0 0) 0 0 n Y 40 [(0, .ref v0), (1, .ref v1), (2, .int v2), (3, .int v3), (5, .int s.1)] [] s.2) (fun r => r = (rr, μr))) (fun s z Hs Ds => t_X4_walk_81 K hl Hs Ds) jF s0 z H D
set_option maxRecDepth 10000 in
theorem t_X4_walk_49 {X : jX} {l : Launch} {n : Nat} {Y : jY} (K : jOK X RX4 cX4_walk 7 (some .long) 2) (hl : X.2.1 = l) {rr : Int64} {μr : jM} {v0 : Nat} {v1 : Nat} {v2 : Int32} {v3 : Int32} {v5 : Int32} {v6 : Int32} {μ : jM} {z : ((Int32 × jM) ⊕ ((Int32 × jM) ⊕ (Int64 × jM)))} (H : b_X4_walk_49 Y v0 v1 v2 v3 v5 v6 μ = some z) (D : Sum.elim (fun (s : Int32 × jM) => JW X (jEnd X n Y (some (.long rr)) μr 0 0) 0 0 n Y 49 [(0, .ref v0), (1, .ref v1), (2, .int v2), (3, .int v3), (5, .int v5), (6, .int s.1)] [] s.2) (Sum.elim (fun (s : Int32 × jM) => JW X (jEnd X n Y (some (.long rr)) μr 0 0) 0 0 n Y 40 [(0, .ref v0), (1, .ref v1), (2, .int v2), (3, .int v3), (5, .int s.1)] [] s.2) (fun r => r = (rr, μr))) z) : JW X (jEnd X n Y (some (.long rr)) μr 0 0) 0 0 n Y 49 [(0, .ref v0), (1, .ref v1), (2, .int v2), (3, .int v3), (5, .int v5), (6, .int v6)] [] μ := by
  unfold b_X4_walk_49 at H
  refine r_iload K 5 dX4_walk_49 rfl ?_
  refine r_aload_n K 1 dX4_walk_51 rfl rfl ?_
  refine w_getI K vc10 inX10 0 (by decide) mF_RX4_23 dX4_walk_52 H (fun x1 H => ?_)
  refine w_icmp_ge K 78 dX4_walk_55 (by decide) H (fun _ H => ?_) (fun _ H => ?_)
  · refine r_iconst (v := 0) K dX4_walk_78 (by decide) ?_
    refine r_istore K [(6, .int _), (0, .ref _), (1, .ref _), (2, .int _), (3, .int _), (5, .int _)] dX4_walk_79 (by decide) rfl ?_
    obtain ⟨z2, H2, rfl⟩ := jmap H
    exact r_sub [1, 2, 3, 4, 5, 0] rfl (l_X4_walk_81 K hl H2 D)
  · refine r_aload_n K 0 dX4_walk_58 rfl rfl ?_
    refine w_getO K vc4 inX4 2 (by decide) mF_RX4_20 dX4_walk_59 H (fun x2 H => ?_)
    refine r_iload K 5 dX4_walk_62 rfl ?_
    refine r_aload_n K 0 dX4_walk_64 rfl rfl ?_
    refine r_aload_n K 1 dX4_walk_65 rfl rfl ?_
    refine r_iload K 5 dX4_walk_66 rfl ?_
    refine w_callV K hl H (fun r h => c_X4_pull l h) mC_yX4_pull mM_RX4_36 mI_yX4_pull mS_yX4_pull mZ_RX4 vc4 (Nat.le_of_ble_eq_true rfl) (Nat.le_of_ble_eq_true rfl) np_yX4_pull rfl (Nat.le_of_ble_eq_true rfl) dX4_walk_68 (fun r3 H => ?_) ⟨Nat.zero_le _, Nat.zero_le _⟩
    refine w_last K dX4_walk_71 H (fun μ4 H => ?_)
    refine r_iinc K 5 [(6, .int _), (0, .ref _), (1, .ref _), (2, .int _), (3, .int _), (5, .int _)] (v := _ + (1 : Int32)) dX4_walk_72 rfl rfl (by decide) rfl ?_
    refine r_goto K 49 dX4_walk_75 (by decide) ?_
    cases H
    exact r_sub [1, 2, 3, 4, 5, 0] rfl D
set_option maxRecDepth 10000 in
theorem l_X4_walk_49 {X : jX} {l : Launch} {n : Nat} {Y : jY} (K : jOK X RX4 cX4_walk 7 (some .long) 2) (hl : X.2.1 = l) {rr : Int64} {μr : jM} {v0 : Nat} {v1 : Nat} {v2 : Int32} {v3 : Int32} {v5 : Int32}  {s0 : Int32 × jM} {z : ((Int32 × jM) ⊕ (Int64 × jM))} (H : jit jF (fun (s : Int32 × jM) => b_X4_walk_49 Y v0 v1 v2 v3 v5 s.1 s.2) s0 = some z) (D : Sum.elim (fun (s : Int32 × jM) => JW X (jEnd X n Y (some (.long rr)) μr 0 0) 0 0 n Y 40 [(0, .ref v0), (1, .ref v1), (2, .int v2), (3, .int v3), (5, .int s.1)] [] s.2) (fun r => r = (rr, μr)) z) : JW X (jEnd X n Y (some (.long rr)) μr 0 0) 0 0 n Y 49 [(0, .ref v0), (1, .ref v1), (2, .int v2), (3, .int v3), (5, .int v5), (6, .int s0.1)] [] s0.2 :=
  jit_ind (P := fun (s : Int32 × jM) => JW X (jEnd X n Y (some (.long rr)) μr 0 0) 0 0 n Y 49 [(0, .ref v0), (1, .ref v1), (2, .int v2), (3, .int v3), (5, .int v5), (6, .int s.1)] [] s.2) (D := Sum.elim (fun (s : Int32 × jM) => JW X (jEnd X n Y (some (.long rr)) μr 0 0) 0 0 n Y 40 [(0, .ref v0), (1, .ref v1), (2, .int v2), (3, .int v3), (5, .int s.1)] [] s.2) (fun r => r = (rr, μr))) (fun s z Hs Ds => t_X4_walk_49 K hl Hs Ds) jF s0 z H D
set_option maxRecDepth 10000 in
theorem t_X4_walk_40 {X : jX} {l : Launch} {n : Nat} {Y : jY} (K : jOK X RX4 cX4_walk 7 (some .long) 2) (hl : X.2.1 = l) {rr : Int64} {μr : jM} {v0 : Nat} {v1 : Nat} {v2 : Int32} {v3 : Int32} {v5 : Int32} {μ : jM} {z : ((Int32 × jM) ⊕ (Int64 × jM))} (H : b_X4_walk_40 Y v0 v1 v2 v3 v5 μ = some z) (D : Sum.elim (fun (s : Int32 × jM) => JW X (jEnd X n Y (some (.long rr)) μr 0 0) 0 0 n Y 40 [(0, .ref v0), (1, .ref v1), (2, .int v2), (3, .int v3), (5, .int s.1)] [] s.2) (fun r => r = (rr, μr)) z) : JW X (jEnd X n Y (some (.long rr)) μr 0 0) 0 0 n Y 40 [(0, .ref v0), (1, .ref v1), (2, .int v2), (3, .int v3), (5, .int v5)] [] μ := by
  unfold b_X4_walk_40 at H
  refine r_iload K 4 dX4_walk_40 rfl ?_
  refine r_iload_n K 2 dX4_walk_42 rfl rfl ?_
  refine w_icmp_ge K 116 dX4_walk_43 (by decide) H (fun _ H => ?_) (fun _ H => ?_)
  · refine r_aload_n K 0 dX4_walk_116 rfl rfl ?_
    refine w_getO K vc4 inX4 1 (by decide) mF_RX4_16 dX4_walk_117 H (fun x1 H => ?_)
    refine r_iload_n K 3 dX4_walk_120 rfl rfl ?_
    refine w_lald K dX4_walk_121 H (fun x2 H => ?_)
    cases H
    simp only [Sum.elim_inr] at D
    obtain ⟨rfl, rfl⟩ := jfin2 D
    exact r_lret K dX4_walk_122
  · refine r_iconst (v := 0) K dX4_walk_46 (by decide) ?_
    refine r_istore K [(6, .int _), (0, .ref _), (1, .ref _), (2, .int _), (3, .int _), (5, .int _)] dX4_walk_47 (by decide) rfl ?_
    exact r_sub [1, 2, 3, 4, 5, 0] rfl (l_X4_walk_49 K hl H D)
set_option maxRecDepth 10000 in
theorem l_X4_walk_40 {X : jX} {l : Launch} {n : Nat} {Y : jY} (K : jOK X RX4 cX4_walk 7 (some .long) 2) (hl : X.2.1 = l) {rr : Int64} {μr : jM} {v0 : Nat} {v1 : Nat} {v2 : Int32} {v3 : Int32}  {s0 : Int32 × jM} {z : (Int64 × jM)} (H : jit jF (fun (s : Int32 × jM) => b_X4_walk_40 Y v0 v1 v2 v3 s.1 s.2) s0 = some z) (D : z = (rr, μr)) : JW X (jEnd X n Y (some (.long rr)) μr 0 0) 0 0 n Y 40 [(0, .ref v0), (1, .ref v1), (2, .int v2), (3, .int v3), (5, .int s0.1)] [] s0.2 :=
  jit_ind (P := fun (s : Int32 × jM) => JW X (jEnd X n Y (some (.long rr)) μr 0 0) 0 0 n Y 40 [(0, .ref v0), (1, .ref v1), (2, .int v2), (3, .int v3), (5, .int s.1)] [] s.2) (D := fun r => r = (rr, μr)) (fun s z Hs Ds => t_X4_walk_40 K hl Hs Ds) jF s0 z H D
set_option maxRecDepth 10000 in
theorem t_X4_walk_30 {X : jX} {l : Launch} {n : Nat} {Y : jY} (K : jOK X RX4 cX4_walk 7 (some .long) 2) (hl : X.2.1 = l) {rr : Int64} {μr : jM} {v0 : Nat} {v1 : Nat} {v2 : Int32} {v3 : Int32} {v4 : Int32} {v5 : Int32} {t0 : Nat} {t1 : Int32} {t2 : Int64} {μ : jM} {z : ((Int32 × jM) ⊕ (Int64 × jM))} (H : b_X4_walk_30 Y v0 v1 v2 v3 v4 v5 t0 t1 t2 μ = some z) (D : Sum.elim (fun (s : Int32 × jM) => JW X (jEnd X n Y (some (.long rr)) μr 0 0) 0 0 n Y 3 [(0, .ref v0), (1, .ref v1), (2, .int v2), (3, .int v3), (4, .int v4), (5, .int s.1)] [] s.2) (fun r => r = (rr, μr)) z) : JW X (jEnd X n Y (some (.long rr)) μr 0 0) 0 0 n Y 30 [(0, .ref v0), (1, .ref v1), (2, .int v2), (3, .int v3), (4, .int v4), (5, .int v5)] [.long t2, .int t1, .ref t0] μ := by
  unfold b_X4_walk_30 at H
  refine w_last K dX4_walk_30 H (fun μ1 H => ?_)
  refine r_iinc K 5 [(5, .int _), (0, .ref _), (1, .ref _), (2, .int _), (3, .int _), (4, .int _)] (v := _ + (1 : Int32)) dX4_walk_31 rfl rfl (by decide) rfl ?_
  refine r_goto K 3 dX4_walk_34 (by decide) ?_
  cases H
  exact r_sub [1, 2, 3, 4, 5, 0] rfl D
set_option maxRecDepth 10000 in
theorem t_X4_walk_3 {X : jX} {l : Launch} {n : Nat} {Y : jY} (K : jOK X RX4 cX4_walk 7 (some .long) 2) (hl : X.2.1 = l) {rr : Int64} {μr : jM} {v0 : Nat} {v1 : Nat} {v2 : Int32} {v3 : Int32} {v4 : Int32} {v5 : Int32} {μ : jM} {z : ((Int32 × jM) ⊕ (Int64 × jM))} (H : b_X4_walk_3 Y v0 v1 v2 v3 v4 v5 μ = some z) (D : Sum.elim (fun (s : Int32 × jM) => JW X (jEnd X n Y (some (.long rr)) μr 0 0) 0 0 n Y 3 [(0, .ref v0), (1, .ref v1), (2, .int v2), (3, .int v3), (4, .int v4), (5, .int s.1)] [] s.2) (fun r => r = (rr, μr)) z) : JW X (jEnd X n Y (some (.long rr)) μr 0 0) 0 0 n Y 3 [(0, .ref v0), (1, .ref v1), (2, .int v2), (3, .int v3), (4, .int v4), (5, .int v5)] [] μ := by
  unfold b_X4_walk_3 at H
  refine r_iload K 5 dX4_walk_3 rfl ?_
  refine r_aload_n K 1 dX4_walk_5 rfl rfl ?_
  refine w_getI K vc10 inX10 0 (by decide) mF_RX4_23 dX4_walk_6 H (fun x1 H => ?_)
  refine w_icmp_ge K 37 dX4_walk_9 (by decide) H (fun _ H => ?_) (fun _ H => ?_)
  · refine r_iconst (v := 0) K dX4_walk_37 (by decide) ?_
    refine r_istore K [(5, .int _), (0, .ref _), (1, .ref _), (2, .int _), (3, .int _), (4, .int _)] dX4_walk_38 (by decide) rfl ?_
    obtain ⟨z2, H2, rfl⟩ := jmap H
    exact r_sub [1, 2, 3, 4, 0] rfl (l_X4_walk_40 K hl H2 D)
  · refine r_aload_n K 0 dX4_walk_12 rfl rfl ?_
    refine w_getO K vc4 inX4 1 (by decide) mF_RX4_16 dX4_walk_13 H (fun x2 H => ?_)
    refine r_iload K 5 dX4_walk_16 rfl ?_
    refine r_iload K 5 dX4_walk_18 rfl ?_
    refine r_iload K 4 dX4_walk_20 rfl ?_
    refine w_icmp_ne K 29 dX4_walk_22 (by decide) H (fun _ H => ?_) (fun _ H => ?_)
    · refine r_lconst (v := 0) K dX4_walk_29 (by decide) ?_
      exact r_sub [0, 1, 2, 3, 4, 5] rfl (t_X4_walk_30 K hl H D)
    · refine r_lconst (v := 1) K dX4_walk_25 (by decide) ?_
      refine r_goto K 30 dX4_walk_26 (by decide) ?_
      exact r_sub [0, 1, 2, 3, 4, 5] rfl (t_X4_walk_30 K hl H D)
set_option maxRecDepth 10000 in
theorem l_X4_walk_3 {X : jX} {l : Launch} {n : Nat} {Y : jY} (K : jOK X RX4 cX4_walk 7 (some .long) 2) (hl : X.2.1 = l) {rr : Int64} {μr : jM} {v0 : Nat} {v1 : Nat} {v2 : Int32} {v3 : Int32} {v4 : Int32}  {s0 : Int32 × jM} {z : (Int64 × jM)} (H : jit jF (fun (s : Int32 × jM) => b_X4_walk_3 Y v0 v1 v2 v3 v4 s.1 s.2) s0 = some z) (D : z = (rr, μr)) : JW X (jEnd X n Y (some (.long rr)) μr 0 0) 0 0 n Y 3 [(0, .ref v0), (1, .ref v1), (2, .int v2), (3, .int v3), (4, .int v4), (5, .int s0.1)] [] s0.2 :=
  jit_ind (P := fun (s : Int32 × jM) => JW X (jEnd X n Y (some (.long rr)) μr 0 0) 0 0 n Y 3 [(0, .ref v0), (1, .ref v1), (2, .int v2), (3, .int v3), (4, .int v4), (5, .int s.1)] [] s.2) (D := fun r => r = (rr, μr)) (fun s z Hs Ds => t_X4_walk_3 K hl Hs Ds) jF s0 z H D
set_option maxRecDepth 10000 in
theorem t_X4_walk_0 {X : jX} {l : Launch} {n : Nat} {Y : jY} (K : jOK X RX4 cX4_walk 7 (some .long) 2) (hl : X.2.1 = l) {rr : Int64} {μr : jM} {v0 : Nat} {v1 : Nat} {v2 : Int32} {v3 : Int32} {v4 : Int32} {μ : jM} {z : (Int64 × jM)} (H : f_X4_walk Y v0 v1 v2 v3 v4 μ = some z) (D : z = (rr, μr)) : JW X (jEnd X n Y (some (.long rr)) μr 0 0) 0 0 n Y 0 [(0, .ref v0), (1, .ref v1), (2, .int v2), (3, .int v3), (4, .int v4)] [] μ := by
  unfold f_X4_walk at H
  refine r_iconst (v := 0) K dX4_walk_0 (by decide) ?_
  refine r_istore K [(5, .int _), (0, .ref _), (1, .ref _), (2, .int _), (3, .int _), (4, .int _)] dX4_walk_1 (by decide) rfl ?_
  exact r_sub [1, 2, 3, 4, 5, 0] rfl (l_X4_walk_3 K hl H D)
theorem c_X4_walk (l : Launch) {n : Nat} {Y : jY} {v0 : Nat} {v1 : Nat} {v2 : Int32} {v3 : Int32} {v4 : Int32} {μ : jM} {z : Int64 × jM} (H : f_X4_walk Y v0 v1 v2 v3 v4 μ = some z) : jC l yX4_walk cX4_walk 7 (some .long) 2 0 0 [.ref v0, .ref v1, .int v2, .int v3, .int v4] n Y μ n Y (some (.long z.1)) z.2 := by
  refine jC_of (by decide +kernel) (Nat.le_of_ble_eq_true rfl) (fun X hl K _ _ _ => ?_)
  obtain ⟨rr, μr⟩ := z
  exact t_X4_walk_0 K hl H rfl
/-! RX5 holdsText(I)Z -/
def b_X5_holdsText_23 (Y : jY) (t0 : Int32) (μ : jM) : Option (Int32 × jM) :=
  (jbool t0).bind fun x1 =>
  some (x1, μ)
def b_X5_holdsText_22 (Y : jY) (μ : jM) : Option (Int32 × jM) :=
  b_X5_holdsText_23 Y (0 : Int32) μ
def f_X5_holdsText (Y : jY) (v0 : Nat) (v1 : Int32) (μ : jM) : Option (Int32 × jM) :=
  (f_X11_within Y v1 ((1 : Int32)) ((60 : Int32)) μ).bind fun r1 =>
  if r1.1 = 0 then
    b_X5_holdsText_22 Y r1.2
  else
    (jgI Y r1.2 v0 5 1).bind fun x2 =>
    if x2 < v1 then
      b_X5_holdsText_22 Y r1.2
    else
      b_X5_holdsText_23 Y (1 : Int32) r1.2
set_option maxRecDepth 10000 in
theorem t_X5_holdsText_23 {X : jX} {l : Launch} {n : Nat} {Y : jY} (K : jOK X RX5 cX5_holdsText 2 (some .boolean) 2) (hl : X.2.1 = l) {rr : Int32} {μr : jM} {t0 : Int32} {μ : jM} {z : (Int32 × jM)} (H : b_X5_holdsText_23 Y t0 μ = some z) (D : z = (rr, μr)) : JW X (jEnd X n Y (some (.int rr)) μr 0 0) 0 0 n Y 23 [] [.int t0] μ := by
  unfold b_X5_holdsText_23 at H
  refine w_zret K dX5_holdsText_23 H (fun hz H => ?_)
  cases H
  obtain ⟨rfl, rfl⟩ := jfin2 D
  exact r_zret K hz dX5_holdsText_23
set_option maxRecDepth 10000 in
theorem t_X5_holdsText_22 {X : jX} {l : Launch} {n : Nat} {Y : jY} (K : jOK X RX5 cX5_holdsText 2 (some .boolean) 2) (hl : X.2.1 = l) {rr : Int32} {μr : jM} {μ : jM} {z : (Int32 × jM)} (H : b_X5_holdsText_22 Y μ = some z) (D : z = (rr, μr)) : JW X (jEnd X n Y (some (.int rr)) μr 0 0) 0 0 n Y 22 [] [] μ := by
  unfold b_X5_holdsText_22 at H
  refine r_iconst (v := 0) K dX5_holdsText_22 (by decide) ?_
  exact r_sub [] rfl (t_X5_holdsText_23 K hl H D)
set_option maxRecDepth 10000 in
theorem t_X5_holdsText_0 {X : jX} {l : Launch} {n : Nat} {Y : jY} (K : jOK X RX5 cX5_holdsText 2 (some .boolean) 2) (hl : X.2.1 = l) {rr : Int32} {μr : jM} {v0 : Nat} {v1 : Int32} {μ : jM} {z : (Int32 × jM)} (H : f_X5_holdsText Y v0 v1 μ = some z) (D : z = (rr, μr)) : JW X (jEnd X n Y (some (.int rr)) μr 0 0) 0 0 n Y 0 [(0, .ref v0), (1, .int v1)] [] μ := by
  unfold f_X5_holdsText at H
  refine r_iload_n K 1 dX5_holdsText_0 rfl rfl ?_
  refine r_iconst (v := 1) K dX5_holdsText_1 (by decide) ?_
  refine r_bipush (v := 60) K dX5_holdsText_2 (by decide) ?_
  refine w_callSN K hl H (fun r h => c_X11_within l h) mC_yX11_within mQ_RX5_17 mT_yX11_within mZ_RX11 (Nat.le_of_ble_eq_true rfl) (Nat.le_of_ble_eq_true rfl) np_yX11_within rfl (Nat.le_of_ble_eq_true rfl) dX5_holdsText_4 (fun r1 H => ?_) ⟨Nat.zero_le _, Nat.zero_le _⟩
  refine w_if_eq K 22 dX5_holdsText_7 (by decide) H (fun _ H => ?_) (fun _ H => ?_)
  · exact r_sub [] rfl (t_X5_holdsText_22 K hl H D)
  · refine r_iload_n K 1 dX5_holdsText_10 rfl rfl ?_
    refine r_aload_n K 0 dX5_holdsText_11 rfl rfl ?_
    refine w_getI K vc5 inX5 1 (by decide) mF_RX5_13 dX5_holdsText_12 H (fun x2 H => ?_)
    refine w_icmp_gt K 22 dX5_holdsText_15 (by decide) H (fun _ H => ?_) (fun _ H => ?_)
    · exact r_sub [] rfl (t_X5_holdsText_22 K hl H D)
    · refine r_iconst (v := 1) K dX5_holdsText_18 (by decide) ?_
      refine r_goto K 23 dX5_holdsText_19 (by decide) ?_
      exact r_sub [] rfl (t_X5_holdsText_23 K hl H D)
theorem c_X5_holdsText (l : Launch) {n : Nat} {Y : jY} {v0 : Nat} {v1 : Int32} {μ : jM} {z : Int32 × jM} (H : f_X5_holdsText Y v0 v1 μ = some z) : jC l yX5_holdsText cX5_holdsText 2 (some .boolean) 2 0 0 [.ref v0, .int v1] n Y μ n Y (some (.int z.1)) z.2 := by
  refine jC_of (by decide +kernel) (Nat.le_of_ble_eq_true rfl) (fun X hl K _ _ _ => ?_)
  obtain ⟨rr, μr⟩ := z
  exact t_X5_holdsText_0 K hl H rfl
/-! RX5 add(I)V -/
def b_X5_add_48 (Y : jY) (μ : jM) : Option (jM) :=
  some μ
def b_X5_add_3 (Y : jY) (v0 : Nat) (v1 : Int32) (v2 : Int32) (μ : jM) : Option ((Int32 × jM) ⊕ (jM)) :=
  if v2 < 0 then
    (b_X5_add_48 Y μ).map (fun r => (.inr r))
  else
    (jgI Y μ v0 5 1).bind fun x1 =>
    if ((120 : Int32)) ≤ x1 then
      (b_X5_add_48 Y μ).map (fun r => (.inr r))
    else
      (jgO Y μ v0 5 0).bind fun x2 =>
      (jgI Y μ v0 5 1).bind fun x3 =>
      (jas Y μ x2 20 x3 (.int (((((v1.toUInt32 >>> (v2.toUInt32 &&& Int32.toUInt32 31)).toInt32)) &&& ((255 : Int32)))))).bind fun μ4 =>
      (jgI Y μ4 v0 5 1).bind fun x5 =>
      (jput Y μ4 v0 5 1 (.int ((x5 + ((1 : Int32)))))).bind fun μ6 =>
      some (.inl ((v2 + (-8 : Int32)), μ6))
def f_X5_add (Y : jY) (v0 : Nat) (v1 : Int32) (μ : jM) : Option (jM) :=
  jit jF (fun (s : Int32 × jM) => b_X5_add_3 Y v0 v1 s.1 s.2) ((24 : Int32), μ)
set_option maxRecDepth 10000 in
theorem t_X5_add_48 {X : jX} {l : Launch} {n : Nat} {Y : jY} (K : jOK X RX5 cX5_add 3 none 1) (hl : X.2.1 = l) {μr : jM} {μ : jM} {z : (jM)} (H : b_X5_add_48 Y μ = some z) (D : z = μr) : JW X (jEnd X n Y none μr 0 0) 0 0 n Y 48 [] [] μ := by
  unfold b_X5_add_48 at H
  cases H
  subst D
  exact r_vret K dX5_add_48
set_option maxRecDepth 10000 in
theorem t_X5_add_3 {X : jX} {l : Launch} {n : Nat} {Y : jY} (K : jOK X RX5 cX5_add 3 none 1) (hl : X.2.1 = l) {μr : jM} {v0 : Nat} {v1 : Int32} {v2 : Int32} {μ : jM} {z : ((Int32 × jM) ⊕ (jM))} (H : b_X5_add_3 Y v0 v1 v2 μ = some z) (D : Sum.elim (fun (s : Int32 × jM) => JW X (jEnd X n Y none μr 0 0) 0 0 n Y 3 [(0, .ref v0), (1, .int v1), (2, .int s.1)] [] s.2) (fun r => r = μr) z) : JW X (jEnd X n Y none μr 0 0) 0 0 n Y 3 [(0, .ref v0), (1, .int v1), (2, .int v2)] [] μ := by
  unfold b_X5_add_3 at H
  refine r_iload_n K 2 dX5_add_3 rfl rfl ?_
  refine w_if_lt K 48 dX5_add_4 (by decide) H (fun _ H => ?_) (fun _ H => ?_)
  · obtain ⟨z2, H2, rfl⟩ := jmap H
    exact r_sub [] rfl (t_X5_add_48 K hl H2 D)
  · refine r_aload_n K 0 dX5_add_7 rfl rfl ?_
    refine w_getI K vc5 inX5 1 (by decide) mF_RX5_13 dX5_add_8 H (fun x1 H => ?_)
    refine r_bipush (v := 120) K dX5_add_11 (by decide) ?_
    refine w_icmp_ge K 48 dX5_add_13 (by decide) H (fun _ H => ?_) (fun _ H => ?_)
    · obtain ⟨z2, H2, rfl⟩ := jmap H
      exact r_sub [] rfl (t_X5_add_48 K hl H2 D)
    · refine r_aload_n K 0 dX5_add_16 rfl rfl ?_
      refine w_getO K vc5 inX5 0 (by decide) mF_RX5_9 dX5_add_17 H (fun x2 H => ?_)
      refine r_aload_n K 0 dX5_add_20 rfl rfl ?_
      refine w_getI K vc5 inX5 1 (by decide) mF_RX5_13 dX5_add_21 H (fun x3 H => ?_)
      refine r_iload_n K 1 dX5_add_24 rfl rfl ?_
      refine r_iload_n K 2 dX5_add_25 rfl rfl ?_
      refine r_iushr K dX5_add_26 ?_
      refine r_sipush (v := 255) K dX5_add_27 (by decide) ?_
      refine r_iand K dX5_add_30 ?_
      refine w_iast K dX5_add_31 H (fun μ4 H => ?_)
      refine r_aload_n K 0 dX5_add_32 rfl rfl ?_
      refine r_dup K dX5_add_33 rfl ?_
      refine w_getI K vc5 inX5 1 (by decide) mF_RX5_13 dX5_add_34 H (fun x5 H => ?_)
      refine r_iconst (v := 1) K dX5_add_37 (by decide) ?_
      refine r_iadd K dX5_add_38 ?_
      refine w_put K vc5 inX5 tyX5_ok nmX5 1 (by decide) mF_RX5_13 rfl (fun _ => rfl) (fun _ => rfl) dX5_add_39 H (fun μ6 H => ?_)
      refine r_iinc K 2 [(2, .int _), (0, .ref _), (1, .int _)] (v := _ + (-8 : Int32)) dX5_add_42 rfl rfl (by decide) rfl ?_
      refine r_goto K 3 dX5_add_45 (by decide) ?_
      cases H
      exact r_sub [1, 2, 0] rfl D
set_option maxRecDepth 10000 in
theorem l_X5_add_3 {X : jX} {l : Launch} {n : Nat} {Y : jY} (K : jOK X RX5 cX5_add 3 none 1) (hl : X.2.1 = l) {μr : jM} {v0 : Nat} {v1 : Int32}  {s0 : Int32 × jM} {z : (jM)} (H : jit jF (fun (s : Int32 × jM) => b_X5_add_3 Y v0 v1 s.1 s.2) s0 = some z) (D : z = μr) : JW X (jEnd X n Y none μr 0 0) 0 0 n Y 3 [(0, .ref v0), (1, .int v1), (2, .int s0.1)] [] s0.2 :=
  jit_ind (P := fun (s : Int32 × jM) => JW X (jEnd X n Y none μr 0 0) 0 0 n Y 3 [(0, .ref v0), (1, .int v1), (2, .int s.1)] [] s.2) (D := fun r => r = μr) (fun s z Hs Ds => t_X5_add_3 K hl Hs Ds) jF s0 z H D
set_option maxRecDepth 10000 in
theorem t_X5_add_0 {X : jX} {l : Launch} {n : Nat} {Y : jY} (K : jOK X RX5 cX5_add 3 none 1) (hl : X.2.1 = l) {μr : jM} {v0 : Nat} {v1 : Int32} {μ : jM} {z : (jM)} (H : f_X5_add Y v0 v1 μ = some z) (D : z = μr) : JW X (jEnd X n Y none μr 0 0) 0 0 n Y 0 [(0, .ref v0), (1, .int v1)] [] μ := by
  unfold f_X5_add at H
  refine r_bipush (v := 24) K dX5_add_0 (by decide) ?_
  refine r_istore_n K [(2, .int _), (0, .ref _), (1, .int _)] dX5_add_2 rfl (by decide) rfl ?_
  exact r_sub [1, 2, 0] rfl (l_X5_add_3 K hl H D)
theorem c_X5_add (l : Launch) {n : Nat} {Y : jY} {v0 : Nat} {v1 : Int32} {μ : jM} {z : jM} (H : f_X5_add Y v0 v1 μ = some z) : jC l yX5_add cX5_add 3 none 1 0 0 [.ref v0, .int v1] n Y μ n Y none z := by
  refine jC_of (by decide +kernel) (Nat.le_of_ble_eq_true rfl) (fun X hl K _ _ _ => ?_)
  exact t_X5_add_0 K hl H rfl
/-! RX5 hasRoomForInts(I)Z -/
def b_X5_hasRoomForInts_18 (Y : jY) (t0 : Int32) (μ : jM) : Option (Int32 × jM) :=
  (jbool t0).bind fun x1 =>
  some (x1, μ)
def f_X5_hasRoomForInts (Y : jY) (v0 : Nat) (v1 : Int32) (μ : jM) : Option (Int32 × jM) :=
  (jgI Y μ v0 5 1).bind fun x1 =>
  if ((120 : Int32)) < ((x1 + ((((4 : Int32)) * v1)))) then
    b_X5_hasRoomForInts_18 Y (0 : Int32) μ
  else
    b_X5_hasRoomForInts_18 Y (1 : Int32) μ
set_option maxRecDepth 10000 in
theorem t_X5_hasRoomForInts_18 {X : jX} {l : Launch} {n : Nat} {Y : jY} (K : jOK X RX5 cX5_hasRoomForInts 2 (some .boolean) 1) (hl : X.2.1 = l) {rr : Int32} {μr : jM} {t0 : Int32} {μ : jM} {z : (Int32 × jM)} (H : b_X5_hasRoomForInts_18 Y t0 μ = some z) (D : z = (rr, μr)) : JW X (jEnd X n Y (some (.int rr)) μr 0 0) 0 0 n Y 18 [] [.int t0] μ := by
  unfold b_X5_hasRoomForInts_18 at H
  refine w_zret K dX5_hasRoomForInts_18 H (fun hz H => ?_)
  cases H
  obtain ⟨rfl, rfl⟩ := jfin2 D
  exact r_zret K hz dX5_hasRoomForInts_18
set_option maxRecDepth 10000 in
theorem t_X5_hasRoomForInts_0 {X : jX} {l : Launch} {n : Nat} {Y : jY} (K : jOK X RX5 cX5_hasRoomForInts 2 (some .boolean) 1) (hl : X.2.1 = l) {rr : Int32} {μr : jM} {v0 : Nat} {v1 : Int32} {μ : jM} {z : (Int32 × jM)} (H : f_X5_hasRoomForInts Y v0 v1 μ = some z) (D : z = (rr, μr)) : JW X (jEnd X n Y (some (.int rr)) μr 0 0) 0 0 n Y 0 [(0, .ref v0), (1, .int v1)] [] μ := by
  unfold f_X5_hasRoomForInts at H
  refine r_aload_n K 0 dX5_hasRoomForInts_0 rfl rfl ?_
  refine w_getI K vc5 inX5 1 (by decide) mF_RX5_13 dX5_hasRoomForInts_1 H (fun x1 H => ?_)
  refine r_iconst (v := 4) K dX5_hasRoomForInts_4 (by decide) ?_
  refine r_iload_n K 1 dX5_hasRoomForInts_5 rfl rfl ?_
  refine r_imul K dX5_hasRoomForInts_6 ?_
  refine r_iadd K dX5_hasRoomForInts_7 ?_
  refine r_bipush (v := 120) K dX5_hasRoomForInts_8 (by decide) ?_
  refine w_icmp_gt K 17 dX5_hasRoomForInts_10 (by decide) H (fun _ H => ?_) (fun _ H => ?_)
  · refine r_iconst (v := 0) K dX5_hasRoomForInts_17 (by decide) ?_
    exact r_sub [] rfl (t_X5_hasRoomForInts_18 K hl H D)
  · refine r_iconst (v := 1) K dX5_hasRoomForInts_13 (by decide) ?_
    refine r_goto K 18 dX5_hasRoomForInts_14 (by decide) ?_
    exact r_sub [] rfl (t_X5_hasRoomForInts_18 K hl H D)
theorem c_X5_hasRoomForInts (l : Launch) {n : Nat} {Y : jY} {v0 : Nat} {v1 : Int32} {μ : jM} {z : Int32 × jM} (H : f_X5_hasRoomForInts Y v0 v1 μ = some z) : jC l yX5_hasRoomForInts cX5_hasRoomForInts 2 (some .boolean) 1 0 0 [.ref v0, .int v1] n Y μ n Y (some (.int z.1)) z.2 := by
  refine jC_of (by decide +kernel) (Nat.le_of_ble_eq_true rfl) (fun X hl K _ _ _ => ?_)
  obtain ⟨rr, μr⟩ := z
  exact t_X5_hasRoomForInts_0 K hl H rfl
/-! RX5 byteAt(I)I -/
def b_X5_byteAt_24 (Y : jY) (t0 : Int32) (μ : jM) : Option (Int32 × jM) :=
  some (t0, μ)
def f_X5_byteAt (Y : jY) (v0 : Nat) (v1 : Int32) (μ : jM) : Option (Int32 × jM) :=
  (jgI Y μ v0 5 1).bind fun x1 =>
  (f_X11_within Y v1 ((0 : Int32)) ((x1 - ((1 : Int32)))) μ).bind fun r2 =>
  if r2.1 = 0 then
    b_X5_byteAt_24 Y (0 : Int32) r2.2
  else
    (jgO Y r2.2 v0 5 0).bind fun x3 =>
    (jaI Y r2.2 x3 20 v1).bind fun x4 =>
    b_X5_byteAt_24 Y x4 r2.2
set_option maxRecDepth 10000 in
theorem t_X5_byteAt_24 {X : jX} {l : Launch} {n : Nat} {Y : jY} (K : jOK X RX5 cX5_byteAt 2 (some .int) 2) (hl : X.2.1 = l) {rr : Int32} {μr : jM} {t0 : Int32} {μ : jM} {z : (Int32 × jM)} (H : b_X5_byteAt_24 Y t0 μ = some z) (D : z = (rr, μr)) : JW X (jEnd X n Y (some (.int rr)) μr 0 0) 0 0 n Y 24 [] [.int t0] μ := by
  unfold b_X5_byteAt_24 at H
  cases H
  obtain ⟨rfl, rfl⟩ := jfin2 D
  exact r_iret K dX5_byteAt_24
set_option maxRecDepth 10000 in
theorem t_X5_byteAt_0 {X : jX} {l : Launch} {n : Nat} {Y : jY} (K : jOK X RX5 cX5_byteAt 2 (some .int) 2) (hl : X.2.1 = l) {rr : Int32} {μr : jM} {v0 : Nat} {v1 : Int32} {μ : jM} {z : (Int32 × jM)} (H : f_X5_byteAt Y v0 v1 μ = some z) (D : z = (rr, μr)) : JW X (jEnd X n Y (some (.int rr)) μr 0 0) 0 0 n Y 0 [(0, .ref v0), (1, .int v1)] [] μ := by
  unfold f_X5_byteAt at H
  refine r_iload_n K 1 dX5_byteAt_0 rfl rfl ?_
  refine r_iconst (v := 0) K dX5_byteAt_1 (by decide) ?_
  refine r_aload_n K 0 dX5_byteAt_2 rfl rfl ?_
  refine w_getI K vc5 inX5 1 (by decide) mF_RX5_13 dX5_byteAt_3 H (fun x1 H => ?_)
  refine r_iconst (v := 1) K dX5_byteAt_6 (by decide) ?_
  refine r_isub K dX5_byteAt_7 ?_
  refine w_callSN K hl H (fun r h => c_X11_within l h) mC_yX11_within mQ_RX5_17 mT_yX11_within mZ_RX11 (Nat.le_of_ble_eq_true rfl) (Nat.le_of_ble_eq_true rfl) np_yX11_within rfl (Nat.le_of_ble_eq_true rfl) dX5_byteAt_8 (fun r2 H => ?_) ⟨Nat.zero_le _, Nat.zero_le _⟩
  refine w_if_eq K 23 dX5_byteAt_11 (by decide) H (fun _ H => ?_) (fun _ H => ?_)
  · refine r_iconst (v := 0) K dX5_byteAt_23 (by decide) ?_
    exact r_sub [] rfl (t_X5_byteAt_24 K hl H D)
  · refine r_aload_n K 0 dX5_byteAt_14 rfl rfl ?_
    refine w_getO K vc5 inX5 0 (by decide) mF_RX5_9 dX5_byteAt_15 H (fun x3 H => ?_)
    refine r_iload_n K 1 dX5_byteAt_18 rfl rfl ?_
    refine w_iald K dX5_byteAt_19 H (fun x4 H => ?_)
    refine r_goto K 24 dX5_byteAt_20 (by decide) ?_
    exact r_sub [] rfl (t_X5_byteAt_24 K hl H D)
theorem c_X5_byteAt (l : Launch) {n : Nat} {Y : jY} {v0 : Nat} {v1 : Int32} {μ : jM} {z : Int32 × jM} (H : f_X5_byteAt Y v0 v1 μ = some z) : jC l yX5_byteAt cX5_byteAt 2 (some .int) 2 0 0 [.ref v0, .int v1] n Y μ n Y (some (.int z.1)) z.2 := by
  refine jC_of (by decide +kernel) (Nat.le_of_ble_eq_true rfl) (fun X hl K _ _ _ => ?_)
  obtain ⟨rr, μr⟩ := z
  exact t_X5_byteAt_0 K hl H rfl
/-! RX5 isDigit(I)Z -/
def f_X5_isDigit (Y : jY) (v0 : Nat) (v1 : Int32) (μ : jM) : Option (Int32 × jM) :=
  (jrcv Y v0 5 (f_X5_byteAt Y v0 v1 μ)).bind fun r1 =>
  (f_X11_within Y r1.1 ((48 : Int32)) ((57 : Int32)) r1.2).bind fun r2 =>
  (jbool r2.1).bind fun x3 =>
  some (x3, r2.2)
set_option maxRecDepth 10000 in
theorem t_X5_isDigit_0 {X : jX} {l : Launch} {n : Nat} {Y : jY} (K : jOK X RX5 cX5_isDigit 2 (some .boolean) 3) (hl : X.2.1 = l) {rr : Int32} {μr : jM} {v0 : Nat} {v1 : Int32} {μ : jM} {z : (Int32 × jM)} (H : f_X5_isDigit Y v0 v1 μ = some z) (D : z = (rr, μr)) : JW X (jEnd X n Y (some (.int rr)) μr 0 0) 0 0 n Y 0 [(0, .ref v0), (1, .int v1)] [] μ := by
  unfold f_X5_isDigit at H
  refine r_aload_n K 0 dX5_isDigit_0 rfl rfl ?_
  refine r_iload_n K 1 dX5_isDigit_1 rfl rfl ?_
  refine w_callV K hl H (fun r h => c_X5_byteAt l h) mC_yX5_byteAt mM_RX5_23 mI_yX5_byteAt mS_yX5_byteAt mZ_RX5 vc5 (Nat.le_of_ble_eq_true rfl) (Nat.le_of_ble_eq_true rfl) np_yX5_byteAt rfl (Nat.le_of_ble_eq_true rfl) dX5_isDigit_2 (fun r1 H => ?_) ⟨Nat.zero_le _, Nat.zero_le _⟩
  refine r_bipush (v := 48) K dX5_isDigit_5 (by decide) ?_
  refine r_bipush (v := 57) K dX5_isDigit_7 (by decide) ?_
  refine w_callSN K hl H (fun r h => c_X11_within l h) mC_yX11_within mQ_RX5_17 mT_yX11_within mZ_RX11 (Nat.le_of_ble_eq_true rfl) (Nat.le_of_ble_eq_true rfl) np_yX11_within rfl (Nat.le_of_ble_eq_true rfl) dX5_isDigit_9 (fun r2 H => ?_) ⟨Nat.zero_le _, Nat.zero_le _⟩
  refine w_zret K dX5_isDigit_12 H (fun hz H => ?_)
  cases H
  obtain ⟨rfl, rfl⟩ := jfin2 D
  exact r_zret K hz dX5_isDigit_12
theorem c_X5_isDigit (l : Launch) {n : Nat} {Y : jY} {v0 : Nat} {v1 : Int32} {μ : jM} {z : Int32 × jM} (H : f_X5_isDigit Y v0 v1 μ = some z) : jC l yX5_isDigit cX5_isDigit 2 (some .boolean) 3 0 0 [.ref v0, .int v1] n Y μ n Y (some (.int z.1)) z.2 := by
  refine jC_of (by decide +kernel) (Nat.le_of_ble_eq_true rfl) (fun X hl K _ _ _ => ?_)
  obtain ⟨rr, μr⟩ := z
  exact t_X5_isDigit_0 K hl H rfl
/-! RX5 clear()V -/
def f_X5_clear (Y : jY) (v0 : Nat) (μ : jM) : Option (jM) :=
  (jput Y μ v0 5 1 (.int ((0 : Int32)))).bind fun μ1 =>
  some μ1
set_option maxRecDepth 10000 in
theorem t_X5_clear_0 {X : jX} {l : Launch} {n : Nat} {Y : jY} (K : jOK X RX5 cX5_clear 1 none 1) (hl : X.2.1 = l) {μr : jM} {v0 : Nat} {μ : jM} {z : (jM)} (H : f_X5_clear Y v0 μ = some z) (D : z = μr) : JW X (jEnd X n Y none μr 0 0) 0 0 n Y 0 [(0, .ref v0)] [] μ := by
  unfold f_X5_clear at H
  refine r_aload_n K 0 dX5_clear_0 rfl rfl ?_
  refine r_iconst (v := 0) K dX5_clear_1 (by decide) ?_
  refine w_put K vc5 inX5 tyX5_ok nmX5 1 (by decide) mF_RX5_13 rfl (fun _ => rfl) (fun _ => rfl) dX5_clear_2 H (fun μ1 H => ?_)
  cases H
  subst D
  exact r_vret K dX5_clear_5
theorem c_X5_clear (l : Launch) {n : Nat} {Y : jY} {v0 : Nat} {μ : jM} {z : jM} (H : f_X5_clear Y v0 μ = some z) : jC l yX5_clear cX5_clear 1 none 1 0 0 [.ref v0] n Y μ n Y none z := by
  refine jC_of (by decide +kernel) (Nat.le_of_ble_eq_true rfl) (fun X hl K _ _ _ => ?_)
  exact t_X5_clear_0 K hl H rfl
/-! RX6 numberOf(LChainTables$Tape;II)I -/
def b_X6_numberOf_82 (Y : jY) (t0 : Int32) (μ : jM) : Option (Int32 × jM) :=
  some (t0, μ)
def b_X6_numberOf_34 (Y : jY) (v1 : Nat) (v3 : Int32) (v4 : Int32) (v5 : Int32) (v6 : Int32) (μ : jM) : Option ((Int32 × Int32 × jM) ⊕ (Int32 × jM)) :=
  if v3 ≤ v6 then
    if v4 = 0 then
      (b_X6_numberOf_82 Y v5 μ).map (fun r => (.inr r))
    else
      (b_X6_numberOf_82 Y (-v5) μ).map (fun r => (.inr r))
  else
    (jrcv Y v1 5 (f_X5_byteAt Y v1 v6 μ)).bind fun r1 =>
    some (.inl ((jminI ((1000 : Int32)) ((((((((10 : Int32)) * v5)) + r1.1)) - ((48 : Int32))))), (v6 + (1 : Int32)), r1.2))
def b_X6_numberOf_32 (Y : jY) (v1 : Nat) (v3 : Int32) (v4 : Int32) (v5 : Int32) (t0 : Int32) (μ : jM) : Option (Int32 × jM) :=
  jit jF (fun (s : Int32 × Int32 × jM) => b_X6_numberOf_34 Y v1 v3 v4 s.1 s.2.1 s.2.2) (v5, t0, μ)
def b_X6_numberOf_15 (Y : jY) (v1 : Nat) (v2 : Int32) (v3 : Int32) (t0 : Int32) (μ : jM) : Option (Int32 × jM) :=
  if t0 = 0 then
    b_X6_numberOf_32 Y v1 v3 t0 (0 : Int32) v2 μ
  else
    b_X6_numberOf_32 Y v1 v3 t0 (0 : Int32) (v2 + ((1 : Int32))) μ
def f_X6_numberOf (Y : jY) (v0 : Nat) (v1 : Nat) (v2 : Int32) (v3 : Int32) (μ : jM) : Option (Int32 × jM) :=
  (jrcv Y v1 5 (f_X5_byteAt Y v1 v2 μ)).bind fun r1 =>
  if r1.1 = ((45 : Int32)) then
    b_X6_numberOf_15 Y v1 v2 v3 (1 : Int32) r1.2
  else
    b_X6_numberOf_15 Y v1 v2 v3 (0 : Int32) r1.2
set_option maxRecDepth 10000 in
theorem t_X6_numberOf_82 {X : jX} {l : Launch} {n : Nat} {Y : jY} (K : jOK X RX6 cX6_numberOf 7 (some .int) 3) (hl : X.2.1 = l) {rr : Int32} {μr : jM} {t0 : Int32} {μ : jM} {z : (Int32 × jM)} (H : b_X6_numberOf_82 Y t0 μ = some z) (D : z = (rr, μr)) : JW X (jEnd X n Y (some (.int rr)) μr 0 0) 0 0 n Y 82 [] [.int t0] μ := by
  unfold b_X6_numberOf_82 at H
  cases H
  obtain ⟨rfl, rfl⟩ := jfin2 D
  exact r_iret K dX6_numberOf_82
set_option maxRecDepth 10000 in
theorem t_X6_numberOf_34 {X : jX} {l : Launch} {n : Nat} {Y : jY} (K : jOK X RX6 cX6_numberOf 7 (some .int) 3) (hl : X.2.1 = l) {rr : Int32} {μr : jM} {v1 : Nat} {v3 : Int32} {v4 : Int32} {v5 : Int32} {v6 : Int32} {μ : jM} {z : ((Int32 × Int32 × jM) ⊕ (Int32 × jM))} (H : b_X6_numberOf_34 Y v1 v3 v4 v5 v6 μ = some z) (D : Sum.elim (fun (s : Int32 × Int32 × jM) => JW X (jEnd X n Y (some (.int rr)) μr 0 0) 0 0 n Y 34 [(1, .ref v1), (3, .int v3), (4, .int v4), (5, .int s.1), (6, .int s.2.1)] [] s.2.2) (fun r => r = (rr, μr)) z) : JW X (jEnd X n Y (some (.int rr)) μr 0 0) 0 0 n Y 34 [(1, .ref v1), (3, .int v3), (4, .int v4), (5, .int v5), (6, .int v6)] [] μ := by
  unfold b_X6_numberOf_34 at H
  refine r_iload K 4 dX6_numberOf_34 rfl ?_
  refine r_iload_n K 1 dX6_numberOf_36 rfl rfl ?_
  refine w_icmp_ge K 69 dX6_numberOf_37 (by decide) H (fun _ H => ?_) (fun _ H => ?_)
  · refine r_iload K 2 dX6_numberOf_69 rfl ?_
    refine w_if_eq K 80 dX6_numberOf_71 (by decide) H (fun _ H => ?_) (fun _ H => ?_)
    · refine r_iload K 3 dX6_numberOf_80 rfl ?_
      obtain ⟨z2, H2, rfl⟩ := jmap H
      exact r_sub [] rfl (t_X6_numberOf_82 K hl H2 D)
    · refine r_iload K 3 dX6_numberOf_74 rfl ?_
      refine r_ineg K dX6_numberOf_76 ?_
      refine r_goto K 82 dX6_numberOf_77 (by decide) ?_
      obtain ⟨z2, H2, rfl⟩ := jmap H
      exact r_sub [] rfl (t_X6_numberOf_82 K hl H2 D)
  · refine r_sipush (v := 1000) K dX6_numberOf_40 (by decide) ?_
    refine r_bipush (v := 10) K dX6_numberOf_43 (by decide) ?_
    refine r_iload K 3 dX6_numberOf_45 rfl ?_
    refine r_imul K dX6_numberOf_47 ?_
    refine r_aload_n K 0 dX6_numberOf_48 rfl rfl ?_
    refine r_iload K 4 dX6_numberOf_49 rfl ?_
    refine w_callV K hl H (fun r h => c_X5_byteAt l h) mC_yX5_byteAt mM_RX6_42 mI_yX5_byteAt mS_yX5_byteAt mZ_RX5 vc5 (Nat.le_of_ble_eq_true rfl) (Nat.le_of_ble_eq_true rfl) np_yX5_byteAt rfl (Nat.le_of_ble_eq_true rfl) dX6_numberOf_51 (fun r1 H => ?_) ⟨Nat.zero_le _, Nat.zero_le _⟩
    refine r_iadd K dX6_numberOf_54 ?_
    refine r_bipush (v := 48) K dX6_numberOf_55 (by decide) ?_
    refine r_isub K dX6_numberOf_57 ?_
    refine r_mmin K mM_RX6_61 mT_minI mZ_Math mC_minI (Nat.le_of_ble_eq_true rfl) (Nat.le_of_ble_eq_true rfl) ⟨Nat.zero_le _, Nat.zero_le _⟩ dX6_numberOf_58 ?_
    refine r_istore K [(5, .int _), (1, .ref _), (3, .int _), (4, .int _), (6, .int _)] dX6_numberOf_61 (by decide) rfl ?_
    refine r_iinc K 4 [(6, .int _), (5, .int _), (1, .ref _), (3, .int _), (4, .int _)] (v := _ + (1 : Int32)) dX6_numberOf_63 rfl rfl (by decide) rfl ?_
    refine r_goto K 34 dX6_numberOf_66 (by decide) ?_
    cases H
    exact r_sub [2, 3, 4, 1, 0] rfl D
set_option maxRecDepth 10000 in
theorem l_X6_numberOf_34 {X : jX} {l : Launch} {n : Nat} {Y : jY} (K : jOK X RX6 cX6_numberOf 7 (some .int) 3) (hl : X.2.1 = l) {rr : Int32} {μr : jM} {v1 : Nat} {v3 : Int32} {v4 : Int32}  {s0 : Int32 × Int32 × jM} {z : (Int32 × jM)} (H : jit jF (fun (s : Int32 × Int32 × jM) => b_X6_numberOf_34 Y v1 v3 v4 s.1 s.2.1 s.2.2) s0 = some z) (D : z = (rr, μr)) : JW X (jEnd X n Y (some (.int rr)) μr 0 0) 0 0 n Y 34 [(1, .ref v1), (3, .int v3), (4, .int v4), (5, .int s0.1), (6, .int s0.2.1)] [] s0.2.2 :=
  jit_ind (P := fun (s : Int32 × Int32 × jM) => JW X (jEnd X n Y (some (.int rr)) μr 0 0) 0 0 n Y 34 [(1, .ref v1), (3, .int v3), (4, .int v4), (5, .int s.1), (6, .int s.2.1)] [] s.2.2) (D := fun r => r = (rr, μr)) (fun s z Hs Ds => t_X6_numberOf_34 K hl Hs Ds) jF s0 z H D
set_option maxRecDepth 10000 in
theorem t_X6_numberOf_32 {X : jX} {l : Launch} {n : Nat} {Y : jY} (K : jOK X RX6 cX6_numberOf 7 (some .int) 3) (hl : X.2.1 = l) {rr : Int32} {μr : jM} {v1 : Nat} {v3 : Int32} {v4 : Int32} {v5 : Int32} {t0 : Int32} {μ : jM} {z : (Int32 × jM)} (H : b_X6_numberOf_32 Y v1 v3 v4 v5 t0 μ = some z) (D : z = (rr, μr)) : JW X (jEnd X n Y (some (.int rr)) μr 0 0) 0 0 n Y 32 [(1, .ref v1), (3, .int v3), (4, .int v4), (5, .int v5)] [.int t0] μ := by
  unfold b_X6_numberOf_32 at H
  refine r_istore K [(6, .int _), (1, .ref _), (3, .int _), (4, .int _), (5, .int _)] dX6_numberOf_32 (by decide) rfl ?_
  exact r_sub [1, 2, 3, 4, 0] rfl (l_X6_numberOf_34 K hl H D)
set_option maxRecDepth 10000 in
theorem t_X6_numberOf_15 {X : jX} {l : Launch} {n : Nat} {Y : jY} (K : jOK X RX6 cX6_numberOf 7 (some .int) 3) (hl : X.2.1 = l) {rr : Int32} {μr : jM} {v1 : Nat} {v2 : Int32} {v3 : Int32} {t0 : Int32} {μ : jM} {z : (Int32 × jM)} (H : b_X6_numberOf_15 Y v1 v2 v3 t0 μ = some z) (D : z = (rr, μr)) : JW X (jEnd X n Y (some (.int rr)) μr 0 0) 0 0 n Y 15 [(1, .ref v1), (2, .int v2), (3, .int v3)] [.int t0] μ := by
  unfold b_X6_numberOf_15 at H
  refine r_istore K [(4, .int _), (1, .ref _), (2, .int _), (3, .int _)] dX6_numberOf_15 (by decide) rfl ?_
  refine r_iconst (v := 0) K dX6_numberOf_17 (by decide) ?_
  refine r_istore K [(5, .int _), (4, .int _), (1, .ref _), (2, .int _), (3, .int _)] dX6_numberOf_18 (by decide) rfl ?_
  refine r_iload K 1 dX6_numberOf_20 rfl ?_
  refine w_if_eq K 31 dX6_numberOf_22 (by decide) H (fun _ H => ?_) (fun _ H => ?_)
  · refine r_iload_n K 3 dX6_numberOf_31 rfl rfl ?_
    exact r_sub [2, 4, 1, 0] rfl (t_X6_numberOf_32 K hl H D)
  · refine r_iload_n K 3 dX6_numberOf_25 rfl rfl ?_
    refine r_iconst (v := 1) K dX6_numberOf_26 (by decide) ?_
    refine r_iadd K dX6_numberOf_27 ?_
    refine r_goto K 32 dX6_numberOf_28 (by decide) ?_
    exact r_sub [2, 4, 1, 0] rfl (t_X6_numberOf_32 K hl H D)
set_option maxRecDepth 10000 in
theorem t_X6_numberOf_0 {X : jX} {l : Launch} {n : Nat} {Y : jY} (K : jOK X RX6 cX6_numberOf 7 (some .int) 3) (hl : X.2.1 = l) {rr : Int32} {μr : jM} {v0 : Nat} {v1 : Nat} {v2 : Int32} {v3 : Int32} {μ : jM} {z : (Int32 × jM)} (H : f_X6_numberOf Y v0 v1 v2 v3 μ = some z) (D : z = (rr, μr)) : JW X (jEnd X n Y (some (.int rr)) μr 0 0) 0 0 n Y 0 [(0, .ref v0), (1, .ref v1), (2, .int v2), (3, .int v3)] [] μ := by
  unfold f_X6_numberOf at H
  refine r_aload_n K 1 dX6_numberOf_0 rfl rfl ?_
  refine r_iload_n K 2 dX6_numberOf_1 rfl rfl ?_
  refine w_callV K hl H (fun r h => c_X5_byteAt l h) mC_yX5_byteAt mM_RX6_42 mI_yX5_byteAt mS_yX5_byteAt mZ_RX5 vc5 (Nat.le_of_ble_eq_true rfl) (Nat.le_of_ble_eq_true rfl) np_yX5_byteAt rfl (Nat.le_of_ble_eq_true rfl) dX6_numberOf_2 (fun r1 H => ?_) ⟨Nat.zero_le _, Nat.zero_le _⟩
  refine r_bipush (v := 45) K dX6_numberOf_5 (by decide) ?_
  refine w_icmp_ne K 14 dX6_numberOf_7 (by decide) H (fun _ H => ?_) (fun _ H => ?_)
  · refine r_iconst (v := 0) K dX6_numberOf_14 (by decide) ?_
    exact r_sub [1, 2, 3] rfl (t_X6_numberOf_15 K hl H D)
  · refine r_iconst (v := 1) K dX6_numberOf_10 (by decide) ?_
    refine r_goto K 15 dX6_numberOf_11 (by decide) ?_
    exact r_sub [1, 2, 3] rfl (t_X6_numberOf_15 K hl H D)
theorem c_X6_numberOf (l : Launch) {n : Nat} {Y : jY} {v0 : Nat} {v1 : Nat} {v2 : Int32} {v3 : Int32} {μ : jM} {z : Int32 × jM} (H : f_X6_numberOf Y v0 v1 v2 v3 μ = some z) : jC l yX6_numberOf cX6_numberOf 7 (some .int) 3 0 0 [.ref v0, .ref v1, .int v2, .int v3] n Y μ n Y (some (.int z.1)) z.2 := by
  refine jC_of (by decide +kernel) (Nat.le_of_ble_eq_true rfl) (fun X hl K _ _ _ => ?_)
  obtain ⟨rr, μr⟩ := z
  exact t_X6_numberOf_0 K hl H rfl
/-! RX6 faultOfSecond(I)I -/
def b_X6_faultOfSecond_115 (Y : jY) (v0 : Nat) (v1 : Int32) (μ : jM) : Option (Int32 × jM) :=
  (jgO Y μ v0 6 1).bind fun x1 =>
  (jgI Y μ v0 6 3).bind fun x2 =>
  (jas Y μ x1 20 x2 (.int v1)).bind fun μ3 =>
  (jgI Y μ3 v0 6 3).bind fun x4 =>
  (jput Y μ3 v0 6 3 (.int ((x4 + ((1 : Int32)))))).bind fun μ5 =>
  some ((0 : Int32), μ5)
def b_X6_faultOfSecond_113 (Y : jY) (μ : jM) : Option (Int32 × jM) :=
  some ((5 : Int32), μ)
def b_X6_faultOfSecond_78 (Y : jY) (v0 : Nat) (v1 : Int32) (μ : jM) : Option (Int32 × jM) :=
  (jgI Y μ v0 6 4).bind fun x1 =>
  if x1 = 0 then
    b_X6_faultOfSecond_115 Y v0 v1 μ
  else
    (jgO Y μ v0 6 0).bind fun x2 =>
    (jgI Y μ v0 6 3).bind fun x3 =>
    (jaI Y μ x2 20 x3).bind fun x4 =>
    if v1 ≤ x4 then
      b_X6_faultOfSecond_113 Y μ
    else
      (jgO Y μ v0 6 0).bind fun x5 =>
      (jgI Y μ v0 6 3).bind fun x6 =>
      (jaI Y μ x5 20 ((x6 + ((1 : Int32))))).bind fun x7 =>
      if v1 < x7 then
        b_X6_faultOfSecond_115 Y v0 v1 μ
      else
        b_X6_faultOfSecond_113 Y μ
def b_X6_faultOfSecond_25 (Y : jY) (v0 : Nat) (v1 : Int32) (t0 : Int32) (μ : jM) : Option (Int32 × jM) :=
  if t0 = 0 then
    some ((2 : Int32), μ)
  else
    (jgI Y μ v0 6 3).bind fun x1 =>
    (jgI Y μ v0 6 2).bind fun x2 =>
    if x1 < ((x2 - ((1 : Int32)))) then
      (jgI Y μ v0 6 4).bind fun x3 =>
      if x3 = 0 then
        b_X6_faultOfSecond_78 Y v0 v1 μ
      else
        (jgI Y μ v0 6 3).bind fun x4 =>
        if x4 ≤ 0 then
          b_X6_faultOfSecond_78 Y v0 v1 μ
        else
          (jgO Y μ v0 6 1).bind fun x5 =>
          (jgI Y μ v0 6 3).bind fun x6 =>
          (jaI Y μ x5 20 ((x6 - ((1 : Int32))))).bind fun x7 =>
          if x7 < v1 then
            b_X6_faultOfSecond_78 Y v0 v1 μ
          else
            some ((4 : Int32), μ)
    else
      some ((3 : Int32), μ)
def f_X6_faultOfSecond (Y : jY) (v0 : Nat) (v1 : Int32) (μ : jM) : Option (Int32 × jM) :=
  (jgI Y μ v0 6 4).bind fun x1 =>
  if x1 = 0 then
    (f_X11_within Y v1 ((1 : Int32)) ((36 : Int32)) μ).bind fun r2 =>
    b_X6_faultOfSecond_25 Y v0 v1 r2.1 r2.2
  else
    (f_X11_within Y v1 ((-6 : Int32)) ((6 : Int32)) μ).bind fun r3 =>
    b_X6_faultOfSecond_25 Y v0 v1 r3.1 r3.2
set_option maxRecDepth 10000 in
theorem t_X6_faultOfSecond_115 {X : jX} {l : Launch} {n : Nat} {Y : jY} (K : jOK X RX6 cX6_faultOfSecond 3 (some .int) 2) (hl : X.2.1 = l) {rr : Int32} {μr : jM} {v0 : Nat} {v1 : Int32} {μ : jM} {z : (Int32 × jM)} (H : b_X6_faultOfSecond_115 Y v0 v1 μ = some z) (D : z = (rr, μr)) : JW X (jEnd X n Y (some (.int rr)) μr 0 0) 0 0 n Y 115 [(0, .ref v0), (1, .int v1)] [] μ := by
  unfold b_X6_faultOfSecond_115 at H
  refine r_aload_n K 0 dX6_faultOfSecond_115 rfl rfl ?_
  refine w_getO K vc6 inX6 1 (by decide) mF_RX6_15 dX6_faultOfSecond_116 H (fun x1 H => ?_)
  refine r_aload_n K 0 dX6_faultOfSecond_119 rfl rfl ?_
  refine w_getI K vc6 inX6 3 (by decide) mF_RX6_22 dX6_faultOfSecond_120 H (fun x2 H => ?_)
  refine r_iload_n K 1 dX6_faultOfSecond_123 rfl rfl ?_
  refine w_iast K dX6_faultOfSecond_124 H (fun μ3 H => ?_)
  refine r_aload_n K 0 dX6_faultOfSecond_125 rfl rfl ?_
  refine r_dup K dX6_faultOfSecond_126 rfl ?_
  refine w_getI K vc6 inX6 3 (by decide) mF_RX6_22 dX6_faultOfSecond_127 H (fun x4 H => ?_)
  refine r_iconst (v := 1) K dX6_faultOfSecond_130 (by decide) ?_
  refine r_iadd K dX6_faultOfSecond_131 ?_
  refine w_put K vc6 inX6 tyX6_ok nmX6 3 (by decide) mF_RX6_22 rfl (fun _ => rfl) (fun _ => rfl) dX6_faultOfSecond_132 H (fun μ5 H => ?_)
  refine r_iconst (v := 0) K dX6_faultOfSecond_135 (by decide) ?_
  cases H
  obtain ⟨rfl, rfl⟩ := jfin2 D
  exact r_iret K dX6_faultOfSecond_136
set_option maxRecDepth 10000 in
theorem t_X6_faultOfSecond_113 {X : jX} {l : Launch} {n : Nat} {Y : jY} (K : jOK X RX6 cX6_faultOfSecond 3 (some .int) 2) (hl : X.2.1 = l) {rr : Int32} {μr : jM} {μ : jM} {z : (Int32 × jM)} (H : b_X6_faultOfSecond_113 Y μ = some z) (D : z = (rr, μr)) : JW X (jEnd X n Y (some (.int rr)) μr 0 0) 0 0 n Y 113 [] [] μ := by
  unfold b_X6_faultOfSecond_113 at H
  refine r_iconst (v := 5) K dX6_faultOfSecond_113 (by decide) ?_
  cases H
  obtain ⟨rfl, rfl⟩ := jfin2 D
  exact r_iret K dX6_faultOfSecond_114
set_option maxRecDepth 10000 in
theorem t_X6_faultOfSecond_78 {X : jX} {l : Launch} {n : Nat} {Y : jY} (K : jOK X RX6 cX6_faultOfSecond 3 (some .int) 2) (hl : X.2.1 = l) {rr : Int32} {μr : jM} {v0 : Nat} {v1 : Int32} {μ : jM} {z : (Int32 × jM)} (H : b_X6_faultOfSecond_78 Y v0 v1 μ = some z) (D : z = (rr, μr)) : JW X (jEnd X n Y (some (.int rr)) μr 0 0) 0 0 n Y 78 [(0, .ref v0), (1, .int v1)] [] μ := by
  unfold b_X6_faultOfSecond_78 at H
  refine r_aload_n K 0 dX6_faultOfSecond_78 rfl rfl ?_
  refine w_getI K vc6 inX6 4 (by decide) mF_RX6_25 dX6_faultOfSecond_79 H (fun x1 H => ?_)
  refine w_if_eq K 115 dX6_faultOfSecond_82 (by decide) H (fun _ H => ?_) (fun _ H => ?_)
  · exact r_sub [0, 1] rfl (t_X6_faultOfSecond_115 K hl H D)
  · refine r_iload_n K 1 dX6_faultOfSecond_85 rfl rfl ?_
    refine r_aload_n K 0 dX6_faultOfSecond_86 rfl rfl ?_
    refine w_getO K vc6 inX6 0 (by decide) mF_RX6_9 dX6_faultOfSecond_87 H (fun x2 H => ?_)
    refine r_aload_n K 0 dX6_faultOfSecond_90 rfl rfl ?_
    refine w_getI K vc6 inX6 3 (by decide) mF_RX6_22 dX6_faultOfSecond_91 H (fun x3 H => ?_)
    refine w_iald K dX6_faultOfSecond_94 H (fun x4 H => ?_)
    refine w_icmp_le K 113 dX6_faultOfSecond_95 (by decide) H (fun _ H => ?_) (fun _ H => ?_)
    · exact r_sub [] rfl (t_X6_faultOfSecond_113 K hl H D)
    · refine r_iload_n K 1 dX6_faultOfSecond_98 rfl rfl ?_
      refine r_aload_n K 0 dX6_faultOfSecond_99 rfl rfl ?_
      refine w_getO K vc6 inX6 0 (by decide) mF_RX6_9 dX6_faultOfSecond_100 H (fun x5 H => ?_)
      refine r_aload_n K 0 dX6_faultOfSecond_103 rfl rfl ?_
      refine w_getI K vc6 inX6 3 (by decide) mF_RX6_22 dX6_faultOfSecond_104 H (fun x6 H => ?_)
      refine r_iconst (v := 1) K dX6_faultOfSecond_107 (by decide) ?_
      refine r_iadd K dX6_faultOfSecond_108 ?_
      refine w_iald K dX6_faultOfSecond_109 H (fun x7 H => ?_)
      refine w_icmp_lt K 115 dX6_faultOfSecond_110 (by decide) H (fun _ H => ?_) (fun _ H => ?_)
      · exact r_sub [0, 1] rfl (t_X6_faultOfSecond_115 K hl H D)
      · exact r_sub [] rfl (t_X6_faultOfSecond_113 K hl H D)
set_option maxRecDepth 10000 in
theorem t_X6_faultOfSecond_25 {X : jX} {l : Launch} {n : Nat} {Y : jY} (K : jOK X RX6 cX6_faultOfSecond 3 (some .int) 2) (hl : X.2.1 = l) {rr : Int32} {μr : jM} {v0 : Nat} {v1 : Int32} {t0 : Int32} {μ : jM} {z : (Int32 × jM)} (H : b_X6_faultOfSecond_25 Y v0 v1 t0 μ = some z) (D : z = (rr, μr)) : JW X (jEnd X n Y (some (.int rr)) μr 0 0) 0 0 n Y 25 [(0, .ref v0), (1, .int v1)] [.int t0] μ := by
  unfold b_X6_faultOfSecond_25 at H
  refine r_istore_n K [(2, .int _), (0, .ref _), (1, .int _)] dX6_faultOfSecond_25 rfl (by decide) rfl ?_
  refine r_iload_n K 0 dX6_faultOfSecond_26 rfl rfl ?_
  refine w_if_ne K 32 dX6_faultOfSecond_27 (by decide) H (fun _ H => ?_) (fun _ H => ?_)
  · refine r_aload_n K 1 dX6_faultOfSecond_32 rfl rfl ?_
    refine w_getI K vc6 inX6 3 (by decide) mF_RX6_22 dX6_faultOfSecond_33 H (fun x1 H => ?_)
    refine r_aload_n K 1 dX6_faultOfSecond_36 rfl rfl ?_
    refine w_getI K vc6 inX6 2 (by decide) mF_RX6_18 dX6_faultOfSecond_37 H (fun x2 H => ?_)
    refine r_iconst (v := 1) K dX6_faultOfSecond_40 (by decide) ?_
    refine r_isub K dX6_faultOfSecond_41 ?_
    refine w_icmp_lt K 47 dX6_faultOfSecond_42 (by decide) H (fun _ H => ?_) (fun _ H => ?_)
    · refine r_aload_n K 1 dX6_faultOfSecond_47 rfl rfl ?_
      refine w_getI K vc6 inX6 4 (by decide) mF_RX6_25 dX6_faultOfSecond_48 H (fun x3 H => ?_)
      refine w_if_eq K 78 dX6_faultOfSecond_51 (by decide) H (fun _ H => ?_) (fun _ H => ?_)
      · exact r_sub [1, 2] rfl (t_X6_faultOfSecond_78 K hl H D)
      · refine r_aload_n K 1 dX6_faultOfSecond_54 rfl rfl ?_
        refine w_getI K vc6 inX6 3 (by decide) mF_RX6_22 dX6_faultOfSecond_55 H (fun x4 H => ?_)
        refine w_if_le K 78 dX6_faultOfSecond_58 (by decide) H (fun _ H => ?_) (fun _ H => ?_)
        · exact r_sub [1, 2] rfl (t_X6_faultOfSecond_78 K hl H D)
        · refine r_iload_n K 2 dX6_faultOfSecond_61 rfl rfl ?_
          refine r_aload_n K 1 dX6_faultOfSecond_62 rfl rfl ?_
          refine w_getO K vc6 inX6 1 (by decide) mF_RX6_15 dX6_faultOfSecond_63 H (fun x5 H => ?_)
          refine r_aload_n K 1 dX6_faultOfSecond_66 rfl rfl ?_
          refine w_getI K vc6 inX6 3 (by decide) mF_RX6_22 dX6_faultOfSecond_67 H (fun x6 H => ?_)
          refine r_iconst (v := 1) K dX6_faultOfSecond_70 (by decide) ?_
          refine r_isub K dX6_faultOfSecond_71 ?_
          refine w_iald K dX6_faultOfSecond_72 H (fun x7 H => ?_)
          refine w_icmp_gt K 78 dX6_faultOfSecond_73 (by decide) H (fun _ H => ?_) (fun _ H => ?_)
          · exact r_sub [1, 2] rfl (t_X6_faultOfSecond_78 K hl H D)
          · refine r_iconst (v := 4) K dX6_faultOfSecond_76 (by decide) ?_
            cases H
            obtain ⟨rfl, rfl⟩ := jfin2 D
            exact r_iret K dX6_faultOfSecond_77
    · refine r_iconst (v := 3) K dX6_faultOfSecond_45 (by decide) ?_
      cases H
      obtain ⟨rfl, rfl⟩ := jfin2 D
      exact r_iret K dX6_faultOfSecond_46
  · refine r_iconst (v := 2) K dX6_faultOfSecond_30 (by decide) ?_
    cases H
    obtain ⟨rfl, rfl⟩ := jfin2 D
    exact r_iret K dX6_faultOfSecond_31
set_option maxRecDepth 10000 in
theorem t_X6_faultOfSecond_0 {X : jX} {l : Launch} {n : Nat} {Y : jY} (K : jOK X RX6 cX6_faultOfSecond 3 (some .int) 2) (hl : X.2.1 = l) {rr : Int32} {μr : jM} {v0 : Nat} {v1 : Int32} {μ : jM} {z : (Int32 × jM)} (H : f_X6_faultOfSecond Y v0 v1 μ = some z) (D : z = (rr, μr)) : JW X (jEnd X n Y (some (.int rr)) μr 0 0) 0 0 n Y 0 [(0, .ref v0), (1, .int v1)] [] μ := by
  unfold f_X6_faultOfSecond at H
  refine r_aload_n K 0 dX6_faultOfSecond_0 rfl rfl ?_
  refine w_getI K vc6 inX6 4 (by decide) mF_RX6_25 dX6_faultOfSecond_1 H (fun x1 H => ?_)
  refine w_if_eq K 18 dX6_faultOfSecond_4 (by decide) H (fun _ H => ?_) (fun _ H => ?_)
  · refine r_iload_n K 1 dX6_faultOfSecond_18 rfl rfl ?_
    refine r_iconst (v := 1) K dX6_faultOfSecond_19 (by decide) ?_
    refine r_bipush (v := 36) K dX6_faultOfSecond_20 (by decide) ?_
    refine w_callSN K hl H (fun r h => c_X11_within l h) mC_yX11_within mQ_RX6_67 mT_yX11_within mZ_RX11 (Nat.le_of_ble_eq_true rfl) (Nat.le_of_ble_eq_true rfl) np_yX11_within rfl (Nat.le_of_ble_eq_true rfl) dX6_faultOfSecond_22 (fun r2 H => ?_) ⟨Nat.zero_le _, Nat.zero_le _⟩
    exact r_sub [0, 1] rfl (t_X6_faultOfSecond_25 K hl H D)
  · refine r_iload_n K 1 dX6_faultOfSecond_7 rfl rfl ?_
    refine r_bipush (v := -6) K dX6_faultOfSecond_8 (by decide) ?_
    refine r_bipush (v := 6) K dX6_faultOfSecond_10 (by decide) ?_
    refine w_callSN K hl H (fun r h => c_X11_within l h) mC_yX11_within mQ_RX6_67 mT_yX11_within mZ_RX11 (Nat.le_of_ble_eq_true rfl) (Nat.le_of_ble_eq_true rfl) np_yX11_within rfl (Nat.le_of_ble_eq_true rfl) dX6_faultOfSecond_12 (fun r3 H => ?_) ⟨Nat.zero_le _, Nat.zero_le _⟩
    refine r_goto K 25 dX6_faultOfSecond_15 (by decide) ?_
    exact r_sub [0, 1] rfl (t_X6_faultOfSecond_25 K hl H D)
theorem c_X6_faultOfSecond (l : Launch) {n : Nat} {Y : jY} {v0 : Nat} {v1 : Int32} {μ : jM} {z : Int32 × jM} (H : f_X6_faultOfSecond Y v0 v1 μ = some z) : jC l yX6_faultOfSecond cX6_faultOfSecond 3 (some .int) 2 0 0 [.ref v0, .int v1] n Y μ n Y (some (.int z.1)) z.2 := by
  refine jC_of (by decide +kernel) (Nat.le_of_ble_eq_true rfl) (fun X hl K _ _ _ => ?_)
  obtain ⟨rr, μr⟩ := z
  exact t_X6_faultOfSecond_0 K hl H rfl
/-! RX6 faultOfFirst(I)I -/
def b_X6_faultOfFirst_65 (Y : jY) (v0 : Nat) (v1 : Int32) (μ : jM) : Option (Int32 × jM) :=
  (jgO Y μ v0 6 0).bind fun x1 =>
  (jgI Y μ v0 6 2).bind fun x2 =>
  (jas Y μ x1 20 x2 (.int v1)).bind fun μ3 =>
  (jgI Y μ3 v0 6 2).bind fun x4 =>
  (jput Y μ3 v0 6 2 (.int ((x4 + ((1 : Int32)))))).bind fun μ5 =>
  some ((0 : Int32), μ5)
def b_X6_faultOfFirst_29 (Y : jY) (v0 : Nat) (v1 : Int32) (t0 : Int32) (t1 : Int32) (μ : jM) : Option (Int32 × jM) :=
  if t0 < t1 then
    (jgI Y μ v0 6 4).bind fun x1 =>
    if x1 = 0 then
      b_X6_faultOfFirst_65 Y v0 v1 μ
    else
      (jgI Y μ v0 6 2).bind fun x2 =>
      if x2 ≤ 0 then
        b_X6_faultOfFirst_65 Y v0 v1 μ
      else
        (jgO Y μ v0 6 0).bind fun x3 =>
        (jgI Y μ v0 6 2).bind fun x4 =>
        (jaI Y μ x3 20 ((x4 - ((1 : Int32))))).bind fun x5 =>
        if x5 < v1 then
          b_X6_faultOfFirst_65 Y v0 v1 μ
        else
          some ((4 : Int32), μ)
  else
    some ((3 : Int32), μ)
def f_X6_faultOfFirst (Y : jY) (v0 : Nat) (v1 : Int32) (μ : jM) : Option (Int32 × jM) :=
  (f_X11_within Y v1 ((-6 : Int32)) ((6 : Int32)) μ).bind fun r1 =>
  if r1.1 = 0 then
    some ((2 : Int32), r1.2)
  else
    (jgI Y r1.2 v0 6 2).bind fun x2 =>
    (jgI Y r1.2 v0 6 4).bind fun x3 =>
    if x3 = 0 then
      b_X6_faultOfFirst_29 Y v0 v1 x2 (5 : Int32) r1.2
    else
      b_X6_faultOfFirst_29 Y v0 v1 x2 (4 : Int32) r1.2
set_option maxRecDepth 10000 in
theorem t_X6_faultOfFirst_65 {X : jX} {l : Launch} {n : Nat} {Y : jY} (K : jOK X RX6 cX6_faultOfFirst 2 (some .int) 2) (hl : X.2.1 = l) {rr : Int32} {μr : jM} {v0 : Nat} {v1 : Int32} {μ : jM} {z : (Int32 × jM)} (H : b_X6_faultOfFirst_65 Y v0 v1 μ = some z) (D : z = (rr, μr)) : JW X (jEnd X n Y (some (.int rr)) μr 0 0) 0 0 n Y 65 [(0, .ref v0), (1, .int v1)] [] μ := by
  unfold b_X6_faultOfFirst_65 at H
  refine r_aload_n K 0 dX6_faultOfFirst_65 rfl rfl ?_
  refine w_getO K vc6 inX6 0 (by decide) mF_RX6_9 dX6_faultOfFirst_66 H (fun x1 H => ?_)
  refine r_aload_n K 0 dX6_faultOfFirst_69 rfl rfl ?_
  refine w_getI K vc6 inX6 2 (by decide) mF_RX6_18 dX6_faultOfFirst_70 H (fun x2 H => ?_)
  refine r_iload_n K 1 dX6_faultOfFirst_73 rfl rfl ?_
  refine w_iast K dX6_faultOfFirst_74 H (fun μ3 H => ?_)
  refine r_aload_n K 0 dX6_faultOfFirst_75 rfl rfl ?_
  refine r_dup K dX6_faultOfFirst_76 rfl ?_
  refine w_getI K vc6 inX6 2 (by decide) mF_RX6_18 dX6_faultOfFirst_77 H (fun x4 H => ?_)
  refine r_iconst (v := 1) K dX6_faultOfFirst_80 (by decide) ?_
  refine r_iadd K dX6_faultOfFirst_81 ?_
  refine w_put K vc6 inX6 tyX6_ok nmX6 2 (by decide) mF_RX6_18 rfl (fun _ => rfl) (fun _ => rfl) dX6_faultOfFirst_82 H (fun μ5 H => ?_)
  refine r_iconst (v := 0) K dX6_faultOfFirst_85 (by decide) ?_
  cases H
  obtain ⟨rfl, rfl⟩ := jfin2 D
  exact r_iret K dX6_faultOfFirst_86
set_option maxRecDepth 10000 in
theorem t_X6_faultOfFirst_29 {X : jX} {l : Launch} {n : Nat} {Y : jY} (K : jOK X RX6 cX6_faultOfFirst 2 (some .int) 2) (hl : X.2.1 = l) {rr : Int32} {μr : jM} {v0 : Nat} {v1 : Int32} {t0 : Int32} {t1 : Int32} {μ : jM} {z : (Int32 × jM)} (H : b_X6_faultOfFirst_29 Y v0 v1 t0 t1 μ = some z) (D : z = (rr, μr)) : JW X (jEnd X n Y (some (.int rr)) μr 0 0) 0 0 n Y 29 [(0, .ref v0), (1, .int v1)] [.int t1, .int t0] μ := by
  unfold b_X6_faultOfFirst_29 at H
  refine w_icmp_lt K 34 dX6_faultOfFirst_29 (by decide) H (fun _ H => ?_) (fun _ H => ?_)
  · refine r_aload_n K 0 dX6_faultOfFirst_34 rfl rfl ?_
    refine w_getI K vc6 inX6 4 (by decide) mF_RX6_25 dX6_faultOfFirst_35 H (fun x1 H => ?_)
    refine w_if_eq K 65 dX6_faultOfFirst_38 (by decide) H (fun _ H => ?_) (fun _ H => ?_)
    · exact r_sub [0, 1] rfl (t_X6_faultOfFirst_65 K hl H D)
    · refine r_aload_n K 0 dX6_faultOfFirst_41 rfl rfl ?_
      refine w_getI K vc6 inX6 2 (by decide) mF_RX6_18 dX6_faultOfFirst_42 H (fun x2 H => ?_)
      refine w_if_le K 65 dX6_faultOfFirst_45 (by decide) H (fun _ H => ?_) (fun _ H => ?_)
      · exact r_sub [0, 1] rfl (t_X6_faultOfFirst_65 K hl H D)
      · refine r_iload_n K 1 dX6_faultOfFirst_48 rfl rfl ?_
        refine r_aload_n K 0 dX6_faultOfFirst_49 rfl rfl ?_
        refine w_getO K vc6 inX6 0 (by decide) mF_RX6_9 dX6_faultOfFirst_50 H (fun x3 H => ?_)
        refine r_aload_n K 0 dX6_faultOfFirst_53 rfl rfl ?_
        refine w_getI K vc6 inX6 2 (by decide) mF_RX6_18 dX6_faultOfFirst_54 H (fun x4 H => ?_)
        refine r_iconst (v := 1) K dX6_faultOfFirst_57 (by decide) ?_
        refine r_isub K dX6_faultOfFirst_58 ?_
        refine w_iald K dX6_faultOfFirst_59 H (fun x5 H => ?_)
        refine w_icmp_gt K 65 dX6_faultOfFirst_60 (by decide) H (fun _ H => ?_) (fun _ H => ?_)
        · exact r_sub [0, 1] rfl (t_X6_faultOfFirst_65 K hl H D)
        · refine r_iconst (v := 4) K dX6_faultOfFirst_63 (by decide) ?_
          cases H
          obtain ⟨rfl, rfl⟩ := jfin2 D
          exact r_iret K dX6_faultOfFirst_64
  · refine r_iconst (v := 3) K dX6_faultOfFirst_32 (by decide) ?_
    cases H
    obtain ⟨rfl, rfl⟩ := jfin2 D
    exact r_iret K dX6_faultOfFirst_33
set_option maxRecDepth 10000 in
theorem t_X6_faultOfFirst_0 {X : jX} {l : Launch} {n : Nat} {Y : jY} (K : jOK X RX6 cX6_faultOfFirst 2 (some .int) 2) (hl : X.2.1 = l) {rr : Int32} {μr : jM} {v0 : Nat} {v1 : Int32} {μ : jM} {z : (Int32 × jM)} (H : f_X6_faultOfFirst Y v0 v1 μ = some z) (D : z = (rr, μr)) : JW X (jEnd X n Y (some (.int rr)) μr 0 0) 0 0 n Y 0 [(0, .ref v0), (1, .int v1)] [] μ := by
  unfold f_X6_faultOfFirst at H
  refine r_iload_n K 1 dX6_faultOfFirst_0 rfl rfl ?_
  refine r_bipush (v := -6) K dX6_faultOfFirst_1 (by decide) ?_
  refine r_bipush (v := 6) K dX6_faultOfFirst_3 (by decide) ?_
  refine w_callSN K hl H (fun r h => c_X11_within l h) mC_yX11_within mQ_RX6_67 mT_yX11_within mZ_RX11 (Nat.le_of_ble_eq_true rfl) (Nat.le_of_ble_eq_true rfl) np_yX11_within rfl (Nat.le_of_ble_eq_true rfl) dX6_faultOfFirst_5 (fun r1 H => ?_) ⟨Nat.zero_le _, Nat.zero_le _⟩
  refine w_if_ne K 13 dX6_faultOfFirst_8 (by decide) H (fun _ H => ?_) (fun _ H => ?_)
  · refine r_aload_n K 0 dX6_faultOfFirst_13 rfl rfl ?_
    refine w_getI K vc6 inX6 2 (by decide) mF_RX6_18 dX6_faultOfFirst_14 H (fun x2 H => ?_)
    refine r_aload_n K 0 dX6_faultOfFirst_17 rfl rfl ?_
    refine w_getI K vc6 inX6 4 (by decide) mF_RX6_25 dX6_faultOfFirst_18 H (fun x3 H => ?_)
    refine w_if_eq K 28 dX6_faultOfFirst_21 (by decide) H (fun _ H => ?_) (fun _ H => ?_)
    · refine r_iconst (v := 5) K dX6_faultOfFirst_28 (by decide) ?_
      exact r_sub [0, 1] rfl (t_X6_faultOfFirst_29 K hl H D)
    · refine r_iconst (v := 4) K dX6_faultOfFirst_24 (by decide) ?_
      refine r_goto K 29 dX6_faultOfFirst_25 (by decide) ?_
      exact r_sub [0, 1] rfl (t_X6_faultOfFirst_29 K hl H D)
  · refine r_iconst (v := 2) K dX6_faultOfFirst_11 (by decide) ?_
    cases H
    obtain ⟨rfl, rfl⟩ := jfin2 D
    exact r_iret K dX6_faultOfFirst_12
theorem c_X6_faultOfFirst (l : Launch) {n : Nat} {Y : jY} {v0 : Nat} {v1 : Int32} {μ : jM} {z : Int32 × jM} (H : f_X6_faultOfFirst Y v0 v1 μ = some z) : jC l yX6_faultOfFirst cX6_faultOfFirst 2 (some .int) 2 0 0 [.ref v0, .int v1] n Y μ n Y (some (.int z.1)) z.2 := by
  refine jC_of (by decide +kernel) (Nat.le_of_ble_eq_true rfl) (fun X hl K _ _ _ => ?_)
  obtain ⟨rr, μr⟩ := z
  exact t_X6_faultOfFirst_0 K hl H rfl
/-! RX6 faultOfToken(LChainTables$Tape;II)I -/
def b_X6_faultOfToken_78 (Y : jY) (μ : jM) : Option (Int32 × jM) :=
  some ((1 : Int32), μ)
def b_X6_faultOfToken_116 (Y : jY) (t0 : Int32) (μ : jM) : Option (Int32 × jM) :=
  some (t0, μ)
def b_X6_faultOfToken_59 (Y : jY) (t0 : Int32) (μ : jM) : Option (Int32 × jM) :=
  some (t0, μ)
def b_X6_faultOfToken_42 (Y : jY) (v0 : Nat) (t0 : Int32) (μ : jM) : Option (Int32 × jM) :=
  (jputZ Y μ v0 6 5 ((1 : Int32))).bind fun μ1 =>
  if t0 = 0 then
    b_X6_faultOfToken_59 Y (1 : Int32) μ1
  else
    b_X6_faultOfToken_59 Y (0 : Int32) μ1
def b_X6_faultOfToken_41 (Y : jY) (v0 : Nat) (μ : jM) : Option (Int32 × jM) :=
  b_X6_faultOfToken_42 Y v0 (0 : Int32) μ
def f_X6_faultOfToken (Y : jY) (v0 : Nat) (v1 : Nat) (v2 : Int32) (v3 : Int32) (μ : jM) : Option (Int32 × jM) :=
  (jrcv Y v1 5 (f_X5_byteAt Y v1 v2 μ)).bind fun r1 =>
  if r1.1 = ((32 : Int32)) then
    some ((0 : Int32), r1.2)
  else
    if r1.1 = ((47 : Int32)) then
      (jgI Y r1.2 v0 6 5).bind fun x9 =>
      if x9 = 0 then
        (jgI Y r1.2 v0 6 2).bind fun x10 =>
        if x10 ≤ 0 then
          b_X6_faultOfToken_41 Y v0 r1.2
        else
          b_X6_faultOfToken_42 Y v0 (1 : Int32) r1.2
      else
        b_X6_faultOfToken_41 Y v0 r1.2
    else
      (jrcv Y v1 5 (f_X5_isDigit Y v1 ((v3 - ((1 : Int32)))) r1.2)).bind fun r2 =>
      if r2.1 = 0 then
        b_X6_faultOfToken_78 Y r2.2
      else
        (jgI Y r2.2 v0 6 6).bind fun x3 =>
        if v2 = x3 then
          b_X6_faultOfToken_78 Y r2.2
        else
          (jput Y r2.2 v0 6 6 (.int v3)).bind fun μ4 =>
          (jrcv Y v0 6 (f_X6_numberOf Y v0 v1 v2 v3 μ4)).bind fun r5 =>
          (jgI Y r5.2 v0 6 5).bind fun x6 =>
          if x6 = 0 then
            (jrcv Y v0 6 (f_X6_faultOfFirst Y v0 r5.1 r5.2)).bind fun r7 =>
            b_X6_faultOfToken_116 Y r7.1 r7.2
          else
            (jrcv Y v0 6 (f_X6_faultOfSecond Y v0 r5.1 r5.2)).bind fun r8 =>
            b_X6_faultOfToken_116 Y r8.1 r8.2
set_option maxRecDepth 10000 in
theorem t_X6_faultOfToken_78 {X : jX} {l : Launch} {n : Nat} {Y : jY} (K : jOK X RX6 cX6_faultOfToken 6 (some .int) 4) (hl : X.2.1 = l) {rr : Int32} {μr : jM} {μ : jM} {z : (Int32 × jM)} (H : b_X6_faultOfToken_78 Y μ = some z) (D : z = (rr, μr)) : JW X (jEnd X n Y (some (.int rr)) μr 0 0) 0 0 n Y 78 [] [] μ := by
  unfold b_X6_faultOfToken_78 at H
  refine r_iconst (v := 1) K dX6_faultOfToken_78 (by decide) ?_
  cases H
  obtain ⟨rfl, rfl⟩ := jfin2 D
  exact r_iret K dX6_faultOfToken_79
set_option maxRecDepth 10000 in
theorem t_X6_faultOfToken_116 {X : jX} {l : Launch} {n : Nat} {Y : jY} (K : jOK X RX6 cX6_faultOfToken 6 (some .int) 4) (hl : X.2.1 = l) {rr : Int32} {μr : jM} {t0 : Int32} {μ : jM} {z : (Int32 × jM)} (H : b_X6_faultOfToken_116 Y t0 μ = some z) (D : z = (rr, μr)) : JW X (jEnd X n Y (some (.int rr)) μr 0 0) 0 0 n Y 116 [] [.int t0] μ := by
  unfold b_X6_faultOfToken_116 at H
  cases H
  obtain ⟨rfl, rfl⟩ := jfin2 D
  exact r_iret K dX6_faultOfToken_116
set_option maxRecDepth 10000 in
theorem t_X6_faultOfToken_59 {X : jX} {l : Launch} {n : Nat} {Y : jY} (K : jOK X RX6 cX6_faultOfToken 6 (some .int) 4) (hl : X.2.1 = l) {rr : Int32} {μr : jM} {t0 : Int32} {μ : jM} {z : (Int32 × jM)} (H : b_X6_faultOfToken_59 Y t0 μ = some z) (D : z = (rr, μr)) : JW X (jEnd X n Y (some (.int rr)) μr 0 0) 0 0 n Y 59 [] [.int t0] μ := by
  unfold b_X6_faultOfToken_59 at H
  cases H
  obtain ⟨rfl, rfl⟩ := jfin2 D
  exact r_iret K dX6_faultOfToken_59
set_option maxRecDepth 10000 in
theorem t_X6_faultOfToken_42 {X : jX} {l : Launch} {n : Nat} {Y : jY} (K : jOK X RX6 cX6_faultOfToken 6 (some .int) 4) (hl : X.2.1 = l) {rr : Int32} {μr : jM} {v0 : Nat} {t0 : Int32} {μ : jM} {z : (Int32 × jM)} (H : b_X6_faultOfToken_42 Y v0 t0 μ = some z) (D : z = (rr, μr)) : JW X (jEnd X n Y (some (.int rr)) μr 0 0) 0 0 n Y 42 [(0, .ref v0)] [.int t0] μ := by
  unfold b_X6_faultOfToken_42 at H
  refine r_istore K [(5, .int _), (0, .ref _)] dX6_faultOfToken_42 (by decide) rfl ?_
  refine r_aload_n K 1 dX6_faultOfToken_44 rfl rfl ?_
  refine r_iconst (v := 1) K dX6_faultOfToken_45 (by decide) ?_
  refine w_putZ K vc6 inX6 tyX6_ok nmX6 5 (by decide) mF_RX6_29 rfl rfl dX6_faultOfToken_46 H (fun μ1 H => ?_)
  refine r_iload K 0 dX6_faultOfToken_49 rfl ?_
  refine w_if_eq K 58 dX6_faultOfToken_51 (by decide) H (fun _ H => ?_) (fun _ H => ?_)
  · refine r_iconst (v := 1) K dX6_faultOfToken_58 (by decide) ?_
    exact r_sub [] rfl (t_X6_faultOfToken_59 K hl H D)
  · refine r_iconst (v := 0) K dX6_faultOfToken_54 (by decide) ?_
    refine r_goto K 59 dX6_faultOfToken_55 (by decide) ?_
    exact r_sub [] rfl (t_X6_faultOfToken_59 K hl H D)
set_option maxRecDepth 10000 in
theorem t_X6_faultOfToken_41 {X : jX} {l : Launch} {n : Nat} {Y : jY} (K : jOK X RX6 cX6_faultOfToken 6 (some .int) 4) (hl : X.2.1 = l) {rr : Int32} {μr : jM} {v0 : Nat} {μ : jM} {z : (Int32 × jM)} (H : b_X6_faultOfToken_41 Y v0 μ = some z) (D : z = (rr, μr)) : JW X (jEnd X n Y (some (.int rr)) μr 0 0) 0 0 n Y 41 [(0, .ref v0)] [] μ := by
  unfold b_X6_faultOfToken_41 at H
  refine r_iconst (v := 0) K dX6_faultOfToken_41 (by decide) ?_
  exact r_sub [0] rfl (t_X6_faultOfToken_42 K hl H D)
set_option maxRecDepth 10000 in
theorem t_X6_faultOfToken_0 {X : jX} {l : Launch} {n : Nat} {Y : jY} (K : jOK X RX6 cX6_faultOfToken 6 (some .int) 4) (hl : X.2.1 = l) {rr : Int32} {μr : jM} {v0 : Nat} {v1 : Nat} {v2 : Int32} {v3 : Int32} {μ : jM} {z : (Int32 × jM)} (H : f_X6_faultOfToken Y v0 v1 v2 v3 μ = some z) (D : z = (rr, μr)) : JW X (jEnd X n Y (some (.int rr)) μr 0 0) 0 0 n Y 0 [(0, .ref v0), (1, .ref v1), (2, .int v2), (3, .int v3)] [] μ := by
  unfold f_X6_faultOfToken at H
  refine r_aload_n K 1 dX6_faultOfToken_0 rfl rfl ?_
  refine r_iload_n K 2 dX6_faultOfToken_1 rfl rfl ?_
  refine w_callV K hl H (fun r h => c_X5_byteAt l h) mC_yX5_byteAt mM_RX6_42 mI_yX5_byteAt mS_yX5_byteAt mZ_RX5 vc5 (Nat.le_of_ble_eq_true rfl) (Nat.le_of_ble_eq_true rfl) np_yX5_byteAt rfl (Nat.le_of_ble_eq_true rfl) dX6_faultOfToken_2 (fun r1 H => ?_) ⟨Nat.zero_le _, Nat.zero_le _⟩
  refine r_istore K [(4, .int _), (0, .ref _), (1, .ref _), (2, .int _), (3, .int _)] dX6_faultOfToken_5 (by decide) rfl ?_
  refine r_iload K 0 dX6_faultOfToken_7 rfl ?_
  refine r_bipush (v := 32) K dX6_faultOfToken_9 (by decide) ?_
  refine w_icmp_ne K 16 dX6_faultOfToken_11 (by decide) H (fun _ H => ?_) (fun _ H => ?_)
  · refine r_iload K 0 dX6_faultOfToken_16 rfl ?_
    refine r_bipush (v := 47) K dX6_faultOfToken_18 (by decide) ?_
    refine w_icmp_ne K 60 dX6_faultOfToken_20 (by decide) H (fun _ H => ?_) (fun _ H => ?_)
    · refine r_aload_n K 2 dX6_faultOfToken_60 rfl rfl ?_
      refine r_iload_n K 4 dX6_faultOfToken_61 rfl rfl ?_
      refine r_iconst (v := 1) K dX6_faultOfToken_62 (by decide) ?_
      refine r_isub K dX6_faultOfToken_63 ?_
      refine w_callV K hl H (fun r h => c_X5_isDigit l h) mC_yX5_isDigit mM_RX6_48 mI_yX5_isDigit mS_yX5_isDigit mZ_RX5 vc5 (Nat.le_of_ble_eq_true rfl) (Nat.le_of_ble_eq_true rfl) np_yX5_isDigit rfl (Nat.le_of_ble_eq_true rfl) dX6_faultOfToken_64 (fun r2 H => ?_) ⟨Nat.zero_le _, Nat.zero_le _⟩
      refine w_if_eq K 78 dX6_faultOfToken_67 (by decide) H (fun _ H => ?_) (fun _ H => ?_)
      · exact r_sub [] rfl (t_X6_faultOfToken_78 K hl H D)
      · refine r_iload_n K 3 dX6_faultOfToken_70 rfl rfl ?_
        refine r_aload_n K 1 dX6_faultOfToken_71 rfl rfl ?_
        refine w_getI K vc6 inX6 6 (by decide) mF_RX6_32 dX6_faultOfToken_72 H (fun x3 H => ?_)
        refine w_icmp_ne K 80 dX6_faultOfToken_75 (by decide) H (fun _ H => ?_) (fun _ H => ?_)
        · refine r_aload_n K 1 dX6_faultOfToken_80 rfl rfl ?_
          refine r_iload_n K 4 dX6_faultOfToken_81 rfl rfl ?_
          refine w_put K vc6 inX6 tyX6_ok nmX6 6 (by decide) mF_RX6_32 rfl (fun _ => rfl) (fun _ => rfl) dX6_faultOfToken_82 H (fun μ4 H => ?_)
          refine r_aload_n K 1 dX6_faultOfToken_85 rfl rfl ?_
          refine r_aload_n K 2 dX6_faultOfToken_86 rfl rfl ?_
          refine r_iload_n K 3 dX6_faultOfToken_87 rfl rfl ?_
          refine r_iload_n K 4 dX6_faultOfToken_88 rfl rfl ?_
          refine w_callV K hl H (fun r h => c_X6_numberOf l h) mC_yX6_numberOf mM_RX6_52 mI_yX6_numberOf mS_yX6_numberOf mZ_RX6 vc6 (Nat.le_of_ble_eq_true rfl) (Nat.le_of_ble_eq_true rfl) np_yX6_numberOf rfl (Nat.le_of_ble_eq_true rfl) dX6_faultOfToken_89 (fun r5 H => ?_) ⟨Nat.zero_le _, Nat.zero_le _⟩
          refine r_istore K [(5, .int _), (4, .int _), (0, .ref _), (1, .ref _), (2, .int _), (3, .int _)] dX6_faultOfToken_92 (by decide) rfl ?_
          refine r_aload_n K 2 dX6_faultOfToken_94 rfl rfl ?_
          refine w_getI K vc6 inX6 5 (by decide) mF_RX6_29 dX6_faultOfToken_95 H (fun x6 H => ?_)
          refine w_if_eq K 110 dX6_faultOfToken_98 (by decide) H (fun _ H => ?_) (fun _ H => ?_)
          · refine r_aload_n K 2 dX6_faultOfToken_110 rfl rfl ?_
            refine r_iload K 0 dX6_faultOfToken_111 rfl ?_
            refine w_callV K hl H (fun r h => c_X6_faultOfFirst l h) mC_yX6_faultOfFirst mM_RX6_58 mI_yX6_faultOfFirst mS_yX6_faultOfFirst mZ_RX6 vc6 (Nat.le_of_ble_eq_true rfl) (Nat.le_of_ble_eq_true rfl) np_yX6_faultOfFirst rfl (Nat.le_of_ble_eq_true rfl) dX6_faultOfToken_113 (fun r7 H => ?_) ⟨Nat.zero_le _, Nat.zero_le _⟩
            exact r_sub [] rfl (t_X6_faultOfToken_116 K hl H D)
          · refine r_aload_n K 2 dX6_faultOfToken_101 rfl rfl ?_
            refine r_iload K 0 dX6_faultOfToken_102 rfl ?_
            refine w_callV K hl H (fun r h => c_X6_faultOfSecond l h) mC_yX6_faultOfSecond mM_RX6_55 mI_yX6_faultOfSecond mS_yX6_faultOfSecond mZ_RX6 vc6 (Nat.le_of_ble_eq_true rfl) (Nat.le_of_ble_eq_true rfl) np_yX6_faultOfSecond rfl (Nat.le_of_ble_eq_true rfl) dX6_faultOfToken_104 (fun r8 H => ?_) ⟨Nat.zero_le _, Nat.zero_le _⟩
            refine r_goto K 116 dX6_faultOfToken_107 (by decide) ?_
            exact r_sub [] rfl (t_X6_faultOfToken_116 K hl H D)
        · exact r_sub [] rfl (t_X6_faultOfToken_78 K hl H D)
    · refine r_aload_n K 1 dX6_faultOfToken_23 rfl rfl ?_
      refine w_getI K vc6 inX6 5 (by decide) mF_RX6_29 dX6_faultOfToken_24 H (fun x9 H => ?_)
      refine w_if_ne K 41 dX6_faultOfToken_27 (by decide) H (fun _ H => ?_) (fun _ H => ?_)
      · exact r_sub [1] rfl (t_X6_faultOfToken_41 K hl H D)
      · refine r_aload_n K 1 dX6_faultOfToken_30 rfl rfl ?_
        refine w_getI K vc6 inX6 2 (by decide) mF_RX6_18 dX6_faultOfToken_31 H (fun x10 H => ?_)
        refine w_if_le K 41 dX6_faultOfToken_34 (by decide) H (fun _ H => ?_) (fun _ H => ?_)
        · exact r_sub [1] rfl (t_X6_faultOfToken_41 K hl H D)
        · refine r_iconst (v := 1) K dX6_faultOfToken_37 (by decide) ?_
          refine r_goto K 42 dX6_faultOfToken_38 (by decide) ?_
          exact r_sub [1] rfl (t_X6_faultOfToken_42 K hl H D)
  · refine r_iconst (v := 0) K dX6_faultOfToken_14 (by decide) ?_
    cases H
    obtain ⟨rfl, rfl⟩ := jfin2 D
    exact r_iret K dX6_faultOfToken_15
theorem c_X6_faultOfToken (l : Launch) {n : Nat} {Y : jY} {v0 : Nat} {v1 : Nat} {v2 : Int32} {v3 : Int32} {μ : jM} {z : Int32 × jM} (H : f_X6_faultOfToken Y v0 v1 v2 v3 μ = some z) : jC l yX6_faultOfToken cX6_faultOfToken 6 (some .int) 4 0 0 [.ref v0, .ref v1, .int v2, .int v3] n Y μ n Y (some (.int z.1)) z.2 := by
  refine jC_of (by decide +kernel) (Nat.le_of_ble_eq_true rfl) (fun X hl K _ _ _ => ?_)
  obtain ⟨rr, μr⟩ := z
  exact t_X6_faultOfToken_0 K hl H rfl
/-! RX6 tokenEnd(LChainTables$Tape;II)I -/
def b_X6_tokenEnd_51 (Y : jY) (t0 : Int32) (μ : jM) : Option (Int32 × jM) :=
  some (t0, μ)
def b_X6_tokenEnd_37 (Y : jY) (v2 : Int32) (v4 : Int32) (μ : jM) : Option (Int32 × jM) :=
  if v4 ≤ v2 then
    b_X6_tokenEnd_51 Y (v2 + ((1 : Int32))) μ
  else
    b_X6_tokenEnd_51 Y v4 μ
def b_X6_tokenEnd_16 (Y : jY) (v1 : Nat) (v2 : Int32) (v3 : Int32) (v4 : Int32) (μ : jM) : Option ((Int32 × jM) ⊕ (Int32 × jM)) :=
  if v3 ≤ v4 then
    (b_X6_tokenEnd_37 Y v2 v4 μ).map (fun r => (.inr r))
  else
    (jrcv Y v1 5 (f_X5_isDigit Y v1 v4 μ)).bind fun r1 =>
    if r1.1 = 0 then
      (b_X6_tokenEnd_37 Y v2 v4 r1.2).map (fun r => (.inr r))
    else
      some (.inl ((v4 + (1 : Int32)), r1.2))
def f_X6_tokenEnd (Y : jY) (v0 : Nat) (v1 : Nat) (v2 : Int32) (v3 : Int32) (μ : jM) : Option (Int32 × jM) :=
  (jrcv Y v1 5 (f_X5_byteAt Y v1 v2 μ)).bind fun r1 =>
  if r1.1 = ((45 : Int32)) then
    jit jF (fun (s : Int32 × jM) => b_X6_tokenEnd_16 Y v1 v2 v3 s.1 s.2) ((v2 + (1 : Int32)), r1.2)
  else
    jit jF (fun (s : Int32 × jM) => b_X6_tokenEnd_16 Y v1 v2 v3 s.1 s.2) (v2, r1.2)
set_option maxRecDepth 10000 in
theorem t_X6_tokenEnd_51 {X : jX} {l : Launch} {n : Nat} {Y : jY} (K : jOK X RX6 cX6_tokenEnd 5 (some .int) 4) (hl : X.2.1 = l) {rr : Int32} {μr : jM} {t0 : Int32} {μ : jM} {z : (Int32 × jM)} (H : b_X6_tokenEnd_51 Y t0 μ = some z) (D : z = (rr, μr)) : JW X (jEnd X n Y (some (.int rr)) μr 0 0) 0 0 n Y 51 [] [.int t0] μ := by
  unfold b_X6_tokenEnd_51 at H
  cases H
  obtain ⟨rfl, rfl⟩ := jfin2 D
  exact r_iret K dX6_tokenEnd_51
set_option maxRecDepth 10000 in
theorem t_X6_tokenEnd_37 {X : jX} {l : Launch} {n : Nat} {Y : jY} (K : jOK X RX6 cX6_tokenEnd 5 (some .int) 4) (hl : X.2.1 = l) {rr : Int32} {μr : jM} {v2 : Int32} {v4 : Int32} {μ : jM} {z : (Int32 × jM)} (H : b_X6_tokenEnd_37 Y v2 v4 μ = some z) (D : z = (rr, μr)) : JW X (jEnd X n Y (some (.int rr)) μr 0 0) 0 0 n Y 37 [(2, .int v2), (4, .int v4)] [] μ := by
  unfold b_X6_tokenEnd_37 at H
  refine r_iload K 1 dX6_tokenEnd_37 rfl ?_
  refine r_iload_n K 0 dX6_tokenEnd_39 rfl rfl ?_
  refine w_icmp_le K 48 dX6_tokenEnd_40 (by decide) H (fun _ H => ?_) (fun _ H => ?_)
  · refine r_iload_n K 0 dX6_tokenEnd_48 rfl rfl ?_
    refine r_iconst (v := 1) K dX6_tokenEnd_49 (by decide) ?_
    refine r_iadd K dX6_tokenEnd_50 ?_
    exact r_sub [] rfl (t_X6_tokenEnd_51 K hl H D)
  · refine r_iload K 1 dX6_tokenEnd_43 rfl ?_
    refine r_goto K 51 dX6_tokenEnd_45 (by decide) ?_
    exact r_sub [] rfl (t_X6_tokenEnd_51 K hl H D)
set_option maxRecDepth 10000 in
theorem t_X6_tokenEnd_16 {X : jX} {l : Launch} {n : Nat} {Y : jY} (K : jOK X RX6 cX6_tokenEnd 5 (some .int) 4) (hl : X.2.1 = l) {rr : Int32} {μr : jM} {v1 : Nat} {v2 : Int32} {v3 : Int32} {v4 : Int32} {μ : jM} {z : ((Int32 × jM) ⊕ (Int32 × jM))} (H : b_X6_tokenEnd_16 Y v1 v2 v3 v4 μ = some z) (D : Sum.elim (fun (s : Int32 × jM) => JW X (jEnd X n Y (some (.int rr)) μr 0 0) 0 0 n Y 16 [(1, .ref v1), (2, .int v2), (3, .int v3), (4, .int s.1)] [] s.2) (fun r => r = (rr, μr)) z) : JW X (jEnd X n Y (some (.int rr)) μr 0 0) 0 0 n Y 16 [(1, .ref v1), (2, .int v2), (3, .int v3), (4, .int v4)] [] μ := by
  unfold b_X6_tokenEnd_16 at H
  refine r_iload K 3 dX6_tokenEnd_16 rfl ?_
  refine r_iload_n K 2 dX6_tokenEnd_18 rfl rfl ?_
  refine w_icmp_ge K 37 dX6_tokenEnd_19 (by decide) H (fun _ H => ?_) (fun _ H => ?_)
  · obtain ⟨z2, H2, rfl⟩ := jmap H
    exact r_sub [1, 3] rfl (t_X6_tokenEnd_37 K hl H2 D)
  · refine r_aload_n K 0 dX6_tokenEnd_22 rfl rfl ?_
    refine r_iload K 3 dX6_tokenEnd_23 rfl ?_
    refine w_callV K hl H (fun r h => c_X5_isDigit l h) mC_yX5_isDigit mM_RX6_48 mI_yX5_isDigit mS_yX5_isDigit mZ_RX5 vc5 (Nat.le_of_ble_eq_true rfl) (Nat.le_of_ble_eq_true rfl) np_yX5_isDigit rfl (Nat.le_of_ble_eq_true rfl) dX6_tokenEnd_25 (fun r1 H => ?_) ⟨Nat.zero_le _, Nat.zero_le _⟩
    refine w_if_eq K 37 dX6_tokenEnd_28 (by decide) H (fun _ H => ?_) (fun _ H => ?_)
    · obtain ⟨z2, H2, rfl⟩ := jmap H
      exact r_sub [1, 3] rfl (t_X6_tokenEnd_37 K hl H2 D)
    · refine r_iinc K 3 [(4, .int _), (1, .ref _), (2, .int _), (3, .int _)] (v := _ + (1 : Int32)) dX6_tokenEnd_31 rfl rfl (by decide) rfl ?_
      refine r_goto K 16 dX6_tokenEnd_34 (by decide) ?_
      cases H
      exact r_sub [1, 2, 3, 0] rfl D
set_option maxRecDepth 10000 in
theorem l_X6_tokenEnd_16 {X : jX} {l : Launch} {n : Nat} {Y : jY} (K : jOK X RX6 cX6_tokenEnd 5 (some .int) 4) (hl : X.2.1 = l) {rr : Int32} {μr : jM} {v1 : Nat} {v2 : Int32} {v3 : Int32}  {s0 : Int32 × jM} {z : (Int32 × jM)} (H : jit jF (fun (s : Int32 × jM) => b_X6_tokenEnd_16 Y v1 v2 v3 s.1 s.2) s0 = some z) (D : z = (rr, μr)) : JW X (jEnd X n Y (some (.int rr)) μr 0 0) 0 0 n Y 16 [(1, .ref v1), (2, .int v2), (3, .int v3), (4, .int s0.1)] [] s0.2 :=
  jit_ind (P := fun (s : Int32 × jM) => JW X (jEnd X n Y (some (.int rr)) μr 0 0) 0 0 n Y 16 [(1, .ref v1), (2, .int v2), (3, .int v3), (4, .int s.1)] [] s.2) (D := fun r => r = (rr, μr)) (fun s z Hs Ds => t_X6_tokenEnd_16 K hl Hs Ds) jF s0 z H D
set_option maxRecDepth 10000 in
theorem t_X6_tokenEnd_0 {X : jX} {l : Launch} {n : Nat} {Y : jY} (K : jOK X RX6 cX6_tokenEnd 5 (some .int) 4) (hl : X.2.1 = l) {rr : Int32} {μr : jM} {v0 : Nat} {v1 : Nat} {v2 : Int32} {v3 : Int32} {μ : jM} {z : (Int32 × jM)} (H : f_X6_tokenEnd Y v0 v1 v2 v3 μ = some z) (D : z = (rr, μr)) : JW X (jEnd X n Y (some (.int rr)) μr 0 0) 0 0 n Y 0 [(0, .ref v0), (1, .ref v1), (2, .int v2), (3, .int v3)] [] μ := by
  unfold f_X6_tokenEnd at H
  refine r_iload_n K 2 dX6_tokenEnd_0 rfl rfl ?_
  refine r_istore K [(4, .int _), (0, .ref _), (1, .ref _), (2, .int _), (3, .int _)] dX6_tokenEnd_1 (by decide) rfl ?_
  refine r_aload_n K 2 dX6_tokenEnd_3 rfl rfl ?_
  refine r_iload_n K 3 dX6_tokenEnd_4 rfl rfl ?_
  refine w_callV K hl H (fun r h => c_X5_byteAt l h) mC_yX5_byteAt mM_RX6_42 mI_yX5_byteAt mS_yX5_byteAt mZ_RX5 vc5 (Nat.le_of_ble_eq_true rfl) (Nat.le_of_ble_eq_true rfl) np_yX5_byteAt rfl (Nat.le_of_ble_eq_true rfl) dX6_tokenEnd_5 (fun r1 H => ?_) ⟨Nat.zero_le _, Nat.zero_le _⟩
  refine r_bipush (v := 45) K dX6_tokenEnd_8 (by decide) ?_
  refine w_icmp_ne K 16 dX6_tokenEnd_10 (by decide) H (fun _ H => ?_) (fun _ H => ?_)
  · exact r_sub [2, 3, 4, 0] rfl (l_X6_tokenEnd_16 K hl H D)
  · refine r_iinc K 0 [(4, .int _), (0, .ref _), (1, .ref _), (2, .int _), (3, .int _)] (v := _ + (1 : Int32)) dX6_tokenEnd_13 rfl rfl (by decide) rfl ?_
    exact r_sub [2, 3, 4, 0] rfl (l_X6_tokenEnd_16 K hl H D)
theorem c_X6_tokenEnd (l : Launch) {n : Nat} {Y : jY} {v0 : Nat} {v1 : Nat} {v2 : Int32} {v3 : Int32} {μ : jM} {z : Int32 × jM} (H : f_X6_tokenEnd Y v0 v1 v2 v3 μ = some z) : jC l yX6_tokenEnd cX6_tokenEnd 5 (some .int) 4 0 0 [.ref v0, .ref v1, .int v2, .int v3] n Y μ n Y (some (.int z.1)) z.2 := by
  refine jC_of (by decide +kernel) (Nat.le_of_ble_eq_true rfl) (fun X hl K _ _ _ => ?_)
  obtain ⟨rr, μr⟩ := z
  exact t_X6_tokenEnd_0 K hl H rfl
/-! RX6 scan(LChainTables$Tape;IZ)I -/
def b_X6_scan_130 (Y : jY) (t0 : Int32) (μ : jM) : Option (Int32 × jM) :=
  some (t0, μ)
def b_X6_scan_114 (Y : jY) (v2 : Int32) (t0 : Int32) (μ : jM) : Option (Int32 × jM) :=
  if t0 = 0 then
    b_X6_scan_130 Y (((-1000 : Int32)) - v2) μ
  else
    b_X6_scan_130 Y (0 : Int32) μ
def b_X6_scan_113 (Y : jY) (v2 : Int32) (μ : jM) : Option (Int32 × jM) :=
  b_X6_scan_114 Y v2 (0 : Int32) μ
def b_X6_scan_89 (Y : jY) (v0 : Nat) (v2 : Int32) (μ : jM) : Option (Int32 × jM) :=
  (jgI Y μ v0 6 5).bind fun x1 =>
  if x1 = 0 then
    b_X6_scan_113 Y v2 μ
  else
    (jgI Y μ v0 6 3).bind fun x2 =>
    (jgI Y μ v0 6 2).bind fun x3 =>
    if x2 = ((x3 - ((1 : Int32)))) then
      b_X6_scan_114 Y v2 (1 : Int32) μ
    else
      b_X6_scan_113 Y v2 μ
def b_X6_scan_31 (Y : jY) (v0 : Nat) (v1 : Nat) (v2 : Int32) (v4 : Int32) (v5 : Int32) (μ : jM) : Option ((Int32 × Int32 × jM) ⊕ (Int32 × jM)) :=
  if v2 ≤ v5 then
    (b_X6_scan_89 Y v0 v2 μ).map (fun r => (.inr r))
  else
    if v2 ≤ v4 then
      (b_X6_scan_89 Y v0 v2 μ).map (fun r => (.inr r))
    else
      (jrcv Y v0 6 (f_X6_tokenEnd Y v0 v1 v4 v2 μ)).bind fun r1 =>
      (jrcv Y v0 6 (f_X6_faultOfToken Y v0 v1 v4 r1.1 r1.2)).bind fun r2 =>
      if r2.1 = 0 then
        some (.inl (r1.1, (v5 + (1 : Int32)), r2.2))
      else
        some (.inr ((((((-1000 : Int32)) * r2.1)) - v4), r2.2))
def f_X6_scan (Y : jY) (v0 : Nat) (v1 : Nat) (v2 : Int32) (v3 : Int32) (μ : jM) : Option (Int32 × jM) :=
  (jputZ Y μ v0 6 4 v3).bind fun μ1 =>
  (jputZ Y μ1 v0 6 5 ((0 : Int32))).bind fun μ2 =>
  (jput Y μ2 v0 6 6 (.int ((-1 : Int32)))).bind fun μ3 =>
  (jput Y μ3 v0 6 2 (.int ((0 : Int32)))).bind fun μ4 =>
  (jput Y μ4 v0 6 3 (.int ((0 : Int32)))).bind fun μ5 =>
  jit jF (fun (s : Int32 × Int32 × jM) => b_X6_scan_31 Y v0 v1 v2 s.1 s.2.1 s.2.2) ((0 : Int32), (0 : Int32), μ5)
set_option maxRecDepth 10000 in
theorem t_X6_scan_130 {X : jX} {l : Launch} {n : Nat} {Y : jY} (K : jOK X RX6 cX6_scan 8 (some .int) 5) (hl : X.2.1 = l) {rr : Int32} {μr : jM} {t0 : Int32} {μ : jM} {z : (Int32 × jM)} (H : b_X6_scan_130 Y t0 μ = some z) (D : z = (rr, μr)) : JW X (jEnd X n Y (some (.int rr)) μr 0 0) 0 0 n Y 130 [] [.int t0] μ := by
  unfold b_X6_scan_130 at H
  cases H
  obtain ⟨rfl, rfl⟩ := jfin2 D
  exact r_iret K dX6_scan_130
set_option maxRecDepth 10000 in
theorem t_X6_scan_114 {X : jX} {l : Launch} {n : Nat} {Y : jY} (K : jOK X RX6 cX6_scan 8 (some .int) 5) (hl : X.2.1 = l) {rr : Int32} {μr : jM} {v2 : Int32} {t0 : Int32} {μ : jM} {z : (Int32 × jM)} (H : b_X6_scan_114 Y v2 t0 μ = some z) (D : z = (rr, μr)) : JW X (jEnd X n Y (some (.int rr)) μr 0 0) 0 0 n Y 114 [(2, .int v2)] [.int t0] μ := by
  unfold b_X6_scan_114 at H
  refine r_istore K [(5, .int _), (2, .int _)] dX6_scan_114 (by decide) rfl ?_
  refine r_iload K 0 dX6_scan_116 rfl ?_
  refine w_if_eq K 125 dX6_scan_118 (by decide) H (fun _ H => ?_) (fun _ H => ?_)
  · refine r_sipush (v := -1000) K dX6_scan_125 (by decide) ?_
    refine r_iload_n K 1 dX6_scan_128 rfl rfl ?_
    refine r_isub K dX6_scan_129 ?_
    exact r_sub [] rfl (t_X6_scan_130 K hl H D)
  · refine r_iconst (v := 0) K dX6_scan_121 (by decide) ?_
    refine r_goto K 130 dX6_scan_122 (by decide) ?_
    exact r_sub [] rfl (t_X6_scan_130 K hl H D)
set_option maxRecDepth 10000 in
theorem t_X6_scan_113 {X : jX} {l : Launch} {n : Nat} {Y : jY} (K : jOK X RX6 cX6_scan 8 (some .int) 5) (hl : X.2.1 = l) {rr : Int32} {μr : jM} {v2 : Int32} {μ : jM} {z : (Int32 × jM)} (H : b_X6_scan_113 Y v2 μ = some z) (D : z = (rr, μr)) : JW X (jEnd X n Y (some (.int rr)) μr 0 0) 0 0 n Y 113 [(2, .int v2)] [] μ := by
  unfold b_X6_scan_113 at H
  refine r_iconst (v := 0) K dX6_scan_113 (by decide) ?_
  exact r_sub [0] rfl (t_X6_scan_114 K hl H D)
set_option maxRecDepth 10000 in
theorem t_X6_scan_89 {X : jX} {l : Launch} {n : Nat} {Y : jY} (K : jOK X RX6 cX6_scan 8 (some .int) 5) (hl : X.2.1 = l) {rr : Int32} {μr : jM} {v0 : Nat} {v2 : Int32} {μ : jM} {z : (Int32 × jM)} (H : b_X6_scan_89 Y v0 v2 μ = some z) (D : z = (rr, μr)) : JW X (jEnd X n Y (some (.int rr)) μr 0 0) 0 0 n Y 89 [(0, .ref v0), (2, .int v2)] [] μ := by
  unfold b_X6_scan_89 at H
  refine r_aload_n K 0 dX6_scan_89 rfl rfl ?_
  refine w_getI K vc6 inX6 5 (by decide) mF_RX6_29 dX6_scan_90 H (fun x1 H => ?_)
  refine w_if_eq K 113 dX6_scan_93 (by decide) H (fun _ H => ?_) (fun _ H => ?_)
  · exact r_sub [1] rfl (t_X6_scan_113 K hl H D)
  · refine r_aload_n K 0 dX6_scan_96 rfl rfl ?_
    refine w_getI K vc6 inX6 3 (by decide) mF_RX6_22 dX6_scan_97 H (fun x2 H => ?_)
    refine r_aload_n K 0 dX6_scan_100 rfl rfl ?_
    refine w_getI K vc6 inX6 2 (by decide) mF_RX6_18 dX6_scan_101 H (fun x3 H => ?_)
    refine r_iconst (v := 1) K dX6_scan_104 (by decide) ?_
    refine r_isub K dX6_scan_105 ?_
    refine w_icmp_ne K 113 dX6_scan_106 (by decide) H (fun _ H => ?_) (fun _ H => ?_)
    · exact r_sub [1] rfl (t_X6_scan_113 K hl H D)
    · refine r_iconst (v := 1) K dX6_scan_109 (by decide) ?_
      refine r_goto K 114 dX6_scan_110 (by decide) ?_
      exact r_sub [1] rfl (t_X6_scan_114 K hl H D)
set_option maxRecDepth 10000 in
theorem t_X6_scan_31 {X : jX} {l : Launch} {n : Nat} {Y : jY} (K : jOK X RX6 cX6_scan 8 (some .int) 5) (hl : X.2.1 = l) {rr : Int32} {μr : jM} {v0 : Nat} {v1 : Nat} {v2 : Int32} {v4 : Int32} {v5 : Int32} {μ : jM} {z : ((Int32 × Int32 × jM) ⊕ (Int32 × jM))} (H : b_X6_scan_31 Y v0 v1 v2 v4 v5 μ = some z) (D : Sum.elim (fun (s : Int32 × Int32 × jM) => JW X (jEnd X n Y (some (.int rr)) μr 0 0) 0 0 n Y 31 [(0, .ref v0), (1, .ref v1), (2, .int v2), (4, .int s.1), (5, .int s.2.1)] [] s.2.2) (fun r => r = (rr, μr)) z) : JW X (jEnd X n Y (some (.int rr)) μr 0 0) 0 0 n Y 31 [(0, .ref v0), (1, .ref v1), (2, .int v2), (4, .int v4), (5, .int v5)] [] μ := by
  unfold b_X6_scan_31 at H
  refine r_iload K 4 dX6_scan_31 rfl ?_
  refine r_iload_n K 2 dX6_scan_33 rfl rfl ?_
  refine w_icmp_ge K 89 dX6_scan_34 (by decide) H (fun _ H => ?_) (fun _ H => ?_)
  · obtain ⟨z2, H2, rfl⟩ := jmap H
    exact r_sub [0, 2] rfl (t_X6_scan_89 K hl H2 D)
  · refine r_iload K 3 dX6_scan_37 rfl ?_
    refine r_iload_n K 2 dX6_scan_39 rfl rfl ?_
    refine w_icmp_ge K 89 dX6_scan_40 (by decide) H (fun _ H => ?_) (fun _ H => ?_)
    · obtain ⟨z2, H2, rfl⟩ := jmap H
      exact r_sub [0, 2] rfl (t_X6_scan_89 K hl H2 D)
    · refine r_aload_n K 0 dX6_scan_43 rfl rfl ?_
      refine r_aload_n K 1 dX6_scan_44 rfl rfl ?_
      refine r_iload K 3 dX6_scan_45 rfl ?_
      refine r_iload_n K 2 dX6_scan_47 rfl rfl ?_
      refine w_callV K hl H (fun r h => c_X6_tokenEnd l h) mC_yX6_tokenEnd mM_RX6_35 mI_yX6_tokenEnd mS_yX6_tokenEnd mZ_RX6 vc6 (Nat.le_of_ble_eq_true rfl) (Nat.le_of_ble_eq_true rfl) np_yX6_tokenEnd rfl (Nat.le_of_ble_eq_true rfl) dX6_scan_48 (fun r1 H => ?_) ⟨Nat.zero_le _, Nat.zero_le _⟩
      refine r_istore K [(6, .int _), (0, .ref _), (1, .ref _), (2, .int _), (4, .int _), (5, .int _)] dX6_scan_51 (by decide) rfl ?_
      refine r_aload_n K 1 dX6_scan_53 rfl rfl ?_
      refine r_aload_n K 2 dX6_scan_54 rfl rfl ?_
      refine r_iload K 4 dX6_scan_55 rfl ?_
      refine r_iload K 0 dX6_scan_57 rfl ?_
      refine w_callV K hl H (fun r h => c_X6_faultOfToken l h) mC_yX6_faultOfToken mM_RX6_39 mI_yX6_faultOfToken mS_yX6_faultOfToken mZ_RX6 vc6 (Nat.le_of_ble_eq_true rfl) (Nat.le_of_ble_eq_true rfl) np_yX6_faultOfToken rfl (Nat.le_of_ble_eq_true rfl) dX6_scan_59 (fun r2 H => ?_) ⟨Nat.zero_le _, Nat.zero_le _⟩
      refine r_istore K [(7, .int _), (6, .int _), (0, .ref _), (1, .ref _), (2, .int _), (4, .int _), (5, .int _)] dX6_scan_62 (by decide) rfl ?_
      refine r_iload K 0 dX6_scan_64 rfl ?_
      refine w_if_eq K 79 dX6_scan_66 (by decide) H (fun _ H => ?_) (fun _ H => ?_)
      · refine r_iload K 1 dX6_scan_79 rfl ?_
        refine r_istore K [(4, .int _), (7, .int _), (6, .int _), (0, .ref _), (1, .ref _), (2, .int _), (5, .int _)] dX6_scan_81 (by decide) rfl ?_
        refine r_iinc K 6 [(5, .int _), (4, .int _), (7, .int _), (6, .int _), (0, .ref _), (1, .ref _), (2, .int _)] (v := _ + (1 : Int32)) dX6_scan_83 rfl rfl (by decide) rfl ?_
        refine r_goto K 31 dX6_scan_86 (by decide) ?_
        cases H
        exact r_sub [4, 5, 6, 1, 0] rfl D
      · refine r_sipush (v := -1000) K dX6_scan_69 (by decide) ?_
        refine r_iload K 0 dX6_scan_72 rfl ?_
        refine r_imul K dX6_scan_74 ?_
        refine r_iload K 5 dX6_scan_75 rfl ?_
        refine r_isub K dX6_scan_77 ?_
        cases H
        simp only [Sum.elim_inr] at D
        obtain ⟨rfl, rfl⟩ := jfin2 D
        exact r_iret K dX6_scan_78
set_option maxRecDepth 10000 in
theorem l_X6_scan_31 {X : jX} {l : Launch} {n : Nat} {Y : jY} (K : jOK X RX6 cX6_scan 8 (some .int) 5) (hl : X.2.1 = l) {rr : Int32} {μr : jM} {v0 : Nat} {v1 : Nat} {v2 : Int32}  {s0 : Int32 × Int32 × jM} {z : (Int32 × jM)} (H : jit jF (fun (s : Int32 × Int32 × jM) => b_X6_scan_31 Y v0 v1 v2 s.1 s.2.1 s.2.2) s0 = some z) (D : z = (rr, μr)) : JW X (jEnd X n Y (some (.int rr)) μr 0 0) 0 0 n Y 31 [(0, .ref v0), (1, .ref v1), (2, .int v2), (4, .int s0.1), (5, .int s0.2.1)] [] s0.2.2 :=
  jit_ind (P := fun (s : Int32 × Int32 × jM) => JW X (jEnd X n Y (some (.int rr)) μr 0 0) 0 0 n Y 31 [(0, .ref v0), (1, .ref v1), (2, .int v2), (4, .int s.1), (5, .int s.2.1)] [] s.2.2) (D := fun r => r = (rr, μr)) (fun s z Hs Ds => t_X6_scan_31 K hl Hs Ds) jF s0 z H D
set_option maxRecDepth 10000 in
theorem t_X6_scan_0 {X : jX} {l : Launch} {n : Nat} {Y : jY} (K : jOK X RX6 cX6_scan 8 (some .int) 5) (hl : X.2.1 = l) {rr : Int32} {μr : jM} {v0 : Nat} {v1 : Nat} {v2 : Int32} {v3 : Int32} {μ : jM} {z : (Int32 × jM)} (H : f_X6_scan Y v0 v1 v2 v3 μ = some z) (D : z = (rr, μr)) : JW X (jEnd X n Y (some (.int rr)) μr 0 0) 0 0 n Y 0 [(0, .ref v0), (1, .ref v1), (2, .int v2), (3, .int v3)] [] μ := by
  unfold f_X6_scan at H
  refine r_aload_n K 0 dX6_scan_0 rfl rfl ?_
  refine r_iload_n K 3 dX6_scan_1 rfl rfl ?_
  refine w_putZ K vc6 inX6 tyX6_ok nmX6 4 (by decide) mF_RX6_25 rfl rfl dX6_scan_2 H (fun μ1 H => ?_)
  refine r_aload_n K 0 dX6_scan_5 rfl rfl ?_
  refine r_iconst (v := 0) K dX6_scan_6 (by decide) ?_
  refine w_putZ K vc6 inX6 tyX6_ok nmX6 5 (by decide) mF_RX6_29 rfl rfl dX6_scan_7 H (fun μ2 H => ?_)
  refine r_aload_n K 0 dX6_scan_10 rfl rfl ?_
  refine r_iconst (v := -1) K dX6_scan_11 (by decide) ?_
  refine w_put K vc6 inX6 tyX6_ok nmX6 6 (by decide) mF_RX6_32 rfl (fun _ => rfl) (fun _ => rfl) dX6_scan_12 H (fun μ3 H => ?_)
  refine r_aload_n K 0 dX6_scan_15 rfl rfl ?_
  refine r_iconst (v := 0) K dX6_scan_16 (by decide) ?_
  refine w_put K vc6 inX6 tyX6_ok nmX6 2 (by decide) mF_RX6_18 rfl (fun _ => rfl) (fun _ => rfl) dX6_scan_17 H (fun μ4 H => ?_)
  refine r_aload_n K 0 dX6_scan_20 rfl rfl ?_
  refine r_iconst (v := 0) K dX6_scan_21 (by decide) ?_
  refine w_put K vc6 inX6 tyX6_ok nmX6 3 (by decide) mF_RX6_22 rfl (fun _ => rfl) (fun _ => rfl) dX6_scan_22 H (fun μ5 H => ?_)
  refine r_iconst (v := 0) K dX6_scan_25 (by decide) ?_
  refine r_istore K [(4, .int _), (0, .ref _), (1, .ref _), (2, .int _), (3, .int _)] dX6_scan_26 (by decide) rfl ?_
  refine r_iconst (v := 0) K dX6_scan_28 (by decide) ?_
  refine r_istore K [(5, .int _), (4, .int _), (0, .ref _), (1, .ref _), (2, .int _), (3, .int _)] dX6_scan_29 (by decide) rfl ?_
  exact r_sub [2, 3, 4, 1, 0] rfl (l_X6_scan_31 K hl H D)
theorem c_X6_scan (l : Launch) {n : Nat} {Y : jY} {v0 : Nat} {v1 : Nat} {v2 : Int32} {v3 : Int32} {μ : jM} {z : Int32 × jM} (H : f_X6_scan Y v0 v1 v2 v3 μ = some z) : jC l yX6_scan cX6_scan 8 (some .int) 5 0 0 [.ref v0, .ref v1, .int v2, .int v3] n Y μ n Y (some (.int z.1)) z.2 := by
  refine jC_of (by decide +kernel) (Nat.le_of_ble_eq_true rfl) (fun X hl K _ _ _ => ?_)
  obtain ⟨rr, μr⟩ := z
  exact t_X6_scan_0 K hl H rfl
/-! RX7 multiplyOut([II[J)V -/
def b_X7_multiplyOut_22 (Y : jY) (v0 : Nat) (v1 : Int32) (v2 : Nat) (v3 : Int32) (v4 : Int32) (μ : jM) : Option ((Int32 × jM) ⊕ ((Int32 × jM) ⊕ (jM))) :=
  if v4 ≤ 0 then
    (jaI Y μ v0 20 v3).bind fun x1 =>
    (jaL Y μ v2 21 ((0 : Int32))).bind fun x2 =>
    (jas Y μ v2 21 ((0 : Int32)) (.long ((((((-x1)).toInt64)) * x2)))).bind fun μ3 =>
    some (.inr (.inl ((v3 + (1 : Int32)), μ3)))
  else
    (jaL Y μ v2 21 ((v4 - ((1 : Int32))))).bind fun x4 =>
    (jaI Y μ v0 20 v3).bind fun x5 =>
    (jaL Y μ v2 21 v4).bind fun x6 =>
    (jas Y μ v2 21 v4 (.long ((x4 - ((((x5.toInt64)) * x6)))))).bind fun μ7 =>
    some (.inl ((v4 + (-1 : Int32)), μ7))
def b_X7_multiplyOut_6 (Y : jY) (v0 : Nat) (v1 : Int32) (v2 : Nat) (v3 : Int32) (μ : jM) : Option ((Int32 × jM) ⊕ (jM)) :=
  if v1 ≤ v3 then
    some (.inr μ)
  else
    (jas Y μ v2 21 ((v3 + ((1 : Int32)))) (.long ((0 : Int64)))).bind fun μ1 =>
    jit jF (fun (s : Int32 × jM) => b_X7_multiplyOut_22 Y v0 v1 v2 v3 s.1 s.2) ((v3 + ((1 : Int32))), μ1)
def f_X7_multiplyOut (Y : jY) (v0 : Nat) (v1 : Int32) (v2 : Nat) (μ : jM) : Option (jM) :=
  (jas Y μ v2 21 ((0 : Int32)) (.long ((1 : Int64)))).bind fun μ1 =>
  jit jF (fun (s : Int32 × jM) => b_X7_multiplyOut_6 Y v0 v1 v2 s.1 s.2) ((0 : Int32), μ1)
set_option maxRecDepth 10000 in
theorem t_X7_multiplyOut_22 {X : jX} {l : Launch} {n : Nat} {Y : jY} (K : jOK X RX7 cX7_multiplyOut 5 none 1) (hl : X.2.1 = l) {μr : jM} {v0 : Nat} {v1 : Int32} {v2 : Nat} {v3 : Int32} {v4 : Int32} {μ : jM} {z : ((Int32 × jM) ⊕ ((Int32 × jM) ⊕ (jM)))} (H : b_X7_multiplyOut_22 Y v0 v1 v2 v3 v4 μ = some z) (D : Sum.elim (fun (s : Int32 × jM) => JW X (jEnd X n Y none μr 0 0) 0 0 n Y 22 [(0, .ref v0), (1, .int v1), (2, .ref v2), (3, .int v3), (4, .int s.1)] [] s.2) (Sum.elim (fun (s : Int32 × jM) => JW X (jEnd X n Y none μr 0 0) 0 0 n Y 6 [(0, .ref v0), (1, .int v1), (2, .ref v2), (3, .int s.1)] [] s.2) (fun r => r = μr)) z) : JW X (jEnd X n Y none μr 0 0) 0 0 n Y 22 [(0, .ref v0), (1, .int v1), (2, .ref v2), (3, .int v3), (4, .int v4)] [] μ := by
  unfold b_X7_multiplyOut_22 at H
  refine r_iload K 4 dX7_multiplyOut_22 rfl ?_
  refine w_if_le K 53 dX7_multiplyOut_24 (by decide) H (fun _ H => ?_) (fun _ H => ?_)
  · refine r_aload_n K 2 dX7_multiplyOut_53 rfl rfl ?_
    refine r_iconst (v := 0) K dX7_multiplyOut_54 (by decide) ?_
    refine r_aload_n K 0 dX7_multiplyOut_55 rfl rfl ?_
    refine r_iload_n K 3 dX7_multiplyOut_56 rfl rfl ?_
    refine w_iald K dX7_multiplyOut_57 H (fun x1 H => ?_)
    refine r_ineg K dX7_multiplyOut_58 ?_
    refine r_i2l K dX7_multiplyOut_59 ?_
    refine r_aload_n K 2 dX7_multiplyOut_60 rfl rfl ?_
    refine r_iconst (v := 0) K dX7_multiplyOut_61 (by decide) ?_
    refine w_lald K dX7_multiplyOut_62 H (fun x2 H => ?_)
    refine r_lmul K dX7_multiplyOut_63 ?_
    refine w_last K dX7_multiplyOut_64 H (fun μ3 H => ?_)
    refine r_iinc K 3 [(3, .int _), (0, .ref _), (1, .int _), (2, .ref _), (4, .int _)] (v := _ + (1 : Int32)) dX7_multiplyOut_65 rfl rfl (by decide) rfl ?_
    refine r_goto K 6 dX7_multiplyOut_68 (by decide) ?_
    cases H
    exact r_sub [1, 2, 3, 0] rfl D
  · refine r_aload_n K 2 dX7_multiplyOut_27 rfl rfl ?_
    refine r_iload K 4 dX7_multiplyOut_28 rfl ?_
    refine r_aload_n K 2 dX7_multiplyOut_30 rfl rfl ?_
    refine r_iload K 4 dX7_multiplyOut_31 rfl ?_
    refine r_iconst (v := 1) K dX7_multiplyOut_33 (by decide) ?_
    refine r_isub K dX7_multiplyOut_34 ?_
    refine w_lald K dX7_multiplyOut_35 H (fun x4 H => ?_)
    refine r_aload_n K 0 dX7_multiplyOut_36 rfl rfl ?_
    refine r_iload_n K 3 dX7_multiplyOut_37 rfl rfl ?_
    refine w_iald K dX7_multiplyOut_38 H (fun x5 H => ?_)
    refine r_i2l K dX7_multiplyOut_39 ?_
    refine r_aload_n K 2 dX7_multiplyOut_40 rfl rfl ?_
    refine r_iload K 4 dX7_multiplyOut_41 rfl ?_
    refine w_lald K dX7_multiplyOut_43 H (fun x6 H => ?_)
    refine r_lmul K dX7_multiplyOut_44 ?_
    refine r_lsub K dX7_multiplyOut_45 ?_
    refine w_last K dX7_multiplyOut_46 H (fun μ7 H => ?_)
    refine r_iinc K 4 [(4, .int _), (0, .ref _), (1, .int _), (2, .ref _), (3, .int _)] (v := _ + (-1 : Int32)) dX7_multiplyOut_47 rfl rfl (by decide) rfl ?_
    refine r_goto K 22 dX7_multiplyOut_50 (by decide) ?_
    cases H
    exact r_sub [1, 2, 3, 4, 0] rfl D
set_option maxRecDepth 10000 in
theorem l_X7_multiplyOut_22 {X : jX} {l : Launch} {n : Nat} {Y : jY} (K : jOK X RX7 cX7_multiplyOut 5 none 1) (hl : X.2.1 = l) {μr : jM} {v0 : Nat} {v1 : Int32} {v2 : Nat} {v3 : Int32}  {s0 : Int32 × jM} {z : ((Int32 × jM) ⊕ (jM))} (H : jit jF (fun (s : Int32 × jM) => b_X7_multiplyOut_22 Y v0 v1 v2 v3 s.1 s.2) s0 = some z) (D : Sum.elim (fun (s : Int32 × jM) => JW X (jEnd X n Y none μr 0 0) 0 0 n Y 6 [(0, .ref v0), (1, .int v1), (2, .ref v2), (3, .int s.1)] [] s.2) (fun r => r = μr) z) : JW X (jEnd X n Y none μr 0 0) 0 0 n Y 22 [(0, .ref v0), (1, .int v1), (2, .ref v2), (3, .int v3), (4, .int s0.1)] [] s0.2 :=
  jit_ind (P := fun (s : Int32 × jM) => JW X (jEnd X n Y none μr 0 0) 0 0 n Y 22 [(0, .ref v0), (1, .int v1), (2, .ref v2), (3, .int v3), (4, .int s.1)] [] s.2) (D := Sum.elim (fun (s : Int32 × jM) => JW X (jEnd X n Y none μr 0 0) 0 0 n Y 6 [(0, .ref v0), (1, .int v1), (2, .ref v2), (3, .int s.1)] [] s.2) (fun r => r = μr)) (fun s z Hs Ds => t_X7_multiplyOut_22 K hl Hs Ds) jF s0 z H D
set_option maxRecDepth 10000 in
theorem t_X7_multiplyOut_6 {X : jX} {l : Launch} {n : Nat} {Y : jY} (K : jOK X RX7 cX7_multiplyOut 5 none 1) (hl : X.2.1 = l) {μr : jM} {v0 : Nat} {v1 : Int32} {v2 : Nat} {v3 : Int32} {μ : jM} {z : ((Int32 × jM) ⊕ (jM))} (H : b_X7_multiplyOut_6 Y v0 v1 v2 v3 μ = some z) (D : Sum.elim (fun (s : Int32 × jM) => JW X (jEnd X n Y none μr 0 0) 0 0 n Y 6 [(0, .ref v0), (1, .int v1), (2, .ref v2), (3, .int s.1)] [] s.2) (fun r => r = μr) z) : JW X (jEnd X n Y none μr 0 0) 0 0 n Y 6 [(0, .ref v0), (1, .int v1), (2, .ref v2), (3, .int v3)] [] μ := by
  unfold b_X7_multiplyOut_6 at H
  refine r_iload_n K 3 dX7_multiplyOut_6 rfl rfl ?_
  refine r_iload_n K 1 dX7_multiplyOut_7 rfl rfl ?_
  refine w_icmp_ge K 71 dX7_multiplyOut_8 (by decide) H (fun _ H => ?_) (fun _ H => ?_)
  · cases H
    simp only [Sum.elim_inr] at D
    subst D
    exact r_vret K dX7_multiplyOut_71
  · refine r_aload_n K 2 dX7_multiplyOut_11 rfl rfl ?_
    refine r_iload_n K 3 dX7_multiplyOut_12 rfl rfl ?_
    refine r_iconst (v := 1) K dX7_multiplyOut_13 (by decide) ?_
    refine r_iadd K dX7_multiplyOut_14 ?_
    refine r_lconst (v := 0) K dX7_multiplyOut_15 (by decide) ?_
    refine w_last K dX7_multiplyOut_16 H (fun μ1 H => ?_)
    refine r_iload_n K 3 dX7_multiplyOut_17 rfl rfl ?_
    refine r_iconst (v := 1) K dX7_multiplyOut_18 (by decide) ?_
    refine r_iadd K dX7_multiplyOut_19 ?_
    refine r_istore K [(4, .int _), (0, .ref _), (1, .int _), (2, .ref _), (3, .int _)] dX7_multiplyOut_20 (by decide) rfl ?_
    exact r_sub [1, 2, 3, 4, 0] rfl (l_X7_multiplyOut_22 K hl H D)
set_option maxRecDepth 10000 in
theorem l_X7_multiplyOut_6 {X : jX} {l : Launch} {n : Nat} {Y : jY} (K : jOK X RX7 cX7_multiplyOut 5 none 1) (hl : X.2.1 = l) {μr : jM} {v0 : Nat} {v1 : Int32} {v2 : Nat}  {s0 : Int32 × jM} {z : (jM)} (H : jit jF (fun (s : Int32 × jM) => b_X7_multiplyOut_6 Y v0 v1 v2 s.1 s.2) s0 = some z) (D : z = μr) : JW X (jEnd X n Y none μr 0 0) 0 0 n Y 6 [(0, .ref v0), (1, .int v1), (2, .ref v2), (3, .int s0.1)] [] s0.2 :=
  jit_ind (P := fun (s : Int32 × jM) => JW X (jEnd X n Y none μr 0 0) 0 0 n Y 6 [(0, .ref v0), (1, .int v1), (2, .ref v2), (3, .int s.1)] [] s.2) (D := fun r => r = μr) (fun s z Hs Ds => t_X7_multiplyOut_6 K hl Hs Ds) jF s0 z H D
set_option maxRecDepth 10000 in
theorem t_X7_multiplyOut_0 {X : jX} {l : Launch} {n : Nat} {Y : jY} (K : jOK X RX7 cX7_multiplyOut 5 none 1) (hl : X.2.1 = l) {μr : jM} {v0 : Nat} {v1 : Int32} {v2 : Nat} {μ : jM} {z : (jM)} (H : f_X7_multiplyOut Y v0 v1 v2 μ = some z) (D : z = μr) : JW X (jEnd X n Y none μr 0 0) 0 0 n Y 0 [(0, .ref v0), (1, .int v1), (2, .ref v2)] [] μ := by
  unfold f_X7_multiplyOut at H
  refine r_aload_n K 2 dX7_multiplyOut_0 rfl rfl ?_
  refine r_iconst (v := 0) K dX7_multiplyOut_1 (by decide) ?_
  refine r_lconst (v := 1) K dX7_multiplyOut_2 (by decide) ?_
  refine w_last K dX7_multiplyOut_3 H (fun μ1 H => ?_)
  refine r_iconst (v := 0) K dX7_multiplyOut_4 (by decide) ?_
  refine r_istore_n K [(3, .int _), (0, .ref _), (1, .int _), (2, .ref _)] dX7_multiplyOut_5 rfl (by decide) rfl ?_
  exact r_sub [1, 2, 3, 0] rfl (l_X7_multiplyOut_6 K hl H D)
theorem c_X7_multiplyOut (l : Launch) {n : Nat} {Y : jY} {v0 : Nat} {v1 : Int32} {v2 : Nat} {μ : jM} {z : jM} (H : f_X7_multiplyOut Y v0 v1 v2 μ = some z) : jC l yX7_multiplyOut cX7_multiplyOut 5 none 1 0 0 [.ref v0, .int v1, .ref v2] n Y μ n Y none z := by
  refine jC_of (by decide +kernel) (Nat.le_of_ble_eq_true rfl) (fun X hl K _ _ _ => ?_)
  exact t_X7_multiplyOut_0 K hl H rfl
