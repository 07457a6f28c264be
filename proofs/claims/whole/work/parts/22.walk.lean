/-! RX12 mirror()I -/
def b_X12_mirror_113 (Y : jY) (v0 : Nat) (v1 : Int32) (μ : jM) : Option ((Int32 × jM) ⊕ (Int32 × jM)) :=
  (jgI Y μ v0 12 10).bind fun x1 =>
  if ((x1 - ((1 : Int32)))) ≤ v1 then
    (jgI Y μ v0 12 10).bind fun x2 =>
    some (.inr (x2, μ))
  else
    (jgO Y μ v0 12 12).bind fun x3 =>
    (jgO Y μ v0 12 7).bind fun x4 =>
    (jaI Y μ x4 20 v1).bind fun x5 =>
    (jas Y μ x3 20 v1 (.int x5)).bind fun μ6 =>
    some (.inl ((v1 + (1 : Int32)), μ6))
def b_X12_mirror_85 (Y : jY) (v0 : Nat) (v1 : Int32) (μ : jM) : Option ((Int32 × jM) ⊕ (Int32 × jM)) :=
  (jgI Y μ v0 12 10).bind fun x1 =>
  if x1 ≤ v1 then
    (jit jF (fun (s : Int32 × jM) => b_X12_mirror_113 Y v0 s.1 s.2) ((0 : Int32), μ)).map (fun r => (.inr r))
  else
    (jgO Y μ v0 12 11).bind fun x2 =>
    (jgO Y μ v0 12 6).bind fun x3 =>
    (jaI Y μ x3 20 v1).bind fun x4 =>
    (jas Y μ x2 20 v1 (.int x4)).bind fun μ5 =>
    some (.inl ((v1 + (1 : Int32)), μ5))
def b_X12_mirror_47 (Y : jY) (v0 : Nat) (v1 : Int32) (μ : jM) : Option ((Int32 × jM) ⊕ (Int32 × jM)) :=
  (jgI Y μ v0 12 10).bind fun x1 =>
  if ((x1 - ((1 : Int32)))) ≤ v1 then
    (jit jF (fun (s : Int32 × jM) => b_X12_mirror_85 Y v0 s.1 s.2) ((0 : Int32), μ)).map (fun r => (.inr r))
  else
    (jgO Y μ v0 12 7).bind fun x2 =>
    (jgO Y μ v0 12 12).bind fun x3 =>
    (jgI Y μ v0 12 10).bind fun x4 =>
    (jaI Y μ x3 20 ((((x4 - ((2 : Int32)))) - v1))).bind fun x5 =>
    (jas Y μ x2 20 v1 (.int ((-x5)))).bind fun μ6 =>
    some (.inl ((v1 + (1 : Int32)), μ6))
def b_X12_mirror_11 (Y : jY) (v0 : Nat) (v1 : Int32) (μ : jM) : Option ((Int32 × jM) ⊕ (Int32 × jM)) :=
  (jgI Y μ v0 12 10).bind fun x1 =>
  if x1 ≤ v1 then
    (jit jF (fun (s : Int32 × jM) => b_X12_mirror_47 Y v0 s.1 s.2) ((0 : Int32), μ)).map (fun r => (.inr r))
  else
    (jgO Y μ v0 12 6).bind fun x2 =>
    (jgO Y μ v0 12 11).bind fun x3 =>
    (jgI Y μ v0 12 10).bind fun x4 =>
    (jaI Y μ x3 20 ((((x4 - ((1 : Int32)))) - v1))).bind fun x5 =>
    (jas Y μ x2 20 v1 (.int ((-x5)))).bind fun μ6 =>
    some (.inl ((v1 + (1 : Int32)), μ6))
def f_X12_mirror (Y : jY) (v0 : Nat) (μ : jM) : Option (Int32 × jM) :=
  (jgI Y μ v0 12 10).bind fun x1 =>
  if x1 = 0 then
    some ((-1 : Int32), μ)
  else
    jit jF (fun (s : Int32 × jM) => b_X12_mirror_11 Y v0 s.1 s.2) ((0 : Int32), μ)
set_option maxRecDepth 10000 in
theorem t_X12_mirror_113 {X : jX} {l : Launch} {n : Nat} {Y : jY} (K : jOK X RX12 cX12_mirror 2 (some .int) 1) (hl : X.2.1 = l) {rr : Int32} {μr : jM} {v0 : Nat} {v1 : Int32} {μ : jM} {z : ((Int32 × jM) ⊕ (Int32 × jM))} (H : b_X12_mirror_113 Y v0 v1 μ = some z) (D : Sum.elim (fun (s : Int32 × jM) => JW X (jEnd X n Y (some (.int rr)) μr 0 0) 0 0 n Y 113 [(0, .ref v0), (1, .int s.1)] [] s.2) (fun r => r = (rr, μr)) z) : JW X (jEnd X n Y (some (.int rr)) μr 0 0) 0 0 n Y 113 [(0, .ref v0), (1, .int v1)] [] μ := by
  unfold b_X12_mirror_113 at H
  refine r_iload_n K 1 dX12_mirror_113 rfl rfl ?_
  refine r_aload_n K 0 dX12_mirror_114 rfl rfl ?_
  refine w_getI K vc12 inX12 10 (by decide) mF_RX12_145 dX12_mirror_115 H (fun x1 H => ?_)
  refine r_iconst (v := 1) K dX12_mirror_118 (by decide) ?_
  refine r_isub K dX12_mirror_119 ?_
  refine w_icmp_ge K 141 dX12_mirror_120 (by decide) H (fun _ H => ?_) (fun _ H => ?_)
  · refine r_aload_n K 0 dX12_mirror_141 rfl rfl ?_
    refine w_getI K vc12 inX12 10 (by decide) mF_RX12_145 dX12_mirror_142 H (fun x2 H => ?_)
    cases H
    simp only [Sum.elim_inr] at D
    obtain ⟨rfl, rfl⟩ := jfin2 D
    exact r_iret K dX12_mirror_145
  · refine r_aload_n K 0 dX12_mirror_123 rfl rfl ?_
    refine w_getO K vc12 inX12 12 (by decide) mF_RX12_23 dX12_mirror_124 H (fun x3 H => ?_)
    refine r_iload_n K 1 dX12_mirror_127 rfl rfl ?_
    refine r_aload_n K 0 dX12_mirror_128 rfl rfl ?_
    refine w_getO K vc12 inX12 7 (by decide) mF_RX12_17 dX12_mirror_129 H (fun x4 H => ?_)
    refine r_iload_n K 1 dX12_mirror_132 rfl rfl ?_
    refine w_iald K dX12_mirror_133 H (fun x5 H => ?_)
    refine w_iast K dX12_mirror_134 H (fun μ6 H => ?_)
    refine r_iinc K 1 [(1, .int _), (0, .ref _)] (v := _ + (1 : Int32)) dX12_mirror_135 rfl rfl (by decide) rfl ?_
    refine r_goto K 113 dX12_mirror_138 (by decide) ?_
    cases H
    exact r_sub [1, 0] rfl D
set_option maxRecDepth 10000 in
theorem l_X12_mirror_113 {X : jX} {l : Launch} {n : Nat} {Y : jY} (K : jOK X RX12 cX12_mirror 2 (some .int) 1) (hl : X.2.1 = l) {rr : Int32} {μr : jM} {v0 : Nat}  {s0 : Int32 × jM} {z : (Int32 × jM)} (H : jit jF (fun (s : Int32 × jM) => b_X12_mirror_113 Y v0 s.1 s.2) s0 = some z) (D : z = (rr, μr)) : JW X (jEnd X n Y (some (.int rr)) μr 0 0) 0 0 n Y 113 [(0, .ref v0), (1, .int s0.1)] [] s0.2 :=
  jit_ind (P := fun (s : Int32 × jM) => JW X (jEnd X n Y (some (.int rr)) μr 0 0) 0 0 n Y 113 [(0, .ref v0), (1, .int s.1)] [] s.2) (D := fun r => r = (rr, μr)) (fun s z Hs Ds => t_X12_mirror_113 K hl Hs Ds) jF s0 z H D
set_option maxRecDepth 10000 in
theorem t_X12_mirror_85 {X : jX} {l : Launch} {n : Nat} {Y : jY} (K : jOK X RX12 cX12_mirror 2 (some .int) 1) (hl : X.2.1 = l) {rr : Int32} {μr : jM} {v0 : Nat} {v1 : Int32} {μ : jM} {z : ((Int32 × jM) ⊕ (Int32 × jM))} (H : b_X12_mirror_85 Y v0 v1 μ = some z) (D : Sum.elim (fun (s : Int32 × jM) => JW X (jEnd X n Y (some (.int rr)) μr 0 0) 0 0 n Y 85 [(0, .ref v0), (1, .int s.1)] [] s.2) (fun r => r = (rr, μr)) z) : JW X (jEnd X n Y (some (.int rr)) μr 0 0) 0 0 n Y 85 [(0, .ref v0), (1, .int v1)] [] μ := by
  unfold b_X12_mirror_85 at H
  refine r_iload_n K 1 dX12_mirror_85 rfl rfl ?_
  refine r_aload_n K 0 dX12_mirror_86 rfl rfl ?_
  refine w_getI K vc12 inX12 10 (by decide) mF_RX12_145 dX12_mirror_87 H (fun x1 H => ?_)
  refine w_icmp_ge K 111 dX12_mirror_90 (by decide) H (fun _ H => ?_) (fun _ H => ?_)
  · refine r_iconst (v := 0) K dX12_mirror_111 (by decide) ?_
    refine r_istore_n K [(1, .int _), (0, .ref _)] dX12_mirror_112 rfl (by decide) rfl ?_
    obtain ⟨z2, H2, rfl⟩ := jmap H
    exact r_sub [1, 0] rfl (l_X12_mirror_113 K hl H2 D)
  · refine r_aload_n K 0 dX12_mirror_93 rfl rfl ?_
    refine w_getO K vc12 inX12 11 (by decide) mF_RX12_20 dX12_mirror_94 H (fun x2 H => ?_)
    refine r_iload_n K 1 dX12_mirror_97 rfl rfl ?_
    refine r_aload_n K 0 dX12_mirror_98 rfl rfl ?_
    refine w_getO K vc12 inX12 6 (by decide) mF_RX12_13 dX12_mirror_99 H (fun x3 H => ?_)
    refine r_iload_n K 1 dX12_mirror_102 rfl rfl ?_
    refine w_iald K dX12_mirror_103 H (fun x4 H => ?_)
    refine w_iast K dX12_mirror_104 H (fun μ5 H => ?_)
    refine r_iinc K 1 [(1, .int _), (0, .ref _)] (v := _ + (1 : Int32)) dX12_mirror_105 rfl rfl (by decide) rfl ?_
    refine r_goto K 85 dX12_mirror_108 (by decide) ?_
    cases H
    exact r_sub [1, 0] rfl D
set_option maxRecDepth 10000 in
theorem l_X12_mirror_85 {X : jX} {l : Launch} {n : Nat} {Y : jY} (K : jOK X RX12 cX12_mirror 2 (some .int) 1) (hl : X.2.1 = l) {rr : Int32} {μr : jM} {v0 : Nat}  {s0 : Int32 × jM} {z : (Int32 × jM)} (H : jit jF (fun (s : Int32 × jM) => b_X12_mirror_85 Y v0 s.1 s.2) s0 = some z) (D : z = (rr, μr)) : JW X (jEnd X n Y (some (.int rr)) μr 0 0) 0 0 n Y 85 [(0, .ref v0), (1, .int s0.1)] [] s0.2 :=
  jit_ind (P := fun (s : Int32 × jM) => JW X (jEnd X n Y (some (.int rr)) μr 0 0) 0 0 n Y 85 [(0, .ref v0), (1, .int s.1)] [] s.2) (D := fun r => r = (rr, μr)) (fun s z Hs Ds => t_X12_mirror_85 K hl Hs Ds) jF s0 z H D
set_option maxRecDepth 10000 in
theorem t_X12_mirror_47 {X : jX} {l : Launch} {n : Nat} {Y : jY} (K : jOK X RX12 cX12_mirror 2 (some .int) 1) (hl : X.2.1 = l) {rr : Int32} {μr : jM} {v0 : Nat} {v1 : Int32} {μ : jM} {z : ((Int32 × jM) ⊕ (Int32 × jM))} (H : b_X12_mirror_47 Y v0 v1 μ = some z) (D : Sum.elim (fun (s : Int32 × jM) => JW X (jEnd X n Y (some (.int rr)) μr 0 0) 0 0 n Y 47 [(0, .ref v0), (1, .int s.1)] [] s.2) (fun r => r = (rr, μr)) z) : JW X (jEnd X n Y (some (.int rr)) μr 0 0) 0 0 n Y 47 [(0, .ref v0), (1, .int v1)] [] μ := by
  unfold b_X12_mirror_47 at H
  refine r_iload_n K 1 dX12_mirror_47 rfl rfl ?_
  refine r_aload_n K 0 dX12_mirror_48 rfl rfl ?_
  refine w_getI K vc12 inX12 10 (by decide) mF_RX12_145 dX12_mirror_49 H (fun x1 H => ?_)
  refine r_iconst (v := 1) K dX12_mirror_52 (by decide) ?_
  refine r_isub K dX12_mirror_53 ?_
  refine w_icmp_ge K 83 dX12_mirror_54 (by decide) H (fun _ H => ?_) (fun _ H => ?_)
  · refine r_iconst (v := 0) K dX12_mirror_83 (by decide) ?_
    refine r_istore_n K [(1, .int _), (0, .ref _)] dX12_mirror_84 rfl (by decide) rfl ?_
    obtain ⟨z2, H2, rfl⟩ := jmap H
    exact r_sub [1, 0] rfl (l_X12_mirror_85 K hl H2 D)
  · refine r_aload_n K 0 dX12_mirror_57 rfl rfl ?_
    refine w_getO K vc12 inX12 7 (by decide) mF_RX12_17 dX12_mirror_58 H (fun x2 H => ?_)
    refine r_iload_n K 1 dX12_mirror_61 rfl rfl ?_
    refine r_aload_n K 0 dX12_mirror_62 rfl rfl ?_
    refine w_getO K vc12 inX12 12 (by decide) mF_RX12_23 dX12_mirror_63 H (fun x3 H => ?_)
    refine r_aload_n K 0 dX12_mirror_66 rfl rfl ?_
    refine w_getI K vc12 inX12 10 (by decide) mF_RX12_145 dX12_mirror_67 H (fun x4 H => ?_)
    refine r_iconst (v := 2) K dX12_mirror_70 (by decide) ?_
    refine r_isub K dX12_mirror_71 ?_
    refine r_iload_n K 1 dX12_mirror_72 rfl rfl ?_
    refine r_isub K dX12_mirror_73 ?_
    refine w_iald K dX12_mirror_74 H (fun x5 H => ?_)
    refine r_ineg K dX12_mirror_75 ?_
    refine w_iast K dX12_mirror_76 H (fun μ6 H => ?_)
    refine r_iinc K 1 [(1, .int _), (0, .ref _)] (v := _ + (1 : Int32)) dX12_mirror_77 rfl rfl (by decide) rfl ?_
    refine r_goto K 47 dX12_mirror_80 (by decide) ?_
    cases H
    exact r_sub [1, 0] rfl D
set_option maxRecDepth 10000 in
theorem l_X12_mirror_47 {X : jX} {l : Launch} {n : Nat} {Y : jY} (K : jOK X RX12 cX12_mirror 2 (some .int) 1) (hl : X.2.1 = l) {rr : Int32} {μr : jM} {v0 : Nat}  {s0 : Int32 × jM} {z : (Int32 × jM)} (H : jit jF (fun (s : Int32 × jM) => b_X12_mirror_47 Y v0 s.1 s.2) s0 = some z) (D : z = (rr, μr)) : JW X (jEnd X n Y (some (.int rr)) μr 0 0) 0 0 n Y 47 [(0, .ref v0), (1, .int s0.1)] [] s0.2 :=
  jit_ind (P := fun (s : Int32 × jM) => JW X (jEnd X n Y (some (.int rr)) μr 0 0) 0 0 n Y 47 [(0, .ref v0), (1, .int s.1)] [] s.2) (D := fun r => r = (rr, μr)) (fun s z Hs Ds => t_X12_mirror_47 K hl Hs Ds) jF s0 z H D
set_option maxRecDepth 10000 in
theorem t_X12_mirror_11 {X : jX} {l : Launch} {n : Nat} {Y : jY} (K : jOK X RX12 cX12_mirror 2 (some .int) 1) (hl : X.2.1 = l) {rr : Int32} {μr : jM} {v0 : Nat} {v1 : Int32} {μ : jM} {z : ((Int32 × jM) ⊕ (Int32 × jM))} (H : b_X12_mirror_11 Y v0 v1 μ = some z) (D : Sum.elim (fun (s : Int32 × jM) => JW X (jEnd X n Y (some (.int rr)) μr 0 0) 0 0 n Y 11 [(0, .ref v0), (1, .int s.1)] [] s.2) (fun r => r = (rr, μr)) z) : JW X (jEnd X n Y (some (.int rr)) μr 0 0) 0 0 n Y 11 [(0, .ref v0), (1, .int v1)] [] μ := by
  unfold b_X12_mirror_11 at H
  refine r_iload_n K 1 dX12_mirror_11 rfl rfl ?_
  refine r_aload_n K 0 dX12_mirror_12 rfl rfl ?_
  refine w_getI K vc12 inX12 10 (by decide) mF_RX12_145 dX12_mirror_13 H (fun x1 H => ?_)
  refine w_icmp_ge K 45 dX12_mirror_16 (by decide) H (fun _ H => ?_) (fun _ H => ?_)
  · refine r_iconst (v := 0) K dX12_mirror_45 (by decide) ?_
    refine r_istore_n K [(1, .int _), (0, .ref _)] dX12_mirror_46 rfl (by decide) rfl ?_
    obtain ⟨z2, H2, rfl⟩ := jmap H
    exact r_sub [1, 0] rfl (l_X12_mirror_47 K hl H2 D)
  · refine r_aload_n K 0 dX12_mirror_19 rfl rfl ?_
    refine w_getO K vc12 inX12 6 (by decide) mF_RX12_13 dX12_mirror_20 H (fun x2 H => ?_)
    refine r_iload_n K 1 dX12_mirror_23 rfl rfl ?_
    refine r_aload_n K 0 dX12_mirror_24 rfl rfl ?_
    refine w_getO K vc12 inX12 11 (by decide) mF_RX12_20 dX12_mirror_25 H (fun x3 H => ?_)
    refine r_aload_n K 0 dX12_mirror_28 rfl rfl ?_
    refine w_getI K vc12 inX12 10 (by decide) mF_RX12_145 dX12_mirror_29 H (fun x4 H => ?_)
    refine r_iconst (v := 1) K dX12_mirror_32 (by decide) ?_
    refine r_isub K dX12_mirror_33 ?_
    refine r_iload_n K 1 dX12_mirror_34 rfl rfl ?_
    refine r_isub K dX12_mirror_35 ?_
    refine w_iald K dX12_mirror_36 H (fun x5 H => ?_)
    refine r_ineg K dX12_mirror_37 ?_
    refine w_iast K dX12_mirror_38 H (fun μ6 H => ?_)
    refine r_iinc K 1 [(1, .int _), (0, .ref _)] (v := _ + (1 : Int32)) dX12_mirror_39 rfl rfl (by decide) rfl ?_
    refine r_goto K 11 dX12_mirror_42 (by decide) ?_
    cases H
    exact r_sub [1, 0] rfl D
set_option maxRecDepth 10000 in
theorem l_X12_mirror_11 {X : jX} {l : Launch} {n : Nat} {Y : jY} (K : jOK X RX12 cX12_mirror 2 (some .int) 1) (hl : X.2.1 = l) {rr : Int32} {μr : jM} {v0 : Nat}  {s0 : Int32 × jM} {z : (Int32 × jM)} (H : jit jF (fun (s : Int32 × jM) => b_X12_mirror_11 Y v0 s.1 s.2) s0 = some z) (D : z = (rr, μr)) : JW X (jEnd X n Y (some (.int rr)) μr 0 0) 0 0 n Y 11 [(0, .ref v0), (1, .int s0.1)] [] s0.2 :=
  jit_ind (P := fun (s : Int32 × jM) => JW X (jEnd X n Y (some (.int rr)) μr 0 0) 0 0 n Y 11 [(0, .ref v0), (1, .int s.1)] [] s.2) (D := fun r => r = (rr, μr)) (fun s z Hs Ds => t_X12_mirror_11 K hl Hs Ds) jF s0 z H D
set_option maxRecDepth 10000 in
theorem t_X12_mirror_0 {X : jX} {l : Launch} {n : Nat} {Y : jY} (K : jOK X RX12 cX12_mirror 2 (some .int) 1) (hl : X.2.1 = l) {rr : Int32} {μr : jM} {v0 : Nat} {μ : jM} {z : (Int32 × jM)} (H : f_X12_mirror Y v0 μ = some z) (D : z = (rr, μr)) : JW X (jEnd X n Y (some (.int rr)) μr 0 0) 0 0 n Y 0 [(0, .ref v0)] [] μ := by
  unfold f_X12_mirror at H
  refine r_aload_n K 0 dX12_mirror_0 rfl rfl ?_
  refine w_getI K vc12 inX12 10 (by decide) mF_RX12_145 dX12_mirror_1 H (fun x1 H => ?_)
  refine w_if_ne K 9 dX12_mirror_4 (by decide) H (fun _ H => ?_) (fun _ H => ?_)
  · refine r_iconst (v := 0) K dX12_mirror_9 (by decide) ?_
    refine r_istore_n K [(1, .int _), (0, .ref _)] dX12_mirror_10 rfl (by decide) rfl ?_
    exact r_sub [1, 0] rfl (l_X12_mirror_11 K hl H D)
  · refine r_iconst (v := -1) K dX12_mirror_7 (by decide) ?_
    cases H
    obtain ⟨rfl, rfl⟩ := jfin2 D
    exact r_iret K dX12_mirror_8
theorem c_X12_mirror (l : Launch) {n : Nat} {Y : jY} {v0 : Nat} {μ : jM} {z : Int32 × jM} (H : f_X12_mirror Y v0 μ = some z) : jC l yX12_mirror cX12_mirror 2 (some .int) 1 0 0 [.ref v0] n Y μ n Y (some (.int z.1)) z.2 := by
  refine jC_of (by decide +kernel) (Nat.le_of_ble_eq_true rfl) (fun X hl K _ _ _ => ?_)
  obtain ⟨rr, μr⟩ := z
  exact t_X12_mirror_0 K hl H rfl
/-! RX12 mass(I)J -/
def b_X12_mass_16 (Y : jY) (μ : jM) : Option (Int64 × jM) :=
  some ((-9223372036854775808 : Int64), μ)
def b_X12_mass_39 (Y : jY) (v0 : Nat) (v1 : Int32) (v2 : Int32) (μ : jM) : Option ((Int32 × jM) ⊕ (Int64 × jM)) :=
  (jgI Y μ v0 12 10).bind fun x1 =>
  if x1 ≤ v2 then
    (jrcv Y v0 12 (f_X12_told Y v0 v1 μ)).bind fun r2 =>
    some (.inr (r2.1, r2.2))
  else
    (jgO Y μ v0 12 18).bind fun x3 =>
    (jaL Y μ x3 21 v2).bind fun x4 =>
    (jgO Y μ v0 12 19).bind fun x5 =>
    (jaL Y μ x5 21 v2).bind fun x6 =>
    (jrcv Y v0 12 (f_X12_adds Y v0 x4 x6 μ)).bind fun μ7 =>
    some (.inl ((v2 + (1 : Int32)), μ7))
def f_X12_mass (Y : jY) (v0 : Nat) (v1 : Int32) (μ : jM) : Option (Int64 × jM) :=
  (jgI Y μ v0 12 10).bind fun x1 =>
  if x1 = 0 then
    b_X12_mass_16 Y μ
  else
    (f_X12_in Y v1 ((0 : Int32)) ((1 : Int32)) μ).bind fun r2 =>
    if r2.1 = 0 then
      b_X12_mass_16 Y r2.2
    else
      (jrcv Y v0 12 (f_X12_laysChain Y v0 r2.2)).bind fun r3 =>
      if r3.1 = 0 then
        some ((-2 : Int64), r3.2)
      else
        (jrcv Y v0 12 (f_X12_sets Y v0 ((0 : Int64)) ((1 : Int64)) r3.2)).bind fun μ4 =>
        jit jF (fun (s : Int32 × jM) => b_X12_mass_39 Y v0 v1 s.1 s.2) ((0 : Int32), μ4)
set_option maxRecDepth 10000 in
theorem t_X12_mass_16 {X : jX} {l : Launch} {n : Nat} {Y : jY} (K : jOK X RX12 cX12_mass 3 (some .long) 9) (hl : X.2.1 = l) {rr : Int64} {μr : jM} {μ : jM} {z : (Int64 × jM)} (H : b_X12_mass_16 Y μ = some z) (D : z = (rr, μr)) : JW X (jEnd X n Y (some (.long rr)) μr 0 0) 0 0 n Y 16 [] [] μ := by
  unfold b_X12_mass_16 at H
  refine r_ldc2 K (-9223372036854775808) mc_RX12_156 dX12_mass_16 ?_
  cases H
  obtain ⟨rfl, rfl⟩ := jfin2 D
  exact r_lret K dX12_mass_19
set_option maxRecDepth 10000 in
theorem t_X12_mass_39 {X : jX} {l : Launch} {n : Nat} {Y : jY} (K : jOK X RX12 cX12_mass 3 (some .long) 9) (hl : X.2.1 = l) {rr : Int64} {μr : jM} {v0 : Nat} {v1 : Int32} {v2 : Int32} {μ : jM} {z : ((Int32 × jM) ⊕ (Int64 × jM))} (H : b_X12_mass_39 Y v0 v1 v2 μ = some z) (D : Sum.elim (fun (s : Int32 × jM) => JW X (jEnd X n Y (some (.long rr)) μr 0 0) 0 0 n Y 39 [(0, .ref v0), (1, .int v1), (2, .int s.1)] [] s.2) (fun r => r = (rr, μr)) z) : JW X (jEnd X n Y (some (.long rr)) μr 0 0) 0 0 n Y 39 [(0, .ref v0), (1, .int v1), (2, .int v2)] [] μ := by
  unfold b_X12_mass_39 at H
  refine r_iload_n K 2 dX12_mass_39 rfl rfl ?_
  refine r_aload_n K 0 dX12_mass_40 rfl rfl ?_
  refine w_getI K vc12 inX12 10 (by decide) mF_RX12_145 dX12_mass_41 H (fun x1 H => ?_)
  refine w_icmp_ge K 69 dX12_mass_44 (by decide) H (fun _ H => ?_) (fun _ H => ?_)
  · refine r_aload_n K 0 dX12_mass_69 rfl rfl ?_
    refine r_iload_n K 1 dX12_mass_70 rfl rfl ?_
    refine w_callV K hl H (fun r h => c_X12_told l h) mC_yX12_told mM_RX12_195 mI_yX12_told mS_yX12_told mZ_RX12 vc12 (Nat.le_of_ble_eq_true rfl) (Nat.le_of_ble_eq_true rfl) np_yX12_told rfl (Nat.le_of_ble_eq_true rfl) dX12_mass_71 (fun r2 H => ?_) ⟨Nat.zero_le _, Nat.zero_le _⟩
    cases H
    simp only [Sum.elim_inr] at D
    obtain ⟨rfl, rfl⟩ := jfin2 D
    exact r_lret K dX12_mass_74
  · refine r_aload_n K 0 dX12_mass_47 rfl rfl ?_
    refine r_aload_n K 0 dX12_mass_48 rfl rfl ?_
    refine w_getO K vc12 inX12 18 (by decide) mF_RX12_36 dX12_mass_49 H (fun x3 H => ?_)
    refine r_iload_n K 2 dX12_mass_52 rfl rfl ?_
    refine w_lald K dX12_mass_53 H (fun x4 H => ?_)
    refine r_aload_n K 0 dX12_mass_54 rfl rfl ?_
    refine w_getO K vc12 inX12 19 (by decide) mF_RX12_39 dX12_mass_55 H (fun x5 H => ?_)
    refine r_iload_n K 2 dX12_mass_58 rfl rfl ?_
    refine w_lald K dX12_mass_59 H (fun x6 H => ?_)
    refine w_callV K hl H (fun r h => c_X12_adds l h) mC_yX12_adds mM_RX12_205 mI_yX12_adds mS_yX12_adds mZ_RX12 vc12 (Nat.le_of_ble_eq_true rfl) (Nat.le_of_ble_eq_true rfl) np_yX12_adds rfl (Nat.le_of_ble_eq_true rfl) dX12_mass_60 (fun μ7 H => ?_) ⟨Nat.zero_le _, Nat.zero_le _⟩
    refine r_iinc K 2 [(2, .int _), (0, .ref _), (1, .int _)] (v := _ + (1 : Int32)) dX12_mass_63 rfl rfl (by decide) rfl ?_
    refine r_goto K 39 dX12_mass_66 (by decide) ?_
    cases H
    exact r_sub [1, 2, 0] rfl D
set_option maxRecDepth 10000 in
theorem l_X12_mass_39 {X : jX} {l : Launch} {n : Nat} {Y : jY} (K : jOK X RX12 cX12_mass 3 (some .long) 9) (hl : X.2.1 = l) {rr : Int64} {μr : jM} {v0 : Nat} {v1 : Int32}  {s0 : Int32 × jM} {z : (Int64 × jM)} (H : jit jF (fun (s : Int32 × jM) => b_X12_mass_39 Y v0 v1 s.1 s.2) s0 = some z) (D : z = (rr, μr)) : JW X (jEnd X n Y (some (.long rr)) μr 0 0) 0 0 n Y 39 [(0, .ref v0), (1, .int v1), (2, .int s0.1)] [] s0.2 :=
  jit_ind (P := fun (s : Int32 × jM) => JW X (jEnd X n Y (some (.long rr)) μr 0 0) 0 0 n Y 39 [(0, .ref v0), (1, .int v1), (2, .int s.1)] [] s.2) (D := fun r => r = (rr, μr)) (fun s z Hs Ds => t_X12_mass_39 K hl Hs Ds) jF s0 z H D
set_option maxRecDepth 10000 in
theorem t_X12_mass_0 {X : jX} {l : Launch} {n : Nat} {Y : jY} (K : jOK X RX12 cX12_mass 3 (some .long) 9) (hl : X.2.1 = l) {rr : Int64} {μr : jM} {v0 : Nat} {v1 : Int32} {μ : jM} {z : (Int64 × jM)} (H : f_X12_mass Y v0 v1 μ = some z) (D : z = (rr, μr)) : JW X (jEnd X n Y (some (.long rr)) μr 0 0) 0 0 n Y 0 [(0, .ref v0), (1, .int v1)] [] μ := by
  unfold f_X12_mass at H
  refine r_aload_n K 0 dX12_mass_0 rfl rfl ?_
  refine w_getI K vc12 inX12 10 (by decide) mF_RX12_145 dX12_mass_1 H (fun x1 H => ?_)
  refine w_if_eq K 16 dX12_mass_4 (by decide) H (fun _ H => ?_) (fun _ H => ?_)
  · exact r_sub [] rfl (t_X12_mass_16 K hl H D)
  · refine r_iload_n K 1 dX12_mass_7 rfl rfl ?_
    refine r_iconst (v := 0) K dX12_mass_8 (by decide) ?_
    refine r_iconst (v := 1) K dX12_mass_9 (by decide) ?_
    refine w_callS K hl H (fun r h => c_X12_in l h) mC_yX12_in mM_RX12_134 mT_yX12_in mZ_RX12 (Nat.le_of_ble_eq_true rfl) (Nat.le_of_ble_eq_true rfl) np_yX12_in rfl (Nat.le_of_ble_eq_true rfl) dX12_mass_10 (fun r2 H => ?_) ⟨Nat.zero_le _, Nat.zero_le _⟩
    refine w_if_ne K 20 dX12_mass_13 (by decide) H (fun _ H => ?_) (fun _ H => ?_)
    · refine r_aload_n K 0 dX12_mass_20 rfl rfl ?_
      refine w_callV K hl H (fun r h => c_X12_laysChain l h) mC_yX12_laysChain mM_RX12_234 mI_yX12_laysChain mS_yX12_laysChain mZ_RX12 vc12 (Nat.le_of_ble_eq_true rfl) (Nat.le_of_ble_eq_true rfl) np_yX12_laysChain rfl (Nat.le_of_ble_eq_true rfl) dX12_mass_21 (fun r3 H => ?_) ⟨Nat.zero_le _, Nat.zero_le _⟩
      refine w_if_ne K 31 dX12_mass_24 (by decide) H (fun _ H => ?_) (fun _ H => ?_)
      · refine r_aload_n K 0 dX12_mass_31 rfl rfl ?_
        refine r_lconst (v := 0) K dX12_mass_32 (by decide) ?_
        refine r_lconst (v := 1) K dX12_mass_33 (by decide) ?_
        refine w_callV K hl H (fun r h => c_X12_sets l h) mC_yX12_sets mM_RX12_191 mI_yX12_sets mS_yX12_sets mZ_RX12 vc12 (Nat.le_of_ble_eq_true rfl) (Nat.le_of_ble_eq_true rfl) np_yX12_sets rfl (Nat.le_of_ble_eq_true rfl) dX12_mass_34 (fun μ4 H => ?_) ⟨Nat.zero_le _, Nat.zero_le _⟩
        refine r_iconst (v := 0) K dX12_mass_37 (by decide) ?_
        refine r_istore_n K [(2, .int _), (0, .ref _), (1, .int _)] dX12_mass_38 rfl (by decide) rfl ?_
        exact r_sub [1, 2, 0] rfl (l_X12_mass_39 K hl H D)
      · refine r_ldc2 K (-2) mc_RX12_232 dX12_mass_27 ?_
        cases H
        obtain ⟨rfl, rfl⟩ := jfin2 D
        exact r_lret K dX12_mass_30
    · exact r_sub [] rfl (t_X12_mass_16 K hl H D)
theorem c_X12_mass (l : Launch) {n : Nat} {Y : jY} {v0 : Nat} {v1 : Int32} {μ : jM} {z : Int64 × jM} (H : f_X12_mass Y v0 v1 μ = some z) : jC l yX12_mass cX12_mass 3 (some .long) 9 0 0 [.ref v0, .int v1] n Y μ n Y (some (.long z.1)) z.2 := by
  refine jC_of (by decide +kernel) (Nat.le_of_ble_eq_true rfl) (fun X hl K _ _ _ => ?_)
  obtain ⟨rr, μr⟩ := z
  exact t_X12_mass_0 K hl H rfl
/-! RX12 swaps([III)V -/
def f_X12_swaps (Y : jY) (v0 : Nat) (v1 : Nat) (v2 : Int32) (v3 : Int32) (μ : jM) : Option (jM) :=
  (jaI Y μ v1 20 v2).bind fun x1 =>
  (jaI Y μ v1 20 v3).bind fun x2 =>
  (jas Y μ v1 20 v2 (.int x2)).bind fun μ3 =>
  (jas Y μ3 v1 20 v3 (.int x1)).bind fun μ4 =>
  some μ4
set_option maxRecDepth 10000 in
theorem t_X12_swaps_0 {X : jX} {l : Launch} {n : Nat} {Y : jY} (K : jOK X RX12 cX12_swaps 5 none 1) (hl : X.2.1 = l) {μr : jM} {v0 : Nat} {v1 : Nat} {v2 : Int32} {v3 : Int32} {μ : jM} {z : (jM)} (H : f_X12_swaps Y v0 v1 v2 v3 μ = some z) (D : z = μr) : JW X (jEnd X n Y none μr 0 0) 0 0 n Y 0 [(0, .ref v0), (1, .ref v1), (2, .int v2), (3, .int v3)] [] μ := by
  unfold f_X12_swaps at H
  refine r_aload_n K 1 dX12_swaps_0 rfl rfl ?_
  refine r_iload_n K 2 dX12_swaps_1 rfl rfl ?_
  refine w_iald K dX12_swaps_2 H (fun x1 H => ?_)
  refine r_istore K [(4, .int _), (0, .ref _), (1, .ref _), (2, .int _), (3, .int _)] dX12_swaps_3 (by decide) rfl ?_
  refine r_aload_n K 2 dX12_swaps_5 rfl rfl ?_
  refine r_iload_n K 3 dX12_swaps_6 rfl rfl ?_
  refine r_aload_n K 2 dX12_swaps_7 rfl rfl ?_
  refine r_iload_n K 4 dX12_swaps_8 rfl rfl ?_
  refine w_iald K dX12_swaps_9 H (fun x2 H => ?_)
  refine w_iast K dX12_swaps_10 H (fun μ3 H => ?_)
  refine r_aload_n K 2 dX12_swaps_11 rfl rfl ?_
  refine r_iload_n K 4 dX12_swaps_12 rfl rfl ?_
  refine r_iload K 0 dX12_swaps_13 rfl ?_
  refine w_iast K dX12_swaps_15 H (fun μ4 H => ?_)
  cases H
  subst D
  exact r_vret K dX12_swaps_16
theorem c_X12_swaps (l : Launch) {n : Nat} {Y : jY} {v0 : Nat} {v1 : Nat} {v2 : Int32} {v3 : Int32} {μ : jM} {z : jM} (H : f_X12_swaps Y v0 v1 v2 v3 μ = some z) : jC l yX12_swaps cX12_swaps 5 none 1 0 0 [.ref v0, .ref v1, .int v2, .int v3] n Y μ n Y none z := by
  refine jC_of (by decide +kernel) (Nat.le_of_ble_eq_true rfl) (fun X hl K _ _ _ => ?_)
  exact t_X12_swaps_0 K hl H rfl
/-! RX12 rivals(IIZ)I -/
def b_X12_rivals_16 (Y : jY) (μ : jM) : Option (Int32 × jM) :=
  some ((-1 : Int32), μ)
def b_X12_rivals_261 (Y : jY) (t0 : Int32) (μ : jM) : Option (Int32 × jM) :=
  some (t0, μ)
def b_X12_rivals_227 (Y : jY) (v0 : Nat) (v1 : Int32) (v2 : Int32) (v3 : Int32) (v4 : Int32) (v5 : Int32) (v6 : Int32) (v7 : Int32) (v8 : Int32) (v9 : Int32) (v10 : Int32) (μ : jM) : Option ((Int32 × Int32 × Int32 × jM) ⊕ ((Int32 × Int32 × Int32 × jM) ⊕ (Int32 × jM))) :=
  some (.inl (v4, v5, (v10 + (1 : Int32)), μ))
def b_X12_rivals_225 (Y : jY) (v0 : Nat) (v1 : Int32) (v2 : Int32) (v3 : Int32) (v4 : Int32) (v6 : Int32) (v7 : Int32) (v8 : Int32) (v9 : Int32) (v10 : Int32) (t0 : Int32) (μ : jM) : Option ((Int32 × Int32 × Int32 × jM) ⊕ ((Int32 × Int32 × Int32 × jM) ⊕ (Int32 × jM))) :=
  b_X12_rivals_227 Y v0 v1 v2 v3 v4 t0 v6 v7 v8 v9 v10 μ
def b_X12_rivals_144 (Y : jY) (v0 : Nat) (v1 : Int32) (v2 : Int32) (v3 : Int32) (v4 : Int32) (v5 : Int32) (v6 : Int32) (v7 : Int32) (v8 : Int32) (v9 : Int32) (v10 : Int32) (t0 : Int32) (t1 : Int32) (μ : jM) : Option ((Int32 × Int32 × Int32 × jM) ⊕ ((Int32 × Int32 × Int32 × jM) ⊕ (Int32 × jM))) :=
  if t1 < t0 then
    (jrcv Y v0 12 (f_X12_puts Y v0 v1 v7 v8 v9 μ)).bind fun μ1 =>
    some (.inr (.inl (v4, v5, (v6 + (1 : Int32)), μ1)))
  else
    (jrcv Y v0 12 (f_X12_puts Y v0 v1 v7 v8 v10 μ)).bind fun μ2 =>
    if v10 = v9 then
      b_X12_rivals_227 Y v0 v1 v2 v3 v4 v5 v6 v7 v8 v9 v10 μ2
    else
      (jrcv Y v0 12 (f_X12_isRival Y v0 v1 v2 μ2)).bind fun r3 =>
      if r3.1 = 0 then
        b_X12_rivals_227 Y v0 v1 v2 v3 v4 v5 v6 v7 v8 v9 v10 r3.2
      else
        if v5 = ((-1 : Int32)) then
          if v7 = 0 then
            b_X12_rivals_225 Y v0 v1 v2 v3 (v4 + ((1 : Int32))) v6 v7 v8 v9 v10 (((((1000 : Int32)) + ((((100 : Int32)) * v8)))) + v10) r3.2
          else
            b_X12_rivals_225 Y v0 v1 v2 v3 (v4 + ((1 : Int32))) v6 v7 v8 v9 v10 (((((((100 : Int32)) * v8)) + v10)) + ((6 : Int32))) r3.2
        else
          b_X12_rivals_225 Y v0 v1 v2 v3 (v4 + ((1 : Int32))) v6 v7 v8 v9 v10 v5 r3.2
def b_X12_rivals_130 (Y : jY) (v0 : Nat) (v1 : Int32) (v2 : Int32) (v3 : Int32) (v4 : Int32) (v5 : Int32) (v6 : Int32) (v7 : Int32) (v8 : Int32) (v9 : Int32) (v10 : Int32) (μ : jM) : Option ((Int32 × Int32 × Int32 × jM) ⊕ ((Int32 × Int32 × Int32 × jM) ⊕ (Int32 × jM))) :=
  if v7 = 0 then
    b_X12_rivals_144 Y v0 v1 v2 v3 v4 v5 v6 v7 v8 v9 v10 v10 (36 : Int32) μ
  else
    b_X12_rivals_144 Y v0 v1 v2 v3 v4 v5 v6 v7 v8 v9 v10 v10 (6 : Int32) μ
def b_X12_rivals_128 (Y : jY) (v0 : Nat) (v1 : Int32) (v2 : Int32) (v3 : Int32) (v4 : Int32) (v5 : Int32) (v6 : Int32) (v7 : Int32) (v8 : Int32) (v9 : Int32) (t0 : Int32) (μ : jM) : Option ((Int32 × Int32 × Int32 × jM) ⊕ (Int32 × jM)) :=
  jit jF (fun (s : Int32 × Int32 × Int32 × jM) => b_X12_rivals_130 Y v0 v1 v2 v3 s.1 s.2.1 v6 v7 v8 v9 s.2.2.1 s.2.2.2) (v4, v5, t0, μ)
def b_X12_rivals_115 (Y : jY) (v0 : Nat) (v1 : Int32) (v2 : Int32) (v3 : Int32) (v4 : Int32) (v5 : Int32) (v6 : Int32) (v7 : Int32) (v8 : Int32) (t0 : Int32) (μ : jM) : Option ((Int32 × Int32 × Int32 × jM) ⊕ (Int32 × jM)) :=
  if v7 = 0 then
    b_X12_rivals_128 Y v0 v1 v2 v3 v4 v5 v6 v7 v8 t0 (1 : Int32) μ
  else
    b_X12_rivals_128 Y v0 v1 v2 v3 v4 v5 v6 v7 v8 t0 (-6 : Int32) μ
def b_X12_rivals_91 (Y : jY) (v0 : Nat) (v1 : Int32) (v2 : Int32) (v3 : Int32) (v4 : Int32) (v5 : Int32) (v6 : Int32) (v7 : Int32) (t0 : Int32) (μ : jM) : Option ((Int32 × Int32 × Int32 × jM) ⊕ (Int32 × jM)) :=
  if v7 = 0 then
    (jrcv Y v0 12 (f_X12_c Y v0 v1 t0 μ)).bind fun r1 =>
    b_X12_rivals_115 Y v0 v1 v2 v3 v4 v5 v6 v7 t0 r1.1 r1.2
  else
    (jrcv Y v0 12 (f_X12_a Y v0 v1 t0 μ)).bind fun r2 =>
    b_X12_rivals_115 Y v0 v1 v2 v3 v4 v5 v6 v7 t0 r2.1 r2.2
def b_X12_rivals_70 (Y : jY) (v0 : Nat) (v1 : Int32) (v2 : Int32) (v3 : Int32) (v4 : Int32) (v5 : Int32) (v6 : Int32) (t0 : Int32) (μ : jM) : Option ((Int32 × Int32 × Int32 × jM) ⊕ (Int32 × jM)) :=
  if t0 = 0 then
    (jgO Y μ v0 12 26).bind fun x1 =>
    (jaI Y μ x1 20 v1).bind fun x2 =>
    b_X12_rivals_91 Y v0 v1 v2 v3 v4 v5 v6 t0 (v6 - x2) μ
  else
    b_X12_rivals_91 Y v0 v1 v2 v3 v4 v5 v6 t0 v6 μ
def b_X12_rivals_39 (Y : jY) (v0 : Nat) (v1 : Int32) (v2 : Int32) (v3 : Int32) (v4 : Int32) (v5 : Int32) (v6 : Int32) (μ : jM) : Option ((Int32 × Int32 × Int32 × jM) ⊕ (Int32 × jM)) :=
  (jgO Y μ v0 12 26).bind fun x1 =>
  (jaI Y μ x1 20 v1).bind fun x2 =>
  if ((((((2 : Int32)) * x2)) - ((1 : Int32)))) ≤ v6 then
    if v3 = 0 then
      (b_X12_rivals_261 Y v4 μ).map (fun r => (.inr r))
    else
      (b_X12_rivals_261 Y v5 μ).map (fun r => (.inr r))
  else
    (jgO Y μ v0 12 26).bind fun x3 =>
    (jaI Y μ x3 20 v1).bind fun x4 =>
    if x4 ≤ v6 then
      b_X12_rivals_70 Y v0 v1 v2 v3 v4 v5 v6 (0 : Int32) μ
    else
      b_X12_rivals_70 Y v0 v1 v2 v3 v4 v5 v6 (1 : Int32) μ
def f_X12_rivals (Y : jY) (v0 : Nat) (v1 : Int32) (v2 : Int32) (v3 : Int32) (μ : jM) : Option (Int32 × jM) :=
  (f_X12_isDrawer Y v1 μ).bind fun r1 =>
  if r1.1 = 0 then
    b_X12_rivals_16 Y r1.2
  else
    (f_X12_in Y v2 ((0 : Int32)) ((2 : Int32)) r1.2).bind fun r2 =>
    if r2.1 = 0 then
      b_X12_rivals_16 Y r2.2
    else
      (jgO Y r2.2 v0 12 26).bind fun x3 =>
      (jaI Y r2.2 x3 20 v1).bind fun x4 =>
      if x4 = 0 then
        some ((-2 : Int32), r2.2)
      else
        jit jF (fun (s : Int32 × Int32 × Int32 × jM) => b_X12_rivals_39 Y v0 v1 v2 v3 s.1 s.2.1 s.2.2.1 s.2.2.2) ((0 : Int32), (-1 : Int32), (0 : Int32), r2.2)
set_option maxRecDepth 10000 in
theorem t_X12_rivals_16 {X : jX} {l : Launch} {n : Nat} {Y : jY} (K : jOK X RX12 cX12_rivals 11 (some .int) 5) (hl : X.2.1 = l) {rr : Int32} {μr : jM} {μ : jM} {z : (Int32 × jM)} (H : b_X12_rivals_16 Y μ = some z) (D : z = (rr, μr)) : JW X (jEnd X n Y (some (.int rr)) μr 0 0) 0 0 n Y 16 [] [] μ := by
  unfold b_X12_rivals_16 at H
  refine r_iconst (v := -1) K dX12_rivals_16 (by decide) ?_
  cases H
  obtain ⟨rfl, rfl⟩ := jfin2 D
  exact r_iret K dX12_rivals_17
set_option maxRecDepth 10000 in
theorem t_X12_rivals_261 {X : jX} {l : Launch} {n : Nat} {Y : jY} (K : jOK X RX12 cX12_rivals 11 (some .int) 5) (hl : X.2.1 = l) {rr : Int32} {μr : jM} {t0 : Int32} {μ : jM} {z : (Int32 × jM)} (H : b_X12_rivals_261 Y t0 μ = some z) (D : z = (rr, μr)) : JW X (jEnd X n Y (some (.int rr)) μr 0 0) 0 0 n Y 261 [] [.int t0] μ := by
  unfold b_X12_rivals_261 at H
  cases H
  obtain ⟨rfl, rfl⟩ := jfin2 D
  exact r_iret K dX12_rivals_261
set_option maxRecDepth 10000 in
theorem t_X12_rivals_227 {X : jX} {l : Launch} {n : Nat} {Y : jY} (K : jOK X RX12 cX12_rivals 11 (some .int) 5) (hl : X.2.1 = l) {rr : Int32} {μr : jM} {v0 : Nat} {v1 : Int32} {v2 : Int32} {v3 : Int32} {v4 : Int32} {v5 : Int32} {v6 : Int32} {v7 : Int32} {v8 : Int32} {v9 : Int32} {v10 : Int32} {μ : jM} {z : ((Int32 × Int32 × Int32 × jM) ⊕ ((Int32 × Int32 × Int32 × jM) ⊕ (Int32 × jM)))} (H : b_X12_rivals_227 Y v0 v1 v2 v3 v4 v5 v6 v7 v8 v9 v10 μ = some z) (D : Sum.elim (fun (s : Int32 × Int32 × Int32 × jM) => JW X (jEnd X n Y (some (.int rr)) μr 0 0) 0 0 n Y 130 [(0, .ref v0), (1, .int v1), (2, .int v2), (3, .int v3), (4, .int s.1), (5, .int s.2.1), (6, .int v6), (7, .int v7), (8, .int v8), (9, .int v9), (10, .int s.2.2.1)] [] s.2.2.2) (Sum.elim (fun (s : Int32 × Int32 × Int32 × jM) => JW X (jEnd X n Y (some (.int rr)) μr 0 0) 0 0 n Y 39 [(0, .ref v0), (1, .int v1), (2, .int v2), (3, .int v3), (4, .int s.1), (5, .int s.2.1), (6, .int s.2.2.1)] [] s.2.2.2) (fun r => r = (rr, μr))) z) : JW X (jEnd X n Y (some (.int rr)) μr 0 0) 0 0 n Y 227 [(0, .ref v0), (1, .int v1), (2, .int v2), (3, .int v3), (4, .int v4), (5, .int v5), (6, .int v6), (7, .int v7), (8, .int v8), (9, .int v9), (10, .int v10)] [] μ := by
  unfold b_X12_rivals_227 at H
  refine r_iinc K 10 [(10, .int _), (0, .ref _), (1, .int _), (2, .int _), (3, .int _), (4, .int _), (5, .int _), (6, .int _), (7, .int _), (8, .int _), (9, .int _)] (v := _ + (1 : Int32)) dX12_rivals_227 rfl rfl (by decide) rfl ?_
  refine r_goto K 130 dX12_rivals_230 (by decide) ?_
  cases H
  exact r_sub [1, 2, 3, 4, 5, 6, 7, 8, 9, 10, 0] rfl D
set_option maxRecDepth 10000 in
theorem t_X12_rivals_225 {X : jX} {l : Launch} {n : Nat} {Y : jY} (K : jOK X RX12 cX12_rivals 11 (some .int) 5) (hl : X.2.1 = l) {rr : Int32} {μr : jM} {v0 : Nat} {v1 : Int32} {v2 : Int32} {v3 : Int32} {v4 : Int32} {v6 : Int32} {v7 : Int32} {v8 : Int32} {v9 : Int32} {v10 : Int32} {t0 : Int32} {μ : jM} {z : ((Int32 × Int32 × Int32 × jM) ⊕ ((Int32 × Int32 × Int32 × jM) ⊕ (Int32 × jM)))} (H : b_X12_rivals_225 Y v0 v1 v2 v3 v4 v6 v7 v8 v9 v10 t0 μ = some z) (D : Sum.elim (fun (s : Int32 × Int32 × Int32 × jM) => JW X (jEnd X n Y (some (.int rr)) μr 0 0) 0 0 n Y 130 [(0, .ref v0), (1, .int v1), (2, .int v2), (3, .int v3), (4, .int s.1), (5, .int s.2.1), (6, .int v6), (7, .int v7), (8, .int v8), (9, .int v9), (10, .int s.2.2.1)] [] s.2.2.2) (Sum.elim (fun (s : Int32 × Int32 × Int32 × jM) => JW X (jEnd X n Y (some (.int rr)) μr 0 0) 0 0 n Y 39 [(0, .ref v0), (1, .int v1), (2, .int v2), (3, .int v3), (4, .int s.1), (5, .int s.2.1), (6, .int s.2.2.1)] [] s.2.2.2) (fun r => r = (rr, μr))) z) : JW X (jEnd X n Y (some (.int rr)) μr 0 0) 0 0 n Y 225 [(0, .ref v0), (1, .int v1), (2, .int v2), (3, .int v3), (4, .int v4), (6, .int v6), (7, .int v7), (8, .int v8), (9, .int v9), (10, .int v10)] [.int t0] μ := by
  unfold b_X12_rivals_225 at H
  refine r_istore K [(5, .int _), (0, .ref _), (1, .int _), (2, .int _), (3, .int _), (4, .int _), (6, .int _), (7, .int _), (8, .int _), (9, .int _), (10, .int _)] dX12_rivals_225 (by decide) rfl ?_
  exact r_sub [1, 2, 3, 4, 5, 0, 6, 7, 8, 9, 10] rfl (t_X12_rivals_227 K hl H D)
set_option maxRecDepth 10000 in
theorem t_X12_rivals_144 {X : jX} {l : Launch} {n : Nat} {Y : jY} (K : jOK X RX12 cX12_rivals 11 (some .int) 5) (hl : X.2.1 = l) {rr : Int32} {μr : jM} {v0 : Nat} {v1 : Int32} {v2 : Int32} {v3 : Int32} {v4 : Int32} {v5 : Int32} {v6 : Int32} {v7 : Int32} {v8 : Int32} {v9 : Int32} {v10 : Int32} {t0 : Int32} {t1 : Int32} {μ : jM} {z : ((Int32 × Int32 × Int32 × jM) ⊕ ((Int32 × Int32 × Int32 × jM) ⊕ (Int32 × jM)))} (H : b_X12_rivals_144 Y v0 v1 v2 v3 v4 v5 v6 v7 v8 v9 v10 t0 t1 μ = some z) (D : Sum.elim (fun (s : Int32 × Int32 × Int32 × jM) => JW X (jEnd X n Y (some (.int rr)) μr 0 0) 0 0 n Y 130 [(0, .ref v0), (1, .int v1), (2, .int v2), (3, .int v3), (4, .int s.1), (5, .int s.2.1), (6, .int v6), (7, .int v7), (8, .int v8), (9, .int v9), (10, .int s.2.2.1)] [] s.2.2.2) (Sum.elim (fun (s : Int32 × Int32 × Int32 × jM) => JW X (jEnd X n Y (some (.int rr)) μr 0 0) 0 0 n Y 39 [(0, .ref v0), (1, .int v1), (2, .int v2), (3, .int v3), (4, .int s.1), (5, .int s.2.1), (6, .int s.2.2.1)] [] s.2.2.2) (fun r => r = (rr, μr))) z) : JW X (jEnd X n Y (some (.int rr)) μr 0 0) 0 0 n Y 144 [(0, .ref v0), (1, .int v1), (2, .int v2), (3, .int v3), (4, .int v4), (5, .int v5), (6, .int v6), (7, .int v7), (8, .int v8), (9, .int v9), (10, .int v10)] [.int t1, .int t0] μ := by
  unfold b_X12_rivals_144 at H
  refine w_icmp_gt K 233 dX12_rivals_144 (by decide) H (fun _ H => ?_) (fun _ H => ?_)
  · refine r_aload_n K 0 dX12_rivals_233 rfl rfl ?_
    refine r_iload_n K 1 dX12_rivals_234 rfl rfl ?_
    refine r_iload K 7 dX12_rivals_235 rfl ?_
    refine r_iload K 8 dX12_rivals_237 rfl ?_
    refine r_iload K 9 dX12_rivals_239 rfl ?_
    refine w_callV K hl H (fun r h => c_X12_puts l h) mC_yX12_puts mM_RX12_271 mI_yX12_puts mS_yX12_puts mZ_RX12 vc12 (Nat.le_of_ble_eq_true rfl) (Nat.le_of_ble_eq_true rfl) np_yX12_puts rfl (Nat.le_of_ble_eq_true rfl) dX12_rivals_241 (fun μ1 H => ?_) ⟨Nat.zero_le _, Nat.zero_le _⟩
    refine r_iinc K 6 [(6, .int _), (0, .ref _), (1, .int _), (2, .int _), (3, .int _), (4, .int _), (5, .int _), (7, .int _), (8, .int _), (9, .int _), (10, .int _)] (v := _ + (1 : Int32)) dX12_rivals_244 rfl rfl (by decide) rfl ?_
    refine r_goto K 39 dX12_rivals_247 (by decide) ?_
    cases H
    exact r_sub [1, 2, 3, 4, 5, 6, 0] rfl D
  · refine r_aload_n K 0 dX12_rivals_147 rfl rfl ?_
    refine r_iload_n K 1 dX12_rivals_148 rfl rfl ?_
    refine r_iload K 7 dX12_rivals_149 rfl ?_
    refine r_iload K 8 dX12_rivals_151 rfl ?_
    refine r_iload K 10 dX12_rivals_153 rfl ?_
    refine w_callV K hl H (fun r h => c_X12_puts l h) mC_yX12_puts mM_RX12_271 mI_yX12_puts mS_yX12_puts mZ_RX12 vc12 (Nat.le_of_ble_eq_true rfl) (Nat.le_of_ble_eq_true rfl) np_yX12_puts rfl (Nat.le_of_ble_eq_true rfl) dX12_rivals_155 (fun μ2 H => ?_) ⟨Nat.zero_le _, Nat.zero_le _⟩
    refine r_iload K 10 dX12_rivals_158 rfl ?_
    refine r_iload K 9 dX12_rivals_160 rfl ?_
    refine w_icmp_eq K 227 dX12_rivals_162 (by decide) H (fun _ H => ?_) (fun _ H => ?_)
    · exact r_sub [0, 1, 2, 3, 4, 5, 6, 7, 8, 9, 10] rfl (t_X12_rivals_227 K hl H D)
    · refine r_aload_n K 0 dX12_rivals_165 rfl rfl ?_
      refine r_iload_n K 1 dX12_rivals_166 rfl rfl ?_
      refine r_iload_n K 2 dX12_rivals_167 rfl rfl ?_
      refine w_callV K hl H (fun r h => c_X12_isRival l h) mC_yX12_isRival mM_RX12_317 mI_yX12_isRival mS_yX12_isRival mZ_RX12 vc12 (Nat.le_of_ble_eq_true rfl) (Nat.le_of_ble_eq_true rfl) np_yX12_isRival rfl (Nat.le_of_ble_eq_true rfl) dX12_rivals_168 (fun r3 H => ?_) ⟨Nat.zero_le _, Nat.zero_le _⟩
      refine w_if_ne K 177 dX12_rivals_171 (by decide) H (fun _ H => ?_) (fun _ H => ?_)
      · refine r_iload K 4 dX12_rivals_177 rfl ?_
        refine r_iconst (v := 1) K dX12_rivals_179 (by decide) ?_
        refine r_iadd K dX12_rivals_180 ?_
        refine r_istore K [(4, .int _), (0, .ref _), (1, .int _), (2, .int _), (3, .int _), (5, .int _), (6, .int _), (7, .int _), (8, .int _), (9, .int _), (10, .int _)] dX12_rivals_181 (by decide) rfl ?_
        refine r_iload K 5 dX12_rivals_183 rfl ?_
        refine r_iconst (v := -1) K dX12_rivals_185 (by decide) ?_
        refine w_icmp_ne K 223 dX12_rivals_186 (by decide) H (fun _ H => ?_) (fun _ H => ?_)
        · refine r_iload K 5 dX12_rivals_223 rfl ?_
          exact r_sub [1, 2, 3, 4, 0, 6, 7, 8, 9, 10] rfl (t_X12_rivals_225 K hl H D)
        · refine r_iload K 7 dX12_rivals_189 rfl ?_
          refine w_if_eq K 208 dX12_rivals_191 (by decide) H (fun _ H => ?_) (fun _ H => ?_)
          · refine r_sipush (v := 1000) K dX12_rivals_208 (by decide) ?_
            refine r_bipush (v := 100) K dX12_rivals_211 (by decide) ?_
            refine r_iload K 8 dX12_rivals_213 rfl ?_
            refine r_imul K dX12_rivals_215 ?_
            refine r_iadd K dX12_rivals_216 ?_
            refine r_iload K 10 dX12_rivals_217 rfl ?_
            refine r_iadd K dX12_rivals_219 ?_
            refine r_goto K 225 dX12_rivals_220 (by decide) ?_
            exact r_sub [1, 2, 3, 4, 0, 6, 7, 8, 9, 10] rfl (t_X12_rivals_225 K hl H D)
          · refine r_bipush (v := 100) K dX12_rivals_194 (by decide) ?_
            refine r_iload K 8 dX12_rivals_196 rfl ?_
            refine r_imul K dX12_rivals_198 ?_
            refine r_iload K 10 dX12_rivals_199 rfl ?_
            refine r_iadd K dX12_rivals_201 ?_
            refine r_bipush (v := 6) K dX12_rivals_202 (by decide) ?_
            refine r_iadd K dX12_rivals_204 ?_
            refine r_goto K 225 dX12_rivals_205 (by decide) ?_
            exact r_sub [1, 2, 3, 4, 0, 6, 7, 8, 9, 10] rfl (t_X12_rivals_225 K hl H D)
      · refine r_goto K 227 dX12_rivals_174 (by decide) ?_
        exact r_sub [0, 1, 2, 3, 4, 5, 6, 7, 8, 9, 10] rfl (t_X12_rivals_227 K hl H D)
set_option maxRecDepth 10000 in
theorem t_X12_rivals_130 {X : jX} {l : Launch} {n : Nat} {Y : jY} (K : jOK X RX12 cX12_rivals 11 (some .int) 5) (hl : X.2.1 = l) {rr : Int32} {μr : jM} {v0 : Nat} {v1 : Int32} {v2 : Int32} {v3 : Int32} {v4 : Int32} {v5 : Int32} {v6 : Int32} {v7 : Int32} {v8 : Int32} {v9 : Int32} {v10 : Int32} {μ : jM} {z : ((Int32 × Int32 × Int32 × jM) ⊕ ((Int32 × Int32 × Int32 × jM) ⊕ (Int32 × jM)))} (H : b_X12_rivals_130 Y v0 v1 v2 v3 v4 v5 v6 v7 v8 v9 v10 μ = some z) (D : Sum.elim (fun (s : Int32 × Int32 × Int32 × jM) => JW X (jEnd X n Y (some (.int rr)) μr 0 0) 0 0 n Y 130 [(0, .ref v0), (1, .int v1), (2, .int v2), (3, .int v3), (4, .int s.1), (5, .int s.2.1), (6, .int v6), (7, .int v7), (8, .int v8), (9, .int v9), (10, .int s.2.2.1)] [] s.2.2.2) (Sum.elim (fun (s : Int32 × Int32 × Int32 × jM) => JW X (jEnd X n Y (some (.int rr)) μr 0 0) 0 0 n Y 39 [(0, .ref v0), (1, .int v1), (2, .int v2), (3, .int v3), (4, .int s.1), (5, .int s.2.1), (6, .int s.2.2.1)] [] s.2.2.2) (fun r => r = (rr, μr))) z) : JW X (jEnd X n Y (some (.int rr)) μr 0 0) 0 0 n Y 130 [(0, .ref v0), (1, .int v1), (2, .int v2), (3, .int v3), (4, .int v4), (5, .int v5), (6, .int v6), (7, .int v7), (8, .int v8), (9, .int v9), (10, .int v10)] [] μ := by
  unfold b_X12_rivals_130 at H
  refine r_iload K 10 dX12_rivals_130 rfl ?_
  refine r_iload K 7 dX12_rivals_132 rfl ?_
  refine w_if_eq K 142 dX12_rivals_134 (by decide) H (fun _ H => ?_) (fun _ H => ?_)
  · refine r_bipush (v := 36) K dX12_rivals_142 (by decide) ?_
    exact r_sub [0, 1, 2, 3, 4, 5, 6, 7, 8, 9, 10] rfl (t_X12_rivals_144 K hl H D)
  · refine r_bipush (v := 6) K dX12_rivals_137 (by decide) ?_
    refine r_goto K 144 dX12_rivals_139 (by decide) ?_
    exact r_sub [0, 1, 2, 3, 4, 5, 6, 7, 8, 9, 10] rfl (t_X12_rivals_144 K hl H D)
set_option maxRecDepth 10000 in
theorem l_X12_rivals_130 {X : jX} {l : Launch} {n : Nat} {Y : jY} (K : jOK X RX12 cX12_rivals 11 (some .int) 5) (hl : X.2.1 = l) {rr : Int32} {μr : jM} {v0 : Nat} {v1 : Int32} {v2 : Int32} {v3 : Int32} {v6 : Int32} {v7 : Int32} {v8 : Int32} {v9 : Int32}  {s0 : Int32 × Int32 × Int32 × jM} {z : ((Int32 × Int32 × Int32 × jM) ⊕ (Int32 × jM))} (H : jit jF (fun (s : Int32 × Int32 × Int32 × jM) => b_X12_rivals_130 Y v0 v1 v2 v3 s.1 s.2.1 v6 v7 v8 v9 s.2.2.1 s.2.2.2) s0 = some z) (D : Sum.elim (fun (s : Int32 × Int32 × Int32 × jM) => JW X (jEnd X n Y (some (.int rr)) μr 0 0) 0 0 n Y 39 [(0, .ref v0), (1, .int v1), (2, .int v2), (3, .int v3), (4, .int s.1), (5, .int s.2.1), (6, .int s.2.2.1)] [] s.2.2.2) (fun r => r = (rr, μr)) z) : JW X (jEnd X n Y (some (.int rr)) μr 0 0) 0 0 n Y 130 [(0, .ref v0), (1, .int v1), (2, .int v2), (3, .int v3), (4, .int s0.1), (5, .int s0.2.1), (6, .int v6), (7, .int v7), (8, .int v8), (9, .int v9), (10, .int s0.2.2.1)] [] s0.2.2.2 :=
  jit_ind (P := fun (s : Int32 × Int32 × Int32 × jM) => JW X (jEnd X n Y (some (.int rr)) μr 0 0) 0 0 n Y 130 [(0, .ref v0), (1, .int v1), (2, .int v2), (3, .int v3), (4, .int s.1), (5, .int s.2.1), (6, .int v6), (7, .int v7), (8, .int v8), (9, .int v9), (10, .int s.2.2.1)] [] s.2.2.2) (D := Sum.elim (fun (s : Int32 × Int32 × Int32 × jM) => JW X (jEnd X n Y (some (.int rr)) μr 0 0) 0 0 n Y 39 [(0, .ref v0), (1, .int v1), (2, .int v2), (3, .int v3), (4, .int s.1), (5, .int s.2.1), (6, .int s.2.2.1)] [] s.2.2.2) (fun r => r = (rr, μr))) (fun s z Hs Ds => t_X12_rivals_130 K hl Hs Ds) jF s0 z H D
set_option maxRecDepth 10000 in
theorem t_X12_rivals_128 {X : jX} {l : Launch} {n : Nat} {Y : jY} (K : jOK X RX12 cX12_rivals 11 (some .int) 5) (hl : X.2.1 = l) {rr : Int32} {μr : jM} {v0 : Nat} {v1 : Int32} {v2 : Int32} {v3 : Int32} {v4 : Int32} {v5 : Int32} {v6 : Int32} {v7 : Int32} {v8 : Int32} {v9 : Int32} {t0 : Int32} {μ : jM} {z : ((Int32 × Int32 × Int32 × jM) ⊕ (Int32 × jM))} (H : b_X12_rivals_128 Y v0 v1 v2 v3 v4 v5 v6 v7 v8 v9 t0 μ = some z) (D : Sum.elim (fun (s : Int32 × Int32 × Int32 × jM) => JW X (jEnd X n Y (some (.int rr)) μr 0 0) 0 0 n Y 39 [(0, .ref v0), (1, .int v1), (2, .int v2), (3, .int v3), (4, .int s.1), (5, .int s.2.1), (6, .int s.2.2.1)] [] s.2.2.2) (fun r => r = (rr, μr)) z) : JW X (jEnd X n Y (some (.int rr)) μr 0 0) 0 0 n Y 128 [(0, .ref v0), (1, .int v1), (2, .int v2), (3, .int v3), (4, .int v4), (5, .int v5), (6, .int v6), (7, .int v7), (8, .int v8), (9, .int v9)] [.int t0] μ := by
  unfold b_X12_rivals_128 at H
  refine r_istore K [(10, .int _), (0, .ref _), (1, .int _), (2, .int _), (3, .int _), (4, .int _), (5, .int _), (6, .int _), (7, .int _), (8, .int _), (9, .int _)] dX12_rivals_128 (by decide) rfl ?_
  exact r_sub [1, 2, 3, 4, 5, 6, 7, 8, 9, 10, 0] rfl (l_X12_rivals_130 K hl H D)
set_option maxRecDepth 10000 in
theorem t_X12_rivals_115 {X : jX} {l : Launch} {n : Nat} {Y : jY} (K : jOK X RX12 cX12_rivals 11 (some .int) 5) (hl : X.2.1 = l) {rr : Int32} {μr : jM} {v0 : Nat} {v1 : Int32} {v2 : Int32} {v3 : Int32} {v4 : Int32} {v5 : Int32} {v6 : Int32} {v7 : Int32} {v8 : Int32} {t0 : Int32} {μ : jM} {z : ((Int32 × Int32 × Int32 × jM) ⊕ (Int32 × jM))} (H : b_X12_rivals_115 Y v0 v1 v2 v3 v4 v5 v6 v7 v8 t0 μ = some z) (D : Sum.elim (fun (s : Int32 × Int32 × Int32 × jM) => JW X (jEnd X n Y (some (.int rr)) μr 0 0) 0 0 n Y 39 [(0, .ref v0), (1, .int v1), (2, .int v2), (3, .int v3), (4, .int s.1), (5, .int s.2.1), (6, .int s.2.2.1)] [] s.2.2.2) (fun r => r = (rr, μr)) z) : JW X (jEnd X n Y (some (.int rr)) μr 0 0) 0 0 n Y 115 [(0, .ref v0), (1, .int v1), (2, .int v2), (3, .int v3), (4, .int v4), (5, .int v5), (6, .int v6), (7, .int v7), (8, .int v8)] [.int t0] μ := by
  unfold b_X12_rivals_115 at H
  refine r_istore K [(9, .int _), (0, .ref _), (1, .int _), (2, .int _), (3, .int _), (4, .int _), (5, .int _), (6, .int _), (7, .int _), (8, .int _)] dX12_rivals_115 (by decide) rfl ?_
  refine r_iload K 8 dX12_rivals_117 rfl ?_
  refine w_if_eq K 127 dX12_rivals_119 (by decide) H (fun _ H => ?_) (fun _ H => ?_)
  · refine r_iconst (v := 1) K dX12_rivals_127 (by decide) ?_
    exact r_sub [1, 2, 3, 4, 5, 6, 7, 8, 9, 0] rfl (t_X12_rivals_128 K hl H D)
  · refine r_bipush (v := -6) K dX12_rivals_122 (by decide) ?_
    refine r_goto K 128 dX12_rivals_124 (by decide) ?_
    exact r_sub [1, 2, 3, 4, 5, 6, 7, 8, 9, 0] rfl (t_X12_rivals_128 K hl H D)
set_option maxRecDepth 10000 in
theorem t_X12_rivals_91 {X : jX} {l : Launch} {n : Nat} {Y : jY} (K : jOK X RX12 cX12_rivals 11 (some .int) 5) (hl : X.2.1 = l) {rr : Int32} {μr : jM} {v0 : Nat} {v1 : Int32} {v2 : Int32} {v3 : Int32} {v4 : Int32} {v5 : Int32} {v6 : Int32} {v7 : Int32} {t0 : Int32} {μ : jM} {z : ((Int32 × Int32 × Int32 × jM) ⊕ (Int32 × jM))} (H : b_X12_rivals_91 Y v0 v1 v2 v3 v4 v5 v6 v7 t0 μ = some z) (D : Sum.elim (fun (s : Int32 × Int32 × Int32 × jM) => JW X (jEnd X n Y (some (.int rr)) μr 0 0) 0 0 n Y 39 [(0, .ref v0), (1, .int v1), (2, .int v2), (3, .int v3), (4, .int s.1), (5, .int s.2.1), (6, .int s.2.2.1)] [] s.2.2.2) (fun r => r = (rr, μr)) z) : JW X (jEnd X n Y (some (.int rr)) μr 0 0) 0 0 n Y 91 [(0, .ref v0), (1, .int v1), (2, .int v2), (3, .int v3), (4, .int v4), (5, .int v5), (6, .int v6), (7, .int v7)] [.int t0] μ := by
  unfold b_X12_rivals_91 at H
  refine r_istore K [(8, .int _), (0, .ref _), (1, .int _), (2, .int _), (3, .int _), (4, .int _), (5, .int _), (6, .int _), (7, .int _)] dX12_rivals_91 (by decide) rfl ?_
  refine r_iload K 8 dX12_rivals_93 rfl ?_
  refine w_if_eq K 108 dX12_rivals_95 (by decide) H (fun _ H => ?_) (fun _ H => ?_)
  · refine r_aload_n K 1 dX12_rivals_108 rfl rfl ?_
    refine r_iload_n K 2 dX12_rivals_109 rfl rfl ?_
    refine r_iload K 0 dX12_rivals_110 rfl ?_
    refine w_callV K hl H (fun r h => c_X12_c l h) mC_yX12_c mM_RX12_260 mI_yX12_c mS_yX12_c mZ_RX12 vc12 (Nat.le_of_ble_eq_true rfl) (Nat.le_of_ble_eq_true rfl) np_yX12_c rfl (Nat.le_of_ble_eq_true rfl) dX12_rivals_112 (fun r1 H => ?_) ⟨Nat.zero_le _, Nat.zero_le _⟩
    exact r_sub [1, 2, 3, 4, 5, 6, 7, 8, 0] rfl (t_X12_rivals_115 K hl H D)
  · refine r_aload_n K 1 dX12_rivals_98 rfl rfl ?_
    refine r_iload_n K 2 dX12_rivals_99 rfl rfl ?_
    refine r_iload K 0 dX12_rivals_100 rfl ?_
    refine w_callV K hl H (fun r h => c_X12_a l h) mC_yX12_a mM_RX12_256 mI_yX12_a mS_yX12_a mZ_RX12 vc12 (Nat.le_of_ble_eq_true rfl) (Nat.le_of_ble_eq_true rfl) np_yX12_a rfl (Nat.le_of_ble_eq_true rfl) dX12_rivals_102 (fun r2 H => ?_) ⟨Nat.zero_le _, Nat.zero_le _⟩
    refine r_goto K 115 dX12_rivals_105 (by decide) ?_
    exact r_sub [1, 2, 3, 4, 5, 6, 7, 8, 0] rfl (t_X12_rivals_115 K hl H D)
set_option maxRecDepth 10000 in
theorem t_X12_rivals_70 {X : jX} {l : Launch} {n : Nat} {Y : jY} (K : jOK X RX12 cX12_rivals 11 (some .int) 5) (hl : X.2.1 = l) {rr : Int32} {μr : jM} {v0 : Nat} {v1 : Int32} {v2 : Int32} {v3 : Int32} {v4 : Int32} {v5 : Int32} {v6 : Int32} {t0 : Int32} {μ : jM} {z : ((Int32 × Int32 × Int32 × jM) ⊕ (Int32 × jM))} (H : b_X12_rivals_70 Y v0 v1 v2 v3 v4 v5 v6 t0 μ = some z) (D : Sum.elim (fun (s : Int32 × Int32 × Int32 × jM) => JW X (jEnd X n Y (some (.int rr)) μr 0 0) 0 0 n Y 39 [(0, .ref v0), (1, .int v1), (2, .int v2), (3, .int v3), (4, .int s.1), (5, .int s.2.1), (6, .int s.2.2.1)] [] s.2.2.2) (fun r => r = (rr, μr)) z) : JW X (jEnd X n Y (some (.int rr)) μr 0 0) 0 0 n Y 70 [(0, .ref v0), (1, .int v1), (2, .int v2), (3, .int v3), (4, .int v4), (5, .int v5), (6, .int v6)] [.int t0] μ := by
  unfold b_X12_rivals_70 at H
  refine r_istore K [(7, .int _), (0, .ref _), (1, .int _), (2, .int _), (3, .int _), (4, .int _), (5, .int _), (6, .int _)] dX12_rivals_70 (by decide) rfl ?_
  refine r_iload K 0 dX12_rivals_72 rfl ?_
  refine w_if_eq K 82 dX12_rivals_74 (by decide) H (fun _ H => ?_) (fun _ H => ?_)
  · refine r_iload K 7 dX12_rivals_82 rfl ?_
    refine r_aload_n K 1 dX12_rivals_84 rfl rfl ?_
    refine w_getO K vc12 inX12 26 (by decide) mF_RX12_48 dX12_rivals_85 H (fun x1 H => ?_)
    refine r_iload_n K 2 dX12_rivals_88 rfl rfl ?_
    refine w_iald K dX12_rivals_89 H (fun x2 H => ?_)
    refine r_isub K dX12_rivals_90 ?_
    exact r_sub [1, 2, 3, 4, 5, 6, 7, 0] rfl (t_X12_rivals_91 K hl H D)
  · refine r_iload K 7 dX12_rivals_77 rfl ?_
    refine r_goto K 91 dX12_rivals_79 (by decide) ?_
    exact r_sub [1, 2, 3, 4, 5, 6, 7, 0] rfl (t_X12_rivals_91 K hl H D)
set_option maxRecDepth 10000 in
theorem t_X12_rivals_39 {X : jX} {l : Launch} {n : Nat} {Y : jY} (K : jOK X RX12 cX12_rivals 11 (some .int) 5) (hl : X.2.1 = l) {rr : Int32} {μr : jM} {v0 : Nat} {v1 : Int32} {v2 : Int32} {v3 : Int32} {v4 : Int32} {v5 : Int32} {v6 : Int32} {μ : jM} {z : ((Int32 × Int32 × Int32 × jM) ⊕ (Int32 × jM))} (H : b_X12_rivals_39 Y v0 v1 v2 v3 v4 v5 v6 μ = some z) (D : Sum.elim (fun (s : Int32 × Int32 × Int32 × jM) => JW X (jEnd X n Y (some (.int rr)) μr 0 0) 0 0 n Y 39 [(0, .ref v0), (1, .int v1), (2, .int v2), (3, .int v3), (4, .int s.1), (5, .int s.2.1), (6, .int s.2.2.1)] [] s.2.2.2) (fun r => r = (rr, μr)) z) : JW X (jEnd X n Y (some (.int rr)) μr 0 0) 0 0 n Y 39 [(0, .ref v0), (1, .int v1), (2, .int v2), (3, .int v3), (4, .int v4), (5, .int v5), (6, .int v6)] [] μ := by
  unfold b_X12_rivals_39 at H
  refine r_iload K 6 dX12_rivals_39 rfl ?_
  refine r_iconst (v := 2) K dX12_rivals_41 (by decide) ?_
  refine r_aload_n K 0 dX12_rivals_42 rfl rfl ?_
  refine w_getO K vc12 inX12 26 (by decide) mF_RX12_48 dX12_rivals_43 H (fun x1 H => ?_)
  refine r_iload_n K 1 dX12_rivals_46 rfl rfl ?_
  refine w_iald K dX12_rivals_47 H (fun x2 H => ?_)
  refine r_imul K dX12_rivals_48 ?_
  refine r_iconst (v := 1) K dX12_rivals_49 (by decide) ?_
  refine r_isub K dX12_rivals_50 ?_
  refine w_icmp_ge K 250 dX12_rivals_51 (by decide) H (fun _ H => ?_) (fun _ H => ?_)
  · refine r_iload_n K 3 dX12_rivals_250 rfl rfl ?_
    refine w_if_eq K 259 dX12_rivals_251 (by decide) H (fun _ H => ?_) (fun _ H => ?_)
    · refine r_iload K 4 dX12_rivals_259 rfl ?_
      obtain ⟨z2, H2, rfl⟩ := jmap H
      exact r_sub [] rfl (t_X12_rivals_261 K hl H2 D)
    · refine r_iload K 5 dX12_rivals_254 rfl ?_
      refine r_goto K 261 dX12_rivals_256 (by decide) ?_
      obtain ⟨z2, H2, rfl⟩ := jmap H
      exact r_sub [] rfl (t_X12_rivals_261 K hl H2 D)
  · refine r_iload K 6 dX12_rivals_54 rfl ?_
    refine r_aload_n K 0 dX12_rivals_56 rfl rfl ?_
    refine w_getO K vc12 inX12 26 (by decide) mF_RX12_48 dX12_rivals_57 H (fun x3 H => ?_)
    refine r_iload_n K 1 dX12_rivals_60 rfl rfl ?_
    refine w_iald K dX12_rivals_61 H (fun x4 H => ?_)
    refine w_icmp_ge K 69 dX12_rivals_62 (by decide) H (fun _ H => ?_) (fun _ H => ?_)
    · refine r_iconst (v := 0) K dX12_rivals_69 (by decide) ?_
      exact r_sub [0, 1, 2, 3, 4, 5, 6] rfl (t_X12_rivals_70 K hl H D)
    · refine r_iconst (v := 1) K dX12_rivals_65 (by decide) ?_
      refine r_goto K 70 dX12_rivals_66 (by decide) ?_
      exact r_sub [0, 1, 2, 3, 4, 5, 6] rfl (t_X12_rivals_70 K hl H D)
set_option maxRecDepth 10000 in
theorem l_X12_rivals_39 {X : jX} {l : Launch} {n : Nat} {Y : jY} (K : jOK X RX12 cX12_rivals 11 (some .int) 5) (hl : X.2.1 = l) {rr : Int32} {μr : jM} {v0 : Nat} {v1 : Int32} {v2 : Int32} {v3 : Int32}  {s0 : Int32 × Int32 × Int32 × jM} {z : (Int32 × jM)} (H : jit jF (fun (s : Int32 × Int32 × Int32 × jM) => b_X12_rivals_39 Y v0 v1 v2 v3 s.1 s.2.1 s.2.2.1 s.2.2.2) s0 = some z) (D : z = (rr, μr)) : JW X (jEnd X n Y (some (.int rr)) μr 0 0) 0 0 n Y 39 [(0, .ref v0), (1, .int v1), (2, .int v2), (3, .int v3), (4, .int s0.1), (5, .int s0.2.1), (6, .int s0.2.2.1)] [] s0.2.2.2 :=
  jit_ind (P := fun (s : Int32 × Int32 × Int32 × jM) => JW X (jEnd X n Y (some (.int rr)) μr 0 0) 0 0 n Y 39 [(0, .ref v0), (1, .int v1), (2, .int v2), (3, .int v3), (4, .int s.1), (5, .int s.2.1), (6, .int s.2.2.1)] [] s.2.2.2) (D := fun r => r = (rr, μr)) (fun s z Hs Ds => t_X12_rivals_39 K hl Hs Ds) jF s0 z H D
set_option maxRecDepth 10000 in
theorem t_X12_rivals_0 {X : jX} {l : Launch} {n : Nat} {Y : jY} (K : jOK X RX12 cX12_rivals 11 (some .int) 5) (hl : X.2.1 = l) {rr : Int32} {μr : jM} {v0 : Nat} {v1 : Int32} {v2 : Int32} {v3 : Int32} {μ : jM} {z : (Int32 × jM)} (H : f_X12_rivals Y v0 v1 v2 v3 μ = some z) (D : z = (rr, μr)) : JW X (jEnd X n Y (some (.int rr)) μr 0 0) 0 0 n Y 0 [(0, .ref v0), (1, .int v1), (2, .int v2), (3, .int v3)] [] μ := by
  unfold f_X12_rivals at H
  refine r_iload_n K 1 dX12_rivals_0 rfl rfl ?_
  refine w_callS K hl H (fun r h => c_X12_isDrawer l h) mC_yX12_isDrawer mM_RX12_253 mT_yX12_isDrawer mZ_RX12 (Nat.le_of_ble_eq_true rfl) (Nat.le_of_ble_eq_true rfl) np_yX12_isDrawer rfl (Nat.le_of_ble_eq_true rfl) dX12_rivals_1 (fun r1 H => ?_) ⟨Nat.zero_le _, Nat.zero_le _⟩
  refine w_if_eq K 16 dX12_rivals_4 (by decide) H (fun _ H => ?_) (fun _ H => ?_)
  · exact r_sub [] rfl (t_X12_rivals_16 K hl H D)
  · refine r_iload_n K 2 dX12_rivals_7 rfl rfl ?_
    refine r_iconst (v := 0) K dX12_rivals_8 (by decide) ?_
    refine r_iconst (v := 2) K dX12_rivals_9 (by decide) ?_
    refine w_callS K hl H (fun r h => c_X12_in l h) mC_yX12_in mM_RX12_134 mT_yX12_in mZ_RX12 (Nat.le_of_ble_eq_true rfl) (Nat.le_of_ble_eq_true rfl) np_yX12_in rfl (Nat.le_of_ble_eq_true rfl) dX12_rivals_10 (fun r2 H => ?_) ⟨Nat.zero_le _, Nat.zero_le _⟩
    refine w_if_ne K 18 dX12_rivals_13 (by decide) H (fun _ H => ?_) (fun _ H => ?_)
    · refine r_aload_n K 0 dX12_rivals_18 rfl rfl ?_
      refine w_getO K vc12 inX12 26 (by decide) mF_RX12_48 dX12_rivals_19 H (fun x3 H => ?_)
      refine r_iload_n K 1 dX12_rivals_22 rfl rfl ?_
      refine w_iald K dX12_rivals_23 H (fun x4 H => ?_)
      refine w_if_ne K 30 dX12_rivals_24 (by decide) H (fun _ H => ?_) (fun _ H => ?_)
      · refine r_iconst (v := 0) K dX12_rivals_30 (by decide) ?_
        refine r_istore K [(4, .int _), (0, .ref _), (1, .int _), (2, .int _), (3, .int _)] dX12_rivals_31 (by decide) rfl ?_
        refine r_iconst (v := -1) K dX12_rivals_33 (by decide) ?_
        refine r_istore K [(5, .int _), (4, .int _), (0, .ref _), (1, .int _), (2, .int _), (3, .int _)] dX12_rivals_34 (by decide) rfl ?_
        refine r_iconst (v := 0) K dX12_rivals_36 (by decide) ?_
        refine r_istore K [(6, .int _), (5, .int _), (4, .int _), (0, .ref _), (1, .int _), (2, .int _), (3, .int _)] dX12_rivals_37 (by decide) rfl ?_
        exact r_sub [3, 4, 5, 6, 2, 1, 0] rfl (l_X12_rivals_39 K hl H D)
      · refine r_bipush (v := -2) K dX12_rivals_27 (by decide) ?_
        cases H
        obtain ⟨rfl, rfl⟩ := jfin2 D
        exact r_iret K dX12_rivals_29
    · exact r_sub [] rfl (t_X12_rivals_16 K hl H D)
theorem c_X12_rivals (l : Launch) {n : Nat} {Y : jY} {v0 : Nat} {v1 : Int32} {v2 : Int32} {v3 : Int32} {μ : jM} {z : Int32 × jM} (H : f_X12_rivals Y v0 v1 v2 v3 μ = some z) : jC l yX12_rivals cX12_rivals 11 (some .int) 5 0 0 [.ref v0, .int v1, .int v2, .int v3] n Y μ n Y (some (.int z.1)) z.2 := by
  refine jC_of (by decide +kernel) (Nat.le_of_ble_eq_true rfl) (fun X hl K _ _ _ => ?_)
  obtain ⟨rr, μr⟩ := z
  exact t_X12_rivals_0 K hl H rfl
/-! RX12 fraction(III)J -/
def b_X12_fraction_39 (Y : jY) (μ : jM) : Option (Int64 × jM) :=
  some ((-9223372036854775808 : Int64), μ)
def b_X12_fraction_50 (Y : jY) (v0 : Nat) (v1 : Int32) (v2 : Int32) (v3 : Int32) (v4 : Int32) (μ : jM) : Option ((Int32 × jM) ⊕ (Int64 × jM)) :=
  if v1 ≤ v4 then
    (jrcv Y v0 12 (f_X12_laterOf Y v0 v1 ((v2.toInt64)) μ)).bind fun r1 =>
    (jrcv Y v0 12 (f_X12_valueOf Y v0 v1 ((v2.toInt64)) r1.2)).bind fun r2 =>
    (jrcv Y v0 12 (f_X12_sets Y v0 r1.1 r2.1 r2.2)).bind fun μ3 =>
    (jrcv Y v0 12 (f_X12_told Y v0 v3 μ3)).bind fun r4 =>
    some (.inr (r4.1, r4.2))
  else
    (jrcv Y v0 12 (f_X12_isNothing Y v0 v1 v4 ((v2.toInt64)) μ)).bind fun r5 =>
    if r5.1 = 0 then
      some (.inl ((v4 + (1 : Int32)), r5.2))
    else
      some (.inr ((-2 : Int64), r5.2))
def f_X12_fraction (Y : jY) (v0 : Nat) (v1 : Int32) (v2 : Int32) (v3 : Int32) (μ : jM) : Option (Int64 × jM) :=
  (jgI Y μ v0 12 10).bind fun x1 =>
  if x1 = 0 then
    b_X12_fraction_39 Y μ
  else
    (jgI Y μ v0 12 10).bind fun x2 =>
    (f_X12_in Y v1 ((1 : Int32)) x2 μ).bind fun r3 =>
    if r3.1 = 0 then
      b_X12_fraction_39 Y r3.2
    else
      (f_X12_in Y v2 ((-20 : Int32)) ((20 : Int32)) r3.2).bind fun r4 =>
      if r4.1 = 0 then
        b_X12_fraction_39 Y r4.2
      else
        (f_X12_in Y v3 ((0 : Int32)) ((1 : Int32)) r4.2).bind fun r5 =>
        if r5.1 = 0 then
          b_X12_fraction_39 Y r5.2
        else
          (jrcv Y v0 12 (f_X12_laysTones Y v0 r5.2)).bind fun μ6 =>
          jit jF (fun (s : Int32 × jM) => b_X12_fraction_50 Y v0 v1 v2 v3 s.1 s.2) ((0 : Int32), μ6)
set_option maxRecDepth 10000 in
theorem t_X12_fraction_39 {X : jX} {l : Launch} {n : Nat} {Y : jY} (K : jOK X RX12 cX12_fraction 5 (some .long) 9) (hl : X.2.1 = l) {rr : Int64} {μr : jM} {μ : jM} {z : (Int64 × jM)} (H : b_X12_fraction_39 Y μ = some z) (D : z = (rr, μr)) : JW X (jEnd X n Y (some (.long rr)) μr 0 0) 0 0 n Y 39 [] [] μ := by
  unfold b_X12_fraction_39 at H
  refine r_ldc2 K (-9223372036854775808) mc_RX12_156 dX12_fraction_39 ?_
  cases H
  obtain ⟨rfl, rfl⟩ := jfin2 D
  exact r_lret K dX12_fraction_42
set_option maxRecDepth 10000 in
theorem t_X12_fraction_50 {X : jX} {l : Launch} {n : Nat} {Y : jY} (K : jOK X RX12 cX12_fraction 5 (some .long) 9) (hl : X.2.1 = l) {rr : Int64} {μr : jM} {v0 : Nat} {v1 : Int32} {v2 : Int32} {v3 : Int32} {v4 : Int32} {μ : jM} {z : ((Int32 × jM) ⊕ (Int64 × jM))} (H : b_X12_fraction_50 Y v0 v1 v2 v3 v4 μ = some z) (D : Sum.elim (fun (s : Int32 × jM) => JW X (jEnd X n Y (some (.long rr)) μr 0 0) 0 0 n Y 50 [(0, .ref v0), (1, .int v1), (2, .int v2), (3, .int v3), (4, .int s.1)] [] s.2) (fun r => r = (rr, μr)) z) : JW X (jEnd X n Y (some (.long rr)) μr 0 0) 0 0 n Y 50 [(0, .ref v0), (1, .int v1), (2, .int v2), (3, .int v3), (4, .int v4)] [] μ := by
  unfold b_X12_fraction_50 at H
  refine r_iload K 4 dX12_fraction_50 rfl ?_
  refine r_iload_n K 1 dX12_fraction_52 rfl rfl ?_
  refine w_icmp_ge K 78 dX12_fraction_53 (by decide) H (fun _ H => ?_) (fun _ H => ?_)
  · refine r_aload_n K 0 dX12_fraction_78 rfl rfl ?_
    refine r_aload_n K 0 dX12_fraction_79 rfl rfl ?_
    refine r_iload_n K 1 dX12_fraction_80 rfl rfl ?_
    refine r_iload_n K 2 dX12_fraction_81 rfl rfl ?_
    refine r_i2l K dX12_fraction_82 ?_
    refine w_callV K hl H (fun r h => c_X12_laterOf l h) mC_yX12_laterOf mM_RX12_225 mI_yX12_laterOf mS_yX12_laterOf mZ_RX12 vc12 (Nat.le_of_ble_eq_true rfl) (Nat.le_of_ble_eq_true rfl) np_yX12_laterOf rfl (Nat.le_of_ble_eq_true rfl) dX12_fraction_83 (fun r1 H => ?_) ⟨Nat.zero_le _, Nat.zero_le _⟩
    refine r_aload_n K 0 dX12_fraction_86 rfl rfl ?_
    refine r_iload_n K 1 dX12_fraction_87 rfl rfl ?_
    refine r_iload_n K 2 dX12_fraction_88 rfl rfl ?_
    refine r_i2l K dX12_fraction_89 ?_
    refine w_callV K hl H (fun r h => c_X12_valueOf l h) mC_yX12_valueOf mM_RX12_221 mI_yX12_valueOf mS_yX12_valueOf mZ_RX12 vc12 (Nat.le_of_ble_eq_true rfl) (Nat.le_of_ble_eq_true rfl) np_yX12_valueOf rfl (Nat.le_of_ble_eq_true rfl) dX12_fraction_90 (fun r2 H => ?_) ⟨Nat.zero_le _, Nat.zero_le _⟩
    refine w_callV K hl H (fun r h => c_X12_sets l h) mC_yX12_sets mM_RX12_191 mI_yX12_sets mS_yX12_sets mZ_RX12 vc12 (Nat.le_of_ble_eq_true rfl) (Nat.le_of_ble_eq_true rfl) np_yX12_sets rfl (Nat.le_of_ble_eq_true rfl) dX12_fraction_93 (fun μ3 H => ?_) ⟨Nat.zero_le _, Nat.zero_le _⟩
    refine r_aload_n K 0 dX12_fraction_96 rfl rfl ?_
    refine r_iload_n K 3 dX12_fraction_97 rfl rfl ?_
    refine w_callV K hl H (fun r h => c_X12_told l h) mC_yX12_told mM_RX12_195 mI_yX12_told mS_yX12_told mZ_RX12 vc12 (Nat.le_of_ble_eq_true rfl) (Nat.le_of_ble_eq_true rfl) np_yX12_told rfl (Nat.le_of_ble_eq_true rfl) dX12_fraction_98 (fun r4 H => ?_) ⟨Nat.zero_le _, Nat.zero_le _⟩
    cases H
    simp only [Sum.elim_inr] at D
    obtain ⟨rfl, rfl⟩ := jfin2 D
    exact r_lret K dX12_fraction_101
  · refine r_aload_n K 0 dX12_fraction_56 rfl rfl ?_
    refine r_iload_n K 1 dX12_fraction_57 rfl rfl ?_
    refine r_iload K 4 dX12_fraction_58 rfl ?_
    refine r_iload_n K 2 dX12_fraction_60 rfl rfl ?_
    refine r_i2l K dX12_fraction_61 ?_
    refine w_callV K hl H (fun r h => c_X12_isNothing l h) mC_yX12_isNothing mM_RX12_228 mI_yX12_isNothing mS_yX12_isNothing mZ_RX12 vc12 (Nat.le_of_ble_eq_true rfl) (Nat.le_of_ble_eq_true rfl) np_yX12_isNothing rfl (Nat.le_of_ble_eq_true rfl) dX12_fraction_62 (fun r5 H => ?_) ⟨Nat.zero_le _, Nat.zero_le _⟩
    refine w_if_eq K 72 dX12_fraction_65 (by decide) H (fun _ H => ?_) (fun _ H => ?_)
    · refine r_iinc K 4 [(4, .int _), (0, .ref _), (1, .int _), (2, .int _), (3, .int _)] (v := _ + (1 : Int32)) dX12_fraction_72 rfl rfl (by decide) rfl ?_
      refine r_goto K 50 dX12_fraction_75 (by decide) ?_
      cases H
      exact r_sub [1, 2, 3, 4, 0] rfl D
    · refine r_ldc2 K (-2) mc_RX12_232 dX12_fraction_68 ?_
      cases H
      simp only [Sum.elim_inr] at D
      obtain ⟨rfl, rfl⟩ := jfin2 D
      exact r_lret K dX12_fraction_71
set_option maxRecDepth 10000 in
theorem l_X12_fraction_50 {X : jX} {l : Launch} {n : Nat} {Y : jY} (K : jOK X RX12 cX12_fraction 5 (some .long) 9) (hl : X.2.1 = l) {rr : Int64} {μr : jM} {v0 : Nat} {v1 : Int32} {v2 : Int32} {v3 : Int32}  {s0 : Int32 × jM} {z : (Int64 × jM)} (H : jit jF (fun (s : Int32 × jM) => b_X12_fraction_50 Y v0 v1 v2 v3 s.1 s.2) s0 = some z) (D : z = (rr, μr)) : JW X (jEnd X n Y (some (.long rr)) μr 0 0) 0 0 n Y 50 [(0, .ref v0), (1, .int v1), (2, .int v2), (3, .int v3), (4, .int s0.1)] [] s0.2 :=
  jit_ind (P := fun (s : Int32 × jM) => JW X (jEnd X n Y (some (.long rr)) μr 0 0) 0 0 n Y 50 [(0, .ref v0), (1, .int v1), (2, .int v2), (3, .int v3), (4, .int s.1)] [] s.2) (D := fun r => r = (rr, μr)) (fun s z Hs Ds => t_X12_fraction_50 K hl Hs Ds) jF s0 z H D
set_option maxRecDepth 10000 in
theorem t_X12_fraction_0 {X : jX} {l : Launch} {n : Nat} {Y : jY} (K : jOK X RX12 cX12_fraction 5 (some .long) 9) (hl : X.2.1 = l) {rr : Int64} {μr : jM} {v0 : Nat} {v1 : Int32} {v2 : Int32} {v3 : Int32} {μ : jM} {z : (Int64 × jM)} (H : f_X12_fraction Y v0 v1 v2 v3 μ = some z) (D : z = (rr, μr)) : JW X (jEnd X n Y (some (.long rr)) μr 0 0) 0 0 n Y 0 [(0, .ref v0), (1, .int v1), (2, .int v2), (3, .int v3)] [] μ := by
  unfold f_X12_fraction at H
  refine r_aload_n K 0 dX12_fraction_0 rfl rfl ?_
  refine w_getI K vc12 inX12 10 (by decide) mF_RX12_145 dX12_fraction_1 H (fun x1 H => ?_)
  refine w_if_eq K 39 dX12_fraction_4 (by decide) H (fun _ H => ?_) (fun _ H => ?_)
  · exact r_sub [] rfl (t_X12_fraction_39 K hl H D)
  · refine r_iload_n K 1 dX12_fraction_7 rfl rfl ?_
    refine r_iconst (v := 1) K dX12_fraction_8 (by decide) ?_
    refine r_aload_n K 0 dX12_fraction_9 rfl rfl ?_
    refine w_getI K vc12 inX12 10 (by decide) mF_RX12_145 dX12_fraction_10 H (fun x2 H => ?_)
    refine w_callS K hl H (fun r h => c_X12_in l h) mC_yX12_in mM_RX12_134 mT_yX12_in mZ_RX12 (Nat.le_of_ble_eq_true rfl) (Nat.le_of_ble_eq_true rfl) np_yX12_in rfl (Nat.le_of_ble_eq_true rfl) dX12_fraction_13 (fun r3 H => ?_) ⟨Nat.zero_le _, Nat.zero_le _⟩
    refine w_if_eq K 39 dX12_fraction_16 (by decide) H (fun _ H => ?_) (fun _ H => ?_)
    · exact r_sub [] rfl (t_X12_fraction_39 K hl H D)
    · refine r_iload_n K 2 dX12_fraction_19 rfl rfl ?_
      refine r_bipush (v := -20) K dX12_fraction_20 (by decide) ?_
      refine r_bipush (v := 20) K dX12_fraction_22 (by decide) ?_
      refine w_callS K hl H (fun r h => c_X12_in l h) mC_yX12_in mM_RX12_134 mT_yX12_in mZ_RX12 (Nat.le_of_ble_eq_true rfl) (Nat.le_of_ble_eq_true rfl) np_yX12_in rfl (Nat.le_of_ble_eq_true rfl) dX12_fraction_24 (fun r4 H => ?_) ⟨Nat.zero_le _, Nat.zero_le _⟩
      refine w_if_eq K 39 dX12_fraction_27 (by decide) H (fun _ H => ?_) (fun _ H => ?_)
      · exact r_sub [] rfl (t_X12_fraction_39 K hl H D)
      · refine r_iload_n K 3 dX12_fraction_30 rfl rfl ?_
        refine r_iconst (v := 0) K dX12_fraction_31 (by decide) ?_
        refine r_iconst (v := 1) K dX12_fraction_32 (by decide) ?_
        refine w_callS K hl H (fun r h => c_X12_in l h) mC_yX12_in mM_RX12_134 mT_yX12_in mZ_RX12 (Nat.le_of_ble_eq_true rfl) (Nat.le_of_ble_eq_true rfl) np_yX12_in rfl (Nat.le_of_ble_eq_true rfl) dX12_fraction_33 (fun r5 H => ?_) ⟨Nat.zero_le _, Nat.zero_le _⟩
        refine w_if_ne K 43 dX12_fraction_36 (by decide) H (fun _ H => ?_) (fun _ H => ?_)
        · refine r_aload_n K 0 dX12_fraction_43 rfl rfl ?_
          refine w_callV K hl H (fun r h => c_X12_laysTones l h) mC_yX12_laysTones mM_RX12_158 mI_yX12_laysTones mS_yX12_laysTones mZ_RX12 vc12 (Nat.le_of_ble_eq_true rfl) (Nat.le_of_ble_eq_true rfl) np_yX12_laysTones rfl (Nat.le_of_ble_eq_true rfl) dX12_fraction_44 (fun μ6 H => ?_) ⟨Nat.zero_le _, Nat.zero_le _⟩
          refine r_iconst (v := 0) K dX12_fraction_47 (by decide) ?_
          refine r_istore K [(4, .int _), (0, .ref _), (1, .int _), (2, .int _), (3, .int _)] dX12_fraction_48 (by decide) rfl ?_
          exact r_sub [1, 2, 3, 4, 0] rfl (l_X12_fraction_50 K hl H D)
        · exact r_sub [] rfl (t_X12_fraction_39 K hl H D)
theorem c_X12_fraction (l : Launch) {n : Nat} {Y : jY} {v0 : Nat} {v1 : Int32} {v2 : Int32} {v3 : Int32} {μ : jM} {z : Int64 × jM} (H : f_X12_fraction Y v0 v1 v2 v3 μ = some z) : jC l yX12_fraction cX12_fraction 5 (some .long) 9 0 0 [.ref v0, .int v1, .int v2, .int v3] n Y μ n Y (some (.long z.1)) z.2 := by
  refine jC_of (by decide +kernel) (Nat.le_of_ble_eq_true rfl) (fun X hl K _ _ _ => ?_)
  obtain ⟨rr, μr⟩ := z
  exact t_X12_fraction_0 K hl H rfl
/-! RX12 table(II)Z -/
def b_X12_table_16 (Y : jY) (μ : jM) : Option (Int32 × jM) :=
  (jbool ((0 : Int32))).bind fun x1 =>
  some (x1, μ)
def b_X12_table_27 (Y : jY) (v0 : Nat) (v1 : Int32) (v3 : Int32) (μ : jM) : Option ((Int32 × jM) ⊕ (Int32 × jM)) :=
  if ((5 : Int32)) ≤ v3 then
    (jbool ((1 : Int32))).bind fun x1 =>
    some (.inr (x1, μ))
  else
    (jgO Y μ v0 12 27).bind fun x2 =>
    (jas Y μ x2 20 ((((((5 : Int32)) * v1)) + v3)) (.int ((0 : Int32)))).bind fun μ3 =>
    (jgO Y μ3 v0 12 28).bind fun x4 =>
    (jas Y μ3 x4 20 ((((((5 : Int32)) * v1)) + v3)) (.int ((1 : Int32)))).bind fun μ5 =>
    some (.inl ((v3 + (1 : Int32)), μ5))
def f_X12_table (Y : jY) (v0 : Nat) (v1 : Int32) (v2 : Int32) (μ : jM) : Option (Int32 × jM) :=
  (f_X12_isDrawer Y v1 μ).bind fun r1 =>
  if r1.1 = 0 then
    b_X12_table_16 Y r1.2
  else
    (f_X12_in Y v2 ((1 : Int32)) ((5 : Int32)) r1.2).bind fun r2 =>
    if r2.1 = 0 then
      b_X12_table_16 Y r2.2
    else
      (jgO Y r2.2 v0 12 26).bind fun x3 =>
      (jas Y r2.2 x3 20 v1 (.int v2)).bind fun μ4 =>
      jit jF (fun (s : Int32 × jM) => b_X12_table_27 Y v0 v1 s.1 s.2) ((0 : Int32), μ4)
set_option maxRecDepth 10000 in
theorem t_X12_table_16 {X : jX} {l : Launch} {n : Nat} {Y : jY} (K : jOK X RX12 cX12_table 4 (some .boolean) 3) (hl : X.2.1 = l) {rr : Int32} {μr : jM} {μ : jM} {z : (Int32 × jM)} (H : b_X12_table_16 Y μ = some z) (D : z = (rr, μr)) : JW X (jEnd X n Y (some (.int rr)) μr 0 0) 0 0 n Y 16 [] [] μ := by
  unfold b_X12_table_16 at H
  refine r_iconst (v := 0) K dX12_table_16 (by decide) ?_
  refine w_zret K dX12_table_17 H (fun hz H => ?_)
  cases H
  obtain ⟨rfl, rfl⟩ := jfin2 D
  exact r_zret K hz dX12_table_17
set_option maxRecDepth 10000 in
theorem t_X12_table_27 {X : jX} {l : Launch} {n : Nat} {Y : jY} (K : jOK X RX12 cX12_table 4 (some .boolean) 3) (hl : X.2.1 = l) {rr : Int32} {μr : jM} {v0 : Nat} {v1 : Int32} {v3 : Int32} {μ : jM} {z : ((Int32 × jM) ⊕ (Int32 × jM))} (H : b_X12_table_27 Y v0 v1 v3 μ = some z) (D : Sum.elim (fun (s : Int32 × jM) => JW X (jEnd X n Y (some (.int rr)) μr 0 0) 0 0 n Y 27 [(0, .ref v0), (1, .int v1), (3, .int s.1)] [] s.2) (fun r => r = (rr, μr)) z) : JW X (jEnd X n Y (some (.int rr)) μr 0 0) 0 0 n Y 27 [(0, .ref v0), (1, .int v1), (3, .int v3)] [] μ := by
  unfold b_X12_table_27 at H
  refine r_iload_n K 2 dX12_table_27 rfl rfl ?_
  refine r_iconst (v := 5) K dX12_table_28 (by decide) ?_
  refine w_icmp_ge K 60 dX12_table_29 (by decide) H (fun _ H => ?_) (fun _ H => ?_)
  · refine r_iconst (v := 1) K dX12_table_60 (by decide) ?_
    refine w_zret K dX12_table_61 H (fun hz H => ?_)
    cases H
    simp only [Sum.elim_inr] at D
    obtain ⟨rfl, rfl⟩ := jfin2 D
    exact r_zret K hz dX12_table_61
  · refine r_aload_n K 0 dX12_table_32 rfl rfl ?_
    refine w_getO K vc12 inX12 27 (by decide) mF_RX12_51 dX12_table_33 H (fun x2 H => ?_)
    refine r_iconst (v := 5) K dX12_table_36 (by decide) ?_
    refine r_iload_n K 1 dX12_table_37 rfl rfl ?_
    refine r_imul K dX12_table_38 ?_
    refine r_iload_n K 2 dX12_table_39 rfl rfl ?_
    refine r_iadd K dX12_table_40 ?_
    refine r_iconst (v := 0) K dX12_table_41 (by decide) ?_
    refine w_iast K dX12_table_42 H (fun μ3 H => ?_)
    refine r_aload_n K 0 dX12_table_43 rfl rfl ?_
    refine w_getO K vc12 inX12 28 (by decide) mF_RX12_54 dX12_table_44 H (fun x4 H => ?_)
    refine r_iconst (v := 5) K dX12_table_47 (by decide) ?_
    refine r_iload_n K 1 dX12_table_48 rfl rfl ?_
    refine r_imul K dX12_table_49 ?_
    refine r_iload_n K 2 dX12_table_50 rfl rfl ?_
    refine r_iadd K dX12_table_51 ?_
    refine r_iconst (v := 1) K dX12_table_52 (by decide) ?_
    refine w_iast K dX12_table_53 H (fun μ5 H => ?_)
    refine r_iinc K 2 [(3, .int _), (0, .ref _), (1, .int _)] (v := _ + (1 : Int32)) dX12_table_54 rfl rfl (by decide) rfl ?_
    refine r_goto K 27 dX12_table_57 (by decide) ?_
    cases H
    exact r_sub [1, 2, 0] rfl D
set_option maxRecDepth 10000 in
theorem l_X12_table_27 {X : jX} {l : Launch} {n : Nat} {Y : jY} (K : jOK X RX12 cX12_table 4 (some .boolean) 3) (hl : X.2.1 = l) {rr : Int32} {μr : jM} {v0 : Nat} {v1 : Int32}  {s0 : Int32 × jM} {z : (Int32 × jM)} (H : jit jF (fun (s : Int32 × jM) => b_X12_table_27 Y v0 v1 s.1 s.2) s0 = some z) (D : z = (rr, μr)) : JW X (jEnd X n Y (some (.int rr)) μr 0 0) 0 0 n Y 27 [(0, .ref v0), (1, .int v1), (3, .int s0.1)] [] s0.2 :=
  jit_ind (P := fun (s : Int32 × jM) => JW X (jEnd X n Y (some (.int rr)) μr 0 0) 0 0 n Y 27 [(0, .ref v0), (1, .int v1), (3, .int s.1)] [] s.2) (D := fun r => r = (rr, μr)) (fun s z Hs Ds => t_X12_table_27 K hl Hs Ds) jF s0 z H D
set_option maxRecDepth 10000 in
theorem t_X12_table_0 {X : jX} {l : Launch} {n : Nat} {Y : jY} (K : jOK X RX12 cX12_table 4 (some .boolean) 3) (hl : X.2.1 = l) {rr : Int32} {μr : jM} {v0 : Nat} {v1 : Int32} {v2 : Int32} {μ : jM} {z : (Int32 × jM)} (H : f_X12_table Y v0 v1 v2 μ = some z) (D : z = (rr, μr)) : JW X (jEnd X n Y (some (.int rr)) μr 0 0) 0 0 n Y 0 [(0, .ref v0), (1, .int v1), (2, .int v2)] [] μ := by
  unfold f_X12_table at H
  refine r_iload_n K 1 dX12_table_0 rfl rfl ?_
  refine w_callS K hl H (fun r h => c_X12_isDrawer l h) mC_yX12_isDrawer mM_RX12_253 mT_yX12_isDrawer mZ_RX12 (Nat.le_of_ble_eq_true rfl) (Nat.le_of_ble_eq_true rfl) np_yX12_isDrawer rfl (Nat.le_of_ble_eq_true rfl) dX12_table_1 (fun r1 H => ?_) ⟨Nat.zero_le _, Nat.zero_le _⟩
  refine w_if_eq K 16 dX12_table_4 (by decide) H (fun _ H => ?_) (fun _ H => ?_)
  · exact r_sub [] rfl (t_X12_table_16 K hl H D)
  · refine r_iload_n K 2 dX12_table_7 rfl rfl ?_
    refine r_iconst (v := 1) K dX12_table_8 (by decide) ?_
    refine r_iconst (v := 5) K dX12_table_9 (by decide) ?_
    refine w_callS K hl H (fun r h => c_X12_in l h) mC_yX12_in mM_RX12_134 mT_yX12_in mZ_RX12 (Nat.le_of_ble_eq_true rfl) (Nat.le_of_ble_eq_true rfl) np_yX12_in rfl (Nat.le_of_ble_eq_true rfl) dX12_table_10 (fun r2 H => ?_) ⟨Nat.zero_le _, Nat.zero_le _⟩
    refine w_if_ne K 18 dX12_table_13 (by decide) H (fun _ H => ?_) (fun _ H => ?_)
    · refine r_aload_n K 0 dX12_table_18 rfl rfl ?_
      refine w_getO K vc12 inX12 26 (by decide) mF_RX12_48 dX12_table_19 H (fun x3 H => ?_)
      refine r_iload_n K 1 dX12_table_22 rfl rfl ?_
      refine r_iload_n K 2 dX12_table_23 rfl rfl ?_
      refine w_iast K dX12_table_24 H (fun μ4 H => ?_)
      refine r_iconst (v := 0) K dX12_table_25 (by decide) ?_
      refine r_istore_n K [(3, .int _), (0, .ref _), (1, .int _), (2, .int _)] dX12_table_26 rfl (by decide) rfl ?_
      exact r_sub [1, 2, 0] rfl (l_X12_table_27 K hl H D)
    · exact r_sub [] rfl (t_X12_table_16 K hl H D)
theorem c_X12_table (l : Launch) {n : Nat} {Y : jY} {v0 : Nat} {v1 : Int32} {v2 : Int32} {μ : jM} {z : Int32 × jM} (H : f_X12_table Y v0 v1 v2 μ = some z) : jC l yX12_table cX12_table 4 (some .boolean) 3 0 0 [.ref v0, .int v1, .int v2] n Y μ n Y (some (.int z.1)) z.2 := by
  refine jC_of (by decide +kernel) (Nat.le_of_ble_eq_true rfl) (fun X hl K _ _ _ => ?_)
  obtain ⟨rr, μr⟩ := z
  exact t_X12_table_0 K hl H rfl
/-! RX12 lay(II)I -/
def b_X12_lay_18 (Y : jY) (μ : jM) : Option (Int32 × jM) :=
  some ((-1 : Int32), μ)
def b_X12_lay_163 (Y : jY) (v0 : Nat) (μ : jM) : Option (Int32 × jM) :=
  (jgI Y μ v0 12 10).bind fun x1 =>
  some (x1, μ)
def b_X12_lay_127 (Y : jY) (v0 : Nat) (v2 : Int32) (μ : jM) : Option (Int32 × jM) :=
  (jgI Y μ v0 12 10).bind fun x1 =>
  if x1 ≤ ((2 : Int32)) then
    b_X12_lay_163 Y v0 μ
  else
    (jgO Y μ v0 12 27).bind fun x2 =>
    (jgI Y μ v0 12 44).bind fun x3 =>
    (jas Y μ x2 20 ((((((5 : Int32)) * v2)) + ((2 : Int32)))) (.int x3)).bind fun μ4 =>
    (jgO Y μ4 v0 12 28).bind fun x5 =>
    (jgI Y μ4 v0 12 46).bind fun x6 =>
    (jas Y μ4 x5 20 ((((((5 : Int32)) * v2)) + ((1 : Int32)))) (.int x6)).bind fun μ7 =>
    b_X12_lay_163 Y v0 μ7
def b_X12_lay_64 (Y : jY) (v0 : Nat) (v2 : Int32) (v3 : Int32) (μ : jM) : Option (Int32 × jM) :=
  if v3 = 0 then
    some ((-3 : Int32), μ)
  else
    (jgO Y μ v0 12 26).bind fun x1 =>
    (jgI Y μ v0 12 10).bind fun x2 =>
    (jas Y μ x1 20 v2 (.int x2)).bind fun μ3 =>
    (jgO Y μ3 v0 12 27).bind fun x4 =>
    (jrcv Y v0 12 (f_X12_first Y v0 μ3)).bind fun r5 =>
    (jas Y r5.2 x4 20 ((((5 : Int32)) * v2)) (.int r5.1)).bind fun μ6 =>
    (jgI Y μ6 v0 12 10).bind fun x7 =>
    if x7 ≤ ((1 : Int32)) then
      b_X12_lay_127 Y v0 v2 μ6
    else
      (jgO Y μ6 v0 12 27).bind fun x8 =>
      (jgI Y μ6 v0 12 43).bind fun x9 =>
      (jas Y μ6 x8 20 ((((((5 : Int32)) * v2)) + ((1 : Int32)))) (.int x9)).bind fun μ10 =>
      (jgO Y μ10 v0 12 28).bind fun x11 =>
      (jgI Y μ10 v0 12 45).bind fun x12 =>
      (jas Y μ10 x11 20 ((((5 : Int32)) * v2)) (.int x12)).bind fun μ13 =>
      b_X12_lay_127 Y v0 v2 μ13
def b_X12_lay_43 (Y : jY) (v0 : Nat) (v1 : Int32) (v2 : Int32) (v3 : Int32) (v4 : Int32) (μ : jM) : Option ((Int32 × Int32 × jM) ⊕ (Int32 × jM)) :=
  if v1 ≤ v4 then
    (b_X12_lay_64 Y v0 v2 v3 μ).map (fun r => (.inr r))
  else
    if v3 = 0 then
      (b_X12_lay_64 Y v0 v2 v3 μ).map (fun r => (.inr r))
    else
      (jrcv Y v0 12 (f_X12_goesOn Y v0 μ)).bind fun r1 =>
      some (.inl (r1.1, (v4 + (1 : Int32)), r1.2))
def f_X12_lay (Y : jY) (v0 : Nat) (v1 : Int32) (v2 : Int32) (μ : jM) : Option (Int32 × jM) :=
  (jgI Y μ v0 12 10).bind fun x1 =>
  if x1 = 0 then
    b_X12_lay_18 Y μ
  else
    (f_X12_isDrawer Y v2 μ).bind fun r2 =>
    if r2.1 = 0 then
      b_X12_lay_18 Y r2.2
    else
      if 0 ≤ v1 then
        (jgI Y r2.2 v0 12 10).bind fun x3 =>
        if x3 ≤ ((3 : Int32)) then
          (jrcv Y v0 12 (f_X12_begin0 Y v0 r2.2)).bind fun μ4 =>
          (jrcv Y v0 12 (f_X12_goesOn Y v0 μ4)).bind fun r5 =>
          jit jF (fun (s : Int32 × Int32 × jM) => b_X12_lay_43 Y v0 v1 v2 s.1 s.2.1 s.2.2) (r5.1, (0 : Int32), r5.2)
        else
          some ((-2 : Int32), r2.2)
      else
        b_X12_lay_18 Y r2.2
set_option maxRecDepth 10000 in
theorem t_X12_lay_18 {X : jX} {l : Launch} {n : Nat} {Y : jY} (K : jOK X RX12 cX12_lay 5 (some .int) 4) (hl : X.2.1 = l) {rr : Int32} {μr : jM} {μ : jM} {z : (Int32 × jM)} (H : b_X12_lay_18 Y μ = some z) (D : z = (rr, μr)) : JW X (jEnd X n Y (some (.int rr)) μr 0 0) 0 0 n Y 18 [] [] μ := by
  unfold b_X12_lay_18 at H
  refine r_iconst (v := -1) K dX12_lay_18 (by decide) ?_
  cases H
  obtain ⟨rfl, rfl⟩ := jfin2 D
  exact r_iret K dX12_lay_19
set_option maxRecDepth 10000 in
theorem t_X12_lay_163 {X : jX} {l : Launch} {n : Nat} {Y : jY} (K : jOK X RX12 cX12_lay 5 (some .int) 4) (hl : X.2.1 = l) {rr : Int32} {μr : jM} {v0 : Nat} {μ : jM} {z : (Int32 × jM)} (H : b_X12_lay_163 Y v0 μ = some z) (D : z = (rr, μr)) : JW X (jEnd X n Y (some (.int rr)) μr 0 0) 0 0 n Y 163 [(0, .ref v0)] [] μ := by
  unfold b_X12_lay_163 at H
  refine r_aload_n K 0 dX12_lay_163 rfl rfl ?_
  refine w_getI K vc12 inX12 10 (by decide) mF_RX12_145 dX12_lay_164 H (fun x1 H => ?_)
  cases H
  obtain ⟨rfl, rfl⟩ := jfin2 D
  exact r_iret K dX12_lay_167
set_option maxRecDepth 10000 in
theorem t_X12_lay_127 {X : jX} {l : Launch} {n : Nat} {Y : jY} (K : jOK X RX12 cX12_lay 5 (some .int) 4) (hl : X.2.1 = l) {rr : Int32} {μr : jM} {v0 : Nat} {v2 : Int32} {μ : jM} {z : (Int32 × jM)} (H : b_X12_lay_127 Y v0 v2 μ = some z) (D : z = (rr, μr)) : JW X (jEnd X n Y (some (.int rr)) μr 0 0) 0 0 n Y 127 [(0, .ref v0), (2, .int v2)] [] μ := by
  unfold b_X12_lay_127 at H
  refine r_aload_n K 0 dX12_lay_127 rfl rfl ?_
  refine w_getI K vc12 inX12 10 (by decide) mF_RX12_145 dX12_lay_128 H (fun x1 H => ?_)
  refine r_iconst (v := 2) K dX12_lay_131 (by decide) ?_
  refine w_icmp_le K 163 dX12_lay_132 (by decide) H (fun _ H => ?_) (fun _ H => ?_)
  · exact r_sub [0] rfl (t_X12_lay_163 K hl H D)
  · refine r_aload_n K 0 dX12_lay_135 rfl rfl ?_
    refine w_getO K vc12 inX12 27 (by decide) mF_RX12_51 dX12_lay_136 H (fun x2 H => ?_)
    refine r_iconst (v := 5) K dX12_lay_139 (by decide) ?_
    refine r_iload_n K 1 dX12_lay_140 rfl rfl ?_
    refine r_imul K dX12_lay_141 ?_
    refine r_iconst (v := 2) K dX12_lay_142 (by decide) ?_
    refine r_iadd K dX12_lay_143 ?_
    refine r_aload_n K 0 dX12_lay_144 rfl rfl ?_
    refine w_getI K vc12 inX12 44 (by decide) mF_RX12_338 dX12_lay_145 H (fun x3 H => ?_)
    refine w_iast K dX12_lay_148 H (fun μ4 H => ?_)
    refine r_aload_n K 0 dX12_lay_149 rfl rfl ?_
    refine w_getO K vc12 inX12 28 (by decide) mF_RX12_54 dX12_lay_150 H (fun x5 H => ?_)
    refine r_iconst (v := 5) K dX12_lay_153 (by decide) ?_
    refine r_iload_n K 1 dX12_lay_154 rfl rfl ?_
    refine r_imul K dX12_lay_155 ?_
    refine r_iconst (v := 1) K dX12_lay_156 (by decide) ?_
    refine r_iadd K dX12_lay_157 ?_
    refine r_aload_n K 0 dX12_lay_158 rfl rfl ?_
    refine w_getI K vc12 inX12 46 (by decide) mF_RX12_341 dX12_lay_159 H (fun x6 H => ?_)
    refine w_iast K dX12_lay_162 H (fun μ7 H => ?_)
    exact r_sub [0] rfl (t_X12_lay_163 K hl H D)
set_option maxRecDepth 10000 in
theorem t_X12_lay_64 {X : jX} {l : Launch} {n : Nat} {Y : jY} (K : jOK X RX12 cX12_lay 5 (some .int) 4) (hl : X.2.1 = l) {rr : Int32} {μr : jM} {v0 : Nat} {v2 : Int32} {v3 : Int32} {μ : jM} {z : (Int32 × jM)} (H : b_X12_lay_64 Y v0 v2 v3 μ = some z) (D : z = (rr, μr)) : JW X (jEnd X n Y (some (.int rr)) μr 0 0) 0 0 n Y 64 [(0, .ref v0), (2, .int v2), (3, .int v3)] [] μ := by
  unfold b_X12_lay_64 at H
  refine r_iload_n K 2 dX12_lay_64 rfl rfl ?_
  refine w_if_ne K 71 dX12_lay_65 (by decide) H (fun _ H => ?_) (fun _ H => ?_)
  · refine r_aload_n K 0 dX12_lay_71 rfl rfl ?_
    refine w_getO K vc12 inX12 26 (by decide) mF_RX12_48 dX12_lay_72 H (fun x1 H => ?_)
    refine r_iload_n K 1 dX12_lay_75 rfl rfl ?_
    refine r_aload_n K 0 dX12_lay_76 rfl rfl ?_
    refine w_getI K vc12 inX12 10 (by decide) mF_RX12_145 dX12_lay_77 H (fun x2 H => ?_)
    refine w_iast K dX12_lay_80 H (fun μ3 H => ?_)
    refine r_aload_n K 0 dX12_lay_81 rfl rfl ?_
    refine w_getO K vc12 inX12 27 (by decide) mF_RX12_51 dX12_lay_82 H (fun x4 H => ?_)
    refine r_iconst (v := 5) K dX12_lay_85 (by decide) ?_
    refine r_iload_n K 1 dX12_lay_86 rfl rfl ?_
    refine r_imul K dX12_lay_87 ?_
    refine r_aload_n K 0 dX12_lay_88 rfl rfl ?_
    refine w_callV K hl H (fun r h => c_X12_first l h) mC_yX12_first mM_RX12_344 mI_yX12_first mS_yX12_first mZ_RX12 vc12 (Nat.le_of_ble_eq_true rfl) (Nat.le_of_ble_eq_true rfl) np_yX12_first rfl (Nat.le_of_ble_eq_true rfl) dX12_lay_89 (fun r5 H => ?_) ⟨Nat.zero_le _, Nat.zero_le _⟩
    refine w_iast K dX12_lay_92 H (fun μ6 H => ?_)
    refine r_aload_n K 0 dX12_lay_93 rfl rfl ?_
    refine w_getI K vc12 inX12 10 (by decide) mF_RX12_145 dX12_lay_94 H (fun x7 H => ?_)
    refine r_iconst (v := 1) K dX12_lay_97 (by decide) ?_
    refine w_icmp_le K 127 dX12_lay_98 (by decide) H (fun _ H => ?_) (fun _ H => ?_)
    · exact r_sub [0, 1] rfl (t_X12_lay_127 K hl H D)
    · refine r_aload_n K 0 dX12_lay_101 rfl rfl ?_
      refine w_getO K vc12 inX12 27 (by decide) mF_RX12_51 dX12_lay_102 H (fun x8 H => ?_)
      refine r_iconst (v := 5) K dX12_lay_105 (by decide) ?_
      refine r_iload_n K 1 dX12_lay_106 rfl rfl ?_
      refine r_imul K dX12_lay_107 ?_
      refine r_iconst (v := 1) K dX12_lay_108 (by decide) ?_
      refine r_iadd K dX12_lay_109 ?_
      refine r_aload_n K 0 dX12_lay_110 rfl rfl ?_
      refine w_getI K vc12 inX12 43 (by decide) mF_RX12_326 dX12_lay_111 H (fun x9 H => ?_)
      refine w_iast K dX12_lay_114 H (fun μ10 H => ?_)
      refine r_aload_n K 0 dX12_lay_115 rfl rfl ?_
      refine w_getO K vc12 inX12 28 (by decide) mF_RX12_54 dX12_lay_116 H (fun x11 H => ?_)
      refine r_iconst (v := 5) K dX12_lay_119 (by decide) ?_
      refine r_iload_n K 1 dX12_lay_120 rfl rfl ?_
      refine r_imul K dX12_lay_121 ?_
      refine r_aload_n K 0 dX12_lay_122 rfl rfl ?_
      refine w_getI K vc12 inX12 45 (by decide) mF_RX12_329 dX12_lay_123 H (fun x12 H => ?_)
      refine w_iast K dX12_lay_126 H (fun μ13 H => ?_)
      exact r_sub [0, 1] rfl (t_X12_lay_127 K hl H D)
  · refine r_bipush (v := -3) K dX12_lay_68 (by decide) ?_
    cases H
    obtain ⟨rfl, rfl⟩ := jfin2 D
    exact r_iret K dX12_lay_70
set_option maxRecDepth 10000 in
theorem t_X12_lay_43 {X : jX} {l : Launch} {n : Nat} {Y : jY} (K : jOK X RX12 cX12_lay 5 (some .int) 4) (hl : X.2.1 = l) {rr : Int32} {μr : jM} {v0 : Nat} {v1 : Int32} {v2 : Int32} {v3 : Int32} {v4 : Int32} {μ : jM} {z : ((Int32 × Int32 × jM) ⊕ (Int32 × jM))} (H : b_X12_lay_43 Y v0 v1 v2 v3 v4 μ = some z) (D : Sum.elim (fun (s : Int32 × Int32 × jM) => JW X (jEnd X n Y (some (.int rr)) μr 0 0) 0 0 n Y 43 [(0, .ref v0), (1, .int v1), (2, .int v2), (3, .int s.1), (4, .int s.2.1)] [] s.2.2) (fun r => r = (rr, μr)) z) : JW X (jEnd X n Y (some (.int rr)) μr 0 0) 0 0 n Y 43 [(0, .ref v0), (1, .int v1), (2, .int v2), (3, .int v3), (4, .int v4)] [] μ := by
  unfold b_X12_lay_43 at H
  refine r_iload K 4 dX12_lay_43 rfl ?_
  refine r_iload_n K 1 dX12_lay_45 rfl rfl ?_
  refine w_icmp_ge K 64 dX12_lay_46 (by decide) H (fun _ H => ?_) (fun _ H => ?_)
  · obtain ⟨z2, H2, rfl⟩ := jmap H
    exact r_sub [0, 2, 3] rfl (t_X12_lay_64 K hl H2 D)
  · refine r_iload_n K 3 dX12_lay_49 rfl rfl ?_
    refine w_if_eq K 64 dX12_lay_50 (by decide) H (fun _ H => ?_) (fun _ H => ?_)
    · obtain ⟨z2, H2, rfl⟩ := jmap H
      exact r_sub [0, 2, 3] rfl (t_X12_lay_64 K hl H2 D)
    · refine r_aload_n K 0 dX12_lay_53 rfl rfl ?_
      refine w_callV K hl H (fun r h => c_X12_goesOn l h) mC_yX12_goesOn mM_RX12_350 mI_yX12_goesOn mS_yX12_goesOn mZ_RX12 vc12 (Nat.le_of_ble_eq_true rfl) (Nat.le_of_ble_eq_true rfl) np_yX12_goesOn rfl (Nat.le_of_ble_eq_true rfl) dX12_lay_54 (fun r1 H => ?_) ⟨Nat.zero_le _, Nat.zero_le _⟩
      refine r_istore_n K [(3, .int _), (0, .ref _), (1, .int _), (2, .int _), (4, .int _)] dX12_lay_57 rfl (by decide) rfl ?_
      refine r_iinc K 4 [(4, .int _), (3, .int _), (0, .ref _), (1, .int _), (2, .int _)] (v := _ + (1 : Int32)) dX12_lay_58 rfl rfl (by decide) rfl ?_
      refine r_goto K 43 dX12_lay_61 (by decide) ?_
      cases H
      exact r_sub [2, 3, 4, 1, 0] rfl D
set_option maxRecDepth 10000 in
theorem l_X12_lay_43 {X : jX} {l : Launch} {n : Nat} {Y : jY} (K : jOK X RX12 cX12_lay 5 (some .int) 4) (hl : X.2.1 = l) {rr : Int32} {μr : jM} {v0 : Nat} {v1 : Int32} {v2 : Int32}  {s0 : Int32 × Int32 × jM} {z : (Int32 × jM)} (H : jit jF (fun (s : Int32 × Int32 × jM) => b_X12_lay_43 Y v0 v1 v2 s.1 s.2.1 s.2.2) s0 = some z) (D : z = (rr, μr)) : JW X (jEnd X n Y (some (.int rr)) μr 0 0) 0 0 n Y 43 [(0, .ref v0), (1, .int v1), (2, .int v2), (3, .int s0.1), (4, .int s0.2.1)] [] s0.2.2 :=
  jit_ind (P := fun (s : Int32 × Int32 × jM) => JW X (jEnd X n Y (some (.int rr)) μr 0 0) 0 0 n Y 43 [(0, .ref v0), (1, .int v1), (2, .int v2), (3, .int s.1), (4, .int s.2.1)] [] s.2.2) (D := fun r => r = (rr, μr)) (fun s z Hs Ds => t_X12_lay_43 K hl Hs Ds) jF s0 z H D
set_option maxRecDepth 10000 in
theorem t_X12_lay_0 {X : jX} {l : Launch} {n : Nat} {Y : jY} (K : jOK X RX12 cX12_lay 5 (some .int) 4) (hl : X.2.1 = l) {rr : Int32} {μr : jM} {v0 : Nat} {v1 : Int32} {v2 : Int32} {μ : jM} {z : (Int32 × jM)} (H : f_X12_lay Y v0 v1 v2 μ = some z) (D : z = (rr, μr)) : JW X (jEnd X n Y (some (.int rr)) μr 0 0) 0 0 n Y 0 [(0, .ref v0), (1, .int v1), (2, .int v2)] [] μ := by
  unfold f_X12_lay at H
  refine r_aload_n K 0 dX12_lay_0 rfl rfl ?_
  refine w_getI K vc12 inX12 10 (by decide) mF_RX12_145 dX12_lay_1 H (fun x1 H => ?_)
  refine w_if_eq K 18 dX12_lay_4 (by decide) H (fun _ H => ?_) (fun _ H => ?_)
  · exact r_sub [] rfl (t_X12_lay_18 K hl H D)
  · refine r_iload_n K 2 dX12_lay_7 rfl rfl ?_
    refine w_callS K hl H (fun r h => c_X12_isDrawer l h) mC_yX12_isDrawer mM_RX12_253 mT_yX12_isDrawer mZ_RX12 (Nat.le_of_ble_eq_true rfl) (Nat.le_of_ble_eq_true rfl) np_yX12_isDrawer rfl (Nat.le_of_ble_eq_true rfl) dX12_lay_8 (fun r2 H => ?_) ⟨Nat.zero_le _, Nat.zero_le _⟩
    refine w_if_eq K 18 dX12_lay_11 (by decide) H (fun _ H => ?_) (fun _ H => ?_)
    · exact r_sub [] rfl (t_X12_lay_18 K hl H D)
    · refine r_iload_n K 1 dX12_lay_14 rfl rfl ?_
      refine w_if_ge K 20 dX12_lay_15 (by decide) H (fun _ H => ?_) (fun _ H => ?_)
      · refine r_aload_n K 0 dX12_lay_20 rfl rfl ?_
        refine w_getI K vc12 inX12 10 (by decide) mF_RX12_145 dX12_lay_21 H (fun x3 H => ?_)
        refine r_iconst (v := 3) K dX12_lay_24 (by decide) ?_
        refine w_icmp_le K 31 dX12_lay_25 (by decide) H (fun _ H => ?_) (fun _ H => ?_)
        · refine r_aload_n K 0 dX12_lay_31 rfl rfl ?_
          refine w_callV K hl H (fun r h => c_X12_begin0 l h) mC_yX12_begin0 mM_RX12_347 mI_yX12_begin0 mS_yX12_begin0 mZ_RX12 vc12 (Nat.le_of_ble_eq_true rfl) (Nat.le_of_ble_eq_true rfl) np_yX12_begin0 rfl (Nat.le_of_ble_eq_true rfl) dX12_lay_32 (fun μ4 H => ?_) ⟨Nat.zero_le _, Nat.zero_le _⟩
          refine r_aload_n K 0 dX12_lay_35 rfl rfl ?_
          refine w_callV K hl H (fun r h => c_X12_goesOn l h) mC_yX12_goesOn mM_RX12_350 mI_yX12_goesOn mS_yX12_goesOn mZ_RX12 vc12 (Nat.le_of_ble_eq_true rfl) (Nat.le_of_ble_eq_true rfl) np_yX12_goesOn rfl (Nat.le_of_ble_eq_true rfl) dX12_lay_36 (fun r5 H => ?_) ⟨Nat.zero_le _, Nat.zero_le _⟩
          refine r_istore_n K [(3, .int _), (0, .ref _), (1, .int _), (2, .int _)] dX12_lay_39 rfl (by decide) rfl ?_
          refine r_iconst (v := 0) K dX12_lay_40 (by decide) ?_
          refine r_istore K [(4, .int _), (3, .int _), (0, .ref _), (1, .int _), (2, .int _)] dX12_lay_41 (by decide) rfl ?_
          exact r_sub [2, 3, 4, 1, 0] rfl (l_X12_lay_43 K hl H D)
        · refine r_bipush (v := -2) K dX12_lay_28 (by decide) ?_
          cases H
          obtain ⟨rfl, rfl⟩ := jfin2 D
          exact r_iret K dX12_lay_30
      · exact r_sub [] rfl (t_X12_lay_18 K hl H D)
theorem c_X12_lay (l : Launch) {n : Nat} {Y : jY} {v0 : Nat} {v1 : Int32} {v2 : Int32} {μ : jM} {z : Int32 × jM} (H : f_X12_lay Y v0 v1 v2 μ = some z) : jC l yX12_lay cX12_lay 5 (some .int) 4 0 0 [.ref v0, .int v1, .int v2] n Y μ n Y (some (.int z.1)) z.2 := by
  refine jC_of (by decide +kernel) (Nat.le_of_ble_eq_true rfl) (fun X hl K _ _ _ => ?_)
  obtain ⟨rr, μr⟩ := z
  exact t_X12_lay_0 K hl H rfl
/-! RX12 nearest(II)I -/
def b_X12_nearest_17 (Y : jY) (μ : jM) : Option (Int32 × jM) :=
  some ((-1 : Int32), μ)
def b_X12_nearest_113 (Y : jY) (v0 : Nat) (v1 : Int32) (v2 : Int32) (v5 : Int32) (v6 : Int32) (t0 : Int32) (μ : jM) : Option ((Int32 × Int32 × Int32 × jM) ⊕ (Int32 × jM)) :=
  some (.inl (t0, v6, (v5 + (1 : Int32)), μ))
def b_X12_nearest_67 (Y : jY) (v0 : Nat) (v1 : Int32) (v2 : Int32) (v3 : Int32) (v4 : Int32) (v5 : Int32) (μ : jM) : Option ((Int32 × Int32 × Int32 × jM) ⊕ (Int32 × jM)) :=
  (jgO Y μ v0 12 26).bind fun x1 =>
  (jaI Y μ x1 20 v1).bind fun x2 =>
  if x2 ≤ v5 then
    some (.inr (v3, μ))
  else
    (jgO Y μ v0 12 26).bind fun x3 =>
    (jaI Y μ x3 20 v1).bind fun x4 =>
    (jrcv Y v0 12 (f_X12_rootOf Y v0 v1 ((0 : Int32)) x4 v5 v2 μ)).bind fun r5 =>
    if v3 ≤ ((r5.1 - v4)) then
      b_X12_nearest_113 Y v0 v1 v2 v5 r5.1 v3 r5.2
    else
      b_X12_nearest_113 Y v0 v1 v2 v5 r5.1 (r5.1 - v4) r5.2
def f_X12_nearest (Y : jY) (v0 : Nat) (v1 : Int32) (v2 : Int32) (μ : jM) : Option (Int32 × jM) :=
  (f_X12_isDrawer Y v1 μ).bind fun r1 =>
  if r1.1 = 0 then
    b_X12_nearest_17 Y r1.2
  else
    (f_X12_in Y v2 ((1 : Int32)) ((50 : Int32)) r1.2).bind fun r2 =>
    if r2.1 = 0 then
      b_X12_nearest_17 Y r2.2
    else
      (jgO Y r2.2 v0 12 26).bind fun x3 =>
      (jaI Y r2.2 x3 20 v1).bind fun x4 =>
      if x4 = 0 then
        some ((-2 : Int32), r2.2)
      else
        (jgO Y r2.2 v0 12 26).bind fun x5 =>
        (jaI Y r2.2 x5 20 v1).bind fun x6 =>
        if x6 = ((1 : Int32)) then
          some ((-3 : Int32), r2.2)
        else
          (jgO Y r2.2 v0 12 26).bind fun x7 =>
          (jaI Y r2.2 x7 20 v1).bind fun x8 =>
          (jrcv Y v0 12 (f_X12_rootOf Y v0 v1 ((0 : Int32)) x8 ((0 : Int32)) v2 r2.2)).bind fun r9 =>
          jit jF (fun (s : Int32 × Int32 × Int32 × jM) => b_X12_nearest_67 Y v0 v1 v2 s.1 s.2.1 s.2.2.1 s.2.2.2) ((100000 : Int32), r9.1, (1 : Int32), r9.2)
set_option maxRecDepth 10000 in
theorem t_X12_nearest_17 {X : jX} {l : Launch} {n : Nat} {Y : jY} (K : jOK X RX12 cX12_nearest 7 (some .int) 4) (hl : X.2.1 = l) {rr : Int32} {μr : jM} {μ : jM} {z : (Int32 × jM)} (H : b_X12_nearest_17 Y μ = some z) (D : z = (rr, μr)) : JW X (jEnd X n Y (some (.int rr)) μr 0 0) 0 0 n Y 17 [] [] μ := by
  unfold b_X12_nearest_17 at H
  refine r_iconst (v := -1) K dX12_nearest_17 (by decide) ?_
  cases H
  obtain ⟨rfl, rfl⟩ := jfin2 D
  exact r_iret K dX12_nearest_18
set_option maxRecDepth 10000 in
theorem t_X12_nearest_113 {X : jX} {l : Launch} {n : Nat} {Y : jY} (K : jOK X RX12 cX12_nearest 7 (some .int) 4) (hl : X.2.1 = l) {rr : Int32} {μr : jM} {v0 : Nat} {v1 : Int32} {v2 : Int32} {v5 : Int32} {v6 : Int32} {t0 : Int32} {μ : jM} {z : ((Int32 × Int32 × Int32 × jM) ⊕ (Int32 × jM))} (H : b_X12_nearest_113 Y v0 v1 v2 v5 v6 t0 μ = some z) (D : Sum.elim (fun (s : Int32 × Int32 × Int32 × jM) => JW X (jEnd X n Y (some (.int rr)) μr 0 0) 0 0 n Y 67 [(0, .ref v0), (1, .int v1), (2, .int v2), (3, .int s.1), (4, .int s.2.1), (5, .int s.2.2.1)] [] s.2.2.2) (fun r => r = (rr, μr)) z) : JW X (jEnd X n Y (some (.int rr)) μr 0 0) 0 0 n Y 113 [(0, .ref v0), (1, .int v1), (2, .int v2), (5, .int v5), (6, .int v6)] [.int t0] μ := by
  unfold b_X12_nearest_113 at H
  refine r_istore_n K [(3, .int _), (0, .ref _), (1, .int _), (2, .int _), (5, .int _), (6, .int _)] dX12_nearest_113 rfl (by decide) rfl ?_
  refine r_iload K 5 dX12_nearest_114 rfl ?_
  refine r_istore K [(4, .int _), (3, .int _), (0, .ref _), (1, .int _), (2, .int _), (5, .int _), (6, .int _)] dX12_nearest_116 (by decide) rfl ?_
  refine r_iinc K 5 [(5, .int _), (4, .int _), (3, .int _), (0, .ref _), (1, .int _), (2, .int _), (6, .int _)] (v := _ + (1 : Int32)) dX12_nearest_118 rfl rfl (by decide) rfl ?_
  refine r_goto K 67 dX12_nearest_121 (by decide) ?_
  cases H
  exact r_sub [3, 4, 5, 2, 1, 0] rfl D
set_option maxRecDepth 10000 in
theorem t_X12_nearest_67 {X : jX} {l : Launch} {n : Nat} {Y : jY} (K : jOK X RX12 cX12_nearest 7 (some .int) 4) (hl : X.2.1 = l) {rr : Int32} {μr : jM} {v0 : Nat} {v1 : Int32} {v2 : Int32} {v3 : Int32} {v4 : Int32} {v5 : Int32} {μ : jM} {z : ((Int32 × Int32 × Int32 × jM) ⊕ (Int32 × jM))} (H : b_X12_nearest_67 Y v0 v1 v2 v3 v4 v5 μ = some z) (D : Sum.elim (fun (s : Int32 × Int32 × Int32 × jM) => JW X (jEnd X n Y (some (.int rr)) μr 0 0) 0 0 n Y 67 [(0, .ref v0), (1, .int v1), (2, .int v2), (3, .int s.1), (4, .int s.2.1), (5, .int s.2.2.1)] [] s.2.2.2) (fun r => r = (rr, μr)) z) : JW X (jEnd X n Y (some (.int rr)) μr 0 0) 0 0 n Y 67 [(0, .ref v0), (1, .int v1), (2, .int v2), (3, .int v3), (4, .int v4), (5, .int v5)] [] μ := by
  unfold b_X12_nearest_67 at H
  refine r_iload K 5 dX12_nearest_67 rfl ?_
  refine r_aload_n K 0 dX12_nearest_69 rfl rfl ?_
  refine w_getO K vc12 inX12 26 (by decide) mF_RX12_48 dX12_nearest_70 H (fun x1 H => ?_)
  refine r_iload_n K 1 dX12_nearest_73 rfl rfl ?_
  refine w_iald K dX12_nearest_74 H (fun x2 H => ?_)
  refine w_icmp_ge K 124 dX12_nearest_75 (by decide) H (fun _ H => ?_) (fun _ H => ?_)
  · refine r_iload_n K 3 dX12_nearest_124 rfl rfl ?_
    cases H
    simp only [Sum.elim_inr] at D
    obtain ⟨rfl, rfl⟩ := jfin2 D
    exact r_iret K dX12_nearest_125
  · refine r_aload_n K 0 dX12_nearest_78 rfl rfl ?_
    refine r_iload_n K 1 dX12_nearest_79 rfl rfl ?_
    refine r_iconst (v := 0) K dX12_nearest_80 (by decide) ?_
    refine r_aload_n K 0 dX12_nearest_81 rfl rfl ?_
    refine w_getO K vc12 inX12 26 (by decide) mF_RX12_48 dX12_nearest_82 H (fun x3 H => ?_)
    refine r_iload_n K 1 dX12_nearest_85 rfl rfl ?_
    refine w_iald K dX12_nearest_86 H (fun x4 H => ?_)
    refine r_iload K 5 dX12_nearest_87 rfl ?_
    refine r_iload_n K 2 dX12_nearest_89 rfl rfl ?_
    refine w_callV K hl H (fun r h => c_X12_rootOf l h) mC_yX12_rootOf mM_RX12_289 mI_yX12_rootOf mS_yX12_rootOf mZ_RX12 vc12 (Nat.le_of_ble_eq_true rfl) (Nat.le_of_ble_eq_true rfl) np_yX12_rootOf rfl (Nat.le_of_ble_eq_true rfl) dX12_nearest_90 (fun r5 H => ?_) ⟨Nat.zero_le _, Nat.zero_le _⟩
    refine r_istore K [(6, .int _), (0, .ref _), (1, .int _), (2, .int _), (3, .int _), (4, .int _), (5, .int _)] dX12_nearest_93 (by decide) rfl ?_
    refine r_iload K 0 dX12_nearest_95 rfl ?_
    refine r_iload K 5 dX12_nearest_97 rfl ?_
    refine r_isub K dX12_nearest_99 ?_
    refine r_iload_n K 4 dX12_nearest_100 rfl rfl ?_
    refine w_icmp_ge K 112 dX12_nearest_101 (by decide) H (fun _ H => ?_) (fun _ H => ?_)
    · refine r_iload_n K 4 dX12_nearest_112 rfl rfl ?_
      exact r_sub [1, 2, 3, 6, 0] rfl (t_X12_nearest_113 K hl H D)
    · refine r_iload K 0 dX12_nearest_104 rfl ?_
      refine r_iload K 5 dX12_nearest_106 rfl ?_
      refine r_isub K dX12_nearest_108 ?_
      refine r_goto K 113 dX12_nearest_109 (by decide) ?_
      exact r_sub [1, 2, 3, 6, 0] rfl (t_X12_nearest_113 K hl H D)
set_option maxRecDepth 10000 in
theorem l_X12_nearest_67 {X : jX} {l : Launch} {n : Nat} {Y : jY} (K : jOK X RX12 cX12_nearest 7 (some .int) 4) (hl : X.2.1 = l) {rr : Int32} {μr : jM} {v0 : Nat} {v1 : Int32} {v2 : Int32}  {s0 : Int32 × Int32 × Int32 × jM} {z : (Int32 × jM)} (H : jit jF (fun (s : Int32 × Int32 × Int32 × jM) => b_X12_nearest_67 Y v0 v1 v2 s.1 s.2.1 s.2.2.1 s.2.2.2) s0 = some z) (D : z = (rr, μr)) : JW X (jEnd X n Y (some (.int rr)) μr 0 0) 0 0 n Y 67 [(0, .ref v0), (1, .int v1), (2, .int v2), (3, .int s0.1), (4, .int s0.2.1), (5, .int s0.2.2.1)] [] s0.2.2.2 :=
  jit_ind (P := fun (s : Int32 × Int32 × Int32 × jM) => JW X (jEnd X n Y (some (.int rr)) μr 0 0) 0 0 n Y 67 [(0, .ref v0), (1, .int v1), (2, .int v2), (3, .int s.1), (4, .int s.2.1), (5, .int s.2.2.1)] [] s.2.2.2) (D := fun r => r = (rr, μr)) (fun s z Hs Ds => t_X12_nearest_67 K hl Hs Ds) jF s0 z H D
set_option maxRecDepth 10000 in
theorem t_X12_nearest_0 {X : jX} {l : Launch} {n : Nat} {Y : jY} (K : jOK X RX12 cX12_nearest 7 (some .int) 4) (hl : X.2.1 = l) {rr : Int32} {μr : jM} {v0 : Nat} {v1 : Int32} {v2 : Int32} {μ : jM} {z : (Int32 × jM)} (H : f_X12_nearest Y v0 v1 v2 μ = some z) (D : z = (rr, μr)) : JW X (jEnd X n Y (some (.int rr)) μr 0 0) 0 0 n Y 0 [(0, .ref v0), (1, .int v1), (2, .int v2)] [] μ := by
  unfold f_X12_nearest at H
  refine r_iload_n K 1 dX12_nearest_0 rfl rfl ?_
  refine w_callS K hl H (fun r h => c_X12_isDrawer l h) mC_yX12_isDrawer mM_RX12_253 mT_yX12_isDrawer mZ_RX12 (Nat.le_of_ble_eq_true rfl) (Nat.le_of_ble_eq_true rfl) np_yX12_isDrawer rfl (Nat.le_of_ble_eq_true rfl) dX12_nearest_1 (fun r1 H => ?_) ⟨Nat.zero_le _, Nat.zero_le _⟩
  refine w_if_eq K 17 dX12_nearest_4 (by decide) H (fun _ H => ?_) (fun _ H => ?_)
  · exact r_sub [] rfl (t_X12_nearest_17 K hl H D)
  · refine r_iload_n K 2 dX12_nearest_7 rfl rfl ?_
    refine r_iconst (v := 1) K dX12_nearest_8 (by decide) ?_
    refine r_bipush (v := 50) K dX12_nearest_9 (by decide) ?_
    refine w_callS K hl H (fun r h => c_X12_in l h) mC_yX12_in mM_RX12_134 mT_yX12_in mZ_RX12 (Nat.le_of_ble_eq_true rfl) (Nat.le_of_ble_eq_true rfl) np_yX12_in rfl (Nat.le_of_ble_eq_true rfl) dX12_nearest_11 (fun r2 H => ?_) ⟨Nat.zero_le _, Nat.zero_le _⟩
    refine w_if_ne K 19 dX12_nearest_14 (by decide) H (fun _ H => ?_) (fun _ H => ?_)
    · refine r_aload_n K 0 dX12_nearest_19 rfl rfl ?_
      refine w_getO K vc12 inX12 26 (by decide) mF_RX12_48 dX12_nearest_20 H (fun x3 H => ?_)
      refine r_iload_n K 1 dX12_nearest_23 rfl rfl ?_
      refine w_iald K dX12_nearest_24 H (fun x4 H => ?_)
      refine w_if_ne K 31 dX12_nearest_25 (by decide) H (fun _ H => ?_) (fun _ H => ?_)
      · refine r_aload_n K 0 dX12_nearest_31 rfl rfl ?_
        refine w_getO K vc12 inX12 26 (by decide) mF_RX12_48 dX12_nearest_32 H (fun x5 H => ?_)
        refine r_iload_n K 1 dX12_nearest_35 rfl rfl ?_
        refine w_iald K dX12_nearest_36 H (fun x6 H => ?_)
        refine r_iconst (v := 1) K dX12_nearest_37 (by decide) ?_
        refine w_icmp_ne K 44 dX12_nearest_38 (by decide) H (fun _ H => ?_) (fun _ H => ?_)
        · refine r_ldc_w K (100000) mc_RX12_308 dX12_nearest_44 ?_
          refine r_istore_n K [(3, .int _), (0, .ref _), (1, .int _), (2, .int _)] dX12_nearest_47 rfl (by decide) rfl ?_
          refine r_aload_n K 1 dX12_nearest_48 rfl rfl ?_
          refine r_iload_n K 2 dX12_nearest_49 rfl rfl ?_
          refine r_iconst (v := 0) K dX12_nearest_50 (by decide) ?_
          refine r_aload_n K 1 dX12_nearest_51 rfl rfl ?_
          refine w_getO K vc12 inX12 26 (by decide) mF_RX12_48 dX12_nearest_52 H (fun x7 H => ?_)
          refine r_iload_n K 2 dX12_nearest_55 rfl rfl ?_
          refine w_iald K dX12_nearest_56 H (fun x8 H => ?_)
          refine r_iconst (v := 0) K dX12_nearest_57 (by decide) ?_
          refine r_iload_n K 3 dX12_nearest_58 rfl rfl ?_
          refine w_callV K hl H (fun r h => c_X12_rootOf l h) mC_yX12_rootOf mM_RX12_289 mI_yX12_rootOf mS_yX12_rootOf mZ_RX12 vc12 (Nat.le_of_ble_eq_true rfl) (Nat.le_of_ble_eq_true rfl) np_yX12_rootOf rfl (Nat.le_of_ble_eq_true rfl) dX12_nearest_59 (fun r9 H => ?_) ⟨Nat.zero_le _, Nat.zero_le _⟩
          refine r_istore K [(4, .int _), (3, .int _), (0, .ref _), (1, .int _), (2, .int _)] dX12_nearest_62 (by decide) rfl ?_
          refine r_iconst (v := 1) K dX12_nearest_64 (by decide) ?_
          refine r_istore K [(5, .int _), (4, .int _), (3, .int _), (0, .ref _), (1, .int _), (2, .int _)] dX12_nearest_65 (by decide) rfl ?_
          exact r_sub [3, 4, 5, 2, 1, 0] rfl (l_X12_nearest_67 K hl H D)
        · refine r_bipush (v := -3) K dX12_nearest_41 (by decide) ?_
          cases H
          obtain ⟨rfl, rfl⟩ := jfin2 D
          exact r_iret K dX12_nearest_43
      · refine r_bipush (v := -2) K dX12_nearest_28 (by decide) ?_
        cases H
        obtain ⟨rfl, rfl⟩ := jfin2 D
        exact r_iret K dX12_nearest_30
    · exact r_sub [] rfl (t_X12_nearest_17 K hl H D)
theorem c_X12_nearest (l : Launch) {n : Nat} {Y : jY} {v0 : Nat} {v1 : Int32} {v2 : Int32} {μ : jM} {z : Int32 × jM} (H : f_X12_nearest Y v0 v1 v2 μ = some z) : jC l yX12_nearest cX12_nearest 7 (some .int) 4 0 0 [.ref v0, .int v1, .int v2] n Y μ n Y (some (.int z.1)) z.2 := by
  refine jC_of (by decide +kernel) (Nat.le_of_ble_eq_true rfl) (fun X hl K _ _ _ => ?_)
  obtain ⟨rr, μr⟩ := z
  exact t_X12_nearest_0 K hl H rfl
/-! RX12 entry(ZII)J -/
def b_X12_entry_43 (Y : jY) (μ : jM) : Option (Int64 × jM) :=
  some ((-9223372036854775808 : Int64), μ)
def b_X12_entry_68 (Y : jY) (v0 : Nat) (v3 : Int32) (μ : jM) : Option (Int64 × jM) :=
  (jrcv Y v0 12 (f_X12_told Y v0 v3 μ)).bind fun r1 =>
  some (r1.1, r1.2)
def b_X12_entry_28 (Y : jY) (v0 : Nat) (v1 : Int32) (v2 : Int32) (v3 : Int32) (t0 : Int32) (t1 : Int32) (t2 : Int32) (μ : jM) : Option (Int64 × jM) :=
  (f_X12_in Y t0 t1 t2 μ).bind fun r1 =>
  if r1.1 = 0 then
    b_X12_entry_43 Y r1.2
  else
    (f_X12_in Y v3 ((0 : Int32)) ((1 : Int32)) r1.2).bind fun r2 =>
    if r2.1 = 0 then
      b_X12_entry_43 Y r2.2
    else
      (jrcv Y v0 12 (f_X12_laysTones Y v0 r2.2)).bind fun μ3 =>
      if v1 = 0 then
        (jrcv Y v0 12 (f_X12_laysC Y v0 v2 μ3)).bind fun μ4 =>
        b_X12_entry_68 Y v0 v3 μ4
      else
        (jrcv Y v0 12 (f_X12_laysA Y v0 v2 μ3)).bind fun μ5 =>
        b_X12_entry_68 Y v0 v3 μ5
def f_X12_entry (Y : jY) (v0 : Nat) (v1 : Int32) (v2 : Int32) (v3 : Int32) (μ : jM) : Option (Int64 × jM) :=
  (jgI Y μ v0 12 10).bind fun x1 =>
  if x1 = 0 then
    b_X12_entry_43 Y μ
  else
    if v1 = 0 then
      (jgI Y μ v0 12 10).bind fun x2 =>
      b_X12_entry_28 Y v0 v1 v2 v3 v2 (0 : Int32) (x2 - ((2 : Int32))) μ
    else
      (jgI Y μ v0 12 10).bind fun x3 =>
      b_X12_entry_28 Y v0 v1 v2 v3 v2 (0 : Int32) (x3 - ((1 : Int32))) μ
set_option maxRecDepth 10000 in
theorem t_X12_entry_43 {X : jX} {l : Launch} {n : Nat} {Y : jY} (K : jOK X RX12 cX12_entry 4 (some .long) 8) (hl : X.2.1 = l) {rr : Int64} {μr : jM} {μ : jM} {z : (Int64 × jM)} (H : b_X12_entry_43 Y μ = some z) (D : z = (rr, μr)) : JW X (jEnd X n Y (some (.long rr)) μr 0 0) 0 0 n Y 43 [] [] μ := by
  unfold b_X12_entry_43 at H
  refine r_ldc2 K (-9223372036854775808) mc_RX12_156 dX12_entry_43 ?_
  cases H
  obtain ⟨rfl, rfl⟩ := jfin2 D
  exact r_lret K dX12_entry_46
set_option maxRecDepth 10000 in
theorem t_X12_entry_68 {X : jX} {l : Launch} {n : Nat} {Y : jY} (K : jOK X RX12 cX12_entry 4 (some .long) 8) (hl : X.2.1 = l) {rr : Int64} {μr : jM} {v0 : Nat} {v3 : Int32} {μ : jM} {z : (Int64 × jM)} (H : b_X12_entry_68 Y v0 v3 μ = some z) (D : z = (rr, μr)) : JW X (jEnd X n Y (some (.long rr)) μr 0 0) 0 0 n Y 68 [(0, .ref v0), (3, .int v3)] [] μ := by
  unfold b_X12_entry_68 at H
  refine r_aload_n K 0 dX12_entry_68 rfl rfl ?_
  refine r_iload_n K 1 dX12_entry_69 rfl rfl ?_
  refine w_callV K hl H (fun r h => c_X12_told l h) mC_yX12_told mM_RX12_195 mI_yX12_told mS_yX12_told mZ_RX12 vc12 (Nat.le_of_ble_eq_true rfl) (Nat.le_of_ble_eq_true rfl) np_yX12_told rfl (Nat.le_of_ble_eq_true rfl) dX12_entry_70 (fun r1 H => ?_) ⟨Nat.zero_le _, Nat.zero_le _⟩
  cases H
  obtain ⟨rfl, rfl⟩ := jfin2 D
  exact r_lret K dX12_entry_73
set_option maxRecDepth 10000 in
theorem t_X12_entry_28 {X : jX} {l : Launch} {n : Nat} {Y : jY} (K : jOK X RX12 cX12_entry 4 (some .long) 8) (hl : X.2.1 = l) {rr : Int64} {μr : jM} {v0 : Nat} {v1 : Int32} {v2 : Int32} {v3 : Int32} {t0 : Int32} {t1 : Int32} {t2 : Int32} {μ : jM} {z : (Int64 × jM)} (H : b_X12_entry_28 Y v0 v1 v2 v3 t0 t1 t2 μ = some z) (D : z = (rr, μr)) : JW X (jEnd X n Y (some (.long rr)) μr 0 0) 0 0 n Y 28 [(0, .ref v0), (1, .int v1), (2, .int v2), (3, .int v3)] [.int t2, .int t1, .int t0] μ := by
  unfold b_X12_entry_28 at H
  refine w_callS K hl H (fun r h => c_X12_in l h) mC_yX12_in mM_RX12_134 mT_yX12_in mZ_RX12 (Nat.le_of_ble_eq_true rfl) (Nat.le_of_ble_eq_true rfl) np_yX12_in rfl (Nat.le_of_ble_eq_true rfl) dX12_entry_28 (fun r1 H => ?_) ⟨Nat.zero_le _, Nat.zero_le _⟩
  refine w_if_eq K 43 dX12_entry_31 (by decide) H (fun _ H => ?_) (fun _ H => ?_)
  · exact r_sub [] rfl (t_X12_entry_43 K hl H D)
  · refine r_iload_n K 3 dX12_entry_34 rfl rfl ?_
    refine r_iconst (v := 0) K dX12_entry_35 (by decide) ?_
    refine r_iconst (v := 1) K dX12_entry_36 (by decide) ?_
    refine w_callS K hl H (fun r h => c_X12_in l h) mC_yX12_in mM_RX12_134 mT_yX12_in mZ_RX12 (Nat.le_of_ble_eq_true rfl) (Nat.le_of_ble_eq_true rfl) np_yX12_in rfl (Nat.le_of_ble_eq_true rfl) dX12_entry_37 (fun r2 H => ?_) ⟨Nat.zero_le _, Nat.zero_le _⟩
    refine w_if_ne K 47 dX12_entry_40 (by decide) H (fun _ H => ?_) (fun _ H => ?_)
    · refine r_aload_n K 0 dX12_entry_47 rfl rfl ?_
      refine w_callV K hl H (fun r h => c_X12_laysTones l h) mC_yX12_laysTones mM_RX12_158 mI_yX12_laysTones mS_yX12_laysTones mZ_RX12 vc12 (Nat.le_of_ble_eq_true rfl) (Nat.le_of_ble_eq_true rfl) np_yX12_laysTones rfl (Nat.le_of_ble_eq_true rfl) dX12_entry_48 (fun μ3 H => ?_) ⟨Nat.zero_le _, Nat.zero_le _⟩
      refine r_iload_n K 1 dX12_entry_51 rfl rfl ?_
      refine w_if_eq K 63 dX12_entry_52 (by decide) H (fun _ H => ?_) (fun _ H => ?_)
      · refine r_aload_n K 0 dX12_entry_63 rfl rfl ?_
        refine r_iload_n K 2 dX12_entry_64 rfl rfl ?_
        refine w_callV K hl H (fun r h => c_X12_laysC l h) mC_yX12_laysC mM_RX12_214 mI_yX12_laysC mS_yX12_laysC mZ_RX12 vc12 (Nat.le_of_ble_eq_true rfl) (Nat.le_of_ble_eq_true rfl) np_yX12_laysC rfl (Nat.le_of_ble_eq_true rfl) dX12_entry_65 (fun μ4 H => ?_) ⟨Nat.zero_le _, Nat.zero_le _⟩
        exact r_sub [0, 3] rfl (t_X12_entry_68 K hl H D)
      · refine r_aload_n K 0 dX12_entry_55 rfl rfl ?_
        refine r_iload_n K 2 dX12_entry_56 rfl rfl ?_
        refine w_callV K hl H (fun r h => c_X12_laysA l h) mC_yX12_laysA mM_RX12_211 mI_yX12_laysA mS_yX12_laysA mZ_RX12 vc12 (Nat.le_of_ble_eq_true rfl) (Nat.le_of_ble_eq_true rfl) np_yX12_laysA rfl (Nat.le_of_ble_eq_true rfl) dX12_entry_57 (fun μ5 H => ?_) ⟨Nat.zero_le _, Nat.zero_le _⟩
        refine r_goto K 68 dX12_entry_60 (by decide) ?_
        exact r_sub [0, 3] rfl (t_X12_entry_68 K hl H D)
    · exact r_sub [] rfl (t_X12_entry_43 K hl H D)
set_option maxRecDepth 10000 in
theorem t_X12_entry_0 {X : jX} {l : Launch} {n : Nat} {Y : jY} (K : jOK X RX12 cX12_entry 4 (some .long) 8) (hl : X.2.1 = l) {rr : Int64} {μr : jM} {v0 : Nat} {v1 : Int32} {v2 : Int32} {v3 : Int32} {μ : jM} {z : (Int64 × jM)} (H : f_X12_entry Y v0 v1 v2 v3 μ = some z) (D : z = (rr, μr)) : JW X (jEnd X n Y (some (.long rr)) μr 0 0) 0 0 n Y 0 [(0, .ref v0), (1, .int v1), (2, .int v2), (3, .int v3)] [] μ := by
  unfold f_X12_entry at H
  refine r_aload_n K 0 dX12_entry_0 rfl rfl ?_
  refine w_getI K vc12 inX12 10 (by decide) mF_RX12_145 dX12_entry_1 H (fun x1 H => ?_)
  refine w_if_eq K 43 dX12_entry_4 (by decide) H (fun _ H => ?_) (fun _ H => ?_)
  · exact r_sub [] rfl (t_X12_entry_43 K hl H D)
  · refine r_iload_n K 2 dX12_entry_7 rfl rfl ?_
    refine r_iconst (v := 0) K dX12_entry_8 (by decide) ?_
    refine r_iload_n K 1 dX12_entry_9 rfl rfl ?_
    refine w_if_eq K 22 dX12_entry_10 (by decide) H (fun _ H => ?_) (fun _ H => ?_)
    · refine r_aload_n K 0 dX12_entry_22 rfl rfl ?_
      refine w_getI K vc12 inX12 10 (by decide) mF_RX12_145 dX12_entry_23 H (fun x2 H => ?_)
      refine r_iconst (v := 2) K dX12_entry_26 (by decide) ?_
      refine r_isub K dX12_entry_27 ?_
      exact r_sub [0, 1, 2, 3] rfl (t_X12_entry_28 K hl H D)
    · refine r_aload_n K 0 dX12_entry_13 rfl rfl ?_
      refine w_getI K vc12 inX12 10 (by decide) mF_RX12_145 dX12_entry_14 H (fun x3 H => ?_)
      refine r_iconst (v := 1) K dX12_entry_17 (by decide) ?_
      refine r_isub K dX12_entry_18 ?_
      refine r_goto K 28 dX12_entry_19 (by decide) ?_
      exact r_sub [0, 1, 2, 3] rfl (t_X12_entry_28 K hl H D)
theorem c_X12_entry (l : Launch) {n : Nat} {Y : jY} {v0 : Nat} {v1 : Int32} {v2 : Int32} {v3 : Int32} {μ : jM} {z : Int64 × jM} (H : f_X12_entry Y v0 v1 v2 v3 μ = some z) : jC l yX12_entry cX12_entry 4 (some .long) 8 0 0 [.ref v0, .int v1, .int v2, .int v3] n Y μ n Y (some (.long z.1)) z.2 := by
  refine jC_of (by decide +kernel) (Nat.le_of_ble_eq_true rfl) (fun X hl K _ _ _ => ?_)
  obtain ⟨rr, μr⟩ := z
  exact t_X12_entry_0 K hl H rfl
/-! RX12 change(II)I -/
def b_X12_change_16 (Y : jY) (μ : jM) : Option (Int32 × jM) :=
  some ((-1 : Int32), μ)
def b_X12_change_313 (Y : jY) (v3 : Int32) (μ : jM) : Option (Int32 × jM) :=
  some (v3, μ)
def b_X12_change_269 (Y : jY) (v0 : Nat) (v1 : Int32) (v2 : Int32) (v3 : Int32) (v5 : Int32) (μ : jM) : Option ((Int32 × jM) ⊕ (Int32 × jM)) :=
  if ((v3 - ((2 : Int32)))) ≤ ((((2 : Int32)) * v5)) then
    (b_X12_change_313 Y v3 μ).map (fun r => (.inr r))
  else
    if v2 = 0 then
      (jgO Y μ v0 12 28).bind fun x1 =>
      (jrcv Y v0 12 (f_X12_swaps Y v0 x1 ((((((5 : Int32)) * v1)) + v5)) ((((((((((5 : Int32)) * v1)) + v3)) - ((2 : Int32)))) - v5)) μ)).bind fun μ2 =>
      some (.inl ((v5 + (1 : Int32)), μ2))
    else
      (b_X12_change_313 Y v3 μ).map (fun r => (.inr r))
def b_X12_change_266 (Y : jY) (v0 : Nat) (v1 : Int32) (v2 : Int32) (v3 : Int32) (μ : jM) : Option (Int32 × jM) :=
  jit jF (fun (s : Int32 × jM) => b_X12_change_269 Y v0 v1 v2 v3 s.1 s.2) ((0 : Int32), μ)
def b_X12_change_222 (Y : jY) (v0 : Nat) (v1 : Int32) (v2 : Int32) (v3 : Int32) (v5 : Int32) (μ : jM) : Option ((Int32 × jM) ⊕ (Int32 × jM)) :=
  if ((v3 - ((1 : Int32)))) ≤ ((((2 : Int32)) * v5)) then
    (b_X12_change_266 Y v0 v1 v2 v3 μ).map (fun r => (.inr r))
  else
    if v2 = 0 then
      (jgO Y μ v0 12 27).bind fun x1 =>
      (jrcv Y v0 12 (f_X12_swaps Y v0 x1 ((((((5 : Int32)) * v1)) + v5)) ((((((((((5 : Int32)) * v1)) + v3)) - ((1 : Int32)))) - v5)) μ)).bind fun μ2 =>
      some (.inl ((v5 + (1 : Int32)), μ2))
    else
      (b_X12_change_266 Y v0 v1 v2 v3 μ).map (fun r => (.inr r))
def b_X12_change_186 (Y : jY) (v0 : Nat) (v1 : Int32) (v2 : Int32) (v3 : Int32) (v4 : Int32) (v5 : Int32) (μ : jM) : Option ((Int32 × jM) ⊕ (Int32 × jM)) :=
  if v3 ≤ v5 then
    (jit jF (fun (s : Int32 × jM) => b_X12_change_222 Y v0 v1 v2 v3 s.1 s.2) ((0 : Int32), μ)).map (fun r => (.inr r))
  else
    (jgO Y μ v0 12 27).bind fun x1 =>
    (jrcv Y v0 12 (f_X12_a Y v0 v1 v5 μ)).bind fun r2 =>
    (jas Y r2.2 x1 20 ((((((5 : Int32)) * v1)) + v5)) (.int ((r2.1 + v4)))).bind fun μ3 =>
    some (.inl ((v5 + (1 : Int32)), μ3))
def b_X12_change_151 (Y : jY) (v0 : Nat) (v1 : Int32) (v2 : Int32) (v3 : Int32) (v4 : Int32) (v5 : Int32) (μ : jM) : Option ((Int32 × jM) ⊕ (Int32 × jM)) :=
  if v3 ≤ v5 then
    (jit jF (fun (s : Int32 × jM) => b_X12_change_186 Y v0 v1 v2 v3 v4 s.1 s.2) ((0 : Int32), μ)).map (fun r => (.inr r))
  else
    (jrcv Y v0 12 (f_X12_a Y v0 v1 v5 μ)).bind fun r1 =>
    (f_X12_canBe Y ((1 : Int32)) ((r1.1 + v4)) r1.2).bind fun r2 =>
    if r2.1 = 0 then
      some (.inr ((-3 : Int32), r2.2))
    else
      some (.inl ((v5 + (1 : Int32)), r2.2))
def b_X12_change_146 (Y : jY) (v0 : Nat) (v1 : Int32) (v2 : Int32) (v3 : Int32) (t0 : Int32) (μ : jM) : Option (Int32 × jM) :=
  jit jF (fun (s : Int32 × jM) => b_X12_change_151 Y v0 v1 v2 v3 t0 s.1 s.2) ((0 : Int32), μ)
def b_X12_change_115 (Y : jY) (v0 : Nat) (v1 : Int32) (v3 : Int32) (μ : jM) : Option (Int32 × jM) :=
  (jgO Y μ v0 12 26).bind fun x1 =>
  (jas Y μ x1 20 v1 (.int ((v3 - ((1 : Int32)))))).bind fun μ2 =>
  some ((v3 - ((1 : Int32))), μ2)
def b_X12_change_109 (Y : jY) (v0 : Nat) (v1 : Int32) (v2 : Int32) (v3 : Int32) (v4 : Int32) (μ : jM) : Option ((Int32 × jM) ⊕ (Int32 × jM)) :=
  some (.inl ((v4 + (1 : Int32)), μ))
def b_X12_change_48 (Y : jY) (v0 : Nat) (v1 : Int32) (v2 : Int32) (v3 : Int32) (v4 : Int32) (μ : jM) : Option ((Int32 × jM) ⊕ (Int32 × jM)) :=
  if ((v3 - ((1 : Int32)))) ≤ v4 then
    (b_X12_change_115 Y v0 v1 v3 μ).map (fun r => (.inr r))
  else
    if v2 = ((4 : Int32)) then
      (jgO Y μ v0 12 27).bind fun x1 =>
      (jrcv Y v0 12 (f_X12_a Y v0 v1 ((v4 + ((1 : Int32)))) μ)).bind fun r2 =>
      (jas Y r2.2 x1 20 ((((((5 : Int32)) * v1)) + v4)) (.int r2.1)).bind fun μ3 =>
      if ((v3 - ((2 : Int32)))) ≤ v4 then
        b_X12_change_109 Y v0 v1 v2 v3 v4 μ3
      else
        (jgO Y μ3 v0 12 28).bind fun x4 =>
        (jrcv Y v0 12 (f_X12_c Y v0 v1 ((v4 + ((1 : Int32)))) μ3)).bind fun r5 =>
        (jas Y r5.2 x4 20 ((((((5 : Int32)) * v1)) + v4)) (.int r5.1)).bind fun μ6 =>
        b_X12_change_109 Y v0 v1 v2 v3 v4 μ6
    else
      (b_X12_change_115 Y v0 v1 v3 μ).map (fun r => (.inr r))
def f_X12_change (Y : jY) (v0 : Nat) (v1 : Int32) (v2 : Int32) (μ : jM) : Option (Int32 × jM) :=
  (f_X12_isDrawer Y v1 μ).bind fun r1 =>
  if r1.1 = 0 then
    b_X12_change_16 Y r1.2
  else
    (f_X12_in Y v2 ((0 : Int32)) ((4 : Int32)) r1.2).bind fun r2 =>
    if r2.1 = 0 then
      b_X12_change_16 Y r2.2
    else
      (jgO Y r2.2 v0 12 26).bind fun x3 =>
      (jaI Y r2.2 x3 20 v1).bind fun x4 =>
      if x4 = 0 then
        some ((-2 : Int32), r2.2)
      else
        if v2 ≤ ((2 : Int32)) then
          if v2 = 0 then
            b_X12_change_146 Y v0 v1 v2 x4 (0 : Int32) r2.2
          else
            if v2 = ((1 : Int32)) then
              b_X12_change_146 Y v0 v1 v2 x4 (1 : Int32) r2.2
            else
              b_X12_change_146 Y v0 v1 v2 x4 (-1 : Int32) r2.2
        else
          if x4 = ((1 : Int32)) then
            some ((-3 : Int32), r2.2)
          else
            jit jF (fun (s : Int32 × jM) => b_X12_change_48 Y v0 v1 v2 x4 s.1 s.2) ((0 : Int32), r2.2)
set_option maxRecDepth 10000 in
theorem t_X12_change_16 {X : jX} {l : Launch} {n : Nat} {Y : jY} (K : jOK X RX12 cX12_change 6 (some .int) 3) (hl : X.2.1 = l) {rr : Int32} {μr : jM} {μ : jM} {z : (Int32 × jM)} (H : b_X12_change_16 Y μ = some z) (D : z = (rr, μr)) : JW X (jEnd X n Y (some (.int rr)) μr 0 0) 0 0 n Y 16 [] [] μ := by
  unfold b_X12_change_16 at H
  refine r_iconst (v := -1) K dX12_change_16 (by decide) ?_
  cases H
  obtain ⟨rfl, rfl⟩ := jfin2 D
  exact r_iret K dX12_change_17
set_option maxRecDepth 10000 in
theorem t_X12_change_313 {X : jX} {l : Launch} {n : Nat} {Y : jY} (K : jOK X RX12 cX12_change 6 (some .int) 3) (hl : X.2.1 = l) {rr : Int32} {μr : jM} {v3 : Int32} {μ : jM} {z : (Int32 × jM)} (H : b_X12_change_313 Y v3 μ = some z) (D : z = (rr, μr)) : JW X (jEnd X n Y (some (.int rr)) μr 0 0) 0 0 n Y 313 [(3, .int v3)] [] μ := by
  unfold b_X12_change_313 at H
  refine r_iload_n K 0 dX12_change_313 rfl rfl ?_
  cases H
  obtain ⟨rfl, rfl⟩ := jfin2 D
  exact r_iret K dX12_change_314
set_option maxRecDepth 10000 in
theorem t_X12_change_269 {X : jX} {l : Launch} {n : Nat} {Y : jY} (K : jOK X RX12 cX12_change 6 (some .int) 3) (hl : X.2.1 = l) {rr : Int32} {μr : jM} {v0 : Nat} {v1 : Int32} {v2 : Int32} {v3 : Int32} {v5 : Int32} {μ : jM} {z : ((Int32 × jM) ⊕ (Int32 × jM))} (H : b_X12_change_269 Y v0 v1 v2 v3 v5 μ = some z) (D : Sum.elim (fun (s : Int32 × jM) => JW X (jEnd X n Y (some (.int rr)) μr 0 0) 0 0 n Y 269 [(0, .ref v0), (1, .int v1), (2, .int v2), (3, .int v3), (5, .int s.1)] [] s.2) (fun r => r = (rr, μr)) z) : JW X (jEnd X n Y (some (.int rr)) μr 0 0) 0 0 n Y 269 [(0, .ref v0), (1, .int v1), (2, .int v2), (3, .int v3), (5, .int v5)] [] μ := by
  unfold b_X12_change_269 at H
  refine r_iconst (v := 2) K dX12_change_269 (by decide) ?_
  refine r_iload K 4 dX12_change_270 rfl ?_
  refine r_imul K dX12_change_272 ?_
  refine r_iload_n K 3 dX12_change_273 rfl rfl ?_
  refine r_iconst (v := 2) K dX12_change_274 (by decide) ?_
  refine r_isub K dX12_change_275 ?_
  refine w_icmp_ge K 313 dX12_change_276 (by decide) H (fun _ H => ?_) (fun _ H => ?_)
  · obtain ⟨z2, H2, rfl⟩ := jmap H
    exact r_sub [3] rfl (t_X12_change_313 K hl H2 D)
  · refine r_iload_n K 2 dX12_change_279 rfl rfl ?_
    refine w_if_ne K 313 dX12_change_280 (by decide) H (fun _ H => ?_) (fun _ H => ?_)
    · obtain ⟨z2, H2, rfl⟩ := jmap H
      exact r_sub [3] rfl (t_X12_change_313 K hl H2 D)
    · refine r_aload_n K 0 dX12_change_283 rfl rfl ?_
      refine r_aload_n K 0 dX12_change_284 rfl rfl ?_
      refine w_getO K vc12 inX12 28 (by decide) mF_RX12_54 dX12_change_285 H (fun x1 H => ?_)
      refine r_iconst (v := 5) K dX12_change_288 (by decide) ?_
      refine r_iload_n K 1 dX12_change_289 rfl rfl ?_
      refine r_imul K dX12_change_290 ?_
      refine r_iload K 4 dX12_change_291 rfl ?_
      refine r_iadd K dX12_change_293 ?_
      refine r_iconst (v := 5) K dX12_change_294 (by decide) ?_
      refine r_iload_n K 1 dX12_change_295 rfl rfl ?_
      refine r_imul K dX12_change_296 ?_
      refine r_iload_n K 3 dX12_change_297 rfl rfl ?_
      refine r_iadd K dX12_change_298 ?_
      refine r_iconst (v := 2) K dX12_change_299 (by decide) ?_
      refine r_isub K dX12_change_300 ?_
      refine r_iload K 4 dX12_change_301 rfl ?_
      refine r_isub K dX12_change_303 ?_
      refine w_callV K hl H (fun r h => c_X12_swaps l h) mC_yX12_swaps mM_RX12_300 mI_yX12_swaps mS_yX12_swaps mZ_RX12 vc12 (Nat.le_of_ble_eq_true rfl) (Nat.le_of_ble_eq_true rfl) np_yX12_swaps rfl (Nat.le_of_ble_eq_true rfl) dX12_change_304 (fun μ2 H => ?_) ⟨Nat.zero_le _, Nat.zero_le _⟩
      refine r_iinc K 4 [(5, .int _), (0, .ref _), (1, .int _), (2, .int _), (3, .int _)] (v := _ + (1 : Int32)) dX12_change_307 rfl rfl (by decide) rfl ?_
      refine r_goto K 269 dX12_change_310 (by decide) ?_
      cases H
      exact r_sub [1, 2, 3, 4, 0] rfl D
set_option maxRecDepth 10000 in
theorem l_X12_change_269 {X : jX} {l : Launch} {n : Nat} {Y : jY} (K : jOK X RX12 cX12_change 6 (some .int) 3) (hl : X.2.1 = l) {rr : Int32} {μr : jM} {v0 : Nat} {v1 : Int32} {v2 : Int32} {v3 : Int32}  {s0 : Int32 × jM} {z : (Int32 × jM)} (H : jit jF (fun (s : Int32 × jM) => b_X12_change_269 Y v0 v1 v2 v3 s.1 s.2) s0 = some z) (D : z = (rr, μr)) : JW X (jEnd X n Y (some (.int rr)) μr 0 0) 0 0 n Y 269 [(0, .ref v0), (1, .int v1), (2, .int v2), (3, .int v3), (5, .int s0.1)] [] s0.2 :=
  jit_ind (P := fun (s : Int32 × jM) => JW X (jEnd X n Y (some (.int rr)) μr 0 0) 0 0 n Y 269 [(0, .ref v0), (1, .int v1), (2, .int v2), (3, .int v3), (5, .int s.1)] [] s.2) (D := fun r => r = (rr, μr)) (fun s z Hs Ds => t_X12_change_269 K hl Hs Ds) jF s0 z H D
set_option maxRecDepth 10000 in
theorem t_X12_change_266 {X : jX} {l : Launch} {n : Nat} {Y : jY} (K : jOK X RX12 cX12_change 6 (some .int) 3) (hl : X.2.1 = l) {rr : Int32} {μr : jM} {v0 : Nat} {v1 : Int32} {v2 : Int32} {v3 : Int32} {μ : jM} {z : (Int32 × jM)} (H : b_X12_change_266 Y v0 v1 v2 v3 μ = some z) (D : z = (rr, μr)) : JW X (jEnd X n Y (some (.int rr)) μr 0 0) 0 0 n Y 266 [(0, .ref v0), (1, .int v1), (2, .int v2), (3, .int v3)] [] μ := by
  unfold b_X12_change_266 at H
  refine r_iconst (v := 0) K dX12_change_266 (by decide) ?_
  refine r_istore K [(5, .int _), (0, .ref _), (1, .int _), (2, .int _), (3, .int _)] dX12_change_267 (by decide) rfl ?_
  exact r_sub [1, 2, 3, 4, 0] rfl (l_X12_change_269 K hl H D)
set_option maxRecDepth 10000 in
theorem t_X12_change_222 {X : jX} {l : Launch} {n : Nat} {Y : jY} (K : jOK X RX12 cX12_change 6 (some .int) 3) (hl : X.2.1 = l) {rr : Int32} {μr : jM} {v0 : Nat} {v1 : Int32} {v2 : Int32} {v3 : Int32} {v5 : Int32} {μ : jM} {z : ((Int32 × jM) ⊕ (Int32 × jM))} (H : b_X12_change_222 Y v0 v1 v2 v3 v5 μ = some z) (D : Sum.elim (fun (s : Int32 × jM) => JW X (jEnd X n Y (some (.int rr)) μr 0 0) 0 0 n Y 222 [(0, .ref v0), (1, .int v1), (2, .int v2), (3, .int v3), (5, .int s.1)] [] s.2) (fun r => r = (rr, μr)) z) : JW X (jEnd X n Y (some (.int rr)) μr 0 0) 0 0 n Y 222 [(0, .ref v0), (1, .int v1), (2, .int v2), (3, .int v3), (5, .int v5)] [] μ := by
  unfold b_X12_change_222 at H
  refine r_iconst (v := 2) K dX12_change_222 (by decide) ?_
  refine r_iload K 4 dX12_change_223 rfl ?_
  refine r_imul K dX12_change_225 ?_
  refine r_iload_n K 3 dX12_change_226 rfl rfl ?_
  refine r_iconst (v := 1) K dX12_change_227 (by decide) ?_
  refine r_isub K dX12_change_228 ?_
  refine w_icmp_ge K 266 dX12_change_229 (by decide) H (fun _ H => ?_) (fun _ H => ?_)
  · obtain ⟨z2, H2, rfl⟩ := jmap H
    exact r_sub [0, 1, 2, 3] rfl (t_X12_change_266 K hl H2 D)
  · refine r_iload_n K 2 dX12_change_232 rfl rfl ?_
    refine w_if_ne K 266 dX12_change_233 (by decide) H (fun _ H => ?_) (fun _ H => ?_)
    · obtain ⟨z2, H2, rfl⟩ := jmap H
      exact r_sub [0, 1, 2, 3] rfl (t_X12_change_266 K hl H2 D)
    · refine r_aload_n K 0 dX12_change_236 rfl rfl ?_
      refine r_aload_n K 0 dX12_change_237 rfl rfl ?_
      refine w_getO K vc12 inX12 27 (by decide) mF_RX12_51 dX12_change_238 H (fun x1 H => ?_)
      refine r_iconst (v := 5) K dX12_change_241 (by decide) ?_
      refine r_iload_n K 1 dX12_change_242 rfl rfl ?_
      refine r_imul K dX12_change_243 ?_
      refine r_iload K 4 dX12_change_244 rfl ?_
      refine r_iadd K dX12_change_246 ?_
      refine r_iconst (v := 5) K dX12_change_247 (by decide) ?_
      refine r_iload_n K 1 dX12_change_248 rfl rfl ?_
      refine r_imul K dX12_change_249 ?_
      refine r_iload_n K 3 dX12_change_250 rfl rfl ?_
      refine r_iadd K dX12_change_251 ?_
      refine r_iconst (v := 1) K dX12_change_252 (by decide) ?_
      refine r_isub K dX12_change_253 ?_
      refine r_iload K 4 dX12_change_254 rfl ?_
      refine r_isub K dX12_change_256 ?_
      refine w_callV K hl H (fun r h => c_X12_swaps l h) mC_yX12_swaps mM_RX12_300 mI_yX12_swaps mS_yX12_swaps mZ_RX12 vc12 (Nat.le_of_ble_eq_true rfl) (Nat.le_of_ble_eq_true rfl) np_yX12_swaps rfl (Nat.le_of_ble_eq_true rfl) dX12_change_257 (fun μ2 H => ?_) ⟨Nat.zero_le _, Nat.zero_le _⟩
      refine r_iinc K 4 [(5, .int _), (0, .ref _), (1, .int _), (2, .int _), (3, .int _)] (v := _ + (1 : Int32)) dX12_change_260 rfl rfl (by decide) rfl ?_
      refine r_goto K 222 dX12_change_263 (by decide) ?_
      cases H
      exact r_sub [1, 2, 3, 4, 0] rfl D
set_option maxRecDepth 10000 in
theorem l_X12_change_222 {X : jX} {l : Launch} {n : Nat} {Y : jY} (K : jOK X RX12 cX12_change 6 (some .int) 3) (hl : X.2.1 = l) {rr : Int32} {μr : jM} {v0 : Nat} {v1 : Int32} {v2 : Int32} {v3 : Int32}  {s0 : Int32 × jM} {z : (Int32 × jM)} (H : jit jF (fun (s : Int32 × jM) => b_X12_change_222 Y v0 v1 v2 v3 s.1 s.2) s0 = some z) (D : z = (rr, μr)) : JW X (jEnd X n Y (some (.int rr)) μr 0 0) 0 0 n Y 222 [(0, .ref v0), (1, .int v1), (2, .int v2), (3, .int v3), (5, .int s0.1)] [] s0.2 :=
  jit_ind (P := fun (s : Int32 × jM) => JW X (jEnd X n Y (some (.int rr)) μr 0 0) 0 0 n Y 222 [(0, .ref v0), (1, .int v1), (2, .int v2), (3, .int v3), (5, .int s.1)] [] s.2) (D := fun r => r = (rr, μr)) (fun s z Hs Ds => t_X12_change_222 K hl Hs Ds) jF s0 z H D
set_option maxRecDepth 10000 in
theorem t_X12_change_186 {X : jX} {l : Launch} {n : Nat} {Y : jY} (K : jOK X RX12 cX12_change 6 (some .int) 3) (hl : X.2.1 = l) {rr : Int32} {μr : jM} {v0 : Nat} {v1 : Int32} {v2 : Int32} {v3 : Int32} {v4 : Int32} {v5 : Int32} {μ : jM} {z : ((Int32 × jM) ⊕ (Int32 × jM))} (H : b_X12_change_186 Y v0 v1 v2 v3 v4 v5 μ = some z) (D : Sum.elim (fun (s : Int32 × jM) => JW X (jEnd X n Y (some (.int rr)) μr 0 0) 0 0 n Y 186 [(0, .ref v0), (1, .int v1), (2, .int v2), (3, .int v3), (4, .int v4), (5, .int s.1)] [] s.2) (fun r => r = (rr, μr)) z) : JW X (jEnd X n Y (some (.int rr)) μr 0 0) 0 0 n Y 186 [(0, .ref v0), (1, .int v1), (2, .int v2), (3, .int v3), (4, .int v4), (5, .int v5)] [] μ := by
  unfold b_X12_change_186 at H
  refine r_iload K 5 dX12_change_186 rfl ?_
  refine r_iload_n K 3 dX12_change_188 rfl rfl ?_
  refine w_icmp_ge K 219 dX12_change_189 (by decide) H (fun _ H => ?_) (fun _ H => ?_)
  · refine r_iconst (v := 0) K dX12_change_219 (by decide) ?_
    refine r_istore K [(5, .int _), (0, .ref _), (1, .int _), (2, .int _), (3, .int _), (4, .int _)] dX12_change_220 (by decide) rfl ?_
    obtain ⟨z2, H2, rfl⟩ := jmap H
    exact r_sub [1, 2, 3, 4, 0] rfl (l_X12_change_222 K hl H2 D)
  · refine r_aload_n K 0 dX12_change_192 rfl rfl ?_
    refine w_getO K vc12 inX12 27 (by decide) mF_RX12_51 dX12_change_193 H (fun x1 H => ?_)
    refine r_iconst (v := 5) K dX12_change_196 (by decide) ?_
    refine r_iload_n K 1 dX12_change_197 rfl rfl ?_
    refine r_imul K dX12_change_198 ?_
    refine r_iload K 5 dX12_change_199 rfl ?_
    refine r_iadd K dX12_change_201 ?_
    refine r_aload_n K 0 dX12_change_202 rfl rfl ?_
    refine r_iload_n K 1 dX12_change_203 rfl rfl ?_
    refine r_iload K 5 dX12_change_204 rfl ?_
    refine w_callV K hl H (fun r h => c_X12_a l h) mC_yX12_a mM_RX12_256 mI_yX12_a mS_yX12_a mZ_RX12 vc12 (Nat.le_of_ble_eq_true rfl) (Nat.le_of_ble_eq_true rfl) np_yX12_a rfl (Nat.le_of_ble_eq_true rfl) dX12_change_206 (fun r2 H => ?_) ⟨Nat.zero_le _, Nat.zero_le _⟩
    refine r_iload K 4 dX12_change_209 rfl ?_
    refine r_iadd K dX12_change_211 ?_
    refine w_iast K dX12_change_212 H (fun μ3 H => ?_)
    refine r_iinc K 5 [(5, .int _), (0, .ref _), (1, .int _), (2, .int _), (3, .int _), (4, .int _)] (v := _ + (1 : Int32)) dX12_change_213 rfl rfl (by decide) rfl ?_
    refine r_goto K 186 dX12_change_216 (by decide) ?_
    cases H
    exact r_sub [1, 2, 3, 4, 5, 0] rfl D
set_option maxRecDepth 10000 in
theorem l_X12_change_186 {X : jX} {l : Launch} {n : Nat} {Y : jY} (K : jOK X RX12 cX12_change 6 (some .int) 3) (hl : X.2.1 = l) {rr : Int32} {μr : jM} {v0 : Nat} {v1 : Int32} {v2 : Int32} {v3 : Int32} {v4 : Int32}  {s0 : Int32 × jM} {z : (Int32 × jM)} (H : jit jF (fun (s : Int32 × jM) => b_X12_change_186 Y v0 v1 v2 v3 v4 s.1 s.2) s0 = some z) (D : z = (rr, μr)) : JW X (jEnd X n Y (some (.int rr)) μr 0 0) 0 0 n Y 186 [(0, .ref v0), (1, .int v1), (2, .int v2), (3, .int v3), (4, .int v4), (5, .int s0.1)] [] s0.2 :=
  jit_ind (P := fun (s : Int32 × jM) => JW X (jEnd X n Y (some (.int rr)) μr 0 0) 0 0 n Y 186 [(0, .ref v0), (1, .int v1), (2, .int v2), (3, .int v3), (4, .int v4), (5, .int s.1)] [] s.2) (D := fun r => r = (rr, μr)) (fun s z Hs Ds => t_X12_change_186 K hl Hs Ds) jF s0 z H D
set_option maxRecDepth 10000 in
theorem t_X12_change_151 {X : jX} {l : Launch} {n : Nat} {Y : jY} (K : jOK X RX12 cX12_change 6 (some .int) 3) (hl : X.2.1 = l) {rr : Int32} {μr : jM} {v0 : Nat} {v1 : Int32} {v2 : Int32} {v3 : Int32} {v4 : Int32} {v5 : Int32} {μ : jM} {z : ((Int32 × jM) ⊕ (Int32 × jM))} (H : b_X12_change_151 Y v0 v1 v2 v3 v4 v5 μ = some z) (D : Sum.elim (fun (s : Int32 × jM) => JW X (jEnd X n Y (some (.int rr)) μr 0 0) 0 0 n Y 151 [(0, .ref v0), (1, .int v1), (2, .int v2), (3, .int v3), (4, .int v4), (5, .int s.1)] [] s.2) (fun r => r = (rr, μr)) z) : JW X (jEnd X n Y (some (.int rr)) μr 0 0) 0 0 n Y 151 [(0, .ref v0), (1, .int v1), (2, .int v2), (3, .int v3), (4, .int v4), (5, .int v5)] [] μ := by
  unfold b_X12_change_151 at H
  refine r_iload K 5 dX12_change_151 rfl ?_
  refine r_iload_n K 3 dX12_change_153 rfl rfl ?_
  refine w_icmp_ge K 183 dX12_change_154 (by decide) H (fun _ H => ?_) (fun _ H => ?_)
  · refine r_iconst (v := 0) K dX12_change_183 (by decide) ?_
    refine r_istore K [(5, .int _), (0, .ref _), (1, .int _), (2, .int _), (3, .int _), (4, .int _)] dX12_change_184 (by decide) rfl ?_
    obtain ⟨z2, H2, rfl⟩ := jmap H
    exact r_sub [1, 2, 3, 4, 5, 0] rfl (l_X12_change_186 K hl H2 D)
  · refine r_iconst (v := 1) K dX12_change_157 (by decide) ?_
    refine r_aload_n K 0 dX12_change_158 rfl rfl ?_
    refine r_iload_n K 1 dX12_change_159 rfl rfl ?_
    refine r_iload K 5 dX12_change_160 rfl ?_
    refine w_callV K hl H (fun r h => c_X12_a l h) mC_yX12_a mM_RX12_256 mI_yX12_a mS_yX12_a mZ_RX12 vc12 (Nat.le_of_ble_eq_true rfl) (Nat.le_of_ble_eq_true rfl) np_yX12_a rfl (Nat.le_of_ble_eq_true rfl) dX12_change_162 (fun r1 H => ?_) ⟨Nat.zero_le _, Nat.zero_le _⟩
    refine r_iload K 4 dX12_change_165 rfl ?_
    refine r_iadd K dX12_change_167 ?_
    refine w_callS K hl H (fun r h => c_X12_canBe l h) mC_yX12_canBe mM_RX12_267 mT_yX12_canBe mZ_RX12 (Nat.le_of_ble_eq_true rfl) (Nat.le_of_ble_eq_true rfl) np_yX12_canBe rfl (Nat.le_of_ble_eq_true rfl) dX12_change_168 (fun r2 H => ?_) ⟨Nat.zero_le _, Nat.zero_le _⟩
    refine w_if_ne K 177 dX12_change_171 (by decide) H (fun _ H => ?_) (fun _ H => ?_)
    · refine r_iinc K 5 [(5, .int _), (0, .ref _), (1, .int _), (2, .int _), (3, .int _), (4, .int _)] (v := _ + (1 : Int32)) dX12_change_177 rfl rfl (by decide) rfl ?_
      refine r_goto K 151 dX12_change_180 (by decide) ?_
      cases H
      exact r_sub [1, 2, 3, 4, 5, 0] rfl D
    · refine r_bipush (v := -3) K dX12_change_174 (by decide) ?_
      cases H
      simp only [Sum.elim_inr] at D
      obtain ⟨rfl, rfl⟩ := jfin2 D
      exact r_iret K dX12_change_176
set_option maxRecDepth 10000 in
theorem l_X12_change_151 {X : jX} {l : Launch} {n : Nat} {Y : jY} (K : jOK X RX12 cX12_change 6 (some .int) 3) (hl : X.2.1 = l) {rr : Int32} {μr : jM} {v0 : Nat} {v1 : Int32} {v2 : Int32} {v3 : Int32} {v4 : Int32}  {s0 : Int32 × jM} {z : (Int32 × jM)} (H : jit jF (fun (s : Int32 × jM) => b_X12_change_151 Y v0 v1 v2 v3 v4 s.1 s.2) s0 = some z) (D : z = (rr, μr)) : JW X (jEnd X n Y (some (.int rr)) μr 0 0) 0 0 n Y 151 [(0, .ref v0), (1, .int v1), (2, .int v2), (3, .int v3), (4, .int v4), (5, .int s0.1)] [] s0.2 :=
  jit_ind (P := fun (s : Int32 × jM) => JW X (jEnd X n Y (some (.int rr)) μr 0 0) 0 0 n Y 151 [(0, .ref v0), (1, .int v1), (2, .int v2), (3, .int v3), (4, .int v4), (5, .int s.1)] [] s.2) (D := fun r => r = (rr, μr)) (fun s z Hs Ds => t_X12_change_151 K hl Hs Ds) jF s0 z H D
set_option maxRecDepth 10000 in
theorem t_X12_change_146 {X : jX} {l : Launch} {n : Nat} {Y : jY} (K : jOK X RX12 cX12_change 6 (some .int) 3) (hl : X.2.1 = l) {rr : Int32} {μr : jM} {v0 : Nat} {v1 : Int32} {v2 : Int32} {v3 : Int32} {t0 : Int32} {μ : jM} {z : (Int32 × jM)} (H : b_X12_change_146 Y v0 v1 v2 v3 t0 μ = some z) (D : z = (rr, μr)) : JW X (jEnd X n Y (some (.int rr)) μr 0 0) 0 0 n Y 146 [(0, .ref v0), (1, .int v1), (2, .int v2), (3, .int v3)] [.int t0] μ := by
  unfold b_X12_change_146 at H
  refine r_istore K [(4, .int _), (0, .ref _), (1, .int _), (2, .int _), (3, .int _)] dX12_change_146 (by decide) rfl ?_
  refine r_iconst (v := 0) K dX12_change_148 (by decide) ?_
  refine r_istore K [(5, .int _), (4, .int _), (0, .ref _), (1, .int _), (2, .int _), (3, .int _)] dX12_change_149 (by decide) rfl ?_
  exact r_sub [2, 3, 4, 5, 1, 0] rfl (l_X12_change_151 K hl H D)
set_option maxRecDepth 10000 in
theorem t_X12_change_115 {X : jX} {l : Launch} {n : Nat} {Y : jY} (K : jOK X RX12 cX12_change 6 (some .int) 3) (hl : X.2.1 = l) {rr : Int32} {μr : jM} {v0 : Nat} {v1 : Int32} {v3 : Int32} {μ : jM} {z : (Int32 × jM)} (H : b_X12_change_115 Y v0 v1 v3 μ = some z) (D : z = (rr, μr)) : JW X (jEnd X n Y (some (.int rr)) μr 0 0) 0 0 n Y 115 [(0, .ref v0), (1, .int v1), (3, .int v3)] [] μ := by
  unfold b_X12_change_115 at H
  refine r_aload_n K 0 dX12_change_115 rfl rfl ?_
  refine w_getO K vc12 inX12 26 (by decide) mF_RX12_48 dX12_change_116 H (fun x1 H => ?_)
  refine r_iload_n K 1 dX12_change_119 rfl rfl ?_
  refine r_iload_n K 2 dX12_change_120 rfl rfl ?_
  refine r_iconst (v := 1) K dX12_change_121 (by decide) ?_
  refine r_isub K dX12_change_122 ?_
  refine w_iast K dX12_change_123 H (fun μ2 H => ?_)
  refine r_iload_n K 2 dX12_change_124 rfl rfl ?_
  refine r_iconst (v := 1) K dX12_change_125 (by decide) ?_
  refine r_isub K dX12_change_126 ?_
  cases H
  obtain ⟨rfl, rfl⟩ := jfin2 D
  exact r_iret K dX12_change_127
set_option maxRecDepth 10000 in
theorem t_X12_change_109 {X : jX} {l : Launch} {n : Nat} {Y : jY} (K : jOK X RX12 cX12_change 6 (some .int) 3) (hl : X.2.1 = l) {rr : Int32} {μr : jM} {v0 : Nat} {v1 : Int32} {v2 : Int32} {v3 : Int32} {v4 : Int32} {μ : jM} {z : ((Int32 × jM) ⊕ (Int32 × jM))} (H : b_X12_change_109 Y v0 v1 v2 v3 v4 μ = some z) (D : Sum.elim (fun (s : Int32 × jM) => JW X (jEnd X n Y (some (.int rr)) μr 0 0) 0 0 n Y 48 [(0, .ref v0), (1, .int v1), (2, .int v2), (3, .int v3), (4, .int s.1)] [] s.2) (fun r => r = (rr, μr)) z) : JW X (jEnd X n Y (some (.int rr)) μr 0 0) 0 0 n Y 109 [(0, .ref v0), (1, .int v1), (2, .int v2), (3, .int v3), (4, .int v4)] [] μ := by
  unfold b_X12_change_109 at H
  refine r_iinc K 4 [(4, .int _), (0, .ref _), (1, .int _), (2, .int _), (3, .int _)] (v := _ + (1 : Int32)) dX12_change_109 rfl rfl (by decide) rfl ?_
  refine r_goto K 48 dX12_change_112 (by decide) ?_
  cases H
  exact r_sub [1, 2, 3, 4, 0] rfl D
set_option maxRecDepth 10000 in
theorem t_X12_change_48 {X : jX} {l : Launch} {n : Nat} {Y : jY} (K : jOK X RX12 cX12_change 6 (some .int) 3) (hl : X.2.1 = l) {rr : Int32} {μr : jM} {v0 : Nat} {v1 : Int32} {v2 : Int32} {v3 : Int32} {v4 : Int32} {μ : jM} {z : ((Int32 × jM) ⊕ (Int32 × jM))} (H : b_X12_change_48 Y v0 v1 v2 v3 v4 μ = some z) (D : Sum.elim (fun (s : Int32 × jM) => JW X (jEnd X n Y (some (.int rr)) μr 0 0) 0 0 n Y 48 [(0, .ref v0), (1, .int v1), (2, .int v2), (3, .int v3), (4, .int s.1)] [] s.2) (fun r => r = (rr, μr)) z) : JW X (jEnd X n Y (some (.int rr)) μr 0 0) 0 0 n Y 48 [(0, .ref v0), (1, .int v1), (2, .int v2), (3, .int v3), (4, .int v4)] [] μ := by
  unfold b_X12_change_48 at H
  refine r_iload K 4 dX12_change_48 rfl ?_
  refine r_iload_n K 3 dX12_change_50 rfl rfl ?_
  refine r_iconst (v := 1) K dX12_change_51 (by decide) ?_
  refine r_isub K dX12_change_52 ?_
  refine w_icmp_ge K 115 dX12_change_53 (by decide) H (fun _ H => ?_) (fun _ H => ?_)
  · obtain ⟨z2, H2, rfl⟩ := jmap H
    exact r_sub [0, 1, 3] rfl (t_X12_change_115 K hl H2 D)
  · refine r_iload_n K 2 dX12_change_56 rfl rfl ?_
    refine r_iconst (v := 4) K dX12_change_57 (by decide) ?_
    refine w_icmp_ne K 115 dX12_change_58 (by decide) H (fun _ H => ?_) (fun _ H => ?_)
    · obtain ⟨z2, H2, rfl⟩ := jmap H
      exact r_sub [0, 1, 3] rfl (t_X12_change_115 K hl H2 D)
    · refine r_aload_n K 0 dX12_change_61 rfl rfl ?_
      refine w_getO K vc12 inX12 27 (by decide) mF_RX12_51 dX12_change_62 H (fun x1 H => ?_)
      refine r_iconst (v := 5) K dX12_change_65 (by decide) ?_
      refine r_iload_n K 1 dX12_change_66 rfl rfl ?_
      refine r_imul K dX12_change_67 ?_
      refine r_iload K 4 dX12_change_68 rfl ?_
      refine r_iadd K dX12_change_70 ?_
      refine r_aload_n K 0 dX12_change_71 rfl rfl ?_
      refine r_iload_n K 1 dX12_change_72 rfl rfl ?_
      refine r_iload K 4 dX12_change_73 rfl ?_
      refine r_iconst (v := 1) K dX12_change_75 (by decide) ?_
      refine r_iadd K dX12_change_76 ?_
      refine w_callV K hl H (fun r h => c_X12_a l h) mC_yX12_a mM_RX12_256 mI_yX12_a mS_yX12_a mZ_RX12 vc12 (Nat.le_of_ble_eq_true rfl) (Nat.le_of_ble_eq_true rfl) np_yX12_a rfl (Nat.le_of_ble_eq_true rfl) dX12_change_77 (fun r2 H => ?_) ⟨Nat.zero_le _, Nat.zero_le _⟩
      refine w_iast K dX12_change_80 H (fun μ3 H => ?_)
      refine r_iload K 4 dX12_change_81 rfl ?_
      refine r_iload_n K 3 dX12_change_83 rfl rfl ?_
      refine r_iconst (v := 2) K dX12_change_84 (by decide) ?_
      refine r_isub K dX12_change_85 ?_
      refine w_icmp_ge K 109 dX12_change_86 (by decide) H (fun _ H => ?_) (fun _ H => ?_)
      · exact r_sub [0, 1, 2, 3, 4] rfl (t_X12_change_109 K hl H D)
      · refine r_aload_n K 0 dX12_change_89 rfl rfl ?_
        refine w_getO K vc12 inX12 28 (by decide) mF_RX12_54 dX12_change_90 H (fun x4 H => ?_)
        refine r_iconst (v := 5) K dX12_change_93 (by decide) ?_
        refine r_iload_n K 1 dX12_change_94 rfl rfl ?_
        refine r_imul K dX12_change_95 ?_
        refine r_iload K 4 dX12_change_96 rfl ?_
        refine r_iadd K dX12_change_98 ?_
        refine r_aload_n K 0 dX12_change_99 rfl rfl ?_
        refine r_iload_n K 1 dX12_change_100 rfl rfl ?_
        refine r_iload K 4 dX12_change_101 rfl ?_
        refine r_iconst (v := 1) K dX12_change_103 (by decide) ?_
        refine r_iadd K dX12_change_104 ?_
        refine w_callV K hl H (fun r h => c_X12_c l h) mC_yX12_c mM_RX12_260 mI_yX12_c mS_yX12_c mZ_RX12 vc12 (Nat.le_of_ble_eq_true rfl) (Nat.le_of_ble_eq_true rfl) np_yX12_c rfl (Nat.le_of_ble_eq_true rfl) dX12_change_105 (fun r5 H => ?_) ⟨Nat.zero_le _, Nat.zero_le _⟩
        refine w_iast K dX12_change_108 H (fun μ6 H => ?_)
        exact r_sub [0, 1, 2, 3, 4] rfl (t_X12_change_109 K hl H D)
set_option maxRecDepth 10000 in
theorem l_X12_change_48 {X : jX} {l : Launch} {n : Nat} {Y : jY} (K : jOK X RX12 cX12_change 6 (some .int) 3) (hl : X.2.1 = l) {rr : Int32} {μr : jM} {v0 : Nat} {v1 : Int32} {v2 : Int32} {v3 : Int32}  {s0 : Int32 × jM} {z : (Int32 × jM)} (H : jit jF (fun (s : Int32 × jM) => b_X12_change_48 Y v0 v1 v2 v3 s.1 s.2) s0 = some z) (D : z = (rr, μr)) : JW X (jEnd X n Y (some (.int rr)) μr 0 0) 0 0 n Y 48 [(0, .ref v0), (1, .int v1), (2, .int v2), (3, .int v3), (4, .int s0.1)] [] s0.2 :=
  jit_ind (P := fun (s : Int32 × jM) => JW X (jEnd X n Y (some (.int rr)) μr 0 0) 0 0 n Y 48 [(0, .ref v0), (1, .int v1), (2, .int v2), (3, .int v3), (4, .int s.1)] [] s.2) (D := fun r => r = (rr, μr)) (fun s z Hs Ds => t_X12_change_48 K hl Hs Ds) jF s0 z H D
set_option maxRecDepth 10000 in
theorem t_X12_change_0 {X : jX} {l : Launch} {n : Nat} {Y : jY} (K : jOK X RX12 cX12_change 6 (some .int) 3) (hl : X.2.1 = l) {rr : Int32} {μr : jM} {v0 : Nat} {v1 : Int32} {v2 : Int32} {μ : jM} {z : (Int32 × jM)} (H : f_X12_change Y v0 v1 v2 μ = some z) (D : z = (rr, μr)) : JW X (jEnd X n Y (some (.int rr)) μr 0 0) 0 0 n Y 0 [(0, .ref v0), (1, .int v1), (2, .int v2)] [] μ := by
  unfold f_X12_change at H
  refine r_iload_n K 1 dX12_change_0 rfl rfl ?_
  refine w_callS K hl H (fun r h => c_X12_isDrawer l h) mC_yX12_isDrawer mM_RX12_253 mT_yX12_isDrawer mZ_RX12 (Nat.le_of_ble_eq_true rfl) (Nat.le_of_ble_eq_true rfl) np_yX12_isDrawer rfl (Nat.le_of_ble_eq_true rfl) dX12_change_1 (fun r1 H => ?_) ⟨Nat.zero_le _, Nat.zero_le _⟩
  refine w_if_eq K 16 dX12_change_4 (by decide) H (fun _ H => ?_) (fun _ H => ?_)
  · exact r_sub [] rfl (t_X12_change_16 K hl H D)
  · refine r_iload_n K 2 dX12_change_7 rfl rfl ?_
    refine r_iconst (v := 0) K dX12_change_8 (by decide) ?_
    refine r_iconst (v := 4) K dX12_change_9 (by decide) ?_
    refine w_callS K hl H (fun r h => c_X12_in l h) mC_yX12_in mM_RX12_134 mT_yX12_in mZ_RX12 (Nat.le_of_ble_eq_true rfl) (Nat.le_of_ble_eq_true rfl) np_yX12_in rfl (Nat.le_of_ble_eq_true rfl) dX12_change_10 (fun r2 H => ?_) ⟨Nat.zero_le _, Nat.zero_le _⟩
    refine w_if_ne K 18 dX12_change_13 (by decide) H (fun _ H => ?_) (fun _ H => ?_)
    · refine r_aload_n K 0 dX12_change_18 rfl rfl ?_
      refine w_getO K vc12 inX12 26 (by decide) mF_RX12_48 dX12_change_19 H (fun x3 H => ?_)
      refine r_iload_n K 1 dX12_change_22 rfl rfl ?_
      refine w_iald K dX12_change_23 H (fun x4 H => ?_)
      refine r_istore_n K [(3, .int _), (0, .ref _), (1, .int _), (2, .int _)] dX12_change_24 rfl (by decide) rfl ?_
      refine r_iload_n K 0 dX12_change_25 rfl rfl ?_
      refine w_if_ne K 32 dX12_change_26 (by decide) H (fun _ H => ?_) (fun _ H => ?_)
      · refine r_iload_n K 3 dX12_change_32 rfl rfl ?_
        refine r_iconst (v := 2) K dX12_change_33 (by decide) ?_
        refine w_icmp_le K 128 dX12_change_34 (by decide) H (fun _ H => ?_) (fun _ H => ?_)
        · refine r_iload_n K 3 dX12_change_128 rfl rfl ?_
          refine w_if_ne K 136 dX12_change_129 (by decide) H (fun _ H => ?_) (fun _ H => ?_)
          · refine r_iload_n K 3 dX12_change_136 rfl rfl ?_
            refine r_iconst (v := 1) K dX12_change_137 (by decide) ?_
            refine w_icmp_ne K 145 dX12_change_138 (by decide) H (fun _ H => ?_) (fun _ H => ?_)
            · refine r_iconst (v := -1) K dX12_change_145 (by decide) ?_
              exact r_sub [1, 2, 3, 0] rfl (t_X12_change_146 K hl H D)
            · refine r_iconst (v := 1) K dX12_change_141 (by decide) ?_
              refine r_goto K 146 dX12_change_142 (by decide) ?_
              exact r_sub [1, 2, 3, 0] rfl (t_X12_change_146 K hl H D)
          · refine r_iconst (v := 0) K dX12_change_132 (by decide) ?_
            refine r_goto K 146 dX12_change_133 (by decide) ?_
            exact r_sub [1, 2, 3, 0] rfl (t_X12_change_146 K hl H D)
        · refine r_iload_n K 0 dX12_change_37 rfl rfl ?_
          refine r_iconst (v := 1) K dX12_change_38 (by decide) ?_
          refine w_icmp_ne K 45 dX12_change_39 (by decide) H (fun _ H => ?_) (fun _ H => ?_)
          · refine r_iconst (v := 0) K dX12_change_45 (by decide) ?_
            refine r_istore K [(4, .int _), (3, .int _), (0, .ref _), (1, .int _), (2, .int _)] dX12_change_46 (by decide) rfl ?_
            exact r_sub [2, 3, 4, 1, 0] rfl (l_X12_change_48 K hl H D)
          · refine r_bipush (v := -3) K dX12_change_42 (by decide) ?_
            cases H
            obtain ⟨rfl, rfl⟩ := jfin2 D
            exact r_iret K dX12_change_44
      · refine r_bipush (v := -2) K dX12_change_29 (by decide) ?_
        cases H
        obtain ⟨rfl, rfl⟩ := jfin2 D
        exact r_iret K dX12_change_31
    · exact r_sub [] rfl (t_X12_change_16 K hl H D)
theorem c_X12_change (l : Launch) {n : Nat} {Y : jY} {v0 : Nat} {v1 : Int32} {v2 : Int32} {μ : jM} {z : Int32 × jM} (H : f_X12_change Y v0 v1 v2 μ = some z) : jC l yX12_change cX12_change 6 (some .int) 3 0 0 [.ref v0, .int v1, .int v2] n Y μ n Y (some (.int z.1)) z.2 := by
  refine jC_of (by decide +kernel) (Nat.le_of_ble_eq_true rfl) (fun X hl K _ _ _ => ?_)
  obtain ⟨rr, μr⟩ := z
  exact t_X12_change_0 K hl H rfl
/-! RX12 feed(IIIII)I -/
def f_X12_feed (Y : jY) (v0 : Nat) (v1 : Int32) (v2 : Int32) (v3 : Int32) (v4 : Int32) (v5 : Int32) (μ : jM) : Option (Int32 × jM) :=
  (jgI Y μ v0 12 1).bind fun x1 =>
  if ((x1 + ((20 : Int32)))) ≤ ((120 : Int32)) then
    (jrcv Y v0 12 (f_X12_typed4 Y v0 v1 μ)).bind fun μ2 =>
    (jrcv Y v0 12 (f_X12_typed4 Y v0 v2 μ2)).bind fun μ3 =>
    (jrcv Y v0 12 (f_X12_typed4 Y v0 v3 μ3)).bind fun μ4 =>
    (jrcv Y v0 12 (f_X12_typed4 Y v0 v4 μ4)).bind fun μ5 =>
    (jrcv Y v0 12 (f_X12_typed4 Y v0 v5 μ5)).bind fun μ6 =>
    (jgI Y μ6 v0 12 1).bind fun x7 =>
    some (x7, μ6)
  else
    some ((-1 : Int32), μ)
set_option maxRecDepth 10000 in
theorem t_X12_feed_0 {X : jX} {l : Launch} {n : Nat} {Y : jY} (K : jOK X RX12 cX12_feed 6 (some .int) 2) (hl : X.2.1 = l) {rr : Int32} {μr : jM} {v0 : Nat} {v1 : Int32} {v2 : Int32} {v3 : Int32} {v4 : Int32} {v5 : Int32} {μ : jM} {z : (Int32 × jM)} (H : f_X12_feed Y v0 v1 v2 v3 v4 v5 μ = some z) (D : z = (rr, μr)) : JW X (jEnd X n Y (some (.int rr)) μr 0 0) 0 0 n Y 0 [(0, .ref v0), (1, .int v1), (2, .int v2), (3, .int v3), (4, .int v4), (5, .int v5)] [] μ := by
  unfold f_X12_feed at H
  refine r_aload_n K 0 dX12_feed_0 rfl rfl ?_
  refine w_getI K vc12 inX12 1 (by decide) mF_RX12_93 dX12_feed_1 H (fun x1 H => ?_)
  refine r_bipush (v := 20) K dX12_feed_4 (by decide) ?_
  refine r_iadd K dX12_feed_6 ?_
  refine r_bipush (v := 120) K dX12_feed_7 (by decide) ?_
  refine w_icmp_le K 14 dX12_feed_9 (by decide) H (fun _ H => ?_) (fun _ H => ?_)
  · refine r_aload_n K 0 dX12_feed_14 rfl rfl ?_
    refine r_iload_n K 1 dX12_feed_15 rfl rfl ?_
    refine w_callV K hl H (fun r h => c_X12_typed4 l h) mC_yX12_typed4 mM_RX12_97 mI_yX12_typed4 mS_yX12_typed4 mZ_RX12 vc12 (Nat.le_of_ble_eq_true rfl) (Nat.le_of_ble_eq_true rfl) np_yX12_typed4 rfl (Nat.le_of_ble_eq_true rfl) dX12_feed_16 (fun μ2 H => ?_) ⟨Nat.zero_le _, Nat.zero_le _⟩
    refine r_aload_n K 0 dX12_feed_19 rfl rfl ?_
    refine r_iload_n K 2 dX12_feed_20 rfl rfl ?_
    refine w_callV K hl H (fun r h => c_X12_typed4 l h) mC_yX12_typed4 mM_RX12_97 mI_yX12_typed4 mS_yX12_typed4 mZ_RX12 vc12 (Nat.le_of_ble_eq_true rfl) (Nat.le_of_ble_eq_true rfl) np_yX12_typed4 rfl (Nat.le_of_ble_eq_true rfl) dX12_feed_21 (fun μ3 H => ?_) ⟨Nat.zero_le _, Nat.zero_le _⟩
    refine r_aload_n K 0 dX12_feed_24 rfl rfl ?_
    refine r_iload_n K 3 dX12_feed_25 rfl rfl ?_
    refine w_callV K hl H (fun r h => c_X12_typed4 l h) mC_yX12_typed4 mM_RX12_97 mI_yX12_typed4 mS_yX12_typed4 mZ_RX12 vc12 (Nat.le_of_ble_eq_true rfl) (Nat.le_of_ble_eq_true rfl) np_yX12_typed4 rfl (Nat.le_of_ble_eq_true rfl) dX12_feed_26 (fun μ4 H => ?_) ⟨Nat.zero_le _, Nat.zero_le _⟩
    refine r_aload_n K 0 dX12_feed_29 rfl rfl ?_
    refine r_iload K 4 dX12_feed_30 rfl ?_
    refine w_callV K hl H (fun r h => c_X12_typed4 l h) mC_yX12_typed4 mM_RX12_97 mI_yX12_typed4 mS_yX12_typed4 mZ_RX12 vc12 (Nat.le_of_ble_eq_true rfl) (Nat.le_of_ble_eq_true rfl) np_yX12_typed4 rfl (Nat.le_of_ble_eq_true rfl) dX12_feed_32 (fun μ5 H => ?_) ⟨Nat.zero_le _, Nat.zero_le _⟩
    refine r_aload_n K 0 dX12_feed_35 rfl rfl ?_
    refine r_iload K 5 dX12_feed_36 rfl ?_
    refine w_callV K hl H (fun r h => c_X12_typed4 l h) mC_yX12_typed4 mM_RX12_97 mI_yX12_typed4 mS_yX12_typed4 mZ_RX12 vc12 (Nat.le_of_ble_eq_true rfl) (Nat.le_of_ble_eq_true rfl) np_yX12_typed4 rfl (Nat.le_of_ble_eq_true rfl) dX12_feed_38 (fun μ6 H => ?_) ⟨Nat.zero_le _, Nat.zero_le _⟩
    refine r_aload_n K 0 dX12_feed_41 rfl rfl ?_
    refine w_getI K vc12 inX12 1 (by decide) mF_RX12_93 dX12_feed_42 H (fun x7 H => ?_)
    cases H
    obtain ⟨rfl, rfl⟩ := jfin2 D
    exact r_iret K dX12_feed_45
  · refine r_iconst (v := -1) K dX12_feed_12 (by decide) ?_
    cases H
    obtain ⟨rfl, rfl⟩ := jfin2 D
    exact r_iret K dX12_feed_13
theorem c_X12_feed (l : Launch) {n : Nat} {Y : jY} {v0 : Nat} {v1 : Int32} {v2 : Int32} {v3 : Int32} {v4 : Int32} {v5 : Int32} {μ : jM} {z : Int32 × jM} (H : f_X12_feed Y v0 v1 v2 v3 v4 v5 μ = some z) : jC l yX12_feed cX12_feed 6 (some .int) 2 0 0 [.ref v0, .int v1, .int v2, .int v3, .int v4, .int v5] n Y μ n Y (some (.int z.1)) z.2 := by
  refine jC_of (by decide +kernel) (Nat.le_of_ble_eq_true rfl) (fun X hl K _ _ _ => ?_)
  obtain ⟨rr, μr⟩ := z
  exact t_X12_feed_0 K hl H rfl
