/-! RX12 heard(I)I -/
def b_X12_heard_54 (Y : jY) (μ : jM) : Option (Int32 × jM) :=
  some ((-3 : Int32), μ)
def b_X12_heard_141 (Y : jY) (μ : jM) : Option (Int32 × jM) :=
  some ((-3 : Int32), μ)
def b_X12_heard_176 (Y : jY) (v0 : Nat) (v2 : Int32) (v3 : Int32) (μ : jM) : Option ((Int32 × jM) ⊕ (Int32 × jM)) :=
  if ((v2 - ((1 : Int32)))) ≤ v3 then
    some (.inr (v2, μ))
  else
    (jgO Y μ v0 12 12).bind fun x1 =>
    (jgO Y μ v0 12 7).bind fun x2 =>
    (jaI Y μ x2 20 v3).bind fun x3 =>
    (jas Y μ x1 20 v3 (.int x3)).bind fun μ4 =>
    some (.inl ((v3 + (1 : Int32)), μ4))
def b_X12_heard_151 (Y : jY) (v0 : Nat) (v2 : Int32) (v3 : Int32) (μ : jM) : Option ((Int32 × jM) ⊕ (Int32 × jM)) :=
  if v2 ≤ v3 then
    (jit jF (fun (s : Int32 × jM) => b_X12_heard_176 Y v0 v2 s.1 s.2) ((0 : Int32), μ)).map (fun r => (.inr r))
  else
    (jgO Y μ v0 12 11).bind fun x1 =>
    (jgO Y μ v0 12 6).bind fun x2 =>
    (jaI Y μ x2 20 v3).bind fun x3 =>
    (jas Y μ x1 20 v3 (.int x3)).bind fun μ4 =>
    some (.inl ((v3 + (1 : Int32)), μ4))
def b_X12_heard_87 (Y : jY) (v0 : Nat) (v1 : Int32) (v2 : Int32) (v3 : Int32) (μ : jM) : Option ((Int32 × jM) ⊕ (Int32 × jM)) :=
  if ((v2 - ((1 : Int32)))) ≤ v3 then
    (jgO Y μ v0 12 6).bind fun x1 =>
    (jaI Y μ x1 20 ((0 : Int32))).bind fun x2 =>
    if x2 < ((-6 : Int32)) then
      (b_X12_heard_141 Y μ).map (fun r => (.inr r))
    else
      (jgO Y μ v0 12 6).bind fun x3 =>
      (jaI Y μ x3 20 ((v2 - ((1 : Int32))))).bind fun x4 =>
      if x4 ≤ ((6 : Int32)) then
        (jput Y μ v0 12 10 (.int v2)).bind fun μ5 =>
        (jit jF (fun (s : Int32 × jM) => b_X12_heard_151 Y v0 v2 s.1 s.2) ((0 : Int32), μ5)).map (fun r => (.inr r))
      else
        (b_X12_heard_141 Y μ).map (fun r => (.inr r))
  else
    (jgO Y μ v0 12 7).bind fun x6 =>
    (jrcv Y v0 12 (f_X12_rootOf Y v0 v1 ((1 : Int32)) ((v2 - ((1 : Int32)))) v3 ((1 : Int32)) μ)).bind fun r7 =>
    (jas Y r7.2 x6 20 v3 (.int r7.1)).bind fun μ8 =>
    some (.inl ((v3 + (1 : Int32)), μ8))
def b_X12_heard_59 (Y : jY) (v0 : Nat) (v1 : Int32) (v2 : Int32) (v3 : Int32) (μ : jM) : Option ((Int32 × jM) ⊕ (Int32 × jM)) :=
  if v2 ≤ v3 then
    (jit jF (fun (s : Int32 × jM) => b_X12_heard_87 Y v0 v1 v2 s.1 s.2) ((0 : Int32), μ)).map (fun r => (.inr r))
  else
    (jgO Y μ v0 12 6).bind fun x1 =>
    (jrcv Y v0 12 (f_X12_rootOf Y v0 v1 ((0 : Int32)) v2 v3 ((1 : Int32)) μ)).bind fun r2 =>
    (jas Y r2.2 x1 20 v3 (.int r2.1)).bind fun μ3 =>
    some (.inl ((v3 + (1 : Int32)), μ3))
def f_X12_heard (Y : jY) (v0 : Nat) (v1 : Int32) (μ : jM) : Option (Int32 × jM) :=
  (f_X12_isDrawer Y v1 μ).bind fun r1 =>
  if r1.1 = 0 then
    some ((-1 : Int32), r1.2)
  else
    (jgO Y r1.2 v0 12 26).bind fun x2 =>
    (jaI Y r1.2 x2 20 v1).bind fun x3 =>
    if x3 = 0 then
      some ((-2 : Int32), r1.2)
    else
      if ((4 : Int32)) < x3 then
        b_X12_heard_54 Y r1.2
      else
        (jrcv Y v0 12 (f_X12_wholeOf Y v0 v1 ((0 : Int32)) x3 r1.2)).bind fun r4 =>
        if r4.1 < x3 then
          b_X12_heard_54 Y r4.2
        else
          (jrcv Y v0 12 (f_X12_wholeOf Y v0 v1 ((1 : Int32)) ((x3 - ((1 : Int32)))) r4.2)).bind fun r5 =>
          if ((x3 - ((1 : Int32)))) ≤ r5.1 then
            jit jF (fun (s : Int32 × jM) => b_X12_heard_59 Y v0 v1 x3 s.1 s.2) ((0 : Int32), r5.2)
          else
            b_X12_heard_54 Y r5.2
set_option maxRecDepth 10000 in
theorem t_X12_heard_54 {X : jX} {l : Launch} {n : Nat} {Y : jY} (K : jOK X RX12 cX12_heard 4 (some .int) 4) (hl : X.2.1 = l) {rr : Int32} {μr : jM} {μ : jM} {z : (Int32 × jM)} (H : b_X12_heard_54 Y μ = some z) (D : z = (rr, μr)) : JW X (jEnd X n Y (some (.int rr)) μr 0 0) 0 0 n Y 54 [] [] μ := by
  unfold b_X12_heard_54 at H
  refine r_bipush (v := -3) K dX12_heard_54 (by decide) ?_
  cases H
  obtain ⟨rfl, rfl⟩ := jfin2 D
  exact r_iret K dX12_heard_56
set_option maxRecDepth 10000 in
theorem t_X12_heard_141 {X : jX} {l : Launch} {n : Nat} {Y : jY} (K : jOK X RX12 cX12_heard 4 (some .int) 4) (hl : X.2.1 = l) {rr : Int32} {μr : jM} {μ : jM} {z : (Int32 × jM)} (H : b_X12_heard_141 Y μ = some z) (D : z = (rr, μr)) : JW X (jEnd X n Y (some (.int rr)) μr 0 0) 0 0 n Y 141 [] [] μ := by
  unfold b_X12_heard_141 at H
  refine r_bipush (v := -3) K dX12_heard_141 (by decide) ?_
  cases H
  obtain ⟨rfl, rfl⟩ := jfin2 D
  exact r_iret K dX12_heard_143
set_option maxRecDepth 10000 in
theorem t_X12_heard_176 {X : jX} {l : Launch} {n : Nat} {Y : jY} (K : jOK X RX12 cX12_heard 4 (some .int) 4) (hl : X.2.1 = l) {rr : Int32} {μr : jM} {v0 : Nat} {v2 : Int32} {v3 : Int32} {μ : jM} {z : ((Int32 × jM) ⊕ (Int32 × jM))} (H : b_X12_heard_176 Y v0 v2 v3 μ = some z) (D : Sum.elim (fun (s : Int32 × jM) => JW X (jEnd X n Y (some (.int rr)) μr 0 0) 0 0 n Y 176 [(0, .ref v0), (2, .int v2), (3, .int s.1)] [] s.2) (fun r => r = (rr, μr)) z) : JW X (jEnd X n Y (some (.int rr)) μr 0 0) 0 0 n Y 176 [(0, .ref v0), (2, .int v2), (3, .int v3)] [] μ := by
  unfold b_X12_heard_176 at H
  refine r_iload_n K 2 dX12_heard_176 rfl rfl ?_
  refine r_iload_n K 1 dX12_heard_177 rfl rfl ?_
  refine r_iconst (v := 1) K dX12_heard_178 (by decide) ?_
  refine r_isub K dX12_heard_179 ?_
  refine w_icmp_ge K 201 dX12_heard_180 (by decide) H (fun _ H => ?_) (fun _ H => ?_)
  · refine r_iload_n K 1 dX12_heard_201 rfl rfl ?_
    cases H
    simp only [Sum.elim_inr] at D
    obtain ⟨rfl, rfl⟩ := jfin2 D
    exact r_iret K dX12_heard_202
  · refine r_aload_n K 0 dX12_heard_183 rfl rfl ?_
    refine w_getO K vc12 inX12 12 (by decide) mF_RX12_23 dX12_heard_184 H (fun x1 H => ?_)
    refine r_iload_n K 2 dX12_heard_187 rfl rfl ?_
    refine r_aload_n K 0 dX12_heard_188 rfl rfl ?_
    refine w_getO K vc12 inX12 7 (by decide) mF_RX12_17 dX12_heard_189 H (fun x2 H => ?_)
    refine r_iload_n K 2 dX12_heard_192 rfl rfl ?_
    refine w_iald K dX12_heard_193 H (fun x3 H => ?_)
    refine w_iast K dX12_heard_194 H (fun μ4 H => ?_)
    refine r_iinc K 2 [(3, .int _), (0, .ref _), (2, .int _)] (v := _ + (1 : Int32)) dX12_heard_195 rfl rfl (by decide) rfl ?_
    refine r_goto K 176 dX12_heard_198 (by decide) ?_
    cases H
    exact r_sub [1, 2, 0] rfl D
set_option maxRecDepth 10000 in
theorem l_X12_heard_176 {X : jX} {l : Launch} {n : Nat} {Y : jY} (K : jOK X RX12 cX12_heard 4 (some .int) 4) (hl : X.2.1 = l) {rr : Int32} {μr : jM} {v0 : Nat} {v2 : Int32}  {s0 : Int32 × jM} {z : (Int32 × jM)} (H : jit jF (fun (s : Int32 × jM) => b_X12_heard_176 Y v0 v2 s.1 s.2) s0 = some z) (D : z = (rr, μr)) : JW X (jEnd X n Y (some (.int rr)) μr 0 0) 0 0 n Y 176 [(0, .ref v0), (2, .int v2), (3, .int s0.1)] [] s0.2 :=
  jit_ind (P := fun (s : Int32 × jM) => JW X (jEnd X n Y (some (.int rr)) μr 0 0) 0 0 n Y 176 [(0, .ref v0), (2, .int v2), (3, .int s.1)] [] s.2) (D := fun r => r = (rr, μr)) (fun s z Hs Ds => t_X12_heard_176 K hl Hs Ds) jF s0 z H D
set_option maxRecDepth 10000 in
theorem t_X12_heard_151 {X : jX} {l : Launch} {n : Nat} {Y : jY} (K : jOK X RX12 cX12_heard 4 (some .int) 4) (hl : X.2.1 = l) {rr : Int32} {μr : jM} {v0 : Nat} {v2 : Int32} {v3 : Int32} {μ : jM} {z : ((Int32 × jM) ⊕ (Int32 × jM))} (H : b_X12_heard_151 Y v0 v2 v3 μ = some z) (D : Sum.elim (fun (s : Int32 × jM) => JW X (jEnd X n Y (some (.int rr)) μr 0 0) 0 0 n Y 151 [(0, .ref v0), (2, .int v2), (3, .int s.1)] [] s.2) (fun r => r = (rr, μr)) z) : JW X (jEnd X n Y (some (.int rr)) μr 0 0) 0 0 n Y 151 [(0, .ref v0), (2, .int v2), (3, .int v3)] [] μ := by
  unfold b_X12_heard_151 at H
  refine r_iload_n K 2 dX12_heard_151 rfl rfl ?_
  refine r_iload_n K 1 dX12_heard_152 rfl rfl ?_
  refine w_icmp_ge K 174 dX12_heard_153 (by decide) H (fun _ H => ?_) (fun _ H => ?_)
  · refine r_iconst (v := 0) K dX12_heard_174 (by decide) ?_
    refine r_istore_n K [(3, .int _), (0, .ref _), (2, .int _)] dX12_heard_175 rfl (by decide) rfl ?_
    obtain ⟨z2, H2, rfl⟩ := jmap H
    exact r_sub [1, 2, 0] rfl (l_X12_heard_176 K hl H2 D)
  · refine r_aload_n K 0 dX12_heard_156 rfl rfl ?_
    refine w_getO K vc12 inX12 11 (by decide) mF_RX12_20 dX12_heard_157 H (fun x1 H => ?_)
    refine r_iload_n K 2 dX12_heard_160 rfl rfl ?_
    refine r_aload_n K 0 dX12_heard_161 rfl rfl ?_
    refine w_getO K vc12 inX12 6 (by decide) mF_RX12_13 dX12_heard_162 H (fun x2 H => ?_)
    refine r_iload_n K 2 dX12_heard_165 rfl rfl ?_
    refine w_iald K dX12_heard_166 H (fun x3 H => ?_)
    refine w_iast K dX12_heard_167 H (fun μ4 H => ?_)
    refine r_iinc K 2 [(3, .int _), (0, .ref _), (2, .int _)] (v := _ + (1 : Int32)) dX12_heard_168 rfl rfl (by decide) rfl ?_
    refine r_goto K 151 dX12_heard_171 (by decide) ?_
    cases H
    exact r_sub [1, 2, 0] rfl D
set_option maxRecDepth 10000 in
theorem l_X12_heard_151 {X : jX} {l : Launch} {n : Nat} {Y : jY} (K : jOK X RX12 cX12_heard 4 (some .int) 4) (hl : X.2.1 = l) {rr : Int32} {μr : jM} {v0 : Nat} {v2 : Int32}  {s0 : Int32 × jM} {z : (Int32 × jM)} (H : jit jF (fun (s : Int32 × jM) => b_X12_heard_151 Y v0 v2 s.1 s.2) s0 = some z) (D : z = (rr, μr)) : JW X (jEnd X n Y (some (.int rr)) μr 0 0) 0 0 n Y 151 [(0, .ref v0), (2, .int v2), (3, .int s0.1)] [] s0.2 :=
  jit_ind (P := fun (s : Int32 × jM) => JW X (jEnd X n Y (some (.int rr)) μr 0 0) 0 0 n Y 151 [(0, .ref v0), (2, .int v2), (3, .int s.1)] [] s.2) (D := fun r => r = (rr, μr)) (fun s z Hs Ds => t_X12_heard_151 K hl Hs Ds) jF s0 z H D
set_option maxRecDepth 10000 in
theorem t_X12_heard_87 {X : jX} {l : Launch} {n : Nat} {Y : jY} (K : jOK X RX12 cX12_heard 4 (some .int) 4) (hl : X.2.1 = l) {rr : Int32} {μr : jM} {v0 : Nat} {v1 : Int32} {v2 : Int32} {v3 : Int32} {μ : jM} {z : ((Int32 × jM) ⊕ (Int32 × jM))} (H : b_X12_heard_87 Y v0 v1 v2 v3 μ = some z) (D : Sum.elim (fun (s : Int32 × jM) => JW X (jEnd X n Y (some (.int rr)) μr 0 0) 0 0 n Y 87 [(0, .ref v0), (1, .int v1), (2, .int v2), (3, .int s.1)] [] s.2) (fun r => r = (rr, μr)) z) : JW X (jEnd X n Y (some (.int rr)) μr 0 0) 0 0 n Y 87 [(0, .ref v0), (1, .int v1), (2, .int v2), (3, .int v3)] [] μ := by
  unfold b_X12_heard_87 at H
  refine r_iload_n K 3 dX12_heard_87 rfl rfl ?_
  refine r_iload_n K 2 dX12_heard_88 rfl rfl ?_
  refine r_iconst (v := 1) K dX12_heard_89 (by decide) ?_
  refine r_isub K dX12_heard_90 ?_
  refine w_icmp_ge K 117 dX12_heard_91 (by decide) H (fun _ H => ?_) (fun _ H => ?_)
  · refine r_aload_n K 0 dX12_heard_117 rfl rfl ?_
    refine w_getO K vc12 inX12 6 (by decide) mF_RX12_13 dX12_heard_118 H (fun x1 H => ?_)
    refine r_iconst (v := 0) K dX12_heard_121 (by decide) ?_
    refine w_iald K dX12_heard_122 H (fun x2 H => ?_)
    refine r_bipush (v := -6) K dX12_heard_123 (by decide) ?_
    refine w_icmp_lt K 141 dX12_heard_125 (by decide) H (fun _ H => ?_) (fun _ H => ?_)
    · obtain ⟨z2, H2, rfl⟩ := jmap H
      exact r_sub [] rfl (t_X12_heard_141 K hl H2 D)
    · refine r_aload_n K 0 dX12_heard_128 rfl rfl ?_
      refine w_getO K vc12 inX12 6 (by decide) mF_RX12_13 dX12_heard_129 H (fun x3 H => ?_)
      refine r_iload_n K 2 dX12_heard_132 rfl rfl ?_
      refine r_iconst (v := 1) K dX12_heard_133 (by decide) ?_
      refine r_isub K dX12_heard_134 ?_
      refine w_iald K dX12_heard_135 H (fun x4 H => ?_)
      refine r_bipush (v := 6) K dX12_heard_136 (by decide) ?_
      refine w_icmp_le K 144 dX12_heard_138 (by decide) H (fun _ H => ?_) (fun _ H => ?_)
      · refine r_aload_n K 0 dX12_heard_144 rfl rfl ?_
        refine r_iload_n K 2 dX12_heard_145 rfl rfl ?_
        refine w_put K vc12 inX12 tyX12_ok nmX12 10 (by decide) mF_RX12_145 rfl (fun _ => rfl) (fun _ => rfl) dX12_heard_146 H (fun μ5 H => ?_)
        refine r_iconst (v := 0) K dX12_heard_149 (by decide) ?_
        refine r_istore_n K [(3, .int _), (0, .ref _), (1, .int _), (2, .int _)] dX12_heard_150 rfl (by decide) rfl ?_
        obtain ⟨z2, H2, rfl⟩ := jmap H
        exact r_sub [1, 3, 0] rfl (l_X12_heard_151 K hl H2 D)
      · obtain ⟨z2, H2, rfl⟩ := jmap H
        exact r_sub [] rfl (t_X12_heard_141 K hl H2 D)
  · refine r_aload_n K 0 dX12_heard_94 rfl rfl ?_
    refine w_getO K vc12 inX12 7 (by decide) mF_RX12_17 dX12_heard_95 H (fun x6 H => ?_)
    refine r_iload_n K 3 dX12_heard_98 rfl rfl ?_
    refine r_aload_n K 0 dX12_heard_99 rfl rfl ?_
    refine r_iload_n K 1 dX12_heard_100 rfl rfl ?_
    refine r_iconst (v := 1) K dX12_heard_101 (by decide) ?_
    refine r_iload_n K 2 dX12_heard_102 rfl rfl ?_
    refine r_iconst (v := 1) K dX12_heard_103 (by decide) ?_
    refine r_isub K dX12_heard_104 ?_
    refine r_iload_n K 3 dX12_heard_105 rfl rfl ?_
    refine r_iconst (v := 1) K dX12_heard_106 (by decide) ?_
    refine w_callV K hl H (fun r h => c_X12_rootOf l h) mC_yX12_rootOf mM_RX12_289 mI_yX12_rootOf mS_yX12_rootOf mZ_RX12 vc12 (Nat.le_of_ble_eq_true rfl) (Nat.le_of_ble_eq_true rfl) np_yX12_rootOf rfl (Nat.le_of_ble_eq_true rfl) dX12_heard_107 (fun r7 H => ?_) ⟨Nat.zero_le _, Nat.zero_le _⟩
    refine w_iast K dX12_heard_110 H (fun μ8 H => ?_)
    refine r_iinc K 3 [(3, .int _), (0, .ref _), (1, .int _), (2, .int _)] (v := _ + (1 : Int32)) dX12_heard_111 rfl rfl (by decide) rfl ?_
    refine r_goto K 87 dX12_heard_114 (by decide) ?_
    cases H
    exact r_sub [1, 2, 3, 0] rfl D
set_option maxRecDepth 10000 in
theorem l_X12_heard_87 {X : jX} {l : Launch} {n : Nat} {Y : jY} (K : jOK X RX12 cX12_heard 4 (some .int) 4) (hl : X.2.1 = l) {rr : Int32} {μr : jM} {v0 : Nat} {v1 : Int32} {v2 : Int32}  {s0 : Int32 × jM} {z : (Int32 × jM)} (H : jit jF (fun (s : Int32 × jM) => b_X12_heard_87 Y v0 v1 v2 s.1 s.2) s0 = some z) (D : z = (rr, μr)) : JW X (jEnd X n Y (some (.int rr)) μr 0 0) 0 0 n Y 87 [(0, .ref v0), (1, .int v1), (2, .int v2), (3, .int s0.1)] [] s0.2 :=
  jit_ind (P := fun (s : Int32 × jM) => JW X (jEnd X n Y (some (.int rr)) μr 0 0) 0 0 n Y 87 [(0, .ref v0), (1, .int v1), (2, .int v2), (3, .int s.1)] [] s.2) (D := fun r => r = (rr, μr)) (fun s z Hs Ds => t_X12_heard_87 K hl Hs Ds) jF s0 z H D
set_option maxRecDepth 10000 in
theorem t_X12_heard_59 {X : jX} {l : Launch} {n : Nat} {Y : jY} (K : jOK X RX12 cX12_heard 4 (some .int) 4) (hl : X.2.1 = l) {rr : Int32} {μr : jM} {v0 : Nat} {v1 : Int32} {v2 : Int32} {v3 : Int32} {μ : jM} {z : ((Int32 × jM) ⊕ (Int32 × jM))} (H : b_X12_heard_59 Y v0 v1 v2 v3 μ = some z) (D : Sum.elim (fun (s : Int32 × jM) => JW X (jEnd X n Y (some (.int rr)) μr 0 0) 0 0 n Y 59 [(0, .ref v0), (1, .int v1), (2, .int v2), (3, .int s.1)] [] s.2) (fun r => r = (rr, μr)) z) : JW X (jEnd X n Y (some (.int rr)) μr 0 0) 0 0 n Y 59 [(0, .ref v0), (1, .int v1), (2, .int v2), (3, .int v3)] [] μ := by
  unfold b_X12_heard_59 at H
  refine r_iload_n K 3 dX12_heard_59 rfl rfl ?_
  refine r_iload_n K 2 dX12_heard_60 rfl rfl ?_
  refine w_icmp_ge K 85 dX12_heard_61 (by decide) H (fun _ H => ?_) (fun _ H => ?_)
  · refine r_iconst (v := 0) K dX12_heard_85 (by decide) ?_
    refine r_istore_n K [(3, .int _), (0, .ref _), (1, .int _), (2, .int _)] dX12_heard_86 rfl (by decide) rfl ?_
    obtain ⟨z2, H2, rfl⟩ := jmap H
    exact r_sub [1, 2, 3, 0] rfl (l_X12_heard_87 K hl H2 D)
  · refine r_aload_n K 0 dX12_heard_64 rfl rfl ?_
    refine w_getO K vc12 inX12 6 (by decide) mF_RX12_13 dX12_heard_65 H (fun x1 H => ?_)
    refine r_iload_n K 3 dX12_heard_68 rfl rfl ?_
    refine r_aload_n K 0 dX12_heard_69 rfl rfl ?_
    refine r_iload_n K 1 dX12_heard_70 rfl rfl ?_
    refine r_iconst (v := 0) K dX12_heard_71 (by decide) ?_
    refine r_iload_n K 2 dX12_heard_72 rfl rfl ?_
    refine r_iload_n K 3 dX12_heard_73 rfl rfl ?_
    refine r_iconst (v := 1) K dX12_heard_74 (by decide) ?_
    refine w_callV K hl H (fun r h => c_X12_rootOf l h) mC_yX12_rootOf mM_RX12_289 mI_yX12_rootOf mS_yX12_rootOf mZ_RX12 vc12 (Nat.le_of_ble_eq_true rfl) (Nat.le_of_ble_eq_true rfl) np_yX12_rootOf rfl (Nat.le_of_ble_eq_true rfl) dX12_heard_75 (fun r2 H => ?_) ⟨Nat.zero_le _, Nat.zero_le _⟩
    refine w_iast K dX12_heard_78 H (fun μ3 H => ?_)
    refine r_iinc K 3 [(3, .int _), (0, .ref _), (1, .int _), (2, .int _)] (v := _ + (1 : Int32)) dX12_heard_79 rfl rfl (by decide) rfl ?_
    refine r_goto K 59 dX12_heard_82 (by decide) ?_
    cases H
    exact r_sub [1, 2, 3, 0] rfl D
set_option maxRecDepth 10000 in
theorem l_X12_heard_59 {X : jX} {l : Launch} {n : Nat} {Y : jY} (K : jOK X RX12 cX12_heard 4 (some .int) 4) (hl : X.2.1 = l) {rr : Int32} {μr : jM} {v0 : Nat} {v1 : Int32} {v2 : Int32}  {s0 : Int32 × jM} {z : (Int32 × jM)} (H : jit jF (fun (s : Int32 × jM) => b_X12_heard_59 Y v0 v1 v2 s.1 s.2) s0 = some z) (D : z = (rr, μr)) : JW X (jEnd X n Y (some (.int rr)) μr 0 0) 0 0 n Y 59 [(0, .ref v0), (1, .int v1), (2, .int v2), (3, .int s0.1)] [] s0.2 :=
  jit_ind (P := fun (s : Int32 × jM) => JW X (jEnd X n Y (some (.int rr)) μr 0 0) 0 0 n Y 59 [(0, .ref v0), (1, .int v1), (2, .int v2), (3, .int s.1)] [] s.2) (D := fun r => r = (rr, μr)) (fun s z Hs Ds => t_X12_heard_59 K hl Hs Ds) jF s0 z H D
set_option maxRecDepth 10000 in
theorem t_X12_heard_0 {X : jX} {l : Launch} {n : Nat} {Y : jY} (K : jOK X RX12 cX12_heard 4 (some .int) 4) (hl : X.2.1 = l) {rr : Int32} {μr : jM} {v0 : Nat} {v1 : Int32} {μ : jM} {z : (Int32 × jM)} (H : f_X12_heard Y v0 v1 μ = some z) (D : z = (rr, μr)) : JW X (jEnd X n Y (some (.int rr)) μr 0 0) 0 0 n Y 0 [(0, .ref v0), (1, .int v1)] [] μ := by
  unfold f_X12_heard at H
  refine r_iload_n K 1 dX12_heard_0 rfl rfl ?_
  refine w_callS K hl H (fun r h => c_X12_isDrawer l h) mC_yX12_isDrawer mM_RX12_253 mT_yX12_isDrawer mZ_RX12 (Nat.le_of_ble_eq_true rfl) (Nat.le_of_ble_eq_true rfl) np_yX12_isDrawer rfl (Nat.le_of_ble_eq_true rfl) dX12_heard_1 (fun r1 H => ?_) ⟨Nat.zero_le _, Nat.zero_le _⟩
  refine w_if_ne K 9 dX12_heard_4 (by decide) H (fun _ H => ?_) (fun _ H => ?_)
  · refine r_aload_n K 0 dX12_heard_9 rfl rfl ?_
    refine w_getO K vc12 inX12 26 (by decide) mF_RX12_48 dX12_heard_10 H (fun x2 H => ?_)
    refine r_iload_n K 1 dX12_heard_13 rfl rfl ?_
    refine w_iald K dX12_heard_14 H (fun x3 H => ?_)
    refine r_istore_n K [(2, .int _), (0, .ref _), (1, .int _)] dX12_heard_15 rfl (by decide) rfl ?_
    refine r_iload_n K 0 dX12_heard_16 rfl rfl ?_
    refine w_if_ne K 23 dX12_heard_17 (by decide) H (fun _ H => ?_) (fun _ H => ?_)
    · refine r_iload_n K 0 dX12_heard_23 rfl rfl ?_
      refine r_iconst (v := 4) K dX12_heard_24 (by decide) ?_
      refine w_icmp_gt K 54 dX12_heard_25 (by decide) H (fun _ H => ?_) (fun _ H => ?_)
      · exact r_sub [] rfl (t_X12_heard_54 K hl H D)
      · refine r_aload_n K 1 dX12_heard_28 rfl rfl ?_
        refine r_iload_n K 2 dX12_heard_29 rfl rfl ?_
        refine r_iconst (v := 0) K dX12_heard_30 (by decide) ?_
        refine r_iload_n K 0 dX12_heard_31 rfl rfl ?_
        refine w_callV K hl H (fun r h => c_X12_wholeOf l h) mC_yX12_wholeOf mM_RX12_292 mI_yX12_wholeOf mS_yX12_wholeOf mZ_RX12 vc12 (Nat.le_of_ble_eq_true rfl) (Nat.le_of_ble_eq_true rfl) np_yX12_wholeOf rfl (Nat.le_of_ble_eq_true rfl) dX12_heard_32 (fun r4 H => ?_) ⟨Nat.zero_le _, Nat.zero_le _⟩
        refine r_iload_n K 0 dX12_heard_35 rfl rfl ?_
        refine w_icmp_lt K 54 dX12_heard_36 (by decide) H (fun _ H => ?_) (fun _ H => ?_)
        · exact r_sub [] rfl (t_X12_heard_54 K hl H D)
        · refine r_aload_n K 1 dX12_heard_39 rfl rfl ?_
          refine r_iload_n K 2 dX12_heard_40 rfl rfl ?_
          refine r_iconst (v := 1) K dX12_heard_41 (by decide) ?_
          refine r_iload_n K 0 dX12_heard_42 rfl rfl ?_
          refine r_iconst (v := 1) K dX12_heard_43 (by decide) ?_
          refine r_isub K dX12_heard_44 ?_
          refine w_callV K hl H (fun r h => c_X12_wholeOf l h) mC_yX12_wholeOf mM_RX12_292 mI_yX12_wholeOf mS_yX12_wholeOf mZ_RX12 vc12 (Nat.le_of_ble_eq_true rfl) (Nat.le_of_ble_eq_true rfl) np_yX12_wholeOf rfl (Nat.le_of_ble_eq_true rfl) dX12_heard_45 (fun r5 H => ?_) ⟨Nat.zero_le _, Nat.zero_le _⟩
          refine r_iload_n K 0 dX12_heard_48 rfl rfl ?_
          refine r_iconst (v := 1) K dX12_heard_49 (by decide) ?_
          refine r_isub K dX12_heard_50 ?_
          refine w_icmp_ge K 57 dX12_heard_51 (by decide) H (fun _ H => ?_) (fun _ H => ?_)
          · refine r_iconst (v := 0) K dX12_heard_57 (by decide) ?_
            refine r_istore_n K [(3, .int _), (2, .int _), (0, .ref _), (1, .int _)] dX12_heard_58 rfl (by decide) rfl ?_
            exact r_sub [2, 3, 1, 0] rfl (l_X12_heard_59 K hl H D)
          · exact r_sub [] rfl (t_X12_heard_54 K hl H D)
    · refine r_bipush (v := -2) K dX12_heard_20 (by decide) ?_
      cases H
      obtain ⟨rfl, rfl⟩ := jfin2 D
      exact r_iret K dX12_heard_22
  · refine r_iconst (v := -1) K dX12_heard_7 (by decide) ?_
    cases H
    obtain ⟨rfl, rfl⟩ := jfin2 D
    exact r_iret K dX12_heard_8
theorem c_X12_heard (l : Launch) {n : Nat} {Y : jY} {v0 : Nat} {v1 : Int32} {μ : jM} {z : Int32 × jM} (H : f_X12_heard Y v0 v1 μ = some z) : jC l yX12_heard cX12_heard 4 (some .int) 4 0 0 [.ref v0, .int v1] n Y μ n Y (some (.int z.1)) z.2 := by
  refine jC_of (by decide +kernel) (Nat.le_of_ble_eq_true rfl) (fun X hl K _ _ _ => ?_)
  obtain ⟨rr, μr⟩ := z
  exact t_X12_heard_0 K hl H rfl
/-! RX12 multiplies(JJ)V -/
def f_X12_multiplies (Y : jY) (v0 : Nat) (v1 : Int64) (v3 : Int64) (μ : jM) : Option (jM) :=
  (f_X12_common Y v1 v3 μ).bind fun r1 =>
  (jdivL v1 r1.1).bind fun x2 =>
  (jdivL v3 r1.1).bind fun x3 =>
  (jgL Y r1.2 v0 12 16).bind fun x4 =>
  (f_X12_common Y x4 x3 r1.2).bind fun r5 =>
  (jgL Y r5.2 v0 12 17).bind fun x6 =>
  (f_X12_common Y x2 x6 r5.2).bind fun r7 =>
  (jgL Y r7.2 v0 12 16).bind fun x8 =>
  (jdivL x8 r5.1).bind fun x9 =>
  (jdivL x2 r7.1).bind fun x10 =>
  (jput Y r7.2 v0 12 16 (.long ((x9 * x10)))).bind fun μ11 =>
  (jgL Y μ11 v0 12 17).bind fun x12 =>
  (jdivL x12 r7.1).bind fun x13 =>
  (jdivL x3 r5.1).bind fun x14 =>
  (jput Y μ11 v0 12 17 (.long ((x13 * x14)))).bind fun μ15 =>
  (jrcv Y v0 12 (f_X12_reduces Y v0 μ15)).bind fun μ16 =>
  some μ16
set_option maxRecDepth 10000 in
theorem t_X12_multiplies_0 {X : jX} {l : Launch} {n : Nat} {Y : jY} (K : jOK X RX12 cX12_multiplies 15 none 3) (hl : X.2.1 = l) {μr : jM} {v0 : Nat} {v1 : Int64} {v3 : Int64} {μ : jM} {z : (jM)} (H : f_X12_multiplies Y v0 v1 v3 μ = some z) (D : z = μr) : JW X (jEnd X n Y none μr 0 0) 0 0 n Y 0 [(0, .ref v0), (1, .long v1), (3, .long v3)] [] μ := by
  unfold f_X12_multiplies at H
  refine r_lload_n K 1 dX12_multiplies_0 rfl rfl ?_
  refine r_lload_n K 2 dX12_multiplies_1 rfl rfl ?_
  refine w_callS K hl H (fun r h => c_X12_common l h) mC_yX12_common mM_RX12_184 mT_yX12_common mZ_RX12 (Nat.le_of_ble_eq_true rfl) (Nat.le_of_ble_eq_true rfl) np_yX12_common rfl (Nat.le_of_ble_eq_true rfl) dX12_multiplies_2 (fun r1 H => ?_) ⟨Nat.zero_le _, Nat.zero_le _⟩
  refine r_lstore K [(5, .long _), (0, .ref _), (1, .long _), (3, .long _)] dX12_multiplies_5 (by decide) rfl ?_
  refine r_lload_n K 2 dX12_multiplies_7 rfl rfl ?_
  refine r_lload K 0 dX12_multiplies_8 rfl ?_
  refine w_ldiv K dX12_multiplies_10 H (fun x2 H => ?_)
  refine r_lstore K [(7, .long _), (5, .long _), (0, .ref _), (1, .long _), (3, .long _)] dX12_multiplies_11 (by decide) rfl ?_
  refine r_lload_n K 4 dX12_multiplies_13 rfl rfl ?_
  refine r_lload K 1 dX12_multiplies_14 rfl ?_
  refine w_ldiv K dX12_multiplies_16 H (fun x3 H => ?_)
  refine r_lstore K [(9, .long _), (7, .long _), (5, .long _), (0, .ref _), (1, .long _), (3, .long _)] dX12_multiplies_17 (by decide) rfl ?_
  refine r_aload_n K 3 dX12_multiplies_19 rfl rfl ?_
  refine w_getL K vc12 inX12 16 (by decide) mF_RX12_177 dX12_multiplies_20 H (fun x4 H => ?_)
  refine r_lload K 0 dX12_multiplies_23 rfl ?_
  refine w_callS K hl H (fun r h => c_X12_common l h) mC_yX12_common mM_RX12_184 mT_yX12_common mZ_RX12 (Nat.le_of_ble_eq_true rfl) (Nat.le_of_ble_eq_true rfl) np_yX12_common rfl (Nat.le_of_ble_eq_true rfl) dX12_multiplies_25 (fun r5 H => ?_) ⟨Nat.zero_le _, Nat.zero_le _⟩
  refine r_lstore K [(11, .long _), (9, .long _), (7, .long _), (5, .long _), (0, .ref _), (1, .long _), (3, .long _)] dX12_multiplies_28 (by decide) rfl ?_
  refine r_lload K 2 dX12_multiplies_30 rfl ?_
  refine r_aload_n K 4 dX12_multiplies_32 rfl rfl ?_
  refine w_getL K vc12 inX12 17 (by decide) mF_RX12_181 dX12_multiplies_33 H (fun x6 H => ?_)
  refine w_callS K hl H (fun r h => c_X12_common l h) mC_yX12_common mM_RX12_184 mT_yX12_common mZ_RX12 (Nat.le_of_ble_eq_true rfl) (Nat.le_of_ble_eq_true rfl) np_yX12_common rfl (Nat.le_of_ble_eq_true rfl) dX12_multiplies_36 (fun r7 H => ?_) ⟨Nat.zero_le _, Nat.zero_le _⟩
  refine r_lstore K [(13, .long _), (11, .long _), (9, .long _), (7, .long _), (5, .long _), (0, .ref _), (1, .long _), (3, .long _)] dX12_multiplies_39 (by decide) rfl ?_
  refine r_aload_n K 5 dX12_multiplies_41 rfl rfl ?_
  refine r_aload_n K 5 dX12_multiplies_42 rfl rfl ?_
  refine w_getL K vc12 inX12 16 (by decide) mF_RX12_177 dX12_multiplies_43 H (fun x8 H => ?_)
  refine r_lload K 1 dX12_multiplies_46 rfl ?_
  refine w_ldiv K dX12_multiplies_48 H (fun x9 H => ?_)
  refine r_lload K 3 dX12_multiplies_49 rfl ?_
  refine r_lload K 0 dX12_multiplies_51 rfl ?_
  refine w_ldiv K dX12_multiplies_53 H (fun x10 H => ?_)
  refine r_lmul K dX12_multiplies_54 ?_
  refine w_put K vc12 inX12 tyX12_ok nmX12 16 (by decide) mF_RX12_177 rfl (fun _ => rfl) (fun _ => rfl) dX12_multiplies_55 H (fun μ11 H => ?_)
  refine r_aload_n K 5 dX12_multiplies_58 rfl rfl ?_
  refine r_aload_n K 5 dX12_multiplies_59 rfl rfl ?_
  refine w_getL K vc12 inX12 17 (by decide) mF_RX12_181 dX12_multiplies_60 H (fun x12 H => ?_)
  refine r_lload K 0 dX12_multiplies_63 rfl ?_
  refine w_ldiv K dX12_multiplies_65 H (fun x13 H => ?_)
  refine r_lload K 2 dX12_multiplies_66 rfl ?_
  refine r_lload K 1 dX12_multiplies_68 rfl ?_
  refine w_ldiv K dX12_multiplies_70 H (fun x14 H => ?_)
  refine r_lmul K dX12_multiplies_71 ?_
  refine w_put K vc12 inX12 tyX12_ok nmX12 17 (by decide) mF_RX12_181 rfl (fun _ => rfl) (fun _ => rfl) dX12_multiplies_72 H (fun μ15 H => ?_)
  refine r_aload_n K 5 dX12_multiplies_75 rfl rfl ?_
  refine w_callV K hl H (fun r h => c_X12_reduces l h) mC_yX12_reduces mM_RX12_188 mI_yX12_reduces mS_yX12_reduces mZ_RX12 vc12 (Nat.le_of_ble_eq_true rfl) (Nat.le_of_ble_eq_true rfl) np_yX12_reduces rfl (Nat.le_of_ble_eq_true rfl) dX12_multiplies_76 (fun μ16 H => ?_) ⟨Nat.zero_le _, Nat.zero_le _⟩
  cases H
  subst D
  exact r_vret K dX12_multiplies_79
theorem c_X12_multiplies (l : Launch) {n : Nat} {Y : jY} {v0 : Nat} {v1 : Int64} {v3 : Int64} {μ : jM} {z : jM} (H : f_X12_multiplies Y v0 v1 v3 μ = some z) : jC l yX12_multiplies cX12_multiplies 15 none 3 0 0 [.ref v0, .long v1, .long v3] n Y μ n Y none z := by
  refine jC_of (by decide +kernel) (Nat.le_of_ble_eq_true rfl) (fun X hl K _ _ _ => ?_)
  exact t_X12_multiplies_0 K hl H rfl
/-! RX12 laysC(I)V -/
def f_X12_laysC (Y : jY) (v0 : Nat) (v1 : Int32) (μ : jM) : Option (jM) :=
  (jrcv Y v0 12 (f_X12_hankel Y v0 ((v1 + ((2 : Int32)))) μ)).bind fun r1 =>
  (jrcv Y v0 12 (f_X12_hankel Y v0 ((v1 + ((1 : Int32)))) r1.2)).bind fun r2 =>
  (jrcv Y v0 12 (f_X12_sets Y v0 r1.1 r2.1 r2.2)).bind fun μ3 =>
  (jrcv Y v0 12 (f_X12_hankel Y v0 v1 μ3)).bind fun r4 =>
  (jrcv Y v0 12 (f_X12_hankel Y v0 ((v1 + ((1 : Int32)))) r4.2)).bind fun r5 =>
  (jrcv Y v0 12 (f_X12_multiplies Y v0 r4.1 r5.1 r5.2)).bind fun μ6 =>
  some μ6
set_option maxRecDepth 10000 in
theorem t_X12_laysC_0 {X : jX} {l : Launch} {n : Nat} {Y : jY} (K : jOK X RX12 cX12_laysC 2 none 6) (hl : X.2.1 = l) {μr : jM} {v0 : Nat} {v1 : Int32} {μ : jM} {z : (jM)} (H : f_X12_laysC Y v0 v1 μ = some z) (D : z = μr) : JW X (jEnd X n Y none μr 0 0) 0 0 n Y 0 [(0, .ref v0), (1, .int v1)] [] μ := by
  unfold f_X12_laysC at H
  refine r_aload_n K 0 dX12_laysC_0 rfl rfl ?_
  refine r_aload_n K 0 dX12_laysC_1 rfl rfl ?_
  refine r_iload_n K 1 dX12_laysC_2 rfl rfl ?_
  refine r_iconst (v := 2) K dX12_laysC_3 (by decide) ?_
  refine r_iadd K dX12_laysC_4 ?_
  refine w_callV K hl H (fun r h => c_X12_hankel l h) mC_yX12_hankel mM_RX12_199 mI_yX12_hankel mS_yX12_hankel mZ_RX12 vc12 (Nat.le_of_ble_eq_true rfl) (Nat.le_of_ble_eq_true rfl) np_yX12_hankel rfl (Nat.le_of_ble_eq_true rfl) dX12_laysC_5 (fun r1 H => ?_) ⟨Nat.zero_le _, Nat.zero_le _⟩
  refine r_aload_n K 0 dX12_laysC_8 rfl rfl ?_
  refine r_iload_n K 1 dX12_laysC_9 rfl rfl ?_
  refine r_iconst (v := 1) K dX12_laysC_10 (by decide) ?_
  refine r_iadd K dX12_laysC_11 ?_
  refine w_callV K hl H (fun r h => c_X12_hankel l h) mC_yX12_hankel mM_RX12_199 mI_yX12_hankel mS_yX12_hankel mZ_RX12 vc12 (Nat.le_of_ble_eq_true rfl) (Nat.le_of_ble_eq_true rfl) np_yX12_hankel rfl (Nat.le_of_ble_eq_true rfl) dX12_laysC_12 (fun r2 H => ?_) ⟨Nat.zero_le _, Nat.zero_le _⟩
  refine w_callV K hl H (fun r h => c_X12_sets l h) mC_yX12_sets mM_RX12_191 mI_yX12_sets mS_yX12_sets mZ_RX12 vc12 (Nat.le_of_ble_eq_true rfl) (Nat.le_of_ble_eq_true rfl) np_yX12_sets rfl (Nat.le_of_ble_eq_true rfl) dX12_laysC_15 (fun μ3 H => ?_) ⟨Nat.zero_le _, Nat.zero_le _⟩
  refine r_aload_n K 0 dX12_laysC_18 rfl rfl ?_
  refine r_aload_n K 0 dX12_laysC_19 rfl rfl ?_
  refine r_iload_n K 1 dX12_laysC_20 rfl rfl ?_
  refine w_callV K hl H (fun r h => c_X12_hankel l h) mC_yX12_hankel mM_RX12_199 mI_yX12_hankel mS_yX12_hankel mZ_RX12 vc12 (Nat.le_of_ble_eq_true rfl) (Nat.le_of_ble_eq_true rfl) np_yX12_hankel rfl (Nat.le_of_ble_eq_true rfl) dX12_laysC_21 (fun r4 H => ?_) ⟨Nat.zero_le _, Nat.zero_le _⟩
  refine r_aload_n K 0 dX12_laysC_24 rfl rfl ?_
  refine r_iload_n K 1 dX12_laysC_25 rfl rfl ?_
  refine r_iconst (v := 1) K dX12_laysC_26 (by decide) ?_
  refine r_iadd K dX12_laysC_27 ?_
  refine w_callV K hl H (fun r h => c_X12_hankel l h) mC_yX12_hankel mM_RX12_199 mI_yX12_hankel mS_yX12_hankel mZ_RX12 vc12 (Nat.le_of_ble_eq_true rfl) (Nat.le_of_ble_eq_true rfl) np_yX12_hankel rfl (Nat.le_of_ble_eq_true rfl) dX12_laysC_28 (fun r5 H => ?_) ⟨Nat.zero_le _, Nat.zero_le _⟩
  refine w_callV K hl H (fun r h => c_X12_multiplies l h) mC_yX12_multiplies mM_RX12_208 mI_yX12_multiplies mS_yX12_multiplies mZ_RX12 vc12 (Nat.le_of_ble_eq_true rfl) (Nat.le_of_ble_eq_true rfl) np_yX12_multiplies rfl (Nat.le_of_ble_eq_true rfl) dX12_laysC_31 (fun μ6 H => ?_) ⟨Nat.zero_le _, Nat.zero_le _⟩
  cases H
  subst D
  exact r_vret K dX12_laysC_34
theorem c_X12_laysC (l : Launch) {n : Nat} {Y : jY} {v0 : Nat} {v1 : Int32} {μ : jM} {z : jM} (H : f_X12_laysC Y v0 v1 μ = some z) : jC l yX12_laysC cX12_laysC 2 none 6 0 0 [.ref v0, .int v1] n Y μ n Y none z := by
  refine jC_of (by decide +kernel) (Nat.le_of_ble_eq_true rfl) (fun X hl K _ _ _ => ?_)
  exact t_X12_laysC_0 K hl H rfl
/-! RX12 inverse(IIII)J -/
def b_X12_inverse_58 (Y : jY) (μ : jM) : Option (Int64 × jM) :=
  some ((-9223372036854775808 : Int64), μ)
def b_X12_inverse_205 (Y : jY) (v0 : Nat) (v1 : Int32) (v4 : Int32) (v9 : Int32) (v18 : Int32) (μ : jM) : Option ((Int32 × jM) ⊕ (Int64 × jM)) :=
  if v9 ≤ v18 then
    (jrcv Y v0 12 (f_X12_told Y v0 v4 μ)).bind fun r1 =>
    some (.inr (r1.1, r1.2))
  else
    (jrcv Y v0 12 (f_X12_c Y v0 v1 v18 μ)).bind fun r2 =>
    (jrcv Y v0 12 (f_X12_multiplies Y v0 ((r2.1.toInt64)) ((1 : Int64)) r2.2)).bind fun μ3 =>
    some (.inl ((v18 + (1 : Int32)), μ3))
def b_X12_inverse_114 (Y : jY) (v0 : Nat) (v1 : Int32) (v2 : Int32) (v3 : Int32) (v4 : Int32) (v5 : Int32) (v6 : Int64) (v8 : Int32) (t0 : Int32) (μ : jM) : Option (Int64 × jM) :=
  (jrcv Y v0 12 (f_X12_valueAt Y v0 v1 ((0 : Int32)) v8 ((0 : Int64)) μ)).bind fun r1 =>
  (jrcv Y v0 12 (f_X12_valueAt Y v0 v1 ((t0 + ((1 : Int32)))) ((((v5 - t0)) - ((1 : Int32)))) ((0 : Int64)) r1.2)).bind fun r2 =>
  if v2 = v3 then
    (jrcv Y v0 12 (f_X12_sets Y v0 ((((-r1.1)) * r2.1)) v6 r2.2)).bind fun μ7 =>
    (jrcv Y v0 12 (f_X12_told Y v0 v4 μ7)).bind fun r8 =>
    some (r8.1, r8.2)
  else
    (jrcv Y v0 12 (f_X12_sets Y v0 ((r1.1 * r2.1)) v6 r2.2)).bind fun μ3 =>
    (jgL Y μ3 v0 12 16).bind fun x4 =>
    (jgL Y μ3 v0 12 17).bind fun x5 =>
    (jrcv Y v0 12 (f_X12_multiplies Y v0 x4 x5 μ3)).bind fun μ6 =>
    jit jF (fun (s : Int32 × jM) => b_X12_inverse_205 Y v0 v1 v4 t0 s.1 s.2) (v8, μ6)
def b_X12_inverse_102 (Y : jY) (v0 : Nat) (v1 : Int32) (v2 : Int32) (v3 : Int32) (v4 : Int32) (v5 : Int32) (v6 : Int64) (t0 : Int32) (μ : jM) : Option (Int64 × jM) :=
  if v3 ≤ v2 then
    b_X12_inverse_114 Y v0 v1 v2 v3 v4 v5 v6 t0 v2 μ
  else
    b_X12_inverse_114 Y v0 v1 v2 v3 v4 v5 v6 t0 v3 μ
def f_X12_inverse (Y : jY) (v0 : Nat) (v1 : Int32) (v2 : Int32) (v3 : Int32) (v4 : Int32) (μ : jM) : Option (Int64 × jM) :=
  (f_X12_isDrawer Y v1 μ).bind fun r1 =>
  if r1.1 = 0 then
    b_X12_inverse_58 Y r1.2
  else
    (jgO Y r1.2 v0 12 26).bind fun x2 =>
    (jaI Y r1.2 x2 20 v1).bind fun x3 =>
    if x3 = 0 then
      b_X12_inverse_58 Y r1.2
    else
      (jgO Y r1.2 v0 12 26).bind fun x4 =>
      (jaI Y r1.2 x4 20 v1).bind fun x5 =>
      (f_X12_in Y v2 ((0 : Int32)) ((x5 - ((1 : Int32)))) r1.2).bind fun r6 =>
      if r6.1 = 0 then
        b_X12_inverse_58 Y r6.2
      else
        (jgO Y r6.2 v0 12 26).bind fun x7 =>
        (jaI Y r6.2 x7 20 v1).bind fun x8 =>
        (f_X12_in Y v3 ((0 : Int32)) ((x8 - ((1 : Int32)))) r6.2).bind fun r9 =>
        if r9.1 = 0 then
          b_X12_inverse_58 Y r9.2
        else
          (f_X12_in Y v4 ((0 : Int32)) ((1 : Int32)) r9.2).bind fun r10 =>
          if r10.1 = 0 then
            b_X12_inverse_58 Y r10.2
          else
            (jgO Y r10.2 v0 12 26).bind fun x11 =>
            (jaI Y r10.2 x11 20 v1).bind fun x12 =>
            (jrcv Y v0 12 (f_X12_valueAt Y v0 v1 ((0 : Int32)) x12 ((0 : Int64)) r10.2)).bind fun r13 =>
            if ((lg_cmp r13.1 ((0 : Int64)))) = 0 then
              some ((-2 : Int64), r13.2)
            else
              if v3 ≤ v2 then
                b_X12_inverse_102 Y v0 v1 v2 v3 v4 x12 r13.1 v3 r13.2
              else
                b_X12_inverse_102 Y v0 v1 v2 v3 v4 x12 r13.1 v2 r13.2
set_option maxRecDepth 10000 in
theorem t_X12_inverse_58 {X : jX} {l : Launch} {n : Nat} {Y : jY} (K : jOK X RX12 cX12_inverse 19 (some .long) 4) (hl : X.2.1 = l) {rr : Int64} {μr : jM} {μ : jM} {z : (Int64 × jM)} (H : b_X12_inverse_58 Y μ = some z) (D : z = (rr, μr)) : JW X (jEnd X n Y (some (.long rr)) μr 0 0) 0 0 n Y 58 [] [] μ := by
  unfold b_X12_inverse_58 at H
  refine r_ldc2 K (-9223372036854775808) mc_RX12_156 dX12_inverse_58 ?_
  cases H
  obtain ⟨rfl, rfl⟩ := jfin2 D
  exact r_lret K dX12_inverse_61
set_option maxRecDepth 10000 in
theorem t_X12_inverse_205 {X : jX} {l : Launch} {n : Nat} {Y : jY} (K : jOK X RX12 cX12_inverse 19 (some .long) 4) (hl : X.2.1 = l) {rr : Int64} {μr : jM} {v0 : Nat} {v1 : Int32} {v4 : Int32} {v9 : Int32} {v18 : Int32} {μ : jM} {z : ((Int32 × jM) ⊕ (Int64 × jM))} (H : b_X12_inverse_205 Y v0 v1 v4 v9 v18 μ = some z) (D : Sum.elim (fun (s : Int32 × jM) => JW X (jEnd X n Y (some (.long rr)) μr 0 0) 0 0 n Y 205 [(0, .ref v0), (1, .int v1), (4, .int v4), (9, .int v9), (18, .int s.1)] [] s.2) (fun r => r = (rr, μr)) z) : JW X (jEnd X n Y (some (.long rr)) μr 0 0) 0 0 n Y 205 [(0, .ref v0), (1, .int v1), (4, .int v4), (9, .int v9), (18, .int v18)] [] μ := by
  unfold b_X12_inverse_205 at H
  refine r_iload K 4 dX12_inverse_205 rfl ?_
  refine r_iload K 3 dX12_inverse_207 rfl ?_
  refine w_icmp_ge K 231 dX12_inverse_209 (by decide) H (fun _ H => ?_) (fun _ H => ?_)
  · refine r_aload_n K 0 dX12_inverse_231 rfl rfl ?_
    refine r_iload K 2 dX12_inverse_232 rfl ?_
    refine w_callV K hl H (fun r h => c_X12_told l h) mC_yX12_told mM_RX12_195 mI_yX12_told mS_yX12_told mZ_RX12 vc12 (Nat.le_of_ble_eq_true rfl) (Nat.le_of_ble_eq_true rfl) np_yX12_told rfl (Nat.le_of_ble_eq_true rfl) dX12_inverse_234 (fun r1 H => ?_) ⟨Nat.zero_le _, Nat.zero_le _⟩
    cases H
    simp only [Sum.elim_inr] at D
    obtain ⟨rfl, rfl⟩ := jfin2 D
    exact r_lret K dX12_inverse_237
  · refine r_aload_n K 0 dX12_inverse_212 rfl rfl ?_
    refine r_aload_n K 0 dX12_inverse_213 rfl rfl ?_
    refine r_iload_n K 1 dX12_inverse_214 rfl rfl ?_
    refine r_iload K 4 dX12_inverse_215 rfl ?_
    refine w_callV K hl H (fun r h => c_X12_c l h) mC_yX12_c mM_RX12_260 mI_yX12_c mS_yX12_c mZ_RX12 vc12 (Nat.le_of_ble_eq_true rfl) (Nat.le_of_ble_eq_true rfl) np_yX12_c rfl (Nat.le_of_ble_eq_true rfl) dX12_inverse_217 (fun r2 H => ?_) ⟨Nat.zero_le _, Nat.zero_le _⟩
    refine r_i2l K dX12_inverse_220 ?_
    refine r_lconst (v := 1) K dX12_inverse_221 (by decide) ?_
    refine w_callV K hl H (fun r h => c_X12_multiplies l h) mC_yX12_multiplies mM_RX12_208 mI_yX12_multiplies mS_yX12_multiplies mZ_RX12 vc12 (Nat.le_of_ble_eq_true rfl) (Nat.le_of_ble_eq_true rfl) np_yX12_multiplies rfl (Nat.le_of_ble_eq_true rfl) dX12_inverse_222 (fun μ3 H => ?_) ⟨Nat.zero_le _, Nat.zero_le _⟩
    refine r_iinc K 4 [(18, .int _), (0, .ref _), (1, .int _), (4, .int _), (9, .int _)] (v := _ + (1 : Int32)) dX12_inverse_225 rfl rfl (by decide) rfl ?_
    refine r_goto K 205 dX12_inverse_228 (by decide) ?_
    cases H
    exact r_sub [1, 2, 3, 4, 0] rfl D
set_option maxRecDepth 10000 in
theorem l_X12_inverse_205 {X : jX} {l : Launch} {n : Nat} {Y : jY} (K : jOK X RX12 cX12_inverse 19 (some .long) 4) (hl : X.2.1 = l) {rr : Int64} {μr : jM} {v0 : Nat} {v1 : Int32} {v4 : Int32} {v9 : Int32}  {s0 : Int32 × jM} {z : (Int64 × jM)} (H : jit jF (fun (s : Int32 × jM) => b_X12_inverse_205 Y v0 v1 v4 v9 s.1 s.2) s0 = some z) (D : z = (rr, μr)) : JW X (jEnd X n Y (some (.long rr)) μr 0 0) 0 0 n Y 205 [(0, .ref v0), (1, .int v1), (4, .int v4), (9, .int v9), (18, .int s0.1)] [] s0.2 :=
  jit_ind (P := fun (s : Int32 × jM) => JW X (jEnd X n Y (some (.long rr)) μr 0 0) 0 0 n Y 205 [(0, .ref v0), (1, .int v1), (4, .int v4), (9, .int v9), (18, .int s.1)] [] s.2) (D := fun r => r = (rr, μr)) (fun s z Hs Ds => t_X12_inverse_205 K hl Hs Ds) jF s0 z H D
set_option maxRecDepth 10000 in
theorem t_X12_inverse_114 {X : jX} {l : Launch} {n : Nat} {Y : jY} (K : jOK X RX12 cX12_inverse 19 (some .long) 4) (hl : X.2.1 = l) {rr : Int64} {μr : jM} {v0 : Nat} {v1 : Int32} {v2 : Int32} {v3 : Int32} {v4 : Int32} {v5 : Int32} {v6 : Int64} {v8 : Int32} {t0 : Int32} {μ : jM} {z : (Int64 × jM)} (H : b_X12_inverse_114 Y v0 v1 v2 v3 v4 v5 v6 v8 t0 μ = some z) (D : z = (rr, μr)) : JW X (jEnd X n Y (some (.long rr)) μr 0 0) 0 0 n Y 114 [(0, .ref v0), (1, .int v1), (2, .int v2), (3, .int v3), (4, .int v4), (5, .int v5), (6, .long v6), (8, .int v8)] [.int t0] μ := by
  unfold b_X12_inverse_114 at H
  refine r_istore K [(9, .int _), (0, .ref _), (1, .int _), (2, .int _), (3, .int _), (4, .int _), (5, .int _), (6, .long _), (8, .int _)] dX12_inverse_114 (by decide) rfl ?_
  refine r_aload_n K 1 dX12_inverse_116 rfl rfl ?_
  refine r_iload_n K 2 dX12_inverse_117 rfl rfl ?_
  refine r_iconst (v := 0) K dX12_inverse_118 (by decide) ?_
  refine r_iload K 8 dX12_inverse_119 rfl ?_
  refine r_lconst (v := 0) K dX12_inverse_121 (by decide) ?_
  refine w_callV K hl H (fun r h => c_X12_valueAt l h) mC_yX12_valueAt mM_RX12_279 mI_yX12_valueAt mS_yX12_valueAt mZ_RX12 vc12 (Nat.le_of_ble_eq_true rfl) (Nat.le_of_ble_eq_true rfl) np_yX12_valueAt rfl (Nat.le_of_ble_eq_true rfl) dX12_inverse_122 (fun r1 H => ?_) ⟨Nat.zero_le _, Nat.zero_le _⟩
  refine r_lstore K [(10, .long _), (9, .int _), (0, .ref _), (1, .int _), (2, .int _), (3, .int _), (4, .int _), (5, .int _), (6, .long _), (8, .int _)] dX12_inverse_125 (by decide) rfl ?_
  refine r_aload_n K 2 dX12_inverse_127 rfl rfl ?_
  refine r_iload_n K 3 dX12_inverse_128 rfl rfl ?_
  refine r_iload K 1 dX12_inverse_129 rfl ?_
  refine r_iconst (v := 1) K dX12_inverse_131 (by decide) ?_
  refine r_iadd K dX12_inverse_132 ?_
  refine r_iload K 7 dX12_inverse_133 rfl ?_
  refine r_iload K 1 dX12_inverse_135 rfl ?_
  refine r_isub K dX12_inverse_137 ?_
  refine r_iconst (v := 1) K dX12_inverse_138 (by decide) ?_
  refine r_isub K dX12_inverse_139 ?_
  refine r_lconst (v := 0) K dX12_inverse_140 (by decide) ?_
  refine w_callV K hl H (fun r h => c_X12_valueAt l h) mC_yX12_valueAt mM_RX12_279 mI_yX12_valueAt mS_yX12_valueAt mZ_RX12 vc12 (Nat.le_of_ble_eq_true rfl) (Nat.le_of_ble_eq_true rfl) np_yX12_valueAt rfl (Nat.le_of_ble_eq_true rfl) dX12_inverse_141 (fun r2 H => ?_) ⟨Nat.zero_le _, Nat.zero_le _⟩
  refine r_lstore K [(12, .long _), (10, .long _), (9, .int _), (0, .ref _), (1, .int _), (2, .int _), (3, .int _), (4, .int _), (5, .int _), (6, .long _), (8, .int _)] dX12_inverse_144 (by decide) rfl ?_
  refine r_iload_n K 5 dX12_inverse_146 rfl rfl ?_
  refine r_iload_n K 6 dX12_inverse_147 rfl rfl ?_
  refine w_icmp_ne K 170 dX12_inverse_148 (by decide) H (fun _ H => ?_) (fun _ H => ?_)
  · refine r_aload_n K 3 dX12_inverse_170 rfl rfl ?_
    refine r_lload K 1 dX12_inverse_171 rfl ?_
    refine r_lload K 0 dX12_inverse_173 rfl ?_
    refine r_lmul K dX12_inverse_175 ?_
    refine r_lload K 9 dX12_inverse_176 rfl ?_
    refine w_callV K hl H (fun r h => c_X12_sets l h) mC_yX12_sets mM_RX12_191 mI_yX12_sets mS_yX12_sets mZ_RX12 vc12 (Nat.le_of_ble_eq_true rfl) (Nat.le_of_ble_eq_true rfl) np_yX12_sets rfl (Nat.le_of_ble_eq_true rfl) dX12_inverse_178 (fun μ3 H => ?_) ⟨Nat.zero_le _, Nat.zero_le _⟩
    refine r_aload_n K 3 dX12_inverse_181 rfl rfl ?_
    refine w_getL K vc12 inX12 16 (by decide) mF_RX12_177 dX12_inverse_182 H (fun x4 H => ?_)
    refine r_lstore K [(14, .long _), (12, .long _), (10, .long _), (9, .int _), (0, .ref _), (1, .int _), (2, .int _), (3, .int _), (4, .int _), (5, .int _), (6, .long _), (8, .int _)] dX12_inverse_185 (by decide) rfl ?_
    refine r_aload_n K 4 dX12_inverse_187 rfl rfl ?_
    refine w_getL K vc12 inX12 17 (by decide) mF_RX12_181 dX12_inverse_188 H (fun x5 H => ?_)
    refine r_lstore K [(16, .long _), (14, .long _), (12, .long _), (10, .long _), (9, .int _), (0, .ref _), (1, .int _), (2, .int _), (3, .int _), (4, .int _), (5, .int _), (6, .long _), (8, .int _)] dX12_inverse_191 (by decide) rfl ?_
    refine r_aload_n K 5 dX12_inverse_193 rfl rfl ?_
    refine r_lload K 1 dX12_inverse_194 rfl ?_
    refine r_lload K 0 dX12_inverse_196 rfl ?_
    refine w_callV K hl H (fun r h => c_X12_multiplies l h) mC_yX12_multiplies mM_RX12_208 mI_yX12_multiplies mS_yX12_multiplies mZ_RX12 vc12 (Nat.le_of_ble_eq_true rfl) (Nat.le_of_ble_eq_true rfl) np_yX12_multiplies rfl (Nat.le_of_ble_eq_true rfl) dX12_inverse_198 (fun μ6 H => ?_) ⟨Nat.zero_le _, Nat.zero_le _⟩
    refine r_iload K 12 dX12_inverse_201 rfl ?_
    refine r_istore K [(18, .int _), (16, .long _), (14, .long _), (12, .long _), (10, .long _), (9, .int _), (0, .ref _), (1, .int _), (2, .int _), (3, .int _), (4, .int _), (5, .int _), (6, .long _), (8, .int _)] dX12_inverse_203 (by decide) rfl ?_
    exact r_sub [6, 7, 10, 5, 0] rfl (l_X12_inverse_205 K hl H D)
  · refine r_aload_n K 3 dX12_inverse_151 rfl rfl ?_
    refine r_lload K 1 dX12_inverse_152 rfl ?_
    refine r_lneg K dX12_inverse_154 ?_
    refine r_lload K 0 dX12_inverse_155 rfl ?_
    refine r_lmul K dX12_inverse_157 ?_
    refine r_lload K 9 dX12_inverse_158 rfl ?_
    refine w_callV K hl H (fun r h => c_X12_sets l h) mC_yX12_sets mM_RX12_191 mI_yX12_sets mS_yX12_sets mZ_RX12 vc12 (Nat.le_of_ble_eq_true rfl) (Nat.le_of_ble_eq_true rfl) np_yX12_sets rfl (Nat.le_of_ble_eq_true rfl) dX12_inverse_160 (fun μ7 H => ?_) ⟨Nat.zero_le _, Nat.zero_le _⟩
    refine r_aload_n K 3 dX12_inverse_163 rfl rfl ?_
    refine r_iload K 7 dX12_inverse_164 rfl ?_
    refine w_callV K hl H (fun r h => c_X12_told l h) mC_yX12_told mM_RX12_195 mI_yX12_told mS_yX12_told mZ_RX12 vc12 (Nat.le_of_ble_eq_true rfl) (Nat.le_of_ble_eq_true rfl) np_yX12_told rfl (Nat.le_of_ble_eq_true rfl) dX12_inverse_166 (fun r8 H => ?_) ⟨Nat.zero_le _, Nat.zero_le _⟩
    cases H
    obtain ⟨rfl, rfl⟩ := jfin2 D
    exact r_lret K dX12_inverse_169
set_option maxRecDepth 10000 in
theorem t_X12_inverse_102 {X : jX} {l : Launch} {n : Nat} {Y : jY} (K : jOK X RX12 cX12_inverse 19 (some .long) 4) (hl : X.2.1 = l) {rr : Int64} {μr : jM} {v0 : Nat} {v1 : Int32} {v2 : Int32} {v3 : Int32} {v4 : Int32} {v5 : Int32} {v6 : Int64} {t0 : Int32} {μ : jM} {z : (Int64 × jM)} (H : b_X12_inverse_102 Y v0 v1 v2 v3 v4 v5 v6 t0 μ = some z) (D : z = (rr, μr)) : JW X (jEnd X n Y (some (.long rr)) μr 0 0) 0 0 n Y 102 [(0, .ref v0), (1, .int v1), (2, .int v2), (3, .int v3), (4, .int v4), (5, .int v5), (6, .long v6)] [.int t0] μ := by
  unfold b_X12_inverse_102 at H
  refine r_istore K [(8, .int _), (0, .ref _), (1, .int _), (2, .int _), (3, .int _), (4, .int _), (5, .int _), (6, .long _)] dX12_inverse_102 (by decide) rfl ?_
  refine r_iload_n K 3 dX12_inverse_104 rfl rfl ?_
  refine r_iload_n K 4 dX12_inverse_105 rfl rfl ?_
  refine w_icmp_ge K 113 dX12_inverse_106 (by decide) H (fun _ H => ?_) (fun _ H => ?_)
  · refine r_iload_n K 3 dX12_inverse_113 rfl rfl ?_
    exact r_sub [1, 2, 3, 4, 5, 6, 7, 0] rfl (t_X12_inverse_114 K hl H D)
  · refine r_iload_n K 4 dX12_inverse_109 rfl rfl ?_
    refine r_goto K 114 dX12_inverse_110 (by decide) ?_
    exact r_sub [1, 2, 3, 4, 5, 6, 7, 0] rfl (t_X12_inverse_114 K hl H D)
set_option maxRecDepth 10000 in
theorem t_X12_inverse_0 {X : jX} {l : Launch} {n : Nat} {Y : jY} (K : jOK X RX12 cX12_inverse 19 (some .long) 4) (hl : X.2.1 = l) {rr : Int64} {μr : jM} {v0 : Nat} {v1 : Int32} {v2 : Int32} {v3 : Int32} {v4 : Int32} {μ : jM} {z : (Int64 × jM)} (H : f_X12_inverse Y v0 v1 v2 v3 v4 μ = some z) (D : z = (rr, μr)) : JW X (jEnd X n Y (some (.long rr)) μr 0 0) 0 0 n Y 0 [(0, .ref v0), (1, .int v1), (2, .int v2), (3, .int v3), (4, .int v4)] [] μ := by
  unfold f_X12_inverse at H
  refine r_iload_n K 1 dX12_inverse_0 rfl rfl ?_
  refine w_callS K hl H (fun r h => c_X12_isDrawer l h) mC_yX12_isDrawer mM_RX12_253 mT_yX12_isDrawer mZ_RX12 (Nat.le_of_ble_eq_true rfl) (Nat.le_of_ble_eq_true rfl) np_yX12_isDrawer rfl (Nat.le_of_ble_eq_true rfl) dX12_inverse_1 (fun r1 H => ?_) ⟨Nat.zero_le _, Nat.zero_le _⟩
  refine w_if_eq K 58 dX12_inverse_4 (by decide) H (fun _ H => ?_) (fun _ H => ?_)
  · exact r_sub [] rfl (t_X12_inverse_58 K hl H D)
  · refine r_aload_n K 0 dX12_inverse_7 rfl rfl ?_
    refine w_getO K vc12 inX12 26 (by decide) mF_RX12_48 dX12_inverse_8 H (fun x2 H => ?_)
    refine r_iload_n K 1 dX12_inverse_11 rfl rfl ?_
    refine w_iald K dX12_inverse_12 H (fun x3 H => ?_)
    refine w_if_eq K 58 dX12_inverse_13 (by decide) H (fun _ H => ?_) (fun _ H => ?_)
    · exact r_sub [] rfl (t_X12_inverse_58 K hl H D)
    · refine r_iload_n K 2 dX12_inverse_16 rfl rfl ?_
      refine r_iconst (v := 0) K dX12_inverse_17 (by decide) ?_
      refine r_aload_n K 0 dX12_inverse_18 rfl rfl ?_
      refine w_getO K vc12 inX12 26 (by decide) mF_RX12_48 dX12_inverse_19 H (fun x4 H => ?_)
      refine r_iload_n K 1 dX12_inverse_22 rfl rfl ?_
      refine w_iald K dX12_inverse_23 H (fun x5 H => ?_)
      refine r_iconst (v := 1) K dX12_inverse_24 (by decide) ?_
      refine r_isub K dX12_inverse_25 ?_
      refine w_callS K hl H (fun r h => c_X12_in l h) mC_yX12_in mM_RX12_134 mT_yX12_in mZ_RX12 (Nat.le_of_ble_eq_true rfl) (Nat.le_of_ble_eq_true rfl) np_yX12_in rfl (Nat.le_of_ble_eq_true rfl) dX12_inverse_26 (fun r6 H => ?_) ⟨Nat.zero_le _, Nat.zero_le _⟩
      refine w_if_eq K 58 dX12_inverse_29 (by decide) H (fun _ H => ?_) (fun _ H => ?_)
      · exact r_sub [] rfl (t_X12_inverse_58 K hl H D)
      · refine r_iload_n K 3 dX12_inverse_32 rfl rfl ?_
        refine r_iconst (v := 0) K dX12_inverse_33 (by decide) ?_
        refine r_aload_n K 0 dX12_inverse_34 rfl rfl ?_
        refine w_getO K vc12 inX12 26 (by decide) mF_RX12_48 dX12_inverse_35 H (fun x7 H => ?_)
        refine r_iload_n K 1 dX12_inverse_38 rfl rfl ?_
        refine w_iald K dX12_inverse_39 H (fun x8 H => ?_)
        refine r_iconst (v := 1) K dX12_inverse_40 (by decide) ?_
        refine r_isub K dX12_inverse_41 ?_
        refine w_callS K hl H (fun r h => c_X12_in l h) mC_yX12_in mM_RX12_134 mT_yX12_in mZ_RX12 (Nat.le_of_ble_eq_true rfl) (Nat.le_of_ble_eq_true rfl) np_yX12_in rfl (Nat.le_of_ble_eq_true rfl) dX12_inverse_42 (fun r9 H => ?_) ⟨Nat.zero_le _, Nat.zero_le _⟩
        refine w_if_eq K 58 dX12_inverse_45 (by decide) H (fun _ H => ?_) (fun _ H => ?_)
        · exact r_sub [] rfl (t_X12_inverse_58 K hl H D)
        · refine r_iload K 4 dX12_inverse_48 rfl ?_
          refine r_iconst (v := 0) K dX12_inverse_50 (by decide) ?_
          refine r_iconst (v := 1) K dX12_inverse_51 (by decide) ?_
          refine w_callS K hl H (fun r h => c_X12_in l h) mC_yX12_in mM_RX12_134 mT_yX12_in mZ_RX12 (Nat.le_of_ble_eq_true rfl) (Nat.le_of_ble_eq_true rfl) np_yX12_in rfl (Nat.le_of_ble_eq_true rfl) dX12_inverse_52 (fun r10 H => ?_) ⟨Nat.zero_le _, Nat.zero_le _⟩
          refine w_if_ne K 62 dX12_inverse_55 (by decide) H (fun _ H => ?_) (fun _ H => ?_)
          · refine r_aload_n K 0 dX12_inverse_62 rfl rfl ?_
            refine w_getO K vc12 inX12 26 (by decide) mF_RX12_48 dX12_inverse_63 H (fun x11 H => ?_)
            refine r_iload_n K 1 dX12_inverse_66 rfl rfl ?_
            refine w_iald K dX12_inverse_67 H (fun x12 H => ?_)
            refine r_istore K [(5, .int _), (0, .ref _), (1, .int _), (2, .int _), (3, .int _), (4, .int _)] dX12_inverse_68 (by decide) rfl ?_
            refine r_aload_n K 1 dX12_inverse_70 rfl rfl ?_
            refine r_iload_n K 2 dX12_inverse_71 rfl rfl ?_
            refine r_iconst (v := 0) K dX12_inverse_72 (by decide) ?_
            refine r_iload K 0 dX12_inverse_73 rfl ?_
            refine r_lconst (v := 0) K dX12_inverse_75 (by decide) ?_
            refine w_callV K hl H (fun r h => c_X12_valueAt l h) mC_yX12_valueAt mM_RX12_279 mI_yX12_valueAt mS_yX12_valueAt mZ_RX12 vc12 (Nat.le_of_ble_eq_true rfl) (Nat.le_of_ble_eq_true rfl) np_yX12_valueAt rfl (Nat.le_of_ble_eq_true rfl) dX12_inverse_76 (fun r13 H => ?_) ⟨Nat.zero_le _, Nat.zero_le _⟩
            refine r_lstore K [(6, .long _), (5, .int _), (0, .ref _), (1, .int _), (2, .int _), (3, .int _), (4, .int _)] dX12_inverse_79 (by decide) rfl ?_
            refine r_lload K 0 dX12_inverse_81 rfl ?_
            refine r_lconst (v := 0) K dX12_inverse_83 (by decide) ?_
            refine r_lcmp K dX12_inverse_84 ?_
            refine w_if_ne K 92 dX12_inverse_85 (by decide) H (fun _ H => ?_) (fun _ H => ?_)
            · refine r_iload_n K 4 dX12_inverse_92 rfl rfl ?_
              refine r_iload_n K 5 dX12_inverse_93 rfl rfl ?_
              refine w_icmp_ge K 101 dX12_inverse_94 (by decide) H (fun _ H => ?_) (fun _ H => ?_)
              · refine r_iload_n K 5 dX12_inverse_101 rfl rfl ?_
                exact r_sub [2, 3, 4, 5, 6, 1, 0] rfl (t_X12_inverse_102 K hl H D)
              · refine r_iload_n K 4 dX12_inverse_97 rfl rfl ?_
                refine r_goto K 102 dX12_inverse_98 (by decide) ?_
                exact r_sub [2, 3, 4, 5, 6, 1, 0] rfl (t_X12_inverse_102 K hl H D)
            · refine r_ldc2 K (-2) mc_RX12_232 dX12_inverse_88 ?_
              cases H
              obtain ⟨rfl, rfl⟩ := jfin2 D
              exact r_lret K dX12_inverse_91
          · exact r_sub [] rfl (t_X12_inverse_58 K hl H D)
theorem c_X12_inverse (l : Launch) {n : Nat} {Y : jY} {v0 : Nat} {v1 : Int32} {v2 : Int32} {v3 : Int32} {v4 : Int32} {μ : jM} {z : Int64 × jM} (H : f_X12_inverse Y v0 v1 v2 v3 v4 μ = some z) : jC l yX12_inverse cX12_inverse 19 (some .long) 4 0 0 [.ref v0, .int v1, .int v2, .int v3, .int v4] n Y μ n Y (some (.long z.1)) z.2 := by
  refine jC_of (by decide +kernel) (Nat.le_of_ble_eq_true rfl) (fun X hl K _ _ _ => ?_)
  obtain ⟨rr, μr⟩ := z
  exact t_X12_inverse_0 K hl H rfl
/-! RX12 first()I -/
def b_X12_first_21 (Y : jY) (t0 : Int32) (μ : jM) : Option (Int32 × jM) :=
  some (t0, μ)
def f_X12_first (Y : jY) (v0 : Nat) (μ : jM) : Option (Int32 × jM) :=
  (jgI Y μ v0 12 10).bind fun x1 =>
  if x1 = ((1 : Int32)) then
    (jgO Y μ v0 12 11).bind fun x3 =>
    (jaI Y μ x3 20 ((0 : Int32))).bind fun x4 =>
    b_X12_first_21 Y x4 μ
  else
    (jgI Y μ v0 12 42).bind fun x2 =>
    b_X12_first_21 Y x2 μ
set_option maxRecDepth 10000 in
theorem t_X12_first_21 {X : jX} {l : Launch} {n : Nat} {Y : jY} (K : jOK X RX12 cX12_first 1 (some .int) 1) (hl : X.2.1 = l) {rr : Int32} {μr : jM} {t0 : Int32} {μ : jM} {z : (Int32 × jM)} (H : b_X12_first_21 Y t0 μ = some z) (D : z = (rr, μr)) : JW X (jEnd X n Y (some (.int rr)) μr 0 0) 0 0 n Y 21 [] [.int t0] μ := by
  unfold b_X12_first_21 at H
  cases H
  obtain ⟨rfl, rfl⟩ := jfin2 D
  exact r_iret K dX12_first_21
set_option maxRecDepth 10000 in
theorem t_X12_first_0 {X : jX} {l : Launch} {n : Nat} {Y : jY} (K : jOK X RX12 cX12_first 1 (some .int) 1) (hl : X.2.1 = l) {rr : Int32} {μr : jM} {v0 : Nat} {μ : jM} {z : (Int32 × jM)} (H : f_X12_first Y v0 μ = some z) (D : z = (rr, μr)) : JW X (jEnd X n Y (some (.int rr)) μr 0 0) 0 0 n Y 0 [(0, .ref v0)] [] μ := by
  unfold f_X12_first at H
  refine r_aload_n K 0 dX12_first_0 rfl rfl ?_
  refine w_getI K vc12 inX12 10 (by decide) mF_RX12_145 dX12_first_1 H (fun x1 H => ?_)
  refine r_iconst (v := 1) K dX12_first_4 (by decide) ?_
  refine w_icmp_ne K 17 dX12_first_5 (by decide) H (fun _ H => ?_) (fun _ H => ?_)
  · refine r_aload_n K 0 dX12_first_17 rfl rfl ?_
    refine w_getI K vc12 inX12 42 (by decide) mF_RX12_323 dX12_first_18 H (fun x2 H => ?_)
    exact r_sub [] rfl (t_X12_first_21 K hl H D)
  · refine r_aload_n K 0 dX12_first_8 rfl rfl ?_
    refine w_getO K vc12 inX12 11 (by decide) mF_RX12_20 dX12_first_9 H (fun x3 H => ?_)
    refine r_iconst (v := 0) K dX12_first_12 (by decide) ?_
    refine w_iald K dX12_first_13 H (fun x4 H => ?_)
    refine r_goto K 21 dX12_first_14 (by decide) ?_
    exact r_sub [] rfl (t_X12_first_21 K hl H D)
theorem c_X12_first (l : Launch) {n : Nat} {Y : jY} {v0 : Nat} {μ : jM} {z : Int32 × jM} (H : f_X12_first Y v0 μ = some z) : jC l yX12_first cX12_first 1 (some .int) 1 0 0 [.ref v0] n Y μ n Y (some (.int z.1)) z.2 := by
  refine jC_of (by decide +kernel) (Nat.le_of_ble_eq_true rfl) (fun X hl K _ _ _ => ?_)
  obtain ⟨rr, μr⟩ := z
  exact t_X12_first_0 K hl H rfl
/-! RX12 isSquare(I)Z -/
def b_X12_isSquare_28 (Y : jY) (t0 : Int32) (μ : jM) : Option (Int32 × jM) :=
  (jbool t0).bind fun x1 =>
  some (x1, μ)
def b_X12_isSquare_2 (Y : jY) (v0 : Int32) (v1 : Int32) (μ : jM) : Option ((Int32 × jM) ⊕ (Int32 × jM)) :=
  if v0 ≤ ((v1 * v1)) then
    if ((v1 * v1)) = v0 then
      (b_X12_isSquare_28 Y (1 : Int32) μ).map (fun r => (.inr r))
    else
      (b_X12_isSquare_28 Y (0 : Int32) μ).map (fun r => (.inr r))
  else
    some (.inl ((v1 + ((1 : Int32))), μ))
def f_X12_isSquare (Y : jY) (v0 : Int32) (μ : jM) : Option (Int32 × jM) :=
  jit jF (fun (s : Int32 × jM) => b_X12_isSquare_2 Y v0 s.1 s.2) ((0 : Int32), μ)
set_option maxRecDepth 10000 in
theorem t_X12_isSquare_28 {X : jX} {l : Launch} {n : Nat} {Y : jY} (K : jOK X RX12 cX12_isSquare 2 (some .boolean) 1) (hl : X.2.1 = l) {rr : Int32} {μr : jM} {t0 : Int32} {μ : jM} {z : (Int32 × jM)} (H : b_X12_isSquare_28 Y t0 μ = some z) (D : z = (rr, μr)) : JW X (jEnd X n Y (some (.int rr)) μr 0 0) 0 0 n Y 28 [] [.int t0] μ := by
  unfold b_X12_isSquare_28 at H
  refine w_zret K dX12_isSquare_28 H (fun hz H => ?_)
  cases H
  obtain ⟨rfl, rfl⟩ := jfin2 D
  exact r_zret K hz dX12_isSquare_28
set_option maxRecDepth 10000 in
theorem t_X12_isSquare_2 {X : jX} {l : Launch} {n : Nat} {Y : jY} (K : jOK X RX12 cX12_isSquare 2 (some .boolean) 1) (hl : X.2.1 = l) {rr : Int32} {μr : jM} {v0 : Int32} {v1 : Int32} {μ : jM} {z : ((Int32 × jM) ⊕ (Int32 × jM))} (H : b_X12_isSquare_2 Y v0 v1 μ = some z) (D : Sum.elim (fun (s : Int32 × jM) => JW X (jEnd X n Y (some (.int rr)) μr 0 0) 0 0 n Y 2 [(0, .int v0), (1, .int s.1)] [] s.2) (fun r => r = (rr, μr)) z) : JW X (jEnd X n Y (some (.int rr)) μr 0 0) 0 0 n Y 2 [(0, .int v0), (1, .int v1)] [] μ := by
  unfold b_X12_isSquare_2 at H
  refine r_iload_n K 1 dX12_isSquare_2 rfl rfl ?_
  refine r_iload_n K 1 dX12_isSquare_3 rfl rfl ?_
  refine r_imul K dX12_isSquare_4 ?_
  refine r_iload_n K 0 dX12_isSquare_5 rfl rfl ?_
  refine w_icmp_ge K 16 dX12_isSquare_6 (by decide) H (fun _ H => ?_) (fun _ H => ?_)
  · refine r_iload_n K 1 dX12_isSquare_16 rfl rfl ?_
    refine r_iload_n K 1 dX12_isSquare_17 rfl rfl ?_
    refine r_imul K dX12_isSquare_18 ?_
    refine r_iload_n K 0 dX12_isSquare_19 rfl rfl ?_
    refine w_icmp_ne K 27 dX12_isSquare_20 (by decide) H (fun _ H => ?_) (fun _ H => ?_)
    · refine r_iconst (v := 0) K dX12_isSquare_27 (by decide) ?_
      obtain ⟨z2, H2, rfl⟩ := jmap H
      exact r_sub [] rfl (t_X12_isSquare_28 K hl H2 D)
    · refine r_iconst (v := 1) K dX12_isSquare_23 (by decide) ?_
      refine r_goto K 28 dX12_isSquare_24 (by decide) ?_
      obtain ⟨z2, H2, rfl⟩ := jmap H
      exact r_sub [] rfl (t_X12_isSquare_28 K hl H2 D)
  · refine r_iload_n K 1 dX12_isSquare_9 rfl rfl ?_
    refine r_iconst (v := 1) K dX12_isSquare_10 (by decide) ?_
    refine r_iadd K dX12_isSquare_11 ?_
    refine r_istore_n K [(1, .int _), (0, .int _)] dX12_isSquare_12 rfl (by decide) rfl ?_
    refine r_goto K 2 dX12_isSquare_13 (by decide) ?_
    cases H
    exact r_sub [1, 0] rfl D
set_option maxRecDepth 10000 in
theorem l_X12_isSquare_2 {X : jX} {l : Launch} {n : Nat} {Y : jY} (K : jOK X RX12 cX12_isSquare 2 (some .boolean) 1) (hl : X.2.1 = l) {rr : Int32} {μr : jM} {v0 : Int32}  {s0 : Int32 × jM} {z : (Int32 × jM)} (H : jit jF (fun (s : Int32 × jM) => b_X12_isSquare_2 Y v0 s.1 s.2) s0 = some z) (D : z = (rr, μr)) : JW X (jEnd X n Y (some (.int rr)) μr 0 0) 0 0 n Y 2 [(0, .int v0), (1, .int s0.1)] [] s0.2 :=
  jit_ind (P := fun (s : Int32 × jM) => JW X (jEnd X n Y (some (.int rr)) μr 0 0) 0 0 n Y 2 [(0, .int v0), (1, .int s.1)] [] s.2) (D := fun r => r = (rr, μr)) (fun s z Hs Ds => t_X12_isSquare_2 K hl Hs Ds) jF s0 z H D
set_option maxRecDepth 10000 in
theorem t_X12_isSquare_0 {X : jX} {l : Launch} {n : Nat} {Y : jY} (K : jOK X RX12 cX12_isSquare 2 (some .boolean) 1) (hl : X.2.1 = l) {rr : Int32} {μr : jM} {v0 : Int32} {μ : jM} {z : (Int32 × jM)} (H : f_X12_isSquare Y v0 μ = some z) (D : z = (rr, μr)) : JW X (jEnd X n Y (some (.int rr)) μr 0 0) 0 0 n Y 0 [(0, .int v0)] [] μ := by
  unfold f_X12_isSquare at H
  refine r_iconst (v := 0) K dX12_isSquare_0 (by decide) ?_
  refine r_istore_n K [(1, .int _), (0, .int _)] dX12_isSquare_1 rfl (by decide) rfl ?_
  exact r_sub [1, 0] rfl (l_X12_isSquare_2 K hl H D)
theorem c_X12_isSquare (l : Launch) {n : Nat} {Y : jY} {v0 : Int32} {μ : jM} {z : Int32 × jM} (H : f_X12_isSquare Y v0 μ = some z) : jC l yX12_isSquare cX12_isSquare 2 (some .boolean) 1 0 0 [.int v0] n Y μ n Y (some (.int z.1)) z.2 := by
  refine jC_of (by decide +kernel) (Nat.le_of_ble_eq_true rfl) (fun X hl K _ _ _ => ?_)
  obtain ⟨rr, μr⟩ := z
  exact t_X12_isSquare_0 K hl H rfl
/-! RX12 isSome(II)Z -/
def b_X12_isSome_112 (Y : jY) (t0 : Int32) (μ : jM) : Option (Int32 × jM) :=
  (jbool t0).bind fun x1 =>
  some (x1, μ)
def b_X12_isSome_111 (Y : jY) (μ : jM) : Option (Int32 × jM) :=
  b_X12_isSome_112 Y (0 : Int32) μ
def b_X12_isSome_85 (Y : jY) (t0 : Int32) (μ : jM) : Option (Int32 × jM) :=
  (jbool t0).bind fun x1 =>
  some (x1, μ)
def b_X12_isSome_66 (Y : jY) (t0 : Int32) (μ : jM) : Option (Int32 × jM) :=
  (jbool t0).bind fun x1 =>
  some (x1, μ)
def b_X12_isSome_61 (Y : jY) (μ : jM) : Option (Int32 × jM) :=
  b_X12_isSome_66 Y (1 : Int32) μ
def b_X12_isSome_65 (Y : jY) (μ : jM) : Option (Int32 × jM) :=
  b_X12_isSome_66 Y (0 : Int32) μ
def b_X12_isSome_31 (Y : jY) (v0 : Nat) (μ : jM) : Option (Int32 × jM) :=
  (jgI Y μ v0 12 10).bind fun x1 =>
  if x1 = ((3 : Int32)) then
    (jgI Y μ v0 12 42).bind fun x2 =>
    (jgI Y μ v0 12 44).bind fun x3 =>
    if x2 = x3 then
      (jgI Y μ v0 12 45).bind fun x4 =>
      (jgI Y μ v0 12 46).bind fun x5 =>
      if x4 = x5 then
        b_X12_isSome_61 Y μ
      else
        b_X12_isSome_65 Y μ
    else
      b_X12_isSome_65 Y μ
  else
    b_X12_isSome_65 Y μ
def f_X12_isSome (Y : jY) (v0 : Nat) (v1 : Int32) (v2 : Int32) (μ : jM) : Option (Int32 × jM) :=
  if v1 = 0 then
    (jgI Y μ v0 12 10).bind fun x13 =>
    if x13 = ((1 : Int32)) then
      b_X12_isSome_61 Y μ
    else
      (jgI Y μ v0 12 10).bind fun x14 =>
      if x14 = ((2 : Int32)) then
        (jgI Y μ v0 12 42).bind fun x15 =>
        (jgI Y μ v0 12 43).bind fun x16 =>
        if x15 = x16 then
          b_X12_isSome_61 Y μ
        else
          b_X12_isSome_31 Y v0 μ
      else
        b_X12_isSome_31 Y v0 μ
  else
    if v1 = ((1 : Int32)) then
      (jrcv Y v0 12 (f_X12_first Y v0 μ)).bind fun r12 =>
      if r12.1 = v2 then
        b_X12_isSome_85 Y (1 : Int32) r12.2
      else
        b_X12_isSome_85 Y (0 : Int32) r12.2
    else
      if v1 = ((2 : Int32)) then
        (jgI Y μ v0 12 10).bind fun x10 =>
        if x10 ≤ ((1 : Int32)) then
          b_X12_isSome_111 Y μ
        else
          (jgI Y μ v0 12 45).bind fun x11 =>
          if x11 = v2 then
            b_X12_isSome_112 Y (1 : Int32) μ
          else
            b_X12_isSome_111 Y μ
      else
        (jgI Y μ v0 12 10).bind fun x1 =>
        if ((3 : Int32)) ≤ x1 then
          (jgI Y μ v0 12 42).bind fun x2 =>
          (jgI Y μ v0 12 43).bind fun x3 =>
          (jgI Y μ v0 12 42).bind fun x4 =>
          (jgI Y μ v0 12 43).bind fun x5 =>
          (jgI Y μ v0 12 45).bind fun x6 =>
          (f_X12_isSquare Y ((((((x2 - x3)) * ((x4 - x5)))) + ((((4 : Int32)) * x6)))) μ).bind fun r7 =>
          (jbool r7.1).bind fun x8 =>
          some (x8, r7.2)
        else
          (jbool ((1 : Int32))).bind fun x9 =>
          some (x9, μ)
set_option maxRecDepth 10000 in
theorem t_X12_isSome_112 {X : jX} {l : Launch} {n : Nat} {Y : jY} (K : jOK X RX12 cX12_isSome 3 (some .boolean) 2) (hl : X.2.1 = l) {rr : Int32} {μr : jM} {t0 : Int32} {μ : jM} {z : (Int32 × jM)} (H : b_X12_isSome_112 Y t0 μ = some z) (D : z = (rr, μr)) : JW X (jEnd X n Y (some (.int rr)) μr 0 0) 0 0 n Y 112 [] [.int t0] μ := by
  unfold b_X12_isSome_112 at H
  refine w_zret K dX12_isSome_112 H (fun hz H => ?_)
  cases H
  obtain ⟨rfl, rfl⟩ := jfin2 D
  exact r_zret K hz dX12_isSome_112
set_option maxRecDepth 10000 in
theorem t_X12_isSome_111 {X : jX} {l : Launch} {n : Nat} {Y : jY} (K : jOK X RX12 cX12_isSome 3 (some .boolean) 2) (hl : X.2.1 = l) {rr : Int32} {μr : jM} {μ : jM} {z : (Int32 × jM)} (H : b_X12_isSome_111 Y μ = some z) (D : z = (rr, μr)) : JW X (jEnd X n Y (some (.int rr)) μr 0 0) 0 0 n Y 111 [] [] μ := by
  unfold b_X12_isSome_111 at H
  refine r_iconst (v := 0) K dX12_isSome_111 (by decide) ?_
  exact r_sub [] rfl (t_X12_isSome_112 K hl H D)
set_option maxRecDepth 10000 in
theorem t_X12_isSome_85 {X : jX} {l : Launch} {n : Nat} {Y : jY} (K : jOK X RX12 cX12_isSome 3 (some .boolean) 2) (hl : X.2.1 = l) {rr : Int32} {μr : jM} {t0 : Int32} {μ : jM} {z : (Int32 × jM)} (H : b_X12_isSome_85 Y t0 μ = some z) (D : z = (rr, μr)) : JW X (jEnd X n Y (some (.int rr)) μr 0 0) 0 0 n Y 85 [] [.int t0] μ := by
  unfold b_X12_isSome_85 at H
  refine w_zret K dX12_isSome_85 H (fun hz H => ?_)
  cases H
  obtain ⟨rfl, rfl⟩ := jfin2 D
  exact r_zret K hz dX12_isSome_85
set_option maxRecDepth 10000 in
theorem t_X12_isSome_66 {X : jX} {l : Launch} {n : Nat} {Y : jY} (K : jOK X RX12 cX12_isSome 3 (some .boolean) 2) (hl : X.2.1 = l) {rr : Int32} {μr : jM} {t0 : Int32} {μ : jM} {z : (Int32 × jM)} (H : b_X12_isSome_66 Y t0 μ = some z) (D : z = (rr, μr)) : JW X (jEnd X n Y (some (.int rr)) μr 0 0) 0 0 n Y 66 [] [.int t0] μ := by
  unfold b_X12_isSome_66 at H
  refine w_zret K dX12_isSome_66 H (fun hz H => ?_)
  cases H
  obtain ⟨rfl, rfl⟩ := jfin2 D
  exact r_zret K hz dX12_isSome_66
set_option maxRecDepth 10000 in
theorem t_X12_isSome_61 {X : jX} {l : Launch} {n : Nat} {Y : jY} (K : jOK X RX12 cX12_isSome 3 (some .boolean) 2) (hl : X.2.1 = l) {rr : Int32} {μr : jM} {μ : jM} {z : (Int32 × jM)} (H : b_X12_isSome_61 Y μ = some z) (D : z = (rr, μr)) : JW X (jEnd X n Y (some (.int rr)) μr 0 0) 0 0 n Y 61 [] [] μ := by
  unfold b_X12_isSome_61 at H
  refine r_iconst (v := 1) K dX12_isSome_61 (by decide) ?_
  refine r_goto K 66 dX12_isSome_62 (by decide) ?_
  exact r_sub [] rfl (t_X12_isSome_66 K hl H D)
set_option maxRecDepth 10000 in
theorem t_X12_isSome_65 {X : jX} {l : Launch} {n : Nat} {Y : jY} (K : jOK X RX12 cX12_isSome 3 (some .boolean) 2) (hl : X.2.1 = l) {rr : Int32} {μr : jM} {μ : jM} {z : (Int32 × jM)} (H : b_X12_isSome_65 Y μ = some z) (D : z = (rr, μr)) : JW X (jEnd X n Y (some (.int rr)) μr 0 0) 0 0 n Y 65 [] [] μ := by
  unfold b_X12_isSome_65 at H
  refine r_iconst (v := 0) K dX12_isSome_65 (by decide) ?_
  exact r_sub [] rfl (t_X12_isSome_66 K hl H D)
set_option maxRecDepth 10000 in
theorem t_X12_isSome_31 {X : jX} {l : Launch} {n : Nat} {Y : jY} (K : jOK X RX12 cX12_isSome 3 (some .boolean) 2) (hl : X.2.1 = l) {rr : Int32} {μr : jM} {v0 : Nat} {μ : jM} {z : (Int32 × jM)} (H : b_X12_isSome_31 Y v0 μ = some z) (D : z = (rr, μr)) : JW X (jEnd X n Y (some (.int rr)) μr 0 0) 0 0 n Y 31 [(0, .ref v0)] [] μ := by
  unfold b_X12_isSome_31 at H
  refine r_aload_n K 0 dX12_isSome_31 rfl rfl ?_
  refine w_getI K vc12 inX12 10 (by decide) mF_RX12_145 dX12_isSome_32 H (fun x1 H => ?_)
  refine r_iconst (v := 3) K dX12_isSome_35 (by decide) ?_
  refine w_icmp_ne K 65 dX12_isSome_36 (by decide) H (fun _ H => ?_) (fun _ H => ?_)
  · exact r_sub [] rfl (t_X12_isSome_65 K hl H D)
  · refine r_aload_n K 0 dX12_isSome_39 rfl rfl ?_
    refine w_getI K vc12 inX12 42 (by decide) mF_RX12_323 dX12_isSome_40 H (fun x2 H => ?_)
    refine r_aload_n K 0 dX12_isSome_43 rfl rfl ?_
    refine w_getI K vc12 inX12 44 (by decide) mF_RX12_338 dX12_isSome_44 H (fun x3 H => ?_)
    refine w_icmp_ne K 65 dX12_isSome_47 (by decide) H (fun _ H => ?_) (fun _ H => ?_)
    · exact r_sub [] rfl (t_X12_isSome_65 K hl H D)
    · refine r_aload_n K 0 dX12_isSome_50 rfl rfl ?_
      refine w_getI K vc12 inX12 45 (by decide) mF_RX12_329 dX12_isSome_51 H (fun x4 H => ?_)
      refine r_aload_n K 0 dX12_isSome_54 rfl rfl ?_
      refine w_getI K vc12 inX12 46 (by decide) mF_RX12_341 dX12_isSome_55 H (fun x5 H => ?_)
      refine w_icmp_ne K 65 dX12_isSome_58 (by decide) H (fun _ H => ?_) (fun _ H => ?_)
      · exact r_sub [] rfl (t_X12_isSome_65 K hl H D)
      · exact r_sub [] rfl (t_X12_isSome_61 K hl H D)
set_option maxRecDepth 10000 in
theorem t_X12_isSome_0 {X : jX} {l : Launch} {n : Nat} {Y : jY} (K : jOK X RX12 cX12_isSome 3 (some .boolean) 2) (hl : X.2.1 = l) {rr : Int32} {μr : jM} {v0 : Nat} {v1 : Int32} {v2 : Int32} {μ : jM} {z : (Int32 × jM)} (H : f_X12_isSome Y v0 v1 v2 μ = some z) (D : z = (rr, μr)) : JW X (jEnd X n Y (some (.int rr)) μr 0 0) 0 0 n Y 0 [(0, .ref v0), (1, .int v1), (2, .int v2)] [] μ := by
  unfold f_X12_isSome at H
  refine r_iload_n K 1 dX12_isSome_0 rfl rfl ?_
  refine w_if_ne K 67 dX12_isSome_1 (by decide) H (fun _ H => ?_) (fun _ H => ?_)
  · refine r_iload_n K 1 dX12_isSome_67 rfl rfl ?_
    refine r_iconst (v := 1) K dX12_isSome_68 (by decide) ?_
    refine w_icmp_ne K 86 dX12_isSome_69 (by decide) H (fun _ H => ?_) (fun _ H => ?_)
    · refine r_iload_n K 1 dX12_isSome_86 rfl rfl ?_
      refine r_iconst (v := 2) K dX12_isSome_87 (by decide) ?_
      refine w_icmp_ne K 113 dX12_isSome_88 (by decide) H (fun _ H => ?_) (fun _ H => ?_)
      · refine r_aload_n K 0 dX12_isSome_113 rfl rfl ?_
        refine w_getI K vc12 inX12 10 (by decide) mF_RX12_145 dX12_isSome_114 H (fun x1 H => ?_)
        refine r_iconst (v := 3) K dX12_isSome_117 (by decide) ?_
        refine w_icmp_ge K 123 dX12_isSome_118 (by decide) H (fun _ H => ?_) (fun _ H => ?_)
        · refine r_aload_n K 0 dX12_isSome_123 rfl rfl ?_
          refine w_getI K vc12 inX12 42 (by decide) mF_RX12_323 dX12_isSome_124 H (fun x2 H => ?_)
          refine r_aload_n K 0 dX12_isSome_127 rfl rfl ?_
          refine w_getI K vc12 inX12 43 (by decide) mF_RX12_326 dX12_isSome_128 H (fun x3 H => ?_)
          refine r_isub K dX12_isSome_131 ?_
          refine r_aload_n K 0 dX12_isSome_132 rfl rfl ?_
          refine w_getI K vc12 inX12 42 (by decide) mF_RX12_323 dX12_isSome_133 H (fun x4 H => ?_)
          refine r_aload_n K 0 dX12_isSome_136 rfl rfl ?_
          refine w_getI K vc12 inX12 43 (by decide) mF_RX12_326 dX12_isSome_137 H (fun x5 H => ?_)
          refine r_isub K dX12_isSome_140 ?_
          refine r_imul K dX12_isSome_141 ?_
          refine r_iconst (v := 4) K dX12_isSome_142 (by decide) ?_
          refine r_aload_n K 0 dX12_isSome_143 rfl rfl ?_
          refine w_getI K vc12 inX12 45 (by decide) mF_RX12_329 dX12_isSome_144 H (fun x6 H => ?_)
          refine r_imul K dX12_isSome_147 ?_
          refine r_iadd K dX12_isSome_148 ?_
          refine w_callS K hl H (fun r h => c_X12_isSquare l h) mC_yX12_isSquare mM_RX12_320 mT_yX12_isSquare mZ_RX12 (Nat.le_of_ble_eq_true rfl) (Nat.le_of_ble_eq_true rfl) np_yX12_isSquare rfl (Nat.le_of_ble_eq_true rfl) dX12_isSome_149 (fun r7 H => ?_) ⟨Nat.zero_le _, Nat.zero_le _⟩
          refine w_zret K dX12_isSome_152 H (fun hz H => ?_)
          cases H
          obtain ⟨rfl, rfl⟩ := jfin2 D
          exact r_zret K hz dX12_isSome_152
        · refine r_iconst (v := 1) K dX12_isSome_121 (by decide) ?_
          refine w_zret K dX12_isSome_122 H (fun hz H => ?_)
          cases H
          obtain ⟨rfl, rfl⟩ := jfin2 D
          exact r_zret K hz dX12_isSome_122
      · refine r_aload_n K 0 dX12_isSome_91 rfl rfl ?_
        refine w_getI K vc12 inX12 10 (by decide) mF_RX12_145 dX12_isSome_92 H (fun x10 H => ?_)
        refine r_iconst (v := 1) K dX12_isSome_95 (by decide) ?_
        refine w_icmp_le K 111 dX12_isSome_96 (by decide) H (fun _ H => ?_) (fun _ H => ?_)
        · exact r_sub [] rfl (t_X12_isSome_111 K hl H D)
        · refine r_aload_n K 0 dX12_isSome_99 rfl rfl ?_
          refine w_getI K vc12 inX12 45 (by decide) mF_RX12_329 dX12_isSome_100 H (fun x11 H => ?_)
          refine r_iload_n K 2 dX12_isSome_103 rfl rfl ?_
          refine w_icmp_ne K 111 dX12_isSome_104 (by decide) H (fun _ H => ?_) (fun _ H => ?_)
          · exact r_sub [] rfl (t_X12_isSome_111 K hl H D)
          · refine r_iconst (v := 1) K dX12_isSome_107 (by decide) ?_
            refine r_goto K 112 dX12_isSome_108 (by decide) ?_
            exact r_sub [] rfl (t_X12_isSome_112 K hl H D)
    · refine r_aload_n K 0 dX12_isSome_72 rfl rfl ?_
      refine w_callV K hl H (fun r h => c_X12_first l h) mC_yX12_first mM_RX12_344 mI_yX12_first mS_yX12_first mZ_RX12 vc12 (Nat.le_of_ble_eq_true rfl) (Nat.le_of_ble_eq_true rfl) np_yX12_first rfl (Nat.le_of_ble_eq_true rfl) dX12_isSome_73 (fun r12 H => ?_) ⟨Nat.zero_le _, Nat.zero_le _⟩
      refine r_iload_n K 2 dX12_isSome_76 rfl rfl ?_
      refine w_icmp_ne K 84 dX12_isSome_77 (by decide) H (fun _ H => ?_) (fun _ H => ?_)
      · refine r_iconst (v := 0) K dX12_isSome_84 (by decide) ?_
        exact r_sub [] rfl (t_X12_isSome_85 K hl H D)
      · refine r_iconst (v := 1) K dX12_isSome_80 (by decide) ?_
        refine r_goto K 85 dX12_isSome_81 (by decide) ?_
        exact r_sub [] rfl (t_X12_isSome_85 K hl H D)
  · refine r_aload_n K 0 dX12_isSome_4 rfl rfl ?_
    refine w_getI K vc12 inX12 10 (by decide) mF_RX12_145 dX12_isSome_5 H (fun x13 H => ?_)
    refine r_iconst (v := 1) K dX12_isSome_8 (by decide) ?_
    refine w_icmp_eq K 61 dX12_isSome_9 (by decide) H (fun _ H => ?_) (fun _ H => ?_)
    · exact r_sub [] rfl (t_X12_isSome_61 K hl H D)
    · refine r_aload_n K 0 dX12_isSome_12 rfl rfl ?_
      refine w_getI K vc12 inX12 10 (by decide) mF_RX12_145 dX12_isSome_13 H (fun x14 H => ?_)
      refine r_iconst (v := 2) K dX12_isSome_16 (by decide) ?_
      refine w_icmp_ne K 31 dX12_isSome_17 (by decide) H (fun _ H => ?_) (fun _ H => ?_)
      · exact r_sub [0] rfl (t_X12_isSome_31 K hl H D)
      · refine r_aload_n K 0 dX12_isSome_20 rfl rfl ?_
        refine w_getI K vc12 inX12 42 (by decide) mF_RX12_323 dX12_isSome_21 H (fun x15 H => ?_)
        refine r_aload_n K 0 dX12_isSome_24 rfl rfl ?_
        refine w_getI K vc12 inX12 43 (by decide) mF_RX12_326 dX12_isSome_25 H (fun x16 H => ?_)
        refine w_icmp_eq K 61 dX12_isSome_28 (by decide) H (fun _ H => ?_) (fun _ H => ?_)
        · exact r_sub [] rfl (t_X12_isSome_61 K hl H D)
        · exact r_sub [0] rfl (t_X12_isSome_31 K hl H D)
theorem c_X12_isSome (l : Launch) {n : Nat} {Y : jY} {v0 : Nat} {v1 : Int32} {v2 : Int32} {μ : jM} {z : Int32 × jM} (H : f_X12_isSome Y v0 v1 v2 μ = some z) : jC l yX12_isSome cX12_isSome 3 (some .boolean) 2 0 0 [.ref v0, .int v1, .int v2] n Y μ n Y (some (.int z.1)) z.2 := by
  refine jC_of (by decide +kernel) (Nat.le_of_ble_eq_true rfl) (fun X hl K _ _ _ => ?_)
  obtain ⟨rr, μr⟩ := z
  exact t_X12_isSome_0 K hl H rfl
/-! RX12 draw(I)I -/
def f_X12_draw (Y : jY) (v0 : Nat) (v1 : Int32) (μ : jM) : Option (Int32 × jM) :=
  (jgI Y μ v0 12 41).bind fun x1 =>
  (jremI ((((((25173 : Int32)) * x1)) + ((13849 : Int32)))) ((65536 : Int32))).bind fun x2 =>
  (jput Y μ v0 12 41 (.int x2)).bind fun μ3 =>
  (jgI Y μ3 v0 12 41).bind fun x4 =>
  (jdivI x4 ((4 : Int32))).bind fun x5 =>
  (jremI x5 v1).bind fun x6 =>
  some (x6, μ3)
set_option maxRecDepth 10000 in
theorem t_X12_draw_0 {X : jX} {l : Launch} {n : Nat} {Y : jY} (K : jOK X RX12 cX12_draw 2 (some .int) 1) (hl : X.2.1 = l) {rr : Int32} {μr : jM} {v0 : Nat} {v1 : Int32} {μ : jM} {z : (Int32 × jM)} (H : f_X12_draw Y v0 v1 μ = some z) (D : z = (rr, μr)) : JW X (jEnd X n Y (some (.int rr)) μr 0 0) 0 0 n Y 0 [(0, .ref v0), (1, .int v1)] [] μ := by
  unfold f_X12_draw at H
  refine r_aload_n K 0 dX12_draw_0 rfl rfl ?_
  refine r_sipush (v := 25173) K dX12_draw_1 (by decide) ?_
  refine r_aload_n K 0 dX12_draw_4 rfl rfl ?_
  refine w_getI K vc12 inX12 41 (by decide) mF_RX12_309 dX12_draw_5 H (fun x1 H => ?_)
  refine r_imul K dX12_draw_8 ?_
  refine r_sipush (v := 13849) K dX12_draw_9 (by decide) ?_
  refine r_iadd K dX12_draw_12 ?_
  refine r_ldc_w K (65536) mc_RX12_312 dX12_draw_13 ?_
  refine w_irem K dX12_draw_16 H (fun x2 H => ?_)
  refine w_put K vc12 inX12 tyX12_ok nmX12 41 (by decide) mF_RX12_309 rfl (fun _ => rfl) (fun _ => rfl) dX12_draw_17 H (fun μ3 H => ?_)
  refine r_aload_n K 0 dX12_draw_20 rfl rfl ?_
  refine w_getI K vc12 inX12 41 (by decide) mF_RX12_309 dX12_draw_21 H (fun x4 H => ?_)
  refine r_iconst (v := 4) K dX12_draw_24 (by decide) ?_
  refine w_idiv K dX12_draw_25 H (fun x5 H => ?_)
  refine r_iload_n K 1 dX12_draw_26 rfl rfl ?_
  refine w_irem K dX12_draw_27 H (fun x6 H => ?_)
  cases H
  obtain ⟨rfl, rfl⟩ := jfin2 D
  exact r_iret K dX12_draw_28
theorem c_X12_draw (l : Launch) {n : Nat} {Y : jY} {v0 : Nat} {v1 : Int32} {μ : jM} {z : Int32 × jM} (H : f_X12_draw Y v0 v1 μ = some z) : jC l yX12_draw cX12_draw 2 (some .int) 1 0 0 [.ref v0, .int v1] n Y μ n Y (some (.int z.1)) z.2 := by
  refine jC_of (by decide +kernel) (Nat.le_of_ble_eq_true rfl) (fun X hl K _ _ _ => ?_)
  obtain ⟨rr, μr⟩ := z
  exact t_X12_draw_0 K hl H rfl
/-! RX12 draws(III)I -/
def b_X12_draws_16 (Y : jY) (μ : jM) : Option (Int32 × jM) :=
  some ((-1 : Int32), μ)
def b_X12_draws_72 (Y : jY) (v0 : Nat) (v1 : Int32) (v2 : Int32) (v4 : Int32) (μ : jM) : Option ((Int32 × jM) ⊕ (Int32 × jM)) :=
  if ((v2 - ((1 : Int32)))) ≤ v4 then
    (jgI Y μ v0 12 41).bind fun x1 =>
    some (.inr (x1, μ))
  else
    (jgO Y μ v0 12 28).bind fun x2 =>
    (jrcv Y v0 12 (f_X12_draw Y v0 ((36 : Int32)) μ)).bind fun r3 =>
    (jas Y r3.2 x2 20 ((((((5 : Int32)) * v1)) + v4)) (.int ((r3.1 + ((1 : Int32)))))).bind fun μ4 =>
    some (.inl ((v4 + (1 : Int32)), μ4))
def b_X12_draws_37 (Y : jY) (v0 : Nat) (v1 : Int32) (v2 : Int32) (v4 : Int32) (μ : jM) : Option ((Int32 × jM) ⊕ (Int32 × jM)) :=
  if v2 ≤ v4 then
    (jit jF (fun (s : Int32 × jM) => b_X12_draws_72 Y v0 v1 v2 s.1 s.2) ((0 : Int32), μ)).map (fun r => (.inr r))
  else
    (jgO Y μ v0 12 27).bind fun x1 =>
    (jrcv Y v0 12 (f_X12_draw Y v0 ((13 : Int32)) μ)).bind fun r2 =>
    (jas Y r2.2 x1 20 ((((((5 : Int32)) * v1)) + v4)) (.int ((r2.1 - ((6 : Int32)))))).bind fun μ3 =>
    some (.inl ((v4 + (1 : Int32)), μ3))
def f_X12_draws (Y : jY) (v0 : Nat) (v1 : Int32) (v2 : Int32) (v3 : Int32) (μ : jM) : Option (Int32 × jM) :=
  (f_X12_isDrawer Y v1 μ).bind fun r1 =>
  if r1.1 = 0 then
    b_X12_draws_16 Y r1.2
  else
    (f_X12_in Y v2 ((1 : Int32)) ((5 : Int32)) r1.2).bind fun r2 =>
    if r2.1 = 0 then
      b_X12_draws_16 Y r2.2
    else
      (jput Y r2.2 v0 12 41 (.int ((v3 &&& ((65535 : Int32)))))).bind fun μ3 =>
      (jgO Y μ3 v0 12 26).bind fun x4 =>
      (jas Y μ3 x4 20 v1 (.int v2)).bind fun μ5 =>
      jit jF (fun (s : Int32 × jM) => b_X12_draws_37 Y v0 v1 v2 s.1 s.2) ((0 : Int32), μ5)
set_option maxRecDepth 10000 in
theorem t_X12_draws_16 {X : jX} {l : Launch} {n : Nat} {Y : jY} (K : jOK X RX12 cX12_draws 5 (some .int) 3) (hl : X.2.1 = l) {rr : Int32} {μr : jM} {μ : jM} {z : (Int32 × jM)} (H : b_X12_draws_16 Y μ = some z) (D : z = (rr, μr)) : JW X (jEnd X n Y (some (.int rr)) μr 0 0) 0 0 n Y 16 [] [] μ := by
  unfold b_X12_draws_16 at H
  refine r_iconst (v := -1) K dX12_draws_16 (by decide) ?_
  cases H
  obtain ⟨rfl, rfl⟩ := jfin2 D
  exact r_iret K dX12_draws_17
set_option maxRecDepth 10000 in
theorem t_X12_draws_72 {X : jX} {l : Launch} {n : Nat} {Y : jY} (K : jOK X RX12 cX12_draws 5 (some .int) 3) (hl : X.2.1 = l) {rr : Int32} {μr : jM} {v0 : Nat} {v1 : Int32} {v2 : Int32} {v4 : Int32} {μ : jM} {z : ((Int32 × jM) ⊕ (Int32 × jM))} (H : b_X12_draws_72 Y v0 v1 v2 v4 μ = some z) (D : Sum.elim (fun (s : Int32 × jM) => JW X (jEnd X n Y (some (.int rr)) μr 0 0) 0 0 n Y 72 [(0, .ref v0), (1, .int v1), (2, .int v2), (4, .int s.1)] [] s.2) (fun r => r = (rr, μr)) z) : JW X (jEnd X n Y (some (.int rr)) μr 0 0) 0 0 n Y 72 [(0, .ref v0), (1, .int v1), (2, .int v2), (4, .int v4)] [] μ := by
  unfold b_X12_draws_72 at H
  refine r_iload K 3 dX12_draws_72 rfl ?_
  refine r_iload_n K 2 dX12_draws_74 rfl rfl ?_
  refine r_iconst (v := 1) K dX12_draws_75 (by decide) ?_
  refine r_isub K dX12_draws_76 ?_
  refine w_icmp_ge K 105 dX12_draws_77 (by decide) H (fun _ H => ?_) (fun _ H => ?_)
  · refine r_aload_n K 0 dX12_draws_105 rfl rfl ?_
    refine w_getI K vc12 inX12 41 (by decide) mF_RX12_309 dX12_draws_106 H (fun x1 H => ?_)
    cases H
    simp only [Sum.elim_inr] at D
    obtain ⟨rfl, rfl⟩ := jfin2 D
    exact r_iret K dX12_draws_109
  · refine r_aload_n K 0 dX12_draws_80 rfl rfl ?_
    refine w_getO K vc12 inX12 28 (by decide) mF_RX12_54 dX12_draws_81 H (fun x2 H => ?_)
    refine r_iconst (v := 5) K dX12_draws_84 (by decide) ?_
    refine r_iload_n K 1 dX12_draws_85 rfl rfl ?_
    refine r_imul K dX12_draws_86 ?_
    refine r_iload K 3 dX12_draws_87 rfl ?_
    refine r_iadd K dX12_draws_89 ?_
    refine r_aload_n K 0 dX12_draws_90 rfl rfl ?_
    refine r_bipush (v := 36) K dX12_draws_91 (by decide) ?_
    refine w_callV K hl H (fun r h => c_X12_draw l h) mC_yX12_draw mM_RX12_314 mI_yX12_draw mS_yX12_draw mZ_RX12 vc12 (Nat.le_of_ble_eq_true rfl) (Nat.le_of_ble_eq_true rfl) np_yX12_draw rfl (Nat.le_of_ble_eq_true rfl) dX12_draws_93 (fun r3 H => ?_) ⟨Nat.zero_le _, Nat.zero_le _⟩
    refine r_iconst (v := 1) K dX12_draws_96 (by decide) ?_
    refine r_iadd K dX12_draws_97 ?_
    refine w_iast K dX12_draws_98 H (fun μ4 H => ?_)
    refine r_iinc K 3 [(4, .int _), (0, .ref _), (1, .int _), (2, .int _)] (v := _ + (1 : Int32)) dX12_draws_99 rfl rfl (by decide) rfl ?_
    refine r_goto K 72 dX12_draws_102 (by decide) ?_
    cases H
    exact r_sub [1, 2, 3, 0] rfl D
set_option maxRecDepth 10000 in
theorem l_X12_draws_72 {X : jX} {l : Launch} {n : Nat} {Y : jY} (K : jOK X RX12 cX12_draws 5 (some .int) 3) (hl : X.2.1 = l) {rr : Int32} {μr : jM} {v0 : Nat} {v1 : Int32} {v2 : Int32}  {s0 : Int32 × jM} {z : (Int32 × jM)} (H : jit jF (fun (s : Int32 × jM) => b_X12_draws_72 Y v0 v1 v2 s.1 s.2) s0 = some z) (D : z = (rr, μr)) : JW X (jEnd X n Y (some (.int rr)) μr 0 0) 0 0 n Y 72 [(0, .ref v0), (1, .int v1), (2, .int v2), (4, .int s0.1)] [] s0.2 :=
  jit_ind (P := fun (s : Int32 × jM) => JW X (jEnd X n Y (some (.int rr)) μr 0 0) 0 0 n Y 72 [(0, .ref v0), (1, .int v1), (2, .int v2), (4, .int s.1)] [] s.2) (D := fun r => r = (rr, μr)) (fun s z Hs Ds => t_X12_draws_72 K hl Hs Ds) jF s0 z H D
set_option maxRecDepth 10000 in
theorem t_X12_draws_37 {X : jX} {l : Launch} {n : Nat} {Y : jY} (K : jOK X RX12 cX12_draws 5 (some .int) 3) (hl : X.2.1 = l) {rr : Int32} {μr : jM} {v0 : Nat} {v1 : Int32} {v2 : Int32} {v4 : Int32} {μ : jM} {z : ((Int32 × jM) ⊕ (Int32 × jM))} (H : b_X12_draws_37 Y v0 v1 v2 v4 μ = some z) (D : Sum.elim (fun (s : Int32 × jM) => JW X (jEnd X n Y (some (.int rr)) μr 0 0) 0 0 n Y 37 [(0, .ref v0), (1, .int v1), (2, .int v2), (4, .int s.1)] [] s.2) (fun r => r = (rr, μr)) z) : JW X (jEnd X n Y (some (.int rr)) μr 0 0) 0 0 n Y 37 [(0, .ref v0), (1, .int v1), (2, .int v2), (4, .int v4)] [] μ := by
  unfold b_X12_draws_37 at H
  refine r_iload K 3 dX12_draws_37 rfl ?_
  refine r_iload_n K 2 dX12_draws_39 rfl rfl ?_
  refine w_icmp_ge K 69 dX12_draws_40 (by decide) H (fun _ H => ?_) (fun _ H => ?_)
  · refine r_iconst (v := 0) K dX12_draws_69 (by decide) ?_
    refine r_istore K [(4, .int _), (0, .ref _), (1, .int _), (2, .int _)] dX12_draws_70 (by decide) rfl ?_
    obtain ⟨z2, H2, rfl⟩ := jmap H
    exact r_sub [1, 2, 3, 0] rfl (l_X12_draws_72 K hl H2 D)
  · refine r_aload_n K 0 dX12_draws_43 rfl rfl ?_
    refine w_getO K vc12 inX12 27 (by decide) mF_RX12_51 dX12_draws_44 H (fun x1 H => ?_)
    refine r_iconst (v := 5) K dX12_draws_47 (by decide) ?_
    refine r_iload_n K 1 dX12_draws_48 rfl rfl ?_
    refine r_imul K dX12_draws_49 ?_
    refine r_iload K 3 dX12_draws_50 rfl ?_
    refine r_iadd K dX12_draws_52 ?_
    refine r_aload_n K 0 dX12_draws_53 rfl rfl ?_
    refine r_bipush (v := 13) K dX12_draws_54 (by decide) ?_
    refine w_callV K hl H (fun r h => c_X12_draw l h) mC_yX12_draw mM_RX12_314 mI_yX12_draw mS_yX12_draw mZ_RX12 vc12 (Nat.le_of_ble_eq_true rfl) (Nat.le_of_ble_eq_true rfl) np_yX12_draw rfl (Nat.le_of_ble_eq_true rfl) dX12_draws_56 (fun r2 H => ?_) ⟨Nat.zero_le _, Nat.zero_le _⟩
    refine r_bipush (v := 6) K dX12_draws_59 (by decide) ?_
    refine r_isub K dX12_draws_61 ?_
    refine w_iast K dX12_draws_62 H (fun μ3 H => ?_)
    refine r_iinc K 3 [(4, .int _), (0, .ref _), (1, .int _), (2, .int _)] (v := _ + (1 : Int32)) dX12_draws_63 rfl rfl (by decide) rfl ?_
    refine r_goto K 37 dX12_draws_66 (by decide) ?_
    cases H
    exact r_sub [1, 2, 3, 0] rfl D
set_option maxRecDepth 10000 in
theorem l_X12_draws_37 {X : jX} {l : Launch} {n : Nat} {Y : jY} (K : jOK X RX12 cX12_draws 5 (some .int) 3) (hl : X.2.1 = l) {rr : Int32} {μr : jM} {v0 : Nat} {v1 : Int32} {v2 : Int32}  {s0 : Int32 × jM} {z : (Int32 × jM)} (H : jit jF (fun (s : Int32 × jM) => b_X12_draws_37 Y v0 v1 v2 s.1 s.2) s0 = some z) (D : z = (rr, μr)) : JW X (jEnd X n Y (some (.int rr)) μr 0 0) 0 0 n Y 37 [(0, .ref v0), (1, .int v1), (2, .int v2), (4, .int s0.1)] [] s0.2 :=
  jit_ind (P := fun (s : Int32 × jM) => JW X (jEnd X n Y (some (.int rr)) μr 0 0) 0 0 n Y 37 [(0, .ref v0), (1, .int v1), (2, .int v2), (4, .int s.1)] [] s.2) (D := fun r => r = (rr, μr)) (fun s z Hs Ds => t_X12_draws_37 K hl Hs Ds) jF s0 z H D
set_option maxRecDepth 10000 in
theorem t_X12_draws_0 {X : jX} {l : Launch} {n : Nat} {Y : jY} (K : jOK X RX12 cX12_draws 5 (some .int) 3) (hl : X.2.1 = l) {rr : Int32} {μr : jM} {v0 : Nat} {v1 : Int32} {v2 : Int32} {v3 : Int32} {μ : jM} {z : (Int32 × jM)} (H : f_X12_draws Y v0 v1 v2 v3 μ = some z) (D : z = (rr, μr)) : JW X (jEnd X n Y (some (.int rr)) μr 0 0) 0 0 n Y 0 [(0, .ref v0), (1, .int v1), (2, .int v2), (3, .int v3)] [] μ := by
  unfold f_X12_draws at H
  refine r_iload_n K 1 dX12_draws_0 rfl rfl ?_
  refine w_callS K hl H (fun r h => c_X12_isDrawer l h) mC_yX12_isDrawer mM_RX12_253 mT_yX12_isDrawer mZ_RX12 (Nat.le_of_ble_eq_true rfl) (Nat.le_of_ble_eq_true rfl) np_yX12_isDrawer rfl (Nat.le_of_ble_eq_true rfl) dX12_draws_1 (fun r1 H => ?_) ⟨Nat.zero_le _, Nat.zero_le _⟩
  refine w_if_eq K 16 dX12_draws_4 (by decide) H (fun _ H => ?_) (fun _ H => ?_)
  · exact r_sub [] rfl (t_X12_draws_16 K hl H D)
  · refine r_iload_n K 2 dX12_draws_7 rfl rfl ?_
    refine r_iconst (v := 1) K dX12_draws_8 (by decide) ?_
    refine r_iconst (v := 5) K dX12_draws_9 (by decide) ?_
    refine w_callS K hl H (fun r h => c_X12_in l h) mC_yX12_in mM_RX12_134 mT_yX12_in mZ_RX12 (Nat.le_of_ble_eq_true rfl) (Nat.le_of_ble_eq_true rfl) np_yX12_in rfl (Nat.le_of_ble_eq_true rfl) dX12_draws_10 (fun r2 H => ?_) ⟨Nat.zero_le _, Nat.zero_le _⟩
    refine w_if_ne K 18 dX12_draws_13 (by decide) H (fun _ H => ?_) (fun _ H => ?_)
    · refine r_aload_n K 0 dX12_draws_18 rfl rfl ?_
      refine r_iload_n K 3 dX12_draws_19 rfl rfl ?_
      refine r_ldc_w K (65535) mc_RX12_313 dX12_draws_20 ?_
      refine r_iand K dX12_draws_23 ?_
      refine w_put K vc12 inX12 tyX12_ok nmX12 41 (by decide) mF_RX12_309 rfl (fun _ => rfl) (fun _ => rfl) dX12_draws_24 H (fun μ3 H => ?_)
      refine r_aload_n K 0 dX12_draws_27 rfl rfl ?_
      refine w_getO K vc12 inX12 26 (by decide) mF_RX12_48 dX12_draws_28 H (fun x4 H => ?_)
      refine r_iload_n K 1 dX12_draws_31 rfl rfl ?_
      refine r_iload_n K 2 dX12_draws_32 rfl rfl ?_
      refine w_iast K dX12_draws_33 H (fun μ5 H => ?_)
      refine r_iconst (v := 0) K dX12_draws_34 (by decide) ?_
      refine r_istore K [(4, .int _), (0, .ref _), (1, .int _), (2, .int _), (3, .int _)] dX12_draws_35 (by decide) rfl ?_
      exact r_sub [1, 2, 3, 0] rfl (l_X12_draws_37 K hl H D)
    · exact r_sub [] rfl (t_X12_draws_16 K hl H D)
theorem c_X12_draws (l : Launch) {n : Nat} {Y : jY} {v0 : Nat} {v1 : Int32} {v2 : Int32} {v3 : Int32} {μ : jM} {z : Int32 × jM} (H : f_X12_draws Y v0 v1 v2 v3 μ = some z) : jC l yX12_draws cX12_draws 5 (some .int) 3 0 0 [.ref v0, .int v1, .int v2, .int v3] n Y μ n Y (some (.int z.1)) z.2 := by
  refine jC_of (by decide +kernel) (Nat.le_of_ble_eq_true rfl) (fun X hl K _ _ _ => ?_)
  obtain ⟨rr, μr⟩ := z
  exact t_X12_draws_0 K hl H rfl
/-! RX12 begins(I)I -/
def f_X12_begins (Y : jY) (v0 : Nat) (v1 : Int32) (μ : jM) : Option (Int32 × jM) :=
  (jput Y μ v0 12 2 (.int ((0 : Int32)))).bind fun μ1 =>
  (jput Y μ1 v0 12 3 (.int v1)).bind fun μ2 =>
  (jput Y μ2 v0 12 1 (.int ((0 : Int32)))).bind fun μ3 =>
  some ((0 : Int32), μ3)
set_option maxRecDepth 10000 in
theorem t_X12_begins_0 {X : jX} {l : Launch} {n : Nat} {Y : jY} (K : jOK X RX12 cX12_begins 2 (some .int) 1) (hl : X.2.1 = l) {rr : Int32} {μr : jM} {v0 : Nat} {v1 : Int32} {μ : jM} {z : (Int32 × jM)} (H : f_X12_begins Y v0 v1 μ = some z) (D : z = (rr, μr)) : JW X (jEnd X n Y (some (.int rr)) μr 0 0) 0 0 n Y 0 [(0, .ref v0), (1, .int v1)] [] μ := by
  unfold f_X12_begins at H
  refine r_aload_n K 0 dX12_begins_0 rfl rfl ?_
  refine r_iconst (v := 0) K dX12_begins_1 (by decide) ?_
  refine w_put K vc12 inX12 tyX12_ok nmX12 2 (by decide) mF_RX12_104 rfl (fun _ => rfl) (fun _ => rfl) dX12_begins_2 H (fun μ1 H => ?_)
  refine r_aload_n K 0 dX12_begins_5 rfl rfl ?_
  refine r_iload_n K 1 dX12_begins_6 rfl rfl ?_
  refine w_put K vc12 inX12 tyX12_ok nmX12 3 (by decide) mF_RX12_101 rfl (fun _ => rfl) (fun _ => rfl) dX12_begins_7 H (fun μ2 H => ?_)
  refine r_aload_n K 0 dX12_begins_10 rfl rfl ?_
  refine r_iconst (v := 0) K dX12_begins_11 (by decide) ?_
  refine w_put K vc12 inX12 tyX12_ok nmX12 1 (by decide) mF_RX12_93 rfl (fun _ => rfl) (fun _ => rfl) dX12_begins_12 H (fun μ3 H => ?_)
  refine r_iconst (v := 0) K dX12_begins_15 (by decide) ?_
  cases H
  obtain ⟨rfl, rfl⟩ := jfin2 D
  exact r_iret K dX12_begins_16
theorem c_X12_begins (l : Launch) {n : Nat} {Y : jY} {v0 : Nat} {v1 : Int32} {μ : jM} {z : Int32 × jM} (H : f_X12_begins Y v0 v1 μ = some z) : jC l yX12_begins cX12_begins 2 (some .int) 1 0 0 [.ref v0, .int v1] n Y μ n Y (some (.int z.1)) z.2 := by
  refine jC_of (by decide +kernel) (Nat.le_of_ble_eq_true rfl) (fun X hl K _ _ _ => ?_)
  obtain ⟨rr, μr⟩ := z
  exact t_X12_begins_0 K hl H rfl
/-! RX12 isDigit(I)Z -/
def b_X12_isDigit_17 (Y : jY) (t0 : Int32) (μ : jM) : Option (Int32 × jM) :=
  (jbool t0).bind fun x1 =>
  some (x1, μ)
def b_X12_isDigit_16 (Y : jY) (μ : jM) : Option (Int32 × jM) :=
  b_X12_isDigit_17 Y (0 : Int32) μ
def f_X12_isDigit (Y : jY) (v0 : Int32) (μ : jM) : Option (Int32 × jM) :=
  if v0 < ((48 : Int32)) then
    b_X12_isDigit_16 Y μ
  else
    if ((57 : Int32)) < v0 then
      b_X12_isDigit_16 Y μ
    else
      b_X12_isDigit_17 Y (1 : Int32) μ
set_option maxRecDepth 10000 in
theorem t_X12_isDigit_17 {X : jX} {l : Launch} {n : Nat} {Y : jY} (K : jOK X RX12 cX12_isDigit 1 (some .boolean) 1) (hl : X.2.1 = l) {rr : Int32} {μr : jM} {t0 : Int32} {μ : jM} {z : (Int32 × jM)} (H : b_X12_isDigit_17 Y t0 μ = some z) (D : z = (rr, μr)) : JW X (jEnd X n Y (some (.int rr)) μr 0 0) 0 0 n Y 17 [] [.int t0] μ := by
  unfold b_X12_isDigit_17 at H
  refine w_zret K dX12_isDigit_17 H (fun hz H => ?_)
  cases H
  obtain ⟨rfl, rfl⟩ := jfin2 D
  exact r_zret K hz dX12_isDigit_17
set_option maxRecDepth 10000 in
theorem t_X12_isDigit_16 {X : jX} {l : Launch} {n : Nat} {Y : jY} (K : jOK X RX12 cX12_isDigit 1 (some .boolean) 1) (hl : X.2.1 = l) {rr : Int32} {μr : jM} {μ : jM} {z : (Int32 × jM)} (H : b_X12_isDigit_16 Y μ = some z) (D : z = (rr, μr)) : JW X (jEnd X n Y (some (.int rr)) μr 0 0) 0 0 n Y 16 [] [] μ := by
  unfold b_X12_isDigit_16 at H
  refine r_iconst (v := 0) K dX12_isDigit_16 (by decide) ?_
  exact r_sub [] rfl (t_X12_isDigit_17 K hl H D)
set_option maxRecDepth 10000 in
theorem t_X12_isDigit_0 {X : jX} {l : Launch} {n : Nat} {Y : jY} (K : jOK X RX12 cX12_isDigit 1 (some .boolean) 1) (hl : X.2.1 = l) {rr : Int32} {μr : jM} {v0 : Int32} {μ : jM} {z : (Int32 × jM)} (H : f_X12_isDigit Y v0 μ = some z) (D : z = (rr, μr)) : JW X (jEnd X n Y (some (.int rr)) μr 0 0) 0 0 n Y 0 [(0, .int v0)] [] μ := by
  unfold f_X12_isDigit at H
  refine r_iload_n K 0 dX12_isDigit_0 rfl rfl ?_
  refine r_bipush (v := 48) K dX12_isDigit_1 (by decide) ?_
  refine w_icmp_lt K 16 dX12_isDigit_3 (by decide) H (fun _ H => ?_) (fun _ H => ?_)
  · exact r_sub [] rfl (t_X12_isDigit_16 K hl H D)
  · refine r_iload_n K 0 dX12_isDigit_6 rfl rfl ?_
    refine r_bipush (v := 57) K dX12_isDigit_7 (by decide) ?_
    refine w_icmp_gt K 16 dX12_isDigit_9 (by decide) H (fun _ H => ?_) (fun _ H => ?_)
    · exact r_sub [] rfl (t_X12_isDigit_16 K hl H D)
    · refine r_iconst (v := 1) K dX12_isDigit_12 (by decide) ?_
      refine r_goto K 17 dX12_isDigit_13 (by decide) ?_
      exact r_sub [] rfl (t_X12_isDigit_17 K hl H D)
theorem c_X12_isDigit (l : Launch) {n : Nat} {Y : jY} {v0 : Int32} {μ : jM} {z : Int32 × jM} (H : f_X12_isDigit Y v0 μ = some z) : jC l yX12_isDigit cX12_isDigit 1 (some .boolean) 1 0 0 [.int v0] n Y μ n Y (some (.int z.1)) z.2 := by
  refine jC_of (by decide +kernel) (Nat.le_of_ble_eq_true rfl) (fun X hl K _ _ _ => ?_)
  obtain ⟨rr, μr⟩ := z
  exact t_X12_isDigit_0 K hl H rfl
/-! RX12 token()I -/
def b_X12_token_235 (Y : jY) (t0 : Nat) (t1 : Int32) (μ : jM) : Option (Int32 × jM) :=
  (jput Y μ t0 12 5 (.int t1)).bind fun μ1 =>
  some ((1 : Int32), μ1)
def b_X12_token_202 (Y : jY) (v0 : Nat) (v2 : Int32) (t0 : Nat) (t1 : Int32) (μ : jM) : Option ((jM) ⊕ (Int32 × jM)) :=
  (jput Y μ t0 12 5 (.int t1)).bind fun μ1 =>
  (jgI Y μ1 v0 12 2).bind fun x2 =>
  (jput Y μ1 v0 12 2 (.int ((x2 + ((1 : Int32)))))).bind fun μ3 =>
  some (.inl μ3)
def b_X12_token_152 (Y : jY) (v0 : Nat) (v2 : Int32) (μ : jM) : Option ((jM) ⊕ (Int32 × jM)) :=
  (jgI Y μ v0 12 2).bind fun x1 =>
  (jrcv Y v0 12 (f_X12_byteAt Y v0 x1 μ)).bind fun r2 =>
  (f_X12_isDigit Y r2.1 r2.2).bind fun r3 =>
  if r3.1 = 0 then
    if v2 = 0 then
      (jgI Y r3.2 v0 12 5).bind fun x4 =>
      (b_X12_token_235 Y v0 x4 r3.2).map (fun r => (.inr r))
    else
      (jgI Y r3.2 v0 12 5).bind fun x5 =>
      (b_X12_token_235 Y v0 (-x5) r3.2).map (fun r => (.inr r))
  else
    (jgI Y r3.2 v0 12 5).bind fun x6 =>
    if x6 ≤ ((99 : Int32)) then
      (jgI Y r3.2 v0 12 5).bind fun x7 =>
      (jgI Y r3.2 v0 12 2).bind fun x8 =>
      (jrcv Y v0 12 (f_X12_byteAt Y v0 x8 r3.2)).bind fun r9 =>
      b_X12_token_202 Y v0 v2 v0 (((((((10 : Int32)) * x7)) + r9.1)) - ((48 : Int32))) r9.2
    else
      (jgI Y r3.2 v0 12 5).bind fun x10 =>
      b_X12_token_202 Y v0 v2 v0 x10 r3.2
def b_X12_token_149 (Y : jY) (v0 : Nat) (v2 : Int32) (t0 : Nat) (t1 : Int32) (μ : jM) : Option (Int32 × jM) :=
  (jput Y μ t0 12 5 (.int t1)).bind fun μ1 =>
  jit jF (fun (s : jM) => b_X12_token_152 Y v0 v2 s) μ1
def b_X12_token_136 (Y : jY) (v0 : Nat) (v1 : Int32) (v2 : Int32) (μ : jM) : Option (Int32 × jM) :=
  if v2 = 0 then
    b_X12_token_149 Y v0 v2 v0 (v1 - ((48 : Int32))) μ
  else
    b_X12_token_149 Y v0 v2 v0 (0 : Int32) μ
def b_X12_token_107 (Y : jY) (v0 : Nat) (v1 : Int32) (v2 : Int32) (μ : jM) : Option (Int32 × jM) :=
  if v2 = 0 then
    b_X12_token_136 Y v0 v1 v2 μ
  else
    (jgI Y μ v0 12 4).bind fun x1 =>
    if x1 ≤ 0 then
      b_X12_token_136 Y v0 v1 v2 μ
    else
      (jgI Y μ v0 12 4).bind fun x2 =>
      (jrcv Y v0 12 (f_X12_byteAt Y v0 ((x2 - ((1 : Int32)))) μ)).bind fun r3 =>
      (f_X12_isDigit Y r3.1 r3.2).bind fun r4 =>
      if r4.1 = 0 then
        b_X12_token_136 Y v0 v1 v2 r4.2
      else
        some ((3 : Int32), r4.2)
def b_X12_token_93 (Y : jY) (v0 : Nat) (v1 : Int32) (t0 : Int32) (μ : jM) : Option (Int32 × jM) :=
  (f_X12_isDigit Y v1 μ).bind fun r1 =>
  if r1.1 = 0 then
    if t0 = 0 then
      some ((3 : Int32), r1.2)
    else
      b_X12_token_107 Y v0 v1 t0 r1.2
  else
    b_X12_token_107 Y v0 v1 t0 r1.2
def b_X12_token_92 (Y : jY) (v0 : Nat) (v1 : Int32) (μ : jM) : Option (Int32 × jM) :=
  b_X12_token_93 Y v0 v1 (0 : Int32) μ
def b_X12_token_0 (Y : jY) (v0 : Nat) (μ : jM) : Option ((jM) ⊕ (Int32 × jM)) :=
  (jgI Y μ v0 12 2).bind fun x1 =>
  (jrcv Y v0 12 (f_X12_byteAt Y v0 x1 μ)).bind fun r2 =>
  if r2.1 = ((32 : Int32)) then
    (jgI Y r2.2 v0 12 2).bind fun x12 =>
    (jput Y r2.2 v0 12 2 (.int ((x12 + ((1 : Int32)))))).bind fun μ13 =>
    some (.inl μ13)
  else
    (jgI Y r2.2 v0 12 2).bind fun x3 =>
    (jput Y r2.2 v0 12 4 (.int x3)).bind fun μ4 =>
    (jgI Y μ4 v0 12 2).bind fun x5 =>
    (jrcv Y v0 12 (f_X12_byteAt Y v0 x5 μ4)).bind fun r6 =>
    if r6.1 = ((-1 : Int32)) then
      some (.inr ((0 : Int32), r6.2))
    else
      (jgI Y r6.2 v0 12 2).bind fun x7 =>
      (jput Y r6.2 v0 12 2 (.int ((x7 + ((1 : Int32)))))).bind fun μ8 =>
      if r6.1 = ((47 : Int32)) then
        some (.inr ((2 : Int32), μ8))
      else
        if r6.1 = ((45 : Int32)) then
          (jgI Y μ8 v0 12 2).bind fun x9 =>
          (jrcv Y v0 12 (f_X12_byteAt Y v0 x9 μ8)).bind fun r10 =>
          (f_X12_isDigit Y r10.1 r10.2).bind fun r11 =>
          if r11.1 = 0 then
            (b_X12_token_92 Y v0 r6.1 r11.2).map (fun r => (.inr r))
          else
            (b_X12_token_93 Y v0 r6.1 (1 : Int32) r11.2).map (fun r => (.inr r))
        else
          (b_X12_token_92 Y v0 r6.1 μ8).map (fun r => (.inr r))
set_option maxRecDepth 10000 in
theorem t_X12_token_235 {X : jX} {l : Launch} {n : Nat} {Y : jY} (K : jOK X RX12 cX12_token 3 (some .int) 2) (hl : X.2.1 = l) {rr : Int32} {μr : jM} {t0 : Nat} {t1 : Int32} {μ : jM} {z : (Int32 × jM)} (H : b_X12_token_235 Y t0 t1 μ = some z) (D : z = (rr, μr)) : JW X (jEnd X n Y (some (.int rr)) μr 0 0) 0 0 n Y 235 [] [.int t1, .ref t0] μ := by
  unfold b_X12_token_235 at H
  refine w_put K vc12 inX12 tyX12_ok nmX12 5 (by decide) mF_RX12_118 rfl (fun _ => rfl) (fun _ => rfl) dX12_token_235 H (fun μ1 H => ?_)
  refine r_iconst (v := 1) K dX12_token_238 (by decide) ?_
  cases H
  obtain ⟨rfl, rfl⟩ := jfin2 D
  exact r_iret K dX12_token_239
set_option maxRecDepth 10000 in
theorem t_X12_token_202 {X : jX} {l : Launch} {n : Nat} {Y : jY} (K : jOK X RX12 cX12_token 3 (some .int) 2) (hl : X.2.1 = l) {rr : Int32} {μr : jM} {v0 : Nat} {v2 : Int32} {t0 : Nat} {t1 : Int32} {μ : jM} {z : ((jM) ⊕ (Int32 × jM))} (H : b_X12_token_202 Y v0 v2 t0 t1 μ = some z) (D : Sum.elim (fun (s : jM) => JW X (jEnd X n Y (some (.int rr)) μr 0 0) 0 0 n Y 152 [(0, .ref v0), (2, .int v2)] [] s) (fun r => r = (rr, μr)) z) : JW X (jEnd X n Y (some (.int rr)) μr 0 0) 0 0 n Y 202 [(0, .ref v0), (2, .int v2)] [.int t1, .ref t0] μ := by
  unfold b_X12_token_202 at H
  refine w_put K vc12 inX12 tyX12_ok nmX12 5 (by decide) mF_RX12_118 rfl (fun _ => rfl) (fun _ => rfl) dX12_token_202 H (fun μ1 H => ?_)
  refine r_aload_n K 0 dX12_token_205 rfl rfl ?_
  refine r_aload_n K 0 dX12_token_206 rfl rfl ?_
  refine w_getI K vc12 inX12 2 (by decide) mF_RX12_104 dX12_token_207 H (fun x2 H => ?_)
  refine r_iconst (v := 1) K dX12_token_210 (by decide) ?_
  refine r_iadd K dX12_token_211 ?_
  refine w_put K vc12 inX12 tyX12_ok nmX12 2 (by decide) mF_RX12_104 rfl (fun _ => rfl) (fun _ => rfl) dX12_token_212 H (fun μ3 H => ?_)
  refine r_goto K 152 dX12_token_215 (by decide) ?_
  cases H
  exact r_sub [0, 1] rfl D
set_option maxRecDepth 10000 in
theorem t_X12_token_152 {X : jX} {l : Launch} {n : Nat} {Y : jY} (K : jOK X RX12 cX12_token 3 (some .int) 2) (hl : X.2.1 = l) {rr : Int32} {μr : jM} {v0 : Nat} {v2 : Int32} {μ : jM} {z : ((jM) ⊕ (Int32 × jM))} (H : b_X12_token_152 Y v0 v2 μ = some z) (D : Sum.elim (fun (s : jM) => JW X (jEnd X n Y (some (.int rr)) μr 0 0) 0 0 n Y 152 [(0, .ref v0), (2, .int v2)] [] s) (fun r => r = (rr, μr)) z) : JW X (jEnd X n Y (some (.int rr)) μr 0 0) 0 0 n Y 152 [(0, .ref v0), (2, .int v2)] [] μ := by
  unfold b_X12_token_152 at H
  refine r_aload_n K 0 dX12_token_152 rfl rfl ?_
  refine r_aload_n K 0 dX12_token_153 rfl rfl ?_
  refine w_getI K vc12 inX12 2 (by decide) mF_RX12_104 dX12_token_154 H (fun x1 H => ?_)
  refine w_callV K hl H (fun r h => c_X12_byteAt l h) mC_yX12_byteAt mM_RX12_107 mI_yX12_byteAt mS_yX12_byteAt mZ_RX12 vc12 (Nat.le_of_ble_eq_true rfl) (Nat.le_of_ble_eq_true rfl) np_yX12_byteAt rfl (Nat.le_of_ble_eq_true rfl) dX12_token_157 (fun r2 H => ?_) ⟨Nat.zero_le _, Nat.zero_le _⟩
  refine w_callS K hl H (fun r h => c_X12_isDigit l h) mC_yX12_isDigit mM_RX12_114 mT_yX12_isDigit mZ_RX12 (Nat.le_of_ble_eq_true rfl) (Nat.le_of_ble_eq_true rfl) np_yX12_isDigit rfl (Nat.le_of_ble_eq_true rfl) dX12_token_160 (fun r3 H => ?_) ⟨Nat.zero_le _, Nat.zero_le _⟩
  refine w_if_eq K 218 dX12_token_163 (by decide) H (fun _ H => ?_) (fun _ H => ?_)
  · refine r_aload_n K 0 dX12_token_218 rfl rfl ?_
    refine r_iload_n K 1 dX12_token_219 rfl rfl ?_
    refine w_if_eq K 231 dX12_token_220 (by decide) H (fun _ H => ?_) (fun _ H => ?_)
    · refine r_aload_n K 0 dX12_token_231 rfl rfl ?_
      refine w_getI K vc12 inX12 5 (by decide) mF_RX12_118 dX12_token_232 H (fun x4 H => ?_)
      obtain ⟨z2, H2, rfl⟩ := jmap H
      exact r_sub [] rfl (t_X12_token_235 K hl H2 D)
    · refine r_aload_n K 0 dX12_token_223 rfl rfl ?_
      refine w_getI K vc12 inX12 5 (by decide) mF_RX12_118 dX12_token_224 H (fun x5 H => ?_)
      refine r_ineg K dX12_token_227 ?_
      refine r_goto K 235 dX12_token_228 (by decide) ?_
      obtain ⟨z2, H2, rfl⟩ := jmap H
      exact r_sub [] rfl (t_X12_token_235 K hl H2 D)
  · refine r_aload_n K 0 dX12_token_166 rfl rfl ?_
    refine r_aload_n K 0 dX12_token_167 rfl rfl ?_
    refine w_getI K vc12 inX12 5 (by decide) mF_RX12_118 dX12_token_168 H (fun x6 H => ?_)
    refine r_bipush (v := 99) K dX12_token_171 (by decide) ?_
    refine w_icmp_le K 183 dX12_token_173 (by decide) H (fun _ H => ?_) (fun _ H => ?_)
    · refine r_bipush (v := 10) K dX12_token_183 (by decide) ?_
      refine r_aload_n K 0 dX12_token_185 rfl rfl ?_
      refine w_getI K vc12 inX12 5 (by decide) mF_RX12_118 dX12_token_186 H (fun x7 H => ?_)
      refine r_imul K dX12_token_189 ?_
      refine r_aload_n K 0 dX12_token_190 rfl rfl ?_
      refine r_aload_n K 0 dX12_token_191 rfl rfl ?_
      refine w_getI K vc12 inX12 2 (by decide) mF_RX12_104 dX12_token_192 H (fun x8 H => ?_)
      refine w_callV K hl H (fun r h => c_X12_byteAt l h) mC_yX12_byteAt mM_RX12_107 mI_yX12_byteAt mS_yX12_byteAt mZ_RX12 vc12 (Nat.le_of_ble_eq_true rfl) (Nat.le_of_ble_eq_true rfl) np_yX12_byteAt rfl (Nat.le_of_ble_eq_true rfl) dX12_token_195 (fun r9 H => ?_) ⟨Nat.zero_le _, Nat.zero_le _⟩
      refine r_iadd K dX12_token_198 ?_
      refine r_bipush (v := 48) K dX12_token_199 (by decide) ?_
      refine r_isub K dX12_token_201 ?_
      exact r_sub [0, 1] rfl (t_X12_token_202 K hl H D)
    · refine r_aload_n K 0 dX12_token_176 rfl rfl ?_
      refine w_getI K vc12 inX12 5 (by decide) mF_RX12_118 dX12_token_177 H (fun x10 H => ?_)
      refine r_goto K 202 dX12_token_180 (by decide) ?_
      exact r_sub [0, 1] rfl (t_X12_token_202 K hl H D)
set_option maxRecDepth 10000 in
theorem l_X12_token_152 {X : jX} {l : Launch} {n : Nat} {Y : jY} (K : jOK X RX12 cX12_token 3 (some .int) 2) (hl : X.2.1 = l) {rr : Int32} {μr : jM} {v0 : Nat} {v2 : Int32}  {s0 : jM} {z : (Int32 × jM)} (H : jit jF (fun (s : jM) => b_X12_token_152 Y v0 v2 s) s0 = some z) (D : z = (rr, μr)) : JW X (jEnd X n Y (some (.int rr)) μr 0 0) 0 0 n Y 152 [(0, .ref v0), (2, .int v2)] [] s0 :=
  jit_ind (P := fun (s : jM) => JW X (jEnd X n Y (some (.int rr)) μr 0 0) 0 0 n Y 152 [(0, .ref v0), (2, .int v2)] [] s) (D := fun r => r = (rr, μr)) (fun s z Hs Ds => t_X12_token_152 K hl Hs Ds) jF s0 z H D
set_option maxRecDepth 10000 in
theorem t_X12_token_149 {X : jX} {l : Launch} {n : Nat} {Y : jY} (K : jOK X RX12 cX12_token 3 (some .int) 2) (hl : X.2.1 = l) {rr : Int32} {μr : jM} {v0 : Nat} {v2 : Int32} {t0 : Nat} {t1 : Int32} {μ : jM} {z : (Int32 × jM)} (H : b_X12_token_149 Y v0 v2 t0 t1 μ = some z) (D : z = (rr, μr)) : JW X (jEnd X n Y (some (.int rr)) μr 0 0) 0 0 n Y 149 [(0, .ref v0), (2, .int v2)] [.int t1, .ref t0] μ := by
  unfold b_X12_token_149 at H
  refine w_put K vc12 inX12 tyX12_ok nmX12 5 (by decide) mF_RX12_118 rfl (fun _ => rfl) (fun _ => rfl) dX12_token_149 H (fun μ1 H => ?_)
  exact r_sub [0, 1] rfl (l_X12_token_152 K hl H D)
set_option maxRecDepth 10000 in
theorem t_X12_token_136 {X : jX} {l : Launch} {n : Nat} {Y : jY} (K : jOK X RX12 cX12_token 3 (some .int) 2) (hl : X.2.1 = l) {rr : Int32} {μr : jM} {v0 : Nat} {v1 : Int32} {v2 : Int32} {μ : jM} {z : (Int32 × jM)} (H : b_X12_token_136 Y v0 v1 v2 μ = some z) (D : z = (rr, μr)) : JW X (jEnd X n Y (some (.int rr)) μr 0 0) 0 0 n Y 136 [(0, .ref v0), (1, .int v1), (2, .int v2)] [] μ := by
  unfold b_X12_token_136 at H
  refine r_aload_n K 0 dX12_token_136 rfl rfl ?_
  refine r_iload_n K 2 dX12_token_137 rfl rfl ?_
  refine w_if_eq K 145 dX12_token_138 (by decide) H (fun _ H => ?_) (fun _ H => ?_)
  · refine r_iload_n K 1 dX12_token_145 rfl rfl ?_
    refine r_bipush (v := 48) K dX12_token_146 (by decide) ?_
    refine r_isub K dX12_token_148 ?_
    exact r_sub [0, 2] rfl (t_X12_token_149 K hl H D)
  · refine r_iconst (v := 0) K dX12_token_141 (by decide) ?_
    refine r_goto K 149 dX12_token_142 (by decide) ?_
    exact r_sub [0, 2] rfl (t_X12_token_149 K hl H D)
set_option maxRecDepth 10000 in
theorem t_X12_token_107 {X : jX} {l : Launch} {n : Nat} {Y : jY} (K : jOK X RX12 cX12_token 3 (some .int) 2) (hl : X.2.1 = l) {rr : Int32} {μr : jM} {v0 : Nat} {v1 : Int32} {v2 : Int32} {μ : jM} {z : (Int32 × jM)} (H : b_X12_token_107 Y v0 v1 v2 μ = some z) (D : z = (rr, μr)) : JW X (jEnd X n Y (some (.int rr)) μr 0 0) 0 0 n Y 107 [(0, .ref v0), (1, .int v1), (2, .int v2)] [] μ := by
  unfold b_X12_token_107 at H
  refine r_iload_n K 2 dX12_token_107 rfl rfl ?_
  refine w_if_eq K 136 dX12_token_108 (by decide) H (fun _ H => ?_) (fun _ H => ?_)
  · exact r_sub [0, 1, 2] rfl (t_X12_token_136 K hl H D)
  · refine r_aload_n K 0 dX12_token_111 rfl rfl ?_
    refine w_getI K vc12 inX12 4 (by decide) mF_RX12_111 dX12_token_112 H (fun x1 H => ?_)
    refine w_if_le K 136 dX12_token_115 (by decide) H (fun _ H => ?_) (fun _ H => ?_)
    · exact r_sub [0, 1, 2] rfl (t_X12_token_136 K hl H D)
    · refine r_aload_n K 0 dX12_token_118 rfl rfl ?_
      refine r_aload_n K 0 dX12_token_119 rfl rfl ?_
      refine w_getI K vc12 inX12 4 (by decide) mF_RX12_111 dX12_token_120 H (fun x2 H => ?_)
      refine r_iconst (v := 1) K dX12_token_123 (by decide) ?_
      refine r_isub K dX12_token_124 ?_
      refine w_callV K hl H (fun r h => c_X12_byteAt l h) mC_yX12_byteAt mM_RX12_107 mI_yX12_byteAt mS_yX12_byteAt mZ_RX12 vc12 (Nat.le_of_ble_eq_true rfl) (Nat.le_of_ble_eq_true rfl) np_yX12_byteAt rfl (Nat.le_of_ble_eq_true rfl) dX12_token_125 (fun r3 H => ?_) ⟨Nat.zero_le _, Nat.zero_le _⟩
      refine w_callS K hl H (fun r h => c_X12_isDigit l h) mC_yX12_isDigit mM_RX12_114 mT_yX12_isDigit mZ_RX12 (Nat.le_of_ble_eq_true rfl) (Nat.le_of_ble_eq_true rfl) np_yX12_isDigit rfl (Nat.le_of_ble_eq_true rfl) dX12_token_128 (fun r4 H => ?_) ⟨Nat.zero_le _, Nat.zero_le _⟩
      refine w_if_eq K 136 dX12_token_131 (by decide) H (fun _ H => ?_) (fun _ H => ?_)
      · exact r_sub [0, 1, 2] rfl (t_X12_token_136 K hl H D)
      · refine r_iconst (v := 3) K dX12_token_134 (by decide) ?_
        cases H
        obtain ⟨rfl, rfl⟩ := jfin2 D
        exact r_iret K dX12_token_135
set_option maxRecDepth 10000 in
theorem t_X12_token_93 {X : jX} {l : Launch} {n : Nat} {Y : jY} (K : jOK X RX12 cX12_token 3 (some .int) 2) (hl : X.2.1 = l) {rr : Int32} {μr : jM} {v0 : Nat} {v1 : Int32} {t0 : Int32} {μ : jM} {z : (Int32 × jM)} (H : b_X12_token_93 Y v0 v1 t0 μ = some z) (D : z = (rr, μr)) : JW X (jEnd X n Y (some (.int rr)) μr 0 0) 0 0 n Y 93 [(0, .ref v0), (1, .int v1)] [.int t0] μ := by
  unfold b_X12_token_93 at H
  refine r_istore_n K [(2, .int _), (0, .ref _), (1, .int _)] dX12_token_93 rfl (by decide) rfl ?_
  refine r_iload_n K 2 dX12_token_94 rfl rfl ?_
  refine w_callS K hl H (fun r h => c_X12_isDigit l h) mC_yX12_isDigit mM_RX12_114 mT_yX12_isDigit mZ_RX12 (Nat.le_of_ble_eq_true rfl) (Nat.le_of_ble_eq_true rfl) np_yX12_isDigit rfl (Nat.le_of_ble_eq_true rfl) dX12_token_95 (fun r1 H => ?_) ⟨Nat.zero_le _, Nat.zero_le _⟩
  refine w_if_ne K 107 dX12_token_98 (by decide) H (fun _ H => ?_) (fun _ H => ?_)
  · exact r_sub [1, 2, 0] rfl (t_X12_token_107 K hl H D)
  · refine r_iload_n K 0 dX12_token_101 rfl rfl ?_
    refine w_if_ne K 107 dX12_token_102 (by decide) H (fun _ H => ?_) (fun _ H => ?_)
    · exact r_sub [1, 2, 0] rfl (t_X12_token_107 K hl H D)
    · refine r_iconst (v := 3) K dX12_token_105 (by decide) ?_
      cases H
      obtain ⟨rfl, rfl⟩ := jfin2 D
      exact r_iret K dX12_token_106
set_option maxRecDepth 10000 in
theorem t_X12_token_92 {X : jX} {l : Launch} {n : Nat} {Y : jY} (K : jOK X RX12 cX12_token 3 (some .int) 2) (hl : X.2.1 = l) {rr : Int32} {μr : jM} {v0 : Nat} {v1 : Int32} {μ : jM} {z : (Int32 × jM)} (H : b_X12_token_92 Y v0 v1 μ = some z) (D : z = (rr, μr)) : JW X (jEnd X n Y (some (.int rr)) μr 0 0) 0 0 n Y 92 [(0, .ref v0), (1, .int v1)] [] μ := by
  unfold b_X12_token_92 at H
  refine r_iconst (v := 0) K dX12_token_92 (by decide) ?_
  exact r_sub [0, 1] rfl (t_X12_token_93 K hl H D)
set_option maxRecDepth 10000 in
theorem t_X12_token_0 {X : jX} {l : Launch} {n : Nat} {Y : jY} (K : jOK X RX12 cX12_token 3 (some .int) 2) (hl : X.2.1 = l) {rr : Int32} {μr : jM} {v0 : Nat} {μ : jM} {z : ((jM) ⊕ (Int32 × jM))} (H : b_X12_token_0 Y v0 μ = some z) (D : Sum.elim (fun (s : jM) => JW X (jEnd X n Y (some (.int rr)) μr 0 0) 0 0 n Y 0 [(0, .ref v0)] [] s) (fun r => r = (rr, μr)) z) : JW X (jEnd X n Y (some (.int rr)) μr 0 0) 0 0 n Y 0 [(0, .ref v0)] [] μ := by
  unfold b_X12_token_0 at H
  refine r_aload_n K 0 dX12_token_0 rfl rfl ?_
  refine r_aload_n K 0 dX12_token_1 rfl rfl ?_
  refine w_getI K vc12 inX12 2 (by decide) mF_RX12_104 dX12_token_2 H (fun x1 H => ?_)
  refine w_callV K hl H (fun r h => c_X12_byteAt l h) mC_yX12_byteAt mM_RX12_107 mI_yX12_byteAt mS_yX12_byteAt mZ_RX12 vc12 (Nat.le_of_ble_eq_true rfl) (Nat.le_of_ble_eq_true rfl) np_yX12_byteAt rfl (Nat.le_of_ble_eq_true rfl) dX12_token_5 (fun r2 H => ?_) ⟨Nat.zero_le _, Nat.zero_le _⟩
  refine r_bipush (v := 32) K dX12_token_8 (by decide) ?_
  refine w_icmp_ne K 26 dX12_token_10 (by decide) H (fun _ H => ?_) (fun _ H => ?_)
  · refine r_aload_n K 0 dX12_token_26 rfl rfl ?_
    refine r_aload_n K 0 dX12_token_27 rfl rfl ?_
    refine w_getI K vc12 inX12 2 (by decide) mF_RX12_104 dX12_token_28 H (fun x3 H => ?_)
    refine w_put K vc12 inX12 tyX12_ok nmX12 4 (by decide) mF_RX12_111 rfl (fun _ => rfl) (fun _ => rfl) dX12_token_31 H (fun μ4 H => ?_)
    refine r_aload_n K 0 dX12_token_34 rfl rfl ?_
    refine r_aload_n K 0 dX12_token_35 rfl rfl ?_
    refine w_getI K vc12 inX12 2 (by decide) mF_RX12_104 dX12_token_36 H (fun x5 H => ?_)
    refine w_callV K hl H (fun r h => c_X12_byteAt l h) mC_yX12_byteAt mM_RX12_107 mI_yX12_byteAt mS_yX12_byteAt mZ_RX12 vc12 (Nat.le_of_ble_eq_true rfl) (Nat.le_of_ble_eq_true rfl) np_yX12_byteAt rfl (Nat.le_of_ble_eq_true rfl) dX12_token_39 (fun r6 H => ?_) ⟨Nat.zero_le _, Nat.zero_le _⟩
    refine r_istore_n K [(1, .int _), (0, .ref _)] dX12_token_42 rfl (by decide) rfl ?_
    refine r_iload_n K 0 dX12_token_43 rfl rfl ?_
    refine r_iconst (v := -1) K dX12_token_44 (by decide) ?_
    refine w_icmp_ne K 50 dX12_token_45 (by decide) H (fun _ H => ?_) (fun _ H => ?_)
    · refine r_aload_n K 1 dX12_token_50 rfl rfl ?_
      refine r_aload_n K 1 dX12_token_51 rfl rfl ?_
      refine w_getI K vc12 inX12 2 (by decide) mF_RX12_104 dX12_token_52 H (fun x7 H => ?_)
      refine r_iconst (v := 1) K dX12_token_55 (by decide) ?_
      refine r_iadd K dX12_token_56 ?_
      refine w_put K vc12 inX12 tyX12_ok nmX12 2 (by decide) mF_RX12_104 rfl (fun _ => rfl) (fun _ => rfl) dX12_token_57 H (fun μ8 H => ?_)
      refine r_iload_n K 0 dX12_token_60 rfl rfl ?_
      refine r_bipush (v := 47) K dX12_token_61 (by decide) ?_
      refine w_icmp_ne K 68 dX12_token_63 (by decide) H (fun _ H => ?_) (fun _ H => ?_)
      · refine r_iload_n K 0 dX12_token_68 rfl rfl ?_
        refine r_bipush (v := 45) K dX12_token_69 (by decide) ?_
        refine w_icmp_ne K 92 dX12_token_71 (by decide) H (fun _ H => ?_) (fun _ H => ?_)
        · obtain ⟨z2, H2, rfl⟩ := jmap H
          exact r_sub [1, 0] rfl (t_X12_token_92 K hl H2 D)
        · refine r_aload_n K 1 dX12_token_74 rfl rfl ?_
          refine r_aload_n K 1 dX12_token_75 rfl rfl ?_
          refine w_getI K vc12 inX12 2 (by decide) mF_RX12_104 dX12_token_76 H (fun x9 H => ?_)
          refine w_callV K hl H (fun r h => c_X12_byteAt l h) mC_yX12_byteAt mM_RX12_107 mI_yX12_byteAt mS_yX12_byteAt mZ_RX12 vc12 (Nat.le_of_ble_eq_true rfl) (Nat.le_of_ble_eq_true rfl) np_yX12_byteAt rfl (Nat.le_of_ble_eq_true rfl) dX12_token_79 (fun r10 H => ?_) ⟨Nat.zero_le _, Nat.zero_le _⟩
          refine w_callS K hl H (fun r h => c_X12_isDigit l h) mC_yX12_isDigit mM_RX12_114 mT_yX12_isDigit mZ_RX12 (Nat.le_of_ble_eq_true rfl) (Nat.le_of_ble_eq_true rfl) np_yX12_isDigit rfl (Nat.le_of_ble_eq_true rfl) dX12_token_82 (fun r11 H => ?_) ⟨Nat.zero_le _, Nat.zero_le _⟩
          refine w_if_eq K 92 dX12_token_85 (by decide) H (fun _ H => ?_) (fun _ H => ?_)
          · obtain ⟨z2, H2, rfl⟩ := jmap H
            exact r_sub [1, 0] rfl (t_X12_token_92 K hl H2 D)
          · refine r_iconst (v := 1) K dX12_token_88 (by decide) ?_
            refine r_goto K 93 dX12_token_89 (by decide) ?_
            obtain ⟨z2, H2, rfl⟩ := jmap H
            exact r_sub [1, 0] rfl (t_X12_token_93 K hl H2 D)
      · refine r_iconst (v := 2) K dX12_token_66 (by decide) ?_
        cases H
        simp only [Sum.elim_inr] at D
        obtain ⟨rfl, rfl⟩ := jfin2 D
        exact r_iret K dX12_token_67
    · refine r_iconst (v := 0) K dX12_token_48 (by decide) ?_
      cases H
      simp only [Sum.elim_inr] at D
      obtain ⟨rfl, rfl⟩ := jfin2 D
      exact r_iret K dX12_token_49
  · refine r_aload_n K 0 dX12_token_13 rfl rfl ?_
    refine r_aload_n K 0 dX12_token_14 rfl rfl ?_
    refine w_getI K vc12 inX12 2 (by decide) mF_RX12_104 dX12_token_15 H (fun x12 H => ?_)
    refine r_iconst (v := 1) K dX12_token_18 (by decide) ?_
    refine r_iadd K dX12_token_19 ?_
    refine w_put K vc12 inX12 tyX12_ok nmX12 2 (by decide) mF_RX12_104 rfl (fun _ => rfl) (fun _ => rfl) dX12_token_20 H (fun μ13 H => ?_)
    refine r_goto K 0 dX12_token_23 (by decide) ?_
    cases H
    exact r_sub [0] rfl D
set_option maxRecDepth 10000 in
theorem l_X12_token_0 {X : jX} {l : Launch} {n : Nat} {Y : jY} (K : jOK X RX12 cX12_token 3 (some .int) 2) (hl : X.2.1 = l) {rr : Int32} {μr : jM} {v0 : Nat}  {s0 : jM} {z : (Int32 × jM)} (H : jit jF (fun (s : jM) => b_X12_token_0 Y v0 s) s0 = some z) (D : z = (rr, μr)) : JW X (jEnd X n Y (some (.int rr)) μr 0 0) 0 0 n Y 0 [(0, .ref v0)] [] s0 :=
  jit_ind (P := fun (s : jM) => JW X (jEnd X n Y (some (.int rr)) μr 0 0) 0 0 n Y 0 [(0, .ref v0)] [] s) (D := fun r => r = (rr, μr)) (fun s z Hs Ds => t_X12_token_0 K hl Hs Ds) jF s0 z H D
def f_X12_token (Y : jY) (v0 : Nat) (μ : jM) : Option (Int32 × jM) := jit jF (fun (s : jM) => b_X12_token_0 Y v0 s) μ
theorem c_X12_token (l : Launch) {n : Nat} {Y : jY} {v0 : Nat} {μ : jM} {z : Int32 × jM} (H : f_X12_token Y v0 μ = some z) : jC l yX12_token cX12_token 3 (some .int) 2 0 0 [.ref v0] n Y μ n Y (some (.int z.1)) z.2 := by
  refine jC_of (by decide +kernel) (Nat.le_of_ble_eq_true rfl) (fun X hl K _ _ _ => ?_)
  obtain ⟨rr, μr⟩ := z
  unfold f_X12_token at H
  exact r_sub [0] rfl (l_X12_token_0 K hl H rfl)
/-! RX12 wrong(I)I -/
def f_X12_wrong (Y : jY) (v0 : Nat) (v1 : Int32) (μ : jM) : Option (Int32 × jM) :=
  (jgI Y μ v0 12 4).bind fun x1 =>
  some ((((((-1000 : Int32)) * v1)) - x1), μ)
set_option maxRecDepth 10000 in
theorem t_X12_wrong_0 {X : jX} {l : Launch} {n : Nat} {Y : jY} (K : jOK X RX12 cX12_wrong 2 (some .int) 1) (hl : X.2.1 = l) {rr : Int32} {μr : jM} {v0 : Nat} {v1 : Int32} {μ : jM} {z : (Int32 × jM)} (H : f_X12_wrong Y v0 v1 μ = some z) (D : z = (rr, μr)) : JW X (jEnd X n Y (some (.int rr)) μr 0 0) 0 0 n Y 0 [(0, .ref v0), (1, .int v1)] [] μ := by
  unfold f_X12_wrong at H
  refine r_sipush (v := -1000) K dX12_wrong_0 (by decide) ?_
  refine r_iload_n K 1 dX12_wrong_3 rfl rfl ?_
  refine r_imul K dX12_wrong_4 ?_
  refine r_aload_n K 0 dX12_wrong_5 rfl rfl ?_
  refine w_getI K vc12 inX12 4 (by decide) mF_RX12_111 dX12_wrong_6 H (fun x1 H => ?_)
  refine r_isub K dX12_wrong_9 ?_
  cases H
  obtain ⟨rfl, rfl⟩ := jfin2 D
  exact r_iret K dX12_wrong_10
theorem c_X12_wrong (l : Launch) {n : Nat} {Y : jY} {v0 : Nat} {v1 : Int32} {μ : jM} {z : Int32 × jM} (H : f_X12_wrong Y v0 v1 μ = some z) : jC l yX12_wrong cX12_wrong 2 (some .int) 1 0 0 [.ref v0, .int v1] n Y μ n Y (some (.int z.1)) z.2 := by
  refine jC_of (by decide +kernel) (Nat.le_of_ble_eq_true rfl) (fun X hl K _ _ _ => ?_)
  obtain ⟨rr, μr⟩ := z
  exact t_X12_wrong_0 K hl H rfl
/-! RX12 reads(Z)I -/
def b_X12_reads_357 (Y : jY) (t0 : Int32) (μ : jM) : Option (Int32 × jM) :=
  some (t0, μ)
def b_X12_reads_348 (Y : jY) (v0 : Nat) (μ : jM) : Option (Int32 × jM) :=
  (jrcv Y v0 12 (f_X12_wrong Y v0 ((1 : Int32)) μ)).bind fun r1 =>
  b_X12_reads_357 Y r1.1 r1.2
def b_X12_reads_42 (Y : jY) (v0 : Nat) (μ : jM) : Option (Int32 × jM) :=
  (jrcv Y v0 12 (f_X12_wrong Y v0 ((1 : Int32)) μ)).bind fun r1 =>
  some (r1.1, r1.2)
def b_X12_reads_323 (Y : jY) (v0 : Nat) (v1 : Int32) (v2 : Int32) (μ : jM) : Option ((Int32 × Int32 × jM) ⊕ (Int32 × jM)) :=
  (jrcv Y v0 12 (f_X12_token Y v0 μ)).bind fun r1 =>
  some (.inl (v2, r1.1, r1.2))
def b_X12_reads_300 (Y : jY) (v0 : Nat) (v1 : Int32) (v2 : Int32) (μ : jM) : Option ((Int32 × Int32 × jM) ⊕ (Int32 × jM)) :=
  (jgO Y μ v0 12 6).bind fun x1 =>
  (jgI Y μ v0 12 8).bind fun x2 =>
  (jgI Y μ v0 12 5).bind fun x3 =>
  (jas Y μ x1 20 x2 (.int x3)).bind fun μ4 =>
  (jgI Y μ4 v0 12 8).bind fun x5 =>
  (jput Y μ4 v0 12 8 (.int ((x5 + ((1 : Int32)))))).bind fun μ6 =>
  b_X12_reads_323 Y v0 v1 v2 μ6
def b_X12_reads_256 (Y : jY) (v0 : Nat) (v1 : Int32) (v2 : Int32) (t0 : Int32) (t1 : Int32) (μ : jM) : Option ((Int32 × Int32 × jM) ⊕ (Int32 × jM)) :=
  if t0 = t1 then
    (jrcv Y v0 12 (f_X12_wrong Y v0 ((3 : Int32)) μ)).bind fun r7 =>
    some (.inr (r7.1, r7.2))
  else
    if v1 = 0 then
      b_X12_reads_300 Y v0 v1 v2 μ
    else
      (jgI Y μ v0 12 8).bind fun x1 =>
      if x1 ≤ 0 then
        b_X12_reads_300 Y v0 v1 v2 μ
      else
        (jgI Y μ v0 12 5).bind fun x2 =>
        (jgO Y μ v0 12 6).bind fun x3 =>
        (jgI Y μ v0 12 8).bind fun x4 =>
        (jaI Y μ x3 20 ((x4 - ((1 : Int32))))).bind fun x5 =>
        if x5 < x2 then
          b_X12_reads_300 Y v0 v1 v2 μ
        else
          (jrcv Y v0 12 (f_X12_wrong Y v0 ((4 : Int32)) μ)).bind fun r6 =>
          some (.inr (r6.1, r6.2))
def b_X12_reads_197 (Y : jY) (v0 : Nat) (v1 : Int32) (v2 : Int32) (μ : jM) : Option ((Int32 × Int32 × jM) ⊕ (Int32 × jM)) :=
  (jgO Y μ v0 12 7).bind fun x1 =>
  (jgI Y μ v0 12 9).bind fun x2 =>
  (jgI Y μ v0 12 5).bind fun x3 =>
  (jas Y μ x1 20 x2 (.int x3)).bind fun μ4 =>
  (jgI Y μ4 v0 12 9).bind fun x5 =>
  (jput Y μ4 v0 12 9 (.int ((x5 + ((1 : Int32)))))).bind fun μ6 =>
  b_X12_reads_323 Y v0 v1 v2 μ6
def b_X12_reads_191 (Y : jY) (v0 : Nat) (μ : jM) : Option (Int32 × jM) :=
  (jrcv Y v0 12 (f_X12_wrong Y v0 ((5 : Int32)) μ)).bind fun r1 =>
  some (r1.1, r1.2)
def b_X12_reads_153 (Y : jY) (v0 : Nat) (v1 : Int32) (v2 : Int32) (μ : jM) : Option ((Int32 × Int32 × jM) ⊕ (Int32 × jM)) :=
  if v1 = 0 then
    b_X12_reads_197 Y v0 v1 v2 μ
  else
    (jgI Y μ v0 12 5).bind fun x1 =>
    (jgO Y μ v0 12 6).bind fun x2 =>
    (jgI Y μ v0 12 9).bind fun x3 =>
    (jaI Y μ x2 20 x3).bind fun x4 =>
    if x1 ≤ x4 then
      (b_X12_reads_191 Y v0 μ).map (fun r => (.inr r))
    else
      (jgI Y μ v0 12 5).bind fun x5 =>
      (jgO Y μ v0 12 6).bind fun x6 =>
      (jgI Y μ v0 12 9).bind fun x7 =>
      (jaI Y μ x6 20 ((x7 + ((1 : Int32))))).bind fun x8 =>
      if x5 < x8 then
        b_X12_reads_197 Y v0 v1 v2 μ
      else
        (b_X12_reads_191 Y v0 μ).map (fun r => (.inr r))
def b_X12_reads_87 (Y : jY) (v0 : Nat) (v1 : Int32) (v2 : Int32) (t0 : Int32) (t1 : Int32) (t2 : Int32) (μ : jM) : Option ((Int32 × Int32 × jM) ⊕ (Int32 × jM)) :=
  (f_X12_in Y t0 t1 t2 μ).bind fun r1 =>
  if r1.1 = 0 then
    (jrcv Y v0 12 (f_X12_wrong Y v0 ((2 : Int32)) r1.2)).bind fun r11 =>
    some (.inr (r11.1, r11.2))
  else
    (jgI Y r1.2 v0 12 9).bind fun x2 =>
    (jgI Y r1.2 v0 12 8).bind fun x3 =>
    if x2 = ((x3 - ((1 : Int32)))) then
      (jrcv Y v0 12 (f_X12_wrong Y v0 ((3 : Int32)) r1.2)).bind fun r10 =>
      some (.inr (r10.1, r10.2))
    else
      if v1 = 0 then
        b_X12_reads_153 Y v0 v1 v2 r1.2
      else
        (jgI Y r1.2 v0 12 9).bind fun x4 =>
        if x4 ≤ 0 then
          b_X12_reads_153 Y v0 v1 v2 r1.2
        else
          (jgI Y r1.2 v0 12 5).bind fun x5 =>
          (jgO Y r1.2 v0 12 7).bind fun x6 =>
          (jgI Y r1.2 v0 12 9).bind fun x7 =>
          (jaI Y r1.2 x6 20 ((x7 - ((1 : Int32))))).bind fun x8 =>
          if x8 < x5 then
            b_X12_reads_153 Y v0 v1 v2 r1.2
          else
            (jrcv Y v0 12 (f_X12_wrong Y v0 ((4 : Int32)) r1.2)).bind fun r9 =>
            some (.inr (r9.1, r9.2))
def b_X12_reads_76 (Y : jY) (v0 : Nat) (v1 : Int32) (v2 : Int32) (t0 : Int32) (t1 : Int32) (μ : jM) : Option ((Int32 × Int32 × jM) ⊕ (Int32 × jM)) :=
  if v1 = 0 then
    b_X12_reads_87 Y v0 v1 v2 t0 t1 (36 : Int32) μ
  else
    b_X12_reads_87 Y v0 v1 v2 t0 t1 (6 : Int32) μ
def b_X12_reads_48 (Y : jY) (v0 : Nat) (v1 : Int32) (v2 : Int32) (v3 : Int32) (μ : jM) : Option ((Int32 × Int32 × jM) ⊕ (Int32 × jM)) :=
  if v3 = ((2 : Int32)) then
    b_X12_reads_323 Y v0 v1 (1 : Int32) μ
  else
    if v2 = 0 then
      (jgI Y μ v0 12 5).bind fun x1 =>
      (f_X12_in Y x1 ((-6 : Int32)) ((6 : Int32)) μ).bind fun r2 =>
      if r2.1 = 0 then
        (jrcv Y v0 12 (f_X12_wrong Y v0 ((2 : Int32)) r2.2)).bind fun r4 =>
        some (.inr (r4.1, r4.2))
      else
        (jgI Y r2.2 v0 12 8).bind fun x3 =>
        if v1 = 0 then
          b_X12_reads_256 Y v0 v1 v2 x3 (5 : Int32) r2.2
        else
          b_X12_reads_256 Y v0 v1 v2 x3 (4 : Int32) r2.2
    else
      (jgI Y μ v0 12 5).bind fun x5 =>
      if v1 = 0 then
        b_X12_reads_76 Y v0 v1 v2 x5 (1 : Int32) μ
      else
        b_X12_reads_76 Y v0 v1 v2 x5 (-6 : Int32) μ
def b_X12_reads_17 (Y : jY) (v0 : Nat) (v1 : Int32) (v2 : Int32) (v3 : Int32) (μ : jM) : Option ((Int32 × Int32 × jM) ⊕ (Int32 × jM)) :=
  if v3 = 0 then
    if v2 = 0 then
      (b_X12_reads_348 Y v0 μ).map (fun r => (.inr r))
    else
      (jgI Y μ v0 12 9).bind fun x1 =>
      (jgI Y μ v0 12 8).bind fun x2 =>
      if ((x2 - ((1 : Int32)))) ≤ x1 then
        (b_X12_reads_357 Y (0 : Int32) μ).map (fun r => (.inr r))
      else
        (b_X12_reads_348 Y v0 μ).map (fun r => (.inr r))
  else
    if v3 = ((3 : Int32)) then
      (b_X12_reads_42 Y v0 μ).map (fun r => (.inr r))
    else
      if v3 = ((2 : Int32)) then
        if v2 = 0 then
          (jgI Y μ v0 12 8).bind fun x3 =>
          if x3 = 0 then
            (b_X12_reads_42 Y v0 μ).map (fun r => (.inr r))
          else
            b_X12_reads_48 Y v0 v1 v2 v3 μ
        else
          (b_X12_reads_42 Y v0 μ).map (fun r => (.inr r))
      else
        b_X12_reads_48 Y v0 v1 v2 v3 μ
def f_X12_reads (Y : jY) (v0 : Nat) (v1 : Int32) (μ : jM) : Option (Int32 × jM) :=
  (jput Y μ v0 12 8 (.int ((0 : Int32)))).bind fun μ1 =>
  (jput Y μ1 v0 12 9 (.int ((0 : Int32)))).bind fun μ2 =>
  (jrcv Y v0 12 (f_X12_token Y v0 μ2)).bind fun r3 =>
  jit jF (fun (s : Int32 × Int32 × jM) => b_X12_reads_17 Y v0 v1 s.1 s.2.1 s.2.2) ((0 : Int32), r3.1, r3.2)
set_option maxRecDepth 10000 in
theorem t_X12_reads_357 {X : jX} {l : Launch} {n : Nat} {Y : jY} (K : jOK X RX12 cX12_reads 4 (some .int) 3) (hl : X.2.1 = l) {rr : Int32} {μr : jM} {t0 : Int32} {μ : jM} {z : (Int32 × jM)} (H : b_X12_reads_357 Y t0 μ = some z) (D : z = (rr, μr)) : JW X (jEnd X n Y (some (.int rr)) μr 0 0) 0 0 n Y 357 [] [.int t0] μ := by
  unfold b_X12_reads_357 at H
  cases H
  obtain ⟨rfl, rfl⟩ := jfin2 D
  exact r_iret K dX12_reads_357
set_option maxRecDepth 10000 in
theorem t_X12_reads_348 {X : jX} {l : Launch} {n : Nat} {Y : jY} (K : jOK X RX12 cX12_reads 4 (some .int) 3) (hl : X.2.1 = l) {rr : Int32} {μr : jM} {v0 : Nat} {μ : jM} {z : (Int32 × jM)} (H : b_X12_reads_348 Y v0 μ = some z) (D : z = (rr, μr)) : JW X (jEnd X n Y (some (.int rr)) μr 0 0) 0 0 n Y 348 [(0, .ref v0)] [] μ := by
  unfold b_X12_reads_348 at H
  refine r_aload_n K 0 dX12_reads_348 rfl rfl ?_
  refine r_iconst (v := 1) K dX12_reads_349 (by decide) ?_
  refine w_callV K hl H (fun r h => c_X12_wrong l h) mC_yX12_wrong mM_RX12_131 mI_yX12_wrong mS_yX12_wrong mZ_RX12 vc12 (Nat.le_of_ble_eq_true rfl) (Nat.le_of_ble_eq_true rfl) np_yX12_wrong rfl (Nat.le_of_ble_eq_true rfl) dX12_reads_350 (fun r1 H => ?_) ⟨Nat.zero_le _, Nat.zero_le _⟩
  refine r_goto K 357 dX12_reads_353 (by decide) ?_
  exact r_sub [] rfl (t_X12_reads_357 K hl H D)
set_option maxRecDepth 10000 in
theorem t_X12_reads_42 {X : jX} {l : Launch} {n : Nat} {Y : jY} (K : jOK X RX12 cX12_reads 4 (some .int) 3) (hl : X.2.1 = l) {rr : Int32} {μr : jM} {v0 : Nat} {μ : jM} {z : (Int32 × jM)} (H : b_X12_reads_42 Y v0 μ = some z) (D : z = (rr, μr)) : JW X (jEnd X n Y (some (.int rr)) μr 0 0) 0 0 n Y 42 [(0, .ref v0)] [] μ := by
  unfold b_X12_reads_42 at H
  refine r_aload_n K 0 dX12_reads_42 rfl rfl ?_
  refine r_iconst (v := 1) K dX12_reads_43 (by decide) ?_
  refine w_callV K hl H (fun r h => c_X12_wrong l h) mC_yX12_wrong mM_RX12_131 mI_yX12_wrong mS_yX12_wrong mZ_RX12 vc12 (Nat.le_of_ble_eq_true rfl) (Nat.le_of_ble_eq_true rfl) np_yX12_wrong rfl (Nat.le_of_ble_eq_true rfl) dX12_reads_44 (fun r1 H => ?_) ⟨Nat.zero_le _, Nat.zero_le _⟩
  cases H
  obtain ⟨rfl, rfl⟩ := jfin2 D
  exact r_iret K dX12_reads_47
set_option maxRecDepth 10000 in
theorem t_X12_reads_323 {X : jX} {l : Launch} {n : Nat} {Y : jY} (K : jOK X RX12 cX12_reads 4 (some .int) 3) (hl : X.2.1 = l) {rr : Int32} {μr : jM} {v0 : Nat} {v1 : Int32} {v2 : Int32} {μ : jM} {z : ((Int32 × Int32 × jM) ⊕ (Int32 × jM))} (H : b_X12_reads_323 Y v0 v1 v2 μ = some z) (D : Sum.elim (fun (s : Int32 × Int32 × jM) => JW X (jEnd X n Y (some (.int rr)) μr 0 0) 0 0 n Y 17 [(0, .ref v0), (1, .int v1), (2, .int s.1), (3, .int s.2.1)] [] s.2.2) (fun r => r = (rr, μr)) z) : JW X (jEnd X n Y (some (.int rr)) μr 0 0) 0 0 n Y 323 [(0, .ref v0), (1, .int v1), (2, .int v2)] [] μ := by
  unfold b_X12_reads_323 at H
  refine r_aload_n K 0 dX12_reads_323 rfl rfl ?_
  refine w_callV K hl H (fun r h => c_X12_token l h) mC_yX12_token mM_RX12_127 mI_yX12_token mS_yX12_token mZ_RX12 vc12 (Nat.le_of_ble_eq_true rfl) (Nat.le_of_ble_eq_true rfl) np_yX12_token rfl (Nat.le_of_ble_eq_true rfl) dX12_reads_324 (fun r1 H => ?_) ⟨Nat.zero_le _, Nat.zero_le _⟩
  refine r_istore_n K [(3, .int _), (0, .ref _), (1, .int _), (2, .int _)] dX12_reads_327 rfl (by decide) rfl ?_
  refine r_goto K 17 dX12_reads_328 (by decide) ?_
  cases H
  exact r_sub [1, 2, 3, 0] rfl D
set_option maxRecDepth 10000 in
theorem t_X12_reads_300 {X : jX} {l : Launch} {n : Nat} {Y : jY} (K : jOK X RX12 cX12_reads 4 (some .int) 3) (hl : X.2.1 = l) {rr : Int32} {μr : jM} {v0 : Nat} {v1 : Int32} {v2 : Int32} {μ : jM} {z : ((Int32 × Int32 × jM) ⊕ (Int32 × jM))} (H : b_X12_reads_300 Y v0 v1 v2 μ = some z) (D : Sum.elim (fun (s : Int32 × Int32 × jM) => JW X (jEnd X n Y (some (.int rr)) μr 0 0) 0 0 n Y 17 [(0, .ref v0), (1, .int v1), (2, .int s.1), (3, .int s.2.1)] [] s.2.2) (fun r => r = (rr, μr)) z) : JW X (jEnd X n Y (some (.int rr)) μr 0 0) 0 0 n Y 300 [(0, .ref v0), (1, .int v1), (2, .int v2)] [] μ := by
  unfold b_X12_reads_300 at H
  refine r_aload_n K 0 dX12_reads_300 rfl rfl ?_
  refine w_getO K vc12 inX12 6 (by decide) mF_RX12_13 dX12_reads_301 H (fun x1 H => ?_)
  refine r_aload_n K 0 dX12_reads_304 rfl rfl ?_
  refine w_getI K vc12 inX12 8 (by decide) mF_RX12_121 dX12_reads_305 H (fun x2 H => ?_)
  refine r_aload_n K 0 dX12_reads_308 rfl rfl ?_
  refine w_getI K vc12 inX12 5 (by decide) mF_RX12_118 dX12_reads_309 H (fun x3 H => ?_)
  refine w_iast K dX12_reads_312 H (fun μ4 H => ?_)
  refine r_aload_n K 0 dX12_reads_313 rfl rfl ?_
  refine r_aload_n K 0 dX12_reads_314 rfl rfl ?_
  refine w_getI K vc12 inX12 8 (by decide) mF_RX12_121 dX12_reads_315 H (fun x5 H => ?_)
  refine r_iconst (v := 1) K dX12_reads_318 (by decide) ?_
  refine r_iadd K dX12_reads_319 ?_
  refine w_put K vc12 inX12 tyX12_ok nmX12 8 (by decide) mF_RX12_121 rfl (fun _ => rfl) (fun _ => rfl) dX12_reads_320 H (fun μ6 H => ?_)
  exact r_sub [0, 1, 2] rfl (t_X12_reads_323 K hl H D)
set_option maxRecDepth 10000 in
theorem t_X12_reads_256 {X : jX} {l : Launch} {n : Nat} {Y : jY} (K : jOK X RX12 cX12_reads 4 (some .int) 3) (hl : X.2.1 = l) {rr : Int32} {μr : jM} {v0 : Nat} {v1 : Int32} {v2 : Int32} {t0 : Int32} {t1 : Int32} {μ : jM} {z : ((Int32 × Int32 × jM) ⊕ (Int32 × jM))} (H : b_X12_reads_256 Y v0 v1 v2 t0 t1 μ = some z) (D : Sum.elim (fun (s : Int32 × Int32 × jM) => JW X (jEnd X n Y (some (.int rr)) μr 0 0) 0 0 n Y 17 [(0, .ref v0), (1, .int v1), (2, .int s.1), (3, .int s.2.1)] [] s.2.2) (fun r => r = (rr, μr)) z) : JW X (jEnd X n Y (some (.int rr)) μr 0 0) 0 0 n Y 256 [(0, .ref v0), (1, .int v1), (2, .int v2)] [.int t1, .int t0] μ := by
  unfold b_X12_reads_256 at H
  refine w_icmp_ne K 265 dX12_reads_256 (by decide) H (fun _ H => ?_) (fun _ H => ?_)
  · refine r_iload_n K 1 dX12_reads_265 rfl rfl ?_
    refine w_if_eq K 300 dX12_reads_266 (by decide) H (fun _ H => ?_) (fun _ H => ?_)
    · exact r_sub [0, 1, 2] rfl (t_X12_reads_300 K hl H D)
    · refine r_aload_n K 0 dX12_reads_269 rfl rfl ?_
      refine w_getI K vc12 inX12 8 (by decide) mF_RX12_121 dX12_reads_270 H (fun x1 H => ?_)
      refine w_if_le K 300 dX12_reads_273 (by decide) H (fun _ H => ?_) (fun _ H => ?_)
      · exact r_sub [0, 1, 2] rfl (t_X12_reads_300 K hl H D)
      · refine r_aload_n K 0 dX12_reads_276 rfl rfl ?_
        refine w_getI K vc12 inX12 5 (by decide) mF_RX12_118 dX12_reads_277 H (fun x2 H => ?_)
        refine r_aload_n K 0 dX12_reads_280 rfl rfl ?_
        refine w_getO K vc12 inX12 6 (by decide) mF_RX12_13 dX12_reads_281 H (fun x3 H => ?_)
        refine r_aload_n K 0 dX12_reads_284 rfl rfl ?_
        refine w_getI K vc12 inX12 8 (by decide) mF_RX12_121 dX12_reads_285 H (fun x4 H => ?_)
        refine r_iconst (v := 1) K dX12_reads_288 (by decide) ?_
        refine r_isub K dX12_reads_289 ?_
        refine w_iald K dX12_reads_290 H (fun x5 H => ?_)
        refine w_icmp_gt K 300 dX12_reads_291 (by decide) H (fun _ H => ?_) (fun _ H => ?_)
        · exact r_sub [0, 1, 2] rfl (t_X12_reads_300 K hl H D)
        · refine r_aload_n K 0 dX12_reads_294 rfl rfl ?_
          refine r_iconst (v := 4) K dX12_reads_295 (by decide) ?_
          refine w_callV K hl H (fun r h => c_X12_wrong l h) mC_yX12_wrong mM_RX12_131 mI_yX12_wrong mS_yX12_wrong mZ_RX12 vc12 (Nat.le_of_ble_eq_true rfl) (Nat.le_of_ble_eq_true rfl) np_yX12_wrong rfl (Nat.le_of_ble_eq_true rfl) dX12_reads_296 (fun r6 H => ?_) ⟨Nat.zero_le _, Nat.zero_le _⟩
          cases H
          simp only [Sum.elim_inr] at D
          obtain ⟨rfl, rfl⟩ := jfin2 D
          exact r_iret K dX12_reads_299
  · refine r_aload_n K 0 dX12_reads_259 rfl rfl ?_
    refine r_iconst (v := 3) K dX12_reads_260 (by decide) ?_
    refine w_callV K hl H (fun r h => c_X12_wrong l h) mC_yX12_wrong mM_RX12_131 mI_yX12_wrong mS_yX12_wrong mZ_RX12 vc12 (Nat.le_of_ble_eq_true rfl) (Nat.le_of_ble_eq_true rfl) np_yX12_wrong rfl (Nat.le_of_ble_eq_true rfl) dX12_reads_261 (fun r7 H => ?_) ⟨Nat.zero_le _, Nat.zero_le _⟩
    cases H
    simp only [Sum.elim_inr] at D
    obtain ⟨rfl, rfl⟩ := jfin2 D
    exact r_iret K dX12_reads_264
set_option maxRecDepth 10000 in
theorem t_X12_reads_197 {X : jX} {l : Launch} {n : Nat} {Y : jY} (K : jOK X RX12 cX12_reads 4 (some .int) 3) (hl : X.2.1 = l) {rr : Int32} {μr : jM} {v0 : Nat} {v1 : Int32} {v2 : Int32} {μ : jM} {z : ((Int32 × Int32 × jM) ⊕ (Int32 × jM))} (H : b_X12_reads_197 Y v0 v1 v2 μ = some z) (D : Sum.elim (fun (s : Int32 × Int32 × jM) => JW X (jEnd X n Y (some (.int rr)) μr 0 0) 0 0 n Y 17 [(0, .ref v0), (1, .int v1), (2, .int s.1), (3, .int s.2.1)] [] s.2.2) (fun r => r = (rr, μr)) z) : JW X (jEnd X n Y (some (.int rr)) μr 0 0) 0 0 n Y 197 [(0, .ref v0), (1, .int v1), (2, .int v2)] [] μ := by
  unfold b_X12_reads_197 at H
  refine r_aload_n K 0 dX12_reads_197 rfl rfl ?_
  refine w_getO K vc12 inX12 7 (by decide) mF_RX12_17 dX12_reads_198 H (fun x1 H => ?_)
  refine r_aload_n K 0 dX12_reads_201 rfl rfl ?_
  refine w_getI K vc12 inX12 9 (by decide) mF_RX12_124 dX12_reads_202 H (fun x2 H => ?_)
  refine r_aload_n K 0 dX12_reads_205 rfl rfl ?_
  refine w_getI K vc12 inX12 5 (by decide) mF_RX12_118 dX12_reads_206 H (fun x3 H => ?_)
  refine w_iast K dX12_reads_209 H (fun μ4 H => ?_)
  refine r_aload_n K 0 dX12_reads_210 rfl rfl ?_
  refine r_aload_n K 0 dX12_reads_211 rfl rfl ?_
  refine w_getI K vc12 inX12 9 (by decide) mF_RX12_124 dX12_reads_212 H (fun x5 H => ?_)
  refine r_iconst (v := 1) K dX12_reads_215 (by decide) ?_
  refine r_iadd K dX12_reads_216 ?_
  refine w_put K vc12 inX12 tyX12_ok nmX12 9 (by decide) mF_RX12_124 rfl (fun _ => rfl) (fun _ => rfl) dX12_reads_217 H (fun μ6 H => ?_)
  refine r_goto K 323 dX12_reads_220 (by decide) ?_
  exact r_sub [0, 1, 2] rfl (t_X12_reads_323 K hl H D)
set_option maxRecDepth 10000 in
theorem t_X12_reads_191 {X : jX} {l : Launch} {n : Nat} {Y : jY} (K : jOK X RX12 cX12_reads 4 (some .int) 3) (hl : X.2.1 = l) {rr : Int32} {μr : jM} {v0 : Nat} {μ : jM} {z : (Int32 × jM)} (H : b_X12_reads_191 Y v0 μ = some z) (D : z = (rr, μr)) : JW X (jEnd X n Y (some (.int rr)) μr 0 0) 0 0 n Y 191 [(0, .ref v0)] [] μ := by
  unfold b_X12_reads_191 at H
  refine r_aload_n K 0 dX12_reads_191 rfl rfl ?_
  refine r_iconst (v := 5) K dX12_reads_192 (by decide) ?_
  refine w_callV K hl H (fun r h => c_X12_wrong l h) mC_yX12_wrong mM_RX12_131 mI_yX12_wrong mS_yX12_wrong mZ_RX12 vc12 (Nat.le_of_ble_eq_true rfl) (Nat.le_of_ble_eq_true rfl) np_yX12_wrong rfl (Nat.le_of_ble_eq_true rfl) dX12_reads_193 (fun r1 H => ?_) ⟨Nat.zero_le _, Nat.zero_le _⟩
  cases H
  obtain ⟨rfl, rfl⟩ := jfin2 D
  exact r_iret K dX12_reads_196
set_option maxRecDepth 10000 in
theorem t_X12_reads_153 {X : jX} {l : Launch} {n : Nat} {Y : jY} (K : jOK X RX12 cX12_reads 4 (some .int) 3) (hl : X.2.1 = l) {rr : Int32} {μr : jM} {v0 : Nat} {v1 : Int32} {v2 : Int32} {μ : jM} {z : ((Int32 × Int32 × jM) ⊕ (Int32 × jM))} (H : b_X12_reads_153 Y v0 v1 v2 μ = some z) (D : Sum.elim (fun (s : Int32 × Int32 × jM) => JW X (jEnd X n Y (some (.int rr)) μr 0 0) 0 0 n Y 17 [(0, .ref v0), (1, .int v1), (2, .int s.1), (3, .int s.2.1)] [] s.2.2) (fun r => r = (rr, μr)) z) : JW X (jEnd X n Y (some (.int rr)) μr 0 0) 0 0 n Y 153 [(0, .ref v0), (1, .int v1), (2, .int v2)] [] μ := by
  unfold b_X12_reads_153 at H
  refine r_iload_n K 1 dX12_reads_153 rfl rfl ?_
  refine w_if_eq K 197 dX12_reads_154 (by decide) H (fun _ H => ?_) (fun _ H => ?_)
  · exact r_sub [0, 1, 2] rfl (t_X12_reads_197 K hl H D)
  · refine r_aload_n K 0 dX12_reads_157 rfl rfl ?_
    refine w_getI K vc12 inX12 5 (by decide) mF_RX12_118 dX12_reads_158 H (fun x1 H => ?_)
    refine r_aload_n K 0 dX12_reads_161 rfl rfl ?_
    refine w_getO K vc12 inX12 6 (by decide) mF_RX12_13 dX12_reads_162 H (fun x2 H => ?_)
    refine r_aload_n K 0 dX12_reads_165 rfl rfl ?_
    refine w_getI K vc12 inX12 9 (by decide) mF_RX12_124 dX12_reads_166 H (fun x3 H => ?_)
    refine w_iald K dX12_reads_169 H (fun x4 H => ?_)
    refine w_icmp_le K 191 dX12_reads_170 (by decide) H (fun _ H => ?_) (fun _ H => ?_)
    · obtain ⟨z2, H2, rfl⟩ := jmap H
      exact r_sub [0] rfl (t_X12_reads_191 K hl H2 D)
    · refine r_aload_n K 0 dX12_reads_173 rfl rfl ?_
      refine w_getI K vc12 inX12 5 (by decide) mF_RX12_118 dX12_reads_174 H (fun x5 H => ?_)
      refine r_aload_n K 0 dX12_reads_177 rfl rfl ?_
      refine w_getO K vc12 inX12 6 (by decide) mF_RX12_13 dX12_reads_178 H (fun x6 H => ?_)
      refine r_aload_n K 0 dX12_reads_181 rfl rfl ?_
      refine w_getI K vc12 inX12 9 (by decide) mF_RX12_124 dX12_reads_182 H (fun x7 H => ?_)
      refine r_iconst (v := 1) K dX12_reads_185 (by decide) ?_
      refine r_iadd K dX12_reads_186 ?_
      refine w_iald K dX12_reads_187 H (fun x8 H => ?_)
      refine w_icmp_lt K 197 dX12_reads_188 (by decide) H (fun _ H => ?_) (fun _ H => ?_)
      · exact r_sub [0, 1, 2] rfl (t_X12_reads_197 K hl H D)
      · obtain ⟨z2, H2, rfl⟩ := jmap H
        exact r_sub [0] rfl (t_X12_reads_191 K hl H2 D)
set_option maxRecDepth 10000 in
theorem t_X12_reads_87 {X : jX} {l : Launch} {n : Nat} {Y : jY} (K : jOK X RX12 cX12_reads 4 (some .int) 3) (hl : X.2.1 = l) {rr : Int32} {μr : jM} {v0 : Nat} {v1 : Int32} {v2 : Int32} {t0 : Int32} {t1 : Int32} {t2 : Int32} {μ : jM} {z : ((Int32 × Int32 × jM) ⊕ (Int32 × jM))} (H : b_X12_reads_87 Y v0 v1 v2 t0 t1 t2 μ = some z) (D : Sum.elim (fun (s : Int32 × Int32 × jM) => JW X (jEnd X n Y (some (.int rr)) μr 0 0) 0 0 n Y 17 [(0, .ref v0), (1, .int v1), (2, .int s.1), (3, .int s.2.1)] [] s.2.2) (fun r => r = (rr, μr)) z) : JW X (jEnd X n Y (some (.int rr)) μr 0 0) 0 0 n Y 87 [(0, .ref v0), (1, .int v1), (2, .int v2)] [.int t2, .int t1, .int t0] μ := by
  unfold b_X12_reads_87 at H
  refine w_callS K hl H (fun r h => c_X12_in l h) mC_yX12_in mM_RX12_134 mT_yX12_in mZ_RX12 (Nat.le_of_ble_eq_true rfl) (Nat.le_of_ble_eq_true rfl) np_yX12_in rfl (Nat.le_of_ble_eq_true rfl) dX12_reads_87 (fun r1 H => ?_) ⟨Nat.zero_le _, Nat.zero_le _⟩
  refine w_if_ne K 99 dX12_reads_90 (by decide) H (fun _ H => ?_) (fun _ H => ?_)
  · refine r_aload_n K 0 dX12_reads_99 rfl rfl ?_
    refine w_getI K vc12 inX12 9 (by decide) mF_RX12_124 dX12_reads_100 H (fun x2 H => ?_)
    refine r_aload_n K 0 dX12_reads_103 rfl rfl ?_
    refine w_getI K vc12 inX12 8 (by decide) mF_RX12_121 dX12_reads_104 H (fun x3 H => ?_)
    refine r_iconst (v := 1) K dX12_reads_107 (by decide) ?_
    refine r_isub K dX12_reads_108 ?_
    refine w_icmp_ne K 118 dX12_reads_109 (by decide) H (fun _ H => ?_) (fun _ H => ?_)
    · refine r_iload_n K 1 dX12_reads_118 rfl rfl ?_
      refine w_if_eq K 153 dX12_reads_119 (by decide) H (fun _ H => ?_) (fun _ H => ?_)
      · exact r_sub [0, 1, 2] rfl (t_X12_reads_153 K hl H D)
      · refine r_aload_n K 0 dX12_reads_122 rfl rfl ?_
        refine w_getI K vc12 inX12 9 (by decide) mF_RX12_124 dX12_reads_123 H (fun x4 H => ?_)
        refine w_if_le K 153 dX12_reads_126 (by decide) H (fun _ H => ?_) (fun _ H => ?_)
        · exact r_sub [0, 1, 2] rfl (t_X12_reads_153 K hl H D)
        · refine r_aload_n K 0 dX12_reads_129 rfl rfl ?_
          refine w_getI K vc12 inX12 5 (by decide) mF_RX12_118 dX12_reads_130 H (fun x5 H => ?_)
          refine r_aload_n K 0 dX12_reads_133 rfl rfl ?_
          refine w_getO K vc12 inX12 7 (by decide) mF_RX12_17 dX12_reads_134 H (fun x6 H => ?_)
          refine r_aload_n K 0 dX12_reads_137 rfl rfl ?_
          refine w_getI K vc12 inX12 9 (by decide) mF_RX12_124 dX12_reads_138 H (fun x7 H => ?_)
          refine r_iconst (v := 1) K dX12_reads_141 (by decide) ?_
          refine r_isub K dX12_reads_142 ?_
          refine w_iald K dX12_reads_143 H (fun x8 H => ?_)
          refine w_icmp_gt K 153 dX12_reads_144 (by decide) H (fun _ H => ?_) (fun _ H => ?_)
          · exact r_sub [0, 1, 2] rfl (t_X12_reads_153 K hl H D)
          · refine r_aload_n K 0 dX12_reads_147 rfl rfl ?_
            refine r_iconst (v := 4) K dX12_reads_148 (by decide) ?_
            refine w_callV K hl H (fun r h => c_X12_wrong l h) mC_yX12_wrong mM_RX12_131 mI_yX12_wrong mS_yX12_wrong mZ_RX12 vc12 (Nat.le_of_ble_eq_true rfl) (Nat.le_of_ble_eq_true rfl) np_yX12_wrong rfl (Nat.le_of_ble_eq_true rfl) dX12_reads_149 (fun r9 H => ?_) ⟨Nat.zero_le _, Nat.zero_le _⟩
            cases H
            simp only [Sum.elim_inr] at D
            obtain ⟨rfl, rfl⟩ := jfin2 D
            exact r_iret K dX12_reads_152
    · refine r_aload_n K 0 dX12_reads_112 rfl rfl ?_
      refine r_iconst (v := 3) K dX12_reads_113 (by decide) ?_
      refine w_callV K hl H (fun r h => c_X12_wrong l h) mC_yX12_wrong mM_RX12_131 mI_yX12_wrong mS_yX12_wrong mZ_RX12 vc12 (Nat.le_of_ble_eq_true rfl) (Nat.le_of_ble_eq_true rfl) np_yX12_wrong rfl (Nat.le_of_ble_eq_true rfl) dX12_reads_114 (fun r10 H => ?_) ⟨Nat.zero_le _, Nat.zero_le _⟩
      cases H
      simp only [Sum.elim_inr] at D
      obtain ⟨rfl, rfl⟩ := jfin2 D
      exact r_iret K dX12_reads_117
  · refine r_aload_n K 0 dX12_reads_93 rfl rfl ?_
    refine r_iconst (v := 2) K dX12_reads_94 (by decide) ?_
    refine w_callV K hl H (fun r h => c_X12_wrong l h) mC_yX12_wrong mM_RX12_131 mI_yX12_wrong mS_yX12_wrong mZ_RX12 vc12 (Nat.le_of_ble_eq_true rfl) (Nat.le_of_ble_eq_true rfl) np_yX12_wrong rfl (Nat.le_of_ble_eq_true rfl) dX12_reads_95 (fun r11 H => ?_) ⟨Nat.zero_le _, Nat.zero_le _⟩
    cases H
    simp only [Sum.elim_inr] at D
    obtain ⟨rfl, rfl⟩ := jfin2 D
    exact r_iret K dX12_reads_98
set_option maxRecDepth 10000 in
theorem t_X12_reads_76 {X : jX} {l : Launch} {n : Nat} {Y : jY} (K : jOK X RX12 cX12_reads 4 (some .int) 3) (hl : X.2.1 = l) {rr : Int32} {μr : jM} {v0 : Nat} {v1 : Int32} {v2 : Int32} {t0 : Int32} {t1 : Int32} {μ : jM} {z : ((Int32 × Int32 × jM) ⊕ (Int32 × jM))} (H : b_X12_reads_76 Y v0 v1 v2 t0 t1 μ = some z) (D : Sum.elim (fun (s : Int32 × Int32 × jM) => JW X (jEnd X n Y (some (.int rr)) μr 0 0) 0 0 n Y 17 [(0, .ref v0), (1, .int v1), (2, .int s.1), (3, .int s.2.1)] [] s.2.2) (fun r => r = (rr, μr)) z) : JW X (jEnd X n Y (some (.int rr)) μr 0 0) 0 0 n Y 76 [(0, .ref v0), (1, .int v1), (2, .int v2)] [.int t1, .int t0] μ := by
  unfold b_X12_reads_76 at H
  refine r_iload_n K 1 dX12_reads_76 rfl rfl ?_
  refine w_if_eq K 85 dX12_reads_77 (by decide) H (fun _ H => ?_) (fun _ H => ?_)
  · refine r_bipush (v := 36) K dX12_reads_85 (by decide) ?_
    exact r_sub [0, 1, 2] rfl (t_X12_reads_87 K hl H D)
  · refine r_bipush (v := 6) K dX12_reads_80 (by decide) ?_
    refine r_goto K 87 dX12_reads_82 (by decide) ?_
    exact r_sub [0, 1, 2] rfl (t_X12_reads_87 K hl H D)
set_option maxRecDepth 10000 in
theorem t_X12_reads_48 {X : jX} {l : Launch} {n : Nat} {Y : jY} (K : jOK X RX12 cX12_reads 4 (some .int) 3) (hl : X.2.1 = l) {rr : Int32} {μr : jM} {v0 : Nat} {v1 : Int32} {v2 : Int32} {v3 : Int32} {μ : jM} {z : ((Int32 × Int32 × jM) ⊕ (Int32 × jM))} (H : b_X12_reads_48 Y v0 v1 v2 v3 μ = some z) (D : Sum.elim (fun (s : Int32 × Int32 × jM) => JW X (jEnd X n Y (some (.int rr)) μr 0 0) 0 0 n Y 17 [(0, .ref v0), (1, .int v1), (2, .int s.1), (3, .int s.2.1)] [] s.2.2) (fun r => r = (rr, μr)) z) : JW X (jEnd X n Y (some (.int rr)) μr 0 0) 0 0 n Y 48 [(0, .ref v0), (1, .int v1), (2, .int v2), (3, .int v3)] [] μ := by
  unfold b_X12_reads_48 at H
  refine r_iload_n K 3 dX12_reads_48 rfl rfl ?_
  refine r_iconst (v := 2) K dX12_reads_49 (by decide) ?_
  refine w_icmp_ne K 58 dX12_reads_50 (by decide) H (fun _ H => ?_) (fun _ H => ?_)
  · refine r_iload_n K 2 dX12_reads_58 rfl rfl ?_
    refine w_if_eq K 223 dX12_reads_59 (by decide) H (fun _ H => ?_) (fun _ H => ?_)
    · refine r_aload_n K 0 dX12_reads_223 rfl rfl ?_
      refine w_getI K vc12 inX12 5 (by decide) mF_RX12_118 dX12_reads_224 H (fun x1 H => ?_)
      refine r_bipush (v := -6) K dX12_reads_227 (by decide) ?_
      refine r_bipush (v := 6) K dX12_reads_229 (by decide) ?_
      refine w_callS K hl H (fun r h => c_X12_in l h) mC_yX12_in mM_RX12_134 mT_yX12_in mZ_RX12 (Nat.le_of_ble_eq_true rfl) (Nat.le_of_ble_eq_true rfl) np_yX12_in rfl (Nat.le_of_ble_eq_true rfl) dX12_reads_231 (fun r2 H => ?_) ⟨Nat.zero_le _, Nat.zero_le _⟩
      refine w_if_ne K 243 dX12_reads_234 (by decide) H (fun _ H => ?_) (fun _ H => ?_)
      · refine r_aload_n K 0 dX12_reads_243 rfl rfl ?_
        refine w_getI K vc12 inX12 8 (by decide) mF_RX12_121 dX12_reads_244 H (fun x3 H => ?_)
        refine r_iload_n K 1 dX12_reads_247 rfl rfl ?_
        refine w_if_eq K 255 dX12_reads_248 (by decide) H (fun _ H => ?_) (fun _ H => ?_)
        · refine r_iconst (v := 5) K dX12_reads_255 (by decide) ?_
          exact r_sub [0, 1, 2] rfl (t_X12_reads_256 K hl H D)
        · refine r_iconst (v := 4) K dX12_reads_251 (by decide) ?_
          refine r_goto K 256 dX12_reads_252 (by decide) ?_
          exact r_sub [0, 1, 2] rfl (t_X12_reads_256 K hl H D)
      · refine r_aload_n K 0 dX12_reads_237 rfl rfl ?_
        refine r_iconst (v := 2) K dX12_reads_238 (by decide) ?_
        refine w_callV K hl H (fun r h => c_X12_wrong l h) mC_yX12_wrong mM_RX12_131 mI_yX12_wrong mS_yX12_wrong mZ_RX12 vc12 (Nat.le_of_ble_eq_true rfl) (Nat.le_of_ble_eq_true rfl) np_yX12_wrong rfl (Nat.le_of_ble_eq_true rfl) dX12_reads_239 (fun r4 H => ?_) ⟨Nat.zero_le _, Nat.zero_le _⟩
        cases H
        simp only [Sum.elim_inr] at D
        obtain ⟨rfl, rfl⟩ := jfin2 D
        exact r_iret K dX12_reads_242
    · refine r_aload_n K 0 dX12_reads_62 rfl rfl ?_
      refine w_getI K vc12 inX12 5 (by decide) mF_RX12_118 dX12_reads_63 H (fun x5 H => ?_)
      refine r_iload_n K 1 dX12_reads_66 rfl rfl ?_
      refine w_if_eq K 75 dX12_reads_67 (by decide) H (fun _ H => ?_) (fun _ H => ?_)
      · refine r_iconst (v := 1) K dX12_reads_75 (by decide) ?_
        exact r_sub [0, 1, 2] rfl (t_X12_reads_76 K hl H D)
      · refine r_bipush (v := -6) K dX12_reads_70 (by decide) ?_
        refine r_goto K 76 dX12_reads_72 (by decide) ?_
        exact r_sub [0, 1, 2] rfl (t_X12_reads_76 K hl H D)
  · refine r_iconst (v := 1) K dX12_reads_53 (by decide) ?_
    refine r_istore_n K [(2, .int _), (0, .ref _), (1, .int _), (3, .int _)] dX12_reads_54 rfl (by decide) rfl ?_
    refine r_goto K 323 dX12_reads_55 (by decide) ?_
    exact r_sub [1, 2, 0] rfl (t_X12_reads_323 K hl H D)
set_option maxRecDepth 10000 in
theorem t_X12_reads_17 {X : jX} {l : Launch} {n : Nat} {Y : jY} (K : jOK X RX12 cX12_reads 4 (some .int) 3) (hl : X.2.1 = l) {rr : Int32} {μr : jM} {v0 : Nat} {v1 : Int32} {v2 : Int32} {v3 : Int32} {μ : jM} {z : ((Int32 × Int32 × jM) ⊕ (Int32 × jM))} (H : b_X12_reads_17 Y v0 v1 v2 v3 μ = some z) (D : Sum.elim (fun (s : Int32 × Int32 × jM) => JW X (jEnd X n Y (some (.int rr)) μr 0 0) 0 0 n Y 17 [(0, .ref v0), (1, .int v1), (2, .int s.1), (3, .int s.2.1)] [] s.2.2) (fun r => r = (rr, μr)) z) : JW X (jEnd X n Y (some (.int rr)) μr 0 0) 0 0 n Y 17 [(0, .ref v0), (1, .int v1), (2, .int v2), (3, .int v3)] [] μ := by
  unfold b_X12_reads_17 at H
  refine r_iload_n K 3 dX12_reads_17 rfl rfl ?_
  refine w_if_eq K 331 dX12_reads_18 (by decide) H (fun _ H => ?_) (fun _ H => ?_)
  · refine r_iload_n K 2 dX12_reads_331 rfl rfl ?_
    refine w_if_eq K 348 dX12_reads_332 (by decide) H (fun _ H => ?_) (fun _ H => ?_)
    · obtain ⟨z2, H2, rfl⟩ := jmap H
      exact r_sub [0] rfl (t_X12_reads_348 K hl H2 D)
    · refine r_aload_n K 0 dX12_reads_335 rfl rfl ?_
      refine w_getI K vc12 inX12 9 (by decide) mF_RX12_124 dX12_reads_336 H (fun x1 H => ?_)
      refine r_aload_n K 0 dX12_reads_339 rfl rfl ?_
      refine w_getI K vc12 inX12 8 (by decide) mF_RX12_121 dX12_reads_340 H (fun x2 H => ?_)
      refine r_iconst (v := 1) K dX12_reads_343 (by decide) ?_
      refine r_isub K dX12_reads_344 ?_
      refine w_icmp_ge K 356 dX12_reads_345 (by decide) H (fun _ H => ?_) (fun _ H => ?_)
      · refine r_iconst (v := 0) K dX12_reads_356 (by decide) ?_
        obtain ⟨z2, H2, rfl⟩ := jmap H
        exact r_sub [] rfl (t_X12_reads_357 K hl H2 D)
      · obtain ⟨z2, H2, rfl⟩ := jmap H
        exact r_sub [0] rfl (t_X12_reads_348 K hl H2 D)
  · refine r_iload_n K 3 dX12_reads_21 rfl rfl ?_
    refine r_iconst (v := 3) K dX12_reads_22 (by decide) ?_
    refine w_icmp_eq K 42 dX12_reads_23 (by decide) H (fun _ H => ?_) (fun _ H => ?_)
    · obtain ⟨z2, H2, rfl⟩ := jmap H
      exact r_sub [0] rfl (t_X12_reads_42 K hl H2 D)
    · refine r_iload_n K 3 dX12_reads_26 rfl rfl ?_
      refine r_iconst (v := 2) K dX12_reads_27 (by decide) ?_
      refine w_icmp_ne K 48 dX12_reads_28 (by decide) H (fun _ H => ?_) (fun _ H => ?_)
      · exact r_sub [0, 1, 2, 3] rfl (t_X12_reads_48 K hl H D)
      · refine r_iload_n K 2 dX12_reads_31 rfl rfl ?_
        refine w_if_ne K 42 dX12_reads_32 (by decide) H (fun _ H => ?_) (fun _ H => ?_)
        · obtain ⟨z2, H2, rfl⟩ := jmap H
          exact r_sub [0] rfl (t_X12_reads_42 K hl H2 D)
        · refine r_aload_n K 0 dX12_reads_35 rfl rfl ?_
          refine w_getI K vc12 inX12 8 (by decide) mF_RX12_121 dX12_reads_36 H (fun x3 H => ?_)
          refine w_if_ne K 48 dX12_reads_39 (by decide) H (fun _ H => ?_) (fun _ H => ?_)
          · exact r_sub [0, 1, 2, 3] rfl (t_X12_reads_48 K hl H D)
          · obtain ⟨z2, H2, rfl⟩ := jmap H
            exact r_sub [0] rfl (t_X12_reads_42 K hl H2 D)
set_option maxRecDepth 10000 in
theorem l_X12_reads_17 {X : jX} {l : Launch} {n : Nat} {Y : jY} (K : jOK X RX12 cX12_reads 4 (some .int) 3) (hl : X.2.1 = l) {rr : Int32} {μr : jM} {v0 : Nat} {v1 : Int32}  {s0 : Int32 × Int32 × jM} {z : (Int32 × jM)} (H : jit jF (fun (s : Int32 × Int32 × jM) => b_X12_reads_17 Y v0 v1 s.1 s.2.1 s.2.2) s0 = some z) (D : z = (rr, μr)) : JW X (jEnd X n Y (some (.int rr)) μr 0 0) 0 0 n Y 17 [(0, .ref v0), (1, .int v1), (2, .int s0.1), (3, .int s0.2.1)] [] s0.2.2 :=
  jit_ind (P := fun (s : Int32 × Int32 × jM) => JW X (jEnd X n Y (some (.int rr)) μr 0 0) 0 0 n Y 17 [(0, .ref v0), (1, .int v1), (2, .int s.1), (3, .int s.2.1)] [] s.2.2) (D := fun r => r = (rr, μr)) (fun s z Hs Ds => t_X12_reads_17 K hl Hs Ds) jF s0 z H D
set_option maxRecDepth 10000 in
theorem t_X12_reads_0 {X : jX} {l : Launch} {n : Nat} {Y : jY} (K : jOK X RX12 cX12_reads 4 (some .int) 3) (hl : X.2.1 = l) {rr : Int32} {μr : jM} {v0 : Nat} {v1 : Int32} {μ : jM} {z : (Int32 × jM)} (H : f_X12_reads Y v0 v1 μ = some z) (D : z = (rr, μr)) : JW X (jEnd X n Y (some (.int rr)) μr 0 0) 0 0 n Y 0 [(0, .ref v0), (1, .int v1)] [] μ := by
  unfold f_X12_reads at H
  refine r_aload_n K 0 dX12_reads_0 rfl rfl ?_
  refine r_iconst (v := 0) K dX12_reads_1 (by decide) ?_
  refine w_put K vc12 inX12 tyX12_ok nmX12 8 (by decide) mF_RX12_121 rfl (fun _ => rfl) (fun _ => rfl) dX12_reads_2 H (fun μ1 H => ?_)
  refine r_aload_n K 0 dX12_reads_5 rfl rfl ?_
  refine r_iconst (v := 0) K dX12_reads_6 (by decide) ?_
  refine w_put K vc12 inX12 tyX12_ok nmX12 9 (by decide) mF_RX12_124 rfl (fun _ => rfl) (fun _ => rfl) dX12_reads_7 H (fun μ2 H => ?_)
  refine r_iconst (v := 0) K dX12_reads_10 (by decide) ?_
  refine r_istore_n K [(2, .int _), (0, .ref _), (1, .int _)] dX12_reads_11 rfl (by decide) rfl ?_
  refine r_aload_n K 1 dX12_reads_12 rfl rfl ?_
  refine w_callV K hl H (fun r h => c_X12_token l h) mC_yX12_token mM_RX12_127 mI_yX12_token mS_yX12_token mZ_RX12 vc12 (Nat.le_of_ble_eq_true rfl) (Nat.le_of_ble_eq_true rfl) np_yX12_token rfl (Nat.le_of_ble_eq_true rfl) dX12_reads_13 (fun r3 H => ?_) ⟨Nat.zero_le _, Nat.zero_le _⟩
  refine r_istore_n K [(3, .int _), (2, .int _), (0, .ref _), (1, .int _)] dX12_reads_16 rfl (by decide) rfl ?_
  exact r_sub [2, 3, 1, 0] rfl (l_X12_reads_17 K hl H D)
theorem c_X12_reads (l : Launch) {n : Nat} {Y : jY} {v0 : Nat} {v1 : Int32} {μ : jM} {z : Int32 × jM} (H : f_X12_reads Y v0 v1 μ = some z) : jC l yX12_reads cX12_reads 4 (some .int) 3 0 0 [.ref v0, .int v1] n Y μ n Y (some (.int z.1)) z.2 := by
  refine jC_of (by decide +kernel) (Nat.le_of_ble_eq_true rfl) (fun X hl K _ _ _ => ?_)
  obtain ⟨rr, μr⟩ := z
  exact t_X12_reads_0 K hl H rfl
