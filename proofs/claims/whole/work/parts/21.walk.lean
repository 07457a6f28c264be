/-! RX12 write(II)I -/
def b_X12_write_25 (Y : jY) (μ : jM) : Option (Int32 × jM) :=
  some ((-1 : Int32), μ)
def b_X12_write_94 (Y : jY) (v0 : Nat) (v1 : Int32) (v4 : Int32) (μ : jM) : Option ((Int32 × jM) ⊕ (Int32 × jM)) :=
  (jgI Y μ v0 12 8).bind fun x1 =>
  if ((x1 - ((1 : Int32)))) ≤ v4 then
    (jgI Y μ v0 12 8).bind fun x2 =>
    some (.inr (x2, μ))
  else
    (jgO Y μ v0 12 28).bind fun x3 =>
    (jgO Y μ v0 12 7).bind fun x4 =>
    (jaI Y μ x4 20 v4).bind fun x5 =>
    (jas Y μ x3 20 ((((((5 : Int32)) * v1)) + v4)) (.int x5)).bind fun μ6 =>
    some (.inl ((v4 + (1 : Int32)), μ6))
def b_X12_write_58 (Y : jY) (v0 : Nat) (v1 : Int32) (v4 : Int32) (μ : jM) : Option ((Int32 × jM) ⊕ (Int32 × jM)) :=
  (jgI Y μ v0 12 8).bind fun x1 =>
  if x1 ≤ v4 then
    (jit jF (fun (s : Int32 × jM) => b_X12_write_94 Y v0 v1 s.1 s.2) ((0 : Int32), μ)).map (fun r => (.inr r))
  else
    (jgO Y μ v0 12 27).bind fun x2 =>
    (jgO Y μ v0 12 6).bind fun x3 =>
    (jaI Y μ x3 20 v4).bind fun x4 =>
    (jas Y μ x2 20 ((((((5 : Int32)) * v1)) + v4)) (.int x4)).bind fun μ5 =>
    some (.inl ((v4 + (1 : Int32)), μ5))
def f_X12_write (Y : jY) (v0 : Nat) (v1 : Int32) (v2 : Int32) (μ : jM) : Option (Int32 × jM) :=
  (f_X12_isDrawer Y v1 μ).bind fun r1 =>
  if r1.1 = 0 then
    b_X12_write_25 Y r1.2
  else
    (f_X12_in Y v2 ((1 : Int32)) ((60 : Int32)) r1.2).bind fun r2 =>
    if r2.1 = 0 then
      b_X12_write_25 Y r2.2
    else
      (jgI Y r2.2 v0 12 1).bind fun x3 =>
      if v2 ≤ x3 then
        (jrcv Y v0 12 (f_X12_begins Y v0 v2 r2.2)).bind fun r4 =>
        (jrcv Y v0 12 (f_X12_reads Y v0 ((0 : Int32)) r4.2)).bind fun r5 =>
        if 0 ≤ r5.1 then
          (jgO Y r5.2 v0 12 26).bind fun x6 =>
          (jgI Y r5.2 v0 12 8).bind fun x7 =>
          (jas Y r5.2 x6 20 v1 (.int x7)).bind fun μ8 =>
          jit jF (fun (s : Int32 × jM) => b_X12_write_58 Y v0 v1 s.1 s.2) ((0 : Int32), μ8)
        else
          some (r5.1, r5.2)
      else
        b_X12_write_25 Y r2.2
set_option maxRecDepth 10000 in
theorem t_X12_write_25 {X : jX} {l : Launch} {n : Nat} {Y : jY} (K : jOK X RX12 cX12_write 5 (some .int) 4) (hl : X.2.1 = l) {rr : Int32} {μr : jM} {μ : jM} {z : (Int32 × jM)} (H : b_X12_write_25 Y μ = some z) (D : z = (rr, μr)) : JW X (jEnd X n Y (some (.int rr)) μr 0 0) 0 0 n Y 25 [] [] μ := by
  unfold b_X12_write_25 at H
  refine r_iconst (v := -1) K dX12_write_25 (by decide) ?_
  cases H
  obtain ⟨rfl, rfl⟩ := jfin2 D
  exact r_iret K dX12_write_26
set_option maxRecDepth 10000 in
theorem t_X12_write_94 {X : jX} {l : Launch} {n : Nat} {Y : jY} (K : jOK X RX12 cX12_write 5 (some .int) 4) (hl : X.2.1 = l) {rr : Int32} {μr : jM} {v0 : Nat} {v1 : Int32} {v4 : Int32} {μ : jM} {z : ((Int32 × jM) ⊕ (Int32 × jM))} (H : b_X12_write_94 Y v0 v1 v4 μ = some z) (D : Sum.elim (fun (s : Int32 × jM) => JW X (jEnd X n Y (some (.int rr)) μr 0 0) 0 0 n Y 94 [(0, .ref v0), (1, .int v1), (4, .int s.1)] [] s.2) (fun r => r = (rr, μr)) z) : JW X (jEnd X n Y (some (.int rr)) μr 0 0) 0 0 n Y 94 [(0, .ref v0), (1, .int v1), (4, .int v4)] [] μ := by
  unfold b_X12_write_94 at H
  refine r_iload K 2 dX12_write_94 rfl ?_
  refine r_aload_n K 0 dX12_write_96 rfl rfl ?_
  refine w_getI K vc12 inX12 8 (by decide) mF_RX12_121 dX12_write_97 H (fun x1 H => ?_)
  refine r_iconst (v := 1) K dX12_write_100 (by decide) ?_
  refine r_isub K dX12_write_101 ?_
  refine w_icmp_ge K 129 dX12_write_102 (by decide) H (fun _ H => ?_) (fun _ H => ?_)
  · refine r_aload_n K 0 dX12_write_129 rfl rfl ?_
    refine w_getI K vc12 inX12 8 (by decide) mF_RX12_121 dX12_write_130 H (fun x2 H => ?_)
    cases H
    simp only [Sum.elim_inr] at D
    obtain ⟨rfl, rfl⟩ := jfin2 D
    exact r_iret K dX12_write_133
  · refine r_aload_n K 0 dX12_write_105 rfl rfl ?_
    refine w_getO K vc12 inX12 28 (by decide) mF_RX12_54 dX12_write_106 H (fun x3 H => ?_)
    refine r_iconst (v := 5) K dX12_write_109 (by decide) ?_
    refine r_iload_n K 1 dX12_write_110 rfl rfl ?_
    refine r_imul K dX12_write_111 ?_
    refine r_iload K 2 dX12_write_112 rfl ?_
    refine r_iadd K dX12_write_114 ?_
    refine r_aload_n K 0 dX12_write_115 rfl rfl ?_
    refine w_getO K vc12 inX12 7 (by decide) mF_RX12_17 dX12_write_116 H (fun x4 H => ?_)
    refine r_iload K 2 dX12_write_119 rfl ?_
    refine w_iald K dX12_write_121 H (fun x5 H => ?_)
    refine w_iast K dX12_write_122 H (fun μ6 H => ?_)
    refine r_iinc K 2 [(4, .int _), (0, .ref _), (1, .int _)] (v := _ + (1 : Int32)) dX12_write_123 rfl rfl (by decide) rfl ?_
    refine r_goto K 94 dX12_write_126 (by decide) ?_
    cases H
    exact r_sub [1, 2, 0] rfl D
set_option maxRecDepth 10000 in
theorem l_X12_write_94 {X : jX} {l : Launch} {n : Nat} {Y : jY} (K : jOK X RX12 cX12_write 5 (some .int) 4) (hl : X.2.1 = l) {rr : Int32} {μr : jM} {v0 : Nat} {v1 : Int32}  {s0 : Int32 × jM} {z : (Int32 × jM)} (H : jit jF (fun (s : Int32 × jM) => b_X12_write_94 Y v0 v1 s.1 s.2) s0 = some z) (D : z = (rr, μr)) : JW X (jEnd X n Y (some (.int rr)) μr 0 0) 0 0 n Y 94 [(0, .ref v0), (1, .int v1), (4, .int s0.1)] [] s0.2 :=
  jit_ind (P := fun (s : Int32 × jM) => JW X (jEnd X n Y (some (.int rr)) μr 0 0) 0 0 n Y 94 [(0, .ref v0), (1, .int v1), (4, .int s.1)] [] s.2) (D := fun r => r = (rr, μr)) (fun s z Hs Ds => t_X12_write_94 K hl Hs Ds) jF s0 z H D
set_option maxRecDepth 10000 in
theorem t_X12_write_58 {X : jX} {l : Launch} {n : Nat} {Y : jY} (K : jOK X RX12 cX12_write 5 (some .int) 4) (hl : X.2.1 = l) {rr : Int32} {μr : jM} {v0 : Nat} {v1 : Int32} {v4 : Int32} {μ : jM} {z : ((Int32 × jM) ⊕ (Int32 × jM))} (H : b_X12_write_58 Y v0 v1 v4 μ = some z) (D : Sum.elim (fun (s : Int32 × jM) => JW X (jEnd X n Y (some (.int rr)) μr 0 0) 0 0 n Y 58 [(0, .ref v0), (1, .int v1), (4, .int s.1)] [] s.2) (fun r => r = (rr, μr)) z) : JW X (jEnd X n Y (some (.int rr)) μr 0 0) 0 0 n Y 58 [(0, .ref v0), (1, .int v1), (4, .int v4)] [] μ := by
  unfold b_X12_write_58 at H
  refine r_iload K 2 dX12_write_58 rfl ?_
  refine r_aload_n K 0 dX12_write_60 rfl rfl ?_
  refine w_getI K vc12 inX12 8 (by decide) mF_RX12_121 dX12_write_61 H (fun x1 H => ?_)
  refine w_icmp_ge K 91 dX12_write_64 (by decide) H (fun _ H => ?_) (fun _ H => ?_)
  · refine r_iconst (v := 0) K dX12_write_91 (by decide) ?_
    refine r_istore K [(4, .int _), (0, .ref _), (1, .int _)] dX12_write_92 (by decide) rfl ?_
    obtain ⟨z2, H2, rfl⟩ := jmap H
    exact r_sub [1, 2, 0] rfl (l_X12_write_94 K hl H2 D)
  · refine r_aload_n K 0 dX12_write_67 rfl rfl ?_
    refine w_getO K vc12 inX12 27 (by decide) mF_RX12_51 dX12_write_68 H (fun x2 H => ?_)
    refine r_iconst (v := 5) K dX12_write_71 (by decide) ?_
    refine r_iload_n K 1 dX12_write_72 rfl rfl ?_
    refine r_imul K dX12_write_73 ?_
    refine r_iload K 2 dX12_write_74 rfl ?_
    refine r_iadd K dX12_write_76 ?_
    refine r_aload_n K 0 dX12_write_77 rfl rfl ?_
    refine w_getO K vc12 inX12 6 (by decide) mF_RX12_13 dX12_write_78 H (fun x3 H => ?_)
    refine r_iload K 2 dX12_write_81 rfl ?_
    refine w_iald K dX12_write_83 H (fun x4 H => ?_)
    refine w_iast K dX12_write_84 H (fun μ5 H => ?_)
    refine r_iinc K 2 [(4, .int _), (0, .ref _), (1, .int _)] (v := _ + (1 : Int32)) dX12_write_85 rfl rfl (by decide) rfl ?_
    refine r_goto K 58 dX12_write_88 (by decide) ?_
    cases H
    exact r_sub [1, 2, 0] rfl D
set_option maxRecDepth 10000 in
theorem l_X12_write_58 {X : jX} {l : Launch} {n : Nat} {Y : jY} (K : jOK X RX12 cX12_write 5 (some .int) 4) (hl : X.2.1 = l) {rr : Int32} {μr : jM} {v0 : Nat} {v1 : Int32}  {s0 : Int32 × jM} {z : (Int32 × jM)} (H : jit jF (fun (s : Int32 × jM) => b_X12_write_58 Y v0 v1 s.1 s.2) s0 = some z) (D : z = (rr, μr)) : JW X (jEnd X n Y (some (.int rr)) μr 0 0) 0 0 n Y 58 [(0, .ref v0), (1, .int v1), (4, .int s0.1)] [] s0.2 :=
  jit_ind (P := fun (s : Int32 × jM) => JW X (jEnd X n Y (some (.int rr)) μr 0 0) 0 0 n Y 58 [(0, .ref v0), (1, .int v1), (4, .int s.1)] [] s.2) (D := fun r => r = (rr, μr)) (fun s z Hs Ds => t_X12_write_58 K hl Hs Ds) jF s0 z H D
set_option maxRecDepth 10000 in
theorem t_X12_write_0 {X : jX} {l : Launch} {n : Nat} {Y : jY} (K : jOK X RX12 cX12_write 5 (some .int) 4) (hl : X.2.1 = l) {rr : Int32} {μr : jM} {v0 : Nat} {v1 : Int32} {v2 : Int32} {μ : jM} {z : (Int32 × jM)} (H : f_X12_write Y v0 v1 v2 μ = some z) (D : z = (rr, μr)) : JW X (jEnd X n Y (some (.int rr)) μr 0 0) 0 0 n Y 0 [(0, .ref v0), (1, .int v1), (2, .int v2)] [] μ := by
  unfold f_X12_write at H
  refine r_iload_n K 1 dX12_write_0 rfl rfl ?_
  refine w_callS K hl H (fun r h => c_X12_isDrawer l h) mC_yX12_isDrawer mM_RX12_253 mT_yX12_isDrawer mZ_RX12 (Nat.le_of_ble_eq_true rfl) (Nat.le_of_ble_eq_true rfl) np_yX12_isDrawer rfl (Nat.le_of_ble_eq_true rfl) dX12_write_1 (fun r1 H => ?_) ⟨Nat.zero_le _, Nat.zero_le _⟩
  refine w_if_eq K 25 dX12_write_4 (by decide) H (fun _ H => ?_) (fun _ H => ?_)
  · exact r_sub [] rfl (t_X12_write_25 K hl H D)
  · refine r_iload_n K 2 dX12_write_7 rfl rfl ?_
    refine r_iconst (v := 1) K dX12_write_8 (by decide) ?_
    refine r_bipush (v := 60) K dX12_write_9 (by decide) ?_
    refine w_callS K hl H (fun r h => c_X12_in l h) mC_yX12_in mM_RX12_134 mT_yX12_in mZ_RX12 (Nat.le_of_ble_eq_true rfl) (Nat.le_of_ble_eq_true rfl) np_yX12_in rfl (Nat.le_of_ble_eq_true rfl) dX12_write_11 (fun r2 H => ?_) ⟨Nat.zero_le _, Nat.zero_le _⟩
    refine w_if_eq K 25 dX12_write_14 (by decide) H (fun _ H => ?_) (fun _ H => ?_)
    · exact r_sub [] rfl (t_X12_write_25 K hl H D)
    · refine r_iload_n K 2 dX12_write_17 rfl rfl ?_
      refine r_aload_n K 0 dX12_write_18 rfl rfl ?_
      refine w_getI K vc12 inX12 1 (by decide) mF_RX12_93 dX12_write_19 H (fun x3 H => ?_)
      refine w_icmp_le K 27 dX12_write_22 (by decide) H (fun _ H => ?_) (fun _ H => ?_)
      · refine r_aload_n K 0 dX12_write_27 rfl rfl ?_
        refine r_iload_n K 2 dX12_write_28 rfl rfl ?_
        refine w_callV K hl H (fun r h => c_X12_begins l h) mC_yX12_begins mM_RX12_138 mI_yX12_begins mS_yX12_begins mZ_RX12 vc12 (Nat.le_of_ble_eq_true rfl) (Nat.le_of_ble_eq_true rfl) np_yX12_begins rfl (Nat.le_of_ble_eq_true rfl) dX12_write_29 (fun r4 H => ?_) ⟨Nat.zero_le _, Nat.zero_le _⟩
        refine r_pop K dX12_write_32 rfl ?_
        refine r_aload_n K 0 dX12_write_33 rfl rfl ?_
        refine r_iconst (v := 0) K dX12_write_34 (by decide) ?_
        refine w_callV K hl H (fun r h => c_X12_reads l h) mC_yX12_reads mM_RX12_141 mI_yX12_reads mS_yX12_reads mZ_RX12 vc12 (Nat.le_of_ble_eq_true rfl) (Nat.le_of_ble_eq_true rfl) np_yX12_reads rfl (Nat.le_of_ble_eq_true rfl) dX12_write_35 (fun r5 H => ?_) ⟨Nat.zero_le _, Nat.zero_le _⟩
        refine r_istore_n K [(3, .int _), (0, .ref _), (1, .int _), (2, .int _)] dX12_write_38 rfl (by decide) rfl ?_
        refine r_iload_n K 0 dX12_write_39 rfl rfl ?_
        refine w_if_ge K 45 dX12_write_40 (by decide) H (fun _ H => ?_) (fun _ H => ?_)
        · refine r_aload_n K 1 dX12_write_45 rfl rfl ?_
          refine w_getO K vc12 inX12 26 (by decide) mF_RX12_48 dX12_write_46 H (fun x6 H => ?_)
          refine r_iload_n K 2 dX12_write_49 rfl rfl ?_
          refine r_aload_n K 1 dX12_write_50 rfl rfl ?_
          refine w_getI K vc12 inX12 8 (by decide) mF_RX12_121 dX12_write_51 H (fun x7 H => ?_)
          refine w_iast K dX12_write_54 H (fun μ8 H => ?_)
          refine r_iconst (v := 0) K dX12_write_55 (by decide) ?_
          refine r_istore K [(4, .int _), (3, .int _), (0, .ref _), (1, .int _), (2, .int _)] dX12_write_56 (by decide) rfl ?_
          exact r_sub [2, 3, 0] rfl (l_X12_write_58 K hl H D)
        · refine r_iload_n K 0 dX12_write_43 rfl rfl ?_
          cases H
          obtain ⟨rfl, rfl⟩ := jfin2 D
          exact r_iret K dX12_write_44
      · exact r_sub [] rfl (t_X12_write_25 K hl H D)
theorem c_X12_write (l : Launch) {n : Nat} {Y : jY} {v0 : Nat} {v1 : Int32} {v2 : Int32} {μ : jM} {z : Int32 × jM} (H : f_X12_write Y v0 v1 v2 μ = some z) : jC l yX12_write cX12_write 5 (some .int) 4 0 0 [.ref v0, .int v1, .int v2] n Y μ n Y (some (.int z.1)) z.2 := by
  refine jC_of (by decide +kernel) (Nat.le_of_ble_eq_true rfl) (fun X hl K _ _ _ => ?_)
  obtain ⟨rr, μr⟩ := z
  exact t_X12_write_0 K hl H rfl
/-! RX12 inverse(IIII)J -/
def b_X12_inverse_58 (Y : jY) (μ : jM) : Option (Int64 × jM) :=
  some ((-9223372036854775808 : Int64), μ)
def b_X12_inverse_205 (Y : jY) (v0 : Nat) (v1 : Int32) (v4 : Int32) (v9 : Int32) (v18 : Int32) (μ : jM) : Option ((Int32 × jM) ⊕ (Int64 × jM)) :=
  if v9 ≤ v18 then
    (jrcv Y v0 12 (f_X12_told Y v0 v4 μ)).bind fun r1 =>
    some (.inr (r1.1, r1.2))
  else
    (jrcv Y v0 12 (f_X12_c Y v0 v1 v18 μ)).bind fun r2 =>
    (jrcv Y v0 12 (f_X12_multiplies Y v0 ((r2.1.toInt64)) ((1 : Int64)) r2.2)).bind fun μ3 =>
    some (.inl ((v18 + (1 : Int32)), μ3))
def b_X12_inverse_114 (Y : jY) (v0 : Nat) (v1 : Int32) (v2 : Int32) (v3 : Int32) (v4 : Int32) (v5 : Int32) (v6 : Int64) (v8 : Int32) (t0 : Int32) (μ : jM) : Option (Int64 × jM) :=
  (jrcv Y v0 12 (f_X12_valueAt Y v0 v1 ((0 : Int32)) v8 ((0 : Int64)) μ)).bind fun r1 =>
  (jrcv Y v0 12 (f_X12_valueAt Y v0 v1 ((t0 + ((1 : Int32)))) ((((v5 - t0)) - ((1 : Int32)))) ((0 : Int64)) r1.2)).bind fun r2 =>
  if v2 = v3 then
    (jrcv Y v0 12 (f_X12_sets Y v0 ((((-r1.1)) * r2.1)) v6 r2.2)).bind fun μ7 =>
    (jrcv Y v0 12 (f_X12_told Y v0 v4 μ7)).bind fun r8 =>
    some (r8.1, r8.2)
  else
    (jrcv Y v0 12 (f_X12_sets Y v0 ((r1.1 * r2.1)) v6 r2.2)).bind fun μ3 =>
    (jgL Y μ3 v0 12 16).bind fun x4 =>
    (jgL Y μ3 v0 12 17).bind fun x5 =>
    (jrcv Y v0 12 (f_X12_multiplies Y v0 x4 x5 μ3)).bind fun μ6 =>
    jit jF (fun (s : Int32 × jM) => b_X12_inverse_205 Y v0 v1 v4 t0 s.1 s.2) (v8, μ6)
def b_X12_inverse_102 (Y : jY) (v0 : Nat) (v1 : Int32) (v2 : Int32) (v3 : Int32) (v4 : Int32) (v5 : Int32) (v6 : Int64) (t0 : Int32) (μ : jM) : Option (Int64 × jM) :=
  if v3 ≤ v2 then
    b_X12_inverse_114 Y v0 v1 v2 v3 v4 v5 v6 t0 v2 μ
  else
    b_X12_inverse_114 Y v0 v1 v2 v3 v4 v5 v6 t0 v3 μ
def f_X12_inverse (Y : jY) (v0 : Nat) (v1 : Int32) (v2 : Int32) (v3 : Int32) (v4 : Int32) (μ : jM) : Option (Int64 × jM) :=
  (f_X12_isDrawer Y v1 μ).bind fun r1 =>
  if r1.1 = 0 then
    b_X12_inverse_58 Y r1.2
  else
    (jgO Y r1.2 v0 12 26).bind fun x2 =>
    (jaI Y r1.2 x2 20 v1).bind fun x3 =>
    if x3 = 0 then
      b_X12_inverse_58 Y r1.2
    else
      (jgO Y r1.2 v0 12 26).bind fun x4 =>
      (jaI Y r1.2 x4 20 v1).bind fun x5 =>
      (f_X12_in Y v2 ((0 : Int32)) ((x5 - ((1 : Int32)))) r1.2).bind fun r6 =>
      if r6.1 = 0 then
        b_X12_inverse_58 Y r6.2
      else
        (jgO Y r6.2 v0 12 26).bind fun x7 =>
        (jaI Y r6.2 x7 20 v1).bind fun x8 =>
        (f_X12_in Y v3 ((0 : Int32)) ((x8 - ((1 : Int32)))) r6.2).bind fun r9 =>
        if r9.1 = 0 then
          b_X12_inverse_58 Y r9.2
        else
          (f_X12_in Y v4 ((0 : Int32)) ((1 : Int32)) r9.2).bind fun r10 =>
          if r10.1 = 0 then
            b_X12_inverse_58 Y r10.2
          else
            (jgO Y r10.2 v0 12 26).bind fun x11 =>
            (jaI Y r10.2 x11 20 v1).bind fun x12 =>
            (jrcv Y v0 12 (f_X12_valueAt Y v0 v1 ((0 : Int32)) x12 ((0 : Int64)) r10.2)).bind fun r13 =>
            if ((lg_cmp r13.1 ((0 : Int64)))) = 0 then
              some ((-2 : Int64), r13.2)
            else
              if v3 ≤ v2 then
                b_X12_inverse_102 Y v0 v1 v2 v3 v4 x12 r13.1 v3 r13.2
              else
                b_X12_inverse_102 Y v0 v1 v2 v3 v4 x12 r13.1 v2 r13.2
set_option maxRecDepth 10000 in
theorem t_X12_inverse_58 {X : jX} {l : Launch} {n : Nat} {Y : jY} (K : jOK X RX12 cX12_inverse 19 (some .long) 4) (hl : X.2.1 = l) {rr : Int64} {μr : jM} {μ : jM} {z : (Int64 × jM)} (H : b_X12_inverse_58 Y μ = some z) (D : z = (rr, μr)) : JW X (jEnd X n Y (some (.long rr)) μr 0 0) 0 0 n Y 58 [] [] μ := by
  unfold b_X12_inverse_58 at H
  refine r_ldc2 K (-9223372036854775808) mc_RX12_156 dX12_inverse_58 ?_
  cases H
  obtain ⟨rfl, rfl⟩ := jfin2 D
  exact r_lret K dX12_inverse_61
set_option maxRecDepth 10000 in
theorem t_X12_inverse_205 {X : jX} {l : Launch} {n : Nat} {Y : jY} (K : jOK X RX12 cX12_inverse 19 (some .long) 4) (hl : X.2.1 = l) {rr : Int64} {μr : jM} {v0 : Nat} {v1 : Int32} {v4 : Int32} {v9 : Int32} {v18 : Int32} {μ : jM} {z : ((Int32 × jM) ⊕ (Int64 × jM))} (H : b_X12_inverse_205 Y v0 v1 v4 v9 v18 μ = some z) (D : Sum.elim (fun (s : Int32 × jM) => JW X (jEnd X n Y (some (.long rr)) μr 0 0) 0 0 n Y 205 [(0, .ref v0), (1, .int v1), (4, .int v4), (9, .int v9), (18, .int s.1)] [] s.2) (fun r => r = (rr, μr)) z) : JW X (jEnd X n Y (some (.long rr)) μr 0 0) 0 0 n Y 205 [(0, .ref v0), (1, .int v1), (4, .int v4), (9, .int v9), (18, .int v18)] [] μ := by
  unfold b_X12_inverse_205 at H
  refine r_iload K 4 dX12_inverse_205 rfl ?_
  refine r_iload K 3 dX12_inverse_207 rfl ?_
  refine w_icmp_ge K 231 dX12_inverse_209 (by decide) H (fun _ H => ?_) (fun _ H => ?_)
  · refine r_aload_n K 0 dX12_inverse_231 rfl rfl ?_
    refine r_iload K 2 dX12_inverse_232 rfl ?_
    refine w_callV K hl H (fun r h => c_X12_told l h) mC_yX12_told mM_RX12_195 mI_yX12_told mS_yX12_told mZ_RX12 vc12 (Nat.le_of_ble_eq_true rfl) (Nat.le_of_ble_eq_true rfl) np_yX12_told rfl (Nat.le_of_ble_eq_true rfl) dX12_inverse_234 (fun r1 H => ?_) ⟨Nat.zero_le _, Nat.zero_le _⟩
    cases H
    simp only [Sum.elim_inr] at D
    obtain ⟨rfl, rfl⟩ := jfin2 D
    exact r_lret K dX12_inverse_237
  · refine r_aload_n K 0 dX12_inverse_212 rfl rfl ?_
    refine r_aload_n K 0 dX12_inverse_213 rfl rfl ?_
    refine r_iload_n K 1 dX12_inverse_214 rfl rfl ?_
    refine r_iload K 4 dX12_inverse_215 rfl ?_
    refine w_callV K hl H (fun r h => c_X12_c l h) mC_yX12_c mM_RX12_260 mI_yX12_c mS_yX12_c mZ_RX12 vc12 (Nat.le_of_ble_eq_true rfl) (Nat.le_of_ble_eq_true rfl) np_yX12_c rfl (Nat.le_of_ble_eq_true rfl) dX12_inverse_217 (fun r2 H => ?_) ⟨Nat.zero_le _, Nat.zero_le _⟩
    refine r_i2l K dX12_inverse_220 ?_
    refine r_lconst (v := 1) K dX12_inverse_221 (by decide) ?_
    refine w_callV K hl H (fun r h => c_X12_multiplies l h) mC_yX12_multiplies mM_RX12_208 mI_yX12_multiplies mS_yX12_multiplies mZ_RX12 vc12 (Nat.le_of_ble_eq_true rfl) (Nat.le_of_ble_eq_true rfl) np_yX12_multiplies rfl (Nat.le_of_ble_eq_true rfl) dX12_inverse_222 (fun μ3 H => ?_) ⟨Nat.zero_le _, Nat.zero_le _⟩
    refine r_iinc K 4 [(18, .int _), (0, .ref _), (1, .int _), (4, .int _), (9, .int _)] (v := _ + (1 : Int32)) dX12_inverse_225 rfl rfl (by decide) rfl ?_
    refine r_goto K 205 dX12_inverse_228 (by decide) ?_
    cases H
    exact r_sub [1, 2, 3, 4, 0] rfl D
set_option maxRecDepth 10000 in
theorem l_X12_inverse_205 {X : jX} {l : Launch} {n : Nat} {Y : jY} (K : jOK X RX12 cX12_inverse 19 (some .long) 4) (hl : X.2.1 = l) {rr : Int64} {μr : jM} {v0 : Nat} {v1 : Int32} {v4 : Int32} {v9 : Int32}  {s0 : Int32 × jM} {z : (Int64 × jM)} (H : jit jF (fun (s : Int32 × jM) => b_X12_inverse_205 Y v0 v1 v4 v9 s.1 s.2) s0 = some z) (D : z = (rr, μr)) : JW X (jEnd X n Y (some (.long rr)) μr 0 0) 0 0 n Y 205 [(0, .ref v0), (1, .int v1), (4, .int v4), (9, .int v9), (18, .int s0.1)] [] s0.2 :=
  jit_ind (P := fun (s : Int32 × jM) => JW X (jEnd X n Y (some (.long rr)) μr 0 0) 0 0 n Y 205 [(0, .ref v0), (1, .int v1), (4, .int v4), (9, .int v9), (18, .int s.1)] [] s.2) (D := fun r => r = (rr, μr)) (fun s z Hs Ds => t_X12_inverse_205 K hl Hs Ds) jF s0 z H D
set_option maxRecDepth 10000 in
theorem t_X12_inverse_114 {X : jX} {l : Launch} {n : Nat} {Y : jY} (K : jOK X RX12 cX12_inverse 19 (some .long) 4) (hl : X.2.1 = l) {rr : Int64} {μr : jM} {v0 : Nat} {v1 : Int32} {v2 : Int32} {v3 : Int32} {v4 : Int32} {v5 : Int32} {v6 : Int64} {v8 : Int32} {t0 : Int32} {μ : jM} {z : (Int64 × jM)} (H : b_X12_inverse_114 Y v0 v1 v2 v3 v4 v5 v6 v8 t0 μ = some z) (D : z = (rr, μr)) : JW X (jEnd X n Y (some (.long rr)) μr 0 0) 0 0 n Y 114 [(0, .ref v0), (1, .int v1), (2, .int v2), (3, .int v3), (4, .int v4), (5, .int v5), (6, .long v6), (8, .int v8)] [.int t0] μ := by
  unfold b_X12_inverse_114 at H
  refine r_istore K [(9, .int _), (0, .ref _), (1, .int _), (2, .int _), (3, .int _), (4, .int _), (5, .int _), (6, .long _), (8, .int _)] dX12_inverse_114 (by decide) rfl ?_
  refine r_aload_n K 1 dX12_inverse_116 rfl rfl ?_
  refine r_iload_n K 2 dX12_inverse_117 rfl rfl ?_
  refine r_iconst (v := 0) K dX12_inverse_118 (by decide) ?_
  refine r_iload K 8 dX12_inverse_119 rfl ?_
  refine r_lconst (v := 0) K dX12_inverse_121 (by decide) ?_
  refine w_callV K hl H (fun r h => c_X12_valueAt l h) mC_yX12_valueAt mM_RX12_279 mI_yX12_valueAt mS_yX12_valueAt mZ_RX12 vc12 (Nat.le_of_ble_eq_true rfl) (Nat.le_of_ble_eq_true rfl) np_yX12_valueAt rfl (Nat.le_of_ble_eq_true rfl) dX12_inverse_122 (fun r1 H => ?_) ⟨Nat.zero_le _, Nat.zero_le _⟩
  refine r_lstore K [(10, .long _), (9, .int _), (0, .ref _), (1, .int _), (2, .int _), (3, .int _), (4, .int _), (5, .int _), (6, .long _), (8, .int _)] dX12_inverse_125 (by decide) rfl ?_
  refine r_aload_n K 2 dX12_inverse_127 rfl rfl ?_
  refine r_iload_n K 3 dX12_inverse_128 rfl rfl ?_
  refine r_iload K 1 dX12_inverse_129 rfl ?_
  refine r_iconst (v := 1) K dX12_inverse_131 (by decide) ?_
  refine r_iadd K dX12_inverse_132 ?_
  refine r_iload K 7 dX12_inverse_133 rfl ?_
  refine r_iload K 1 dX12_inverse_135 rfl ?_
  refine r_isub K dX12_inverse_137 ?_
  refine r_iconst (v := 1) K dX12_inverse_138 (by decide) ?_
  refine r_isub K dX12_inverse_139 ?_
  refine r_lconst (v := 0) K dX12_inverse_140 (by decide) ?_
  refine w_callV K hl H (fun r h => c_X12_valueAt l h) mC_yX12_valueAt mM_RX12_279 mI_yX12_valueAt mS_yX12_valueAt mZ_RX12 vc12 (Nat.le_of_ble_eq_true rfl) (Nat.le_of_ble_eq_true rfl) np_yX12_valueAt rfl (Nat.le_of_ble_eq_true rfl) dX12_inverse_141 (fun r2 H => ?_) ⟨Nat.zero_le _, Nat.zero_le _⟩
  refine r_lstore K [(12, .long _), (10, .long _), (9, .int _), (0, .ref _), (1, .int _), (2, .int _), (3, .int _), (4, .int _), (5, .int _), (6, .long _), (8, .int _)] dX12_inverse_144 (by decide) rfl ?_
  refine r_iload_n K 5 dX12_inverse_146 rfl rfl ?_
  refine r_iload_n K 6 dX12_inverse_147 rfl rfl ?_
  refine w_icmp_ne K 170 dX12_inverse_148 (by decide) H (fun _ H => ?_) (fun _ H => ?_)
  · refine r_aload_n K 3 dX12_inverse_170 rfl rfl ?_
    refine r_lload K 1 dX12_inverse_171 rfl ?_
    refine r_lload K 0 dX12_inverse_173 rfl ?_
    refine r_lmul K dX12_inverse_175 ?_
    refine r_lload K 9 dX12_inverse_176 rfl ?_
    refine w_callV K hl H (fun r h => c_X12_sets l h) mC_yX12_sets mM_RX12_191 mI_yX12_sets mS_yX12_sets mZ_RX12 vc12 (Nat.le_of_ble_eq_true rfl) (Nat.le_of_ble_eq_true rfl) np_yX12_sets rfl (Nat.le_of_ble_eq_true rfl) dX12_inverse_178 (fun μ3 H => ?_) ⟨Nat.zero_le _, Nat.zero_le _⟩
    refine r_aload_n K 3 dX12_inverse_181 rfl rfl ?_
    refine w_getL K vc12 inX12 16 (by decide) mF_RX12_177 dX12_inverse_182 H (fun x4 H => ?_)
    refine r_lstore K [(14, .long _), (12, .long _), (10, .long _), (9, .int _), (0, .ref _), (1, .int _), (2, .int _), (3, .int _), (4, .int _), (5, .int _), (6, .long _), (8, .int _)] dX12_inverse_185 (by decide) rfl ?_
    refine r_aload_n K 4 dX12_inverse_187 rfl rfl ?_
    refine w_getL K vc12 inX12 17 (by decide) mF_RX12_181 dX12_inverse_188 H (fun x5 H => ?_)
    refine r_lstore K [(16, .long _), (14, .long _), (12, .long _), (10, .long _), (9, .int _), (0, .ref _), (1, .int _), (2, .int _), (3, .int _), (4, .int _), (5, .int _), (6, .long _), (8, .int _)] dX12_inverse_191 (by decide) rfl ?_
    refine r_aload_n K 5 dX12_inverse_193 rfl rfl ?_
    refine r_lload K 1 dX12_inverse_194 rfl ?_
    refine r_lload K 0 dX12_inverse_196 rfl ?_
    refine w_callV K hl H (fun r h => c_X12_multiplies l h) mC_yX12_multiplies mM_RX12_208 mI_yX12_multiplies mS_yX12_multiplies mZ_RX12 vc12 (Nat.le_of_ble_eq_true rfl) (Nat.le_of_ble_eq_true rfl) np_yX12_multiplies rfl (Nat.le_of_ble_eq_true rfl) dX12_inverse_198 (fun μ6 H => ?_) ⟨Nat.zero_le _, Nat.zero_le _⟩
    refine r_iload K 12 dX12_inverse_201 rfl ?_
    refine r_istore K [(18, .int _), (16, .long _), (14, .long _), (12, .long _), (10, .long _), (9, .int _), (0, .ref _), (1, .int _), (2, .int _), (3, .int _), (4, .int _), (5, .int _), (6, .long _), (8, .int _)] dX12_inverse_203 (by decide) rfl ?_
    exact r_sub [6, 7, 10, 5, 0] rfl (l_X12_inverse_205 K hl H D)
  · refine r_aload_n K 3 dX12_inverse_151 rfl rfl ?_
    refine r_lload K 1 dX12_inverse_152 rfl ?_
    refine r_lneg K dX12_inverse_154 ?_
    refine r_lload K 0 dX12_inverse_155 rfl ?_
    refine r_lmul K dX12_inverse_157 ?_
    refine r_lload K 9 dX12_inverse_158 rfl ?_
    refine w_callV K hl H (fun r h => c_X12_sets l h) mC_yX12_sets mM_RX12_191 mI_yX12_sets mS_yX12_sets mZ_RX12 vc12 (Nat.le_of_ble_eq_true rfl) (Nat.le_of_ble_eq_true rfl) np_yX12_sets rfl (Nat.le_of_ble_eq_true rfl) dX12_inverse_160 (fun μ7 H => ?_) ⟨Nat.zero_le _, Nat.zero_le _⟩
    refine r_aload_n K 3 dX12_inverse_163 rfl rfl ?_
    refine r_iload K 7 dX12_inverse_164 rfl ?_
    refine w_callV K hl H (fun r h => c_X12_told l h) mC_yX12_told mM_RX12_195 mI_yX12_told mS_yX12_told mZ_RX12 vc12 (Nat.le_of_ble_eq_true rfl) (Nat.le_of_ble_eq_true rfl) np_yX12_told rfl (Nat.le_of_ble_eq_true rfl) dX12_inverse_166 (fun r8 H => ?_) ⟨Nat.zero_le _, Nat.zero_le _⟩
    cases H
    obtain ⟨rfl, rfl⟩ := jfin2 D
    exact r_lret K dX12_inverse_169
set_option maxRecDepth 10000 in
theorem t_X12_inverse_102 {X : jX} {l : Launch} {n : Nat} {Y : jY} (K : jOK X RX12 cX12_inverse 19 (some .long) 4) (hl : X.2.1 = l) {rr : Int64} {μr : jM} {v0 : Nat} {v1 : Int32} {v2 : Int32} {v3 : Int32} {v4 : Int32} {v5 : Int32} {v6 : Int64} {t0 : Int32} {μ : jM} {z : (Int64 × jM)} (H : b_X12_inverse_102 Y v0 v1 v2 v3 v4 v5 v6 t0 μ = some z) (D : z = (rr, μr)) : JW X (jEnd X n Y (some (.long rr)) μr 0 0) 0 0 n Y 102 [(0, .ref v0), (1, .int v1), (2, .int v2), (3, .int v3), (4, .int v4), (5, .int v5), (6, .long v6)] [.int t0] μ := by
  unfold b_X12_inverse_102 at H
  refine r_istore K [(8, .int _), (0, .ref _), (1, .int _), (2, .int _), (3, .int _), (4, .int _), (5, .int _), (6, .long _)] dX12_inverse_102 (by decide) rfl ?_
  refine r_iload_n K 3 dX12_inverse_104 rfl rfl ?_
  refine r_iload_n K 4 dX12_inverse_105 rfl rfl ?_
  refine w_icmp_ge K 113 dX12_inverse_106 (by decide) H (fun _ H => ?_) (fun _ H => ?_)
  · refine r_iload_n K 3 dX12_inverse_113 rfl rfl ?_
    exact r_sub [1, 2, 3, 4, 5, 6, 7, 0] rfl (t_X12_inverse_114 K hl H D)
  · refine r_iload_n K 4 dX12_inverse_109 rfl rfl ?_
    refine r_goto K 114 dX12_inverse_110 (by decide) ?_
    exact r_sub [1, 2, 3, 4, 5, 6, 7, 0] rfl (t_X12_inverse_114 K hl H D)
set_option maxRecDepth 10000 in
theorem t_X12_inverse_0 {X : jX} {l : Launch} {n : Nat} {Y : jY} (K : jOK X RX12 cX12_inverse 19 (some .long) 4) (hl : X.2.1 = l) {rr : Int64} {μr : jM} {v0 : Nat} {v1 : Int32} {v2 : Int32} {v3 : Int32} {v4 : Int32} {μ : jM} {z : (Int64 × jM)} (H : f_X12_inverse Y v0 v1 v2 v3 v4 μ = some z) (D : z = (rr, μr)) : JW X (jEnd X n Y (some (.long rr)) μr 0 0) 0 0 n Y 0 [(0, .ref v0), (1, .int v1), (2, .int v2), (3, .int v3), (4, .int v4)] [] μ := by
  unfold f_X12_inverse at H
  refine r_iload_n K 1 dX12_inverse_0 rfl rfl ?_
  refine w_callS K hl H (fun r h => c_X12_isDrawer l h) mC_yX12_isDrawer mM_RX12_253 mT_yX12_isDrawer mZ_RX12 (Nat.le_of_ble_eq_true rfl) (Nat.le_of_ble_eq_true rfl) np_yX12_isDrawer rfl (Nat.le_of_ble_eq_true rfl) dX12_inverse_1 (fun r1 H => ?_) ⟨Nat.zero_le _, Nat.zero_le _⟩
  refine w_if_eq K 58 dX12_inverse_4 (by decide) H (fun _ H => ?_) (fun _ H => ?_)
  · exact r_sub [] rfl (t_X12_inverse_58 K hl H D)
  · refine r_aload_n K 0 dX12_inverse_7 rfl rfl ?_
    refine w_getO K vc12 inX12 26 (by decide) mF_RX12_48 dX12_inverse_8 H (fun x2 H => ?_)
    refine r_iload_n K 1 dX12_inverse_11 rfl rfl ?_
    refine w_iald K dX12_inverse_12 H (fun x3 H => ?_)
    refine w_if_eq K 58 dX12_inverse_13 (by decide) H (fun _ H => ?_) (fun _ H => ?_)
    · exact r_sub [] rfl (t_X12_inverse_58 K hl H D)
    · refine r_iload_n K 2 dX12_inverse_16 rfl rfl ?_
      refine r_iconst (v := 0) K dX12_inverse_17 (by decide) ?_
      refine r_aload_n K 0 dX12_inverse_18 rfl rfl ?_
      refine w_getO K vc12 inX12 26 (by decide) mF_RX12_48 dX12_inverse_19 H (fun x4 H => ?_)
      refine r_iload_n K 1 dX12_inverse_22 rfl rfl ?_
      refine w_iald K dX12_inverse_23 H (fun x5 H => ?_)
      refine r_iconst (v := 1) K dX12_inverse_24 (by decide) ?_
      refine r_isub K dX12_inverse_25 ?_
      refine w_callS K hl H (fun r h => c_X12_in l h) mC_yX12_in mM_RX12_134 mT_yX12_in mZ_RX12 (Nat.le_of_ble_eq_true rfl) (Nat.le_of_ble_eq_true rfl) np_yX12_in rfl (Nat.le_of_ble_eq_true rfl) dX12_inverse_26 (fun r6 H => ?_) ⟨Nat.zero_le _, Nat.zero_le _⟩
      refine w_if_eq K 58 dX12_inverse_29 (by decide) H (fun _ H => ?_) (fun _ H => ?_)
      · exact r_sub [] rfl (t_X12_inverse_58 K hl H D)
      · refine r_iload_n K 3 dX12_inverse_32 rfl rfl ?_
        refine r_iconst (v := 0) K dX12_inverse_33 (by decide) ?_
        refine r_aload_n K 0 dX12_inverse_34 rfl rfl ?_
        refine w_getO K vc12 inX12 26 (by decide) mF_RX12_48 dX12_inverse_35 H (fun x7 H => ?_)
        refine r_iload_n K 1 dX12_inverse_38 rfl rfl ?_
        refine w_iald K dX12_inverse_39 H (fun x8 H => ?_)
        refine r_iconst (v := 1) K dX12_inverse_40 (by decide) ?_
        refine r_isub K dX12_inverse_41 ?_
        refine w_callS K hl H (fun r h => c_X12_in l h) mC_yX12_in mM_RX12_134 mT_yX12_in mZ_RX12 (Nat.le_of_ble_eq_true rfl) (Nat.le_of_ble_eq_true rfl) np_yX12_in rfl (Nat.le_of_ble_eq_true rfl) dX12_inverse_42 (fun r9 H => ?_) ⟨Nat.zero_le _, Nat.zero_le _⟩
        refine w_if_eq K 58 dX12_inverse_45 (by decide) H (fun _ H => ?_) (fun _ H => ?_)
        · exact r_sub [] rfl (t_X12_inverse_58 K hl H D)
        · refine r_iload K 4 dX12_inverse_48 rfl ?_
          refine r_iconst (v := 0) K dX12_inverse_50 (by decide) ?_
          refine r_iconst (v := 1) K dX12_inverse_51 (by decide) ?_
          refine w_callS K hl H (fun r h => c_X12_in l h) mC_yX12_in mM_RX12_134 mT_yX12_in mZ_RX12 (Nat.le_of_ble_eq_true rfl) (Nat.le_of_ble_eq_true rfl) np_yX12_in rfl (Nat.le_of_ble_eq_true rfl) dX12_inverse_52 (fun r10 H => ?_) ⟨Nat.zero_le _, Nat.zero_le _⟩
          refine w_if_ne K 62 dX12_inverse_55 (by decide) H (fun _ H => ?_) (fun _ H => ?_)
          · refine r_aload_n K 0 dX12_inverse_62 rfl rfl ?_
            refine w_getO K vc12 inX12 26 (by decide) mF_RX12_48 dX12_inverse_63 H (fun x11 H => ?_)
            refine r_iload_n K 1 dX12_inverse_66 rfl rfl ?_
            refine w_iald K dX12_inverse_67 H (fun x12 H => ?_)
            refine r_istore K [(5, .int _), (0, .ref _), (1, .int _), (2, .int _), (3, .int _), (4, .int _)] dX12_inverse_68 (by decide) rfl ?_
            refine r_aload_n K 1 dX12_inverse_70 rfl rfl ?_
            refine r_iload_n K 2 dX12_inverse_71 rfl rfl ?_
            refine r_iconst (v := 0) K dX12_inverse_72 (by decide) ?_
            refine r_iload K 0 dX12_inverse_73 rfl ?_
            refine r_lconst (v := 0) K dX12_inverse_75 (by decide) ?_
            refine w_callV K hl H (fun r h => c_X12_valueAt l h) mC_yX12_valueAt mM_RX12_279 mI_yX12_valueAt mS_yX12_valueAt mZ_RX12 vc12 (Nat.le_of_ble_eq_true rfl) (Nat.le_of_ble_eq_true rfl) np_yX12_valueAt rfl (Nat.le_of_ble_eq_true rfl) dX12_inverse_76 (fun r13 H => ?_) ⟨Nat.zero_le _, Nat.zero_le _⟩
            refine r_lstore K [(6, .long _), (5, .int _), (0, .ref _), (1, .int _), (2, .int _), (3, .int _), (4, .int _)] dX12_inverse_79 (by decide) rfl ?_
            refine r_lload K 0 dX12_inverse_81 rfl ?_
            refine r_lconst (v := 0) K dX12_inverse_83 (by decide) ?_
            refine r_lcmp K dX12_inverse_84 ?_
            refine w_if_ne K 92 dX12_inverse_85 (by decide) H (fun _ H => ?_) (fun _ H => ?_)
            · refine r_iload_n K 4 dX12_inverse_92 rfl rfl ?_
              refine r_iload_n K 5 dX12_inverse_93 rfl rfl ?_
              refine w_icmp_ge K 101 dX12_inverse_94 (by decide) H (fun _ H => ?_) (fun _ H => ?_)
              · refine r_iload_n K 5 dX12_inverse_101 rfl rfl ?_
                exact r_sub [2, 3, 4, 5, 6, 1, 0] rfl (t_X12_inverse_102 K hl H D)
              · refine r_iload_n K 4 dX12_inverse_97 rfl rfl ?_
                refine r_goto K 102 dX12_inverse_98 (by decide) ?_
                exact r_sub [2, 3, 4, 5, 6, 1, 0] rfl (t_X12_inverse_102 K hl H D)
            · refine r_ldc2 K (-2) mc_RX12_232 dX12_inverse_88 ?_
              cases H
              obtain ⟨rfl, rfl⟩ := jfin2 D
              exact r_lret K dX12_inverse_91
          · exact r_sub [] rfl (t_X12_inverse_58 K hl H D)
theorem c_X12_inverse (l : Launch) {n : Nat} {Y : jY} {v0 : Nat} {v1 : Int32} {v2 : Int32} {v3 : Int32} {v4 : Int32} {μ : jM} {z : Int64 × jM} (H : f_X12_inverse Y v0 v1 v2 v3 v4 μ = some z) : jC l yX12_inverse cX12_inverse 19 (some .long) 4 0 0 [.ref v0, .int v1, .int v2, .int v3, .int v4] n Y μ n Y (some (.long z.1)) z.2 := by
  refine jC_of (by decide +kernel) (Nat.le_of_ble_eq_true rfl) (fun X hl K _ _ _ => ?_)
  obtain ⟨rr, μr⟩ := z
  exact t_X12_inverse_0 K hl H rfl
/-! RX12 tune(ZII)I -/
def b_X12_tune_45 (Y : jY) (μ : jM) : Option (Int32 × jM) :=
  some ((-1 : Int32), μ)
def b_X12_tune_122 (Y : jY) (μ : jM) : Option (Int32 × jM) :=
  some ((-3 : Int32), μ)
def b_X12_tune_132 (Y : jY) (v0 : Nat) (μ : jM) : Option (Int32 × jM) :=
  (jgI Y μ v0 12 10).bind fun x1 =>
  some (x1, μ)
def b_X12_tune_90 (Y : jY) (v0 : Nat) (v2 : Int32) (v3 : Int32) (μ : jM) : Option (Int32 × jM) :=
  (jgO Y μ v0 12 11).bind fun x1 =>
  (jas Y μ x1 20 v2 (.int v3)).bind fun μ2 =>
  b_X12_tune_132 Y v0 μ2
def b_X12_tune_87 (Y : jY) (μ : jM) : Option (Int32 × jM) :=
  some ((-3 : Int32), μ)
def b_X12_tune_67 (Y : jY) (v0 : Nat) (v2 : Int32) (v3 : Int32) (μ : jM) : Option (Int32 × jM) :=
  (jgI Y μ v0 12 10).bind fun x1 =>
  if ((x1 - ((1 : Int32)))) ≤ v2 then
    b_X12_tune_90 Y v0 v2 v3 μ
  else
    (jgO Y μ v0 12 12).bind fun x2 =>
    (jaI Y μ x2 20 v2).bind fun x3 =>
    if v3 < x3 then
      b_X12_tune_90 Y v0 v2 v3 μ
    else
      b_X12_tune_87 Y μ
def b_X12_tune_28 (Y : jY) (v0 : Nat) (v1 : Int32) (v2 : Int32) (v3 : Int32) (t0 : Int32) (t1 : Int32) (t2 : Int32) (μ : jM) : Option (Int32 × jM) :=
  (f_X12_in Y t0 t1 t2 μ).bind fun r1 =>
  if r1.1 = 0 then
    b_X12_tune_45 Y r1.2
  else
    (f_X12_in Y v3 ((-6 : Int32)) ((6 : Int32)) r1.2).bind fun r2 =>
    if r2.1 = 0 then
      b_X12_tune_45 Y r2.2
    else
      if v1 = 0 then
        (jgO Y r2.2 v0 12 11).bind fun x3 =>
        (jaI Y r2.2 x3 20 v2).bind fun x4 =>
        if v3 ≤ x4 then
          b_X12_tune_122 Y r2.2
        else
          (jgO Y r2.2 v0 12 11).bind fun x5 =>
          (jaI Y r2.2 x5 20 ((v2 + ((1 : Int32))))).bind fun x6 =>
          if v3 < x6 then
            (jgO Y r2.2 v0 12 12).bind fun x7 =>
            (jas Y r2.2 x7 20 v2 (.int v3)).bind fun μ8 =>
            b_X12_tune_132 Y v0 μ8
          else
            b_X12_tune_122 Y r2.2
      else
        if v2 ≤ 0 then
          b_X12_tune_67 Y v0 v2 v3 r2.2
        else
          (jgO Y r2.2 v0 12 12).bind fun x9 =>
          (jaI Y r2.2 x9 20 ((v2 - ((1 : Int32))))).bind fun x10 =>
          if v3 ≤ x10 then
            b_X12_tune_87 Y r2.2
          else
            b_X12_tune_67 Y v0 v2 v3 r2.2
def f_X12_tune (Y : jY) (v0 : Nat) (v1 : Int32) (v2 : Int32) (v3 : Int32) (μ : jM) : Option (Int32 × jM) :=
  (jgI Y μ v0 12 10).bind fun x1 =>
  if x1 = 0 then
    b_X12_tune_45 Y μ
  else
    if v1 = 0 then
      (jgI Y μ v0 12 10).bind fun x2 =>
      b_X12_tune_28 Y v0 v1 v2 v3 v2 (0 : Int32) (x2 - ((2 : Int32))) μ
    else
      (jgI Y μ v0 12 10).bind fun x3 =>
      b_X12_tune_28 Y v0 v1 v2 v3 v2 (0 : Int32) (x3 - ((1 : Int32))) μ
set_option maxRecDepth 10000 in
theorem t_X12_tune_45 {X : jX} {l : Launch} {n : Nat} {Y : jY} (K : jOK X RX12 cX12_tune 4 (some .int) 2) (hl : X.2.1 = l) {rr : Int32} {μr : jM} {μ : jM} {z : (Int32 × jM)} (H : b_X12_tune_45 Y μ = some z) (D : z = (rr, μr)) : JW X (jEnd X n Y (some (.int rr)) μr 0 0) 0 0 n Y 45 [] [] μ := by
  unfold b_X12_tune_45 at H
  refine r_iconst (v := -1) K dX12_tune_45 (by decide) ?_
  cases H
  obtain ⟨rfl, rfl⟩ := jfin2 D
  exact r_iret K dX12_tune_46
set_option maxRecDepth 10000 in
theorem t_X12_tune_122 {X : jX} {l : Launch} {n : Nat} {Y : jY} (K : jOK X RX12 cX12_tune 4 (some .int) 2) (hl : X.2.1 = l) {rr : Int32} {μr : jM} {μ : jM} {z : (Int32 × jM)} (H : b_X12_tune_122 Y μ = some z) (D : z = (rr, μr)) : JW X (jEnd X n Y (some (.int rr)) μr 0 0) 0 0 n Y 122 [] [] μ := by
  unfold b_X12_tune_122 at H
  refine r_bipush (v := -3) K dX12_tune_122 (by decide) ?_
  cases H
  obtain ⟨rfl, rfl⟩ := jfin2 D
  exact r_iret K dX12_tune_124
set_option maxRecDepth 10000 in
theorem t_X12_tune_132 {X : jX} {l : Launch} {n : Nat} {Y : jY} (K : jOK X RX12 cX12_tune 4 (some .int) 2) (hl : X.2.1 = l) {rr : Int32} {μr : jM} {v0 : Nat} {μ : jM} {z : (Int32 × jM)} (H : b_X12_tune_132 Y v0 μ = some z) (D : z = (rr, μr)) : JW X (jEnd X n Y (some (.int rr)) μr 0 0) 0 0 n Y 132 [(0, .ref v0)] [] μ := by
  unfold b_X12_tune_132 at H
  refine r_aload_n K 0 dX12_tune_132 rfl rfl ?_
  refine w_getI K vc12 inX12 10 (by decide) mF_RX12_145 dX12_tune_133 H (fun x1 H => ?_)
  cases H
  obtain ⟨rfl, rfl⟩ := jfin2 D
  exact r_iret K dX12_tune_136
set_option maxRecDepth 10000 in
theorem t_X12_tune_90 {X : jX} {l : Launch} {n : Nat} {Y : jY} (K : jOK X RX12 cX12_tune 4 (some .int) 2) (hl : X.2.1 = l) {rr : Int32} {μr : jM} {v0 : Nat} {v2 : Int32} {v3 : Int32} {μ : jM} {z : (Int32 × jM)} (H : b_X12_tune_90 Y v0 v2 v3 μ = some z) (D : z = (rr, μr)) : JW X (jEnd X n Y (some (.int rr)) μr 0 0) 0 0 n Y 90 [(0, .ref v0), (2, .int v2), (3, .int v3)] [] μ := by
  unfold b_X12_tune_90 at H
  refine r_aload_n K 0 dX12_tune_90 rfl rfl ?_
  refine w_getO K vc12 inX12 11 (by decide) mF_RX12_20 dX12_tune_91 H (fun x1 H => ?_)
  refine r_iload_n K 1 dX12_tune_94 rfl rfl ?_
  refine r_iload_n K 2 dX12_tune_95 rfl rfl ?_
  refine w_iast K dX12_tune_96 H (fun μ2 H => ?_)
  refine r_goto K 132 dX12_tune_97 (by decide) ?_
  exact r_sub [0] rfl (t_X12_tune_132 K hl H D)
set_option maxRecDepth 10000 in
theorem t_X12_tune_87 {X : jX} {l : Launch} {n : Nat} {Y : jY} (K : jOK X RX12 cX12_tune 4 (some .int) 2) (hl : X.2.1 = l) {rr : Int32} {μr : jM} {μ : jM} {z : (Int32 × jM)} (H : b_X12_tune_87 Y μ = some z) (D : z = (rr, μr)) : JW X (jEnd X n Y (some (.int rr)) μr 0 0) 0 0 n Y 87 [] [] μ := by
  unfold b_X12_tune_87 at H
  refine r_bipush (v := -3) K dX12_tune_87 (by decide) ?_
  cases H
  obtain ⟨rfl, rfl⟩ := jfin2 D
  exact r_iret K dX12_tune_89
set_option maxRecDepth 10000 in
theorem t_X12_tune_67 {X : jX} {l : Launch} {n : Nat} {Y : jY} (K : jOK X RX12 cX12_tune 4 (some .int) 2) (hl : X.2.1 = l) {rr : Int32} {μr : jM} {v0 : Nat} {v2 : Int32} {v3 : Int32} {μ : jM} {z : (Int32 × jM)} (H : b_X12_tune_67 Y v0 v2 v3 μ = some z) (D : z = (rr, μr)) : JW X (jEnd X n Y (some (.int rr)) μr 0 0) 0 0 n Y 67 [(0, .ref v0), (2, .int v2), (3, .int v3)] [] μ := by
  unfold b_X12_tune_67 at H
  refine r_iload_n K 1 dX12_tune_67 rfl rfl ?_
  refine r_aload_n K 0 dX12_tune_68 rfl rfl ?_
  refine w_getI K vc12 inX12 10 (by decide) mF_RX12_145 dX12_tune_69 H (fun x1 H => ?_)
  refine r_iconst (v := 1) K dX12_tune_72 (by decide) ?_
  refine r_isub K dX12_tune_73 ?_
  refine w_icmp_ge K 90 dX12_tune_74 (by decide) H (fun _ H => ?_) (fun _ H => ?_)
  · exact r_sub [0, 1, 2] rfl (t_X12_tune_90 K hl H D)
  · refine r_iload_n K 2 dX12_tune_77 rfl rfl ?_
    refine r_aload_n K 0 dX12_tune_78 rfl rfl ?_
    refine w_getO K vc12 inX12 12 (by decide) mF_RX12_23 dX12_tune_79 H (fun x2 H => ?_)
    refine r_iload_n K 1 dX12_tune_82 rfl rfl ?_
    refine w_iald K dX12_tune_83 H (fun x3 H => ?_)
    refine w_icmp_lt K 90 dX12_tune_84 (by decide) H (fun _ H => ?_) (fun _ H => ?_)
    · exact r_sub [0, 1, 2] rfl (t_X12_tune_90 K hl H D)
    · exact r_sub [] rfl (t_X12_tune_87 K hl H D)
set_option maxRecDepth 10000 in
theorem t_X12_tune_28 {X : jX} {l : Launch} {n : Nat} {Y : jY} (K : jOK X RX12 cX12_tune 4 (some .int) 2) (hl : X.2.1 = l) {rr : Int32} {μr : jM} {v0 : Nat} {v1 : Int32} {v2 : Int32} {v3 : Int32} {t0 : Int32} {t1 : Int32} {t2 : Int32} {μ : jM} {z : (Int32 × jM)} (H : b_X12_tune_28 Y v0 v1 v2 v3 t0 t1 t2 μ = some z) (D : z = (rr, μr)) : JW X (jEnd X n Y (some (.int rr)) μr 0 0) 0 0 n Y 28 [(0, .ref v0), (1, .int v1), (2, .int v2), (3, .int v3)] [.int t2, .int t1, .int t0] μ := by
  unfold b_X12_tune_28 at H
  refine w_callS K hl H (fun r h => c_X12_in l h) mC_yX12_in mM_RX12_134 mT_yX12_in mZ_RX12 (Nat.le_of_ble_eq_true rfl) (Nat.le_of_ble_eq_true rfl) np_yX12_in rfl (Nat.le_of_ble_eq_true rfl) dX12_tune_28 (fun r1 H => ?_) ⟨Nat.zero_le _, Nat.zero_le _⟩
  refine w_if_eq K 45 dX12_tune_31 (by decide) H (fun _ H => ?_) (fun _ H => ?_)
  · exact r_sub [] rfl (t_X12_tune_45 K hl H D)
  · refine r_iload_n K 3 dX12_tune_34 rfl rfl ?_
    refine r_bipush (v := -6) K dX12_tune_35 (by decide) ?_
    refine r_bipush (v := 6) K dX12_tune_37 (by decide) ?_
    refine w_callS K hl H (fun r h => c_X12_in l h) mC_yX12_in mM_RX12_134 mT_yX12_in mZ_RX12 (Nat.le_of_ble_eq_true rfl) (Nat.le_of_ble_eq_true rfl) np_yX12_in rfl (Nat.le_of_ble_eq_true rfl) dX12_tune_39 (fun r2 H => ?_) ⟨Nat.zero_le _, Nat.zero_le _⟩
    refine w_if_ne K 47 dX12_tune_42 (by decide) H (fun _ H => ?_) (fun _ H => ?_)
    · refine r_iload_n K 1 dX12_tune_47 rfl rfl ?_
      refine w_if_eq K 100 dX12_tune_48 (by decide) H (fun _ H => ?_) (fun _ H => ?_)
      · refine r_iload_n K 3 dX12_tune_100 rfl rfl ?_
        refine r_aload_n K 0 dX12_tune_101 rfl rfl ?_
        refine w_getO K vc12 inX12 11 (by decide) mF_RX12_20 dX12_tune_102 H (fun x3 H => ?_)
        refine r_iload_n K 2 dX12_tune_105 rfl rfl ?_
        refine w_iald K dX12_tune_106 H (fun x4 H => ?_)
        refine w_icmp_le K 122 dX12_tune_107 (by decide) H (fun _ H => ?_) (fun _ H => ?_)
        · exact r_sub [] rfl (t_X12_tune_122 K hl H D)
        · refine r_iload_n K 3 dX12_tune_110 rfl rfl ?_
          refine r_aload_n K 0 dX12_tune_111 rfl rfl ?_
          refine w_getO K vc12 inX12 11 (by decide) mF_RX12_20 dX12_tune_112 H (fun x5 H => ?_)
          refine r_iload_n K 2 dX12_tune_115 rfl rfl ?_
          refine r_iconst (v := 1) K dX12_tune_116 (by decide) ?_
          refine r_iadd K dX12_tune_117 ?_
          refine w_iald K dX12_tune_118 H (fun x6 H => ?_)
          refine w_icmp_lt K 125 dX12_tune_119 (by decide) H (fun _ H => ?_) (fun _ H => ?_)
          · refine r_aload_n K 0 dX12_tune_125 rfl rfl ?_
            refine w_getO K vc12 inX12 12 (by decide) mF_RX12_23 dX12_tune_126 H (fun x7 H => ?_)
            refine r_iload_n K 2 dX12_tune_129 rfl rfl ?_
            refine r_iload_n K 3 dX12_tune_130 rfl rfl ?_
            refine w_iast K dX12_tune_131 H (fun μ8 H => ?_)
            exact r_sub [0] rfl (t_X12_tune_132 K hl H D)
          · exact r_sub [] rfl (t_X12_tune_122 K hl H D)
      · refine r_iload_n K 2 dX12_tune_51 rfl rfl ?_
        refine w_if_le K 67 dX12_tune_52 (by decide) H (fun _ H => ?_) (fun _ H => ?_)
        · exact r_sub [0, 2, 3] rfl (t_X12_tune_67 K hl H D)
        · refine r_iload_n K 3 dX12_tune_55 rfl rfl ?_
          refine r_aload_n K 0 dX12_tune_56 rfl rfl ?_
          refine w_getO K vc12 inX12 12 (by decide) mF_RX12_23 dX12_tune_57 H (fun x9 H => ?_)
          refine r_iload_n K 2 dX12_tune_60 rfl rfl ?_
          refine r_iconst (v := 1) K dX12_tune_61 (by decide) ?_
          refine r_isub K dX12_tune_62 ?_
          refine w_iald K dX12_tune_63 H (fun x10 H => ?_)
          refine w_icmp_le K 87 dX12_tune_64 (by decide) H (fun _ H => ?_) (fun _ H => ?_)
          · exact r_sub [] rfl (t_X12_tune_87 K hl H D)
          · exact r_sub [0, 2, 3] rfl (t_X12_tune_67 K hl H D)
    · exact r_sub [] rfl (t_X12_tune_45 K hl H D)
set_option maxRecDepth 10000 in
theorem t_X12_tune_0 {X : jX} {l : Launch} {n : Nat} {Y : jY} (K : jOK X RX12 cX12_tune 4 (some .int) 2) (hl : X.2.1 = l) {rr : Int32} {μr : jM} {v0 : Nat} {v1 : Int32} {v2 : Int32} {v3 : Int32} {μ : jM} {z : (Int32 × jM)} (H : f_X12_tune Y v0 v1 v2 v3 μ = some z) (D : z = (rr, μr)) : JW X (jEnd X n Y (some (.int rr)) μr 0 0) 0 0 n Y 0 [(0, .ref v0), (1, .int v1), (2, .int v2), (3, .int v3)] [] μ := by
  unfold f_X12_tune at H
  refine r_aload_n K 0 dX12_tune_0 rfl rfl ?_
  refine w_getI K vc12 inX12 10 (by decide) mF_RX12_145 dX12_tune_1 H (fun x1 H => ?_)
  refine w_if_eq K 45 dX12_tune_4 (by decide) H (fun _ H => ?_) (fun _ H => ?_)
  · exact r_sub [] rfl (t_X12_tune_45 K hl H D)
  · refine r_iload_n K 2 dX12_tune_7 rfl rfl ?_
    refine r_iconst (v := 0) K dX12_tune_8 (by decide) ?_
    refine r_iload_n K 1 dX12_tune_9 rfl rfl ?_
    refine w_if_eq K 22 dX12_tune_10 (by decide) H (fun _ H => ?_) (fun _ H => ?_)
    · refine r_aload_n K 0 dX12_tune_22 rfl rfl ?_
      refine w_getI K vc12 inX12 10 (by decide) mF_RX12_145 dX12_tune_23 H (fun x2 H => ?_)
      refine r_iconst (v := 2) K dX12_tune_26 (by decide) ?_
      refine r_isub K dX12_tune_27 ?_
      exact r_sub [0, 1, 2, 3] rfl (t_X12_tune_28 K hl H D)
    · refine r_aload_n K 0 dX12_tune_13 rfl rfl ?_
      refine w_getI K vc12 inX12 10 (by decide) mF_RX12_145 dX12_tune_14 H (fun x3 H => ?_)
      refine r_iconst (v := 1) K dX12_tune_17 (by decide) ?_
      refine r_isub K dX12_tune_18 ?_
      refine r_goto K 28 dX12_tune_19 (by decide) ?_
      exact r_sub [0, 1, 2, 3] rfl (t_X12_tune_28 K hl H D)
theorem c_X12_tune (l : Launch) {n : Nat} {Y : jY} {v0 : Nat} {v1 : Int32} {v2 : Int32} {v3 : Int32} {μ : jM} {z : Int32 × jM} (H : f_X12_tune Y v0 v1 v2 v3 μ = some z) : jC l yX12_tune cX12_tune 4 (some .int) 2 0 0 [.ref v0, .int v1, .int v2, .int v3] n Y μ n Y (some (.int z.1)) z.2 := by
  refine jC_of (by decide +kernel) (Nat.le_of_ble_eq_true rfl) (fun X hl K _ _ _ => ?_)
  obtain ⟨rr, μr⟩ := z
  exact t_X12_tune_0 K hl H rfl
/-! RX12 first()I -/
def b_X12_first_21 (Y : jY) (t0 : Int32) (μ : jM) : Option (Int32 × jM) :=
  some (t0, μ)
def f_X12_first (Y : jY) (v0 : Nat) (μ : jM) : Option (Int32 × jM) :=
  (jgI Y μ v0 12 10).bind fun x1 =>
  if x1 = ((1 : Int32)) then
    (jgO Y μ v0 12 11).bind fun x3 =>
    (jaI Y μ x3 20 ((0 : Int32))).bind fun x4 =>
    b_X12_first_21 Y x4 μ
  else
    (jgI Y μ v0 12 42).bind fun x2 =>
    b_X12_first_21 Y x2 μ
set_option maxRecDepth 10000 in
theorem t_X12_first_21 {X : jX} {l : Launch} {n : Nat} {Y : jY} (K : jOK X RX12 cX12_first 1 (some .int) 1) (hl : X.2.1 = l) {rr : Int32} {μr : jM} {t0 : Int32} {μ : jM} {z : (Int32 × jM)} (H : b_X12_first_21 Y t0 μ = some z) (D : z = (rr, μr)) : JW X (jEnd X n Y (some (.int rr)) μr 0 0) 0 0 n Y 21 [] [.int t0] μ := by
  unfold b_X12_first_21 at H
  cases H
  obtain ⟨rfl, rfl⟩ := jfin2 D
  exact r_iret K dX12_first_21
set_option maxRecDepth 10000 in
theorem t_X12_first_0 {X : jX} {l : Launch} {n : Nat} {Y : jY} (K : jOK X RX12 cX12_first 1 (some .int) 1) (hl : X.2.1 = l) {rr : Int32} {μr : jM} {v0 : Nat} {μ : jM} {z : (Int32 × jM)} (H : f_X12_first Y v0 μ = some z) (D : z = (rr, μr)) : JW X (jEnd X n Y (some (.int rr)) μr 0 0) 0 0 n Y 0 [(0, .ref v0)] [] μ := by
  unfold f_X12_first at H
  refine r_aload_n K 0 dX12_first_0 rfl rfl ?_
  refine w_getI K vc12 inX12 10 (by decide) mF_RX12_145 dX12_first_1 H (fun x1 H => ?_)
  refine r_iconst (v := 1) K dX12_first_4 (by decide) ?_
  refine w_icmp_ne K 17 dX12_first_5 (by decide) H (fun _ H => ?_) (fun _ H => ?_)
  · refine r_aload_n K 0 dX12_first_17 rfl rfl ?_
    refine w_getI K vc12 inX12 42 (by decide) mF_RX12_323 dX12_first_18 H (fun x2 H => ?_)
    exact r_sub [] rfl (t_X12_first_21 K hl H D)
  · refine r_aload_n K 0 dX12_first_8 rfl rfl ?_
    refine w_getO K vc12 inX12 11 (by decide) mF_RX12_20 dX12_first_9 H (fun x3 H => ?_)
    refine r_iconst (v := 0) K dX12_first_12 (by decide) ?_
    refine w_iald K dX12_first_13 H (fun x4 H => ?_)
    refine r_goto K 21 dX12_first_14 (by decide) ?_
    exact r_sub [] rfl (t_X12_first_21 K hl H D)
theorem c_X12_first (l : Launch) {n : Nat} {Y : jY} {v0 : Nat} {μ : jM} {z : Int32 × jM} (H : f_X12_first Y v0 μ = some z) : jC l yX12_first cX12_first 1 (some .int) 1 0 0 [.ref v0] n Y μ n Y (some (.int z.1)) z.2 := by
  refine jC_of (by decide +kernel) (Nat.le_of_ble_eq_true rfl) (fun X hl K _ _ _ => ?_)
  obtain ⟨rr, μr⟩ := z
  exact t_X12_first_0 K hl H rfl
/-! RX12 lay(II)I -/
def b_X12_lay_18 (Y : jY) (μ : jM) : Option (Int32 × jM) :=
  some ((-1 : Int32), μ)
def b_X12_lay_163 (Y : jY) (v0 : Nat) (μ : jM) : Option (Int32 × jM) :=
  (jgI Y μ v0 12 10).bind fun x1 =>
  some (x1, μ)
def b_X12_lay_127 (Y : jY) (v0 : Nat) (v2 : Int32) (μ : jM) : Option (Int32 × jM) :=
  (jgI Y μ v0 12 10).bind fun x1 =>
  if x1 ≤ ((2 : Int32)) then
    b_X12_lay_163 Y v0 μ
  else
    (jgO Y μ v0 12 27).bind fun x2 =>
    (jgI Y μ v0 12 44).bind fun x3 =>
    (jas Y μ x2 20 ((((((5 : Int32)) * v2)) + ((2 : Int32)))) (.int x3)).bind fun μ4 =>
    (jgO Y μ4 v0 12 28).bind fun x5 =>
    (jgI Y μ4 v0 12 46).bind fun x6 =>
    (jas Y μ4 x5 20 ((((((5 : Int32)) * v2)) + ((1 : Int32)))) (.int x6)).bind fun μ7 =>
    b_X12_lay_163 Y v0 μ7
def b_X12_lay_64 (Y : jY) (v0 : Nat) (v2 : Int32) (v3 : Int32) (μ : jM) : Option (Int32 × jM) :=
  if v3 = 0 then
    some ((-3 : Int32), μ)
  else
    (jgO Y μ v0 12 26).bind fun x1 =>
    (jgI Y μ v0 12 10).bind fun x2 =>
    (jas Y μ x1 20 v2 (.int x2)).bind fun μ3 =>
    (jgO Y μ3 v0 12 27).bind fun x4 =>
    (jrcv Y v0 12 (f_X12_first Y v0 μ3)).bind fun r5 =>
    (jas Y r5.2 x4 20 ((((5 : Int32)) * v2)) (.int r5.1)).bind fun μ6 =>
    (jgI Y μ6 v0 12 10).bind fun x7 =>
    if x7 ≤ ((1 : Int32)) then
      b_X12_lay_127 Y v0 v2 μ6
    else
      (jgO Y μ6 v0 12 27).bind fun x8 =>
      (jgI Y μ6 v0 12 43).bind fun x9 =>
      (jas Y μ6 x8 20 ((((((5 : Int32)) * v2)) + ((1 : Int32)))) (.int x9)).bind fun μ10 =>
      (jgO Y μ10 v0 12 28).bind fun x11 =>
      (jgI Y μ10 v0 12 45).bind fun x12 =>
      (jas Y μ10 x11 20 ((((5 : Int32)) * v2)) (.int x12)).bind fun μ13 =>
      b_X12_lay_127 Y v0 v2 μ13
def b_X12_lay_43 (Y : jY) (v0 : Nat) (v1 : Int32) (v2 : Int32) (v3 : Int32) (v4 : Int32) (μ : jM) : Option ((Int32 × Int32 × jM) ⊕ (Int32 × jM)) :=
  if v1 ≤ v4 then
    (b_X12_lay_64 Y v0 v2 v3 μ).map (fun r => (.inr r))
  else
    if v3 = 0 then
      (b_X12_lay_64 Y v0 v2 v3 μ).map (fun r => (.inr r))
    else
      (jrcv Y v0 12 (f_X12_goesOn Y v0 μ)).bind fun r1 =>
      some (.inl (r1.1, (v4 + (1 : Int32)), r1.2))
def f_X12_lay (Y : jY) (v0 : Nat) (v1 : Int32) (v2 : Int32) (μ : jM) : Option (Int32 × jM) :=
  (jgI Y μ v0 12 10).bind fun x1 =>
  if x1 = 0 then
    b_X12_lay_18 Y μ
  else
    (f_X12_isDrawer Y v2 μ).bind fun r2 =>
    if r2.1 = 0 then
      b_X12_lay_18 Y r2.2
    else
      if 0 ≤ v1 then
        (jgI Y r2.2 v0 12 10).bind fun x3 =>
        if x3 ≤ ((3 : Int32)) then
          (jrcv Y v0 12 (f_X12_begin0 Y v0 r2.2)).bind fun μ4 =>
          (jrcv Y v0 12 (f_X12_goesOn Y v0 μ4)).bind fun r5 =>
          jit jF (fun (s : Int32 × Int32 × jM) => b_X12_lay_43 Y v0 v1 v2 s.1 s.2.1 s.2.2) (r5.1, (0 : Int32), r5.2)
        else
          some ((-2 : Int32), r2.2)
      else
        b_X12_lay_18 Y r2.2
set_option maxRecDepth 10000 in
theorem t_X12_lay_18 {X : jX} {l : Launch} {n : Nat} {Y : jY} (K : jOK X RX12 cX12_lay 5 (some .int) 4) (hl : X.2.1 = l) {rr : Int32} {μr : jM} {μ : jM} {z : (Int32 × jM)} (H : b_X12_lay_18 Y μ = some z) (D : z = (rr, μr)) : JW X (jEnd X n Y (some (.int rr)) μr 0 0) 0 0 n Y 18 [] [] μ := by
  unfold b_X12_lay_18 at H
  refine r_iconst (v := -1) K dX12_lay_18 (by decide) ?_
  cases H
  obtain ⟨rfl, rfl⟩ := jfin2 D
  exact r_iret K dX12_lay_19
set_option maxRecDepth 10000 in
theorem t_X12_lay_163 {X : jX} {l : Launch} {n : Nat} {Y : jY} (K : jOK X RX12 cX12_lay 5 (some .int) 4) (hl : X.2.1 = l) {rr : Int32} {μr : jM} {v0 : Nat} {μ : jM} {z : (Int32 × jM)} (H : b_X12_lay_163 Y v0 μ = some z) (D : z = (rr, μr)) : JW X (jEnd X n Y (some (.int rr)) μr 0 0) 0 0 n Y 163 [(0, .ref v0)] [] μ := by
  unfold b_X12_lay_163 at H
  refine r_aload_n K 0 dX12_lay_163 rfl rfl ?_
  refine w_getI K vc12 inX12 10 (by decide) mF_RX12_145 dX12_lay_164 H (fun x1 H => ?_)
  cases H
  obtain ⟨rfl, rfl⟩ := jfin2 D
  exact r_iret K dX12_lay_167
set_option maxRecDepth 10000 in
theorem t_X12_lay_127 {X : jX} {l : Launch} {n : Nat} {Y : jY} (K : jOK X RX12 cX12_lay 5 (some .int) 4) (hl : X.2.1 = l) {rr : Int32} {μr : jM} {v0 : Nat} {v2 : Int32} {μ : jM} {z : (Int32 × jM)} (H : b_X12_lay_127 Y v0 v2 μ = some z) (D : z = (rr, μr)) : JW X (jEnd X n Y (some (.int rr)) μr 0 0) 0 0 n Y 127 [(0, .ref v0), (2, .int v2)] [] μ := by
  unfold b_X12_lay_127 at H
  refine r_aload_n K 0 dX12_lay_127 rfl rfl ?_
  refine w_getI K vc12 inX12 10 (by decide) mF_RX12_145 dX12_lay_128 H (fun x1 H => ?_)
  refine r_iconst (v := 2) K dX12_lay_131 (by decide) ?_
  refine w_icmp_le K 163 dX12_lay_132 (by decide) H (fun _ H => ?_) (fun _ H => ?_)
  · exact r_sub [0] rfl (t_X12_lay_163 K hl H D)
  · refine r_aload_n K 0 dX12_lay_135 rfl rfl ?_
    refine w_getO K vc12 inX12 27 (by decide) mF_RX12_51 dX12_lay_136 H (fun x2 H => ?_)
    refine r_iconst (v := 5) K dX12_lay_139 (by decide) ?_
    refine r_iload_n K 1 dX12_lay_140 rfl rfl ?_
    refine r_imul K dX12_lay_141 ?_
    refine r_iconst (v := 2) K dX12_lay_142 (by decide) ?_
    refine r_iadd K dX12_lay_143 ?_
    refine r_aload_n K 0 dX12_lay_144 rfl rfl ?_
    refine w_getI K vc12 inX12 44 (by decide) mF_RX12_338 dX12_lay_145 H (fun x3 H => ?_)
    refine w_iast K dX12_lay_148 H (fun μ4 H => ?_)
    refine r_aload_n K 0 dX12_lay_149 rfl rfl ?_
    refine w_getO K vc12 inX12 28 (by decide) mF_RX12_54 dX12_lay_150 H (fun x5 H => ?_)
    refine r_iconst (v := 5) K dX12_lay_153 (by decide) ?_
    refine r_iload_n K 1 dX12_lay_154 rfl rfl ?_
    refine r_imul K dX12_lay_155 ?_
    refine r_iconst (v := 1) K dX12_lay_156 (by decide) ?_
    refine r_iadd K dX12_lay_157 ?_
    refine r_aload_n K 0 dX12_lay_158 rfl rfl ?_
    refine w_getI K vc12 inX12 46 (by decide) mF_RX12_341 dX12_lay_159 H (fun x6 H => ?_)
    refine w_iast K dX12_lay_162 H (fun μ7 H => ?_)
    exact r_sub [0] rfl (t_X12_lay_163 K hl H D)
set_option maxRecDepth 10000 in
theorem t_X12_lay_64 {X : jX} {l : Launch} {n : Nat} {Y : jY} (K : jOK X RX12 cX12_lay 5 (some .int) 4) (hl : X.2.1 = l) {rr : Int32} {μr : jM} {v0 : Nat} {v2 : Int32} {v3 : Int32} {μ : jM} {z : (Int32 × jM)} (H : b_X12_lay_64 Y v0 v2 v3 μ = some z) (D : z = (rr, μr)) : JW X (jEnd X n Y (some (.int rr)) μr 0 0) 0 0 n Y 64 [(0, .ref v0), (2, .int v2), (3, .int v3)] [] μ := by
  unfold b_X12_lay_64 at H
  refine r_iload_n K 2 dX12_lay_64 rfl rfl ?_
  refine w_if_ne K 71 dX12_lay_65 (by decide) H (fun _ H => ?_) (fun _ H => ?_)
  · refine r_aload_n K 0 dX12_lay_71 rfl rfl ?_
    refine w_getO K vc12 inX12 26 (by decide) mF_RX12_48 dX12_lay_72 H (fun x1 H => ?_)
    refine r_iload_n K 1 dX12_lay_75 rfl rfl ?_
    refine r_aload_n K 0 dX12_lay_76 rfl rfl ?_
    refine w_getI K vc12 inX12 10 (by decide) mF_RX12_145 dX12_lay_77 H (fun x2 H => ?_)
    refine w_iast K dX12_lay_80 H (fun μ3 H => ?_)
    refine r_aload_n K 0 dX12_lay_81 rfl rfl ?_
    refine w_getO K vc12 inX12 27 (by decide) mF_RX12_51 dX12_lay_82 H (fun x4 H => ?_)
    refine r_iconst (v := 5) K dX12_lay_85 (by decide) ?_
    refine r_iload_n K 1 dX12_lay_86 rfl rfl ?_
    refine r_imul K dX12_lay_87 ?_
    refine r_aload_n K 0 dX12_lay_88 rfl rfl ?_
    refine w_callV K hl H (fun r h => c_X12_first l h) mC_yX12_first mM_RX12_344 mI_yX12_first mS_yX12_first mZ_RX12 vc12 (Nat.le_of_ble_eq_true rfl) (Nat.le_of_ble_eq_true rfl) np_yX12_first rfl (Nat.le_of_ble_eq_true rfl) dX12_lay_89 (fun r5 H => ?_) ⟨Nat.zero_le _, Nat.zero_le _⟩
    refine w_iast K dX12_lay_92 H (fun μ6 H => ?_)
    refine r_aload_n K 0 dX12_lay_93 rfl rfl ?_
    refine w_getI K vc12 inX12 10 (by decide) mF_RX12_145 dX12_lay_94 H (fun x7 H => ?_)
    refine r_iconst (v := 1) K dX12_lay_97 (by decide) ?_
    refine w_icmp_le K 127 dX12_lay_98 (by decide) H (fun _ H => ?_) (fun _ H => ?_)
    · exact r_sub [0, 1] rfl (t_X12_lay_127 K hl H D)
    · refine r_aload_n K 0 dX12_lay_101 rfl rfl ?_
      refine w_getO K vc12 inX12 27 (by decide) mF_RX12_51 dX12_lay_102 H (fun x8 H => ?_)
      refine r_iconst (v := 5) K dX12_lay_105 (by decide) ?_
      refine r_iload_n K 1 dX12_lay_106 rfl rfl ?_
      refine r_imul K dX12_lay_107 ?_
      refine r_iconst (v := 1) K dX12_lay_108 (by decide) ?_
      refine r_iadd K dX12_lay_109 ?_
      refine r_aload_n K 0 dX12_lay_110 rfl rfl ?_
      refine w_getI K vc12 inX12 43 (by decide) mF_RX12_326 dX12_lay_111 H (fun x9 H => ?_)
      refine w_iast K dX12_lay_114 H (fun μ10 H => ?_)
      refine r_aload_n K 0 dX12_lay_115 rfl rfl ?_
      refine w_getO K vc12 inX12 28 (by decide) mF_RX12_54 dX12_lay_116 H (fun x11 H => ?_)
      refine r_iconst (v := 5) K dX12_lay_119 (by decide) ?_
      refine r_iload_n K 1 dX12_lay_120 rfl rfl ?_
      refine r_imul K dX12_lay_121 ?_
      refine r_aload_n K 0 dX12_lay_122 rfl rfl ?_
      refine w_getI K vc12 inX12 45 (by decide) mF_RX12_329 dX12_lay_123 H (fun x12 H => ?_)
      refine w_iast K dX12_lay_126 H (fun μ13 H => ?_)
      exact r_sub [0, 1] rfl (t_X12_lay_127 K hl H D)
  · refine r_bipush (v := -3) K dX12_lay_68 (by decide) ?_
    cases H
    obtain ⟨rfl, rfl⟩ := jfin2 D
    exact r_iret K dX12_lay_70
set_option maxRecDepth 10000 in
theorem t_X12_lay_43 {X : jX} {l : Launch} {n : Nat} {Y : jY} (K : jOK X RX12 cX12_lay 5 (some .int) 4) (hl : X.2.1 = l) {rr : Int32} {μr : jM} {v0 : Nat} {v1 : Int32} {v2 : Int32} {v3 : Int32} {v4 : Int32} {μ : jM} {z : ((Int32 × Int32 × jM) ⊕ (Int32 × jM))} (H : b_X12_lay_43 Y v0 v1 v2 v3 v4 μ = some z) (D : Sum.elim (fun (s : Int32 × Int32 × jM) => JW X (jEnd X n Y (some (.int rr)) μr 0 0) 0 0 n Y 43 [(0, .ref v0), (1, .int v1), (2, .int v2), (3, .int s.1), (4, .int s.2.1)] [] s.2.2) (fun r => r = (rr, μr)) z) : JW X (jEnd X n Y (some (.int rr)) μr 0 0) 0 0 n Y 43 [(0, .ref v0), (1, .int v1), (2, .int v2), (3, .int v3), (4, .int v4)] [] μ := by
  unfold b_X12_lay_43 at H
  refine r_iload K 4 dX12_lay_43 rfl ?_
  refine r_iload_n K 1 dX12_lay_45 rfl rfl ?_
  refine w_icmp_ge K 64 dX12_lay_46 (by decide) H (fun _ H => ?_) (fun _ H => ?_)
  · obtain ⟨z2, H2, rfl⟩ := jmap H
    exact r_sub [0, 2, 3] rfl (t_X12_lay_64 K hl H2 D)
  · refine r_iload_n K 3 dX12_lay_49 rfl rfl ?_
    refine w_if_eq K 64 dX12_lay_50 (by decide) H (fun _ H => ?_) (fun _ H => ?_)
    · obtain ⟨z2, H2, rfl⟩ := jmap H
      exact r_sub [0, 2, 3] rfl (t_X12_lay_64 K hl H2 D)
    · refine r_aload_n K 0 dX12_lay_53 rfl rfl ?_
      refine w_callV K hl H (fun r h => c_X12_goesOn l h) mC_yX12_goesOn mM_RX12_350 mI_yX12_goesOn mS_yX12_goesOn mZ_RX12 vc12 (Nat.le_of_ble_eq_true rfl) (Nat.le_of_ble_eq_true rfl) np_yX12_goesOn rfl (Nat.le_of_ble_eq_true rfl) dX12_lay_54 (fun r1 H => ?_) ⟨Nat.zero_le _, Nat.zero_le _⟩
      refine r_istore_n K [(3, .int _), (0, .ref _), (1, .int _), (2, .int _), (4, .int _)] dX12_lay_57 rfl (by decide) rfl ?_
      refine r_iinc K 4 [(4, .int _), (3, .int _), (0, .ref _), (1, .int _), (2, .int _)] (v := _ + (1 : Int32)) dX12_lay_58 rfl rfl (by decide) rfl ?_
      refine r_goto K 43 dX12_lay_61 (by decide) ?_
      cases H
      exact r_sub [2, 3, 4, 1, 0] rfl D
set_option maxRecDepth 10000 in
theorem l_X12_lay_43 {X : jX} {l : Launch} {n : Nat} {Y : jY} (K : jOK X RX12 cX12_lay 5 (some .int) 4) (hl : X.2.1 = l) {rr : Int32} {μr : jM} {v0 : Nat} {v1 : Int32} {v2 : Int32}  {s0 : Int32 × Int32 × jM} {z : (Int32 × jM)} (H : jit jF (fun (s : Int32 × Int32 × jM) => b_X12_lay_43 Y v0 v1 v2 s.1 s.2.1 s.2.2) s0 = some z) (D : z = (rr, μr)) : JW X (jEnd X n Y (some (.int rr)) μr 0 0) 0 0 n Y 43 [(0, .ref v0), (1, .int v1), (2, .int v2), (3, .int s0.1), (4, .int s0.2.1)] [] s0.2.2 :=
  jit_ind (P := fun (s : Int32 × Int32 × jM) => JW X (jEnd X n Y (some (.int rr)) μr 0 0) 0 0 n Y 43 [(0, .ref v0), (1, .int v1), (2, .int v2), (3, .int s.1), (4, .int s.2.1)] [] s.2.2) (D := fun r => r = (rr, μr)) (fun s z Hs Ds => t_X12_lay_43 K hl Hs Ds) jF s0 z H D
set_option maxRecDepth 10000 in
theorem t_X12_lay_0 {X : jX} {l : Launch} {n : Nat} {Y : jY} (K : jOK X RX12 cX12_lay 5 (some .int) 4) (hl : X.2.1 = l) {rr : Int32} {μr : jM} {v0 : Nat} {v1 : Int32} {v2 : Int32} {μ : jM} {z : (Int32 × jM)} (H : f_X12_lay Y v0 v1 v2 μ = some z) (D : z = (rr, μr)) : JW X (jEnd X n Y (some (.int rr)) μr 0 0) 0 0 n Y 0 [(0, .ref v0), (1, .int v1), (2, .int v2)] [] μ := by
  unfold f_X12_lay at H
  refine r_aload_n K 0 dX12_lay_0 rfl rfl ?_
  refine w_getI K vc12 inX12 10 (by decide) mF_RX12_145 dX12_lay_1 H (fun x1 H => ?_)
  refine w_if_eq K 18 dX12_lay_4 (by decide) H (fun _ H => ?_) (fun _ H => ?_)
  · exact r_sub [] rfl (t_X12_lay_18 K hl H D)
  · refine r_iload_n K 2 dX12_lay_7 rfl rfl ?_
    refine w_callS K hl H (fun r h => c_X12_isDrawer l h) mC_yX12_isDrawer mM_RX12_253 mT_yX12_isDrawer mZ_RX12 (Nat.le_of_ble_eq_true rfl) (Nat.le_of_ble_eq_true rfl) np_yX12_isDrawer rfl (Nat.le_of_ble_eq_true rfl) dX12_lay_8 (fun r2 H => ?_) ⟨Nat.zero_le _, Nat.zero_le _⟩
    refine w_if_eq K 18 dX12_lay_11 (by decide) H (fun _ H => ?_) (fun _ H => ?_)
    · exact r_sub [] rfl (t_X12_lay_18 K hl H D)
    · refine r_iload_n K 1 dX12_lay_14 rfl rfl ?_
      refine w_if_ge K 20 dX12_lay_15 (by decide) H (fun _ H => ?_) (fun _ H => ?_)
      · refine r_aload_n K 0 dX12_lay_20 rfl rfl ?_
        refine w_getI K vc12 inX12 10 (by decide) mF_RX12_145 dX12_lay_21 H (fun x3 H => ?_)
        refine r_iconst (v := 3) K dX12_lay_24 (by decide) ?_
        refine w_icmp_le K 31 dX12_lay_25 (by decide) H (fun _ H => ?_) (fun _ H => ?_)
        · refine r_aload_n K 0 dX12_lay_31 rfl rfl ?_
          refine w_callV K hl H (fun r h => c_X12_begin0 l h) mC_yX12_begin0 mM_RX12_347 mI_yX12_begin0 mS_yX12_begin0 mZ_RX12 vc12 (Nat.le_of_ble_eq_true rfl) (Nat.le_of_ble_eq_true rfl) np_yX12_begin0 rfl (Nat.le_of_ble_eq_true rfl) dX12_lay_32 (fun μ4 H => ?_) ⟨Nat.zero_le _, Nat.zero_le _⟩
          refine r_aload_n K 0 dX12_lay_35 rfl rfl ?_
          refine w_callV K hl H (fun r h => c_X12_goesOn l h) mC_yX12_goesOn mM_RX12_350 mI_yX12_goesOn mS_yX12_goesOn mZ_RX12 vc12 (Nat.le_of_ble_eq_true rfl) (Nat.le_of_ble_eq_true rfl) np_yX12_goesOn rfl (Nat.le_of_ble_eq_true rfl) dX12_lay_36 (fun r5 H => ?_) ⟨Nat.zero_le _, Nat.zero_le _⟩
          refine r_istore_n K [(3, .int _), (0, .ref _), (1, .int _), (2, .int _)] dX12_lay_39 rfl (by decide) rfl ?_
          refine r_iconst (v := 0) K dX12_lay_40 (by decide) ?_
          refine r_istore K [(4, .int _), (3, .int _), (0, .ref _), (1, .int _), (2, .int _)] dX12_lay_41 (by decide) rfl ?_
          exact r_sub [2, 3, 4, 1, 0] rfl (l_X12_lay_43 K hl H D)
        · refine r_bipush (v := -2) K dX12_lay_28 (by decide) ?_
          cases H
          obtain ⟨rfl, rfl⟩ := jfin2 D
          exact r_iret K dX12_lay_30
      · exact r_sub [] rfl (t_X12_lay_18 K hl H D)
theorem c_X12_lay (l : Launch) {n : Nat} {Y : jY} {v0 : Nat} {v1 : Int32} {v2 : Int32} {μ : jM} {z : Int32 × jM} (H : f_X12_lay Y v0 v1 v2 μ = some z) : jC l yX12_lay cX12_lay 5 (some .int) 4 0 0 [.ref v0, .int v1, .int v2] n Y μ n Y (some (.int z.1)) z.2 := by
  refine jC_of (by decide +kernel) (Nat.le_of_ble_eq_true rfl) (fun X hl K _ _ _ => ?_)
  obtain ⟨rr, μr⟩ := z
  exact t_X12_lay_0 K hl H rfl
/-! RX12 draw(I)I -/
def f_X12_draw (Y : jY) (v0 : Nat) (v1 : Int32) (μ : jM) : Option (Int32 × jM) :=
  (jgI Y μ v0 12 41).bind fun x1 =>
  (jremI ((((((25173 : Int32)) * x1)) + ((13849 : Int32)))) ((65536 : Int32))).bind fun x2 =>
  (jput Y μ v0 12 41 (.int x2)).bind fun μ3 =>
  (jgI Y μ3 v0 12 41).bind fun x4 =>
  (jdivI x4 ((4 : Int32))).bind fun x5 =>
  (jremI x5 v1).bind fun x6 =>
  some (x6, μ3)
set_option maxRecDepth 10000 in
theorem t_X12_draw_0 {X : jX} {l : Launch} {n : Nat} {Y : jY} (K : jOK X RX12 cX12_draw 2 (some .int) 1) (hl : X.2.1 = l) {rr : Int32} {μr : jM} {v0 : Nat} {v1 : Int32} {μ : jM} {z : (Int32 × jM)} (H : f_X12_draw Y v0 v1 μ = some z) (D : z = (rr, μr)) : JW X (jEnd X n Y (some (.int rr)) μr 0 0) 0 0 n Y 0 [(0, .ref v0), (1, .int v1)] [] μ := by
  unfold f_X12_draw at H
  refine r_aload_n K 0 dX12_draw_0 rfl rfl ?_
  refine r_sipush (v := 25173) K dX12_draw_1 (by decide) ?_
  refine r_aload_n K 0 dX12_draw_4 rfl rfl ?_
  refine w_getI K vc12 inX12 41 (by decide) mF_RX12_309 dX12_draw_5 H (fun x1 H => ?_)
  refine r_imul K dX12_draw_8 ?_
  refine r_sipush (v := 13849) K dX12_draw_9 (by decide) ?_
  refine r_iadd K dX12_draw_12 ?_
  refine r_ldc_w K (65536) mc_RX12_312 dX12_draw_13 ?_
  refine w_irem K dX12_draw_16 H (fun x2 H => ?_)
  refine w_put K vc12 inX12 tyX12_ok nmX12 41 (by decide) mF_RX12_309 rfl (fun _ => rfl) (fun _ => rfl) dX12_draw_17 H (fun μ3 H => ?_)
  refine r_aload_n K 0 dX12_draw_20 rfl rfl ?_
  refine w_getI K vc12 inX12 41 (by decide) mF_RX12_309 dX12_draw_21 H (fun x4 H => ?_)
  refine r_iconst (v := 4) K dX12_draw_24 (by decide) ?_
  refine w_idiv K dX12_draw_25 H (fun x5 H => ?_)
  refine r_iload_n K 1 dX12_draw_26 rfl rfl ?_
  refine w_irem K dX12_draw_27 H (fun x6 H => ?_)
  cases H
  obtain ⟨rfl, rfl⟩ := jfin2 D
  exact r_iret K dX12_draw_28
theorem c_X12_draw (l : Launch) {n : Nat} {Y : jY} {v0 : Nat} {v1 : Int32} {μ : jM} {z : Int32 × jM} (H : f_X12_draw Y v0 v1 μ = some z) : jC l yX12_draw cX12_draw 2 (some .int) 1 0 0 [.ref v0, .int v1] n Y μ n Y (some (.int z.1)) z.2 := by
  refine jC_of (by decide +kernel) (Nat.le_of_ble_eq_true rfl) (fun X hl K _ _ _ => ?_)
  obtain ⟨rr, μr⟩ := z
  exact t_X12_draw_0 K hl H rfl
/-! RX12 shift(I)I -/
def b_X12_shift_18 (Y : jY) (μ : jM) : Option (Int32 × jM) :=
  some ((-1 : Int32), μ)
def b_X12_shift_51 (Y : jY) (μ : jM) : Option (Int32 × jM) :=
  some ((-3 : Int32), μ)
def b_X12_shift_86 (Y : jY) (v0 : Nat) (v1 : Int32) (v2 : Int32) (μ : jM) : Option ((Int32 × jM) ⊕ (Int32 × jM)) :=
  (jgI Y μ v0 12 10).bind fun x1 =>
  if ((x1 - ((1 : Int32)))) ≤ v2 then
    (jgI Y μ v0 12 10).bind fun x2 =>
    some (.inr (x2, μ))
  else
    (jgO Y μ v0 12 12).bind fun x3 =>
    (jgO Y μ v0 12 12).bind fun x4 =>
    (jaI Y μ x4 20 v2).bind fun x5 =>
    (jas Y μ x3 20 v2 (.int ((x5 + v1)))).bind fun μ6 =>
    some (.inl ((v2 + (1 : Int32)), μ6))
def b_X12_shift_56 (Y : jY) (v0 : Nat) (v1 : Int32) (v2 : Int32) (μ : jM) : Option ((Int32 × jM) ⊕ (Int32 × jM)) :=
  (jgI Y μ v0 12 10).bind fun x1 =>
  if x1 ≤ v2 then
    (jit jF (fun (s : Int32 × jM) => b_X12_shift_86 Y v0 v1 s.1 s.2) ((0 : Int32), μ)).map (fun r => (.inr r))
  else
    (jgO Y μ v0 12 11).bind fun x2 =>
    (jgO Y μ v0 12 11).bind fun x3 =>
    (jaI Y μ x3 20 v2).bind fun x4 =>
    (jas Y μ x2 20 v2 (.int ((x4 + v1)))).bind fun μ5 =>
    some (.inl ((v2 + (1 : Int32)), μ5))
def f_X12_shift (Y : jY) (v0 : Nat) (v1 : Int32) (μ : jM) : Option (Int32 × jM) :=
  (jgI Y μ v0 12 10).bind fun x1 =>
  if x1 = 0 then
    b_X12_shift_18 Y μ
  else
    (f_X12_in Y v1 ((-12 : Int32)) ((12 : Int32)) μ).bind fun r2 =>
    if r2.1 = 0 then
      b_X12_shift_18 Y r2.2
    else
      (jgO Y r2.2 v0 12 11).bind fun x3 =>
      (jaI Y r2.2 x3 20 ((0 : Int32))).bind fun x4 =>
      if ((x4 + v1)) < ((-6 : Int32)) then
        b_X12_shift_51 Y r2.2
      else
        (jgO Y r2.2 v0 12 11).bind fun x5 =>
        (jgI Y r2.2 v0 12 10).bind fun x6 =>
        (jaI Y r2.2 x5 20 ((x6 - ((1 : Int32))))).bind fun x7 =>
        if ((x7 + v1)) ≤ ((6 : Int32)) then
          jit jF (fun (s : Int32 × jM) => b_X12_shift_56 Y v0 v1 s.1 s.2) ((0 : Int32), r2.2)
        else
          b_X12_shift_51 Y r2.2
set_option maxRecDepth 10000 in
theorem t_X12_shift_18 {X : jX} {l : Launch} {n : Nat} {Y : jY} (K : jOK X RX12 cX12_shift 3 (some .int) 2) (hl : X.2.1 = l) {rr : Int32} {μr : jM} {μ : jM} {z : (Int32 × jM)} (H : b_X12_shift_18 Y μ = some z) (D : z = (rr, μr)) : JW X (jEnd X n Y (some (.int rr)) μr 0 0) 0 0 n Y 18 [] [] μ := by
  unfold b_X12_shift_18 at H
  refine r_iconst (v := -1) K dX12_shift_18 (by decide) ?_
  cases H
  obtain ⟨rfl, rfl⟩ := jfin2 D
  exact r_iret K dX12_shift_19
set_option maxRecDepth 10000 in
theorem t_X12_shift_51 {X : jX} {l : Launch} {n : Nat} {Y : jY} (K : jOK X RX12 cX12_shift 3 (some .int) 2) (hl : X.2.1 = l) {rr : Int32} {μr : jM} {μ : jM} {z : (Int32 × jM)} (H : b_X12_shift_51 Y μ = some z) (D : z = (rr, μr)) : JW X (jEnd X n Y (some (.int rr)) μr 0 0) 0 0 n Y 51 [] [] μ := by
  unfold b_X12_shift_51 at H
  refine r_bipush (v := -3) K dX12_shift_51 (by decide) ?_
  cases H
  obtain ⟨rfl, rfl⟩ := jfin2 D
  exact r_iret K dX12_shift_53
set_option maxRecDepth 10000 in
theorem t_X12_shift_86 {X : jX} {l : Launch} {n : Nat} {Y : jY} (K : jOK X RX12 cX12_shift 3 (some .int) 2) (hl : X.2.1 = l) {rr : Int32} {μr : jM} {v0 : Nat} {v1 : Int32} {v2 : Int32} {μ : jM} {z : ((Int32 × jM) ⊕ (Int32 × jM))} (H : b_X12_shift_86 Y v0 v1 v2 μ = some z) (D : Sum.elim (fun (s : Int32 × jM) => JW X (jEnd X n Y (some (.int rr)) μr 0 0) 0 0 n Y 86 [(0, .ref v0), (1, .int v1), (2, .int s.1)] [] s.2) (fun r => r = (rr, μr)) z) : JW X (jEnd X n Y (some (.int rr)) μr 0 0) 0 0 n Y 86 [(0, .ref v0), (1, .int v1), (2, .int v2)] [] μ := by
  unfold b_X12_shift_86 at H
  refine r_iload_n K 2 dX12_shift_86 rfl rfl ?_
  refine r_aload_n K 0 dX12_shift_87 rfl rfl ?_
  refine w_getI K vc12 inX12 10 (by decide) mF_RX12_145 dX12_shift_88 H (fun x1 H => ?_)
  refine r_iconst (v := 1) K dX12_shift_91 (by decide) ?_
  refine r_isub K dX12_shift_92 ?_
  refine w_icmp_ge K 116 dX12_shift_93 (by decide) H (fun _ H => ?_) (fun _ H => ?_)
  · refine r_aload_n K 0 dX12_shift_116 rfl rfl ?_
    refine w_getI K vc12 inX12 10 (by decide) mF_RX12_145 dX12_shift_117 H (fun x2 H => ?_)
    cases H
    simp only [Sum.elim_inr] at D
    obtain ⟨rfl, rfl⟩ := jfin2 D
    exact r_iret K dX12_shift_120
  · refine r_aload_n K 0 dX12_shift_96 rfl rfl ?_
    refine w_getO K vc12 inX12 12 (by decide) mF_RX12_23 dX12_shift_97 H (fun x3 H => ?_)
    refine r_iload_n K 2 dX12_shift_100 rfl rfl ?_
    refine r_aload_n K 0 dX12_shift_101 rfl rfl ?_
    refine w_getO K vc12 inX12 12 (by decide) mF_RX12_23 dX12_shift_102 H (fun x4 H => ?_)
    refine r_iload_n K 2 dX12_shift_105 rfl rfl ?_
    refine w_iald K dX12_shift_106 H (fun x5 H => ?_)
    refine r_iload_n K 1 dX12_shift_107 rfl rfl ?_
    refine r_iadd K dX12_shift_108 ?_
    refine w_iast K dX12_shift_109 H (fun μ6 H => ?_)
    refine r_iinc K 2 [(2, .int _), (0, .ref _), (1, .int _)] (v := _ + (1 : Int32)) dX12_shift_110 rfl rfl (by decide) rfl ?_
    refine r_goto K 86 dX12_shift_113 (by decide) ?_
    cases H
    exact r_sub [1, 2, 0] rfl D
set_option maxRecDepth 10000 in
theorem l_X12_shift_86 {X : jX} {l : Launch} {n : Nat} {Y : jY} (K : jOK X RX12 cX12_shift 3 (some .int) 2) (hl : X.2.1 = l) {rr : Int32} {μr : jM} {v0 : Nat} {v1 : Int32}  {s0 : Int32 × jM} {z : (Int32 × jM)} (H : jit jF (fun (s : Int32 × jM) => b_X12_shift_86 Y v0 v1 s.1 s.2) s0 = some z) (D : z = (rr, μr)) : JW X (jEnd X n Y (some (.int rr)) μr 0 0) 0 0 n Y 86 [(0, .ref v0), (1, .int v1), (2, .int s0.1)] [] s0.2 :=
  jit_ind (P := fun (s : Int32 × jM) => JW X (jEnd X n Y (some (.int rr)) μr 0 0) 0 0 n Y 86 [(0, .ref v0), (1, .int v1), (2, .int s.1)] [] s.2) (D := fun r => r = (rr, μr)) (fun s z Hs Ds => t_X12_shift_86 K hl Hs Ds) jF s0 z H D
set_option maxRecDepth 10000 in
theorem t_X12_shift_56 {X : jX} {l : Launch} {n : Nat} {Y : jY} (K : jOK X RX12 cX12_shift 3 (some .int) 2) (hl : X.2.1 = l) {rr : Int32} {μr : jM} {v0 : Nat} {v1 : Int32} {v2 : Int32} {μ : jM} {z : ((Int32 × jM) ⊕ (Int32 × jM))} (H : b_X12_shift_56 Y v0 v1 v2 μ = some z) (D : Sum.elim (fun (s : Int32 × jM) => JW X (jEnd X n Y (some (.int rr)) μr 0 0) 0 0 n Y 56 [(0, .ref v0), (1, .int v1), (2, .int s.1)] [] s.2) (fun r => r = (rr, μr)) z) : JW X (jEnd X n Y (some (.int rr)) μr 0 0) 0 0 n Y 56 [(0, .ref v0), (1, .int v1), (2, .int v2)] [] μ := by
  unfold b_X12_shift_56 at H
  refine r_iload_n K 2 dX12_shift_56 rfl rfl ?_
  refine r_aload_n K 0 dX12_shift_57 rfl rfl ?_
  refine w_getI K vc12 inX12 10 (by decide) mF_RX12_145 dX12_shift_58 H (fun x1 H => ?_)
  refine w_icmp_ge K 84 dX12_shift_61 (by decide) H (fun _ H => ?_) (fun _ H => ?_)
  · refine r_iconst (v := 0) K dX12_shift_84 (by decide) ?_
    refine r_istore_n K [(2, .int _), (0, .ref _), (1, .int _)] dX12_shift_85 rfl (by decide) rfl ?_
    obtain ⟨z2, H2, rfl⟩ := jmap H
    exact r_sub [1, 2, 0] rfl (l_X12_shift_86 K hl H2 D)
  · refine r_aload_n K 0 dX12_shift_64 rfl rfl ?_
    refine w_getO K vc12 inX12 11 (by decide) mF_RX12_20 dX12_shift_65 H (fun x2 H => ?_)
    refine r_iload_n K 2 dX12_shift_68 rfl rfl ?_
    refine r_aload_n K 0 dX12_shift_69 rfl rfl ?_
    refine w_getO K vc12 inX12 11 (by decide) mF_RX12_20 dX12_shift_70 H (fun x3 H => ?_)
    refine r_iload_n K 2 dX12_shift_73 rfl rfl ?_
    refine w_iald K dX12_shift_74 H (fun x4 H => ?_)
    refine r_iload_n K 1 dX12_shift_75 rfl rfl ?_
    refine r_iadd K dX12_shift_76 ?_
    refine w_iast K dX12_shift_77 H (fun μ5 H => ?_)
    refine r_iinc K 2 [(2, .int _), (0, .ref _), (1, .int _)] (v := _ + (1 : Int32)) dX12_shift_78 rfl rfl (by decide) rfl ?_
    refine r_goto K 56 dX12_shift_81 (by decide) ?_
    cases H
    exact r_sub [1, 2, 0] rfl D
set_option maxRecDepth 10000 in
theorem l_X12_shift_56 {X : jX} {l : Launch} {n : Nat} {Y : jY} (K : jOK X RX12 cX12_shift 3 (some .int) 2) (hl : X.2.1 = l) {rr : Int32} {μr : jM} {v0 : Nat} {v1 : Int32}  {s0 : Int32 × jM} {z : (Int32 × jM)} (H : jit jF (fun (s : Int32 × jM) => b_X12_shift_56 Y v0 v1 s.1 s.2) s0 = some z) (D : z = (rr, μr)) : JW X (jEnd X n Y (some (.int rr)) μr 0 0) 0 0 n Y 56 [(0, .ref v0), (1, .int v1), (2, .int s0.1)] [] s0.2 :=
  jit_ind (P := fun (s : Int32 × jM) => JW X (jEnd X n Y (some (.int rr)) μr 0 0) 0 0 n Y 56 [(0, .ref v0), (1, .int v1), (2, .int s.1)] [] s.2) (D := fun r => r = (rr, μr)) (fun s z Hs Ds => t_X12_shift_56 K hl Hs Ds) jF s0 z H D
set_option maxRecDepth 10000 in
theorem t_X12_shift_0 {X : jX} {l : Launch} {n : Nat} {Y : jY} (K : jOK X RX12 cX12_shift 3 (some .int) 2) (hl : X.2.1 = l) {rr : Int32} {μr : jM} {v0 : Nat} {v1 : Int32} {μ : jM} {z : (Int32 × jM)} (H : f_X12_shift Y v0 v1 μ = some z) (D : z = (rr, μr)) : JW X (jEnd X n Y (some (.int rr)) μr 0 0) 0 0 n Y 0 [(0, .ref v0), (1, .int v1)] [] μ := by
  unfold f_X12_shift at H
  refine r_aload_n K 0 dX12_shift_0 rfl rfl ?_
  refine w_getI K vc12 inX12 10 (by decide) mF_RX12_145 dX12_shift_1 H (fun x1 H => ?_)
  refine w_if_eq K 18 dX12_shift_4 (by decide) H (fun _ H => ?_) (fun _ H => ?_)
  · exact r_sub [] rfl (t_X12_shift_18 K hl H D)
  · refine r_iload_n K 1 dX12_shift_7 rfl rfl ?_
    refine r_bipush (v := -12) K dX12_shift_8 (by decide) ?_
    refine r_bipush (v := 12) K dX12_shift_10 (by decide) ?_
    refine w_callS K hl H (fun r h => c_X12_in l h) mC_yX12_in mM_RX12_134 mT_yX12_in mZ_RX12 (Nat.le_of_ble_eq_true rfl) (Nat.le_of_ble_eq_true rfl) np_yX12_in rfl (Nat.le_of_ble_eq_true rfl) dX12_shift_12 (fun r2 H => ?_) ⟨Nat.zero_le _, Nat.zero_le _⟩
    refine w_if_ne K 20 dX12_shift_15 (by decide) H (fun _ H => ?_) (fun _ H => ?_)
    · refine r_aload_n K 0 dX12_shift_20 rfl rfl ?_
      refine w_getO K vc12 inX12 11 (by decide) mF_RX12_20 dX12_shift_21 H (fun x3 H => ?_)
      refine r_iconst (v := 0) K dX12_shift_24 (by decide) ?_
      refine w_iald K dX12_shift_25 H (fun x4 H => ?_)
      refine r_iload_n K 1 dX12_shift_26 rfl rfl ?_
      refine r_iadd K dX12_shift_27 ?_
      refine r_bipush (v := -6) K dX12_shift_28 (by decide) ?_
      refine w_icmp_lt K 51 dX12_shift_30 (by decide) H (fun _ H => ?_) (fun _ H => ?_)
      · exact r_sub [] rfl (t_X12_shift_51 K hl H D)
      · refine r_aload_n K 0 dX12_shift_33 rfl rfl ?_
        refine w_getO K vc12 inX12 11 (by decide) mF_RX12_20 dX12_shift_34 H (fun x5 H => ?_)
        refine r_aload_n K 0 dX12_shift_37 rfl rfl ?_
        refine w_getI K vc12 inX12 10 (by decide) mF_RX12_145 dX12_shift_38 H (fun x6 H => ?_)
        refine r_iconst (v := 1) K dX12_shift_41 (by decide) ?_
        refine r_isub K dX12_shift_42 ?_
        refine w_iald K dX12_shift_43 H (fun x7 H => ?_)
        refine r_iload_n K 1 dX12_shift_44 rfl rfl ?_
        refine r_iadd K dX12_shift_45 ?_
        refine r_bipush (v := 6) K dX12_shift_46 (by decide) ?_
        refine w_icmp_le K 54 dX12_shift_48 (by decide) H (fun _ H => ?_) (fun _ H => ?_)
        · refine r_iconst (v := 0) K dX12_shift_54 (by decide) ?_
          refine r_istore_n K [(2, .int _), (0, .ref _), (1, .int _)] dX12_shift_55 rfl (by decide) rfl ?_
          exact r_sub [1, 2, 0] rfl (l_X12_shift_56 K hl H D)
        · exact r_sub [] rfl (t_X12_shift_51 K hl H D)
    · exact r_sub [] rfl (t_X12_shift_18 K hl H D)
theorem c_X12_shift (l : Launch) {n : Nat} {Y : jY} {v0 : Nat} {v1 : Int32} {μ : jM} {z : Int32 × jM} (H : f_X12_shift Y v0 v1 μ = some z) : jC l yX12_shift cX12_shift 3 (some .int) 2 0 0 [.ref v0, .int v1] n Y μ n Y (some (.int z.1)) z.2 := by
  refine jC_of (by decide +kernel) (Nat.le_of_ble_eq_true rfl) (fun X hl K _ _ _ => ?_)
  obtain ⟨rr, μr⟩ := z
  exact t_X12_shift_0 K hl H rfl
/-! RX12 isNothing(IIJ)Z -/
def b_X12_isNothing_153 (Y : jY) (t0 : Int32) (μ : jM) : Option (Int32 × jM) :=
  (jbool t0).bind fun x1 =>
  some (x1, μ)
def b_X12_isNothing_152 (Y : jY) (μ : jM) : Option (Int32 × jM) :=
  b_X12_isNothing_153 Y (0 : Int32) μ
def b_X12_isNothing_78 (Y : jY) (t0 : Int32) (μ : jM) : Option (Int32 × jM) :=
  (jbool t0).bind fun x1 =>
  some (x1, μ)
def b_X12_isNothing_42 (Y : jY) (t0 : Int32) (μ : jM) : Option (Int32 × jM) :=
  (jbool t0).bind fun x1 =>
  some (x1, μ)
def b_X12_isNothing_20 (Y : jY) (t0 : Int32) (μ : jM) : Option (Int32 × jM) :=
  (jbool t0).bind fun x1 =>
  some (x1, μ)
def f_X12_isNothing (Y : jY) (v0 : Nat) (v1 : Int32) (v2 : Int32) (v3 : Int64) (μ : jM) : Option (Int32 × jM) :=
  if v2 = 0 then
    (jrcv Y v0 12 (f_X12_valueOf Y v0 v1 v3 μ)).bind fun r15 =>
    if ((lg_cmp r15.1 ((0 : Int64)))) = 0 then
      b_X12_isNothing_20 Y (1 : Int32) r15.2
    else
      b_X12_isNothing_20 Y (0 : Int32) r15.2
  else
    if v2 = ((1 : Int32)) then
      (jrcv Y v0 12 (f_X12_laterOf Y v0 v1 v3 μ)).bind fun r14 =>
      if ((lg_cmp r14.1 ((0 : Int64)))) = 0 then
        b_X12_isNothing_42 Y (1 : Int32) r14.2
      else
        b_X12_isNothing_42 Y (0 : Int32) r14.2
    else
      (jrcv Y v0 12 (f_X12_laysA Y v0 ((v1 - ((1 : Int32)))) μ)).bind fun μ1 =>
      (jrcv Y v0 12 (f_X12_adds Y v0 ((-v3)) ((1 : Int64)) μ1)).bind fun μ2 =>
      if v2 = ((v1 - ((1 : Int32)))) then
        (jgL Y μ2 v0 12 16).bind fun x13 =>
        if ((lg_cmp x13 ((0 : Int64)))) = 0 then
          b_X12_isNothing_78 Y (1 : Int32) μ2
        else
          b_X12_isNothing_78 Y (0 : Int32) μ2
      else
        (jgL Y μ2 v0 12 16).bind fun x3 =>
        (jgL Y μ2 v0 12 17).bind fun x4 =>
        (jrcv Y v0 12 (f_X12_laysA Y v0 ((2 : Int32)) μ2)).bind fun μ5 =>
        (jrcv Y v0 12 (f_X12_adds Y v0 ((-v3)) ((1 : Int64)) μ5)).bind fun μ6 =>
        (jrcv Y v0 12 (f_X12_multiplies Y v0 x3 x4 μ6)).bind fun μ7 =>
        (jgL Y μ7 v0 12 16).bind fun x8 =>
        (jgL Y μ7 v0 12 17).bind fun x9 =>
        (jrcv Y v0 12 (f_X12_laysC Y v0 ((2 : Int32)) μ7)).bind fun μ10 =>
        (jgL Y μ10 v0 12 16).bind fun x11 =>
        if ((lg_cmp x11 x8)) = 0 then
          (jgL Y μ10 v0 12 17).bind fun x12 =>
          if ((lg_cmp x12 x9)) = 0 then
            b_X12_isNothing_153 Y (1 : Int32) μ10
          else
            b_X12_isNothing_152 Y μ10
        else
          b_X12_isNothing_152 Y μ10
set_option maxRecDepth 10000 in
theorem t_X12_isNothing_153 {X : jX} {l : Launch} {n : Nat} {Y : jY} (K : jOK X RX12 cX12_isNothing 9 (some .boolean) 8) (hl : X.2.1 = l) {rr : Int32} {μr : jM} {t0 : Int32} {μ : jM} {z : (Int32 × jM)} (H : b_X12_isNothing_153 Y t0 μ = some z) (D : z = (rr, μr)) : JW X (jEnd X n Y (some (.int rr)) μr 0 0) 0 0 n Y 153 [] [.int t0] μ := by
  unfold b_X12_isNothing_153 at H
  refine w_zret K dX12_isNothing_153 H (fun hz H => ?_)
  cases H
  obtain ⟨rfl, rfl⟩ := jfin2 D
  exact r_zret K hz dX12_isNothing_153
set_option maxRecDepth 10000 in
theorem t_X12_isNothing_152 {X : jX} {l : Launch} {n : Nat} {Y : jY} (K : jOK X RX12 cX12_isNothing 9 (some .boolean) 8) (hl : X.2.1 = l) {rr : Int32} {μr : jM} {μ : jM} {z : (Int32 × jM)} (H : b_X12_isNothing_152 Y μ = some z) (D : z = (rr, μr)) : JW X (jEnd X n Y (some (.int rr)) μr 0 0) 0 0 n Y 152 [] [] μ := by
  unfold b_X12_isNothing_152 at H
  refine r_iconst (v := 0) K dX12_isNothing_152 (by decide) ?_
  exact r_sub [] rfl (t_X12_isNothing_153 K hl H D)
set_option maxRecDepth 10000 in
theorem t_X12_isNothing_78 {X : jX} {l : Launch} {n : Nat} {Y : jY} (K : jOK X RX12 cX12_isNothing 9 (some .boolean) 8) (hl : X.2.1 = l) {rr : Int32} {μr : jM} {t0 : Int32} {μ : jM} {z : (Int32 × jM)} (H : b_X12_isNothing_78 Y t0 μ = some z) (D : z = (rr, μr)) : JW X (jEnd X n Y (some (.int rr)) μr 0 0) 0 0 n Y 78 [] [.int t0] μ := by
  unfold b_X12_isNothing_78 at H
  refine w_zret K dX12_isNothing_78 H (fun hz H => ?_)
  cases H
  obtain ⟨rfl, rfl⟩ := jfin2 D
  exact r_zret K hz dX12_isNothing_78
set_option maxRecDepth 10000 in
theorem t_X12_isNothing_42 {X : jX} {l : Launch} {n : Nat} {Y : jY} (K : jOK X RX12 cX12_isNothing 9 (some .boolean) 8) (hl : X.2.1 = l) {rr : Int32} {μr : jM} {t0 : Int32} {μ : jM} {z : (Int32 × jM)} (H : b_X12_isNothing_42 Y t0 μ = some z) (D : z = (rr, μr)) : JW X (jEnd X n Y (some (.int rr)) μr 0 0) 0 0 n Y 42 [] [.int t0] μ := by
  unfold b_X12_isNothing_42 at H
  refine w_zret K dX12_isNothing_42 H (fun hz H => ?_)
  cases H
  obtain ⟨rfl, rfl⟩ := jfin2 D
  exact r_zret K hz dX12_isNothing_42
set_option maxRecDepth 10000 in
theorem t_X12_isNothing_20 {X : jX} {l : Launch} {n : Nat} {Y : jY} (K : jOK X RX12 cX12_isNothing 9 (some .boolean) 8) (hl : X.2.1 = l) {rr : Int32} {μr : jM} {t0 : Int32} {μ : jM} {z : (Int32 × jM)} (H : b_X12_isNothing_20 Y t0 μ = some z) (D : z = (rr, μr)) : JW X (jEnd X n Y (some (.int rr)) μr 0 0) 0 0 n Y 20 [] [.int t0] μ := by
  unfold b_X12_isNothing_20 at H
  refine w_zret K dX12_isNothing_20 H (fun hz H => ?_)
  cases H
  obtain ⟨rfl, rfl⟩ := jfin2 D
  exact r_zret K hz dX12_isNothing_20
set_option maxRecDepth 10000 in
theorem t_X12_isNothing_0 {X : jX} {l : Launch} {n : Nat} {Y : jY} (K : jOK X RX12 cX12_isNothing 9 (some .boolean) 8) (hl : X.2.1 = l) {rr : Int32} {μr : jM} {v0 : Nat} {v1 : Int32} {v2 : Int32} {v3 : Int64} {μ : jM} {z : (Int32 × jM)} (H : f_X12_isNothing Y v0 v1 v2 v3 μ = some z) (D : z = (rr, μr)) : JW X (jEnd X n Y (some (.int rr)) μr 0 0) 0 0 n Y 0 [(0, .ref v0), (1, .int v1), (2, .int v2), (3, .long v3)] [] μ := by
  unfold f_X12_isNothing at H
  refine r_iload_n K 2 dX12_isNothing_0 rfl rfl ?_
  refine w_if_ne K 21 dX12_isNothing_1 (by decide) H (fun _ H => ?_) (fun _ H => ?_)
  · refine r_iload_n K 2 dX12_isNothing_21 rfl rfl ?_
    refine r_iconst (v := 1) K dX12_isNothing_22 (by decide) ?_
    refine w_icmp_ne K 43 dX12_isNothing_23 (by decide) H (fun _ H => ?_) (fun _ H => ?_)
    · refine r_aload_n K 0 dX12_isNothing_43 rfl rfl ?_
      refine r_iload_n K 1 dX12_isNothing_44 rfl rfl ?_
      refine r_iconst (v := 1) K dX12_isNothing_45 (by decide) ?_
      refine r_isub K dX12_isNothing_46 ?_
      refine w_callV K hl H (fun r h => c_X12_laysA l h) mC_yX12_laysA mM_RX12_211 mI_yX12_laysA mS_yX12_laysA mZ_RX12 vc12 (Nat.le_of_ble_eq_true rfl) (Nat.le_of_ble_eq_true rfl) np_yX12_laysA rfl (Nat.le_of_ble_eq_true rfl) dX12_isNothing_47 (fun μ1 H => ?_) ⟨Nat.zero_le _, Nat.zero_le _⟩
      refine r_aload_n K 0 dX12_isNothing_50 rfl rfl ?_
      refine r_lload_n K 3 dX12_isNothing_51 rfl rfl ?_
      refine r_lneg K dX12_isNothing_52 ?_
      refine r_lconst (v := 1) K dX12_isNothing_53 (by decide) ?_
      refine w_callV K hl H (fun r h => c_X12_adds l h) mC_yX12_adds mM_RX12_205 mI_yX12_adds mS_yX12_adds mZ_RX12 vc12 (Nat.le_of_ble_eq_true rfl) (Nat.le_of_ble_eq_true rfl) np_yX12_adds rfl (Nat.le_of_ble_eq_true rfl) dX12_isNothing_54 (fun μ2 H => ?_) ⟨Nat.zero_le _, Nat.zero_le _⟩
      refine r_iload_n K 2 dX12_isNothing_57 rfl rfl ?_
      refine r_iload_n K 1 dX12_isNothing_58 rfl rfl ?_
      refine r_iconst (v := 1) K dX12_isNothing_59 (by decide) ?_
      refine r_isub K dX12_isNothing_60 ?_
      refine w_icmp_ne K 79 dX12_isNothing_61 (by decide) H (fun _ H => ?_) (fun _ H => ?_)
      · refine r_aload_n K 0 dX12_isNothing_79 rfl rfl ?_
        refine w_getL K vc12 inX12 16 (by decide) mF_RX12_177 dX12_isNothing_80 H (fun x3 H => ?_)
        refine r_lstore K [(5, .long _), (0, .ref _), (1, .int _), (2, .int _), (3, .long _)] dX12_isNothing_83 (by decide) rfl ?_
        refine r_aload_n K 1 dX12_isNothing_85 rfl rfl ?_
        refine w_getL K vc12 inX12 17 (by decide) mF_RX12_181 dX12_isNothing_86 H (fun x4 H => ?_)
        refine r_lstore K [(7, .long _), (5, .long _), (0, .ref _), (1, .int _), (2, .int _), (3, .long _)] dX12_isNothing_89 (by decide) rfl ?_
        refine r_aload_n K 2 dX12_isNothing_91 rfl rfl ?_
        refine r_iconst (v := 2) K dX12_isNothing_92 (by decide) ?_
        refine w_callV K hl H (fun r h => c_X12_laysA l h) mC_yX12_laysA mM_RX12_211 mI_yX12_laysA mS_yX12_laysA mZ_RX12 vc12 (Nat.le_of_ble_eq_true rfl) (Nat.le_of_ble_eq_true rfl) np_yX12_laysA rfl (Nat.le_of_ble_eq_true rfl) dX12_isNothing_93 (fun μ5 H => ?_) ⟨Nat.zero_le _, Nat.zero_le _⟩
        refine r_aload_n K 2 dX12_isNothing_96 rfl rfl ?_
        refine r_lload_n K 5 dX12_isNothing_97 rfl rfl ?_
        refine r_lneg K dX12_isNothing_98 ?_
        refine r_lconst (v := 1) K dX12_isNothing_99 (by decide) ?_
        refine w_callV K hl H (fun r h => c_X12_adds l h) mC_yX12_adds mM_RX12_205 mI_yX12_adds mS_yX12_adds mZ_RX12 vc12 (Nat.le_of_ble_eq_true rfl) (Nat.le_of_ble_eq_true rfl) np_yX12_adds rfl (Nat.le_of_ble_eq_true rfl) dX12_isNothing_100 (fun μ6 H => ?_) ⟨Nat.zero_le _, Nat.zero_le _⟩
        refine r_aload_n K 2 dX12_isNothing_103 rfl rfl ?_
        refine r_lload K 1 dX12_isNothing_104 rfl ?_
        refine r_lload K 0 dX12_isNothing_106 rfl ?_
        refine w_callV K hl H (fun r h => c_X12_multiplies l h) mC_yX12_multiplies mM_RX12_208 mI_yX12_multiplies mS_yX12_multiplies mZ_RX12 vc12 (Nat.le_of_ble_eq_true rfl) (Nat.le_of_ble_eq_true rfl) np_yX12_multiplies rfl (Nat.le_of_ble_eq_true rfl) dX12_isNothing_108 (fun μ7 H => ?_) ⟨Nat.zero_le _, Nat.zero_le _⟩
        refine r_aload_n K 2 dX12_isNothing_111 rfl rfl ?_
        refine w_getL K vc12 inX12 16 (by decide) mF_RX12_177 dX12_isNothing_112 H (fun x8 H => ?_)
        refine r_lstore K [(5, .long _), (7, .long _), (0, .ref _), (1, .int _), (2, .int _), (3, .long _)] dX12_isNothing_115 (by decide) rfl ?_
        refine r_aload_n K 2 dX12_isNothing_117 rfl rfl ?_
        refine w_getL K vc12 inX12 17 (by decide) mF_RX12_181 dX12_isNothing_118 H (fun x9 H => ?_)
        refine r_lstore K [(7, .long _), (5, .long _), (0, .ref _), (1, .int _), (2, .int _), (3, .long _)] dX12_isNothing_121 (by decide) rfl ?_
        refine r_aload_n K 2 dX12_isNothing_123 rfl rfl ?_
        refine r_iconst (v := 2) K dX12_isNothing_124 (by decide) ?_
        refine w_callV K hl H (fun r h => c_X12_laysC l h) mC_yX12_laysC mM_RX12_214 mI_yX12_laysC mS_yX12_laysC mZ_RX12 vc12 (Nat.le_of_ble_eq_true rfl) (Nat.le_of_ble_eq_true rfl) np_yX12_laysC rfl (Nat.le_of_ble_eq_true rfl) dX12_isNothing_125 (fun μ10 H => ?_) ⟨Nat.zero_le _, Nat.zero_le _⟩
        refine r_aload_n K 2 dX12_isNothing_128 rfl rfl ?_
        refine w_getL K vc12 inX12 16 (by decide) mF_RX12_177 dX12_isNothing_129 H (fun x11 H => ?_)
        refine r_lload K 1 dX12_isNothing_132 rfl ?_
        refine r_lcmp K dX12_isNothing_134 ?_
        refine w_if_ne K 152 dX12_isNothing_135 (by decide) H (fun _ H => ?_) (fun _ H => ?_)
        · exact r_sub [] rfl (t_X12_isNothing_152 K hl H D)
        · refine r_aload_n K 2 dX12_isNothing_138 rfl rfl ?_
          refine w_getL K vc12 inX12 17 (by decide) mF_RX12_181 dX12_isNothing_139 H (fun x12 H => ?_)
          refine r_lload K 0 dX12_isNothing_142 rfl ?_
          refine r_lcmp K dX12_isNothing_144 ?_
          refine w_if_ne K 152 dX12_isNothing_145 (by decide) H (fun _ H => ?_) (fun _ H => ?_)
          · exact r_sub [] rfl (t_X12_isNothing_152 K hl H D)
          · refine r_iconst (v := 1) K dX12_isNothing_148 (by decide) ?_
            refine r_goto K 153 dX12_isNothing_149 (by decide) ?_
            exact r_sub [] rfl (t_X12_isNothing_153 K hl H D)
      · refine r_aload_n K 0 dX12_isNothing_64 rfl rfl ?_
        refine w_getL K vc12 inX12 16 (by decide) mF_RX12_177 dX12_isNothing_65 H (fun x13 H => ?_)
        refine r_lconst (v := 0) K dX12_isNothing_68 (by decide) ?_
        refine r_lcmp K dX12_isNothing_69 ?_
        refine w_if_ne K 77 dX12_isNothing_70 (by decide) H (fun _ H => ?_) (fun _ H => ?_)
        · refine r_iconst (v := 0) K dX12_isNothing_77 (by decide) ?_
          exact r_sub [] rfl (t_X12_isNothing_78 K hl H D)
        · refine r_iconst (v := 1) K dX12_isNothing_73 (by decide) ?_
          refine r_goto K 78 dX12_isNothing_74 (by decide) ?_
          exact r_sub [] rfl (t_X12_isNothing_78 K hl H D)
    · refine r_aload_n K 0 dX12_isNothing_26 rfl rfl ?_
      refine r_iload_n K 1 dX12_isNothing_27 rfl rfl ?_
      refine r_lload_n K 3 dX12_isNothing_28 rfl rfl ?_
      refine w_callV K hl H (fun r h => c_X12_laterOf l h) mC_yX12_laterOf mM_RX12_225 mI_yX12_laterOf mS_yX12_laterOf mZ_RX12 vc12 (Nat.le_of_ble_eq_true rfl) (Nat.le_of_ble_eq_true rfl) np_yX12_laterOf rfl (Nat.le_of_ble_eq_true rfl) dX12_isNothing_29 (fun r14 H => ?_) ⟨Nat.zero_le _, Nat.zero_le _⟩
      refine r_lconst (v := 0) K dX12_isNothing_32 (by decide) ?_
      refine r_lcmp K dX12_isNothing_33 ?_
      refine w_if_ne K 41 dX12_isNothing_34 (by decide) H (fun _ H => ?_) (fun _ H => ?_)
      · refine r_iconst (v := 0) K dX12_isNothing_41 (by decide) ?_
        exact r_sub [] rfl (t_X12_isNothing_42 K hl H D)
      · refine r_iconst (v := 1) K dX12_isNothing_37 (by decide) ?_
        refine r_goto K 42 dX12_isNothing_38 (by decide) ?_
        exact r_sub [] rfl (t_X12_isNothing_42 K hl H D)
  · refine r_aload_n K 0 dX12_isNothing_4 rfl rfl ?_
    refine r_iload_n K 1 dX12_isNothing_5 rfl rfl ?_
    refine r_lload_n K 3 dX12_isNothing_6 rfl rfl ?_
    refine w_callV K hl H (fun r h => c_X12_valueOf l h) mC_yX12_valueOf mM_RX12_221 mI_yX12_valueOf mS_yX12_valueOf mZ_RX12 vc12 (Nat.le_of_ble_eq_true rfl) (Nat.le_of_ble_eq_true rfl) np_yX12_valueOf rfl (Nat.le_of_ble_eq_true rfl) dX12_isNothing_7 (fun r15 H => ?_) ⟨Nat.zero_le _, Nat.zero_le _⟩
    refine r_lconst (v := 0) K dX12_isNothing_10 (by decide) ?_
    refine r_lcmp K dX12_isNothing_11 ?_
    refine w_if_ne K 19 dX12_isNothing_12 (by decide) H (fun _ H => ?_) (fun _ H => ?_)
    · refine r_iconst (v := 0) K dX12_isNothing_19 (by decide) ?_
      exact r_sub [] rfl (t_X12_isNothing_20 K hl H D)
    · refine r_iconst (v := 1) K dX12_isNothing_15 (by decide) ?_
      refine r_goto K 20 dX12_isNothing_16 (by decide) ?_
      exact r_sub [] rfl (t_X12_isNothing_20 K hl H D)
theorem c_X12_isNothing (l : Launch) {n : Nat} {Y : jY} {v0 : Nat} {v1 : Int32} {v2 : Int32} {v3 : Int64} {μ : jM} {z : Int32 × jM} (H : f_X12_isNothing Y v0 v1 v2 v3 μ = some z) : jC l yX12_isNothing cX12_isNothing 9 (some .boolean) 8 0 0 [.ref v0, .int v1, .int v2, .long v3] n Y μ n Y (some (.int z.1)) z.2 := by
  refine jC_of (by decide +kernel) (Nat.le_of_ble_eq_true rfl) (fun X hl K _ _ _ => ?_)
  obtain ⟨rr, μr⟩ := z
  exact t_X12_isNothing_0 K hl H rfl
/-! RX12 mass(I)J -/
def b_X12_mass_16 (Y : jY) (μ : jM) : Option (Int64 × jM) :=
  some ((-9223372036854775808 : Int64), μ)
def b_X12_mass_39 (Y : jY) (v0 : Nat) (v1 : Int32) (v2 : Int32) (μ : jM) : Option ((Int32 × jM) ⊕ (Int64 × jM)) :=
  (jgI Y μ v0 12 10).bind fun x1 =>
  if x1 ≤ v2 then
    (jrcv Y v0 12 (f_X12_told Y v0 v1 μ)).bind fun r2 =>
    some (.inr (r2.1, r2.2))
  else
    (jgO Y μ v0 12 18).bind fun x3 =>
    (jaL Y μ x3 21 v2).bind fun x4 =>
    (jgO Y μ v0 12 19).bind fun x5 =>
    (jaL Y μ x5 21 v2).bind fun x6 =>
    (jrcv Y v0 12 (f_X12_adds Y v0 x4 x6 μ)).bind fun μ7 =>
    some (.inl ((v2 + (1 : Int32)), μ7))
def f_X12_mass (Y : jY) (v0 : Nat) (v1 : Int32) (μ : jM) : Option (Int64 × jM) :=
  (jgI Y μ v0 12 10).bind fun x1 =>
  if x1 = 0 then
    b_X12_mass_16 Y μ
  else
    (f_X12_in Y v1 ((0 : Int32)) ((1 : Int32)) μ).bind fun r2 =>
    if r2.1 = 0 then
      b_X12_mass_16 Y r2.2
    else
      (jrcv Y v0 12 (f_X12_laysChain Y v0 r2.2)).bind fun r3 =>
      if r3.1 = 0 then
        some ((-2 : Int64), r3.2)
      else
        (jrcv Y v0 12 (f_X12_sets Y v0 ((0 : Int64)) ((1 : Int64)) r3.2)).bind fun μ4 =>
        jit jF (fun (s : Int32 × jM) => b_X12_mass_39 Y v0 v1 s.1 s.2) ((0 : Int32), μ4)
set_option maxRecDepth 10000 in
theorem t_X12_mass_16 {X : jX} {l : Launch} {n : Nat} {Y : jY} (K : jOK X RX12 cX12_mass 3 (some .long) 9) (hl : X.2.1 = l) {rr : Int64} {μr : jM} {μ : jM} {z : (Int64 × jM)} (H : b_X12_mass_16 Y μ = some z) (D : z = (rr, μr)) : JW X (jEnd X n Y (some (.long rr)) μr 0 0) 0 0 n Y 16 [] [] μ := by
  unfold b_X12_mass_16 at H
  refine r_ldc2 K (-9223372036854775808) mc_RX12_156 dX12_mass_16 ?_
  cases H
  obtain ⟨rfl, rfl⟩ := jfin2 D
  exact r_lret K dX12_mass_19
set_option maxRecDepth 10000 in
theorem t_X12_mass_39 {X : jX} {l : Launch} {n : Nat} {Y : jY} (K : jOK X RX12 cX12_mass 3 (some .long) 9) (hl : X.2.1 = l) {rr : Int64} {μr : jM} {v0 : Nat} {v1 : Int32} {v2 : Int32} {μ : jM} {z : ((Int32 × jM) ⊕ (Int64 × jM))} (H : b_X12_mass_39 Y v0 v1 v2 μ = some z) (D : Sum.elim (fun (s : Int32 × jM) => JW X (jEnd X n Y (some (.long rr)) μr 0 0) 0 0 n Y 39 [(0, .ref v0), (1, .int v1), (2, .int s.1)] [] s.2) (fun r => r = (rr, μr)) z) : JW X (jEnd X n Y (some (.long rr)) μr 0 0) 0 0 n Y 39 [(0, .ref v0), (1, .int v1), (2, .int v2)] [] μ := by
  unfold b_X12_mass_39 at H
  refine r_iload_n K 2 dX12_mass_39 rfl rfl ?_
  refine r_aload_n K 0 dX12_mass_40 rfl rfl ?_
  refine w_getI K vc12 inX12 10 (by decide) mF_RX12_145 dX12_mass_41 H (fun x1 H => ?_)
  refine w_icmp_ge K 69 dX12_mass_44 (by decide) H (fun _ H => ?_) (fun _ H => ?_)
  · refine r_aload_n K 0 dX12_mass_69 rfl rfl ?_
    refine r_iload_n K 1 dX12_mass_70 rfl rfl ?_
    refine w_callV K hl H (fun r h => c_X12_told l h) mC_yX12_told mM_RX12_195 mI_yX12_told mS_yX12_told mZ_RX12 vc12 (Nat.le_of_ble_eq_true rfl) (Nat.le_of_ble_eq_true rfl) np_yX12_told rfl (Nat.le_of_ble_eq_true rfl) dX12_mass_71 (fun r2 H => ?_) ⟨Nat.zero_le _, Nat.zero_le _⟩
    cases H
    simp only [Sum.elim_inr] at D
    obtain ⟨rfl, rfl⟩ := jfin2 D
    exact r_lret K dX12_mass_74
  · refine r_aload_n K 0 dX12_mass_47 rfl rfl ?_
    refine r_aload_n K 0 dX12_mass_48 rfl rfl ?_
    refine w_getO K vc12 inX12 18 (by decide) mF_RX12_36 dX12_mass_49 H (fun x3 H => ?_)
    refine r_iload_n K 2 dX12_mass_52 rfl rfl ?_
    refine w_lald K dX12_mass_53 H (fun x4 H => ?_)
    refine r_aload_n K 0 dX12_mass_54 rfl rfl ?_
    refine w_getO K vc12 inX12 19 (by decide) mF_RX12_39 dX12_mass_55 H (fun x5 H => ?_)
    refine r_iload_n K 2 dX12_mass_58 rfl rfl ?_
    refine w_lald K dX12_mass_59 H (fun x6 H => ?_)
    refine w_callV K hl H (fun r h => c_X12_adds l h) mC_yX12_adds mM_RX12_205 mI_yX12_adds mS_yX12_adds mZ_RX12 vc12 (Nat.le_of_ble_eq_true rfl) (Nat.le_of_ble_eq_true rfl) np_yX12_adds rfl (Nat.le_of_ble_eq_true rfl) dX12_mass_60 (fun μ7 H => ?_) ⟨Nat.zero_le _, Nat.zero_le _⟩
    refine r_iinc K 2 [(2, .int _), (0, .ref _), (1, .int _)] (v := _ + (1 : Int32)) dX12_mass_63 rfl rfl (by decide) rfl ?_
    refine r_goto K 39 dX12_mass_66 (by decide) ?_
    cases H
    exact r_sub [1, 2, 0] rfl D
set_option maxRecDepth 10000 in
theorem l_X12_mass_39 {X : jX} {l : Launch} {n : Nat} {Y : jY} (K : jOK X RX12 cX12_mass 3 (some .long) 9) (hl : X.2.1 = l) {rr : Int64} {μr : jM} {v0 : Nat} {v1 : Int32}  {s0 : Int32 × jM} {z : (Int64 × jM)} (H : jit jF (fun (s : Int32 × jM) => b_X12_mass_39 Y v0 v1 s.1 s.2) s0 = some z) (D : z = (rr, μr)) : JW X (jEnd X n Y (some (.long rr)) μr 0 0) 0 0 n Y 39 [(0, .ref v0), (1, .int v1), (2, .int s0.1)] [] s0.2 :=
  jit_ind (P := fun (s : Int32 × jM) => JW X (jEnd X n Y (some (.long rr)) μr 0 0) 0 0 n Y 39 [(0, .ref v0), (1, .int v1), (2, .int s.1)] [] s.2) (D := fun r => r = (rr, μr)) (fun s z Hs Ds => t_X12_mass_39 K hl Hs Ds) jF s0 z H D
set_option maxRecDepth 10000 in
theorem t_X12_mass_0 {X : jX} {l : Launch} {n : Nat} {Y : jY} (K : jOK X RX12 cX12_mass 3 (some .long) 9) (hl : X.2.1 = l) {rr : Int64} {μr : jM} {v0 : Nat} {v1 : Int32} {μ : jM} {z : (Int64 × jM)} (H : f_X12_mass Y v0 v1 μ = some z) (D : z = (rr, μr)) : JW X (jEnd X n Y (some (.long rr)) μr 0 0) 0 0 n Y 0 [(0, .ref v0), (1, .int v1)] [] μ := by
  unfold f_X12_mass at H
  refine r_aload_n K 0 dX12_mass_0 rfl rfl ?_
  refine w_getI K vc12 inX12 10 (by decide) mF_RX12_145 dX12_mass_1 H (fun x1 H => ?_)
  refine w_if_eq K 16 dX12_mass_4 (by decide) H (fun _ H => ?_) (fun _ H => ?_)
  · exact r_sub [] rfl (t_X12_mass_16 K hl H D)
  · refine r_iload_n K 1 dX12_mass_7 rfl rfl ?_
    refine r_iconst (v := 0) K dX12_mass_8 (by decide) ?_
    refine r_iconst (v := 1) K dX12_mass_9 (by decide) ?_
    refine w_callS K hl H (fun r h => c_X12_in l h) mC_yX12_in mM_RX12_134 mT_yX12_in mZ_RX12 (Nat.le_of_ble_eq_true rfl) (Nat.le_of_ble_eq_true rfl) np_yX12_in rfl (Nat.le_of_ble_eq_true rfl) dX12_mass_10 (fun r2 H => ?_) ⟨Nat.zero_le _, Nat.zero_le _⟩
    refine w_if_ne K 20 dX12_mass_13 (by decide) H (fun _ H => ?_) (fun _ H => ?_)
    · refine r_aload_n K 0 dX12_mass_20 rfl rfl ?_
      refine w_callV K hl H (fun r h => c_X12_laysChain l h) mC_yX12_laysChain mM_RX12_234 mI_yX12_laysChain mS_yX12_laysChain mZ_RX12 vc12 (Nat.le_of_ble_eq_true rfl) (Nat.le_of_ble_eq_true rfl) np_yX12_laysChain rfl (Nat.le_of_ble_eq_true rfl) dX12_mass_21 (fun r3 H => ?_) ⟨Nat.zero_le _, Nat.zero_le _⟩
      refine w_if_ne K 31 dX12_mass_24 (by decide) H (fun _ H => ?_) (fun _ H => ?_)
      · refine r_aload_n K 0 dX12_mass_31 rfl rfl ?_
        refine r_lconst (v := 0) K dX12_mass_32 (by decide) ?_
        refine r_lconst (v := 1) K dX12_mass_33 (by decide) ?_
        refine w_callV K hl H (fun r h => c_X12_sets l h) mC_yX12_sets mM_RX12_191 mI_yX12_sets mS_yX12_sets mZ_RX12 vc12 (Nat.le_of_ble_eq_true rfl) (Nat.le_of_ble_eq_true rfl) np_yX12_sets rfl (Nat.le_of_ble_eq_true rfl) dX12_mass_34 (fun μ4 H => ?_) ⟨Nat.zero_le _, Nat.zero_le _⟩
        refine r_iconst (v := 0) K dX12_mass_37 (by decide) ?_
        refine r_istore_n K [(2, .int _), (0, .ref _), (1, .int _)] dX12_mass_38 rfl (by decide) rfl ?_
        exact r_sub [1, 2, 0] rfl (l_X12_mass_39 K hl H D)
      · refine r_ldc2 K (-2) mc_RX12_232 dX12_mass_27 ?_
        cases H
        obtain ⟨rfl, rfl⟩ := jfin2 D
        exact r_lret K dX12_mass_30
    · exact r_sub [] rfl (t_X12_mass_16 K hl H D)
theorem c_X12_mass (l : Launch) {n : Nat} {Y : jY} {v0 : Nat} {v1 : Int32} {μ : jM} {z : Int64 × jM} (H : f_X12_mass Y v0 v1 μ = some z) : jC l yX12_mass cX12_mass 3 (some .long) 9 0 0 [.ref v0, .int v1] n Y μ n Y (some (.long z.1)) z.2 := by
  refine jC_of (by decide +kernel) (Nat.le_of_ble_eq_true rfl) (fun X hl K _ _ _ => ?_)
  obtain ⟨rr, μr⟩ := z
  exact t_X12_mass_0 K hl H rfl
/-! RX12 ortho(III)J -/
def b_X12_ortho_37 (Y : jY) (μ : jM) : Option (Int64 × jM) :=
  some ((-9223372036854775808 : Int64), μ)
def b_X12_ortho_82 (Y : jY) (v0 : Nat) (v3 : Int32) (μ : jM) : Option (Int64 × jM) :=
  (jrcv Y v0 12 (f_X12_told Y v0 v3 μ)).bind fun r1 =>
  some (r1.1, r1.2)
def f_X12_ortho (Y : jY) (v0 : Nat) (v1 : Int32) (v2 : Int32) (v3 : Int32) (μ : jM) : Option (Int64 × jM) :=
  (jgI Y μ v0 12 10).bind fun x1 =>
  if x1 = 0 then
    b_X12_ortho_37 Y μ
  else
    (jgI Y μ v0 12 10).bind fun x2 =>
    (f_X12_in Y v1 ((0 : Int32)) x2 μ).bind fun r3 =>
    if r3.1 = 0 then
      b_X12_ortho_37 Y r3.2
    else
      (f_X12_in Y v2 ((0 : Int32)) v1 r3.2).bind fun r4 =>
      if r4.1 = 0 then
        b_X12_ortho_37 Y r4.2
      else
        (f_X12_in Y v3 ((0 : Int32)) ((1 : Int32)) r4.2).bind fun r5 =>
        if r5.1 = 0 then
          b_X12_ortho_37 Y r5.2
        else
          (jrcv Y v0 12 (f_X12_laysTones Y v0 r5.2)).bind fun μ6 =>
          (jgI Y μ6 v0 12 10).bind fun x7 =>
          if v1 = x7 then
            (jgO Y μ6 v0 12 13).bind fun x11 =>
            (jaL Y μ6 x11 21 v2).bind fun x12 =>
            (jrcv Y v0 12 (f_X12_sets Y v0 x12 ((1 : Int64)) μ6)).bind fun μ13 =>
            b_X12_ortho_82 Y v0 v3 μ13
          else
            (jrcv Y v0 12 (f_X12_power Y v0 v1 v2 μ6)).bind fun r8 =>
            (jrcv Y v0 12 (f_X12_hankel Y v0 v1 r8.2)).bind fun r9 =>
            (jrcv Y v0 12 (f_X12_sets Y v0 r8.1 r9.1 r9.2)).bind fun μ10 =>
            b_X12_ortho_82 Y v0 v3 μ10
set_option maxRecDepth 10000 in
theorem t_X12_ortho_37 {X : jX} {l : Launch} {n : Nat} {Y : jY} (K : jOK X RX12 cX12_ortho 4 (some .long) 6) (hl : X.2.1 = l) {rr : Int64} {μr : jM} {μ : jM} {z : (Int64 × jM)} (H : b_X12_ortho_37 Y μ = some z) (D : z = (rr, μr)) : JW X (jEnd X n Y (some (.long rr)) μr 0 0) 0 0 n Y 37 [] [] μ := by
  unfold b_X12_ortho_37 at H
  refine r_ldc2 K (-9223372036854775808) mc_RX12_156 dX12_ortho_37 ?_
  cases H
  obtain ⟨rfl, rfl⟩ := jfin2 D
  exact r_lret K dX12_ortho_40
set_option maxRecDepth 10000 in
theorem t_X12_ortho_82 {X : jX} {l : Launch} {n : Nat} {Y : jY} (K : jOK X RX12 cX12_ortho 4 (some .long) 6) (hl : X.2.1 = l) {rr : Int64} {μr : jM} {v0 : Nat} {v3 : Int32} {μ : jM} {z : (Int64 × jM)} (H : b_X12_ortho_82 Y v0 v3 μ = some z) (D : z = (rr, μr)) : JW X (jEnd X n Y (some (.long rr)) μr 0 0) 0 0 n Y 82 [(0, .ref v0), (3, .int v3)] [] μ := by
  unfold b_X12_ortho_82 at H
  refine r_aload_n K 0 dX12_ortho_82 rfl rfl ?_
  refine r_iload_n K 1 dX12_ortho_83 rfl rfl ?_
  refine w_callV K hl H (fun r h => c_X12_told l h) mC_yX12_told mM_RX12_195 mI_yX12_told mS_yX12_told mZ_RX12 vc12 (Nat.le_of_ble_eq_true rfl) (Nat.le_of_ble_eq_true rfl) np_yX12_told rfl (Nat.le_of_ble_eq_true rfl) dX12_ortho_84 (fun r1 H => ?_) ⟨Nat.zero_le _, Nat.zero_le _⟩
  cases H
  obtain ⟨rfl, rfl⟩ := jfin2 D
  exact r_lret K dX12_ortho_87
set_option maxRecDepth 10000 in
theorem t_X12_ortho_0 {X : jX} {l : Launch} {n : Nat} {Y : jY} (K : jOK X RX12 cX12_ortho 4 (some .long) 6) (hl : X.2.1 = l) {rr : Int64} {μr : jM} {v0 : Nat} {v1 : Int32} {v2 : Int32} {v3 : Int32} {μ : jM} {z : (Int64 × jM)} (H : f_X12_ortho Y v0 v1 v2 v3 μ = some z) (D : z = (rr, μr)) : JW X (jEnd X n Y (some (.long rr)) μr 0 0) 0 0 n Y 0 [(0, .ref v0), (1, .int v1), (2, .int v2), (3, .int v3)] [] μ := by
  unfold f_X12_ortho at H
  refine r_aload_n K 0 dX12_ortho_0 rfl rfl ?_
  refine w_getI K vc12 inX12 10 (by decide) mF_RX12_145 dX12_ortho_1 H (fun x1 H => ?_)
  refine w_if_eq K 37 dX12_ortho_4 (by decide) H (fun _ H => ?_) (fun _ H => ?_)
  · exact r_sub [] rfl (t_X12_ortho_37 K hl H D)
  · refine r_iload_n K 1 dX12_ortho_7 rfl rfl ?_
    refine r_iconst (v := 0) K dX12_ortho_8 (by decide) ?_
    refine r_aload_n K 0 dX12_ortho_9 rfl rfl ?_
    refine w_getI K vc12 inX12 10 (by decide) mF_RX12_145 dX12_ortho_10 H (fun x2 H => ?_)
    refine w_callS K hl H (fun r h => c_X12_in l h) mC_yX12_in mM_RX12_134 mT_yX12_in mZ_RX12 (Nat.le_of_ble_eq_true rfl) (Nat.le_of_ble_eq_true rfl) np_yX12_in rfl (Nat.le_of_ble_eq_true rfl) dX12_ortho_13 (fun r3 H => ?_) ⟨Nat.zero_le _, Nat.zero_le _⟩
    refine w_if_eq K 37 dX12_ortho_16 (by decide) H (fun _ H => ?_) (fun _ H => ?_)
    · exact r_sub [] rfl (t_X12_ortho_37 K hl H D)
    · refine r_iload_n K 2 dX12_ortho_19 rfl rfl ?_
      refine r_iconst (v := 0) K dX12_ortho_20 (by decide) ?_
      refine r_iload_n K 1 dX12_ortho_21 rfl rfl ?_
      refine w_callS K hl H (fun r h => c_X12_in l h) mC_yX12_in mM_RX12_134 mT_yX12_in mZ_RX12 (Nat.le_of_ble_eq_true rfl) (Nat.le_of_ble_eq_true rfl) np_yX12_in rfl (Nat.le_of_ble_eq_true rfl) dX12_ortho_22 (fun r4 H => ?_) ⟨Nat.zero_le _, Nat.zero_le _⟩
      refine w_if_eq K 37 dX12_ortho_25 (by decide) H (fun _ H => ?_) (fun _ H => ?_)
      · exact r_sub [] rfl (t_X12_ortho_37 K hl H D)
      · refine r_iload_n K 3 dX12_ortho_28 rfl rfl ?_
        refine r_iconst (v := 0) K dX12_ortho_29 (by decide) ?_
        refine r_iconst (v := 1) K dX12_ortho_30 (by decide) ?_
        refine w_callS K hl H (fun r h => c_X12_in l h) mC_yX12_in mM_RX12_134 mT_yX12_in mZ_RX12 (Nat.le_of_ble_eq_true rfl) (Nat.le_of_ble_eq_true rfl) np_yX12_in rfl (Nat.le_of_ble_eq_true rfl) dX12_ortho_31 (fun r5 H => ?_) ⟨Nat.zero_le _, Nat.zero_le _⟩
        refine w_if_ne K 41 dX12_ortho_34 (by decide) H (fun _ H => ?_) (fun _ H => ?_)
        · refine r_aload_n K 0 dX12_ortho_41 rfl rfl ?_
          refine w_callV K hl H (fun r h => c_X12_laysTones l h) mC_yX12_laysTones mM_RX12_158 mI_yX12_laysTones mS_yX12_laysTones mZ_RX12 vc12 (Nat.le_of_ble_eq_true rfl) (Nat.le_of_ble_eq_true rfl) np_yX12_laysTones rfl (Nat.le_of_ble_eq_true rfl) dX12_ortho_42 (fun μ6 H => ?_) ⟨Nat.zero_le _, Nat.zero_le _⟩
          refine r_iload_n K 1 dX12_ortho_45 rfl rfl ?_
          refine r_aload_n K 0 dX12_ortho_46 rfl rfl ?_
          refine w_getI K vc12 inX12 10 (by decide) mF_RX12_145 dX12_ortho_47 H (fun x7 H => ?_)
          refine w_icmp_ne K 67 dX12_ortho_50 (by decide) H (fun _ H => ?_) (fun _ H => ?_)
          · refine r_aload_n K 0 dX12_ortho_67 rfl rfl ?_
            refine r_aload_n K 0 dX12_ortho_68 rfl rfl ?_
            refine r_iload_n K 1 dX12_ortho_69 rfl rfl ?_
            refine r_iload_n K 2 dX12_ortho_70 rfl rfl ?_
            refine w_callV K hl H (fun r h => c_X12_power l h) mC_yX12_power mM_RX12_217 mI_yX12_power mS_yX12_power mZ_RX12 vc12 (Nat.le_of_ble_eq_true rfl) (Nat.le_of_ble_eq_true rfl) np_yX12_power rfl (Nat.le_of_ble_eq_true rfl) dX12_ortho_71 (fun r8 H => ?_) ⟨Nat.zero_le _, Nat.zero_le _⟩
            refine r_aload_n K 0 dX12_ortho_74 rfl rfl ?_
            refine r_iload_n K 1 dX12_ortho_75 rfl rfl ?_
            refine w_callV K hl H (fun r h => c_X12_hankel l h) mC_yX12_hankel mM_RX12_199 mI_yX12_hankel mS_yX12_hankel mZ_RX12 vc12 (Nat.le_of_ble_eq_true rfl) (Nat.le_of_ble_eq_true rfl) np_yX12_hankel rfl (Nat.le_of_ble_eq_true rfl) dX12_ortho_76 (fun r9 H => ?_) ⟨Nat.zero_le _, Nat.zero_le _⟩
            refine w_callV K hl H (fun r h => c_X12_sets l h) mC_yX12_sets mM_RX12_191 mI_yX12_sets mS_yX12_sets mZ_RX12 vc12 (Nat.le_of_ble_eq_true rfl) (Nat.le_of_ble_eq_true rfl) np_yX12_sets rfl (Nat.le_of_ble_eq_true rfl) dX12_ortho_79 (fun μ10 H => ?_) ⟨Nat.zero_le _, Nat.zero_le _⟩
            exact r_sub [0, 3] rfl (t_X12_ortho_82 K hl H D)
          · refine r_aload_n K 0 dX12_ortho_53 rfl rfl ?_
            refine r_aload_n K 0 dX12_ortho_54 rfl rfl ?_
            refine w_getO K vc12 inX12 13 (by decide) mF_RX12_26 dX12_ortho_55 H (fun x11 H => ?_)
            refine r_iload_n K 2 dX12_ortho_58 rfl rfl ?_
            refine w_lald K dX12_ortho_59 H (fun x12 H => ?_)
            refine r_lconst (v := 1) K dX12_ortho_60 (by decide) ?_
            refine w_callV K hl H (fun r h => c_X12_sets l h) mC_yX12_sets mM_RX12_191 mI_yX12_sets mS_yX12_sets mZ_RX12 vc12 (Nat.le_of_ble_eq_true rfl) (Nat.le_of_ble_eq_true rfl) np_yX12_sets rfl (Nat.le_of_ble_eq_true rfl) dX12_ortho_61 (fun μ13 H => ?_) ⟨Nat.zero_le _, Nat.zero_le _⟩
            refine r_goto K 82 dX12_ortho_64 (by decide) ?_
            exact r_sub [0, 3] rfl (t_X12_ortho_82 K hl H D)
        · exact r_sub [] rfl (t_X12_ortho_37 K hl H D)
theorem c_X12_ortho (l : Launch) {n : Nat} {Y : jY} {v0 : Nat} {v1 : Int32} {v2 : Int32} {v3 : Int32} {μ : jM} {z : Int64 × jM} (H : f_X12_ortho Y v0 v1 v2 v3 μ = some z) : jC l yX12_ortho cX12_ortho 4 (some .long) 6 0 0 [.ref v0, .int v1, .int v2, .int v3] n Y μ n Y (some (.long z.1)) z.2 := by
  refine jC_of (by decide +kernel) (Nat.le_of_ble_eq_true rfl) (fun X hl K _ _ _ => ?_)
  obtain ⟨rr, μr⟩ := z
  exact t_X12_ortho_0 K hl H rfl
/-! RX12 whole(II)I -/
def b_X12_whole_30 (Y : jY) (μ : jM) : Option (Int32 × jM) :=
  some ((-1 : Int32), μ)
def b_X12_whole_53 (Y : jY) (t0 : Int32) (μ : jM) : Option (Int32 × jM) :=
  some (t0, μ)
def b_X12_whole_32 (Y : jY) (v0 : Nat) (v1 : Int32) (v2 : Int32) (μ : jM) : Option (Int32 × jM) :=
  (jgO Y μ v0 12 26).bind fun x1 =>
  (jaI Y μ x1 20 v1).bind fun x2 =>
  if x2 = 0 then
    b_X12_whole_53 Y (-2 : Int32) μ
  else
    (jrcv Y v0 12 (f_X12_wholeOf Y v0 v1 ((0 : Int32)) v2 μ)).bind fun r3 =>
    b_X12_whole_53 Y r3.1 r3.2
def f_X12_whole (Y : jY) (v0 : Nat) (v1 : Int32) (v2 : Int32) (μ : jM) : Option (Int32 × jM) :=
  (f_X12_isDrawer Y v1 μ).bind fun r1 =>
  if r1.1 = 0 then
    b_X12_whole_30 Y r1.2
  else
    (jgO Y r1.2 v0 12 26).bind fun x2 =>
    (jaI Y r1.2 x2 20 v1).bind fun x3 =>
    if x3 ≤ 0 then
      b_X12_whole_32 Y v0 v1 v2 r1.2
    else
      (jgO Y r1.2 v0 12 26).bind fun x4 =>
      (jaI Y r1.2 x4 20 v1).bind fun x5 =>
      (f_X12_in Y v2 ((1 : Int32)) x5 r1.2).bind fun r6 =>
      if r6.1 = 0 then
        b_X12_whole_30 Y r6.2
      else
        b_X12_whole_32 Y v0 v1 v2 r6.2
set_option maxRecDepth 10000 in
theorem t_X12_whole_30 {X : jX} {l : Launch} {n : Nat} {Y : jY} (K : jOK X RX12 cX12_whole 3 (some .int) 4) (hl : X.2.1 = l) {rr : Int32} {μr : jM} {μ : jM} {z : (Int32 × jM)} (H : b_X12_whole_30 Y μ = some z) (D : z = (rr, μr)) : JW X (jEnd X n Y (some (.int rr)) μr 0 0) 0 0 n Y 30 [] [] μ := by
  unfold b_X12_whole_30 at H
  refine r_iconst (v := -1) K dX12_whole_30 (by decide) ?_
  cases H
  obtain ⟨rfl, rfl⟩ := jfin2 D
  exact r_iret K dX12_whole_31
set_option maxRecDepth 10000 in
theorem t_X12_whole_53 {X : jX} {l : Launch} {n : Nat} {Y : jY} (K : jOK X RX12 cX12_whole 3 (some .int) 4) (hl : X.2.1 = l) {rr : Int32} {μr : jM} {t0 : Int32} {μ : jM} {z : (Int32 × jM)} (H : b_X12_whole_53 Y t0 μ = some z) (D : z = (rr, μr)) : JW X (jEnd X n Y (some (.int rr)) μr 0 0) 0 0 n Y 53 [] [.int t0] μ := by
  unfold b_X12_whole_53 at H
  cases H
  obtain ⟨rfl, rfl⟩ := jfin2 D
  exact r_iret K dX12_whole_53
set_option maxRecDepth 10000 in
theorem t_X12_whole_32 {X : jX} {l : Launch} {n : Nat} {Y : jY} (K : jOK X RX12 cX12_whole 3 (some .int) 4) (hl : X.2.1 = l) {rr : Int32} {μr : jM} {v0 : Nat} {v1 : Int32} {v2 : Int32} {μ : jM} {z : (Int32 × jM)} (H : b_X12_whole_32 Y v0 v1 v2 μ = some z) (D : z = (rr, μr)) : JW X (jEnd X n Y (some (.int rr)) μr 0 0) 0 0 n Y 32 [(0, .ref v0), (1, .int v1), (2, .int v2)] [] μ := by
  unfold b_X12_whole_32 at H
  refine r_aload_n K 0 dX12_whole_32 rfl rfl ?_
  refine w_getO K vc12 inX12 26 (by decide) mF_RX12_48 dX12_whole_33 H (fun x1 H => ?_)
  refine r_iload_n K 1 dX12_whole_36 rfl rfl ?_
  refine w_iald K dX12_whole_37 H (fun x2 H => ?_)
  refine w_if_ne K 46 dX12_whole_38 (by decide) H (fun _ H => ?_) (fun _ H => ?_)
  · refine r_aload_n K 0 dX12_whole_46 rfl rfl ?_
    refine r_iload_n K 1 dX12_whole_47 rfl rfl ?_
    refine r_iconst (v := 0) K dX12_whole_48 (by decide) ?_
    refine r_iload_n K 2 dX12_whole_49 rfl rfl ?_
    refine w_callV K hl H (fun r h => c_X12_wholeOf l h) mC_yX12_wholeOf mM_RX12_292 mI_yX12_wholeOf mS_yX12_wholeOf mZ_RX12 vc12 (Nat.le_of_ble_eq_true rfl) (Nat.le_of_ble_eq_true rfl) np_yX12_wholeOf rfl (Nat.le_of_ble_eq_true rfl) dX12_whole_50 (fun r3 H => ?_) ⟨Nat.zero_le _, Nat.zero_le _⟩
    exact r_sub [] rfl (t_X12_whole_53 K hl H D)
  · refine r_bipush (v := -2) K dX12_whole_41 (by decide) ?_
    refine r_goto K 53 dX12_whole_43 (by decide) ?_
    exact r_sub [] rfl (t_X12_whole_53 K hl H D)
set_option maxRecDepth 10000 in
theorem t_X12_whole_0 {X : jX} {l : Launch} {n : Nat} {Y : jY} (K : jOK X RX12 cX12_whole 3 (some .int) 4) (hl : X.2.1 = l) {rr : Int32} {μr : jM} {v0 : Nat} {v1 : Int32} {v2 : Int32} {μ : jM} {z : (Int32 × jM)} (H : f_X12_whole Y v0 v1 v2 μ = some z) (D : z = (rr, μr)) : JW X (jEnd X n Y (some (.int rr)) μr 0 0) 0 0 n Y 0 [(0, .ref v0), (1, .int v1), (2, .int v2)] [] μ := by
  unfold f_X12_whole at H
  refine r_iload_n K 1 dX12_whole_0 rfl rfl ?_
  refine w_callS K hl H (fun r h => c_X12_isDrawer l h) mC_yX12_isDrawer mM_RX12_253 mT_yX12_isDrawer mZ_RX12 (Nat.le_of_ble_eq_true rfl) (Nat.le_of_ble_eq_true rfl) np_yX12_isDrawer rfl (Nat.le_of_ble_eq_true rfl) dX12_whole_1 (fun r1 H => ?_) ⟨Nat.zero_le _, Nat.zero_le _⟩
  refine w_if_eq K 30 dX12_whole_4 (by decide) H (fun _ H => ?_) (fun _ H => ?_)
  · exact r_sub [] rfl (t_X12_whole_30 K hl H D)
  · refine r_aload_n K 0 dX12_whole_7 rfl rfl ?_
    refine w_getO K vc12 inX12 26 (by decide) mF_RX12_48 dX12_whole_8 H (fun x2 H => ?_)
    refine r_iload_n K 1 dX12_whole_11 rfl rfl ?_
    refine w_iald K dX12_whole_12 H (fun x3 H => ?_)
    refine w_if_le K 32 dX12_whole_13 (by decide) H (fun _ H => ?_) (fun _ H => ?_)
    · exact r_sub [0, 1, 2] rfl (t_X12_whole_32 K hl H D)
    · refine r_iload_n K 2 dX12_whole_16 rfl rfl ?_
      refine r_iconst (v := 1) K dX12_whole_17 (by decide) ?_
      refine r_aload_n K 0 dX12_whole_18 rfl rfl ?_
      refine w_getO K vc12 inX12 26 (by decide) mF_RX12_48 dX12_whole_19 H (fun x4 H => ?_)
      refine r_iload_n K 1 dX12_whole_22 rfl rfl ?_
      refine w_iald K dX12_whole_23 H (fun x5 H => ?_)
      refine w_callS K hl H (fun r h => c_X12_in l h) mC_yX12_in mM_RX12_134 mT_yX12_in mZ_RX12 (Nat.le_of_ble_eq_true rfl) (Nat.le_of_ble_eq_true rfl) np_yX12_in rfl (Nat.le_of_ble_eq_true rfl) dX12_whole_24 (fun r6 H => ?_) ⟨Nat.zero_le _, Nat.zero_le _⟩
      refine w_if_ne K 32 dX12_whole_27 (by decide) H (fun _ H => ?_) (fun _ H => ?_)
      · exact r_sub [0, 1, 2] rfl (t_X12_whole_32 K hl H D)
      · exact r_sub [] rfl (t_X12_whole_30 K hl H D)
theorem c_X12_whole (l : Launch) {n : Nat} {Y : jY} {v0 : Nat} {v1 : Int32} {v2 : Int32} {μ : jM} {z : Int32 × jM} (H : f_X12_whole Y v0 v1 v2 μ = some z) : jC l yX12_whole cX12_whole 3 (some .int) 4 0 0 [.ref v0, .int v1, .int v2] n Y μ n Y (some (.int z.1)) z.2 := by
  refine jC_of (by decide +kernel) (Nat.le_of_ble_eq_true rfl) (fun X hl K _ _ _ => ?_)
  obtain ⟨rr, μr⟩ := z
  exact t_X12_whole_0 K hl H rfl
/-! RX12 determinant(II)J -/
def b_X12_determinant_25 (Y : jY) (μ : jM) : Option (Int64 × jM) :=
  some ((-9223372036854775808 : Int64), μ)
def f_X12_determinant (Y : jY) (v0 : Nat) (v1 : Int32) (v2 : Int32) (μ : jM) : Option (Int64 × jM) :=
  (jgI Y μ v0 12 10).bind fun x1 =>
  if x1 = 0 then
    b_X12_determinant_25 Y μ
  else
    (f_X12_in Y v1 ((0 : Int32)) ((4 : Int32)) μ).bind fun r2 =>
    if r2.1 = 0 then
      b_X12_determinant_25 Y r2.2
    else
      (f_X12_in Y v2 ((0 : Int32)) ((1 : Int32)) r2.2).bind fun r3 =>
      if r3.1 = 0 then
        b_X12_determinant_25 Y r3.2
      else
        (jrcv Y v0 12 (f_X12_laysTones Y v0 r3.2)).bind fun μ4 =>
        (jrcv Y v0 12 (f_X12_minor Y v0 v1 v2 v1 μ4)).bind fun r5 =>
        some (r5.1, r5.2)
set_option maxRecDepth 10000 in
theorem t_X12_determinant_25 {X : jX} {l : Launch} {n : Nat} {Y : jY} (K : jOK X RX12 cX12_determinant 3 (some .long) 5) (hl : X.2.1 = l) {rr : Int64} {μr : jM} {μ : jM} {z : (Int64 × jM)} (H : b_X12_determinant_25 Y μ = some z) (D : z = (rr, μr)) : JW X (jEnd X n Y (some (.long rr)) μr 0 0) 0 0 n Y 25 [] [] μ := by
  unfold b_X12_determinant_25 at H
  refine r_ldc2 K (-9223372036854775808) mc_RX12_156 dX12_determinant_25 ?_
  cases H
  obtain ⟨rfl, rfl⟩ := jfin2 D
  exact r_lret K dX12_determinant_28
set_option maxRecDepth 10000 in
theorem t_X12_determinant_0 {X : jX} {l : Launch} {n : Nat} {Y : jY} (K : jOK X RX12 cX12_determinant 3 (some .long) 5) (hl : X.2.1 = l) {rr : Int64} {μr : jM} {v0 : Nat} {v1 : Int32} {v2 : Int32} {μ : jM} {z : (Int64 × jM)} (H : f_X12_determinant Y v0 v1 v2 μ = some z) (D : z = (rr, μr)) : JW X (jEnd X n Y (some (.long rr)) μr 0 0) 0 0 n Y 0 [(0, .ref v0), (1, .int v1), (2, .int v2)] [] μ := by
  unfold f_X12_determinant at H
  refine r_aload_n K 0 dX12_determinant_0 rfl rfl ?_
  refine w_getI K vc12 inX12 10 (by decide) mF_RX12_145 dX12_determinant_1 H (fun x1 H => ?_)
  refine w_if_eq K 25 dX12_determinant_4 (by decide) H (fun _ H => ?_) (fun _ H => ?_)
  · exact r_sub [] rfl (t_X12_determinant_25 K hl H D)
  · refine r_iload_n K 1 dX12_determinant_7 rfl rfl ?_
    refine r_iconst (v := 0) K dX12_determinant_8 (by decide) ?_
    refine r_iconst (v := 4) K dX12_determinant_9 (by decide) ?_
    refine w_callS K hl H (fun r h => c_X12_in l h) mC_yX12_in mM_RX12_134 mT_yX12_in mZ_RX12 (Nat.le_of_ble_eq_true rfl) (Nat.le_of_ble_eq_true rfl) np_yX12_in rfl (Nat.le_of_ble_eq_true rfl) dX12_determinant_10 (fun r2 H => ?_) ⟨Nat.zero_le _, Nat.zero_le _⟩
    refine w_if_eq K 25 dX12_determinant_13 (by decide) H (fun _ H => ?_) (fun _ H => ?_)
    · exact r_sub [] rfl (t_X12_determinant_25 K hl H D)
    · refine r_iload_n K 2 dX12_determinant_16 rfl rfl ?_
      refine r_iconst (v := 0) K dX12_determinant_17 (by decide) ?_
      refine r_iconst (v := 1) K dX12_determinant_18 (by decide) ?_
      refine w_callS K hl H (fun r h => c_X12_in l h) mC_yX12_in mM_RX12_134 mT_yX12_in mZ_RX12 (Nat.le_of_ble_eq_true rfl) (Nat.le_of_ble_eq_true rfl) np_yX12_in rfl (Nat.le_of_ble_eq_true rfl) dX12_determinant_19 (fun r3 H => ?_) ⟨Nat.zero_le _, Nat.zero_le _⟩
      refine w_if_ne K 29 dX12_determinant_22 (by decide) H (fun _ H => ?_) (fun _ H => ?_)
      · refine r_aload_n K 0 dX12_determinant_29 rfl rfl ?_
        refine w_callV K hl H (fun r h => c_X12_laysTones l h) mC_yX12_laysTones mM_RX12_158 mI_yX12_laysTones mS_yX12_laysTones mZ_RX12 vc12 (Nat.le_of_ble_eq_true rfl) (Nat.le_of_ble_eq_true rfl) np_yX12_laysTones rfl (Nat.le_of_ble_eq_true rfl) dX12_determinant_30 (fun μ4 H => ?_) ⟨Nat.zero_le _, Nat.zero_le _⟩
        refine r_aload_n K 0 dX12_determinant_33 rfl rfl ?_
        refine r_iload_n K 1 dX12_determinant_34 rfl rfl ?_
        refine r_iload_n K 2 dX12_determinant_35 rfl rfl ?_
        refine r_iload_n K 1 dX12_determinant_36 rfl rfl ?_
        refine w_callV K hl H (fun r h => c_X12_minor l h) mC_yX12_minor mM_RX12_173 mI_yX12_minor mS_yX12_minor mZ_RX12 vc12 (Nat.le_of_ble_eq_true rfl) (Nat.le_of_ble_eq_true rfl) np_yX12_minor rfl (Nat.le_of_ble_eq_true rfl) dX12_determinant_37 (fun r5 H => ?_) ⟨Nat.zero_le _, Nat.zero_le _⟩
        cases H
        obtain ⟨rfl, rfl⟩ := jfin2 D
        exact r_lret K dX12_determinant_40
      · exact r_sub [] rfl (t_X12_determinant_25 K hl H D)
theorem c_X12_determinant (l : Launch) {n : Nat} {Y : jY} {v0 : Nat} {v1 : Int32} {v2 : Int32} {μ : jM} {z : Int64 × jM} (H : f_X12_determinant Y v0 v1 v2 μ = some z) : jC l yX12_determinant cX12_determinant 3 (some .long) 5 0 0 [.ref v0, .int v1, .int v2] n Y μ n Y (some (.long z.1)) z.2 := by
  refine jC_of (by decide +kernel) (Nat.le_of_ble_eq_true rfl) (fun X hl K _ _ _ => ?_)
  obtain ⟨rr, μr⟩ := z
  exact t_X12_determinant_0 K hl H rfl
/-! RX12 polynomial(ZI)J -/
def b_X12_polynomial_32 (Y : jY) (μ : jM) : Option (Int64 × jM) :=
  some ((-9223372036854775808 : Int64), μ)
def b_X12_polynomial_59 (Y : jY) (t0 : Int64) (μ : jM) : Option (Int64 × jM) :=
  some (t0, μ)
def b_X12_polynomial_26 (Y : jY) (v0 : Nat) (v1 : Int32) (v2 : Int32) (t0 : Int32) (t1 : Int32) (t2 : Int32) (μ : jM) : Option (Int64 × jM) :=
  (f_X12_in Y t0 t1 t2 μ).bind fun r1 =>
  if r1.1 = 0 then
    b_X12_polynomial_32 Y r1.2
  else
    (jrcv Y v0 12 (f_X12_laysTones Y v0 r1.2)).bind fun μ2 =>
    if v1 = 0 then
      (jgO Y μ2 v0 12 14).bind fun x3 =>
      (jaL Y μ2 x3 21 v2).bind fun x4 =>
      b_X12_polynomial_59 Y x4 μ2
    else
      (jgO Y μ2 v0 12 13).bind fun x5 =>
      (jaL Y μ2 x5 21 v2).bind fun x6 =>
      b_X12_polynomial_59 Y x6 μ2
def f_X12_polynomial (Y : jY) (v0 : Nat) (v1 : Int32) (v2 : Int32) (μ : jM) : Option (Int64 × jM) :=
  (jgI Y μ v0 12 10).bind fun x1 =>
  if x1 = 0 then
    b_X12_polynomial_32 Y μ
  else
    if v1 = 0 then
      (jgI Y μ v0 12 10).bind fun x2 =>
      b_X12_polynomial_26 Y v0 v1 v2 v2 (0 : Int32) (x2 - ((1 : Int32))) μ
    else
      (jgI Y μ v0 12 10).bind fun x3 =>
      b_X12_polynomial_26 Y v0 v1 v2 v2 (0 : Int32) x3 μ
set_option maxRecDepth 10000 in
theorem t_X12_polynomial_32 {X : jX} {l : Launch} {n : Nat} {Y : jY} (K : jOK X RX12 cX12_polynomial 3 (some .long) 3) (hl : X.2.1 = l) {rr : Int64} {μr : jM} {μ : jM} {z : (Int64 × jM)} (H : b_X12_polynomial_32 Y μ = some z) (D : z = (rr, μr)) : JW X (jEnd X n Y (some (.long rr)) μr 0 0) 0 0 n Y 32 [] [] μ := by
  unfold b_X12_polynomial_32 at H
  refine r_ldc2 K (-9223372036854775808) mc_RX12_156 dX12_polynomial_32 ?_
  cases H
  obtain ⟨rfl, rfl⟩ := jfin2 D
  exact r_lret K dX12_polynomial_35
set_option maxRecDepth 10000 in
theorem t_X12_polynomial_59 {X : jX} {l : Launch} {n : Nat} {Y : jY} (K : jOK X RX12 cX12_polynomial 3 (some .long) 3) (hl : X.2.1 = l) {rr : Int64} {μr : jM} {t0 : Int64} {μ : jM} {z : (Int64 × jM)} (H : b_X12_polynomial_59 Y t0 μ = some z) (D : z = (rr, μr)) : JW X (jEnd X n Y (some (.long rr)) μr 0 0) 0 0 n Y 59 [] [.long t0] μ := by
  unfold b_X12_polynomial_59 at H
  cases H
  obtain ⟨rfl, rfl⟩ := jfin2 D
  exact r_lret K dX12_polynomial_59
set_option maxRecDepth 10000 in
theorem t_X12_polynomial_26 {X : jX} {l : Launch} {n : Nat} {Y : jY} (K : jOK X RX12 cX12_polynomial 3 (some .long) 3) (hl : X.2.1 = l) {rr : Int64} {μr : jM} {v0 : Nat} {v1 : Int32} {v2 : Int32} {t0 : Int32} {t1 : Int32} {t2 : Int32} {μ : jM} {z : (Int64 × jM)} (H : b_X12_polynomial_26 Y v0 v1 v2 t0 t1 t2 μ = some z) (D : z = (rr, μr)) : JW X (jEnd X n Y (some (.long rr)) μr 0 0) 0 0 n Y 26 [(0, .ref v0), (1, .int v1), (2, .int v2)] [.int t2, .int t1, .int t0] μ := by
  unfold b_X12_polynomial_26 at H
  refine w_callS K hl H (fun r h => c_X12_in l h) mC_yX12_in mM_RX12_134 mT_yX12_in mZ_RX12 (Nat.le_of_ble_eq_true rfl) (Nat.le_of_ble_eq_true rfl) np_yX12_in rfl (Nat.le_of_ble_eq_true rfl) dX12_polynomial_26 (fun r1 H => ?_) ⟨Nat.zero_le _, Nat.zero_le _⟩
  refine w_if_ne K 36 dX12_polynomial_29 (by decide) H (fun _ H => ?_) (fun _ H => ?_)
  · refine r_aload_n K 0 dX12_polynomial_36 rfl rfl ?_
    refine w_callV K hl H (fun r h => c_X12_laysTones l h) mC_yX12_laysTones mM_RX12_158 mI_yX12_laysTones mS_yX12_laysTones mZ_RX12 vc12 (Nat.le_of_ble_eq_true rfl) (Nat.le_of_ble_eq_true rfl) np_yX12_laysTones rfl (Nat.le_of_ble_eq_true rfl) dX12_polynomial_37 (fun μ2 H => ?_) ⟨Nat.zero_le _, Nat.zero_le _⟩
    refine r_iload_n K 1 dX12_polynomial_40 rfl rfl ?_
    refine w_if_eq K 53 dX12_polynomial_41 (by decide) H (fun _ H => ?_) (fun _ H => ?_)
    · refine r_aload_n K 0 dX12_polynomial_53 rfl rfl ?_
      refine w_getO K vc12 inX12 14 (by decide) mF_RX12_30 dX12_polynomial_54 H (fun x3 H => ?_)
      refine r_iload_n K 2 dX12_polynomial_57 rfl rfl ?_
      refine w_lald K dX12_polynomial_58 H (fun x4 H => ?_)
      exact r_sub [] rfl (t_X12_polynomial_59 K hl H D)
    · refine r_aload_n K 0 dX12_polynomial_44 rfl rfl ?_
      refine w_getO K vc12 inX12 13 (by decide) mF_RX12_26 dX12_polynomial_45 H (fun x5 H => ?_)
      refine r_iload_n K 2 dX12_polynomial_48 rfl rfl ?_
      refine w_lald K dX12_polynomial_49 H (fun x6 H => ?_)
      refine r_goto K 59 dX12_polynomial_50 (by decide) ?_
      exact r_sub [] rfl (t_X12_polynomial_59 K hl H D)
  · exact r_sub [] rfl (t_X12_polynomial_32 K hl H D)
set_option maxRecDepth 10000 in
theorem t_X12_polynomial_0 {X : jX} {l : Launch} {n : Nat} {Y : jY} (K : jOK X RX12 cX12_polynomial 3 (some .long) 3) (hl : X.2.1 = l) {rr : Int64} {μr : jM} {v0 : Nat} {v1 : Int32} {v2 : Int32} {μ : jM} {z : (Int64 × jM)} (H : f_X12_polynomial Y v0 v1 v2 μ = some z) (D : z = (rr, μr)) : JW X (jEnd X n Y (some (.long rr)) μr 0 0) 0 0 n Y 0 [(0, .ref v0), (1, .int v1), (2, .int v2)] [] μ := by
  unfold f_X12_polynomial at H
  refine r_aload_n K 0 dX12_polynomial_0 rfl rfl ?_
  refine w_getI K vc12 inX12 10 (by decide) mF_RX12_145 dX12_polynomial_1 H (fun x1 H => ?_)
  refine w_if_eq K 32 dX12_polynomial_4 (by decide) H (fun _ H => ?_) (fun _ H => ?_)
  · exact r_sub [] rfl (t_X12_polynomial_32 K hl H D)
  · refine r_iload_n K 2 dX12_polynomial_7 rfl rfl ?_
    refine r_iconst (v := 0) K dX12_polynomial_8 (by decide) ?_
    refine r_iload_n K 1 dX12_polynomial_9 rfl rfl ?_
    refine w_if_eq K 20 dX12_polynomial_10 (by decide) H (fun _ H => ?_) (fun _ H => ?_)
    · refine r_aload_n K 0 dX12_polynomial_20 rfl rfl ?_
      refine w_getI K vc12 inX12 10 (by decide) mF_RX12_145 dX12_polynomial_21 H (fun x2 H => ?_)
      refine r_iconst (v := 1) K dX12_polynomial_24 (by decide) ?_
      refine r_isub K dX12_polynomial_25 ?_
      exact r_sub [0, 1, 2] rfl (t_X12_polynomial_26 K hl H D)
    · refine r_aload_n K 0 dX12_polynomial_13 rfl rfl ?_
      refine w_getI K vc12 inX12 10 (by decide) mF_RX12_145 dX12_polynomial_14 H (fun x3 H => ?_)
      refine r_goto K 26 dX12_polynomial_17 (by decide) ?_
      exact r_sub [0, 1, 2] rfl (t_X12_polynomial_26 K hl H D)
theorem c_X12_polynomial (l : Launch) {n : Nat} {Y : jY} {v0 : Nat} {v1 : Int32} {v2 : Int32} {μ : jM} {z : Int64 × jM} (H : f_X12_polynomial Y v0 v1 v2 μ = some z) : jC l yX12_polynomial cX12_polynomial 3 (some .long) 3 0 0 [.ref v0, .int v1, .int v2] n Y μ n Y (some (.long z.1)) z.2 := by
  refine jC_of (by decide +kernel) (Nat.le_of_ble_eq_true rfl) (fun X hl K _ _ _ => ?_)
  obtain ⟨rr, μr⟩ := z
  exact t_X12_polynomial_0 K hl H rfl
/-! RX12 would(IZIII)J -/
def b_X12_would_50 (Y : jY) (μ : jM) : Option (Int64 × jM) :=
  some ((-9223372036854775808 : Int64), μ)
def b_X12_would_73 (Y : jY) (v0 : Nat) (v1 : Int32) (v2 : Int32) (v3 : Int32) (v4 : Int32) (v5 : Int32) (t0 : Int32) (μ : jM) : Option (Int64 × jM) :=
  (jrcv Y v0 12 (f_X12_puts Y v0 v1 v2 v3 v4 μ)).bind fun μ1 =>
  (jrcv Y v0 12 (f_X12_laysPoly Y v0 v1 ((0 : Int32)) μ1)).bind fun μ2 =>
  (jrcv Y v0 12 (f_X12_puts Y v0 v1 v2 v3 t0 μ2)).bind fun μ3 =>
  (jgO Y μ3 v0 12 35).bind fun x4 =>
  (jgO Y μ3 v0 12 26).bind fun x5 =>
  (jaI Y μ3 x5 20 v1).bind fun x6 =>
  (jaL Y μ3 x4 21 ((((((6 : Int32)) * x6)) + v5))).bind fun x7 =>
  some (x7, μ3)
def f_X12_would (Y : jY) (v0 : Nat) (v1 : Int32) (v2 : Int32) (v3 : Int32) (v4 : Int32) (v5 : Int32) (μ : jM) : Option (Int64 × jM) :=
  (f_X12_isDrawer Y v1 μ).bind fun r1 =>
  if r1.1 = 0 then
    b_X12_would_50 Y r1.2
  else
    (jgO Y r1.2 v0 12 26).bind fun x2 =>
    (jaI Y r1.2 x2 20 v1).bind fun x3 =>
    if x3 = 0 then
      b_X12_would_50 Y r1.2
    else
      (jrcv Y v0 12 (f_X12_isEntry Y v0 v1 v2 v3 r1.2)).bind fun r4 =>
      if r4.1 = 0 then
        b_X12_would_50 Y r4.2
      else
        (f_X12_canBe Y v2 v4 r4.2).bind fun r5 =>
        if r5.1 = 0 then
          b_X12_would_50 Y r5.2
        else
          (jgO Y r5.2 v0 12 26).bind fun x6 =>
          (jaI Y r5.2 x6 20 v1).bind fun x7 =>
          (f_X12_in Y v5 ((0 : Int32)) x7 r5.2).bind fun r8 =>
          if r8.1 = 0 then
            b_X12_would_50 Y r8.2
          else
            if v2 = 0 then
              (jrcv Y v0 12 (f_X12_c Y v0 v1 v3 r8.2)).bind fun r9 =>
              b_X12_would_73 Y v0 v1 v2 v3 v4 v5 r9.1 r9.2
            else
              (jrcv Y v0 12 (f_X12_a Y v0 v1 v3 r8.2)).bind fun r10 =>
              b_X12_would_73 Y v0 v1 v2 v3 v4 v5 r10.1 r10.2
set_option maxRecDepth 10000 in
theorem t_X12_would_50 {X : jX} {l : Launch} {n : Nat} {Y : jY} (K : jOK X RX12 cX12_would 7 (some .long) 3) (hl : X.2.1 = l) {rr : Int64} {μr : jM} {μ : jM} {z : (Int64 × jM)} (H : b_X12_would_50 Y μ = some z) (D : z = (rr, μr)) : JW X (jEnd X n Y (some (.long rr)) μr 0 0) 0 0 n Y 50 [] [] μ := by
  unfold b_X12_would_50 at H
  refine r_ldc2 K (-9223372036854775808) mc_RX12_156 dX12_would_50 ?_
  cases H
  obtain ⟨rfl, rfl⟩ := jfin2 D
  exact r_lret K dX12_would_53
set_option maxRecDepth 10000 in
theorem t_X12_would_73 {X : jX} {l : Launch} {n : Nat} {Y : jY} (K : jOK X RX12 cX12_would 7 (some .long) 3) (hl : X.2.1 = l) {rr : Int64} {μr : jM} {v0 : Nat} {v1 : Int32} {v2 : Int32} {v3 : Int32} {v4 : Int32} {v5 : Int32} {t0 : Int32} {μ : jM} {z : (Int64 × jM)} (H : b_X12_would_73 Y v0 v1 v2 v3 v4 v5 t0 μ = some z) (D : z = (rr, μr)) : JW X (jEnd X n Y (some (.long rr)) μr 0 0) 0 0 n Y 73 [(0, .ref v0), (1, .int v1), (2, .int v2), (3, .int v3), (4, .int v4), (5, .int v5)] [.int t0] μ := by
  unfold b_X12_would_73 at H
  refine r_istore K [(6, .int _), (0, .ref _), (1, .int _), (2, .int _), (3, .int _), (4, .int _), (5, .int _)] dX12_would_73 (by decide) rfl ?_
  refine r_aload_n K 1 dX12_would_75 rfl rfl ?_
  refine r_iload_n K 2 dX12_would_76 rfl rfl ?_
  refine r_iload_n K 3 dX12_would_77 rfl rfl ?_
  refine r_iload_n K 4 dX12_would_78 rfl rfl ?_
  refine r_iload K 5 dX12_would_79 rfl ?_
  refine w_callV K hl H (fun r h => c_X12_puts l h) mC_yX12_puts mM_RX12_271 mI_yX12_puts mS_yX12_puts mZ_RX12 vc12 (Nat.le_of_ble_eq_true rfl) (Nat.le_of_ble_eq_true rfl) np_yX12_puts rfl (Nat.le_of_ble_eq_true rfl) dX12_would_81 (fun μ1 H => ?_) ⟨Nat.zero_le _, Nat.zero_le _⟩
  refine r_aload_n K 1 dX12_would_84 rfl rfl ?_
  refine r_iload_n K 2 dX12_would_85 rfl rfl ?_
  refine r_iconst (v := 0) K dX12_would_86 (by decide) ?_
  refine w_callV K hl H (fun r h => c_X12_laysPoly l h) mC_yX12_laysPoly mM_RX12_275 mI_yX12_laysPoly mS_yX12_laysPoly mZ_RX12 vc12 (Nat.le_of_ble_eq_true rfl) (Nat.le_of_ble_eq_true rfl) np_yX12_laysPoly rfl (Nat.le_of_ble_eq_true rfl) dX12_would_87 (fun μ2 H => ?_) ⟨Nat.zero_le _, Nat.zero_le _⟩
  refine r_aload_n K 1 dX12_would_90 rfl rfl ?_
  refine r_iload_n K 2 dX12_would_91 rfl rfl ?_
  refine r_iload_n K 3 dX12_would_92 rfl rfl ?_
  refine r_iload_n K 4 dX12_would_93 rfl rfl ?_
  refine r_iload K 0 dX12_would_94 rfl ?_
  refine w_callV K hl H (fun r h => c_X12_puts l h) mC_yX12_puts mM_RX12_271 mI_yX12_puts mS_yX12_puts mZ_RX12 vc12 (Nat.le_of_ble_eq_true rfl) (Nat.le_of_ble_eq_true rfl) np_yX12_puts rfl (Nat.le_of_ble_eq_true rfl) dX12_would_96 (fun μ3 H => ?_) ⟨Nat.zero_le _, Nat.zero_le _⟩
  refine r_aload_n K 1 dX12_would_99 rfl rfl ?_
  refine w_getO K vc12 inX12 35 (by decide) mF_RX12_75 dX12_would_100 H (fun x4 H => ?_)
  refine r_bipush (v := 6) K dX12_would_103 (by decide) ?_
  refine r_aload_n K 1 dX12_would_105 rfl rfl ?_
  refine w_getO K vc12 inX12 26 (by decide) mF_RX12_48 dX12_would_106 H (fun x5 H => ?_)
  refine r_iload_n K 2 dX12_would_109 rfl rfl ?_
  refine w_iald K dX12_would_110 H (fun x6 H => ?_)
  refine r_imul K dX12_would_111 ?_
  refine r_iload K 6 dX12_would_112 rfl ?_
  refine r_iadd K dX12_would_114 ?_
  refine w_lald K dX12_would_115 H (fun x7 H => ?_)
  cases H
  obtain ⟨rfl, rfl⟩ := jfin2 D
  exact r_lret K dX12_would_116
set_option maxRecDepth 10000 in
theorem t_X12_would_0 {X : jX} {l : Launch} {n : Nat} {Y : jY} (K : jOK X RX12 cX12_would 7 (some .long) 3) (hl : X.2.1 = l) {rr : Int64} {μr : jM} {v0 : Nat} {v1 : Int32} {v2 : Int32} {v3 : Int32} {v4 : Int32} {v5 : Int32} {μ : jM} {z : (Int64 × jM)} (H : f_X12_would Y v0 v1 v2 v3 v4 v5 μ = some z) (D : z = (rr, μr)) : JW X (jEnd X n Y (some (.long rr)) μr 0 0) 0 0 n Y 0 [(0, .ref v0), (1, .int v1), (2, .int v2), (3, .int v3), (4, .int v4), (5, .int v5)] [] μ := by
  unfold f_X12_would at H
  refine r_iload_n K 1 dX12_would_0 rfl rfl ?_
  refine w_callS K hl H (fun r h => c_X12_isDrawer l h) mC_yX12_isDrawer mM_RX12_253 mT_yX12_isDrawer mZ_RX12 (Nat.le_of_ble_eq_true rfl) (Nat.le_of_ble_eq_true rfl) np_yX12_isDrawer rfl (Nat.le_of_ble_eq_true rfl) dX12_would_1 (fun r1 H => ?_) ⟨Nat.zero_le _, Nat.zero_le _⟩
  refine w_if_eq K 50 dX12_would_4 (by decide) H (fun _ H => ?_) (fun _ H => ?_)
  · exact r_sub [] rfl (t_X12_would_50 K hl H D)
  · refine r_aload_n K 0 dX12_would_7 rfl rfl ?_
    refine w_getO K vc12 inX12 26 (by decide) mF_RX12_48 dX12_would_8 H (fun x2 H => ?_)
    refine r_iload_n K 1 dX12_would_11 rfl rfl ?_
    refine w_iald K dX12_would_12 H (fun x3 H => ?_)
    refine w_if_eq K 50 dX12_would_13 (by decide) H (fun _ H => ?_) (fun _ H => ?_)
    · exact r_sub [] rfl (t_X12_would_50 K hl H D)
    · refine r_aload_n K 0 dX12_would_16 rfl rfl ?_
      refine r_iload_n K 1 dX12_would_17 rfl rfl ?_
      refine r_iload_n K 2 dX12_would_18 rfl rfl ?_
      refine r_iload_n K 3 dX12_would_19 rfl rfl ?_
      refine w_callV K hl H (fun r h => c_X12_isEntry l h) mC_yX12_isEntry mM_RX12_263 mI_yX12_isEntry mS_yX12_isEntry mZ_RX12 vc12 (Nat.le_of_ble_eq_true rfl) (Nat.le_of_ble_eq_true rfl) np_yX12_isEntry rfl (Nat.le_of_ble_eq_true rfl) dX12_would_20 (fun r4 H => ?_) ⟨Nat.zero_le _, Nat.zero_le _⟩
      refine w_if_eq K 50 dX12_would_23 (by decide) H (fun _ H => ?_) (fun _ H => ?_)
      · exact r_sub [] rfl (t_X12_would_50 K hl H D)
      · refine r_iload_n K 2 dX12_would_26 rfl rfl ?_
        refine r_iload K 4 dX12_would_27 rfl ?_
        refine w_callS K hl H (fun r h => c_X12_canBe l h) mC_yX12_canBe mM_RX12_267 mT_yX12_canBe mZ_RX12 (Nat.le_of_ble_eq_true rfl) (Nat.le_of_ble_eq_true rfl) np_yX12_canBe rfl (Nat.le_of_ble_eq_true rfl) dX12_would_29 (fun r5 H => ?_) ⟨Nat.zero_le _, Nat.zero_le _⟩
        refine w_if_eq K 50 dX12_would_32 (by decide) H (fun _ H => ?_) (fun _ H => ?_)
        · exact r_sub [] rfl (t_X12_would_50 K hl H D)
        · refine r_iload K 5 dX12_would_35 rfl ?_
          refine r_iconst (v := 0) K dX12_would_37 (by decide) ?_
          refine r_aload_n K 0 dX12_would_38 rfl rfl ?_
          refine w_getO K vc12 inX12 26 (by decide) mF_RX12_48 dX12_would_39 H (fun x6 H => ?_)
          refine r_iload_n K 1 dX12_would_42 rfl rfl ?_
          refine w_iald K dX12_would_43 H (fun x7 H => ?_)
          refine w_callS K hl H (fun r h => c_X12_in l h) mC_yX12_in mM_RX12_134 mT_yX12_in mZ_RX12 (Nat.le_of_ble_eq_true rfl) (Nat.le_of_ble_eq_true rfl) np_yX12_in rfl (Nat.le_of_ble_eq_true rfl) dX12_would_44 (fun r8 H => ?_) ⟨Nat.zero_le _, Nat.zero_le _⟩
          refine w_if_ne K 54 dX12_would_47 (by decide) H (fun _ H => ?_) (fun _ H => ?_)
          · refine r_iload_n K 2 dX12_would_54 rfl rfl ?_
            refine w_if_eq K 67 dX12_would_55 (by decide) H (fun _ H => ?_) (fun _ H => ?_)
            · refine r_aload_n K 0 dX12_would_67 rfl rfl ?_
              refine r_iload_n K 1 dX12_would_68 rfl rfl ?_
              refine r_iload_n K 3 dX12_would_69 rfl rfl ?_
              refine w_callV K hl H (fun r h => c_X12_c l h) mC_yX12_c mM_RX12_260 mI_yX12_c mS_yX12_c mZ_RX12 vc12 (Nat.le_of_ble_eq_true rfl) (Nat.le_of_ble_eq_true rfl) np_yX12_c rfl (Nat.le_of_ble_eq_true rfl) dX12_would_70 (fun r9 H => ?_) ⟨Nat.zero_le _, Nat.zero_le _⟩
              exact r_sub [0, 1, 2, 3, 4, 5] rfl (t_X12_would_73 K hl H D)
            · refine r_aload_n K 0 dX12_would_58 rfl rfl ?_
              refine r_iload_n K 1 dX12_would_59 rfl rfl ?_
              refine r_iload_n K 3 dX12_would_60 rfl rfl ?_
              refine w_callV K hl H (fun r h => c_X12_a l h) mC_yX12_a mM_RX12_256 mI_yX12_a mS_yX12_a mZ_RX12 vc12 (Nat.le_of_ble_eq_true rfl) (Nat.le_of_ble_eq_true rfl) np_yX12_a rfl (Nat.le_of_ble_eq_true rfl) dX12_would_61 (fun r10 H => ?_) ⟨Nat.zero_le _, Nat.zero_le _⟩
              refine r_goto K 73 dX12_would_64 (by decide) ?_
              exact r_sub [0, 1, 2, 3, 4, 5] rfl (t_X12_would_73 K hl H D)
          · exact r_sub [] rfl (t_X12_would_50 K hl H D)
theorem c_X12_would (l : Launch) {n : Nat} {Y : jY} {v0 : Nat} {v1 : Int32} {v2 : Int32} {v3 : Int32} {v4 : Int32} {v5 : Int32} {μ : jM} {z : Int64 × jM} (H : f_X12_would Y v0 v1 v2 v3 v4 v5 μ = some z) : jC l yX12_would cX12_would 7 (some .long) 3 0 0 [.ref v0, .int v1, .int v2, .int v3, .int v4, .int v5] n Y μ n Y (some (.long z.1)) z.2 := by
  refine jC_of (by decide +kernel) (Nat.le_of_ble_eq_true rfl) (fun X hl K _ _ _ => ?_)
  obtain ⟨rr, μr⟩ := z
  exact t_X12_would_0 K hl H rfl
/-! RX12 draws(III)I -/
def b_X12_draws_16 (Y : jY) (μ : jM) : Option (Int32 × jM) :=
  some ((-1 : Int32), μ)
def b_X12_draws_72 (Y : jY) (v0 : Nat) (v1 : Int32) (v2 : Int32) (v4 : Int32) (μ : jM) : Option ((Int32 × jM) ⊕ (Int32 × jM)) :=
  if ((v2 - ((1 : Int32)))) ≤ v4 then
    (jgI Y μ v0 12 41).bind fun x1 =>
    some (.inr (x1, μ))
  else
    (jgO Y μ v0 12 28).bind fun x2 =>
    (jrcv Y v0 12 (f_X12_draw Y v0 ((36 : Int32)) μ)).bind fun r3 =>
    (jas Y r3.2 x2 20 ((((((5 : Int32)) * v1)) + v4)) (.int ((r3.1 + ((1 : Int32)))))).bind fun μ4 =>
    some (.inl ((v4 + (1 : Int32)), μ4))
def b_X12_draws_37 (Y : jY) (v0 : Nat) (v1 : Int32) (v2 : Int32) (v4 : Int32) (μ : jM) : Option ((Int32 × jM) ⊕ (Int32 × jM)) :=
  if v2 ≤ v4 then
    (jit jF (fun (s : Int32 × jM) => b_X12_draws_72 Y v0 v1 v2 s.1 s.2) ((0 : Int32), μ)).map (fun r => (.inr r))
  else
    (jgO Y μ v0 12 27).bind fun x1 =>
    (jrcv Y v0 12 (f_X12_draw Y v0 ((13 : Int32)) μ)).bind fun r2 =>
    (jas Y r2.2 x1 20 ((((((5 : Int32)) * v1)) + v4)) (.int ((r2.1 - ((6 : Int32)))))).bind fun μ3 =>
    some (.inl ((v4 + (1 : Int32)), μ3))
def f_X12_draws (Y : jY) (v0 : Nat) (v1 : Int32) (v2 : Int32) (v3 : Int32) (μ : jM) : Option (Int32 × jM) :=
  (f_X12_isDrawer Y v1 μ).bind fun r1 =>
  if r1.1 = 0 then
    b_X12_draws_16 Y r1.2
  else
    (f_X12_in Y v2 ((1 : Int32)) ((5 : Int32)) r1.2).bind fun r2 =>
    if r2.1 = 0 then
      b_X12_draws_16 Y r2.2
    else
      (jput Y r2.2 v0 12 41 (.int ((v3 &&& ((65535 : Int32)))))).bind fun μ3 =>
      (jgO Y μ3 v0 12 26).bind fun x4 =>
      (jas Y μ3 x4 20 v1 (.int v2)).bind fun μ5 =>
      jit jF (fun (s : Int32 × jM) => b_X12_draws_37 Y v0 v1 v2 s.1 s.2) ((0 : Int32), μ5)
set_option maxRecDepth 10000 in
theorem t_X12_draws_16 {X : jX} {l : Launch} {n : Nat} {Y : jY} (K : jOK X RX12 cX12_draws 5 (some .int) 3) (hl : X.2.1 = l) {rr : Int32} {μr : jM} {μ : jM} {z : (Int32 × jM)} (H : b_X12_draws_16 Y μ = some z) (D : z = (rr, μr)) : JW X (jEnd X n Y (some (.int rr)) μr 0 0) 0 0 n Y 16 [] [] μ := by
  unfold b_X12_draws_16 at H
  refine r_iconst (v := -1) K dX12_draws_16 (by decide) ?_
  cases H
  obtain ⟨rfl, rfl⟩ := jfin2 D
  exact r_iret K dX12_draws_17
set_option maxRecDepth 10000 in
theorem t_X12_draws_72 {X : jX} {l : Launch} {n : Nat} {Y : jY} (K : jOK X RX12 cX12_draws 5 (some .int) 3) (hl : X.2.1 = l) {rr : Int32} {μr : jM} {v0 : Nat} {v1 : Int32} {v2 : Int32} {v4 : Int32} {μ : jM} {z : ((Int32 × jM) ⊕ (Int32 × jM))} (H : b_X12_draws_72 Y v0 v1 v2 v4 μ = some z) (D : Sum.elim (fun (s : Int32 × jM) => JW X (jEnd X n Y (some (.int rr)) μr 0 0) 0 0 n Y 72 [(0, .ref v0), (1, .int v1), (2, .int v2), (4, .int s.1)] [] s.2) (fun r => r = (rr, μr)) z) : JW X (jEnd X n Y (some (.int rr)) μr 0 0) 0 0 n Y 72 [(0, .ref v0), (1, .int v1), (2, .int v2), (4, .int v4)] [] μ := by
  unfold b_X12_draws_72 at H
  refine r_iload K 3 dX12_draws_72 rfl ?_
  refine r_iload_n K 2 dX12_draws_74 rfl rfl ?_
  refine r_iconst (v := 1) K dX12_draws_75 (by decide) ?_
  refine r_isub K dX12_draws_76 ?_
  refine w_icmp_ge K 105 dX12_draws_77 (by decide) H (fun _ H => ?_) (fun _ H => ?_)
  · refine r_aload_n K 0 dX12_draws_105 rfl rfl ?_
    refine w_getI K vc12 inX12 41 (by decide) mF_RX12_309 dX12_draws_106 H (fun x1 H => ?_)
    cases H
    simp only [Sum.elim_inr] at D
    obtain ⟨rfl, rfl⟩ := jfin2 D
    exact r_iret K dX12_draws_109
  · refine r_aload_n K 0 dX12_draws_80 rfl rfl ?_
    refine w_getO K vc12 inX12 28 (by decide) mF_RX12_54 dX12_draws_81 H (fun x2 H => ?_)
    refine r_iconst (v := 5) K dX12_draws_84 (by decide) ?_
    refine r_iload_n K 1 dX12_draws_85 rfl rfl ?_
    refine r_imul K dX12_draws_86 ?_
    refine r_iload K 3 dX12_draws_87 rfl ?_
    refine r_iadd K dX12_draws_89 ?_
    refine r_aload_n K 0 dX12_draws_90 rfl rfl ?_
    refine r_bipush (v := 36) K dX12_draws_91 (by decide) ?_
    refine w_callV K hl H (fun r h => c_X12_draw l h) mC_yX12_draw mM_RX12_314 mI_yX12_draw mS_yX12_draw mZ_RX12 vc12 (Nat.le_of_ble_eq_true rfl) (Nat.le_of_ble_eq_true rfl) np_yX12_draw rfl (Nat.le_of_ble_eq_true rfl) dX12_draws_93 (fun r3 H => ?_) ⟨Nat.zero_le _, Nat.zero_le _⟩
    refine r_iconst (v := 1) K dX12_draws_96 (by decide) ?_
    refine r_iadd K dX12_draws_97 ?_
    refine w_iast K dX12_draws_98 H (fun μ4 H => ?_)
    refine r_iinc K 3 [(4, .int _), (0, .ref _), (1, .int _), (2, .int _)] (v := _ + (1 : Int32)) dX12_draws_99 rfl rfl (by decide) rfl ?_
    refine r_goto K 72 dX12_draws_102 (by decide) ?_
    cases H
    exact r_sub [1, 2, 3, 0] rfl D
set_option maxRecDepth 10000 in
theorem l_X12_draws_72 {X : jX} {l : Launch} {n : Nat} {Y : jY} (K : jOK X RX12 cX12_draws 5 (some .int) 3) (hl : X.2.1 = l) {rr : Int32} {μr : jM} {v0 : Nat} {v1 : Int32} {v2 : Int32}  {s0 : Int32 × jM} {z : (Int32 × jM)} (H : jit jF (fun (s : Int32 × jM) => b_X12_draws_72 Y v0 v1 v2 s.1 s.2) s0 = some z) (D : z = (rr, μr)) : JW X (jEnd X n Y (some (.int rr)) μr 0 0) 0 0 n Y 72 [(0, .ref v0), (1, .int v1), (2, .int v2), (4, .int s0.1)] [] s0.2 :=
  jit_ind (P := fun (s : Int32 × jM) => JW X (jEnd X n Y (some (.int rr)) μr 0 0) 0 0 n Y 72 [(0, .ref v0), (1, .int v1), (2, .int v2), (4, .int s.1)] [] s.2) (D := fun r => r = (rr, μr)) (fun s z Hs Ds => t_X12_draws_72 K hl Hs Ds) jF s0 z H D
set_option maxRecDepth 10000 in
theorem t_X12_draws_37 {X : jX} {l : Launch} {n : Nat} {Y : jY} (K : jOK X RX12 cX12_draws 5 (some .int) 3) (hl : X.2.1 = l) {rr : Int32} {μr : jM} {v0 : Nat} {v1 : Int32} {v2 : Int32} {v4 : Int32} {μ : jM} {z : ((Int32 × jM) ⊕ (Int32 × jM))} (H : b_X12_draws_37 Y v0 v1 v2 v4 μ = some z) (D : Sum.elim (fun (s : Int32 × jM) => JW X (jEnd X n Y (some (.int rr)) μr 0 0) 0 0 n Y 37 [(0, .ref v0), (1, .int v1), (2, .int v2), (4, .int s.1)] [] s.2) (fun r => r = (rr, μr)) z) : JW X (jEnd X n Y (some (.int rr)) μr 0 0) 0 0 n Y 37 [(0, .ref v0), (1, .int v1), (2, .int v2), (4, .int v4)] [] μ := by
  unfold b_X12_draws_37 at H
  refine r_iload K 3 dX12_draws_37 rfl ?_
  refine r_iload_n K 2 dX12_draws_39 rfl rfl ?_
  refine w_icmp_ge K 69 dX12_draws_40 (by decide) H (fun _ H => ?_) (fun _ H => ?_)
  · refine r_iconst (v := 0) K dX12_draws_69 (by decide) ?_
    refine r_istore K [(4, .int _), (0, .ref _), (1, .int _), (2, .int _)] dX12_draws_70 (by decide) rfl ?_
    obtain ⟨z2, H2, rfl⟩ := jmap H
    exact r_sub [1, 2, 3, 0] rfl (l_X12_draws_72 K hl H2 D)
  · refine r_aload_n K 0 dX12_draws_43 rfl rfl ?_
    refine w_getO K vc12 inX12 27 (by decide) mF_RX12_51 dX12_draws_44 H (fun x1 H => ?_)
    refine r_iconst (v := 5) K dX12_draws_47 (by decide) ?_
    refine r_iload_n K 1 dX12_draws_48 rfl rfl ?_
    refine r_imul K dX12_draws_49 ?_
    refine r_iload K 3 dX12_draws_50 rfl ?_
    refine r_iadd K dX12_draws_52 ?_
    refine r_aload_n K 0 dX12_draws_53 rfl rfl ?_
    refine r_bipush (v := 13) K dX12_draws_54 (by decide) ?_
    refine w_callV K hl H (fun r h => c_X12_draw l h) mC_yX12_draw mM_RX12_314 mI_yX12_draw mS_yX12_draw mZ_RX12 vc12 (Nat.le_of_ble_eq_true rfl) (Nat.le_of_ble_eq_true rfl) np_yX12_draw rfl (Nat.le_of_ble_eq_true rfl) dX12_draws_56 (fun r2 H => ?_) ⟨Nat.zero_le _, Nat.zero_le _⟩
    refine r_bipush (v := 6) K dX12_draws_59 (by decide) ?_
    refine r_isub K dX12_draws_61 ?_
    refine w_iast K dX12_draws_62 H (fun μ3 H => ?_)
    refine r_iinc K 3 [(4, .int _), (0, .ref _), (1, .int _), (2, .int _)] (v := _ + (1 : Int32)) dX12_draws_63 rfl rfl (by decide) rfl ?_
    refine r_goto K 37 dX12_draws_66 (by decide) ?_
    cases H
    exact r_sub [1, 2, 3, 0] rfl D
set_option maxRecDepth 10000 in
theorem l_X12_draws_37 {X : jX} {l : Launch} {n : Nat} {Y : jY} (K : jOK X RX12 cX12_draws 5 (some .int) 3) (hl : X.2.1 = l) {rr : Int32} {μr : jM} {v0 : Nat} {v1 : Int32} {v2 : Int32}  {s0 : Int32 × jM} {z : (Int32 × jM)} (H : jit jF (fun (s : Int32 × jM) => b_X12_draws_37 Y v0 v1 v2 s.1 s.2) s0 = some z) (D : z = (rr, μr)) : JW X (jEnd X n Y (some (.int rr)) μr 0 0) 0 0 n Y 37 [(0, .ref v0), (1, .int v1), (2, .int v2), (4, .int s0.1)] [] s0.2 :=
  jit_ind (P := fun (s : Int32 × jM) => JW X (jEnd X n Y (some (.int rr)) μr 0 0) 0 0 n Y 37 [(0, .ref v0), (1, .int v1), (2, .int v2), (4, .int s.1)] [] s.2) (D := fun r => r = (rr, μr)) (fun s z Hs Ds => t_X12_draws_37 K hl Hs Ds) jF s0 z H D
set_option maxRecDepth 10000 in
theorem t_X12_draws_0 {X : jX} {l : Launch} {n : Nat} {Y : jY} (K : jOK X RX12 cX12_draws 5 (some .int) 3) (hl : X.2.1 = l) {rr : Int32} {μr : jM} {v0 : Nat} {v1 : Int32} {v2 : Int32} {v3 : Int32} {μ : jM} {z : (Int32 × jM)} (H : f_X12_draws Y v0 v1 v2 v3 μ = some z) (D : z = (rr, μr)) : JW X (jEnd X n Y (some (.int rr)) μr 0 0) 0 0 n Y 0 [(0, .ref v0), (1, .int v1), (2, .int v2), (3, .int v3)] [] μ := by
  unfold f_X12_draws at H
  refine r_iload_n K 1 dX12_draws_0 rfl rfl ?_
  refine w_callS K hl H (fun r h => c_X12_isDrawer l h) mC_yX12_isDrawer mM_RX12_253 mT_yX12_isDrawer mZ_RX12 (Nat.le_of_ble_eq_true rfl) (Nat.le_of_ble_eq_true rfl) np_yX12_isDrawer rfl (Nat.le_of_ble_eq_true rfl) dX12_draws_1 (fun r1 H => ?_) ⟨Nat.zero_le _, Nat.zero_le _⟩
  refine w_if_eq K 16 dX12_draws_4 (by decide) H (fun _ H => ?_) (fun _ H => ?_)
  · exact r_sub [] rfl (t_X12_draws_16 K hl H D)
  · refine r_iload_n K 2 dX12_draws_7 rfl rfl ?_
    refine r_iconst (v := 1) K dX12_draws_8 (by decide) ?_
    refine r_iconst (v := 5) K dX12_draws_9 (by decide) ?_
    refine w_callS K hl H (fun r h => c_X12_in l h) mC_yX12_in mM_RX12_134 mT_yX12_in mZ_RX12 (Nat.le_of_ble_eq_true rfl) (Nat.le_of_ble_eq_true rfl) np_yX12_in rfl (Nat.le_of_ble_eq_true rfl) dX12_draws_10 (fun r2 H => ?_) ⟨Nat.zero_le _, Nat.zero_le _⟩
    refine w_if_ne K 18 dX12_draws_13 (by decide) H (fun _ H => ?_) (fun _ H => ?_)
    · refine r_aload_n K 0 dX12_draws_18 rfl rfl ?_
      refine r_iload_n K 3 dX12_draws_19 rfl rfl ?_
      refine r_ldc_w K (65535) mc_RX12_313 dX12_draws_20 ?_
      refine r_iand K dX12_draws_23 ?_
      refine w_put K vc12 inX12 tyX12_ok nmX12 41 (by decide) mF_RX12_309 rfl (fun _ => rfl) (fun _ => rfl) dX12_draws_24 H (fun μ3 H => ?_)
      refine r_aload_n K 0 dX12_draws_27 rfl rfl ?_
      refine w_getO K vc12 inX12 26 (by decide) mF_RX12_48 dX12_draws_28 H (fun x4 H => ?_)
      refine r_iload_n K 1 dX12_draws_31 rfl rfl ?_
      refine r_iload_n K 2 dX12_draws_32 rfl rfl ?_
      refine w_iast K dX12_draws_33 H (fun μ5 H => ?_)
      refine r_iconst (v := 0) K dX12_draws_34 (by decide) ?_
      refine r_istore K [(4, .int _), (0, .ref _), (1, .int _), (2, .int _), (3, .int _)] dX12_draws_35 (by decide) rfl ?_
      exact r_sub [1, 2, 3, 0] rfl (l_X12_draws_37 K hl H D)
    · exact r_sub [] rfl (t_X12_draws_16 K hl H D)
theorem c_X12_draws (l : Launch) {n : Nat} {Y : jY} {v0 : Nat} {v1 : Int32} {v2 : Int32} {v3 : Int32} {μ : jM} {z : Int32 × jM} (H : f_X12_draws Y v0 v1 v2 v3 μ = some z) : jC l yX12_draws cX12_draws 5 (some .int) 3 0 0 [.ref v0, .int v1, .int v2, .int v3] n Y μ n Y (some (.int z.1)) z.2 := by
  refine jC_of (by decide +kernel) (Nat.le_of_ble_eq_true rfl) (fun X hl K _ _ _ => ?_)
  obtain ⟨rr, μr⟩ := z
  exact t_X12_draws_0 K hl H rfl
