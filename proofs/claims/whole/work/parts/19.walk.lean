/-! RX12 write(II)I -/
def b_X12_write_25 (Y : jY) (μ : jM) : Option (Int32 × jM) :=
  some ((-1 : Int32), μ)
def b_X12_write_94 (Y : jY) (v0 : Nat) (v1 : Int32) (v4 : Int32) (μ : jM) : Option ((Int32 × jM) ⊕ (Int32 × jM)) :=
  (jgI Y μ v0 12 8).bind fun x1 =>
  if ((x1 - ((1 : Int32)))) ≤ v4 then
    (jgI Y μ v0 12 8).bind fun x2 =>
    some (.inr (x2, μ))
  else
    (jgO Y μ v0 12 28).bind fun x3 =>
    (jgO Y μ v0 12 7).bind fun x4 =>
    (jaI Y μ x4 20 v4).bind fun x5 =>
    (jas Y μ x3 20 ((((((5 : Int32)) * v1)) + v4)) (.int x5)).bind fun μ6 =>
    some (.inl ((v4 + (1 : Int32)), μ6))
def b_X12_write_58 (Y : jY) (v0 : Nat) (v1 : Int32) (v4 : Int32) (μ : jM) : Option ((Int32 × jM) ⊕ (Int32 × jM)) :=
  (jgI Y μ v0 12 8).bind fun x1 =>
  if x1 ≤ v4 then
    (jit jF (fun (s : Int32 × jM) => b_X12_write_94 Y v0 v1 s.1 s.2) ((0 : Int32), μ)).map (fun r => (.inr r))
  else
    (jgO Y μ v0 12 27).bind fun x2 =>
    (jgO Y μ v0 12 6).bind fun x3 =>
    (jaI Y μ x3 20 v4).bind fun x4 =>
    (jas Y μ x2 20 ((((((5 : Int32)) * v1)) + v4)) (.int x4)).bind fun μ5 =>
    some (.inl ((v4 + (1 : Int32)), μ5))
def f_X12_write (Y : jY) (v0 : Nat) (v1 : Int32) (v2 : Int32) (μ : jM) : Option (Int32 × jM) :=
  (f_X12_isDrawer Y v1 μ).bind fun r1 =>
  if r1.1 = 0 then
    b_X12_write_25 Y r1.2
  else
    (f_X12_in Y v2 ((1 : Int32)) ((60 : Int32)) r1.2).bind fun r2 =>
    if r2.1 = 0 then
      b_X12_write_25 Y r2.2
    else
      (jgI Y r2.2 v0 12 1).bind fun x3 =>
      if v2 ≤ x3 then
        (jrcv Y v0 12 (f_X12_begins Y v0 v2 r2.2)).bind fun r4 =>
        (jrcv Y v0 12 (f_X12_reads Y v0 ((0 : Int32)) r4.2)).bind fun r5 =>
        if 0 ≤ r5.1 then
          (jgO Y r5.2 v0 12 26).bind fun x6 =>
          (jgI Y r5.2 v0 12 8).bind fun x7 =>
          (jas Y r5.2 x6 20 v1 (.int x7)).bind fun μ8 =>
          jit jF (fun (s : Int32 × jM) => b_X12_write_58 Y v0 v1 s.1 s.2) ((0 : Int32), μ8)
        else
          some (r5.1, r5.2)
      else
        b_X12_write_25 Y r2.2
set_option maxRecDepth 10000 in
theorem t_X12_write_25 {X : jX} {l : Launch} {n : Nat} {Y : jY} (K : jOK X RX12 cX12_write 5 (some .int) 4) (hl : X.2.1 = l) {rr : Int32} {μr : jM} {μ : jM} {z : (Int32 × jM)} (H : b_X12_write_25 Y μ = some z) (D : z = (rr, μr)) : JW X (jEnd X n Y (some (.int rr)) μr 0 0) 0 0 n Y 25 [] [] μ := by
  unfold b_X12_write_25 at H
  refine r_iconst (v := -1) K dX12_write_25 (by decide) ?_
  cases H
  obtain ⟨rfl, rfl⟩ := jfin2 D
  exact r_iret K dX12_write_26
set_option maxRecDepth 10000 in
theorem t_X12_write_94 {X : jX} {l : Launch} {n : Nat} {Y : jY} (K : jOK X RX12 cX12_write 5 (some .int) 4) (hl : X.2.1 = l) {rr : Int32} {μr : jM} {v0 : Nat} {v1 : Int32} {v4 : Int32} {μ : jM} {z : ((Int32 × jM) ⊕ (Int32 × jM))} (H : b_X12_write_94 Y v0 v1 v4 μ = some z) (D : Sum.elim (fun (s : Int32 × jM) => JW X (jEnd X n Y (some (.int rr)) μr 0 0) 0 0 n Y 94 [(0, .ref v0), (1, .int v1), (4, .int s.1)] [] s.2) (fun r => r = (rr, μr)) z) : JW X (jEnd X n Y (some (.int rr)) μr 0 0) 0 0 n Y 94 [(0, .ref v0), (1, .int v1), (4, .int v4)] [] μ := by
  unfold b_X12_write_94 at H
  refine r_iload K 2 dX12_write_94 rfl ?_
  refine r_aload_n K 0 dX12_write_96 rfl rfl ?_
  refine w_getI K vc12 inX12 8 (by decide) mF_RX12_121 dX12_write_97 H (fun x1 H => ?_)
  refine r_iconst (v := 1) K dX12_write_100 (by decide) ?_
  refine r_isub K dX12_write_101 ?_
  refine w_icmp_ge K 129 dX12_write_102 (by decide) H (fun _ H => ?_) (fun _ H => ?_)
  · refine r_aload_n K 0 dX12_write_129 rfl rfl ?_
    refine w_getI K vc12 inX12 8 (by decide) mF_RX12_121 dX12_write_130 H (fun x2 H => ?_)
    cases H
    simp only [Sum.elim_inr] at D
    obtain ⟨rfl, rfl⟩ := jfin2 D
    exact r_iret K dX12_write_133
  · refine r_aload_n K 0 dX12_write_105 rfl rfl ?_
    refine w_getO K vc12 inX12 28 (by decide) mF_RX12_54 dX12_write_106 H (fun x3 H => ?_)
    refine r_iconst (v := 5) K dX12_write_109 (by decide) ?_
    refine r_iload_n K 1 dX12_write_110 rfl rfl ?_
    refine r_imul K dX12_write_111 ?_
    refine r_iload K 2 dX12_write_112 rfl ?_
    refine r_iadd K dX12_write_114 ?_
    refine r_aload_n K 0 dX12_write_115 rfl rfl ?_
    refine w_getO K vc12 inX12 7 (by decide) mF_RX12_17 dX12_write_116 H (fun x4 H => ?_)
    refine r_iload K 2 dX12_write_119 rfl ?_
    refine w_iald K dX12_write_121 H (fun x5 H => ?_)
    refine w_iast K dX12_write_122 H (fun μ6 H => ?_)
    refine r_iinc K 2 [(4, .int _), (0, .ref _), (1, .int _)] (v := _ + (1 : Int32)) dX12_write_123 rfl rfl (by decide) rfl ?_
    refine r_goto K 94 dX12_write_126 (by decide) ?_
    cases H
    exact r_sub [1, 2, 0] rfl D
set_option maxRecDepth 10000 in
theorem l_X12_write_94 {X : jX} {l : Launch} {n : Nat} {Y : jY} (K : jOK X RX12 cX12_write 5 (some .int) 4) (hl : X.2.1 = l) {rr : Int32} {μr : jM} {v0 : Nat} {v1 : Int32}  {s0 : Int32 × jM} {z : (Int32 × jM)} (H : jit jF (fun (s : Int32 × jM) => b_X12_write_94 Y v0 v1 s.1 s.2) s0 = some z) (D : z = (rr, μr)) : JW X (jEnd X n Y (some (.int rr)) μr 0 0) 0 0 n Y 94 [(0, .ref v0), (1, .int v1), (4, .int s0.1)] [] s0.2 :=
  jit_ind (P := fun (s : Int32 × jM) => JW X (jEnd X n Y (some (.int rr)) μr 0 0) 0 0 n Y 94 [(0, .ref v0), (1, .int v1), (4, .int s.1)] [] s.2) (D := fun r => r = (rr, μr)) (fun s z Hs Ds => t_X12_write_94 K hl Hs Ds) jF s0 z H D
set_option maxRecDepth 10000 in
theorem t_X12_write_58 {X : jX} {l : Launch} {n : Nat} {Y : jY} (K : jOK X RX12 cX12_write 5 (some .int) 4) (hl : X.2.1 = l) {rr : Int32} {μr : jM} {v0 : Nat} {v1 : Int32} {v4 : Int32} {μ : jM} {z : ((Int32 × jM) ⊕ (Int32 × jM))} (H : b_X12_write_58 Y v0 v1 v4 μ = some z) (D : Sum.elim (fun (s : Int32 × jM) => JW X (jEnd X n Y (some (.int rr)) μr 0 0) 0 0 n Y 58 [(0, .ref v0), (1, .int v1), (4, .int s.1)] [] s.2) (fun r => r = (rr, μr)) z) : JW X (jEnd X n Y (some (.int rr)) μr 0 0) 0 0 n Y 58 [(0, .ref v0), (1, .int v1), (4, .int v4)] [] μ := by
  unfold b_X12_write_58 at H
  refine r_iload K 2 dX12_write_58 rfl ?_
  refine r_aload_n K 0 dX12_write_60 rfl rfl ?_
  refine w_getI K vc12 inX12 8 (by decide) mF_RX12_121 dX12_write_61 H (fun x1 H => ?_)
  refine w_icmp_ge K 91 dX12_write_64 (by decide) H (fun _ H => ?_) (fun _ H => ?_)
  · refine r_iconst (v := 0) K dX12_write_91 (by decide) ?_
    refine r_istore K [(4, .int _), (0, .ref _), (1, .int _)] dX12_write_92 (by decide) rfl ?_
    obtain ⟨z2, H2, rfl⟩ := jmap H
    exact r_sub [1, 2, 0] rfl (l_X12_write_94 K hl H2 D)
  · refine r_aload_n K 0 dX12_write_67 rfl rfl ?_
    refine w_getO K vc12 inX12 27 (by decide) mF_RX12_51 dX12_write_68 H (fun x2 H => ?_)
    refine r_iconst (v := 5) K dX12_write_71 (by decide) ?_
    refine r_iload_n K 1 dX12_write_72 rfl rfl ?_
    refine r_imul K dX12_write_73 ?_
    refine r_iload K 2 dX12_write_74 rfl ?_
    refine r_iadd K dX12_write_76 ?_
    refine r_aload_n K 0 dX12_write_77 rfl rfl ?_
    refine w_getO K vc12 inX12 6 (by decide) mF_RX12_13 dX12_write_78 H (fun x3 H => ?_)
    refine r_iload K 2 dX12_write_81 rfl ?_
    refine w_iald K dX12_write_83 H (fun x4 H => ?_)
    refine w_iast K dX12_write_84 H (fun μ5 H => ?_)
    refine r_iinc K 2 [(4, .int _), (0, .ref _), (1, .int _)] (v := _ + (1 : Int32)) dX12_write_85 rfl rfl (by decide) rfl ?_
    refine r_goto K 58 dX12_write_88 (by decide) ?_
    cases H
    exact r_sub [1, 2, 0] rfl D
set_option maxRecDepth 10000 in
theorem l_X12_write_58 {X : jX} {l : Launch} {n : Nat} {Y : jY} (K : jOK X RX12 cX12_write 5 (some .int) 4) (hl : X.2.1 = l) {rr : Int32} {μr : jM} {v0 : Nat} {v1 : Int32}  {s0 : Int32 × jM} {z : (Int32 × jM)} (H : jit jF (fun (s : Int32 × jM) => b_X12_write_58 Y v0 v1 s.1 s.2) s0 = some z) (D : z = (rr, μr)) : JW X (jEnd X n Y (some (.int rr)) μr 0 0) 0 0 n Y 58 [(0, .ref v0), (1, .int v1), (4, .int s0.1)] [] s0.2 :=
  jit_ind (P := fun (s : Int32 × jM) => JW X (jEnd X n Y (some (.int rr)) μr 0 0) 0 0 n Y 58 [(0, .ref v0), (1, .int v1), (4, .int s.1)] [] s.2) (D := fun r => r = (rr, μr)) (fun s z Hs Ds => t_X12_write_58 K hl Hs Ds) jF s0 z H D
set_option maxRecDepth 10000 in
theorem t_X12_write_0 {X : jX} {l : Launch} {n : Nat} {Y : jY} (K : jOK X RX12 cX12_write 5 (some .int) 4) (hl : X.2.1 = l) {rr : Int32} {μr : jM} {v0 : Nat} {v1 : Int32} {v2 : Int32} {μ : jM} {z : (Int32 × jM)} (H : f_X12_write Y v0 v1 v2 μ = some z) (D : z = (rr, μr)) : JW X (jEnd X n Y (some (.int rr)) μr 0 0) 0 0 n Y 0 [(0, .ref v0), (1, .int v1), (2, .int v2)] [] μ := by
  unfold f_X12_write at H
  refine r_iload_n K 1 dX12_write_0 rfl rfl ?_
  refine w_callS K hl H (fun r h => c_X12_isDrawer l h) mC_yX12_isDrawer mM_RX12_253 mT_yX12_isDrawer mZ_RX12 (Nat.le_of_ble_eq_true rfl) (Nat.le_of_ble_eq_true rfl) np_yX12_isDrawer rfl (Nat.le_of_ble_eq_true rfl) dX12_write_1 (fun r1 H => ?_) ⟨Nat.zero_le _, Nat.zero_le _⟩
  refine w_if_eq K 25 dX12_write_4 (by decide) H (fun _ H => ?_) (fun _ H => ?_)
  · exact r_sub [] rfl (t_X12_write_25 K hl H D)
  · refine r_iload_n K 2 dX12_write_7 rfl rfl ?_
    refine r_iconst (v := 1) K dX12_write_8 (by decide) ?_
    refine r_bipush (v := 60) K dX12_write_9 (by decide) ?_
    refine w_callS K hl H (fun r h => c_X12_in l h) mC_yX12_in mM_RX12_134 mT_yX12_in mZ_RX12 (Nat.le_of_ble_eq_true rfl) (Nat.le_of_ble_eq_true rfl) np_yX12_in rfl (Nat.le_of_ble_eq_true rfl) dX12_write_11 (fun r2 H => ?_) ⟨Nat.zero_le _, Nat.zero_le _⟩
    refine w_if_eq K 25 dX12_write_14 (by decide) H (fun _ H => ?_) (fun _ H => ?_)
    · exact r_sub [] rfl (t_X12_write_25 K hl H D)
    · refine r_iload_n K 2 dX12_write_17 rfl rfl ?_
      refine r_aload_n K 0 dX12_write_18 rfl rfl ?_
      refine w_getI K vc12 inX12 1 (by decide) mF_RX12_93 dX12_write_19 H (fun x3 H => ?_)
      refine w_icmp_le K 27 dX12_write_22 (by decide) H (fun _ H => ?_) (fun _ H => ?_)
      · refine r_aload_n K 0 dX12_write_27 rfl rfl ?_
        refine r_iload_n K 2 dX12_write_28 rfl rfl ?_
        refine w_callV K hl H (fun r h => c_X12_begins l h) mC_yX12_begins mM_RX12_138 mI_yX12_begins mS_yX12_begins mZ_RX12 vc12 (Nat.le_of_ble_eq_true rfl) (Nat.le_of_ble_eq_true rfl) np_yX12_begins rfl (Nat.le_of_ble_eq_true rfl) dX12_write_29 (fun r4 H => ?_) ⟨Nat.zero_le _, Nat.zero_le _⟩
        refine r_pop K dX12_write_32 rfl ?_
        refine r_aload_n K 0 dX12_write_33 rfl rfl ?_
        refine r_iconst (v := 0) K dX12_write_34 (by decide) ?_
        refine w_callV K hl H (fun r h => c_X12_reads l h) mC_yX12_reads mM_RX12_141 mI_yX12_reads mS_yX12_reads mZ_RX12 vc12 (Nat.le_of_ble_eq_true rfl) (Nat.le_of_ble_eq_true rfl) np_yX12_reads rfl (Nat.le_of_ble_eq_true rfl) dX12_write_35 (fun r5 H => ?_) ⟨Nat.zero_le _, Nat.zero_le _⟩
        refine r_istore_n K [(3, .int _), (0, .ref _), (1, .int _), (2, .int _)] dX12_write_38 rfl (by decide) rfl ?_
        refine r_iload_n K 0 dX12_write_39 rfl rfl ?_
        refine w_if_ge K 45 dX12_write_40 (by decide) H (fun _ H => ?_) (fun _ H => ?_)
        · refine r_aload_n K 1 dX12_write_45 rfl rfl ?_
          refine w_getO K vc12 inX12 26 (by decide) mF_RX12_48 dX12_write_46 H (fun x6 H => ?_)
          refine r_iload_n K 2 dX12_write_49 rfl rfl ?_
          refine r_aload_n K 1 dX12_write_50 rfl rfl ?_
          refine w_getI K vc12 inX12 8 (by decide) mF_RX12_121 dX12_write_51 H (fun x7 H => ?_)
          refine w_iast K dX12_write_54 H (fun μ8 H => ?_)
          refine r_iconst (v := 0) K dX12_write_55 (by decide) ?_
          refine r_istore K [(4, .int _), (3, .int _), (0, .ref _), (1, .int _), (2, .int _)] dX12_write_56 (by decide) rfl ?_
          exact r_sub [2, 3, 0] rfl (l_X12_write_58 K hl H D)
        · refine r_iload_n K 0 dX12_write_43 rfl rfl ?_
          cases H
          obtain ⟨rfl, rfl⟩ := jfin2 D
          exact r_iret K dX12_write_44
      · exact r_sub [] rfl (t_X12_write_25 K hl H D)
theorem c_X12_write (l : Launch) {n : Nat} {Y : jY} {v0 : Nat} {v1 : Int32} {v2 : Int32} {μ : jM} {z : Int32 × jM} (H : f_X12_write Y v0 v1 v2 μ = some z) : jC l yX12_write cX12_write 5 (some .int) 4 0 0 [.ref v0, .int v1, .int v2] n Y μ n Y (some (.int z.1)) z.2 := by
  refine jC_of (by decide +kernel) (Nat.le_of_ble_eq_true rfl) (fun X hl K _ _ _ => ?_)
  obtain ⟨rr, μr⟩ := z
  exact t_X12_write_0 K hl H rfl
/-! RX12 goes(III)V -/
def b_X12_goes_154 (Y : jY) (v0 : Nat) (v1 : Int32) (v2 : Int32) (v4 : Int32) (v5 : Int32) (v6 : Int32) (μ : jM) : Option ((Int32 × jM) ⊕ ((Int32 × jM) ⊕ (jM))) :=
  if v4 ≤ v6 then
    some (.inr (.inl ((v5 + (1 : Int32)), μ)))
  else
    (jgO Y μ v0 12 37).bind fun x1 =>
    (jgO Y μ v0 12 38).bind fun x2 =>
    (jaL Y μ x2 21 v6).bind fun x3 =>
    (jas Y μ x1 21 v6 (.long x3)).bind fun μ4 =>
    some (.inl ((v6 + (1 : Int32)), μ4))
def b_X12_goes_144 (Y : jY) (v0 : Nat) (v1 : Int32) (v2 : Int32) (v4 : Int32) (v5 : Int32) (v6 : Int32) (t0 : Nat) (t1 : Int32) (t2 : Int64) (μ : jM) : Option ((Int32 × jM) ⊕ ((Int32 × jM) ⊕ (jM))) :=
  (jas Y μ t0 21 t1 (.long t2)).bind fun μ1 =>
  some (.inl ((v6 + (1 : Int32)), μ1))
def b_X12_goes_101 (Y : jY) (v0 : Nat) (v1 : Int32) (v2 : Int32) (v4 : Int32) (v5 : Int32) (v6 : Int32) (t0 : Int64) (μ : jM) : Option ((Int32 × jM) ⊕ ((Int32 × jM) ⊕ (jM))) :=
  (jgO Y μ v0 12 38).bind fun x1 =>
  if ((v4 - ((1 : Int32)))) ≤ v6 then
    b_X12_goes_144 Y v0 v1 v2 v4 v5 v6 x1 v6 t0 μ
  else
    (jgO Y μ v0 12 37).bind fun x2 =>
    (jaL Y μ x2 21 ((v6 + ((1 : Int32))))).bind fun x3 =>
    (jrcv Y v0 12 (f_X12_c Y v0 v1 v6 μ)).bind fun r4 =>
    b_X12_goes_144 Y v0 v1 v2 v4 v5 v6 x1 v6 (t0 + ((x3 * ((r4.1.toInt64))))) r4.2
def b_X12_goes_54 (Y : jY) (v0 : Nat) (v1 : Int32) (v2 : Int32) (v4 : Int32) (v5 : Int32) (v6 : Int32) (μ : jM) : Option ((Int32 × jM) ⊕ ((Int32 × jM) ⊕ (jM))) :=
  if v4 ≤ v6 then
    (jit jF (fun (s : Int32 × jM) => b_X12_goes_154 Y v0 v1 v2 v4 v5 s.1 s.2) ((0 : Int32), μ)).map (fun r => (.inr r))
  else
    (jgO Y μ v0 12 37).bind fun x1 =>
    (jaL Y μ x1 21 v6).bind fun x2 =>
    (jrcv Y v0 12 (f_X12_a Y v0 v1 v6 μ)).bind fun r3 =>
    if v6 ≤ 0 then
      b_X12_goes_101 Y v0 v1 v2 v4 v5 v6 (x2 * ((r3.1.toInt64))) r3.2
    else
      (jgO Y r3.2 v0 12 37).bind fun x4 =>
      (jaL Y r3.2 x4 21 ((v6 - ((1 : Int32))))).bind fun x5 =>
      b_X12_goes_101 Y v0 v1 v2 v4 v5 v6 (((x2 * ((r3.1.toInt64)))) + x5) r3.2
def b_X12_goes_45 (Y : jY) (v0 : Nat) (v1 : Int32) (v2 : Int32) (v4 : Int32) (v5 : Int32) (μ : jM) : Option ((Int32 × jM) ⊕ (jM)) :=
  if v2 ≤ v5 then
    some (.inr μ)
  else
    jit jF (fun (s : Int32 × jM) => b_X12_goes_54 Y v0 v1 v2 v4 v5 s.1 s.2) ((0 : Int32), μ)
def b_X12_goes_35 (Y : jY) (v0 : Nat) (v1 : Int32) (v2 : Int32) (v3 : Int32) (v4 : Int32) (v5 : Int32) (t0 : Nat) (t1 : Int32) (t2 : Int64) (μ : jM) : Option ((Int32 × jM) ⊕ (jM)) :=
  (jas Y μ t0 21 t1 (.long t2)).bind fun μ1 =>
  some (.inl ((v5 + (1 : Int32)), μ1))
def b_X12_goes_11 (Y : jY) (v0 : Nat) (v1 : Int32) (v2 : Int32) (v3 : Int32) (v4 : Int32) (v5 : Int32) (μ : jM) : Option ((Int32 × jM) ⊕ (jM)) :=
  if v4 ≤ v5 then
    (jit jF (fun (s : Int32 × jM) => b_X12_goes_45 Y v0 v1 v2 v4 s.1 s.2) ((0 : Int32), μ)).map (fun r => (.inr r))
  else
    (jgO Y μ v0 12 37).bind fun x1 =>
    if v5 = v3 then
      b_X12_goes_35 Y v0 v1 v2 v3 v4 v5 x1 v5 (1 : Int64) μ
    else
      b_X12_goes_35 Y v0 v1 v2 v3 v4 v5 x1 v5 (0 : Int64) μ
def f_X12_goes (Y : jY) (v0 : Nat) (v1 : Int32) (v2 : Int32) (v3 : Int32) (μ : jM) : Option (jM) :=
  (jgO Y μ v0 12 26).bind fun x1 =>
  (jaI Y μ x1 20 v1).bind fun x2 =>
  jit jF (fun (s : Int32 × jM) => b_X12_goes_11 Y v0 v1 v2 v3 x2 s.1 s.2) ((0 : Int32), μ)
set_option maxRecDepth 10000 in
theorem t_X12_goes_154 {X : jX} {l : Launch} {n : Nat} {Y : jY} (K : jOK X RX12 cX12_goes 9 none 2) (hl : X.2.1 = l) {μr : jM} {v0 : Nat} {v1 : Int32} {v2 : Int32} {v4 : Int32} {v5 : Int32} {v6 : Int32} {μ : jM} {z : ((Int32 × jM) ⊕ ((Int32 × jM) ⊕ (jM)))} (H : b_X12_goes_154 Y v0 v1 v2 v4 v5 v6 μ = some z) (D : Sum.elim (fun (s : Int32 × jM) => JW X (jEnd X n Y none μr 0 0) 0 0 n Y 154 [(0, .ref v0), (1, .int v1), (2, .int v2), (4, .int v4), (5, .int v5), (6, .int s.1)] [] s.2) (Sum.elim (fun (s : Int32 × jM) => JW X (jEnd X n Y none μr 0 0) 0 0 n Y 45 [(0, .ref v0), (1, .int v1), (2, .int v2), (4, .int v4), (5, .int s.1)] [] s.2) (fun r => r = μr)) z) : JW X (jEnd X n Y none μr 0 0) 0 0 n Y 154 [(0, .ref v0), (1, .int v1), (2, .int v2), (4, .int v4), (5, .int v5), (6, .int v6)] [] μ := by
  unfold b_X12_goes_154 at H
  refine r_iload K 5 dX12_goes_154 rfl ?_
  refine r_iload K 3 dX12_goes_156 rfl ?_
  refine w_icmp_ge K 181 dX12_goes_158 (by decide) H (fun _ H => ?_) (fun _ H => ?_)
  · refine r_iinc K 4 [(5, .int _), (0, .ref _), (1, .int _), (2, .int _), (4, .int _), (6, .int _)] (v := _ + (1 : Int32)) dX12_goes_181 rfl rfl (by decide) rfl ?_
    refine r_goto K 45 dX12_goes_184 (by decide) ?_
    cases H
    exact r_sub [1, 2, 3, 4, 0] rfl D
  · refine r_aload_n K 0 dX12_goes_161 rfl rfl ?_
    refine w_getO K vc12 inX12 37 (by decide) mF_RX12_81 dX12_goes_162 H (fun x1 H => ?_)
    refine r_iload K 5 dX12_goes_165 rfl ?_
    refine r_aload_n K 0 dX12_goes_167 rfl rfl ?_
    refine w_getO K vc12 inX12 38 (by decide) mF_RX12_84 dX12_goes_168 H (fun x2 H => ?_)
    refine r_iload K 5 dX12_goes_171 rfl ?_
    refine w_lald K dX12_goes_173 H (fun x3 H => ?_)
    refine w_last K dX12_goes_174 H (fun μ4 H => ?_)
    refine r_iinc K 5 [(6, .int _), (0, .ref _), (1, .int _), (2, .int _), (4, .int _), (5, .int _)] (v := _ + (1 : Int32)) dX12_goes_175 rfl rfl (by decide) rfl ?_
    refine r_goto K 154 dX12_goes_178 (by decide) ?_
    cases H
    exact r_sub [1, 2, 3, 4, 5, 0] rfl D
set_option maxRecDepth 10000 in
theorem l_X12_goes_154 {X : jX} {l : Launch} {n : Nat} {Y : jY} (K : jOK X RX12 cX12_goes 9 none 2) (hl : X.2.1 = l) {μr : jM} {v0 : Nat} {v1 : Int32} {v2 : Int32} {v4 : Int32} {v5 : Int32}  {s0 : Int32 × jM} {z : ((Int32 × jM) ⊕ (jM))} (H : jit jF (fun (s : Int32 × jM) => b_X12_goes_154 Y v0 v1 v2 v4 v5 s.1 s.2) s0 = some z) (D : Sum.elim (fun (s : Int32 × jM) => JW X (jEnd X n Y none μr 0 0) 0 0 n Y 45 [(0, .ref v0), (1, .int v1), (2, .int v2), (4, .int v4), (5, .int s.1)] [] s.2) (fun r => r = μr) z) : JW X (jEnd X n Y none μr 0 0) 0 0 n Y 154 [(0, .ref v0), (1, .int v1), (2, .int v2), (4, .int v4), (5, .int v5), (6, .int s0.1)] [] s0.2 :=
  jit_ind (P := fun (s : Int32 × jM) => JW X (jEnd X n Y none μr 0 0) 0 0 n Y 154 [(0, .ref v0), (1, .int v1), (2, .int v2), (4, .int v4), (5, .int v5), (6, .int s.1)] [] s.2) (D := Sum.elim (fun (s : Int32 × jM) => JW X (jEnd X n Y none μr 0 0) 0 0 n Y 45 [(0, .ref v0), (1, .int v1), (2, .int v2), (4, .int v4), (5, .int s.1)] [] s.2) (fun r => r = μr)) (fun s z Hs Ds => t_X12_goes_154 K hl Hs Ds) jF s0 z H D
set_option maxRecDepth 10000 in
theorem t_X12_goes_144 {X : jX} {l : Launch} {n : Nat} {Y : jY} (K : jOK X RX12 cX12_goes 9 none 2) (hl : X.2.1 = l) {μr : jM} {v0 : Nat} {v1 : Int32} {v2 : Int32} {v4 : Int32} {v5 : Int32} {v6 : Int32} {t0 : Nat} {t1 : Int32} {t2 : Int64} {μ : jM} {z : ((Int32 × jM) ⊕ ((Int32 × jM) ⊕ (jM)))} (H : b_X12_goes_144 Y v0 v1 v2 v4 v5 v6 t0 t1 t2 μ = some z) (D : Sum.elim (fun (s : Int32 × jM) => JW X (jEnd X n Y none μr 0 0) 0 0 n Y 54 [(0, .ref v0), (1, .int v1), (2, .int v2), (4, .int v4), (5, .int v5), (6, .int s.1)] [] s.2) (Sum.elim (fun (s : Int32 × jM) => JW X (jEnd X n Y none μr 0 0) 0 0 n Y 45 [(0, .ref v0), (1, .int v1), (2, .int v2), (4, .int v4), (5, .int s.1)] [] s.2) (fun r => r = μr)) z) : JW X (jEnd X n Y none μr 0 0) 0 0 n Y 144 [(0, .ref v0), (1, .int v1), (2, .int v2), (4, .int v4), (5, .int v5), (6, .int v6)] [.long t2, .int t1, .ref t0] μ := by
  unfold b_X12_goes_144 at H
  refine w_last K dX12_goes_144 H (fun μ1 H => ?_)
  refine r_iinc K 5 [(6, .int _), (0, .ref _), (1, .int _), (2, .int _), (4, .int _), (5, .int _)] (v := _ + (1 : Int32)) dX12_goes_145 rfl rfl (by decide) rfl ?_
  refine r_goto K 54 dX12_goes_148 (by decide) ?_
  cases H
  exact r_sub [1, 2, 3, 4, 5, 0] rfl D
set_option maxRecDepth 10000 in
theorem t_X12_goes_101 {X : jX} {l : Launch} {n : Nat} {Y : jY} (K : jOK X RX12 cX12_goes 9 none 2) (hl : X.2.1 = l) {μr : jM} {v0 : Nat} {v1 : Int32} {v2 : Int32} {v4 : Int32} {v5 : Int32} {v6 : Int32} {t0 : Int64} {μ : jM} {z : ((Int32 × jM) ⊕ ((Int32 × jM) ⊕ (jM)))} (H : b_X12_goes_101 Y v0 v1 v2 v4 v5 v6 t0 μ = some z) (D : Sum.elim (fun (s : Int32 × jM) => JW X (jEnd X n Y none μr 0 0) 0 0 n Y 54 [(0, .ref v0), (1, .int v1), (2, .int v2), (4, .int v4), (5, .int v5), (6, .int s.1)] [] s.2) (Sum.elim (fun (s : Int32 × jM) => JW X (jEnd X n Y none μr 0 0) 0 0 n Y 45 [(0, .ref v0), (1, .int v1), (2, .int v2), (4, .int v4), (5, .int s.1)] [] s.2) (fun r => r = μr)) z) : JW X (jEnd X n Y none μr 0 0) 0 0 n Y 101 [(0, .ref v0), (1, .int v1), (2, .int v2), (4, .int v4), (5, .int v5), (6, .int v6)] [.long t0] μ := by
  unfold b_X12_goes_101 at H
  refine r_lstore K [(7, .long _), (0, .ref _), (1, .int _), (2, .int _), (4, .int _), (5, .int _), (6, .int _)] dX12_goes_101 (by decide) rfl ?_
  refine r_aload_n K 1 dX12_goes_103 rfl rfl ?_
  refine w_getO K vc12 inX12 38 (by decide) mF_RX12_84 dX12_goes_104 H (fun x1 H => ?_)
  refine r_iload K 6 dX12_goes_107 rfl ?_
  refine r_iload K 6 dX12_goes_109 rfl ?_
  refine r_iload K 4 dX12_goes_111 rfl ?_
  refine r_iconst (v := 1) K dX12_goes_113 (by decide) ?_
  refine r_isub K dX12_goes_114 ?_
  refine w_icmp_ge K 142 dX12_goes_115 (by decide) H (fun _ H => ?_) (fun _ H => ?_)
  · refine r_lload K 0 dX12_goes_142 rfl ?_
    exact r_sub [1, 2, 3, 4, 5, 6] rfl (t_X12_goes_144 K hl H D)
  · refine r_lload K 0 dX12_goes_118 rfl ?_
    refine r_aload_n K 1 dX12_goes_120 rfl rfl ?_
    refine w_getO K vc12 inX12 37 (by decide) mF_RX12_81 dX12_goes_121 H (fun x2 H => ?_)
    refine r_iload K 6 dX12_goes_124 rfl ?_
    refine r_iconst (v := 1) K dX12_goes_126 (by decide) ?_
    refine r_iadd K dX12_goes_127 ?_
    refine w_lald K dX12_goes_128 H (fun x3 H => ?_)
    refine r_aload_n K 1 dX12_goes_129 rfl rfl ?_
    refine r_iload_n K 2 dX12_goes_130 rfl rfl ?_
    refine r_iload K 6 dX12_goes_131 rfl ?_
    refine w_callV K hl H (fun r h => c_X12_c l h) mC_yX12_c mM_RX12_260 mI_yX12_c mS_yX12_c mZ_RX12 vc12 (Nat.le_of_ble_eq_true rfl) (Nat.le_of_ble_eq_true rfl) np_yX12_c rfl (Nat.le_of_ble_eq_true rfl) dX12_goes_133 (fun r4 H => ?_) ⟨Nat.zero_le _, Nat.zero_le _⟩
    refine r_i2l K dX12_goes_136 ?_
    refine r_lmul K dX12_goes_137 ?_
    refine r_ladd K dX12_goes_138 ?_
    refine r_goto K 144 dX12_goes_139 (by decide) ?_
    exact r_sub [1, 2, 3, 4, 5, 6] rfl (t_X12_goes_144 K hl H D)
set_option maxRecDepth 10000 in
theorem t_X12_goes_54 {X : jX} {l : Launch} {n : Nat} {Y : jY} (K : jOK X RX12 cX12_goes 9 none 2) (hl : X.2.1 = l) {μr : jM} {v0 : Nat} {v1 : Int32} {v2 : Int32} {v4 : Int32} {v5 : Int32} {v6 : Int32} {μ : jM} {z : ((Int32 × jM) ⊕ ((Int32 × jM) ⊕ (jM)))} (H : b_X12_goes_54 Y v0 v1 v2 v4 v5 v6 μ = some z) (D : Sum.elim (fun (s : Int32 × jM) => JW X (jEnd X n Y none μr 0 0) 0 0 n Y 54 [(0, .ref v0), (1, .int v1), (2, .int v2), (4, .int v4), (5, .int v5), (6, .int s.1)] [] s.2) (Sum.elim (fun (s : Int32 × jM) => JW X (jEnd X n Y none μr 0 0) 0 0 n Y 45 [(0, .ref v0), (1, .int v1), (2, .int v2), (4, .int v4), (5, .int s.1)] [] s.2) (fun r => r = μr)) z) : JW X (jEnd X n Y none μr 0 0) 0 0 n Y 54 [(0, .ref v0), (1, .int v1), (2, .int v2), (4, .int v4), (5, .int v5), (6, .int v6)] [] μ := by
  unfold b_X12_goes_54 at H
  refine r_iload K 5 dX12_goes_54 rfl ?_
  refine r_iload K 3 dX12_goes_56 rfl ?_
  refine w_icmp_ge K 151 dX12_goes_58 (by decide) H (fun _ H => ?_) (fun _ H => ?_)
  · refine r_iconst (v := 0) K dX12_goes_151 (by decide) ?_
    refine r_istore K [(6, .int _), (0, .ref _), (1, .int _), (2, .int _), (4, .int _), (5, .int _)] dX12_goes_152 (by decide) rfl ?_
    obtain ⟨z2, H2, rfl⟩ := jmap H
    exact r_sub [1, 2, 3, 4, 5, 0] rfl (l_X12_goes_154 K hl H2 D)
  · refine r_aload_n K 0 dX12_goes_61 rfl rfl ?_
    refine w_getO K vc12 inX12 37 (by decide) mF_RX12_81 dX12_goes_62 H (fun x1 H => ?_)
    refine r_iload K 5 dX12_goes_65 rfl ?_
    refine w_lald K dX12_goes_67 H (fun x2 H => ?_)
    refine r_aload_n K 0 dX12_goes_68 rfl rfl ?_
    refine r_iload_n K 1 dX12_goes_69 rfl rfl ?_
    refine r_iload K 5 dX12_goes_70 rfl ?_
    refine w_callV K hl H (fun r h => c_X12_a l h) mC_yX12_a mM_RX12_256 mI_yX12_a mS_yX12_a mZ_RX12 vc12 (Nat.le_of_ble_eq_true rfl) (Nat.le_of_ble_eq_true rfl) np_yX12_a rfl (Nat.le_of_ble_eq_true rfl) dX12_goes_72 (fun r3 H => ?_) ⟨Nat.zero_le _, Nat.zero_le _⟩
    refine r_i2l K dX12_goes_75 ?_
    refine r_lmul K dX12_goes_76 ?_
    refine r_lstore K [(7, .long _), (0, .ref _), (1, .int _), (2, .int _), (4, .int _), (5, .int _), (6, .int _)] dX12_goes_77 (by decide) rfl ?_
    refine r_iload K 6 dX12_goes_79 rfl ?_
    refine w_if_le K 99 dX12_goes_81 (by decide) H (fun _ H => ?_) (fun _ H => ?_)
    · refine r_lload K 0 dX12_goes_99 rfl ?_
      exact r_sub [1, 2, 3, 4, 5, 6] rfl (t_X12_goes_101 K hl H D)
    · refine r_lload K 0 dX12_goes_84 rfl ?_
      refine r_aload_n K 1 dX12_goes_86 rfl rfl ?_
      refine w_getO K vc12 inX12 37 (by decide) mF_RX12_81 dX12_goes_87 H (fun x4 H => ?_)
      refine r_iload K 6 dX12_goes_90 rfl ?_
      refine r_iconst (v := 1) K dX12_goes_92 (by decide) ?_
      refine r_isub K dX12_goes_93 ?_
      refine w_lald K dX12_goes_94 H (fun x5 H => ?_)
      refine r_ladd K dX12_goes_95 ?_
      refine r_goto K 101 dX12_goes_96 (by decide) ?_
      exact r_sub [1, 2, 3, 4, 5, 6] rfl (t_X12_goes_101 K hl H D)
set_option maxRecDepth 10000 in
theorem l_X12_goes_54 {X : jX} {l : Launch} {n : Nat} {Y : jY} (K : jOK X RX12 cX12_goes 9 none 2) (hl : X.2.1 = l) {μr : jM} {v0 : Nat} {v1 : Int32} {v2 : Int32} {v4 : Int32} {v5 : Int32}  {s0 : Int32 × jM} {z : ((Int32 × jM) ⊕ (jM))} (H : jit jF (fun (s : Int32 × jM) => b_X12_goes_54 Y v0 v1 v2 v4 v5 s.1 s.2) s0 = some z) (D : Sum.elim (fun (s : Int32 × jM) => JW X (jEnd X n Y none μr 0 0) 0 0 n Y 45 [(0, .ref v0), (1, .int v1), (2, .int v2), (4, .int v4), (5, .int s.1)] [] s.2) (fun r => r = μr) z) : JW X (jEnd X n Y none μr 0 0) 0 0 n Y 54 [(0, .ref v0), (1, .int v1), (2, .int v2), (4, .int v4), (5, .int v5), (6, .int s0.1)] [] s0.2 :=
  jit_ind (P := fun (s : Int32 × jM) => JW X (jEnd X n Y none μr 0 0) 0 0 n Y 54 [(0, .ref v0), (1, .int v1), (2, .int v2), (4, .int v4), (5, .int v5), (6, .int s.1)] [] s.2) (D := Sum.elim (fun (s : Int32 × jM) => JW X (jEnd X n Y none μr 0 0) 0 0 n Y 45 [(0, .ref v0), (1, .int v1), (2, .int v2), (4, .int v4), (5, .int s.1)] [] s.2) (fun r => r = μr)) (fun s z Hs Ds => t_X12_goes_54 K hl Hs Ds) jF s0 z H D
set_option maxRecDepth 10000 in
theorem t_X12_goes_45 {X : jX} {l : Launch} {n : Nat} {Y : jY} (K : jOK X RX12 cX12_goes 9 none 2) (hl : X.2.1 = l) {μr : jM} {v0 : Nat} {v1 : Int32} {v2 : Int32} {v4 : Int32} {v5 : Int32} {μ : jM} {z : ((Int32 × jM) ⊕ (jM))} (H : b_X12_goes_45 Y v0 v1 v2 v4 v5 μ = some z) (D : Sum.elim (fun (s : Int32 × jM) => JW X (jEnd X n Y none μr 0 0) 0 0 n Y 45 [(0, .ref v0), (1, .int v1), (2, .int v2), (4, .int v4), (5, .int s.1)] [] s.2) (fun r => r = μr) z) : JW X (jEnd X n Y none μr 0 0) 0 0 n Y 45 [(0, .ref v0), (1, .int v1), (2, .int v2), (4, .int v4), (5, .int v5)] [] μ := by
  unfold b_X12_goes_45 at H
  refine r_iload K 4 dX12_goes_45 rfl ?_
  refine r_iload_n K 2 dX12_goes_47 rfl rfl ?_
  refine w_icmp_ge K 187 dX12_goes_48 (by decide) H (fun _ H => ?_) (fun _ H => ?_)
  · cases H
    simp only [Sum.elim_inr] at D
    subst D
    exact r_vret K dX12_goes_187
  · refine r_iconst (v := 0) K dX12_goes_51 (by decide) ?_
    refine r_istore K [(6, .int _), (0, .ref _), (1, .int _), (2, .int _), (4, .int _), (5, .int _)] dX12_goes_52 (by decide) rfl ?_
    exact r_sub [1, 2, 3, 4, 5, 0] rfl (l_X12_goes_54 K hl H D)
set_option maxRecDepth 10000 in
theorem l_X12_goes_45 {X : jX} {l : Launch} {n : Nat} {Y : jY} (K : jOK X RX12 cX12_goes 9 none 2) (hl : X.2.1 = l) {μr : jM} {v0 : Nat} {v1 : Int32} {v2 : Int32} {v4 : Int32}  {s0 : Int32 × jM} {z : (jM)} (H : jit jF (fun (s : Int32 × jM) => b_X12_goes_45 Y v0 v1 v2 v4 s.1 s.2) s0 = some z) (D : z = μr) : JW X (jEnd X n Y none μr 0 0) 0 0 n Y 45 [(0, .ref v0), (1, .int v1), (2, .int v2), (4, .int v4), (5, .int s0.1)] [] s0.2 :=
  jit_ind (P := fun (s : Int32 × jM) => JW X (jEnd X n Y none μr 0 0) 0 0 n Y 45 [(0, .ref v0), (1, .int v1), (2, .int v2), (4, .int v4), (5, .int s.1)] [] s.2) (D := fun r => r = μr) (fun s z Hs Ds => t_X12_goes_45 K hl Hs Ds) jF s0 z H D
set_option maxRecDepth 10000 in
theorem t_X12_goes_35 {X : jX} {l : Launch} {n : Nat} {Y : jY} (K : jOK X RX12 cX12_goes 9 none 2) (hl : X.2.1 = l) {μr : jM} {v0 : Nat} {v1 : Int32} {v2 : Int32} {v3 : Int32} {v4 : Int32} {v5 : Int32} {t0 : Nat} {t1 : Int32} {t2 : Int64} {μ : jM} {z : ((Int32 × jM) ⊕ (jM))} (H : b_X12_goes_35 Y v0 v1 v2 v3 v4 v5 t0 t1 t2 μ = some z) (D : Sum.elim (fun (s : Int32 × jM) => JW X (jEnd X n Y none μr 0 0) 0 0 n Y 11 [(0, .ref v0), (1, .int v1), (2, .int v2), (3, .int v3), (4, .int v4), (5, .int s.1)] [] s.2) (fun r => r = μr) z) : JW X (jEnd X n Y none μr 0 0) 0 0 n Y 35 [(0, .ref v0), (1, .int v1), (2, .int v2), (3, .int v3), (4, .int v4), (5, .int v5)] [.long t2, .int t1, .ref t0] μ := by
  unfold b_X12_goes_35 at H
  refine w_last K dX12_goes_35 H (fun μ1 H => ?_)
  refine r_iinc K 5 [(5, .int _), (0, .ref _), (1, .int _), (2, .int _), (3, .int _), (4, .int _)] (v := _ + (1 : Int32)) dX12_goes_36 rfl rfl (by decide) rfl ?_
  refine r_goto K 11 dX12_goes_39 (by decide) ?_
  cases H
  exact r_sub [1, 2, 3, 4, 5, 0] rfl D
set_option maxRecDepth 10000 in
theorem t_X12_goes_11 {X : jX} {l : Launch} {n : Nat} {Y : jY} (K : jOK X RX12 cX12_goes 9 none 2) (hl : X.2.1 = l) {μr : jM} {v0 : Nat} {v1 : Int32} {v2 : Int32} {v3 : Int32} {v4 : Int32} {v5 : Int32} {μ : jM} {z : ((Int32 × jM) ⊕ (jM))} (H : b_X12_goes_11 Y v0 v1 v2 v3 v4 v5 μ = some z) (D : Sum.elim (fun (s : Int32 × jM) => JW X (jEnd X n Y none μr 0 0) 0 0 n Y 11 [(0, .ref v0), (1, .int v1), (2, .int v2), (3, .int v3), (4, .int v4), (5, .int s.1)] [] s.2) (fun r => r = μr) z) : JW X (jEnd X n Y none μr 0 0) 0 0 n Y 11 [(0, .ref v0), (1, .int v1), (2, .int v2), (3, .int v3), (4, .int v4), (5, .int v5)] [] μ := by
  unfold b_X12_goes_11 at H
  refine r_iload K 5 dX12_goes_11 rfl ?_
  refine r_iload K 4 dX12_goes_13 rfl ?_
  refine w_icmp_ge K 42 dX12_goes_15 (by decide) H (fun _ H => ?_) (fun _ H => ?_)
  · refine r_iconst (v := 0) K dX12_goes_42 (by decide) ?_
    refine r_istore K [(5, .int _), (0, .ref _), (1, .int _), (2, .int _), (3, .int _), (4, .int _)] dX12_goes_43 (by decide) rfl ?_
    obtain ⟨z2, H2, rfl⟩ := jmap H
    exact r_sub [1, 2, 3, 5, 0] rfl (l_X12_goes_45 K hl H2 D)
  · refine r_aload_n K 0 dX12_goes_18 rfl rfl ?_
    refine w_getO K vc12 inX12 37 (by decide) mF_RX12_81 dX12_goes_19 H (fun x1 H => ?_)
    refine r_iload K 5 dX12_goes_22 rfl ?_
    refine r_iload K 5 dX12_goes_24 rfl ?_
    refine r_iload_n K 3 dX12_goes_26 rfl rfl ?_
    refine w_icmp_ne K 34 dX12_goes_27 (by decide) H (fun _ H => ?_) (fun _ H => ?_)
    · refine r_lconst (v := 0) K dX12_goes_34 (by decide) ?_
      exact r_sub [0, 1, 2, 3, 4, 5] rfl (t_X12_goes_35 K hl H D)
    · refine r_lconst (v := 1) K dX12_goes_30 (by decide) ?_
      refine r_goto K 35 dX12_goes_31 (by decide) ?_
      exact r_sub [0, 1, 2, 3, 4, 5] rfl (t_X12_goes_35 K hl H D)
set_option maxRecDepth 10000 in
theorem l_X12_goes_11 {X : jX} {l : Launch} {n : Nat} {Y : jY} (K : jOK X RX12 cX12_goes 9 none 2) (hl : X.2.1 = l) {μr : jM} {v0 : Nat} {v1 : Int32} {v2 : Int32} {v3 : Int32} {v4 : Int32}  {s0 : Int32 × jM} {z : (jM)} (H : jit jF (fun (s : Int32 × jM) => b_X12_goes_11 Y v0 v1 v2 v3 v4 s.1 s.2) s0 = some z) (D : z = μr) : JW X (jEnd X n Y none μr 0 0) 0 0 n Y 11 [(0, .ref v0), (1, .int v1), (2, .int v2), (3, .int v3), (4, .int v4), (5, .int s0.1)] [] s0.2 :=
  jit_ind (P := fun (s : Int32 × jM) => JW X (jEnd X n Y none μr 0 0) 0 0 n Y 11 [(0, .ref v0), (1, .int v1), (2, .int v2), (3, .int v3), (4, .int v4), (5, .int s.1)] [] s.2) (D := fun r => r = μr) (fun s z Hs Ds => t_X12_goes_11 K hl Hs Ds) jF s0 z H D
set_option maxRecDepth 10000 in
theorem t_X12_goes_0 {X : jX} {l : Launch} {n : Nat} {Y : jY} (K : jOK X RX12 cX12_goes 9 none 2) (hl : X.2.1 = l) {μr : jM} {v0 : Nat} {v1 : Int32} {v2 : Int32} {v3 : Int32} {μ : jM} {z : (jM)} (H : f_X12_goes Y v0 v1 v2 v3 μ = some z) (D : z = μr) : JW X (jEnd X n Y none μr 0 0) 0 0 n Y 0 [(0, .ref v0), (1, .int v1), (2, .int v2), (3, .int v3)] [] μ := by
  unfold f_X12_goes at H
  refine r_aload_n K 0 dX12_goes_0 rfl rfl ?_
  refine w_getO K vc12 inX12 26 (by decide) mF_RX12_48 dX12_goes_1 H (fun x1 H => ?_)
  refine r_iload_n K 1 dX12_goes_4 rfl rfl ?_
  refine w_iald K dX12_goes_5 H (fun x2 H => ?_)
  refine r_istore K [(4, .int _), (0, .ref _), (1, .int _), (2, .int _), (3, .int _)] dX12_goes_6 (by decide) rfl ?_
  refine r_iconst (v := 0) K dX12_goes_8 (by decide) ?_
  refine r_istore K [(5, .int _), (4, .int _), (0, .ref _), (1, .int _), (2, .int _), (3, .int _)] dX12_goes_9 (by decide) rfl ?_
  exact r_sub [2, 3, 4, 5, 1, 0] rfl (l_X12_goes_11 K hl H D)
theorem c_X12_goes (l : Launch) {n : Nat} {Y : jY} {v0 : Nat} {v1 : Int32} {v2 : Int32} {v3 : Int32} {μ : jM} {z : jM} (H : f_X12_goes Y v0 v1 v2 v3 μ = some z) : jC l yX12_goes cX12_goes 9 none 2 0 0 [.ref v0, .int v1, .int v2, .int v3] n Y μ n Y none z := by
  refine jC_of (by decide +kernel) (Nat.le_of_ble_eq_true rfl) (fun X hl K _ _ _ => ?_)
  exact t_X12_goes_0 K hl H rfl
/-! RX12 walks(IIII)J -/
def b_X12_walks_59 (Y : jY) (μ : jM) : Option (Int64 × jM) :=
  some ((-9223372036854775808 : Int64), μ)
def f_X12_walks (Y : jY) (v0 : Nat) (v1 : Int32) (v2 : Int32) (v3 : Int32) (v4 : Int32) (μ : jM) : Option (Int64 × jM) :=
  (f_X12_isDrawer Y v1 μ).bind fun r1 =>
  if r1.1 = 0 then
    b_X12_walks_59 Y r1.2
  else
    (jgO Y r1.2 v0 12 26).bind fun x2 =>
    (jaI Y r1.2 x2 20 v1).bind fun x3 =>
    if x3 = 0 then
      b_X12_walks_59 Y r1.2
    else
      (f_X12_in Y v2 ((0 : Int32)) ((8 : Int32)) r1.2).bind fun r4 =>
      if r4.1 = 0 then
        b_X12_walks_59 Y r4.2
      else
        (jgO Y r4.2 v0 12 26).bind fun x5 =>
        (jaI Y r4.2 x5 20 v1).bind fun x6 =>
        (f_X12_in Y v3 ((0 : Int32)) ((x6 - ((1 : Int32)))) r4.2).bind fun r7 =>
        if r7.1 = 0 then
          b_X12_walks_59 Y r7.2
        else
          (jgO Y r7.2 v0 12 26).bind fun x8 =>
          (jaI Y r7.2 x8 20 v1).bind fun x9 =>
          (f_X12_in Y v4 ((0 : Int32)) ((x9 - ((1 : Int32)))) r7.2).bind fun r10 =>
          if r10.1 = 0 then
            b_X12_walks_59 Y r10.2
          else
            (jrcv Y v0 12 (f_X12_goes Y v0 v1 v2 v3 r10.2)).bind fun μ11 =>
            (jgO Y μ11 v0 12 37).bind fun x12 =>
            (jaL Y μ11 x12 21 v4).bind fun x13 =>
            some (x13, μ11)
set_option maxRecDepth 10000 in
theorem t_X12_walks_59 {X : jX} {l : Launch} {n : Nat} {Y : jY} (K : jOK X RX12 cX12_walks 5 (some .long) 3) (hl : X.2.1 = l) {rr : Int64} {μr : jM} {μ : jM} {z : (Int64 × jM)} (H : b_X12_walks_59 Y μ = some z) (D : z = (rr, μr)) : JW X (jEnd X n Y (some (.long rr)) μr 0 0) 0 0 n Y 59 [] [] μ := by
  unfold b_X12_walks_59 at H
  refine r_ldc2 K (-9223372036854775808) mc_RX12_156 dX12_walks_59 ?_
  cases H
  obtain ⟨rfl, rfl⟩ := jfin2 D
  exact r_lret K dX12_walks_62
set_option maxRecDepth 10000 in
theorem t_X12_walks_0 {X : jX} {l : Launch} {n : Nat} {Y : jY} (K : jOK X RX12 cX12_walks 5 (some .long) 3) (hl : X.2.1 = l) {rr : Int64} {μr : jM} {v0 : Nat} {v1 : Int32} {v2 : Int32} {v3 : Int32} {v4 : Int32} {μ : jM} {z : (Int64 × jM)} (H : f_X12_walks Y v0 v1 v2 v3 v4 μ = some z) (D : z = (rr, μr)) : JW X (jEnd X n Y (some (.long rr)) μr 0 0) 0 0 n Y 0 [(0, .ref v0), (1, .int v1), (2, .int v2), (3, .int v3), (4, .int v4)] [] μ := by
  unfold f_X12_walks at H
  refine r_iload_n K 1 dX12_walks_0 rfl rfl ?_
  refine w_callS K hl H (fun r h => c_X12_isDrawer l h) mC_yX12_isDrawer mM_RX12_253 mT_yX12_isDrawer mZ_RX12 (Nat.le_of_ble_eq_true rfl) (Nat.le_of_ble_eq_true rfl) np_yX12_isDrawer rfl (Nat.le_of_ble_eq_true rfl) dX12_walks_1 (fun r1 H => ?_) ⟨Nat.zero_le _, Nat.zero_le _⟩
  refine w_if_eq K 59 dX12_walks_4 (by decide) H (fun _ H => ?_) (fun _ H => ?_)
  · exact r_sub [] rfl (t_X12_walks_59 K hl H D)
  · refine r_aload_n K 0 dX12_walks_7 rfl rfl ?_
    refine w_getO K vc12 inX12 26 (by decide) mF_RX12_48 dX12_walks_8 H (fun x2 H => ?_)
    refine r_iload_n K 1 dX12_walks_11 rfl rfl ?_
    refine w_iald K dX12_walks_12 H (fun x3 H => ?_)
    refine w_if_eq K 59 dX12_walks_13 (by decide) H (fun _ H => ?_) (fun _ H => ?_)
    · exact r_sub [] rfl (t_X12_walks_59 K hl H D)
    · refine r_iload_n K 2 dX12_walks_16 rfl rfl ?_
      refine r_iconst (v := 0) K dX12_walks_17 (by decide) ?_
      refine r_bipush (v := 8) K dX12_walks_18 (by decide) ?_
      refine w_callS K hl H (fun r h => c_X12_in l h) mC_yX12_in mM_RX12_134 mT_yX12_in mZ_RX12 (Nat.le_of_ble_eq_true rfl) (Nat.le_of_ble_eq_true rfl) np_yX12_in rfl (Nat.le_of_ble_eq_true rfl) dX12_walks_20 (fun r4 H => ?_) ⟨Nat.zero_le _, Nat.zero_le _⟩
      refine w_if_eq K 59 dX12_walks_23 (by decide) H (fun _ H => ?_) (fun _ H => ?_)
      · exact r_sub [] rfl (t_X12_walks_59 K hl H D)
      · refine r_iload_n K 3 dX12_walks_26 rfl rfl ?_
        refine r_iconst (v := 0) K dX12_walks_27 (by decide) ?_
        refine r_aload_n K 0 dX12_walks_28 rfl rfl ?_
        refine w_getO K vc12 inX12 26 (by decide) mF_RX12_48 dX12_walks_29 H (fun x5 H => ?_)
        refine r_iload_n K 1 dX12_walks_32 rfl rfl ?_
        refine w_iald K dX12_walks_33 H (fun x6 H => ?_)
        refine r_iconst (v := 1) K dX12_walks_34 (by decide) ?_
        refine r_isub K dX12_walks_35 ?_
        refine w_callS K hl H (fun r h => c_X12_in l h) mC_yX12_in mM_RX12_134 mT_yX12_in mZ_RX12 (Nat.le_of_ble_eq_true rfl) (Nat.le_of_ble_eq_true rfl) np_yX12_in rfl (Nat.le_of_ble_eq_true rfl) dX12_walks_36 (fun r7 H => ?_) ⟨Nat.zero_le _, Nat.zero_le _⟩
        refine w_if_eq K 59 dX12_walks_39 (by decide) H (fun _ H => ?_) (fun _ H => ?_)
        · exact r_sub [] rfl (t_X12_walks_59 K hl H D)
        · refine r_iload K 4 dX12_walks_42 rfl ?_
          refine r_iconst (v := 0) K dX12_walks_44 (by decide) ?_
          refine r_aload_n K 0 dX12_walks_45 rfl rfl ?_
          refine w_getO K vc12 inX12 26 (by decide) mF_RX12_48 dX12_walks_46 H (fun x8 H => ?_)
          refine r_iload_n K 1 dX12_walks_49 rfl rfl ?_
          refine w_iald K dX12_walks_50 H (fun x9 H => ?_)
          refine r_iconst (v := 1) K dX12_walks_51 (by decide) ?_
          refine r_isub K dX12_walks_52 ?_
          refine w_callS K hl H (fun r h => c_X12_in l h) mC_yX12_in mM_RX12_134 mT_yX12_in mZ_RX12 (Nat.le_of_ble_eq_true rfl) (Nat.le_of_ble_eq_true rfl) np_yX12_in rfl (Nat.le_of_ble_eq_true rfl) dX12_walks_53 (fun r10 H => ?_) ⟨Nat.zero_le _, Nat.zero_le _⟩
          refine w_if_ne K 63 dX12_walks_56 (by decide) H (fun _ H => ?_) (fun _ H => ?_)
          · refine r_aload_n K 0 dX12_walks_63 rfl rfl ?_
            refine r_iload_n K 1 dX12_walks_64 rfl rfl ?_
            refine r_iload_n K 2 dX12_walks_65 rfl rfl ?_
            refine r_iload_n K 3 dX12_walks_66 rfl rfl ?_
            refine w_callV K hl H (fun r h => c_X12_goes l h) mC_yX12_goes mM_RX12_304 mI_yX12_goes mS_yX12_goes mZ_RX12 vc12 (Nat.le_of_ble_eq_true rfl) (Nat.le_of_ble_eq_true rfl) np_yX12_goes rfl (Nat.le_of_ble_eq_true rfl) dX12_walks_67 (fun μ11 H => ?_) ⟨Nat.zero_le _, Nat.zero_le _⟩
            refine r_aload_n K 0 dX12_walks_70 rfl rfl ?_
            refine w_getO K vc12 inX12 37 (by decide) mF_RX12_81 dX12_walks_71 H (fun x12 H => ?_)
            refine r_iload K 4 dX12_walks_74 rfl ?_
            refine w_lald K dX12_walks_76 H (fun x13 H => ?_)
            cases H
            obtain ⟨rfl, rfl⟩ := jfin2 D
            exact r_lret K dX12_walks_77
          · exact r_sub [] rfl (t_X12_walks_59 K hl H D)
theorem c_X12_walks (l : Launch) {n : Nat} {Y : jY} {v0 : Nat} {v1 : Int32} {v2 : Int32} {v3 : Int32} {v4 : Int32} {μ : jM} {z : Int64 × jM} (H : f_X12_walks Y v0 v1 v2 v3 v4 μ = some z) : jC l yX12_walks cX12_walks 5 (some .long) 3 0 0 [.ref v0, .int v1, .int v2, .int v3, .int v4] n Y μ n Y (some (.long z.1)) z.2 := by
  refine jC_of (by decide +kernel) (Nat.le_of_ble_eq_true rfl) (fun X hl K _ _ _ => ?_)
  obtain ⟨rr, μr⟩ := z
  exact t_X12_walks_0 K hl H rfl
/-! RX12 canBe(ZI)Z -/
def b_X12_canBe_22 (Y : jY) (t0 : Int32) (μ : jM) : Option (Int32 × jM) :=
  (jbool t0).bind fun x1 =>
  some (x1, μ)
def f_X12_canBe (Y : jY) (v0 : Int32) (v1 : Int32) (μ : jM) : Option (Int32 × jM) :=
  if v0 = 0 then
    (f_X12_in Y v1 ((1 : Int32)) ((36 : Int32)) μ).bind fun r1 =>
    b_X12_canBe_22 Y r1.1 r1.2
  else
    (f_X12_in Y v1 ((-6 : Int32)) ((6 : Int32)) μ).bind fun r2 =>
    b_X12_canBe_22 Y r2.1 r2.2
set_option maxRecDepth 10000 in
theorem t_X12_canBe_22 {X : jX} {l : Launch} {n : Nat} {Y : jY} (K : jOK X RX12 cX12_canBe 2 (some .boolean) 2) (hl : X.2.1 = l) {rr : Int32} {μr : jM} {t0 : Int32} {μ : jM} {z : (Int32 × jM)} (H : b_X12_canBe_22 Y t0 μ = some z) (D : z = (rr, μr)) : JW X (jEnd X n Y (some (.int rr)) μr 0 0) 0 0 n Y 22 [] [.int t0] μ := by
  unfold b_X12_canBe_22 at H
  refine w_zret K dX12_canBe_22 H (fun hz H => ?_)
  cases H
  obtain ⟨rfl, rfl⟩ := jfin2 D
  exact r_zret K hz dX12_canBe_22
set_option maxRecDepth 10000 in
theorem t_X12_canBe_0 {X : jX} {l : Launch} {n : Nat} {Y : jY} (K : jOK X RX12 cX12_canBe 2 (some .boolean) 2) (hl : X.2.1 = l) {rr : Int32} {μr : jM} {v0 : Int32} {v1 : Int32} {μ : jM} {z : (Int32 × jM)} (H : f_X12_canBe Y v0 v1 μ = some z) (D : z = (rr, μr)) : JW X (jEnd X n Y (some (.int rr)) μr 0 0) 0 0 n Y 0 [(0, .int v0), (1, .int v1)] [] μ := by
  unfold f_X12_canBe at H
  refine r_iload_n K 0 dX12_canBe_0 rfl rfl ?_
  refine w_if_eq K 15 dX12_canBe_1 (by decide) H (fun _ H => ?_) (fun _ H => ?_)
  · refine r_iload_n K 1 dX12_canBe_15 rfl rfl ?_
    refine r_iconst (v := 1) K dX12_canBe_16 (by decide) ?_
    refine r_bipush (v := 36) K dX12_canBe_17 (by decide) ?_
    refine w_callS K hl H (fun r h => c_X12_in l h) mC_yX12_in mM_RX12_134 mT_yX12_in mZ_RX12 (Nat.le_of_ble_eq_true rfl) (Nat.le_of_ble_eq_true rfl) np_yX12_in rfl (Nat.le_of_ble_eq_true rfl) dX12_canBe_19 (fun r1 H => ?_) ⟨Nat.zero_le _, Nat.zero_le _⟩
    exact r_sub [] rfl (t_X12_canBe_22 K hl H D)
  · refine r_iload_n K 1 dX12_canBe_4 rfl rfl ?_
    refine r_bipush (v := -6) K dX12_canBe_5 (by decide) ?_
    refine r_bipush (v := 6) K dX12_canBe_7 (by decide) ?_
    refine w_callS K hl H (fun r h => c_X12_in l h) mC_yX12_in mM_RX12_134 mT_yX12_in mZ_RX12 (Nat.le_of_ble_eq_true rfl) (Nat.le_of_ble_eq_true rfl) np_yX12_in rfl (Nat.le_of_ble_eq_true rfl) dX12_canBe_9 (fun r2 H => ?_) ⟨Nat.zero_le _, Nat.zero_le _⟩
    refine r_goto K 22 dX12_canBe_12 (by decide) ?_
    exact r_sub [] rfl (t_X12_canBe_22 K hl H D)
theorem c_X12_canBe (l : Launch) {n : Nat} {Y : jY} {v0 : Int32} {v1 : Int32} {μ : jM} {z : Int32 × jM} (H : f_X12_canBe Y v0 v1 μ = some z) : jC l yX12_canBe cX12_canBe 2 (some .boolean) 2 0 0 [.int v0, .int v1] n Y μ n Y (some (.int z.1)) z.2 := by
  refine jC_of (by decide +kernel) (Nat.le_of_ble_eq_true rfl) (fun X hl K _ _ _ => ?_)
  obtain ⟨rr, μr⟩ := z
  exact t_X12_canBe_0 K hl H rfl
/-! RX12 isEntry(IZI)Z -/
def b_X12_isEntry_25 (Y : jY) (t0 : Int32) (t1 : Int32) (t2 : Int32) (μ : jM) : Option (Int32 × jM) :=
  (f_X12_in Y t0 t1 t2 μ).bind fun r1 =>
  (jbool r1.1).bind fun x2 =>
  some (x2, r1.2)
def f_X12_isEntry (Y : jY) (v0 : Nat) (v1 : Int32) (v2 : Int32) (v3 : Int32) (μ : jM) : Option (Int32 × jM) :=
  if v2 = 0 then
    (jgO Y μ v0 12 26).bind fun x1 =>
    (jaI Y μ x1 20 v1).bind fun x2 =>
    b_X12_isEntry_25 Y v3 (0 : Int32) (x2 - ((2 : Int32))) μ
  else
    (jgO Y μ v0 12 26).bind fun x3 =>
    (jaI Y μ x3 20 v1).bind fun x4 =>
    b_X12_isEntry_25 Y v3 (0 : Int32) (x4 - ((1 : Int32))) μ
set_option maxRecDepth 10000 in
theorem t_X12_isEntry_25 {X : jX} {l : Launch} {n : Nat} {Y : jY} (K : jOK X RX12 cX12_isEntry 4 (some .boolean) 2) (hl : X.2.1 = l) {rr : Int32} {μr : jM} {t0 : Int32} {t1 : Int32} {t2 : Int32} {μ : jM} {z : (Int32 × jM)} (H : b_X12_isEntry_25 Y t0 t1 t2 μ = some z) (D : z = (rr, μr)) : JW X (jEnd X n Y (some (.int rr)) μr 0 0) 0 0 n Y 25 [] [.int t2, .int t1, .int t0] μ := by
  unfold b_X12_isEntry_25 at H
  refine w_callS K hl H (fun r h => c_X12_in l h) mC_yX12_in mM_RX12_134 mT_yX12_in mZ_RX12 (Nat.le_of_ble_eq_true rfl) (Nat.le_of_ble_eq_true rfl) np_yX12_in rfl (Nat.le_of_ble_eq_true rfl) dX12_isEntry_25 (fun r1 H => ?_) ⟨Nat.zero_le _, Nat.zero_le _⟩
  refine w_zret K dX12_isEntry_28 H (fun hz H => ?_)
  cases H
  obtain ⟨rfl, rfl⟩ := jfin2 D
  exact r_zret K hz dX12_isEntry_28
set_option maxRecDepth 10000 in
theorem t_X12_isEntry_0 {X : jX} {l : Launch} {n : Nat} {Y : jY} (K : jOK X RX12 cX12_isEntry 4 (some .boolean) 2) (hl : X.2.1 = l) {rr : Int32} {μr : jM} {v0 : Nat} {v1 : Int32} {v2 : Int32} {v3 : Int32} {μ : jM} {z : (Int32 × jM)} (H : f_X12_isEntry Y v0 v1 v2 v3 μ = some z) (D : z = (rr, μr)) : JW X (jEnd X n Y (some (.int rr)) μr 0 0) 0 0 n Y 0 [(0, .ref v0), (1, .int v1), (2, .int v2), (3, .int v3)] [] μ := by
  unfold f_X12_isEntry at H
  refine r_iload_n K 3 dX12_isEntry_0 rfl rfl ?_
  refine r_iconst (v := 0) K dX12_isEntry_1 (by decide) ?_
  refine r_iload_n K 2 dX12_isEntry_2 rfl rfl ?_
  refine w_if_eq K 17 dX12_isEntry_3 (by decide) H (fun _ H => ?_) (fun _ H => ?_)
  · refine r_aload_n K 0 dX12_isEntry_17 rfl rfl ?_
    refine w_getO K vc12 inX12 26 (by decide) mF_RX12_48 dX12_isEntry_18 H (fun x1 H => ?_)
    refine r_iload_n K 1 dX12_isEntry_21 rfl rfl ?_
    refine w_iald K dX12_isEntry_22 H (fun x2 H => ?_)
    refine r_iconst (v := 2) K dX12_isEntry_23 (by decide) ?_
    refine r_isub K dX12_isEntry_24 ?_
    exact r_sub [] rfl (t_X12_isEntry_25 K hl H D)
  · refine r_aload_n K 0 dX12_isEntry_6 rfl rfl ?_
    refine w_getO K vc12 inX12 26 (by decide) mF_RX12_48 dX12_isEntry_7 H (fun x3 H => ?_)
    refine r_iload_n K 1 dX12_isEntry_10 rfl rfl ?_
    refine w_iald K dX12_isEntry_11 H (fun x4 H => ?_)
    refine r_iconst (v := 1) K dX12_isEntry_12 (by decide) ?_
    refine r_isub K dX12_isEntry_13 ?_
    refine r_goto K 25 dX12_isEntry_14 (by decide) ?_
    exact r_sub [] rfl (t_X12_isEntry_25 K hl H D)
theorem c_X12_isEntry (l : Launch) {n : Nat} {Y : jY} {v0 : Nat} {v1 : Int32} {v2 : Int32} {v3 : Int32} {μ : jM} {z : Int32 × jM} (H : f_X12_isEntry Y v0 v1 v2 v3 μ = some z) : jC l yX12_isEntry cX12_isEntry 4 (some .boolean) 2 0 0 [.ref v0, .int v1, .int v2, .int v3] n Y μ n Y (some (.int z.1)) z.2 := by
  refine jC_of (by decide +kernel) (Nat.le_of_ble_eq_true rfl) (fun X hl K _ _ _ => ?_)
  obtain ⟨rr, μr⟩ := z
  exact t_X12_isEntry_0 K hl H rfl
/-! RX12 puts(IZII)V -/
def b_X12_puts_31 (Y : jY) (μ : jM) : Option (jM) :=
  some μ
def f_X12_puts (Y : jY) (v0 : Nat) (v1 : Int32) (v2 : Int32) (v3 : Int32) (v4 : Int32) (μ : jM) : Option (jM) :=
  if v2 = 0 then
    (jgO Y μ v0 12 28).bind fun x1 =>
    (jas Y μ x1 20 ((((((5 : Int32)) * v1)) + v3)) (.int v4)).bind fun μ2 =>
    b_X12_puts_31 Y μ2
  else
    (jgO Y μ v0 12 27).bind fun x3 =>
    (jas Y μ x3 20 ((((((5 : Int32)) * v1)) + v3)) (.int v4)).bind fun μ4 =>
    b_X12_puts_31 Y μ4
set_option maxRecDepth 10000 in
theorem t_X12_puts_31 {X : jX} {l : Launch} {n : Nat} {Y : jY} (K : jOK X RX12 cX12_puts 5 none 1) (hl : X.2.1 = l) {μr : jM} {μ : jM} {z : (jM)} (H : b_X12_puts_31 Y μ = some z) (D : z = μr) : JW X (jEnd X n Y none μr 0 0) 0 0 n Y 31 [] [] μ := by
  unfold b_X12_puts_31 at H
  cases H
  subst D
  exact r_vret K dX12_puts_31
set_option maxRecDepth 10000 in
theorem t_X12_puts_0 {X : jX} {l : Launch} {n : Nat} {Y : jY} (K : jOK X RX12 cX12_puts 5 none 1) (hl : X.2.1 = l) {μr : jM} {v0 : Nat} {v1 : Int32} {v2 : Int32} {v3 : Int32} {v4 : Int32} {μ : jM} {z : (jM)} (H : f_X12_puts Y v0 v1 v2 v3 v4 μ = some z) (D : z = μr) : JW X (jEnd X n Y none μr 0 0) 0 0 n Y 0 [(0, .ref v0), (1, .int v1), (2, .int v2), (3, .int v3), (4, .int v4)] [] μ := by
  unfold f_X12_puts at H
  refine r_iload_n K 2 dX12_puts_0 rfl rfl ?_
  refine w_if_eq K 19 dX12_puts_1 (by decide) H (fun _ H => ?_) (fun _ H => ?_)
  · refine r_aload_n K 0 dX12_puts_19 rfl rfl ?_
    refine w_getO K vc12 inX12 28 (by decide) mF_RX12_54 dX12_puts_20 H (fun x1 H => ?_)
    refine r_iconst (v := 5) K dX12_puts_23 (by decide) ?_
    refine r_iload_n K 1 dX12_puts_24 rfl rfl ?_
    refine r_imul K dX12_puts_25 ?_
    refine r_iload_n K 3 dX12_puts_26 rfl rfl ?_
    refine r_iadd K dX12_puts_27 ?_
    refine r_iload K 4 dX12_puts_28 rfl ?_
    refine w_iast K dX12_puts_30 H (fun μ2 H => ?_)
    exact r_sub [] rfl (t_X12_puts_31 K hl H D)
  · refine r_aload_n K 0 dX12_puts_4 rfl rfl ?_
    refine w_getO K vc12 inX12 27 (by decide) mF_RX12_51 dX12_puts_5 H (fun x3 H => ?_)
    refine r_iconst (v := 5) K dX12_puts_8 (by decide) ?_
    refine r_iload_n K 1 dX12_puts_9 rfl rfl ?_
    refine r_imul K dX12_puts_10 ?_
    refine r_iload_n K 3 dX12_puts_11 rfl rfl ?_
    refine r_iadd K dX12_puts_12 ?_
    refine r_iload K 4 dX12_puts_13 rfl ?_
    refine w_iast K dX12_puts_15 H (fun μ4 H => ?_)
    refine r_goto K 31 dX12_puts_16 (by decide) ?_
    exact r_sub [] rfl (t_X12_puts_31 K hl H D)
theorem c_X12_puts (l : Launch) {n : Nat} {Y : jY} {v0 : Nat} {v1 : Int32} {v2 : Int32} {v3 : Int32} {v4 : Int32} {μ : jM} {z : jM} (H : f_X12_puts Y v0 v1 v2 v3 v4 μ = some z) : jC l yX12_puts cX12_puts 5 none 1 0 0 [.ref v0, .int v1, .int v2, .int v3, .int v4] n Y μ n Y none z := by
  refine jC_of (by decide +kernel) (Nat.le_of_ble_eq_true rfl) (fun X hl K _ _ _ => ?_)
  exact t_X12_puts_0 K hl H rfl
/-! RX12 would(IZIII)J -/
def b_X12_would_50 (Y : jY) (μ : jM) : Option (Int64 × jM) :=
  some ((-9223372036854775808 : Int64), μ)
def b_X12_would_73 (Y : jY) (v0 : Nat) (v1 : Int32) (v2 : Int32) (v3 : Int32) (v4 : Int32) (v5 : Int32) (t0 : Int32) (μ : jM) : Option (Int64 × jM) :=
  (jrcv Y v0 12 (f_X12_puts Y v0 v1 v2 v3 v4 μ)).bind fun μ1 =>
  (jrcv Y v0 12 (f_X12_laysPoly Y v0 v1 ((0 : Int32)) μ1)).bind fun μ2 =>
  (jrcv Y v0 12 (f_X12_puts Y v0 v1 v2 v3 t0 μ2)).bind fun μ3 =>
  (jgO Y μ3 v0 12 35).bind fun x4 =>
  (jgO Y μ3 v0 12 26).bind fun x5 =>
  (jaI Y μ3 x5 20 v1).bind fun x6 =>
  (jaL Y μ3 x4 21 ((((((6 : Int32)) * x6)) + v5))).bind fun x7 =>
  some (x7, μ3)
def f_X12_would (Y : jY) (v0 : Nat) (v1 : Int32) (v2 : Int32) (v3 : Int32) (v4 : Int32) (v5 : Int32) (μ : jM) : Option (Int64 × jM) :=
  (f_X12_isDrawer Y v1 μ).bind fun r1 =>
  if r1.1 = 0 then
    b_X12_would_50 Y r1.2
  else
    (jgO Y r1.2 v0 12 26).bind fun x2 =>
    (jaI Y r1.2 x2 20 v1).bind fun x3 =>
    if x3 = 0 then
      b_X12_would_50 Y r1.2
    else
      (jrcv Y v0 12 (f_X12_isEntry Y v0 v1 v2 v3 r1.2)).bind fun r4 =>
      if r4.1 = 0 then
        b_X12_would_50 Y r4.2
      else
        (f_X12_canBe Y v2 v4 r4.2).bind fun r5 =>
        if r5.1 = 0 then
          b_X12_would_50 Y r5.2
        else
          (jgO Y r5.2 v0 12 26).bind fun x6 =>
          (jaI Y r5.2 x6 20 v1).bind fun x7 =>
          (f_X12_in Y v5 ((0 : Int32)) x7 r5.2).bind fun r8 =>
          if r8.1 = 0 then
            b_X12_would_50 Y r8.2
          else
            if v2 = 0 then
              (jrcv Y v0 12 (f_X12_c Y v0 v1 v3 r8.2)).bind fun r9 =>
              b_X12_would_73 Y v0 v1 v2 v3 v4 v5 r9.1 r9.2
            else
              (jrcv Y v0 12 (f_X12_a Y v0 v1 v3 r8.2)).bind fun r10 =>
              b_X12_would_73 Y v0 v1 v2 v3 v4 v5 r10.1 r10.2
set_option maxRecDepth 10000 in
theorem t_X12_would_50 {X : jX} {l : Launch} {n : Nat} {Y : jY} (K : jOK X RX12 cX12_would 7 (some .long) 3) (hl : X.2.1 = l) {rr : Int64} {μr : jM} {μ : jM} {z : (Int64 × jM)} (H : b_X12_would_50 Y μ = some z) (D : z = (rr, μr)) : JW X (jEnd X n Y (some (.long rr)) μr 0 0) 0 0 n Y 50 [] [] μ := by
  unfold b_X12_would_50 at H
  refine r_ldc2 K (-9223372036854775808) mc_RX12_156 dX12_would_50 ?_
  cases H
  obtain ⟨rfl, rfl⟩ := jfin2 D
  exact r_lret K dX12_would_53
set_option maxRecDepth 10000 in
theorem t_X12_would_73 {X : jX} {l : Launch} {n : Nat} {Y : jY} (K : jOK X RX12 cX12_would 7 (some .long) 3) (hl : X.2.1 = l) {rr : Int64} {μr : jM} {v0 : Nat} {v1 : Int32} {v2 : Int32} {v3 : Int32} {v4 : Int32} {v5 : Int32} {t0 : Int32} {μ : jM} {z : (Int64 × jM)} (H : b_X12_would_73 Y v0 v1 v2 v3 v4 v5 t0 μ = some z) (D : z = (rr, μr)) : JW X (jEnd X n Y (some (.long rr)) μr 0 0) 0 0 n Y 73 [(0, .ref v0), (1, .int v1), (2, .int v2), (3, .int v3), (4, .int v4), (5, .int v5)] [.int t0] μ := by
  unfold b_X12_would_73 at H
  refine r_istore K [(6, .int _), (0, .ref _), (1, .int _), (2, .int _), (3, .int _), (4, .int _), (5, .int _)] dX12_would_73 (by decide) rfl ?_
  refine r_aload_n K 1 dX12_would_75 rfl rfl ?_
  refine r_iload_n K 2 dX12_would_76 rfl rfl ?_
  refine r_iload_n K 3 dX12_would_77 rfl rfl ?_
  refine r_iload_n K 4 dX12_would_78 rfl rfl ?_
  refine r_iload K 5 dX12_would_79 rfl ?_
  refine w_callV K hl H (fun r h => c_X12_puts l h) mC_yX12_puts mM_RX12_271 mI_yX12_puts mS_yX12_puts mZ_RX12 vc12 (Nat.le_of_ble_eq_true rfl) (Nat.le_of_ble_eq_true rfl) np_yX12_puts rfl (Nat.le_of_ble_eq_true rfl) dX12_would_81 (fun μ1 H => ?_) ⟨Nat.zero_le _, Nat.zero_le _⟩
  refine r_aload_n K 1 dX12_would_84 rfl rfl ?_
  refine r_iload_n K 2 dX12_would_85 rfl rfl ?_
  refine r_iconst (v := 0) K dX12_would_86 (by decide) ?_
  refine w_callV K hl H (fun r h => c_X12_laysPoly l h) mC_yX12_laysPoly mM_RX12_275 mI_yX12_laysPoly mS_yX12_laysPoly mZ_RX12 vc12 (Nat.le_of_ble_eq_true rfl) (Nat.le_of_ble_eq_true rfl) np_yX12_laysPoly rfl (Nat.le_of_ble_eq_true rfl) dX12_would_87 (fun μ2 H => ?_) ⟨Nat.zero_le _, Nat.zero_le _⟩
  refine r_aload_n K 1 dX12_would_90 rfl rfl ?_
  refine r_iload_n K 2 dX12_would_91 rfl rfl ?_
  refine r_iload_n K 3 dX12_would_92 rfl rfl ?_
  refine r_iload_n K 4 dX12_would_93 rfl rfl ?_
  refine r_iload K 0 dX12_would_94 rfl ?_
  refine w_callV K hl H (fun r h => c_X12_puts l h) mC_yX12_puts mM_RX12_271 mI_yX12_puts mS_yX12_puts mZ_RX12 vc12 (Nat.le_of_ble_eq_true rfl) (Nat.le_of_ble_eq_true rfl) np_yX12_puts rfl (Nat.le_of_ble_eq_true rfl) dX12_would_96 (fun μ3 H => ?_) ⟨Nat.zero_le _, Nat.zero_le _⟩
  refine r_aload_n K 1 dX12_would_99 rfl rfl ?_
  refine w_getO K vc12 inX12 35 (by decide) mF_RX12_75 dX12_would_100 H (fun x4 H => ?_)
  refine r_bipush (v := 6) K dX12_would_103 (by decide) ?_
  refine r_aload_n K 1 dX12_would_105 rfl rfl ?_
  refine w_getO K vc12 inX12 26 (by decide) mF_RX12_48 dX12_would_106 H (fun x5 H => ?_)
  refine r_iload_n K 2 dX12_would_109 rfl rfl ?_
  refine w_iald K dX12_would_110 H (fun x6 H => ?_)
  refine r_imul K dX12_would_111 ?_
  refine r_iload K 6 dX12_would_112 rfl ?_
  refine r_iadd K dX12_would_114 ?_
  refine w_lald K dX12_would_115 H (fun x7 H => ?_)
  cases H
  obtain ⟨rfl, rfl⟩ := jfin2 D
  exact r_lret K dX12_would_116
set_option maxRecDepth 10000 in
theorem t_X12_would_0 {X : jX} {l : Launch} {n : Nat} {Y : jY} (K : jOK X RX12 cX12_would 7 (some .long) 3) (hl : X.2.1 = l) {rr : Int64} {μr : jM} {v0 : Nat} {v1 : Int32} {v2 : Int32} {v3 : Int32} {v4 : Int32} {v5 : Int32} {μ : jM} {z : (Int64 × jM)} (H : f_X12_would Y v0 v1 v2 v3 v4 v5 μ = some z) (D : z = (rr, μr)) : JW X (jEnd X n Y (some (.long rr)) μr 0 0) 0 0 n Y 0 [(0, .ref v0), (1, .int v1), (2, .int v2), (3, .int v3), (4, .int v4), (5, .int v5)] [] μ := by
  unfold f_X12_would at H
  refine r_iload_n K 1 dX12_would_0 rfl rfl ?_
  refine w_callS K hl H (fun r h => c_X12_isDrawer l h) mC_yX12_isDrawer mM_RX12_253 mT_yX12_isDrawer mZ_RX12 (Nat.le_of_ble_eq_true rfl) (Nat.le_of_ble_eq_true rfl) np_yX12_isDrawer rfl (Nat.le_of_ble_eq_true rfl) dX12_would_1 (fun r1 H => ?_) ⟨Nat.zero_le _, Nat.zero_le _⟩
  refine w_if_eq K 50 dX12_would_4 (by decide) H (fun _ H => ?_) (fun _ H => ?_)
  · exact r_sub [] rfl (t_X12_would_50 K hl H D)
  · refine r_aload_n K 0 dX12_would_7 rfl rfl ?_
    refine w_getO K vc12 inX12 26 (by decide) mF_RX12_48 dX12_would_8 H (fun x2 H => ?_)
    refine r_iload_n K 1 dX12_would_11 rfl rfl ?_
    refine w_iald K dX12_would_12 H (fun x3 H => ?_)
    refine w_if_eq K 50 dX12_would_13 (by decide) H (fun _ H => ?_) (fun _ H => ?_)
    · exact r_sub [] rfl (t_X12_would_50 K hl H D)
    · refine r_aload_n K 0 dX12_would_16 rfl rfl ?_
      refine r_iload_n K 1 dX12_would_17 rfl rfl ?_
      refine r_iload_n K 2 dX12_would_18 rfl rfl ?_
      refine r_iload_n K 3 dX12_would_19 rfl rfl ?_
      refine w_callV K hl H (fun r h => c_X12_isEntry l h) mC_yX12_isEntry mM_RX12_263 mI_yX12_isEntry mS_yX12_isEntry mZ_RX12 vc12 (Nat.le_of_ble_eq_true rfl) (Nat.le_of_ble_eq_true rfl) np_yX12_isEntry rfl (Nat.le_of_ble_eq_true rfl) dX12_would_20 (fun r4 H => ?_) ⟨Nat.zero_le _, Nat.zero_le _⟩
      refine w_if_eq K 50 dX12_would_23 (by decide) H (fun _ H => ?_) (fun _ H => ?_)
      · exact r_sub [] rfl (t_X12_would_50 K hl H D)
      · refine r_iload_n K 2 dX12_would_26 rfl rfl ?_
        refine r_iload K 4 dX12_would_27 rfl ?_
        refine w_callS K hl H (fun r h => c_X12_canBe l h) mC_yX12_canBe mM_RX12_267 mT_yX12_canBe mZ_RX12 (Nat.le_of_ble_eq_true rfl) (Nat.le_of_ble_eq_true rfl) np_yX12_canBe rfl (Nat.le_of_ble_eq_true rfl) dX12_would_29 (fun r5 H => ?_) ⟨Nat.zero_le _, Nat.zero_le _⟩
        refine w_if_eq K 50 dX12_would_32 (by decide) H (fun _ H => ?_) (fun _ H => ?_)
        · exact r_sub [] rfl (t_X12_would_50 K hl H D)
        · refine r_iload K 5 dX12_would_35 rfl ?_
          refine r_iconst (v := 0) K dX12_would_37 (by decide) ?_
          refine r_aload_n K 0 dX12_would_38 rfl rfl ?_
          refine w_getO K vc12 inX12 26 (by decide) mF_RX12_48 dX12_would_39 H (fun x6 H => ?_)
          refine r_iload_n K 1 dX12_would_42 rfl rfl ?_
          refine w_iald K dX12_would_43 H (fun x7 H => ?_)
          refine w_callS K hl H (fun r h => c_X12_in l h) mC_yX12_in mM_RX12_134 mT_yX12_in mZ_RX12 (Nat.le_of_ble_eq_true rfl) (Nat.le_of_ble_eq_true rfl) np_yX12_in rfl (Nat.le_of_ble_eq_true rfl) dX12_would_44 (fun r8 H => ?_) ⟨Nat.zero_le _, Nat.zero_le _⟩
          refine w_if_ne K 54 dX12_would_47 (by decide) H (fun _ H => ?_) (fun _ H => ?_)
          · refine r_iload_n K 2 dX12_would_54 rfl rfl ?_
            refine w_if_eq K 67 dX12_would_55 (by decide) H (fun _ H => ?_) (fun _ H => ?_)
            · refine r_aload_n K 0 dX12_would_67 rfl rfl ?_
              refine r_iload_n K 1 dX12_would_68 rfl rfl ?_
              refine r_iload_n K 3 dX12_would_69 rfl rfl ?_
              refine w_callV K hl H (fun r h => c_X12_c l h) mC_yX12_c mM_RX12_260 mI_yX12_c mS_yX12_c mZ_RX12 vc12 (Nat.le_of_ble_eq_true rfl) (Nat.le_of_ble_eq_true rfl) np_yX12_c rfl (Nat.le_of_ble_eq_true rfl) dX12_would_70 (fun r9 H => ?_) ⟨Nat.zero_le _, Nat.zero_le _⟩
              exact r_sub [0, 1, 2, 3, 4, 5] rfl (t_X12_would_73 K hl H D)
            · refine r_aload_n K 0 dX12_would_58 rfl rfl ?_
              refine r_iload_n K 1 dX12_would_59 rfl rfl ?_
              refine r_iload_n K 3 dX12_would_60 rfl rfl ?_
              refine w_callV K hl H (fun r h => c_X12_a l h) mC_yX12_a mM_RX12_256 mI_yX12_a mS_yX12_a mZ_RX12 vc12 (Nat.le_of_ble_eq_true rfl) (Nat.le_of_ble_eq_true rfl) np_yX12_a rfl (Nat.le_of_ble_eq_true rfl) dX12_would_61 (fun r10 H => ?_) ⟨Nat.zero_le _, Nat.zero_le _⟩
              refine r_goto K 73 dX12_would_64 (by decide) ?_
              exact r_sub [0, 1, 2, 3, 4, 5] rfl (t_X12_would_73 K hl H D)
          · exact r_sub [] rfl (t_X12_would_50 K hl H D)
theorem c_X12_would (l : Launch) {n : Nat} {Y : jY} {v0 : Nat} {v1 : Int32} {v2 : Int32} {v3 : Int32} {v4 : Int32} {v5 : Int32} {μ : jM} {z : Int64 × jM} (H : f_X12_would Y v0 v1 v2 v3 v4 v5 μ = some z) : jC l yX12_would cX12_would 7 (some .long) 3 0 0 [.ref v0, .int v1, .int v2, .int v3, .int v4, .int v5] n Y μ n Y (some (.long z.1)) z.2 := by
  refine jC_of (by decide +kernel) (Nat.le_of_ble_eq_true rfl) (fun X hl K _ _ _ => ?_)
  obtain ⟨rr, μr⟩ := z
  exact t_X12_would_0 K hl H rfl
/-! RX12 isRival(II)Z -/
def b_X12_isRival_73 (Y : jY) (t0 : Int32) (μ : jM) : Option (Int32 × jM) :=
  (jbool t0).bind fun x1 =>
  some (x1, μ)
def f_X12_isRival (Y : jY) (v0 : Nat) (v1 : Int32) (v2 : Int32) (μ : jM) : Option (Int32 × jM) :=
  (jgO Y μ v0 12 26).bind fun x1 =>
  (jaI Y μ x1 20 v1).bind fun x2 =>
  if v2 = 0 then
    (jrcv Y v0 12 (f_X12_wholeOf Y v0 v1 ((0 : Int32)) x2 μ)).bind fun r5 =>
    if r5.1 = x2 then
      b_X12_isRival_73 Y (1 : Int32) r5.2
    else
      b_X12_isRival_73 Y (0 : Int32) r5.2
  else
    if v2 = ((1 : Int32)) then
      (jrcv Y v0 12 (f_X12_valueAt Y v0 v1 ((0 : Int32)) x2 ((0 : Int64)) μ)).bind fun r4 =>
      if ((lg_cmp r4.1 ((0 : Int64)))) = 0 then
        b_X12_isRival_73 Y (1 : Int32) r4.2
      else
        b_X12_isRival_73 Y (0 : Int32) r4.2
    else
      (jrcv Y v0 12 (f_X12_belowOf Y v0 v1 ((0 : Int32)) x2 ((0 : Int32)) ((1 : Int32)) μ)).bind fun r3 =>
      if r3.1 = 0 then
        b_X12_isRival_73 Y (1 : Int32) r3.2
      else
        b_X12_isRival_73 Y (0 : Int32) r3.2
set_option maxRecDepth 10000 in
theorem t_X12_isRival_73 {X : jX} {l : Launch} {n : Nat} {Y : jY} (K : jOK X RX12 cX12_isRival 4 (some .boolean) 4) (hl : X.2.1 = l) {rr : Int32} {μr : jM} {t0 : Int32} {μ : jM} {z : (Int32 × jM)} (H : b_X12_isRival_73 Y t0 μ = some z) (D : z = (rr, μr)) : JW X (jEnd X n Y (some (.int rr)) μr 0 0) 0 0 n Y 73 [] [.int t0] μ := by
  unfold b_X12_isRival_73 at H
  refine w_zret K dX12_isRival_73 H (fun hz H => ?_)
  cases H
  obtain ⟨rfl, rfl⟩ := jfin2 D
  exact r_zret K hz dX12_isRival_73
set_option maxRecDepth 10000 in
theorem t_X12_isRival_0 {X : jX} {l : Launch} {n : Nat} {Y : jY} (K : jOK X RX12 cX12_isRival 4 (some .boolean) 4) (hl : X.2.1 = l) {rr : Int32} {μr : jM} {v0 : Nat} {v1 : Int32} {v2 : Int32} {μ : jM} {z : (Int32 × jM)} (H : f_X12_isRival Y v0 v1 v2 μ = some z) (D : z = (rr, μr)) : JW X (jEnd X n Y (some (.int rr)) μr 0 0) 0 0 n Y 0 [(0, .ref v0), (1, .int v1), (2, .int v2)] [] μ := by
  unfold f_X12_isRival at H
  refine r_aload_n K 0 dX12_isRival_0 rfl rfl ?_
  refine w_getO K vc12 inX12 26 (by decide) mF_RX12_48 dX12_isRival_1 H (fun x1 H => ?_)
  refine r_iload_n K 1 dX12_isRival_4 rfl rfl ?_
  refine w_iald K dX12_isRival_5 H (fun x2 H => ?_)
  refine r_istore_n K [(3, .int _), (0, .ref _), (1, .int _), (2, .int _)] dX12_isRival_6 rfl (by decide) rfl ?_
  refine r_iload_n K 3 dX12_isRival_7 rfl rfl ?_
  refine w_if_ne K 30 dX12_isRival_8 (by decide) H (fun _ H => ?_) (fun _ H => ?_)
  · refine r_iload_n K 3 dX12_isRival_30 rfl rfl ?_
    refine r_iconst (v := 1) K dX12_isRival_31 (by decide) ?_
    refine w_icmp_ne K 56 dX12_isRival_32 (by decide) H (fun _ H => ?_) (fun _ H => ?_)
    · refine r_aload_n K 1 dX12_isRival_56 rfl rfl ?_
      refine r_iload_n K 2 dX12_isRival_57 rfl rfl ?_
      refine r_iconst (v := 0) K dX12_isRival_58 (by decide) ?_
      refine r_iload_n K 0 dX12_isRival_59 rfl rfl ?_
      refine r_iconst (v := 0) K dX12_isRival_60 (by decide) ?_
      refine r_iconst (v := 1) K dX12_isRival_61 (by decide) ?_
      refine w_callV K hl H (fun r h => c_X12_belowOf l h) mC_yX12_belowOf mM_RX12_283 mI_yX12_belowOf mS_yX12_belowOf mZ_RX12 vc12 (Nat.le_of_ble_eq_true rfl) (Nat.le_of_ble_eq_true rfl) np_yX12_belowOf rfl (Nat.le_of_ble_eq_true rfl) dX12_isRival_62 (fun r3 H => ?_) ⟨Nat.zero_le _, Nat.zero_le _⟩
      refine w_if_ne K 72 dX12_isRival_65 (by decide) H (fun _ H => ?_) (fun _ H => ?_)
      · refine r_iconst (v := 0) K dX12_isRival_72 (by decide) ?_
        exact r_sub [] rfl (t_X12_isRival_73 K hl H D)
      · refine r_iconst (v := 1) K dX12_isRival_68 (by decide) ?_
        refine r_goto K 73 dX12_isRival_69 (by decide) ?_
        exact r_sub [] rfl (t_X12_isRival_73 K hl H D)
    · refine r_aload_n K 1 dX12_isRival_35 rfl rfl ?_
      refine r_iload_n K 2 dX12_isRival_36 rfl rfl ?_
      refine r_iconst (v := 0) K dX12_isRival_37 (by decide) ?_
      refine r_iload_n K 0 dX12_isRival_38 rfl rfl ?_
      refine r_lconst (v := 0) K dX12_isRival_39 (by decide) ?_
      refine w_callV K hl H (fun r h => c_X12_valueAt l h) mC_yX12_valueAt mM_RX12_279 mI_yX12_valueAt mS_yX12_valueAt mZ_RX12 vc12 (Nat.le_of_ble_eq_true rfl) (Nat.le_of_ble_eq_true rfl) np_yX12_valueAt rfl (Nat.le_of_ble_eq_true rfl) dX12_isRival_40 (fun r4 H => ?_) ⟨Nat.zero_le _, Nat.zero_le _⟩
      refine r_lconst (v := 0) K dX12_isRival_43 (by decide) ?_
      refine r_lcmp K dX12_isRival_44 ?_
      refine w_if_ne K 52 dX12_isRival_45 (by decide) H (fun _ H => ?_) (fun _ H => ?_)
      · refine r_iconst (v := 0) K dX12_isRival_52 (by decide) ?_
        refine r_goto K 73 dX12_isRival_53 (by decide) ?_
        exact r_sub [] rfl (t_X12_isRival_73 K hl H D)
      · refine r_iconst (v := 1) K dX12_isRival_48 (by decide) ?_
        refine r_goto K 73 dX12_isRival_49 (by decide) ?_
        exact r_sub [] rfl (t_X12_isRival_73 K hl H D)
  · refine r_aload_n K 1 dX12_isRival_11 rfl rfl ?_
    refine r_iload_n K 2 dX12_isRival_12 rfl rfl ?_
    refine r_iconst (v := 0) K dX12_isRival_13 (by decide) ?_
    refine r_iload_n K 0 dX12_isRival_14 rfl rfl ?_
    refine w_callV K hl H (fun r h => c_X12_wholeOf l h) mC_yX12_wholeOf mM_RX12_292 mI_yX12_wholeOf mS_yX12_wholeOf mZ_RX12 vc12 (Nat.le_of_ble_eq_true rfl) (Nat.le_of_ble_eq_true rfl) np_yX12_wholeOf rfl (Nat.le_of_ble_eq_true rfl) dX12_isRival_15 (fun r5 H => ?_) ⟨Nat.zero_le _, Nat.zero_le _⟩
    refine r_iload_n K 0 dX12_isRival_18 rfl rfl ?_
    refine w_icmp_ne K 26 dX12_isRival_19 (by decide) H (fun _ H => ?_) (fun _ H => ?_)
    · refine r_iconst (v := 0) K dX12_isRival_26 (by decide) ?_
      refine r_goto K 73 dX12_isRival_27 (by decide) ?_
      exact r_sub [] rfl (t_X12_isRival_73 K hl H D)
    · refine r_iconst (v := 1) K dX12_isRival_22 (by decide) ?_
      refine r_goto K 73 dX12_isRival_23 (by decide) ?_
      exact r_sub [] rfl (t_X12_isRival_73 K hl H D)
theorem c_X12_isRival (l : Launch) {n : Nat} {Y : jY} {v0 : Nat} {v1 : Int32} {v2 : Int32} {μ : jM} {z : Int32 × jM} (H : f_X12_isRival Y v0 v1 v2 μ = some z) : jC l yX12_isRival cX12_isRival 4 (some .boolean) 4 0 0 [.ref v0, .int v1, .int v2] n Y μ n Y (some (.int z.1)) z.2 := by
  refine jC_of (by decide +kernel) (Nat.le_of_ble_eq_true rfl) (fun X hl K _ _ _ => ?_)
  obtain ⟨rr, μr⟩ := z
  exact t_X12_isRival_0 K hl H rfl
/-! RX12 writes(I)V -/
def b_X12_writes_16 (Y : jY) (v0 : Nat) (μ : jM) : Option (jM) :=
  (jgI Y μ v0 12 22).bind fun x1 =>
  (jput Y μ v0 12 22 (.int ((x1 + ((1 : Int32)))))).bind fun μ2 =>
  some μ2
def f_X12_writes (Y : jY) (v0 : Nat) (v1 : Int32) (μ : jM) : Option (jM) :=
  (jgI Y μ v0 12 22).bind fun x1 =>
  (jgI Y μ v0 12 23).bind fun x2 =>
  if x1 = x2 then
    (jput Y μ v0 12 24 (.int v1)).bind fun μ3 =>
    b_X12_writes_16 Y v0 μ3
  else
    b_X12_writes_16 Y v0 μ
set_option maxRecDepth 10000 in
theorem t_X12_writes_16 {X : jX} {l : Launch} {n : Nat} {Y : jY} (K : jOK X RX12 cX12_writes 2 none 1) (hl : X.2.1 = l) {μr : jM} {v0 : Nat} {μ : jM} {z : (jM)} (H : b_X12_writes_16 Y v0 μ = some z) (D : z = μr) : JW X (jEnd X n Y none μr 0 0) 0 0 n Y 16 [(0, .ref v0)] [] μ := by
  unfold b_X12_writes_16 at H
  refine r_aload_n K 0 dX12_writes_16 rfl rfl ?_
  refine r_aload_n K 0 dX12_writes_17 rfl rfl ?_
  refine w_getI K vc12 inX12 22 (by decide) mF_RX12_238 dX12_writes_18 H (fun x1 H => ?_)
  refine r_iconst (v := 1) K dX12_writes_21 (by decide) ?_
  refine r_iadd K dX12_writes_22 ?_
  refine w_put K vc12 inX12 tyX12_ok nmX12 22 (by decide) mF_RX12_238 rfl (fun _ => rfl) (fun _ => rfl) dX12_writes_23 H (fun μ2 H => ?_)
  cases H
  subst D
  exact r_vret K dX12_writes_26
set_option maxRecDepth 10000 in
theorem t_X12_writes_0 {X : jX} {l : Launch} {n : Nat} {Y : jY} (K : jOK X RX12 cX12_writes 2 none 1) (hl : X.2.1 = l) {μr : jM} {v0 : Nat} {v1 : Int32} {μ : jM} {z : (jM)} (H : f_X12_writes Y v0 v1 μ = some z) (D : z = μr) : JW X (jEnd X n Y none μr 0 0) 0 0 n Y 0 [(0, .ref v0), (1, .int v1)] [] μ := by
  unfold f_X12_writes at H
  refine r_aload_n K 0 dX12_writes_0 rfl rfl ?_
  refine w_getI K vc12 inX12 22 (by decide) mF_RX12_238 dX12_writes_1 H (fun x1 H => ?_)
  refine r_aload_n K 0 dX12_writes_4 rfl rfl ?_
  refine w_getI K vc12 inX12 23 (by decide) mF_RX12_241 dX12_writes_5 H (fun x2 H => ?_)
  refine w_icmp_ne K 16 dX12_writes_8 (by decide) H (fun _ H => ?_) (fun _ H => ?_)
  · exact r_sub [0] rfl (t_X12_writes_16 K hl H D)
  · refine r_aload_n K 0 dX12_writes_11 rfl rfl ?_
    refine r_iload_n K 1 dX12_writes_12 rfl rfl ?_
    refine w_put K vc12 inX12 tyX12_ok nmX12 24 (by decide) mF_RX12_244 rfl (fun _ => rfl) (fun _ => rfl) dX12_writes_13 H (fun μ3 H => ?_)
    exact r_sub [0] rfl (t_X12_writes_16 K hl H D)
theorem c_X12_writes (l : Launch) {n : Nat} {Y : jY} {v0 : Nat} {v1 : Int32} {μ : jM} {z : jM} (H : f_X12_writes Y v0 v1 μ = some z) : jC l yX12_writes cX12_writes 2 none 1 0 0 [.ref v0, .int v1] n Y μ n Y none z := by
  refine jC_of (by decide +kernel) (Nat.le_of_ble_eq_true rfl) (fun X hl K _ _ _ => ?_)
  exact t_X12_writes_0 K hl H rfl
/-! RX12 writesNumber(I)V -/
def b_X12_writesNumber_38 (Y : jY) (v0 : Nat) (v2 : Int32) (μ : jM) : Option (jM) :=
  (jremI v2 ((10 : Int32))).bind fun x1 =>
  (jrcv Y v0 12 (f_X12_writes Y v0 ((((48 : Int32)) + x1)) μ)).bind fun μ2 =>
  some μ2
def b_X12_writesNumber_20 (Y : jY) (v0 : Nat) (t0 : Int32) (μ : jM) : Option (jM) :=
  if t0 ≤ ((9 : Int32)) then
    b_X12_writesNumber_38 Y v0 t0 μ
  else
    (jdivI t0 ((10 : Int32))).bind fun x1 =>
    (jrcv Y v0 12 (f_X12_writes Y v0 ((((48 : Int32)) + x1)) μ)).bind fun μ2 =>
    b_X12_writesNumber_38 Y v0 t0 μ2
def b_X12_writesNumber_10 (Y : jY) (v0 : Nat) (v1 : Int32) (μ : jM) : Option (jM) :=
  if 0 ≤ v1 then
    b_X12_writesNumber_20 Y v0 v1 μ
  else
    b_X12_writesNumber_20 Y v0 (-v1) μ
def f_X12_writesNumber (Y : jY) (v0 : Nat) (v1 : Int32) (μ : jM) : Option (jM) :=
  if 0 ≤ v1 then
    b_X12_writesNumber_10 Y v0 v1 μ
  else
    (jrcv Y v0 12 (f_X12_writes Y v0 ((45 : Int32)) μ)).bind fun μ1 =>
    b_X12_writesNumber_10 Y v0 v1 μ1
set_option maxRecDepth 10000 in
theorem t_X12_writesNumber_38 {X : jX} {l : Launch} {n : Nat} {Y : jY} (K : jOK X RX12 cX12_writesNumber 3 none 2) (hl : X.2.1 = l) {μr : jM} {v0 : Nat} {v2 : Int32} {μ : jM} {z : (jM)} (H : b_X12_writesNumber_38 Y v0 v2 μ = some z) (D : z = μr) : JW X (jEnd X n Y none μr 0 0) 0 0 n Y 38 [(0, .ref v0), (2, .int v2)] [] μ := by
  unfold b_X12_writesNumber_38 at H
  refine r_aload_n K 0 dX12_writesNumber_38 rfl rfl ?_
  refine r_bipush (v := 48) K dX12_writesNumber_39 (by decide) ?_
  refine r_iload_n K 1 dX12_writesNumber_41 rfl rfl ?_
  refine r_bipush (v := 10) K dX12_writesNumber_42 (by decide) ?_
  refine w_irem K dX12_writesNumber_44 H (fun x1 H => ?_)
  refine r_iadd K dX12_writesNumber_45 ?_
  refine w_callV K hl H (fun r h => c_X12_writes l h) mC_yX12_writes mM_RX12_247 mI_yX12_writes mS_yX12_writes mZ_RX12 vc12 (Nat.le_of_ble_eq_true rfl) (Nat.le_of_ble_eq_true rfl) np_yX12_writes rfl (Nat.le_of_ble_eq_true rfl) dX12_writesNumber_46 (fun μ2 H => ?_) ⟨Nat.zero_le _, Nat.zero_le _⟩
  cases H
  subst D
  exact r_vret K dX12_writesNumber_49
set_option maxRecDepth 10000 in
theorem t_X12_writesNumber_20 {X : jX} {l : Launch} {n : Nat} {Y : jY} (K : jOK X RX12 cX12_writesNumber 3 none 2) (hl : X.2.1 = l) {μr : jM} {v0 : Nat} {t0 : Int32} {μ : jM} {z : (jM)} (H : b_X12_writesNumber_20 Y v0 t0 μ = some z) (D : z = μr) : JW X (jEnd X n Y none μr 0 0) 0 0 n Y 20 [(0, .ref v0)] [.int t0] μ := by
  unfold b_X12_writesNumber_20 at H
  refine r_istore_n K [(2, .int _), (0, .ref _)] dX12_writesNumber_20 rfl (by decide) rfl ?_
  refine r_iload_n K 0 dX12_writesNumber_21 rfl rfl ?_
  refine r_bipush (v := 9) K dX12_writesNumber_22 (by decide) ?_
  refine w_icmp_le K 38 dX12_writesNumber_24 (by decide) H (fun _ H => ?_) (fun _ H => ?_)
  · exact r_sub [1, 0] rfl (t_X12_writesNumber_38 K hl H D)
  · refine r_aload_n K 1 dX12_writesNumber_27 rfl rfl ?_
    refine r_bipush (v := 48) K dX12_writesNumber_28 (by decide) ?_
    refine r_iload_n K 0 dX12_writesNumber_30 rfl rfl ?_
    refine r_bipush (v := 10) K dX12_writesNumber_31 (by decide) ?_
    refine w_idiv K dX12_writesNumber_33 H (fun x1 H => ?_)
    refine r_iadd K dX12_writesNumber_34 ?_
    refine w_callV K hl H (fun r h => c_X12_writes l h) mC_yX12_writes mM_RX12_247 mI_yX12_writes mS_yX12_writes mZ_RX12 vc12 (Nat.le_of_ble_eq_true rfl) (Nat.le_of_ble_eq_true rfl) np_yX12_writes rfl (Nat.le_of_ble_eq_true rfl) dX12_writesNumber_35 (fun μ2 H => ?_) ⟨Nat.zero_le _, Nat.zero_le _⟩
    exact r_sub [1, 0] rfl (t_X12_writesNumber_38 K hl H D)
set_option maxRecDepth 10000 in
theorem t_X12_writesNumber_10 {X : jX} {l : Launch} {n : Nat} {Y : jY} (K : jOK X RX12 cX12_writesNumber 3 none 2) (hl : X.2.1 = l) {μr : jM} {v0 : Nat} {v1 : Int32} {μ : jM} {z : (jM)} (H : b_X12_writesNumber_10 Y v0 v1 μ = some z) (D : z = μr) : JW X (jEnd X n Y none μr 0 0) 0 0 n Y 10 [(0, .ref v0), (1, .int v1)] [] μ := by
  unfold b_X12_writesNumber_10 at H
  refine r_iload_n K 1 dX12_writesNumber_10 rfl rfl ?_
  refine w_if_ge K 19 dX12_writesNumber_11 (by decide) H (fun _ H => ?_) (fun _ H => ?_)
  · refine r_iload_n K 1 dX12_writesNumber_19 rfl rfl ?_
    exact r_sub [0] rfl (t_X12_writesNumber_20 K hl H D)
  · refine r_iload_n K 1 dX12_writesNumber_14 rfl rfl ?_
    refine r_ineg K dX12_writesNumber_15 ?_
    refine r_goto K 20 dX12_writesNumber_16 (by decide) ?_
    exact r_sub [0] rfl (t_X12_writesNumber_20 K hl H D)
set_option maxRecDepth 10000 in
theorem t_X12_writesNumber_0 {X : jX} {l : Launch} {n : Nat} {Y : jY} (K : jOK X RX12 cX12_writesNumber 3 none 2) (hl : X.2.1 = l) {μr : jM} {v0 : Nat} {v1 : Int32} {μ : jM} {z : (jM)} (H : f_X12_writesNumber Y v0 v1 μ = some z) (D : z = μr) : JW X (jEnd X n Y none μr 0 0) 0 0 n Y 0 [(0, .ref v0), (1, .int v1)] [] μ := by
  unfold f_X12_writesNumber at H
  refine r_iload_n K 1 dX12_writesNumber_0 rfl rfl ?_
  refine w_if_ge K 10 dX12_writesNumber_1 (by decide) H (fun _ H => ?_) (fun _ H => ?_)
  · exact r_sub [0, 1] rfl (t_X12_writesNumber_10 K hl H D)
  · refine r_aload_n K 0 dX12_writesNumber_4 rfl rfl ?_
    refine r_bipush (v := 45) K dX12_writesNumber_5 (by decide) ?_
    refine w_callV K hl H (fun r h => c_X12_writes l h) mC_yX12_writes mM_RX12_247 mI_yX12_writes mS_yX12_writes mZ_RX12 vc12 (Nat.le_of_ble_eq_true rfl) (Nat.le_of_ble_eq_true rfl) np_yX12_writes rfl (Nat.le_of_ble_eq_true rfl) dX12_writesNumber_7 (fun μ1 H => ?_) ⟨Nat.zero_le _, Nat.zero_le _⟩
    exact r_sub [0, 1] rfl (t_X12_writesNumber_10 K hl H D)
theorem c_X12_writesNumber (l : Launch) {n : Nat} {Y : jY} {v0 : Nat} {v1 : Int32} {μ : jM} {z : jM} (H : f_X12_writesNumber Y v0 v1 μ = some z) : jC l yX12_writesNumber cX12_writesNumber 3 none 2 0 0 [.ref v0, .int v1] n Y μ n Y none z := by
  refine jC_of (by decide +kernel) (Nat.le_of_ble_eq_true rfl) (fun X hl K _ _ _ => ?_)
  exact t_X12_writesNumber_0 K hl H rfl
/-! RX12 letter(I)I -/
def b_X12_letter_12 (Y : jY) (μ : jM) : Option (Int32 × jM) :=
  some ((-1 : Int32), μ)
def b_X12_letter_133 (Y : jY) (t0 : Int32) (μ : jM) : Option (Int32 × jM) :=
  some (t0, μ)
def b_X12_letter_88 (Y : jY) (v0 : Nat) (v1 : Int32) (v2 : Int32) (μ : jM) : Option ((Int32 × jM) ⊕ (Int32 × jM)) :=
  (jgO Y μ v0 12 12).bind fun x1 =>
  (jaI Y μ x1 20 v2).bind fun x2 =>
  (jrcv Y v0 12 (f_X12_writesNumber Y v0 x2 μ)).bind fun μ3 =>
  some (.inl ((v2 + (1 : Int32)), μ3))
def b_X12_letter_68 (Y : jY) (v0 : Nat) (v1 : Int32) (v2 : Int32) (μ : jM) : Option ((Int32 × jM) ⊕ (Int32 × jM)) :=
  (jgI Y μ v0 12 10).bind fun x1 =>
  if ((x1 - ((1 : Int32)))) ≤ v2 then
    if v1 = ((-1 : Int32)) then
      (jgI Y μ v0 12 22).bind fun x4 =>
      (b_X12_letter_133 Y x4 μ).map (fun r => (.inr r))
    else
      (jgI Y μ v0 12 22).bind fun x2 =>
      if x2 ≤ v1 then
        (b_X12_letter_133 Y (-3 : Int32) μ).map (fun r => (.inr r))
      else
        (jgI Y μ v0 12 24).bind fun x3 =>
        (b_X12_letter_133 Y x3 μ).map (fun r => (.inr r))
  else
    if v2 ≤ 0 then
      b_X12_letter_88 Y v0 v1 v2 μ
    else
      (jrcv Y v0 12 (f_X12_writes Y v0 ((32 : Int32)) μ)).bind fun μ5 =>
      b_X12_letter_88 Y v0 v1 v2 μ5
def b_X12_letter_44 (Y : jY) (v0 : Nat) (v1 : Int32) (v2 : Int32) (μ : jM) : Option ((Int32 × jM) ⊕ (Int32 × jM)) :=
  (jgO Y μ v0 12 11).bind fun x1 =>
  (jaI Y μ x1 20 v2).bind fun x2 =>
  (jrcv Y v0 12 (f_X12_writesNumber Y v0 x2 μ)).bind fun μ3 =>
  some (.inl ((v2 + (1 : Int32)), μ3))
def b_X12_letter_26 (Y : jY) (v0 : Nat) (v1 : Int32) (v2 : Int32) (μ : jM) : Option ((Int32 × jM) ⊕ (Int32 × jM)) :=
  (jgI Y μ v0 12 10).bind fun x1 =>
  if x1 ≤ v2 then
    (jrcv Y v0 12 (f_X12_writes Y v0 ((47 : Int32)) μ)).bind fun μ2 =>
    (jit jF (fun (s : Int32 × jM) => b_X12_letter_68 Y v0 v1 s.1 s.2) ((0 : Int32), μ2)).map (fun r => (.inr r))
  else
    if v2 ≤ 0 then
      b_X12_letter_44 Y v0 v1 v2 μ
    else
      (jrcv Y v0 12 (f_X12_writes Y v0 ((32 : Int32)) μ)).bind fun μ3 =>
      b_X12_letter_44 Y v0 v1 v2 μ3
def f_X12_letter (Y : jY) (v0 : Nat) (v1 : Int32) (μ : jM) : Option (Int32 × jM) :=
  (jgI Y μ v0 12 10).bind fun x1 =>
  if x1 = 0 then
    b_X12_letter_12 Y μ
  else
    if ((-1 : Int32)) ≤ v1 then
      (jput Y μ v0 12 22 (.int ((0 : Int32)))).bind fun μ2 =>
      (jput Y μ2 v0 12 23 (.int v1)).bind fun μ3 =>
      jit jF (fun (s : Int32 × jM) => b_X12_letter_26 Y v0 v1 s.1 s.2) ((0 : Int32), μ3)
    else
      b_X12_letter_12 Y μ
set_option maxRecDepth 10000 in
theorem t_X12_letter_12 {X : jX} {l : Launch} {n : Nat} {Y : jY} (K : jOK X RX12 cX12_letter 3 (some .int) 3) (hl : X.2.1 = l) {rr : Int32} {μr : jM} {μ : jM} {z : (Int32 × jM)} (H : b_X12_letter_12 Y μ = some z) (D : z = (rr, μr)) : JW X (jEnd X n Y (some (.int rr)) μr 0 0) 0 0 n Y 12 [] [] μ := by
  unfold b_X12_letter_12 at H
  refine r_iconst (v := -1) K dX12_letter_12 (by decide) ?_
  cases H
  obtain ⟨rfl, rfl⟩ := jfin2 D
  exact r_iret K dX12_letter_13
set_option maxRecDepth 10000 in
theorem t_X12_letter_133 {X : jX} {l : Launch} {n : Nat} {Y : jY} (K : jOK X RX12 cX12_letter 3 (some .int) 3) (hl : X.2.1 = l) {rr : Int32} {μr : jM} {t0 : Int32} {μ : jM} {z : (Int32 × jM)} (H : b_X12_letter_133 Y t0 μ = some z) (D : z = (rr, μr)) : JW X (jEnd X n Y (some (.int rr)) μr 0 0) 0 0 n Y 133 [] [.int t0] μ := by
  unfold b_X12_letter_133 at H
  cases H
  obtain ⟨rfl, rfl⟩ := jfin2 D
  exact r_iret K dX12_letter_133
set_option maxRecDepth 10000 in
theorem t_X12_letter_88 {X : jX} {l : Launch} {n : Nat} {Y : jY} (K : jOK X RX12 cX12_letter 3 (some .int) 3) (hl : X.2.1 = l) {rr : Int32} {μr : jM} {v0 : Nat} {v1 : Int32} {v2 : Int32} {μ : jM} {z : ((Int32 × jM) ⊕ (Int32 × jM))} (H : b_X12_letter_88 Y v0 v1 v2 μ = some z) (D : Sum.elim (fun (s : Int32 × jM) => JW X (jEnd X n Y (some (.int rr)) μr 0 0) 0 0 n Y 68 [(0, .ref v0), (1, .int v1), (2, .int s.1)] [] s.2) (fun r => r = (rr, μr)) z) : JW X (jEnd X n Y (some (.int rr)) μr 0 0) 0 0 n Y 88 [(0, .ref v0), (1, .int v1), (2, .int v2)] [] μ := by
  unfold b_X12_letter_88 at H
  refine r_aload_n K 0 dX12_letter_88 rfl rfl ?_
  refine r_aload_n K 0 dX12_letter_89 rfl rfl ?_
  refine w_getO K vc12 inX12 12 (by decide) mF_RX12_23 dX12_letter_90 H (fun x1 H => ?_)
  refine r_iload_n K 2 dX12_letter_93 rfl rfl ?_
  refine w_iald K dX12_letter_94 H (fun x2 H => ?_)
  refine w_callV K hl H (fun r h => c_X12_writesNumber l h) mC_yX12_writesNumber mM_RX12_250 mI_yX12_writesNumber mS_yX12_writesNumber mZ_RX12 vc12 (Nat.le_of_ble_eq_true rfl) (Nat.le_of_ble_eq_true rfl) np_yX12_writesNumber rfl (Nat.le_of_ble_eq_true rfl) dX12_letter_95 (fun μ3 H => ?_) ⟨Nat.zero_le _, Nat.zero_le _⟩
  refine r_iinc K 2 [(2, .int _), (0, .ref _), (1, .int _)] (v := _ + (1 : Int32)) dX12_letter_98 rfl rfl (by decide) rfl ?_
  refine r_goto K 68 dX12_letter_101 (by decide) ?_
  cases H
  exact r_sub [1, 2, 0] rfl D
set_option maxRecDepth 10000 in
theorem t_X12_letter_68 {X : jX} {l : Launch} {n : Nat} {Y : jY} (K : jOK X RX12 cX12_letter 3 (some .int) 3) (hl : X.2.1 = l) {rr : Int32} {μr : jM} {v0 : Nat} {v1 : Int32} {v2 : Int32} {μ : jM} {z : ((Int32 × jM) ⊕ (Int32 × jM))} (H : b_X12_letter_68 Y v0 v1 v2 μ = some z) (D : Sum.elim (fun (s : Int32 × jM) => JW X (jEnd X n Y (some (.int rr)) μr 0 0) 0 0 n Y 68 [(0, .ref v0), (1, .int v1), (2, .int s.1)] [] s.2) (fun r => r = (rr, μr)) z) : JW X (jEnd X n Y (some (.int rr)) μr 0 0) 0 0 n Y 68 [(0, .ref v0), (1, .int v1), (2, .int v2)] [] μ := by
  unfold b_X12_letter_68 at H
  refine r_iload_n K 2 dX12_letter_68 rfl rfl ?_
  refine r_aload_n K 0 dX12_letter_69 rfl rfl ?_
  refine w_getI K vc12 inX12 10 (by decide) mF_RX12_145 dX12_letter_70 H (fun x1 H => ?_)
  refine r_iconst (v := 1) K dX12_letter_73 (by decide) ?_
  refine r_isub K dX12_letter_74 ?_
  refine w_icmp_ge K 104 dX12_letter_75 (by decide) H (fun _ H => ?_) (fun _ H => ?_)
  · refine r_iload_n K 1 dX12_letter_104 rfl rfl ?_
    refine r_iconst (v := -1) K dX12_letter_105 (by decide) ?_
    refine w_icmp_ne K 116 dX12_letter_106 (by decide) H (fun _ H => ?_) (fun _ H => ?_)
    · refine r_iload_n K 1 dX12_letter_116 rfl rfl ?_
      refine r_aload_n K 0 dX12_letter_117 rfl rfl ?_
      refine w_getI K vc12 inX12 22 (by decide) mF_RX12_238 dX12_letter_118 H (fun x2 H => ?_)
      refine w_icmp_ge K 131 dX12_letter_121 (by decide) H (fun _ H => ?_) (fun _ H => ?_)
      · refine r_bipush (v := -3) K dX12_letter_131 (by decide) ?_
        obtain ⟨z2, H2, rfl⟩ := jmap H
        exact r_sub [] rfl (t_X12_letter_133 K hl H2 D)
      · refine r_aload_n K 0 dX12_letter_124 rfl rfl ?_
        refine w_getI K vc12 inX12 24 (by decide) mF_RX12_244 dX12_letter_125 H (fun x3 H => ?_)
        refine r_goto K 133 dX12_letter_128 (by decide) ?_
        obtain ⟨z2, H2, rfl⟩ := jmap H
        exact r_sub [] rfl (t_X12_letter_133 K hl H2 D)
    · refine r_aload_n K 0 dX12_letter_109 rfl rfl ?_
      refine w_getI K vc12 inX12 22 (by decide) mF_RX12_238 dX12_letter_110 H (fun x4 H => ?_)
      refine r_goto K 133 dX12_letter_113 (by decide) ?_
      obtain ⟨z2, H2, rfl⟩ := jmap H
      exact r_sub [] rfl (t_X12_letter_133 K hl H2 D)
  · refine r_iload_n K 2 dX12_letter_78 rfl rfl ?_
    refine w_if_le K 88 dX12_letter_79 (by decide) H (fun _ H => ?_) (fun _ H => ?_)
    · exact r_sub [0, 1, 2] rfl (t_X12_letter_88 K hl H D)
    · refine r_aload_n K 0 dX12_letter_82 rfl rfl ?_
      refine r_bipush (v := 32) K dX12_letter_83 (by decide) ?_
      refine w_callV K hl H (fun r h => c_X12_writes l h) mC_yX12_writes mM_RX12_247 mI_yX12_writes mS_yX12_writes mZ_RX12 vc12 (Nat.le_of_ble_eq_true rfl) (Nat.le_of_ble_eq_true rfl) np_yX12_writes rfl (Nat.le_of_ble_eq_true rfl) dX12_letter_85 (fun μ5 H => ?_) ⟨Nat.zero_le _, Nat.zero_le _⟩
      exact r_sub [0, 1, 2] rfl (t_X12_letter_88 K hl H D)
set_option maxRecDepth 10000 in
theorem l_X12_letter_68 {X : jX} {l : Launch} {n : Nat} {Y : jY} (K : jOK X RX12 cX12_letter 3 (some .int) 3) (hl : X.2.1 = l) {rr : Int32} {μr : jM} {v0 : Nat} {v1 : Int32}  {s0 : Int32 × jM} {z : (Int32 × jM)} (H : jit jF (fun (s : Int32 × jM) => b_X12_letter_68 Y v0 v1 s.1 s.2) s0 = some z) (D : z = (rr, μr)) : JW X (jEnd X n Y (some (.int rr)) μr 0 0) 0 0 n Y 68 [(0, .ref v0), (1, .int v1), (2, .int s0.1)] [] s0.2 :=
  jit_ind (P := fun (s : Int32 × jM) => JW X (jEnd X n Y (some (.int rr)) μr 0 0) 0 0 n Y 68 [(0, .ref v0), (1, .int v1), (2, .int s.1)] [] s.2) (D := fun r => r = (rr, μr)) (fun s z Hs Ds => t_X12_letter_68 K hl Hs Ds) jF s0 z H D
set_option maxRecDepth 10000 in
theorem t_X12_letter_44 {X : jX} {l : Launch} {n : Nat} {Y : jY} (K : jOK X RX12 cX12_letter 3 (some .int) 3) (hl : X.2.1 = l) {rr : Int32} {μr : jM} {v0 : Nat} {v1 : Int32} {v2 : Int32} {μ : jM} {z : ((Int32 × jM) ⊕ (Int32 × jM))} (H : b_X12_letter_44 Y v0 v1 v2 μ = some z) (D : Sum.elim (fun (s : Int32 × jM) => JW X (jEnd X n Y (some (.int rr)) μr 0 0) 0 0 n Y 26 [(0, .ref v0), (1, .int v1), (2, .int s.1)] [] s.2) (fun r => r = (rr, μr)) z) : JW X (jEnd X n Y (some (.int rr)) μr 0 0) 0 0 n Y 44 [(0, .ref v0), (1, .int v1), (2, .int v2)] [] μ := by
  unfold b_X12_letter_44 at H
  refine r_aload_n K 0 dX12_letter_44 rfl rfl ?_
  refine r_aload_n K 0 dX12_letter_45 rfl rfl ?_
  refine w_getO K vc12 inX12 11 (by decide) mF_RX12_20 dX12_letter_46 H (fun x1 H => ?_)
  refine r_iload_n K 2 dX12_letter_49 rfl rfl ?_
  refine w_iald K dX12_letter_50 H (fun x2 H => ?_)
  refine w_callV K hl H (fun r h => c_X12_writesNumber l h) mC_yX12_writesNumber mM_RX12_250 mI_yX12_writesNumber mS_yX12_writesNumber mZ_RX12 vc12 (Nat.le_of_ble_eq_true rfl) (Nat.le_of_ble_eq_true rfl) np_yX12_writesNumber rfl (Nat.le_of_ble_eq_true rfl) dX12_letter_51 (fun μ3 H => ?_) ⟨Nat.zero_le _, Nat.zero_le _⟩
  refine r_iinc K 2 [(2, .int _), (0, .ref _), (1, .int _)] (v := _ + (1 : Int32)) dX12_letter_54 rfl rfl (by decide) rfl ?_
  refine r_goto K 26 dX12_letter_57 (by decide) ?_
  cases H
  exact r_sub [1, 2, 0] rfl D
set_option maxRecDepth 10000 in
theorem t_X12_letter_26 {X : jX} {l : Launch} {n : Nat} {Y : jY} (K : jOK X RX12 cX12_letter 3 (some .int) 3) (hl : X.2.1 = l) {rr : Int32} {μr : jM} {v0 : Nat} {v1 : Int32} {v2 : Int32} {μ : jM} {z : ((Int32 × jM) ⊕ (Int32 × jM))} (H : b_X12_letter_26 Y v0 v1 v2 μ = some z) (D : Sum.elim (fun (s : Int32 × jM) => JW X (jEnd X n Y (some (.int rr)) μr 0 0) 0 0 n Y 26 [(0, .ref v0), (1, .int v1), (2, .int s.1)] [] s.2) (fun r => r = (rr, μr)) z) : JW X (jEnd X n Y (some (.int rr)) μr 0 0) 0 0 n Y 26 [(0, .ref v0), (1, .int v1), (2, .int v2)] [] μ := by
  unfold b_X12_letter_26 at H
  refine r_iload_n K 2 dX12_letter_26 rfl rfl ?_
  refine r_aload_n K 0 dX12_letter_27 rfl rfl ?_
  refine w_getI K vc12 inX12 10 (by decide) mF_RX12_145 dX12_letter_28 H (fun x1 H => ?_)
  refine w_icmp_ge K 60 dX12_letter_31 (by decide) H (fun _ H => ?_) (fun _ H => ?_)
  · refine r_aload_n K 0 dX12_letter_60 rfl rfl ?_
    refine r_bipush (v := 47) K dX12_letter_61 (by decide) ?_
    refine w_callV K hl H (fun r h => c_X12_writes l h) mC_yX12_writes mM_RX12_247 mI_yX12_writes mS_yX12_writes mZ_RX12 vc12 (Nat.le_of_ble_eq_true rfl) (Nat.le_of_ble_eq_true rfl) np_yX12_writes rfl (Nat.le_of_ble_eq_true rfl) dX12_letter_63 (fun μ2 H => ?_) ⟨Nat.zero_le _, Nat.zero_le _⟩
    refine r_iconst (v := 0) K dX12_letter_66 (by decide) ?_
    refine r_istore_n K [(2, .int _), (0, .ref _), (1, .int _)] dX12_letter_67 rfl (by decide) rfl ?_
    obtain ⟨z2, H2, rfl⟩ := jmap H
    exact r_sub [1, 2, 0] rfl (l_X12_letter_68 K hl H2 D)
  · refine r_iload_n K 2 dX12_letter_34 rfl rfl ?_
    refine w_if_le K 44 dX12_letter_35 (by decide) H (fun _ H => ?_) (fun _ H => ?_)
    · exact r_sub [0, 1, 2] rfl (t_X12_letter_44 K hl H D)
    · refine r_aload_n K 0 dX12_letter_38 rfl rfl ?_
      refine r_bipush (v := 32) K dX12_letter_39 (by decide) ?_
      refine w_callV K hl H (fun r h => c_X12_writes l h) mC_yX12_writes mM_RX12_247 mI_yX12_writes mS_yX12_writes mZ_RX12 vc12 (Nat.le_of_ble_eq_true rfl) (Nat.le_of_ble_eq_true rfl) np_yX12_writes rfl (Nat.le_of_ble_eq_true rfl) dX12_letter_41 (fun μ3 H => ?_) ⟨Nat.zero_le _, Nat.zero_le _⟩
      exact r_sub [0, 1, 2] rfl (t_X12_letter_44 K hl H D)
set_option maxRecDepth 10000 in
theorem l_X12_letter_26 {X : jX} {l : Launch} {n : Nat} {Y : jY} (K : jOK X RX12 cX12_letter 3 (some .int) 3) (hl : X.2.1 = l) {rr : Int32} {μr : jM} {v0 : Nat} {v1 : Int32}  {s0 : Int32 × jM} {z : (Int32 × jM)} (H : jit jF (fun (s : Int32 × jM) => b_X12_letter_26 Y v0 v1 s.1 s.2) s0 = some z) (D : z = (rr, μr)) : JW X (jEnd X n Y (some (.int rr)) μr 0 0) 0 0 n Y 26 [(0, .ref v0), (1, .int v1), (2, .int s0.1)] [] s0.2 :=
  jit_ind (P := fun (s : Int32 × jM) => JW X (jEnd X n Y (some (.int rr)) μr 0 0) 0 0 n Y 26 [(0, .ref v0), (1, .int v1), (2, .int s.1)] [] s.2) (D := fun r => r = (rr, μr)) (fun s z Hs Ds => t_X12_letter_26 K hl Hs Ds) jF s0 z H D
set_option maxRecDepth 10000 in
theorem t_X12_letter_0 {X : jX} {l : Launch} {n : Nat} {Y : jY} (K : jOK X RX12 cX12_letter 3 (some .int) 3) (hl : X.2.1 = l) {rr : Int32} {μr : jM} {v0 : Nat} {v1 : Int32} {μ : jM} {z : (Int32 × jM)} (H : f_X12_letter Y v0 v1 μ = some z) (D : z = (rr, μr)) : JW X (jEnd X n Y (some (.int rr)) μr 0 0) 0 0 n Y 0 [(0, .ref v0), (1, .int v1)] [] μ := by
  unfold f_X12_letter at H
  refine r_aload_n K 0 dX12_letter_0 rfl rfl ?_
  refine w_getI K vc12 inX12 10 (by decide) mF_RX12_145 dX12_letter_1 H (fun x1 H => ?_)
  refine w_if_eq K 12 dX12_letter_4 (by decide) H (fun _ H => ?_) (fun _ H => ?_)
  · exact r_sub [] rfl (t_X12_letter_12 K hl H D)
  · refine r_iload_n K 1 dX12_letter_7 rfl rfl ?_
    refine r_iconst (v := -1) K dX12_letter_8 (by decide) ?_
    refine w_icmp_ge K 14 dX12_letter_9 (by decide) H (fun _ H => ?_) (fun _ H => ?_)
    · refine r_aload_n K 0 dX12_letter_14 rfl rfl ?_
      refine r_iconst (v := 0) K dX12_letter_15 (by decide) ?_
      refine w_put K vc12 inX12 tyX12_ok nmX12 22 (by decide) mF_RX12_238 rfl (fun _ => rfl) (fun _ => rfl) dX12_letter_16 H (fun μ2 H => ?_)
      refine r_aload_n K 0 dX12_letter_19 rfl rfl ?_
      refine r_iload_n K 1 dX12_letter_20 rfl rfl ?_
      refine w_put K vc12 inX12 tyX12_ok nmX12 23 (by decide) mF_RX12_241 rfl (fun _ => rfl) (fun _ => rfl) dX12_letter_21 H (fun μ3 H => ?_)
      refine r_iconst (v := 0) K dX12_letter_24 (by decide) ?_
      refine r_istore_n K [(2, .int _), (0, .ref _), (1, .int _)] dX12_letter_25 rfl (by decide) rfl ?_
      exact r_sub [1, 2, 0] rfl (l_X12_letter_26 K hl H D)
    · exact r_sub [] rfl (t_X12_letter_12 K hl H D)
theorem c_X12_letter (l : Launch) {n : Nat} {Y : jY} {v0 : Nat} {v1 : Int32} {μ : jM} {z : Int32 × jM} (H : f_X12_letter Y v0 v1 μ = some z) : jC l yX12_letter cX12_letter 3 (some .int) 3 0 0 [.ref v0, .int v1] n Y μ n Y (some (.int z.1)) z.2 := by
  refine jC_of (by decide +kernel) (Nat.le_of_ble_eq_true rfl) (fun X hl K _ _ _ => ?_)
  obtain ⟨rr, μr⟩ := z
  exact t_X12_letter_0 K hl H rfl
/-! RX12 value(III)J -/
def b_X12_value_41 (Y : jY) (μ : jM) : Option (Int64 × jM) :=
  some ((-9223372036854775808 : Int64), μ)
def f_X12_value (Y : jY) (v0 : Nat) (v1 : Int32) (v2 : Int32) (v3 : Int32) (μ : jM) : Option (Int64 × jM) :=
  (f_X12_isDrawer Y v1 μ).bind fun r1 =>
  if r1.1 = 0 then
    b_X12_value_41 Y r1.2
  else
    (jgO Y r1.2 v0 12 26).bind fun x2 =>
    (jaI Y r1.2 x2 20 v1).bind fun x3 =>
    if x3 = 0 then
      b_X12_value_41 Y r1.2
    else
      (jgO Y r1.2 v0 12 26).bind fun x4 =>
      (jaI Y r1.2 x4 20 v1).bind fun x5 =>
      (f_X12_in Y v2 ((0 : Int32)) x5 r1.2).bind fun r6 =>
      if r6.1 = 0 then
        b_X12_value_41 Y r6.2
      else
        (f_X12_in Y v3 ((-20 : Int32)) ((20 : Int32)) r6.2).bind fun r7 =>
        if r7.1 = 0 then
          b_X12_value_41 Y r7.2
        else
          (jrcv Y v0 12 (f_X12_valueAt Y v0 v1 ((0 : Int32)) v2 ((v3.toInt64)) r7.2)).bind fun r8 =>
          some (r8.1, r8.2)
set_option maxRecDepth 10000 in
theorem t_X12_value_41 {X : jX} {l : Launch} {n : Nat} {Y : jY} (K : jOK X RX12 cX12_value 4 (some .long) 3) (hl : X.2.1 = l) {rr : Int64} {μr : jM} {μ : jM} {z : (Int64 × jM)} (H : b_X12_value_41 Y μ = some z) (D : z = (rr, μr)) : JW X (jEnd X n Y (some (.long rr)) μr 0 0) 0 0 n Y 41 [] [] μ := by
  unfold b_X12_value_41 at H
  refine r_ldc2 K (-9223372036854775808) mc_RX12_156 dX12_value_41 ?_
  cases H
  obtain ⟨rfl, rfl⟩ := jfin2 D
  exact r_lret K dX12_value_44
set_option maxRecDepth 10000 in
theorem t_X12_value_0 {X : jX} {l : Launch} {n : Nat} {Y : jY} (K : jOK X RX12 cX12_value 4 (some .long) 3) (hl : X.2.1 = l) {rr : Int64} {μr : jM} {v0 : Nat} {v1 : Int32} {v2 : Int32} {v3 : Int32} {μ : jM} {z : (Int64 × jM)} (H : f_X12_value Y v0 v1 v2 v3 μ = some z) (D : z = (rr, μr)) : JW X (jEnd X n Y (some (.long rr)) μr 0 0) 0 0 n Y 0 [(0, .ref v0), (1, .int v1), (2, .int v2), (3, .int v3)] [] μ := by
  unfold f_X12_value at H
  refine r_iload_n K 1 dX12_value_0 rfl rfl ?_
  refine w_callS K hl H (fun r h => c_X12_isDrawer l h) mC_yX12_isDrawer mM_RX12_253 mT_yX12_isDrawer mZ_RX12 (Nat.le_of_ble_eq_true rfl) (Nat.le_of_ble_eq_true rfl) np_yX12_isDrawer rfl (Nat.le_of_ble_eq_true rfl) dX12_value_1 (fun r1 H => ?_) ⟨Nat.zero_le _, Nat.zero_le _⟩
  refine w_if_eq K 41 dX12_value_4 (by decide) H (fun _ H => ?_) (fun _ H => ?_)
  · exact r_sub [] rfl (t_X12_value_41 K hl H D)
  · refine r_aload_n K 0 dX12_value_7 rfl rfl ?_
    refine w_getO K vc12 inX12 26 (by decide) mF_RX12_48 dX12_value_8 H (fun x2 H => ?_)
    refine r_iload_n K 1 dX12_value_11 rfl rfl ?_
    refine w_iald K dX12_value_12 H (fun x3 H => ?_)
    refine w_if_eq K 41 dX12_value_13 (by decide) H (fun _ H => ?_) (fun _ H => ?_)
    · exact r_sub [] rfl (t_X12_value_41 K hl H D)
    · refine r_iload_n K 2 dX12_value_16 rfl rfl ?_
      refine r_iconst (v := 0) K dX12_value_17 (by decide) ?_
      refine r_aload_n K 0 dX12_value_18 rfl rfl ?_
      refine w_getO K vc12 inX12 26 (by decide) mF_RX12_48 dX12_value_19 H (fun x4 H => ?_)
      refine r_iload_n K 1 dX12_value_22 rfl rfl ?_
      refine w_iald K dX12_value_23 H (fun x5 H => ?_)
      refine w_callS K hl H (fun r h => c_X12_in l h) mC_yX12_in mM_RX12_134 mT_yX12_in mZ_RX12 (Nat.le_of_ble_eq_true rfl) (Nat.le_of_ble_eq_true rfl) np_yX12_in rfl (Nat.le_of_ble_eq_true rfl) dX12_value_24 (fun r6 H => ?_) ⟨Nat.zero_le _, Nat.zero_le _⟩
      refine w_if_eq K 41 dX12_value_27 (by decide) H (fun _ H => ?_) (fun _ H => ?_)
      · exact r_sub [] rfl (t_X12_value_41 K hl H D)
      · refine r_iload_n K 3 dX12_value_30 rfl rfl ?_
        refine r_bipush (v := -20) K dX12_value_31 (by decide) ?_
        refine r_bipush (v := 20) K dX12_value_33 (by decide) ?_
        refine w_callS K hl H (fun r h => c_X12_in l h) mC_yX12_in mM_RX12_134 mT_yX12_in mZ_RX12 (Nat.le_of_ble_eq_true rfl) (Nat.le_of_ble_eq_true rfl) np_yX12_in rfl (Nat.le_of_ble_eq_true rfl) dX12_value_35 (fun r7 H => ?_) ⟨Nat.zero_le _, Nat.zero_le _⟩
        refine w_if_ne K 45 dX12_value_38 (by decide) H (fun _ H => ?_) (fun _ H => ?_)
        · refine r_aload_n K 0 dX12_value_45 rfl rfl ?_
          refine r_iload_n K 1 dX12_value_46 rfl rfl ?_
          refine r_iconst (v := 0) K dX12_value_47 (by decide) ?_
          refine r_iload_n K 2 dX12_value_48 rfl rfl ?_
          refine r_iload_n K 3 dX12_value_49 rfl rfl ?_
          refine r_i2l K dX12_value_50 ?_
          refine w_callV K hl H (fun r h => c_X12_valueAt l h) mC_yX12_valueAt mM_RX12_279 mI_yX12_valueAt mS_yX12_valueAt mZ_RX12 vc12 (Nat.le_of_ble_eq_true rfl) (Nat.le_of_ble_eq_true rfl) np_yX12_valueAt rfl (Nat.le_of_ble_eq_true rfl) dX12_value_51 (fun r8 H => ?_) ⟨Nat.zero_le _, Nat.zero_le _⟩
          cases H
          obtain ⟨rfl, rfl⟩ := jfin2 D
          exact r_lret K dX12_value_54
        · exact r_sub [] rfl (t_X12_value_41 K hl H D)
theorem c_X12_value (l : Launch) {n : Nat} {Y : jY} {v0 : Nat} {v1 : Int32} {v2 : Int32} {v3 : Int32} {μ : jM} {z : Int64 × jM} (H : f_X12_value Y v0 v1 v2 v3 μ = some z) : jC l yX12_value cX12_value 4 (some .long) 3 0 0 [.ref v0, .int v1, .int v2, .int v3] n Y μ n Y (some (.long z.1)) z.2 := by
  refine jC_of (by decide +kernel) (Nat.le_of_ble_eq_true rfl) (fun X hl K _ _ _ => ?_)
  obtain ⟨rr, μr⟩ := z
  exact t_X12_value_0 K hl H rfl
/-! RX12 undo()I -/
def b_X12_undo_99 (Y : jY) (v0 : Nat) (v1 : Int32) (v2 : Int32) (μ : jM) : Option ((Int32 × jM) ⊕ (Int32 × jM)) :=
  if ((20 : Int32)) ≤ v2 then
    (jgI Y μ v0 12 25).bind fun x1 =>
    some (.inr (x1, μ))
  else
    (jgO Y μ v0 12 27).bind fun x2 =>
    (jgO Y μ v0 12 30).bind fun x3 =>
    (jaI Y μ x3 20 ((((((20 : Int32)) * v1)) + v2))).bind fun x4 =>
    (jas Y μ x2 20 v2 (.int x4)).bind fun μ5 =>
    (jgO Y μ5 v0 12 28).bind fun x6 =>
    (jgO Y μ5 v0 12 31).bind fun x7 =>
    (jaI Y μ5 x7 20 ((((((20 : Int32)) * v1)) + v2))).bind fun x8 =>
    (jas Y μ5 x6 20 v2 (.int x8)).bind fun μ9 =>
    some (.inl ((v2 + (1 : Int32)), μ9))
def b_X12_undo_91 (Y : jY) (v0 : Nat) (v1 : Int32) (v2 : Int32) (μ : jM) : Option ((Int32 × jM) ⊕ (Int32 × jM)) :=
  some (.inl ((v2 + (1 : Int32)), μ))
def b_X12_undo_33 (Y : jY) (v0 : Nat) (v1 : Int32) (v2 : Int32) (μ : jM) : Option ((Int32 × jM) ⊕ (Int32 × jM)) :=
  if ((4 : Int32)) ≤ v2 then
    (jit jF (fun (s : Int32 × jM) => b_X12_undo_99 Y v0 v1 s.1 s.2) ((0 : Int32), μ)).map (fun r => (.inr r))
  else
    (jgO Y μ v0 12 11).bind fun x1 =>
    (jgO Y μ v0 12 33).bind fun x2 =>
    (jaI Y μ x2 20 ((((((4 : Int32)) * v1)) + v2))).bind fun x3 =>
    (jas Y μ x1 20 v2 (.int x3)).bind fun μ4 =>
    (jgO Y μ4 v0 12 26).bind fun x5 =>
    (jgO Y μ4 v0 12 29).bind fun x6 =>
    (jaI Y μ4 x6 20 ((((((4 : Int32)) * v1)) + v2))).bind fun x7 =>
    (jas Y μ4 x5 20 v2 (.int x7)).bind fun μ8 =>
    if ((3 : Int32)) ≤ v2 then
      b_X12_undo_91 Y v0 v1 v2 μ8
    else
      (jgO Y μ8 v0 12 12).bind fun x9 =>
      (jgO Y μ8 v0 12 34).bind fun x10 =>
      (jaI Y μ8 x10 20 ((((((3 : Int32)) * v1)) + v2))).bind fun x11 =>
      (jas Y μ8 x9 20 v2 (.int x11)).bind fun μ12 =>
      b_X12_undo_91 Y v0 v1 v2 μ12
def f_X12_undo (Y : jY) (v0 : Nat) (μ : jM) : Option (Int32 × jM) :=
  (jgI Y μ v0 12 25).bind fun x1 =>
  if x1 = 0 then
    some ((-1 : Int32), μ)
  else
    (jgI Y μ v0 12 25).bind fun x2 =>
    (jput Y μ v0 12 25 (.int ((x2 - ((1 : Int32)))))).bind fun μ3 =>
    (jgO Y μ3 v0 12 32).bind fun x4 =>
    (jaI Y μ3 x4 20 ((x2 - ((1 : Int32))))).bind fun x5 =>
    (jput Y μ3 v0 12 10 (.int x5)).bind fun μ6 =>
    jit jF (fun (s : Int32 × jM) => b_X12_undo_33 Y v0 (x2 - ((1 : Int32))) s.1 s.2) ((0 : Int32), μ6)
set_option maxRecDepth 10000 in
theorem t_X12_undo_99 {X : jX} {l : Launch} {n : Nat} {Y : jY} (K : jOK X RX12 cX12_undo 3 (some .int) 1) (hl : X.2.1 = l) {rr : Int32} {μr : jM} {v0 : Nat} {v1 : Int32} {v2 : Int32} {μ : jM} {z : ((Int32 × jM) ⊕ (Int32 × jM))} (H : b_X12_undo_99 Y v0 v1 v2 μ = some z) (D : Sum.elim (fun (s : Int32 × jM) => JW X (jEnd X n Y (some (.int rr)) μr 0 0) 0 0 n Y 99 [(0, .ref v0), (1, .int v1), (2, .int s.1)] [] s.2) (fun r => r = (rr, μr)) z) : JW X (jEnd X n Y (some (.int rr)) μr 0 0) 0 0 n Y 99 [(0, .ref v0), (1, .int v1), (2, .int v2)] [] μ := by
  unfold b_X12_undo_99 at H
  refine r_iload_n K 2 dX12_undo_99 rfl rfl ?_
  refine r_bipush (v := 20) K dX12_undo_100 (by decide) ?_
  refine w_icmp_ge K 145 dX12_undo_102 (by decide) H (fun _ H => ?_) (fun _ H => ?_)
  · refine r_aload_n K 0 dX12_undo_145 rfl rfl ?_
    refine w_getI K vc12 inX12 25 (by decide) mF_RX12_148 dX12_undo_146 H (fun x1 H => ?_)
    cases H
    simp only [Sum.elim_inr] at D
    obtain ⟨rfl, rfl⟩ := jfin2 D
    exact r_iret K dX12_undo_149
  · refine r_aload_n K 0 dX12_undo_105 rfl rfl ?_
    refine w_getO K vc12 inX12 27 (by decide) mF_RX12_51 dX12_undo_106 H (fun x2 H => ?_)
    refine r_iload_n K 2 dX12_undo_109 rfl rfl ?_
    refine r_aload_n K 0 dX12_undo_110 rfl rfl ?_
    refine w_getO K vc12 inX12 30 (by decide) mF_RX12_60 dX12_undo_111 H (fun x3 H => ?_)
    refine r_bipush (v := 20) K dX12_undo_114 (by decide) ?_
    refine r_iload_n K 1 dX12_undo_116 rfl rfl ?_
    refine r_imul K dX12_undo_117 ?_
    refine r_iload_n K 2 dX12_undo_118 rfl rfl ?_
    refine r_iadd K dX12_undo_119 ?_
    refine w_iald K dX12_undo_120 H (fun x4 H => ?_)
    refine w_iast K dX12_undo_121 H (fun μ5 H => ?_)
    refine r_aload_n K 0 dX12_undo_122 rfl rfl ?_
    refine w_getO K vc12 inX12 28 (by decide) mF_RX12_54 dX12_undo_123 H (fun x6 H => ?_)
    refine r_iload_n K 2 dX12_undo_126 rfl rfl ?_
    refine r_aload_n K 0 dX12_undo_127 rfl rfl ?_
    refine w_getO K vc12 inX12 31 (by decide) mF_RX12_63 dX12_undo_128 H (fun x7 H => ?_)
    refine r_bipush (v := 20) K dX12_undo_131 (by decide) ?_
    refine r_iload_n K 1 dX12_undo_133 rfl rfl ?_
    refine r_imul K dX12_undo_134 ?_
    refine r_iload_n K 2 dX12_undo_135 rfl rfl ?_
    refine r_iadd K dX12_undo_136 ?_
    refine w_iald K dX12_undo_137 H (fun x8 H => ?_)
    refine w_iast K dX12_undo_138 H (fun μ9 H => ?_)
    refine r_iinc K 2 [(2, .int _), (0, .ref _), (1, .int _)] (v := _ + (1 : Int32)) dX12_undo_139 rfl rfl (by decide) rfl ?_
    refine r_goto K 99 dX12_undo_142 (by decide) ?_
    cases H
    exact r_sub [1, 2, 0] rfl D
set_option maxRecDepth 10000 in
theorem l_X12_undo_99 {X : jX} {l : Launch} {n : Nat} {Y : jY} (K : jOK X RX12 cX12_undo 3 (some .int) 1) (hl : X.2.1 = l) {rr : Int32} {μr : jM} {v0 : Nat} {v1 : Int32}  {s0 : Int32 × jM} {z : (Int32 × jM)} (H : jit jF (fun (s : Int32 × jM) => b_X12_undo_99 Y v0 v1 s.1 s.2) s0 = some z) (D : z = (rr, μr)) : JW X (jEnd X n Y (some (.int rr)) μr 0 0) 0 0 n Y 99 [(0, .ref v0), (1, .int v1), (2, .int s0.1)] [] s0.2 :=
  jit_ind (P := fun (s : Int32 × jM) => JW X (jEnd X n Y (some (.int rr)) μr 0 0) 0 0 n Y 99 [(0, .ref v0), (1, .int v1), (2, .int s.1)] [] s.2) (D := fun r => r = (rr, μr)) (fun s z Hs Ds => t_X12_undo_99 K hl Hs Ds) jF s0 z H D
set_option maxRecDepth 10000 in
theorem t_X12_undo_91 {X : jX} {l : Launch} {n : Nat} {Y : jY} (K : jOK X RX12 cX12_undo 3 (some .int) 1) (hl : X.2.1 = l) {rr : Int32} {μr : jM} {v0 : Nat} {v1 : Int32} {v2 : Int32} {μ : jM} {z : ((Int32 × jM) ⊕ (Int32 × jM))} (H : b_X12_undo_91 Y v0 v1 v2 μ = some z) (D : Sum.elim (fun (s : Int32 × jM) => JW X (jEnd X n Y (some (.int rr)) μr 0 0) 0 0 n Y 33 [(0, .ref v0), (1, .int v1), (2, .int s.1)] [] s.2) (fun r => r = (rr, μr)) z) : JW X (jEnd X n Y (some (.int rr)) μr 0 0) 0 0 n Y 91 [(0, .ref v0), (1, .int v1), (2, .int v2)] [] μ := by
  unfold b_X12_undo_91 at H
  refine r_iinc K 2 [(2, .int _), (0, .ref _), (1, .int _)] (v := _ + (1 : Int32)) dX12_undo_91 rfl rfl (by decide) rfl ?_
  refine r_goto K 33 dX12_undo_94 (by decide) ?_
  cases H
  exact r_sub [1, 2, 0] rfl D
set_option maxRecDepth 10000 in
theorem t_X12_undo_33 {X : jX} {l : Launch} {n : Nat} {Y : jY} (K : jOK X RX12 cX12_undo 3 (some .int) 1) (hl : X.2.1 = l) {rr : Int32} {μr : jM} {v0 : Nat} {v1 : Int32} {v2 : Int32} {μ : jM} {z : ((Int32 × jM) ⊕ (Int32 × jM))} (H : b_X12_undo_33 Y v0 v1 v2 μ = some z) (D : Sum.elim (fun (s : Int32 × jM) => JW X (jEnd X n Y (some (.int rr)) μr 0 0) 0 0 n Y 33 [(0, .ref v0), (1, .int v1), (2, .int s.1)] [] s.2) (fun r => r = (rr, μr)) z) : JW X (jEnd X n Y (some (.int rr)) μr 0 0) 0 0 n Y 33 [(0, .ref v0), (1, .int v1), (2, .int v2)] [] μ := by
  unfold b_X12_undo_33 at H
  refine r_iload_n K 2 dX12_undo_33 rfl rfl ?_
  refine r_iconst (v := 4) K dX12_undo_34 (by decide) ?_
  refine w_icmp_ge K 97 dX12_undo_35 (by decide) H (fun _ H => ?_) (fun _ H => ?_)
  · refine r_iconst (v := 0) K dX12_undo_97 (by decide) ?_
    refine r_istore_n K [(2, .int _), (0, .ref _), (1, .int _)] dX12_undo_98 rfl (by decide) rfl ?_
    obtain ⟨z2, H2, rfl⟩ := jmap H
    exact r_sub [1, 2, 0] rfl (l_X12_undo_99 K hl H2 D)
  · refine r_aload_n K 0 dX12_undo_38 rfl rfl ?_
    refine w_getO K vc12 inX12 11 (by decide) mF_RX12_20 dX12_undo_39 H (fun x1 H => ?_)
    refine r_iload_n K 2 dX12_undo_42 rfl rfl ?_
    refine r_aload_n K 0 dX12_undo_43 rfl rfl ?_
    refine w_getO K vc12 inX12 33 (by decide) mF_RX12_69 dX12_undo_44 H (fun x2 H => ?_)
    refine r_iconst (v := 4) K dX12_undo_47 (by decide) ?_
    refine r_iload_n K 1 dX12_undo_48 rfl rfl ?_
    refine r_imul K dX12_undo_49 ?_
    refine r_iload_n K 2 dX12_undo_50 rfl rfl ?_
    refine r_iadd K dX12_undo_51 ?_
    refine w_iald K dX12_undo_52 H (fun x3 H => ?_)
    refine w_iast K dX12_undo_53 H (fun μ4 H => ?_)
    refine r_aload_n K 0 dX12_undo_54 rfl rfl ?_
    refine w_getO K vc12 inX12 26 (by decide) mF_RX12_48 dX12_undo_55 H (fun x5 H => ?_)
    refine r_iload_n K 2 dX12_undo_58 rfl rfl ?_
    refine r_aload_n K 0 dX12_undo_59 rfl rfl ?_
    refine w_getO K vc12 inX12 29 (by decide) mF_RX12_57 dX12_undo_60 H (fun x6 H => ?_)
    refine r_iconst (v := 4) K dX12_undo_63 (by decide) ?_
    refine r_iload_n K 1 dX12_undo_64 rfl rfl ?_
    refine r_imul K dX12_undo_65 ?_
    refine r_iload_n K 2 dX12_undo_66 rfl rfl ?_
    refine r_iadd K dX12_undo_67 ?_
    refine w_iald K dX12_undo_68 H (fun x7 H => ?_)
    refine w_iast K dX12_undo_69 H (fun μ8 H => ?_)
    refine r_iload_n K 2 dX12_undo_70 rfl rfl ?_
    refine r_iconst (v := 3) K dX12_undo_71 (by decide) ?_
    refine w_icmp_ge K 91 dX12_undo_72 (by decide) H (fun _ H => ?_) (fun _ H => ?_)
    · exact r_sub [0, 1, 2] rfl (t_X12_undo_91 K hl H D)
    · refine r_aload_n K 0 dX12_undo_75 rfl rfl ?_
      refine w_getO K vc12 inX12 12 (by decide) mF_RX12_23 dX12_undo_76 H (fun x9 H => ?_)
      refine r_iload_n K 2 dX12_undo_79 rfl rfl ?_
      refine r_aload_n K 0 dX12_undo_80 rfl rfl ?_
      refine w_getO K vc12 inX12 34 (by decide) mF_RX12_72 dX12_undo_81 H (fun x10 H => ?_)
      refine r_iconst (v := 3) K dX12_undo_84 (by decide) ?_
      refine r_iload_n K 1 dX12_undo_85 rfl rfl ?_
      refine r_imul K dX12_undo_86 ?_
      refine r_iload_n K 2 dX12_undo_87 rfl rfl ?_
      refine r_iadd K dX12_undo_88 ?_
      refine w_iald K dX12_undo_89 H (fun x11 H => ?_)
      refine w_iast K dX12_undo_90 H (fun μ12 H => ?_)
      exact r_sub [0, 1, 2] rfl (t_X12_undo_91 K hl H D)
set_option maxRecDepth 10000 in
theorem l_X12_undo_33 {X : jX} {l : Launch} {n : Nat} {Y : jY} (K : jOK X RX12 cX12_undo 3 (some .int) 1) (hl : X.2.1 = l) {rr : Int32} {μr : jM} {v0 : Nat} {v1 : Int32}  {s0 : Int32 × jM} {z : (Int32 × jM)} (H : jit jF (fun (s : Int32 × jM) => b_X12_undo_33 Y v0 v1 s.1 s.2) s0 = some z) (D : z = (rr, μr)) : JW X (jEnd X n Y (some (.int rr)) μr 0 0) 0 0 n Y 33 [(0, .ref v0), (1, .int v1), (2, .int s0.1)] [] s0.2 :=
  jit_ind (P := fun (s : Int32 × jM) => JW X (jEnd X n Y (some (.int rr)) μr 0 0) 0 0 n Y 33 [(0, .ref v0), (1, .int v1), (2, .int s.1)] [] s.2) (D := fun r => r = (rr, μr)) (fun s z Hs Ds => t_X12_undo_33 K hl Hs Ds) jF s0 z H D
set_option maxRecDepth 10000 in
theorem t_X12_undo_0 {X : jX} {l : Launch} {n : Nat} {Y : jY} (K : jOK X RX12 cX12_undo 3 (some .int) 1) (hl : X.2.1 = l) {rr : Int32} {μr : jM} {v0 : Nat} {μ : jM} {z : (Int32 × jM)} (H : f_X12_undo Y v0 μ = some z) (D : z = (rr, μr)) : JW X (jEnd X n Y (some (.int rr)) μr 0 0) 0 0 n Y 0 [(0, .ref v0)] [] μ := by
  unfold f_X12_undo at H
  refine r_aload_n K 0 dX12_undo_0 rfl rfl ?_
  refine w_getI K vc12 inX12 25 (by decide) mF_RX12_148 dX12_undo_1 H (fun x1 H => ?_)
  refine w_if_ne K 9 dX12_undo_4 (by decide) H (fun _ H => ?_) (fun _ H => ?_)
  · refine r_aload_n K 0 dX12_undo_9 rfl rfl ?_
    refine w_getI K vc12 inX12 25 (by decide) mF_RX12_148 dX12_undo_10 H (fun x2 H => ?_)
    refine r_iconst (v := 1) K dX12_undo_13 (by decide) ?_
    refine r_isub K dX12_undo_14 ?_
    refine r_istore_n K [(1, .int _), (0, .ref _)] dX12_undo_15 rfl (by decide) rfl ?_
    refine r_aload_n K 1 dX12_undo_16 rfl rfl ?_
    refine r_iload_n K 0 dX12_undo_17 rfl rfl ?_
    refine w_put K vc12 inX12 tyX12_ok nmX12 25 (by decide) mF_RX12_148 rfl (fun _ => rfl) (fun _ => rfl) dX12_undo_18 H (fun μ3 H => ?_)
    refine r_aload_n K 1 dX12_undo_21 rfl rfl ?_
    refine r_aload_n K 1 dX12_undo_22 rfl rfl ?_
    refine w_getO K vc12 inX12 32 (by decide) mF_RX12_66 dX12_undo_23 H (fun x4 H => ?_)
    refine r_iload_n K 0 dX12_undo_26 rfl rfl ?_
    refine w_iald K dX12_undo_27 H (fun x5 H => ?_)
    refine w_put K vc12 inX12 tyX12_ok nmX12 10 (by decide) mF_RX12_145 rfl (fun _ => rfl) (fun _ => rfl) dX12_undo_28 H (fun μ6 H => ?_)
    refine r_iconst (v := 0) K dX12_undo_31 (by decide) ?_
    refine r_istore_n K [(2, .int _), (1, .int _), (0, .ref _)] dX12_undo_32 rfl (by decide) rfl ?_
    exact r_sub [2, 1, 0] rfl (l_X12_undo_33 K hl H D)
  · refine r_iconst (v := -1) K dX12_undo_7 (by decide) ?_
    cases H
    obtain ⟨rfl, rfl⟩ := jfin2 D
    exact r_iret K dX12_undo_8
theorem c_X12_undo (l : Launch) {n : Nat} {Y : jY} {v0 : Nat} {μ : jM} {z : Int32 × jM} (H : f_X12_undo Y v0 μ = some z) : jC l yX12_undo cX12_undo 3 (some .int) 1 0 0 [.ref v0] n Y μ n Y (some (.int z.1)) z.2 := by
  refine jC_of (by decide +kernel) (Nat.le_of_ble_eq_true rfl) (fun X hl K _ _ _ => ?_)
  obtain ⟨rr, μr⟩ := z
  exact t_X12_undo_0 K hl H rfl
/-! RX12 determinant(II)J -/
def b_X12_determinant_25 (Y : jY) (μ : jM) : Option (Int64 × jM) :=
  some ((-9223372036854775808 : Int64), μ)
def f_X12_determinant (Y : jY) (v0 : Nat) (v1 : Int32) (v2 : Int32) (μ : jM) : Option (Int64 × jM) :=
  (jgI Y μ v0 12 10).bind fun x1 =>
  if x1 = 0 then
    b_X12_determinant_25 Y μ
  else
    (f_X12_in Y v1 ((0 : Int32)) ((4 : Int32)) μ).bind fun r2 =>
    if r2.1 = 0 then
      b_X12_determinant_25 Y r2.2
    else
      (f_X12_in Y v2 ((0 : Int32)) ((1 : Int32)) r2.2).bind fun r3 =>
      if r3.1 = 0 then
        b_X12_determinant_25 Y r3.2
      else
        (jrcv Y v0 12 (f_X12_laysTones Y v0 r3.2)).bind fun μ4 =>
        (jrcv Y v0 12 (f_X12_minor Y v0 v1 v2 v1 μ4)).bind fun r5 =>
        some (r5.1, r5.2)
set_option maxRecDepth 10000 in
theorem t_X12_determinant_25 {X : jX} {l : Launch} {n : Nat} {Y : jY} (K : jOK X RX12 cX12_determinant 3 (some .long) 5) (hl : X.2.1 = l) {rr : Int64} {μr : jM} {μ : jM} {z : (Int64 × jM)} (H : b_X12_determinant_25 Y μ = some z) (D : z = (rr, μr)) : JW X (jEnd X n Y (some (.long rr)) μr 0 0) 0 0 n Y 25 [] [] μ := by
  unfold b_X12_determinant_25 at H
  refine r_ldc2 K (-9223372036854775808) mc_RX12_156 dX12_determinant_25 ?_
  cases H
  obtain ⟨rfl, rfl⟩ := jfin2 D
  exact r_lret K dX12_determinant_28
set_option maxRecDepth 10000 in
theorem t_X12_determinant_0 {X : jX} {l : Launch} {n : Nat} {Y : jY} (K : jOK X RX12 cX12_determinant 3 (some .long) 5) (hl : X.2.1 = l) {rr : Int64} {μr : jM} {v0 : Nat} {v1 : Int32} {v2 : Int32} {μ : jM} {z : (Int64 × jM)} (H : f_X12_determinant Y v0 v1 v2 μ = some z) (D : z = (rr, μr)) : JW X (jEnd X n Y (some (.long rr)) μr 0 0) 0 0 n Y 0 [(0, .ref v0), (1, .int v1), (2, .int v2)] [] μ := by
  unfold f_X12_determinant at H
  refine r_aload_n K 0 dX12_determinant_0 rfl rfl ?_
  refine w_getI K vc12 inX12 10 (by decide) mF_RX12_145 dX12_determinant_1 H (fun x1 H => ?_)
  refine w_if_eq K 25 dX12_determinant_4 (by decide) H (fun _ H => ?_) (fun _ H => ?_)
  · exact r_sub [] rfl (t_X12_determinant_25 K hl H D)
  · refine r_iload_n K 1 dX12_determinant_7 rfl rfl ?_
    refine r_iconst (v := 0) K dX12_determinant_8 (by decide) ?_
    refine r_iconst (v := 4) K dX12_determinant_9 (by decide) ?_
    refine w_callS K hl H (fun r h => c_X12_in l h) mC_yX12_in mM_RX12_134 mT_yX12_in mZ_RX12 (Nat.le_of_ble_eq_true rfl) (Nat.le_of_ble_eq_true rfl) np_yX12_in rfl (Nat.le_of_ble_eq_true rfl) dX12_determinant_10 (fun r2 H => ?_) ⟨Nat.zero_le _, Nat.zero_le _⟩
    refine w_if_eq K 25 dX12_determinant_13 (by decide) H (fun _ H => ?_) (fun _ H => ?_)
    · exact r_sub [] rfl (t_X12_determinant_25 K hl H D)
    · refine r_iload_n K 2 dX12_determinant_16 rfl rfl ?_
      refine r_iconst (v := 0) K dX12_determinant_17 (by decide) ?_
      refine r_iconst (v := 1) K dX12_determinant_18 (by decide) ?_
      refine w_callS K hl H (fun r h => c_X12_in l h) mC_yX12_in mM_RX12_134 mT_yX12_in mZ_RX12 (Nat.le_of_ble_eq_true rfl) (Nat.le_of_ble_eq_true rfl) np_yX12_in rfl (Nat.le_of_ble_eq_true rfl) dX12_determinant_19 (fun r3 H => ?_) ⟨Nat.zero_le _, Nat.zero_le _⟩
      refine w_if_ne K 29 dX12_determinant_22 (by decide) H (fun _ H => ?_) (fun _ H => ?_)
      · refine r_aload_n K 0 dX12_determinant_29 rfl rfl ?_
        refine w_callV K hl H (fun r h => c_X12_laysTones l h) mC_yX12_laysTones mM_RX12_158 mI_yX12_laysTones mS_yX12_laysTones mZ_RX12 vc12 (Nat.le_of_ble_eq_true rfl) (Nat.le_of_ble_eq_true rfl) np_yX12_laysTones rfl (Nat.le_of_ble_eq_true rfl) dX12_determinant_30 (fun μ4 H => ?_) ⟨Nat.zero_le _, Nat.zero_le _⟩
        refine r_aload_n K 0 dX12_determinant_33 rfl rfl ?_
        refine r_iload_n K 1 dX12_determinant_34 rfl rfl ?_
        refine r_iload_n K 2 dX12_determinant_35 rfl rfl ?_
        refine r_iload_n K 1 dX12_determinant_36 rfl rfl ?_
        refine w_callV K hl H (fun r h => c_X12_minor l h) mC_yX12_minor mM_RX12_173 mI_yX12_minor mS_yX12_minor mZ_RX12 vc12 (Nat.le_of_ble_eq_true rfl) (Nat.le_of_ble_eq_true rfl) np_yX12_minor rfl (Nat.le_of_ble_eq_true rfl) dX12_determinant_37 (fun r5 H => ?_) ⟨Nat.zero_le _, Nat.zero_le _⟩
        cases H
        obtain ⟨rfl, rfl⟩ := jfin2 D
        exact r_lret K dX12_determinant_40
      · exact r_sub [] rfl (t_X12_determinant_25 K hl H D)
theorem c_X12_determinant (l : Launch) {n : Nat} {Y : jY} {v0 : Nat} {v1 : Int32} {v2 : Int32} {μ : jM} {z : Int64 × jM} (H : f_X12_determinant Y v0 v1 v2 μ = some z) : jC l yX12_determinant cX12_determinant 3 (some .long) 5 0 0 [.ref v0, .int v1, .int v2] n Y μ n Y (some (.long z.1)) z.2 := by
  refine jC_of (by decide +kernel) (Nat.le_of_ble_eq_true rfl) (fun X hl K _ _ _ => ?_)
  obtain ⟨rr, μr⟩ := z
  exact t_X12_determinant_0 K hl H rfl
/-! RX12 weight(II)J -/
def b_X12_weight_30 (Y : jY) (μ : jM) : Option (Int64 × jM) :=
  some ((-9223372036854775808 : Int64), μ)
def b_X12_weight_118 (Y : jY) (v0 : Nat) (v1 : Int32) (v2 : Int32) (v3 : Int64) (v7 : Int32) (t0 : Int64) (μ : jM) : Option ((Int64 × Int32 × jM) ⊕ (Int64 × jM)) :=
  some (.inl (t0, (v7 + (1 : Int32)), μ))
def b_X12_weight_80 (Y : jY) (v0 : Nat) (v1 : Int32) (v2 : Int32) (v3 : Int64) (v5 : Int64) (v7 : Int32) (μ : jM) : Option ((Int64 × Int32 × jM) ⊕ (Int64 × jM)) :=
  (jgI Y μ v0 12 10).bind fun x1 =>
  if x1 ≤ v7 then
    (jrcv Y v0 12 (f_X12_sets Y v0 v3 v5 μ)).bind fun μ2 =>
    (jrcv Y v0 12 (f_X12_told Y v0 v2 μ2)).bind fun r3 =>
    some (.inr (r3.1, r3.2))
  else
    if v7 = v1 then
      b_X12_weight_118 Y v0 v1 v2 v3 v7 v5 μ
    else
      (jgO Y μ v0 12 11).bind fun x4 =>
      (jaI Y μ x4 20 v1).bind fun x5 =>
      (jgO Y μ v0 12 11).bind fun x6 =>
      (jaI Y μ x6 20 v7).bind fun x7 =>
      b_X12_weight_118 Y v0 v1 v2 v3 v7 (v5 * ((((x5 - x7)).toInt64))) μ
def b_X12_weight_42 (Y : jY) (v0 : Nat) (v1 : Int32) (v2 : Int32) (v3 : Int64) (v5 : Int64) (v7 : Int32) (μ : jM) : Option ((Int64 × Int32 × jM) ⊕ (Int64 × jM)) :=
  (jgI Y μ v0 12 10).bind fun x1 =>
  if ((x1 - ((1 : Int32)))) ≤ v7 then
    (jit jF (fun (s : Int64 × Int32 × jM) => b_X12_weight_80 Y v0 v1 v2 v3 s.1 s.2.1 s.2.2) (v5, (0 : Int32), μ)).map (fun r => (.inr r))
  else
    (jgO Y μ v0 12 11).bind fun x2 =>
    (jaI Y μ x2 20 v1).bind fun x3 =>
    (jgO Y μ v0 12 12).bind fun x4 =>
    (jaI Y μ x4 20 v7).bind fun x5 =>
    some (.inl ((v3 * ((((x3 - x5)).toInt64))), (v7 + (1 : Int32)), μ))
def f_X12_weight (Y : jY) (v0 : Nat) (v1 : Int32) (v2 : Int32) (μ : jM) : Option (Int64 × jM) :=
  (jgI Y μ v0 12 10).bind fun x1 =>
  if x1 = 0 then
    b_X12_weight_30 Y μ
  else
    (jgI Y μ v0 12 10).bind fun x2 =>
    (f_X12_in Y v1 ((0 : Int32)) ((x2 - ((1 : Int32)))) μ).bind fun r3 =>
    if r3.1 = 0 then
      b_X12_weight_30 Y r3.2
    else
      (f_X12_in Y v2 ((0 : Int32)) ((1 : Int32)) r3.2).bind fun r4 =>
      if r4.1 = 0 then
        b_X12_weight_30 Y r4.2
      else
        jit jF (fun (s : Int64 × Int32 × jM) => b_X12_weight_42 Y v0 v1 v2 s.1 (1 : Int64) s.2.1 s.2.2) ((1 : Int64), (0 : Int32), r4.2)
set_option maxRecDepth 10000 in
theorem t_X12_weight_30 {X : jX} {l : Launch} {n : Nat} {Y : jY} (K : jOK X RX12 cX12_weight 8 (some .long) 4) (hl : X.2.1 = l) {rr : Int64} {μr : jM} {μ : jM} {z : (Int64 × jM)} (H : b_X12_weight_30 Y μ = some z) (D : z = (rr, μr)) : JW X (jEnd X n Y (some (.long rr)) μr 0 0) 0 0 n Y 30 [] [] μ := by
  unfold b_X12_weight_30 at H
  refine r_ldc2 K (-9223372036854775808) mc_RX12_156 dX12_weight_30 ?_
  cases H
  obtain ⟨rfl, rfl⟩ := jfin2 D
  exact r_lret K dX12_weight_33
set_option maxRecDepth 10000 in
theorem t_X12_weight_118 {X : jX} {l : Launch} {n : Nat} {Y : jY} (K : jOK X RX12 cX12_weight 8 (some .long) 4) (hl : X.2.1 = l) {rr : Int64} {μr : jM} {v0 : Nat} {v1 : Int32} {v2 : Int32} {v3 : Int64} {v7 : Int32} {t0 : Int64} {μ : jM} {z : ((Int64 × Int32 × jM) ⊕ (Int64 × jM))} (H : b_X12_weight_118 Y v0 v1 v2 v3 v7 t0 μ = some z) (D : Sum.elim (fun (s : Int64 × Int32 × jM) => JW X (jEnd X n Y (some (.long rr)) μr 0 0) 0 0 n Y 80 [(0, .ref v0), (1, .int v1), (2, .int v2), (3, .long v3), (5, .long s.1), (7, .int s.2.1)] [] s.2.2) (fun r => r = (rr, μr)) z) : JW X (jEnd X n Y (some (.long rr)) μr 0 0) 0 0 n Y 118 [(0, .ref v0), (1, .int v1), (2, .int v2), (3, .long v3), (7, .int v7)] [.long t0] μ := by
  unfold b_X12_weight_118 at H
  refine r_lstore K [(5, .long _), (0, .ref _), (1, .int _), (2, .int _), (3, .long _), (7, .int _)] dX12_weight_118 (by decide) rfl ?_
  refine r_iinc K 5 [(7, .int _), (5, .long _), (0, .ref _), (1, .int _), (2, .int _), (3, .long _)] (v := _ + (1 : Int32)) dX12_weight_120 rfl rfl (by decide) rfl ?_
  refine r_goto K 80 dX12_weight_123 (by decide) ?_
  cases H
  exact r_sub [2, 3, 4, 5, 1, 0] rfl D
set_option maxRecDepth 10000 in
theorem t_X12_weight_80 {X : jX} {l : Launch} {n : Nat} {Y : jY} (K : jOK X RX12 cX12_weight 8 (some .long) 4) (hl : X.2.1 = l) {rr : Int64} {μr : jM} {v0 : Nat} {v1 : Int32} {v2 : Int32} {v3 : Int64} {v5 : Int64} {v7 : Int32} {μ : jM} {z : ((Int64 × Int32 × jM) ⊕ (Int64 × jM))} (H : b_X12_weight_80 Y v0 v1 v2 v3 v5 v7 μ = some z) (D : Sum.elim (fun (s : Int64 × Int32 × jM) => JW X (jEnd X n Y (some (.long rr)) μr 0 0) 0 0 n Y 80 [(0, .ref v0), (1, .int v1), (2, .int v2), (3, .long v3), (5, .long s.1), (7, .int s.2.1)] [] s.2.2) (fun r => r = (rr, μr)) z) : JW X (jEnd X n Y (some (.long rr)) μr 0 0) 0 0 n Y 80 [(0, .ref v0), (1, .int v1), (2, .int v2), (3, .long v3), (5, .long v5), (7, .int v7)] [] μ := by
  unfold b_X12_weight_80 at H
  refine r_iload K 5 dX12_weight_80 rfl ?_
  refine r_aload_n K 0 dX12_weight_82 rfl rfl ?_
  refine w_getI K vc12 inX12 10 (by decide) mF_RX12_145 dX12_weight_83 H (fun x1 H => ?_)
  refine w_icmp_ge K 126 dX12_weight_86 (by decide) H (fun _ H => ?_) (fun _ H => ?_)
  · refine r_aload_n K 0 dX12_weight_126 rfl rfl ?_
    refine r_lload_n K 3 dX12_weight_127 rfl rfl ?_
    refine r_lload K 4 dX12_weight_128 rfl ?_
    refine w_callV K hl H (fun r h => c_X12_sets l h) mC_yX12_sets mM_RX12_191 mI_yX12_sets mS_yX12_sets mZ_RX12 vc12 (Nat.le_of_ble_eq_true rfl) (Nat.le_of_ble_eq_true rfl) np_yX12_sets rfl (Nat.le_of_ble_eq_true rfl) dX12_weight_130 (fun μ2 H => ?_) ⟨Nat.zero_le _, Nat.zero_le _⟩
    refine r_aload_n K 0 dX12_weight_133 rfl rfl ?_
    refine r_iload_n K 2 dX12_weight_134 rfl rfl ?_
    refine w_callV K hl H (fun r h => c_X12_told l h) mC_yX12_told mM_RX12_195 mI_yX12_told mS_yX12_told mZ_RX12 vc12 (Nat.le_of_ble_eq_true rfl) (Nat.le_of_ble_eq_true rfl) np_yX12_told rfl (Nat.le_of_ble_eq_true rfl) dX12_weight_135 (fun r3 H => ?_) ⟨Nat.zero_le _, Nat.zero_le _⟩
    cases H
    simp only [Sum.elim_inr] at D
    obtain ⟨rfl, rfl⟩ := jfin2 D
    exact r_lret K dX12_weight_138
  · refine r_iload K 5 dX12_weight_89 rfl ?_
    refine r_iload_n K 1 dX12_weight_91 rfl rfl ?_
    refine w_icmp_ne K 100 dX12_weight_92 (by decide) H (fun _ H => ?_) (fun _ H => ?_)
    · refine r_lload K 4 dX12_weight_100 rfl ?_
      refine r_aload_n K 0 dX12_weight_102 rfl rfl ?_
      refine w_getO K vc12 inX12 11 (by decide) mF_RX12_20 dX12_weight_103 H (fun x4 H => ?_)
      refine r_iload_n K 1 dX12_weight_106 rfl rfl ?_
      refine w_iald K dX12_weight_107 H (fun x5 H => ?_)
      refine r_aload_n K 0 dX12_weight_108 rfl rfl ?_
      refine w_getO K vc12 inX12 11 (by decide) mF_RX12_20 dX12_weight_109 H (fun x6 H => ?_)
      refine r_iload K 5 dX12_weight_112 rfl ?_
      refine w_iald K dX12_weight_114 H (fun x7 H => ?_)
      refine r_isub K dX12_weight_115 ?_
      refine r_i2l K dX12_weight_116 ?_
      refine r_lmul K dX12_weight_117 ?_
      exact r_sub [0, 1, 2, 3, 5] rfl (t_X12_weight_118 K hl H D)
    · refine r_lload K 4 dX12_weight_95 rfl ?_
      refine r_goto K 118 dX12_weight_97 (by decide) ?_
      exact r_sub [0, 1, 2, 3, 5] rfl (t_X12_weight_118 K hl H D)
set_option maxRecDepth 10000 in
theorem l_X12_weight_80 {X : jX} {l : Launch} {n : Nat} {Y : jY} (K : jOK X RX12 cX12_weight 8 (some .long) 4) (hl : X.2.1 = l) {rr : Int64} {μr : jM} {v0 : Nat} {v1 : Int32} {v2 : Int32} {v3 : Int64}  {s0 : Int64 × Int32 × jM} {z : (Int64 × jM)} (H : jit jF (fun (s : Int64 × Int32 × jM) => b_X12_weight_80 Y v0 v1 v2 v3 s.1 s.2.1 s.2.2) s0 = some z) (D : z = (rr, μr)) : JW X (jEnd X n Y (some (.long rr)) μr 0 0) 0 0 n Y 80 [(0, .ref v0), (1, .int v1), (2, .int v2), (3, .long v3), (5, .long s0.1), (7, .int s0.2.1)] [] s0.2.2 :=
  jit_ind (P := fun (s : Int64 × Int32 × jM) => JW X (jEnd X n Y (some (.long rr)) μr 0 0) 0 0 n Y 80 [(0, .ref v0), (1, .int v1), (2, .int v2), (3, .long v3), (5, .long s.1), (7, .int s.2.1)] [] s.2.2) (D := fun r => r = (rr, μr)) (fun s z Hs Ds => t_X12_weight_80 K hl Hs Ds) jF s0 z H D
set_option maxRecDepth 10000 in
theorem t_X12_weight_42 {X : jX} {l : Launch} {n : Nat} {Y : jY} (K : jOK X RX12 cX12_weight 8 (some .long) 4) (hl : X.2.1 = l) {rr : Int64} {μr : jM} {v0 : Nat} {v1 : Int32} {v2 : Int32} {v3 : Int64} {v5 : Int64} {v7 : Int32} {μ : jM} {z : ((Int64 × Int32 × jM) ⊕ (Int64 × jM))} (H : b_X12_weight_42 Y v0 v1 v2 v3 v5 v7 μ = some z) (D : Sum.elim (fun (s : Int64 × Int32 × jM) => JW X (jEnd X n Y (some (.long rr)) μr 0 0) 0 0 n Y 42 [(0, .ref v0), (1, .int v1), (2, .int v2), (3, .long s.1), (5, .long v5), (7, .int s.2.1)] [] s.2.2) (fun r => r = (rr, μr)) z) : JW X (jEnd X n Y (some (.long rr)) μr 0 0) 0 0 n Y 42 [(0, .ref v0), (1, .int v1), (2, .int v2), (3, .long v3), (5, .long v5), (7, .int v7)] [] μ := by
  unfold b_X12_weight_42 at H
  refine r_iload K 5 dX12_weight_42 rfl ?_
  refine r_aload_n K 0 dX12_weight_44 rfl rfl ?_
  refine w_getI K vc12 inX12 10 (by decide) mF_RX12_145 dX12_weight_45 H (fun x1 H => ?_)
  refine r_iconst (v := 1) K dX12_weight_48 (by decide) ?_
  refine r_isub K dX12_weight_49 ?_
  refine w_icmp_ge K 77 dX12_weight_50 (by decide) H (fun _ H => ?_) (fun _ H => ?_)
  · refine r_iconst (v := 0) K dX12_weight_77 (by decide) ?_
    refine r_istore K [(7, .int _), (0, .ref _), (1, .int _), (2, .int _), (3, .long _), (5, .long _)] dX12_weight_78 (by decide) rfl ?_
    obtain ⟨z2, H2, rfl⟩ := jmap H
    exact r_sub [1, 2, 3, 4, 5, 0] rfl (l_X12_weight_80 K hl H2 D)
  · refine r_lload_n K 3 dX12_weight_53 rfl rfl ?_
    refine r_aload_n K 0 dX12_weight_54 rfl rfl ?_
    refine w_getO K vc12 inX12 11 (by decide) mF_RX12_20 dX12_weight_55 H (fun x2 H => ?_)
    refine r_iload_n K 1 dX12_weight_58 rfl rfl ?_
    refine w_iald K dX12_weight_59 H (fun x3 H => ?_)
    refine r_aload_n K 0 dX12_weight_60 rfl rfl ?_
    refine w_getO K vc12 inX12 12 (by decide) mF_RX12_23 dX12_weight_61 H (fun x4 H => ?_)
    refine r_iload K 5 dX12_weight_64 rfl ?_
    refine w_iald K dX12_weight_66 H (fun x5 H => ?_)
    refine r_isub K dX12_weight_67 ?_
    refine r_i2l K dX12_weight_68 ?_
    refine r_lmul K dX12_weight_69 ?_
    refine r_lstore_n K [(3, .long _), (0, .ref _), (1, .int _), (2, .int _), (5, .long _), (7, .int _)] dX12_weight_70 rfl (by decide) rfl ?_
    refine r_iinc K 5 [(7, .int _), (3, .long _), (0, .ref _), (1, .int _), (2, .int _), (5, .long _)] (v := _ + (1 : Int32)) dX12_weight_71 rfl rfl (by decide) rfl ?_
    refine r_goto K 42 dX12_weight_74 (by decide) ?_
    cases H
    exact r_sub [2, 3, 4, 1, 5, 0] rfl D
set_option maxRecDepth 10000 in
theorem l_X12_weight_42 {X : jX} {l : Launch} {n : Nat} {Y : jY} (K : jOK X RX12 cX12_weight 8 (some .long) 4) (hl : X.2.1 = l) {rr : Int64} {μr : jM} {v0 : Nat} {v1 : Int32} {v2 : Int32} {v5 : Int64}  {s0 : Int64 × Int32 × jM} {z : (Int64 × jM)} (H : jit jF (fun (s : Int64 × Int32 × jM) => b_X12_weight_42 Y v0 v1 v2 s.1 v5 s.2.1 s.2.2) s0 = some z) (D : z = (rr, μr)) : JW X (jEnd X n Y (some (.long rr)) μr 0 0) 0 0 n Y 42 [(0, .ref v0), (1, .int v1), (2, .int v2), (3, .long s0.1), (5, .long v5), (7, .int s0.2.1)] [] s0.2.2 :=
  jit_ind (P := fun (s : Int64 × Int32 × jM) => JW X (jEnd X n Y (some (.long rr)) μr 0 0) 0 0 n Y 42 [(0, .ref v0), (1, .int v1), (2, .int v2), (3, .long s.1), (5, .long v5), (7, .int s.2.1)] [] s.2.2) (D := fun r => r = (rr, μr)) (fun s z Hs Ds => t_X12_weight_42 K hl Hs Ds) jF s0 z H D
set_option maxRecDepth 10000 in
theorem t_X12_weight_0 {X : jX} {l : Launch} {n : Nat} {Y : jY} (K : jOK X RX12 cX12_weight 8 (some .long) 4) (hl : X.2.1 = l) {rr : Int64} {μr : jM} {v0 : Nat} {v1 : Int32} {v2 : Int32} {μ : jM} {z : (Int64 × jM)} (H : f_X12_weight Y v0 v1 v2 μ = some z) (D : z = (rr, μr)) : JW X (jEnd X n Y (some (.long rr)) μr 0 0) 0 0 n Y 0 [(0, .ref v0), (1, .int v1), (2, .int v2)] [] μ := by
  unfold f_X12_weight at H
  refine r_aload_n K 0 dX12_weight_0 rfl rfl ?_
  refine w_getI K vc12 inX12 10 (by decide) mF_RX12_145 dX12_weight_1 H (fun x1 H => ?_)
  refine w_if_eq K 30 dX12_weight_4 (by decide) H (fun _ H => ?_) (fun _ H => ?_)
  · exact r_sub [] rfl (t_X12_weight_30 K hl H D)
  · refine r_iload_n K 1 dX12_weight_7 rfl rfl ?_
    refine r_iconst (v := 0) K dX12_weight_8 (by decide) ?_
    refine r_aload_n K 0 dX12_weight_9 rfl rfl ?_
    refine w_getI K vc12 inX12 10 (by decide) mF_RX12_145 dX12_weight_10 H (fun x2 H => ?_)
    refine r_iconst (v := 1) K dX12_weight_13 (by decide) ?_
    refine r_isub K dX12_weight_14 ?_
    refine w_callS K hl H (fun r h => c_X12_in l h) mC_yX12_in mM_RX12_134 mT_yX12_in mZ_RX12 (Nat.le_of_ble_eq_true rfl) (Nat.le_of_ble_eq_true rfl) np_yX12_in rfl (Nat.le_of_ble_eq_true rfl) dX12_weight_15 (fun r3 H => ?_) ⟨Nat.zero_le _, Nat.zero_le _⟩
    refine w_if_eq K 30 dX12_weight_18 (by decide) H (fun _ H => ?_) (fun _ H => ?_)
    · exact r_sub [] rfl (t_X12_weight_30 K hl H D)
    · refine r_iload_n K 2 dX12_weight_21 rfl rfl ?_
      refine r_iconst (v := 0) K dX12_weight_22 (by decide) ?_
      refine r_iconst (v := 1) K dX12_weight_23 (by decide) ?_
      refine w_callS K hl H (fun r h => c_X12_in l h) mC_yX12_in mM_RX12_134 mT_yX12_in mZ_RX12 (Nat.le_of_ble_eq_true rfl) (Nat.le_of_ble_eq_true rfl) np_yX12_in rfl (Nat.le_of_ble_eq_true rfl) dX12_weight_24 (fun r4 H => ?_) ⟨Nat.zero_le _, Nat.zero_le _⟩
      refine w_if_ne K 34 dX12_weight_27 (by decide) H (fun _ H => ?_) (fun _ H => ?_)
      · refine r_lconst (v := 1) K dX12_weight_34 (by decide) ?_
        refine r_lstore_n K [(3, .long _), (0, .ref _), (1, .int _), (2, .int _)] dX12_weight_35 rfl (by decide) rfl ?_
        refine r_lconst (v := 1) K dX12_weight_36 (by decide) ?_
        refine r_lstore K [(5, .long _), (3, .long _), (0, .ref _), (1, .int _), (2, .int _)] dX12_weight_37 (by decide) rfl ?_
        refine r_iconst (v := 0) K dX12_weight_39 (by decide) ?_
        refine r_istore K [(7, .int _), (5, .long _), (3, .long _), (0, .ref _), (1, .int _), (2, .int _)] dX12_weight_40 (by decide) rfl ?_
        exact r_sub [3, 4, 5, 2, 1, 0] rfl (l_X12_weight_42 K hl H D)
      · exact r_sub [] rfl (t_X12_weight_30 K hl H D)
theorem c_X12_weight (l : Launch) {n : Nat} {Y : jY} {v0 : Nat} {v1 : Int32} {v2 : Int32} {μ : jM} {z : Int64 × jM} (H : f_X12_weight Y v0 v1 v2 μ = some z) : jC l yX12_weight cX12_weight 8 (some .long) 4 0 0 [.ref v0, .int v1, .int v2] n Y μ n Y (some (.long z.1)) z.2 := by
  refine jC_of (by decide +kernel) (Nat.le_of_ble_eq_true rfl) (fun X hl K _ _ _ => ?_)
  obtain ⟨rr, μr⟩ := z
  exact t_X12_weight_0 K hl H rfl
/-! RX12 keep()I -/
def b_X12_keep_101 (Y : jY) (v0 : Nat) (v1 : Int32) (v2 : Int32) (μ : jM) : Option ((Int32 × jM) ⊕ (Int32 × jM)) :=
  if ((20 : Int32)) ≤ v2 then
    (jgI Y μ v0 12 25).bind fun x1 =>
    some (.inr (x1, μ))
  else
    (jgO Y μ v0 12 30).bind fun x2 =>
    (jgO Y μ v0 12 27).bind fun x3 =>
    (jaI Y μ x3 20 v2).bind fun x4 =>
    (jas Y μ x2 20 ((((((20 : Int32)) * v1)) + v2)) (.int x4)).bind fun μ5 =>
    (jgO Y μ5 v0 12 31).bind fun x6 =>
    (jgO Y μ5 v0 12 28).bind fun x7 =>
    (jaI Y μ5 x7 20 v2).bind fun x8 =>
    (jas Y μ5 x6 20 ((((((20 : Int32)) * v1)) + v2)) (.int x8)).bind fun μ9 =>
    some (.inl ((v2 + (1 : Int32)), μ9))
def b_X12_keep_93 (Y : jY) (v0 : Nat) (v1 : Int32) (v2 : Int32) (μ : jM) : Option ((Int32 × jM) ⊕ (Int32 × jM)) :=
  some (.inl ((v2 + (1 : Int32)), μ))
def b_X12_keep_35 (Y : jY) (v0 : Nat) (v1 : Int32) (v2 : Int32) (μ : jM) : Option ((Int32 × jM) ⊕ (Int32 × jM)) :=
  if ((4 : Int32)) ≤ v2 then
    (jit jF (fun (s : Int32 × jM) => b_X12_keep_101 Y v0 v1 s.1 s.2) ((0 : Int32), μ)).map (fun r => (.inr r))
  else
    (jgO Y μ v0 12 33).bind fun x1 =>
    (jgO Y μ v0 12 11).bind fun x2 =>
    (jaI Y μ x2 20 v2).bind fun x3 =>
    (jas Y μ x1 20 ((((((4 : Int32)) * v1)) + v2)) (.int x3)).bind fun μ4 =>
    (jgO Y μ4 v0 12 29).bind fun x5 =>
    (jgO Y μ4 v0 12 26).bind fun x6 =>
    (jaI Y μ4 x6 20 v2).bind fun x7 =>
    (jas Y μ4 x5 20 ((((((4 : Int32)) * v1)) + v2)) (.int x7)).bind fun μ8 =>
    if ((3 : Int32)) ≤ v2 then
      b_X12_keep_93 Y v0 v1 v2 μ8
    else
      (jgO Y μ8 v0 12 34).bind fun x9 =>
      (jgO Y μ8 v0 12 12).bind fun x10 =>
      (jaI Y μ8 x10 20 v2).bind fun x11 =>
      (jas Y μ8 x9 20 ((((((3 : Int32)) * v1)) + v2)) (.int x11)).bind fun μ12 =>
      b_X12_keep_93 Y v0 v1 v2 μ12
def f_X12_keep (Y : jY) (v0 : Nat) (μ : jM) : Option (Int32 × jM) :=
  (jgI Y μ v0 12 25).bind fun x1 =>
  if x1 = ((8 : Int32)) then
    some ((-1 : Int32), μ)
  else
    (jgI Y μ v0 12 25).bind fun x2 =>
    (jput Y μ v0 12 25 (.int ((x2 + ((1 : Int32)))))).bind fun μ3 =>
    (jgO Y μ3 v0 12 32).bind fun x4 =>
    (jgI Y μ3 v0 12 10).bind fun x5 =>
    (jas Y μ3 x4 20 x2 (.int x5)).bind fun μ6 =>
    jit jF (fun (s : Int32 × jM) => b_X12_keep_35 Y v0 x2 s.1 s.2) ((0 : Int32), μ6)
set_option maxRecDepth 10000 in
theorem t_X12_keep_101 {X : jX} {l : Launch} {n : Nat} {Y : jY} (K : jOK X RX12 cX12_keep 3 (some .int) 1) (hl : X.2.1 = l) {rr : Int32} {μr : jM} {v0 : Nat} {v1 : Int32} {v2 : Int32} {μ : jM} {z : ((Int32 × jM) ⊕ (Int32 × jM))} (H : b_X12_keep_101 Y v0 v1 v2 μ = some z) (D : Sum.elim (fun (s : Int32 × jM) => JW X (jEnd X n Y (some (.int rr)) μr 0 0) 0 0 n Y 101 [(0, .ref v0), (1, .int v1), (2, .int s.1)] [] s.2) (fun r => r = (rr, μr)) z) : JW X (jEnd X n Y (some (.int rr)) μr 0 0) 0 0 n Y 101 [(0, .ref v0), (1, .int v1), (2, .int v2)] [] μ := by
  unfold b_X12_keep_101 at H
  refine r_iload_n K 2 dX12_keep_101 rfl rfl ?_
  refine r_bipush (v := 20) K dX12_keep_102 (by decide) ?_
  refine w_icmp_ge K 147 dX12_keep_104 (by decide) H (fun _ H => ?_) (fun _ H => ?_)
  · refine r_aload_n K 0 dX12_keep_147 rfl rfl ?_
    refine w_getI K vc12 inX12 25 (by decide) mF_RX12_148 dX12_keep_148 H (fun x1 H => ?_)
    cases H
    simp only [Sum.elim_inr] at D
    obtain ⟨rfl, rfl⟩ := jfin2 D
    exact r_iret K dX12_keep_151
  · refine r_aload_n K 0 dX12_keep_107 rfl rfl ?_
    refine w_getO K vc12 inX12 30 (by decide) mF_RX12_60 dX12_keep_108 H (fun x2 H => ?_)
    refine r_bipush (v := 20) K dX12_keep_111 (by decide) ?_
    refine r_iload_n K 1 dX12_keep_113 rfl rfl ?_
    refine r_imul K dX12_keep_114 ?_
    refine r_iload_n K 2 dX12_keep_115 rfl rfl ?_
    refine r_iadd K dX12_keep_116 ?_
    refine r_aload_n K 0 dX12_keep_117 rfl rfl ?_
    refine w_getO K vc12 inX12 27 (by decide) mF_RX12_51 dX12_keep_118 H (fun x3 H => ?_)
    refine r_iload_n K 2 dX12_keep_121 rfl rfl ?_
    refine w_iald K dX12_keep_122 H (fun x4 H => ?_)
    refine w_iast K dX12_keep_123 H (fun μ5 H => ?_)
    refine r_aload_n K 0 dX12_keep_124 rfl rfl ?_
    refine w_getO K vc12 inX12 31 (by decide) mF_RX12_63 dX12_keep_125 H (fun x6 H => ?_)
    refine r_bipush (v := 20) K dX12_keep_128 (by decide) ?_
    refine r_iload_n K 1 dX12_keep_130 rfl rfl ?_
    refine r_imul K dX12_keep_131 ?_
    refine r_iload_n K 2 dX12_keep_132 rfl rfl ?_
    refine r_iadd K dX12_keep_133 ?_
    refine r_aload_n K 0 dX12_keep_134 rfl rfl ?_
    refine w_getO K vc12 inX12 28 (by decide) mF_RX12_54 dX12_keep_135 H (fun x7 H => ?_)
    refine r_iload_n K 2 dX12_keep_138 rfl rfl ?_
    refine w_iald K dX12_keep_139 H (fun x8 H => ?_)
    refine w_iast K dX12_keep_140 H (fun μ9 H => ?_)
    refine r_iinc K 2 [(2, .int _), (0, .ref _), (1, .int _)] (v := _ + (1 : Int32)) dX12_keep_141 rfl rfl (by decide) rfl ?_
    refine r_goto K 101 dX12_keep_144 (by decide) ?_
    cases H
    exact r_sub [1, 2, 0] rfl D
set_option maxRecDepth 10000 in
theorem l_X12_keep_101 {X : jX} {l : Launch} {n : Nat} {Y : jY} (K : jOK X RX12 cX12_keep 3 (some .int) 1) (hl : X.2.1 = l) {rr : Int32} {μr : jM} {v0 : Nat} {v1 : Int32}  {s0 : Int32 × jM} {z : (Int32 × jM)} (H : jit jF (fun (s : Int32 × jM) => b_X12_keep_101 Y v0 v1 s.1 s.2) s0 = some z) (D : z = (rr, μr)) : JW X (jEnd X n Y (some (.int rr)) μr 0 0) 0 0 n Y 101 [(0, .ref v0), (1, .int v1), (2, .int s0.1)] [] s0.2 :=
  jit_ind (P := fun (s : Int32 × jM) => JW X (jEnd X n Y (some (.int rr)) μr 0 0) 0 0 n Y 101 [(0, .ref v0), (1, .int v1), (2, .int s.1)] [] s.2) (D := fun r => r = (rr, μr)) (fun s z Hs Ds => t_X12_keep_101 K hl Hs Ds) jF s0 z H D
set_option maxRecDepth 10000 in
theorem t_X12_keep_93 {X : jX} {l : Launch} {n : Nat} {Y : jY} (K : jOK X RX12 cX12_keep 3 (some .int) 1) (hl : X.2.1 = l) {rr : Int32} {μr : jM} {v0 : Nat} {v1 : Int32} {v2 : Int32} {μ : jM} {z : ((Int32 × jM) ⊕ (Int32 × jM))} (H : b_X12_keep_93 Y v0 v1 v2 μ = some z) (D : Sum.elim (fun (s : Int32 × jM) => JW X (jEnd X n Y (some (.int rr)) μr 0 0) 0 0 n Y 35 [(0, .ref v0), (1, .int v1), (2, .int s.1)] [] s.2) (fun r => r = (rr, μr)) z) : JW X (jEnd X n Y (some (.int rr)) μr 0 0) 0 0 n Y 93 [(0, .ref v0), (1, .int v1), (2, .int v2)] [] μ := by
  unfold b_X12_keep_93 at H
  refine r_iinc K 2 [(2, .int _), (0, .ref _), (1, .int _)] (v := _ + (1 : Int32)) dX12_keep_93 rfl rfl (by decide) rfl ?_
  refine r_goto K 35 dX12_keep_96 (by decide) ?_
  cases H
  exact r_sub [1, 2, 0] rfl D
set_option maxRecDepth 10000 in
theorem t_X12_keep_35 {X : jX} {l : Launch} {n : Nat} {Y : jY} (K : jOK X RX12 cX12_keep 3 (some .int) 1) (hl : X.2.1 = l) {rr : Int32} {μr : jM} {v0 : Nat} {v1 : Int32} {v2 : Int32} {μ : jM} {z : ((Int32 × jM) ⊕ (Int32 × jM))} (H : b_X12_keep_35 Y v0 v1 v2 μ = some z) (D : Sum.elim (fun (s : Int32 × jM) => JW X (jEnd X n Y (some (.int rr)) μr 0 0) 0 0 n Y 35 [(0, .ref v0), (1, .int v1), (2, .int s.1)] [] s.2) (fun r => r = (rr, μr)) z) : JW X (jEnd X n Y (some (.int rr)) μr 0 0) 0 0 n Y 35 [(0, .ref v0), (1, .int v1), (2, .int v2)] [] μ := by
  unfold b_X12_keep_35 at H
  refine r_iload_n K 2 dX12_keep_35 rfl rfl ?_
  refine r_iconst (v := 4) K dX12_keep_36 (by decide) ?_
  refine w_icmp_ge K 99 dX12_keep_37 (by decide) H (fun _ H => ?_) (fun _ H => ?_)
  · refine r_iconst (v := 0) K dX12_keep_99 (by decide) ?_
    refine r_istore_n K [(2, .int _), (0, .ref _), (1, .int _)] dX12_keep_100 rfl (by decide) rfl ?_
    obtain ⟨z2, H2, rfl⟩ := jmap H
    exact r_sub [1, 2, 0] rfl (l_X12_keep_101 K hl H2 D)
  · refine r_aload_n K 0 dX12_keep_40 rfl rfl ?_
    refine w_getO K vc12 inX12 33 (by decide) mF_RX12_69 dX12_keep_41 H (fun x1 H => ?_)
    refine r_iconst (v := 4) K dX12_keep_44 (by decide) ?_
    refine r_iload_n K 1 dX12_keep_45 rfl rfl ?_
    refine r_imul K dX12_keep_46 ?_
    refine r_iload_n K 2 dX12_keep_47 rfl rfl ?_
    refine r_iadd K dX12_keep_48 ?_
    refine r_aload_n K 0 dX12_keep_49 rfl rfl ?_
    refine w_getO K vc12 inX12 11 (by decide) mF_RX12_20 dX12_keep_50 H (fun x2 H => ?_)
    refine r_iload_n K 2 dX12_keep_53 rfl rfl ?_
    refine w_iald K dX12_keep_54 H (fun x3 H => ?_)
    refine w_iast K dX12_keep_55 H (fun μ4 H => ?_)
    refine r_aload_n K 0 dX12_keep_56 rfl rfl ?_
    refine w_getO K vc12 inX12 29 (by decide) mF_RX12_57 dX12_keep_57 H (fun x5 H => ?_)
    refine r_iconst (v := 4) K dX12_keep_60 (by decide) ?_
    refine r_iload_n K 1 dX12_keep_61 rfl rfl ?_
    refine r_imul K dX12_keep_62 ?_
    refine r_iload_n K 2 dX12_keep_63 rfl rfl ?_
    refine r_iadd K dX12_keep_64 ?_
    refine r_aload_n K 0 dX12_keep_65 rfl rfl ?_
    refine w_getO K vc12 inX12 26 (by decide) mF_RX12_48 dX12_keep_66 H (fun x6 H => ?_)
    refine r_iload_n K 2 dX12_keep_69 rfl rfl ?_
    refine w_iald K dX12_keep_70 H (fun x7 H => ?_)
    refine w_iast K dX12_keep_71 H (fun μ8 H => ?_)
    refine r_iload_n K 2 dX12_keep_72 rfl rfl ?_
    refine r_iconst (v := 3) K dX12_keep_73 (by decide) ?_
    refine w_icmp_ge K 93 dX12_keep_74 (by decide) H (fun _ H => ?_) (fun _ H => ?_)
    · exact r_sub [0, 1, 2] rfl (t_X12_keep_93 K hl H D)
    · refine r_aload_n K 0 dX12_keep_77 rfl rfl ?_
      refine w_getO K vc12 inX12 34 (by decide) mF_RX12_72 dX12_keep_78 H (fun x9 H => ?_)
      refine r_iconst (v := 3) K dX12_keep_81 (by decide) ?_
      refine r_iload_n K 1 dX12_keep_82 rfl rfl ?_
      refine r_imul K dX12_keep_83 ?_
      refine r_iload_n K 2 dX12_keep_84 rfl rfl ?_
      refine r_iadd K dX12_keep_85 ?_
      refine r_aload_n K 0 dX12_keep_86 rfl rfl ?_
      refine w_getO K vc12 inX12 12 (by decide) mF_RX12_23 dX12_keep_87 H (fun x10 H => ?_)
      refine r_iload_n K 2 dX12_keep_90 rfl rfl ?_
      refine w_iald K dX12_keep_91 H (fun x11 H => ?_)
      refine w_iast K dX12_keep_92 H (fun μ12 H => ?_)
      exact r_sub [0, 1, 2] rfl (t_X12_keep_93 K hl H D)
set_option maxRecDepth 10000 in
theorem l_X12_keep_35 {X : jX} {l : Launch} {n : Nat} {Y : jY} (K : jOK X RX12 cX12_keep 3 (some .int) 1) (hl : X.2.1 = l) {rr : Int32} {μr : jM} {v0 : Nat} {v1 : Int32}  {s0 : Int32 × jM} {z : (Int32 × jM)} (H : jit jF (fun (s : Int32 × jM) => b_X12_keep_35 Y v0 v1 s.1 s.2) s0 = some z) (D : z = (rr, μr)) : JW X (jEnd X n Y (some (.int rr)) μr 0 0) 0 0 n Y 35 [(0, .ref v0), (1, .int v1), (2, .int s0.1)] [] s0.2 :=
  jit_ind (P := fun (s : Int32 × jM) => JW X (jEnd X n Y (some (.int rr)) μr 0 0) 0 0 n Y 35 [(0, .ref v0), (1, .int v1), (2, .int s.1)] [] s.2) (D := fun r => r = (rr, μr)) (fun s z Hs Ds => t_X12_keep_35 K hl Hs Ds) jF s0 z H D
set_option maxRecDepth 10000 in
theorem t_X12_keep_0 {X : jX} {l : Launch} {n : Nat} {Y : jY} (K : jOK X RX12 cX12_keep 3 (some .int) 1) (hl : X.2.1 = l) {rr : Int32} {μr : jM} {v0 : Nat} {μ : jM} {z : (Int32 × jM)} (H : f_X12_keep Y v0 μ = some z) (D : z = (rr, μr)) : JW X (jEnd X n Y (some (.int rr)) μr 0 0) 0 0 n Y 0 [(0, .ref v0)] [] μ := by
  unfold f_X12_keep at H
  refine r_aload_n K 0 dX12_keep_0 rfl rfl ?_
  refine w_getI K vc12 inX12 25 (by decide) mF_RX12_148 dX12_keep_1 H (fun x1 H => ?_)
  refine r_bipush (v := 8) K dX12_keep_4 (by decide) ?_
  refine w_icmp_ne K 11 dX12_keep_6 (by decide) H (fun _ H => ?_) (fun _ H => ?_)
  · refine r_aload_n K 0 dX12_keep_11 rfl rfl ?_
    refine w_getI K vc12 inX12 25 (by decide) mF_RX12_148 dX12_keep_12 H (fun x2 H => ?_)
    refine r_istore_n K [(1, .int _), (0, .ref _)] dX12_keep_15 rfl (by decide) rfl ?_
    refine r_aload_n K 1 dX12_keep_16 rfl rfl ?_
    refine r_iload_n K 0 dX12_keep_17 rfl rfl ?_
    refine r_iconst (v := 1) K dX12_keep_18 (by decide) ?_
    refine r_iadd K dX12_keep_19 ?_
    refine w_put K vc12 inX12 tyX12_ok nmX12 25 (by decide) mF_RX12_148 rfl (fun _ => rfl) (fun _ => rfl) dX12_keep_20 H (fun μ3 H => ?_)
    refine r_aload_n K 1 dX12_keep_23 rfl rfl ?_
    refine w_getO K vc12 inX12 32 (by decide) mF_RX12_66 dX12_keep_24 H (fun x4 H => ?_)
    refine r_iload_n K 0 dX12_keep_27 rfl rfl ?_
    refine r_aload_n K 1 dX12_keep_28 rfl rfl ?_
    refine w_getI K vc12 inX12 10 (by decide) mF_RX12_145 dX12_keep_29 H (fun x5 H => ?_)
    refine w_iast K dX12_keep_32 H (fun μ6 H => ?_)
    refine r_iconst (v := 0) K dX12_keep_33 (by decide) ?_
    refine r_istore_n K [(2, .int _), (1, .int _), (0, .ref _)] dX12_keep_34 rfl (by decide) rfl ?_
    exact r_sub [2, 1, 0] rfl (l_X12_keep_35 K hl H D)
  · refine r_iconst (v := -1) K dX12_keep_9 (by decide) ?_
    cases H
    obtain ⟨rfl, rfl⟩ := jfin2 D
    exact r_iret K dX12_keep_10
theorem c_X12_keep (l : Launch) {n : Nat} {Y : jY} {v0 : Nat} {μ : jM} {z : Int32 × jM} (H : f_X12_keep Y v0 μ = some z) : jC l yX12_keep cX12_keep 3 (some .int) 1 0 0 [.ref v0] n Y μ n Y (some (.int z.1)) z.2 := by
  refine jC_of (by decide +kernel) (Nat.le_of_ble_eq_true rfl) (fun X hl K _ _ _ => ?_)
  obtain ⟨rr, μr⟩ := z
  exact t_X12_keep_0 K hl H rfl
/-! RX12 put(IZII)I -/
def b_X12_put_66 (Y : jY) (v0 : Nat) (v1 : Int32) (v2 : Int32) (v3 : Int32) (v4 : Int32) (t0 : Int32) (μ : jM) : Option (Int32 × jM) :=
  (jrcv Y v0 12 (f_X12_puts Y v0 v1 v2 v3 v4 μ)).bind fun μ1 =>
  some (t0, μ1)
def f_X12_put (Y : jY) (v0 : Nat) (v1 : Int32) (v2 : Int32) (v3 : Int32) (v4 : Int32) (μ : jM) : Option (Int32 × jM) :=
  (f_X12_isDrawer Y v1 μ).bind fun r1 =>
  if r1.1 = 0 then
    some ((-99 : Int32), r1.2)
  else
    (jgO Y r1.2 v0 12 26).bind fun x2 =>
    (jaI Y r1.2 x2 20 v1).bind fun x3 =>
    if x3 = 0 then
      some ((-100 : Int32), r1.2)
    else
      (jrcv Y v0 12 (f_X12_isEntry Y v0 v1 v2 v3 r1.2)).bind fun r4 =>
      if r4.1 = 0 then
        some ((-99 : Int32), r4.2)
      else
        (f_X12_canBe Y v2 v4 r4.2).bind fun r5 =>
        if r5.1 = 0 then
          some ((-101 : Int32), r5.2)
        else
          if v2 = 0 then
            (jrcv Y v0 12 (f_X12_c Y v0 v1 v3 r5.2)).bind fun r6 =>
            b_X12_put_66 Y v0 v1 v2 v3 v4 r6.1 r6.2
          else
            (jrcv Y v0 12 (f_X12_a Y v0 v1 v3 r5.2)).bind fun r7 =>
            b_X12_put_66 Y v0 v1 v2 v3 v4 r7.1 r7.2
set_option maxRecDepth 10000 in
theorem t_X12_put_66 {X : jX} {l : Launch} {n : Nat} {Y : jY} (K : jOK X RX12 cX12_put 6 (some .int) 3) (hl : X.2.1 = l) {rr : Int32} {μr : jM} {v0 : Nat} {v1 : Int32} {v2 : Int32} {v3 : Int32} {v4 : Int32} {t0 : Int32} {μ : jM} {z : (Int32 × jM)} (H : b_X12_put_66 Y v0 v1 v2 v3 v4 t0 μ = some z) (D : z = (rr, μr)) : JW X (jEnd X n Y (some (.int rr)) μr 0 0) 0 0 n Y 66 [(0, .ref v0), (1, .int v1), (2, .int v2), (3, .int v3), (4, .int v4)] [.int t0] μ := by
  unfold b_X12_put_66 at H
  refine r_istore K [(5, .int _), (0, .ref _), (1, .int _), (2, .int _), (3, .int _), (4, .int _)] dX12_put_66 (by decide) rfl ?_
  refine r_aload_n K 1 dX12_put_68 rfl rfl ?_
  refine r_iload_n K 2 dX12_put_69 rfl rfl ?_
  refine r_iload_n K 3 dX12_put_70 rfl rfl ?_
  refine r_iload_n K 4 dX12_put_71 rfl rfl ?_
  refine r_iload K 5 dX12_put_72 rfl ?_
  refine w_callV K hl H (fun r h => c_X12_puts l h) mC_yX12_puts mM_RX12_271 mI_yX12_puts mS_yX12_puts mZ_RX12 vc12 (Nat.le_of_ble_eq_true rfl) (Nat.le_of_ble_eq_true rfl) np_yX12_puts rfl (Nat.le_of_ble_eq_true rfl) dX12_put_74 (fun μ1 H => ?_) ⟨Nat.zero_le _, Nat.zero_le _⟩
  refine r_iload K 0 dX12_put_77 rfl ?_
  cases H
  obtain ⟨rfl, rfl⟩ := jfin2 D
  exact r_iret K dX12_put_79
set_option maxRecDepth 10000 in
theorem t_X12_put_0 {X : jX} {l : Launch} {n : Nat} {Y : jY} (K : jOK X RX12 cX12_put 6 (some .int) 3) (hl : X.2.1 = l) {rr : Int32} {μr : jM} {v0 : Nat} {v1 : Int32} {v2 : Int32} {v3 : Int32} {v4 : Int32} {μ : jM} {z : (Int32 × jM)} (H : f_X12_put Y v0 v1 v2 v3 v4 μ = some z) (D : z = (rr, μr)) : JW X (jEnd X n Y (some (.int rr)) μr 0 0) 0 0 n Y 0 [(0, .ref v0), (1, .int v1), (2, .int v2), (3, .int v3), (4, .int v4)] [] μ := by
  unfold f_X12_put at H
  refine r_iload_n K 1 dX12_put_0 rfl rfl ?_
  refine w_callS K hl H (fun r h => c_X12_isDrawer l h) mC_yX12_isDrawer mM_RX12_253 mT_yX12_isDrawer mZ_RX12 (Nat.le_of_ble_eq_true rfl) (Nat.le_of_ble_eq_true rfl) np_yX12_isDrawer rfl (Nat.le_of_ble_eq_true rfl) dX12_put_1 (fun r1 H => ?_) ⟨Nat.zero_le _, Nat.zero_le _⟩
  refine w_if_ne K 10 dX12_put_4 (by decide) H (fun _ H => ?_) (fun _ H => ?_)
  · refine r_aload_n K 0 dX12_put_10 rfl rfl ?_
    refine w_getO K vc12 inX12 26 (by decide) mF_RX12_48 dX12_put_11 H (fun x2 H => ?_)
    refine r_iload_n K 1 dX12_put_14 rfl rfl ?_
    refine w_iald K dX12_put_15 H (fun x3 H => ?_)
    refine w_if_ne K 22 dX12_put_16 (by decide) H (fun _ H => ?_) (fun _ H => ?_)
    · refine r_aload_n K 0 dX12_put_22 rfl rfl ?_
      refine r_iload_n K 1 dX12_put_23 rfl rfl ?_
      refine r_iload_n K 2 dX12_put_24 rfl rfl ?_
      refine r_iload_n K 3 dX12_put_25 rfl rfl ?_
      refine w_callV K hl H (fun r h => c_X12_isEntry l h) mC_yX12_isEntry mM_RX12_263 mI_yX12_isEntry mS_yX12_isEntry mZ_RX12 vc12 (Nat.le_of_ble_eq_true rfl) (Nat.le_of_ble_eq_true rfl) np_yX12_isEntry rfl (Nat.le_of_ble_eq_true rfl) dX12_put_26 (fun r4 H => ?_) ⟨Nat.zero_le _, Nat.zero_le _⟩
      refine w_if_ne K 35 dX12_put_29 (by decide) H (fun _ H => ?_) (fun _ H => ?_)
      · refine r_iload_n K 2 dX12_put_35 rfl rfl ?_
        refine r_iload K 4 dX12_put_36 rfl ?_
        refine w_callS K hl H (fun r h => c_X12_canBe l h) mC_yX12_canBe mM_RX12_267 mT_yX12_canBe mZ_RX12 (Nat.le_of_ble_eq_true rfl) (Nat.le_of_ble_eq_true rfl) np_yX12_canBe rfl (Nat.le_of_ble_eq_true rfl) dX12_put_38 (fun r5 H => ?_) ⟨Nat.zero_le _, Nat.zero_le _⟩
        refine w_if_ne K 47 dX12_put_41 (by decide) H (fun _ H => ?_) (fun _ H => ?_)
        · refine r_iload_n K 2 dX12_put_47 rfl rfl ?_
          refine w_if_eq K 60 dX12_put_48 (by decide) H (fun _ H => ?_) (fun _ H => ?_)
          · refine r_aload_n K 0 dX12_put_60 rfl rfl ?_
            refine r_iload_n K 1 dX12_put_61 rfl rfl ?_
            refine r_iload_n K 3 dX12_put_62 rfl rfl ?_
            refine w_callV K hl H (fun r h => c_X12_c l h) mC_yX12_c mM_RX12_260 mI_yX12_c mS_yX12_c mZ_RX12 vc12 (Nat.le_of_ble_eq_true rfl) (Nat.le_of_ble_eq_true rfl) np_yX12_c rfl (Nat.le_of_ble_eq_true rfl) dX12_put_63 (fun r6 H => ?_) ⟨Nat.zero_le _, Nat.zero_le _⟩
            exact r_sub [0, 1, 2, 3, 4] rfl (t_X12_put_66 K hl H D)
          · refine r_aload_n K 0 dX12_put_51 rfl rfl ?_
            refine r_iload_n K 1 dX12_put_52 rfl rfl ?_
            refine r_iload_n K 3 dX12_put_53 rfl rfl ?_
            refine w_callV K hl H (fun r h => c_X12_a l h) mC_yX12_a mM_RX12_256 mI_yX12_a mS_yX12_a mZ_RX12 vc12 (Nat.le_of_ble_eq_true rfl) (Nat.le_of_ble_eq_true rfl) np_yX12_a rfl (Nat.le_of_ble_eq_true rfl) dX12_put_54 (fun r7 H => ?_) ⟨Nat.zero_le _, Nat.zero_le _⟩
            refine r_goto K 66 dX12_put_57 (by decide) ?_
            exact r_sub [0, 1, 2, 3, 4] rfl (t_X12_put_66 K hl H D)
        · refine r_bipush (v := -101) K dX12_put_44 (by decide) ?_
          cases H
          obtain ⟨rfl, rfl⟩ := jfin2 D
          exact r_iret K dX12_put_46
      · refine r_bipush (v := -99) K dX12_put_32 (by decide) ?_
        cases H
        obtain ⟨rfl, rfl⟩ := jfin2 D
        exact r_iret K dX12_put_34
    · refine r_bipush (v := -100) K dX12_put_19 (by decide) ?_
      cases H
      obtain ⟨rfl, rfl⟩ := jfin2 D
      exact r_iret K dX12_put_21
  · refine r_bipush (v := -99) K dX12_put_7 (by decide) ?_
    cases H
    obtain ⟨rfl, rfl⟩ := jfin2 D
    exact r_iret K dX12_put_9
theorem c_X12_put (l : Launch) {n : Nat} {Y : jY} {v0 : Nat} {v1 : Int32} {v2 : Int32} {v3 : Int32} {v4 : Int32} {μ : jM} {z : Int32 × jM} (H : f_X12_put Y v0 v1 v2 v3 v4 μ = some z) : jC l yX12_put cX12_put 6 (some .int) 3 0 0 [.ref v0, .int v1, .int v2, .int v3, .int v4] n Y μ n Y (some (.int z.1)) z.2 := by
  refine jC_of (by decide +kernel) (Nat.le_of_ble_eq_true rfl) (fun X hl K _ _ _ => ?_)
  obtain ⟨rr, μr⟩ := z
  exact t_X12_put_0 K hl H rfl
