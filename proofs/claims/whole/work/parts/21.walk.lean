/-! RX12 join(III)I -/
def b_X12_join_24 (Y : jY) (μ : jM) : Option (Int32 × jM) :=
  some ((-1 : Int32), μ)
def b_X12_join_44 (Y : jY) (μ : jM) : Option (Int32 × jM) :=
  some ((-2 : Int32), μ)
def b_X12_join_150 (Y : jY) (v0 : Nat) (v1 : Int32) (v2 : Int32) (v4 : Int32) (v5 : Int32) (v6 : Int32) (μ : jM) : Option ((Int32 × jM) ⊕ (Int32 × jM)) :=
  some (.inl ((v6 + (1 : Int32)), μ))
def b_X12_join_92 (Y : jY) (v0 : Nat) (v1 : Int32) (v2 : Int32) (v4 : Int32) (v5 : Int32) (v6 : Int32) (μ : jM) : Option ((Int32 × jM) ⊕ (Int32 × jM)) :=
  if v5 ≤ v6 then
    (jgO Y μ v0 12 26).bind fun x1 =>
    (jas Y μ x1 20 v1 (.int ((v4 + v5)))).bind fun μ2 =>
    some (.inr ((v4 + v5), μ2))
  else
    (jgO Y μ v0 12 27).bind fun x3 =>
    (jrcv Y v0 12 (f_X12_a Y v0 v2 v6 μ)).bind fun r4 =>
    (jas Y r4.2 x3 20 ((((((((5 : Int32)) * v1)) + v4)) + v6)) (.int r4.1)).bind fun μ5 =>
    if ((v5 - ((1 : Int32)))) ≤ v6 then
      b_X12_join_150 Y v0 v1 v2 v4 v5 v6 μ5
    else
      (jgO Y μ5 v0 12 28).bind fun x6 =>
      (jrcv Y v0 12 (f_X12_c Y v0 v2 v6 μ5)).bind fun r7 =>
      (jas Y r7.2 x6 20 ((((((((5 : Int32)) * v1)) + v4)) + v6)) (.int r7.1)).bind fun μ8 =>
      b_X12_join_150 Y v0 v1 v2 v4 v5 v6 μ8
def f_X12_join (Y : jY) (v0 : Nat) (v1 : Int32) (v2 : Int32) (v3 : Int32) (μ : jM) : Option (Int32 × jM) :=
  (f_X12_isDrawer Y v1 μ).bind fun r1 =>
  if r1.1 = 0 then
    b_X12_join_24 Y r1.2
  else
    (f_X12_isDrawer Y v2 r1.2).bind fun r2 =>
    if r2.1 = 0 then
      b_X12_join_24 Y r2.2
    else
      (f_X12_in Y v3 ((1 : Int32)) ((36 : Int32)) r2.2).bind fun r3 =>
      if r3.1 = 0 then
        b_X12_join_24 Y r3.2
      else
        (jgO Y r3.2 v0 12 26).bind fun x4 =>
        (jaI Y r3.2 x4 20 v1).bind fun x5 =>
        if x5 = 0 then
          b_X12_join_44 Y r3.2
        else
          (jgO Y r3.2 v0 12 26).bind fun x6 =>
          (jaI Y r3.2 x6 20 v2).bind fun x7 =>
          if x7 = 0 then
            b_X12_join_44 Y r3.2
          else
            (jgO Y r3.2 v0 12 26).bind fun x8 =>
            (jaI Y r3.2 x8 20 v1).bind fun x9 =>
            (jgO Y r3.2 v0 12 26).bind fun x10 =>
            (jaI Y r3.2 x10 20 v2).bind fun x11 =>
            if ((x9 + x11)) ≤ ((5 : Int32)) then
              (jgO Y r3.2 v0 12 28).bind fun x12 =>
              (jas Y r3.2 x12 20 ((((((((5 : Int32)) * v1)) + x9)) - ((1 : Int32)))) (.int v3)).bind fun μ13 =>
              jit jF (fun (s : Int32 × jM) => b_X12_join_92 Y v0 v1 v2 x9 x11 s.1 s.2) ((0 : Int32), μ13)
            else
              some ((-3 : Int32), r3.2)
set_option maxRecDepth 10000 in
theorem t_X12_join_24 {X : jX} {l : Launch} {n : Nat} {Y : jY} (K : jOK X RX12 cX12_join 7 (some .int) 3) (hl : X.2.1 = l) {rr : Int32} {μr : jM} {μ : jM} {z : (Int32 × jM)} (H : b_X12_join_24 Y μ = some z) (D : z = (rr, μr)) : JW X (jEnd X n Y (some (.int rr)) μr 0 0) 0 0 n Y 24 [] [] μ := by
  unfold b_X12_join_24 at H
  refine r_iconst (v := -1) K dX12_join_24 (by decide) ?_
  cases H
  obtain ⟨rfl, rfl⟩ := jfin2 D
  exact r_iret K dX12_join_25
set_option maxRecDepth 10000 in
theorem t_X12_join_44 {X : jX} {l : Launch} {n : Nat} {Y : jY} (K : jOK X RX12 cX12_join 7 (some .int) 3) (hl : X.2.1 = l) {rr : Int32} {μr : jM} {μ : jM} {z : (Int32 × jM)} (H : b_X12_join_44 Y μ = some z) (D : z = (rr, μr)) : JW X (jEnd X n Y (some (.int rr)) μr 0 0) 0 0 n Y 44 [] [] μ := by
  unfold b_X12_join_44 at H
  refine r_bipush (v := -2) K dX12_join_44 (by decide) ?_
  cases H
  obtain ⟨rfl, rfl⟩ := jfin2 D
  exact r_iret K dX12_join_46
set_option maxRecDepth 10000 in
theorem t_X12_join_150 {X : jX} {l : Launch} {n : Nat} {Y : jY} (K : jOK X RX12 cX12_join 7 (some .int) 3) (hl : X.2.1 = l) {rr : Int32} {μr : jM} {v0 : Nat} {v1 : Int32} {v2 : Int32} {v4 : Int32} {v5 : Int32} {v6 : Int32} {μ : jM} {z : ((Int32 × jM) ⊕ (Int32 × jM))} (H : b_X12_join_150 Y v0 v1 v2 v4 v5 v6 μ = some z) (D : Sum.elim (fun (s : Int32 × jM) => JW X (jEnd X n Y (some (.int rr)) μr 0 0) 0 0 n Y 92 [(0, .ref v0), (1, .int v1), (2, .int v2), (4, .int v4), (5, .int v5), (6, .int s.1)] [] s.2) (fun r => r = (rr, μr)) z) : JW X (jEnd X n Y (some (.int rr)) μr 0 0) 0 0 n Y 150 [(0, .ref v0), (1, .int v1), (2, .int v2), (4, .int v4), (5, .int v5), (6, .int v6)] [] μ := by
  unfold b_X12_join_150 at H
  refine r_iinc K 5 [(6, .int _), (0, .ref _), (1, .int _), (2, .int _), (4, .int _), (5, .int _)] (v := _ + (1 : Int32)) dX12_join_150 rfl rfl (by decide) rfl ?_
  refine r_goto K 92 dX12_join_153 (by decide) ?_
  cases H
  exact r_sub [1, 2, 3, 4, 5, 0] rfl D
set_option maxRecDepth 10000 in
theorem t_X12_join_92 {X : jX} {l : Launch} {n : Nat} {Y : jY} (K : jOK X RX12 cX12_join 7 (some .int) 3) (hl : X.2.1 = l) {rr : Int32} {μr : jM} {v0 : Nat} {v1 : Int32} {v2 : Int32} {v4 : Int32} {v5 : Int32} {v6 : Int32} {μ : jM} {z : ((Int32 × jM) ⊕ (Int32 × jM))} (H : b_X12_join_92 Y v0 v1 v2 v4 v5 v6 μ = some z) (D : Sum.elim (fun (s : Int32 × jM) => JW X (jEnd X n Y (some (.int rr)) μr 0 0) 0 0 n Y 92 [(0, .ref v0), (1, .int v1), (2, .int v2), (4, .int v4), (5, .int v5), (6, .int s.1)] [] s.2) (fun r => r = (rr, μr)) z) : JW X (jEnd X n Y (some (.int rr)) μr 0 0) 0 0 n Y 92 [(0, .ref v0), (1, .int v1), (2, .int v2), (4, .int v4), (5, .int v5), (6, .int v6)] [] μ := by
  unfold b_X12_join_92 at H
  refine r_iload K 5 dX12_join_92 rfl ?_
  refine r_iload K 4 dX12_join_94 rfl ?_
  refine w_icmp_ge K 156 dX12_join_96 (by decide) H (fun _ H => ?_) (fun _ H => ?_)
  · refine r_aload_n K 0 dX12_join_156 rfl rfl ?_
    refine w_getO K vc12 inX12 26 (by decide) mF_RX12_48 dX12_join_157 H (fun x1 H => ?_)
    refine r_iload_n K 1 dX12_join_160 rfl rfl ?_
    refine r_iload K 3 dX12_join_161 rfl ?_
    refine r_iload K 4 dX12_join_163 rfl ?_
    refine r_iadd K dX12_join_165 ?_
    refine w_iast K dX12_join_166 H (fun μ2 H => ?_)
    refine r_iload K 3 dX12_join_167 rfl ?_
    refine r_iload K 4 dX12_join_169 rfl ?_
    refine r_iadd K dX12_join_171 ?_
    cases H
    simp only [Sum.elim_inr] at D
    obtain ⟨rfl, rfl⟩ := jfin2 D
    exact r_iret K dX12_join_172
  · refine r_aload_n K 0 dX12_join_99 rfl rfl ?_
    refine w_getO K vc12 inX12 27 (by decide) mF_RX12_51 dX12_join_100 H (fun x3 H => ?_)
    refine r_iconst (v := 5) K dX12_join_103 (by decide) ?_
    refine r_iload_n K 1 dX12_join_104 rfl rfl ?_
    refine r_imul K dX12_join_105 ?_
    refine r_iload K 3 dX12_join_106 rfl ?_
    refine r_iadd K dX12_join_108 ?_
    refine r_iload K 5 dX12_join_109 rfl ?_
    refine r_iadd K dX12_join_111 ?_
    refine r_aload_n K 0 dX12_join_112 rfl rfl ?_
    refine r_iload_n K 2 dX12_join_113 rfl rfl ?_
    refine r_iload K 5 dX12_join_114 rfl ?_
    refine w_callV K hl H (fun r h => c_X12_a l h) mC_yX12_a mM_RX12_256 mI_yX12_a mS_yX12_a mZ_RX12 vc12 (Nat.le_of_ble_eq_true rfl) (Nat.le_of_ble_eq_true rfl) np_yX12_a rfl (Nat.le_of_ble_eq_true rfl) dX12_join_116 (fun r4 H => ?_) ⟨Nat.zero_le _, Nat.zero_le _⟩
    refine w_iast K dX12_join_119 H (fun μ5 H => ?_)
    refine r_iload K 5 dX12_join_120 rfl ?_
    refine r_iload K 4 dX12_join_122 rfl ?_
    refine r_iconst (v := 1) K dX12_join_124 (by decide) ?_
    refine r_isub K dX12_join_125 ?_
    refine w_icmp_ge K 150 dX12_join_126 (by decide) H (fun _ H => ?_) (fun _ H => ?_)
    · exact r_sub [0, 1, 2, 3, 4, 5] rfl (t_X12_join_150 K hl H D)
    · refine r_aload_n K 0 dX12_join_129 rfl rfl ?_
      refine w_getO K vc12 inX12 28 (by decide) mF_RX12_54 dX12_join_130 H (fun x6 H => ?_)
      refine r_iconst (v := 5) K dX12_join_133 (by decide) ?_
      refine r_iload_n K 1 dX12_join_134 rfl rfl ?_
      refine r_imul K dX12_join_135 ?_
      refine r_iload K 3 dX12_join_136 rfl ?_
      refine r_iadd K dX12_join_138 ?_
      refine r_iload K 5 dX12_join_139 rfl ?_
      refine r_iadd K dX12_join_141 ?_
      refine r_aload_n K 0 dX12_join_142 rfl rfl ?_
      refine r_iload_n K 2 dX12_join_143 rfl rfl ?_
      refine r_iload K 5 dX12_join_144 rfl ?_
      refine w_callV K hl H (fun r h => c_X12_c l h) mC_yX12_c mM_RX12_260 mI_yX12_c mS_yX12_c mZ_RX12 vc12 (Nat.le_of_ble_eq_true rfl) (Nat.le_of_ble_eq_true rfl) np_yX12_c rfl (Nat.le_of_ble_eq_true rfl) dX12_join_146 (fun r7 H => ?_) ⟨Nat.zero_le _, Nat.zero_le _⟩
      refine w_iast K dX12_join_149 H (fun μ8 H => ?_)
      exact r_sub [0, 1, 2, 3, 4, 5] rfl (t_X12_join_150 K hl H D)
set_option maxRecDepth 10000 in
theorem l_X12_join_92 {X : jX} {l : Launch} {n : Nat} {Y : jY} (K : jOK X RX12 cX12_join 7 (some .int) 3) (hl : X.2.1 = l) {rr : Int32} {μr : jM} {v0 : Nat} {v1 : Int32} {v2 : Int32} {v4 : Int32} {v5 : Int32}  {s0 : Int32 × jM} {z : (Int32 × jM)} (H : jit jF (fun (s : Int32 × jM) => b_X12_join_92 Y v0 v1 v2 v4 v5 s.1 s.2) s0 = some z) (D : z = (rr, μr)) : JW X (jEnd X n Y (some (.int rr)) μr 0 0) 0 0 n Y 92 [(0, .ref v0), (1, .int v1), (2, .int v2), (4, .int v4), (5, .int v5), (6, .int s0.1)] [] s0.2 :=
  jit_ind (P := fun (s : Int32 × jM) => JW X (jEnd X n Y (some (.int rr)) μr 0 0) 0 0 n Y 92 [(0, .ref v0), (1, .int v1), (2, .int v2), (4, .int v4), (5, .int v5), (6, .int s.1)] [] s.2) (D := fun r => r = (rr, μr)) (fun s z Hs Ds => t_X12_join_92 K hl Hs Ds) jF s0 z H D
set_option maxRecDepth 10000 in
theorem t_X12_join_0 {X : jX} {l : Launch} {n : Nat} {Y : jY} (K : jOK X RX12 cX12_join 7 (some .int) 3) (hl : X.2.1 = l) {rr : Int32} {μr : jM} {v0 : Nat} {v1 : Int32} {v2 : Int32} {v3 : Int32} {μ : jM} {z : (Int32 × jM)} (H : f_X12_join Y v0 v1 v2 v3 μ = some z) (D : z = (rr, μr)) : JW X (jEnd X n Y (some (.int rr)) μr 0 0) 0 0 n Y 0 [(0, .ref v0), (1, .int v1), (2, .int v2), (3, .int v3)] [] μ := by
  unfold f_X12_join at H
  refine r_iload_n K 1 dX12_join_0 rfl rfl ?_
  refine w_callS K hl H (fun r h => c_X12_isDrawer l h) mC_yX12_isDrawer mM_RX12_253 mT_yX12_isDrawer mZ_RX12 (Nat.le_of_ble_eq_true rfl) (Nat.le_of_ble_eq_true rfl) np_yX12_isDrawer rfl (Nat.le_of_ble_eq_true rfl) dX12_join_1 (fun r1 H => ?_) ⟨Nat.zero_le _, Nat.zero_le _⟩
  refine w_if_eq K 24 dX12_join_4 (by decide) H (fun _ H => ?_) (fun _ H => ?_)
  · exact r_sub [] rfl (t_X12_join_24 K hl H D)
  · refine r_iload_n K 2 dX12_join_7 rfl rfl ?_
    refine w_callS K hl H (fun r h => c_X12_isDrawer l h) mC_yX12_isDrawer mM_RX12_253 mT_yX12_isDrawer mZ_RX12 (Nat.le_of_ble_eq_true rfl) (Nat.le_of_ble_eq_true rfl) np_yX12_isDrawer rfl (Nat.le_of_ble_eq_true rfl) dX12_join_8 (fun r2 H => ?_) ⟨Nat.zero_le _, Nat.zero_le _⟩
    refine w_if_eq K 24 dX12_join_11 (by decide) H (fun _ H => ?_) (fun _ H => ?_)
    · exact r_sub [] rfl (t_X12_join_24 K hl H D)
    · refine r_iload_n K 3 dX12_join_14 rfl rfl ?_
      refine r_iconst (v := 1) K dX12_join_15 (by decide) ?_
      refine r_bipush (v := 36) K dX12_join_16 (by decide) ?_
      refine w_callS K hl H (fun r h => c_X12_in l h) mC_yX12_in mM_RX12_134 mT_yX12_in mZ_RX12 (Nat.le_of_ble_eq_true rfl) (Nat.le_of_ble_eq_true rfl) np_yX12_in rfl (Nat.le_of_ble_eq_true rfl) dX12_join_18 (fun r3 H => ?_) ⟨Nat.zero_le _, Nat.zero_le _⟩
      refine w_if_ne K 26 dX12_join_21 (by decide) H (fun _ H => ?_) (fun _ H => ?_)
      · refine r_aload_n K 0 dX12_join_26 rfl rfl ?_
        refine w_getO K vc12 inX12 26 (by decide) mF_RX12_48 dX12_join_27 H (fun x4 H => ?_)
        refine r_iload_n K 1 dX12_join_30 rfl rfl ?_
        refine w_iald K dX12_join_31 H (fun x5 H => ?_)
        refine w_if_eq K 44 dX12_join_32 (by decide) H (fun _ H => ?_) (fun _ H => ?_)
        · exact r_sub [] rfl (t_X12_join_44 K hl H D)
        · refine r_aload_n K 0 dX12_join_35 rfl rfl ?_
          refine w_getO K vc12 inX12 26 (by decide) mF_RX12_48 dX12_join_36 H (fun x6 H => ?_)
          refine r_iload_n K 2 dX12_join_39 rfl rfl ?_
          refine w_iald K dX12_join_40 H (fun x7 H => ?_)
          refine w_if_ne K 47 dX12_join_41 (by decide) H (fun _ H => ?_) (fun _ H => ?_)
          · refine r_aload_n K 0 dX12_join_47 rfl rfl ?_
            refine w_getO K vc12 inX12 26 (by decide) mF_RX12_48 dX12_join_48 H (fun x8 H => ?_)
            refine r_iload_n K 1 dX12_join_51 rfl rfl ?_
            refine w_iald K dX12_join_52 H (fun x9 H => ?_)
            refine r_istore K [(4, .int _), (0, .ref _), (1, .int _), (2, .int _), (3, .int _)] dX12_join_53 (by decide) rfl ?_
            refine r_aload_n K 1 dX12_join_55 rfl rfl ?_
            refine w_getO K vc12 inX12 26 (by decide) mF_RX12_48 dX12_join_56 H (fun x10 H => ?_)
            refine r_iload_n K 3 dX12_join_59 rfl rfl ?_
            refine w_iald K dX12_join_60 H (fun x11 H => ?_)
            refine r_istore K [(5, .int _), (4, .int _), (0, .ref _), (1, .int _), (2, .int _), (3, .int _)] dX12_join_61 (by decide) rfl ?_
            refine r_iload K 1 dX12_join_63 rfl ?_
            refine r_iload K 0 dX12_join_65 rfl ?_
            refine r_iadd K dX12_join_67 ?_
            refine r_iconst (v := 5) K dX12_join_68 (by decide) ?_
            refine w_icmp_le K 75 dX12_join_69 (by decide) H (fun _ H => ?_) (fun _ H => ?_)
            · refine r_aload_n K 2 dX12_join_75 rfl rfl ?_
              refine w_getO K vc12 inX12 28 (by decide) mF_RX12_54 dX12_join_76 H (fun x12 H => ?_)
              refine r_iconst (v := 5) K dX12_join_79 (by decide) ?_
              refine r_iload_n K 3 dX12_join_80 rfl rfl ?_
              refine r_imul K dX12_join_81 ?_
              refine r_iload K 1 dX12_join_82 rfl ?_
              refine r_iadd K dX12_join_84 ?_
              refine r_iconst (v := 1) K dX12_join_85 (by decide) ?_
              refine r_isub K dX12_join_86 ?_
              refine r_iload_n K 5 dX12_join_87 rfl rfl ?_
              refine w_iast K dX12_join_88 H (fun μ13 H => ?_)
              refine r_iconst (v := 0) K dX12_join_89 (by decide) ?_
              refine r_istore K [(6, .int _), (5, .int _), (4, .int _), (0, .ref _), (1, .int _), (2, .int _), (3, .int _)] dX12_join_90 (by decide) rfl ?_
              exact r_sub [3, 4, 5, 2, 1, 0] rfl (l_X12_join_92 K hl H D)
            · refine r_bipush (v := -3) K dX12_join_72 (by decide) ?_
              cases H
              obtain ⟨rfl, rfl⟩ := jfin2 D
              exact r_iret K dX12_join_74
          · exact r_sub [] rfl (t_X12_join_44 K hl H D)
      · exact r_sub [] rfl (t_X12_join_24 K hl H D)
theorem c_X12_join (l : Launch) {n : Nat} {Y : jY} {v0 : Nat} {v1 : Int32} {v2 : Int32} {v3 : Int32} {μ : jM} {z : Int32 × jM} (H : f_X12_join Y v0 v1 v2 v3 μ = some z) : jC l yX12_join cX12_join 7 (some .int) 3 0 0 [.ref v0, .int v1, .int v2, .int v3] n Y μ n Y (some (.int z.1)) z.2 := by
  refine jC_of (by decide +kernel) (Nat.le_of_ble_eq_true rfl) (fun X hl K _ _ _ => ?_)
  obtain ⟨rr, μr⟩ := z
  exact t_X12_join_0 K hl H rfl
/-! RX12 count(I)I -/
def b_X12_count_132 (Y : jY) (t0 : Int32) (μ : jM) : Option (Int32 × jM) :=
  some (t0, μ)
def b_X12_count_78 (Y : jY) (v0 : Nat) (v1 : Int32) (v3 : Int32) (t0 : Int32) (t1 : Int32) (μ : jM) : Option ((Int32 × Int32 × jM) ⊕ (Int32 × jM)) :=
  some (.inl ((t0 ||| t1), (v3 + (1 : Int32)), μ))
def b_X12_count_56 (Y : jY) (v0 : Nat) (v1 : Int32) (v2 : Int32) (v3 : Int32) (μ : jM) : Option ((Int32 × Int32 × jM) ⊕ (Int32 × jM)) :=
  if ((4 : Int32)) ≤ v3 then
    if v1 = 0 then
      (jgI Y μ v0 12 10).bind fun x3 =>
      (b_X12_count_132 Y x3 μ).map (fun r => (.inr r))
    else
      if v1 = ((1 : Int32)) then
        (b_X12_count_132 Y v2 μ).map (fun r => (.inr r))
      else
        if v1 = ((2 : Int32)) then
          (jgI Y μ v0 12 1).bind fun x2 =>
          (b_X12_count_132 Y x2 μ).map (fun r => (.inr r))
        else
          if v1 = ((3 : Int32)) then
            (jgI Y μ v0 12 25).bind fun x1 =>
            (b_X12_count_132 Y x1 μ).map (fun r => (.inr r))
          else
            (b_X12_count_132 Y (-2147483648 : Int32) μ).map (fun r => (.inr r))
  else
    (jgO Y μ v0 12 26).bind fun x4 =>
    (jaI Y μ x4 20 v3).bind fun x5 =>
    if x5 ≤ 0 then
      b_X12_count_78 Y v0 v1 v3 v2 (0 : Int32) μ
    else
      b_X12_count_78 Y v0 v1 v3 v2 (((1 : Int32)) <<< (v3 &&& 31)) μ
def f_X12_count (Y : jY) (v0 : Nat) (v1 : Int32) (μ : jM) : Option (Int32 × jM) :=
  (jgI Y μ v0 12 10).bind fun x1 =>
  (f_X12_in Y v1 ((10 : Int32)) ((((9 : Int32)) + x1)) μ).bind fun r2 =>
  if r2.1 = 0 then
    (jgI Y r2.2 v0 12 10).bind fun x3 =>
    (f_X12_in Y v1 ((20 : Int32)) ((((18 : Int32)) + x3)) r2.2).bind fun r4 =>
    if r4.1 = 0 then
      jit jF (fun (s : Int32 × Int32 × jM) => b_X12_count_56 Y v0 v1 s.1 s.2.1 s.2.2) ((0 : Int32), (0 : Int32), r4.2)
    else
      (jgO Y r4.2 v0 12 12).bind fun x5 =>
      (jaI Y r4.2 x5 20 ((v1 - ((20 : Int32))))).bind fun x6 =>
      some (x6, r4.2)
  else
    (jgO Y r2.2 v0 12 11).bind fun x7 =>
    (jaI Y r2.2 x7 20 ((v1 - ((10 : Int32))))).bind fun x8 =>
    some (x8, r2.2)
set_option maxRecDepth 10000 in
theorem t_X12_count_132 {X : jX} {l : Launch} {n : Nat} {Y : jY} (K : jOK X RX12 cX12_count 4 (some .int) 2) (hl : X.2.1 = l) {rr : Int32} {μr : jM} {t0 : Int32} {μ : jM} {z : (Int32 × jM)} (H : b_X12_count_132 Y t0 μ = some z) (D : z = (rr, μr)) : JW X (jEnd X n Y (some (.int rr)) μr 0 0) 0 0 n Y 132 [] [.int t0] μ := by
  unfold b_X12_count_132 at H
  cases H
  obtain ⟨rfl, rfl⟩ := jfin2 D
  exact r_iret K dX12_count_132
set_option maxRecDepth 10000 in
theorem t_X12_count_78 {X : jX} {l : Launch} {n : Nat} {Y : jY} (K : jOK X RX12 cX12_count 4 (some .int) 2) (hl : X.2.1 = l) {rr : Int32} {μr : jM} {v0 : Nat} {v1 : Int32} {v3 : Int32} {t0 : Int32} {t1 : Int32} {μ : jM} {z : ((Int32 × Int32 × jM) ⊕ (Int32 × jM))} (H : b_X12_count_78 Y v0 v1 v3 t0 t1 μ = some z) (D : Sum.elim (fun (s : Int32 × Int32 × jM) => JW X (jEnd X n Y (some (.int rr)) μr 0 0) 0 0 n Y 56 [(0, .ref v0), (1, .int v1), (2, .int s.1), (3, .int s.2.1)] [] s.2.2) (fun r => r = (rr, μr)) z) : JW X (jEnd X n Y (some (.int rr)) μr 0 0) 0 0 n Y 78 [(0, .ref v0), (1, .int v1), (3, .int v3)] [.int t1, .int t0] μ := by
  unfold b_X12_count_78 at H
  refine r_ior K dX12_count_78 ?_
  refine r_istore_n K [(2, .int _), (0, .ref _), (1, .int _), (3, .int _)] dX12_count_79 rfl (by decide) rfl ?_
  refine r_iinc K 3 [(3, .int _), (2, .int _), (0, .ref _), (1, .int _)] (v := _ + (1 : Int32)) dX12_count_80 rfl rfl (by decide) rfl ?_
  refine r_goto K 56 dX12_count_83 (by decide) ?_
  cases H
  exact r_sub [2, 3, 1, 0] rfl D
set_option maxRecDepth 10000 in
theorem t_X12_count_56 {X : jX} {l : Launch} {n : Nat} {Y : jY} (K : jOK X RX12 cX12_count 4 (some .int) 2) (hl : X.2.1 = l) {rr : Int32} {μr : jM} {v0 : Nat} {v1 : Int32} {v2 : Int32} {v3 : Int32} {μ : jM} {z : ((Int32 × Int32 × jM) ⊕ (Int32 × jM))} (H : b_X12_count_56 Y v0 v1 v2 v3 μ = some z) (D : Sum.elim (fun (s : Int32 × Int32 × jM) => JW X (jEnd X n Y (some (.int rr)) μr 0 0) 0 0 n Y 56 [(0, .ref v0), (1, .int v1), (2, .int s.1), (3, .int s.2.1)] [] s.2.2) (fun r => r = (rr, μr)) z) : JW X (jEnd X n Y (some (.int rr)) μr 0 0) 0 0 n Y 56 [(0, .ref v0), (1, .int v1), (2, .int v2), (3, .int v3)] [] μ := by
  unfold b_X12_count_56 at H
  refine r_iload_n K 3 dX12_count_56 rfl rfl ?_
  refine r_iconst (v := 4) K dX12_count_57 (by decide) ?_
  refine w_icmp_ge K 86 dX12_count_58 (by decide) H (fun _ H => ?_) (fun _ H => ?_)
  · refine r_iload_n K 1 dX12_count_86 rfl rfl ?_
    refine w_if_ne K 97 dX12_count_87 (by decide) H (fun _ H => ?_) (fun _ H => ?_)
    · refine r_iload_n K 1 dX12_count_97 rfl rfl ?_
      refine r_iconst (v := 1) K dX12_count_98 (by decide) ?_
      refine w_icmp_ne K 106 dX12_count_99 (by decide) H (fun _ H => ?_) (fun _ H => ?_)
      · refine r_iload_n K 1 dX12_count_106 rfl rfl ?_
        refine r_iconst (v := 2) K dX12_count_107 (by decide) ?_
        refine w_icmp_ne K 118 dX12_count_108 (by decide) H (fun _ H => ?_) (fun _ H => ?_)
        · refine r_iload_n K 1 dX12_count_118 rfl rfl ?_
          refine r_iconst (v := 3) K dX12_count_119 (by decide) ?_
          refine w_icmp_ne K 130 dX12_count_120 (by decide) H (fun _ H => ?_) (fun _ H => ?_)
          · refine r_ldc K (-2147483648) mc_RX12_151 dX12_count_130 ?_
            obtain ⟨z2, H2, rfl⟩ := jmap H
            exact r_sub [] rfl (t_X12_count_132 K hl H2 D)
          · refine r_aload_n K 0 dX12_count_123 rfl rfl ?_
            refine w_getI K vc12 inX12 25 (by decide) mF_RX12_148 dX12_count_124 H (fun x1 H => ?_)
            refine r_goto K 132 dX12_count_127 (by decide) ?_
            obtain ⟨z2, H2, rfl⟩ := jmap H
            exact r_sub [] rfl (t_X12_count_132 K hl H2 D)
        · refine r_aload_n K 0 dX12_count_111 rfl rfl ?_
          refine w_getI K vc12 inX12 1 (by decide) mF_RX12_93 dX12_count_112 H (fun x2 H => ?_)
          refine r_goto K 132 dX12_count_115 (by decide) ?_
          obtain ⟨z2, H2, rfl⟩ := jmap H
          exact r_sub [] rfl (t_X12_count_132 K hl H2 D)
      · refine r_iload_n K 2 dX12_count_102 rfl rfl ?_
        refine r_goto K 132 dX12_count_103 (by decide) ?_
        obtain ⟨z2, H2, rfl⟩ := jmap H
        exact r_sub [] rfl (t_X12_count_132 K hl H2 D)
    · refine r_aload_n K 0 dX12_count_90 rfl rfl ?_
      refine w_getI K vc12 inX12 10 (by decide) mF_RX12_145 dX12_count_91 H (fun x3 H => ?_)
      refine r_goto K 132 dX12_count_94 (by decide) ?_
      obtain ⟨z2, H2, rfl⟩ := jmap H
      exact r_sub [] rfl (t_X12_count_132 K hl H2 D)
  · refine r_iload_n K 2 dX12_count_61 rfl rfl ?_
    refine r_aload_n K 0 dX12_count_62 rfl rfl ?_
    refine w_getO K vc12 inX12 26 (by decide) mF_RX12_48 dX12_count_63 H (fun x4 H => ?_)
    refine r_iload_n K 3 dX12_count_66 rfl rfl ?_
    refine w_iald K dX12_count_67 H (fun x5 H => ?_)
    refine w_if_le K 77 dX12_count_68 (by decide) H (fun _ H => ?_) (fun _ H => ?_)
    · refine r_iconst (v := 0) K dX12_count_77 (by decide) ?_
      exact r_sub [0, 1, 3] rfl (t_X12_count_78 K hl H D)
    · refine r_iconst (v := 1) K dX12_count_71 (by decide) ?_
      refine r_iload_n K 3 dX12_count_72 rfl rfl ?_
      refine r_ishl K dX12_count_73 ?_
      refine r_goto K 78 dX12_count_74 (by decide) ?_
      exact r_sub [0, 1, 3] rfl (t_X12_count_78 K hl H D)
set_option maxRecDepth 10000 in
theorem l_X12_count_56 {X : jX} {l : Launch} {n : Nat} {Y : jY} (K : jOK X RX12 cX12_count 4 (some .int) 2) (hl : X.2.1 = l) {rr : Int32} {μr : jM} {v0 : Nat} {v1 : Int32}  {s0 : Int32 × Int32 × jM} {z : (Int32 × jM)} (H : jit jF (fun (s : Int32 × Int32 × jM) => b_X12_count_56 Y v0 v1 s.1 s.2.1 s.2.2) s0 = some z) (D : z = (rr, μr)) : JW X (jEnd X n Y (some (.int rr)) μr 0 0) 0 0 n Y 56 [(0, .ref v0), (1, .int v1), (2, .int s0.1), (3, .int s0.2.1)] [] s0.2.2 :=
  jit_ind (P := fun (s : Int32 × Int32 × jM) => JW X (jEnd X n Y (some (.int rr)) μr 0 0) 0 0 n Y 56 [(0, .ref v0), (1, .int v1), (2, .int s.1), (3, .int s.2.1)] [] s.2.2) (D := fun r => r = (rr, μr)) (fun s z Hs Ds => t_X12_count_56 K hl Hs Ds) jF s0 z H D
set_option maxRecDepth 10000 in
theorem t_X12_count_0 {X : jX} {l : Launch} {n : Nat} {Y : jY} (K : jOK X RX12 cX12_count 4 (some .int) 2) (hl : X.2.1 = l) {rr : Int32} {μr : jM} {v0 : Nat} {v1 : Int32} {μ : jM} {z : (Int32 × jM)} (H : f_X12_count Y v0 v1 μ = some z) (D : z = (rr, μr)) : JW X (jEnd X n Y (some (.int rr)) μr 0 0) 0 0 n Y 0 [(0, .ref v0), (1, .int v1)] [] μ := by
  unfold f_X12_count at H
  refine r_iload_n K 1 dX12_count_0 rfl rfl ?_
  refine r_bipush (v := 10) K dX12_count_1 (by decide) ?_
  refine r_bipush (v := 9) K dX12_count_3 (by decide) ?_
  refine r_aload_n K 0 dX12_count_5 rfl rfl ?_
  refine w_getI K vc12 inX12 10 (by decide) mF_RX12_145 dX12_count_6 H (fun x1 H => ?_)
  refine r_iadd K dX12_count_9 ?_
  refine w_callS K hl H (fun r h => c_X12_in l h) mC_yX12_in mM_RX12_134 mT_yX12_in mZ_RX12 (Nat.le_of_ble_eq_true rfl) (Nat.le_of_ble_eq_true rfl) np_yX12_in rfl (Nat.le_of_ble_eq_true rfl) dX12_count_10 (fun r2 H => ?_) ⟨Nat.zero_le _, Nat.zero_le _⟩
  refine w_if_eq K 26 dX12_count_13 (by decide) H (fun _ H => ?_) (fun _ H => ?_)
  · refine r_iload_n K 1 dX12_count_26 rfl rfl ?_
    refine r_bipush (v := 20) K dX12_count_27 (by decide) ?_
    refine r_bipush (v := 18) K dX12_count_29 (by decide) ?_
    refine r_aload_n K 0 dX12_count_31 rfl rfl ?_
    refine w_getI K vc12 inX12 10 (by decide) mF_RX12_145 dX12_count_32 H (fun x3 H => ?_)
    refine r_iadd K dX12_count_35 ?_
    refine w_callS K hl H (fun r h => c_X12_in l h) mC_yX12_in mM_RX12_134 mT_yX12_in mZ_RX12 (Nat.le_of_ble_eq_true rfl) (Nat.le_of_ble_eq_true rfl) np_yX12_in rfl (Nat.le_of_ble_eq_true rfl) dX12_count_36 (fun r4 H => ?_) ⟨Nat.zero_le _, Nat.zero_le _⟩
    refine w_if_eq K 52 dX12_count_39 (by decide) H (fun _ H => ?_) (fun _ H => ?_)
    · refine r_iconst (v := 0) K dX12_count_52 (by decide) ?_
      refine r_istore_n K [(2, .int _), (0, .ref _), (1, .int _)] dX12_count_53 rfl (by decide) rfl ?_
      refine r_iconst (v := 0) K dX12_count_54 (by decide) ?_
      refine r_istore_n K [(3, .int _), (2, .int _), (0, .ref _), (1, .int _)] dX12_count_55 rfl (by decide) rfl ?_
      exact r_sub [2, 3, 1, 0] rfl (l_X12_count_56 K hl H D)
    · refine r_aload_n K 0 dX12_count_42 rfl rfl ?_
      refine w_getO K vc12 inX12 12 (by decide) mF_RX12_23 dX12_count_43 H (fun x5 H => ?_)
      refine r_iload_n K 1 dX12_count_46 rfl rfl ?_
      refine r_bipush (v := 20) K dX12_count_47 (by decide) ?_
      refine r_isub K dX12_count_49 ?_
      refine w_iald K dX12_count_50 H (fun x6 H => ?_)
      cases H
      obtain ⟨rfl, rfl⟩ := jfin2 D
      exact r_iret K dX12_count_51
  · refine r_aload_n K 0 dX12_count_16 rfl rfl ?_
    refine w_getO K vc12 inX12 11 (by decide) mF_RX12_20 dX12_count_17 H (fun x7 H => ?_)
    refine r_iload_n K 1 dX12_count_20 rfl rfl ?_
    refine r_bipush (v := 10) K dX12_count_21 (by decide) ?_
    refine r_isub K dX12_count_23 ?_
    refine w_iald K dX12_count_24 H (fun x8 H => ?_)
    cases H
    obtain ⟨rfl, rfl⟩ := jfin2 D
    exact r_iret K dX12_count_25
theorem c_X12_count (l : Launch) {n : Nat} {Y : jY} {v0 : Nat} {v1 : Int32} {μ : jM} {z : Int32 × jM} (H : f_X12_count Y v0 v1 μ = some z) : jC l yX12_count cX12_count 4 (some .int) 2 0 0 [.ref v0, .int v1] n Y μ n Y (some (.int z.1)) z.2 := by
  refine jC_of (by decide +kernel) (Nat.le_of_ble_eq_true rfl) (fun X hl K _ _ _ => ?_)
  obtain ⟨rr, μr⟩ := z
  exact t_X12_count_0 K hl H rfl
/-! RX12 shift(I)I -/
def b_X12_shift_18 (Y : jY) (μ : jM) : Option (Int32 × jM) :=
  some ((-1 : Int32), μ)
def b_X12_shift_51 (Y : jY) (μ : jM) : Option (Int32 × jM) :=
  some ((-3 : Int32), μ)
def b_X12_shift_86 (Y : jY) (v0 : Nat) (v1 : Int32) (v2 : Int32) (μ : jM) : Option ((Int32 × jM) ⊕ (Int32 × jM)) :=
  (jgI Y μ v0 12 10).bind fun x1 =>
  if ((x1 - ((1 : Int32)))) ≤ v2 then
    (jgI Y μ v0 12 10).bind fun x2 =>
    some (.inr (x2, μ))
  else
    (jgO Y μ v0 12 12).bind fun x3 =>
    (jgO Y μ v0 12 12).bind fun x4 =>
    (jaI Y μ x4 20 v2).bind fun x5 =>
    (jas Y μ x3 20 v2 (.int ((x5 + v1)))).bind fun μ6 =>
    some (.inl ((v2 + (1 : Int32)), μ6))
def b_X12_shift_56 (Y : jY) (v0 : Nat) (v1 : Int32) (v2 : Int32) (μ : jM) : Option ((Int32 × jM) ⊕ (Int32 × jM)) :=
  (jgI Y μ v0 12 10).bind fun x1 =>
  if x1 ≤ v2 then
    (jit jF (fun (s : Int32 × jM) => b_X12_shift_86 Y v0 v1 s.1 s.2) ((0 : Int32), μ)).map (fun r => (.inr r))
  else
    (jgO Y μ v0 12 11).bind fun x2 =>
    (jgO Y μ v0 12 11).bind fun x3 =>
    (jaI Y μ x3 20 v2).bind fun x4 =>
    (jas Y μ x2 20 v2 (.int ((x4 + v1)))).bind fun μ5 =>
    some (.inl ((v2 + (1 : Int32)), μ5))
def f_X12_shift (Y : jY) (v0 : Nat) (v1 : Int32) (μ : jM) : Option (Int32 × jM) :=
  (jgI Y μ v0 12 10).bind fun x1 =>
  if x1 = 0 then
    b_X12_shift_18 Y μ
  else
    (f_X12_in Y v1 ((-12 : Int32)) ((12 : Int32)) μ).bind fun r2 =>
    if r2.1 = 0 then
      b_X12_shift_18 Y r2.2
    else
      (jgO Y r2.2 v0 12 11).bind fun x3 =>
      (jaI Y r2.2 x3 20 ((0 : Int32))).bind fun x4 =>
      if ((x4 + v1)) < ((-6 : Int32)) then
        b_X12_shift_51 Y r2.2
      else
        (jgO Y r2.2 v0 12 11).bind fun x5 =>
        (jgI Y r2.2 v0 12 10).bind fun x6 =>
        (jaI Y r2.2 x5 20 ((x6 - ((1 : Int32))))).bind fun x7 =>
        if ((x7 + v1)) ≤ ((6 : Int32)) then
          jit jF (fun (s : Int32 × jM) => b_X12_shift_56 Y v0 v1 s.1 s.2) ((0 : Int32), r2.2)
        else
          b_X12_shift_51 Y r2.2
set_option maxRecDepth 10000 in
theorem t_X12_shift_18 {X : jX} {l : Launch} {n : Nat} {Y : jY} (K : jOK X RX12 cX12_shift 3 (some .int) 2) (hl : X.2.1 = l) {rr : Int32} {μr : jM} {μ : jM} {z : (Int32 × jM)} (H : b_X12_shift_18 Y μ = some z) (D : z = (rr, μr)) : JW X (jEnd X n Y (some (.int rr)) μr 0 0) 0 0 n Y 18 [] [] μ := by
  unfold b_X12_shift_18 at H
  refine r_iconst (v := -1) K dX12_shift_18 (by decide) ?_
  cases H
  obtain ⟨rfl, rfl⟩ := jfin2 D
  exact r_iret K dX12_shift_19
set_option maxRecDepth 10000 in
theorem t_X12_shift_51 {X : jX} {l : Launch} {n : Nat} {Y : jY} (K : jOK X RX12 cX12_shift 3 (some .int) 2) (hl : X.2.1 = l) {rr : Int32} {μr : jM} {μ : jM} {z : (Int32 × jM)} (H : b_X12_shift_51 Y μ = some z) (D : z = (rr, μr)) : JW X (jEnd X n Y (some (.int rr)) μr 0 0) 0 0 n Y 51 [] [] μ := by
  unfold b_X12_shift_51 at H
  refine r_bipush (v := -3) K dX12_shift_51 (by decide) ?_
  cases H
  obtain ⟨rfl, rfl⟩ := jfin2 D
  exact r_iret K dX12_shift_53
set_option maxRecDepth 10000 in
theorem t_X12_shift_86 {X : jX} {l : Launch} {n : Nat} {Y : jY} (K : jOK X RX12 cX12_shift 3 (some .int) 2) (hl : X.2.1 = l) {rr : Int32} {μr : jM} {v0 : Nat} {v1 : Int32} {v2 : Int32} {μ : jM} {z : ((Int32 × jM) ⊕ (Int32 × jM))} (H : b_X12_shift_86 Y v0 v1 v2 μ = some z) (D : Sum.elim (fun (s : Int32 × jM) => JW X (jEnd X n Y (some (.int rr)) μr 0 0) 0 0 n Y 86 [(0, .ref v0), (1, .int v1), (2, .int s.1)] [] s.2) (fun r => r = (rr, μr)) z) : JW X (jEnd X n Y (some (.int rr)) μr 0 0) 0 0 n Y 86 [(0, .ref v0), (1, .int v1), (2, .int v2)] [] μ := by
  unfold b_X12_shift_86 at H
  refine r_iload_n K 2 dX12_shift_86 rfl rfl ?_
  refine r_aload_n K 0 dX12_shift_87 rfl rfl ?_
  refine w_getI K vc12 inX12 10 (by decide) mF_RX12_145 dX12_shift_88 H (fun x1 H => ?_)
  refine r_iconst (v := 1) K dX12_shift_91 (by decide) ?_
  refine r_isub K dX12_shift_92 ?_
  refine w_icmp_ge K 116 dX12_shift_93 (by decide) H (fun _ H => ?_) (fun _ H => ?_)
  · refine r_aload_n K 0 dX12_shift_116 rfl rfl ?_
    refine w_getI K vc12 inX12 10 (by decide) mF_RX12_145 dX12_shift_117 H (fun x2 H => ?_)
    cases H
    simp only [Sum.elim_inr] at D
    obtain ⟨rfl, rfl⟩ := jfin2 D
    exact r_iret K dX12_shift_120
  · refine r_aload_n K 0 dX12_shift_96 rfl rfl ?_
    refine w_getO K vc12 inX12 12 (by decide) mF_RX12_23 dX12_shift_97 H (fun x3 H => ?_)
    refine r_iload_n K 2 dX12_shift_100 rfl rfl ?_
    refine r_aload_n K 0 dX12_shift_101 rfl rfl ?_
    refine w_getO K vc12 inX12 12 (by decide) mF_RX12_23 dX12_shift_102 H (fun x4 H => ?_)
    refine r_iload_n K 2 dX12_shift_105 rfl rfl ?_
    refine w_iald K dX12_shift_106 H (fun x5 H => ?_)
    refine r_iload_n K 1 dX12_shift_107 rfl rfl ?_
    refine r_iadd K dX12_shift_108 ?_
    refine w_iast K dX12_shift_109 H (fun μ6 H => ?_)
    refine r_iinc K 2 [(2, .int _), (0, .ref _), (1, .int _)] (v := _ + (1 : Int32)) dX12_shift_110 rfl rfl (by decide) rfl ?_
    refine r_goto K 86 dX12_shift_113 (by decide) ?_
    cases H
    exact r_sub [1, 2, 0] rfl D
set_option maxRecDepth 10000 in
theorem l_X12_shift_86 {X : jX} {l : Launch} {n : Nat} {Y : jY} (K : jOK X RX12 cX12_shift 3 (some .int) 2) (hl : X.2.1 = l) {rr : Int32} {μr : jM} {v0 : Nat} {v1 : Int32}  {s0 : Int32 × jM} {z : (Int32 × jM)} (H : jit jF (fun (s : Int32 × jM) => b_X12_shift_86 Y v0 v1 s.1 s.2) s0 = some z) (D : z = (rr, μr)) : JW X (jEnd X n Y (some (.int rr)) μr 0 0) 0 0 n Y 86 [(0, .ref v0), (1, .int v1), (2, .int s0.1)] [] s0.2 :=
  jit_ind (P := fun (s : Int32 × jM) => JW X (jEnd X n Y (some (.int rr)) μr 0 0) 0 0 n Y 86 [(0, .ref v0), (1, .int v1), (2, .int s.1)] [] s.2) (D := fun r => r = (rr, μr)) (fun s z Hs Ds => t_X12_shift_86 K hl Hs Ds) jF s0 z H D
set_option maxRecDepth 10000 in
theorem t_X12_shift_56 {X : jX} {l : Launch} {n : Nat} {Y : jY} (K : jOK X RX12 cX12_shift 3 (some .int) 2) (hl : X.2.1 = l) {rr : Int32} {μr : jM} {v0 : Nat} {v1 : Int32} {v2 : Int32} {μ : jM} {z : ((Int32 × jM) ⊕ (Int32 × jM))} (H : b_X12_shift_56 Y v0 v1 v2 μ = some z) (D : Sum.elim (fun (s : Int32 × jM) => JW X (jEnd X n Y (some (.int rr)) μr 0 0) 0 0 n Y 56 [(0, .ref v0), (1, .int v1), (2, .int s.1)] [] s.2) (fun r => r = (rr, μr)) z) : JW X (jEnd X n Y (some (.int rr)) μr 0 0) 0 0 n Y 56 [(0, .ref v0), (1, .int v1), (2, .int v2)] [] μ := by
  unfold b_X12_shift_56 at H
  refine r_iload_n K 2 dX12_shift_56 rfl rfl ?_
  refine r_aload_n K 0 dX12_shift_57 rfl rfl ?_
  refine w_getI K vc12 inX12 10 (by decide) mF_RX12_145 dX12_shift_58 H (fun x1 H => ?_)
  refine w_icmp_ge K 84 dX12_shift_61 (by decide) H (fun _ H => ?_) (fun _ H => ?_)
  · refine r_iconst (v := 0) K dX12_shift_84 (by decide) ?_
    refine r_istore_n K [(2, .int _), (0, .ref _), (1, .int _)] dX12_shift_85 rfl (by decide) rfl ?_
    obtain ⟨z2, H2, rfl⟩ := jmap H
    exact r_sub [1, 2, 0] rfl (l_X12_shift_86 K hl H2 D)
  · refine r_aload_n K 0 dX12_shift_64 rfl rfl ?_
    refine w_getO K vc12 inX12 11 (by decide) mF_RX12_20 dX12_shift_65 H (fun x2 H => ?_)
    refine r_iload_n K 2 dX12_shift_68 rfl rfl ?_
    refine r_aload_n K 0 dX12_shift_69 rfl rfl ?_
    refine w_getO K vc12 inX12 11 (by decide) mF_RX12_20 dX12_shift_70 H (fun x3 H => ?_)
    refine r_iload_n K 2 dX12_shift_73 rfl rfl ?_
    refine w_iald K dX12_shift_74 H (fun x4 H => ?_)
    refine r_iload_n K 1 dX12_shift_75 rfl rfl ?_
    refine r_iadd K dX12_shift_76 ?_
    refine w_iast K dX12_shift_77 H (fun μ5 H => ?_)
    refine r_iinc K 2 [(2, .int _), (0, .ref _), (1, .int _)] (v := _ + (1 : Int32)) dX12_shift_78 rfl rfl (by decide) rfl ?_
    refine r_goto K 56 dX12_shift_81 (by decide) ?_
    cases H
    exact r_sub [1, 2, 0] rfl D
set_option maxRecDepth 10000 in
theorem l_X12_shift_56 {X : jX} {l : Launch} {n : Nat} {Y : jY} (K : jOK X RX12 cX12_shift 3 (some .int) 2) (hl : X.2.1 = l) {rr : Int32} {μr : jM} {v0 : Nat} {v1 : Int32}  {s0 : Int32 × jM} {z : (Int32 × jM)} (H : jit jF (fun (s : Int32 × jM) => b_X12_shift_56 Y v0 v1 s.1 s.2) s0 = some z) (D : z = (rr, μr)) : JW X (jEnd X n Y (some (.int rr)) μr 0 0) 0 0 n Y 56 [(0, .ref v0), (1, .int v1), (2, .int s0.1)] [] s0.2 :=
  jit_ind (P := fun (s : Int32 × jM) => JW X (jEnd X n Y (some (.int rr)) μr 0 0) 0 0 n Y 56 [(0, .ref v0), (1, .int v1), (2, .int s.1)] [] s.2) (D := fun r => r = (rr, μr)) (fun s z Hs Ds => t_X12_shift_56 K hl Hs Ds) jF s0 z H D
set_option maxRecDepth 10000 in
theorem t_X12_shift_0 {X : jX} {l : Launch} {n : Nat} {Y : jY} (K : jOK X RX12 cX12_shift 3 (some .int) 2) (hl : X.2.1 = l) {rr : Int32} {μr : jM} {v0 : Nat} {v1 : Int32} {μ : jM} {z : (Int32 × jM)} (H : f_X12_shift Y v0 v1 μ = some z) (D : z = (rr, μr)) : JW X (jEnd X n Y (some (.int rr)) μr 0 0) 0 0 n Y 0 [(0, .ref v0), (1, .int v1)] [] μ := by
  unfold f_X12_shift at H
  refine r_aload_n K 0 dX12_shift_0 rfl rfl ?_
  refine w_getI K vc12 inX12 10 (by decide) mF_RX12_145 dX12_shift_1 H (fun x1 H => ?_)
  refine w_if_eq K 18 dX12_shift_4 (by decide) H (fun _ H => ?_) (fun _ H => ?_)
  · exact r_sub [] rfl (t_X12_shift_18 K hl H D)
  · refine r_iload_n K 1 dX12_shift_7 rfl rfl ?_
    refine r_bipush (v := -12) K dX12_shift_8 (by decide) ?_
    refine r_bipush (v := 12) K dX12_shift_10 (by decide) ?_
    refine w_callS K hl H (fun r h => c_X12_in l h) mC_yX12_in mM_RX12_134 mT_yX12_in mZ_RX12 (Nat.le_of_ble_eq_true rfl) (Nat.le_of_ble_eq_true rfl) np_yX12_in rfl (Nat.le_of_ble_eq_true rfl) dX12_shift_12 (fun r2 H => ?_) ⟨Nat.zero_le _, Nat.zero_le _⟩
    refine w_if_ne K 20 dX12_shift_15 (by decide) H (fun _ H => ?_) (fun _ H => ?_)
    · refine r_aload_n K 0 dX12_shift_20 rfl rfl ?_
      refine w_getO K vc12 inX12 11 (by decide) mF_RX12_20 dX12_shift_21 H (fun x3 H => ?_)
      refine r_iconst (v := 0) K dX12_shift_24 (by decide) ?_
      refine w_iald K dX12_shift_25 H (fun x4 H => ?_)
      refine r_iload_n K 1 dX12_shift_26 rfl rfl ?_
      refine r_iadd K dX12_shift_27 ?_
      refine r_bipush (v := -6) K dX12_shift_28 (by decide) ?_
      refine w_icmp_lt K 51 dX12_shift_30 (by decide) H (fun _ H => ?_) (fun _ H => ?_)
      · exact r_sub [] rfl (t_X12_shift_51 K hl H D)
      · refine r_aload_n K 0 dX12_shift_33 rfl rfl ?_
        refine w_getO K vc12 inX12 11 (by decide) mF_RX12_20 dX12_shift_34 H (fun x5 H => ?_)
        refine r_aload_n K 0 dX12_shift_37 rfl rfl ?_
        refine w_getI K vc12 inX12 10 (by decide) mF_RX12_145 dX12_shift_38 H (fun x6 H => ?_)
        refine r_iconst (v := 1) K dX12_shift_41 (by decide) ?_
        refine r_isub K dX12_shift_42 ?_
        refine w_iald K dX12_shift_43 H (fun x7 H => ?_)
        refine r_iload_n K 1 dX12_shift_44 rfl rfl ?_
        refine r_iadd K dX12_shift_45 ?_
        refine r_bipush (v := 6) K dX12_shift_46 (by decide) ?_
        refine w_icmp_le K 54 dX12_shift_48 (by decide) H (fun _ H => ?_) (fun _ H => ?_)
        · refine r_iconst (v := 0) K dX12_shift_54 (by decide) ?_
          refine r_istore_n K [(2, .int _), (0, .ref _), (1, .int _)] dX12_shift_55 rfl (by decide) rfl ?_
          exact r_sub [1, 2, 0] rfl (l_X12_shift_56 K hl H D)
        · exact r_sub [] rfl (t_X12_shift_51 K hl H D)
    · exact r_sub [] rfl (t_X12_shift_18 K hl H D)
theorem c_X12_shift (l : Launch) {n : Nat} {Y : jY} {v0 : Nat} {v1 : Int32} {μ : jM} {z : Int32 × jM} (H : f_X12_shift Y v0 v1 μ = some z) : jC l yX12_shift cX12_shift 3 (some .int) 2 0 0 [.ref v0, .int v1] n Y μ n Y (some (.int z.1)) z.2 := by
  refine jC_of (by decide +kernel) (Nat.le_of_ble_eq_true rfl) (fun X hl K _ _ _ => ?_)
  obtain ⟨rr, μr⟩ := z
  exact t_X12_shift_0 K hl H rfl
/-! RX12 census(II)I -/
def b_X12_census_20 (Y : jY) (μ : jM) : Option (Int32 × jM) :=
  some ((-1 : Int32), μ)
def b_X12_census_152 (Y : jY) (v1 : Int32) (v2 : Int32) (v3 : Int32) (v4 : Int32) (μ : jM) : Option ((Int32 × Int32 × jM) ⊕ (Int32 × jM)) :=
  some (.inl (v3, (v4 + (1 : Int32)), μ))
def b_X12_census_144 (Y : jY) (v1 : Int32) (v2 : Int32) (v4 : Int32) (v5 : Int32) (v6 : Int32) (t0 : Int32) (t1 : Int32) (μ : jM) : Option ((Int32 × Int32 × jM) ⊕ ((Int32 × Int32 × jM) ⊕ (Int32 × jM))) :=
  some (.inl ((t0 + t1), (v6 + (1 : Int32)), μ))
def b_X12_census_131 (Y : jY) (v1 : Int32) (v2 : Int32) (v3 : Int32) (v4 : Int32) (v5 : Int32) (v6 : Int32) (t0 : Int32) (μ : jM) : Option ((Int32 × Int32 × jM) ⊕ ((Int32 × Int32 × jM) ⊕ (Int32 × jM))) :=
  if t0 = 0 then
    b_X12_census_144 Y v1 v2 v4 v5 v6 v3 (0 : Int32) μ
  else
    b_X12_census_144 Y v1 v2 v4 v5 v6 v3 (1 : Int32) μ
def b_X12_census_117 (Y : jY) (v1 : Int32) (v2 : Int32) (v3 : Int32) (v4 : Int32) (v5 : Int32) (v6 : Int32) (μ : jM) : Option ((Int32 × Int32 × jM) ⊕ ((Int32 × Int32 × jM) ⊕ (Int32 × jM))) :=
  b_X12_census_131 Y v1 v2 v3 v4 v5 v6 (0 : Int32) μ
def b_X12_census_44 (Y : jY) (v1 : Int32) (v2 : Int32) (v3 : Int32) (v4 : Int32) (v5 : Int32) (v6 : Int32) (μ : jM) : Option ((Int32 × Int32 × jM) ⊕ ((Int32 × Int32 × jM) ⊕ (Int32 × jM))) :=
  if ((36 : Int32)) < v6 then
    (b_X12_census_152 Y v1 v2 v3 v4 μ).map (fun r => (.inr r))
  else
    (f_X12_in Y v5 ((-6 : Int32)) ((6 : Int32)) μ).bind fun r1 =>
    if r1.1 = 0 then
      (b_X12_census_152 Y v1 v2 v3 v4 r1.2).map (fun r => (.inr r))
    else
      if v2 = 0 then
        (f_X12_isSquare Y ((((((v4 - v5)) * ((v4 - v5)))) + ((((4 : Int32)) * v6)))) r1.2).bind fun r2 =>
        b_X12_census_131 Y v1 v2 v3 v4 v5 v6 r2.1 r2.2
      else
        if v2 = ((1 : Int32)) then
          if v1 < 0 then
            b_X12_census_117 Y v1 v2 v3 v4 v5 v6 r1.2
          else
            if ((((v4 * v5)) - v6)) < 0 then
              b_X12_census_117 Y v1 v2 v3 v4 v5 v6 r1.2
            else
              b_X12_census_131 Y v1 v2 v3 v4 v5 v6 (1 : Int32) r1.2
        else
          if ((((v4 * v5)) - v6)) = 0 then
            b_X12_census_131 Y v1 v2 v3 v4 v5 v6 (1 : Int32) r1.2
          else
            b_X12_census_131 Y v1 v2 v3 v4 v5 v6 (0 : Int32) r1.2
def b_X12_census_28 (Y : jY) (v1 : Int32) (v2 : Int32) (v3 : Int32) (v4 : Int32) (μ : jM) : Option ((Int32 × Int32 × jM) ⊕ (Int32 × jM)) :=
  if ((6 : Int32)) < v4 then
    some (.inr (v3, μ))
  else
    jit jF (fun (s : Int32 × Int32 × jM) => b_X12_census_44 Y v1 v2 s.1 v4 (v1 - v4) s.2.1 s.2.2) (v3, (1 : Int32), μ)
def f_X12_census (Y : jY) (v0 : Nat) (v1 : Int32) (v2 : Int32) (μ : jM) : Option (Int32 × jM) :=
  (f_X12_in Y v1 ((-12 : Int32)) ((12 : Int32)) μ).bind fun r1 =>
  if r1.1 = 0 then
    b_X12_census_20 Y r1.2
  else
    (f_X12_in Y v2 ((0 : Int32)) ((2 : Int32)) r1.2).bind fun r2 =>
    if r2.1 = 0 then
      b_X12_census_20 Y r2.2
    else
      jit jF (fun (s : Int32 × Int32 × jM) => b_X12_census_28 Y v1 v2 s.1 s.2.1 s.2.2) ((0 : Int32), (-6 : Int32), r2.2)
set_option maxRecDepth 10000 in
theorem t_X12_census_20 {X : jX} {l : Launch} {n : Nat} {Y : jY} (K : jOK X RX12 cX12_census 9 (some .int) 2) (hl : X.2.1 = l) {rr : Int32} {μr : jM} {μ : jM} {z : (Int32 × jM)} (H : b_X12_census_20 Y μ = some z) (D : z = (rr, μr)) : JW X (jEnd X n Y (some (.int rr)) μr 0 0) 0 0 n Y 20 [] [] μ := by
  unfold b_X12_census_20 at H
  refine r_iconst (v := -1) K dX12_census_20 (by decide) ?_
  cases H
  obtain ⟨rfl, rfl⟩ := jfin2 D
  exact r_iret K dX12_census_21
set_option maxRecDepth 10000 in
theorem t_X12_census_152 {X : jX} {l : Launch} {n : Nat} {Y : jY} (K : jOK X RX12 cX12_census 9 (some .int) 2) (hl : X.2.1 = l) {rr : Int32} {μr : jM} {v1 : Int32} {v2 : Int32} {v3 : Int32} {v4 : Int32} {μ : jM} {z : ((Int32 × Int32 × jM) ⊕ (Int32 × jM))} (H : b_X12_census_152 Y v1 v2 v3 v4 μ = some z) (D : Sum.elim (fun (s : Int32 × Int32 × jM) => JW X (jEnd X n Y (some (.int rr)) μr 0 0) 0 0 n Y 28 [(1, .int v1), (2, .int v2), (3, .int s.1), (4, .int s.2.1)] [] s.2.2) (fun r => r = (rr, μr)) z) : JW X (jEnd X n Y (some (.int rr)) μr 0 0) 0 0 n Y 152 [(1, .int v1), (2, .int v2), (3, .int v3), (4, .int v4)] [] μ := by
  unfold b_X12_census_152 at H
  refine r_iinc K 3 [(4, .int _), (1, .int _), (2, .int _), (3, .int _)] (v := _ + (1 : Int32)) dX12_census_152 rfl rfl (by decide) rfl ?_
  refine r_goto K 28 dX12_census_155 (by decide) ?_
  cases H
  exact r_sub [1, 2, 3, 0] rfl D
set_option maxRecDepth 10000 in
theorem t_X12_census_144 {X : jX} {l : Launch} {n : Nat} {Y : jY} (K : jOK X RX12 cX12_census 9 (some .int) 2) (hl : X.2.1 = l) {rr : Int32} {μr : jM} {v1 : Int32} {v2 : Int32} {v4 : Int32} {v5 : Int32} {v6 : Int32} {t0 : Int32} {t1 : Int32} {μ : jM} {z : ((Int32 × Int32 × jM) ⊕ ((Int32 × Int32 × jM) ⊕ (Int32 × jM)))} (H : b_X12_census_144 Y v1 v2 v4 v5 v6 t0 t1 μ = some z) (D : Sum.elim (fun (s : Int32 × Int32 × jM) => JW X (jEnd X n Y (some (.int rr)) μr 0 0) 0 0 n Y 44 [(1, .int v1), (2, .int v2), (3, .int s.1), (4, .int v4), (5, .int v5), (6, .int s.2.1)] [] s.2.2) (Sum.elim (fun (s : Int32 × Int32 × jM) => JW X (jEnd X n Y (some (.int rr)) μr 0 0) 0 0 n Y 28 [(1, .int v1), (2, .int v2), (3, .int s.1), (4, .int s.2.1)] [] s.2.2) (fun r => r = (rr, μr))) z) : JW X (jEnd X n Y (some (.int rr)) μr 0 0) 0 0 n Y 144 [(1, .int v1), (2, .int v2), (4, .int v4), (5, .int v5), (6, .int v6)] [.int t1, .int t0] μ := by
  unfold b_X12_census_144 at H
  refine r_iadd K dX12_census_144 ?_
  refine r_istore_n K [(3, .int _), (1, .int _), (2, .int _), (4, .int _), (5, .int _), (6, .int _)] dX12_census_145 rfl (by decide) rfl ?_
  refine r_iinc K 5 [(6, .int _), (3, .int _), (1, .int _), (2, .int _), (4, .int _), (5, .int _)] (v := _ + (1 : Int32)) dX12_census_146 rfl rfl (by decide) rfl ?_
  refine r_goto K 44 dX12_census_149 (by decide) ?_
  cases H
  exact r_sub [2, 3, 1, 4, 5, 0] rfl D
set_option maxRecDepth 10000 in
theorem t_X12_census_131 {X : jX} {l : Launch} {n : Nat} {Y : jY} (K : jOK X RX12 cX12_census 9 (some .int) 2) (hl : X.2.1 = l) {rr : Int32} {μr : jM} {v1 : Int32} {v2 : Int32} {v3 : Int32} {v4 : Int32} {v5 : Int32} {v6 : Int32} {t0 : Int32} {μ : jM} {z : ((Int32 × Int32 × jM) ⊕ ((Int32 × Int32 × jM) ⊕ (Int32 × jM)))} (H : b_X12_census_131 Y v1 v2 v3 v4 v5 v6 t0 μ = some z) (D : Sum.elim (fun (s : Int32 × Int32 × jM) => JW X (jEnd X n Y (some (.int rr)) μr 0 0) 0 0 n Y 44 [(1, .int v1), (2, .int v2), (3, .int s.1), (4, .int v4), (5, .int v5), (6, .int s.2.1)] [] s.2.2) (Sum.elim (fun (s : Int32 × Int32 × jM) => JW X (jEnd X n Y (some (.int rr)) μr 0 0) 0 0 n Y 28 [(1, .int v1), (2, .int v2), (3, .int s.1), (4, .int s.2.1)] [] s.2.2) (fun r => r = (rr, μr))) z) : JW X (jEnd X n Y (some (.int rr)) μr 0 0) 0 0 n Y 131 [(1, .int v1), (2, .int v2), (3, .int v3), (4, .int v4), (5, .int v5), (6, .int v6)] [.int t0] μ := by
  unfold b_X12_census_131 at H
  refine r_istore K [(8, .int _), (1, .int _), (2, .int _), (3, .int _), (4, .int _), (5, .int _), (6, .int _)] dX12_census_131 (by decide) rfl ?_
  refine r_iload_n K 3 dX12_census_133 rfl rfl ?_
  refine r_iload K 0 dX12_census_134 rfl ?_
  refine w_if_eq K 143 dX12_census_136 (by decide) H (fun _ H => ?_) (fun _ H => ?_)
  · refine r_iconst (v := 0) K dX12_census_143 (by decide) ?_
    exact r_sub [1, 2, 4, 5, 6] rfl (t_X12_census_144 K hl H D)
  · refine r_iconst (v := 1) K dX12_census_139 (by decide) ?_
    refine r_goto K 144 dX12_census_140 (by decide) ?_
    exact r_sub [1, 2, 4, 5, 6] rfl (t_X12_census_144 K hl H D)
set_option maxRecDepth 10000 in
theorem t_X12_census_117 {X : jX} {l : Launch} {n : Nat} {Y : jY} (K : jOK X RX12 cX12_census 9 (some .int) 2) (hl : X.2.1 = l) {rr : Int32} {μr : jM} {v1 : Int32} {v2 : Int32} {v3 : Int32} {v4 : Int32} {v5 : Int32} {v6 : Int32} {μ : jM} {z : ((Int32 × Int32 × jM) ⊕ ((Int32 × Int32 × jM) ⊕ (Int32 × jM)))} (H : b_X12_census_117 Y v1 v2 v3 v4 v5 v6 μ = some z) (D : Sum.elim (fun (s : Int32 × Int32 × jM) => JW X (jEnd X n Y (some (.int rr)) μr 0 0) 0 0 n Y 44 [(1, .int v1), (2, .int v2), (3, .int s.1), (4, .int v4), (5, .int v5), (6, .int s.2.1)] [] s.2.2) (Sum.elim (fun (s : Int32 × Int32 × jM) => JW X (jEnd X n Y (some (.int rr)) μr 0 0) 0 0 n Y 28 [(1, .int v1), (2, .int v2), (3, .int s.1), (4, .int s.2.1)] [] s.2.2) (fun r => r = (rr, μr))) z) : JW X (jEnd X n Y (some (.int rr)) μr 0 0) 0 0 n Y 117 [(1, .int v1), (2, .int v2), (3, .int v3), (4, .int v4), (5, .int v5), (6, .int v6)] [] μ := by
  unfold b_X12_census_117 at H
  refine r_iconst (v := 0) K dX12_census_117 (by decide) ?_
  refine r_goto K 131 dX12_census_118 (by decide) ?_
  exact r_sub [0, 1, 2, 3, 4, 5] rfl (t_X12_census_131 K hl H D)
set_option maxRecDepth 10000 in
theorem t_X12_census_44 {X : jX} {l : Launch} {n : Nat} {Y : jY} (K : jOK X RX12 cX12_census 9 (some .int) 2) (hl : X.2.1 = l) {rr : Int32} {μr : jM} {v1 : Int32} {v2 : Int32} {v3 : Int32} {v4 : Int32} {v5 : Int32} {v6 : Int32} {μ : jM} {z : ((Int32 × Int32 × jM) ⊕ ((Int32 × Int32 × jM) ⊕ (Int32 × jM)))} (H : b_X12_census_44 Y v1 v2 v3 v4 v5 v6 μ = some z) (D : Sum.elim (fun (s : Int32 × Int32 × jM) => JW X (jEnd X n Y (some (.int rr)) μr 0 0) 0 0 n Y 44 [(1, .int v1), (2, .int v2), (3, .int s.1), (4, .int v4), (5, .int v5), (6, .int s.2.1)] [] s.2.2) (Sum.elim (fun (s : Int32 × Int32 × jM) => JW X (jEnd X n Y (some (.int rr)) μr 0 0) 0 0 n Y 28 [(1, .int v1), (2, .int v2), (3, .int s.1), (4, .int s.2.1)] [] s.2.2) (fun r => r = (rr, μr))) z) : JW X (jEnd X n Y (some (.int rr)) μr 0 0) 0 0 n Y 44 [(1, .int v1), (2, .int v2), (3, .int v3), (4, .int v4), (5, .int v5), (6, .int v6)] [] μ := by
  unfold b_X12_census_44 at H
  refine r_iload K 5 dX12_census_44 rfl ?_
  refine r_bipush (v := 36) K dX12_census_46 (by decide) ?_
  refine w_icmp_gt K 152 dX12_census_48 (by decide) H (fun _ H => ?_) (fun _ H => ?_)
  · obtain ⟨z2, H2, rfl⟩ := jmap H
    exact r_sub [0, 1, 2, 3] rfl (t_X12_census_152 K hl H2 D)
  · refine r_iload K 4 dX12_census_51 rfl ?_
    refine r_bipush (v := -6) K dX12_census_53 (by decide) ?_
    refine r_bipush (v := 6) K dX12_census_55 (by decide) ?_
    refine w_callS K hl H (fun r h => c_X12_in l h) mC_yX12_in mM_RX12_134 mT_yX12_in mZ_RX12 (Nat.le_of_ble_eq_true rfl) (Nat.le_of_ble_eq_true rfl) np_yX12_in rfl (Nat.le_of_ble_eq_true rfl) dX12_census_57 (fun r1 H => ?_) ⟨Nat.zero_le _, Nat.zero_le _⟩
    refine w_if_eq K 152 dX12_census_60 (by decide) H (fun _ H => ?_) (fun _ H => ?_)
    · obtain ⟨z2, H2, rfl⟩ := jmap H
      exact r_sub [0, 1, 2, 3] rfl (t_X12_census_152 K hl H2 D)
    · refine r_iload K 3 dX12_census_63 rfl ?_
      refine r_iload K 4 dX12_census_65 rfl ?_
      refine r_imul K dX12_census_67 ?_
      refine r_iload K 5 dX12_census_68 rfl ?_
      refine r_isub K dX12_census_70 ?_
      refine r_istore K [(7, .int _), (1, .int _), (2, .int _), (3, .int _), (4, .int _), (5, .int _), (6, .int _)] dX12_census_71 (by decide) rfl ?_
      refine r_iload_n K 2 dX12_census_73 rfl rfl ?_
      refine w_if_ne K 99 dX12_census_74 (by decide) H (fun _ H => ?_) (fun _ H => ?_)
      · refine r_iload_n K 2 dX12_census_99 rfl rfl ?_
        refine r_iconst (v := 1) K dX12_census_100 (by decide) ?_
        refine w_icmp_ne K 121 dX12_census_101 (by decide) H (fun _ H => ?_) (fun _ H => ?_)
        · refine r_iload K 0 dX12_census_121 rfl ?_
          refine w_if_ne K 130 dX12_census_123 (by decide) H (fun _ H => ?_) (fun _ H => ?_)
          · refine r_iconst (v := 0) K dX12_census_130 (by decide) ?_
            exact r_sub [1, 2, 3, 4, 5, 6] rfl (t_X12_census_131 K hl H D)
          · refine r_iconst (v := 1) K dX12_census_126 (by decide) ?_
            refine r_goto K 131 dX12_census_127 (by decide) ?_
            exact r_sub [1, 2, 3, 4, 5, 6] rfl (t_X12_census_131 K hl H D)
        · refine r_iload_n K 1 dX12_census_104 rfl rfl ?_
          refine w_if_lt K 117 dX12_census_105 (by decide) H (fun _ H => ?_) (fun _ H => ?_)
          · exact r_sub [1, 2, 3, 4, 5, 6] rfl (t_X12_census_117 K hl H D)
          · refine r_iload K 0 dX12_census_108 rfl ?_
            refine w_if_lt K 117 dX12_census_110 (by decide) H (fun _ H => ?_) (fun _ H => ?_)
            · exact r_sub [1, 2, 3, 4, 5, 6] rfl (t_X12_census_117 K hl H D)
            · refine r_iconst (v := 1) K dX12_census_113 (by decide) ?_
              refine r_goto K 131 dX12_census_114 (by decide) ?_
              exact r_sub [1, 2, 3, 4, 5, 6] rfl (t_X12_census_131 K hl H D)
      · refine r_iload K 4 dX12_census_77 rfl ?_
        refine r_iload K 5 dX12_census_79 rfl ?_
        refine r_isub K dX12_census_81 ?_
        refine r_iload K 4 dX12_census_82 rfl ?_
        refine r_iload K 5 dX12_census_84 rfl ?_
        refine r_isub K dX12_census_86 ?_
        refine r_imul K dX12_census_87 ?_
        refine r_iconst (v := 4) K dX12_census_88 (by decide) ?_
        refine r_iload K 6 dX12_census_89 rfl ?_
        refine r_imul K dX12_census_91 ?_
        refine r_iadd K dX12_census_92 ?_
        refine w_callS K hl H (fun r h => c_X12_isSquare l h) mC_yX12_isSquare mM_RX12_320 mT_yX12_isSquare mZ_RX12 (Nat.le_of_ble_eq_true rfl) (Nat.le_of_ble_eq_true rfl) np_yX12_isSquare rfl (Nat.le_of_ble_eq_true rfl) dX12_census_93 (fun r2 H => ?_) ⟨Nat.zero_le _, Nat.zero_le _⟩
        refine r_goto K 131 dX12_census_96 (by decide) ?_
        exact r_sub [1, 2, 3, 4, 5, 6] rfl (t_X12_census_131 K hl H D)
set_option maxRecDepth 10000 in
theorem l_X12_census_44 {X : jX} {l : Launch} {n : Nat} {Y : jY} (K : jOK X RX12 cX12_census 9 (some .int) 2) (hl : X.2.1 = l) {rr : Int32} {μr : jM} {v1 : Int32} {v2 : Int32} {v4 : Int32} {v5 : Int32}  {s0 : Int32 × Int32 × jM} {z : ((Int32 × Int32 × jM) ⊕ (Int32 × jM))} (H : jit jF (fun (s : Int32 × Int32 × jM) => b_X12_census_44 Y v1 v2 s.1 v4 v5 s.2.1 s.2.2) s0 = some z) (D : Sum.elim (fun (s : Int32 × Int32 × jM) => JW X (jEnd X n Y (some (.int rr)) μr 0 0) 0 0 n Y 28 [(1, .int v1), (2, .int v2), (3, .int s.1), (4, .int s.2.1)] [] s.2.2) (fun r => r = (rr, μr)) z) : JW X (jEnd X n Y (some (.int rr)) μr 0 0) 0 0 n Y 44 [(1, .int v1), (2, .int v2), (3, .int s0.1), (4, .int v4), (5, .int v5), (6, .int s0.2.1)] [] s0.2.2 :=
  jit_ind (P := fun (s : Int32 × Int32 × jM) => JW X (jEnd X n Y (some (.int rr)) μr 0 0) 0 0 n Y 44 [(1, .int v1), (2, .int v2), (3, .int s.1), (4, .int v4), (5, .int v5), (6, .int s.2.1)] [] s.2.2) (D := Sum.elim (fun (s : Int32 × Int32 × jM) => JW X (jEnd X n Y (some (.int rr)) μr 0 0) 0 0 n Y 28 [(1, .int v1), (2, .int v2), (3, .int s.1), (4, .int s.2.1)] [] s.2.2) (fun r => r = (rr, μr))) (fun s z Hs Ds => t_X12_census_44 K hl Hs Ds) jF s0 z H D
set_option maxRecDepth 10000 in
theorem t_X12_census_28 {X : jX} {l : Launch} {n : Nat} {Y : jY} (K : jOK X RX12 cX12_census 9 (some .int) 2) (hl : X.2.1 = l) {rr : Int32} {μr : jM} {v1 : Int32} {v2 : Int32} {v3 : Int32} {v4 : Int32} {μ : jM} {z : ((Int32 × Int32 × jM) ⊕ (Int32 × jM))} (H : b_X12_census_28 Y v1 v2 v3 v4 μ = some z) (D : Sum.elim (fun (s : Int32 × Int32 × jM) => JW X (jEnd X n Y (some (.int rr)) μr 0 0) 0 0 n Y 28 [(1, .int v1), (2, .int v2), (3, .int s.1), (4, .int s.2.1)] [] s.2.2) (fun r => r = (rr, μr)) z) : JW X (jEnd X n Y (some (.int rr)) μr 0 0) 0 0 n Y 28 [(1, .int v1), (2, .int v2), (3, .int v3), (4, .int v4)] [] μ := by
  unfold b_X12_census_28 at H
  refine r_iload K 3 dX12_census_28 rfl ?_
  refine r_bipush (v := 6) K dX12_census_30 (by decide) ?_
  refine w_icmp_gt K 158 dX12_census_32 (by decide) H (fun _ H => ?_) (fun _ H => ?_)
  · refine r_iload_n K 2 dX12_census_158 rfl rfl ?_
    cases H
    simp only [Sum.elim_inr] at D
    obtain ⟨rfl, rfl⟩ := jfin2 D
    exact r_iret K dX12_census_159
  · refine r_iload_n K 0 dX12_census_35 rfl rfl ?_
    refine r_iload K 3 dX12_census_36 rfl ?_
    refine r_isub K dX12_census_38 ?_
    refine r_istore K [(5, .int _), (1, .int _), (2, .int _), (3, .int _), (4, .int _)] dX12_census_39 (by decide) rfl ?_
    refine r_iconst (v := 1) K dX12_census_41 (by decide) ?_
    refine r_istore K [(6, .int _), (5, .int _), (1, .int _), (2, .int _), (3, .int _), (4, .int _)] dX12_census_42 (by decide) rfl ?_
    exact r_sub [2, 3, 4, 5, 1, 0] rfl (l_X12_census_44 K hl H D)
set_option maxRecDepth 10000 in
theorem l_X12_census_28 {X : jX} {l : Launch} {n : Nat} {Y : jY} (K : jOK X RX12 cX12_census 9 (some .int) 2) (hl : X.2.1 = l) {rr : Int32} {μr : jM} {v1 : Int32} {v2 : Int32}  {s0 : Int32 × Int32 × jM} {z : (Int32 × jM)} (H : jit jF (fun (s : Int32 × Int32 × jM) => b_X12_census_28 Y v1 v2 s.1 s.2.1 s.2.2) s0 = some z) (D : z = (rr, μr)) : JW X (jEnd X n Y (some (.int rr)) μr 0 0) 0 0 n Y 28 [(1, .int v1), (2, .int v2), (3, .int s0.1), (4, .int s0.2.1)] [] s0.2.2 :=
  jit_ind (P := fun (s : Int32 × Int32 × jM) => JW X (jEnd X n Y (some (.int rr)) μr 0 0) 0 0 n Y 28 [(1, .int v1), (2, .int v2), (3, .int s.1), (4, .int s.2.1)] [] s.2.2) (D := fun r => r = (rr, μr)) (fun s z Hs Ds => t_X12_census_28 K hl Hs Ds) jF s0 z H D
set_option maxRecDepth 10000 in
theorem t_X12_census_0 {X : jX} {l : Launch} {n : Nat} {Y : jY} (K : jOK X RX12 cX12_census 9 (some .int) 2) (hl : X.2.1 = l) {rr : Int32} {μr : jM} {v0 : Nat} {v1 : Int32} {v2 : Int32} {μ : jM} {z : (Int32 × jM)} (H : f_X12_census Y v0 v1 v2 μ = some z) (D : z = (rr, μr)) : JW X (jEnd X n Y (some (.int rr)) μr 0 0) 0 0 n Y 0 [(0, .ref v0), (1, .int v1), (2, .int v2)] [] μ := by
  unfold f_X12_census at H
  refine r_iload_n K 1 dX12_census_0 rfl rfl ?_
  refine r_bipush (v := -12) K dX12_census_1 (by decide) ?_
  refine r_bipush (v := 12) K dX12_census_3 (by decide) ?_
  refine w_callS K hl H (fun r h => c_X12_in l h) mC_yX12_in mM_RX12_134 mT_yX12_in mZ_RX12 (Nat.le_of_ble_eq_true rfl) (Nat.le_of_ble_eq_true rfl) np_yX12_in rfl (Nat.le_of_ble_eq_true rfl) dX12_census_5 (fun r1 H => ?_) ⟨Nat.zero_le _, Nat.zero_le _⟩
  refine w_if_eq K 20 dX12_census_8 (by decide) H (fun _ H => ?_) (fun _ H => ?_)
  · exact r_sub [] rfl (t_X12_census_20 K hl H D)
  · refine r_iload_n K 2 dX12_census_11 rfl rfl ?_
    refine r_iconst (v := 0) K dX12_census_12 (by decide) ?_
    refine r_iconst (v := 2) K dX12_census_13 (by decide) ?_
    refine w_callS K hl H (fun r h => c_X12_in l h) mC_yX12_in mM_RX12_134 mT_yX12_in mZ_RX12 (Nat.le_of_ble_eq_true rfl) (Nat.le_of_ble_eq_true rfl) np_yX12_in rfl (Nat.le_of_ble_eq_true rfl) dX12_census_14 (fun r2 H => ?_) ⟨Nat.zero_le _, Nat.zero_le _⟩
    refine w_if_ne K 22 dX12_census_17 (by decide) H (fun _ H => ?_) (fun _ H => ?_)
    · refine r_iconst (v := 0) K dX12_census_22 (by decide) ?_
      refine r_istore_n K [(3, .int _), (0, .ref _), (1, .int _), (2, .int _)] dX12_census_23 rfl (by decide) rfl ?_
      refine r_bipush (v := -6) K dX12_census_24 (by decide) ?_
      refine r_istore K [(4, .int _), (3, .int _), (0, .ref _), (1, .int _), (2, .int _)] dX12_census_26 (by decide) rfl ?_
      exact r_sub [3, 4, 1, 0] rfl (l_X12_census_28 K hl H D)
    · exact r_sub [] rfl (t_X12_census_20 K hl H D)
theorem c_X12_census (l : Launch) {n : Nat} {Y : jY} {v0 : Nat} {v1 : Int32} {v2 : Int32} {μ : jM} {z : Int32 × jM} (H : f_X12_census Y v0 v1 v2 μ = some z) : jC l yX12_census cX12_census 9 (some .int) 2 0 0 [.ref v0, .int v1, .int v2] n Y μ n Y (some (.int z.1)) z.2 := by
  refine jC_of (by decide +kernel) (Nat.le_of_ble_eq_true rfl) (fun X hl K _ _ _ => ?_)
  obtain ⟨rr, μr⟩ := z
  exact t_X12_census_0 K hl H rfl
/-! RX12 tune(ZII)I -/
def b_X12_tune_45 (Y : jY) (μ : jM) : Option (Int32 × jM) :=
  some ((-1 : Int32), μ)
def b_X12_tune_122 (Y : jY) (μ : jM) : Option (Int32 × jM) :=
  some ((-3 : Int32), μ)
def b_X12_tune_132 (Y : jY) (v0 : Nat) (μ : jM) : Option (Int32 × jM) :=
  (jgI Y μ v0 12 10).bind fun x1 =>
  some (x1, μ)
def b_X12_tune_90 (Y : jY) (v0 : Nat) (v2 : Int32) (v3 : Int32) (μ : jM) : Option (Int32 × jM) :=
  (jgO Y μ v0 12 11).bind fun x1 =>
  (jas Y μ x1 20 v2 (.int v3)).bind fun μ2 =>
  b_X12_tune_132 Y v0 μ2
def b_X12_tune_87 (Y : jY) (μ : jM) : Option (Int32 × jM) :=
  some ((-3 : Int32), μ)
def b_X12_tune_67 (Y : jY) (v0 : Nat) (v2 : Int32) (v3 : Int32) (μ : jM) : Option (Int32 × jM) :=
  (jgI Y μ v0 12 10).bind fun x1 =>
  if ((x1 - ((1 : Int32)))) ≤ v2 then
    b_X12_tune_90 Y v0 v2 v3 μ
  else
    (jgO Y μ v0 12 12).bind fun x2 =>
    (jaI Y μ x2 20 v2).bind fun x3 =>
    if v3 < x3 then
      b_X12_tune_90 Y v0 v2 v3 μ
    else
      b_X12_tune_87 Y μ
def b_X12_tune_28 (Y : jY) (v0 : Nat) (v1 : Int32) (v2 : Int32) (v3 : Int32) (t0 : Int32) (t1 : Int32) (t2 : Int32) (μ : jM) : Option (Int32 × jM) :=
  (f_X12_in Y t0 t1 t2 μ).bind fun r1 =>
  if r1.1 = 0 then
    b_X12_tune_45 Y r1.2
  else
    (f_X12_in Y v3 ((-6 : Int32)) ((6 : Int32)) r1.2).bind fun r2 =>
    if r2.1 = 0 then
      b_X12_tune_45 Y r2.2
    else
      if v1 = 0 then
        (jgO Y r2.2 v0 12 11).bind fun x3 =>
        (jaI Y r2.2 x3 20 v2).bind fun x4 =>
        if v3 ≤ x4 then
          b_X12_tune_122 Y r2.2
        else
          (jgO Y r2.2 v0 12 11).bind fun x5 =>
          (jaI Y r2.2 x5 20 ((v2 + ((1 : Int32))))).bind fun x6 =>
          if v3 < x6 then
            (jgO Y r2.2 v0 12 12).bind fun x7 =>
            (jas Y r2.2 x7 20 v2 (.int v3)).bind fun μ8 =>
            b_X12_tune_132 Y v0 μ8
          else
            b_X12_tune_122 Y r2.2
      else
        if v2 ≤ 0 then
          b_X12_tune_67 Y v0 v2 v3 r2.2
        else
          (jgO Y r2.2 v0 12 12).bind fun x9 =>
          (jaI Y r2.2 x9 20 ((v2 - ((1 : Int32))))).bind fun x10 =>
          if v3 ≤ x10 then
            b_X12_tune_87 Y r2.2
          else
            b_X12_tune_67 Y v0 v2 v3 r2.2
def f_X12_tune (Y : jY) (v0 : Nat) (v1 : Int32) (v2 : Int32) (v3 : Int32) (μ : jM) : Option (Int32 × jM) :=
  (jgI Y μ v0 12 10).bind fun x1 =>
  if x1 = 0 then
    b_X12_tune_45 Y μ
  else
    if v1 = 0 then
      (jgI Y μ v0 12 10).bind fun x2 =>
      b_X12_tune_28 Y v0 v1 v2 v3 v2 (0 : Int32) (x2 - ((2 : Int32))) μ
    else
      (jgI Y μ v0 12 10).bind fun x3 =>
      b_X12_tune_28 Y v0 v1 v2 v3 v2 (0 : Int32) (x3 - ((1 : Int32))) μ
set_option maxRecDepth 10000 in
theorem t_X12_tune_45 {X : jX} {l : Launch} {n : Nat} {Y : jY} (K : jOK X RX12 cX12_tune 4 (some .int) 2) (hl : X.2.1 = l) {rr : Int32} {μr : jM} {μ : jM} {z : (Int32 × jM)} (H : b_X12_tune_45 Y μ = some z) (D : z = (rr, μr)) : JW X (jEnd X n Y (some (.int rr)) μr 0 0) 0 0 n Y 45 [] [] μ := by
  unfold b_X12_tune_45 at H
  refine r_iconst (v := -1) K dX12_tune_45 (by decide) ?_
  cases H
  obtain ⟨rfl, rfl⟩ := jfin2 D
  exact r_iret K dX12_tune_46
set_option maxRecDepth 10000 in
theorem t_X12_tune_122 {X : jX} {l : Launch} {n : Nat} {Y : jY} (K : jOK X RX12 cX12_tune 4 (some .int) 2) (hl : X.2.1 = l) {rr : Int32} {μr : jM} {μ : jM} {z : (Int32 × jM)} (H : b_X12_tune_122 Y μ = some z) (D : z = (rr, μr)) : JW X (jEnd X n Y (some (.int rr)) μr 0 0) 0 0 n Y 122 [] [] μ := by
  unfold b_X12_tune_122 at H
  refine r_bipush (v := -3) K dX12_tune_122 (by decide) ?_
  cases H
  obtain ⟨rfl, rfl⟩ := jfin2 D
  exact r_iret K dX12_tune_124
set_option maxRecDepth 10000 in
theorem t_X12_tune_132 {X : jX} {l : Launch} {n : Nat} {Y : jY} (K : jOK X RX12 cX12_tune 4 (some .int) 2) (hl : X.2.1 = l) {rr : Int32} {μr : jM} {v0 : Nat} {μ : jM} {z : (Int32 × jM)} (H : b_X12_tune_132 Y v0 μ = some z) (D : z = (rr, μr)) : JW X (jEnd X n Y (some (.int rr)) μr 0 0) 0 0 n Y 132 [(0, .ref v0)] [] μ := by
  unfold b_X12_tune_132 at H
  refine r_aload_n K 0 dX12_tune_132 rfl rfl ?_
  refine w_getI K vc12 inX12 10 (by decide) mF_RX12_145 dX12_tune_133 H (fun x1 H => ?_)
  cases H
  obtain ⟨rfl, rfl⟩ := jfin2 D
  exact r_iret K dX12_tune_136
set_option maxRecDepth 10000 in
theorem t_X12_tune_90 {X : jX} {l : Launch} {n : Nat} {Y : jY} (K : jOK X RX12 cX12_tune 4 (some .int) 2) (hl : X.2.1 = l) {rr : Int32} {μr : jM} {v0 : Nat} {v2 : Int32} {v3 : Int32} {μ : jM} {z : (Int32 × jM)} (H : b_X12_tune_90 Y v0 v2 v3 μ = some z) (D : z = (rr, μr)) : JW X (jEnd X n Y (some (.int rr)) μr 0 0) 0 0 n Y 90 [(0, .ref v0), (2, .int v2), (3, .int v3)] [] μ := by
  unfold b_X12_tune_90 at H
  refine r_aload_n K 0 dX12_tune_90 rfl rfl ?_
  refine w_getO K vc12 inX12 11 (by decide) mF_RX12_20 dX12_tune_91 H (fun x1 H => ?_)
  refine r_iload_n K 1 dX12_tune_94 rfl rfl ?_
  refine r_iload_n K 2 dX12_tune_95 rfl rfl ?_
  refine w_iast K dX12_tune_96 H (fun μ2 H => ?_)
  refine r_goto K 132 dX12_tune_97 (by decide) ?_
  exact r_sub [0] rfl (t_X12_tune_132 K hl H D)
set_option maxRecDepth 10000 in
theorem t_X12_tune_87 {X : jX} {l : Launch} {n : Nat} {Y : jY} (K : jOK X RX12 cX12_tune 4 (some .int) 2) (hl : X.2.1 = l) {rr : Int32} {μr : jM} {μ : jM} {z : (Int32 × jM)} (H : b_X12_tune_87 Y μ = some z) (D : z = (rr, μr)) : JW X (jEnd X n Y (some (.int rr)) μr 0 0) 0 0 n Y 87 [] [] μ := by
  unfold b_X12_tune_87 at H
  refine r_bipush (v := -3) K dX12_tune_87 (by decide) ?_
  cases H
  obtain ⟨rfl, rfl⟩ := jfin2 D
  exact r_iret K dX12_tune_89
set_option maxRecDepth 10000 in
theorem t_X12_tune_67 {X : jX} {l : Launch} {n : Nat} {Y : jY} (K : jOK X RX12 cX12_tune 4 (some .int) 2) (hl : X.2.1 = l) {rr : Int32} {μr : jM} {v0 : Nat} {v2 : Int32} {v3 : Int32} {μ : jM} {z : (Int32 × jM)} (H : b_X12_tune_67 Y v0 v2 v3 μ = some z) (D : z = (rr, μr)) : JW X (jEnd X n Y (some (.int rr)) μr 0 0) 0 0 n Y 67 [(0, .ref v0), (2, .int v2), (3, .int v3)] [] μ := by
  unfold b_X12_tune_67 at H
  refine r_iload_n K 1 dX12_tune_67 rfl rfl ?_
  refine r_aload_n K 0 dX12_tune_68 rfl rfl ?_
  refine w_getI K vc12 inX12 10 (by decide) mF_RX12_145 dX12_tune_69 H (fun x1 H => ?_)
  refine r_iconst (v := 1) K dX12_tune_72 (by decide) ?_
  refine r_isub K dX12_tune_73 ?_
  refine w_icmp_ge K 90 dX12_tune_74 (by decide) H (fun _ H => ?_) (fun _ H => ?_)
  · exact r_sub [0, 1, 2] rfl (t_X12_tune_90 K hl H D)
  · refine r_iload_n K 2 dX12_tune_77 rfl rfl ?_
    refine r_aload_n K 0 dX12_tune_78 rfl rfl ?_
    refine w_getO K vc12 inX12 12 (by decide) mF_RX12_23 dX12_tune_79 H (fun x2 H => ?_)
    refine r_iload_n K 1 dX12_tune_82 rfl rfl ?_
    refine w_iald K dX12_tune_83 H (fun x3 H => ?_)
    refine w_icmp_lt K 90 dX12_tune_84 (by decide) H (fun _ H => ?_) (fun _ H => ?_)
    · exact r_sub [0, 1, 2] rfl (t_X12_tune_90 K hl H D)
    · exact r_sub [] rfl (t_X12_tune_87 K hl H D)
set_option maxRecDepth 10000 in
theorem t_X12_tune_28 {X : jX} {l : Launch} {n : Nat} {Y : jY} (K : jOK X RX12 cX12_tune 4 (some .int) 2) (hl : X.2.1 = l) {rr : Int32} {μr : jM} {v0 : Nat} {v1 : Int32} {v2 : Int32} {v3 : Int32} {t0 : Int32} {t1 : Int32} {t2 : Int32} {μ : jM} {z : (Int32 × jM)} (H : b_X12_tune_28 Y v0 v1 v2 v3 t0 t1 t2 μ = some z) (D : z = (rr, μr)) : JW X (jEnd X n Y (some (.int rr)) μr 0 0) 0 0 n Y 28 [(0, .ref v0), (1, .int v1), (2, .int v2), (3, .int v3)] [.int t2, .int t1, .int t0] μ := by
  unfold b_X12_tune_28 at H
  refine w_callS K hl H (fun r h => c_X12_in l h) mC_yX12_in mM_RX12_134 mT_yX12_in mZ_RX12 (Nat.le_of_ble_eq_true rfl) (Nat.le_of_ble_eq_true rfl) np_yX12_in rfl (Nat.le_of_ble_eq_true rfl) dX12_tune_28 (fun r1 H => ?_) ⟨Nat.zero_le _, Nat.zero_le _⟩
  refine w_if_eq K 45 dX12_tune_31 (by decide) H (fun _ H => ?_) (fun _ H => ?_)
  · exact r_sub [] rfl (t_X12_tune_45 K hl H D)
  · refine r_iload_n K 3 dX12_tune_34 rfl rfl ?_
    refine r_bipush (v := -6) K dX12_tune_35 (by decide) ?_
    refine r_bipush (v := 6) K dX12_tune_37 (by decide) ?_
    refine w_callS K hl H (fun r h => c_X12_in l h) mC_yX12_in mM_RX12_134 mT_yX12_in mZ_RX12 (Nat.le_of_ble_eq_true rfl) (Nat.le_of_ble_eq_true rfl) np_yX12_in rfl (Nat.le_of_ble_eq_true rfl) dX12_tune_39 (fun r2 H => ?_) ⟨Nat.zero_le _, Nat.zero_le _⟩
    refine w_if_ne K 47 dX12_tune_42 (by decide) H (fun _ H => ?_) (fun _ H => ?_)
    · refine r_iload_n K 1 dX12_tune_47 rfl rfl ?_
      refine w_if_eq K 100 dX12_tune_48 (by decide) H (fun _ H => ?_) (fun _ H => ?_)
      · refine r_iload_n K 3 dX12_tune_100 rfl rfl ?_
        refine r_aload_n K 0 dX12_tune_101 rfl rfl ?_
        refine w_getO K vc12 inX12 11 (by decide) mF_RX12_20 dX12_tune_102 H (fun x3 H => ?_)
        refine r_iload_n K 2 dX12_tune_105 rfl rfl ?_
        refine w_iald K dX12_tune_106 H (fun x4 H => ?_)
        refine w_icmp_le K 122 dX12_tune_107 (by decide) H (fun _ H => ?_) (fun _ H => ?_)
        · exact r_sub [] rfl (t_X12_tune_122 K hl H D)
        · refine r_iload_n K 3 dX12_tune_110 rfl rfl ?_
          refine r_aload_n K 0 dX12_tune_111 rfl rfl ?_
          refine w_getO K vc12 inX12 11 (by decide) mF_RX12_20 dX12_tune_112 H (fun x5 H => ?_)
          refine r_iload_n K 2 dX12_tune_115 rfl rfl ?_
          refine r_iconst (v := 1) K dX12_tune_116 (by decide) ?_
          refine r_iadd K dX12_tune_117 ?_
          refine w_iald K dX12_tune_118 H (fun x6 H => ?_)
          refine w_icmp_lt K 125 dX12_tune_119 (by decide) H (fun _ H => ?_) (fun _ H => ?_)
          · refine r_aload_n K 0 dX12_tune_125 rfl rfl ?_
            refine w_getO K vc12 inX12 12 (by decide) mF_RX12_23 dX12_tune_126 H (fun x7 H => ?_)
            refine r_iload_n K 2 dX12_tune_129 rfl rfl ?_
            refine r_iload_n K 3 dX12_tune_130 rfl rfl ?_
            refine w_iast K dX12_tune_131 H (fun μ8 H => ?_)
            exact r_sub [0] rfl (t_X12_tune_132 K hl H D)
          · exact r_sub [] rfl (t_X12_tune_122 K hl H D)
      · refine r_iload_n K 2 dX12_tune_51 rfl rfl ?_
        refine w_if_le K 67 dX12_tune_52 (by decide) H (fun _ H => ?_) (fun _ H => ?_)
        · exact r_sub [0, 2, 3] rfl (t_X12_tune_67 K hl H D)
        · refine r_iload_n K 3 dX12_tune_55 rfl rfl ?_
          refine r_aload_n K 0 dX12_tune_56 rfl rfl ?_
          refine w_getO K vc12 inX12 12 (by decide) mF_RX12_23 dX12_tune_57 H (fun x9 H => ?_)
          refine r_iload_n K 2 dX12_tune_60 rfl rfl ?_
          refine r_iconst (v := 1) K dX12_tune_61 (by decide) ?_
          refine r_isub K dX12_tune_62 ?_
          refine w_iald K dX12_tune_63 H (fun x10 H => ?_)
          refine w_icmp_le K 87 dX12_tune_64 (by decide) H (fun _ H => ?_) (fun _ H => ?_)
          · exact r_sub [] rfl (t_X12_tune_87 K hl H D)
          · exact r_sub [0, 2, 3] rfl (t_X12_tune_67 K hl H D)
    · exact r_sub [] rfl (t_X12_tune_45 K hl H D)
set_option maxRecDepth 10000 in
theorem t_X12_tune_0 {X : jX} {l : Launch} {n : Nat} {Y : jY} (K : jOK X RX12 cX12_tune 4 (some .int) 2) (hl : X.2.1 = l) {rr : Int32} {μr : jM} {v0 : Nat} {v1 : Int32} {v2 : Int32} {v3 : Int32} {μ : jM} {z : (Int32 × jM)} (H : f_X12_tune Y v0 v1 v2 v3 μ = some z) (D : z = (rr, μr)) : JW X (jEnd X n Y (some (.int rr)) μr 0 0) 0 0 n Y 0 [(0, .ref v0), (1, .int v1), (2, .int v2), (3, .int v3)] [] μ := by
  unfold f_X12_tune at H
  refine r_aload_n K 0 dX12_tune_0 rfl rfl ?_
  refine w_getI K vc12 inX12 10 (by decide) mF_RX12_145 dX12_tune_1 H (fun x1 H => ?_)
  refine w_if_eq K 45 dX12_tune_4 (by decide) H (fun _ H => ?_) (fun _ H => ?_)
  · exact r_sub [] rfl (t_X12_tune_45 K hl H D)
  · refine r_iload_n K 2 dX12_tune_7 rfl rfl ?_
    refine r_iconst (v := 0) K dX12_tune_8 (by decide) ?_
    refine r_iload_n K 1 dX12_tune_9 rfl rfl ?_
    refine w_if_eq K 22 dX12_tune_10 (by decide) H (fun _ H => ?_) (fun _ H => ?_)
    · refine r_aload_n K 0 dX12_tune_22 rfl rfl ?_
      refine w_getI K vc12 inX12 10 (by decide) mF_RX12_145 dX12_tune_23 H (fun x2 H => ?_)
      refine r_iconst (v := 2) K dX12_tune_26 (by decide) ?_
      refine r_isub K dX12_tune_27 ?_
      exact r_sub [0, 1, 2, 3] rfl (t_X12_tune_28 K hl H D)
    · refine r_aload_n K 0 dX12_tune_13 rfl rfl ?_
      refine w_getI K vc12 inX12 10 (by decide) mF_RX12_145 dX12_tune_14 H (fun x3 H => ?_)
      refine r_iconst (v := 1) K dX12_tune_17 (by decide) ?_
      refine r_isub K dX12_tune_18 ?_
      refine r_goto K 28 dX12_tune_19 (by decide) ?_
      exact r_sub [0, 1, 2, 3] rfl (t_X12_tune_28 K hl H D)
theorem c_X12_tune (l : Launch) {n : Nat} {Y : jY} {v0 : Nat} {v1 : Int32} {v2 : Int32} {v3 : Int32} {μ : jM} {z : Int32 × jM} (H : f_X12_tune Y v0 v1 v2 v3 μ = some z) : jC l yX12_tune cX12_tune 4 (some .int) 2 0 0 [.ref v0, .int v1, .int v2, .int v3] n Y μ n Y (some (.int z.1)) z.2 := by
  refine jC_of (by decide +kernel) (Nat.le_of_ble_eq_true rfl) (fun X hl K _ _ _ => ?_)
  obtain ⟨rr, μr⟩ := z
  exact t_X12_tune_0 K hl H rfl
/-! RX12 told(IZI)I -/
def b_X12_told__68 (Y : jY) (t0 : Int32) (μ : jM) : Option (Int32 × jM) :=
  some (t0, μ)
def f_X12_told_ (Y : jY) (v0 : Nat) (v1 : Int32) (v2 : Int32) (v3 : Int32) (μ : jM) : Option (Int32 × jM) :=
  (f_X12_isDrawer Y v1 μ).bind fun r1 =>
  if r1.1 = 0 then
    some ((-99 : Int32), r1.2)
  else
    (jgO Y r1.2 v0 12 26).bind fun x2 =>
    (jaI Y r1.2 x2 20 v1).bind fun x3 =>
    if x3 = 0 then
      some ((-100 : Int32), r1.2)
    else
      if v3 = ((-1 : Int32)) then
        (jgO Y r1.2 v0 12 26).bind fun x7 =>
        (jaI Y r1.2 x7 20 v1).bind fun x8 =>
        some (x8, r1.2)
      else
        (jrcv Y v0 12 (f_X12_isEntry Y v0 v1 v2 v3 r1.2)).bind fun r4 =>
        if r4.1 = 0 then
          b_X12_told__68 Y (-99 : Int32) r4.2
        else
          if v2 = 0 then
            (jrcv Y v0 12 (f_X12_c Y v0 v1 v3 r4.2)).bind fun r5 =>
            b_X12_told__68 Y r5.1 r5.2
          else
            (jrcv Y v0 12 (f_X12_a Y v0 v1 v3 r4.2)).bind fun r6 =>
            b_X12_told__68 Y r6.1 r6.2
set_option maxRecDepth 10000 in
theorem t_X12_told__68 {X : jX} {l : Launch} {n : Nat} {Y : jY} (K : jOK X RX12 cX12_told_ 4 (some .int) 3) (hl : X.2.1 = l) {rr : Int32} {μr : jM} {t0 : Int32} {μ : jM} {z : (Int32 × jM)} (H : b_X12_told__68 Y t0 μ = some z) (D : z = (rr, μr)) : JW X (jEnd X n Y (some (.int rr)) μr 0 0) 0 0 n Y 68 [] [.int t0] μ := by
  unfold b_X12_told__68 at H
  cases H
  obtain ⟨rfl, rfl⟩ := jfin2 D
  exact r_iret K dX12_told__68
set_option maxRecDepth 10000 in
theorem t_X12_told__0 {X : jX} {l : Launch} {n : Nat} {Y : jY} (K : jOK X RX12 cX12_told_ 4 (some .int) 3) (hl : X.2.1 = l) {rr : Int32} {μr : jM} {v0 : Nat} {v1 : Int32} {v2 : Int32} {v3 : Int32} {μ : jM} {z : (Int32 × jM)} (H : f_X12_told_ Y v0 v1 v2 v3 μ = some z) (D : z = (rr, μr)) : JW X (jEnd X n Y (some (.int rr)) μr 0 0) 0 0 n Y 0 [(0, .ref v0), (1, .int v1), (2, .int v2), (3, .int v3)] [] μ := by
  unfold f_X12_told_ at H
  refine r_iload_n K 1 dX12_told__0 rfl rfl ?_
  refine w_callS K hl H (fun r h => c_X12_isDrawer l h) mC_yX12_isDrawer mM_RX12_253 mT_yX12_isDrawer mZ_RX12 (Nat.le_of_ble_eq_true rfl) (Nat.le_of_ble_eq_true rfl) np_yX12_isDrawer rfl (Nat.le_of_ble_eq_true rfl) dX12_told__1 (fun r1 H => ?_) ⟨Nat.zero_le _, Nat.zero_le _⟩
  refine w_if_ne K 10 dX12_told__4 (by decide) H (fun _ H => ?_) (fun _ H => ?_)
  · refine r_aload_n K 0 dX12_told__10 rfl rfl ?_
    refine w_getO K vc12 inX12 26 (by decide) mF_RX12_48 dX12_told__11 H (fun x2 H => ?_)
    refine r_iload_n K 1 dX12_told__14 rfl rfl ?_
    refine w_iald K dX12_told__15 H (fun x3 H => ?_)
    refine w_if_ne K 22 dX12_told__16 (by decide) H (fun _ H => ?_) (fun _ H => ?_)
    · refine r_iload_n K 3 dX12_told__22 rfl rfl ?_
      refine r_iconst (v := -1) K dX12_told__23 (by decide) ?_
      refine w_icmp_ne K 34 dX12_told__24 (by decide) H (fun _ H => ?_) (fun _ H => ?_)
      · refine r_aload_n K 0 dX12_told__34 rfl rfl ?_
        refine r_iload_n K 1 dX12_told__35 rfl rfl ?_
        refine r_iload_n K 2 dX12_told__36 rfl rfl ?_
        refine r_iload_n K 3 dX12_told__37 rfl rfl ?_
        refine w_callV K hl H (fun r h => c_X12_isEntry l h) mC_yX12_isEntry mM_RX12_263 mI_yX12_isEntry mS_yX12_isEntry mZ_RX12 vc12 (Nat.le_of_ble_eq_true rfl) (Nat.le_of_ble_eq_true rfl) np_yX12_isEntry rfl (Nat.le_of_ble_eq_true rfl) dX12_told__38 (fun r4 H => ?_) ⟨Nat.zero_le _, Nat.zero_le _⟩
        refine w_if_ne K 49 dX12_told__41 (by decide) H (fun _ H => ?_) (fun _ H => ?_)
        · refine r_iload_n K 2 dX12_told__49 rfl rfl ?_
          refine w_if_eq K 62 dX12_told__50 (by decide) H (fun _ H => ?_) (fun _ H => ?_)
          · refine r_aload_n K 0 dX12_told__62 rfl rfl ?_
            refine r_iload_n K 1 dX12_told__63 rfl rfl ?_
            refine r_iload_n K 3 dX12_told__64 rfl rfl ?_
            refine w_callV K hl H (fun r h => c_X12_c l h) mC_yX12_c mM_RX12_260 mI_yX12_c mS_yX12_c mZ_RX12 vc12 (Nat.le_of_ble_eq_true rfl) (Nat.le_of_ble_eq_true rfl) np_yX12_c rfl (Nat.le_of_ble_eq_true rfl) dX12_told__65 (fun r5 H => ?_) ⟨Nat.zero_le _, Nat.zero_le _⟩
            exact r_sub [] rfl (t_X12_told__68 K hl H D)
          · refine r_aload_n K 0 dX12_told__53 rfl rfl ?_
            refine r_iload_n K 1 dX12_told__54 rfl rfl ?_
            refine r_iload_n K 3 dX12_told__55 rfl rfl ?_
            refine w_callV K hl H (fun r h => c_X12_a l h) mC_yX12_a mM_RX12_256 mI_yX12_a mS_yX12_a mZ_RX12 vc12 (Nat.le_of_ble_eq_true rfl) (Nat.le_of_ble_eq_true rfl) np_yX12_a rfl (Nat.le_of_ble_eq_true rfl) dX12_told__56 (fun r6 H => ?_) ⟨Nat.zero_le _, Nat.zero_le _⟩
            refine r_goto K 68 dX12_told__59 (by decide) ?_
            exact r_sub [] rfl (t_X12_told__68 K hl H D)
        · refine r_bipush (v := -99) K dX12_told__44 (by decide) ?_
          refine r_goto K 68 dX12_told__46 (by decide) ?_
          exact r_sub [] rfl (t_X12_told__68 K hl H D)
      · refine r_aload_n K 0 dX12_told__27 rfl rfl ?_
        refine w_getO K vc12 inX12 26 (by decide) mF_RX12_48 dX12_told__28 H (fun x7 H => ?_)
        refine r_iload_n K 1 dX12_told__31 rfl rfl ?_
        refine w_iald K dX12_told__32 H (fun x8 H => ?_)
        cases H
        obtain ⟨rfl, rfl⟩ := jfin2 D
        exact r_iret K dX12_told__33
    · refine r_bipush (v := -100) K dX12_told__19 (by decide) ?_
      cases H
      obtain ⟨rfl, rfl⟩ := jfin2 D
      exact r_iret K dX12_told__21
  · refine r_bipush (v := -99) K dX12_told__7 (by decide) ?_
    cases H
    obtain ⟨rfl, rfl⟩ := jfin2 D
    exact r_iret K dX12_told__9
theorem c_X12_told_ (l : Launch) {n : Nat} {Y : jY} {v0 : Nat} {v1 : Int32} {v2 : Int32} {v3 : Int32} {μ : jM} {z : Int32 × jM} (H : f_X12_told_ Y v0 v1 v2 v3 μ = some z) : jC l yX12_told_ cX12_told_ 4 (some .int) 3 0 0 [.ref v0, .int v1, .int v2, .int v3] n Y μ n Y (some (.int z.1)) z.2 := by
  refine jC_of (by decide +kernel) (Nat.le_of_ble_eq_true rfl) (fun X hl K _ _ _ => ?_)
  obtain ⟨rr, μr⟩ := z
  exact t_X12_told__0 K hl H rfl
/-! RX12 read(II)I -/
def b_X12_read_12 (Y : jY) (μ : jM) : Option (Int32 × jM) :=
  some ((-1 : Int32), μ)
def b_X12_read_149 (Y : jY) (t0 : Int32) (μ : jM) : Option (Int32 × jM) :=
  some (t0, μ)
def b_X12_read_104 (Y : jY) (v0 : Nat) (v1 : Int32) (v2 : Int32) (v3 : Int32) (μ : jM) : Option ((Int32 × jM) ⊕ (Int32 × jM)) :=
  (jrcv Y v0 12 (f_X12_c Y v0 v1 v3 μ)).bind fun r1 =>
  (jrcv Y v0 12 (f_X12_writesNumber Y v0 r1.1 r1.2)).bind fun μ2 =>
  some (.inl ((v3 + (1 : Int32)), μ2))
def b_X12_read_82 (Y : jY) (v0 : Nat) (v1 : Int32) (v2 : Int32) (v3 : Int32) (μ : jM) : Option ((Int32 × jM) ⊕ (Int32 × jM)) :=
  (jgO Y μ v0 12 26).bind fun x1 =>
  (jaI Y μ x1 20 v1).bind fun x2 =>
  if ((x2 - ((1 : Int32)))) ≤ v3 then
    if v2 = ((-1 : Int32)) then
      (jgI Y μ v0 12 22).bind fun x5 =>
      (b_X12_read_149 Y x5 μ).map (fun r => (.inr r))
    else
      (jgI Y μ v0 12 22).bind fun x3 =>
      if x3 ≤ v2 then
        (b_X12_read_149 Y (-3 : Int32) μ).map (fun r => (.inr r))
      else
        (jgI Y μ v0 12 24).bind fun x4 =>
        (b_X12_read_149 Y x4 μ).map (fun r => (.inr r))
  else
    if v3 ≤ 0 then
      b_X12_read_104 Y v0 v1 v2 v3 μ
    else
      (jrcv Y v0 12 (f_X12_writes Y v0 ((32 : Int32)) μ)).bind fun μ6 =>
      b_X12_read_104 Y v0 v1 v2 v3 μ6
def b_X12_read_58 (Y : jY) (v0 : Nat) (v1 : Int32) (v2 : Int32) (v3 : Int32) (μ : jM) : Option ((Int32 × jM) ⊕ (Int32 × jM)) :=
  (jrcv Y v0 12 (f_X12_a Y v0 v1 v3 μ)).bind fun r1 =>
  (jrcv Y v0 12 (f_X12_writesNumber Y v0 r1.1 r1.2)).bind fun μ2 =>
  some (.inl ((v3 + (1 : Int32)), μ2))
def b_X12_read_38 (Y : jY) (v0 : Nat) (v1 : Int32) (v2 : Int32) (v3 : Int32) (μ : jM) : Option ((Int32 × jM) ⊕ (Int32 × jM)) :=
  (jgO Y μ v0 12 26).bind fun x1 =>
  (jaI Y μ x1 20 v1).bind fun x2 =>
  if x2 ≤ v3 then
    (jrcv Y v0 12 (f_X12_writes Y v0 ((47 : Int32)) μ)).bind fun μ3 =>
    (jit jF (fun (s : Int32 × jM) => b_X12_read_82 Y v0 v1 v2 s.1 s.2) ((0 : Int32), μ3)).map (fun r => (.inr r))
  else
    if v3 ≤ 0 then
      b_X12_read_58 Y v0 v1 v2 v3 μ
    else
      (jrcv Y v0 12 (f_X12_writes Y v0 ((32 : Int32)) μ)).bind fun μ4 =>
      b_X12_read_58 Y v0 v1 v2 v3 μ4
def f_X12_read (Y : jY) (v0 : Nat) (v1 : Int32) (v2 : Int32) (μ : jM) : Option (Int32 × jM) :=
  (f_X12_isDrawer Y v1 μ).bind fun r1 =>
  if r1.1 = 0 then
    b_X12_read_12 Y r1.2
  else
    if ((-1 : Int32)) ≤ v2 then
      (jgO Y r1.2 v0 12 26).bind fun x2 =>
      (jaI Y r1.2 x2 20 v1).bind fun x3 =>
      if x3 = 0 then
        some ((-2 : Int32), r1.2)
      else
        (jput Y r1.2 v0 12 22 (.int ((0 : Int32)))).bind fun μ4 =>
        (jput Y μ4 v0 12 23 (.int v2)).bind fun μ5 =>
        jit jF (fun (s : Int32 × jM) => b_X12_read_38 Y v0 v1 v2 s.1 s.2) ((0 : Int32), μ5)
    else
      b_X12_read_12 Y r1.2
set_option maxRecDepth 10000 in
theorem t_X12_read_12 {X : jX} {l : Launch} {n : Nat} {Y : jY} (K : jOK X RX12 cX12_read 4 (some .int) 3) (hl : X.2.1 = l) {rr : Int32} {μr : jM} {μ : jM} {z : (Int32 × jM)} (H : b_X12_read_12 Y μ = some z) (D : z = (rr, μr)) : JW X (jEnd X n Y (some (.int rr)) μr 0 0) 0 0 n Y 12 [] [] μ := by
  unfold b_X12_read_12 at H
  refine r_iconst (v := -1) K dX12_read_12 (by decide) ?_
  cases H
  obtain ⟨rfl, rfl⟩ := jfin2 D
  exact r_iret K dX12_read_13
set_option maxRecDepth 10000 in
theorem t_X12_read_149 {X : jX} {l : Launch} {n : Nat} {Y : jY} (K : jOK X RX12 cX12_read 4 (some .int) 3) (hl : X.2.1 = l) {rr : Int32} {μr : jM} {t0 : Int32} {μ : jM} {z : (Int32 × jM)} (H : b_X12_read_149 Y t0 μ = some z) (D : z = (rr, μr)) : JW X (jEnd X n Y (some (.int rr)) μr 0 0) 0 0 n Y 149 [] [.int t0] μ := by
  unfold b_X12_read_149 at H
  cases H
  obtain ⟨rfl, rfl⟩ := jfin2 D
  exact r_iret K dX12_read_149
set_option maxRecDepth 10000 in
theorem t_X12_read_104 {X : jX} {l : Launch} {n : Nat} {Y : jY} (K : jOK X RX12 cX12_read 4 (some .int) 3) (hl : X.2.1 = l) {rr : Int32} {μr : jM} {v0 : Nat} {v1 : Int32} {v2 : Int32} {v3 : Int32} {μ : jM} {z : ((Int32 × jM) ⊕ (Int32 × jM))} (H : b_X12_read_104 Y v0 v1 v2 v3 μ = some z) (D : Sum.elim (fun (s : Int32 × jM) => JW X (jEnd X n Y (some (.int rr)) μr 0 0) 0 0 n Y 82 [(0, .ref v0), (1, .int v1), (2, .int v2), (3, .int s.1)] [] s.2) (fun r => r = (rr, μr)) z) : JW X (jEnd X n Y (some (.int rr)) μr 0 0) 0 0 n Y 104 [(0, .ref v0), (1, .int v1), (2, .int v2), (3, .int v3)] [] μ := by
  unfold b_X12_read_104 at H
  refine r_aload_n K 0 dX12_read_104 rfl rfl ?_
  refine r_aload_n K 0 dX12_read_105 rfl rfl ?_
  refine r_iload_n K 1 dX12_read_106 rfl rfl ?_
  refine r_iload_n K 3 dX12_read_107 rfl rfl ?_
  refine w_callV K hl H (fun r h => c_X12_c l h) mC_yX12_c mM_RX12_260 mI_yX12_c mS_yX12_c mZ_RX12 vc12 (Nat.le_of_ble_eq_true rfl) (Nat.le_of_ble_eq_true rfl) np_yX12_c rfl (Nat.le_of_ble_eq_true rfl) dX12_read_108 (fun r1 H => ?_) ⟨Nat.zero_le _, Nat.zero_le _⟩
  refine w_callV K hl H (fun r h => c_X12_writesNumber l h) mC_yX12_writesNumber mM_RX12_250 mI_yX12_writesNumber mS_yX12_writesNumber mZ_RX12 vc12 (Nat.le_of_ble_eq_true rfl) (Nat.le_of_ble_eq_true rfl) np_yX12_writesNumber rfl (Nat.le_of_ble_eq_true rfl) dX12_read_111 (fun μ2 H => ?_) ⟨Nat.zero_le _, Nat.zero_le _⟩
  refine r_iinc K 3 [(3, .int _), (0, .ref _), (1, .int _), (2, .int _)] (v := _ + (1 : Int32)) dX12_read_114 rfl rfl (by decide) rfl ?_
  refine r_goto K 82 dX12_read_117 (by decide) ?_
  cases H
  exact r_sub [1, 2, 3, 0] rfl D
set_option maxRecDepth 10000 in
theorem t_X12_read_82 {X : jX} {l : Launch} {n : Nat} {Y : jY} (K : jOK X RX12 cX12_read 4 (some .int) 3) (hl : X.2.1 = l) {rr : Int32} {μr : jM} {v0 : Nat} {v1 : Int32} {v2 : Int32} {v3 : Int32} {μ : jM} {z : ((Int32 × jM) ⊕ (Int32 × jM))} (H : b_X12_read_82 Y v0 v1 v2 v3 μ = some z) (D : Sum.elim (fun (s : Int32 × jM) => JW X (jEnd X n Y (some (.int rr)) μr 0 0) 0 0 n Y 82 [(0, .ref v0), (1, .int v1), (2, .int v2), (3, .int s.1)] [] s.2) (fun r => r = (rr, μr)) z) : JW X (jEnd X n Y (some (.int rr)) μr 0 0) 0 0 n Y 82 [(0, .ref v0), (1, .int v1), (2, .int v2), (3, .int v3)] [] μ := by
  unfold b_X12_read_82 at H
  refine r_iload_n K 3 dX12_read_82 rfl rfl ?_
  refine r_aload_n K 0 dX12_read_83 rfl rfl ?_
  refine w_getO K vc12 inX12 26 (by decide) mF_RX12_48 dX12_read_84 H (fun x1 H => ?_)
  refine r_iload_n K 1 dX12_read_87 rfl rfl ?_
  refine w_iald K dX12_read_88 H (fun x2 H => ?_)
  refine r_iconst (v := 1) K dX12_read_89 (by decide) ?_
  refine r_isub K dX12_read_90 ?_
  refine w_icmp_ge K 120 dX12_read_91 (by decide) H (fun _ H => ?_) (fun _ H => ?_)
  · refine r_iload_n K 2 dX12_read_120 rfl rfl ?_
    refine r_iconst (v := -1) K dX12_read_121 (by decide) ?_
    refine w_icmp_ne K 132 dX12_read_122 (by decide) H (fun _ H => ?_) (fun _ H => ?_)
    · refine r_iload_n K 2 dX12_read_132 rfl rfl ?_
      refine r_aload_n K 0 dX12_read_133 rfl rfl ?_
      refine w_getI K vc12 inX12 22 (by decide) mF_RX12_238 dX12_read_134 H (fun x3 H => ?_)
      refine w_icmp_ge K 147 dX12_read_137 (by decide) H (fun _ H => ?_) (fun _ H => ?_)
      · refine r_bipush (v := -3) K dX12_read_147 (by decide) ?_
        obtain ⟨z2, H2, rfl⟩ := jmap H
        exact r_sub [] rfl (t_X12_read_149 K hl H2 D)
      · refine r_aload_n K 0 dX12_read_140 rfl rfl ?_
        refine w_getI K vc12 inX12 24 (by decide) mF_RX12_244 dX12_read_141 H (fun x4 H => ?_)
        refine r_goto K 149 dX12_read_144 (by decide) ?_
        obtain ⟨z2, H2, rfl⟩ := jmap H
        exact r_sub [] rfl (t_X12_read_149 K hl H2 D)
    · refine r_aload_n K 0 dX12_read_125 rfl rfl ?_
      refine w_getI K vc12 inX12 22 (by decide) mF_RX12_238 dX12_read_126 H (fun x5 H => ?_)
      refine r_goto K 149 dX12_read_129 (by decide) ?_
      obtain ⟨z2, H2, rfl⟩ := jmap H
      exact r_sub [] rfl (t_X12_read_149 K hl H2 D)
  · refine r_iload_n K 3 dX12_read_94 rfl rfl ?_
    refine w_if_le K 104 dX12_read_95 (by decide) H (fun _ H => ?_) (fun _ H => ?_)
    · exact r_sub [0, 1, 2, 3] rfl (t_X12_read_104 K hl H D)
    · refine r_aload_n K 0 dX12_read_98 rfl rfl ?_
      refine r_bipush (v := 32) K dX12_read_99 (by decide) ?_
      refine w_callV K hl H (fun r h => c_X12_writes l h) mC_yX12_writes mM_RX12_247 mI_yX12_writes mS_yX12_writes mZ_RX12 vc12 (Nat.le_of_ble_eq_true rfl) (Nat.le_of_ble_eq_true rfl) np_yX12_writes rfl (Nat.le_of_ble_eq_true rfl) dX12_read_101 (fun μ6 H => ?_) ⟨Nat.zero_le _, Nat.zero_le _⟩
      exact r_sub [0, 1, 2, 3] rfl (t_X12_read_104 K hl H D)
set_option maxRecDepth 10000 in
theorem l_X12_read_82 {X : jX} {l : Launch} {n : Nat} {Y : jY} (K : jOK X RX12 cX12_read 4 (some .int) 3) (hl : X.2.1 = l) {rr : Int32} {μr : jM} {v0 : Nat} {v1 : Int32} {v2 : Int32}  {s0 : Int32 × jM} {z : (Int32 × jM)} (H : jit jF (fun (s : Int32 × jM) => b_X12_read_82 Y v0 v1 v2 s.1 s.2) s0 = some z) (D : z = (rr, μr)) : JW X (jEnd X n Y (some (.int rr)) μr 0 0) 0 0 n Y 82 [(0, .ref v0), (1, .int v1), (2, .int v2), (3, .int s0.1)] [] s0.2 :=
  jit_ind (P := fun (s : Int32 × jM) => JW X (jEnd X n Y (some (.int rr)) μr 0 0) 0 0 n Y 82 [(0, .ref v0), (1, .int v1), (2, .int v2), (3, .int s.1)] [] s.2) (D := fun r => r = (rr, μr)) (fun s z Hs Ds => t_X12_read_82 K hl Hs Ds) jF s0 z H D
set_option maxRecDepth 10000 in
theorem t_X12_read_58 {X : jX} {l : Launch} {n : Nat} {Y : jY} (K : jOK X RX12 cX12_read 4 (some .int) 3) (hl : X.2.1 = l) {rr : Int32} {μr : jM} {v0 : Nat} {v1 : Int32} {v2 : Int32} {v3 : Int32} {μ : jM} {z : ((Int32 × jM) ⊕ (Int32 × jM))} (H : b_X12_read_58 Y v0 v1 v2 v3 μ = some z) (D : Sum.elim (fun (s : Int32 × jM) => JW X (jEnd X n Y (some (.int rr)) μr 0 0) 0 0 n Y 38 [(0, .ref v0), (1, .int v1), (2, .int v2), (3, .int s.1)] [] s.2) (fun r => r = (rr, μr)) z) : JW X (jEnd X n Y (some (.int rr)) μr 0 0) 0 0 n Y 58 [(0, .ref v0), (1, .int v1), (2, .int v2), (3, .int v3)] [] μ := by
  unfold b_X12_read_58 at H
  refine r_aload_n K 0 dX12_read_58 rfl rfl ?_
  refine r_aload_n K 0 dX12_read_59 rfl rfl ?_
  refine r_iload_n K 1 dX12_read_60 rfl rfl ?_
  refine r_iload_n K 3 dX12_read_61 rfl rfl ?_
  refine w_callV K hl H (fun r h => c_X12_a l h) mC_yX12_a mM_RX12_256 mI_yX12_a mS_yX12_a mZ_RX12 vc12 (Nat.le_of_ble_eq_true rfl) (Nat.le_of_ble_eq_true rfl) np_yX12_a rfl (Nat.le_of_ble_eq_true rfl) dX12_read_62 (fun r1 H => ?_) ⟨Nat.zero_le _, Nat.zero_le _⟩
  refine w_callV K hl H (fun r h => c_X12_writesNumber l h) mC_yX12_writesNumber mM_RX12_250 mI_yX12_writesNumber mS_yX12_writesNumber mZ_RX12 vc12 (Nat.le_of_ble_eq_true rfl) (Nat.le_of_ble_eq_true rfl) np_yX12_writesNumber rfl (Nat.le_of_ble_eq_true rfl) dX12_read_65 (fun μ2 H => ?_) ⟨Nat.zero_le _, Nat.zero_le _⟩
  refine r_iinc K 3 [(3, .int _), (0, .ref _), (1, .int _), (2, .int _)] (v := _ + (1 : Int32)) dX12_read_68 rfl rfl (by decide) rfl ?_
  refine r_goto K 38 dX12_read_71 (by decide) ?_
  cases H
  exact r_sub [1, 2, 3, 0] rfl D
set_option maxRecDepth 10000 in
theorem t_X12_read_38 {X : jX} {l : Launch} {n : Nat} {Y : jY} (K : jOK X RX12 cX12_read 4 (some .int) 3) (hl : X.2.1 = l) {rr : Int32} {μr : jM} {v0 : Nat} {v1 : Int32} {v2 : Int32} {v3 : Int32} {μ : jM} {z : ((Int32 × jM) ⊕ (Int32 × jM))} (H : b_X12_read_38 Y v0 v1 v2 v3 μ = some z) (D : Sum.elim (fun (s : Int32 × jM) => JW X (jEnd X n Y (some (.int rr)) μr 0 0) 0 0 n Y 38 [(0, .ref v0), (1, .int v1), (2, .int v2), (3, .int s.1)] [] s.2) (fun r => r = (rr, μr)) z) : JW X (jEnd X n Y (some (.int rr)) μr 0 0) 0 0 n Y 38 [(0, .ref v0), (1, .int v1), (2, .int v2), (3, .int v3)] [] μ := by
  unfold b_X12_read_38 at H
  refine r_iload_n K 3 dX12_read_38 rfl rfl ?_
  refine r_aload_n K 0 dX12_read_39 rfl rfl ?_
  refine w_getO K vc12 inX12 26 (by decide) mF_RX12_48 dX12_read_40 H (fun x1 H => ?_)
  refine r_iload_n K 1 dX12_read_43 rfl rfl ?_
  refine w_iald K dX12_read_44 H (fun x2 H => ?_)
  refine w_icmp_ge K 74 dX12_read_45 (by decide) H (fun _ H => ?_) (fun _ H => ?_)
  · refine r_aload_n K 0 dX12_read_74 rfl rfl ?_
    refine r_bipush (v := 47) K dX12_read_75 (by decide) ?_
    refine w_callV K hl H (fun r h => c_X12_writes l h) mC_yX12_writes mM_RX12_247 mI_yX12_writes mS_yX12_writes mZ_RX12 vc12 (Nat.le_of_ble_eq_true rfl) (Nat.le_of_ble_eq_true rfl) np_yX12_writes rfl (Nat.le_of_ble_eq_true rfl) dX12_read_77 (fun μ3 H => ?_) ⟨Nat.zero_le _, Nat.zero_le _⟩
    refine r_iconst (v := 0) K dX12_read_80 (by decide) ?_
    refine r_istore_n K [(3, .int _), (0, .ref _), (1, .int _), (2, .int _)] dX12_read_81 rfl (by decide) rfl ?_
    obtain ⟨z2, H2, rfl⟩ := jmap H
    exact r_sub [1, 2, 3, 0] rfl (l_X12_read_82 K hl H2 D)
  · refine r_iload_n K 3 dX12_read_48 rfl rfl ?_
    refine w_if_le K 58 dX12_read_49 (by decide) H (fun _ H => ?_) (fun _ H => ?_)
    · exact r_sub [0, 1, 2, 3] rfl (t_X12_read_58 K hl H D)
    · refine r_aload_n K 0 dX12_read_52 rfl rfl ?_
      refine r_bipush (v := 32) K dX12_read_53 (by decide) ?_
      refine w_callV K hl H (fun r h => c_X12_writes l h) mC_yX12_writes mM_RX12_247 mI_yX12_writes mS_yX12_writes mZ_RX12 vc12 (Nat.le_of_ble_eq_true rfl) (Nat.le_of_ble_eq_true rfl) np_yX12_writes rfl (Nat.le_of_ble_eq_true rfl) dX12_read_55 (fun μ4 H => ?_) ⟨Nat.zero_le _, Nat.zero_le _⟩
      exact r_sub [0, 1, 2, 3] rfl (t_X12_read_58 K hl H D)
set_option maxRecDepth 10000 in
theorem l_X12_read_38 {X : jX} {l : Launch} {n : Nat} {Y : jY} (K : jOK X RX12 cX12_read 4 (some .int) 3) (hl : X.2.1 = l) {rr : Int32} {μr : jM} {v0 : Nat} {v1 : Int32} {v2 : Int32}  {s0 : Int32 × jM} {z : (Int32 × jM)} (H : jit jF (fun (s : Int32 × jM) => b_X12_read_38 Y v0 v1 v2 s.1 s.2) s0 = some z) (D : z = (rr, μr)) : JW X (jEnd X n Y (some (.int rr)) μr 0 0) 0 0 n Y 38 [(0, .ref v0), (1, .int v1), (2, .int v2), (3, .int s0.1)] [] s0.2 :=
  jit_ind (P := fun (s : Int32 × jM) => JW X (jEnd X n Y (some (.int rr)) μr 0 0) 0 0 n Y 38 [(0, .ref v0), (1, .int v1), (2, .int v2), (3, .int s.1)] [] s.2) (D := fun r => r = (rr, μr)) (fun s z Hs Ds => t_X12_read_38 K hl Hs Ds) jF s0 z H D
set_option maxRecDepth 10000 in
theorem t_X12_read_0 {X : jX} {l : Launch} {n : Nat} {Y : jY} (K : jOK X RX12 cX12_read 4 (some .int) 3) (hl : X.2.1 = l) {rr : Int32} {μr : jM} {v0 : Nat} {v1 : Int32} {v2 : Int32} {μ : jM} {z : (Int32 × jM)} (H : f_X12_read Y v0 v1 v2 μ = some z) (D : z = (rr, μr)) : JW X (jEnd X n Y (some (.int rr)) μr 0 0) 0 0 n Y 0 [(0, .ref v0), (1, .int v1), (2, .int v2)] [] μ := by
  unfold f_X12_read at H
  refine r_iload_n K 1 dX12_read_0 rfl rfl ?_
  refine w_callS K hl H (fun r h => c_X12_isDrawer l h) mC_yX12_isDrawer mM_RX12_253 mT_yX12_isDrawer mZ_RX12 (Nat.le_of_ble_eq_true rfl) (Nat.le_of_ble_eq_true rfl) np_yX12_isDrawer rfl (Nat.le_of_ble_eq_true rfl) dX12_read_1 (fun r1 H => ?_) ⟨Nat.zero_le _, Nat.zero_le _⟩
  refine w_if_eq K 12 dX12_read_4 (by decide) H (fun _ H => ?_) (fun _ H => ?_)
  · exact r_sub [] rfl (t_X12_read_12 K hl H D)
  · refine r_iload_n K 2 dX12_read_7 rfl rfl ?_
    refine r_iconst (v := -1) K dX12_read_8 (by decide) ?_
    refine w_icmp_ge K 14 dX12_read_9 (by decide) H (fun _ H => ?_) (fun _ H => ?_)
    · refine r_aload_n K 0 dX12_read_14 rfl rfl ?_
      refine w_getO K vc12 inX12 26 (by decide) mF_RX12_48 dX12_read_15 H (fun x2 H => ?_)
      refine r_iload_n K 1 dX12_read_18 rfl rfl ?_
      refine w_iald K dX12_read_19 H (fun x3 H => ?_)
      refine w_if_ne K 26 dX12_read_20 (by decide) H (fun _ H => ?_) (fun _ H => ?_)
      · refine r_aload_n K 0 dX12_read_26 rfl rfl ?_
        refine r_iconst (v := 0) K dX12_read_27 (by decide) ?_
        refine w_put K vc12 inX12 tyX12_ok nmX12 22 (by decide) mF_RX12_238 rfl (fun _ => rfl) (fun _ => rfl) dX12_read_28 H (fun μ4 H => ?_)
        refine r_aload_n K 0 dX12_read_31 rfl rfl ?_
        refine r_iload_n K 2 dX12_read_32 rfl rfl ?_
        refine w_put K vc12 inX12 tyX12_ok nmX12 23 (by decide) mF_RX12_241 rfl (fun _ => rfl) (fun _ => rfl) dX12_read_33 H (fun μ5 H => ?_)
        refine r_iconst (v := 0) K dX12_read_36 (by decide) ?_
        refine r_istore_n K [(3, .int _), (0, .ref _), (1, .int _), (2, .int _)] dX12_read_37 rfl (by decide) rfl ?_
        exact r_sub [1, 2, 3, 0] rfl (l_X12_read_38 K hl H D)
      · refine r_bipush (v := -2) K dX12_read_23 (by decide) ?_
        cases H
        obtain ⟨rfl, rfl⟩ := jfin2 D
        exact r_iret K dX12_read_25
    · exact r_sub [] rfl (t_X12_read_12 K hl H D)
theorem c_X12_read (l : Launch) {n : Nat} {Y : jY} {v0 : Nat} {v1 : Int32} {v2 : Int32} {μ : jM} {z : Int32 × jM} (H : f_X12_read Y v0 v1 v2 μ = some z) : jC l yX12_read cX12_read 4 (some .int) 3 0 0 [.ref v0, .int v1, .int v2] n Y μ n Y (some (.int z.1)) z.2 := by
  refine jC_of (by decide +kernel) (Nat.le_of_ble_eq_true rfl) (fun X hl K _ _ _ => ?_)
  obtain ⟨rr, μr⟩ := z
  exact t_X12_read_0 K hl H rfl
/-! RX12 weighed(II)J -/
def b_X12_weighed_26 (Y : jY) (μ : jM) : Option (Int64 × jM) :=
  some ((-9223372036854775808 : Int64), μ)
def b_X12_weighed_48 (Y : jY) (t0 : Int64) (μ : jM) : Option (Int64 × jM) :=
  some (t0, μ)
def f_X12_weighed (Y : jY) (v0 : Nat) (v1 : Int32) (v2 : Int32) (μ : jM) : Option (Int64 × jM) :=
  (jgI Y μ v0 12 10).bind fun x1 =>
  if x1 = 0 then
    b_X12_weighed_26 Y μ
  else
    (f_X12_in Y v1 ((0 : Int32)) ((7 : Int32)) μ).bind fun r2 =>
    if r2.1 = 0 then
      b_X12_weighed_26 Y r2.2
    else
      (f_X12_in Y v2 ((0 : Int32)) ((1 : Int32)) r2.2).bind fun r3 =>
      if r3.1 = 0 then
        b_X12_weighed_26 Y r3.2
      else
        (jrcv Y v0 12 (f_X12_laysTones Y v0 r3.2)).bind fun μ4 =>
        if v2 = 0 then
          (jgO Y μ4 v0 12 15).bind fun x5 =>
          (jaL Y μ4 x5 21 v1).bind fun x6 =>
          b_X12_weighed_48 Y x6 μ4
        else
          b_X12_weighed_48 Y (1 : Int64) μ4
set_option maxRecDepth 10000 in
theorem t_X12_weighed_26 {X : jX} {l : Launch} {n : Nat} {Y : jY} (K : jOK X RX12 cX12_weighed 3 (some .long) 3) (hl : X.2.1 = l) {rr : Int64} {μr : jM} {μ : jM} {z : (Int64 × jM)} (H : b_X12_weighed_26 Y μ = some z) (D : z = (rr, μr)) : JW X (jEnd X n Y (some (.long rr)) μr 0 0) 0 0 n Y 26 [] [] μ := by
  unfold b_X12_weighed_26 at H
  refine r_ldc2 K (-9223372036854775808) mc_RX12_156 dX12_weighed_26 ?_
  cases H
  obtain ⟨rfl, rfl⟩ := jfin2 D
  exact r_lret K dX12_weighed_29
set_option maxRecDepth 10000 in
theorem t_X12_weighed_48 {X : jX} {l : Launch} {n : Nat} {Y : jY} (K : jOK X RX12 cX12_weighed 3 (some .long) 3) (hl : X.2.1 = l) {rr : Int64} {μr : jM} {t0 : Int64} {μ : jM} {z : (Int64 × jM)} (H : b_X12_weighed_48 Y t0 μ = some z) (D : z = (rr, μr)) : JW X (jEnd X n Y (some (.long rr)) μr 0 0) 0 0 n Y 48 [] [.long t0] μ := by
  unfold b_X12_weighed_48 at H
  cases H
  obtain ⟨rfl, rfl⟩ := jfin2 D
  exact r_lret K dX12_weighed_48
set_option maxRecDepth 10000 in
theorem t_X12_weighed_0 {X : jX} {l : Launch} {n : Nat} {Y : jY} (K : jOK X RX12 cX12_weighed 3 (some .long) 3) (hl : X.2.1 = l) {rr : Int64} {μr : jM} {v0 : Nat} {v1 : Int32} {v2 : Int32} {μ : jM} {z : (Int64 × jM)} (H : f_X12_weighed Y v0 v1 v2 μ = some z) (D : z = (rr, μr)) : JW X (jEnd X n Y (some (.long rr)) μr 0 0) 0 0 n Y 0 [(0, .ref v0), (1, .int v1), (2, .int v2)] [] μ := by
  unfold f_X12_weighed at H
  refine r_aload_n K 0 dX12_weighed_0 rfl rfl ?_
  refine w_getI K vc12 inX12 10 (by decide) mF_RX12_145 dX12_weighed_1 H (fun x1 H => ?_)
  refine w_if_eq K 26 dX12_weighed_4 (by decide) H (fun _ H => ?_) (fun _ H => ?_)
  · exact r_sub [] rfl (t_X12_weighed_26 K hl H D)
  · refine r_iload_n K 1 dX12_weighed_7 rfl rfl ?_
    refine r_iconst (v := 0) K dX12_weighed_8 (by decide) ?_
    refine r_bipush (v := 7) K dX12_weighed_9 (by decide) ?_
    refine w_callS K hl H (fun r h => c_X12_in l h) mC_yX12_in mM_RX12_134 mT_yX12_in mZ_RX12 (Nat.le_of_ble_eq_true rfl) (Nat.le_of_ble_eq_true rfl) np_yX12_in rfl (Nat.le_of_ble_eq_true rfl) dX12_weighed_11 (fun r2 H => ?_) ⟨Nat.zero_le _, Nat.zero_le _⟩
    refine w_if_eq K 26 dX12_weighed_14 (by decide) H (fun _ H => ?_) (fun _ H => ?_)
    · exact r_sub [] rfl (t_X12_weighed_26 K hl H D)
    · refine r_iload_n K 2 dX12_weighed_17 rfl rfl ?_
      refine r_iconst (v := 0) K dX12_weighed_18 (by decide) ?_
      refine r_iconst (v := 1) K dX12_weighed_19 (by decide) ?_
      refine w_callS K hl H (fun r h => c_X12_in l h) mC_yX12_in mM_RX12_134 mT_yX12_in mZ_RX12 (Nat.le_of_ble_eq_true rfl) (Nat.le_of_ble_eq_true rfl) np_yX12_in rfl (Nat.le_of_ble_eq_true rfl) dX12_weighed_20 (fun r3 H => ?_) ⟨Nat.zero_le _, Nat.zero_le _⟩
      refine w_if_ne K 30 dX12_weighed_23 (by decide) H (fun _ H => ?_) (fun _ H => ?_)
      · refine r_aload_n K 0 dX12_weighed_30 rfl rfl ?_
        refine w_callV K hl H (fun r h => c_X12_laysTones l h) mC_yX12_laysTones mM_RX12_158 mI_yX12_laysTones mS_yX12_laysTones mZ_RX12 vc12 (Nat.le_of_ble_eq_true rfl) (Nat.le_of_ble_eq_true rfl) np_yX12_laysTones rfl (Nat.le_of_ble_eq_true rfl) dX12_weighed_31 (fun μ4 H => ?_) ⟨Nat.zero_le _, Nat.zero_le _⟩
        refine r_iload_n K 2 dX12_weighed_34 rfl rfl ?_
        refine w_if_ne K 47 dX12_weighed_35 (by decide) H (fun _ H => ?_) (fun _ H => ?_)
        · refine r_lconst (v := 1) K dX12_weighed_47 (by decide) ?_
          exact r_sub [] rfl (t_X12_weighed_48 K hl H D)
        · refine r_aload_n K 0 dX12_weighed_38 rfl rfl ?_
          refine w_getO K vc12 inX12 15 (by decide) mF_RX12_33 dX12_weighed_39 H (fun x5 H => ?_)
          refine r_iload_n K 1 dX12_weighed_42 rfl rfl ?_
          refine w_lald K dX12_weighed_43 H (fun x6 H => ?_)
          refine r_goto K 48 dX12_weighed_44 (by decide) ?_
          exact r_sub [] rfl (t_X12_weighed_48 K hl H D)
      · exact r_sub [] rfl (t_X12_weighed_26 K hl H D)
theorem c_X12_weighed (l : Launch) {n : Nat} {Y : jY} {v0 : Nat} {v1 : Int32} {v2 : Int32} {μ : jM} {z : Int64 × jM} (H : f_X12_weighed Y v0 v1 v2 μ = some z) : jC l yX12_weighed cX12_weighed 3 (some .long) 3 0 0 [.ref v0, .int v1, .int v2] n Y μ n Y (some (.long z.1)) z.2 := by
  refine jC_of (by decide +kernel) (Nat.le_of_ble_eq_true rfl) (fun X hl K _ _ _ => ?_)
  obtain ⟨rr, μr⟩ := z
  exact t_X12_weighed_0 K hl H rfl
/-! RX12 powers(II)J -/
def b_X12_powers_26 (Y : jY) (μ : jM) : Option (Int64 × jM) :=
  some ((-9223372036854775808 : Int64), μ)
def b_X12_powers_35 (Y : jY) (v0 : Nat) (v1 : Int32) (v2 : Int32) (v3 : Int64) (v5 : Int32) (μ : jM) : Option ((Int64 × Int32 × jM) ⊕ (Int64 × jM)) :=
  (jgO Y μ v0 12 26).bind fun x1 =>
  (jaI Y μ x1 20 v1).bind fun x2 =>
  if x2 ≤ v5 then
    some (.inr (v3, μ))
  else
    (jrcv Y v0 12 (f_X12_goes Y v0 v1 v2 v5 μ)).bind fun μ3 =>
    (jgO Y μ3 v0 12 37).bind fun x4 =>
    (jaL Y μ3 x4 21 v5).bind fun x5 =>
    some (.inl ((v3 + x5), (v5 + (1 : Int32)), μ3))
def f_X12_powers (Y : jY) (v0 : Nat) (v1 : Int32) (v2 : Int32) (μ : jM) : Option (Int64 × jM) :=
  (f_X12_isDrawer Y v1 μ).bind fun r1 =>
  if r1.1 = 0 then
    b_X12_powers_26 Y r1.2
  else
    (jgO Y r1.2 v0 12 26).bind fun x2 =>
    (jaI Y r1.2 x2 20 v1).bind fun x3 =>
    if x3 = 0 then
      b_X12_powers_26 Y r1.2
    else
      (f_X12_in Y v2 ((0 : Int32)) ((8 : Int32)) r1.2).bind fun r4 =>
      if r4.1 = 0 then
        b_X12_powers_26 Y r4.2
      else
        jit jF (fun (s : Int64 × Int32 × jM) => b_X12_powers_35 Y v0 v1 v2 s.1 s.2.1 s.2.2) ((0 : Int64), (0 : Int32), r4.2)
set_option maxRecDepth 10000 in
theorem t_X12_powers_26 {X : jX} {l : Launch} {n : Nat} {Y : jY} (K : jOK X RX12 cX12_powers 6 (some .long) 3) (hl : X.2.1 = l) {rr : Int64} {μr : jM} {μ : jM} {z : (Int64 × jM)} (H : b_X12_powers_26 Y μ = some z) (D : z = (rr, μr)) : JW X (jEnd X n Y (some (.long rr)) μr 0 0) 0 0 n Y 26 [] [] μ := by
  unfold b_X12_powers_26 at H
  refine r_ldc2 K (-9223372036854775808) mc_RX12_156 dX12_powers_26 ?_
  cases H
  obtain ⟨rfl, rfl⟩ := jfin2 D
  exact r_lret K dX12_powers_29
set_option maxRecDepth 10000 in
theorem t_X12_powers_35 {X : jX} {l : Launch} {n : Nat} {Y : jY} (K : jOK X RX12 cX12_powers 6 (some .long) 3) (hl : X.2.1 = l) {rr : Int64} {μr : jM} {v0 : Nat} {v1 : Int32} {v2 : Int32} {v3 : Int64} {v5 : Int32} {μ : jM} {z : ((Int64 × Int32 × jM) ⊕ (Int64 × jM))} (H : b_X12_powers_35 Y v0 v1 v2 v3 v5 μ = some z) (D : Sum.elim (fun (s : Int64 × Int32 × jM) => JW X (jEnd X n Y (some (.long rr)) μr 0 0) 0 0 n Y 35 [(0, .ref v0), (1, .int v1), (2, .int v2), (3, .long s.1), (5, .int s.2.1)] [] s.2.2) (fun r => r = (rr, μr)) z) : JW X (jEnd X n Y (some (.long rr)) μr 0 0) 0 0 n Y 35 [(0, .ref v0), (1, .int v1), (2, .int v2), (3, .long v3), (5, .int v5)] [] μ := by
  unfold b_X12_powers_35 at H
  refine r_iload K 4 dX12_powers_35 rfl ?_
  refine r_aload_n K 0 dX12_powers_37 rfl rfl ?_
  refine w_getO K vc12 inX12 26 (by decide) mF_RX12_48 dX12_powers_38 H (fun x1 H => ?_)
  refine r_iload_n K 1 dX12_powers_41 rfl rfl ?_
  refine w_iald K dX12_powers_42 H (fun x2 H => ?_)
  refine w_icmp_ge K 70 dX12_powers_43 (by decide) H (fun _ H => ?_) (fun _ H => ?_)
  · refine r_lload_n K 3 dX12_powers_70 rfl rfl ?_
    cases H
    simp only [Sum.elim_inr] at D
    obtain ⟨rfl, rfl⟩ := jfin2 D
    exact r_lret K dX12_powers_71
  · refine r_aload_n K 0 dX12_powers_46 rfl rfl ?_
    refine r_iload_n K 1 dX12_powers_47 rfl rfl ?_
    refine r_iload_n K 2 dX12_powers_48 rfl rfl ?_
    refine r_iload K 4 dX12_powers_49 rfl ?_
    refine w_callV K hl H (fun r h => c_X12_goes l h) mC_yX12_goes mM_RX12_304 mI_yX12_goes mS_yX12_goes mZ_RX12 vc12 (Nat.le_of_ble_eq_true rfl) (Nat.le_of_ble_eq_true rfl) np_yX12_goes rfl (Nat.le_of_ble_eq_true rfl) dX12_powers_51 (fun μ3 H => ?_) ⟨Nat.zero_le _, Nat.zero_le _⟩
    refine r_lload_n K 3 dX12_powers_54 rfl rfl ?_
    refine r_aload_n K 0 dX12_powers_55 rfl rfl ?_
    refine w_getO K vc12 inX12 37 (by decide) mF_RX12_81 dX12_powers_56 H (fun x4 H => ?_)
    refine r_iload K 4 dX12_powers_59 rfl ?_
    refine w_lald K dX12_powers_61 H (fun x5 H => ?_)
    refine r_ladd K dX12_powers_62 ?_
    refine r_lstore_n K [(3, .long _), (0, .ref _), (1, .int _), (2, .int _), (5, .int _)] dX12_powers_63 rfl (by decide) rfl ?_
    refine r_iinc K 4 [(5, .int _), (3, .long _), (0, .ref _), (1, .int _), (2, .int _)] (v := _ + (1 : Int32)) dX12_powers_64 rfl rfl (by decide) rfl ?_
    refine r_goto K 35 dX12_powers_67 (by decide) ?_
    cases H
    exact r_sub [2, 3, 4, 1, 0] rfl D
set_option maxRecDepth 10000 in
theorem l_X12_powers_35 {X : jX} {l : Launch} {n : Nat} {Y : jY} (K : jOK X RX12 cX12_powers 6 (some .long) 3) (hl : X.2.1 = l) {rr : Int64} {μr : jM} {v0 : Nat} {v1 : Int32} {v2 : Int32}  {s0 : Int64 × Int32 × jM} {z : (Int64 × jM)} (H : jit jF (fun (s : Int64 × Int32 × jM) => b_X12_powers_35 Y v0 v1 v2 s.1 s.2.1 s.2.2) s0 = some z) (D : z = (rr, μr)) : JW X (jEnd X n Y (some (.long rr)) μr 0 0) 0 0 n Y 35 [(0, .ref v0), (1, .int v1), (2, .int v2), (3, .long s0.1), (5, .int s0.2.1)] [] s0.2.2 :=
  jit_ind (P := fun (s : Int64 × Int32 × jM) => JW X (jEnd X n Y (some (.long rr)) μr 0 0) 0 0 n Y 35 [(0, .ref v0), (1, .int v1), (2, .int v2), (3, .long s.1), (5, .int s.2.1)] [] s.2.2) (D := fun r => r = (rr, μr)) (fun s z Hs Ds => t_X12_powers_35 K hl Hs Ds) jF s0 z H D
set_option maxRecDepth 10000 in
theorem t_X12_powers_0 {X : jX} {l : Launch} {n : Nat} {Y : jY} (K : jOK X RX12 cX12_powers 6 (some .long) 3) (hl : X.2.1 = l) {rr : Int64} {μr : jM} {v0 : Nat} {v1 : Int32} {v2 : Int32} {μ : jM} {z : (Int64 × jM)} (H : f_X12_powers Y v0 v1 v2 μ = some z) (D : z = (rr, μr)) : JW X (jEnd X n Y (some (.long rr)) μr 0 0) 0 0 n Y 0 [(0, .ref v0), (1, .int v1), (2, .int v2)] [] μ := by
  unfold f_X12_powers at H
  refine r_iload_n K 1 dX12_powers_0 rfl rfl ?_
  refine w_callS K hl H (fun r h => c_X12_isDrawer l h) mC_yX12_isDrawer mM_RX12_253 mT_yX12_isDrawer mZ_RX12 (Nat.le_of_ble_eq_true rfl) (Nat.le_of_ble_eq_true rfl) np_yX12_isDrawer rfl (Nat.le_of_ble_eq_true rfl) dX12_powers_1 (fun r1 H => ?_) ⟨Nat.zero_le _, Nat.zero_le _⟩
  refine w_if_eq K 26 dX12_powers_4 (by decide) H (fun _ H => ?_) (fun _ H => ?_)
  · exact r_sub [] rfl (t_X12_powers_26 K hl H D)
  · refine r_aload_n K 0 dX12_powers_7 rfl rfl ?_
    refine w_getO K vc12 inX12 26 (by decide) mF_RX12_48 dX12_powers_8 H (fun x2 H => ?_)
    refine r_iload_n K 1 dX12_powers_11 rfl rfl ?_
    refine w_iald K dX12_powers_12 H (fun x3 H => ?_)
    refine w_if_eq K 26 dX12_powers_13 (by decide) H (fun _ H => ?_) (fun _ H => ?_)
    · exact r_sub [] rfl (t_X12_powers_26 K hl H D)
    · refine r_iload_n K 2 dX12_powers_16 rfl rfl ?_
      refine r_iconst (v := 0) K dX12_powers_17 (by decide) ?_
      refine r_bipush (v := 8) K dX12_powers_18 (by decide) ?_
      refine w_callS K hl H (fun r h => c_X12_in l h) mC_yX12_in mM_RX12_134 mT_yX12_in mZ_RX12 (Nat.le_of_ble_eq_true rfl) (Nat.le_of_ble_eq_true rfl) np_yX12_in rfl (Nat.le_of_ble_eq_true rfl) dX12_powers_20 (fun r4 H => ?_) ⟨Nat.zero_le _, Nat.zero_le _⟩
      refine w_if_ne K 30 dX12_powers_23 (by decide) H (fun _ H => ?_) (fun _ H => ?_)
      · refine r_lconst (v := 0) K dX12_powers_30 (by decide) ?_
        refine r_lstore_n K [(3, .long _), (0, .ref _), (1, .int _), (2, .int _)] dX12_powers_31 rfl (by decide) rfl ?_
        refine r_iconst (v := 0) K dX12_powers_32 (by decide) ?_
        refine r_istore K [(5, .int _), (3, .long _), (0, .ref _), (1, .int _), (2, .int _)] dX12_powers_33 (by decide) rfl ?_
        exact r_sub [2, 3, 4, 1, 0] rfl (l_X12_powers_35 K hl H D)
      · exact r_sub [] rfl (t_X12_powers_26 K hl H D)
theorem c_X12_powers (l : Launch) {n : Nat} {Y : jY} {v0 : Nat} {v1 : Int32} {v2 : Int32} {μ : jM} {z : Int64 × jM} (H : f_X12_powers Y v0 v1 v2 μ = some z) : jC l yX12_powers cX12_powers 6 (some .long) 3 0 0 [.ref v0, .int v1, .int v2] n Y μ n Y (some (.long z.1)) z.2 := by
  refine jC_of (by decide +kernel) (Nat.le_of_ble_eq_true rfl) (fun X hl K _ _ _ => ?_)
  obtain ⟨rr, μr⟩ := z
  exact t_X12_powers_0 K hl H rfl
/-! RX12 apart()J -/
def b_X12_apart_26 (Y : jY) (v0 : Nat) (v1 : Int64) (v3 : Int32) (v4 : Int32) (μ : jM) : Option ((Int64 × Int32 × jM) ⊕ ((Int64 × Int32 × jM) ⊕ (Int64 × jM))) :=
  if v3 ≤ v4 then
    some (.inr (.inl (v1, (v3 + (1 : Int32)), μ)))
  else
    (jgO Y μ v0 12 11).bind fun x1 =>
    (jaI Y μ x1 20 v3).bind fun x2 =>
    (jgO Y μ v0 12 11).bind fun x3 =>
    (jaI Y μ x3 20 v4).bind fun x4 =>
    (jgO Y μ v0 12 11).bind fun x5 =>
    (jaI Y μ x5 20 v3).bind fun x6 =>
    (jgO Y μ v0 12 11).bind fun x7 =>
    (jaI Y μ x7 20 v4).bind fun x8 =>
    some (.inl ((((v1 * ((((x2 - x4)).toInt64)))) * ((((x6 - x8)).toInt64))), (v4 + (1 : Int32)), μ))
def b_X12_apart_15 (Y : jY) (v0 : Nat) (v1 : Int64) (v3 : Int32) (μ : jM) : Option ((Int64 × Int32 × jM) ⊕ (Int64 × jM)) :=
  (jgI Y μ v0 12 10).bind fun x1 =>
  if x1 ≤ v3 then
    some (.inr (v1, μ))
  else
    jit jF (fun (s : Int64 × Int32 × jM) => b_X12_apart_26 Y v0 s.1 v3 s.2.1 s.2.2) (v1, (0 : Int32), μ)
def f_X12_apart (Y : jY) (v0 : Nat) (μ : jM) : Option (Int64 × jM) :=
  (jgI Y μ v0 12 10).bind fun x1 =>
  if x1 = 0 then
    some ((-9223372036854775808 : Int64), μ)
  else
    jit jF (fun (s : Int64 × Int32 × jM) => b_X12_apart_15 Y v0 s.1 s.2.1 s.2.2) ((1 : Int64), (0 : Int32), μ)
set_option maxRecDepth 10000 in
theorem t_X12_apart_26 {X : jX} {l : Launch} {n : Nat} {Y : jY} (K : jOK X RX12 cX12_apart 5 (some .long) 1) (hl : X.2.1 = l) {rr : Int64} {μr : jM} {v0 : Nat} {v1 : Int64} {v3 : Int32} {v4 : Int32} {μ : jM} {z : ((Int64 × Int32 × jM) ⊕ ((Int64 × Int32 × jM) ⊕ (Int64 × jM)))} (H : b_X12_apart_26 Y v0 v1 v3 v4 μ = some z) (D : Sum.elim (fun (s : Int64 × Int32 × jM) => JW X (jEnd X n Y (some (.long rr)) μr 0 0) 0 0 n Y 26 [(0, .ref v0), (1, .long s.1), (3, .int v3), (4, .int s.2.1)] [] s.2.2) (Sum.elim (fun (s : Int64 × Int32 × jM) => JW X (jEnd X n Y (some (.long rr)) μr 0 0) 0 0 n Y 15 [(0, .ref v0), (1, .long s.1), (3, .int s.2.1)] [] s.2.2) (fun r => r = (rr, μr))) z) : JW X (jEnd X n Y (some (.long rr)) μr 0 0) 0 0 n Y 26 [(0, .ref v0), (1, .long v1), (3, .int v3), (4, .int v4)] [] μ := by
  unfold b_X12_apart_26 at H
  refine r_iload K 3 dX12_apart_26 rfl ?_
  refine r_iload_n K 2 dX12_apart_28 rfl rfl ?_
  refine w_icmp_ge K 72 dX12_apart_29 (by decide) H (fun _ H => ?_) (fun _ H => ?_)
  · refine r_iinc K 2 [(3, .int _), (0, .ref _), (1, .long _), (4, .int _)] (v := _ + (1 : Int32)) dX12_apart_72 rfl rfl (by decide) rfl ?_
    refine r_goto K 15 dX12_apart_75 (by decide) ?_
    cases H
    exact r_sub [1, 2, 0] rfl D
  · refine r_lload_n K 1 dX12_apart_32 rfl rfl ?_
    refine r_aload_n K 0 dX12_apart_33 rfl rfl ?_
    refine w_getO K vc12 inX12 11 (by decide) mF_RX12_20 dX12_apart_34 H (fun x1 H => ?_)
    refine r_iload_n K 2 dX12_apart_37 rfl rfl ?_
    refine w_iald K dX12_apart_38 H (fun x2 H => ?_)
    refine r_aload_n K 0 dX12_apart_39 rfl rfl ?_
    refine w_getO K vc12 inX12 11 (by decide) mF_RX12_20 dX12_apart_40 H (fun x3 H => ?_)
    refine r_iload K 3 dX12_apart_43 rfl ?_
    refine w_iald K dX12_apart_45 H (fun x4 H => ?_)
    refine r_isub K dX12_apart_46 ?_
    refine r_i2l K dX12_apart_47 ?_
    refine r_lmul K dX12_apart_48 ?_
    refine r_aload_n K 0 dX12_apart_49 rfl rfl ?_
    refine w_getO K vc12 inX12 11 (by decide) mF_RX12_20 dX12_apart_50 H (fun x5 H => ?_)
    refine r_iload_n K 2 dX12_apart_53 rfl rfl ?_
    refine w_iald K dX12_apart_54 H (fun x6 H => ?_)
    refine r_aload_n K 0 dX12_apart_55 rfl rfl ?_
    refine w_getO K vc12 inX12 11 (by decide) mF_RX12_20 dX12_apart_56 H (fun x7 H => ?_)
    refine r_iload K 3 dX12_apart_59 rfl ?_
    refine w_iald K dX12_apart_61 H (fun x8 H => ?_)
    refine r_isub K dX12_apart_62 ?_
    refine r_i2l K dX12_apart_63 ?_
    refine r_lmul K dX12_apart_64 ?_
    refine r_lstore_n K [(1, .long _), (0, .ref _), (3, .int _), (4, .int _)] dX12_apart_65 rfl (by decide) rfl ?_
    refine r_iinc K 3 [(4, .int _), (1, .long _), (0, .ref _), (3, .int _)] (v := _ + (1 : Int32)) dX12_apart_66 rfl rfl (by decide) rfl ?_
    refine r_goto K 26 dX12_apart_69 (by decide) ?_
    cases H
    exact r_sub [2, 1, 3, 0] rfl D
set_option maxRecDepth 10000 in
theorem l_X12_apart_26 {X : jX} {l : Launch} {n : Nat} {Y : jY} (K : jOK X RX12 cX12_apart 5 (some .long) 1) (hl : X.2.1 = l) {rr : Int64} {μr : jM} {v0 : Nat} {v3 : Int32}  {s0 : Int64 × Int32 × jM} {z : ((Int64 × Int32 × jM) ⊕ (Int64 × jM))} (H : jit jF (fun (s : Int64 × Int32 × jM) => b_X12_apart_26 Y v0 s.1 v3 s.2.1 s.2.2) s0 = some z) (D : Sum.elim (fun (s : Int64 × Int32 × jM) => JW X (jEnd X n Y (some (.long rr)) μr 0 0) 0 0 n Y 15 [(0, .ref v0), (1, .long s.1), (3, .int s.2.1)] [] s.2.2) (fun r => r = (rr, μr)) z) : JW X (jEnd X n Y (some (.long rr)) μr 0 0) 0 0 n Y 26 [(0, .ref v0), (1, .long s0.1), (3, .int v3), (4, .int s0.2.1)] [] s0.2.2 :=
  jit_ind (P := fun (s : Int64 × Int32 × jM) => JW X (jEnd X n Y (some (.long rr)) μr 0 0) 0 0 n Y 26 [(0, .ref v0), (1, .long s.1), (3, .int v3), (4, .int s.2.1)] [] s.2.2) (D := Sum.elim (fun (s : Int64 × Int32 × jM) => JW X (jEnd X n Y (some (.long rr)) μr 0 0) 0 0 n Y 15 [(0, .ref v0), (1, .long s.1), (3, .int s.2.1)] [] s.2.2) (fun r => r = (rr, μr))) (fun s z Hs Ds => t_X12_apart_26 K hl Hs Ds) jF s0 z H D
set_option maxRecDepth 10000 in
theorem t_X12_apart_15 {X : jX} {l : Launch} {n : Nat} {Y : jY} (K : jOK X RX12 cX12_apart 5 (some .long) 1) (hl : X.2.1 = l) {rr : Int64} {μr : jM} {v0 : Nat} {v1 : Int64} {v3 : Int32} {μ : jM} {z : ((Int64 × Int32 × jM) ⊕ (Int64 × jM))} (H : b_X12_apart_15 Y v0 v1 v3 μ = some z) (D : Sum.elim (fun (s : Int64 × Int32 × jM) => JW X (jEnd X n Y (some (.long rr)) μr 0 0) 0 0 n Y 15 [(0, .ref v0), (1, .long s.1), (3, .int s.2.1)] [] s.2.2) (fun r => r = (rr, μr)) z) : JW X (jEnd X n Y (some (.long rr)) μr 0 0) 0 0 n Y 15 [(0, .ref v0), (1, .long v1), (3, .int v3)] [] μ := by
  unfold b_X12_apart_15 at H
  refine r_iload_n K 2 dX12_apart_15 rfl rfl ?_
  refine r_aload_n K 0 dX12_apart_16 rfl rfl ?_
  refine w_getI K vc12 inX12 10 (by decide) mF_RX12_145 dX12_apart_17 H (fun x1 H => ?_)
  refine w_icmp_ge K 78 dX12_apart_20 (by decide) H (fun _ H => ?_) (fun _ H => ?_)
  · refine r_lload_n K 1 dX12_apart_78 rfl rfl ?_
    cases H
    simp only [Sum.elim_inr] at D
    obtain ⟨rfl, rfl⟩ := jfin2 D
    exact r_lret K dX12_apart_79
  · refine r_iconst (v := 0) K dX12_apart_23 (by decide) ?_
    refine r_istore K [(4, .int _), (0, .ref _), (1, .long _), (3, .int _)] dX12_apart_24 (by decide) rfl ?_
    exact r_sub [1, 2, 3, 0] rfl (l_X12_apart_26 K hl H D)
set_option maxRecDepth 10000 in
theorem l_X12_apart_15 {X : jX} {l : Launch} {n : Nat} {Y : jY} (K : jOK X RX12 cX12_apart 5 (some .long) 1) (hl : X.2.1 = l) {rr : Int64} {μr : jM} {v0 : Nat}  {s0 : Int64 × Int32 × jM} {z : (Int64 × jM)} (H : jit jF (fun (s : Int64 × Int32 × jM) => b_X12_apart_15 Y v0 s.1 s.2.1 s.2.2) s0 = some z) (D : z = (rr, μr)) : JW X (jEnd X n Y (some (.long rr)) μr 0 0) 0 0 n Y 15 [(0, .ref v0), (1, .long s0.1), (3, .int s0.2.1)] [] s0.2.2 :=
  jit_ind (P := fun (s : Int64 × Int32 × jM) => JW X (jEnd X n Y (some (.long rr)) μr 0 0) 0 0 n Y 15 [(0, .ref v0), (1, .long s.1), (3, .int s.2.1)] [] s.2.2) (D := fun r => r = (rr, μr)) (fun s z Hs Ds => t_X12_apart_15 K hl Hs Ds) jF s0 z H D
set_option maxRecDepth 10000 in
theorem t_X12_apart_0 {X : jX} {l : Launch} {n : Nat} {Y : jY} (K : jOK X RX12 cX12_apart 5 (some .long) 1) (hl : X.2.1 = l) {rr : Int64} {μr : jM} {v0 : Nat} {μ : jM} {z : (Int64 × jM)} (H : f_X12_apart Y v0 μ = some z) (D : z = (rr, μr)) : JW X (jEnd X n Y (some (.long rr)) μr 0 0) 0 0 n Y 0 [(0, .ref v0)] [] μ := by
  unfold f_X12_apart at H
  refine r_aload_n K 0 dX12_apart_0 rfl rfl ?_
  refine w_getI K vc12 inX12 10 (by decide) mF_RX12_145 dX12_apart_1 H (fun x1 H => ?_)
  refine w_if_ne K 11 dX12_apart_4 (by decide) H (fun _ H => ?_) (fun _ H => ?_)
  · refine r_lconst (v := 1) K dX12_apart_11 (by decide) ?_
    refine r_lstore_n K [(1, .long _), (0, .ref _)] dX12_apart_12 rfl (by decide) rfl ?_
    refine r_iconst (v := 0) K dX12_apart_13 (by decide) ?_
    refine r_istore_n K [(3, .int _), (1, .long _), (0, .ref _)] dX12_apart_14 rfl (by decide) rfl ?_
    exact r_sub [2, 1, 0] rfl (l_X12_apart_15 K hl H D)
  · refine r_ldc2 K (-9223372036854775808) mc_RX12_156 dX12_apart_7 ?_
    cases H
    obtain ⟨rfl, rfl⟩ := jfin2 D
    exact r_lret K dX12_apart_10
theorem c_X12_apart (l : Launch) {n : Nat} {Y : jY} {v0 : Nat} {μ : jM} {z : Int64 × jM} (H : f_X12_apart Y v0 μ = some z) : jC l yX12_apart cX12_apart 5 (some .long) 1 0 0 [.ref v0] n Y μ n Y (some (.long z.1)) z.2 := by
  refine jC_of (by decide +kernel) (Nat.le_of_ble_eq_true rfl) (fun X hl K _ _ _ => ?_)
  obtain ⟨rr, μr⟩ := z
  exact t_X12_apart_0 K hl H rfl
/-! RX12 laysChain()Z -/
def b_X12_laysChain_17 (Y : jY) (μ : jM) : Option (Int32 × jM) :=
  (jbool ((0 : Int32))).bind fun x1 =>
  some (x1, μ)
def b_X12_laysChain_228 (Y : jY) (v0 : Nat) (v1 : Int32) (μ : jM) : Option ((Int32 × jM) ⊕ (Int32 × jM)) :=
  (jgO Y μ v0 12 20).bind fun x1 =>
  (jgL Y μ v0 12 16).bind fun x2 =>
  (jas Y μ x1 21 v1 (.long x2)).bind fun μ3 =>
  (jgO Y μ3 v0 12 21).bind fun x4 =>
  (jgL Y μ3 v0 12 17).bind fun x5 =>
  (jas Y μ3 x4 21 v1 (.long x5)).bind fun μ6 =>
  some (.inl ((v1 + (-1 : Int32)), μ6))
def b_X12_laysChain_156 (Y : jY) (v0 : Nat) (v1 : Int32) (μ : jM) : Option ((Int32 × jM) ⊕ (Int32 × jM)) :=
  (jgO Y μ v0 12 18).bind fun x1 =>
  (jgL Y μ v0 12 16).bind fun x2 =>
  (jas Y μ x1 21 v1 (.long x2)).bind fun μ3 =>
  (jgO Y μ3 v0 12 19).bind fun x4 =>
  (jgL Y μ3 v0 12 17).bind fun x5 =>
  (jas Y μ3 x4 21 v1 (.long x5)).bind fun μ6 =>
  (jrcv Y v0 12 (f_X12_laysA Y v0 v1 μ6)).bind fun μ7 =>
  (jgO Y μ7 v0 12 18).bind fun x8 =>
  (jaL Y μ7 x8 21 v1).bind fun x9 =>
  (jgO Y μ7 v0 12 19).bind fun x10 =>
  (jaL Y μ7 x10 21 v1).bind fun x11 =>
  (jrcv Y v0 12 (f_X12_multiplies Y v0 x9 x11 μ7)).bind fun μ12 =>
  (jgI Y μ12 v0 12 10).bind fun x13 =>
  if ((x13 - ((1 : Int32)))) ≤ v1 then
    b_X12_laysChain_228 Y v0 v1 μ12
  else
    (jgO Y μ12 v0 12 20).bind fun x14 =>
    (jaL Y μ12 x14 21 ((v1 + ((1 : Int32))))).bind fun x15 =>
    (jgO Y μ12 v0 12 21).bind fun x16 =>
    (jaL Y μ12 x16 21 ((v1 + ((1 : Int32))))).bind fun x17 =>
    (jrcv Y v0 12 (f_X12_adds Y v0 ((-x15)) x17 μ12)).bind fun μ18 =>
    b_X12_laysChain_228 Y v0 v1 μ18
def b_X12_laysChain_30 (Y : jY) (v0 : Nat) (v1 : Int32) (μ : jM) : Option ((Int32 × jM) ⊕ (Int32 × jM)) :=
  if v1 < 0 then
    (jbool ((1 : Int32))).bind fun x1 =>
    some (.inr (x1, μ))
  else
    (jgI Y μ v0 12 10).bind fun x2 =>
    if v1 = ((x2 - ((1 : Int32)))) then
      (jrcv Y v0 12 (f_X12_sets Y v0 ((1 : Int64)) ((1 : Int64)) μ)).bind fun μ25 =>
      b_X12_laysChain_156 Y v0 v1 μ25
    else
      (jgO Y μ v0 12 20).bind fun x3 =>
      (jaL Y μ x3 21 ((v1 + ((1 : Int32))))).bind fun x4 =>
      (jgO Y μ v0 12 21).bind fun x5 =>
      (jaL Y μ x5 21 ((v1 + ((1 : Int32))))).bind fun x6 =>
      (jrcv Y v0 12 (f_X12_sets Y v0 x4 x6 μ)).bind fun μ7 =>
      (jgO Y μ7 v0 12 20).bind fun x8 =>
      (jaL Y μ7 x8 21 ((v1 + ((1 : Int32))))).bind fun x9 =>
      (jgO Y μ7 v0 12 21).bind fun x10 =>
      (jaL Y μ7 x10 21 ((v1 + ((1 : Int32))))).bind fun x11 =>
      (jrcv Y v0 12 (f_X12_multiplies Y v0 x9 x11 μ7)).bind fun μ12 =>
      (jgO Y μ12 v0 12 19).bind fun x13 =>
      (jaL Y μ12 x13 21 ((v1 + ((1 : Int32))))).bind fun x14 =>
      (jgO Y μ12 v0 12 18).bind fun x15 =>
      (jaL Y μ12 x15 21 ((v1 + ((1 : Int32))))).bind fun x16 =>
      (jrcv Y v0 12 (f_X12_multiplies Y v0 x14 x16 μ12)).bind fun μ17 =>
      (jgL Y μ17 v0 12 16).bind fun x18 =>
      (jgL Y μ17 v0 12 17).bind fun x19 =>
      (jrcv Y v0 12 (f_X12_laysC Y v0 v1 μ17)).bind fun μ20 =>
      (jgL Y μ20 v0 12 16).bind fun x21 =>
      (jgL Y μ20 v0 12 17).bind fun x22 =>
      (jrcv Y v0 12 (f_X12_sets Y v0 x18 x19 μ20)).bind fun μ23 =>
      (jrcv Y v0 12 (f_X12_multiplies Y v0 x22 x21 μ23)).bind fun μ24 =>
      b_X12_laysChain_156 Y v0 v1 μ24
def f_X12_laysChain (Y : jY) (v0 : Nat) (μ : jM) : Option (Int32 × jM) :=
  (jgI Y μ v0 12 10).bind fun x1 =>
  if ((3 : Int32)) < x1 then
    b_X12_laysChain_17 Y μ
  else
    (jgO Y μ v0 12 11).bind fun x2 =>
    (jaI Y μ x2 20 ((0 : Int32))).bind fun x3 =>
    if 0 < x3 then
      (jrcv Y v0 12 (f_X12_laysTones Y v0 μ)).bind fun μ4 =>
      (jgI Y μ4 v0 12 10).bind fun x5 =>
      jit jF (fun (s : Int32 × jM) => b_X12_laysChain_30 Y v0 s.1 s.2) ((x5 - ((1 : Int32))), μ4)
    else
      b_X12_laysChain_17 Y μ
set_option maxRecDepth 10000 in
theorem t_X12_laysChain_17 {X : jX} {l : Launch} {n : Nat} {Y : jY} (K : jOK X RX12 cX12_laysChain 10 (some .boolean) 8) (hl : X.2.1 = l) {rr : Int32} {μr : jM} {μ : jM} {z : (Int32 × jM)} (H : b_X12_laysChain_17 Y μ = some z) (D : z = (rr, μr)) : JW X (jEnd X n Y (some (.int rr)) μr 0 0) 0 0 n Y 17 [] [] μ := by
  unfold b_X12_laysChain_17 at H
  refine r_iconst (v := 0) K dX12_laysChain_17 (by decide) ?_
  refine w_zret K dX12_laysChain_18 H (fun hz H => ?_)
  cases H
  obtain ⟨rfl, rfl⟩ := jfin2 D
  exact r_zret K hz dX12_laysChain_18
set_option maxRecDepth 10000 in
theorem t_X12_laysChain_228 {X : jX} {l : Launch} {n : Nat} {Y : jY} (K : jOK X RX12 cX12_laysChain 10 (some .boolean) 8) (hl : X.2.1 = l) {rr : Int32} {μr : jM} {v0 : Nat} {v1 : Int32} {μ : jM} {z : ((Int32 × jM) ⊕ (Int32 × jM))} (H : b_X12_laysChain_228 Y v0 v1 μ = some z) (D : Sum.elim (fun (s : Int32 × jM) => JW X (jEnd X n Y (some (.int rr)) μr 0 0) 0 0 n Y 30 [(0, .ref v0), (1, .int s.1)] [] s.2) (fun r => r = (rr, μr)) z) : JW X (jEnd X n Y (some (.int rr)) μr 0 0) 0 0 n Y 228 [(0, .ref v0), (1, .int v1)] [] μ := by
  unfold b_X12_laysChain_228 at H
  refine r_aload_n K 0 dX12_laysChain_228 rfl rfl ?_
  refine w_getO K vc12 inX12 20 (by decide) mF_RX12_42 dX12_laysChain_229 H (fun x1 H => ?_)
  refine r_iload_n K 1 dX12_laysChain_232 rfl rfl ?_
  refine r_aload_n K 0 dX12_laysChain_233 rfl rfl ?_
  refine w_getL K vc12 inX12 16 (by decide) mF_RX12_177 dX12_laysChain_234 H (fun x2 H => ?_)
  refine w_last K dX12_laysChain_237 H (fun μ3 H => ?_)
  refine r_aload_n K 0 dX12_laysChain_238 rfl rfl ?_
  refine w_getO K vc12 inX12 21 (by decide) mF_RX12_45 dX12_laysChain_239 H (fun x4 H => ?_)
  refine r_iload_n K 1 dX12_laysChain_242 rfl rfl ?_
  refine r_aload_n K 0 dX12_laysChain_243 rfl rfl ?_
  refine w_getL K vc12 inX12 17 (by decide) mF_RX12_181 dX12_laysChain_244 H (fun x5 H => ?_)
  refine w_last K dX12_laysChain_247 H (fun μ6 H => ?_)
  refine r_iinc K 1 [(1, .int _), (0, .ref _)] (v := _ + (-1 : Int32)) dX12_laysChain_248 rfl rfl (by decide) rfl ?_
  refine r_goto K 30 dX12_laysChain_251 (by decide) ?_
  cases H
  exact r_sub [1, 0] rfl D
set_option maxRecDepth 10000 in
theorem t_X12_laysChain_156 {X : jX} {l : Launch} {n : Nat} {Y : jY} (K : jOK X RX12 cX12_laysChain 10 (some .boolean) 8) (hl : X.2.1 = l) {rr : Int32} {μr : jM} {v0 : Nat} {v1 : Int32} {μ : jM} {z : ((Int32 × jM) ⊕ (Int32 × jM))} (H : b_X12_laysChain_156 Y v0 v1 μ = some z) (D : Sum.elim (fun (s : Int32 × jM) => JW X (jEnd X n Y (some (.int rr)) μr 0 0) 0 0 n Y 30 [(0, .ref v0), (1, .int s.1)] [] s.2) (fun r => r = (rr, μr)) z) : JW X (jEnd X n Y (some (.int rr)) μr 0 0) 0 0 n Y 156 [(0, .ref v0), (1, .int v1)] [] μ := by
  unfold b_X12_laysChain_156 at H
  refine r_aload_n K 0 dX12_laysChain_156 rfl rfl ?_
  refine w_getO K vc12 inX12 18 (by decide) mF_RX12_36 dX12_laysChain_157 H (fun x1 H => ?_)
  refine r_iload_n K 1 dX12_laysChain_160 rfl rfl ?_
  refine r_aload_n K 0 dX12_laysChain_161 rfl rfl ?_
  refine w_getL K vc12 inX12 16 (by decide) mF_RX12_177 dX12_laysChain_162 H (fun x2 H => ?_)
  refine w_last K dX12_laysChain_165 H (fun μ3 H => ?_)
  refine r_aload_n K 0 dX12_laysChain_166 rfl rfl ?_
  refine w_getO K vc12 inX12 19 (by decide) mF_RX12_39 dX12_laysChain_167 H (fun x4 H => ?_)
  refine r_iload_n K 1 dX12_laysChain_170 rfl rfl ?_
  refine r_aload_n K 0 dX12_laysChain_171 rfl rfl ?_
  refine w_getL K vc12 inX12 17 (by decide) mF_RX12_181 dX12_laysChain_172 H (fun x5 H => ?_)
  refine w_last K dX12_laysChain_175 H (fun μ6 H => ?_)
  refine r_aload_n K 0 dX12_laysChain_176 rfl rfl ?_
  refine r_iload_n K 1 dX12_laysChain_177 rfl rfl ?_
  refine w_callV K hl H (fun r h => c_X12_laysA l h) mC_yX12_laysA mM_RX12_211 mI_yX12_laysA mS_yX12_laysA mZ_RX12 vc12 (Nat.le_of_ble_eq_true rfl) (Nat.le_of_ble_eq_true rfl) np_yX12_laysA rfl (Nat.le_of_ble_eq_true rfl) dX12_laysChain_178 (fun μ7 H => ?_) ⟨Nat.zero_le _, Nat.zero_le _⟩
  refine r_aload_n K 0 dX12_laysChain_181 rfl rfl ?_
  refine r_aload_n K 0 dX12_laysChain_182 rfl rfl ?_
  refine w_getO K vc12 inX12 18 (by decide) mF_RX12_36 dX12_laysChain_183 H (fun x8 H => ?_)
  refine r_iload_n K 1 dX12_laysChain_186 rfl rfl ?_
  refine w_lald K dX12_laysChain_187 H (fun x9 H => ?_)
  refine r_aload_n K 0 dX12_laysChain_188 rfl rfl ?_
  refine w_getO K vc12 inX12 19 (by decide) mF_RX12_39 dX12_laysChain_189 H (fun x10 H => ?_)
  refine r_iload_n K 1 dX12_laysChain_192 rfl rfl ?_
  refine w_lald K dX12_laysChain_193 H (fun x11 H => ?_)
  refine w_callV K hl H (fun r h => c_X12_multiplies l h) mC_yX12_multiplies mM_RX12_208 mI_yX12_multiplies mS_yX12_multiplies mZ_RX12 vc12 (Nat.le_of_ble_eq_true rfl) (Nat.le_of_ble_eq_true rfl) np_yX12_multiplies rfl (Nat.le_of_ble_eq_true rfl) dX12_laysChain_194 (fun μ12 H => ?_) ⟨Nat.zero_le _, Nat.zero_le _⟩
  refine r_iload_n K 1 dX12_laysChain_197 rfl rfl ?_
  refine r_aload_n K 0 dX12_laysChain_198 rfl rfl ?_
  refine w_getI K vc12 inX12 10 (by decide) mF_RX12_145 dX12_laysChain_199 H (fun x13 H => ?_)
  refine r_iconst (v := 1) K dX12_laysChain_202 (by decide) ?_
  refine r_isub K dX12_laysChain_203 ?_
  refine w_icmp_ge K 228 dX12_laysChain_204 (by decide) H (fun _ H => ?_) (fun _ H => ?_)
  · exact r_sub [0, 1] rfl (t_X12_laysChain_228 K hl H D)
  · refine r_aload_n K 0 dX12_laysChain_207 rfl rfl ?_
    refine r_aload_n K 0 dX12_laysChain_208 rfl rfl ?_
    refine w_getO K vc12 inX12 20 (by decide) mF_RX12_42 dX12_laysChain_209 H (fun x14 H => ?_)
    refine r_iload_n K 1 dX12_laysChain_212 rfl rfl ?_
    refine r_iconst (v := 1) K dX12_laysChain_213 (by decide) ?_
    refine r_iadd K dX12_laysChain_214 ?_
    refine w_lald K dX12_laysChain_215 H (fun x15 H => ?_)
    refine r_lneg K dX12_laysChain_216 ?_
    refine r_aload_n K 0 dX12_laysChain_217 rfl rfl ?_
    refine w_getO K vc12 inX12 21 (by decide) mF_RX12_45 dX12_laysChain_218 H (fun x16 H => ?_)
    refine r_iload_n K 1 dX12_laysChain_221 rfl rfl ?_
    refine r_iconst (v := 1) K dX12_laysChain_222 (by decide) ?_
    refine r_iadd K dX12_laysChain_223 ?_
    refine w_lald K dX12_laysChain_224 H (fun x17 H => ?_)
    refine w_callV K hl H (fun r h => c_X12_adds l h) mC_yX12_adds mM_RX12_205 mI_yX12_adds mS_yX12_adds mZ_RX12 vc12 (Nat.le_of_ble_eq_true rfl) (Nat.le_of_ble_eq_true rfl) np_yX12_adds rfl (Nat.le_of_ble_eq_true rfl) dX12_laysChain_225 (fun μ18 H => ?_) ⟨Nat.zero_le _, Nat.zero_le _⟩
    exact r_sub [0, 1] rfl (t_X12_laysChain_228 K hl H D)
set_option maxRecDepth 10000 in
theorem t_X12_laysChain_30 {X : jX} {l : Launch} {n : Nat} {Y : jY} (K : jOK X RX12 cX12_laysChain 10 (some .boolean) 8) (hl : X.2.1 = l) {rr : Int32} {μr : jM} {v0 : Nat} {v1 : Int32} {μ : jM} {z : ((Int32 × jM) ⊕ (Int32 × jM))} (H : b_X12_laysChain_30 Y v0 v1 μ = some z) (D : Sum.elim (fun (s : Int32 × jM) => JW X (jEnd X n Y (some (.int rr)) μr 0 0) 0 0 n Y 30 [(0, .ref v0), (1, .int s.1)] [] s.2) (fun r => r = (rr, μr)) z) : JW X (jEnd X n Y (some (.int rr)) μr 0 0) 0 0 n Y 30 [(0, .ref v0), (1, .int v1)] [] μ := by
  unfold b_X12_laysChain_30 at H
  refine r_iload_n K 1 dX12_laysChain_30 rfl rfl ?_
  refine w_if_lt K 254 dX12_laysChain_31 (by decide) H (fun _ H => ?_) (fun _ H => ?_)
  · refine r_iconst (v := 1) K dX12_laysChain_254 (by decide) ?_
    refine w_zret K dX12_laysChain_255 H (fun hz H => ?_)
    cases H
    simp only [Sum.elim_inr] at D
    obtain ⟨rfl, rfl⟩ := jfin2 D
    exact r_zret K hz dX12_laysChain_255
  · refine r_iload_n K 1 dX12_laysChain_34 rfl rfl ?_
    refine r_aload_n K 0 dX12_laysChain_35 rfl rfl ?_
    refine w_getI K vc12 inX12 10 (by decide) mF_RX12_145 dX12_laysChain_36 H (fun x2 H => ?_)
    refine r_iconst (v := 1) K dX12_laysChain_39 (by decide) ?_
    refine r_isub K dX12_laysChain_40 ?_
    refine w_icmp_ne K 53 dX12_laysChain_41 (by decide) H (fun _ H => ?_) (fun _ H => ?_)
    · refine r_aload_n K 0 dX12_laysChain_53 rfl rfl ?_
      refine r_aload_n K 0 dX12_laysChain_54 rfl rfl ?_
      refine w_getO K vc12 inX12 20 (by decide) mF_RX12_42 dX12_laysChain_55 H (fun x3 H => ?_)
      refine r_iload_n K 1 dX12_laysChain_58 rfl rfl ?_
      refine r_iconst (v := 1) K dX12_laysChain_59 (by decide) ?_
      refine r_iadd K dX12_laysChain_60 ?_
      refine w_lald K dX12_laysChain_61 H (fun x4 H => ?_)
      refine r_aload_n K 0 dX12_laysChain_62 rfl rfl ?_
      refine w_getO K vc12 inX12 21 (by decide) mF_RX12_45 dX12_laysChain_63 H (fun x5 H => ?_)
      refine r_iload_n K 1 dX12_laysChain_66 rfl rfl ?_
      refine r_iconst (v := 1) K dX12_laysChain_67 (by decide) ?_
      refine r_iadd K dX12_laysChain_68 ?_
      refine w_lald K dX12_laysChain_69 H (fun x6 H => ?_)
      refine w_callV K hl H (fun r h => c_X12_sets l h) mC_yX12_sets mM_RX12_191 mI_yX12_sets mS_yX12_sets mZ_RX12 vc12 (Nat.le_of_ble_eq_true rfl) (Nat.le_of_ble_eq_true rfl) np_yX12_sets rfl (Nat.le_of_ble_eq_true rfl) dX12_laysChain_70 (fun μ7 H => ?_) ⟨Nat.zero_le _, Nat.zero_le _⟩
      refine r_aload_n K 0 dX12_laysChain_73 rfl rfl ?_
      refine r_aload_n K 0 dX12_laysChain_74 rfl rfl ?_
      refine w_getO K vc12 inX12 20 (by decide) mF_RX12_42 dX12_laysChain_75 H (fun x8 H => ?_)
      refine r_iload_n K 1 dX12_laysChain_78 rfl rfl ?_
      refine r_iconst (v := 1) K dX12_laysChain_79 (by decide) ?_
      refine r_iadd K dX12_laysChain_80 ?_
      refine w_lald K dX12_laysChain_81 H (fun x9 H => ?_)
      refine r_aload_n K 0 dX12_laysChain_82 rfl rfl ?_
      refine w_getO K vc12 inX12 21 (by decide) mF_RX12_45 dX12_laysChain_83 H (fun x10 H => ?_)
      refine r_iload_n K 1 dX12_laysChain_86 rfl rfl ?_
      refine r_iconst (v := 1) K dX12_laysChain_87 (by decide) ?_
      refine r_iadd K dX12_laysChain_88 ?_
      refine w_lald K dX12_laysChain_89 H (fun x11 H => ?_)
      refine w_callV K hl H (fun r h => c_X12_multiplies l h) mC_yX12_multiplies mM_RX12_208 mI_yX12_multiplies mS_yX12_multiplies mZ_RX12 vc12 (Nat.le_of_ble_eq_true rfl) (Nat.le_of_ble_eq_true rfl) np_yX12_multiplies rfl (Nat.le_of_ble_eq_true rfl) dX12_laysChain_90 (fun μ12 H => ?_) ⟨Nat.zero_le _, Nat.zero_le _⟩
      refine r_aload_n K 0 dX12_laysChain_93 rfl rfl ?_
      refine r_aload_n K 0 dX12_laysChain_94 rfl rfl ?_
      refine w_getO K vc12 inX12 19 (by decide) mF_RX12_39 dX12_laysChain_95 H (fun x13 H => ?_)
      refine r_iload_n K 1 dX12_laysChain_98 rfl rfl ?_
      refine r_iconst (v := 1) K dX12_laysChain_99 (by decide) ?_
      refine r_iadd K dX12_laysChain_100 ?_
      refine w_lald K dX12_laysChain_101 H (fun x14 H => ?_)
      refine r_aload_n K 0 dX12_laysChain_102 rfl rfl ?_
      refine w_getO K vc12 inX12 18 (by decide) mF_RX12_36 dX12_laysChain_103 H (fun x15 H => ?_)
      refine r_iload_n K 1 dX12_laysChain_106 rfl rfl ?_
      refine r_iconst (v := 1) K dX12_laysChain_107 (by decide) ?_
      refine r_iadd K dX12_laysChain_108 ?_
      refine w_lald K dX12_laysChain_109 H (fun x16 H => ?_)
      refine w_callV K hl H (fun r h => c_X12_multiplies l h) mC_yX12_multiplies mM_RX12_208 mI_yX12_multiplies mS_yX12_multiplies mZ_RX12 vc12 (Nat.le_of_ble_eq_true rfl) (Nat.le_of_ble_eq_true rfl) np_yX12_multiplies rfl (Nat.le_of_ble_eq_true rfl) dX12_laysChain_110 (fun μ17 H => ?_) ⟨Nat.zero_le _, Nat.zero_le _⟩
      refine r_aload_n K 0 dX12_laysChain_113 rfl rfl ?_
      refine w_getL K vc12 inX12 16 (by decide) mF_RX12_177 dX12_laysChain_114 H (fun x18 H => ?_)
      refine r_lstore_n K [(2, .long _), (0, .ref _), (1, .int _)] dX12_laysChain_117 rfl (by decide) rfl ?_
      refine r_aload_n K 1 dX12_laysChain_118 rfl rfl ?_
      refine w_getL K vc12 inX12 17 (by decide) mF_RX12_181 dX12_laysChain_119 H (fun x19 H => ?_)
      refine r_lstore K [(4, .long _), (2, .long _), (0, .ref _), (1, .int _)] dX12_laysChain_122 (by decide) rfl ?_
      refine r_aload_n K 2 dX12_laysChain_124 rfl rfl ?_
      refine r_iload_n K 3 dX12_laysChain_125 rfl rfl ?_
      refine w_callV K hl H (fun r h => c_X12_laysC l h) mC_yX12_laysC mM_RX12_214 mI_yX12_laysC mS_yX12_laysC mZ_RX12 vc12 (Nat.le_of_ble_eq_true rfl) (Nat.le_of_ble_eq_true rfl) np_yX12_laysC rfl (Nat.le_of_ble_eq_true rfl) dX12_laysChain_126 (fun μ20 H => ?_) ⟨Nat.zero_le _, Nat.zero_le _⟩
      refine r_aload_n K 2 dX12_laysChain_129 rfl rfl ?_
      refine w_getL K vc12 inX12 16 (by decide) mF_RX12_177 dX12_laysChain_130 H (fun x21 H => ?_)
      refine r_lstore K [(6, .long _), (4, .long _), (2, .long _), (0, .ref _), (1, .int _)] dX12_laysChain_133 (by decide) rfl ?_
      refine r_aload_n K 3 dX12_laysChain_135 rfl rfl ?_
      refine w_getL K vc12 inX12 17 (by decide) mF_RX12_181 dX12_laysChain_136 H (fun x22 H => ?_)
      refine r_lstore K [(8, .long _), (6, .long _), (4, .long _), (2, .long _), (0, .ref _), (1, .int _)] dX12_laysChain_139 (by decide) rfl ?_
      refine r_aload_n K 4 dX12_laysChain_141 rfl rfl ?_
      refine r_lload_n K 3 dX12_laysChain_142 rfl rfl ?_
      refine r_lload K 2 dX12_laysChain_143 rfl ?_
      refine w_callV K hl H (fun r h => c_X12_sets l h) mC_yX12_sets mM_RX12_191 mI_yX12_sets mS_yX12_sets mZ_RX12 vc12 (Nat.le_of_ble_eq_true rfl) (Nat.le_of_ble_eq_true rfl) np_yX12_sets rfl (Nat.le_of_ble_eq_true rfl) dX12_laysChain_145 (fun μ23 H => ?_) ⟨Nat.zero_le _, Nat.zero_le _⟩
      refine r_aload_n K 4 dX12_laysChain_148 rfl rfl ?_
      refine r_lload K 0 dX12_laysChain_149 rfl ?_
      refine r_lload K 1 dX12_laysChain_151 rfl ?_
      refine w_callV K hl H (fun r h => c_X12_multiplies l h) mC_yX12_multiplies mM_RX12_208 mI_yX12_multiplies mS_yX12_multiplies mZ_RX12 vc12 (Nat.le_of_ble_eq_true rfl) (Nat.le_of_ble_eq_true rfl) np_yX12_multiplies rfl (Nat.le_of_ble_eq_true rfl) dX12_laysChain_153 (fun μ24 H => ?_) ⟨Nat.zero_le _, Nat.zero_le _⟩
      exact r_sub [4, 5] rfl (t_X12_laysChain_156 K hl H D)
    · refine r_aload_n K 0 dX12_laysChain_44 rfl rfl ?_
      refine r_lconst (v := 1) K dX12_laysChain_45 (by decide) ?_
      refine r_lconst (v := 1) K dX12_laysChain_46 (by decide) ?_
      refine w_callV K hl H (fun r h => c_X12_sets l h) mC_yX12_sets mM_RX12_191 mI_yX12_sets mS_yX12_sets mZ_RX12 vc12 (Nat.le_of_ble_eq_true rfl) (Nat.le_of_ble_eq_true rfl) np_yX12_sets rfl (Nat.le_of_ble_eq_true rfl) dX12_laysChain_47 (fun μ25 H => ?_) ⟨Nat.zero_le _, Nat.zero_le _⟩
      refine r_goto K 156 dX12_laysChain_50 (by decide) ?_
      exact r_sub [0, 1] rfl (t_X12_laysChain_156 K hl H D)
set_option maxRecDepth 10000 in
theorem l_X12_laysChain_30 {X : jX} {l : Launch} {n : Nat} {Y : jY} (K : jOK X RX12 cX12_laysChain 10 (some .boolean) 8) (hl : X.2.1 = l) {rr : Int32} {μr : jM} {v0 : Nat}  {s0 : Int32 × jM} {z : (Int32 × jM)} (H : jit jF (fun (s : Int32 × jM) => b_X12_laysChain_30 Y v0 s.1 s.2) s0 = some z) (D : z = (rr, μr)) : JW X (jEnd X n Y (some (.int rr)) μr 0 0) 0 0 n Y 30 [(0, .ref v0), (1, .int s0.1)] [] s0.2 :=
  jit_ind (P := fun (s : Int32 × jM) => JW X (jEnd X n Y (some (.int rr)) μr 0 0) 0 0 n Y 30 [(0, .ref v0), (1, .int s.1)] [] s.2) (D := fun r => r = (rr, μr)) (fun s z Hs Ds => t_X12_laysChain_30 K hl Hs Ds) jF s0 z H D
set_option maxRecDepth 10000 in
theorem t_X12_laysChain_0 {X : jX} {l : Launch} {n : Nat} {Y : jY} (K : jOK X RX12 cX12_laysChain 10 (some .boolean) 8) (hl : X.2.1 = l) {rr : Int32} {μr : jM} {v0 : Nat} {μ : jM} {z : (Int32 × jM)} (H : f_X12_laysChain Y v0 μ = some z) (D : z = (rr, μr)) : JW X (jEnd X n Y (some (.int rr)) μr 0 0) 0 0 n Y 0 [(0, .ref v0)] [] μ := by
  unfold f_X12_laysChain at H
  refine r_aload_n K 0 dX12_laysChain_0 rfl rfl ?_
  refine w_getI K vc12 inX12 10 (by decide) mF_RX12_145 dX12_laysChain_1 H (fun x1 H => ?_)
  refine r_iconst (v := 3) K dX12_laysChain_4 (by decide) ?_
  refine w_icmp_gt K 17 dX12_laysChain_5 (by decide) H (fun _ H => ?_) (fun _ H => ?_)
  · exact r_sub [] rfl (t_X12_laysChain_17 K hl H D)
  · refine r_aload_n K 0 dX12_laysChain_8 rfl rfl ?_
    refine w_getO K vc12 inX12 11 (by decide) mF_RX12_20 dX12_laysChain_9 H (fun x2 H => ?_)
    refine r_iconst (v := 0) K dX12_laysChain_12 (by decide) ?_
    refine w_iald K dX12_laysChain_13 H (fun x3 H => ?_)
    refine w_if_gt K 19 dX12_laysChain_14 (by decide) H (fun _ H => ?_) (fun _ H => ?_)
    · refine r_aload_n K 0 dX12_laysChain_19 rfl rfl ?_
      refine w_callV K hl H (fun r h => c_X12_laysTones l h) mC_yX12_laysTones mM_RX12_158 mI_yX12_laysTones mS_yX12_laysTones mZ_RX12 vc12 (Nat.le_of_ble_eq_true rfl) (Nat.le_of_ble_eq_true rfl) np_yX12_laysTones rfl (Nat.le_of_ble_eq_true rfl) dX12_laysChain_20 (fun μ4 H => ?_) ⟨Nat.zero_le _, Nat.zero_le _⟩
      refine r_aload_n K 0 dX12_laysChain_23 rfl rfl ?_
      refine w_getI K vc12 inX12 10 (by decide) mF_RX12_145 dX12_laysChain_24 H (fun x5 H => ?_)
      refine r_iconst (v := 1) K dX12_laysChain_27 (by decide) ?_
      refine r_isub K dX12_laysChain_28 ?_
      refine r_istore_n K [(1, .int _), (0, .ref _)] dX12_laysChain_29 rfl (by decide) rfl ?_
      exact r_sub [1, 0] rfl (l_X12_laysChain_30 K hl H D)
    · exact r_sub [] rfl (t_X12_laysChain_17 K hl H D)
theorem c_X12_laysChain (l : Launch) {n : Nat} {Y : jY} {v0 : Nat} {μ : jM} {z : Int32 × jM} (H : f_X12_laysChain Y v0 μ = some z) : jC l yX12_laysChain cX12_laysChain 10 (some .boolean) 8 0 0 [.ref v0] n Y μ n Y (some (.int z.1)) z.2 := by
  refine jC_of (by decide +kernel) (Nat.le_of_ble_eq_true rfl) (fun X hl K _ _ _ => ?_)
  obtain ⟨rr, μr⟩ := z
  exact t_X12_laysChain_0 K hl H rfl
/-! RX12 chain(III)J -/
def b_X12_chain_39 (Y : jY) (μ : jM) : Option (Int64 × jM) :=
  some ((-9223372036854775808 : Int64), μ)
def b_X12_chain_97 (Y : jY) (t0 : Int64) (μ : jM) : Option (Int64 × jM) :=
  some (t0, μ)
def b_X12_chain_77 (Y : jY) (t0 : Int64) (μ : jM) : Option (Int64 × jM) :=
  some (t0, μ)
def f_X12_chain (Y : jY) (v0 : Nat) (v1 : Int32) (v2 : Int32) (v3 : Int32) (μ : jM) : Option (Int64 × jM) :=
  (jgI Y μ v0 12 10).bind fun x1 =>
  if x1 = 0 then
    b_X12_chain_39 Y μ
  else
    (f_X12_in Y v1 ((0 : Int32)) ((1 : Int32)) μ).bind fun r2 =>
    if r2.1 = 0 then
      b_X12_chain_39 Y r2.2
    else
      (jgI Y r2.2 v0 12 10).bind fun x3 =>
      (f_X12_in Y v2 ((0 : Int32)) ((x3 - ((1 : Int32)))) r2.2).bind fun r4 =>
      if r4.1 = 0 then
        b_X12_chain_39 Y r4.2
      else
        (f_X12_in Y v3 ((0 : Int32)) ((1 : Int32)) r4.2).bind fun r5 =>
        if r5.1 = 0 then
          b_X12_chain_39 Y r5.2
        else
          (jrcv Y v0 12 (f_X12_laysChain Y v0 r5.2)).bind fun r6 =>
          if r6.1 = 0 then
            some ((-2 : Int64), r6.2)
          else
            if v1 = 0 then
              if v3 = 0 then
                (jgO Y r6.2 v0 12 18).bind fun x13 =>
                (jaL Y r6.2 x13 21 v2).bind fun x14 =>
                b_X12_chain_77 Y x14 r6.2
              else
                (jgO Y r6.2 v0 12 19).bind fun x11 =>
                (jaL Y r6.2 x11 21 v2).bind fun x12 =>
                b_X12_chain_77 Y x12 r6.2
            else
              if v3 = 0 then
                (jgO Y r6.2 v0 12 20).bind fun x9 =>
                (jaL Y r6.2 x9 21 v2).bind fun x10 =>
                b_X12_chain_97 Y x10 r6.2
              else
                (jgO Y r6.2 v0 12 21).bind fun x7 =>
                (jaL Y r6.2 x7 21 v2).bind fun x8 =>
                b_X12_chain_97 Y x8 r6.2
set_option maxRecDepth 10000 in
theorem t_X12_chain_39 {X : jX} {l : Launch} {n : Nat} {Y : jY} (K : jOK X RX12 cX12_chain 4 (some .long) 9) (hl : X.2.1 = l) {rr : Int64} {μr : jM} {μ : jM} {z : (Int64 × jM)} (H : b_X12_chain_39 Y μ = some z) (D : z = (rr, μr)) : JW X (jEnd X n Y (some (.long rr)) μr 0 0) 0 0 n Y 39 [] [] μ := by
  unfold b_X12_chain_39 at H
  refine r_ldc2 K (-9223372036854775808) mc_RX12_156 dX12_chain_39 ?_
  cases H
  obtain ⟨rfl, rfl⟩ := jfin2 D
  exact r_lret K dX12_chain_42
set_option maxRecDepth 10000 in
theorem t_X12_chain_97 {X : jX} {l : Launch} {n : Nat} {Y : jY} (K : jOK X RX12 cX12_chain 4 (some .long) 9) (hl : X.2.1 = l) {rr : Int64} {μr : jM} {t0 : Int64} {μ : jM} {z : (Int64 × jM)} (H : b_X12_chain_97 Y t0 μ = some z) (D : z = (rr, μr)) : JW X (jEnd X n Y (some (.long rr)) μr 0 0) 0 0 n Y 97 [] [.long t0] μ := by
  unfold b_X12_chain_97 at H
  cases H
  obtain ⟨rfl, rfl⟩ := jfin2 D
  exact r_lret K dX12_chain_97
set_option maxRecDepth 10000 in
theorem t_X12_chain_77 {X : jX} {l : Launch} {n : Nat} {Y : jY} (K : jOK X RX12 cX12_chain 4 (some .long) 9) (hl : X.2.1 = l) {rr : Int64} {μr : jM} {t0 : Int64} {μ : jM} {z : (Int64 × jM)} (H : b_X12_chain_77 Y t0 μ = some z) (D : z = (rr, μr)) : JW X (jEnd X n Y (some (.long rr)) μr 0 0) 0 0 n Y 77 [] [.long t0] μ := by
  unfold b_X12_chain_77 at H
  cases H
  obtain ⟨rfl, rfl⟩ := jfin2 D
  exact r_lret K dX12_chain_77
set_option maxRecDepth 10000 in
theorem t_X12_chain_0 {X : jX} {l : Launch} {n : Nat} {Y : jY} (K : jOK X RX12 cX12_chain 4 (some .long) 9) (hl : X.2.1 = l) {rr : Int64} {μr : jM} {v0 : Nat} {v1 : Int32} {v2 : Int32} {v3 : Int32} {μ : jM} {z : (Int64 × jM)} (H : f_X12_chain Y v0 v1 v2 v3 μ = some z) (D : z = (rr, μr)) : JW X (jEnd X n Y (some (.long rr)) μr 0 0) 0 0 n Y 0 [(0, .ref v0), (1, .int v1), (2, .int v2), (3, .int v3)] [] μ := by
  unfold f_X12_chain at H
  refine r_aload_n K 0 dX12_chain_0 rfl rfl ?_
  refine w_getI K vc12 inX12 10 (by decide) mF_RX12_145 dX12_chain_1 H (fun x1 H => ?_)
  refine w_if_eq K 39 dX12_chain_4 (by decide) H (fun _ H => ?_) (fun _ H => ?_)
  · exact r_sub [] rfl (t_X12_chain_39 K hl H D)
  · refine r_iload_n K 1 dX12_chain_7 rfl rfl ?_
    refine r_iconst (v := 0) K dX12_chain_8 (by decide) ?_
    refine r_iconst (v := 1) K dX12_chain_9 (by decide) ?_
    refine w_callS K hl H (fun r h => c_X12_in l h) mC_yX12_in mM_RX12_134 mT_yX12_in mZ_RX12 (Nat.le_of_ble_eq_true rfl) (Nat.le_of_ble_eq_true rfl) np_yX12_in rfl (Nat.le_of_ble_eq_true rfl) dX12_chain_10 (fun r2 H => ?_) ⟨Nat.zero_le _, Nat.zero_le _⟩
    refine w_if_eq K 39 dX12_chain_13 (by decide) H (fun _ H => ?_) (fun _ H => ?_)
    · exact r_sub [] rfl (t_X12_chain_39 K hl H D)
    · refine r_iload_n K 2 dX12_chain_16 rfl rfl ?_
      refine r_iconst (v := 0) K dX12_chain_17 (by decide) ?_
      refine r_aload_n K 0 dX12_chain_18 rfl rfl ?_
      refine w_getI K vc12 inX12 10 (by decide) mF_RX12_145 dX12_chain_19 H (fun x3 H => ?_)
      refine r_iconst (v := 1) K dX12_chain_22 (by decide) ?_
      refine r_isub K dX12_chain_23 ?_
      refine w_callS K hl H (fun r h => c_X12_in l h) mC_yX12_in mM_RX12_134 mT_yX12_in mZ_RX12 (Nat.le_of_ble_eq_true rfl) (Nat.le_of_ble_eq_true rfl) np_yX12_in rfl (Nat.le_of_ble_eq_true rfl) dX12_chain_24 (fun r4 H => ?_) ⟨Nat.zero_le _, Nat.zero_le _⟩
      refine w_if_eq K 39 dX12_chain_27 (by decide) H (fun _ H => ?_) (fun _ H => ?_)
      · exact r_sub [] rfl (t_X12_chain_39 K hl H D)
      · refine r_iload_n K 3 dX12_chain_30 rfl rfl ?_
        refine r_iconst (v := 0) K dX12_chain_31 (by decide) ?_
        refine r_iconst (v := 1) K dX12_chain_32 (by decide) ?_
        refine w_callS K hl H (fun r h => c_X12_in l h) mC_yX12_in mM_RX12_134 mT_yX12_in mZ_RX12 (Nat.le_of_ble_eq_true rfl) (Nat.le_of_ble_eq_true rfl) np_yX12_in rfl (Nat.le_of_ble_eq_true rfl) dX12_chain_33 (fun r5 H => ?_) ⟨Nat.zero_le _, Nat.zero_le _⟩
        refine w_if_ne K 43 dX12_chain_36 (by decide) H (fun _ H => ?_) (fun _ H => ?_)
        · refine r_aload_n K 0 dX12_chain_43 rfl rfl ?_
          refine w_callV K hl H (fun r h => c_X12_laysChain l h) mC_yX12_laysChain mM_RX12_234 mI_yX12_laysChain mS_yX12_laysChain mZ_RX12 vc12 (Nat.le_of_ble_eq_true rfl) (Nat.le_of_ble_eq_true rfl) np_yX12_laysChain rfl (Nat.le_of_ble_eq_true rfl) dX12_chain_44 (fun r6 H => ?_) ⟨Nat.zero_le _, Nat.zero_le _⟩
          refine w_if_ne K 54 dX12_chain_47 (by decide) H (fun _ H => ?_) (fun _ H => ?_)
          · refine r_iload_n K 1 dX12_chain_54 rfl rfl ?_
            refine w_if_ne K 78 dX12_chain_55 (by decide) H (fun _ H => ?_) (fun _ H => ?_)
            · refine r_iload_n K 3 dX12_chain_78 rfl rfl ?_
              refine w_if_ne K 91 dX12_chain_79 (by decide) H (fun _ H => ?_) (fun _ H => ?_)
              · refine r_aload_n K 0 dX12_chain_91 rfl rfl ?_
                refine w_getO K vc12 inX12 21 (by decide) mF_RX12_45 dX12_chain_92 H (fun x7 H => ?_)
                refine r_iload_n K 2 dX12_chain_95 rfl rfl ?_
                refine w_lald K dX12_chain_96 H (fun x8 H => ?_)
                exact r_sub [] rfl (t_X12_chain_97 K hl H D)
              · refine r_aload_n K 0 dX12_chain_82 rfl rfl ?_
                refine w_getO K vc12 inX12 20 (by decide) mF_RX12_42 dX12_chain_83 H (fun x9 H => ?_)
                refine r_iload_n K 2 dX12_chain_86 rfl rfl ?_
                refine w_lald K dX12_chain_87 H (fun x10 H => ?_)
                refine r_goto K 97 dX12_chain_88 (by decide) ?_
                exact r_sub [] rfl (t_X12_chain_97 K hl H D)
            · refine r_iload_n K 3 dX12_chain_58 rfl rfl ?_
              refine w_if_ne K 71 dX12_chain_59 (by decide) H (fun _ H => ?_) (fun _ H => ?_)
              · refine r_aload_n K 0 dX12_chain_71 rfl rfl ?_
                refine w_getO K vc12 inX12 19 (by decide) mF_RX12_39 dX12_chain_72 H (fun x11 H => ?_)
                refine r_iload_n K 2 dX12_chain_75 rfl rfl ?_
                refine w_lald K dX12_chain_76 H (fun x12 H => ?_)
                exact r_sub [] rfl (t_X12_chain_77 K hl H D)
              · refine r_aload_n K 0 dX12_chain_62 rfl rfl ?_
                refine w_getO K vc12 inX12 18 (by decide) mF_RX12_36 dX12_chain_63 H (fun x13 H => ?_)
                refine r_iload_n K 2 dX12_chain_66 rfl rfl ?_
                refine w_lald K dX12_chain_67 H (fun x14 H => ?_)
                refine r_goto K 77 dX12_chain_68 (by decide) ?_
                exact r_sub [] rfl (t_X12_chain_77 K hl H D)
          · refine r_ldc2 K (-2) mc_RX12_232 dX12_chain_50 ?_
            cases H
            obtain ⟨rfl, rfl⟩ := jfin2 D
            exact r_lret K dX12_chain_53
        · exact r_sub [] rfl (t_X12_chain_39 K hl H D)
theorem c_X12_chain (l : Launch) {n : Nat} {Y : jY} {v0 : Nat} {v1 : Int32} {v2 : Int32} {v3 : Int32} {μ : jM} {z : Int64 × jM} (H : f_X12_chain Y v0 v1 v2 v3 μ = some z) : jC l yX12_chain cX12_chain 4 (some .long) 9 0 0 [.ref v0, .int v1, .int v2, .int v3] n Y μ n Y (some (.long z.1)) z.2 := by
  refine jC_of (by decide +kernel) (Nat.le_of_ble_eq_true rfl) (fun X hl K _ _ _ => ?_)
  obtain ⟨rr, μr⟩ := z
  exact t_X12_chain_0 K hl H rfl
