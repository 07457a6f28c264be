/-! RX7 rebuild(LChainTables$Tones;)V -/
def b_X7_rebuild_123 (Y : jY) (v0 : Nat) (v2 : Int32) (v3 : Int64) (μ : jM) : Option ((Int32 × jM) ⊕ (jM)) :=
  (jgO Y μ v0 7 3).bind fun x1 =>
  (jas Y μ x1 21 v2 (.long v3)).bind fun μ2 =>
  some (.inl ((v2 + (1 : Int32)), μ2))
def b_X7_rebuild_77 (Y : jY) (v0 : Nat) (v2 : Int32) (v3 : Int64) (v5 : Int32) (μ : jM) : Option ((Int64 × Int32 × jM) ⊕ ((Int32 × jM) ⊕ (jM))) :=
  if v2 < v5 then
    (b_X7_rebuild_123 Y v0 v2 v3 μ).map (fun r => (.inr r))
  else
    (jgI Y μ v0 7 0).bind fun x1 =>
    if x1 < v5 then
      (b_X7_rebuild_123 Y v0 v2 v3 μ).map (fun r => (.inr r))
    else
      (jgO Y μ v0 7 1).bind fun x2 =>
      (jgI Y μ v0 7 0).bind fun x3 =>
      (jaL Y μ x2 21 ((x3 - v5))).bind fun x4 =>
      (jgO Y μ v0 7 3).bind fun x5 =>
      (jaL Y μ x5 21 ((v2 - v5))).bind fun x6 =>
      some (.inl ((v3 - ((x4 * x6))), (v5 + (1 : Int32)), μ))
def b_X7_rebuild_73 (Y : jY) (v0 : Nat) (v2 : Int32) (t0 : Int64) (μ : jM) : Option ((Int32 × jM) ⊕ (jM)) :=
  jit jF (fun (s : Int64 × Int32 × jM) => b_X7_rebuild_77 Y v0 v2 s.1 s.2.1 s.2.2) (t0, (1 : Int32), μ)
def b_X7_rebuild_42 (Y : jY) (v0 : Nat) (v2 : Int32) (μ : jM) : Option ((Int32 × jM) ⊕ (jM)) :=
  if ((7 : Int32)) < v2 then
    some (.inr μ)
  else
    (jgI Y μ v0 7 0).bind fun x1 =>
    if x1 ≤ v2 then
      b_X7_rebuild_73 Y v0 v2 (0 : Int64) μ
    else
      (jgO Y μ v0 7 2).bind fun x2 =>
      (jgI Y μ v0 7 0).bind fun x3 =>
      (jaL Y μ x2 21 ((((x3 - ((1 : Int32)))) - v2))).bind fun x4 =>
      b_X7_rebuild_73 Y v0 v2 x4 μ
def f_X7_rebuild (Y : jY) (v0 : Nat) (v1 : Nat) (μ : jM) : Option (jM) :=
  (jgI Y μ v1 9 0).bind fun x1 =>
  (jput Y μ v0 7 0 (.int x1)).bind fun μ2 =>
  (jgO Y μ2 v1 9 1).bind fun x3 =>
  (jgI Y μ2 v0 7 0).bind fun x4 =>
  (jgO Y μ2 v0 7 1).bind fun x5 =>
  (f_X7_multiplyOut Y x3 x4 x5 μ2).bind fun μ6 =>
  (jgO Y μ6 v1 9 2).bind fun x7 =>
  (jgI Y μ6 v0 7 0).bind fun x8 =>
  (jgO Y μ6 v0 7 2).bind fun x9 =>
  (f_X7_multiplyOut Y x7 ((x8 - ((1 : Int32)))) x9 μ6).bind fun μ10 =>
  jit jF (fun (s : Int32 × jM) => b_X7_rebuild_42 Y v0 s.1 s.2) ((0 : Int32), μ10)
set_option maxRecDepth 10000 in
theorem t_X7_rebuild_123 {X : jX} {l : Launch} {n : Nat} {Y : jY} (K : jOK X RX7 cX7_rebuild 6 none 2) (hl : X.2.1 = l) {μr : jM} {v0 : Nat} {v2 : Int32} {v3 : Int64} {μ : jM} {z : ((Int32 × jM) ⊕ (jM))} (H : b_X7_rebuild_123 Y v0 v2 v3 μ = some z) (D : Sum.elim (fun (s : Int32 × jM) => JW X (jEnd X n Y none μr 0 0) 0 0 n Y 42 [(0, .ref v0), (2, .int s.1)] [] s.2) (fun r => r = μr) z) : JW X (jEnd X n Y none μr 0 0) 0 0 n Y 123 [(0, .ref v0), (2, .int v2), (3, .long v3)] [] μ := by
  unfold b_X7_rebuild_123 at H
  refine r_aload_n K 0 dX7_rebuild_123 rfl rfl ?_
  refine w_getO K vc7 inX7 3 (by decide) mF_RX7_22 dX7_rebuild_124 H (fun x1 H => ?_)
  refine r_iload_n K 1 dX7_rebuild_127 rfl rfl ?_
  refine r_lload_n K 2 dX7_rebuild_128 rfl rfl ?_
  refine w_last K dX7_rebuild_129 H (fun μ2 H => ?_)
  refine r_iinc K 1 [(2, .int _), (0, .ref _), (3, .long _)] (v := _ + (1 : Int32)) dX7_rebuild_130 rfl rfl (by decide) rfl ?_
  refine r_goto K 42 dX7_rebuild_133 (by decide) ?_
  cases H
  exact r_sub [1, 0] rfl D
set_option maxRecDepth 10000 in
theorem t_X7_rebuild_77 {X : jX} {l : Launch} {n : Nat} {Y : jY} (K : jOK X RX7 cX7_rebuild 6 none 2) (hl : X.2.1 = l) {μr : jM} {v0 : Nat} {v2 : Int32} {v3 : Int64} {v5 : Int32} {μ : jM} {z : ((Int64 × Int32 × jM) ⊕ ((Int32 × jM) ⊕ (jM)))} (H : b_X7_rebuild_77 Y v0 v2 v3 v5 μ = some z) (D : Sum.elim (fun (s : Int64 × Int32 × jM) => JW X (jEnd X n Y none μr 0 0) 0 0 n Y 77 [(0, .ref v0), (2, .int v2), (3, .long s.1), (5, .int s.2.1)] [] s.2.2) (Sum.elim (fun (s : Int32 × jM) => JW X (jEnd X n Y none μr 0 0) 0 0 n Y 42 [(0, .ref v0), (2, .int s.1)] [] s.2) (fun r => r = μr)) z) : JW X (jEnd X n Y none μr 0 0) 0 0 n Y 77 [(0, .ref v0), (2, .int v2), (3, .long v3), (5, .int v5)] [] μ := by
  unfold b_X7_rebuild_77 at H
  refine r_iload K 3 dX7_rebuild_77 rfl ?_
  refine r_iload_n K 1 dX7_rebuild_79 rfl rfl ?_
  refine w_icmp_gt K 123 dX7_rebuild_80 (by decide) H (fun _ H => ?_) (fun _ H => ?_)
  · obtain ⟨z2, H2, rfl⟩ := jmap H
    exact r_sub [0, 1, 2] rfl (t_X7_rebuild_123 K hl H2 D)
  · refine r_iload K 3 dX7_rebuild_83 rfl ?_
    refine r_aload_n K 0 dX7_rebuild_85 rfl rfl ?_
    refine w_getI K vc7 inX7 0 (by decide) mF_RX7_9 dX7_rebuild_86 H (fun x1 H => ?_)
    refine w_icmp_gt K 123 dX7_rebuild_89 (by decide) H (fun _ H => ?_) (fun _ H => ?_)
    · obtain ⟨z2, H2, rfl⟩ := jmap H
      exact r_sub [0, 1, 2] rfl (t_X7_rebuild_123 K hl H2 D)
    · refine r_lload_n K 2 dX7_rebuild_92 rfl rfl ?_
      refine r_aload_n K 0 dX7_rebuild_93 rfl rfl ?_
      refine w_getO K vc7 inX7 1 (by decide) mF_RX7_15 dX7_rebuild_94 H (fun x2 H => ?_)
      refine r_aload_n K 0 dX7_rebuild_97 rfl rfl ?_
      refine w_getI K vc7 inX7 0 (by decide) mF_RX7_9 dX7_rebuild_98 H (fun x3 H => ?_)
      refine r_iload K 3 dX7_rebuild_101 rfl ?_
      refine r_isub K dX7_rebuild_103 ?_
      refine w_lald K dX7_rebuild_104 H (fun x4 H => ?_)
      refine r_aload_n K 0 dX7_rebuild_105 rfl rfl ?_
      refine w_getO K vc7 inX7 3 (by decide) mF_RX7_22 dX7_rebuild_106 H (fun x5 H => ?_)
      refine r_iload_n K 1 dX7_rebuild_109 rfl rfl ?_
      refine r_iload K 3 dX7_rebuild_110 rfl ?_
      refine r_isub K dX7_rebuild_112 ?_
      refine w_lald K dX7_rebuild_113 H (fun x6 H => ?_)
      refine r_lmul K dX7_rebuild_114 ?_
      refine r_lsub K dX7_rebuild_115 ?_
      refine r_lstore_n K [(3, .long _), (0, .ref _), (2, .int _), (5, .int _)] dX7_rebuild_116 rfl (by decide) rfl ?_
      refine r_iinc K 3 [(5, .int _), (3, .long _), (0, .ref _), (2, .int _)] (v := _ + (1 : Int32)) dX7_rebuild_117 rfl rfl (by decide) rfl ?_
      refine r_goto K 77 dX7_rebuild_120 (by decide) ?_
      cases H
      exact r_sub [2, 3, 1, 0] rfl D
set_option maxRecDepth 10000 in
theorem l_X7_rebuild_77 {X : jX} {l : Launch} {n : Nat} {Y : jY} (K : jOK X RX7 cX7_rebuild 6 none 2) (hl : X.2.1 = l) {μr : jM} {v0 : Nat} {v2 : Int32}  {s0 : Int64 × Int32 × jM} {z : ((Int32 × jM) ⊕ (jM))} (H : jit jF (fun (s : Int64 × Int32 × jM) => b_X7_rebuild_77 Y v0 v2 s.1 s.2.1 s.2.2) s0 = some z) (D : Sum.elim (fun (s : Int32 × jM) => JW X (jEnd X n Y none μr 0 0) 0 0 n Y 42 [(0, .ref v0), (2, .int s.1)] [] s.2) (fun r => r = μr) z) : JW X (jEnd X n Y none μr 0 0) 0 0 n Y 77 [(0, .ref v0), (2, .int v2), (3, .long s0.1), (5, .int s0.2.1)] [] s0.2.2 :=
  jit_ind (P := fun (s : Int64 × Int32 × jM) => JW X (jEnd X n Y none μr 0 0) 0 0 n Y 77 [(0, .ref v0), (2, .int v2), (3, .long s.1), (5, .int s.2.1)] [] s.2.2) (D := Sum.elim (fun (s : Int32 × jM) => JW X (jEnd X n Y none μr 0 0) 0 0 n Y 42 [(0, .ref v0), (2, .int s.1)] [] s.2) (fun r => r = μr)) (fun s z Hs Ds => t_X7_rebuild_77 K hl Hs Ds) jF s0 z H D
set_option maxRecDepth 10000 in
theorem t_X7_rebuild_73 {X : jX} {l : Launch} {n : Nat} {Y : jY} (K : jOK X RX7 cX7_rebuild 6 none 2) (hl : X.2.1 = l) {μr : jM} {v0 : Nat} {v2 : Int32} {t0 : Int64} {μ : jM} {z : ((Int32 × jM) ⊕ (jM))} (H : b_X7_rebuild_73 Y v0 v2 t0 μ = some z) (D : Sum.elim (fun (s : Int32 × jM) => JW X (jEnd X n Y none μr 0 0) 0 0 n Y 42 [(0, .ref v0), (2, .int s.1)] [] s.2) (fun r => r = μr) z) : JW X (jEnd X n Y none μr 0 0) 0 0 n Y 73 [(0, .ref v0), (2, .int v2)] [.long t0] μ := by
  unfold b_X7_rebuild_73 at H
  refine r_lstore_n K [(3, .long _), (0, .ref _), (2, .int _)] dX7_rebuild_73 rfl (by decide) rfl ?_
  refine r_iconst (v := 1) K dX7_rebuild_74 (by decide) ?_
  refine r_istore K [(5, .int _), (3, .long _), (0, .ref _), (2, .int _)] dX7_rebuild_75 (by decide) rfl ?_
  exact r_sub [2, 3, 1, 0] rfl (l_X7_rebuild_77 K hl H D)
set_option maxRecDepth 10000 in
theorem t_X7_rebuild_42 {X : jX} {l : Launch} {n : Nat} {Y : jY} (K : jOK X RX7 cX7_rebuild 6 none 2) (hl : X.2.1 = l) {μr : jM} {v0 : Nat} {v2 : Int32} {μ : jM} {z : ((Int32 × jM) ⊕ (jM))} (H : b_X7_rebuild_42 Y v0 v2 μ = some z) (D : Sum.elim (fun (s : Int32 × jM) => JW X (jEnd X n Y none μr 0 0) 0 0 n Y 42 [(0, .ref v0), (2, .int s.1)] [] s.2) (fun r => r = μr) z) : JW X (jEnd X n Y none μr 0 0) 0 0 n Y 42 [(0, .ref v0), (2, .int v2)] [] μ := by
  unfold b_X7_rebuild_42 at H
  refine r_iload_n K 1 dX7_rebuild_42 rfl rfl ?_
  refine r_bipush (v := 7) K dX7_rebuild_43 (by decide) ?_
  refine w_icmp_gt K 136 dX7_rebuild_45 (by decide) H (fun _ H => ?_) (fun _ H => ?_)
  · cases H
    simp only [Sum.elim_inr] at D
    subst D
    exact r_vret K dX7_rebuild_136
  · refine r_iload_n K 1 dX7_rebuild_48 rfl rfl ?_
    refine r_aload_n K 0 dX7_rebuild_49 rfl rfl ?_
    refine w_getI K vc7 inX7 0 (by decide) mF_RX7_9 dX7_rebuild_50 H (fun x1 H => ?_)
    refine w_icmp_ge K 72 dX7_rebuild_53 (by decide) H (fun _ H => ?_) (fun _ H => ?_)
    · refine r_lconst (v := 0) K dX7_rebuild_72 (by decide) ?_
      exact r_sub [0, 1] rfl (t_X7_rebuild_73 K hl H D)
    · refine r_aload_n K 0 dX7_rebuild_56 rfl rfl ?_
      refine w_getO K vc7 inX7 2 (by decide) mF_RX7_19 dX7_rebuild_57 H (fun x2 H => ?_)
      refine r_aload_n K 0 dX7_rebuild_60 rfl rfl ?_
      refine w_getI K vc7 inX7 0 (by decide) mF_RX7_9 dX7_rebuild_61 H (fun x3 H => ?_)
      refine r_iconst (v := 1) K dX7_rebuild_64 (by decide) ?_
      refine r_isub K dX7_rebuild_65 ?_
      refine r_iload_n K 1 dX7_rebuild_66 rfl rfl ?_
      refine r_isub K dX7_rebuild_67 ?_
      refine w_lald K dX7_rebuild_68 H (fun x4 H => ?_)
      refine r_goto K 73 dX7_rebuild_69 (by decide) ?_
      exact r_sub [0, 1] rfl (t_X7_rebuild_73 K hl H D)
set_option maxRecDepth 10000 in
theorem l_X7_rebuild_42 {X : jX} {l : Launch} {n : Nat} {Y : jY} (K : jOK X RX7 cX7_rebuild 6 none 2) (hl : X.2.1 = l) {μr : jM} {v0 : Nat}  {s0 : Int32 × jM} {z : (jM)} (H : jit jF (fun (s : Int32 × jM) => b_X7_rebuild_42 Y v0 s.1 s.2) s0 = some z) (D : z = μr) : JW X (jEnd X n Y none μr 0 0) 0 0 n Y 42 [(0, .ref v0), (2, .int s0.1)] [] s0.2 :=
  jit_ind (P := fun (s : Int32 × jM) => JW X (jEnd X n Y none μr 0 0) 0 0 n Y 42 [(0, .ref v0), (2, .int s.1)] [] s.2) (D := fun r => r = μr) (fun s z Hs Ds => t_X7_rebuild_42 K hl Hs Ds) jF s0 z H D
set_option maxRecDepth 10000 in
theorem t_X7_rebuild_0 {X : jX} {l : Launch} {n : Nat} {Y : jY} (K : jOK X RX7 cX7_rebuild 6 none 2) (hl : X.2.1 = l) {μr : jM} {v0 : Nat} {v1 : Nat} {μ : jM} {z : (jM)} (H : f_X7_rebuild Y v0 v1 μ = some z) (D : z = μr) : JW X (jEnd X n Y none μr 0 0) 0 0 n Y 0 [(0, .ref v0), (1, .ref v1)] [] μ := by
  unfold f_X7_rebuild at H
  refine r_aload_n K 0 dX7_rebuild_0 rfl rfl ?_
  refine r_aload_n K 1 dX7_rebuild_1 rfl rfl ?_
  refine w_getI K vc9 inX9 0 (by decide) mF_RX7_25 dX7_rebuild_2 H (fun x1 H => ?_)
  refine w_put K vc7 inX7 tyX7_ok nmX7 0 (by decide) mF_RX7_9 rfl (fun _ => rfl) (fun _ => rfl) dX7_rebuild_5 H (fun μ2 H => ?_)
  refine r_aload_n K 1 dX7_rebuild_8 rfl rfl ?_
  refine w_getO K vc9 inX9 1 (by decide) mF_RX7_28 dX7_rebuild_9 H (fun x3 H => ?_)
  refine r_aload_n K 0 dX7_rebuild_12 rfl rfl ?_
  refine w_getI K vc7 inX7 0 (by decide) mF_RX7_9 dX7_rebuild_13 H (fun x4 H => ?_)
  refine r_aload_n K 0 dX7_rebuild_16 rfl rfl ?_
  refine w_getO K vc7 inX7 1 (by decide) mF_RX7_15 dX7_rebuild_17 H (fun x5 H => ?_)
  refine w_callS K hl H (fun r h => c_X7_multiplyOut l h) mC_yX7_multiplyOut mM_RX7_32 mT_yX7_multiplyOut mZ_RX7 (Nat.le_of_ble_eq_true rfl) (Nat.le_of_ble_eq_true rfl) np_yX7_multiplyOut rfl (Nat.le_of_ble_eq_true rfl) dX7_rebuild_20 (fun μ6 H => ?_) ⟨Nat.zero_le _, Nat.zero_le _⟩
  refine r_aload_n K 1 dX7_rebuild_23 rfl rfl ?_
  refine w_getO K vc9 inX9 2 (by decide) mF_RX7_36 dX7_rebuild_24 H (fun x7 H => ?_)
  refine r_aload_n K 0 dX7_rebuild_27 rfl rfl ?_
  refine w_getI K vc7 inX7 0 (by decide) mF_RX7_9 dX7_rebuild_28 H (fun x8 H => ?_)
  refine r_iconst (v := 1) K dX7_rebuild_31 (by decide) ?_
  refine r_isub K dX7_rebuild_32 ?_
  refine r_aload_n K 0 dX7_rebuild_33 rfl rfl ?_
  refine w_getO K vc7 inX7 2 (by decide) mF_RX7_19 dX7_rebuild_34 H (fun x9 H => ?_)
  refine w_callS K hl H (fun r h => c_X7_multiplyOut l h) mC_yX7_multiplyOut mM_RX7_32 mT_yX7_multiplyOut mZ_RX7 (Nat.le_of_ble_eq_true rfl) (Nat.le_of_ble_eq_true rfl) np_yX7_multiplyOut rfl (Nat.le_of_ble_eq_true rfl) dX7_rebuild_37 (fun μ10 H => ?_) ⟨Nat.zero_le _, Nat.zero_le _⟩
  refine r_iconst (v := 0) K dX7_rebuild_40 (by decide) ?_
  refine r_istore_n K [(2, .int _), (0, .ref _), (1, .ref _)] dX7_rebuild_41 rfl (by decide) rfl ?_
  exact r_sub [1, 0] rfl (l_X7_rebuild_42 K hl H D)
theorem c_X7_rebuild (l : Launch) {n : Nat} {Y : jY} {v0 : Nat} {v1 : Nat} {μ : jM} {z : jM} (H : f_X7_rebuild Y v0 v1 μ = some z) : jC l yX7_rebuild cX7_rebuild 6 none 2 0 0 [.ref v0, .ref v1] n Y μ n Y none z := by
  refine jC_of (by decide +kernel) (Nat.le_of_ble_eq_true rfl) (fun X hl K _ _ _ => ?_)
  exact t_X7_rebuild_0 K hl H rfl
/-! RX7 minor([JIIII)J -/
def b_X7_minor_84 (Y : jY) (self : Nat → Int32 → Int32 → Int32 → Int32 → jM → Option (Int64 × jM)) (v0 : Nat) (v1 : Int32) (v2 : Int32) (v3 : Int32) (v4 : Int32) (v5 : Int64) (v7 : Int32) (v8 : Int32) (μ : jM) : Option ((Int64 × Int32 × Int32 × jM) ⊕ (Int64 × jM)) :=
  some (.inl (v5, v7, (v8 + (1 : Int32)), μ))
def b_X7_minor_16 (Y : jY) (self : Nat → Int32 → Int32 → Int32 → Int32 → jM → Option (Int64 × jM)) (v0 : Nat) (v1 : Int32) (v2 : Int32) (v3 : Int32) (v4 : Int32) (v5 : Int64) (v7 : Int32) (v8 : Int32) (μ : jM) : Option ((Int64 × Int32 × Int32 × jM) ⊕ (Int64 × jM)) :=
  if v1 ≤ v8 then
    some (.inr (v5, μ))
  else
    if ((v4 &&& ((((1 : Int32)) <<< (v8 &&& 31))))) = 0 then
      (jlen Y v0 21).bind fun x1 =>
      if x1 ≤ ((((v3 + v8)) + v2)) then
        b_X7_minor_84 Y self v0 v1 v2 v3 v4 v5 v7 v8 μ
      else
        (jaL Y μ v0 21 ((((v3 + v8)) + v2))).bind fun x2 =>
        (self v0 v1 v2 ((v3 + ((1 : Int32)))) ((v4 ||| ((((1 : Int32)) <<< (v8 &&& 31))))) μ).bind fun r3 =>
        b_X7_minor_84 Y self v0 v1 v2 v3 v4 (v5 + ((((((v7.toInt64)) * x2)) * r3.1))) (-v7) v8 r3.2
    else
      b_X7_minor_84 Y self v0 v1 v2 v3 v4 v5 v7 v8 μ
def f_X7_minor (Y : jY) (self : Nat → Int32 → Int32 → Int32 → Int32 → jM → Option (Int64 × jM)) (v0 : Nat) (v1 : Int32) (v2 : Int32) (v3 : Int32) (v4 : Int32) (μ : jM) : Option (Int64 × jM) :=
  if v3 < v1 then
    jit jF (fun (s : Int64 × Int32 × Int32 × jM) => b_X7_minor_16 Y self v0 v1 v2 v3 v4 s.1 s.2.1 s.2.2.1 s.2.2.2) ((0 : Int64), (1 : Int32), (0 : Int32), μ)
  else
    some ((1 : Int64), μ)
set_option maxRecDepth 10000 in
theorem t_X7_minor_84 {X : jX} {l : Launch} {n : Nat} {Y : jY} {self : Nat → Int32 → Int32 → Int32 → Int32 → jM → Option (Int64 × jM)} {dp : Nat} (hd1 : 1 ≤ dp) (hself : ∀ a0 a1 a2 a3 a4 μ q, self a0 a1 a2 a3 a4 μ = some q → jC l yX7_minor cX7_minor 10 (some .long) dp 0 0 [.ref a0, .int a1, .int a2, .int a3, .int a4] n Y μ n Y (some (.long q.1)) q.2) (K : jOK X RX7 cX7_minor 10 (some .long) (dp + 1)) (hl : X.2.1 = l) {rr : Int64} {μr : jM} {v0 : Nat} {v1 : Int32} {v2 : Int32} {v3 : Int32} {v4 : Int32} {v5 : Int64} {v7 : Int32} {v8 : Int32} {μ : jM} {z : ((Int64 × Int32 × Int32 × jM) ⊕ (Int64 × jM))} (H : b_X7_minor_84 Y self v0 v1 v2 v3 v4 v5 v7 v8 μ = some z) (D : Sum.elim (fun (s : Int64 × Int32 × Int32 × jM) => JW X (jEnd X n Y (some (.long rr)) μr 0 0) 0 0 n Y 16 [(0, .ref v0), (1, .int v1), (2, .int v2), (3, .int v3), (4, .int v4), (5, .long s.1), (7, .int s.2.1), (8, .int s.2.2.1)] [] s.2.2.2) (fun r => r = (rr, μr)) z) : JW X (jEnd X n Y (some (.long rr)) μr 0 0) 0 0 n Y 84 [(0, .ref v0), (1, .int v1), (2, .int v2), (3, .int v3), (4, .int v4), (5, .long v5), (7, .int v7), (8, .int v8)] [] μ := by
  unfold b_X7_minor_84 at H
  refine r_iinc K 7 [(8, .int _), (0, .ref _), (1, .int _), (2, .int _), (3, .int _), (4, .int _), (5, .long _), (7, .int _)] (v := _ + (1 : Int32)) dX7_minor_84 rfl rfl (by decide) rfl ?_
  refine r_goto K 16 dX7_minor_87 (by decide) ?_
  cases H
  exact r_sub [1, 2, 3, 4, 5, 6, 7, 0] rfl D
set_option maxRecDepth 10000 in
theorem t_X7_minor_16 {X : jX} {l : Launch} {n : Nat} {Y : jY} {self : Nat → Int32 → Int32 → Int32 → Int32 → jM → Option (Int64 × jM)} {dp : Nat} (hd1 : 1 ≤ dp) (hself : ∀ a0 a1 a2 a3 a4 μ q, self a0 a1 a2 a3 a4 μ = some q → jC l yX7_minor cX7_minor 10 (some .long) dp 0 0 [.ref a0, .int a1, .int a2, .int a3, .int a4] n Y μ n Y (some (.long q.1)) q.2) (K : jOK X RX7 cX7_minor 10 (some .long) (dp + 1)) (hl : X.2.1 = l) {rr : Int64} {μr : jM} {v0 : Nat} {v1 : Int32} {v2 : Int32} {v3 : Int32} {v4 : Int32} {v5 : Int64} {v7 : Int32} {v8 : Int32} {μ : jM} {z : ((Int64 × Int32 × Int32 × jM) ⊕ (Int64 × jM))} (H : b_X7_minor_16 Y self v0 v1 v2 v3 v4 v5 v7 v8 μ = some z) (D : Sum.elim (fun (s : Int64 × Int32 × Int32 × jM) => JW X (jEnd X n Y (some (.long rr)) μr 0 0) 0 0 n Y 16 [(0, .ref v0), (1, .int v1), (2, .int v2), (3, .int v3), (4, .int v4), (5, .long s.1), (7, .int s.2.1), (8, .int s.2.2.1)] [] s.2.2.2) (fun r => r = (rr, μr)) z) : JW X (jEnd X n Y (some (.long rr)) μr 0 0) 0 0 n Y 16 [(0, .ref v0), (1, .int v1), (2, .int v2), (3, .int v3), (4, .int v4), (5, .long v5), (7, .int v7), (8, .int v8)] [] μ := by
  unfold b_X7_minor_16 at H
  refine r_iload K 7 dX7_minor_16 rfl ?_
  refine r_iload_n K 1 dX7_minor_18 rfl rfl ?_
  refine w_icmp_ge K 90 dX7_minor_19 (by decide) H (fun _ H => ?_) (fun _ H => ?_)
  · refine r_lload K 5 dX7_minor_90 rfl ?_
    cases H
    simp only [Sum.elim_inr] at D
    obtain ⟨rfl, rfl⟩ := jfin2 D
    exact r_lret K dX7_minor_92
  · refine r_iconst (v := 1) K dX7_minor_22 (by decide) ?_
    refine r_iload K 7 dX7_minor_23 rfl ?_
    refine r_ishl K dX7_minor_25 ?_
    refine r_istore K [(9, .int _), (0, .ref _), (1, .int _), (2, .int _), (3, .int _), (4, .int _), (5, .long _), (7, .int _), (8, .int _)] dX7_minor_26 (by decide) rfl ?_
    refine r_iload K 5 dX7_minor_28 rfl ?_
    refine r_iload K 0 dX7_minor_30 rfl ?_
    refine r_iand K dX7_minor_32 ?_
    refine w_if_ne K 84 dX7_minor_33 (by decide) H (fun _ H => ?_) (fun _ H => ?_)
    · exact r_sub [1, 2, 3, 4, 5, 6, 7, 8] rfl (t_X7_minor_84 hd1 hself K hl H D)
    · refine r_iload_n K 4 dX7_minor_36 rfl rfl ?_
      refine r_iload K 8 dX7_minor_37 rfl ?_
      refine r_iadd K dX7_minor_39 ?_
      refine r_iload_n K 3 dX7_minor_40 rfl rfl ?_
      refine r_iadd K dX7_minor_41 ?_
      refine r_aload_n K 1 dX7_minor_42 rfl rfl ?_
      refine w_alen K 21 rfl dX7_minor_43 H (fun x1 H => ?_)
      refine w_icmp_ge K 84 dX7_minor_44 (by decide) H (fun _ H => ?_) (fun _ H => ?_)
      · exact r_sub [1, 2, 3, 4, 5, 6, 7, 8] rfl (t_X7_minor_84 hd1 hself K hl H D)
      · refine r_lload K 6 dX7_minor_47 rfl ?_
        refine r_iload K 7 dX7_minor_49 rfl ?_
        refine r_i2l K dX7_minor_51 ?_
        refine r_aload_n K 1 dX7_minor_52 rfl rfl ?_
        refine r_iload_n K 4 dX7_minor_53 rfl rfl ?_
        refine r_iload K 8 dX7_minor_54 rfl ?_
        refine r_iadd K dX7_minor_56 ?_
        refine r_iload_n K 3 dX7_minor_57 rfl rfl ?_
        refine r_iadd K dX7_minor_58 ?_
        refine w_lald K dX7_minor_59 H (fun x2 H => ?_)
        refine r_lmul K dX7_minor_60 ?_
        refine r_aload_n K 1 dX7_minor_61 rfl rfl ?_
        refine r_iload_n K 2 dX7_minor_62 rfl rfl ?_
        refine r_iload_n K 3 dX7_minor_63 rfl rfl ?_
        refine r_iload_n K 4 dX7_minor_64 rfl rfl ?_
        refine r_iconst (v := 1) K dX7_minor_65 (by decide) ?_
        refine r_iadd K dX7_minor_66 ?_
        refine r_iload K 5 dX7_minor_67 rfl ?_
        refine r_iload K 0 dX7_minor_69 rfl ?_
        refine r_ior K dX7_minor_71 ?_
        refine w_callS K hl H (fun r h => hself _ _ _ _ _ _ r h) mC_yX7_minor mM_RX7_39 mT_yX7_minor mZ_RX7 (Nat.le_refl _) (Nat.le_of_ble_eq_true rfl) np_yX7_minor rfl (Nat.le_of_ble_eq_true rfl) dX7_minor_72 (fun r3 H => ?_) ⟨Nat.zero_le _, Nat.zero_le _⟩
        refine r_lmul K dX7_minor_75 ?_
        refine r_ladd K dX7_minor_76 ?_
        refine r_lstore K [(5, .long _), (9, .int _), (0, .ref _), (1, .int _), (2, .int _), (3, .int _), (4, .int _), (7, .int _), (8, .int _)] dX7_minor_77 (by decide) rfl ?_
        refine r_iload K 7 dX7_minor_79 rfl ?_
        refine r_ineg K dX7_minor_81 ?_
        refine r_istore K [(7, .int _), (5, .long _), (9, .int _), (0, .ref _), (1, .int _), (2, .int _), (3, .int _), (4, .int _), (8, .int _)] dX7_minor_82 (by decide) rfl ?_
        exact r_sub [3, 4, 5, 6, 7, 1, 0, 8] rfl (t_X7_minor_84 hd1 hself K hl H D)
set_option maxRecDepth 10000 in
theorem l_X7_minor_16 {X : jX} {l : Launch} {n : Nat} {Y : jY} {self : Nat → Int32 → Int32 → Int32 → Int32 → jM → Option (Int64 × jM)} {dp : Nat} (hd1 : 1 ≤ dp) (hself : ∀ a0 a1 a2 a3 a4 μ q, self a0 a1 a2 a3 a4 μ = some q → jC l yX7_minor cX7_minor 10 (some .long) dp 0 0 [.ref a0, .int a1, .int a2, .int a3, .int a4] n Y μ n Y (some (.long q.1)) q.2) (K : jOK X RX7 cX7_minor 10 (some .long) (dp + 1)) (hl : X.2.1 = l) {rr : Int64} {μr : jM} {v0 : Nat} {v1 : Int32} {v2 : Int32} {v3 : Int32} {v4 : Int32}  {s0 : Int64 × Int32 × Int32 × jM} {z : (Int64 × jM)} (H : jit jF (fun (s : Int64 × Int32 × Int32 × jM) => b_X7_minor_16 Y self v0 v1 v2 v3 v4 s.1 s.2.1 s.2.2.1 s.2.2.2) s0 = some z) (D : z = (rr, μr)) : JW X (jEnd X n Y (some (.long rr)) μr 0 0) 0 0 n Y 16 [(0, .ref v0), (1, .int v1), (2, .int v2), (3, .int v3), (4, .int v4), (5, .long s0.1), (7, .int s0.2.1), (8, .int s0.2.2.1)] [] s0.2.2.2 :=
  jit_ind (P := fun (s : Int64 × Int32 × Int32 × jM) => JW X (jEnd X n Y (some (.long rr)) μr 0 0) 0 0 n Y 16 [(0, .ref v0), (1, .int v1), (2, .int v2), (3, .int v3), (4, .int v4), (5, .long s.1), (7, .int s.2.1), (8, .int s.2.2.1)] [] s.2.2.2) (D := fun r => r = (rr, μr)) (fun s z Hs Ds => t_X7_minor_16 hd1 hself K hl Hs Ds) jF s0 z H D
set_option maxRecDepth 10000 in
theorem t_X7_minor_0 {X : jX} {l : Launch} {n : Nat} {Y : jY} {self : Nat → Int32 → Int32 → Int32 → Int32 → jM → Option (Int64 × jM)} {dp : Nat} (hd1 : 1 ≤ dp) (hself : ∀ a0 a1 a2 a3 a4 μ q, self a0 a1 a2 a3 a4 μ = some q → jC l yX7_minor cX7_minor 10 (some .long) dp 0 0 [.ref a0, .int a1, .int a2, .int a3, .int a4] n Y μ n Y (some (.long q.1)) q.2) (K : jOK X RX7 cX7_minor 10 (some .long) (dp + 1)) (hl : X.2.1 = l) {rr : Int64} {μr : jM} {v0 : Nat} {v1 : Int32} {v2 : Int32} {v3 : Int32} {v4 : Int32} {μ : jM} {z : (Int64 × jM)} (H : f_X7_minor Y self v0 v1 v2 v3 v4 μ = some z) (D : z = (rr, μr)) : JW X (jEnd X n Y (some (.long rr)) μr 0 0) 0 0 n Y 0 [(0, .ref v0), (1, .int v1), (2, .int v2), (3, .int v3), (4, .int v4)] [] μ := by
  unfold f_X7_minor at H
  refine r_iload_n K 3 dX7_minor_0 rfl rfl ?_
  refine r_iload_n K 1 dX7_minor_1 rfl rfl ?_
  refine w_icmp_lt K 7 dX7_minor_2 (by decide) H (fun _ H => ?_) (fun _ H => ?_)
  · refine r_lconst (v := 0) K dX7_minor_7 (by decide) ?_
    refine r_lstore K [(5, .long _), (0, .ref _), (1, .int _), (2, .int _), (3, .int _), (4, .int _)] dX7_minor_8 (by decide) rfl ?_
    refine r_iconst (v := 1) K dX7_minor_10 (by decide) ?_
    refine r_istore K [(7, .int _), (5, .long _), (0, .ref _), (1, .int _), (2, .int _), (3, .int _), (4, .int _)] dX7_minor_11 (by decide) rfl ?_
    refine r_iconst (v := 0) K dX7_minor_13 (by decide) ?_
    refine r_istore K [(8, .int _), (7, .int _), (5, .long _), (0, .ref _), (1, .int _), (2, .int _), (3, .int _), (4, .int _)] dX7_minor_14 (by decide) rfl ?_
    exact r_sub [3, 4, 5, 6, 7, 2, 1, 0] rfl (l_X7_minor_16 hd1 hself K hl H D)
  · refine r_lconst (v := 1) K dX7_minor_5 (by decide) ?_
    cases H
    obtain ⟨rfl, rfl⟩ := jfin2 D
    exact r_lret K dX7_minor_6
/-- with so many calls of itself at most -/
def f_X7_minor_r (Y : jY) : Nat → Nat → Int32 → Int32 → Int32 → Int32 → jM → Option (Int64 × jM)
  | 0 => fun _ _ _ _ _ _ => none
  | dp + 1 => f_X7_minor Y (f_X7_minor_r Y dp)
theorem c_X7_minor_r (l : Launch) {n : Nat} {Y : jY} : ∀ (dp : Nat) (v0 : Nat) (v1 : Int32) (v2 : Int32) (v3 : Int32) (v4 : Int32) (μ : jM) (z : Int64 × jM), f_X7_minor_r Y dp v0 v1 v2 v3 v4 μ = some z → jC l yX7_minor cX7_minor 10 (some .long) (1 + dp) 0 0 [.ref v0, .int v1, .int v2, .int v3, .int v4] n Y μ n Y (some (.long z.1)) z.2 := by
  intro dp
  induction dp with
  | zero => intro v0 v1 v2 v3 v4 μ z H; cases H
  | succ dp ih =>
    intro v0 v1 v2 v3 v4 μ z H
    refine jC_of (by decide +kernel) (Nat.le_of_ble_eq_true rfl) (fun X hl K _ _ _ => ?_)
    obtain ⟨rr, μr⟩ := z
    exact t_X7_minor_0 (self := f_X7_minor_r Y dp) (dp := 1 + dp) (Nat.le_add_right _ _) ih K hl H rfl
theorem c_X7_minor (l : Launch) {n : Nat} {Y : jY} {v0 : Nat} {v1 : Int32} {v2 : Int32} {v3 : Int32} {v4 : Int32} {μ : jM} {z : Int64 × jM} (H : f_X7_minor_r Y 8 v0 v1 v2 v3 v4 μ = some z) : jC l yX7_minor cX7_minor 10 (some .long) 9 0 0 [.ref v0, .int v1, .int v2, .int v3, .int v4] n Y μ n Y (some (.long z.1)) z.2 := c_X7_minor_r l 8 _ _ _ _ _ _ z H
/-! RX7 momentTable(II)J -/
def f_X7_momentTable (Y : jY) (v0 : Nat) (v1 : Int32) (v2 : Int32) (μ : jM) : Option (Int64 × jM) :=
  (jgO Y μ v0 7 3).bind fun x1 =>
  (f_X7_minor_r Y 8 x1 v1 v2 ((0 : Int32)) ((0 : Int32)) μ).bind fun r2 =>
  some (r2.1, r2.2)
set_option maxRecDepth 10000 in
theorem t_X7_momentTable_0 {X : jX} {l : Launch} {n : Nat} {Y : jY} (K : jOK X RX7 cX7_momentTable 3 (some .long) 10) (hl : X.2.1 = l) {rr : Int64} {μr : jM} {v0 : Nat} {v1 : Int32} {v2 : Int32} {μ : jM} {z : (Int64 × jM)} (H : f_X7_momentTable Y v0 v1 v2 μ = some z) (D : z = (rr, μr)) : JW X (jEnd X n Y (some (.long rr)) μr 0 0) 0 0 n Y 0 [(0, .ref v0), (1, .int v1), (2, .int v2)] [] μ := by
  unfold f_X7_momentTable at H
  refine r_aload_n K 0 dX7_momentTable_0 rfl rfl ?_
  refine w_getO K vc7 inX7 3 (by decide) mF_RX7_22 dX7_momentTable_1 H (fun x1 H => ?_)
  refine r_iload_n K 1 dX7_momentTable_4 rfl rfl ?_
  refine r_iload_n K 2 dX7_momentTable_5 rfl rfl ?_
  refine r_iconst (v := 0) K dX7_momentTable_6 (by decide) ?_
  refine r_iconst (v := 0) K dX7_momentTable_7 (by decide) ?_
  refine w_callS K hl H (fun r h => c_X7_minor l h) mC_yX7_minor mM_RX7_39 mT_yX7_minor mZ_RX7 (Nat.le_of_ble_eq_true rfl) (Nat.le_of_ble_eq_true rfl) np_yX7_minor rfl (Nat.le_of_ble_eq_true rfl) dX7_momentTable_8 (fun r2 H => ?_) ⟨Nat.zero_le _, Nat.zero_le _⟩
  cases H
  obtain ⟨rfl, rfl⟩ := jfin2 D
  exact r_lret K dX7_momentTable_11
theorem c_X7_momentTable (l : Launch) {n : Nat} {Y : jY} {v0 : Nat} {v1 : Int32} {v2 : Int32} {μ : jM} {z : Int64 × jM} (H : f_X7_momentTable Y v0 v1 v2 μ = some z) : jC l yX7_momentTable cX7_momentTable 3 (some .long) 10 0 0 [.ref v0, .int v1, .int v2] n Y μ n Y (some (.long z.1)) z.2 := by
  refine jC_of (by decide +kernel) (Nat.le_of_ble_eq_true rfl) (fun X hl K _ _ _ => ?_)
  obtain ⟨rr, μr⟩ := z
  exact t_X7_momentTable_0 K hl H rfl
/-! RX8 divideAll([LChainTables$Fraction;ILChainTables$Fraction;)V -/
def b_X8_divideAll_2 (Y : jY) (v0 : Nat) (v1 : Int32) (v2 : Nat) (v3 : Int32) (μ : jM) : Option ((Int32 × jM) ⊕ (jM)) :=
  if v1 ≤ v3 then
    some (.inr μ)
  else
    (jaO Y μ v0 23 v3).bind fun x1 =>
    (jrcv Y x1 1 (f_X1_divide Y x1 v2 μ)).bind fun μ2 =>
    some (.inl ((v3 + (1 : Int32)), μ2))
def f_X8_divideAll (Y : jY) (v0 : Nat) (v1 : Int32) (v2 : Nat) (μ : jM) : Option (jM) :=
  jit jF (fun (s : Int32 × jM) => b_X8_divideAll_2 Y v0 v1 v2 s.1 s.2) ((0 : Int32), μ)
set_option maxRecDepth 10000 in
theorem t_X8_divideAll_2 {X : jX} {l : Launch} {n : Nat} {Y : jY} (K : jOK X RX8 cX8_divideAll 4 none 5) (hl : X.2.1 = l) {μr : jM} {v0 : Nat} {v1 : Int32} {v2 : Nat} {v3 : Int32} {μ : jM} {z : ((Int32 × jM) ⊕ (jM))} (H : b_X8_divideAll_2 Y v0 v1 v2 v3 μ = some z) (D : Sum.elim (fun (s : Int32 × jM) => JW X (jEnd X n Y none μr 0 0) 0 0 n Y 2 [(0, .ref v0), (1, .int v1), (2, .ref v2), (3, .int s.1)] [] s.2) (fun r => r = μr) z) : JW X (jEnd X n Y none μr 0 0) 0 0 n Y 2 [(0, .ref v0), (1, .int v1), (2, .ref v2), (3, .int v3)] [] μ := by
  unfold b_X8_divideAll_2 at H
  refine r_iload_n K 3 dX8_divideAll_2 rfl rfl ?_
  refine r_iload_n K 1 dX8_divideAll_3 rfl rfl ?_
  refine w_icmp_ge K 20 dX8_divideAll_4 (by decide) H (fun _ H => ?_) (fun _ H => ?_)
  · cases H
    simp only [Sum.elim_inr] at D
    subst D
    exact r_vret K dX8_divideAll_20
  · refine r_aload_n K 0 dX8_divideAll_7 rfl rfl ?_
    refine r_iload_n K 3 dX8_divideAll_8 rfl rfl ?_
    refine w_aald K 23 rfl rfl dX8_divideAll_9 H (fun x1 H => ?_)
    refine r_aload_n K 2 dX8_divideAll_10 rfl rfl ?_
    refine w_callV K hl H (fun r h => c_X1_divide l h) mC_yX1_divide mM_RX8_106 mI_yX1_divide mS_yX1_divide mZ_RX1 vc1 (Nat.le_of_ble_eq_true rfl) (Nat.le_of_ble_eq_true rfl) np_yX1_divide rfl (Nat.le_of_ble_eq_true rfl) dX8_divideAll_11 (fun μ2 H => ?_) ⟨Nat.zero_le _, Nat.zero_le _⟩
    refine r_iinc K 3 [(3, .int _), (0, .ref _), (1, .int _), (2, .ref _)] (v := _ + (1 : Int32)) dX8_divideAll_14 rfl rfl (by decide) rfl ?_
    refine r_goto K 2 dX8_divideAll_17 (by decide) ?_
    cases H
    exact r_sub [1, 2, 3, 0] rfl D
set_option maxRecDepth 10000 in
theorem l_X8_divideAll_2 {X : jX} {l : Launch} {n : Nat} {Y : jY} (K : jOK X RX8 cX8_divideAll 4 none 5) (hl : X.2.1 = l) {μr : jM} {v0 : Nat} {v1 : Int32} {v2 : Nat}  {s0 : Int32 × jM} {z : (jM)} (H : jit jF (fun (s : Int32 × jM) => b_X8_divideAll_2 Y v0 v1 v2 s.1 s.2) s0 = some z) (D : z = μr) : JW X (jEnd X n Y none μr 0 0) 0 0 n Y 2 [(0, .ref v0), (1, .int v1), (2, .ref v2), (3, .int s0.1)] [] s0.2 :=
  jit_ind (P := fun (s : Int32 × jM) => JW X (jEnd X n Y none μr 0 0) 0 0 n Y 2 [(0, .ref v0), (1, .int v1), (2, .ref v2), (3, .int s.1)] [] s.2) (D := fun r => r = μr) (fun s z Hs Ds => t_X8_divideAll_2 K hl Hs Ds) jF s0 z H D
set_option maxRecDepth 10000 in
theorem t_X8_divideAll_0 {X : jX} {l : Launch} {n : Nat} {Y : jY} (K : jOK X RX8 cX8_divideAll 4 none 5) (hl : X.2.1 = l) {μr : jM} {v0 : Nat} {v1 : Int32} {v2 : Nat} {μ : jM} {z : (jM)} (H : f_X8_divideAll Y v0 v1 v2 μ = some z) (D : z = μr) : JW X (jEnd X n Y none μr 0 0) 0 0 n Y 0 [(0, .ref v0), (1, .int v1), (2, .ref v2)] [] μ := by
  unfold f_X8_divideAll at H
  refine r_iconst (v := 0) K dX8_divideAll_0 (by decide) ?_
  refine r_istore_n K [(3, .int _), (0, .ref _), (1, .int _), (2, .ref _)] dX8_divideAll_1 rfl (by decide) rfl ?_
  exact r_sub [1, 2, 3, 0] rfl (l_X8_divideAll_2 K hl H D)
theorem c_X8_divideAll (l : Launch) {n : Nat} {Y : jY} {v0 : Nat} {v1 : Int32} {v2 : Nat} {μ : jM} {z : jM} (H : f_X8_divideAll Y v0 v1 v2 μ = some z) : jC l yX8_divideAll cX8_divideAll 4 none 5 0 0 [.ref v0, .int v1, .ref v2] n Y μ n Y none z := by
  refine jC_of (by decide +kernel) (Nat.le_of_ble_eq_true rfl) (fun X hl K _ _ _ => ?_)
  exact t_X8_divideAll_0 K hl H rfl
/-! RX8 leaveRest([LChainTables$Fraction;[LChainTables$Fraction;[LChainTables$Fraction;ILChainTables$Fraction;)V -/
def b_X8_leaveRest_37 (Y : jY) (v0 : Nat) (v1 : Nat) (v2 : Nat) (v3 : Nat) (v4 : Int32) (v5 : Nat) (v6 : Int32) (μ : jM) : Option ((Int32 × jM) ⊕ (jM)) :=
  (jgO Y μ v0 8 9).bind fun x1 =>
  (jrcv Y x1 1 (f_X1_copy Y x1 v5 μ)).bind fun μ2 =>
  (jgO Y μ2 v0 8 9).bind fun x3 =>
  (jaO Y μ2 v2 23 v6).bind fun x4 =>
  (jrcv Y x3 1 (f_X1_multiply Y x3 x4 μ2)).bind fun μ5 =>
  (jaO Y μ5 v3 23 v6).bind fun x6 =>
  (jgO Y μ5 v0 8 9).bind fun x7 =>
  (jrcv Y x6 1 (f_X1_subtract Y x6 x7 μ5)).bind fun μ8 =>
  (jaO Y μ8 v3 23 v6).bind fun x9 =>
  (jaO Y μ8 v1 23 v6).bind fun x10 =>
  (jrcv Y x9 1 (f_X1_subtract Y x9 x10 μ8)).bind fun μ11 =>
  some (.inl ((v6 + (1 : Int32)), μ11))
def b_X8_leaveRest_3 (Y : jY) (v0 : Nat) (v1 : Nat) (v2 : Nat) (v3 : Nat) (v4 : Int32) (v5 : Nat) (v6 : Int32) (μ : jM) : Option ((Int32 × jM) ⊕ (jM)) :=
  if v4 ≤ v6 then
    some (.inr μ)
  else
    (jaO Y μ v3 23 v6).bind fun x1 =>
    (jrcv Y x1 1 (f_X1_set Y x1 ((0 : Int64)) ((1 : Int64)) μ)).bind fun μ2 =>
    if v6 ≤ 0 then
      b_X8_leaveRest_37 Y v0 v1 v2 v3 v4 v5 v6 μ2
    else
      (jaO Y μ2 v3 23 v6).bind fun x3 =>
      (jaO Y μ2 v2 23 ((v6 - ((1 : Int32))))).bind fun x4 =>
      (jrcv Y x3 1 (f_X1_copy Y x3 x4 μ2)).bind fun μ5 =>
      b_X8_leaveRest_37 Y v0 v1 v2 v3 v4 v5 v6 μ5
def f_X8_leaveRest (Y : jY) (v0 : Nat) (v1 : Nat) (v2 : Nat) (v3 : Nat) (v4 : Int32) (v5 : Nat) (μ : jM) : Option (jM) :=
  jit jF (fun (s : Int32 × jM) => b_X8_leaveRest_3 Y v0 v1 v2 v3 v4 v5 s.1 s.2) ((0 : Int32), μ)
set_option maxRecDepth 10000 in
theorem t_X8_leaveRest_37 {X : jX} {l : Launch} {n : Nat} {Y : jY} (K : jOK X RX8 cX8_leaveRest 7 none 5) (hl : X.2.1 = l) {μr : jM} {v0 : Nat} {v1 : Nat} {v2 : Nat} {v3 : Nat} {v4 : Int32} {v5 : Nat} {v6 : Int32} {μ : jM} {z : ((Int32 × jM) ⊕ (jM))} (H : b_X8_leaveRest_37 Y v0 v1 v2 v3 v4 v5 v6 μ = some z) (D : Sum.elim (fun (s : Int32 × jM) => JW X (jEnd X n Y none μr 0 0) 0 0 n Y 3 [(0, .ref v0), (1, .ref v1), (2, .ref v2), (3, .ref v3), (4, .int v4), (5, .ref v5), (6, .int s.1)] [] s.2) (fun r => r = μr) z) : JW X (jEnd X n Y none μr 0 0) 0 0 n Y 37 [(0, .ref v0), (1, .ref v1), (2, .ref v2), (3, .ref v3), (4, .int v4), (5, .ref v5), (6, .int v6)] [] μ := by
  unfold b_X8_leaveRest_37 at H
  refine r_aload_n K 0 dX8_leaveRest_37 rfl rfl ?_
  refine w_getO K vc8 inX8 9 (by decide) mF_RX8_44 dX8_leaveRest_38 H (fun x1 H => ?_)
  refine r_aload K 5 dX8_leaveRest_41 rfl ?_
  refine w_callV K hl H (fun r h => c_X1_copy l h) mC_yX1_copy mM_RX8_88 mI_yX1_copy mS_yX1_copy mZ_RX1 vc1 (Nat.le_of_ble_eq_true rfl) (Nat.le_of_ble_eq_true rfl) np_yX1_copy rfl (Nat.le_of_ble_eq_true rfl) dX8_leaveRest_43 (fun μ2 H => ?_) ⟨Nat.zero_le _, Nat.zero_le _⟩
  refine r_aload_n K 0 dX8_leaveRest_46 rfl rfl ?_
  refine w_getO K vc8 inX8 9 (by decide) mF_RX8_44 dX8_leaveRest_47 H (fun x3 H => ?_)
  refine r_aload_n K 2 dX8_leaveRest_50 rfl rfl ?_
  refine r_iload K 6 dX8_leaveRest_51 rfl ?_
  refine w_aald K 23 rfl rfl dX8_leaveRest_53 H (fun x4 H => ?_)
  refine w_callV K hl H (fun r h => c_X1_multiply l h) mC_yX1_multiply mM_RX8_103 mI_yX1_multiply mS_yX1_multiply mZ_RX1 vc1 (Nat.le_of_ble_eq_true rfl) (Nat.le_of_ble_eq_true rfl) np_yX1_multiply rfl (Nat.le_of_ble_eq_true rfl) dX8_leaveRest_54 (fun μ5 H => ?_) ⟨Nat.zero_le _, Nat.zero_le _⟩
  refine r_aload_n K 3 dX8_leaveRest_57 rfl rfl ?_
  refine r_iload K 6 dX8_leaveRest_58 rfl ?_
  refine w_aald K 23 rfl rfl dX8_leaveRest_60 H (fun x6 H => ?_)
  refine r_aload_n K 0 dX8_leaveRest_61 rfl rfl ?_
  refine w_getO K vc8 inX8 9 (by decide) mF_RX8_44 dX8_leaveRest_62 H (fun x7 H => ?_)
  refine w_callV K hl H (fun r h => c_X1_subtract l h) mC_yX1_subtract mM_RX8_92 mI_yX1_subtract mS_yX1_subtract mZ_RX1 vc1 (Nat.le_of_ble_eq_true rfl) (Nat.le_of_ble_eq_true rfl) np_yX1_subtract rfl (Nat.le_of_ble_eq_true rfl) dX8_leaveRest_65 (fun μ8 H => ?_) ⟨Nat.zero_le _, Nat.zero_le _⟩
  refine r_aload_n K 3 dX8_leaveRest_68 rfl rfl ?_
  refine r_iload K 6 dX8_leaveRest_69 rfl ?_
  refine w_aald K 23 rfl rfl dX8_leaveRest_71 H (fun x9 H => ?_)
  refine r_aload_n K 1 dX8_leaveRest_72 rfl rfl ?_
  refine r_iload K 6 dX8_leaveRest_73 rfl ?_
  refine w_aald K 23 rfl rfl dX8_leaveRest_75 H (fun x10 H => ?_)
  refine w_callV K hl H (fun r h => c_X1_subtract l h) mC_yX1_subtract mM_RX8_92 mI_yX1_subtract mS_yX1_subtract mZ_RX1 vc1 (Nat.le_of_ble_eq_true rfl) (Nat.le_of_ble_eq_true rfl) np_yX1_subtract rfl (Nat.le_of_ble_eq_true rfl) dX8_leaveRest_76 (fun μ11 H => ?_) ⟨Nat.zero_le _, Nat.zero_le _⟩
  refine r_iinc K 6 [(6, .int _), (0, .ref _), (1, .ref _), (2, .ref _), (3, .ref _), (4, .int _), (5, .ref _)] (v := _ + (1 : Int32)) dX8_leaveRest_79 rfl rfl (by decide) rfl ?_
  refine r_goto K 3 dX8_leaveRest_82 (by decide) ?_
  cases H
  exact r_sub [1, 2, 3, 4, 5, 6, 0] rfl D
set_option maxRecDepth 10000 in
theorem t_X8_leaveRest_3 {X : jX} {l : Launch} {n : Nat} {Y : jY} (K : jOK X RX8 cX8_leaveRest 7 none 5) (hl : X.2.1 = l) {μr : jM} {v0 : Nat} {v1 : Nat} {v2 : Nat} {v3 : Nat} {v4 : Int32} {v5 : Nat} {v6 : Int32} {μ : jM} {z : ((Int32 × jM) ⊕ (jM))} (H : b_X8_leaveRest_3 Y v0 v1 v2 v3 v4 v5 v6 μ = some z) (D : Sum.elim (fun (s : Int32 × jM) => JW X (jEnd X n Y none μr 0 0) 0 0 n Y 3 [(0, .ref v0), (1, .ref v1), (2, .ref v2), (3, .ref v3), (4, .int v4), (5, .ref v5), (6, .int s.1)] [] s.2) (fun r => r = μr) z) : JW X (jEnd X n Y none μr 0 0) 0 0 n Y 3 [(0, .ref v0), (1, .ref v1), (2, .ref v2), (3, .ref v3), (4, .int v4), (5, .ref v5), (6, .int v6)] [] μ := by
  unfold b_X8_leaveRest_3 at H
  refine r_iload K 6 dX8_leaveRest_3 rfl ?_
  refine r_iload K 4 dX8_leaveRest_5 rfl ?_
  refine w_icmp_ge K 85 dX8_leaveRest_7 (by decide) H (fun _ H => ?_) (fun _ H => ?_)
  · cases H
    simp only [Sum.elim_inr] at D
    subst D
    exact r_vret K dX8_leaveRest_85
  · refine r_aload_n K 3 dX8_leaveRest_10 rfl rfl ?_
    refine r_iload K 6 dX8_leaveRest_11 rfl ?_
    refine w_aald K 23 rfl rfl dX8_leaveRest_13 H (fun x1 H => ?_)
    refine r_lconst (v := 0) K dX8_leaveRest_14 (by decide) ?_
    refine r_lconst (v := 1) K dX8_leaveRest_15 (by decide) ?_
    refine w_callV K hl H (fun r h => c_X1_set l h) mC_yX1_set mM_RX8_84 mI_yX1_set mS_yX1_set mZ_RX1 vc1 (Nat.le_of_ble_eq_true rfl) (Nat.le_of_ble_eq_true rfl) np_yX1_set rfl (Nat.le_of_ble_eq_true rfl) dX8_leaveRest_16 (fun μ2 H => ?_) ⟨Nat.zero_le _, Nat.zero_le _⟩
    refine r_iload K 6 dX8_leaveRest_19 rfl ?_
    refine w_if_le K 37 dX8_leaveRest_21 (by decide) H (fun _ H => ?_) (fun _ H => ?_)
    · exact r_sub [0, 1, 2, 3, 4, 5, 6] rfl (t_X8_leaveRest_37 K hl H D)
    · refine r_aload_n K 3 dX8_leaveRest_24 rfl rfl ?_
      refine r_iload K 6 dX8_leaveRest_25 rfl ?_
      refine w_aald K 23 rfl rfl dX8_leaveRest_27 H (fun x3 H => ?_)
      refine r_aload_n K 2 dX8_leaveRest_28 rfl rfl ?_
      refine r_iload K 6 dX8_leaveRest_29 rfl ?_
      refine r_iconst (v := 1) K dX8_leaveRest_31 (by decide) ?_
      refine r_isub K dX8_leaveRest_32 ?_
      refine w_aald K 23 rfl rfl dX8_leaveRest_33 H (fun x4 H => ?_)
      refine w_callV K hl H (fun r h => c_X1_copy l h) mC_yX1_copy mM_RX8_88 mI_yX1_copy mS_yX1_copy mZ_RX1 vc1 (Nat.le_of_ble_eq_true rfl) (Nat.le_of_ble_eq_true rfl) np_yX1_copy rfl (Nat.le_of_ble_eq_true rfl) dX8_leaveRest_34 (fun μ5 H => ?_) ⟨Nat.zero_le _, Nat.zero_le _⟩
      exact r_sub [0, 1, 2, 3, 4, 5, 6] rfl (t_X8_leaveRest_37 K hl H D)
set_option maxRecDepth 10000 in
theorem l_X8_leaveRest_3 {X : jX} {l : Launch} {n : Nat} {Y : jY} (K : jOK X RX8 cX8_leaveRest 7 none 5) (hl : X.2.1 = l) {μr : jM} {v0 : Nat} {v1 : Nat} {v2 : Nat} {v3 : Nat} {v4 : Int32} {v5 : Nat}  {s0 : Int32 × jM} {z : (jM)} (H : jit jF (fun (s : Int32 × jM) => b_X8_leaveRest_3 Y v0 v1 v2 v3 v4 v5 s.1 s.2) s0 = some z) (D : z = μr) : JW X (jEnd X n Y none μr 0 0) 0 0 n Y 3 [(0, .ref v0), (1, .ref v1), (2, .ref v2), (3, .ref v3), (4, .int v4), (5, .ref v5), (6, .int s0.1)] [] s0.2 :=
  jit_ind (P := fun (s : Int32 × jM) => JW X (jEnd X n Y none μr 0 0) 0 0 n Y 3 [(0, .ref v0), (1, .ref v1), (2, .ref v2), (3, .ref v3), (4, .int v4), (5, .ref v5), (6, .int s.1)] [] s.2) (D := fun r => r = μr) (fun s z Hs Ds => t_X8_leaveRest_3 K hl Hs Ds) jF s0 z H D
set_option maxRecDepth 10000 in
theorem t_X8_leaveRest_0 {X : jX} {l : Launch} {n : Nat} {Y : jY} (K : jOK X RX8 cX8_leaveRest 7 none 5) (hl : X.2.1 = l) {μr : jM} {v0 : Nat} {v1 : Nat} {v2 : Nat} {v3 : Nat} {v4 : Int32} {v5 : Nat} {μ : jM} {z : (jM)} (H : f_X8_leaveRest Y v0 v1 v2 v3 v4 v5 μ = some z) (D : z = μr) : JW X (jEnd X n Y none μr 0 0) 0 0 n Y 0 [(0, .ref v0), (1, .ref v1), (2, .ref v2), (3, .ref v3), (4, .int v4), (5, .ref v5)] [] μ := by
  unfold f_X8_leaveRest at H
  refine r_iconst (v := 0) K dX8_leaveRest_0 (by decide) ?_
  refine r_istore K [(6, .int _), (0, .ref _), (1, .ref _), (2, .ref _), (3, .ref _), (4, .int _), (5, .ref _)] dX8_leaveRest_1 (by decide) rfl ?_
  exact r_sub [1, 2, 3, 4, 5, 6, 0] rfl (l_X8_leaveRest_3 K hl H D)
theorem c_X8_leaveRest (l : Launch) {n : Nat} {Y : jY} {v0 : Nat} {v1 : Nat} {v2 : Nat} {v3 : Nat} {v4 : Int32} {v5 : Nat} {μ : jM} {z : jM} (H : f_X8_leaveRest Y v0 v1 v2 v3 v4 v5 μ = some z) : jC l yX8_leaveRest cX8_leaveRest 7 none 5 0 0 [.ref v0, .ref v1, .ref v2, .ref v3, .int v4, .ref v5] n Y μ n Y none z := by
  refine jC_of (by decide +kernel) (Nat.le_of_ble_eq_true rfl) (fun X hl K _ _ _ => ?_)
  exact t_X8_leaveRest_0 K hl H rfl
/-! RX8 setWhole([LChainTables$Fraction;[JI)V -/
def b_X8_setWhole_35 (Y : jY) (μ : jM) : Option (jM) :=
  some μ
def b_X8_setWhole_2 (Y : jY) (v0 : Nat) (v1 : Nat) (v2 : Int32) (v3 : Int32) (μ : jM) : Option ((Int32 × jM) ⊕ (jM)) :=
  if v2 ≤ v3 then
    (b_X8_setWhole_35 Y μ).map (fun r => (.inr r))
  else
    (jlen Y v0 23).bind fun x1 =>
    if x1 ≤ v3 then
      (b_X8_setWhole_35 Y μ).map (fun r => (.inr r))
    else
      (jlen Y v1 21).bind fun x2 =>
      if x2 ≤ v3 then
        (b_X8_setWhole_35 Y μ).map (fun r => (.inr r))
      else
        (jaO Y μ v0 23 v3).bind fun x3 =>
        (jaL Y μ v1 21 v3).bind fun x4 =>
        (jrcv Y x3 1 (f_X1_set Y x3 x4 ((1 : Int64)) μ)).bind fun μ5 =>
        some (.inl ((v3 + (1 : Int32)), μ5))
def f_X8_setWhole (Y : jY) (v0 : Nat) (v1 : Nat) (v2 : Int32) (μ : jM) : Option (jM) :=
  jit jF (fun (s : Int32 × jM) => b_X8_setWhole_2 Y v0 v1 v2 s.1 s.2) ((0 : Int32), μ)
set_option maxRecDepth 10000 in
theorem t_X8_setWhole_35 {X : jX} {l : Launch} {n : Nat} {Y : jY} (K : jOK X RX8 cX8_setWhole 4 none 3) (hl : X.2.1 = l) {μr : jM} {μ : jM} {z : (jM)} (H : b_X8_setWhole_35 Y μ = some z) (D : z = μr) : JW X (jEnd X n Y none μr 0 0) 0 0 n Y 35 [] [] μ := by
  unfold b_X8_setWhole_35 at H
  cases H
  subst D
  exact r_vret K dX8_setWhole_35
set_option maxRecDepth 10000 in
theorem t_X8_setWhole_2 {X : jX} {l : Launch} {n : Nat} {Y : jY} (K : jOK X RX8 cX8_setWhole 4 none 3) (hl : X.2.1 = l) {μr : jM} {v0 : Nat} {v1 : Nat} {v2 : Int32} {v3 : Int32} {μ : jM} {z : ((Int32 × jM) ⊕ (jM))} (H : b_X8_setWhole_2 Y v0 v1 v2 v3 μ = some z) (D : Sum.elim (fun (s : Int32 × jM) => JW X (jEnd X n Y none μr 0 0) 0 0 n Y 2 [(0, .ref v0), (1, .ref v1), (2, .int v2), (3, .int s.1)] [] s.2) (fun r => r = μr) z) : JW X (jEnd X n Y none μr 0 0) 0 0 n Y 2 [(0, .ref v0), (1, .ref v1), (2, .int v2), (3, .int v3)] [] μ := by
  unfold b_X8_setWhole_2 at H
  refine r_iload_n K 3 dX8_setWhole_2 rfl rfl ?_
  refine r_iload_n K 2 dX8_setWhole_3 rfl rfl ?_
  refine w_icmp_ge K 35 dX8_setWhole_4 (by decide) H (fun _ H => ?_) (fun _ H => ?_)
  · obtain ⟨z2, H2, rfl⟩ := jmap H
    exact r_sub [] rfl (t_X8_setWhole_35 K hl H2 D)
  · refine r_iload_n K 3 dX8_setWhole_7 rfl rfl ?_
    refine r_aload_n K 0 dX8_setWhole_8 rfl rfl ?_
    refine w_alen K 23 rfl dX8_setWhole_9 H (fun x1 H => ?_)
    refine w_icmp_ge K 35 dX8_setWhole_10 (by decide) H (fun _ H => ?_) (fun _ H => ?_)
    · obtain ⟨z2, H2, rfl⟩ := jmap H
      exact r_sub [] rfl (t_X8_setWhole_35 K hl H2 D)
    · refine r_iload_n K 3 dX8_setWhole_13 rfl rfl ?_
      refine r_aload_n K 1 dX8_setWhole_14 rfl rfl ?_
      refine w_alen K 21 rfl dX8_setWhole_15 H (fun x2 H => ?_)
      refine w_icmp_ge K 35 dX8_setWhole_16 (by decide) H (fun _ H => ?_) (fun _ H => ?_)
      · obtain ⟨z2, H2, rfl⟩ := jmap H
        exact r_sub [] rfl (t_X8_setWhole_35 K hl H2 D)
      · refine r_aload_n K 0 dX8_setWhole_19 rfl rfl ?_
        refine r_iload_n K 3 dX8_setWhole_20 rfl rfl ?_
        refine w_aald K 23 rfl rfl dX8_setWhole_21 H (fun x3 H => ?_)
        refine r_aload_n K 1 dX8_setWhole_22 rfl rfl ?_
        refine r_iload_n K 3 dX8_setWhole_23 rfl rfl ?_
        refine w_lald K dX8_setWhole_24 H (fun x4 H => ?_)
        refine r_lconst (v := 1) K dX8_setWhole_25 (by decide) ?_
        refine w_callV K hl H (fun r h => c_X1_set l h) mC_yX1_set mM_RX8_84 mI_yX1_set mS_yX1_set mZ_RX1 vc1 (Nat.le_of_ble_eq_true rfl) (Nat.le_of_ble_eq_true rfl) np_yX1_set rfl (Nat.le_of_ble_eq_true rfl) dX8_setWhole_26 (fun μ5 H => ?_) ⟨Nat.zero_le _, Nat.zero_le _⟩
        refine r_iinc K 3 [(3, .int _), (0, .ref _), (1, .ref _), (2, .int _)] (v := _ + (1 : Int32)) dX8_setWhole_29 rfl rfl (by decide) rfl ?_
        refine r_goto K 2 dX8_setWhole_32 (by decide) ?_
        cases H
        exact r_sub [1, 2, 3, 0] rfl D
set_option maxRecDepth 10000 in
theorem l_X8_setWhole_2 {X : jX} {l : Launch} {n : Nat} {Y : jY} (K : jOK X RX8 cX8_setWhole 4 none 3) (hl : X.2.1 = l) {μr : jM} {v0 : Nat} {v1 : Nat} {v2 : Int32}  {s0 : Int32 × jM} {z : (jM)} (H : jit jF (fun (s : Int32 × jM) => b_X8_setWhole_2 Y v0 v1 v2 s.1 s.2) s0 = some z) (D : z = μr) : JW X (jEnd X n Y none μr 0 0) 0 0 n Y 2 [(0, .ref v0), (1, .ref v1), (2, .int v2), (3, .int s0.1)] [] s0.2 :=
  jit_ind (P := fun (s : Int32 × jM) => JW X (jEnd X n Y none μr 0 0) 0 0 n Y 2 [(0, .ref v0), (1, .ref v1), (2, .int v2), (3, .int s.1)] [] s.2) (D := fun r => r = μr) (fun s z Hs Ds => t_X8_setWhole_2 K hl Hs Ds) jF s0 z H D
set_option maxRecDepth 10000 in
theorem t_X8_setWhole_0 {X : jX} {l : Launch} {n : Nat} {Y : jY} (K : jOK X RX8 cX8_setWhole 4 none 3) (hl : X.2.1 = l) {μr : jM} {v0 : Nat} {v1 : Nat} {v2 : Int32} {μ : jM} {z : (jM)} (H : f_X8_setWhole Y v0 v1 v2 μ = some z) (D : z = μr) : JW X (jEnd X n Y none μr 0 0) 0 0 n Y 0 [(0, .ref v0), (1, .ref v1), (2, .int v2)] [] μ := by
  unfold f_X8_setWhole at H
  refine r_iconst (v := 0) K dX8_setWhole_0 (by decide) ?_
  refine r_istore_n K [(3, .int _), (0, .ref _), (1, .ref _), (2, .int _)] dX8_setWhole_1 rfl (by decide) rfl ?_
  exact r_sub [1, 2, 3, 0] rfl (l_X8_setWhole_2 K hl H D)
theorem c_X8_setWhole (l : Launch) {n : Nat} {Y : jY} {v0 : Nat} {v1 : Nat} {v2 : Int32} {μ : jM} {z : jM} (H : f_X8_setWhole Y v0 v1 v2 μ = some z) : jC l yX8_setWhole cX8_setWhole 4 none 3 0 0 [.ref v0, .ref v1, .int v2] n Y μ n Y none z := by
  refine jC_of (by decide +kernel) (Nat.le_of_ble_eq_true rfl) (fun X hl K _ _ _ => ?_)
  exact t_X8_setWhole_0 K hl H rfl
/-! RX8 rebuild(LChainTables$Tones;)V -/
def b_X8_rebuild_208 (Y : jY) (v0 : Nat) (v2 : Nat) (v3 : Nat) (v4 : Nat) (v5 : Int32) (μ : jM) : Option ((Nat × Nat × Nat × Int32 × jM) ⊕ (jM)) :=
  some (.inl (v2, v3, v4, (v5 + (1 : Int32)), μ))
def b_X8_rebuild_122 (Y : jY) (v0 : Nat) (v2 : Nat) (v3 : Nat) (v4 : Nat) (v5 : Int32) (v6 : Int32) (μ : jM) : Option ((Nat × Nat × Nat × Int32 × jM) ⊕ (jM)) :=
  (jgO Y μ v0 8 2).bind fun x1 =>
  (jaO Y μ x1 23 v5).bind fun x2 =>
  (jaO Y μ v2 23 ((v6 - ((1 : Int32))))).bind fun x3 =>
  (jrcv Y x2 1 (f_X1_subtract Y x2 x3 μ)).bind fun μ4 =>
  if v6 ≤ ((1 : Int32)) then
    b_X8_rebuild_208 Y v0 v2 v3 v4 v5 μ4
  else
    (jgO Y μ4 v0 8 2).bind fun x5 =>
    (jaO Y μ4 x5 23 v5).bind fun x6 =>
    (jrcv Y v0 8 (f_X8_leaveRest Y v0 v2 v3 v4 ((v6 - ((1 : Int32)))) x6 μ4)).bind fun μ7 =>
    (jgO Y μ7 v0 8 3).bind fun x8 =>
    (jaO Y μ7 x8 23 v5).bind fun x9 =>
    (jaO Y μ7 v4 23 ((v6 - ((2 : Int32))))).bind fun x10 =>
    (jrcv Y x9 1 (f_X1_copy Y x9 x10 μ7)).bind fun μ11 =>
    (jgO Y μ11 v0 8 3).bind fun x12 =>
    (jaO Y μ11 x12 23 v5).bind fun x13 =>
    (f_X8_divideAll Y v4 ((v6 - ((1 : Int32)))) x13 μ11).bind fun μ14 =>
    b_X8_rebuild_208 Y v0 v3 v4 v2 v5 μ14
def b_X8_rebuild_70 (Y : jY) (v0 : Nat) (v2 : Nat) (v3 : Nat) (v4 : Nat) (v5 : Int32) (μ : jM) : Option ((Nat × Nat × Nat × Int32 × jM) ⊕ (jM)) :=
  (jgI Y μ v0 8 1).bind fun x1 =>
  if x1 ≤ v5 then
    some (.inr μ)
  else
    (jgI Y μ v0 8 1).bind fun x2 =>
    (jgO Y μ v0 8 2).bind fun x3 =>
    (jaO Y μ x3 23 v5).bind fun x4 =>
    (jrcv Y x4 1 (f_X1_set Y x4 ((0 : Int64)) ((1 : Int64)) μ)).bind fun μ5 =>
    if ((x2 - v5)) ≤ ((1 : Int32)) then
      b_X8_rebuild_122 Y v0 v2 v3 v4 v5 (x2 - v5) μ5
    else
      (jgO Y μ5 v0 8 2).bind fun x6 =>
      (jaO Y μ5 x6 23 v5).bind fun x7 =>
      (jaO Y μ5 v3 23 ((((x2 - v5)) - ((2 : Int32))))).bind fun x8 =>
      (jrcv Y x7 1 (f_X1_copy Y x7 x8 μ5)).bind fun μ9 =>
      b_X8_rebuild_122 Y v0 v2 v3 v4 v5 (x2 - v5) μ9
def f_X8_rebuild (Y : jY) (v0 : Nat) (v1 : Nat) (μ : jM) : Option (jM) :=
  (jgO Y μ v0 8 0).bind fun x1 =>
  (jrcv Y x1 7 (f_X7_rebuild Y x1 v1 μ)).bind fun μ2 =>
  (jgO Y μ2 v0 8 0).bind fun x3 =>
  (jgI Y μ2 x3 7 0).bind fun x4 =>
  (jput Y μ2 v0 8 1 (.int x4)).bind fun μ5 =>
  (jgO Y μ5 v0 8 6).bind fun x6 =>
  (jgO Y μ5 v0 8 7).bind fun x7 =>
  (jgO Y μ5 v0 8 8).bind fun x8 =>
  (jgO Y μ5 v0 8 0).bind fun x9 =>
  (jgO Y μ5 x9 7 1).bind fun x10 =>
  (jgI Y μ5 v0 8 1).bind fun x11 =>
  (f_X8_setWhole Y x6 x10 ((x11 + ((1 : Int32)))) μ5).bind fun μ12 =>
  (jgO Y μ12 v0 8 0).bind fun x13 =>
  (jgO Y μ12 x13 7 2).bind fun x14 =>
  (jgI Y μ12 v0 8 1).bind fun x15 =>
  (f_X8_setWhole Y x7 x14 x15 μ12).bind fun μ16 =>
  jit jF (fun (s : Nat × Nat × Nat × Int32 × jM) => b_X8_rebuild_70 Y v0 s.1 s.2.1 s.2.2.1 s.2.2.2.1 s.2.2.2.2) (x6, x7, x8, (0 : Int32), μ16)
set_option maxRecDepth 10000 in
theorem t_X8_rebuild_208 {X : jX} {l : Launch} {n : Nat} {Y : jY} (K : jOK X RX8 cX8_rebuild 8 none 6) (hl : X.2.1 = l) {μr : jM} {v0 : Nat} {v2 : Nat} {v3 : Nat} {v4 : Nat} {v5 : Int32} {μ : jM} {z : ((Nat × Nat × Nat × Int32 × jM) ⊕ (jM))} (H : b_X8_rebuild_208 Y v0 v2 v3 v4 v5 μ = some z) (D : Sum.elim (fun (s : Nat × Nat × Nat × Int32 × jM) => JW X (jEnd X n Y none μr 0 0) 0 0 n Y 70 [(0, .ref v0), (2, .ref s.1), (3, .ref s.2.1), (4, .ref s.2.2.1), (5, .int s.2.2.2.1)] [] s.2.2.2.2) (fun r => r = μr) z) : JW X (jEnd X n Y none μr 0 0) 0 0 n Y 208 [(0, .ref v0), (2, .ref v2), (3, .ref v3), (4, .ref v4), (5, .int v5)] [] μ := by
  unfold b_X8_rebuild_208 at H
  refine r_iinc K 4 [(5, .int _), (0, .ref _), (2, .ref _), (3, .ref _), (4, .ref _)] (v := _ + (1 : Int32)) dX8_rebuild_208 rfl rfl (by decide) rfl ?_
  refine r_goto K 70 dX8_rebuild_211 (by decide) ?_
  cases H
  exact r_sub [1, 2, 3, 4, 0] rfl D
set_option maxRecDepth 10000 in
theorem t_X8_rebuild_122 {X : jX} {l : Launch} {n : Nat} {Y : jY} (K : jOK X RX8 cX8_rebuild 8 none 6) (hl : X.2.1 = l) {μr : jM} {v0 : Nat} {v2 : Nat} {v3 : Nat} {v4 : Nat} {v5 : Int32} {v6 : Int32} {μ : jM} {z : ((Nat × Nat × Nat × Int32 × jM) ⊕ (jM))} (H : b_X8_rebuild_122 Y v0 v2 v3 v4 v5 v6 μ = some z) (D : Sum.elim (fun (s : Nat × Nat × Nat × Int32 × jM) => JW X (jEnd X n Y none μr 0 0) 0 0 n Y 70 [(0, .ref v0), (2, .ref s.1), (3, .ref s.2.1), (4, .ref s.2.2.1), (5, .int s.2.2.2.1)] [] s.2.2.2.2) (fun r => r = μr) z) : JW X (jEnd X n Y none μr 0 0) 0 0 n Y 122 [(0, .ref v0), (2, .ref v2), (3, .ref v3), (4, .ref v4), (5, .int v5), (6, .int v6)] [] μ := by
  unfold b_X8_rebuild_122 at H
  refine r_aload_n K 0 dX8_rebuild_122 rfl rfl ?_
  refine w_getO K vc8 inX8 2 (by decide) mF_RX8_21 dX8_rebuild_123 H (fun x1 H => ?_)
  refine r_iload K 4 dX8_rebuild_126 rfl ?_
  refine w_aald K 23 rfl rfl dX8_rebuild_128 H (fun x2 H => ?_)
  refine r_aload_n K 1 dX8_rebuild_129 rfl rfl ?_
  refine r_iload K 5 dX8_rebuild_130 rfl ?_
  refine r_iconst (v := 1) K dX8_rebuild_132 (by decide) ?_
  refine r_isub K dX8_rebuild_133 ?_
  refine w_aald K 23 rfl rfl dX8_rebuild_134 H (fun x3 H => ?_)
  refine w_callV K hl H (fun r h => c_X1_subtract l h) mC_yX1_subtract mM_RX8_92 mI_yX1_subtract mS_yX1_subtract mZ_RX1 vc1 (Nat.le_of_ble_eq_true rfl) (Nat.le_of_ble_eq_true rfl) np_yX1_subtract rfl (Nat.le_of_ble_eq_true rfl) dX8_rebuild_135 (fun μ4 H => ?_) ⟨Nat.zero_le _, Nat.zero_le _⟩
  refine r_iload K 5 dX8_rebuild_138 rfl ?_
  refine r_iconst (v := 1) K dX8_rebuild_140 (by decide) ?_
  refine w_icmp_le K 208 dX8_rebuild_141 (by decide) H (fun _ H => ?_) (fun _ H => ?_)
  · exact r_sub [0, 1, 2, 3, 4] rfl (t_X8_rebuild_208 K hl H D)
  · refine r_aload_n K 0 dX8_rebuild_144 rfl rfl ?_
    refine r_aload_n K 1 dX8_rebuild_145 rfl rfl ?_
    refine r_aload_n K 2 dX8_rebuild_146 rfl rfl ?_
    refine r_aload K 3 dX8_rebuild_147 rfl ?_
    refine r_iload K 5 dX8_rebuild_149 rfl ?_
    refine r_iconst (v := 1) K dX8_rebuild_151 (by decide) ?_
    refine r_isub K dX8_rebuild_152 ?_
    refine r_aload_n K 0 dX8_rebuild_153 rfl rfl ?_
    refine w_getO K vc8 inX8 2 (by decide) mF_RX8_21 dX8_rebuild_154 H (fun x5 H => ?_)
    refine r_iload K 4 dX8_rebuild_157 rfl ?_
    refine w_aald K 23 rfl rfl dX8_rebuild_159 H (fun x6 H => ?_)
    refine w_callV K hl H (fun r h => c_X8_leaveRest l h) mC_yX8_leaveRest mM_RX8_95 mI_yX8_leaveRest mS_yX8_leaveRest mZ_RX8 vc8 (Nat.le_of_ble_eq_true rfl) (Nat.le_of_ble_eq_true rfl) np_yX8_leaveRest rfl (Nat.le_of_ble_eq_true rfl) dX8_rebuild_160 (fun μ7 H => ?_) ⟨Nat.zero_le _, Nat.zero_le _⟩
    refine r_aload_n K 0 dX8_rebuild_163 rfl rfl ?_
    refine w_getO K vc8 inX8 3 (by decide) mF_RX8_25 dX8_rebuild_164 H (fun x8 H => ?_)
    refine r_iload K 4 dX8_rebuild_167 rfl ?_
    refine w_aald K 23 rfl rfl dX8_rebuild_169 H (fun x9 H => ?_)
    refine r_aload K 3 dX8_rebuild_170 rfl ?_
    refine r_iload K 5 dX8_rebuild_172 rfl ?_
    refine r_iconst (v := 2) K dX8_rebuild_174 (by decide) ?_
    refine r_isub K dX8_rebuild_175 ?_
    refine w_aald K 23 rfl rfl dX8_rebuild_176 H (fun x10 H => ?_)
    refine w_callV K hl H (fun r h => c_X1_copy l h) mC_yX1_copy mM_RX8_88 mI_yX1_copy mS_yX1_copy mZ_RX1 vc1 (Nat.le_of_ble_eq_true rfl) (Nat.le_of_ble_eq_true rfl) np_yX1_copy rfl (Nat.le_of_ble_eq_true rfl) dX8_rebuild_177 (fun μ11 H => ?_) ⟨Nat.zero_le _, Nat.zero_le _⟩
    refine r_aload K 3 dX8_rebuild_180 rfl ?_
    refine r_iload K 5 dX8_rebuild_182 rfl ?_
    refine r_iconst (v := 1) K dX8_rebuild_184 (by decide) ?_
    refine r_isub K dX8_rebuild_185 ?_
    refine r_aload_n K 0 dX8_rebuild_186 rfl rfl ?_
    refine w_getO K vc8 inX8 3 (by decide) mF_RX8_25 dX8_rebuild_187 H (fun x12 H => ?_)
    refine r_iload K 4 dX8_rebuild_190 rfl ?_
    refine w_aald K 23 rfl rfl dX8_rebuild_192 H (fun x13 H => ?_)
    refine w_callS K hl H (fun r h => c_X8_divideAll l h) mC_yX8_divideAll mM_RX8_99 mT_yX8_divideAll mZ_RX8 (Nat.le_of_ble_eq_true rfl) (Nat.le_of_ble_eq_true rfl) np_yX8_divideAll rfl (Nat.le_of_ble_eq_true rfl) dX8_rebuild_193 (fun μ14 H => ?_) ⟨Nat.zero_le _, Nat.zero_le _⟩
    refine r_aload_n K 1 dX8_rebuild_196 rfl rfl ?_
    refine r_astore K [(7, .ref _), (0, .ref _), (2, .ref _), (3, .ref _), (4, .ref _), (5, .int _), (6, .int _)] dX8_rebuild_197 (by decide) rfl ?_
    refine r_aload_n K 3 dX8_rebuild_199 rfl rfl ?_
    refine r_astore_n K [(2, .ref _), (7, .ref _), (0, .ref _), (3, .ref _), (4, .ref _), (5, .int _), (6, .int _)] dX8_rebuild_200 rfl (by decide) rfl ?_
    refine r_aload K 4 dX8_rebuild_201 rfl ?_
    refine r_astore_n K [(3, .ref _), (2, .ref _), (7, .ref _), (0, .ref _), (4, .ref _), (5, .int _), (6, .int _)] dX8_rebuild_203 rfl (by decide) rfl ?_
    refine r_aload K 2 dX8_rebuild_204 rfl ?_
    refine r_astore K [(4, .ref _), (3, .ref _), (2, .ref _), (7, .ref _), (0, .ref _), (5, .int _), (6, .int _)] dX8_rebuild_206 (by decide) rfl ?_
    exact r_sub [4, 2, 1, 0, 5] rfl (t_X8_rebuild_208 K hl H D)
set_option maxRecDepth 10000 in
theorem t_X8_rebuild_70 {X : jX} {l : Launch} {n : Nat} {Y : jY} (K : jOK X RX8 cX8_rebuild 8 none 6) (hl : X.2.1 = l) {μr : jM} {v0 : Nat} {v2 : Nat} {v3 : Nat} {v4 : Nat} {v5 : Int32} {μ : jM} {z : ((Nat × Nat × Nat × Int32 × jM) ⊕ (jM))} (H : b_X8_rebuild_70 Y v0 v2 v3 v4 v5 μ = some z) (D : Sum.elim (fun (s : Nat × Nat × Nat × Int32 × jM) => JW X (jEnd X n Y none μr 0 0) 0 0 n Y 70 [(0, .ref v0), (2, .ref s.1), (3, .ref s.2.1), (4, .ref s.2.2.1), (5, .int s.2.2.2.1)] [] s.2.2.2.2) (fun r => r = μr) z) : JW X (jEnd X n Y none μr 0 0) 0 0 n Y 70 [(0, .ref v0), (2, .ref v2), (3, .ref v3), (4, .ref v4), (5, .int v5)] [] μ := by
  unfold b_X8_rebuild_70 at H
  refine r_iload K 4 dX8_rebuild_70 rfl ?_
  refine r_aload_n K 0 dX8_rebuild_72 rfl rfl ?_
  refine w_getI K vc8 inX8 1 (by decide) mF_RX8_9 dX8_rebuild_73 H (fun x1 H => ?_)
  refine w_icmp_ge K 214 dX8_rebuild_76 (by decide) H (fun _ H => ?_) (fun _ H => ?_)
  · cases H
    simp only [Sum.elim_inr] at D
    subst D
    exact r_vret K dX8_rebuild_214
  · refine r_aload_n K 0 dX8_rebuild_79 rfl rfl ?_
    refine w_getI K vc8 inX8 1 (by decide) mF_RX8_9 dX8_rebuild_80 H (fun x2 H => ?_)
    refine r_iload K 4 dX8_rebuild_83 rfl ?_
    refine r_isub K dX8_rebuild_85 ?_
    refine r_istore K [(6, .int _), (0, .ref _), (2, .ref _), (3, .ref _), (4, .ref _), (5, .int _)] dX8_rebuild_86 (by decide) rfl ?_
    refine r_aload_n K 1 dX8_rebuild_88 rfl rfl ?_
    refine w_getO K vc8 inX8 2 (by decide) mF_RX8_21 dX8_rebuild_89 H (fun x3 H => ?_)
    refine r_iload K 5 dX8_rebuild_92 rfl ?_
    refine w_aald K 23 rfl rfl dX8_rebuild_94 H (fun x4 H => ?_)
    refine r_lconst (v := 0) K dX8_rebuild_95 (by decide) ?_
    refine r_lconst (v := 1) K dX8_rebuild_96 (by decide) ?_
    refine w_callV K hl H (fun r h => c_X1_set l h) mC_yX1_set mM_RX8_84 mI_yX1_set mS_yX1_set mZ_RX1 vc1 (Nat.le_of_ble_eq_true rfl) (Nat.le_of_ble_eq_true rfl) np_yX1_set rfl (Nat.le_of_ble_eq_true rfl) dX8_rebuild_97 (fun μ5 H => ?_) ⟨Nat.zero_le _, Nat.zero_le _⟩
    refine r_iload K 0 dX8_rebuild_100 rfl ?_
    refine r_iconst (v := 1) K dX8_rebuild_102 (by decide) ?_
    refine w_icmp_le K 122 dX8_rebuild_103 (by decide) H (fun _ H => ?_) (fun _ H => ?_)
    · exact r_sub [1, 2, 3, 4, 5, 0] rfl (t_X8_rebuild_122 K hl H D)
    · refine r_aload_n K 1 dX8_rebuild_106 rfl rfl ?_
      refine w_getO K vc8 inX8 2 (by decide) mF_RX8_21 dX8_rebuild_107 H (fun x6 H => ?_)
      refine r_iload K 5 dX8_rebuild_110 rfl ?_
      refine w_aald K 23 rfl rfl dX8_rebuild_112 H (fun x7 H => ?_)
      refine r_aload_n K 3 dX8_rebuild_113 rfl rfl ?_
      refine r_iload K 0 dX8_rebuild_114 rfl ?_
      refine r_iconst (v := 2) K dX8_rebuild_116 (by decide) ?_
      refine r_isub K dX8_rebuild_117 ?_
      refine w_aald K 23 rfl rfl dX8_rebuild_118 H (fun x8 H => ?_)
      refine w_callV K hl H (fun r h => c_X1_copy l h) mC_yX1_copy mM_RX8_88 mI_yX1_copy mS_yX1_copy mZ_RX1 vc1 (Nat.le_of_ble_eq_true rfl) (Nat.le_of_ble_eq_true rfl) np_yX1_copy rfl (Nat.le_of_ble_eq_true rfl) dX8_rebuild_119 (fun μ9 H => ?_) ⟨Nat.zero_le _, Nat.zero_le _⟩
      exact r_sub [1, 2, 3, 4, 5, 0] rfl (t_X8_rebuild_122 K hl H D)
set_option maxRecDepth 10000 in
theorem l_X8_rebuild_70 {X : jX} {l : Launch} {n : Nat} {Y : jY} (K : jOK X RX8 cX8_rebuild 8 none 6) (hl : X.2.1 = l) {μr : jM} {v0 : Nat}  {s0 : Nat × Nat × Nat × Int32 × jM} {z : (jM)} (H : jit jF (fun (s : Nat × Nat × Nat × Int32 × jM) => b_X8_rebuild_70 Y v0 s.1 s.2.1 s.2.2.1 s.2.2.2.1 s.2.2.2.2) s0 = some z) (D : z = μr) : JW X (jEnd X n Y none μr 0 0) 0 0 n Y 70 [(0, .ref v0), (2, .ref s0.1), (3, .ref s0.2.1), (4, .ref s0.2.2.1), (5, .int s0.2.2.2.1)] [] s0.2.2.2.2 :=
  jit_ind (P := fun (s : Nat × Nat × Nat × Int32 × jM) => JW X (jEnd X n Y none μr 0 0) 0 0 n Y 70 [(0, .ref v0), (2, .ref s.1), (3, .ref s.2.1), (4, .ref s.2.2.1), (5, .int s.2.2.2.1)] [] s.2.2.2.2) (D := fun r => r = μr) (fun s z Hs Ds => t_X8_rebuild_70 K hl Hs Ds) jF s0 z H D
set_option maxRecDepth 10000 in
theorem t_X8_rebuild_0 {X : jX} {l : Launch} {n : Nat} {Y : jY} (K : jOK X RX8 cX8_rebuild 8 none 6) (hl : X.2.1 = l) {μr : jM} {v0 : Nat} {v1 : Nat} {μ : jM} {z : (jM)} (H : f_X8_rebuild Y v0 v1 μ = some z) (D : z = μr) : JW X (jEnd X n Y none μr 0 0) 0 0 n Y 0 [(0, .ref v0), (1, .ref v1)] [] μ := by
  unfold f_X8_rebuild at H
  refine r_aload_n K 0 dX8_rebuild_0 rfl rfl ?_
  refine w_getO K vc8 inX8 0 (by decide) mF_RX8_60 dX8_rebuild_1 H (fun x1 H => ?_)
  refine r_aload_n K 1 dX8_rebuild_4 rfl rfl ?_
  refine w_callV K hl H (fun r h => c_X7_rebuild l h) mC_yX7_rebuild mM_RX8_64 mI_yX7_rebuild mS_yX7_rebuild mZ_RX7 vc7 (Nat.le_of_ble_eq_true rfl) (Nat.le_of_ble_eq_true rfl) np_yX7_rebuild rfl (Nat.le_of_ble_eq_true rfl) dX8_rebuild_5 (fun μ2 H => ?_) ⟨Nat.zero_le _, Nat.zero_le _⟩
  refine r_aload_n K 0 dX8_rebuild_8 rfl rfl ?_
  refine r_aload_n K 0 dX8_rebuild_9 rfl rfl ?_
  refine w_getO K vc8 inX8 0 (by decide) mF_RX8_60 dX8_rebuild_10 H (fun x3 H => ?_)
  refine w_getI K vc7 inX7 0 (by decide) mF_RX8_70 dX8_rebuild_13 H (fun x4 H => ?_)
  refine w_put K vc8 inX8 tyX8_ok nmX8 1 (by decide) mF_RX8_9 rfl (fun _ => rfl) (fun _ => rfl) dX8_rebuild_16 H (fun μ5 H => ?_)
  refine r_aload_n K 0 dX8_rebuild_19 rfl rfl ?_
  refine w_getO K vc8 inX8 6 (by decide) mF_RX8_34 dX8_rebuild_20 H (fun x6 H => ?_)
  refine r_astore_n K [(2, .ref _), (0, .ref _), (1, .ref _)] dX8_rebuild_23 rfl (by decide) rfl ?_
  refine r_aload_n K 1 dX8_rebuild_24 rfl rfl ?_
  refine w_getO K vc8 inX8 7 (by decide) mF_RX8_37 dX8_rebuild_25 H (fun x7 H => ?_)
  refine r_astore_n K [(3, .ref _), (2, .ref _), (0, .ref _), (1, .ref _)] dX8_rebuild_28 rfl (by decide) rfl ?_
  refine r_aload_n K 2 dX8_rebuild_29 rfl rfl ?_
  refine w_getO K vc8 inX8 8 (by decide) mF_RX8_40 dX8_rebuild_30 H (fun x8 H => ?_)
  refine r_astore K [(4, .ref _), (3, .ref _), (2, .ref _), (0, .ref _), (1, .ref _)] dX8_rebuild_33 (by decide) rfl ?_
  refine r_aload_n K 2 dX8_rebuild_35 rfl rfl ?_
  refine r_aload_n K 3 dX8_rebuild_36 rfl rfl ?_
  refine w_getO K vc8 inX8 0 (by decide) mF_RX8_60 dX8_rebuild_37 H (fun x9 H => ?_)
  refine w_getO K vc7 inX7 1 (by decide) mF_RX8_73 dX8_rebuild_40 H (fun x10 H => ?_)
  refine r_aload_n K 3 dX8_rebuild_43 rfl rfl ?_
  refine w_getI K vc8 inX8 1 (by decide) mF_RX8_9 dX8_rebuild_44 H (fun x11 H => ?_)
  refine r_iconst (v := 1) K dX8_rebuild_47 (by decide) ?_
  refine r_iadd K dX8_rebuild_48 ?_
  refine w_callS K hl H (fun r h => c_X8_setWhole l h) mC_yX8_setWhole mM_RX8_77 mT_yX8_setWhole mZ_RX8 (Nat.le_of_ble_eq_true rfl) (Nat.le_of_ble_eq_true rfl) np_yX8_setWhole rfl (Nat.le_of_ble_eq_true rfl) dX8_rebuild_49 (fun μ12 H => ?_) ⟨Nat.zero_le _, Nat.zero_le _⟩
  refine r_aload_n K 1 dX8_rebuild_52 rfl rfl ?_
  refine r_aload_n K 3 dX8_rebuild_53 rfl rfl ?_
  refine w_getO K vc8 inX8 0 (by decide) mF_RX8_60 dX8_rebuild_54 H (fun x13 H => ?_)
  refine w_getO K vc7 inX7 2 (by decide) mF_RX8_81 dX8_rebuild_57 H (fun x14 H => ?_)
  refine r_aload_n K 3 dX8_rebuild_60 rfl rfl ?_
  refine w_getI K vc8 inX8 1 (by decide) mF_RX8_9 dX8_rebuild_61 H (fun x15 H => ?_)
  refine w_callS K hl H (fun r h => c_X8_setWhole l h) mC_yX8_setWhole mM_RX8_77 mT_yX8_setWhole mZ_RX8 (Nat.le_of_ble_eq_true rfl) (Nat.le_of_ble_eq_true rfl) np_yX8_setWhole rfl (Nat.le_of_ble_eq_true rfl) dX8_rebuild_64 (fun μ16 H => ?_) ⟨Nat.zero_le _, Nat.zero_le _⟩
  refine r_iconst (v := 0) K dX8_rebuild_67 (by decide) ?_
  refine r_istore K [(5, .int _), (4, .ref _), (3, .ref _), (2, .ref _), (0, .ref _), (1, .ref _)] dX8_rebuild_68 (by decide) rfl ?_
  exact r_sub [4, 3, 2, 1, 0] rfl (l_X8_rebuild_70 K hl H D)
theorem c_X8_rebuild (l : Launch) {n : Nat} {Y : jY} {v0 : Nat} {v1 : Nat} {μ : jM} {z : jM} (H : f_X8_rebuild Y v0 v1 μ = some z) : jC l yX8_rebuild cX8_rebuild 8 none 6 0 0 [.ref v0, .ref v1] n Y μ n Y none z := by
  refine jC_of (by decide +kernel) (Nat.le_of_ble_eq_true rfl) (fun X hl K _ _ _ => ?_)
  exact t_X8_rebuild_0 K hl H rfl
/-! RX8 stepOn(I[LChainTables$Fraction;[LChainTables$Fraction;[LChainTables$Fraction;)V -/
def b_X8_stepOn_118 (Y : jY) (v0 : Nat) (v1 : Int32) (v2 : Nat) (v3 : Nat) (v4 : Nat) (v5 : Int32) (μ : jM) : Option ((Int32 × jM) ⊕ (jM)) :=
  some (.inl ((v5 + (1 : Int32)), μ))
def b_X8_stepOn_40 (Y : jY) (v0 : Nat) (v1 : Int32) (v2 : Nat) (v3 : Nat) (v4 : Nat) (v5 : Int32) (μ : jM) : Option ((Int32 × jM) ⊕ (jM)) :=
  (jgO Y μ v0 8 9).bind fun x1 =>
  (jgO Y μ v0 8 2).bind fun x2 =>
  (jaO Y μ x2 23 v1).bind fun x3 =>
  (jrcv Y x1 1 (f_X1_copy Y x1 x3 μ)).bind fun μ4 =>
  (jgO Y μ4 v0 8 9).bind fun x5 =>
  (jaO Y μ4 v3 23 v5).bind fun x6 =>
  (jrcv Y x5 1 (f_X1_multiply Y x5 x6 μ4)).bind fun μ7 =>
  (jaO Y μ7 v4 23 v5).bind fun x8 =>
  (jgO Y μ7 v0 8 9).bind fun x9 =>
  (jrcv Y x8 1 (f_X1_subtract Y x8 x9 μ7)).bind fun μ10 =>
  if v1 ≤ 0 then
    b_X8_stepOn_118 Y v0 v1 v2 v3 v4 v5 μ10
  else
    (jgO Y μ10 v0 8 9).bind fun x11 =>
    (jgO Y μ10 v0 8 3).bind fun x12 =>
    (jaO Y μ10 x12 23 ((v1 - ((1 : Int32))))).bind fun x13 =>
    (jrcv Y x11 1 (f_X1_copy Y x11 x13 μ10)).bind fun μ14 =>
    (jgO Y μ14 v0 8 9).bind fun x15 =>
    (jaO Y μ14 v2 23 v5).bind fun x16 =>
    (jrcv Y x15 1 (f_X1_multiply Y x15 x16 μ14)).bind fun μ17 =>
    (jaO Y μ17 v4 23 v5).bind fun x18 =>
    (jgO Y μ17 v0 8 9).bind fun x19 =>
    (jrcv Y x18 1 (f_X1_subtract Y x18 x19 μ17)).bind fun μ20 =>
    b_X8_stepOn_118 Y v0 v1 v2 v3 v4 v5 μ20
def b_X8_stepOn_3 (Y : jY) (v0 : Nat) (v1 : Int32) (v2 : Nat) (v3 : Nat) (v4 : Nat) (v5 : Int32) (μ : jM) : Option ((Int32 × jM) ⊕ (jM)) :=
  if ((v1 + ((1 : Int32)))) < v5 then
    some (.inr μ)
  else
    (jaO Y μ v4 23 v5).bind fun x1 =>
    (jrcv Y x1 1 (f_X1_set Y x1 ((0 : Int64)) ((1 : Int64)) μ)).bind fun μ2 =>
    if v5 ≤ 0 then
      b_X8_stepOn_40 Y v0 v1 v2 v3 v4 v5 μ2
    else
      (jaO Y μ2 v4 23 v5).bind fun x3 =>
      (jaO Y μ2 v3 23 ((v5 - ((1 : Int32))))).bind fun x4 =>
      (jrcv Y x3 1 (f_X1_copy Y x3 x4 μ2)).bind fun μ5 =>
      b_X8_stepOn_40 Y v0 v1 v2 v3 v4 v5 μ5
def f_X8_stepOn (Y : jY) (v0 : Nat) (v1 : Int32) (v2 : Nat) (v3 : Nat) (v4 : Nat) (μ : jM) : Option (jM) :=
  jit jF (fun (s : Int32 × jM) => b_X8_stepOn_3 Y v0 v1 v2 v3 v4 s.1 s.2) ((0 : Int32), μ)
set_option maxRecDepth 10000 in
theorem t_X8_stepOn_118 {X : jX} {l : Launch} {n : Nat} {Y : jY} (K : jOK X RX8 cX8_stepOn 6 none 5) (hl : X.2.1 = l) {μr : jM} {v0 : Nat} {v1 : Int32} {v2 : Nat} {v3 : Nat} {v4 : Nat} {v5 : Int32} {μ : jM} {z : ((Int32 × jM) ⊕ (jM))} (H : b_X8_stepOn_118 Y v0 v1 v2 v3 v4 v5 μ = some z) (D : Sum.elim (fun (s : Int32 × jM) => JW X (jEnd X n Y none μr 0 0) 0 0 n Y 3 [(0, .ref v0), (1, .int v1), (2, .ref v2), (3, .ref v3), (4, .ref v4), (5, .int s.1)] [] s.2) (fun r => r = μr) z) : JW X (jEnd X n Y none μr 0 0) 0 0 n Y 118 [(0, .ref v0), (1, .int v1), (2, .ref v2), (3, .ref v3), (4, .ref v4), (5, .int v5)] [] μ := by
  unfold b_X8_stepOn_118 at H
  refine r_iinc K 5 [(5, .int _), (0, .ref _), (1, .int _), (2, .ref _), (3, .ref _), (4, .ref _)] (v := _ + (1 : Int32)) dX8_stepOn_118 rfl rfl (by decide) rfl ?_
  refine r_goto K 3 dX8_stepOn_121 (by decide) ?_
  cases H
  exact r_sub [1, 2, 3, 4, 5, 0] rfl D
set_option maxRecDepth 10000 in
theorem t_X8_stepOn_40 {X : jX} {l : Launch} {n : Nat} {Y : jY} (K : jOK X RX8 cX8_stepOn 6 none 5) (hl : X.2.1 = l) {μr : jM} {v0 : Nat} {v1 : Int32} {v2 : Nat} {v3 : Nat} {v4 : Nat} {v5 : Int32} {μ : jM} {z : ((Int32 × jM) ⊕ (jM))} (H : b_X8_stepOn_40 Y v0 v1 v2 v3 v4 v5 μ = some z) (D : Sum.elim (fun (s : Int32 × jM) => JW X (jEnd X n Y none μr 0 0) 0 0 n Y 3 [(0, .ref v0), (1, .int v1), (2, .ref v2), (3, .ref v3), (4, .ref v4), (5, .int s.1)] [] s.2) (fun r => r = μr) z) : JW X (jEnd X n Y none μr 0 0) 0 0 n Y 40 [(0, .ref v0), (1, .int v1), (2, .ref v2), (3, .ref v3), (4, .ref v4), (5, .int v5)] [] μ := by
  unfold b_X8_stepOn_40 at H
  refine r_aload_n K 0 dX8_stepOn_40 rfl rfl ?_
  refine w_getO K vc8 inX8 9 (by decide) mF_RX8_44 dX8_stepOn_41 H (fun x1 H => ?_)
  refine r_aload_n K 0 dX8_stepOn_44 rfl rfl ?_
  refine w_getO K vc8 inX8 2 (by decide) mF_RX8_21 dX8_stepOn_45 H (fun x2 H => ?_)
  refine r_iload_n K 1 dX8_stepOn_48 rfl rfl ?_
  refine w_aald K 23 rfl rfl dX8_stepOn_49 H (fun x3 H => ?_)
  refine w_callV K hl H (fun r h => c_X1_copy l h) mC_yX1_copy mM_RX8_88 mI_yX1_copy mS_yX1_copy mZ_RX1 vc1 (Nat.le_of_ble_eq_true rfl) (Nat.le_of_ble_eq_true rfl) np_yX1_copy rfl (Nat.le_of_ble_eq_true rfl) dX8_stepOn_50 (fun μ4 H => ?_) ⟨Nat.zero_le _, Nat.zero_le _⟩
  refine r_aload_n K 0 dX8_stepOn_53 rfl rfl ?_
  refine w_getO K vc8 inX8 9 (by decide) mF_RX8_44 dX8_stepOn_54 H (fun x5 H => ?_)
  refine r_aload_n K 3 dX8_stepOn_57 rfl rfl ?_
  refine r_iload K 5 dX8_stepOn_58 rfl ?_
  refine w_aald K 23 rfl rfl dX8_stepOn_60 H (fun x6 H => ?_)
  refine w_callV K hl H (fun r h => c_X1_multiply l h) mC_yX1_multiply mM_RX8_103 mI_yX1_multiply mS_yX1_multiply mZ_RX1 vc1 (Nat.le_of_ble_eq_true rfl) (Nat.le_of_ble_eq_true rfl) np_yX1_multiply rfl (Nat.le_of_ble_eq_true rfl) dX8_stepOn_61 (fun μ7 H => ?_) ⟨Nat.zero_le _, Nat.zero_le _⟩
  refine r_aload K 4 dX8_stepOn_64 rfl ?_
  refine r_iload K 5 dX8_stepOn_66 rfl ?_
  refine w_aald K 23 rfl rfl dX8_stepOn_68 H (fun x8 H => ?_)
  refine r_aload_n K 0 dX8_stepOn_69 rfl rfl ?_
  refine w_getO K vc8 inX8 9 (by decide) mF_RX8_44 dX8_stepOn_70 H (fun x9 H => ?_)
  refine w_callV K hl H (fun r h => c_X1_subtract l h) mC_yX1_subtract mM_RX8_92 mI_yX1_subtract mS_yX1_subtract mZ_RX1 vc1 (Nat.le_of_ble_eq_true rfl) (Nat.le_of_ble_eq_true rfl) np_yX1_subtract rfl (Nat.le_of_ble_eq_true rfl) dX8_stepOn_73 (fun μ10 H => ?_) ⟨Nat.zero_le _, Nat.zero_le _⟩
  refine r_iload_n K 1 dX8_stepOn_76 rfl rfl ?_
  refine w_if_le K 118 dX8_stepOn_77 (by decide) H (fun _ H => ?_) (fun _ H => ?_)
  · exact r_sub [0, 1, 2, 3, 4, 5] rfl (t_X8_stepOn_118 K hl H D)
  · refine r_aload_n K 0 dX8_stepOn_80 rfl rfl ?_
    refine w_getO K vc8 inX8 9 (by decide) mF_RX8_44 dX8_stepOn_81 H (fun x11 H => ?_)
    refine r_aload_n K 0 dX8_stepOn_84 rfl rfl ?_
    refine w_getO K vc8 inX8 3 (by decide) mF_RX8_25 dX8_stepOn_85 H (fun x12 H => ?_)
    refine r_iload_n K 1 dX8_stepOn_88 rfl rfl ?_
    refine r_iconst (v := 1) K dX8_stepOn_89 (by decide) ?_
    refine r_isub K dX8_stepOn_90 ?_
    refine w_aald K 23 rfl rfl dX8_stepOn_91 H (fun x13 H => ?_)
    refine w_callV K hl H (fun r h => c_X1_copy l h) mC_yX1_copy mM_RX8_88 mI_yX1_copy mS_yX1_copy mZ_RX1 vc1 (Nat.le_of_ble_eq_true rfl) (Nat.le_of_ble_eq_true rfl) np_yX1_copy rfl (Nat.le_of_ble_eq_true rfl) dX8_stepOn_92 (fun μ14 H => ?_) ⟨Nat.zero_le _, Nat.zero_le _⟩
    refine r_aload_n K 0 dX8_stepOn_95 rfl rfl ?_
    refine w_getO K vc8 inX8 9 (by decide) mF_RX8_44 dX8_stepOn_96 H (fun x15 H => ?_)
    refine r_aload_n K 2 dX8_stepOn_99 rfl rfl ?_
    refine r_iload K 5 dX8_stepOn_100 rfl ?_
    refine w_aald K 23 rfl rfl dX8_stepOn_102 H (fun x16 H => ?_)
    refine w_callV K hl H (fun r h => c_X1_multiply l h) mC_yX1_multiply mM_RX8_103 mI_yX1_multiply mS_yX1_multiply mZ_RX1 vc1 (Nat.le_of_ble_eq_true rfl) (Nat.le_of_ble_eq_true rfl) np_yX1_multiply rfl (Nat.le_of_ble_eq_true rfl) dX8_stepOn_103 (fun μ17 H => ?_) ⟨Nat.zero_le _, Nat.zero_le _⟩
    refine r_aload K 4 dX8_stepOn_106 rfl ?_
    refine r_iload K 5 dX8_stepOn_108 rfl ?_
    refine w_aald K 23 rfl rfl dX8_stepOn_110 H (fun x18 H => ?_)
    refine r_aload_n K 0 dX8_stepOn_111 rfl rfl ?_
    refine w_getO K vc8 inX8 9 (by decide) mF_RX8_44 dX8_stepOn_112 H (fun x19 H => ?_)
    refine w_callV K hl H (fun r h => c_X1_subtract l h) mC_yX1_subtract mM_RX8_92 mI_yX1_subtract mS_yX1_subtract mZ_RX1 vc1 (Nat.le_of_ble_eq_true rfl) (Nat.le_of_ble_eq_true rfl) np_yX1_subtract rfl (Nat.le_of_ble_eq_true rfl) dX8_stepOn_115 (fun μ20 H => ?_) ⟨Nat.zero_le _, Nat.zero_le _⟩
    exact r_sub [0, 1, 2, 3, 4, 5] rfl (t_X8_stepOn_118 K hl H D)
set_option maxRecDepth 10000 in
theorem t_X8_stepOn_3 {X : jX} {l : Launch} {n : Nat} {Y : jY} (K : jOK X RX8 cX8_stepOn 6 none 5) (hl : X.2.1 = l) {μr : jM} {v0 : Nat} {v1 : Int32} {v2 : Nat} {v3 : Nat} {v4 : Nat} {v5 : Int32} {μ : jM} {z : ((Int32 × jM) ⊕ (jM))} (H : b_X8_stepOn_3 Y v0 v1 v2 v3 v4 v5 μ = some z) (D : Sum.elim (fun (s : Int32 × jM) => JW X (jEnd X n Y none μr 0 0) 0 0 n Y 3 [(0, .ref v0), (1, .int v1), (2, .ref v2), (3, .ref v3), (4, .ref v4), (5, .int s.1)] [] s.2) (fun r => r = μr) z) : JW X (jEnd X n Y none μr 0 0) 0 0 n Y 3 [(0, .ref v0), (1, .int v1), (2, .ref v2), (3, .ref v3), (4, .ref v4), (5, .int v5)] [] μ := by
  unfold b_X8_stepOn_3 at H
  refine r_iload K 5 dX8_stepOn_3 rfl ?_
  refine r_iload_n K 1 dX8_stepOn_5 rfl rfl ?_
  refine r_iconst (v := 1) K dX8_stepOn_6 (by decide) ?_
  refine r_iadd K dX8_stepOn_7 ?_
  refine w_icmp_gt K 124 dX8_stepOn_8 (by decide) H (fun _ H => ?_) (fun _ H => ?_)
  · cases H
    simp only [Sum.elim_inr] at D
    subst D
    exact r_vret K dX8_stepOn_124
  · refine r_aload K 4 dX8_stepOn_11 rfl ?_
    refine r_iload K 5 dX8_stepOn_13 rfl ?_
    refine w_aald K 23 rfl rfl dX8_stepOn_15 H (fun x1 H => ?_)
    refine r_lconst (v := 0) K dX8_stepOn_16 (by decide) ?_
    refine r_lconst (v := 1) K dX8_stepOn_17 (by decide) ?_
    refine w_callV K hl H (fun r h => c_X1_set l h) mC_yX1_set mM_RX8_84 mI_yX1_set mS_yX1_set mZ_RX1 vc1 (Nat.le_of_ble_eq_true rfl) (Nat.le_of_ble_eq_true rfl) np_yX1_set rfl (Nat.le_of_ble_eq_true rfl) dX8_stepOn_18 (fun μ2 H => ?_) ⟨Nat.zero_le _, Nat.zero_le _⟩
    refine r_iload K 5 dX8_stepOn_21 rfl ?_
    refine w_if_le K 40 dX8_stepOn_23 (by decide) H (fun _ H => ?_) (fun _ H => ?_)
    · exact r_sub [0, 1, 2, 3, 4, 5] rfl (t_X8_stepOn_40 K hl H D)
    · refine r_aload K 4 dX8_stepOn_26 rfl ?_
      refine r_iload K 5 dX8_stepOn_28 rfl ?_
      refine w_aald K 23 rfl rfl dX8_stepOn_30 H (fun x3 H => ?_)
      refine r_aload_n K 3 dX8_stepOn_31 rfl rfl ?_
      refine r_iload K 5 dX8_stepOn_32 rfl ?_
      refine r_iconst (v := 1) K dX8_stepOn_34 (by decide) ?_
      refine r_isub K dX8_stepOn_35 ?_
      refine w_aald K 23 rfl rfl dX8_stepOn_36 H (fun x4 H => ?_)
      refine w_callV K hl H (fun r h => c_X1_copy l h) mC_yX1_copy mM_RX8_88 mI_yX1_copy mS_yX1_copy mZ_RX1 vc1 (Nat.le_of_ble_eq_true rfl) (Nat.le_of_ble_eq_true rfl) np_yX1_copy rfl (Nat.le_of_ble_eq_true rfl) dX8_stepOn_37 (fun μ5 H => ?_) ⟨Nat.zero_le _, Nat.zero_le _⟩
      exact r_sub [0, 1, 2, 3, 4, 5] rfl (t_X8_stepOn_40 K hl H D)
set_option maxRecDepth 10000 in
theorem l_X8_stepOn_3 {X : jX} {l : Launch} {n : Nat} {Y : jY} (K : jOK X RX8 cX8_stepOn 6 none 5) (hl : X.2.1 = l) {μr : jM} {v0 : Nat} {v1 : Int32} {v2 : Nat} {v3 : Nat} {v4 : Nat}  {s0 : Int32 × jM} {z : (jM)} (H : jit jF (fun (s : Int32 × jM) => b_X8_stepOn_3 Y v0 v1 v2 v3 v4 s.1 s.2) s0 = some z) (D : z = μr) : JW X (jEnd X n Y none μr 0 0) 0 0 n Y 3 [(0, .ref v0), (1, .int v1), (2, .ref v2), (3, .ref v3), (4, .ref v4), (5, .int s0.1)] [] s0.2 :=
  jit_ind (P := fun (s : Int32 × jM) => JW X (jEnd X n Y none μr 0 0) 0 0 n Y 3 [(0, .ref v0), (1, .int v1), (2, .ref v2), (3, .ref v3), (4, .ref v4), (5, .int s.1)] [] s.2) (D := fun r => r = μr) (fun s z Hs Ds => t_X8_stepOn_3 K hl Hs Ds) jF s0 z H D
set_option maxRecDepth 10000 in
theorem t_X8_stepOn_0 {X : jX} {l : Launch} {n : Nat} {Y : jY} (K : jOK X RX8 cX8_stepOn 6 none 5) (hl : X.2.1 = l) {μr : jM} {v0 : Nat} {v1 : Int32} {v2 : Nat} {v3 : Nat} {v4 : Nat} {μ : jM} {z : (jM)} (H : f_X8_stepOn Y v0 v1 v2 v3 v4 μ = some z) (D : z = μr) : JW X (jEnd X n Y none μr 0 0) 0 0 n Y 0 [(0, .ref v0), (1, .int v1), (2, .ref v2), (3, .ref v3), (4, .ref v4)] [] μ := by
  unfold f_X8_stepOn at H
  refine r_iconst (v := 0) K dX8_stepOn_0 (by decide) ?_
  refine r_istore K [(5, .int _), (0, .ref _), (1, .int _), (2, .ref _), (3, .ref _), (4, .ref _)] dX8_stepOn_1 (by decide) rfl ?_
  exact r_sub [1, 2, 3, 4, 5, 0] rfl (l_X8_stepOn_3 K hl H D)
theorem c_X8_stepOn (l : Launch) {n : Nat} {Y : jY} {v0 : Nat} {v1 : Int32} {v2 : Nat} {v3 : Nat} {v4 : Nat} {μ : jM} {z : jM} (H : f_X8_stepOn Y v0 v1 v2 v3 v4 μ = some z) : jC l yX8_stepOn cX8_stepOn 6 none 5 0 0 [.ref v0, .int v1, .ref v2, .ref v3, .ref v4] n Y μ n Y none z := by
  refine jC_of (by decide +kernel) (Nat.le_of_ble_eq_true rfl) (fun X hl K _ _ _ => ?_)
  exact t_X8_stepOn_0 K hl H rfl
/-! RX8 orthogonal(I)[LChainTables$Fraction; -/
def b_X8_orthogonal_114 (Y : jY) (v3 : Nat) (μ : jM) : Option (Nat × jM) :=
  some (v3, μ)
def b_X8_orthogonal_71 (Y : jY) (v0 : Nat) (v1 : Int32) (v2 : Nat) (v3 : Nat) (v4 : Nat) (v5 : Int32) (μ : jM) : Option ((Nat × Nat × Nat × Int32 × jM) ⊕ (Nat × jM)) :=
  if v1 ≤ v5 then
    (b_X8_orthogonal_114 Y v3 μ).map (fun r => (.inr r))
  else
    (jgI Y μ v0 8 1).bind fun x1 =>
    if x1 ≤ v5 then
      (b_X8_orthogonal_114 Y v3 μ).map (fun r => (.inr r))
    else
      (jrcv Y v0 8 (f_X8_stepOn Y v0 v5 v2 v3 v4 μ)).bind fun μ2 =>
      some (.inl (v3, v4, v2, (v5 + (1 : Int32)), μ2))
def b_X8_orthogonal_48 (Y : jY) (v0 : Nat) (v1 : Int32) (v2 : Nat) (v3 : Nat) (v4 : Nat) (v5 : Int32) (t0 : Nat) (t1 : Int64) (μ : jM) : Option ((Int32 × jM) ⊕ (Nat × jM)) :=
  (jrcv Y t0 1 (f_X1_set Y t0 t1 ((1 : Int64)) μ)).bind fun μ1 =>
  (jaO Y μ1 v4 23 v5).bind fun x2 =>
  (jrcv Y x2 1 (f_X1_set Y x2 ((0 : Int64)) ((1 : Int64)) μ1)).bind fun μ3 =>
  some (.inl ((v5 + (1 : Int32)), μ3))
def b_X8_orthogonal_19 (Y : jY) (v0 : Nat) (v1 : Int32) (v2 : Nat) (v3 : Nat) (v4 : Nat) (v5 : Int32) (μ : jM) : Option ((Int32 × jM) ⊕ (Nat × jM)) :=
  if ((4 : Int32)) < v5 then
    (jit jF (fun (s : Nat × Nat × Nat × Int32 × jM) => b_X8_orthogonal_71 Y v0 v1 s.1 s.2.1 s.2.2.1 s.2.2.2.1 s.2.2.2.2) (v2, v3, v4, (0 : Int32), μ)).map (fun r => (.inr r))
  else
    (jaO Y μ v2 23 v5).bind fun x1 =>
    (jrcv Y x1 1 (f_X1_set Y x1 ((0 : Int64)) ((1 : Int64)) μ)).bind fun μ2 =>
    (jaO Y μ2 v3 23 v5).bind fun x3 =>
    if v5 = 0 then
      b_X8_orthogonal_48 Y v0 v1 v2 v3 v4 v5 x3 (1 : Int64) μ2
    else
      b_X8_orthogonal_48 Y v0 v1 v2 v3 v4 v5 x3 (0 : Int64) μ2
def f_X8_orthogonal (Y : jY) (v0 : Nat) (v1 : Int32) (μ : jM) : Option (Nat × jM) :=
  (jgO Y μ v0 8 6).bind fun x1 =>
  (jgO Y μ v0 8 7).bind fun x2 =>
  (jgO Y μ v0 8 8).bind fun x3 =>
  jit jF (fun (s : Int32 × jM) => b_X8_orthogonal_19 Y v0 v1 x1 x2 x3 s.1 s.2) ((0 : Int32), μ)
set_option maxRecDepth 10000 in
theorem t_X8_orthogonal_114 {X : jX} {l : Launch} {n : Nat} {Y : jY} (K : jOK X RX8 cX8_orthogonal 7 (some (.array (.object "ChainTables$Fraction"))) 6) (hl : X.2.1 = l) {rr : Nat} {μr : jM} {v3 : Nat} {μ : jM} {z : (Nat × jM)} (H : b_X8_orthogonal_114 Y v3 μ = some z) (D : z = (rr, μr)) : JW X (jEnd X n Y (some (.ref rr)) μr 0 0) 0 0 n Y 114 [(3, .ref v3)] [] μ := by
  unfold b_X8_orthogonal_114 at H
  refine r_aload_n K 0 dX8_orthogonal_114 rfl rfl ?_
  cases H
  obtain ⟨rfl, rfl⟩ := jfin2 D
  exact r_aret K (Or.inr ⟨_, rfl⟩) dX8_orthogonal_115
set_option maxRecDepth 10000 in
theorem t_X8_orthogonal_71 {X : jX} {l : Launch} {n : Nat} {Y : jY} (K : jOK X RX8 cX8_orthogonal 7 (some (.array (.object "ChainTables$Fraction"))) 6) (hl : X.2.1 = l) {rr : Nat} {μr : jM} {v0 : Nat} {v1 : Int32} {v2 : Nat} {v3 : Nat} {v4 : Nat} {v5 : Int32} {μ : jM} {z : ((Nat × Nat × Nat × Int32 × jM) ⊕ (Nat × jM))} (H : b_X8_orthogonal_71 Y v0 v1 v2 v3 v4 v5 μ = some z) (D : Sum.elim (fun (s : Nat × Nat × Nat × Int32 × jM) => JW X (jEnd X n Y (some (.ref rr)) μr 0 0) 0 0 n Y 71 [(0, .ref v0), (1, .int v1), (2, .ref s.1), (3, .ref s.2.1), (4, .ref s.2.2.1), (5, .int s.2.2.2.1)] [] s.2.2.2.2) (fun r => r = (rr, μr)) z) : JW X (jEnd X n Y (some (.ref rr)) μr 0 0) 0 0 n Y 71 [(0, .ref v0), (1, .int v1), (2, .ref v2), (3, .ref v3), (4, .ref v4), (5, .int v5)] [] μ := by
  unfold b_X8_orthogonal_71 at H
  refine r_iload K 5 dX8_orthogonal_71 rfl ?_
  refine r_iload_n K 1 dX8_orthogonal_73 rfl rfl ?_
  refine w_icmp_ge K 114 dX8_orthogonal_74 (by decide) H (fun _ H => ?_) (fun _ H => ?_)
  · obtain ⟨z2, H2, rfl⟩ := jmap H
    exact r_sub [3] rfl (t_X8_orthogonal_114 K hl H2 D)
  · refine r_iload K 5 dX8_orthogonal_77 rfl ?_
    refine r_aload_n K 0 dX8_orthogonal_79 rfl rfl ?_
    refine w_getI K vc8 inX8 1 (by decide) mF_RX8_9 dX8_orthogonal_80 H (fun x1 H => ?_)
    refine w_icmp_ge K 114 dX8_orthogonal_83 (by decide) H (fun _ H => ?_) (fun _ H => ?_)
    · obtain ⟨z2, H2, rfl⟩ := jmap H
      exact r_sub [3] rfl (t_X8_orthogonal_114 K hl H2 D)
    · refine r_aload_n K 0 dX8_orthogonal_86 rfl rfl ?_
      refine r_iload K 5 dX8_orthogonal_87 rfl ?_
      refine r_aload_n K 2 dX8_orthogonal_89 rfl rfl ?_
      refine r_aload_n K 3 dX8_orthogonal_90 rfl rfl ?_
      refine r_aload K 4 dX8_orthogonal_91 rfl ?_
      refine w_callV K hl H (fun r h => c_X8_stepOn l h) mC_yX8_stepOn mM_RX8_109 mI_yX8_stepOn mS_yX8_stepOn mZ_RX8 vc8 (Nat.le_of_ble_eq_true rfl) (Nat.le_of_ble_eq_true rfl) np_yX8_stepOn rfl (Nat.le_of_ble_eq_true rfl) dX8_orthogonal_93 (fun μ2 H => ?_) ⟨Nat.zero_le _, Nat.zero_le _⟩
      refine r_aload_n K 2 dX8_orthogonal_96 rfl rfl ?_
      refine r_astore K [(6, .ref _), (0, .ref _), (1, .int _), (2, .ref _), (3, .ref _), (4, .ref _), (5, .int _)] dX8_orthogonal_97 (by decide) rfl ?_
      refine r_aload_n K 4 dX8_orthogonal_99 rfl rfl ?_
      refine r_astore_n K [(2, .ref _), (6, .ref _), (0, .ref _), (1, .int _), (3, .ref _), (4, .ref _), (5, .int _)] dX8_orthogonal_100 rfl (by decide) rfl ?_
      refine r_aload K 5 dX8_orthogonal_101 rfl ?_
      refine r_astore_n K [(3, .ref _), (2, .ref _), (6, .ref _), (0, .ref _), (1, .int _), (4, .ref _), (5, .int _)] dX8_orthogonal_103 rfl (by decide) rfl ?_
      refine r_aload K 2 dX8_orthogonal_104 rfl ?_
      refine r_astore K [(4, .ref _), (3, .ref _), (2, .ref _), (6, .ref _), (0, .ref _), (1, .int _), (5, .int _)] dX8_orthogonal_106 (by decide) rfl ?_
      refine r_iinc K 6 [(5, .int _), (4, .ref _), (3, .ref _), (2, .ref _), (6, .ref _), (0, .ref _), (1, .int _)] (v := _ + (1 : Int32)) dX8_orthogonal_108 rfl rfl (by decide) rfl ?_
      refine r_goto K 71 dX8_orthogonal_111 (by decide) ?_
      cases H
      exact r_sub [5, 6, 3, 2, 1, 0] rfl D
set_option maxRecDepth 10000 in
theorem l_X8_orthogonal_71 {X : jX} {l : Launch} {n : Nat} {Y : jY} (K : jOK X RX8 cX8_orthogonal 7 (some (.array (.object "ChainTables$Fraction"))) 6) (hl : X.2.1 = l) {rr : Nat} {μr : jM} {v0 : Nat} {v1 : Int32}  {s0 : Nat × Nat × Nat × Int32 × jM} {z : (Nat × jM)} (H : jit jF (fun (s : Nat × Nat × Nat × Int32 × jM) => b_X8_orthogonal_71 Y v0 v1 s.1 s.2.1 s.2.2.1 s.2.2.2.1 s.2.2.2.2) s0 = some z) (D : z = (rr, μr)) : JW X (jEnd X n Y (some (.ref rr)) μr 0 0) 0 0 n Y 71 [(0, .ref v0), (1, .int v1), (2, .ref s0.1), (3, .ref s0.2.1), (4, .ref s0.2.2.1), (5, .int s0.2.2.2.1)] [] s0.2.2.2.2 :=
  jit_ind (P := fun (s : Nat × Nat × Nat × Int32 × jM) => JW X (jEnd X n Y (some (.ref rr)) μr 0 0) 0 0 n Y 71 [(0, .ref v0), (1, .int v1), (2, .ref s.1), (3, .ref s.2.1), (4, .ref s.2.2.1), (5, .int s.2.2.2.1)] [] s.2.2.2.2) (D := fun r => r = (rr, μr)) (fun s z Hs Ds => t_X8_orthogonal_71 K hl Hs Ds) jF s0 z H D
set_option maxRecDepth 10000 in
theorem t_X8_orthogonal_48 {X : jX} {l : Launch} {n : Nat} {Y : jY} (K : jOK X RX8 cX8_orthogonal 7 (some (.array (.object "ChainTables$Fraction"))) 6) (hl : X.2.1 = l) {rr : Nat} {μr : jM} {v0 : Nat} {v1 : Int32} {v2 : Nat} {v3 : Nat} {v4 : Nat} {v5 : Int32} {t0 : Nat} {t1 : Int64} {μ : jM} {z : ((Int32 × jM) ⊕ (Nat × jM))} (H : b_X8_orthogonal_48 Y v0 v1 v2 v3 v4 v5 t0 t1 μ = some z) (D : Sum.elim (fun (s : Int32 × jM) => JW X (jEnd X n Y (some (.ref rr)) μr 0 0) 0 0 n Y 19 [(0, .ref v0), (1, .int v1), (2, .ref v2), (3, .ref v3), (4, .ref v4), (5, .int s.1)] [] s.2) (fun r => r = (rr, μr)) z) : JW X (jEnd X n Y (some (.ref rr)) μr 0 0) 0 0 n Y 48 [(0, .ref v0), (1, .int v1), (2, .ref v2), (3, .ref v3), (4, .ref v4), (5, .int v5)] [.long t1, .ref t0] μ := by
  unfold b_X8_orthogonal_48 at H
  refine r_lconst (v := 1) K dX8_orthogonal_48 (by decide) ?_
  refine w_callV K hl H (fun r h => c_X1_set l h) mC_yX1_set mM_RX8_84 mI_yX1_set mS_yX1_set mZ_RX1 vc1 (Nat.le_of_ble_eq_true rfl) (Nat.le_of_ble_eq_true rfl) np_yX1_set rfl (Nat.le_of_ble_eq_true rfl) dX8_orthogonal_49 (fun μ1 H => ?_) ⟨Nat.zero_le _, Nat.zero_le _⟩
  refine r_aload K 4 dX8_orthogonal_52 rfl ?_
  refine r_iload K 5 dX8_orthogonal_54 rfl ?_
  refine w_aald K 23 rfl rfl dX8_orthogonal_56 H (fun x2 H => ?_)
  refine r_lconst (v := 0) K dX8_orthogonal_57 (by decide) ?_
  refine r_lconst (v := 1) K dX8_orthogonal_58 (by decide) ?_
  refine w_callV K hl H (fun r h => c_X1_set l h) mC_yX1_set mM_RX8_84 mI_yX1_set mS_yX1_set mZ_RX1 vc1 (Nat.le_of_ble_eq_true rfl) (Nat.le_of_ble_eq_true rfl) np_yX1_set rfl (Nat.le_of_ble_eq_true rfl) dX8_orthogonal_59 (fun μ3 H => ?_) ⟨Nat.zero_le _, Nat.zero_le _⟩
  refine r_iinc K 5 [(5, .int _), (0, .ref _), (1, .int _), (2, .ref _), (3, .ref _), (4, .ref _)] (v := _ + (1 : Int32)) dX8_orthogonal_62 rfl rfl (by decide) rfl ?_
  refine r_goto K 19 dX8_orthogonal_65 (by decide) ?_
  cases H
  exact r_sub [1, 2, 3, 4, 5, 0] rfl D
set_option maxRecDepth 10000 in
theorem t_X8_orthogonal_19 {X : jX} {l : Launch} {n : Nat} {Y : jY} (K : jOK X RX8 cX8_orthogonal 7 (some (.array (.object "ChainTables$Fraction"))) 6) (hl : X.2.1 = l) {rr : Nat} {μr : jM} {v0 : Nat} {v1 : Int32} {v2 : Nat} {v3 : Nat} {v4 : Nat} {v5 : Int32} {μ : jM} {z : ((Int32 × jM) ⊕ (Nat × jM))} (H : b_X8_orthogonal_19 Y v0 v1 v2 v3 v4 v5 μ = some z) (D : Sum.elim (fun (s : Int32 × jM) => JW X (jEnd X n Y (some (.ref rr)) μr 0 0) 0 0 n Y 19 [(0, .ref v0), (1, .int v1), (2, .ref v2), (3, .ref v3), (4, .ref v4), (5, .int s.1)] [] s.2) (fun r => r = (rr, μr)) z) : JW X (jEnd X n Y (some (.ref rr)) μr 0 0) 0 0 n Y 19 [(0, .ref v0), (1, .int v1), (2, .ref v2), (3, .ref v3), (4, .ref v4), (5, .int v5)] [] μ := by
  unfold b_X8_orthogonal_19 at H
  refine r_iload K 5 dX8_orthogonal_19 rfl ?_
  refine r_iconst (v := 4) K dX8_orthogonal_21 (by decide) ?_
  refine w_icmp_gt K 68 dX8_orthogonal_22 (by decide) H (fun _ H => ?_) (fun _ H => ?_)
  · refine r_iconst (v := 0) K dX8_orthogonal_68 (by decide) ?_
    refine r_istore K [(5, .int _), (0, .ref _), (1, .int _), (2, .ref _), (3, .ref _), (4, .ref _)] dX8_orthogonal_69 (by decide) rfl ?_
    obtain ⟨z2, H2, rfl⟩ := jmap H
    exact r_sub [1, 2, 3, 4, 5, 0] rfl (l_X8_orthogonal_71 K hl H2 D)
  · refine r_aload_n K 2 dX8_orthogonal_25 rfl rfl ?_
    refine r_iload K 5 dX8_orthogonal_26 rfl ?_
    refine w_aald K 23 rfl rfl dX8_orthogonal_28 H (fun x1 H => ?_)
    refine r_lconst (v := 0) K dX8_orthogonal_29 (by decide) ?_
    refine r_lconst (v := 1) K dX8_orthogonal_30 (by decide) ?_
    refine w_callV K hl H (fun r h => c_X1_set l h) mC_yX1_set mM_RX8_84 mI_yX1_set mS_yX1_set mZ_RX1 vc1 (Nat.le_of_ble_eq_true rfl) (Nat.le_of_ble_eq_true rfl) np_yX1_set rfl (Nat.le_of_ble_eq_true rfl) dX8_orthogonal_31 (fun μ2 H => ?_) ⟨Nat.zero_le _, Nat.zero_le _⟩
    refine r_aload_n K 3 dX8_orthogonal_34 rfl rfl ?_
    refine r_iload K 5 dX8_orthogonal_35 rfl ?_
    refine w_aald K 23 rfl rfl dX8_orthogonal_37 H (fun x3 H => ?_)
    refine r_iload K 5 dX8_orthogonal_38 rfl ?_
    refine w_if_ne K 47 dX8_orthogonal_40 (by decide) H (fun _ H => ?_) (fun _ H => ?_)
    · refine r_lconst (v := 0) K dX8_orthogonal_47 (by decide) ?_
      exact r_sub [0, 1, 2, 3, 4, 5] rfl (t_X8_orthogonal_48 K hl H D)
    · refine r_lconst (v := 1) K dX8_orthogonal_43 (by decide) ?_
      refine r_goto K 48 dX8_orthogonal_44 (by decide) ?_
      exact r_sub [0, 1, 2, 3, 4, 5] rfl (t_X8_orthogonal_48 K hl H D)
set_option maxRecDepth 10000 in
theorem l_X8_orthogonal_19 {X : jX} {l : Launch} {n : Nat} {Y : jY} (K : jOK X RX8 cX8_orthogonal 7 (some (.array (.object "ChainTables$Fraction"))) 6) (hl : X.2.1 = l) {rr : Nat} {μr : jM} {v0 : Nat} {v1 : Int32} {v2 : Nat} {v3 : Nat} {v4 : Nat}  {s0 : Int32 × jM} {z : (Nat × jM)} (H : jit jF (fun (s : Int32 × jM) => b_X8_orthogonal_19 Y v0 v1 v2 v3 v4 s.1 s.2) s0 = some z) (D : z = (rr, μr)) : JW X (jEnd X n Y (some (.ref rr)) μr 0 0) 0 0 n Y 19 [(0, .ref v0), (1, .int v1), (2, .ref v2), (3, .ref v3), (4, .ref v4), (5, .int s0.1)] [] s0.2 :=
  jit_ind (P := fun (s : Int32 × jM) => JW X (jEnd X n Y (some (.ref rr)) μr 0 0) 0 0 n Y 19 [(0, .ref v0), (1, .int v1), (2, .ref v2), (3, .ref v3), (4, .ref v4), (5, .int s.1)] [] s.2) (D := fun r => r = (rr, μr)) (fun s z Hs Ds => t_X8_orthogonal_19 K hl Hs Ds) jF s0 z H D
set_option maxRecDepth 10000 in
theorem t_X8_orthogonal_0 {X : jX} {l : Launch} {n : Nat} {Y : jY} (K : jOK X RX8 cX8_orthogonal 7 (some (.array (.object "ChainTables$Fraction"))) 6) (hl : X.2.1 = l) {rr : Nat} {μr : jM} {v0 : Nat} {v1 : Int32} {μ : jM} {z : (Nat × jM)} (H : f_X8_orthogonal Y v0 v1 μ = some z) (D : z = (rr, μr)) : JW X (jEnd X n Y (some (.ref rr)) μr 0 0) 0 0 n Y 0 [(0, .ref v0), (1, .int v1)] [] μ := by
  unfold f_X8_orthogonal at H
  refine r_aload_n K 0 dX8_orthogonal_0 rfl rfl ?_
  refine w_getO K vc8 inX8 6 (by decide) mF_RX8_34 dX8_orthogonal_1 H (fun x1 H => ?_)
  refine r_astore_n K [(2, .ref _), (0, .ref _), (1, .int _)] dX8_orthogonal_4 rfl (by decide) rfl ?_
  refine r_aload_n K 1 dX8_orthogonal_5 rfl rfl ?_
  refine w_getO K vc8 inX8 7 (by decide) mF_RX8_37 dX8_orthogonal_6 H (fun x2 H => ?_)
  refine r_astore_n K [(3, .ref _), (2, .ref _), (0, .ref _), (1, .int _)] dX8_orthogonal_9 rfl (by decide) rfl ?_
  refine r_aload_n K 2 dX8_orthogonal_10 rfl rfl ?_
  refine w_getO K vc8 inX8 8 (by decide) mF_RX8_40 dX8_orthogonal_11 H (fun x3 H => ?_)
  refine r_astore K [(4, .ref _), (3, .ref _), (2, .ref _), (0, .ref _), (1, .int _)] dX8_orthogonal_14 (by decide) rfl ?_
  refine r_iconst (v := 0) K dX8_orthogonal_16 (by decide) ?_
  refine r_istore K [(5, .int _), (4, .ref _), (3, .ref _), (2, .ref _), (0, .ref _), (1, .int _)] dX8_orthogonal_17 (by decide) rfl ?_
  exact r_sub [4, 5, 3, 2, 1, 0] rfl (l_X8_orthogonal_19 K hl H D)
theorem c_X8_orthogonal (l : Launch) {n : Nat} {Y : jY} {v0 : Nat} {v1 : Int32} {μ : jM} {z : Nat × jM} (H : f_X8_orthogonal Y v0 v1 μ = some z) : jC l yX8_orthogonal cX8_orthogonal 7 (some (.array (.object "ChainTables$Fraction"))) 6 0 0 [.ref v0, .int v1] n Y μ n Y (some (.ref z.1)) z.2 := by
  refine jC_of (by decide +kernel) (Nat.le_of_ble_eq_true rfl) (fun X hl K _ _ _ => ?_)
  obtain ⟨rr, μr⟩ := z
  exact t_X8_orthogonal_0 K hl H rfl
/-! RX8 cutShort(IILChainTables$Fraction;)Z -/
def b_X8_cutShort_91 (Y : jY) (v0 : Nat) (v2 : Int32) (v3 : Nat) (v4 : Int32) (μ : jM) : Option ((Int32 × jM) ⊕ (Int32 × jM)) :=
  (jgO Y μ v0 8 9).bind fun x1 =>
  (jrcv Y v3 1 (f_X1_divide Y v3 x1 μ)).bind fun μ2 =>
  some (.inl ((v4 + (-1 : Int32)), μ2))
def b_X8_cutShort_18 (Y : jY) (v0 : Nat) (v2 : Int32) (v3 : Nat) (v4 : Int32) (μ : jM) : Option ((Int32 × jM) ⊕ (Int32 × jM)) :=
  if v4 < 0 then
    (jbool ((1 : Int32))).bind fun x1 =>
    some (.inr (x1, μ))
  else
    (jgO Y μ v0 8 9).bind fun x2 =>
    (jrcv Y x2 1 (f_X1_set Y x2 ((v2.toInt64)) ((1 : Int64)) μ)).bind fun μ3 =>
    (jgO Y μ3 v0 8 9).bind fun x4 =>
    (jgO Y μ3 v0 8 2).bind fun x5 =>
    (jaO Y μ3 x5 23 v4).bind fun x6 =>
    (jrcv Y x4 1 (f_X1_subtract Y x4 x6 μ3)).bind fun μ7 =>
    (jgO Y μ7 v0 8 9).bind fun x8 =>
    (jrcv Y x8 1 (f_X1_subtract Y x8 v3 μ7)).bind fun μ9 =>
    (jgO Y μ9 v0 8 9).bind fun x10 =>
    (jrcv Y x10 1 (f_X1_isZero Y x10 μ9)).bind fun r11 =>
    if r11.1 = 0 then
      (jrcv Y v3 1 (f_X1_set Y v3 ((1 : Int64)) ((1 : Int64)) r11.2)).bind fun μ12 =>
      if v4 ≤ 0 then
        b_X8_cutShort_91 Y v0 v2 v3 v4 μ12
      else
        (jgO Y μ12 v0 8 3).bind fun x13 =>
        (jaO Y μ12 x13 23 ((v4 - ((1 : Int32))))).bind fun x14 =>
        (jrcv Y v3 1 (f_X1_copy Y v3 x14 μ12)).bind fun μ15 =>
        b_X8_cutShort_91 Y v0 v2 v3 v4 μ15
    else
      (jbool ((0 : Int32))).bind fun x16 =>
      some (.inr (x16, r11.2))
def f_X8_cutShort (Y : jY) (v0 : Nat) (v1 : Int32) (v2 : Int32) (v3 : Nat) (μ : jM) : Option (Int32 × jM) :=
  (jrcv Y v3 1 (f_X1_set Y v3 ((0 : Int64)) ((1 : Int64)) μ)).bind fun μ1 =>
  (jgI Y μ1 v0 8 1).bind fun x2 =>
  jit jF (fun (s : Int32 × jM) => b_X8_cutShort_18 Y v0 v2 v3 s.1 s.2) ((((jminI v1 x2)) - ((1 : Int32))), μ1)
set_option maxRecDepth 10000 in
theorem t_X8_cutShort_91 {X : jX} {l : Launch} {n : Nat} {Y : jY} (K : jOK X RX8 cX8_cutShort 5 (some .boolean) 5) (hl : X.2.1 = l) {rr : Int32} {μr : jM} {v0 : Nat} {v2 : Int32} {v3 : Nat} {v4 : Int32} {μ : jM} {z : ((Int32 × jM) ⊕ (Int32 × jM))} (H : b_X8_cutShort_91 Y v0 v2 v3 v4 μ = some z) (D : Sum.elim (fun (s : Int32 × jM) => JW X (jEnd X n Y (some (.int rr)) μr 0 0) 0 0 n Y 18 [(0, .ref v0), (2, .int v2), (3, .ref v3), (4, .int s.1)] [] s.2) (fun r => r = (rr, μr)) z) : JW X (jEnd X n Y (some (.int rr)) μr 0 0) 0 0 n Y 91 [(0, .ref v0), (2, .int v2), (3, .ref v3), (4, .int v4)] [] μ := by
  unfold b_X8_cutShort_91 at H
  refine r_aload_n K 2 dX8_cutShort_91 rfl rfl ?_
  refine r_aload_n K 0 dX8_cutShort_92 rfl rfl ?_
  refine w_getO K vc8 inX8 9 (by decide) mF_RX8_44 dX8_cutShort_93 H (fun x1 H => ?_)
  refine w_callV K hl H (fun r h => c_X1_divide l h) mC_yX1_divide mM_RX8_106 mI_yX1_divide mS_yX1_divide mZ_RX1 vc1 (Nat.le_of_ble_eq_true rfl) (Nat.le_of_ble_eq_true rfl) np_yX1_divide rfl (Nat.le_of_ble_eq_true rfl) dX8_cutShort_96 (fun μ2 H => ?_) ⟨Nat.zero_le _, Nat.zero_le _⟩
  refine r_iinc K 3 [(4, .int _), (0, .ref _), (2, .int _), (3, .ref _)] (v := _ + (-1 : Int32)) dX8_cutShort_99 rfl rfl (by decide) rfl ?_
  refine r_goto K 18 dX8_cutShort_102 (by decide) ?_
  cases H
  exact r_sub [1, 2, 3, 0] rfl D
set_option maxRecDepth 10000 in
theorem t_X8_cutShort_18 {X : jX} {l : Launch} {n : Nat} {Y : jY} (K : jOK X RX8 cX8_cutShort 5 (some .boolean) 5) (hl : X.2.1 = l) {rr : Int32} {μr : jM} {v0 : Nat} {v2 : Int32} {v3 : Nat} {v4 : Int32} {μ : jM} {z : ((Int32 × jM) ⊕ (Int32 × jM))} (H : b_X8_cutShort_18 Y v0 v2 v3 v4 μ = some z) (D : Sum.elim (fun (s : Int32 × jM) => JW X (jEnd X n Y (some (.int rr)) μr 0 0) 0 0 n Y 18 [(0, .ref v0), (2, .int v2), (3, .ref v3), (4, .int s.1)] [] s.2) (fun r => r = (rr, μr)) z) : JW X (jEnd X n Y (some (.int rr)) μr 0 0) 0 0 n Y 18 [(0, .ref v0), (2, .int v2), (3, .ref v3), (4, .int v4)] [] μ := by
  unfold b_X8_cutShort_18 at H
  refine r_iload K 3 dX8_cutShort_18 rfl ?_
  refine w_if_lt K 105 dX8_cutShort_20 (by decide) H (fun _ H => ?_) (fun _ H => ?_)
  · refine r_iconst (v := 1) K dX8_cutShort_105 (by decide) ?_
    refine w_zret K dX8_cutShort_106 H (fun hz H => ?_)
    cases H
    simp only [Sum.elim_inr] at D
    obtain ⟨rfl, rfl⟩ := jfin2 D
    exact r_zret K hz dX8_cutShort_106
  · refine r_aload_n K 0 dX8_cutShort_23 rfl rfl ?_
    refine w_getO K vc8 inX8 9 (by decide) mF_RX8_44 dX8_cutShort_24 H (fun x2 H => ?_)
    refine r_iload_n K 1 dX8_cutShort_27 rfl rfl ?_
    refine r_i2l K dX8_cutShort_28 ?_
    refine r_lconst (v := 1) K dX8_cutShort_29 (by decide) ?_
    refine w_callV K hl H (fun r h => c_X1_set l h) mC_yX1_set mM_RX8_84 mI_yX1_set mS_yX1_set mZ_RX1 vc1 (Nat.le_of_ble_eq_true rfl) (Nat.le_of_ble_eq_true rfl) np_yX1_set rfl (Nat.le_of_ble_eq_true rfl) dX8_cutShort_30 (fun μ3 H => ?_) ⟨Nat.zero_le _, Nat.zero_le _⟩
    refine r_aload_n K 0 dX8_cutShort_33 rfl rfl ?_
    refine w_getO K vc8 inX8 9 (by decide) mF_RX8_44 dX8_cutShort_34 H (fun x4 H => ?_)
    refine r_aload_n K 0 dX8_cutShort_37 rfl rfl ?_
    refine w_getO K vc8 inX8 2 (by decide) mF_RX8_21 dX8_cutShort_38 H (fun x5 H => ?_)
    refine r_iload K 3 dX8_cutShort_41 rfl ?_
    refine w_aald K 23 rfl rfl dX8_cutShort_43 H (fun x6 H => ?_)
    refine w_callV K hl H (fun r h => c_X1_subtract l h) mC_yX1_subtract mM_RX8_92 mI_yX1_subtract mS_yX1_subtract mZ_RX1 vc1 (Nat.le_of_ble_eq_true rfl) (Nat.le_of_ble_eq_true rfl) np_yX1_subtract rfl (Nat.le_of_ble_eq_true rfl) dX8_cutShort_44 (fun μ7 H => ?_) ⟨Nat.zero_le _, Nat.zero_le _⟩
    refine r_aload_n K 0 dX8_cutShort_47 rfl rfl ?_
    refine w_getO K vc8 inX8 9 (by decide) mF_RX8_44 dX8_cutShort_48 H (fun x8 H => ?_)
    refine r_aload_n K 2 dX8_cutShort_51 rfl rfl ?_
    refine w_callV K hl H (fun r h => c_X1_subtract l h) mC_yX1_subtract mM_RX8_92 mI_yX1_subtract mS_yX1_subtract mZ_RX1 vc1 (Nat.le_of_ble_eq_true rfl) (Nat.le_of_ble_eq_true rfl) np_yX1_subtract rfl (Nat.le_of_ble_eq_true rfl) dX8_cutShort_52 (fun μ9 H => ?_) ⟨Nat.zero_le _, Nat.zero_le _⟩
    refine r_aload_n K 0 dX8_cutShort_55 rfl rfl ?_
    refine w_getO K vc8 inX8 9 (by decide) mF_RX8_44 dX8_cutShort_56 H (fun x10 H => ?_)
    refine w_callV K hl H (fun r h => c_X1_isZero l h) mC_yX1_isZero mM_RX8_119 mI_yX1_isZero mS_yX1_isZero mZ_RX1 vc1 (Nat.le_of_ble_eq_true rfl) (Nat.le_of_ble_eq_true rfl) np_yX1_isZero rfl (Nat.le_of_ble_eq_true rfl) dX8_cutShort_59 (fun r11 H => ?_) ⟨Nat.zero_le _, Nat.zero_le _⟩
    refine w_if_eq K 67 dX8_cutShort_62 (by decide) H (fun _ H => ?_) (fun _ H => ?_)
    · refine r_aload_n K 2 dX8_cutShort_67 rfl rfl ?_
      refine r_lconst (v := 1) K dX8_cutShort_68 (by decide) ?_
      refine r_lconst (v := 1) K dX8_cutShort_69 (by decide) ?_
      refine w_callV K hl H (fun r h => c_X1_set l h) mC_yX1_set mM_RX8_84 mI_yX1_set mS_yX1_set mZ_RX1 vc1 (Nat.le_of_ble_eq_true rfl) (Nat.le_of_ble_eq_true rfl) np_yX1_set rfl (Nat.le_of_ble_eq_true rfl) dX8_cutShort_70 (fun μ12 H => ?_) ⟨Nat.zero_le _, Nat.zero_le _⟩
      refine r_iload K 3 dX8_cutShort_73 rfl ?_
      refine w_if_le K 91 dX8_cutShort_75 (by decide) H (fun _ H => ?_) (fun _ H => ?_)
      · exact r_sub [0, 1, 2, 3] rfl (t_X8_cutShort_91 K hl H D)
      · refine r_aload_n K 2 dX8_cutShort_78 rfl rfl ?_
        refine r_aload_n K 0 dX8_cutShort_79 rfl rfl ?_
        refine w_getO K vc8 inX8 3 (by decide) mF_RX8_25 dX8_cutShort_80 H (fun x13 H => ?_)
        refine r_iload K 3 dX8_cutShort_83 rfl ?_
        refine r_iconst (v := 1) K dX8_cutShort_85 (by decide) ?_
        refine r_isub K dX8_cutShort_86 ?_
        refine w_aald K 23 rfl rfl dX8_cutShort_87 H (fun x14 H => ?_)
        refine w_callV K hl H (fun r h => c_X1_copy l h) mC_yX1_copy mM_RX8_88 mI_yX1_copy mS_yX1_copy mZ_RX1 vc1 (Nat.le_of_ble_eq_true rfl) (Nat.le_of_ble_eq_true rfl) np_yX1_copy rfl (Nat.le_of_ble_eq_true rfl) dX8_cutShort_88 (fun μ15 H => ?_) ⟨Nat.zero_le _, Nat.zero_le _⟩
        exact r_sub [0, 1, 2, 3] rfl (t_X8_cutShort_91 K hl H D)
    · refine r_iconst (v := 0) K dX8_cutShort_65 (by decide) ?_
      refine w_zret K dX8_cutShort_66 H (fun hz H => ?_)
      cases H
      simp only [Sum.elim_inr] at D
      obtain ⟨rfl, rfl⟩ := jfin2 D
      exact r_zret K hz dX8_cutShort_66
set_option maxRecDepth 10000 in
theorem l_X8_cutShort_18 {X : jX} {l : Launch} {n : Nat} {Y : jY} (K : jOK X RX8 cX8_cutShort 5 (some .boolean) 5) (hl : X.2.1 = l) {rr : Int32} {μr : jM} {v0 : Nat} {v2 : Int32} {v3 : Nat}  {s0 : Int32 × jM} {z : (Int32 × jM)} (H : jit jF (fun (s : Int32 × jM) => b_X8_cutShort_18 Y v0 v2 v3 s.1 s.2) s0 = some z) (D : z = (rr, μr)) : JW X (jEnd X n Y (some (.int rr)) μr 0 0) 0 0 n Y 18 [(0, .ref v0), (2, .int v2), (3, .ref v3), (4, .int s0.1)] [] s0.2 :=
  jit_ind (P := fun (s : Int32 × jM) => JW X (jEnd X n Y (some (.int rr)) μr 0 0) 0 0 n Y 18 [(0, .ref v0), (2, .int v2), (3, .ref v3), (4, .int s.1)] [] s.2) (D := fun r => r = (rr, μr)) (fun s z Hs Ds => t_X8_cutShort_18 K hl Hs Ds) jF s0 z H D
set_option maxRecDepth 10000 in
theorem t_X8_cutShort_0 {X : jX} {l : Launch} {n : Nat} {Y : jY} (K : jOK X RX8 cX8_cutShort 5 (some .boolean) 5) (hl : X.2.1 = l) {rr : Int32} {μr : jM} {v0 : Nat} {v1 : Int32} {v2 : Int32} {v3 : Nat} {μ : jM} {z : (Int32 × jM)} (H : f_X8_cutShort Y v0 v1 v2 v3 μ = some z) (D : z = (rr, μr)) : JW X (jEnd X n Y (some (.int rr)) μr 0 0) 0 0 n Y 0 [(0, .ref v0), (1, .int v1), (2, .int v2), (3, .ref v3)] [] μ := by
  unfold f_X8_cutShort at H
  refine r_aload_n K 3 dX8_cutShort_0 rfl rfl ?_
  refine r_lconst (v := 0) K dX8_cutShort_1 (by decide) ?_
  refine r_lconst (v := 1) K dX8_cutShort_2 (by decide) ?_
  refine w_callV K hl H (fun r h => c_X1_set l h) mC_yX1_set mM_RX8_84 mI_yX1_set mS_yX1_set mZ_RX1 vc1 (Nat.le_of_ble_eq_true rfl) (Nat.le_of_ble_eq_true rfl) np_yX1_set rfl (Nat.le_of_ble_eq_true rfl) dX8_cutShort_3 (fun μ1 H => ?_) ⟨Nat.zero_le _, Nat.zero_le _⟩
  refine r_iload_n K 1 dX8_cutShort_6 rfl rfl ?_
  refine r_aload_n K 0 dX8_cutShort_7 rfl rfl ?_
  refine w_getI K vc8 inX8 1 (by decide) mF_RX8_9 dX8_cutShort_8 H (fun x2 H => ?_)
  refine r_mmin K mM_RX8_113 mT_minI mZ_Math mC_minI (Nat.le_of_ble_eq_true rfl) (Nat.le_of_ble_eq_true rfl) ⟨Nat.zero_le _, Nat.zero_le _⟩ dX8_cutShort_11 ?_
  refine r_iconst (v := 1) K dX8_cutShort_14 (by decide) ?_
  refine r_isub K dX8_cutShort_15 ?_
  refine r_istore K [(4, .int _), (0, .ref _), (1, .int _), (2, .int _), (3, .ref _)] dX8_cutShort_16 (by decide) rfl ?_
  exact r_sub [1, 3, 4, 0] rfl (l_X8_cutShort_18 K hl H D)
theorem c_X8_cutShort (l : Launch) {n : Nat} {Y : jY} {v0 : Nat} {v1 : Int32} {v2 : Int32} {v3 : Nat} {μ : jM} {z : Int32 × jM} (H : f_X8_cutShort Y v0 v1 v2 v3 μ = some z) : jC l yX8_cutShort cX8_cutShort 5 (some .boolean) 5 0 0 [.ref v0, .int v1, .int v2, .ref v3] n Y μ n Y (some (.int z.1)) z.2 := by
  refine jC_of (by decide +kernel) (Nat.le_of_ble_eq_true rfl) (fun X hl K _ _ _ => ?_)
  obtain ⟨rr, μr⟩ := z
  exact t_X8_cutShort_0 K hl H rfl
/-! RX8 hang()V -/
def b_X8_hang_50 (Y : jY) (v0 : Nat) (v2 : Int32) (μ : jM) : Option ((Int32 × jM) ⊕ (jM)) :=
  if v2 < 0 then
    some (.inr μ)
  else
    (jgO Y μ v0 8 4).bind fun x1 =>
    (jaO Y μ x1 23 v2).bind fun x2 =>
    (jgO Y μ v0 8 5).bind fun x3 =>
    (jaO Y μ x3 23 ((v2 + ((1 : Int32))))).bind fun x4 =>
    (jrcv Y x2 1 (f_X1_copy Y x2 x4 μ)).bind fun μ5 =>
    (jgO Y μ5 v0 8 4).bind fun x6 =>
    (jaO Y μ5 x6 23 v2).bind fun x7 =>
    (jgO Y μ5 v0 8 5).bind fun x8 =>
    (jaO Y μ5 x8 23 ((v2 + ((1 : Int32))))).bind fun x9 =>
    (jrcv Y x7 1 (f_X1_multiply Y x7 x9 μ5)).bind fun μ10 =>
    (jgO Y μ10 v0 8 4).bind fun x11 =>
    (jaO Y μ10 x11 23 v2).bind fun x12 =>
    (jgO Y μ10 v0 8 3).bind fun x13 =>
    (jaO Y μ10 x13 23 v2).bind fun x14 =>
    (jrcv Y x12 1 (f_X1_divide Y x12 x14 μ10)).bind fun μ15 =>
    (jgO Y μ15 v0 8 4).bind fun x16 =>
    (jaO Y μ15 x16 23 v2).bind fun x17 =>
    (jgO Y μ15 v0 8 4).bind fun x18 =>
    (jaO Y μ15 x18 23 ((v2 + ((1 : Int32))))).bind fun x19 =>
    (jrcv Y x17 1 (f_X1_divide Y x17 x19 μ15)).bind fun μ20 =>
    (jgO Y μ20 v0 8 5).bind fun x21 =>
    (jaO Y μ20 x21 23 v2).bind fun x22 =>
    (jgO Y μ20 v0 8 2).bind fun x23 =>
    (jaO Y μ20 x23 23 v2).bind fun x24 =>
    (jrcv Y x22 1 (f_X1_copy Y x22 x24 μ20)).bind fun μ25 =>
    (jgO Y μ25 v0 8 5).bind fun x26 =>
    (jaO Y μ25 x26 23 v2).bind fun x27 =>
    (jgO Y μ25 v0 8 4).bind fun x28 =>
    (jaO Y μ25 x28 23 v2).bind fun x29 =>
    (jrcv Y x27 1 (f_X1_multiply Y x27 x29 μ25)).bind fun μ30 =>
    (jgO Y μ30 v0 8 5).bind fun x31 =>
    (jaO Y μ30 x31 23 v2).bind fun x32 =>
    (jgO Y μ30 v0 8 5).bind fun x33 =>
    (jaO Y μ30 x33 23 ((v2 + ((1 : Int32))))).bind fun x34 =>
    (jrcv Y x32 1 (f_X1_subtract Y x32 x34 μ30)).bind fun μ35 =>
    some (.inl ((v2 + (-1 : Int32)), μ35))
def f_X8_hang (Y : jY) (v0 : Nat) (μ : jM) : Option (jM) :=
  (jgI Y μ v0 8 1).bind fun x1 =>
  (f_X11_within Y x1 ((1 : Int32)) ((3 : Int32)) μ).bind fun r2 =>
  if r2.1 = 0 then
    some r2.2
  else
    (jgI Y r2.2 v0 8 1).bind fun x3 =>
    (jgO Y r2.2 v0 8 4).bind fun x4 =>
    (jaO Y r2.2 x4 23 ((x3 - ((1 : Int32))))).bind fun x5 =>
    (jrcv Y x5 1 (f_X1_set Y x5 ((1 : Int64)) ((1 : Int64)) r2.2)).bind fun μ6 =>
    (jgO Y μ6 v0 8 5).bind fun x7 =>
    (jaO Y μ6 x7 23 ((x3 - ((1 : Int32))))).bind fun x8 =>
    (jgO Y μ6 v0 8 2).bind fun x9 =>
    (jaO Y μ6 x9 23 ((x3 - ((1 : Int32))))).bind fun x10 =>
    (jrcv Y x8 1 (f_X1_copy Y x8 x10 μ6)).bind fun μ11 =>
    jit jF (fun (s : Int32 × jM) => b_X8_hang_50 Y v0 s.1 s.2) ((((x3 - ((1 : Int32)))) - ((1 : Int32))), μ11)
set_option maxRecDepth 10000 in
theorem t_X8_hang_50 {X : jX} {l : Launch} {n : Nat} {Y : jY} (K : jOK X RX8 cX8_hang 3 none 5) (hl : X.2.1 = l) {μr : jM} {v0 : Nat} {v2 : Int32} {μ : jM} {z : ((Int32 × jM) ⊕ (jM))} (H : b_X8_hang_50 Y v0 v2 μ = some z) (D : Sum.elim (fun (s : Int32 × jM) => JW X (jEnd X n Y none μr 0 0) 0 0 n Y 50 [(0, .ref v0), (2, .int s.1)] [] s.2) (fun r => r = μr) z) : JW X (jEnd X n Y none μr 0 0) 0 0 n Y 50 [(0, .ref v0), (2, .int v2)] [] μ := by
  unfold b_X8_hang_50 at H
  refine r_iload_n K 1 dX8_hang_50 rfl rfl ?_
  refine w_if_lt K 173 dX8_hang_51 (by decide) H (fun _ H => ?_) (fun _ H => ?_)
  · cases H
    simp only [Sum.elim_inr] at D
    subst D
    exact r_vret K dX8_hang_173
  · refine r_aload_n K 0 dX8_hang_54 rfl rfl ?_
    refine w_getO K vc8 inX8 4 (by decide) mF_RX8_28 dX8_hang_55 H (fun x1 H => ?_)
    refine r_iload_n K 1 dX8_hang_58 rfl rfl ?_
    refine w_aald K 23 rfl rfl dX8_hang_59 H (fun x2 H => ?_)
    refine r_aload_n K 0 dX8_hang_60 rfl rfl ?_
    refine w_getO K vc8 inX8 5 (by decide) mF_RX8_31 dX8_hang_61 H (fun x3 H => ?_)
    refine r_iload_n K 1 dX8_hang_64 rfl rfl ?_
    refine r_iconst (v := 1) K dX8_hang_65 (by decide) ?_
    refine r_iadd K dX8_hang_66 ?_
    refine w_aald K 23 rfl rfl dX8_hang_67 H (fun x4 H => ?_)
    refine w_callV K hl H (fun r h => c_X1_copy l h) mC_yX1_copy mM_RX8_88 mI_yX1_copy mS_yX1_copy mZ_RX1 vc1 (Nat.le_of_ble_eq_true rfl) (Nat.le_of_ble_eq_true rfl) np_yX1_copy rfl (Nat.le_of_ble_eq_true rfl) dX8_hang_68 (fun μ5 H => ?_) ⟨Nat.zero_le _, Nat.zero_le _⟩
    refine r_aload_n K 0 dX8_hang_71 rfl rfl ?_
    refine w_getO K vc8 inX8 4 (by decide) mF_RX8_28 dX8_hang_72 H (fun x6 H => ?_)
    refine r_iload_n K 1 dX8_hang_75 rfl rfl ?_
    refine w_aald K 23 rfl rfl dX8_hang_76 H (fun x7 H => ?_)
    refine r_aload_n K 0 dX8_hang_77 rfl rfl ?_
    refine w_getO K vc8 inX8 5 (by decide) mF_RX8_31 dX8_hang_78 H (fun x8 H => ?_)
    refine r_iload_n K 1 dX8_hang_81 rfl rfl ?_
    refine r_iconst (v := 1) K dX8_hang_82 (by decide) ?_
    refine r_iadd K dX8_hang_83 ?_
    refine w_aald K 23 rfl rfl dX8_hang_84 H (fun x9 H => ?_)
    refine w_callV K hl H (fun r h => c_X1_multiply l h) mC_yX1_multiply mM_RX8_103 mI_yX1_multiply mS_yX1_multiply mZ_RX1 vc1 (Nat.le_of_ble_eq_true rfl) (Nat.le_of_ble_eq_true rfl) np_yX1_multiply rfl (Nat.le_of_ble_eq_true rfl) dX8_hang_85 (fun μ10 H => ?_) ⟨Nat.zero_le _, Nat.zero_le _⟩
    refine r_aload_n K 0 dX8_hang_88 rfl rfl ?_
    refine w_getO K vc8 inX8 4 (by decide) mF_RX8_28 dX8_hang_89 H (fun x11 H => ?_)
    refine r_iload_n K 1 dX8_hang_92 rfl rfl ?_
    refine w_aald K 23 rfl rfl dX8_hang_93 H (fun x12 H => ?_)
    refine r_aload_n K 0 dX8_hang_94 rfl rfl ?_
    refine w_getO K vc8 inX8 3 (by decide) mF_RX8_25 dX8_hang_95 H (fun x13 H => ?_)
    refine r_iload_n K 1 dX8_hang_98 rfl rfl ?_
    refine w_aald K 23 rfl rfl dX8_hang_99 H (fun x14 H => ?_)
    refine w_callV K hl H (fun r h => c_X1_divide l h) mC_yX1_divide mM_RX8_106 mI_yX1_divide mS_yX1_divide mZ_RX1 vc1 (Nat.le_of_ble_eq_true rfl) (Nat.le_of_ble_eq_true rfl) np_yX1_divide rfl (Nat.le_of_ble_eq_true rfl) dX8_hang_100 (fun μ15 H => ?_) ⟨Nat.zero_le _, Nat.zero_le _⟩
    refine r_aload_n K 0 dX8_hang_103 rfl rfl ?_
    refine w_getO K vc8 inX8 4 (by decide) mF_RX8_28 dX8_hang_104 H (fun x16 H => ?_)
    refine r_iload_n K 1 dX8_hang_107 rfl rfl ?_
    refine w_aald K 23 rfl rfl dX8_hang_108 H (fun x17 H => ?_)
    refine r_aload_n K 0 dX8_hang_109 rfl rfl ?_
    refine w_getO K vc8 inX8 4 (by decide) mF_RX8_28 dX8_hang_110 H (fun x18 H => ?_)
    refine r_iload_n K 1 dX8_hang_113 rfl rfl ?_
    refine r_iconst (v := 1) K dX8_hang_114 (by decide) ?_
    refine r_iadd K dX8_hang_115 ?_
    refine w_aald K 23 rfl rfl dX8_hang_116 H (fun x19 H => ?_)
    refine w_callV K hl H (fun r h => c_X1_divide l h) mC_yX1_divide mM_RX8_106 mI_yX1_divide mS_yX1_divide mZ_RX1 vc1 (Nat.le_of_ble_eq_true rfl) (Nat.le_of_ble_eq_true rfl) np_yX1_divide rfl (Nat.le_of_ble_eq_true rfl) dX8_hang_117 (fun μ20 H => ?_) ⟨Nat.zero_le _, Nat.zero_le _⟩
    refine r_aload_n K 0 dX8_hang_120 rfl rfl ?_
    refine w_getO K vc8 inX8 5 (by decide) mF_RX8_31 dX8_hang_121 H (fun x21 H => ?_)
    refine r_iload_n K 1 dX8_hang_124 rfl rfl ?_
    refine w_aald K 23 rfl rfl dX8_hang_125 H (fun x22 H => ?_)
    refine r_aload_n K 0 dX8_hang_126 rfl rfl ?_
    refine w_getO K vc8 inX8 2 (by decide) mF_RX8_21 dX8_hang_127 H (fun x23 H => ?_)
    refine r_iload_n K 1 dX8_hang_130 rfl rfl ?_
    refine w_aald K 23 rfl rfl dX8_hang_131 H (fun x24 H => ?_)
    refine w_callV K hl H (fun r h => c_X1_copy l h) mC_yX1_copy mM_RX8_88 mI_yX1_copy mS_yX1_copy mZ_RX1 vc1 (Nat.le_of_ble_eq_true rfl) (Nat.le_of_ble_eq_true rfl) np_yX1_copy rfl (Nat.le_of_ble_eq_true rfl) dX8_hang_132 (fun μ25 H => ?_) ⟨Nat.zero_le _, Nat.zero_le _⟩
    refine r_aload_n K 0 dX8_hang_135 rfl rfl ?_
    refine w_getO K vc8 inX8 5 (by decide) mF_RX8_31 dX8_hang_136 H (fun x26 H => ?_)
    refine r_iload_n K 1 dX8_hang_139 rfl rfl ?_
    refine w_aald K 23 rfl rfl dX8_hang_140 H (fun x27 H => ?_)
    refine r_aload_n K 0 dX8_hang_141 rfl rfl ?_
    refine w_getO K vc8 inX8 4 (by decide) mF_RX8_28 dX8_hang_142 H (fun x28 H => ?_)
    refine r_iload_n K 1 dX8_hang_145 rfl rfl ?_
    refine w_aald K 23 rfl rfl dX8_hang_146 H (fun x29 H => ?_)
    refine w_callV K hl H (fun r h => c_X1_multiply l h) mC_yX1_multiply mM_RX8_103 mI_yX1_multiply mS_yX1_multiply mZ_RX1 vc1 (Nat.le_of_ble_eq_true rfl) (Nat.le_of_ble_eq_true rfl) np_yX1_multiply rfl (Nat.le_of_ble_eq_true rfl) dX8_hang_147 (fun μ30 H => ?_) ⟨Nat.zero_le _, Nat.zero_le _⟩
    refine r_aload_n K 0 dX8_hang_150 rfl rfl ?_
    refine w_getO K vc8 inX8 5 (by decide) mF_RX8_31 dX8_hang_151 H (fun x31 H => ?_)
    refine r_iload_n K 1 dX8_hang_154 rfl rfl ?_
    refine w_aald K 23 rfl rfl dX8_hang_155 H (fun x32 H => ?_)
    refine r_aload_n K 0 dX8_hang_156 rfl rfl ?_
    refine w_getO K vc8 inX8 5 (by decide) mF_RX8_31 dX8_hang_157 H (fun x33 H => ?_)
    refine r_iload_n K 1 dX8_hang_160 rfl rfl ?_
    refine r_iconst (v := 1) K dX8_hang_161 (by decide) ?_
    refine r_iadd K dX8_hang_162 ?_
    refine w_aald K 23 rfl rfl dX8_hang_163 H (fun x34 H => ?_)
    refine w_callV K hl H (fun r h => c_X1_subtract l h) mC_yX1_subtract mM_RX8_92 mI_yX1_subtract mS_yX1_subtract mZ_RX1 vc1 (Nat.le_of_ble_eq_true rfl) (Nat.le_of_ble_eq_true rfl) np_yX1_subtract rfl (Nat.le_of_ble_eq_true rfl) dX8_hang_164 (fun μ35 H => ?_) ⟨Nat.zero_le _, Nat.zero_le _⟩
    refine r_iinc K 1 [(2, .int _), (0, .ref _)] (v := _ + (-1 : Int32)) dX8_hang_167 rfl rfl (by decide) rfl ?_
    refine r_goto K 50 dX8_hang_170 (by decide) ?_
    cases H
    exact r_sub [1, 0] rfl D
set_option maxRecDepth 10000 in
theorem l_X8_hang_50 {X : jX} {l : Launch} {n : Nat} {Y : jY} (K : jOK X RX8 cX8_hang 3 none 5) (hl : X.2.1 = l) {μr : jM} {v0 : Nat}  {s0 : Int32 × jM} {z : (jM)} (H : jit jF (fun (s : Int32 × jM) => b_X8_hang_50 Y v0 s.1 s.2) s0 = some z) (D : z = μr) : JW X (jEnd X n Y none μr 0 0) 0 0 n Y 50 [(0, .ref v0), (2, .int s0.1)] [] s0.2 :=
  jit_ind (P := fun (s : Int32 × jM) => JW X (jEnd X n Y none μr 0 0) 0 0 n Y 50 [(0, .ref v0), (2, .int s.1)] [] s.2) (D := fun r => r = μr) (fun s z Hs Ds => t_X8_hang_50 K hl Hs Ds) jF s0 z H D
set_option maxRecDepth 10000 in
theorem t_X8_hang_0 {X : jX} {l : Launch} {n : Nat} {Y : jY} (K : jOK X RX8 cX8_hang 3 none 5) (hl : X.2.1 = l) {μr : jM} {v0 : Nat} {μ : jM} {z : (jM)} (H : f_X8_hang Y v0 μ = some z) (D : z = μr) : JW X (jEnd X n Y none μr 0 0) 0 0 n Y 0 [(0, .ref v0)] [] μ := by
  unfold f_X8_hang at H
  refine r_aload_n K 0 dX8_hang_0 rfl rfl ?_
  refine w_getI K vc8 inX8 1 (by decide) mF_RX8_9 dX8_hang_1 H (fun x1 H => ?_)
  refine r_iconst (v := 1) K dX8_hang_4 (by decide) ?_
  refine r_iconst (v := 3) K dX8_hang_5 (by decide) ?_
  refine w_callSN K hl H (fun r h => c_X11_within l h) mC_yX11_within mQ_RX8_126 mT_yX11_within mZ_RX11 (Nat.le_of_ble_eq_true rfl) (Nat.le_of_ble_eq_true rfl) np_yX11_within rfl (Nat.le_of_ble_eq_true rfl) dX8_hang_6 (fun r2 H => ?_) ⟨Nat.zero_le _, Nat.zero_le _⟩
  refine w_if_ne K 13 dX8_hang_9 (by decide) H (fun _ H => ?_) (fun _ H => ?_)
  · refine r_aload_n K 0 dX8_hang_13 rfl rfl ?_
    refine w_getI K vc8 inX8 1 (by decide) mF_RX8_9 dX8_hang_14 H (fun x3 H => ?_)
    refine r_iconst (v := 1) K dX8_hang_17 (by decide) ?_
    refine r_isub K dX8_hang_18 ?_
    refine r_istore_n K [(1, .int _), (0, .ref _)] dX8_hang_19 rfl (by decide) rfl ?_
    refine r_aload_n K 1 dX8_hang_20 rfl rfl ?_
    refine w_getO K vc8 inX8 4 (by decide) mF_RX8_28 dX8_hang_21 H (fun x4 H => ?_)
    refine r_iload_n K 0 dX8_hang_24 rfl rfl ?_
    refine w_aald K 23 rfl rfl dX8_hang_25 H (fun x5 H => ?_)
    refine r_lconst (v := 1) K dX8_hang_26 (by decide) ?_
    refine r_lconst (v := 1) K dX8_hang_27 (by decide) ?_
    refine w_callV K hl H (fun r h => c_X1_set l h) mC_yX1_set mM_RX8_84 mI_yX1_set mS_yX1_set mZ_RX1 vc1 (Nat.le_of_ble_eq_true rfl) (Nat.le_of_ble_eq_true rfl) np_yX1_set rfl (Nat.le_of_ble_eq_true rfl) dX8_hang_28 (fun μ6 H => ?_) ⟨Nat.zero_le _, Nat.zero_le _⟩
    refine r_aload_n K 1 dX8_hang_31 rfl rfl ?_
    refine w_getO K vc8 inX8 5 (by decide) mF_RX8_31 dX8_hang_32 H (fun x7 H => ?_)
    refine r_iload_n K 0 dX8_hang_35 rfl rfl ?_
    refine w_aald K 23 rfl rfl dX8_hang_36 H (fun x8 H => ?_)
    refine r_aload_n K 1 dX8_hang_37 rfl rfl ?_
    refine w_getO K vc8 inX8 2 (by decide) mF_RX8_21 dX8_hang_38 H (fun x9 H => ?_)
    refine r_iload_n K 0 dX8_hang_41 rfl rfl ?_
    refine w_aald K 23 rfl rfl dX8_hang_42 H (fun x10 H => ?_)
    refine w_callV K hl H (fun r h => c_X1_copy l h) mC_yX1_copy mM_RX8_88 mI_yX1_copy mS_yX1_copy mZ_RX1 vc1 (Nat.le_of_ble_eq_true rfl) (Nat.le_of_ble_eq_true rfl) np_yX1_copy rfl (Nat.le_of_ble_eq_true rfl) dX8_hang_43 (fun μ11 H => ?_) ⟨Nat.zero_le _, Nat.zero_le _⟩
    refine r_iload_n K 0 dX8_hang_46 rfl rfl ?_
    refine r_iconst (v := 1) K dX8_hang_47 (by decide) ?_
    refine r_isub K dX8_hang_48 ?_
    refine r_istore_n K [(2, .int _), (1, .int _), (0, .ref _)] dX8_hang_49 rfl (by decide) rfl ?_
    exact r_sub [2, 0] rfl (l_X8_hang_50 K hl H D)
  · cases H
    subst D
    exact r_vret K dX8_hang_12
theorem c_X8_hang (l : Launch) {n : Nat} {Y : jY} {v0 : Nat} {μ : jM} {z : jM} (H : f_X8_hang Y v0 μ = some z) : jC l yX8_hang cX8_hang 3 none 5 0 0 [.ref v0] n Y μ n Y none z := by
  refine jC_of (by decide +kernel) (Nat.le_of_ble_eq_true rfl) (fun X hl K _ _ _ => ?_)
  exact t_X8_hang_0 K hl H rfl
/-! RX8 addSquares(ILChainTables$Fraction;)V -/
def b_X8_addSquares_178 (Y : jY) (v0 : Nat) (v1 : Int32) (v2 : Nat) (v3 : Int32) (μ : jM) : Option ((Int32 × jM) ⊕ (jM)) :=
  (jgO Y μ v0 8 10).bind fun x1 =>
  (jgO Y μ v0 8 11).bind fun x2 =>
  (jrcv Y x1 1 (f_X1_copy Y x1 x2 μ)).bind fun μ3 =>
  (jgO Y μ3 v0 8 11).bind fun x4 =>
  (jgO Y μ3 v0 8 12).bind fun x5 =>
  (jrcv Y x4 1 (f_X1_copy Y x4 x5 μ3)).bind fun μ6 =>
  some (.inl ((v3 + (1 : Int32)), μ6))
def b_X8_addSquares_62 (Y : jY) (v0 : Nat) (v1 : Int32) (v2 : Nat) (v3 : Int32) (μ : jM) : Option ((Int32 × jM) ⊕ (jM)) :=
  (jgO Y μ v0 8 9).bind fun x1 =>
  (jgO Y μ v0 8 11).bind fun x2 =>
  (jrcv Y x1 1 (f_X1_copy Y x1 x2 μ)).bind fun μ3 =>
  (jgO Y μ3 v0 8 9).bind fun x4 =>
  (jgO Y μ3 v0 8 11).bind fun x5 =>
  (jrcv Y x4 1 (f_X1_multiply Y x4 x5 μ3)).bind fun μ6 =>
  (jgO Y μ6 v0 8 9).bind fun x7 =>
  (jgO Y μ6 v0 8 13).bind fun x8 =>
  (jrcv Y x7 1 (f_X1_divide Y x7 x8 μ6)).bind fun μ9 =>
  (jgO Y μ9 v0 8 9).bind fun x10 =>
  (jrcv Y v2 1 (f_X1_add Y v2 x10 μ9)).bind fun μ11 =>
  (jgO Y μ11 v0 8 12).bind fun x12 =>
  (jrcv Y x12 1 (f_X1_set Y x12 ((v1.toInt64)) ((1 : Int64)) μ11)).bind fun μ13 =>
  (jgO Y μ13 v0 8 12).bind fun x14 =>
  (jgO Y μ13 v0 8 2).bind fun x15 =>
  (jaO Y μ13 x15 23 v3).bind fun x16 =>
  (jrcv Y x14 1 (f_X1_subtract Y x14 x16 μ13)).bind fun μ17 =>
  (jgO Y μ17 v0 8 12).bind fun x18 =>
  (jgO Y μ17 v0 8 11).bind fun x19 =>
  (jrcv Y x18 1 (f_X1_multiply Y x18 x19 μ17)).bind fun μ20 =>
  if v3 ≤ 0 then
    b_X8_addSquares_178 Y v0 v1 v2 v3 μ20
  else
    (jgO Y μ20 v0 8 9).bind fun x21 =>
    (jgO Y μ20 v0 8 3).bind fun x22 =>
    (jaO Y μ20 x22 23 ((v3 - ((1 : Int32))))).bind fun x23 =>
    (jrcv Y x21 1 (f_X1_copy Y x21 x23 μ20)).bind fun μ24 =>
    (jgO Y μ24 v0 8 9).bind fun x25 =>
    (jgO Y μ24 v0 8 10).bind fun x26 =>
    (jrcv Y x25 1 (f_X1_multiply Y x25 x26 μ24)).bind fun μ27 =>
    (jgO Y μ27 v0 8 12).bind fun x28 =>
    (jgO Y μ27 v0 8 9).bind fun x29 =>
    (jrcv Y x28 1 (f_X1_subtract Y x28 x29 μ27)).bind fun μ30 =>
    b_X8_addSquares_178 Y v0 v1 v2 v3 μ30
def b_X8_addSquares_35 (Y : jY) (v0 : Nat) (v1 : Int32) (v2 : Nat) (v3 : Int32) (μ : jM) : Option ((Int32 × jM) ⊕ (jM)) :=
  (jgI Y μ v0 8 1).bind fun x1 =>
  if x1 ≤ v3 then
    some (.inr μ)
  else
    if v3 ≤ 0 then
      b_X8_addSquares_62 Y v0 v1 v2 v3 μ
    else
      (jgO Y μ v0 8 13).bind fun x2 =>
      (jgO Y μ v0 8 3).bind fun x3 =>
      (jaO Y μ x3 23 ((v3 - ((1 : Int32))))).bind fun x4 =>
      (jrcv Y x2 1 (f_X1_multiply Y x2 x4 μ)).bind fun μ5 =>
      b_X8_addSquares_62 Y v0 v1 v2 v3 μ5
def f_X8_addSquares (Y : jY) (v0 : Nat) (v1 : Int32) (v2 : Nat) (μ : jM) : Option (jM) :=
  (jrcv Y v2 1 (f_X1_set Y v2 ((0 : Int64)) ((1 : Int64)) μ)).bind fun μ1 =>
  (jgO Y μ1 v0 8 10).bind fun x2 =>
  (jrcv Y x2 1 (f_X1_set Y x2 ((0 : Int64)) ((1 : Int64)) μ1)).bind fun μ3 =>
  (jgO Y μ3 v0 8 11).bind fun x4 =>
  (jrcv Y x4 1 (f_X1_set Y x4 ((1 : Int64)) ((1 : Int64)) μ3)).bind fun μ5 =>
  (jgO Y μ5 v0 8 13).bind fun x6 =>
  (jrcv Y x6 1 (f_X1_set Y x6 ((1 : Int64)) ((1 : Int64)) μ5)).bind fun μ7 =>
  jit jF (fun (s : Int32 × jM) => b_X8_addSquares_35 Y v0 v1 v2 s.1 s.2) ((0 : Int32), μ7)
set_option maxRecDepth 10000 in
theorem t_X8_addSquares_178 {X : jX} {l : Launch} {n : Nat} {Y : jY} (K : jOK X RX8 cX8_addSquares 4 none 5) (hl : X.2.1 = l) {μr : jM} {v0 : Nat} {v1 : Int32} {v2 : Nat} {v3 : Int32} {μ : jM} {z : ((Int32 × jM) ⊕ (jM))} (H : b_X8_addSquares_178 Y v0 v1 v2 v3 μ = some z) (D : Sum.elim (fun (s : Int32 × jM) => JW X (jEnd X n Y none μr 0 0) 0 0 n Y 35 [(0, .ref v0), (1, .int v1), (2, .ref v2), (3, .int s.1)] [] s.2) (fun r => r = μr) z) : JW X (jEnd X n Y none μr 0 0) 0 0 n Y 178 [(0, .ref v0), (1, .int v1), (2, .ref v2), (3, .int v3)] [] μ := by
  unfold b_X8_addSquares_178 at H
  refine r_aload_n K 0 dX8_addSquares_178 rfl rfl ?_
  refine w_getO K vc8 inX8 10 (by decide) mF_RX8_48 dX8_addSquares_179 H (fun x1 H => ?_)
  refine r_aload_n K 0 dX8_addSquares_182 rfl rfl ?_
  refine w_getO K vc8 inX8 11 (by decide) mF_RX8_51 dX8_addSquares_183 H (fun x2 H => ?_)
  refine w_callV K hl H (fun r h => c_X1_copy l h) mC_yX1_copy mM_RX8_88 mI_yX1_copy mS_yX1_copy mZ_RX1 vc1 (Nat.le_of_ble_eq_true rfl) (Nat.le_of_ble_eq_true rfl) np_yX1_copy rfl (Nat.le_of_ble_eq_true rfl) dX8_addSquares_186 (fun μ3 H => ?_) ⟨Nat.zero_le _, Nat.zero_le _⟩
  refine r_aload_n K 0 dX8_addSquares_189 rfl rfl ?_
  refine w_getO K vc8 inX8 11 (by decide) mF_RX8_51 dX8_addSquares_190 H (fun x4 H => ?_)
  refine r_aload_n K 0 dX8_addSquares_193 rfl rfl ?_
  refine w_getO K vc8 inX8 12 (by decide) mF_RX8_54 dX8_addSquares_194 H (fun x5 H => ?_)
  refine w_callV K hl H (fun r h => c_X1_copy l h) mC_yX1_copy mM_RX8_88 mI_yX1_copy mS_yX1_copy mZ_RX1 vc1 (Nat.le_of_ble_eq_true rfl) (Nat.le_of_ble_eq_true rfl) np_yX1_copy rfl (Nat.le_of_ble_eq_true rfl) dX8_addSquares_197 (fun μ6 H => ?_) ⟨Nat.zero_le _, Nat.zero_le _⟩
  refine r_iinc K 3 [(3, .int _), (0, .ref _), (1, .int _), (2, .ref _)] (v := _ + (1 : Int32)) dX8_addSquares_200 rfl rfl (by decide) rfl ?_
  refine r_goto K 35 dX8_addSquares_203 (by decide) ?_
  cases H
  exact r_sub [1, 2, 3, 0] rfl D
set_option maxRecDepth 10000 in
theorem t_X8_addSquares_62 {X : jX} {l : Launch} {n : Nat} {Y : jY} (K : jOK X RX8 cX8_addSquares 4 none 5) (hl : X.2.1 = l) {μr : jM} {v0 : Nat} {v1 : Int32} {v2 : Nat} {v3 : Int32} {μ : jM} {z : ((Int32 × jM) ⊕ (jM))} (H : b_X8_addSquares_62 Y v0 v1 v2 v3 μ = some z) (D : Sum.elim (fun (s : Int32 × jM) => JW X (jEnd X n Y none μr 0 0) 0 0 n Y 35 [(0, .ref v0), (1, .int v1), (2, .ref v2), (3, .int s.1)] [] s.2) (fun r => r = μr) z) : JW X (jEnd X n Y none μr 0 0) 0 0 n Y 62 [(0, .ref v0), (1, .int v1), (2, .ref v2), (3, .int v3)] [] μ := by
  unfold b_X8_addSquares_62 at H
  refine r_aload_n K 0 dX8_addSquares_62 rfl rfl ?_
  refine w_getO K vc8 inX8 9 (by decide) mF_RX8_44 dX8_addSquares_63 H (fun x1 H => ?_)
  refine r_aload_n K 0 dX8_addSquares_66 rfl rfl ?_
  refine w_getO K vc8 inX8 11 (by decide) mF_RX8_51 dX8_addSquares_67 H (fun x2 H => ?_)
  refine w_callV K hl H (fun r h => c_X1_copy l h) mC_yX1_copy mM_RX8_88 mI_yX1_copy mS_yX1_copy mZ_RX1 vc1 (Nat.le_of_ble_eq_true rfl) (Nat.le_of_ble_eq_true rfl) np_yX1_copy rfl (Nat.le_of_ble_eq_true rfl) dX8_addSquares_70 (fun μ3 H => ?_) ⟨Nat.zero_le _, Nat.zero_le _⟩
  refine r_aload_n K 0 dX8_addSquares_73 rfl rfl ?_
  refine w_getO K vc8 inX8 9 (by decide) mF_RX8_44 dX8_addSquares_74 H (fun x4 H => ?_)
  refine r_aload_n K 0 dX8_addSquares_77 rfl rfl ?_
  refine w_getO K vc8 inX8 11 (by decide) mF_RX8_51 dX8_addSquares_78 H (fun x5 H => ?_)
  refine w_callV K hl H (fun r h => c_X1_multiply l h) mC_yX1_multiply mM_RX8_103 mI_yX1_multiply mS_yX1_multiply mZ_RX1 vc1 (Nat.le_of_ble_eq_true rfl) (Nat.le_of_ble_eq_true rfl) np_yX1_multiply rfl (Nat.le_of_ble_eq_true rfl) dX8_addSquares_81 (fun μ6 H => ?_) ⟨Nat.zero_le _, Nat.zero_le _⟩
  refine r_aload_n K 0 dX8_addSquares_84 rfl rfl ?_
  refine w_getO K vc8 inX8 9 (by decide) mF_RX8_44 dX8_addSquares_85 H (fun x7 H => ?_)
  refine r_aload_n K 0 dX8_addSquares_88 rfl rfl ?_
  refine w_getO K vc8 inX8 13 (by decide) mF_RX8_57 dX8_addSquares_89 H (fun x8 H => ?_)
  refine w_callV K hl H (fun r h => c_X1_divide l h) mC_yX1_divide mM_RX8_106 mI_yX1_divide mS_yX1_divide mZ_RX1 vc1 (Nat.le_of_ble_eq_true rfl) (Nat.le_of_ble_eq_true rfl) np_yX1_divide rfl (Nat.le_of_ble_eq_true rfl) dX8_addSquares_92 (fun μ9 H => ?_) ⟨Nat.zero_le _, Nat.zero_le _⟩
  refine r_aload_n K 2 dX8_addSquares_95 rfl rfl ?_
  refine r_aload_n K 0 dX8_addSquares_96 rfl rfl ?_
  refine w_getO K vc8 inX8 9 (by decide) mF_RX8_44 dX8_addSquares_97 H (fun x10 H => ?_)
  refine w_callV K hl H (fun r h => c_X1_add l h) mC_yX1_add mM_RX8_123 mI_yX1_add mS_yX1_add mZ_RX1 vc1 (Nat.le_of_ble_eq_true rfl) (Nat.le_of_ble_eq_true rfl) np_yX1_add rfl (Nat.le_of_ble_eq_true rfl) dX8_addSquares_100 (fun μ11 H => ?_) ⟨Nat.zero_le _, Nat.zero_le _⟩
  refine r_aload_n K 0 dX8_addSquares_103 rfl rfl ?_
  refine w_getO K vc8 inX8 12 (by decide) mF_RX8_54 dX8_addSquares_104 H (fun x12 H => ?_)
  refine r_iload_n K 1 dX8_addSquares_107 rfl rfl ?_
  refine r_i2l K dX8_addSquares_108 ?_
  refine r_lconst (v := 1) K dX8_addSquares_109 (by decide) ?_
  refine w_callV K hl H (fun r h => c_X1_set l h) mC_yX1_set mM_RX8_84 mI_yX1_set mS_yX1_set mZ_RX1 vc1 (Nat.le_of_ble_eq_true rfl) (Nat.le_of_ble_eq_true rfl) np_yX1_set rfl (Nat.le_of_ble_eq_true rfl) dX8_addSquares_110 (fun μ13 H => ?_) ⟨Nat.zero_le _, Nat.zero_le _⟩
  refine r_aload_n K 0 dX8_addSquares_113 rfl rfl ?_
  refine w_getO K vc8 inX8 12 (by decide) mF_RX8_54 dX8_addSquares_114 H (fun x14 H => ?_)
  refine r_aload_n K 0 dX8_addSquares_117 rfl rfl ?_
  refine w_getO K vc8 inX8 2 (by decide) mF_RX8_21 dX8_addSquares_118 H (fun x15 H => ?_)
  refine r_iload_n K 3 dX8_addSquares_121 rfl rfl ?_
  refine w_aald K 23 rfl rfl dX8_addSquares_122 H (fun x16 H => ?_)
  refine w_callV K hl H (fun r h => c_X1_subtract l h) mC_yX1_subtract mM_RX8_92 mI_yX1_subtract mS_yX1_subtract mZ_RX1 vc1 (Nat.le_of_ble_eq_true rfl) (Nat.le_of_ble_eq_true rfl) np_yX1_subtract rfl (Nat.le_of_ble_eq_true rfl) dX8_addSquares_123 (fun μ17 H => ?_) ⟨Nat.zero_le _, Nat.zero_le _⟩
  refine r_aload_n K 0 dX8_addSquares_126 rfl rfl ?_
  refine w_getO K vc8 inX8 12 (by decide) mF_RX8_54 dX8_addSquares_127 H (fun x18 H => ?_)
  refine r_aload_n K 0 dX8_addSquares_130 rfl rfl ?_
  refine w_getO K vc8 inX8 11 (by decide) mF_RX8_51 dX8_addSquares_131 H (fun x19 H => ?_)
  refine w_callV K hl H (fun r h => c_X1_multiply l h) mC_yX1_multiply mM_RX8_103 mI_yX1_multiply mS_yX1_multiply mZ_RX1 vc1 (Nat.le_of_ble_eq_true rfl) (Nat.le_of_ble_eq_true rfl) np_yX1_multiply rfl (Nat.le_of_ble_eq_true rfl) dX8_addSquares_134 (fun μ20 H => ?_) ⟨Nat.zero_le _, Nat.zero_le _⟩
  refine r_iload_n K 3 dX8_addSquares_137 rfl rfl ?_
  refine w_if_le K 178 dX8_addSquares_138 (by decide) H (fun _ H => ?_) (fun _ H => ?_)
  · exact r_sub [0, 1, 2, 3] rfl (t_X8_addSquares_178 K hl H D)
  · refine r_aload_n K 0 dX8_addSquares_141 rfl rfl ?_
    refine w_getO K vc8 inX8 9 (by decide) mF_RX8_44 dX8_addSquares_142 H (fun x21 H => ?_)
    refine r_aload_n K 0 dX8_addSquares_145 rfl rfl ?_
    refine w_getO K vc8 inX8 3 (by decide) mF_RX8_25 dX8_addSquares_146 H (fun x22 H => ?_)
    refine r_iload_n K 3 dX8_addSquares_149 rfl rfl ?_
    refine r_iconst (v := 1) K dX8_addSquares_150 (by decide) ?_
    refine r_isub K dX8_addSquares_151 ?_
    refine w_aald K 23 rfl rfl dX8_addSquares_152 H (fun x23 H => ?_)
    refine w_callV K hl H (fun r h => c_X1_copy l h) mC_yX1_copy mM_RX8_88 mI_yX1_copy mS_yX1_copy mZ_RX1 vc1 (Nat.le_of_ble_eq_true rfl) (Nat.le_of_ble_eq_true rfl) np_yX1_copy rfl (Nat.le_of_ble_eq_true rfl) dX8_addSquares_153 (fun μ24 H => ?_) ⟨Nat.zero_le _, Nat.zero_le _⟩
    refine r_aload_n K 0 dX8_addSquares_156 rfl rfl ?_
    refine w_getO K vc8 inX8 9 (by decide) mF_RX8_44 dX8_addSquares_157 H (fun x25 H => ?_)
    refine r_aload_n K 0 dX8_addSquares_160 rfl rfl ?_
    refine w_getO K vc8 inX8 10 (by decide) mF_RX8_48 dX8_addSquares_161 H (fun x26 H => ?_)
    refine w_callV K hl H (fun r h => c_X1_multiply l h) mC_yX1_multiply mM_RX8_103 mI_yX1_multiply mS_yX1_multiply mZ_RX1 vc1 (Nat.le_of_ble_eq_true rfl) (Nat.le_of_ble_eq_true rfl) np_yX1_multiply rfl (Nat.le_of_ble_eq_true rfl) dX8_addSquares_164 (fun μ27 H => ?_) ⟨Nat.zero_le _, Nat.zero_le _⟩
    refine r_aload_n K 0 dX8_addSquares_167 rfl rfl ?_
    refine w_getO K vc8 inX8 12 (by decide) mF_RX8_54 dX8_addSquares_168 H (fun x28 H => ?_)
    refine r_aload_n K 0 dX8_addSquares_171 rfl rfl ?_
    refine w_getO K vc8 inX8 9 (by decide) mF_RX8_44 dX8_addSquares_172 H (fun x29 H => ?_)
    refine w_callV K hl H (fun r h => c_X1_subtract l h) mC_yX1_subtract mM_RX8_92 mI_yX1_subtract mS_yX1_subtract mZ_RX1 vc1 (Nat.le_of_ble_eq_true rfl) (Nat.le_of_ble_eq_true rfl) np_yX1_subtract rfl (Nat.le_of_ble_eq_true rfl) dX8_addSquares_175 (fun μ30 H => ?_) ⟨Nat.zero_le _, Nat.zero_le _⟩
    exact r_sub [0, 1, 2, 3] rfl (t_X8_addSquares_178 K hl H D)
set_option maxRecDepth 10000 in
theorem t_X8_addSquares_35 {X : jX} {l : Launch} {n : Nat} {Y : jY} (K : jOK X RX8 cX8_addSquares 4 none 5) (hl : X.2.1 = l) {μr : jM} {v0 : Nat} {v1 : Int32} {v2 : Nat} {v3 : Int32} {μ : jM} {z : ((Int32 × jM) ⊕ (jM))} (H : b_X8_addSquares_35 Y v0 v1 v2 v3 μ = some z) (D : Sum.elim (fun (s : Int32 × jM) => JW X (jEnd X n Y none μr 0 0) 0 0 n Y 35 [(0, .ref v0), (1, .int v1), (2, .ref v2), (3, .int s.1)] [] s.2) (fun r => r = μr) z) : JW X (jEnd X n Y none μr 0 0) 0 0 n Y 35 [(0, .ref v0), (1, .int v1), (2, .ref v2), (3, .int v3)] [] μ := by
  unfold b_X8_addSquares_35 at H
  refine r_iload_n K 3 dX8_addSquares_35 rfl rfl ?_
  refine r_aload_n K 0 dX8_addSquares_36 rfl rfl ?_
  refine w_getI K vc8 inX8 1 (by decide) mF_RX8_9 dX8_addSquares_37 H (fun x1 H => ?_)
  refine w_icmp_ge K 206 dX8_addSquares_40 (by decide) H (fun _ H => ?_) (fun _ H => ?_)
  · cases H
    simp only [Sum.elim_inr] at D
    subst D
    exact r_vret K dX8_addSquares_206
  · refine r_iload_n K 3 dX8_addSquares_43 rfl rfl ?_
    refine w_if_le K 62 dX8_addSquares_44 (by decide) H (fun _ H => ?_) (fun _ H => ?_)
    · exact r_sub [0, 1, 2, 3] rfl (t_X8_addSquares_62 K hl H D)
    · refine r_aload_n K 0 dX8_addSquares_47 rfl rfl ?_
      refine w_getO K vc8 inX8 13 (by decide) mF_RX8_57 dX8_addSquares_48 H (fun x2 H => ?_)
      refine r_aload_n K 0 dX8_addSquares_51 rfl rfl ?_
      refine w_getO K vc8 inX8 3 (by decide) mF_RX8_25 dX8_addSquares_52 H (fun x3 H => ?_)
      refine r_iload_n K 3 dX8_addSquares_55 rfl rfl ?_
      refine r_iconst (v := 1) K dX8_addSquares_56 (by decide) ?_
      refine r_isub K dX8_addSquares_57 ?_
      refine w_aald K 23 rfl rfl dX8_addSquares_58 H (fun x4 H => ?_)
      refine w_callV K hl H (fun r h => c_X1_multiply l h) mC_yX1_multiply mM_RX8_103 mI_yX1_multiply mS_yX1_multiply mZ_RX1 vc1 (Nat.le_of_ble_eq_true rfl) (Nat.le_of_ble_eq_true rfl) np_yX1_multiply rfl (Nat.le_of_ble_eq_true rfl) dX8_addSquares_59 (fun μ5 H => ?_) ⟨Nat.zero_le _, Nat.zero_le _⟩
      exact r_sub [0, 1, 2, 3] rfl (t_X8_addSquares_62 K hl H D)
set_option maxRecDepth 10000 in
theorem l_X8_addSquares_35 {X : jX} {l : Launch} {n : Nat} {Y : jY} (K : jOK X RX8 cX8_addSquares 4 none 5) (hl : X.2.1 = l) {μr : jM} {v0 : Nat} {v1 : Int32} {v2 : Nat}  {s0 : Int32 × jM} {z : (jM)} (H : jit jF (fun (s : Int32 × jM) => b_X8_addSquares_35 Y v0 v1 v2 s.1 s.2) s0 = some z) (D : z = μr) : JW X (jEnd X n Y none μr 0 0) 0 0 n Y 35 [(0, .ref v0), (1, .int v1), (2, .ref v2), (3, .int s0.1)] [] s0.2 :=
  jit_ind (P := fun (s : Int32 × jM) => JW X (jEnd X n Y none μr 0 0) 0 0 n Y 35 [(0, .ref v0), (1, .int v1), (2, .ref v2), (3, .int s.1)] [] s.2) (D := fun r => r = μr) (fun s z Hs Ds => t_X8_addSquares_35 K hl Hs Ds) jF s0 z H D
set_option maxRecDepth 10000 in
theorem t_X8_addSquares_0 {X : jX} {l : Launch} {n : Nat} {Y : jY} (K : jOK X RX8 cX8_addSquares 4 none 5) (hl : X.2.1 = l) {μr : jM} {v0 : Nat} {v1 : Int32} {v2 : Nat} {μ : jM} {z : (jM)} (H : f_X8_addSquares Y v0 v1 v2 μ = some z) (D : z = μr) : JW X (jEnd X n Y none μr 0 0) 0 0 n Y 0 [(0, .ref v0), (1, .int v1), (2, .ref v2)] [] μ := by
  unfold f_X8_addSquares at H
  refine r_aload_n K 2 dX8_addSquares_0 rfl rfl ?_
  refine r_lconst (v := 0) K dX8_addSquares_1 (by decide) ?_
  refine r_lconst (v := 1) K dX8_addSquares_2 (by decide) ?_
  refine w_callV K hl H (fun r h => c_X1_set l h) mC_yX1_set mM_RX8_84 mI_yX1_set mS_yX1_set mZ_RX1 vc1 (Nat.le_of_ble_eq_true rfl) (Nat.le_of_ble_eq_true rfl) np_yX1_set rfl (Nat.le_of_ble_eq_true rfl) dX8_addSquares_3 (fun μ1 H => ?_) ⟨Nat.zero_le _, Nat.zero_le _⟩
  refine r_aload_n K 0 dX8_addSquares_6 rfl rfl ?_
  refine w_getO K vc8 inX8 10 (by decide) mF_RX8_48 dX8_addSquares_7 H (fun x2 H => ?_)
  refine r_lconst (v := 0) K dX8_addSquares_10 (by decide) ?_
  refine r_lconst (v := 1) K dX8_addSquares_11 (by decide) ?_
  refine w_callV K hl H (fun r h => c_X1_set l h) mC_yX1_set mM_RX8_84 mI_yX1_set mS_yX1_set mZ_RX1 vc1 (Nat.le_of_ble_eq_true rfl) (Nat.le_of_ble_eq_true rfl) np_yX1_set rfl (Nat.le_of_ble_eq_true rfl) dX8_addSquares_12 (fun μ3 H => ?_) ⟨Nat.zero_le _, Nat.zero_le _⟩
  refine r_aload_n K 0 dX8_addSquares_15 rfl rfl ?_
  refine w_getO K vc8 inX8 11 (by decide) mF_RX8_51 dX8_addSquares_16 H (fun x4 H => ?_)
  refine r_lconst (v := 1) K dX8_addSquares_19 (by decide) ?_
  refine r_lconst (v := 1) K dX8_addSquares_20 (by decide) ?_
  refine w_callV K hl H (fun r h => c_X1_set l h) mC_yX1_set mM_RX8_84 mI_yX1_set mS_yX1_set mZ_RX1 vc1 (Nat.le_of_ble_eq_true rfl) (Nat.le_of_ble_eq_true rfl) np_yX1_set rfl (Nat.le_of_ble_eq_true rfl) dX8_addSquares_21 (fun μ5 H => ?_) ⟨Nat.zero_le _, Nat.zero_le _⟩
  refine r_aload_n K 0 dX8_addSquares_24 rfl rfl ?_
  refine w_getO K vc8 inX8 13 (by decide) mF_RX8_57 dX8_addSquares_25 H (fun x6 H => ?_)
  refine r_lconst (v := 1) K dX8_addSquares_28 (by decide) ?_
  refine r_lconst (v := 1) K dX8_addSquares_29 (by decide) ?_
  refine w_callV K hl H (fun r h => c_X1_set l h) mC_yX1_set mM_RX8_84 mI_yX1_set mS_yX1_set mZ_RX1 vc1 (Nat.le_of_ble_eq_true rfl) (Nat.le_of_ble_eq_true rfl) np_yX1_set rfl (Nat.le_of_ble_eq_true rfl) dX8_addSquares_30 (fun μ7 H => ?_) ⟨Nat.zero_le _, Nat.zero_le _⟩
  refine r_iconst (v := 0) K dX8_addSquares_33 (by decide) ?_
  refine r_istore_n K [(3, .int _), (0, .ref _), (1, .int _), (2, .ref _)] dX8_addSquares_34 rfl (by decide) rfl ?_
  exact r_sub [1, 2, 3, 0] rfl (l_X8_addSquares_35 K hl H D)
theorem c_X8_addSquares (l : Launch) {n : Nat} {Y : jY} {v0 : Nat} {v1 : Int32} {v2 : Nat} {μ : jM} {z : jM} (H : f_X8_addSquares Y v0 v1 v2 μ = some z) : jC l yX8_addSquares cX8_addSquares 4 none 5 0 0 [.ref v0, .int v1, .ref v2] n Y μ n Y none z := by
  refine jC_of (by decide +kernel) (Nat.le_of_ble_eq_true rfl) (fun X hl K _ _ _ => ?_)
  exact t_X8_addSquares_0 K hl H rfl
/-! RX9 areRight()Z -/
def b_X9_areRight_78 (Y : jY) (μ : jM) : Option (Int32 × jM) :=
  (jbool ((0 : Int32))).bind fun x1 =>
  some (x1, μ)
def b_X9_areRight_36 (Y : jY) (v0 : Nat) (v1 : Int32) (μ : jM) : Option ((Int32 × jM) ⊕ (Int32 × jM)) :=
  (jgI Y μ v0 9 0).bind fun x1 =>
  if ((x1 - ((1 : Int32)))) ≤ v1 then
    (jbool ((1 : Int32))).bind fun x2 =>
    some (.inr (x2, μ))
  else
    (jgO Y μ v0 9 2).bind fun x3 =>
    (jaI Y μ x3 20 v1).bind fun x4 =>
    (jgO Y μ v0 9 1).bind fun x5 =>
    (jaI Y μ x5 20 v1).bind fun x6 =>
    if x4 ≤ x6 then
      (b_X9_areRight_78 Y μ).map (fun r => (.inr r))
    else
      (jgO Y μ v0 9 2).bind fun x7 =>
      (jaI Y μ x7 20 v1).bind fun x8 =>
      (jgO Y μ v0 9 1).bind fun x9 =>
      (jaI Y μ x9 20 ((v1 + ((1 : Int32))))).bind fun x10 =>
      if x8 < x10 then
        some (.inl ((v1 + (1 : Int32)), μ))
      else
        (b_X9_areRight_78 Y μ).map (fun r => (.inr r))
def b_X9_areRight_2 (Y : jY) (v0 : Nat) (v1 : Int32) (μ : jM) : Option ((Int32 × jM) ⊕ (Int32 × jM)) :=
  (jgI Y μ v0 9 0).bind fun x1 =>
  if x1 ≤ v1 then
    (jit jF (fun (s : Int32 × jM) => b_X9_areRight_36 Y v0 s.1 s.2) ((0 : Int32), μ)).map (fun r => (.inr r))
  else
    (jgO Y μ v0 9 1).bind fun x2 =>
    (jaI Y μ x2 20 v1).bind fun x3 =>
    (f_X11_within Y x3 ((-6 : Int32)) ((6 : Int32)) μ).bind fun r4 =>
    if r4.1 = 0 then
      (jbool ((0 : Int32))).bind fun x5 =>
      some (.inr (x5, r4.2))
    else
      some (.inl ((v1 + (1 : Int32)), r4.2))
def f_X9_areRight (Y : jY) (v0 : Nat) (μ : jM) : Option (Int32 × jM) :=
  jit jF (fun (s : Int32 × jM) => b_X9_areRight_2 Y v0 s.1 s.2) ((0 : Int32), μ)
set_option maxRecDepth 10000 in
theorem t_X9_areRight_78 {X : jX} {l : Launch} {n : Nat} {Y : jY} (K : jOK X RX9 cX9_areRight 2 (some .boolean) 2) (hl : X.2.1 = l) {rr : Int32} {μr : jM} {μ : jM} {z : (Int32 × jM)} (H : b_X9_areRight_78 Y μ = some z) (D : z = (rr, μr)) : JW X (jEnd X n Y (some (.int rr)) μr 0 0) 0 0 n Y 78 [] [] μ := by
  unfold b_X9_areRight_78 at H
  refine r_iconst (v := 0) K dX9_areRight_78 (by decide) ?_
  refine w_zret K dX9_areRight_79 H (fun hz H => ?_)
  cases H
  obtain ⟨rfl, rfl⟩ := jfin2 D
  exact r_zret K hz dX9_areRight_79
set_option maxRecDepth 10000 in
theorem t_X9_areRight_36 {X : jX} {l : Launch} {n : Nat} {Y : jY} (K : jOK X RX9 cX9_areRight 2 (some .boolean) 2) (hl : X.2.1 = l) {rr : Int32} {μr : jM} {v0 : Nat} {v1 : Int32} {μ : jM} {z : ((Int32 × jM) ⊕ (Int32 × jM))} (H : b_X9_areRight_36 Y v0 v1 μ = some z) (D : Sum.elim (fun (s : Int32 × jM) => JW X (jEnd X n Y (some (.int rr)) μr 0 0) 0 0 n Y 36 [(0, .ref v0), (1, .int s.1)] [] s.2) (fun r => r = (rr, μr)) z) : JW X (jEnd X n Y (some (.int rr)) μr 0 0) 0 0 n Y 36 [(0, .ref v0), (1, .int v1)] [] μ := by
  unfold b_X9_areRight_36 at H
  refine r_iload_n K 1 dX9_areRight_36 rfl rfl ?_
  refine r_aload_n K 0 dX9_areRight_37 rfl rfl ?_
  refine w_getI K vc9 inX9 0 (by decide) mF_RX9_9 dX9_areRight_38 H (fun x1 H => ?_)
  refine r_iconst (v := 1) K dX9_areRight_41 (by decide) ?_
  refine r_isub K dX9_areRight_42 ?_
  refine w_icmp_ge K 86 dX9_areRight_43 (by decide) H (fun _ H => ?_) (fun _ H => ?_)
  · refine r_iconst (v := 1) K dX9_areRight_86 (by decide) ?_
    refine w_zret K dX9_areRight_87 H (fun hz H => ?_)
    cases H
    simp only [Sum.elim_inr] at D
    obtain ⟨rfl, rfl⟩ := jfin2 D
    exact r_zret K hz dX9_areRight_87
  · refine r_aload_n K 0 dX9_areRight_46 rfl rfl ?_
    refine w_getO K vc9 inX9 2 (by decide) mF_RX9_19 dX9_areRight_47 H (fun x3 H => ?_)
    refine r_iload_n K 1 dX9_areRight_50 rfl rfl ?_
    refine w_iald K dX9_areRight_51 H (fun x4 H => ?_)
    refine r_aload_n K 0 dX9_areRight_52 rfl rfl ?_
    refine w_getO K vc9 inX9 1 (by decide) mF_RX9_15 dX9_areRight_53 H (fun x5 H => ?_)
    refine r_iload_n K 1 dX9_areRight_56 rfl rfl ?_
    refine w_iald K dX9_areRight_57 H (fun x6 H => ?_)
    refine w_icmp_le K 78 dX9_areRight_58 (by decide) H (fun _ H => ?_) (fun _ H => ?_)
    · obtain ⟨z2, H2, rfl⟩ := jmap H
      exact r_sub [] rfl (t_X9_areRight_78 K hl H2 D)
    · refine r_aload_n K 0 dX9_areRight_61 rfl rfl ?_
      refine w_getO K vc9 inX9 2 (by decide) mF_RX9_19 dX9_areRight_62 H (fun x7 H => ?_)
      refine r_iload_n K 1 dX9_areRight_65 rfl rfl ?_
      refine w_iald K dX9_areRight_66 H (fun x8 H => ?_)
      refine r_aload_n K 0 dX9_areRight_67 rfl rfl ?_
      refine w_getO K vc9 inX9 1 (by decide) mF_RX9_15 dX9_areRight_68 H (fun x9 H => ?_)
      refine r_iload_n K 1 dX9_areRight_71 rfl rfl ?_
      refine r_iconst (v := 1) K dX9_areRight_72 (by decide) ?_
      refine r_iadd K dX9_areRight_73 ?_
      refine w_iald K dX9_areRight_74 H (fun x10 H => ?_)
      refine w_icmp_lt K 80 dX9_areRight_75 (by decide) H (fun _ H => ?_) (fun _ H => ?_)
      · refine r_iinc K 1 [(1, .int _), (0, .ref _)] (v := _ + (1 : Int32)) dX9_areRight_80 rfl rfl (by decide) rfl ?_
        refine r_goto K 36 dX9_areRight_83 (by decide) ?_
        cases H
        exact r_sub [1, 0] rfl D
      · obtain ⟨z2, H2, rfl⟩ := jmap H
        exact r_sub [] rfl (t_X9_areRight_78 K hl H2 D)
set_option maxRecDepth 10000 in
theorem l_X9_areRight_36 {X : jX} {l : Launch} {n : Nat} {Y : jY} (K : jOK X RX9 cX9_areRight 2 (some .boolean) 2) (hl : X.2.1 = l) {rr : Int32} {μr : jM} {v0 : Nat}  {s0 : Int32 × jM} {z : (Int32 × jM)} (H : jit jF (fun (s : Int32 × jM) => b_X9_areRight_36 Y v0 s.1 s.2) s0 = some z) (D : z = (rr, μr)) : JW X (jEnd X n Y (some (.int rr)) μr 0 0) 0 0 n Y 36 [(0, .ref v0), (1, .int s0.1)] [] s0.2 :=
  jit_ind (P := fun (s : Int32 × jM) => JW X (jEnd X n Y (some (.int rr)) μr 0 0) 0 0 n Y 36 [(0, .ref v0), (1, .int s.1)] [] s.2) (D := fun r => r = (rr, μr)) (fun s z Hs Ds => t_X9_areRight_36 K hl Hs Ds) jF s0 z H D
set_option maxRecDepth 10000 in
theorem t_X9_areRight_2 {X : jX} {l : Launch} {n : Nat} {Y : jY} (K : jOK X RX9 cX9_areRight 2 (some .boolean) 2) (hl : X.2.1 = l) {rr : Int32} {μr : jM} {v0 : Nat} {v1 : Int32} {μ : jM} {z : ((Int32 × jM) ⊕ (Int32 × jM))} (H : b_X9_areRight_2 Y v0 v1 μ = some z) (D : Sum.elim (fun (s : Int32 × jM) => JW X (jEnd X n Y (some (.int rr)) μr 0 0) 0 0 n Y 2 [(0, .ref v0), (1, .int s.1)] [] s.2) (fun r => r = (rr, μr)) z) : JW X (jEnd X n Y (some (.int rr)) μr 0 0) 0 0 n Y 2 [(0, .ref v0), (1, .int v1)] [] μ := by
  unfold b_X9_areRight_2 at H
  refine r_iload_n K 1 dX9_areRight_2 rfl rfl ?_
  refine r_aload_n K 0 dX9_areRight_3 rfl rfl ?_
  refine w_getI K vc9 inX9 0 (by decide) mF_RX9_9 dX9_areRight_4 H (fun x1 H => ?_)
  refine w_icmp_ge K 34 dX9_areRight_7 (by decide) H (fun _ H => ?_) (fun _ H => ?_)
  · refine r_iconst (v := 0) K dX9_areRight_34 (by decide) ?_
    refine r_istore_n K [(1, .int _), (0, .ref _)] dX9_areRight_35 rfl (by decide) rfl ?_
    obtain ⟨z2, H2, rfl⟩ := jmap H
    exact r_sub [1, 0] rfl (l_X9_areRight_36 K hl H2 D)
  · refine r_aload_n K 0 dX9_areRight_10 rfl rfl ?_
    refine w_getO K vc9 inX9 1 (by decide) mF_RX9_15 dX9_areRight_11 H (fun x2 H => ?_)
    refine r_iload_n K 1 dX9_areRight_14 rfl rfl ?_
    refine w_iald K dX9_areRight_15 H (fun x3 H => ?_)
    refine r_bipush (v := -6) K dX9_areRight_16 (by decide) ?_
    refine r_bipush (v := 6) K dX9_areRight_18 (by decide) ?_
    refine w_callSN K hl H (fun r h => c_X11_within l h) mC_yX11_within mQ_RX9_39 mT_yX11_within mZ_RX11 (Nat.le_of_ble_eq_true rfl) (Nat.le_of_ble_eq_true rfl) np_yX11_within rfl (Nat.le_of_ble_eq_true rfl) dX9_areRight_20 (fun r4 H => ?_) ⟨Nat.zero_le _, Nat.zero_le _⟩
    refine w_if_ne K 28 dX9_areRight_23 (by decide) H (fun _ H => ?_) (fun _ H => ?_)
    · refine r_iinc K 1 [(1, .int _), (0, .ref _)] (v := _ + (1 : Int32)) dX9_areRight_28 rfl rfl (by decide) rfl ?_
      refine r_goto K 2 dX9_areRight_31 (by decide) ?_
      cases H
      exact r_sub [1, 0] rfl D
    · refine r_iconst (v := 0) K dX9_areRight_26 (by decide) ?_
      refine w_zret K dX9_areRight_27 H (fun hz H => ?_)
      cases H
      simp only [Sum.elim_inr] at D
      obtain ⟨rfl, rfl⟩ := jfin2 D
      exact r_zret K hz dX9_areRight_27
set_option maxRecDepth 10000 in
theorem l_X9_areRight_2 {X : jX} {l : Launch} {n : Nat} {Y : jY} (K : jOK X RX9 cX9_areRight 2 (some .boolean) 2) (hl : X.2.1 = l) {rr : Int32} {μr : jM} {v0 : Nat}  {s0 : Int32 × jM} {z : (Int32 × jM)} (H : jit jF (fun (s : Int32 × jM) => b_X9_areRight_2 Y v0 s.1 s.2) s0 = some z) (D : z = (rr, μr)) : JW X (jEnd X n Y (some (.int rr)) μr 0 0) 0 0 n Y 2 [(0, .ref v0), (1, .int s0.1)] [] s0.2 :=
  jit_ind (P := fun (s : Int32 × jM) => JW X (jEnd X n Y (some (.int rr)) μr 0 0) 0 0 n Y 2 [(0, .ref v0), (1, .int s.1)] [] s.2) (D := fun r => r = (rr, μr)) (fun s z Hs Ds => t_X9_areRight_2 K hl Hs Ds) jF s0 z H D
set_option maxRecDepth 10000 in
theorem t_X9_areRight_0 {X : jX} {l : Launch} {n : Nat} {Y : jY} (K : jOK X RX9 cX9_areRight 2 (some .boolean) 2) (hl : X.2.1 = l) {rr : Int32} {μr : jM} {v0 : Nat} {μ : jM} {z : (Int32 × jM)} (H : f_X9_areRight Y v0 μ = some z) (D : z = (rr, μr)) : JW X (jEnd X n Y (some (.int rr)) μr 0 0) 0 0 n Y 0 [(0, .ref v0)] [] μ := by
  unfold f_X9_areRight at H
  refine r_iconst (v := 0) K dX9_areRight_0 (by decide) ?_
  refine r_istore_n K [(1, .int _), (0, .ref _)] dX9_areRight_1 rfl (by decide) rfl ?_
  exact r_sub [1, 0] rfl (l_X9_areRight_2 K hl H D)
theorem c_X9_areRight (l : Launch) {n : Nat} {Y : jY} {v0 : Nat} {μ : jM} {z : Int32 × jM} (H : f_X9_areRight Y v0 μ = some z) : jC l yX9_areRight cX9_areRight 2 (some .boolean) 2 0 0 [.ref v0] n Y μ n Y (some (.int z.1)) z.2 := by
  refine jC_of (by decide +kernel) (Nat.le_of_ble_eq_true rfl) (fun X hl K _ _ _ => ?_)
  obtain ⟨rr, μr⟩ := z
  exact t_X9_areRight_0 K hl H rfl
/-! RX9 hearRoots(LChainTables$WholeTable;II[I)Z -/
def b_X9_hearRoots_67 (Y : jY) (t0 : Int32) (μ : jM) : Option (Int32 × jM) :=
  (jbool t0).bind fun x1 =>
  some (x1, μ)
def b_X9_hearRoots_50 (Y : jY) (v0 : Nat) (v1 : Int32) (v2 : Int32) (v3 : Nat) (v4 : Int32) (v5 : Int32) (μ : jM) : Option ((Int32 × Int32 × jM) ⊕ (Int32 × jM)) :=
  some (.inl (v4, (v5 + (1 : Int32)), μ))
def b_X9_hearRoots_7 (Y : jY) (v0 : Nat) (v1 : Int32) (v2 : Int32) (v3 : Nat) (v4 : Int32) (v5 : Int32) (μ : jM) : Option ((Int32 × Int32 × jM) ⊕ (Int32 × jM)) :=
  if ((6 : Int32)) < v5 then
    if v4 = v2 then
      (b_X9_hearRoots_67 Y (1 : Int32) μ).map (fun r => (.inr r))
    else
      (b_X9_hearRoots_67 Y (0 : Int32) μ).map (fun r => (.inr r))
  else
    if v2 ≤ v4 then
      b_X9_hearRoots_50 Y v0 v1 v2 v3 v4 v5 μ
    else
      (jlen Y v3 20).bind fun x1 =>
      if x1 ≤ v4 then
        b_X9_hearRoots_50 Y v0 v1 v2 v3 v4 v5 μ
      else
        (jrcv Y v0 10 (f_X10_valueAt Y v0 v1 v2 v5 ((1 : Int32)) μ)).bind fun r2 =>
        if ((lg_cmp r2.1 ((0 : Int64)))) = 0 then
          (jas Y r2.2 v3 20 v4 (.int v5)).bind fun μ3 =>
          b_X9_hearRoots_50 Y v0 v1 v2 v3 (v4 + (1 : Int32)) v5 μ3
        else
          b_X9_hearRoots_50 Y v0 v1 v2 v3 v4 v5 r2.2
def f_X9_hearRoots (Y : jY) (v0 : Nat) (v1 : Int32) (v2 : Int32) (v3 : Nat) (μ : jM) : Option (Int32 × jM) :=
  jit jF (fun (s : Int32 × Int32 × jM) => b_X9_hearRoots_7 Y v0 v1 v2 v3 s.1 s.2.1 s.2.2) ((0 : Int32), (-6 : Int32), μ)
set_option maxRecDepth 10000 in
theorem t_X9_hearRoots_67 {X : jX} {l : Launch} {n : Nat} {Y : jY} (K : jOK X RX9 cX9_hearRoots 6 (some .boolean) 3) (hl : X.2.1 = l) {rr : Int32} {μr : jM} {t0 : Int32} {μ : jM} {z : (Int32 × jM)} (H : b_X9_hearRoots_67 Y t0 μ = some z) (D : z = (rr, μr)) : JW X (jEnd X n Y (some (.int rr)) μr 0 0) 0 0 n Y 67 [] [.int t0] μ := by
  unfold b_X9_hearRoots_67 at H
  refine w_zret K dX9_hearRoots_67 H (fun hz H => ?_)
  cases H
  obtain ⟨rfl, rfl⟩ := jfin2 D
  exact r_zret K hz dX9_hearRoots_67
set_option maxRecDepth 10000 in
theorem t_X9_hearRoots_50 {X : jX} {l : Launch} {n : Nat} {Y : jY} (K : jOK X RX9 cX9_hearRoots 6 (some .boolean) 3) (hl : X.2.1 = l) {rr : Int32} {μr : jM} {v0 : Nat} {v1 : Int32} {v2 : Int32} {v3 : Nat} {v4 : Int32} {v5 : Int32} {μ : jM} {z : ((Int32 × Int32 × jM) ⊕ (Int32 × jM))} (H : b_X9_hearRoots_50 Y v0 v1 v2 v3 v4 v5 μ = some z) (D : Sum.elim (fun (s : Int32 × Int32 × jM) => JW X (jEnd X n Y (some (.int rr)) μr 0 0) 0 0 n Y 7 [(0, .ref v0), (1, .int v1), (2, .int v2), (3, .ref v3), (4, .int s.1), (5, .int s.2.1)] [] s.2.2) (fun r => r = (rr, μr)) z) : JW X (jEnd X n Y (some (.int rr)) μr 0 0) 0 0 n Y 50 [(0, .ref v0), (1, .int v1), (2, .int v2), (3, .ref v3), (4, .int v4), (5, .int v5)] [] μ := by
  unfold b_X9_hearRoots_50 at H
  refine r_iinc K 5 [(5, .int _), (0, .ref _), (1, .int _), (2, .int _), (3, .ref _), (4, .int _)] (v := _ + (1 : Int32)) dX9_hearRoots_50 rfl rfl (by decide) rfl ?_
  refine r_goto K 7 dX9_hearRoots_53 (by decide) ?_
  cases H
  exact r_sub [1, 2, 3, 4, 5, 0] rfl D
set_option maxRecDepth 10000 in
theorem t_X9_hearRoots_7 {X : jX} {l : Launch} {n : Nat} {Y : jY} (K : jOK X RX9 cX9_hearRoots 6 (some .boolean) 3) (hl : X.2.1 = l) {rr : Int32} {μr : jM} {v0 : Nat} {v1 : Int32} {v2 : Int32} {v3 : Nat} {v4 : Int32} {v5 : Int32} {μ : jM} {z : ((Int32 × Int32 × jM) ⊕ (Int32 × jM))} (H : b_X9_hearRoots_7 Y v0 v1 v2 v3 v4 v5 μ = some z) (D : Sum.elim (fun (s : Int32 × Int32 × jM) => JW X (jEnd X n Y (some (.int rr)) μr 0 0) 0 0 n Y 7 [(0, .ref v0), (1, .int v1), (2, .int v2), (3, .ref v3), (4, .int s.1), (5, .int s.2.1)] [] s.2.2) (fun r => r = (rr, μr)) z) : JW X (jEnd X n Y (some (.int rr)) μr 0 0) 0 0 n Y 7 [(0, .ref v0), (1, .int v1), (2, .int v2), (3, .ref v3), (4, .int v4), (5, .int v5)] [] μ := by
  unfold b_X9_hearRoots_7 at H
  refine r_iload K 5 dX9_hearRoots_7 rfl ?_
  refine r_bipush (v := 6) K dX9_hearRoots_9 (by decide) ?_
  refine w_icmp_gt K 56 dX9_hearRoots_11 (by decide) H (fun _ H => ?_) (fun _ H => ?_)
  · refine r_iload K 4 dX9_hearRoots_56 rfl ?_
    refine r_iload_n K 2 dX9_hearRoots_58 rfl rfl ?_
    refine w_icmp_ne K 66 dX9_hearRoots_59 (by decide) H (fun _ H => ?_) (fun _ H => ?_)
    · refine r_iconst (v := 0) K dX9_hearRoots_66 (by decide) ?_
      obtain ⟨z2, H2, rfl⟩ := jmap H
      exact r_sub [] rfl (t_X9_hearRoots_67 K hl H2 D)
    · refine r_iconst (v := 1) K dX9_hearRoots_62 (by decide) ?_
      refine r_goto K 67 dX9_hearRoots_63 (by decide) ?_
      obtain ⟨z2, H2, rfl⟩ := jmap H
      exact r_sub [] rfl (t_X9_hearRoots_67 K hl H2 D)
  · refine r_iload K 4 dX9_hearRoots_14 rfl ?_
    refine r_iload_n K 2 dX9_hearRoots_16 rfl rfl ?_
    refine w_icmp_ge K 50 dX9_hearRoots_17 (by decide) H (fun _ H => ?_) (fun _ H => ?_)
    · exact r_sub [0, 1, 2, 3, 4, 5] rfl (t_X9_hearRoots_50 K hl H D)
    · refine r_iload K 4 dX9_hearRoots_20 rfl ?_
      refine r_aload_n K 3 dX9_hearRoots_22 rfl rfl ?_
      refine w_alen K 20 rfl dX9_hearRoots_23 H (fun x1 H => ?_)
      refine w_icmp_ge K 50 dX9_hearRoots_24 (by decide) H (fun _ H => ?_) (fun _ H => ?_)
      · exact r_sub [0, 1, 2, 3, 4, 5] rfl (t_X9_hearRoots_50 K hl H D)
      · refine r_aload_n K 0 dX9_hearRoots_27 rfl rfl ?_
        refine r_iload_n K 1 dX9_hearRoots_28 rfl rfl ?_
        refine r_iload_n K 2 dX9_hearRoots_29 rfl rfl ?_
        refine r_iload K 5 dX9_hearRoots_30 rfl ?_
        refine r_iconst (v := 1) K dX9_hearRoots_32 (by decide) ?_
        refine w_callV K hl H (fun r h => c_X10_valueAt l h) mC_yX10_valueAt mM_RX9_79 mI_yX10_valueAt mS_yX10_valueAt mZ_RX10 vc10 (Nat.le_of_ble_eq_true rfl) (Nat.le_of_ble_eq_true rfl) np_yX10_valueAt rfl (Nat.le_of_ble_eq_true rfl) dX9_hearRoots_33 (fun r2 H => ?_) ⟨Nat.zero_le _, Nat.zero_le _⟩
        refine r_lconst (v := 0) K dX9_hearRoots_36 (by decide) ?_
        refine r_lcmp K dX9_hearRoots_37 ?_
        refine w_if_ne K 50 dX9_hearRoots_38 (by decide) H (fun _ H => ?_) (fun _ H => ?_)
        · exact r_sub [0, 1, 2, 3, 4, 5] rfl (t_X9_hearRoots_50 K hl H D)
        · refine r_aload_n K 3 dX9_hearRoots_41 rfl rfl ?_
          refine r_iload K 4 dX9_hearRoots_42 rfl ?_
          refine r_iload K 5 dX9_hearRoots_44 rfl ?_
          refine w_iast K dX9_hearRoots_46 H (fun μ3 H => ?_)
          refine r_iinc K 4 [(4, .int _), (0, .ref _), (1, .int _), (2, .int _), (3, .ref _), (5, .int _)] (v := _ + (1 : Int32)) dX9_hearRoots_47 rfl rfl (by decide) rfl ?_
          exact r_sub [1, 2, 3, 4, 0, 5] rfl (t_X9_hearRoots_50 K hl H D)
set_option maxRecDepth 10000 in
theorem l_X9_hearRoots_7 {X : jX} {l : Launch} {n : Nat} {Y : jY} (K : jOK X RX9 cX9_hearRoots 6 (some .boolean) 3) (hl : X.2.1 = l) {rr : Int32} {μr : jM} {v0 : Nat} {v1 : Int32} {v2 : Int32} {v3 : Nat}  {s0 : Int32 × Int32 × jM} {z : (Int32 × jM)} (H : jit jF (fun (s : Int32 × Int32 × jM) => b_X9_hearRoots_7 Y v0 v1 v2 v3 s.1 s.2.1 s.2.2) s0 = some z) (D : z = (rr, μr)) : JW X (jEnd X n Y (some (.int rr)) μr 0 0) 0 0 n Y 7 [(0, .ref v0), (1, .int v1), (2, .int v2), (3, .ref v3), (4, .int s0.1), (5, .int s0.2.1)] [] s0.2.2 :=
  jit_ind (P := fun (s : Int32 × Int32 × jM) => JW X (jEnd X n Y (some (.int rr)) μr 0 0) 0 0 n Y 7 [(0, .ref v0), (1, .int v1), (2, .int v2), (3, .ref v3), (4, .int s.1), (5, .int s.2.1)] [] s.2.2) (D := fun r => r = (rr, μr)) (fun s z Hs Ds => t_X9_hearRoots_7 K hl Hs Ds) jF s0 z H D
set_option maxRecDepth 10000 in
theorem t_X9_hearRoots_0 {X : jX} {l : Launch} {n : Nat} {Y : jY} (K : jOK X RX9 cX9_hearRoots 6 (some .boolean) 3) (hl : X.2.1 = l) {rr : Int32} {μr : jM} {v0 : Nat} {v1 : Int32} {v2 : Int32} {v3 : Nat} {μ : jM} {z : (Int32 × jM)} (H : f_X9_hearRoots Y v0 v1 v2 v3 μ = some z) (D : z = (rr, μr)) : JW X (jEnd X n Y (some (.int rr)) μr 0 0) 0 0 n Y 0 [(0, .ref v0), (1, .int v1), (2, .int v2), (3, .ref v3)] [] μ := by
  unfold f_X9_hearRoots at H
  refine r_iconst (v := 0) K dX9_hearRoots_0 (by decide) ?_
  refine r_istore K [(4, .int _), (0, .ref _), (1, .int _), (2, .int _), (3, .ref _)] dX9_hearRoots_1 (by decide) rfl ?_
  refine r_bipush (v := -6) K dX9_hearRoots_3 (by decide) ?_
  refine r_istore K [(5, .int _), (4, .int _), (0, .ref _), (1, .int _), (2, .int _), (3, .ref _)] dX9_hearRoots_5 (by decide) rfl ?_
  exact r_sub [2, 3, 4, 5, 1, 0] rfl (l_X9_hearRoots_7 K hl H D)
theorem c_X9_hearRoots (l : Launch) {n : Nat} {Y : jY} {v0 : Nat} {v1 : Int32} {v2 : Int32} {v3 : Nat} {μ : jM} {z : Int32 × jM} (H : f_X9_hearRoots Y v0 v1 v2 v3 μ = some z) : jC l yX9_hearRoots cX9_hearRoots 6 (some .boolean) 3 0 0 [.ref v0, .int v1, .int v2, .ref v3] n Y μ n Y (some (.int z.1)) z.2 := by
  refine jC_of (by decide +kernel) (Nat.le_of_ble_eq_true rfl) (fun X hl K _ _ _ => ?_)
  obtain ⟨rr, μr⟩ := z
  exact t_X9_hearRoots_0 K hl H rfl
/-! RX9 hear(LChainTables$WholeTable;)Z -/
def b_X9_hear_57 (Y : jY) (t0 : Int32) (μ : jM) : Option (Int32 × jM) :=
  (jbool t0).bind fun x1 =>
  some (x1, μ)
def b_X9_hear_56 (Y : jY) (μ : jM) : Option (Int32 × jM) :=
  b_X9_hear_57 Y (0 : Int32) μ
def f_X9_hear (Y : jY) (v0 : Nat) (v1 : Nat) (μ : jM) : Option (Int32 × jM) :=
  (jgI Y μ v1 10 0).bind fun x1 =>
  if x1 ≤ ((4 : Int32)) then
    (jgI Y μ v1 10 0).bind fun x2 =>
    (jput Y μ v0 9 0 (.int x2)).bind fun μ3 =>
    (jgI Y μ3 v0 9 0).bind fun x4 =>
    (jgO Y μ3 v0 9 1).bind fun x5 =>
    (f_X9_hearRoots Y v1 ((0 : Int32)) x4 x5 μ3).bind fun r6 =>
    if r6.1 = 0 then
      b_X9_hear_56 Y r6.2
    else
      (jgI Y r6.2 v0 9 0).bind fun x7 =>
      (jgO Y r6.2 v0 9 2).bind fun x8 =>
      (f_X9_hearRoots Y v1 ((1 : Int32)) ((x7 - ((1 : Int32)))) x8 r6.2).bind fun r9 =>
      if r9.1 = 0 then
        b_X9_hear_56 Y r9.2
      else
        b_X9_hear_57 Y (1 : Int32) r9.2
  else
    (jbool ((0 : Int32))).bind fun x10 =>
    some (x10, μ)
set_option maxRecDepth 10000 in
theorem t_X9_hear_57 {X : jX} {l : Launch} {n : Nat} {Y : jY} (K : jOK X RX9 cX9_hear 2 (some .boolean) 4) (hl : X.2.1 = l) {rr : Int32} {μr : jM} {t0 : Int32} {μ : jM} {z : (Int32 × jM)} (H : b_X9_hear_57 Y t0 μ = some z) (D : z = (rr, μr)) : JW X (jEnd X n Y (some (.int rr)) μr 0 0) 0 0 n Y 57 [] [.int t0] μ := by
  unfold b_X9_hear_57 at H
  refine w_zret K dX9_hear_57 H (fun hz H => ?_)
  cases H
  obtain ⟨rfl, rfl⟩ := jfin2 D
  exact r_zret K hz dX9_hear_57
set_option maxRecDepth 10000 in
theorem t_X9_hear_56 {X : jX} {l : Launch} {n : Nat} {Y : jY} (K : jOK X RX9 cX9_hear 2 (some .boolean) 4) (hl : X.2.1 = l) {rr : Int32} {μr : jM} {μ : jM} {z : (Int32 × jM)} (H : b_X9_hear_56 Y μ = some z) (D : z = (rr, μr)) : JW X (jEnd X n Y (some (.int rr)) μr 0 0) 0 0 n Y 56 [] [] μ := by
  unfold b_X9_hear_56 at H
  refine r_iconst (v := 0) K dX9_hear_56 (by decide) ?_
  exact r_sub [] rfl (t_X9_hear_57 K hl H D)
set_option maxRecDepth 10000 in
theorem t_X9_hear_0 {X : jX} {l : Launch} {n : Nat} {Y : jY} (K : jOK X RX9 cX9_hear 2 (some .boolean) 4) (hl : X.2.1 = l) {rr : Int32} {μr : jM} {v0 : Nat} {v1 : Nat} {μ : jM} {z : (Int32 × jM)} (H : f_X9_hear Y v0 v1 μ = some z) (D : z = (rr, μr)) : JW X (jEnd X n Y (some (.int rr)) μr 0 0) 0 0 n Y 0 [(0, .ref v0), (1, .ref v1)] [] μ := by
  unfold f_X9_hear at H
  refine r_aload_n K 1 dX9_hear_0 rfl rfl ?_
  refine w_getI K vc10 inX10 0 (by decide) mF_RX9_70 dX9_hear_1 H (fun x1 H => ?_)
  refine r_iconst (v := 4) K dX9_hear_4 (by decide) ?_
  refine w_icmp_le K 10 dX9_hear_5 (by decide) H (fun _ H => ?_) (fun _ H => ?_)
  · refine r_aload_n K 0 dX9_hear_10 rfl rfl ?_
    refine r_aload_n K 1 dX9_hear_11 rfl rfl ?_
    refine w_getI K vc10 inX10 0 (by decide) mF_RX9_70 dX9_hear_12 H (fun x2 H => ?_)
    refine w_put K vc9 inX9 tyX9_ok nmX9 0 (by decide) mF_RX9_9 rfl (fun _ => rfl) (fun _ => rfl) dX9_hear_15 H (fun μ3 H => ?_)
    refine r_aload_n K 1 dX9_hear_18 rfl rfl ?_
    refine r_iconst (v := 0) K dX9_hear_19 (by decide) ?_
    refine r_aload_n K 0 dX9_hear_20 rfl rfl ?_
    refine w_getI K vc9 inX9 0 (by decide) mF_RX9_9 dX9_hear_21 H (fun x4 H => ?_)
    refine r_aload_n K 0 dX9_hear_24 rfl rfl ?_
    refine w_getO K vc9 inX9 1 (by decide) mF_RX9_15 dX9_hear_25 H (fun x5 H => ?_)
    refine w_callS K hl H (fun r h => c_X9_hearRoots l h) mC_yX9_hearRoots mM_RX9_75 mT_yX9_hearRoots mZ_RX9 (Nat.le_of_ble_eq_true rfl) (Nat.le_of_ble_eq_true rfl) np_yX9_hearRoots rfl (Nat.le_of_ble_eq_true rfl) dX9_hear_28 (fun r6 H => ?_) ⟨Nat.zero_le _, Nat.zero_le _⟩
    refine w_if_eq K 56 dX9_hear_31 (by decide) H (fun _ H => ?_) (fun _ H => ?_)
    · exact r_sub [] rfl (t_X9_hear_56 K hl H D)
    · refine r_aload_n K 1 dX9_hear_34 rfl rfl ?_
      refine r_iconst (v := 1) K dX9_hear_35 (by decide) ?_
      refine r_aload_n K 0 dX9_hear_36 rfl rfl ?_
      refine w_getI K vc9 inX9 0 (by decide) mF_RX9_9 dX9_hear_37 H (fun x7 H => ?_)
      refine r_iconst (v := 1) K dX9_hear_40 (by decide) ?_
      refine r_isub K dX9_hear_41 ?_
      refine r_aload_n K 0 dX9_hear_42 rfl rfl ?_
      refine w_getO K vc9 inX9 2 (by decide) mF_RX9_19 dX9_hear_43 H (fun x8 H => ?_)
      refine w_callS K hl H (fun r h => c_X9_hearRoots l h) mC_yX9_hearRoots mM_RX9_75 mT_yX9_hearRoots mZ_RX9 (Nat.le_of_ble_eq_true rfl) (Nat.le_of_ble_eq_true rfl) np_yX9_hearRoots rfl (Nat.le_of_ble_eq_true rfl) dX9_hear_46 (fun r9 H => ?_) ⟨Nat.zero_le _, Nat.zero_le _⟩
      refine w_if_eq K 56 dX9_hear_49 (by decide) H (fun _ H => ?_) (fun _ H => ?_)
      · exact r_sub [] rfl (t_X9_hear_56 K hl H D)
      · refine r_iconst (v := 1) K dX9_hear_52 (by decide) ?_
        refine r_goto K 57 dX9_hear_53 (by decide) ?_
        exact r_sub [] rfl (t_X9_hear_57 K hl H D)
  · refine r_iconst (v := 0) K dX9_hear_8 (by decide) ?_
    refine w_zret K dX9_hear_9 H (fun hz H => ?_)
    cases H
    obtain ⟨rfl, rfl⟩ := jfin2 D
    exact r_zret K hz dX9_hear_9
theorem c_X9_hear (l : Launch) {n : Nat} {Y : jY} {v0 : Nat} {v1 : Nat} {μ : jM} {z : Int32 × jM} (H : f_X9_hear Y v0 v1 μ = some z) : jC l yX9_hear cX9_hear 2 (some .boolean) 4 0 0 [.ref v0, .ref v1] n Y μ n Y (some (.int z.1)) z.2 := by
  refine jC_of (by decide +kernel) (Nat.le_of_ble_eq_true rfl) (fun X hl K _ _ _ => ?_)
  obtain ⟨rr, μr⟩ := z
  exact t_X9_hear_0 K hl H rfl
