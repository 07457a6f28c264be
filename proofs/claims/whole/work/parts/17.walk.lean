/-! RX12 census(II)I -/
def b_X12_census_20 (Y : jY) (μ : jM) : Option (Int32 × jM) :=
  some ((-1 : Int32), μ)
def b_X12_census_152 (Y : jY) (v1 : Int32) (v2 : Int32) (v3 : Int32) (v4 : Int32) (μ : jM) : Option ((Int32 × Int32 × jM) ⊕ (Int32 × jM)) :=
  some (.inl (v3, (v4 + (1 : Int32)), μ))
def b_X12_census_144 (Y : jY) (v1 : Int32) (v2 : Int32) (v4 : Int32) (v5 : Int32) (v6 : Int32) (t0 : Int32) (t1 : Int32) (μ : jM) : Option ((Int32 × Int32 × jM) ⊕ ((Int32 × Int32 × jM) ⊕ (Int32 × jM))) :=
  some (.inl ((t0 + t1), (v6 + (1 : Int32)), μ))
def b_X12_census_131 (Y : jY) (v1 : Int32) (v2 : Int32) (v3 : Int32) (v4 : Int32) (v5 : Int32) (v6 : Int32) (t0 : Int32) (μ : jM) : Option ((Int32 × Int32 × jM) ⊕ ((Int32 × Int32 × jM) ⊕ (Int32 × jM))) :=
  if t0 = 0 then
    b_X12_census_144 Y v1 v2 v4 v5 v6 v3 (0 : Int32) μ
  else
    b_X12_census_144 Y v1 v2 v4 v5 v6 v3 (1 : Int32) μ
def b_X12_census_117 (Y : jY) (v1 : Int32) (v2 : Int32) (v3 : Int32) (v4 : Int32) (v5 : Int32) (v6 : Int32) (μ : jM) : Option ((Int32 × Int32 × jM) ⊕ ((Int32 × Int32 × jM) ⊕ (Int32 × jM))) :=
  b_X12_census_131 Y v1 v2 v3 v4 v5 v6 (0 : Int32) μ
def b_X12_census_44 (Y : jY) (v1 : Int32) (v2 : Int32) (v3 : Int32) (v4 : Int32) (v5 : Int32) (v6 : Int32) (μ : jM) : Option ((Int32 × Int32 × jM) ⊕ ((Int32 × Int32 × jM) ⊕ (Int32 × jM))) :=
  if ((36 : Int32)) < v6 then
    (b_X12_census_152 Y v1 v2 v3 v4 μ).map (fun r => (.inr r))
  else
    (f_X12_in Y v5 ((-6 : Int32)) ((6 : Int32)) μ).bind fun r1 =>
    if r1.1 = 0 then
      (b_X12_census_152 Y v1 v2 v3 v4 r1.2).map (fun r => (.inr r))
    else
      if v2 = 0 then
        (f_X12_isSquare Y ((((((v4 - v5)) * ((v4 - v5)))) + ((((4 : Int32)) * v6)))) r1.2).bind fun r2 =>
        b_X12_census_131 Y v1 v2 v3 v4 v5 v6 r2.1 r2.2
      else
        if v2 = ((1 : Int32)) then
          if v1 < 0 then
            b_X12_census_117 Y v1 v2 v3 v4 v5 v6 r1.2
          else
            if ((((v4 * v5)) - v6)) < 0 then
              b_X12_census_117 Y v1 v2 v3 v4 v5 v6 r1.2
            else
              b_X12_census_131 Y v1 v2 v3 v4 v5 v6 (1 : Int32) r1.2
        else
          if ((((v4 * v5)) - v6)) = 0 then
            b_X12_census_131 Y v1 v2 v3 v4 v5 v6 (1 : Int32) r1.2
          else
            b_X12_census_131 Y v1 v2 v3 v4 v5 v6 (0 : Int32) r1.2
def b_X12_census_28 (Y : jY) (v1 : Int32) (v2 : Int32) (v3 : Int32) (v4 : Int32) (μ : jM) : Option ((Int32 × Int32 × jM) ⊕ (Int32 × jM)) :=
  if ((6 : Int32)) < v4 then
    some (.inr (v3, μ))
  else
    jit jF (fun (s : Int32 × Int32 × jM) => b_X12_census_44 Y v1 v2 s.1 v4 (v1 - v4) s.2.1 s.2.2) (v3, (1 : Int32), μ)
def f_X12_census (Y : jY) (v0 : Nat) (v1 : Int32) (v2 : Int32) (μ : jM) : Option (Int32 × jM) :=
  (f_X12_in Y v1 ((-12 : Int32)) ((12 : Int32)) μ).bind fun r1 =>
  if r1.1 = 0 then
    b_X12_census_20 Y r1.2
  else
    (f_X12_in Y v2 ((0 : Int32)) ((2 : Int32)) r1.2).bind fun r2 =>
    if r2.1 = 0 then
      b_X12_census_20 Y r2.2
    else
      jit jF (fun (s : Int32 × Int32 × jM) => b_X12_census_28 Y v1 v2 s.1 s.2.1 s.2.2) ((0 : Int32), (-6 : Int32), r2.2)
set_option maxRecDepth 10000 in
theorem t_X12_census_20 {X : jX} {l : Launch} {n : Nat} {Y : jY} (K : jOK X RX12 cX12_census 9 (some .int) 2) (hl : X.2.1 = l) {rr : Int32} {μr : jM} {μ : jM} {z : (Int32 × jM)} (H : b_X12_census_20 Y μ = some z) (D : z = (rr, μr)) : JW X (jEnd X n Y (some (.int rr)) μr 0 0) 0 0 n Y 20 [] [] μ := by
  unfold b_X12_census_20 at H
  refine r_iconst (v := -1) K dX12_census_20 (by decide) ?_
  cases H
  obtain ⟨rfl, rfl⟩ := jfin2 D
  exact r_iret K dX12_census_21
set_option maxRecDepth 10000 in
theorem t_X12_census_152 {X : jX} {l : Launch} {n : Nat} {Y : jY} (K : jOK X RX12 cX12_census 9 (some .int) 2) (hl : X.2.1 = l) {rr : Int32} {μr : jM} {v1 : Int32} {v2 : Int32} {v3 : Int32} {v4 : Int32} {μ : jM} {z : ((Int32 × Int32 × jM) ⊕ (Int32 × jM))} (H : b_X12_census_152 Y v1 v2 v3 v4 μ = some z) (D : Sum.elim (fun (s : Int32 × Int32 × jM) => JW X (jEnd X n Y (some (.int rr)) μr 0 0) 0 0 n Y 28 [(1, .int v1), (2, .int v2), (3, .int s.1), (4, .int s.2.1)] [] s.2.2) (fun r => r = (rr, μr)) z) : JW X (jEnd X n Y (some (.int rr)) μr 0 0) 0 0 n Y 152 [(1, .int v1), (2, .int v2), (3, .int v3), (4, .int v4)] [] μ := by
  unfold b_X12_census_152 at H
  refine r_iinc K 3 [(4, .int _), (1, .int _), (2, .int _), (3, .int _)] (v := _ + (1 : Int32)) dX12_census_152 rfl rfl (by decide) rfl ?_
  refine r_goto K 28 dX12_census_155 (by decide) ?_
  cases H
  exact r_sub [1, 2, 3, 0] rfl D
set_option maxRecDepth 10000 in
theorem t_X12_census_144 {X : jX} {l : Launch} {n : Nat} {Y : jY} (K : jOK X RX12 cX12_census 9 (some .int) 2) (hl : X.2.1 = l) {rr : Int32} {μr : jM} {v1 : Int32} {v2 : Int32} {v4 : Int32} {v5 : Int32} {v6 : Int32} {t0 : Int32} {t1 : Int32} {μ : jM} {z : ((Int32 × Int32 × jM) ⊕ ((Int32 × Int32 × jM) ⊕ (Int32 × jM)))} (H : b_X12_census_144 Y v1 v2 v4 v5 v6 t0 t1 μ = some z) (D : Sum.elim (fun (s : Int32 × Int32 × jM) => JW X (jEnd X n Y (some (.int rr)) μr 0 0) 0 0 n Y 44 [(1, .int v1), (2, .int v2), (3, .int s.1), (4, .int v4), (5, .int v5), (6, .int s.2.1)] [] s.2.2) (Sum.elim (fun (s : Int32 × Int32 × jM) => JW X (jEnd X n Y (some (.int rr)) μr 0 0) 0 0 n Y 28 [(1, .int v1), (2, .int v2), (3, .int s.1), (4, .int s.2.1)] [] s.2.2) (fun r => r = (rr, μr))) z) : JW X (jEnd X n Y (some (.int rr)) μr 0 0) 0 0 n Y 144 [(1, .int v1), (2, .int v2), (4, .int v4), (5, .int v5), (6, .int v6)] [.int t1, .int t0] μ := by
  unfold b_X12_census_144 at H
  refine r_iadd K dX12_census_144 ?_
  refine r_istore_n K [(3, .int _), (1, .int _), (2, .int _), (4, .int _), (5, .int _), (6, .int _)] dX12_census_145 rfl (by decide) rfl ?_
  refine r_iinc K 5 [(6, .int _), (3, .int _), (1, .int _), (2, .int _), (4, .int _), (5, .int _)] (v := _ + (1 : Int32)) dX12_census_146 rfl rfl (by decide) rfl ?_
  refine r_goto K 44 dX12_census_149 (by decide) ?_
  cases H
  exact r_sub [2, 3, 1, 4, 5, 0] rfl D
set_option maxRecDepth 10000 in
theorem t_X12_census_131 {X : jX} {l : Launch} {n : Nat} {Y : jY} (K : jOK X RX12 cX12_census 9 (some .int) 2) (hl : X.2.1 = l) {rr : Int32} {μr : jM} {v1 : Int32} {v2 : Int32} {v3 : Int32} {v4 : Int32} {v5 : Int32} {v6 : Int32} {t0 : Int32} {μ : jM} {z : ((Int32 × Int32 × jM) ⊕ ((Int32 × Int32 × jM) ⊕ (Int32 × jM)))} (H : b_X12_census_131 Y v1 v2 v3 v4 v5 v6 t0 μ = some z) (D : Sum.elim (fun (s : Int32 × Int32 × jM) => JW X (jEnd X n Y (some (.int rr)) μr 0 0) 0 0 n Y 44 [(1, .int v1), (2, .int v2), (3, .int s.1), (4, .int v4), (5, .int v5), (6, .int s.2.1)] [] s.2.2) (Sum.elim (fun (s : Int32 × Int32 × jM) => JW X (jEnd X n Y (some (.int rr)) μr 0 0) 0 0 n Y 28 [(1, .int v1), (2, .int v2), (3, .int s.1), (4, .int s.2.1)] [] s.2.2) (fun r => r = (rr, μr))) z) : JW X (jEnd X n Y (some (.int rr)) μr 0 0) 0 0 n Y 131 [(1, .int v1), (2, .int v2), (3, .int v3), (4, .int v4), (5, .int v5), (6, .int v6)] [.int t0] μ := by
  unfold b_X12_census_131 at H
  refine r_istore K [(8, .int _), (1, .int _), (2, .int _), (3, .int _), (4, .int _), (5, .int _), (6, .int _)] dX12_census_131 (by decide) rfl ?_
  refine r_iload_n K 3 dX12_census_133 rfl rfl ?_
  refine r_iload K 0 dX12_census_134 rfl ?_
  refine w_if_eq K 143 dX12_census_136 (by decide) H (fun _ H => ?_) (fun _ H => ?_)
  · refine r_iconst (v := 0) K dX12_census_143 (by decide) ?_
    exact r_sub [1, 2, 4, 5, 6] rfl (t_X12_census_144 K hl H D)
  · refine r_iconst (v := 1) K dX12_census_139 (by decide) ?_
    refine r_goto K 144 dX12_census_140 (by decide) ?_
    exact r_sub [1, 2, 4, 5, 6] rfl (t_X12_census_144 K hl H D)
set_option maxRecDepth 10000 in
theorem t_X12_census_117 {X : jX} {l : Launch} {n : Nat} {Y : jY} (K : jOK X RX12 cX12_census 9 (some .int) 2) (hl : X.2.1 = l) {rr : Int32} {μr : jM} {v1 : Int32} {v2 : Int32} {v3 : Int32} {v4 : Int32} {v5 : Int32} {v6 : Int32} {μ : jM} {z : ((Int32 × Int32 × jM) ⊕ ((Int32 × Int32 × jM) ⊕ (Int32 × jM)))} (H : b_X12_census_117 Y v1 v2 v3 v4 v5 v6 μ = some z) (D : Sum.elim (fun (s : Int32 × Int32 × jM) => JW X (jEnd X n Y (some (.int rr)) μr 0 0) 0 0 n Y 44 [(1, .int v1), (2, .int v2), (3, .int s.1), (4, .int v4), (5, .int v5), (6, .int s.2.1)] [] s.2.2) (Sum.elim (fun (s : Int32 × Int32 × jM) => JW X (jEnd X n Y (some (.int rr)) μr 0 0) 0 0 n Y 28 [(1, .int v1), (2, .int v2), (3, .int s.1), (4, .int s.2.1)] [] s.2.2) (fun r => r = (rr, μr))) z) : JW X (jEnd X n Y (some (.int rr)) μr 0 0) 0 0 n Y 117 [(1, .int v1), (2, .int v2), (3, .int v3), (4, .int v4), (5, .int v5), (6, .int v6)] [] μ := by
  unfold b_X12_census_117 at H
  refine r_iconst (v := 0) K dX12_census_117 (by decide) ?_
  refine r_goto K 131 dX12_census_118 (by decide) ?_
  exact r_sub [0, 1, 2, 3, 4, 5] rfl (t_X12_census_131 K hl H D)
set_option maxRecDepth 10000 in
theorem t_X12_census_44 {X : jX} {l : Launch} {n : Nat} {Y : jY} (K : jOK X RX12 cX12_census 9 (some .int) 2) (hl : X.2.1 = l) {rr : Int32} {μr : jM} {v1 : Int32} {v2 : Int32} {v3 : Int32} {v4 : Int32} {v5 : Int32} {v6 : Int32} {μ : jM} {z : ((Int32 × Int32 × jM) ⊕ ((Int32 × Int32 × jM) ⊕ (Int32 × jM)))} (H : b_X12_census_44 Y v1 v2 v3 v4 v5 v6 μ = some z) (D : Sum.elim (fun (s : Int32 × Int32 × jM) => JW X (jEnd X n Y (some (.int rr)) μr 0 0) 0 0 n Y 44 [(1, .int v1), (2, .int v2), (3, .int s.1), (4, .int v4), (5, .int v5), (6, .int s.2.1)] [] s.2.2) (Sum.elim (fun (s : Int32 × Int32 × jM) => JW X (jEnd X n Y (some (.int rr)) μr 0 0) 0 0 n Y 28 [(1, .int v1), (2, .int v2), (3, .int s.1), (4, .int s.2.1)] [] s.2.2) (fun r => r = (rr, μr))) z) : JW X (jEnd X n Y (some (.int rr)) μr 0 0) 0 0 n Y 44 [(1, .int v1), (2, .int v2), (3, .int v3), (4, .int v4), (5, .int v5), (6, .int v6)] [] μ := by
  unfold b_X12_census_44 at H
  refine r_iload K 5 dX12_census_44 rfl ?_
  refine r_bipush (v := 36) K dX12_census_46 (by decide) ?_
  refine w_icmp_gt K 152 dX12_census_48 (by decide) H (fun _ H => ?_) (fun _ H => ?_)
  · obtain ⟨z2, H2, rfl⟩ := jmap H
    exact r_sub [0, 1, 2, 3] rfl (t_X12_census_152 K hl H2 D)
  · refine r_iload K 4 dX12_census_51 rfl ?_
    refine r_bipush (v := -6) K dX12_census_53 (by decide) ?_
    refine r_bipush (v := 6) K dX12_census_55 (by decide) ?_
    refine w_callS K hl H (fun r h => c_X12_in l h) mC_yX12_in mM_RX12_134 mT_yX12_in mZ_RX12 (Nat.le_of_ble_eq_true rfl) (Nat.le_of_ble_eq_true rfl) np_yX12_in rfl (Nat.le_of_ble_eq_true rfl) dX12_census_57 (fun r1 H => ?_) ⟨Nat.zero_le _, Nat.zero_le _⟩
    refine w_if_eq K 152 dX12_census_60 (by decide) H (fun _ H => ?_) (fun _ H => ?_)
    · obtain ⟨z2, H2, rfl⟩ := jmap H
      exact r_sub [0, 1, 2, 3] rfl (t_X12_census_152 K hl H2 D)
    · refine r_iload K 3 dX12_census_63 rfl ?_
      refine r_iload K 4 dX12_census_65 rfl ?_
      refine r_imul K dX12_census_67 ?_
      refine r_iload K 5 dX12_census_68 rfl ?_
      refine r_isub K dX12_census_70 ?_
      refine r_istore K [(7, .int _), (1, .int _), (2, .int _), (3, .int _), (4, .int _), (5, .int _), (6, .int _)] dX12_census_71 (by decide) rfl ?_
      refine r_iload_n K 2 dX12_census_73 rfl rfl ?_
      refine w_if_ne K 99 dX12_census_74 (by decide) H (fun _ H => ?_) (fun _ H => ?_)
      · refine r_iload_n K 2 dX12_census_99 rfl rfl ?_
        refine r_iconst (v := 1) K dX12_census_100 (by decide) ?_
        refine w_icmp_ne K 121 dX12_census_101 (by decide) H (fun _ H => ?_) (fun _ H => ?_)
        · refine r_iload K 0 dX12_census_121 rfl ?_
          refine w_if_ne K 130 dX12_census_123 (by decide) H (fun _ H => ?_) (fun _ H => ?_)
          · refine r_iconst (v := 0) K dX12_census_130 (by decide) ?_
            exact r_sub [1, 2, 3, 4, 5, 6] rfl (t_X12_census_131 K hl H D)
          · refine r_iconst (v := 1) K dX12_census_126 (by decide) ?_
            refine r_goto K 131 dX12_census_127 (by decide) ?_
            exact r_sub [1, 2, 3, 4, 5, 6] rfl (t_X12_census_131 K hl H D)
        · refine r_iload_n K 1 dX12_census_104 rfl rfl ?_
          refine w_if_lt K 117 dX12_census_105 (by decide) H (fun _ H => ?_) (fun _ H => ?_)
          · exact r_sub [1, 2, 3, 4, 5, 6] rfl (t_X12_census_117 K hl H D)
          · refine r_iload K 0 dX12_census_108 rfl ?_
            refine w_if_lt K 117 dX12_census_110 (by decide) H (fun _ H => ?_) (fun _ H => ?_)
            · exact r_sub [1, 2, 3, 4, 5, 6] rfl (t_X12_census_117 K hl H D)
            · refine r_iconst (v := 1) K dX12_census_113 (by decide) ?_
              refine r_goto K 131 dX12_census_114 (by decide) ?_
              exact r_sub [1, 2, 3, 4, 5, 6] rfl (t_X12_census_131 K hl H D)
      · refine r_iload K 4 dX12_census_77 rfl ?_
        refine r_iload K 5 dX12_census_79 rfl ?_
        refine r_isub K dX12_census_81 ?_
        refine r_iload K 4 dX12_census_82 rfl ?_
        refine r_iload K 5 dX12_census_84 rfl ?_
        refine r_isub K dX12_census_86 ?_
        refine r_imul K dX12_census_87 ?_
        refine r_iconst (v := 4) K dX12_census_88 (by decide) ?_
        refine r_iload K 6 dX12_census_89 rfl ?_
        refine r_imul K dX12_census_91 ?_
        refine r_iadd K dX12_census_92 ?_
        refine w_callS K hl H (fun r h => c_X12_isSquare l h) mC_yX12_isSquare mM_RX12_320 mT_yX12_isSquare mZ_RX12 (Nat.le_of_ble_eq_true rfl) (Nat.le_of_ble_eq_true rfl) np_yX12_isSquare rfl (Nat.le_of_ble_eq_true rfl) dX12_census_93 (fun r2 H => ?_) ⟨Nat.zero_le _, Nat.zero_le _⟩
        refine r_goto K 131 dX12_census_96 (by decide) ?_
        exact r_sub [1, 2, 3, 4, 5, 6] rfl (t_X12_census_131 K hl H D)
set_option maxRecDepth 10000 in
theorem l_X12_census_44 {X : jX} {l : Launch} {n : Nat} {Y : jY} (K : jOK X RX12 cX12_census 9 (some .int) 2) (hl : X.2.1 = l) {rr : Int32} {μr : jM} {v1 : Int32} {v2 : Int32} {v4 : Int32} {v5 : Int32}  {s0 : Int32 × Int32 × jM} {z : ((Int32 × Int32 × jM) ⊕ (Int32 × jM))} (H : jit jF (fun (s : Int32 × Int32 × jM) => b_X12_census_44 Y v1 v2 s.1 v4 v5 s.2.1 s.2.2) s0 = some z) (D : Sum.elim (fun (s : Int32 × Int32 × jM) => JW X (jEnd X n Y (some (.int rr)) μr 0 0) 0 0 n Y 28 [(1, .int v1), (2, .int v2), (3, .int s.1), (4, .int s.2.1)] [] s.2.2) (fun r => r = (rr, μr)) z) : JW X (jEnd X n Y (some (.int rr)) μr 0 0) 0 0 n Y 44 [(1, .int v1), (2, .int v2), (3, .int s0.1), (4, .int v4), (5, .int v5), (6, .int s0.2.1)] [] s0.2.2 :=
  jit_ind (P := fun (s : Int32 × Int32 × jM) => JW X (jEnd X n Y (some (.int rr)) μr 0 0) 0 0 n Y 44 [(1, .int v1), (2, .int v2), (3, .int s.1), (4, .int v4), (5, .int v5), (6, .int s.2.1)] [] s.2.2) (D := Sum.elim (fun (s : Int32 × Int32 × jM) => JW X (jEnd X n Y (some (.int rr)) μr 0 0) 0 0 n Y 28 [(1, .int v1), (2, .int v2), (3, .int s.1), (4, .int s.2.1)] [] s.2.2) (fun r => r = (rr, μr))) (fun s z Hs Ds => t_X12_census_44 K hl Hs Ds) jF s0 z H D
set_option maxRecDepth 10000 in
theorem t_X12_census_28 {X : jX} {l : Launch} {n : Nat} {Y : jY} (K : jOK X RX12 cX12_census 9 (some .int) 2) (hl : X.2.1 = l) {rr : Int32} {μr : jM} {v1 : Int32} {v2 : Int32} {v3 : Int32} {v4 : Int32} {μ : jM} {z : ((Int32 × Int32 × jM) ⊕ (Int32 × jM))} (H : b_X12_census_28 Y v1 v2 v3 v4 μ = some z) (D : Sum.elim (fun (s : Int32 × Int32 × jM) => JW X (jEnd X n Y (some (.int rr)) μr 0 0) 0 0 n Y 28 [(1, .int v1), (2, .int v2), (3, .int s.1), (4, .int s.2.1)] [] s.2.2) (fun r => r = (rr, μr)) z) : JW X (jEnd X n Y (some (.int rr)) μr 0 0) 0 0 n Y 28 [(1, .int v1), (2, .int v2), (3, .int v3), (4, .int v4)] [] μ := by
  unfold b_X12_census_28 at H
  refine r_iload K 3 dX12_census_28 rfl ?_
  refine r_bipush (v := 6) K dX12_census_30 (by decide) ?_
  refine w_icmp_gt K 158 dX12_census_32 (by decide) H (fun _ H => ?_) (fun _ H => ?_)
  · refine r_iload_n K 2 dX12_census_158 rfl rfl ?_
    cases H
    simp only [Sum.elim_inr] at D
    obtain ⟨rfl, rfl⟩ := jfin2 D
    exact r_iret K dX12_census_159
  · refine r_iload_n K 0 dX12_census_35 rfl rfl ?_
    refine r_iload K 3 dX12_census_36 rfl ?_
    refine r_isub K dX12_census_38 ?_
    refine r_istore K [(5, .int _), (1, .int _), (2, .int _), (3, .int _), (4, .int _)] dX12_census_39 (by decide) rfl ?_
    refine r_iconst (v := 1) K dX12_census_41 (by decide) ?_
    refine r_istore K [(6, .int _), (5, .int _), (1, .int _), (2, .int _), (3, .int _), (4, .int _)] dX12_census_42 (by decide) rfl ?_
    exact r_sub [2, 3, 4, 5, 1, 0] rfl (l_X12_census_44 K hl H D)
set_option maxRecDepth 10000 in
theorem l_X12_census_28 {X : jX} {l : Launch} {n : Nat} {Y : jY} (K : jOK X RX12 cX12_census 9 (some .int) 2) (hl : X.2.1 = l) {rr : Int32} {μr : jM} {v1 : Int32} {v2 : Int32}  {s0 : Int32 × Int32 × jM} {z : (Int32 × jM)} (H : jit jF (fun (s : Int32 × Int32 × jM) => b_X12_census_28 Y v1 v2 s.1 s.2.1 s.2.2) s0 = some z) (D : z = (rr, μr)) : JW X (jEnd X n Y (some (.int rr)) μr 0 0) 0 0 n Y 28 [(1, .int v1), (2, .int v2), (3, .int s0.1), (4, .int s0.2.1)] [] s0.2.2 :=
  jit_ind (P := fun (s : Int32 × Int32 × jM) => JW X (jEnd X n Y (some (.int rr)) μr 0 0) 0 0 n Y 28 [(1, .int v1), (2, .int v2), (3, .int s.1), (4, .int s.2.1)] [] s.2.2) (D := fun r => r = (rr, μr)) (fun s z Hs Ds => t_X12_census_28 K hl Hs Ds) jF s0 z H D
set_option maxRecDepth 10000 in
theorem t_X12_census_0 {X : jX} {l : Launch} {n : Nat} {Y : jY} (K : jOK X RX12 cX12_census 9 (some .int) 2) (hl : X.2.1 = l) {rr : Int32} {μr : jM} {v0 : Nat} {v1 : Int32} {v2 : Int32} {μ : jM} {z : (Int32 × jM)} (H : f_X12_census Y v0 v1 v2 μ = some z) (D : z = (rr, μr)) : JW X (jEnd X n Y (some (.int rr)) μr 0 0) 0 0 n Y 0 [(0, .ref v0), (1, .int v1), (2, .int v2)] [] μ := by
  unfold f_X12_census at H
  refine r_iload_n K 1 dX12_census_0 rfl rfl ?_
  refine r_bipush (v := -12) K dX12_census_1 (by decide) ?_
  refine r_bipush (v := 12) K dX12_census_3 (by decide) ?_
  refine w_callS K hl H (fun r h => c_X12_in l h) mC_yX12_in mM_RX12_134 mT_yX12_in mZ_RX12 (Nat.le_of_ble_eq_true rfl) (Nat.le_of_ble_eq_true rfl) np_yX12_in rfl (Nat.le_of_ble_eq_true rfl) dX12_census_5 (fun r1 H => ?_) ⟨Nat.zero_le _, Nat.zero_le _⟩
  refine w_if_eq K 20 dX12_census_8 (by decide) H (fun _ H => ?_) (fun _ H => ?_)
  · exact r_sub [] rfl (t_X12_census_20 K hl H D)
  · refine r_iload_n K 2 dX12_census_11 rfl rfl ?_
    refine r_iconst (v := 0) K dX12_census_12 (by decide) ?_
    refine r_iconst (v := 2) K dX12_census_13 (by decide) ?_
    refine w_callS K hl H (fun r h => c_X12_in l h) mC_yX12_in mM_RX12_134 mT_yX12_in mZ_RX12 (Nat.le_of_ble_eq_true rfl) (Nat.le_of_ble_eq_true rfl) np_yX12_in rfl (Nat.le_of_ble_eq_true rfl) dX12_census_14 (fun r2 H => ?_) ⟨Nat.zero_le _, Nat.zero_le _⟩
    refine w_if_ne K 22 dX12_census_17 (by decide) H (fun _ H => ?_) (fun _ H => ?_)
    · refine r_iconst (v := 0) K dX12_census_22 (by decide) ?_
      refine r_istore_n K [(3, .int _), (0, .ref _), (1, .int _), (2, .int _)] dX12_census_23 rfl (by decide) rfl ?_
      refine r_bipush (v := -6) K dX12_census_24 (by decide) ?_
      refine r_istore K [(4, .int _), (3, .int _), (0, .ref _), (1, .int _), (2, .int _)] dX12_census_26 (by decide) rfl ?_
      exact r_sub [3, 4, 1, 0] rfl (l_X12_census_28 K hl H D)
    · exact r_sub [] rfl (t_X12_census_20 K hl H D)
theorem c_X12_census (l : Launch) {n : Nat} {Y : jY} {v0 : Nat} {v1 : Int32} {v2 : Int32} {μ : jM} {z : Int32 × jM} (H : f_X12_census Y v0 v1 v2 μ = some z) : jC l yX12_census cX12_census 9 (some .int) 2 0 0 [.ref v0, .int v1, .int v2] n Y μ n Y (some (.int z.1)) z.2 := by
  refine jC_of (by decide +kernel) (Nat.le_of_ble_eq_true rfl) (fun X hl K _ _ _ => ?_)
  obtain ⟨rr, μr⟩ := z
  exact t_X12_census_0 K hl H rfl
/-! RX12 at(IIII)J -/
def b_X12_at_18 (Y : jY) (v3 : Int32) (t0 : Nat) (t1 : Int32) (t2 : Int32) (μ : jM) : Option (Int64 × jM) :=
  (jaL Y μ t0 21 ((((t1 + t2)) + v3))).bind fun x1 =>
  some (x1, μ)
def f_X12_at (Y : jY) (v0 : Nat) (v1 : Int32) (v2 : Int32) (v3 : Int32) (v4 : Int32) (μ : jM) : Option (Int64 × jM) :=
  (jgO Y μ v0 12 15).bind fun x1 =>
  if v4 ≤ v2 then
    b_X12_at_18 Y v3 x1 v1 (v2 + ((1 : Int32))) μ
  else
    b_X12_at_18 Y v3 x1 v1 v2 μ
set_option maxRecDepth 10000 in
theorem t_X12_at_18 {X : jX} {l : Launch} {n : Nat} {Y : jY} (K : jOK X RX12 cX12_at 5 (some .long) 1) (hl : X.2.1 = l) {rr : Int64} {μr : jM} {v3 : Int32} {t0 : Nat} {t1 : Int32} {t2 : Int32} {μ : jM} {z : (Int64 × jM)} (H : b_X12_at_18 Y v3 t0 t1 t2 μ = some z) (D : z = (rr, μr)) : JW X (jEnd X n Y (some (.long rr)) μr 0 0) 0 0 n Y 18 [(3, .int v3)] [.int t2, .int t1, .ref t0] μ := by
  unfold b_X12_at_18 at H
  refine r_iadd K dX12_at_18 ?_
  refine r_iload_n K 0 dX12_at_19 rfl rfl ?_
  refine r_iadd K dX12_at_20 ?_
  refine w_lald K dX12_at_21 H (fun x1 H => ?_)
  cases H
  obtain ⟨rfl, rfl⟩ := jfin2 D
  exact r_lret K dX12_at_22
set_option maxRecDepth 10000 in
theorem t_X12_at_0 {X : jX} {l : Launch} {n : Nat} {Y : jY} (K : jOK X RX12 cX12_at 5 (some .long) 1) (hl : X.2.1 = l) {rr : Int64} {μr : jM} {v0 : Nat} {v1 : Int32} {v2 : Int32} {v3 : Int32} {v4 : Int32} {μ : jM} {z : (Int64 × jM)} (H : f_X12_at Y v0 v1 v2 v3 v4 μ = some z) (D : z = (rr, μr)) : JW X (jEnd X n Y (some (.long rr)) μr 0 0) 0 0 n Y 0 [(0, .ref v0), (1, .int v1), (2, .int v2), (3, .int v3), (4, .int v4)] [] μ := by
  unfold f_X12_at at H
  refine r_aload_n K 0 dX12_at_0 rfl rfl ?_
  refine w_getO K vc12 inX12 15 (by decide) mF_RX12_33 dX12_at_1 H (fun x1 H => ?_)
  refine r_iload_n K 1 dX12_at_4 rfl rfl ?_
  refine r_iload_n K 2 dX12_at_5 rfl rfl ?_
  refine r_iload K 4 dX12_at_6 rfl ?_
  refine w_icmp_ge K 15 dX12_at_8 (by decide) H (fun _ H => ?_) (fun _ H => ?_)
  · refine r_iload_n K 2 dX12_at_15 rfl rfl ?_
    refine r_iconst (v := 1) K dX12_at_16 (by decide) ?_
    refine r_iadd K dX12_at_17 ?_
    exact r_sub [3] rfl (t_X12_at_18 K hl H D)
  · refine r_iload_n K 2 dX12_at_11 rfl rfl ?_
    refine r_goto K 18 dX12_at_12 (by decide) ?_
    exact r_sub [3] rfl (t_X12_at_18 K hl H D)
theorem c_X12_at (l : Launch) {n : Nat} {Y : jY} {v0 : Nat} {v1 : Int32} {v2 : Int32} {v3 : Int32} {v4 : Int32} {μ : jM} {z : Int64 × jM} (H : f_X12_at Y v0 v1 v2 v3 v4 μ = some z) : jC l yX12_at cX12_at 5 (some .long) 1 0 0 [.ref v0, .int v1, .int v2, .int v3, .int v4] n Y μ n Y (some (.long z.1)) z.2 := by
  refine jC_of (by decide +kernel) (Nat.le_of_ble_eq_true rfl) (fun X hl K _ _ _ => ?_)
  obtain ⟨rr, μr⟩ := z
  exact t_X12_at_0 K hl H rfl
/-! RX12 two(IIIIII)J -/
def f_X12_two (Y : jY) (v0 : Nat) (v1 : Int32) (v2 : Int32) (v3 : Int32) (v4 : Int32) (v5 : Int32) (v6 : Int32) (μ : jM) : Option (Int64 × jM) :=
  (jrcv Y v0 12 (f_X12_at Y v0 v1 v3 v5 v6 μ)).bind fun r1 =>
  (jrcv Y v0 12 (f_X12_at Y v0 v2 v4 v5 v6 r1.2)).bind fun r2 =>
  (jrcv Y v0 12 (f_X12_at Y v0 v1 v4 v5 v6 r2.2)).bind fun r3 =>
  (jrcv Y v0 12 (f_X12_at Y v0 v2 v3 v5 v6 r3.2)).bind fun r4 =>
  some ((((r1.1 * r2.1)) - ((r3.1 * r4.1))), r4.2)
set_option maxRecDepth 10000 in
theorem t_X12_two_0 {X : jX} {l : Launch} {n : Nat} {Y : jY} (K : jOK X RX12 cX12_two 7 (some .long) 2) (hl : X.2.1 = l) {rr : Int64} {μr : jM} {v0 : Nat} {v1 : Int32} {v2 : Int32} {v3 : Int32} {v4 : Int32} {v5 : Int32} {v6 : Int32} {μ : jM} {z : (Int64 × jM)} (H : f_X12_two Y v0 v1 v2 v3 v4 v5 v6 μ = some z) (D : z = (rr, μr)) : JW X (jEnd X n Y (some (.long rr)) μr 0 0) 0 0 n Y 0 [(0, .ref v0), (1, .int v1), (2, .int v2), (3, .int v3), (4, .int v4), (5, .int v5), (6, .int v6)] [] μ := by
  unfold f_X12_two at H
  refine r_aload_n K 0 dX12_two_0 rfl rfl ?_
  refine r_iload_n K 1 dX12_two_1 rfl rfl ?_
  refine r_iload_n K 3 dX12_two_2 rfl rfl ?_
  refine r_iload K 5 dX12_two_3 rfl ?_
  refine r_iload K 6 dX12_two_5 rfl ?_
  refine w_callV K hl H (fun r h => c_X12_at l h) mC_yX12_at mM_RX12_161 mI_yX12_at mS_yX12_at mZ_RX12 vc12 (Nat.le_of_ble_eq_true rfl) (Nat.le_of_ble_eq_true rfl) np_yX12_at rfl (Nat.le_of_ble_eq_true rfl) dX12_two_7 (fun r1 H => ?_) ⟨Nat.zero_le _, Nat.zero_le _⟩
  refine r_aload_n K 0 dX12_two_10 rfl rfl ?_
  refine r_iload_n K 2 dX12_two_11 rfl rfl ?_
  refine r_iload K 4 dX12_two_12 rfl ?_
  refine r_iload K 5 dX12_two_14 rfl ?_
  refine r_iload K 6 dX12_two_16 rfl ?_
  refine w_callV K hl H (fun r h => c_X12_at l h) mC_yX12_at mM_RX12_161 mI_yX12_at mS_yX12_at mZ_RX12 vc12 (Nat.le_of_ble_eq_true rfl) (Nat.le_of_ble_eq_true rfl) np_yX12_at rfl (Nat.le_of_ble_eq_true rfl) dX12_two_18 (fun r2 H => ?_) ⟨Nat.zero_le _, Nat.zero_le _⟩
  refine r_lmul K dX12_two_21 ?_
  refine r_aload_n K 0 dX12_two_22 rfl rfl ?_
  refine r_iload_n K 1 dX12_two_23 rfl rfl ?_
  refine r_iload K 4 dX12_two_24 rfl ?_
  refine r_iload K 5 dX12_two_26 rfl ?_
  refine r_iload K 6 dX12_two_28 rfl ?_
  refine w_callV K hl H (fun r h => c_X12_at l h) mC_yX12_at mM_RX12_161 mI_yX12_at mS_yX12_at mZ_RX12 vc12 (Nat.le_of_ble_eq_true rfl) (Nat.le_of_ble_eq_true rfl) np_yX12_at rfl (Nat.le_of_ble_eq_true rfl) dX12_two_30 (fun r3 H => ?_) ⟨Nat.zero_le _, Nat.zero_le _⟩
  refine r_aload_n K 0 dX12_two_33 rfl rfl ?_
  refine r_iload_n K 2 dX12_two_34 rfl rfl ?_
  refine r_iload_n K 3 dX12_two_35 rfl rfl ?_
  refine r_iload K 5 dX12_two_36 rfl ?_
  refine r_iload K 6 dX12_two_38 rfl ?_
  refine w_callV K hl H (fun r h => c_X12_at l h) mC_yX12_at mM_RX12_161 mI_yX12_at mS_yX12_at mZ_RX12 vc12 (Nat.le_of_ble_eq_true rfl) (Nat.le_of_ble_eq_true rfl) np_yX12_at rfl (Nat.le_of_ble_eq_true rfl) dX12_two_40 (fun r4 H => ?_) ⟨Nat.zero_le _, Nat.zero_le _⟩
  refine r_lmul K dX12_two_43 ?_
  refine r_lsub K dX12_two_44 ?_
  cases H
  obtain ⟨rfl, rfl⟩ := jfin2 D
  exact r_lret K dX12_two_45
theorem c_X12_two (l : Launch) {n : Nat} {Y : jY} {v0 : Nat} {v1 : Int32} {v2 : Int32} {v3 : Int32} {v4 : Int32} {v5 : Int32} {v6 : Int32} {μ : jM} {z : Int64 × jM} (H : f_X12_two Y v0 v1 v2 v3 v4 v5 v6 μ = some z) : jC l yX12_two cX12_two 7 (some .long) 2 0 0 [.ref v0, .int v1, .int v2, .int v3, .int v4, .int v5, .int v6] n Y μ n Y (some (.long z.1)) z.2 := by
  refine jC_of (by decide +kernel) (Nat.le_of_ble_eq_true rfl) (fun X hl K _ _ _ => ?_)
  obtain ⟨rr, μr⟩ := z
  exact t_X12_two_0 K hl H rfl
/-! RX12 three(IIIII)J -/
def f_X12_three (Y : jY) (v0 : Nat) (v1 : Int32) (v2 : Int32) (v3 : Int32) (v4 : Int32) (v5 : Int32) (μ : jM) : Option (Int64 × jM) :=
  (jrcv Y v0 12 (f_X12_at Y v0 ((2 : Int32)) v1 v4 v5 μ)).bind fun r1 =>
  (jrcv Y v0 12 (f_X12_two Y v0 ((0 : Int32)) ((1 : Int32)) v2 v3 v4 v5 r1.2)).bind fun r2 =>
  (jrcv Y v0 12 (f_X12_at Y v0 ((2 : Int32)) v2 v4 v5 r2.2)).bind fun r3 =>
  (jrcv Y v0 12 (f_X12_two Y v0 ((0 : Int32)) ((1 : Int32)) v1 v3 v4 v5 r3.2)).bind fun r4 =>
  (jrcv Y v0 12 (f_X12_at Y v0 ((2 : Int32)) v3 v4 v5 r4.2)).bind fun r5 =>
  (jrcv Y v0 12 (f_X12_two Y v0 ((0 : Int32)) ((1 : Int32)) v1 v2 v4 v5 r5.2)).bind fun r6 =>
  some ((((((r1.1 * r2.1)) - ((r3.1 * r4.1)))) + ((r5.1 * r6.1))), r6.2)
set_option maxRecDepth 10000 in
theorem t_X12_three_0 {X : jX} {l : Launch} {n : Nat} {Y : jY} (K : jOK X RX12 cX12_three 6 (some .long) 3) (hl : X.2.1 = l) {rr : Int64} {μr : jM} {v0 : Nat} {v1 : Int32} {v2 : Int32} {v3 : Int32} {v4 : Int32} {v5 : Int32} {μ : jM} {z : (Int64 × jM)} (H : f_X12_three Y v0 v1 v2 v3 v4 v5 μ = some z) (D : z = (rr, μr)) : JW X (jEnd X n Y (some (.long rr)) μr 0 0) 0 0 n Y 0 [(0, .ref v0), (1, .int v1), (2, .int v2), (3, .int v3), (4, .int v4), (5, .int v5)] [] μ := by
  unfold f_X12_three at H
  refine r_aload_n K 0 dX12_three_0 rfl rfl ?_
  refine r_iconst (v := 2) K dX12_three_1 (by decide) ?_
  refine r_iload_n K 1 dX12_three_2 rfl rfl ?_
  refine r_iload K 4 dX12_three_3 rfl ?_
  refine r_iload K 5 dX12_three_5 rfl ?_
  refine w_callV K hl H (fun r h => c_X12_at l h) mC_yX12_at mM_RX12_161 mI_yX12_at mS_yX12_at mZ_RX12 vc12 (Nat.le_of_ble_eq_true rfl) (Nat.le_of_ble_eq_true rfl) np_yX12_at rfl (Nat.le_of_ble_eq_true rfl) dX12_three_7 (fun r1 H => ?_) ⟨Nat.zero_le _, Nat.zero_le _⟩
  refine r_aload_n K 0 dX12_three_10 rfl rfl ?_
  refine r_iconst (v := 0) K dX12_three_11 (by decide) ?_
  refine r_iconst (v := 1) K dX12_three_12 (by decide) ?_
  refine r_iload_n K 2 dX12_three_13 rfl rfl ?_
  refine r_iload_n K 3 dX12_three_14 rfl rfl ?_
  refine r_iload K 4 dX12_three_15 rfl ?_
  refine r_iload K 5 dX12_three_17 rfl ?_
  refine w_callV K hl H (fun r h => c_X12_two l h) mC_yX12_two mM_RX12_165 mI_yX12_two mS_yX12_two mZ_RX12 vc12 (Nat.le_of_ble_eq_true rfl) (Nat.le_of_ble_eq_true rfl) np_yX12_two rfl (Nat.le_of_ble_eq_true rfl) dX12_three_19 (fun r2 H => ?_) ⟨Nat.zero_le _, Nat.zero_le _⟩
  refine r_lmul K dX12_three_22 ?_
  refine r_aload_n K 0 dX12_three_23 rfl rfl ?_
  refine r_iconst (v := 2) K dX12_three_24 (by decide) ?_
  refine r_iload_n K 2 dX12_three_25 rfl rfl ?_
  refine r_iload K 4 dX12_three_26 rfl ?_
  refine r_iload K 5 dX12_three_28 rfl ?_
  refine w_callV K hl H (fun r h => c_X12_at l h) mC_yX12_at mM_RX12_161 mI_yX12_at mS_yX12_at mZ_RX12 vc12 (Nat.le_of_ble_eq_true rfl) (Nat.le_of_ble_eq_true rfl) np_yX12_at rfl (Nat.le_of_ble_eq_true rfl) dX12_three_30 (fun r3 H => ?_) ⟨Nat.zero_le _, Nat.zero_le _⟩
  refine r_aload_n K 0 dX12_three_33 rfl rfl ?_
  refine r_iconst (v := 0) K dX12_three_34 (by decide) ?_
  refine r_iconst (v := 1) K dX12_three_35 (by decide) ?_
  refine r_iload_n K 1 dX12_three_36 rfl rfl ?_
  refine r_iload_n K 3 dX12_three_37 rfl rfl ?_
  refine r_iload K 4 dX12_three_38 rfl ?_
  refine r_iload K 5 dX12_three_40 rfl ?_
  refine w_callV K hl H (fun r h => c_X12_two l h) mC_yX12_two mM_RX12_165 mI_yX12_two mS_yX12_two mZ_RX12 vc12 (Nat.le_of_ble_eq_true rfl) (Nat.le_of_ble_eq_true rfl) np_yX12_two rfl (Nat.le_of_ble_eq_true rfl) dX12_three_42 (fun r4 H => ?_) ⟨Nat.zero_le _, Nat.zero_le _⟩
  refine r_lmul K dX12_three_45 ?_
  refine r_lsub K dX12_three_46 ?_
  refine r_aload_n K 0 dX12_three_47 rfl rfl ?_
  refine r_iconst (v := 2) K dX12_three_48 (by decide) ?_
  refine r_iload_n K 3 dX12_three_49 rfl rfl ?_
  refine r_iload K 4 dX12_three_50 rfl ?_
  refine r_iload K 5 dX12_three_52 rfl ?_
  refine w_callV K hl H (fun r h => c_X12_at l h) mC_yX12_at mM_RX12_161 mI_yX12_at mS_yX12_at mZ_RX12 vc12 (Nat.le_of_ble_eq_true rfl) (Nat.le_of_ble_eq_true rfl) np_yX12_at rfl (Nat.le_of_ble_eq_true rfl) dX12_three_54 (fun r5 H => ?_) ⟨Nat.zero_le _, Nat.zero_le _⟩
  refine r_aload_n K 0 dX12_three_57 rfl rfl ?_
  refine r_iconst (v := 0) K dX12_three_58 (by decide) ?_
  refine r_iconst (v := 1) K dX12_three_59 (by decide) ?_
  refine r_iload_n K 1 dX12_three_60 rfl rfl ?_
  refine r_iload_n K 2 dX12_three_61 rfl rfl ?_
  refine r_iload K 4 dX12_three_62 rfl ?_
  refine r_iload K 5 dX12_three_64 rfl ?_
  refine w_callV K hl H (fun r h => c_X12_two l h) mC_yX12_two mM_RX12_165 mI_yX12_two mS_yX12_two mZ_RX12 vc12 (Nat.le_of_ble_eq_true rfl) (Nat.le_of_ble_eq_true rfl) np_yX12_two rfl (Nat.le_of_ble_eq_true rfl) dX12_three_66 (fun r6 H => ?_) ⟨Nat.zero_le _, Nat.zero_le _⟩
  refine r_lmul K dX12_three_69 ?_
  refine r_ladd K dX12_three_70 ?_
  cases H
  obtain ⟨rfl, rfl⟩ := jfin2 D
  exact r_lret K dX12_three_71
theorem c_X12_three (l : Launch) {n : Nat} {Y : jY} {v0 : Nat} {v1 : Int32} {v2 : Int32} {v3 : Int32} {v4 : Int32} {v5 : Int32} {μ : jM} {z : Int64 × jM} (H : f_X12_three Y v0 v1 v2 v3 v4 v5 μ = some z) : jC l yX12_three cX12_three 6 (some .long) 3 0 0 [.ref v0, .int v1, .int v2, .int v3, .int v4, .int v5] n Y μ n Y (some (.long z.1)) z.2 := by
  refine jC_of (by decide +kernel) (Nat.le_of_ble_eq_true rfl) (fun X hl K _ _ _ => ?_)
  obtain ⟨rr, μr⟩ := z
  exact t_X12_three_0 K hl H rfl
/-! RX12 minor(III)J -/
def b_X12_minor_131 (Y : jY) (v0 : Nat) (v2 : Int32) (v3 : Int32) (v6 : Int32) (t0 : Int64) (t1 : Int64) (μ : jM) : Option ((Int64 × Int32 × jM) ⊕ (Int64 × jM)) :=
  some (.inl ((t0 + t1), (v6 + (1 : Int32)), μ))
def b_X12_minor_105 (Y : jY) (v0 : Nat) (v2 : Int32) (v3 : Int32) (v4 : Int64) (v6 : Int32) (t0 : Int64) (t1 : Nat) (t2 : Int32) (t3 : Int32) (t4 : Int32) (μ : jM) : Option ((Int64 × Int32 × jM) ⊕ (Int64 × jM)) :=
  (jrcv Y t1 12 (f_X12_three Y t1 t2 t3 t4 v2 v3 μ)).bind fun r1 =>
  (jremI v6 ((2 : Int32))).bind fun x2 =>
  if x2 = ((1 : Int32)) then
    b_X12_minor_131 Y v0 v2 v3 v6 v4 (t0 * r1.1) r1.2
  else
    b_X12_minor_131 Y v0 v2 v3 v6 v4 (-((t0 * r1.1))) r1.2
def b_X12_minor_94 (Y : jY) (v0 : Nat) (v2 : Int32) (v3 : Int32) (v4 : Int64) (v6 : Int32) (t0 : Int64) (t1 : Nat) (t2 : Int32) (t3 : Int32) (μ : jM) : Option ((Int64 × Int32 × jM) ⊕ (Int64 × jM)) :=
  if ((3 : Int32)) ≤ v6 then
    b_X12_minor_105 Y v0 v2 v3 v4 v6 t0 t1 t2 t3 (2 : Int32) μ
  else
    b_X12_minor_105 Y v0 v2 v3 v4 v6 t0 t1 t2 t3 (3 : Int32) μ
def b_X12_minor_83 (Y : jY) (v0 : Nat) (v2 : Int32) (v3 : Int32) (v4 : Int64) (v6 : Int32) (t0 : Int64) (t1 : Nat) (t2 : Int32) (μ : jM) : Option ((Int64 × Int32 × jM) ⊕ (Int64 × jM)) :=
  if ((2 : Int32)) ≤ v6 then
    b_X12_minor_94 Y v0 v2 v3 v4 v6 t0 t1 t2 (1 : Int32) μ
  else
    b_X12_minor_94 Y v0 v2 v3 v4 v6 t0 t1 t2 (2 : Int32) μ
def b_X12_minor_57 (Y : jY) (v0 : Nat) (v2 : Int32) (v3 : Int32) (v4 : Int64) (v6 : Int32) (μ : jM) : Option ((Int64 × Int32 × jM) ⊕ (Int64 × jM)) :=
  if ((4 : Int32)) ≤ v6 then
    some (.inr (v4, μ))
  else
    (jrcv Y v0 12 (f_X12_at Y v0 ((3 : Int32)) v6 v2 v3 μ)).bind fun r1 =>
    if v6 = 0 then
      b_X12_minor_83 Y v0 v2 v3 v4 v6 r1.1 v0 (1 : Int32) r1.2
    else
      b_X12_minor_83 Y v0 v2 v3 v4 v6 r1.1 v0 (0 : Int32) r1.2
def f_X12_minor (Y : jY) (v0 : Nat) (v1 : Int32) (v2 : Int32) (v3 : Int32) (μ : jM) : Option (Int64 × jM) :=
  if v1 = 0 then
    some ((1 : Int64), μ)
  else
    if v1 = ((1 : Int32)) then
      (jrcv Y v0 12 (f_X12_at Y v0 ((0 : Int32)) ((0 : Int32)) v2 v3 μ)).bind fun r3 =>
      some (r3.1, r3.2)
    else
      if v1 = ((2 : Int32)) then
        (jrcv Y v0 12 (f_X12_two Y v0 ((0 : Int32)) ((1 : Int32)) ((0 : Int32)) ((1 : Int32)) v2 v3 μ)).bind fun r2 =>
        some (r2.1, r2.2)
      else
        if v1 = ((3 : Int32)) then
          (jrcv Y v0 12 (f_X12_three Y v0 ((0 : Int32)) ((1 : Int32)) ((2 : Int32)) v2 v3 μ)).bind fun r1 =>
          some (r1.1, r1.2)
        else
          jit jF (fun (s : Int64 × Int32 × jM) => b_X12_minor_57 Y v0 v2 v3 s.1 s.2.1 s.2.2) ((0 : Int64), (0 : Int32), μ)
set_option maxRecDepth 10000 in
theorem t_X12_minor_131 {X : jX} {l : Launch} {n : Nat} {Y : jY} (K : jOK X RX12 cX12_minor 9 (some .long) 4) (hl : X.2.1 = l) {rr : Int64} {μr : jM} {v0 : Nat} {v2 : Int32} {v3 : Int32} {v6 : Int32} {t0 : Int64} {t1 : Int64} {μ : jM} {z : ((Int64 × Int32 × jM) ⊕ (Int64 × jM))} (H : b_X12_minor_131 Y v0 v2 v3 v6 t0 t1 μ = some z) (D : Sum.elim (fun (s : Int64 × Int32 × jM) => JW X (jEnd X n Y (some (.long rr)) μr 0 0) 0 0 n Y 57 [(0, .ref v0), (2, .int v2), (3, .int v3), (4, .long s.1), (6, .int s.2.1)] [] s.2.2) (fun r => r = (rr, μr)) z) : JW X (jEnd X n Y (some (.long rr)) μr 0 0) 0 0 n Y 131 [(0, .ref v0), (2, .int v2), (3, .int v3), (6, .int v6)] [.long t1, .long t0] μ := by
  unfold b_X12_minor_131 at H
  refine r_ladd K dX12_minor_131 ?_
  refine r_lstore K [(4, .long _), (0, .ref _), (2, .int _), (3, .int _), (6, .int _)] dX12_minor_132 (by decide) rfl ?_
  refine r_iinc K 4 [(6, .int _), (4, .long _), (0, .ref _), (2, .int _), (3, .int _)] (v := _ + (1 : Int32)) dX12_minor_134 rfl rfl (by decide) rfl ?_
  refine r_goto K 57 dX12_minor_137 (by decide) ?_
  cases H
  exact r_sub [2, 3, 4, 1, 0] rfl D
set_option maxRecDepth 10000 in
theorem t_X12_minor_105 {X : jX} {l : Launch} {n : Nat} {Y : jY} (K : jOK X RX12 cX12_minor 9 (some .long) 4) (hl : X.2.1 = l) {rr : Int64} {μr : jM} {v0 : Nat} {v2 : Int32} {v3 : Int32} {v4 : Int64} {v6 : Int32} {t0 : Int64} {t1 : Nat} {t2 : Int32} {t3 : Int32} {t4 : Int32} {μ : jM} {z : ((Int64 × Int32 × jM) ⊕ (Int64 × jM))} (H : b_X12_minor_105 Y v0 v2 v3 v4 v6 t0 t1 t2 t3 t4 μ = some z) (D : Sum.elim (fun (s : Int64 × Int32 × jM) => JW X (jEnd X n Y (some (.long rr)) μr 0 0) 0 0 n Y 57 [(0, .ref v0), (2, .int v2), (3, .int v3), (4, .long s.1), (6, .int s.2.1)] [] s.2.2) (fun r => r = (rr, μr)) z) : JW X (jEnd X n Y (some (.long rr)) μr 0 0) 0 0 n Y 105 [(0, .ref v0), (2, .int v2), (3, .int v3), (4, .long v4), (6, .int v6)] [.int t4, .int t3, .int t2, .ref t1, .long t0] μ := by
  unfold b_X12_minor_105 at H
  refine r_iload_n K 1 dX12_minor_105 rfl rfl ?_
  refine r_iload_n K 2 dX12_minor_106 rfl rfl ?_
  refine w_callV K hl H (fun r h => c_X12_three l h) mC_yX12_three mM_RX12_169 mI_yX12_three mS_yX12_three mZ_RX12 vc12 (Nat.le_of_ble_eq_true rfl) (Nat.le_of_ble_eq_true rfl) np_yX12_three rfl (Nat.le_of_ble_eq_true rfl) dX12_minor_107 (fun r1 H => ?_) ⟨Nat.zero_le _, Nat.zero_le _⟩
  refine r_lmul K dX12_minor_110 ?_
  refine r_lstore K [(7, .long _), (0, .ref _), (2, .int _), (3, .int _), (4, .long _), (6, .int _)] dX12_minor_111 (by decide) rfl ?_
  refine r_lload K 4 dX12_minor_113 rfl ?_
  refine r_iload K 5 dX12_minor_115 rfl ?_
  refine r_iconst (v := 2) K dX12_minor_117 (by decide) ?_
  refine w_irem K dX12_minor_118 H (fun x2 H => ?_)
  refine r_iconst (v := 1) K dX12_minor_119 (by decide) ?_
  refine w_icmp_ne K 128 dX12_minor_120 (by decide) H (fun _ H => ?_) (fun _ H => ?_)
  · refine r_lload K 0 dX12_minor_128 rfl ?_
    refine r_lneg K dX12_minor_130 ?_
    exact r_sub [1, 2, 3, 5] rfl (t_X12_minor_131 K hl H D)
  · refine r_lload K 0 dX12_minor_123 rfl ?_
    refine r_goto K 131 dX12_minor_125 (by decide) ?_
    exact r_sub [1, 2, 3, 5] rfl (t_X12_minor_131 K hl H D)
set_option maxRecDepth 10000 in
theorem t_X12_minor_94 {X : jX} {l : Launch} {n : Nat} {Y : jY} (K : jOK X RX12 cX12_minor 9 (some .long) 4) (hl : X.2.1 = l) {rr : Int64} {μr : jM} {v0 : Nat} {v2 : Int32} {v3 : Int32} {v4 : Int64} {v6 : Int32} {t0 : Int64} {t1 : Nat} {t2 : Int32} {t3 : Int32} {μ : jM} {z : ((Int64 × Int32 × jM) ⊕ (Int64 × jM))} (H : b_X12_minor_94 Y v0 v2 v3 v4 v6 t0 t1 t2 t3 μ = some z) (D : Sum.elim (fun (s : Int64 × Int32 × jM) => JW X (jEnd X n Y (some (.long rr)) μr 0 0) 0 0 n Y 57 [(0, .ref v0), (2, .int v2), (3, .int v3), (4, .long s.1), (6, .int s.2.1)] [] s.2.2) (fun r => r = (rr, μr)) z) : JW X (jEnd X n Y (some (.long rr)) μr 0 0) 0 0 n Y 94 [(0, .ref v0), (2, .int v2), (3, .int v3), (4, .long v4), (6, .int v6)] [.int t3, .int t2, .ref t1, .long t0] μ := by
  unfold b_X12_minor_94 at H
  refine r_iload K 4 dX12_minor_94 rfl ?_
  refine r_iconst (v := 3) K dX12_minor_96 (by decide) ?_
  refine w_icmp_ge K 104 dX12_minor_97 (by decide) H (fun _ H => ?_) (fun _ H => ?_)
  · refine r_iconst (v := 2) K dX12_minor_104 (by decide) ?_
    exact r_sub [0, 1, 2, 3, 4] rfl (t_X12_minor_105 K hl H D)
  · refine r_iconst (v := 3) K dX12_minor_100 (by decide) ?_
    refine r_goto K 105 dX12_minor_101 (by decide) ?_
    exact r_sub [0, 1, 2, 3, 4] rfl (t_X12_minor_105 K hl H D)
set_option maxRecDepth 10000 in
theorem t_X12_minor_83 {X : jX} {l : Launch} {n : Nat} {Y : jY} (K : jOK X RX12 cX12_minor 9 (some .long) 4) (hl : X.2.1 = l) {rr : Int64} {μr : jM} {v0 : Nat} {v2 : Int32} {v3 : Int32} {v4 : Int64} {v6 : Int32} {t0 : Int64} {t1 : Nat} {t2 : Int32} {μ : jM} {z : ((Int64 × Int32 × jM) ⊕ (Int64 × jM))} (H : b_X12_minor_83 Y v0 v2 v3 v4 v6 t0 t1 t2 μ = some z) (D : Sum.elim (fun (s : Int64 × Int32 × jM) => JW X (jEnd X n Y (some (.long rr)) μr 0 0) 0 0 n Y 57 [(0, .ref v0), (2, .int v2), (3, .int v3), (4, .long s.1), (6, .int s.2.1)] [] s.2.2) (fun r => r = (rr, μr)) z) : JW X (jEnd X n Y (some (.long rr)) μr 0 0) 0 0 n Y 83 [(0, .ref v0), (2, .int v2), (3, .int v3), (4, .long v4), (6, .int v6)] [.int t2, .ref t1, .long t0] μ := by
  unfold b_X12_minor_83 at H
  refine r_iload K 4 dX12_minor_83 rfl ?_
  refine r_iconst (v := 2) K dX12_minor_85 (by decide) ?_
  refine w_icmp_ge K 93 dX12_minor_86 (by decide) H (fun _ H => ?_) (fun _ H => ?_)
  · refine r_iconst (v := 1) K dX12_minor_93 (by decide) ?_
    exact r_sub [0, 1, 2, 3, 4] rfl (t_X12_minor_94 K hl H D)
  · refine r_iconst (v := 2) K dX12_minor_89 (by decide) ?_
    refine r_goto K 94 dX12_minor_90 (by decide) ?_
    exact r_sub [0, 1, 2, 3, 4] rfl (t_X12_minor_94 K hl H D)
set_option maxRecDepth 10000 in
theorem t_X12_minor_57 {X : jX} {l : Launch} {n : Nat} {Y : jY} (K : jOK X RX12 cX12_minor 9 (some .long) 4) (hl : X.2.1 = l) {rr : Int64} {μr : jM} {v0 : Nat} {v2 : Int32} {v3 : Int32} {v4 : Int64} {v6 : Int32} {μ : jM} {z : ((Int64 × Int32 × jM) ⊕ (Int64 × jM))} (H : b_X12_minor_57 Y v0 v2 v3 v4 v6 μ = some z) (D : Sum.elim (fun (s : Int64 × Int32 × jM) => JW X (jEnd X n Y (some (.long rr)) μr 0 0) 0 0 n Y 57 [(0, .ref v0), (2, .int v2), (3, .int v3), (4, .long s.1), (6, .int s.2.1)] [] s.2.2) (fun r => r = (rr, μr)) z) : JW X (jEnd X n Y (some (.long rr)) μr 0 0) 0 0 n Y 57 [(0, .ref v0), (2, .int v2), (3, .int v3), (4, .long v4), (6, .int v6)] [] μ := by
  unfold b_X12_minor_57 at H
  refine r_iload K 4 dX12_minor_57 rfl ?_
  refine r_iconst (v := 4) K dX12_minor_59 (by decide) ?_
  refine w_icmp_ge K 140 dX12_minor_60 (by decide) H (fun _ H => ?_) (fun _ H => ?_)
  · refine r_lload K 3 dX12_minor_140 rfl ?_
    cases H
    simp only [Sum.elim_inr] at D
    obtain ⟨rfl, rfl⟩ := jfin2 D
    exact r_lret K dX12_minor_142
  · refine r_aload_n K 0 dX12_minor_63 rfl rfl ?_
    refine r_iconst (v := 3) K dX12_minor_64 (by decide) ?_
    refine r_iload K 4 dX12_minor_65 rfl ?_
    refine r_iload_n K 1 dX12_minor_67 rfl rfl ?_
    refine r_iload_n K 2 dX12_minor_68 rfl rfl ?_
    refine w_callV K hl H (fun r h => c_X12_at l h) mC_yX12_at mM_RX12_161 mI_yX12_at mS_yX12_at mZ_RX12 vc12 (Nat.le_of_ble_eq_true rfl) (Nat.le_of_ble_eq_true rfl) np_yX12_at rfl (Nat.le_of_ble_eq_true rfl) dX12_minor_69 (fun r1 H => ?_) ⟨Nat.zero_le _, Nat.zero_le _⟩
    refine r_aload_n K 0 dX12_minor_72 rfl rfl ?_
    refine r_iload K 4 dX12_minor_73 rfl ?_
    refine w_if_ne K 82 dX12_minor_75 (by decide) H (fun _ H => ?_) (fun _ H => ?_)
    · refine r_iconst (v := 0) K dX12_minor_82 (by decide) ?_
      exact r_sub [0, 1, 2, 3, 4] rfl (t_X12_minor_83 K hl H D)
    · refine r_iconst (v := 1) K dX12_minor_78 (by decide) ?_
      refine r_goto K 83 dX12_minor_79 (by decide) ?_
      exact r_sub [0, 1, 2, 3, 4] rfl (t_X12_minor_83 K hl H D)
set_option maxRecDepth 10000 in
theorem l_X12_minor_57 {X : jX} {l : Launch} {n : Nat} {Y : jY} (K : jOK X RX12 cX12_minor 9 (some .long) 4) (hl : X.2.1 = l) {rr : Int64} {μr : jM} {v0 : Nat} {v2 : Int32} {v3 : Int32}  {s0 : Int64 × Int32 × jM} {z : (Int64 × jM)} (H : jit jF (fun (s : Int64 × Int32 × jM) => b_X12_minor_57 Y v0 v2 v3 s.1 s.2.1 s.2.2) s0 = some z) (D : z = (rr, μr)) : JW X (jEnd X n Y (some (.long rr)) μr 0 0) 0 0 n Y 57 [(0, .ref v0), (2, .int v2), (3, .int v3), (4, .long s0.1), (6, .int s0.2.1)] [] s0.2.2 :=
  jit_ind (P := fun (s : Int64 × Int32 × jM) => JW X (jEnd X n Y (some (.long rr)) μr 0 0) 0 0 n Y 57 [(0, .ref v0), (2, .int v2), (3, .int v3), (4, .long s.1), (6, .int s.2.1)] [] s.2.2) (D := fun r => r = (rr, μr)) (fun s z Hs Ds => t_X12_minor_57 K hl Hs Ds) jF s0 z H D
set_option maxRecDepth 10000 in
theorem t_X12_minor_0 {X : jX} {l : Launch} {n : Nat} {Y : jY} (K : jOK X RX12 cX12_minor 9 (some .long) 4) (hl : X.2.1 = l) {rr : Int64} {μr : jM} {v0 : Nat} {v1 : Int32} {v2 : Int32} {v3 : Int32} {μ : jM} {z : (Int64 × jM)} (H : f_X12_minor Y v0 v1 v2 v3 μ = some z) (D : z = (rr, μr)) : JW X (jEnd X n Y (some (.long rr)) μr 0 0) 0 0 n Y 0 [(0, .ref v0), (1, .int v1), (2, .int v2), (3, .int v3)] [] μ := by
  unfold f_X12_minor at H
  refine r_iload_n K 1 dX12_minor_0 rfl rfl ?_
  refine w_if_ne K 6 dX12_minor_1 (by decide) H (fun _ H => ?_) (fun _ H => ?_)
  · refine r_iload_n K 1 dX12_minor_6 rfl rfl ?_
    refine r_iconst (v := 1) K dX12_minor_7 (by decide) ?_
    refine w_icmp_ne K 20 dX12_minor_8 (by decide) H (fun _ H => ?_) (fun _ H => ?_)
    · refine r_iload_n K 1 dX12_minor_20 rfl rfl ?_
      refine r_iconst (v := 2) K dX12_minor_21 (by decide) ?_
      refine w_icmp_ne K 36 dX12_minor_22 (by decide) H (fun _ H => ?_) (fun _ H => ?_)
      · refine r_iload_n K 1 dX12_minor_36 rfl rfl ?_
        refine r_iconst (v := 3) K dX12_minor_37 (by decide) ?_
        refine w_icmp_ne K 51 dX12_minor_38 (by decide) H (fun _ H => ?_) (fun _ H => ?_)
        · refine r_lconst (v := 0) K dX12_minor_51 (by decide) ?_
          refine r_lstore K [(4, .long _), (0, .ref _), (1, .int _), (2, .int _), (3, .int _)] dX12_minor_52 (by decide) rfl ?_
          refine r_iconst (v := 0) K dX12_minor_54 (by decide) ?_
          refine r_istore K [(6, .int _), (4, .long _), (0, .ref _), (1, .int _), (2, .int _), (3, .int _)] dX12_minor_55 (by decide) rfl ?_
          exact r_sub [2, 4, 5, 1, 0] rfl (l_X12_minor_57 K hl H D)
        · refine r_aload_n K 0 dX12_minor_41 rfl rfl ?_
          refine r_iconst (v := 0) K dX12_minor_42 (by decide) ?_
          refine r_iconst (v := 1) K dX12_minor_43 (by decide) ?_
          refine r_iconst (v := 2) K dX12_minor_44 (by decide) ?_
          refine r_iload_n K 2 dX12_minor_45 rfl rfl ?_
          refine r_iload_n K 3 dX12_minor_46 rfl rfl ?_
          refine w_callV K hl H (fun r h => c_X12_three l h) mC_yX12_three mM_RX12_169 mI_yX12_three mS_yX12_three mZ_RX12 vc12 (Nat.le_of_ble_eq_true rfl) (Nat.le_of_ble_eq_true rfl) np_yX12_three rfl (Nat.le_of_ble_eq_true rfl) dX12_minor_47 (fun r1 H => ?_) ⟨Nat.zero_le _, Nat.zero_le _⟩
          cases H
          obtain ⟨rfl, rfl⟩ := jfin2 D
          exact r_lret K dX12_minor_50
      · refine r_aload_n K 0 dX12_minor_25 rfl rfl ?_
        refine r_iconst (v := 0) K dX12_minor_26 (by decide) ?_
        refine r_iconst (v := 1) K dX12_minor_27 (by decide) ?_
        refine r_iconst (v := 0) K dX12_minor_28 (by decide) ?_
        refine r_iconst (v := 1) K dX12_minor_29 (by decide) ?_
        refine r_iload_n K 2 dX12_minor_30 rfl rfl ?_
        refine r_iload_n K 3 dX12_minor_31 rfl rfl ?_
        refine w_callV K hl H (fun r h => c_X12_two l h) mC_yX12_two mM_RX12_165 mI_yX12_two mS_yX12_two mZ_RX12 vc12 (Nat.le_of_ble_eq_true rfl) (Nat.le_of_ble_eq_true rfl) np_yX12_two rfl (Nat.le_of_ble_eq_true rfl) dX12_minor_32 (fun r2 H => ?_) ⟨Nat.zero_le _, Nat.zero_le _⟩
        cases H
        obtain ⟨rfl, rfl⟩ := jfin2 D
        exact r_lret K dX12_minor_35
    · refine r_aload_n K 0 dX12_minor_11 rfl rfl ?_
      refine r_iconst (v := 0) K dX12_minor_12 (by decide) ?_
      refine r_iconst (v := 0) K dX12_minor_13 (by decide) ?_
      refine r_iload_n K 2 dX12_minor_14 rfl rfl ?_
      refine r_iload_n K 3 dX12_minor_15 rfl rfl ?_
      refine w_callV K hl H (fun r h => c_X12_at l h) mC_yX12_at mM_RX12_161 mI_yX12_at mS_yX12_at mZ_RX12 vc12 (Nat.le_of_ble_eq_true rfl) (Nat.le_of_ble_eq_true rfl) np_yX12_at rfl (Nat.le_of_ble_eq_true rfl) dX12_minor_16 (fun r3 H => ?_) ⟨Nat.zero_le _, Nat.zero_le _⟩
      cases H
      obtain ⟨rfl, rfl⟩ := jfin2 D
      exact r_lret K dX12_minor_19
  · refine r_lconst (v := 1) K dX12_minor_4 (by decide) ?_
    cases H
    obtain ⟨rfl, rfl⟩ := jfin2 D
    exact r_lret K dX12_minor_5
theorem c_X12_minor (l : Launch) {n : Nat} {Y : jY} {v0 : Nat} {v1 : Int32} {v2 : Int32} {v3 : Int32} {μ : jM} {z : Int64 × jM} (H : f_X12_minor Y v0 v1 v2 v3 μ = some z) : jC l yX12_minor cX12_minor 9 (some .long) 4 0 0 [.ref v0, .int v1, .int v2, .int v3] n Y μ n Y (some (.long z.1)) z.2 := by
  refine jC_of (by decide +kernel) (Nat.le_of_ble_eq_true rfl) (fun X hl K _ _ _ => ?_)
  obtain ⟨rr, μr⟩ := z
  exact t_X12_minor_0 K hl H rfl
/-! RX12 hankel(I)J -/
def f_X12_hankel (Y : jY) (v0 : Nat) (v1 : Int32) (μ : jM) : Option (Int64 × jM) :=
  (jrcv Y v0 12 (f_X12_minor Y v0 v1 ((0 : Int32)) v1 μ)).bind fun r1 =>
  some (r1.1, r1.2)
set_option maxRecDepth 10000 in
theorem t_X12_hankel_0 {X : jX} {l : Launch} {n : Nat} {Y : jY} (K : jOK X RX12 cX12_hankel 2 (some .long) 5) (hl : X.2.1 = l) {rr : Int64} {μr : jM} {v0 : Nat} {v1 : Int32} {μ : jM} {z : (Int64 × jM)} (H : f_X12_hankel Y v0 v1 μ = some z) (D : z = (rr, μr)) : JW X (jEnd X n Y (some (.long rr)) μr 0 0) 0 0 n Y 0 [(0, .ref v0), (1, .int v1)] [] μ := by
  unfold f_X12_hankel at H
  refine r_aload_n K 0 dX12_hankel_0 rfl rfl ?_
  refine r_iload_n K 1 dX12_hankel_1 rfl rfl ?_
  refine r_iconst (v := 0) K dX12_hankel_2 (by decide) ?_
  refine r_iload_n K 1 dX12_hankel_3 rfl rfl ?_
  refine w_callV K hl H (fun r h => c_X12_minor l h) mC_yX12_minor mM_RX12_173 mI_yX12_minor mS_yX12_minor mZ_RX12 vc12 (Nat.le_of_ble_eq_true rfl) (Nat.le_of_ble_eq_true rfl) np_yX12_minor rfl (Nat.le_of_ble_eq_true rfl) dX12_hankel_4 (fun r1 H => ?_) ⟨Nat.zero_le _, Nat.zero_le _⟩
  cases H
  obtain ⟨rfl, rfl⟩ := jfin2 D
  exact r_lret K dX12_hankel_7
theorem c_X12_hankel (l : Launch) {n : Nat} {Y : jY} {v0 : Nat} {v1 : Int32} {μ : jM} {z : Int64 × jM} (H : f_X12_hankel Y v0 v1 μ = some z) : jC l yX12_hankel cX12_hankel 2 (some .long) 5 0 0 [.ref v0, .int v1] n Y μ n Y (some (.long z.1)) z.2 := by
  refine jC_of (by decide +kernel) (Nat.le_of_ble_eq_true rfl) (fun X hl K _ _ _ => ?_)
  obtain ⟨rr, μr⟩ := z
  exact t_X12_hankel_0 K hl H rfl
/-! RX12 begins(I)I -/
def f_X12_begins (Y : jY) (v0 : Nat) (v1 : Int32) (μ : jM) : Option (Int32 × jM) :=
  (jput Y μ v0 12 2 (.int ((0 : Int32)))).bind fun μ1 =>
  (jput Y μ1 v0 12 3 (.int v1)).bind fun μ2 =>
  (jput Y μ2 v0 12 1 (.int ((0 : Int32)))).bind fun μ3 =>
  some ((0 : Int32), μ3)
set_option maxRecDepth 10000 in
theorem t_X12_begins_0 {X : jX} {l : Launch} {n : Nat} {Y : jY} (K : jOK X RX12 cX12_begins 2 (some .int) 1) (hl : X.2.1 = l) {rr : Int32} {μr : jM} {v0 : Nat} {v1 : Int32} {μ : jM} {z : (Int32 × jM)} (H : f_X12_begins Y v0 v1 μ = some z) (D : z = (rr, μr)) : JW X (jEnd X n Y (some (.int rr)) μr 0 0) 0 0 n Y 0 [(0, .ref v0), (1, .int v1)] [] μ := by
  unfold f_X12_begins at H
  refine r_aload_n K 0 dX12_begins_0 rfl rfl ?_
  refine r_iconst (v := 0) K dX12_begins_1 (by decide) ?_
  refine w_put K vc12 inX12 tyX12_ok nmX12 2 (by decide) mF_RX12_104 rfl (fun _ => rfl) (fun _ => rfl) dX12_begins_2 H (fun μ1 H => ?_)
  refine r_aload_n K 0 dX12_begins_5 rfl rfl ?_
  refine r_iload_n K 1 dX12_begins_6 rfl rfl ?_
  refine w_put K vc12 inX12 tyX12_ok nmX12 3 (by decide) mF_RX12_101 rfl (fun _ => rfl) (fun _ => rfl) dX12_begins_7 H (fun μ2 H => ?_)
  refine r_aload_n K 0 dX12_begins_10 rfl rfl ?_
  refine r_iconst (v := 0) K dX12_begins_11 (by decide) ?_
  refine w_put K vc12 inX12 tyX12_ok nmX12 1 (by decide) mF_RX12_93 rfl (fun _ => rfl) (fun _ => rfl) dX12_begins_12 H (fun μ3 H => ?_)
  refine r_iconst (v := 0) K dX12_begins_15 (by decide) ?_
  cases H
  obtain ⟨rfl, rfl⟩ := jfin2 D
  exact r_iret K dX12_begins_16
theorem c_X12_begins (l : Launch) {n : Nat} {Y : jY} {v0 : Nat} {v1 : Int32} {μ : jM} {z : Int32 × jM} (H : f_X12_begins Y v0 v1 μ = some z) : jC l yX12_begins cX12_begins 2 (some .int) 1 0 0 [.ref v0, .int v1] n Y μ n Y (some (.int z.1)) z.2 := by
  refine jC_of (by decide +kernel) (Nat.le_of_ble_eq_true rfl) (fun X hl K _ _ _ => ?_)
  obtain ⟨rr, μr⟩ := z
  exact t_X12_begins_0 K hl H rfl
/-! RX12 heard(I)I -/
def b_X12_heard_54 (Y : jY) (μ : jM) : Option (Int32 × jM) :=
  some ((-3 : Int32), μ)
def b_X12_heard_141 (Y : jY) (μ : jM) : Option (Int32 × jM) :=
  some ((-3 : Int32), μ)
def b_X12_heard_176 (Y : jY) (v0 : Nat) (v2 : Int32) (v3 : Int32) (μ : jM) : Option ((Int32 × jM) ⊕ (Int32 × jM)) :=
  if ((v2 - ((1 : Int32)))) ≤ v3 then
    some (.inr (v2, μ))
  else
    (jgO Y μ v0 12 12).bind fun x1 =>
    (jgO Y μ v0 12 7).bind fun x2 =>
    (jaI Y μ x2 20 v3).bind fun x3 =>
    (jas Y μ x1 20 v3 (.int x3)).bind fun μ4 =>
    some (.inl ((v3 + (1 : Int32)), μ4))
def b_X12_heard_151 (Y : jY) (v0 : Nat) (v2 : Int32) (v3 : Int32) (μ : jM) : Option ((Int32 × jM) ⊕ (Int32 × jM)) :=
  if v2 ≤ v3 then
    (jit jF (fun (s : Int32 × jM) => b_X12_heard_176 Y v0 v2 s.1 s.2) ((0 : Int32), μ)).map (fun r => (.inr r))
  else
    (jgO Y μ v0 12 11).bind fun x1 =>
    (jgO Y μ v0 12 6).bind fun x2 =>
    (jaI Y μ x2 20 v3).bind fun x3 =>
    (jas Y μ x1 20 v3 (.int x3)).bind fun μ4 =>
    some (.inl ((v3 + (1 : Int32)), μ4))
def b_X12_heard_87 (Y : jY) (v0 : Nat) (v1 : Int32) (v2 : Int32) (v3 : Int32) (μ : jM) : Option ((Int32 × jM) ⊕ (Int32 × jM)) :=
  if ((v2 - ((1 : Int32)))) ≤ v3 then
    (jgO Y μ v0 12 6).bind fun x1 =>
    (jaI Y μ x1 20 ((0 : Int32))).bind fun x2 =>
    if x2 < ((-6 : Int32)) then
      (b_X12_heard_141 Y μ).map (fun r => (.inr r))
    else
      (jgO Y μ v0 12 6).bind fun x3 =>
      (jaI Y μ x3 20 ((v2 - ((1 : Int32))))).bind fun x4 =>
      if x4 ≤ ((6 : Int32)) then
        (jput Y μ v0 12 10 (.int v2)).bind fun μ5 =>
        (jit jF (fun (s : Int32 × jM) => b_X12_heard_151 Y v0 v2 s.1 s.2) ((0 : Int32), μ5)).map (fun r => (.inr r))
      else
        (b_X12_heard_141 Y μ).map (fun r => (.inr r))
  else
    (jgO Y μ v0 12 7).bind fun x6 =>
    (jrcv Y v0 12 (f_X12_rootOf Y v0 v1 ((1 : Int32)) ((v2 - ((1 : Int32)))) v3 ((1 : Int32)) μ)).bind fun r7 =>
    (jas Y r7.2 x6 20 v3 (.int r7.1)).bind fun μ8 =>
    some (.inl ((v3 + (1 : Int32)), μ8))
def b_X12_heard_59 (Y : jY) (v0 : Nat) (v1 : Int32) (v2 : Int32) (v3 : Int32) (μ : jM) : Option ((Int32 × jM) ⊕ (Int32 × jM)) :=
  if v2 ≤ v3 then
    (jit jF (fun (s : Int32 × jM) => b_X12_heard_87 Y v0 v1 v2 s.1 s.2) ((0 : Int32), μ)).map (fun r => (.inr r))
  else
    (jgO Y μ v0 12 6).bind fun x1 =>
    (jrcv Y v0 12 (f_X12_rootOf Y v0 v1 ((0 : Int32)) v2 v3 ((1 : Int32)) μ)).bind fun r2 =>
    (jas Y r2.2 x1 20 v3 (.int r2.1)).bind fun μ3 =>
    some (.inl ((v3 + (1 : Int32)), μ3))
def f_X12_heard (Y : jY) (v0 : Nat) (v1 : Int32) (μ : jM) : Option (Int32 × jM) :=
  (f_X12_isDrawer Y v1 μ).bind fun r1 =>
  if r1.1 = 0 then
    some ((-1 : Int32), r1.2)
  else
    (jgO Y r1.2 v0 12 26).bind fun x2 =>
    (jaI Y r1.2 x2 20 v1).bind fun x3 =>
    if x3 = 0 then
      some ((-2 : Int32), r1.2)
    else
      if ((4 : Int32)) < x3 then
        b_X12_heard_54 Y r1.2
      else
        (jrcv Y v0 12 (f_X12_wholeOf Y v0 v1 ((0 : Int32)) x3 r1.2)).bind fun r4 =>
        if r4.1 < x3 then
          b_X12_heard_54 Y r4.2
        else
          (jrcv Y v0 12 (f_X12_wholeOf Y v0 v1 ((1 : Int32)) ((x3 - ((1 : Int32)))) r4.2)).bind fun r5 =>
          if ((x3 - ((1 : Int32)))) ≤ r5.1 then
            jit jF (fun (s : Int32 × jM) => b_X12_heard_59 Y v0 v1 x3 s.1 s.2) ((0 : Int32), r5.2)
          else
            b_X12_heard_54 Y r5.2
set_option maxRecDepth 10000 in
theorem t_X12_heard_54 {X : jX} {l : Launch} {n : Nat} {Y : jY} (K : jOK X RX12 cX12_heard 4 (some .int) 4) (hl : X.2.1 = l) {rr : Int32} {μr : jM} {μ : jM} {z : (Int32 × jM)} (H : b_X12_heard_54 Y μ = some z) (D : z = (rr, μr)) : JW X (jEnd X n Y (some (.int rr)) μr 0 0) 0 0 n Y 54 [] [] μ := by
  unfold b_X12_heard_54 at H
  refine r_bipush (v := -3) K dX12_heard_54 (by decide) ?_
  cases H
  obtain ⟨rfl, rfl⟩ := jfin2 D
  exact r_iret K dX12_heard_56
set_option maxRecDepth 10000 in
theorem t_X12_heard_141 {X : jX} {l : Launch} {n : Nat} {Y : jY} (K : jOK X RX12 cX12_heard 4 (some .int) 4) (hl : X.2.1 = l) {rr : Int32} {μr : jM} {μ : jM} {z : (Int32 × jM)} (H : b_X12_heard_141 Y μ = some z) (D : z = (rr, μr)) : JW X (jEnd X n Y (some (.int rr)) μr 0 0) 0 0 n Y 141 [] [] μ := by
  unfold b_X12_heard_141 at H
  refine r_bipush (v := -3) K dX12_heard_141 (by decide) ?_
  cases H
  obtain ⟨rfl, rfl⟩ := jfin2 D
  exact r_iret K dX12_heard_143
set_option maxRecDepth 10000 in
theorem t_X12_heard_176 {X : jX} {l : Launch} {n : Nat} {Y : jY} (K : jOK X RX12 cX12_heard 4 (some .int) 4) (hl : X.2.1 = l) {rr : Int32} {μr : jM} {v0 : Nat} {v2 : Int32} {v3 : Int32} {μ : jM} {z : ((Int32 × jM) ⊕ (Int32 × jM))} (H : b_X12_heard_176 Y v0 v2 v3 μ = some z) (D : Sum.elim (fun (s : Int32 × jM) => JW X (jEnd X n Y (some (.int rr)) μr 0 0) 0 0 n Y 176 [(0, .ref v0), (2, .int v2), (3, .int s.1)] [] s.2) (fun r => r = (rr, μr)) z) : JW X (jEnd X n Y (some (.int rr)) μr 0 0) 0 0 n Y 176 [(0, .ref v0), (2, .int v2), (3, .int v3)] [] μ := by
  unfold b_X12_heard_176 at H
  refine r_iload_n K 2 dX12_heard_176 rfl rfl ?_
  refine r_iload_n K 1 dX12_heard_177 rfl rfl ?_
  refine r_iconst (v := 1) K dX12_heard_178 (by decide) ?_
  refine r_isub K dX12_heard_179 ?_
  refine w_icmp_ge K 201 dX12_heard_180 (by decide) H (fun _ H => ?_) (fun _ H => ?_)
  · refine r_iload_n K 1 dX12_heard_201 rfl rfl ?_
    cases H
    simp only [Sum.elim_inr] at D
    obtain ⟨rfl, rfl⟩ := jfin2 D
    exact r_iret K dX12_heard_202
  · refine r_aload_n K 0 dX12_heard_183 rfl rfl ?_
    refine w_getO K vc12 inX12 12 (by decide) mF_RX12_23 dX12_heard_184 H (fun x1 H => ?_)
    refine r_iload_n K 2 dX12_heard_187 rfl rfl ?_
    refine r_aload_n K 0 dX12_heard_188 rfl rfl ?_
    refine w_getO K vc12 inX12 7 (by decide) mF_RX12_17 dX12_heard_189 H (fun x2 H => ?_)
    refine r_iload_n K 2 dX12_heard_192 rfl rfl ?_
    refine w_iald K dX12_heard_193 H (fun x3 H => ?_)
    refine w_iast K dX12_heard_194 H (fun μ4 H => ?_)
    refine r_iinc K 2 [(3, .int _), (0, .ref _), (2, .int _)] (v := _ + (1 : Int32)) dX12_heard_195 rfl rfl (by decide) rfl ?_
    refine r_goto K 176 dX12_heard_198 (by decide) ?_
    cases H
    exact r_sub [1, 2, 0] rfl D
set_option maxRecDepth 10000 in
theorem l_X12_heard_176 {X : jX} {l : Launch} {n : Nat} {Y : jY} (K : jOK X RX12 cX12_heard 4 (some .int) 4) (hl : X.2.1 = l) {rr : Int32} {μr : jM} {v0 : Nat} {v2 : Int32}  {s0 : Int32 × jM} {z : (Int32 × jM)} (H : jit jF (fun (s : Int32 × jM) => b_X12_heard_176 Y v0 v2 s.1 s.2) s0 = some z) (D : z = (rr, μr)) : JW X (jEnd X n Y (some (.int rr)) μr 0 0) 0 0 n Y 176 [(0, .ref v0), (2, .int v2), (3, .int s0.1)] [] s0.2 :=
  jit_ind (P := fun (s : Int32 × jM) => JW X (jEnd X n Y (some (.int rr)) μr 0 0) 0 0 n Y 176 [(0, .ref v0), (2, .int v2), (3, .int s.1)] [] s.2) (D := fun r => r = (rr, μr)) (fun s z Hs Ds => t_X12_heard_176 K hl Hs Ds) jF s0 z H D
set_option maxRecDepth 10000 in
theorem t_X12_heard_151 {X : jX} {l : Launch} {n : Nat} {Y : jY} (K : jOK X RX12 cX12_heard 4 (some .int) 4) (hl : X.2.1 = l) {rr : Int32} {μr : jM} {v0 : Nat} {v2 : Int32} {v3 : Int32} {μ : jM} {z : ((Int32 × jM) ⊕ (Int32 × jM))} (H : b_X12_heard_151 Y v0 v2 v3 μ = some z) (D : Sum.elim (fun (s : Int32 × jM) => JW X (jEnd X n Y (some (.int rr)) μr 0 0) 0 0 n Y 151 [(0, .ref v0), (2, .int v2), (3, .int s.1)] [] s.2) (fun r => r = (rr, μr)) z) : JW X (jEnd X n Y (some (.int rr)) μr 0 0) 0 0 n Y 151 [(0, .ref v0), (2, .int v2), (3, .int v3)] [] μ := by
  unfold b_X12_heard_151 at H
  refine r_iload_n K 2 dX12_heard_151 rfl rfl ?_
  refine r_iload_n K 1 dX12_heard_152 rfl rfl ?_
  refine w_icmp_ge K 174 dX12_heard_153 (by decide) H (fun _ H => ?_) (fun _ H => ?_)
  · refine r_iconst (v := 0) K dX12_heard_174 (by decide) ?_
    refine r_istore_n K [(3, .int _), (0, .ref _), (2, .int _)] dX12_heard_175 rfl (by decide) rfl ?_
    obtain ⟨z2, H2, rfl⟩ := jmap H
    exact r_sub [1, 2, 0] rfl (l_X12_heard_176 K hl H2 D)
  · refine r_aload_n K 0 dX12_heard_156 rfl rfl ?_
    refine w_getO K vc12 inX12 11 (by decide) mF_RX12_20 dX12_heard_157 H (fun x1 H => ?_)
    refine r_iload_n K 2 dX12_heard_160 rfl rfl ?_
    refine r_aload_n K 0 dX12_heard_161 rfl rfl ?_
    refine w_getO K vc12 inX12 6 (by decide) mF_RX12_13 dX12_heard_162 H (fun x2 H => ?_)
    refine r_iload_n K 2 dX12_heard_165 rfl rfl ?_
    refine w_iald K dX12_heard_166 H (fun x3 H => ?_)
    refine w_iast K dX12_heard_167 H (fun μ4 H => ?_)
    refine r_iinc K 2 [(3, .int _), (0, .ref _), (2, .int _)] (v := _ + (1 : Int32)) dX12_heard_168 rfl rfl (by decide) rfl ?_
    refine r_goto K 151 dX12_heard_171 (by decide) ?_
    cases H
    exact r_sub [1, 2, 0] rfl D
set_option maxRecDepth 10000 in
theorem l_X12_heard_151 {X : jX} {l : Launch} {n : Nat} {Y : jY} (K : jOK X RX12 cX12_heard 4 (some .int) 4) (hl : X.2.1 = l) {rr : Int32} {μr : jM} {v0 : Nat} {v2 : Int32}  {s0 : Int32 × jM} {z : (Int32 × jM)} (H : jit jF (fun (s : Int32 × jM) => b_X12_heard_151 Y v0 v2 s.1 s.2) s0 = some z) (D : z = (rr, μr)) : JW X (jEnd X n Y (some (.int rr)) μr 0 0) 0 0 n Y 151 [(0, .ref v0), (2, .int v2), (3, .int s0.1)] [] s0.2 :=
  jit_ind (P := fun (s : Int32 × jM) => JW X (jEnd X n Y (some (.int rr)) μr 0 0) 0 0 n Y 151 [(0, .ref v0), (2, .int v2), (3, .int s.1)] [] s.2) (D := fun r => r = (rr, μr)) (fun s z Hs Ds => t_X12_heard_151 K hl Hs Ds) jF s0 z H D
set_option maxRecDepth 10000 in
theorem t_X12_heard_87 {X : jX} {l : Launch} {n : Nat} {Y : jY} (K : jOK X RX12 cX12_heard 4 (some .int) 4) (hl : X.2.1 = l) {rr : Int32} {μr : jM} {v0 : Nat} {v1 : Int32} {v2 : Int32} {v3 : Int32} {μ : jM} {z : ((Int32 × jM) ⊕ (Int32 × jM))} (H : b_X12_heard_87 Y v0 v1 v2 v3 μ = some z) (D : Sum.elim (fun (s : Int32 × jM) => JW X (jEnd X n Y (some (.int rr)) μr 0 0) 0 0 n Y 87 [(0, .ref v0), (1, .int v1), (2, .int v2), (3, .int s.1)] [] s.2) (fun r => r = (rr, μr)) z) : JW X (jEnd X n Y (some (.int rr)) μr 0 0) 0 0 n Y 87 [(0, .ref v0), (1, .int v1), (2, .int v2), (3, .int v3)] [] μ := by
  unfold b_X12_heard_87 at H
  refine r_iload_n K 3 dX12_heard_87 rfl rfl ?_
  refine r_iload_n K 2 dX12_heard_88 rfl rfl ?_
  refine r_iconst (v := 1) K dX12_heard_89 (by decide) ?_
  refine r_isub K dX12_heard_90 ?_
  refine w_icmp_ge K 117 dX12_heard_91 (by decide) H (fun _ H => ?_) (fun _ H => ?_)
  · refine r_aload_n K 0 dX12_heard_117 rfl rfl ?_
    refine w_getO K vc12 inX12 6 (by decide) mF_RX12_13 dX12_heard_118 H (fun x1 H => ?_)
    refine r_iconst (v := 0) K dX12_heard_121 (by decide) ?_
    refine w_iald K dX12_heard_122 H (fun x2 H => ?_)
    refine r_bipush (v := -6) K dX12_heard_123 (by decide) ?_
    refine w_icmp_lt K 141 dX12_heard_125 (by decide) H (fun _ H => ?_) (fun _ H => ?_)
    · obtain ⟨z2, H2, rfl⟩ := jmap H
      exact r_sub [] rfl (t_X12_heard_141 K hl H2 D)
    · refine r_aload_n K 0 dX12_heard_128 rfl rfl ?_
      refine w_getO K vc12 inX12 6 (by decide) mF_RX12_13 dX12_heard_129 H (fun x3 H => ?_)
      refine r_iload_n K 2 dX12_heard_132 rfl rfl ?_
      refine r_iconst (v := 1) K dX12_heard_133 (by decide) ?_
      refine r_isub K dX12_heard_134 ?_
      refine w_iald K dX12_heard_135 H (fun x4 H => ?_)
      refine r_bipush (v := 6) K dX12_heard_136 (by decide) ?_
      refine w_icmp_le K 144 dX12_heard_138 (by decide) H (fun _ H => ?_) (fun _ H => ?_)
      · refine r_aload_n K 0 dX12_heard_144 rfl rfl ?_
        refine r_iload_n K 2 dX12_heard_145 rfl rfl ?_
        refine w_put K vc12 inX12 tyX12_ok nmX12 10 (by decide) mF_RX12_145 rfl (fun _ => rfl) (fun _ => rfl) dX12_heard_146 H (fun μ5 H => ?_)
        refine r_iconst (v := 0) K dX12_heard_149 (by decide) ?_
        refine r_istore_n K [(3, .int _), (0, .ref _), (1, .int _), (2, .int _)] dX12_heard_150 rfl (by decide) rfl ?_
        obtain ⟨z2, H2, rfl⟩ := jmap H
        exact r_sub [1, 3, 0] rfl (l_X12_heard_151 K hl H2 D)
      · obtain ⟨z2, H2, rfl⟩ := jmap H
        exact r_sub [] rfl (t_X12_heard_141 K hl H2 D)
  · refine r_aload_n K 0 dX12_heard_94 rfl rfl ?_
    refine w_getO K vc12 inX12 7 (by decide) mF_RX12_17 dX12_heard_95 H (fun x6 H => ?_)
    refine r_iload_n K 3 dX12_heard_98 rfl rfl ?_
    refine r_aload_n K 0 dX12_heard_99 rfl rfl ?_
    refine r_iload_n K 1 dX12_heard_100 rfl rfl ?_
    refine r_iconst (v := 1) K dX12_heard_101 (by decide) ?_
    refine r_iload_n K 2 dX12_heard_102 rfl rfl ?_
    refine r_iconst (v := 1) K dX12_heard_103 (by decide) ?_
    refine r_isub K dX12_heard_104 ?_
    refine r_iload_n K 3 dX12_heard_105 rfl rfl ?_
    refine r_iconst (v := 1) K dX12_heard_106 (by decide) ?_
    refine w_callV K hl H (fun r h => c_X12_rootOf l h) mC_yX12_rootOf mM_RX12_289 mI_yX12_rootOf mS_yX12_rootOf mZ_RX12 vc12 (Nat.le_of_ble_eq_true rfl) (Nat.le_of_ble_eq_true rfl) np_yX12_rootOf rfl (Nat.le_of_ble_eq_true rfl) dX12_heard_107 (fun r7 H => ?_) ⟨Nat.zero_le _, Nat.zero_le _⟩
    refine w_iast K dX12_heard_110 H (fun μ8 H => ?_)
    refine r_iinc K 3 [(3, .int _), (0, .ref _), (1, .int _), (2, .int _)] (v := _ + (1 : Int32)) dX12_heard_111 rfl rfl (by decide) rfl ?_
    refine r_goto K 87 dX12_heard_114 (by decide) ?_
    cases H
    exact r_sub [1, 2, 3, 0] rfl D
set_option maxRecDepth 10000 in
theorem l_X12_heard_87 {X : jX} {l : Launch} {n : Nat} {Y : jY} (K : jOK X RX12 cX12_heard 4 (some .int) 4) (hl : X.2.1 = l) {rr : Int32} {μr : jM} {v0 : Nat} {v1 : Int32} {v2 : Int32}  {s0 : Int32 × jM} {z : (Int32 × jM)} (H : jit jF (fun (s : Int32 × jM) => b_X12_heard_87 Y v0 v1 v2 s.1 s.2) s0 = some z) (D : z = (rr, μr)) : JW X (jEnd X n Y (some (.int rr)) μr 0 0) 0 0 n Y 87 [(0, .ref v0), (1, .int v1), (2, .int v2), (3, .int s0.1)] [] s0.2 :=
  jit_ind (P := fun (s : Int32 × jM) => JW X (jEnd X n Y (some (.int rr)) μr 0 0) 0 0 n Y 87 [(0, .ref v0), (1, .int v1), (2, .int v2), (3, .int s.1)] [] s.2) (D := fun r => r = (rr, μr)) (fun s z Hs Ds => t_X12_heard_87 K hl Hs Ds) jF s0 z H D
set_option maxRecDepth 10000 in
theorem t_X12_heard_59 {X : jX} {l : Launch} {n : Nat} {Y : jY} (K : jOK X RX12 cX12_heard 4 (some .int) 4) (hl : X.2.1 = l) {rr : Int32} {μr : jM} {v0 : Nat} {v1 : Int32} {v2 : Int32} {v3 : Int32} {μ : jM} {z : ((Int32 × jM) ⊕ (Int32 × jM))} (H : b_X12_heard_59 Y v0 v1 v2 v3 μ = some z) (D : Sum.elim (fun (s : Int32 × jM) => JW X (jEnd X n Y (some (.int rr)) μr 0 0) 0 0 n Y 59 [(0, .ref v0), (1, .int v1), (2, .int v2), (3, .int s.1)] [] s.2) (fun r => r = (rr, μr)) z) : JW X (jEnd X n Y (some (.int rr)) μr 0 0) 0 0 n Y 59 [(0, .ref v0), (1, .int v1), (2, .int v2), (3, .int v3)] [] μ := by
  unfold b_X12_heard_59 at H
  refine r_iload_n K 3 dX12_heard_59 rfl rfl ?_
  refine r_iload_n K 2 dX12_heard_60 rfl rfl ?_
  refine w_icmp_ge K 85 dX12_heard_61 (by decide) H (fun _ H => ?_) (fun _ H => ?_)
  · refine r_iconst (v := 0) K dX12_heard_85 (by decide) ?_
    refine r_istore_n K [(3, .int _), (0, .ref _), (1, .int _), (2, .int _)] dX12_heard_86 rfl (by decide) rfl ?_
    obtain ⟨z2, H2, rfl⟩ := jmap H
    exact r_sub [1, 2, 3, 0] rfl (l_X12_heard_87 K hl H2 D)
  · refine r_aload_n K 0 dX12_heard_64 rfl rfl ?_
    refine w_getO K vc12 inX12 6 (by decide) mF_RX12_13 dX12_heard_65 H (fun x1 H => ?_)
    refine r_iload_n K 3 dX12_heard_68 rfl rfl ?_
    refine r_aload_n K 0 dX12_heard_69 rfl rfl ?_
    refine r_iload_n K 1 dX12_heard_70 rfl rfl ?_
    refine r_iconst (v := 0) K dX12_heard_71 (by decide) ?_
    refine r_iload_n K 2 dX12_heard_72 rfl rfl ?_
    refine r_iload_n K 3 dX12_heard_73 rfl rfl ?_
    refine r_iconst (v := 1) K dX12_heard_74 (by decide) ?_
    refine w_callV K hl H (fun r h => c_X12_rootOf l h) mC_yX12_rootOf mM_RX12_289 mI_yX12_rootOf mS_yX12_rootOf mZ_RX12 vc12 (Nat.le_of_ble_eq_true rfl) (Nat.le_of_ble_eq_true rfl) np_yX12_rootOf rfl (Nat.le_of_ble_eq_true rfl) dX12_heard_75 (fun r2 H => ?_) ⟨Nat.zero_le _, Nat.zero_le _⟩
    refine w_iast K dX12_heard_78 H (fun μ3 H => ?_)
    refine r_iinc K 3 [(3, .int _), (0, .ref _), (1, .int _), (2, .int _)] (v := _ + (1 : Int32)) dX12_heard_79 rfl rfl (by decide) rfl ?_
    refine r_goto K 59 dX12_heard_82 (by decide) ?_
    cases H
    exact r_sub [1, 2, 3, 0] rfl D
set_option maxRecDepth 10000 in
theorem l_X12_heard_59 {X : jX} {l : Launch} {n : Nat} {Y : jY} (K : jOK X RX12 cX12_heard 4 (some .int) 4) (hl : X.2.1 = l) {rr : Int32} {μr : jM} {v0 : Nat} {v1 : Int32} {v2 : Int32}  {s0 : Int32 × jM} {z : (Int32 × jM)} (H : jit jF (fun (s : Int32 × jM) => b_X12_heard_59 Y v0 v1 v2 s.1 s.2) s0 = some z) (D : z = (rr, μr)) : JW X (jEnd X n Y (some (.int rr)) μr 0 0) 0 0 n Y 59 [(0, .ref v0), (1, .int v1), (2, .int v2), (3, .int s0.1)] [] s0.2 :=
  jit_ind (P := fun (s : Int32 × jM) => JW X (jEnd X n Y (some (.int rr)) μr 0 0) 0 0 n Y 59 [(0, .ref v0), (1, .int v1), (2, .int v2), (3, .int s.1)] [] s.2) (D := fun r => r = (rr, μr)) (fun s z Hs Ds => t_X12_heard_59 K hl Hs Ds) jF s0 z H D
set_option maxRecDepth 10000 in
theorem t_X12_heard_0 {X : jX} {l : Launch} {n : Nat} {Y : jY} (K : jOK X RX12 cX12_heard 4 (some .int) 4) (hl : X.2.1 = l) {rr : Int32} {μr : jM} {v0 : Nat} {v1 : Int32} {μ : jM} {z : (Int32 × jM)} (H : f_X12_heard Y v0 v1 μ = some z) (D : z = (rr, μr)) : JW X (jEnd X n Y (some (.int rr)) μr 0 0) 0 0 n Y 0 [(0, .ref v0), (1, .int v1)] [] μ := by
  unfold f_X12_heard at H
  refine r_iload_n K 1 dX12_heard_0 rfl rfl ?_
  refine w_callS K hl H (fun r h => c_X12_isDrawer l h) mC_yX12_isDrawer mM_RX12_253 mT_yX12_isDrawer mZ_RX12 (Nat.le_of_ble_eq_true rfl) (Nat.le_of_ble_eq_true rfl) np_yX12_isDrawer rfl (Nat.le_of_ble_eq_true rfl) dX12_heard_1 (fun r1 H => ?_) ⟨Nat.zero_le _, Nat.zero_le _⟩
  refine w_if_ne K 9 dX12_heard_4 (by decide) H (fun _ H => ?_) (fun _ H => ?_)
  · refine r_aload_n K 0 dX12_heard_9 rfl rfl ?_
    refine w_getO K vc12 inX12 26 (by decide) mF_RX12_48 dX12_heard_10 H (fun x2 H => ?_)
    refine r_iload_n K 1 dX12_heard_13 rfl rfl ?_
    refine w_iald K dX12_heard_14 H (fun x3 H => ?_)
    refine r_istore_n K [(2, .int _), (0, .ref _), (1, .int _)] dX12_heard_15 rfl (by decide) rfl ?_
    refine r_iload_n K 0 dX12_heard_16 rfl rfl ?_
    refine w_if_ne K 23 dX12_heard_17 (by decide) H (fun _ H => ?_) (fun _ H => ?_)
    · refine r_iload_n K 0 dX12_heard_23 rfl rfl ?_
      refine r_iconst (v := 4) K dX12_heard_24 (by decide) ?_
      refine w_icmp_gt K 54 dX12_heard_25 (by decide) H (fun _ H => ?_) (fun _ H => ?_)
      · exact r_sub [] rfl (t_X12_heard_54 K hl H D)
      · refine r_aload_n K 1 dX12_heard_28 rfl rfl ?_
        refine r_iload_n K 2 dX12_heard_29 rfl rfl ?_
        refine r_iconst (v := 0) K dX12_heard_30 (by decide) ?_
        refine r_iload_n K 0 dX12_heard_31 rfl rfl ?_
        refine w_callV K hl H (fun r h => c_X12_wholeOf l h) mC_yX12_wholeOf mM_RX12_292 mI_yX12_wholeOf mS_yX12_wholeOf mZ_RX12 vc12 (Nat.le_of_ble_eq_true rfl) (Nat.le_of_ble_eq_true rfl) np_yX12_wholeOf rfl (Nat.le_of_ble_eq_true rfl) dX12_heard_32 (fun r4 H => ?_) ⟨Nat.zero_le _, Nat.zero_le _⟩
        refine r_iload_n K 0 dX12_heard_35 rfl rfl ?_
        refine w_icmp_lt K 54 dX12_heard_36 (by decide) H (fun _ H => ?_) (fun _ H => ?_)
        · exact r_sub [] rfl (t_X12_heard_54 K hl H D)
        · refine r_aload_n K 1 dX12_heard_39 rfl rfl ?_
          refine r_iload_n K 2 dX12_heard_40 rfl rfl ?_
          refine r_iconst (v := 1) K dX12_heard_41 (by decide) ?_
          refine r_iload_n K 0 dX12_heard_42 rfl rfl ?_
          refine r_iconst (v := 1) K dX12_heard_43 (by decide) ?_
          refine r_isub K dX12_heard_44 ?_
          refine w_callV K hl H (fun r h => c_X12_wholeOf l h) mC_yX12_wholeOf mM_RX12_292 mI_yX12_wholeOf mS_yX12_wholeOf mZ_RX12 vc12 (Nat.le_of_ble_eq_true rfl) (Nat.le_of_ble_eq_true rfl) np_yX12_wholeOf rfl (Nat.le_of_ble_eq_true rfl) dX12_heard_45 (fun r5 H => ?_) ⟨Nat.zero_le _, Nat.zero_le _⟩
          refine r_iload_n K 0 dX12_heard_48 rfl rfl ?_
          refine r_iconst (v := 1) K dX12_heard_49 (by decide) ?_
          refine r_isub K dX12_heard_50 ?_
          refine w_icmp_ge K 57 dX12_heard_51 (by decide) H (fun _ H => ?_) (fun _ H => ?_)
          · refine r_iconst (v := 0) K dX12_heard_57 (by decide) ?_
            refine r_istore_n K [(3, .int _), (2, .int _), (0, .ref _), (1, .int _)] dX12_heard_58 rfl (by decide) rfl ?_
            exact r_sub [2, 3, 1, 0] rfl (l_X12_heard_59 K hl H D)
          · exact r_sub [] rfl (t_X12_heard_54 K hl H D)
    · refine r_bipush (v := -2) K dX12_heard_20 (by decide) ?_
      cases H
      obtain ⟨rfl, rfl⟩ := jfin2 D
      exact r_iret K dX12_heard_22
  · refine r_iconst (v := -1) K dX12_heard_7 (by decide) ?_
    cases H
    obtain ⟨rfl, rfl⟩ := jfin2 D
    exact r_iret K dX12_heard_8
theorem c_X12_heard (l : Launch) {n : Nat} {Y : jY} {v0 : Nat} {v1 : Int32} {μ : jM} {z : Int32 × jM} (H : f_X12_heard Y v0 v1 μ = some z) : jC l yX12_heard cX12_heard 4 (some .int) 4 0 0 [.ref v0, .int v1] n Y μ n Y (some (.int z.1)) z.2 := by
  refine jC_of (by decide +kernel) (Nat.le_of_ble_eq_true rfl) (fun X hl K _ _ _ => ?_)
  obtain ⟨rr, μr⟩ := z
  exact t_X12_heard_0 K hl H rfl
/-! RX12 laysPoly(II)V -/
def b_X12_laysPoly_159 (Y : jY) (v0 : Nat) (v1 : Int32) (v2 : Int32) (v3 : Int32) (v4 : Int32) (t0 : Nat) (t1 : Int32) (t2 : Int64) (μ : jM) : Option ((Int32 × jM) ⊕ ((Int32 × jM) ⊕ (jM))) :=
  (jas Y μ t0 21 t1 (.long t2)).bind fun μ1 =>
  some (.inl ((v4 + (1 : Int32)), μ1))
def b_X12_laysPoly_76 (Y : jY) (v0 : Nat) (v1 : Int32) (v2 : Int32) (v3 : Int32) (v4 : Int32) (t0 : Int64) (μ : jM) : Option ((Int32 × jM) ⊕ ((Int32 × jM) ⊕ (jM))) :=
  (jrcv Y v0 12 (f_X12_a Y v0 v1 ((((v2 + v3)) - ((1 : Int32)))) μ)).bind fun r1 =>
  (jgO Y r1.2 v0 12 35).bind fun x2 =>
  (jaL Y r1.2 x2 21 ((((((6 : Int32)) * ((v3 - ((1 : Int32)))))) + v4))).bind fun x3 =>
  (jgO Y r1.2 v0 12 35).bind fun x4 =>
  if v3 ≤ ((1 : Int32)) then
    b_X12_laysPoly_159 Y v0 v1 v2 v3 v4 x4 (((((6 : Int32)) * v3)) + v4) (t0 - ((((r1.1.toInt64)) * x3))) r1.2
  else
    (jrcv Y v0 12 (f_X12_c Y v0 v1 ((((v2 + v3)) - ((2 : Int32)))) r1.2)).bind fun r5 =>
    (jgO Y r5.2 v0 12 35).bind fun x6 =>
    (jaL Y r5.2 x6 21 ((((((6 : Int32)) * ((v3 - ((2 : Int32)))))) + v4))).bind fun x7 =>
    b_X12_laysPoly_159 Y v0 v1 v2 v3 v4 x4 (((((6 : Int32)) * v3)) + v4) (((t0 - ((((r1.1.toInt64)) * x3)))) - ((((r5.1.toInt64)) * x7))) r5.2
def b_X12_laysPoly_45 (Y : jY) (v0 : Nat) (v1 : Int32) (v2 : Int32) (v3 : Int32) (v4 : Int32) (μ : jM) : Option ((Int32 × jM) ⊕ ((Int32 × jM) ⊕ (jM))) :=
  if v3 < v4 then
    some (.inr (.inl ((v3 + (1 : Int32)), μ)))
  else
    if v4 ≤ 0 then
      b_X12_laysPoly_76 Y v0 v1 v2 v3 v4 (0 : Int64) μ
    else
      (jgO Y μ v0 12 35).bind fun x1 =>
      (jaL Y μ x1 21 ((((((((6 : Int32)) * ((v3 - ((1 : Int32)))))) + v4)) - ((1 : Int32))))).bind fun x2 =>
      b_X12_laysPoly_76 Y v0 v1 v2 v3 v4 x2 μ
def b_X12_laysPoly_30 (Y : jY) (v0 : Nat) (v1 : Int32) (v2 : Int32) (v3 : Int32) (μ : jM) : Option ((Int32 × jM) ⊕ (jM)) :=
  (jgO Y μ v0 12 26).bind fun x1 =>
  (jaI Y μ x1 20 v1).bind fun x2 =>
  if ((x2 - v2)) < v3 then
    some (.inr μ)
  else
    jit jF (fun (s : Int32 × jM) => b_X12_laysPoly_45 Y v0 v1 v2 v3 s.1 s.2) ((0 : Int32), μ)
def b_X12_laysPoly_2 (Y : jY) (v0 : Nat) (v1 : Int32) (v2 : Int32) (v3 : Int32) (μ : jM) : Option ((Int32 × jM) ⊕ (jM)) :=
  if ((36 : Int32)) ≤ v3 then
    (jgO Y μ v0 12 35).bind fun x1 =>
    (jas Y μ x1 21 ((0 : Int32)) (.long ((1 : Int64)))).bind fun μ2 =>
    (jit jF (fun (s : Int32 × jM) => b_X12_laysPoly_30 Y v0 v1 v2 s.1 s.2) ((1 : Int32), μ2)).map (fun r => (.inr r))
  else
    (jgO Y μ v0 12 35).bind fun x3 =>
    (jas Y μ x3 21 v3 (.long ((0 : Int64)))).bind fun μ4 =>
    some (.inl ((v3 + (1 : Int32)), μ4))
def f_X12_laysPoly (Y : jY) (v0 : Nat) (v1 : Int32) (v2 : Int32) (μ : jM) : Option (jM) :=
  jit jF (fun (s : Int32 × jM) => b_X12_laysPoly_2 Y v0 v1 v2 s.1 s.2) ((0 : Int32), μ)
set_option maxRecDepth 10000 in
theorem t_X12_laysPoly_159 {X : jX} {l : Launch} {n : Nat} {Y : jY} (K : jOK X RX12 cX12_laysPoly 7 none 2) (hl : X.2.1 = l) {μr : jM} {v0 : Nat} {v1 : Int32} {v2 : Int32} {v3 : Int32} {v4 : Int32} {t0 : Nat} {t1 : Int32} {t2 : Int64} {μ : jM} {z : ((Int32 × jM) ⊕ ((Int32 × jM) ⊕ (jM)))} (H : b_X12_laysPoly_159 Y v0 v1 v2 v3 v4 t0 t1 t2 μ = some z) (D : Sum.elim (fun (s : Int32 × jM) => JW X (jEnd X n Y none μr 0 0) 0 0 n Y 45 [(0, .ref v0), (1, .int v1), (2, .int v2), (3, .int v3), (4, .int s.1)] [] s.2) (Sum.elim (fun (s : Int32 × jM) => JW X (jEnd X n Y none μr 0 0) 0 0 n Y 30 [(0, .ref v0), (1, .int v1), (2, .int v2), (3, .int s.1)] [] s.2) (fun r => r = μr)) z) : JW X (jEnd X n Y none μr 0 0) 0 0 n Y 159 [(0, .ref v0), (1, .int v1), (2, .int v2), (3, .int v3), (4, .int v4)] [.long t2, .int t1, .ref t0] μ := by
  unfold b_X12_laysPoly_159 at H
  refine w_last K dX12_laysPoly_159 H (fun μ1 H => ?_)
  refine r_iinc K 4 [(4, .int _), (0, .ref _), (1, .int _), (2, .int _), (3, .int _)] (v := _ + (1 : Int32)) dX12_laysPoly_160 rfl rfl (by decide) rfl ?_
  refine r_goto K 45 dX12_laysPoly_163 (by decide) ?_
  cases H
  exact r_sub [1, 2, 3, 4, 0] rfl D
set_option maxRecDepth 10000 in
theorem t_X12_laysPoly_76 {X : jX} {l : Launch} {n : Nat} {Y : jY} (K : jOK X RX12 cX12_laysPoly 7 none 2) (hl : X.2.1 = l) {μr : jM} {v0 : Nat} {v1 : Int32} {v2 : Int32} {v3 : Int32} {v4 : Int32} {t0 : Int64} {μ : jM} {z : ((Int32 × jM) ⊕ ((Int32 × jM) ⊕ (jM)))} (H : b_X12_laysPoly_76 Y v0 v1 v2 v3 v4 t0 μ = some z) (D : Sum.elim (fun (s : Int32 × jM) => JW X (jEnd X n Y none μr 0 0) 0 0 n Y 45 [(0, .ref v0), (1, .int v1), (2, .int v2), (3, .int v3), (4, .int s.1)] [] s.2) (Sum.elim (fun (s : Int32 × jM) => JW X (jEnd X n Y none μr 0 0) 0 0 n Y 30 [(0, .ref v0), (1, .int v1), (2, .int v2), (3, .int s.1)] [] s.2) (fun r => r = μr)) z) : JW X (jEnd X n Y none μr 0 0) 0 0 n Y 76 [(0, .ref v0), (1, .int v1), (2, .int v2), (3, .int v3), (4, .int v4)] [.long t0] μ := by
  unfold b_X12_laysPoly_76 at H
  refine r_lstore K [(5, .long _), (0, .ref _), (1, .int _), (2, .int _), (3, .int _), (4, .int _)] dX12_laysPoly_76 (by decide) rfl ?_
  refine r_lload K 0 dX12_laysPoly_78 rfl ?_
  refine r_aload_n K 1 dX12_laysPoly_80 rfl rfl ?_
  refine r_iload_n K 2 dX12_laysPoly_81 rfl rfl ?_
  refine r_iload_n K 3 dX12_laysPoly_82 rfl rfl ?_
  refine r_iload_n K 4 dX12_laysPoly_83 rfl rfl ?_
  refine r_iadd K dX12_laysPoly_84 ?_
  refine r_iconst (v := 1) K dX12_laysPoly_85 (by decide) ?_
  refine r_isub K dX12_laysPoly_86 ?_
  refine w_callV K hl H (fun r h => c_X12_a l h) mC_yX12_a mM_RX12_256 mI_yX12_a mS_yX12_a mZ_RX12 vc12 (Nat.le_of_ble_eq_true rfl) (Nat.le_of_ble_eq_true rfl) np_yX12_a rfl (Nat.le_of_ble_eq_true rfl) dX12_laysPoly_87 (fun r1 H => ?_) ⟨Nat.zero_le _, Nat.zero_le _⟩
  refine r_i2l K dX12_laysPoly_90 ?_
  refine r_aload_n K 1 dX12_laysPoly_91 rfl rfl ?_
  refine w_getO K vc12 inX12 35 (by decide) mF_RX12_75 dX12_laysPoly_92 H (fun x2 H => ?_)
  refine r_bipush (v := 6) K dX12_laysPoly_95 (by decide) ?_
  refine r_iload_n K 4 dX12_laysPoly_97 rfl rfl ?_
  refine r_iconst (v := 1) K dX12_laysPoly_98 (by decide) ?_
  refine r_isub K dX12_laysPoly_99 ?_
  refine r_imul K dX12_laysPoly_100 ?_
  refine r_iload K 5 dX12_laysPoly_101 rfl ?_
  refine r_iadd K dX12_laysPoly_103 ?_
  refine w_lald K dX12_laysPoly_104 H (fun x3 H => ?_)
  refine r_lmul K dX12_laysPoly_105 ?_
  refine r_lsub K dX12_laysPoly_106 ?_
  refine r_lstore K [(5, .long _), (0, .ref _), (1, .int _), (2, .int _), (3, .int _), (4, .int _)] dX12_laysPoly_107 (by decide) rfl ?_
  refine r_aload_n K 1 dX12_laysPoly_109 rfl rfl ?_
  refine w_getO K vc12 inX12 35 (by decide) mF_RX12_75 dX12_laysPoly_110 H (fun x4 H => ?_)
  refine r_bipush (v := 6) K dX12_laysPoly_113 (by decide) ?_
  refine r_iload_n K 4 dX12_laysPoly_115 rfl rfl ?_
  refine r_imul K dX12_laysPoly_116 ?_
  refine r_iload K 5 dX12_laysPoly_117 rfl ?_
  refine r_iadd K dX12_laysPoly_119 ?_
  refine r_iload_n K 4 dX12_laysPoly_120 rfl rfl ?_
  refine r_iconst (v := 1) K dX12_laysPoly_121 (by decide) ?_
  refine w_icmp_le K 157 dX12_laysPoly_122 (by decide) H (fun _ H => ?_) (fun _ H => ?_)
  · refine r_lload K 0 dX12_laysPoly_157 rfl ?_
    exact r_sub [1, 2, 3, 4, 5] rfl (t_X12_laysPoly_159 K hl H D)
  · refine r_lload K 0 dX12_laysPoly_125 rfl ?_
    refine r_aload_n K 1 dX12_laysPoly_127 rfl rfl ?_
    refine r_iload_n K 2 dX12_laysPoly_128 rfl rfl ?_
    refine r_iload_n K 3 dX12_laysPoly_129 rfl rfl ?_
    refine r_iload_n K 4 dX12_laysPoly_130 rfl rfl ?_
    refine r_iadd K dX12_laysPoly_131 ?_
    refine r_iconst (v := 2) K dX12_laysPoly_132 (by decide) ?_
    refine r_isub K dX12_laysPoly_133 ?_
    refine w_callV K hl H (fun r h => c_X12_c l h) mC_yX12_c mM_RX12_260 mI_yX12_c mS_yX12_c mZ_RX12 vc12 (Nat.le_of_ble_eq_true rfl) (Nat.le_of_ble_eq_true rfl) np_yX12_c rfl (Nat.le_of_ble_eq_true rfl) dX12_laysPoly_134 (fun r5 H => ?_) ⟨Nat.zero_le _, Nat.zero_le _⟩
    refine r_i2l K dX12_laysPoly_137 ?_
    refine r_aload_n K 1 dX12_laysPoly_138 rfl rfl ?_
    refine w_getO K vc12 inX12 35 (by decide) mF_RX12_75 dX12_laysPoly_139 H (fun x6 H => ?_)
    refine r_bipush (v := 6) K dX12_laysPoly_142 (by decide) ?_
    refine r_iload_n K 4 dX12_laysPoly_144 rfl rfl ?_
    refine r_iconst (v := 2) K dX12_laysPoly_145 (by decide) ?_
    refine r_isub K dX12_laysPoly_146 ?_
    refine r_imul K dX12_laysPoly_147 ?_
    refine r_iload K 5 dX12_laysPoly_148 rfl ?_
    refine r_iadd K dX12_laysPoly_150 ?_
    refine w_lald K dX12_laysPoly_151 H (fun x7 H => ?_)
    refine r_lmul K dX12_laysPoly_152 ?_
    refine r_lsub K dX12_laysPoly_153 ?_
    refine r_goto K 159 dX12_laysPoly_154 (by decide) ?_
    exact r_sub [1, 2, 3, 4, 5] rfl (t_X12_laysPoly_159 K hl H D)
set_option maxRecDepth 10000 in
theorem t_X12_laysPoly_45 {X : jX} {l : Launch} {n : Nat} {Y : jY} (K : jOK X RX12 cX12_laysPoly 7 none 2) (hl : X.2.1 = l) {μr : jM} {v0 : Nat} {v1 : Int32} {v2 : Int32} {v3 : Int32} {v4 : Int32} {μ : jM} {z : ((Int32 × jM) ⊕ ((Int32 × jM) ⊕ (jM)))} (H : b_X12_laysPoly_45 Y v0 v1 v2 v3 v4 μ = some z) (D : Sum.elim (fun (s : Int32 × jM) => JW X (jEnd X n Y none μr 0 0) 0 0 n Y 45 [(0, .ref v0), (1, .int v1), (2, .int v2), (3, .int v3), (4, .int s.1)] [] s.2) (Sum.elim (fun (s : Int32 × jM) => JW X (jEnd X n Y none μr 0 0) 0 0 n Y 30 [(0, .ref v0), (1, .int v1), (2, .int v2), (3, .int s.1)] [] s.2) (fun r => r = μr)) z) : JW X (jEnd X n Y none μr 0 0) 0 0 n Y 45 [(0, .ref v0), (1, .int v1), (2, .int v2), (3, .int v3), (4, .int v4)] [] μ := by
  unfold b_X12_laysPoly_45 at H
  refine r_iload K 4 dX12_laysPoly_45 rfl ?_
  refine r_iload_n K 3 dX12_laysPoly_47 rfl rfl ?_
  refine w_icmp_gt K 166 dX12_laysPoly_48 (by decide) H (fun _ H => ?_) (fun _ H => ?_)
  · refine r_iinc K 3 [(3, .int _), (0, .ref _), (1, .int _), (2, .int _), (4, .int _)] (v := _ + (1 : Int32)) dX12_laysPoly_166 rfl rfl (by decide) rfl ?_
    refine r_goto K 30 dX12_laysPoly_169 (by decide) ?_
    cases H
    exact r_sub [1, 2, 3, 0] rfl D
  · refine r_iload K 4 dX12_laysPoly_51 rfl ?_
    refine w_if_le K 75 dX12_laysPoly_53 (by decide) H (fun _ H => ?_) (fun _ H => ?_)
    · refine r_lconst (v := 0) K dX12_laysPoly_75 (by decide) ?_
      exact r_sub [0, 1, 2, 3, 4] rfl (t_X12_laysPoly_76 K hl H D)
    · refine r_aload_n K 0 dX12_laysPoly_56 rfl rfl ?_
      refine w_getO K vc12 inX12 35 (by decide) mF_RX12_75 dX12_laysPoly_57 H (fun x1 H => ?_)
      refine r_bipush (v := 6) K dX12_laysPoly_60 (by decide) ?_
      refine r_iload_n K 3 dX12_laysPoly_62 rfl rfl ?_
      refine r_iconst (v := 1) K dX12_laysPoly_63 (by decide) ?_
      refine r_isub K dX12_laysPoly_64 ?_
      refine r_imul K dX12_laysPoly_65 ?_
      refine r_iload K 4 dX12_laysPoly_66 rfl ?_
      refine r_iadd K dX12_laysPoly_68 ?_
      refine r_iconst (v := 1) K dX12_laysPoly_69 (by decide) ?_
      refine r_isub K dX12_laysPoly_70 ?_
      refine w_lald K dX12_laysPoly_71 H (fun x2 H => ?_)
      refine r_goto K 76 dX12_laysPoly_72 (by decide) ?_
      exact r_sub [0, 1, 2, 3, 4] rfl (t_X12_laysPoly_76 K hl H D)
set_option maxRecDepth 10000 in
theorem l_X12_laysPoly_45 {X : jX} {l : Launch} {n : Nat} {Y : jY} (K : jOK X RX12 cX12_laysPoly 7 none 2) (hl : X.2.1 = l) {μr : jM} {v0 : Nat} {v1 : Int32} {v2 : Int32} {v3 : Int32}  {s0 : Int32 × jM} {z : ((Int32 × jM) ⊕ (jM))} (H : jit jF (fun (s : Int32 × jM) => b_X12_laysPoly_45 Y v0 v1 v2 v3 s.1 s.2) s0 = some z) (D : Sum.elim (fun (s : Int32 × jM) => JW X (jEnd X n Y none μr 0 0) 0 0 n Y 30 [(0, .ref v0), (1, .int v1), (2, .int v2), (3, .int s.1)] [] s.2) (fun r => r = μr) z) : JW X (jEnd X n Y none μr 0 0) 0 0 n Y 45 [(0, .ref v0), (1, .int v1), (2, .int v2), (3, .int v3), (4, .int s0.1)] [] s0.2 :=
  jit_ind (P := fun (s : Int32 × jM) => JW X (jEnd X n Y none μr 0 0) 0 0 n Y 45 [(0, .ref v0), (1, .int v1), (2, .int v2), (3, .int v3), (4, .int s.1)] [] s.2) (D := Sum.elim (fun (s : Int32 × jM) => JW X (jEnd X n Y none μr 0 0) 0 0 n Y 30 [(0, .ref v0), (1, .int v1), (2, .int v2), (3, .int s.1)] [] s.2) (fun r => r = μr)) (fun s z Hs Ds => t_X12_laysPoly_45 K hl Hs Ds) jF s0 z H D
set_option maxRecDepth 10000 in
theorem t_X12_laysPoly_30 {X : jX} {l : Launch} {n : Nat} {Y : jY} (K : jOK X RX12 cX12_laysPoly 7 none 2) (hl : X.2.1 = l) {μr : jM} {v0 : Nat} {v1 : Int32} {v2 : Int32} {v3 : Int32} {μ : jM} {z : ((Int32 × jM) ⊕ (jM))} (H : b_X12_laysPoly_30 Y v0 v1 v2 v3 μ = some z) (D : Sum.elim (fun (s : Int32 × jM) => JW X (jEnd X n Y none μr 0 0) 0 0 n Y 30 [(0, .ref v0), (1, .int v1), (2, .int v2), (3, .int s.1)] [] s.2) (fun r => r = μr) z) : JW X (jEnd X n Y none μr 0 0) 0 0 n Y 30 [(0, .ref v0), (1, .int v1), (2, .int v2), (3, .int v3)] [] μ := by
  unfold b_X12_laysPoly_30 at H
  refine r_iload_n K 3 dX12_laysPoly_30 rfl rfl ?_
  refine r_aload_n K 0 dX12_laysPoly_31 rfl rfl ?_
  refine w_getO K vc12 inX12 26 (by decide) mF_RX12_48 dX12_laysPoly_32 H (fun x1 H => ?_)
  refine r_iload_n K 1 dX12_laysPoly_35 rfl rfl ?_
  refine w_iald K dX12_laysPoly_36 H (fun x2 H => ?_)
  refine r_iload_n K 2 dX12_laysPoly_37 rfl rfl ?_
  refine r_isub K dX12_laysPoly_38 ?_
  refine w_icmp_gt K 172 dX12_laysPoly_39 (by decide) H (fun _ H => ?_) (fun _ H => ?_)
  · cases H
    simp only [Sum.elim_inr] at D
    subst D
    exact r_vret K dX12_laysPoly_172
  · refine r_iconst (v := 0) K dX12_laysPoly_42 (by decide) ?_
    refine r_istore K [(4, .int _), (0, .ref _), (1, .int _), (2, .int _), (3, .int _)] dX12_laysPoly_43 (by decide) rfl ?_
    exact r_sub [1, 2, 3, 4, 0] rfl (l_X12_laysPoly_45 K hl H D)
set_option maxRecDepth 10000 in
theorem l_X12_laysPoly_30 {X : jX} {l : Launch} {n : Nat} {Y : jY} (K : jOK X RX12 cX12_laysPoly 7 none 2) (hl : X.2.1 = l) {μr : jM} {v0 : Nat} {v1 : Int32} {v2 : Int32}  {s0 : Int32 × jM} {z : (jM)} (H : jit jF (fun (s : Int32 × jM) => b_X12_laysPoly_30 Y v0 v1 v2 s.1 s.2) s0 = some z) (D : z = μr) : JW X (jEnd X n Y none μr 0 0) 0 0 n Y 30 [(0, .ref v0), (1, .int v1), (2, .int v2), (3, .int s0.1)] [] s0.2 :=
  jit_ind (P := fun (s : Int32 × jM) => JW X (jEnd X n Y none μr 0 0) 0 0 n Y 30 [(0, .ref v0), (1, .int v1), (2, .int v2), (3, .int s.1)] [] s.2) (D := fun r => r = μr) (fun s z Hs Ds => t_X12_laysPoly_30 K hl Hs Ds) jF s0 z H D
set_option maxRecDepth 10000 in
theorem t_X12_laysPoly_2 {X : jX} {l : Launch} {n : Nat} {Y : jY} (K : jOK X RX12 cX12_laysPoly 7 none 2) (hl : X.2.1 = l) {μr : jM} {v0 : Nat} {v1 : Int32} {v2 : Int32} {v3 : Int32} {μ : jM} {z : ((Int32 × jM) ⊕ (jM))} (H : b_X12_laysPoly_2 Y v0 v1 v2 v3 μ = some z) (D : Sum.elim (fun (s : Int32 × jM) => JW X (jEnd X n Y none μr 0 0) 0 0 n Y 2 [(0, .ref v0), (1, .int v1), (2, .int v2), (3, .int s.1)] [] s.2) (fun r => r = μr) z) : JW X (jEnd X n Y none μr 0 0) 0 0 n Y 2 [(0, .ref v0), (1, .int v1), (2, .int v2), (3, .int v3)] [] μ := by
  unfold b_X12_laysPoly_2 at H
  refine r_iload_n K 3 dX12_laysPoly_2 rfl rfl ?_
  refine r_bipush (v := 36) K dX12_laysPoly_3 (by decide) ?_
  refine w_icmp_ge K 21 dX12_laysPoly_5 (by decide) H (fun _ H => ?_) (fun _ H => ?_)
  · refine r_aload_n K 0 dX12_laysPoly_21 rfl rfl ?_
    refine w_getO K vc12 inX12 35 (by decide) mF_RX12_75 dX12_laysPoly_22 H (fun x1 H => ?_)
    refine r_iconst (v := 0) K dX12_laysPoly_25 (by decide) ?_
    refine r_lconst (v := 1) K dX12_laysPoly_26 (by decide) ?_
    refine w_last K dX12_laysPoly_27 H (fun μ2 H => ?_)
    refine r_iconst (v := 1) K dX12_laysPoly_28 (by decide) ?_
    refine r_istore_n K [(3, .int _), (0, .ref _), (1, .int _), (2, .int _)] dX12_laysPoly_29 rfl (by decide) rfl ?_
    obtain ⟨z2, H2, rfl⟩ := jmap H
    exact r_sub [1, 2, 3, 0] rfl (l_X12_laysPoly_30 K hl H2 D)
  · refine r_aload_n K 0 dX12_laysPoly_8 rfl rfl ?_
    refine w_getO K vc12 inX12 35 (by decide) mF_RX12_75 dX12_laysPoly_9 H (fun x3 H => ?_)
    refine r_iload_n K 3 dX12_laysPoly_12 rfl rfl ?_
    refine r_lconst (v := 0) K dX12_laysPoly_13 (by decide) ?_
    refine w_last K dX12_laysPoly_14 H (fun μ4 H => ?_)
    refine r_iinc K 3 [(3, .int _), (0, .ref _), (1, .int _), (2, .int _)] (v := _ + (1 : Int32)) dX12_laysPoly_15 rfl rfl (by decide) rfl ?_
    refine r_goto K 2 dX12_laysPoly_18 (by decide) ?_
    cases H
    exact r_sub [1, 2, 3, 0] rfl D
set_option maxRecDepth 10000 in
theorem l_X12_laysPoly_2 {X : jX} {l : Launch} {n : Nat} {Y : jY} (K : jOK X RX12 cX12_laysPoly 7 none 2) (hl : X.2.1 = l) {μr : jM} {v0 : Nat} {v1 : Int32} {v2 : Int32}  {s0 : Int32 × jM} {z : (jM)} (H : jit jF (fun (s : Int32 × jM) => b_X12_laysPoly_2 Y v0 v1 v2 s.1 s.2) s0 = some z) (D : z = μr) : JW X (jEnd X n Y none μr 0 0) 0 0 n Y 2 [(0, .ref v0), (1, .int v1), (2, .int v2), (3, .int s0.1)] [] s0.2 :=
  jit_ind (P := fun (s : Int32 × jM) => JW X (jEnd X n Y none μr 0 0) 0 0 n Y 2 [(0, .ref v0), (1, .int v1), (2, .int v2), (3, .int s.1)] [] s.2) (D := fun r => r = μr) (fun s z Hs Ds => t_X12_laysPoly_2 K hl Hs Ds) jF s0 z H D
set_option maxRecDepth 10000 in
theorem t_X12_laysPoly_0 {X : jX} {l : Launch} {n : Nat} {Y : jY} (K : jOK X RX12 cX12_laysPoly 7 none 2) (hl : X.2.1 = l) {μr : jM} {v0 : Nat} {v1 : Int32} {v2 : Int32} {μ : jM} {z : (jM)} (H : f_X12_laysPoly Y v0 v1 v2 μ = some z) (D : z = μr) : JW X (jEnd X n Y none μr 0 0) 0 0 n Y 0 [(0, .ref v0), (1, .int v1), (2, .int v2)] [] μ := by
  unfold f_X12_laysPoly at H
  refine r_iconst (v := 0) K dX12_laysPoly_0 (by decide) ?_
  refine r_istore_n K [(3, .int _), (0, .ref _), (1, .int _), (2, .int _)] dX12_laysPoly_1 rfl (by decide) rfl ?_
  exact r_sub [1, 2, 3, 0] rfl (l_X12_laysPoly_2 K hl H D)
theorem c_X12_laysPoly (l : Launch) {n : Nat} {Y : jY} {v0 : Nat} {v1 : Int32} {v2 : Int32} {μ : jM} {z : jM} (H : f_X12_laysPoly Y v0 v1 v2 μ = some z) : jC l yX12_laysPoly cX12_laysPoly 7 none 2 0 0 [.ref v0, .int v1, .int v2] n Y μ n Y none z := by
  refine jC_of (by decide +kernel) (Nat.le_of_ble_eq_true rfl) (fun X hl K _ _ _ => ?_)
  exact t_X12_laysPoly_0 K hl H rfl
/-! RX12 byteAt(I)I -/
def b_X12_byteAt_22 (Y : jY) (t0 : Int32) (μ : jM) : Option (Int32 × jM) :=
  some (t0, μ)
def f_X12_byteAt (Y : jY) (v0 : Nat) (v1 : Int32) (μ : jM) : Option (Int32 × jM) :=
  (jgI Y μ v0 12 3).bind fun x1 =>
  if x1 ≤ v1 then
    b_X12_byteAt_22 Y (-1 : Int32) μ
  else
    (jgO Y μ v0 12 0).bind fun x2 =>
    (jaI Y μ x2 22 v1).bind fun x3 =>
    b_X12_byteAt_22 Y (x3 &&& ((255 : Int32))) μ
set_option maxRecDepth 10000 in
theorem t_X12_byteAt_22 {X : jX} {l : Launch} {n : Nat} {Y : jY} (K : jOK X RX12 cX12_byteAt 2 (some .int) 1) (hl : X.2.1 = l) {rr : Int32} {μr : jM} {t0 : Int32} {μ : jM} {z : (Int32 × jM)} (H : b_X12_byteAt_22 Y t0 μ = some z) (D : z = (rr, μr)) : JW X (jEnd X n Y (some (.int rr)) μr 0 0) 0 0 n Y 22 [] [.int t0] μ := by
  unfold b_X12_byteAt_22 at H
  cases H
  obtain ⟨rfl, rfl⟩ := jfin2 D
  exact r_iret K dX12_byteAt_22
set_option maxRecDepth 10000 in
theorem t_X12_byteAt_0 {X : jX} {l : Launch} {n : Nat} {Y : jY} (K : jOK X RX12 cX12_byteAt 2 (some .int) 1) (hl : X.2.1 = l) {rr : Int32} {μr : jM} {v0 : Nat} {v1 : Int32} {μ : jM} {z : (Int32 × jM)} (H : f_X12_byteAt Y v0 v1 μ = some z) (D : z = (rr, μr)) : JW X (jEnd X n Y (some (.int rr)) μr 0 0) 0 0 n Y 0 [(0, .ref v0), (1, .int v1)] [] μ := by
  unfold f_X12_byteAt at H
  refine r_iload_n K 1 dX12_byteAt_0 rfl rfl ?_
  refine r_aload_n K 0 dX12_byteAt_1 rfl rfl ?_
  refine w_getI K vc12 inX12 3 (by decide) mF_RX12_101 dX12_byteAt_2 H (fun x1 H => ?_)
  refine w_icmp_ge K 21 dX12_byteAt_5 (by decide) H (fun _ H => ?_) (fun _ H => ?_)
  · refine r_iconst (v := -1) K dX12_byteAt_21 (by decide) ?_
    exact r_sub [] rfl (t_X12_byteAt_22 K hl H D)
  · refine r_aload_n K 0 dX12_byteAt_8 rfl rfl ?_
    refine w_getO K vc12 inX12 0 (by decide) mF_RX12_7 dX12_byteAt_9 H (fun x2 H => ?_)
    refine r_iload_n K 1 dX12_byteAt_12 rfl rfl ?_
    refine w_bald K dX12_byteAt_13 H (fun x3 H => ?_)
    refine r_sipush (v := 255) K dX12_byteAt_14 (by decide) ?_
    refine r_iand K dX12_byteAt_17 ?_
    refine r_goto K 22 dX12_byteAt_18 (by decide) ?_
    exact r_sub [] rfl (t_X12_byteAt_22 K hl H D)
theorem c_X12_byteAt (l : Launch) {n : Nat} {Y : jY} {v0 : Nat} {v1 : Int32} {μ : jM} {z : Int32 × jM} (H : f_X12_byteAt Y v0 v1 μ = some z) : jC l yX12_byteAt cX12_byteAt 2 (some .int) 1 0 0 [.ref v0, .int v1] n Y μ n Y (some (.int z.1)) z.2 := by
  refine jC_of (by decide +kernel) (Nat.le_of_ble_eq_true rfl) (fun X hl K _ _ _ => ?_)
  obtain ⟨rr, μr⟩ := z
  exact t_X12_byteAt_0 K hl H rfl
/-! RX12 isDigit(I)Z -/
def b_X12_isDigit_17 (Y : jY) (t0 : Int32) (μ : jM) : Option (Int32 × jM) :=
  (jbool t0).bind fun x1 =>
  some (x1, μ)
def b_X12_isDigit_16 (Y : jY) (μ : jM) : Option (Int32 × jM) :=
  b_X12_isDigit_17 Y (0 : Int32) μ
def f_X12_isDigit (Y : jY) (v0 : Int32) (μ : jM) : Option (Int32 × jM) :=
  if v0 < ((48 : Int32)) then
    b_X12_isDigit_16 Y μ
  else
    if ((57 : Int32)) < v0 then
      b_X12_isDigit_16 Y μ
    else
      b_X12_isDigit_17 Y (1 : Int32) μ
set_option maxRecDepth 10000 in
theorem t_X12_isDigit_17 {X : jX} {l : Launch} {n : Nat} {Y : jY} (K : jOK X RX12 cX12_isDigit 1 (some .boolean) 1) (hl : X.2.1 = l) {rr : Int32} {μr : jM} {t0 : Int32} {μ : jM} {z : (Int32 × jM)} (H : b_X12_isDigit_17 Y t0 μ = some z) (D : z = (rr, μr)) : JW X (jEnd X n Y (some (.int rr)) μr 0 0) 0 0 n Y 17 [] [.int t0] μ := by
  unfold b_X12_isDigit_17 at H
  refine w_zret K dX12_isDigit_17 H (fun hz H => ?_)
  cases H
  obtain ⟨rfl, rfl⟩ := jfin2 D
  exact r_zret K hz dX12_isDigit_17
set_option maxRecDepth 10000 in
theorem t_X12_isDigit_16 {X : jX} {l : Launch} {n : Nat} {Y : jY} (K : jOK X RX12 cX12_isDigit 1 (some .boolean) 1) (hl : X.2.1 = l) {rr : Int32} {μr : jM} {μ : jM} {z : (Int32 × jM)} (H : b_X12_isDigit_16 Y μ = some z) (D : z = (rr, μr)) : JW X (jEnd X n Y (some (.int rr)) μr 0 0) 0 0 n Y 16 [] [] μ := by
  unfold b_X12_isDigit_16 at H
  refine r_iconst (v := 0) K dX12_isDigit_16 (by decide) ?_
  exact r_sub [] rfl (t_X12_isDigit_17 K hl H D)
set_option maxRecDepth 10000 in
theorem t_X12_isDigit_0 {X : jX} {l : Launch} {n : Nat} {Y : jY} (K : jOK X RX12 cX12_isDigit 1 (some .boolean) 1) (hl : X.2.1 = l) {rr : Int32} {μr : jM} {v0 : Int32} {μ : jM} {z : (Int32 × jM)} (H : f_X12_isDigit Y v0 μ = some z) (D : z = (rr, μr)) : JW X (jEnd X n Y (some (.int rr)) μr 0 0) 0 0 n Y 0 [(0, .int v0)] [] μ := by
  unfold f_X12_isDigit at H
  refine r_iload_n K 0 dX12_isDigit_0 rfl rfl ?_
  refine r_bipush (v := 48) K dX12_isDigit_1 (by decide) ?_
  refine w_icmp_lt K 16 dX12_isDigit_3 (by decide) H (fun _ H => ?_) (fun _ H => ?_)
  · exact r_sub [] rfl (t_X12_isDigit_16 K hl H D)
  · refine r_iload_n K 0 dX12_isDigit_6 rfl rfl ?_
    refine r_bipush (v := 57) K dX12_isDigit_7 (by decide) ?_
    refine w_icmp_gt K 16 dX12_isDigit_9 (by decide) H (fun _ H => ?_) (fun _ H => ?_)
    · exact r_sub [] rfl (t_X12_isDigit_16 K hl H D)
    · refine r_iconst (v := 1) K dX12_isDigit_12 (by decide) ?_
      refine r_goto K 17 dX12_isDigit_13 (by decide) ?_
      exact r_sub [] rfl (t_X12_isDigit_17 K hl H D)
theorem c_X12_isDigit (l : Launch) {n : Nat} {Y : jY} {v0 : Int32} {μ : jM} {z : Int32 × jM} (H : f_X12_isDigit Y v0 μ = some z) : jC l yX12_isDigit cX12_isDigit 1 (some .boolean) 1 0 0 [.int v0] n Y μ n Y (some (.int z.1)) z.2 := by
  refine jC_of (by decide +kernel) (Nat.le_of_ble_eq_true rfl) (fun X hl K _ _ _ => ?_)
  obtain ⟨rr, μr⟩ := z
  exact t_X12_isDigit_0 K hl H rfl
/-! RX12 token()I -/
def b_X12_token_235 (Y : jY) (t0 : Nat) (t1 : Int32) (μ : jM) : Option (Int32 × jM) :=
  (jput Y μ t0 12 5 (.int t1)).bind fun μ1 =>
  some ((1 : Int32), μ1)
def b_X12_token_202 (Y : jY) (v0 : Nat) (v2 : Int32) (t0 : Nat) (t1 : Int32) (μ : jM) : Option ((jM) ⊕ (Int32 × jM)) :=
  (jput Y μ t0 12 5 (.int t1)).bind fun μ1 =>
  (jgI Y μ1 v0 12 2).bind fun x2 =>
  (jput Y μ1 v0 12 2 (.int ((x2 + ((1 : Int32)))))).bind fun μ3 =>
  some (.inl μ3)
def b_X12_token_152 (Y : jY) (v0 : Nat) (v2 : Int32) (μ : jM) : Option ((jM) ⊕ (Int32 × jM)) :=
  (jgI Y μ v0 12 2).bind fun x1 =>
  (jrcv Y v0 12 (f_X12_byteAt Y v0 x1 μ)).bind fun r2 =>
  (f_X12_isDigit Y r2.1 r2.2).bind fun r3 =>
  if r3.1 = 0 then
    if v2 = 0 then
      (jgI Y r3.2 v0 12 5).bind fun x4 =>
      (b_X12_token_235 Y v0 x4 r3.2).map (fun r => (.inr r))
    else
      (jgI Y r3.2 v0 12 5).bind fun x5 =>
      (b_X12_token_235 Y v0 (-x5) r3.2).map (fun r => (.inr r))
  else
    (jgI Y r3.2 v0 12 5).bind fun x6 =>
    if x6 ≤ ((99 : Int32)) then
      (jgI Y r3.2 v0 12 5).bind fun x7 =>
      (jgI Y r3.2 v0 12 2).bind fun x8 =>
      (jrcv Y v0 12 (f_X12_byteAt Y v0 x8 r3.2)).bind fun r9 =>
      b_X12_token_202 Y v0 v2 v0 (((((((10 : Int32)) * x7)) + r9.1)) - ((48 : Int32))) r9.2
    else
      (jgI Y r3.2 v0 12 5).bind fun x10 =>
      b_X12_token_202 Y v0 v2 v0 x10 r3.2
def b_X12_token_149 (Y : jY) (v0 : Nat) (v2 : Int32) (t0 : Nat) (t1 : Int32) (μ : jM) : Option (Int32 × jM) :=
  (jput Y μ t0 12 5 (.int t1)).bind fun μ1 =>
  jit jF (fun (s : jM) => b_X12_token_152 Y v0 v2 s) μ1
def b_X12_token_136 (Y : jY) (v0 : Nat) (v1 : Int32) (v2 : Int32) (μ : jM) : Option (Int32 × jM) :=
  if v2 = 0 then
    b_X12_token_149 Y v0 v2 v0 (v1 - ((48 : Int32))) μ
  else
    b_X12_token_149 Y v0 v2 v0 (0 : Int32) μ
def b_X12_token_107 (Y : jY) (v0 : Nat) (v1 : Int32) (v2 : Int32) (μ : jM) : Option (Int32 × jM) :=
  if v2 = 0 then
    b_X12_token_136 Y v0 v1 v2 μ
  else
    (jgI Y μ v0 12 4).bind fun x1 =>
    if x1 ≤ 0 then
      b_X12_token_136 Y v0 v1 v2 μ
    else
      (jgI Y μ v0 12 4).bind fun x2 =>
      (jrcv Y v0 12 (f_X12_byteAt Y v0 ((x2 - ((1 : Int32)))) μ)).bind fun r3 =>
      (f_X12_isDigit Y r3.1 r3.2).bind fun r4 =>
      if r4.1 = 0 then
        b_X12_token_136 Y v0 v1 v2 r4.2
      else
        some ((3 : Int32), r4.2)
def b_X12_token_93 (Y : jY) (v0 : Nat) (v1 : Int32) (t0 : Int32) (μ : jM) : Option (Int32 × jM) :=
  (f_X12_isDigit Y v1 μ).bind fun r1 =>
  if r1.1 = 0 then
    if t0 = 0 then
      some ((3 : Int32), r1.2)
    else
      b_X12_token_107 Y v0 v1 t0 r1.2
  else
    b_X12_token_107 Y v0 v1 t0 r1.2
def b_X12_token_92 (Y : jY) (v0 : Nat) (v1 : Int32) (μ : jM) : Option (Int32 × jM) :=
  b_X12_token_93 Y v0 v1 (0 : Int32) μ
def b_X12_token_0 (Y : jY) (v0 : Nat) (μ : jM) : Option ((jM) ⊕ (Int32 × jM)) :=
  (jgI Y μ v0 12 2).bind fun x1 =>
  (jrcv Y v0 12 (f_X12_byteAt Y v0 x1 μ)).bind fun r2 =>
  if r2.1 = ((32 : Int32)) then
    (jgI Y r2.2 v0 12 2).bind fun x12 =>
    (jput Y r2.2 v0 12 2 (.int ((x12 + ((1 : Int32)))))).bind fun μ13 =>
    some (.inl μ13)
  else
    (jgI Y r2.2 v0 12 2).bind fun x3 =>
    (jput Y r2.2 v0 12 4 (.int x3)).bind fun μ4 =>
    (jgI Y μ4 v0 12 2).bind fun x5 =>
    (jrcv Y v0 12 (f_X12_byteAt Y v0 x5 μ4)).bind fun r6 =>
    if r6.1 = ((-1 : Int32)) then
      some (.inr ((0 : Int32), r6.2))
    else
      (jgI Y r6.2 v0 12 2).bind fun x7 =>
      (jput Y r6.2 v0 12 2 (.int ((x7 + ((1 : Int32)))))).bind fun μ8 =>
      if r6.1 = ((47 : Int32)) then
        some (.inr ((2 : Int32), μ8))
      else
        if r6.1 = ((45 : Int32)) then
          (jgI Y μ8 v0 12 2).bind fun x9 =>
          (jrcv Y v0 12 (f_X12_byteAt Y v0 x9 μ8)).bind fun r10 =>
          (f_X12_isDigit Y r10.1 r10.2).bind fun r11 =>
          if r11.1 = 0 then
            (b_X12_token_92 Y v0 r6.1 r11.2).map (fun r => (.inr r))
          else
            (b_X12_token_93 Y v0 r6.1 (1 : Int32) r11.2).map (fun r => (.inr r))
        else
          (b_X12_token_92 Y v0 r6.1 μ8).map (fun r => (.inr r))
set_option maxRecDepth 10000 in
theorem t_X12_token_235 {X : jX} {l : Launch} {n : Nat} {Y : jY} (K : jOK X RX12 cX12_token 3 (some .int) 2) (hl : X.2.1 = l) {rr : Int32} {μr : jM} {t0 : Nat} {t1 : Int32} {μ : jM} {z : (Int32 × jM)} (H : b_X12_token_235 Y t0 t1 μ = some z) (D : z = (rr, μr)) : JW X (jEnd X n Y (some (.int rr)) μr 0 0) 0 0 n Y 235 [] [.int t1, .ref t0] μ := by
  unfold b_X12_token_235 at H
  refine w_put K vc12 inX12 tyX12_ok nmX12 5 (by decide) mF_RX12_118 rfl (fun _ => rfl) (fun _ => rfl) dX12_token_235 H (fun μ1 H => ?_)
  refine r_iconst (v := 1) K dX12_token_238 (by decide) ?_
  cases H
  obtain ⟨rfl, rfl⟩ := jfin2 D
  exact r_iret K dX12_token_239
set_option maxRecDepth 10000 in
theorem t_X12_token_202 {X : jX} {l : Launch} {n : Nat} {Y : jY} (K : jOK X RX12 cX12_token 3 (some .int) 2) (hl : X.2.1 = l) {rr : Int32} {μr : jM} {v0 : Nat} {v2 : Int32} {t0 : Nat} {t1 : Int32} {μ : jM} {z : ((jM) ⊕ (Int32 × jM))} (H : b_X12_token_202 Y v0 v2 t0 t1 μ = some z) (D : Sum.elim (fun (s : jM) => JW X (jEnd X n Y (some (.int rr)) μr 0 0) 0 0 n Y 152 [(0, .ref v0), (2, .int v2)] [] s) (fun r => r = (rr, μr)) z) : JW X (jEnd X n Y (some (.int rr)) μr 0 0) 0 0 n Y 202 [(0, .ref v0), (2, .int v2)] [.int t1, .ref t0] μ := by
  unfold b_X12_token_202 at H
  refine w_put K vc12 inX12 tyX12_ok nmX12 5 (by decide) mF_RX12_118 rfl (fun _ => rfl) (fun _ => rfl) dX12_token_202 H (fun μ1 H => ?_)
  refine r_aload_n K 0 dX12_token_205 rfl rfl ?_
  refine r_aload_n K 0 dX12_token_206 rfl rfl ?_
  refine w_getI K vc12 inX12 2 (by decide) mF_RX12_104 dX12_token_207 H (fun x2 H => ?_)
  refine r_iconst (v := 1) K dX12_token_210 (by decide) ?_
  refine r_iadd K dX12_token_211 ?_
  refine w_put K vc12 inX12 tyX12_ok nmX12 2 (by decide) mF_RX12_104 rfl (fun _ => rfl) (fun _ => rfl) dX12_token_212 H (fun μ3 H => ?_)
  refine r_goto K 152 dX12_token_215 (by decide) ?_
  cases H
  exact r_sub [0, 1] rfl D
set_option maxRecDepth 10000 in
theorem t_X12_token_152 {X : jX} {l : Launch} {n : Nat} {Y : jY} (K : jOK X RX12 cX12_token 3 (some .int) 2) (hl : X.2.1 = l) {rr : Int32} {μr : jM} {v0 : Nat} {v2 : Int32} {μ : jM} {z : ((jM) ⊕ (Int32 × jM))} (H : b_X12_token_152 Y v0 v2 μ = some z) (D : Sum.elim (fun (s : jM) => JW X (jEnd X n Y (some (.int rr)) μr 0 0) 0 0 n Y 152 [(0, .ref v0), (2, .int v2)] [] s) (fun r => r = (rr, μr)) z) : JW X (jEnd X n Y (some (.int rr)) μr 0 0) 0 0 n Y 152 [(0, .ref v0), (2, .int v2)] [] μ := by
  unfold b_X12_token_152 at H
  refine r_aload_n K 0 dX12_token_152 rfl rfl ?_
  refine r_aload_n K 0 dX12_token_153 rfl rfl ?_
  refine w_getI K vc12 inX12 2 (by decide) mF_RX12_104 dX12_token_154 H (fun x1 H => ?_)
  refine w_callV K hl H (fun r h => c_X12_byteAt l h) mC_yX12_byteAt mM_RX12_107 mI_yX12_byteAt mS_yX12_byteAt mZ_RX12 vc12 (Nat.le_of_ble_eq_true rfl) (Nat.le_of_ble_eq_true rfl) np_yX12_byteAt rfl (Nat.le_of_ble_eq_true rfl) dX12_token_157 (fun r2 H => ?_) ⟨Nat.zero_le _, Nat.zero_le _⟩
  refine w_callS K hl H (fun r h => c_X12_isDigit l h) mC_yX12_isDigit mM_RX12_114 mT_yX12_isDigit mZ_RX12 (Nat.le_of_ble_eq_true rfl) (Nat.le_of_ble_eq_true rfl) np_yX12_isDigit rfl (Nat.le_of_ble_eq_true rfl) dX12_token_160 (fun r3 H => ?_) ⟨Nat.zero_le _, Nat.zero_le _⟩
  refine w_if_eq K 218 dX12_token_163 (by decide) H (fun _ H => ?_) (fun _ H => ?_)
  · refine r_aload_n K 0 dX12_token_218 rfl rfl ?_
    refine r_iload_n K 1 dX12_token_219 rfl rfl ?_
    refine w_if_eq K 231 dX12_token_220 (by decide) H (fun _ H => ?_) (fun _ H => ?_)
    · refine r_aload_n K 0 dX12_token_231 rfl rfl ?_
      refine w_getI K vc12 inX12 5 (by decide) mF_RX12_118 dX12_token_232 H (fun x4 H => ?_)
      obtain ⟨z2, H2, rfl⟩ := jmap H
      exact r_sub [] rfl (t_X12_token_235 K hl H2 D)
    · refine r_aload_n K 0 dX12_token_223 rfl rfl ?_
      refine w_getI K vc12 inX12 5 (by decide) mF_RX12_118 dX12_token_224 H (fun x5 H => ?_)
      refine r_ineg K dX12_token_227 ?_
      refine r_goto K 235 dX12_token_228 (by decide) ?_
      obtain ⟨z2, H2, rfl⟩ := jmap H
      exact r_sub [] rfl (t_X12_token_235 K hl H2 D)
  · refine r_aload_n K 0 dX12_token_166 rfl rfl ?_
    refine r_aload_n K 0 dX12_token_167 rfl rfl ?_
    refine w_getI K vc12 inX12 5 (by decide) mF_RX12_118 dX12_token_168 H (fun x6 H => ?_)
    refine r_bipush (v := 99) K dX12_token_171 (by decide) ?_
    refine w_icmp_le K 183 dX12_token_173 (by decide) H (fun _ H => ?_) (fun _ H => ?_)
    · refine r_bipush (v := 10) K dX12_token_183 (by decide) ?_
      refine r_aload_n K 0 dX12_token_185 rfl rfl ?_
      refine w_getI K vc12 inX12 5 (by decide) mF_RX12_118 dX12_token_186 H (fun x7 H => ?_)
      refine r_imul K dX12_token_189 ?_
      refine r_aload_n K 0 dX12_token_190 rfl rfl ?_
      refine r_aload_n K 0 dX12_token_191 rfl rfl ?_
      refine w_getI K vc12 inX12 2 (by decide) mF_RX12_104 dX12_token_192 H (fun x8 H => ?_)
      refine w_callV K hl H (fun r h => c_X12_byteAt l h) mC_yX12_byteAt mM_RX12_107 mI_yX12_byteAt mS_yX12_byteAt mZ_RX12 vc12 (Nat.le_of_ble_eq_true rfl) (Nat.le_of_ble_eq_true rfl) np_yX12_byteAt rfl (Nat.le_of_ble_eq_true rfl) dX12_token_195 (fun r9 H => ?_) ⟨Nat.zero_le _, Nat.zero_le _⟩
      refine r_iadd K dX12_token_198 ?_
      refine r_bipush (v := 48) K dX12_token_199 (by decide) ?_
      refine r_isub K dX12_token_201 ?_
      exact r_sub [0, 1] rfl (t_X12_token_202 K hl H D)
    · refine r_aload_n K 0 dX12_token_176 rfl rfl ?_
      refine w_getI K vc12 inX12 5 (by decide) mF_RX12_118 dX12_token_177 H (fun x10 H => ?_)
      refine r_goto K 202 dX12_token_180 (by decide) ?_
      exact r_sub [0, 1] rfl (t_X12_token_202 K hl H D)
set_option maxRecDepth 10000 in
theorem l_X12_token_152 {X : jX} {l : Launch} {n : Nat} {Y : jY} (K : jOK X RX12 cX12_token 3 (some .int) 2) (hl : X.2.1 = l) {rr : Int32} {μr : jM} {v0 : Nat} {v2 : Int32}  {s0 : jM} {z : (Int32 × jM)} (H : jit jF (fun (s : jM) => b_X12_token_152 Y v0 v2 s) s0 = some z) (D : z = (rr, μr)) : JW X (jEnd X n Y (some (.int rr)) μr 0 0) 0 0 n Y 152 [(0, .ref v0), (2, .int v2)] [] s0 :=
  jit_ind (P := fun (s : jM) => JW X (jEnd X n Y (some (.int rr)) μr 0 0) 0 0 n Y 152 [(0, .ref v0), (2, .int v2)] [] s) (D := fun r => r = (rr, μr)) (fun s z Hs Ds => t_X12_token_152 K hl Hs Ds) jF s0 z H D
set_option maxRecDepth 10000 in
theorem t_X12_token_149 {X : jX} {l : Launch} {n : Nat} {Y : jY} (K : jOK X RX12 cX12_token 3 (some .int) 2) (hl : X.2.1 = l) {rr : Int32} {μr : jM} {v0 : Nat} {v2 : Int32} {t0 : Nat} {t1 : Int32} {μ : jM} {z : (Int32 × jM)} (H : b_X12_token_149 Y v0 v2 t0 t1 μ = some z) (D : z = (rr, μr)) : JW X (jEnd X n Y (some (.int rr)) μr 0 0) 0 0 n Y 149 [(0, .ref v0), (2, .int v2)] [.int t1, .ref t0] μ := by
  unfold b_X12_token_149 at H
  refine w_put K vc12 inX12 tyX12_ok nmX12 5 (by decide) mF_RX12_118 rfl (fun _ => rfl) (fun _ => rfl) dX12_token_149 H (fun μ1 H => ?_)
  exact r_sub [0, 1] rfl (l_X12_token_152 K hl H D)
set_option maxRecDepth 10000 in
theorem t_X12_token_136 {X : jX} {l : Launch} {n : Nat} {Y : jY} (K : jOK X RX12 cX12_token 3 (some .int) 2) (hl : X.2.1 = l) {rr : Int32} {μr : jM} {v0 : Nat} {v1 : Int32} {v2 : Int32} {μ : jM} {z : (Int32 × jM)} (H : b_X12_token_136 Y v0 v1 v2 μ = some z) (D : z = (rr, μr)) : JW X (jEnd X n Y (some (.int rr)) μr 0 0) 0 0 n Y 136 [(0, .ref v0), (1, .int v1), (2, .int v2)] [] μ := by
  unfold b_X12_token_136 at H
  refine r_aload_n K 0 dX12_token_136 rfl rfl ?_
  refine r_iload_n K 2 dX12_token_137 rfl rfl ?_
  refine w_if_eq K 145 dX12_token_138 (by decide) H (fun _ H => ?_) (fun _ H => ?_)
  · refine r_iload_n K 1 dX12_token_145 rfl rfl ?_
    refine r_bipush (v := 48) K dX12_token_146 (by decide) ?_
    refine r_isub K dX12_token_148 ?_
    exact r_sub [0, 2] rfl (t_X12_token_149 K hl H D)
  · refine r_iconst (v := 0) K dX12_token_141 (by decide) ?_
    refine r_goto K 149 dX12_token_142 (by decide) ?_
    exact r_sub [0, 2] rfl (t_X12_token_149 K hl H D)
set_option maxRecDepth 10000 in
theorem t_X12_token_107 {X : jX} {l : Launch} {n : Nat} {Y : jY} (K : jOK X RX12 cX12_token 3 (some .int) 2) (hl : X.2.1 = l) {rr : Int32} {μr : jM} {v0 : Nat} {v1 : Int32} {v2 : Int32} {μ : jM} {z : (Int32 × jM)} (H : b_X12_token_107 Y v0 v1 v2 μ = some z) (D : z = (rr, μr)) : JW X (jEnd X n Y (some (.int rr)) μr 0 0) 0 0 n Y 107 [(0, .ref v0), (1, .int v1), (2, .int v2)] [] μ := by
  unfold b_X12_token_107 at H
  refine r_iload_n K 2 dX12_token_107 rfl rfl ?_
  refine w_if_eq K 136 dX12_token_108 (by decide) H (fun _ H => ?_) (fun _ H => ?_)
  · exact r_sub [0, 1, 2] rfl (t_X12_token_136 K hl H D)
  · refine r_aload_n K 0 dX12_token_111 rfl rfl ?_
    refine w_getI K vc12 inX12 4 (by decide) mF_RX12_111 dX12_token_112 H (fun x1 H => ?_)
    refine w_if_le K 136 dX12_token_115 (by decide) H (fun _ H => ?_) (fun _ H => ?_)
    · exact r_sub [0, 1, 2] rfl (t_X12_token_136 K hl H D)
    · refine r_aload_n K 0 dX12_token_118 rfl rfl ?_
      refine r_aload_n K 0 dX12_token_119 rfl rfl ?_
      refine w_getI K vc12 inX12 4 (by decide) mF_RX12_111 dX12_token_120 H (fun x2 H => ?_)
      refine r_iconst (v := 1) K dX12_token_123 (by decide) ?_
      refine r_isub K dX12_token_124 ?_
      refine w_callV K hl H (fun r h => c_X12_byteAt l h) mC_yX12_byteAt mM_RX12_107 mI_yX12_byteAt mS_yX12_byteAt mZ_RX12 vc12 (Nat.le_of_ble_eq_true rfl) (Nat.le_of_ble_eq_true rfl) np_yX12_byteAt rfl (Nat.le_of_ble_eq_true rfl) dX12_token_125 (fun r3 H => ?_) ⟨Nat.zero_le _, Nat.zero_le _⟩
      refine w_callS K hl H (fun r h => c_X12_isDigit l h) mC_yX12_isDigit mM_RX12_114 mT_yX12_isDigit mZ_RX12 (Nat.le_of_ble_eq_true rfl) (Nat.le_of_ble_eq_true rfl) np_yX12_isDigit rfl (Nat.le_of_ble_eq_true rfl) dX12_token_128 (fun r4 H => ?_) ⟨Nat.zero_le _, Nat.zero_le _⟩
      refine w_if_eq K 136 dX12_token_131 (by decide) H (fun _ H => ?_) (fun _ H => ?_)
      · exact r_sub [0, 1, 2] rfl (t_X12_token_136 K hl H D)
      · refine r_iconst (v := 3) K dX12_token_134 (by decide) ?_
        cases H
        obtain ⟨rfl, rfl⟩ := jfin2 D
        exact r_iret K dX12_token_135
set_option maxRecDepth 10000 in
theorem t_X12_token_93 {X : jX} {l : Launch} {n : Nat} {Y : jY} (K : jOK X RX12 cX12_token 3 (some .int) 2) (hl : X.2.1 = l) {rr : Int32} {μr : jM} {v0 : Nat} {v1 : Int32} {t0 : Int32} {μ : jM} {z : (Int32 × jM)} (H : b_X12_token_93 Y v0 v1 t0 μ = some z) (D : z = (rr, μr)) : JW X (jEnd X n Y (some (.int rr)) μr 0 0) 0 0 n Y 93 [(0, .ref v0), (1, .int v1)] [.int t0] μ := by
  unfold b_X12_token_93 at H
  refine r_istore_n K [(2, .int _), (0, .ref _), (1, .int _)] dX12_token_93 rfl (by decide) rfl ?_
  refine r_iload_n K 2 dX12_token_94 rfl rfl ?_
  refine w_callS K hl H (fun r h => c_X12_isDigit l h) mC_yX12_isDigit mM_RX12_114 mT_yX12_isDigit mZ_RX12 (Nat.le_of_ble_eq_true rfl) (Nat.le_of_ble_eq_true rfl) np_yX12_isDigit rfl (Nat.le_of_ble_eq_true rfl) dX12_token_95 (fun r1 H => ?_) ⟨Nat.zero_le _, Nat.zero_le _⟩
  refine w_if_ne K 107 dX12_token_98 (by decide) H (fun _ H => ?_) (fun _ H => ?_)
  · exact r_sub [1, 2, 0] rfl (t_X12_token_107 K hl H D)
  · refine r_iload_n K 0 dX12_token_101 rfl rfl ?_
    refine w_if_ne K 107 dX12_token_102 (by decide) H (fun _ H => ?_) (fun _ H => ?_)
    · exact r_sub [1, 2, 0] rfl (t_X12_token_107 K hl H D)
    · refine r_iconst (v := 3) K dX12_token_105 (by decide) ?_
      cases H
      obtain ⟨rfl, rfl⟩ := jfin2 D
      exact r_iret K dX12_token_106
set_option maxRecDepth 10000 in
theorem t_X12_token_92 {X : jX} {l : Launch} {n : Nat} {Y : jY} (K : jOK X RX12 cX12_token 3 (some .int) 2) (hl : X.2.1 = l) {rr : Int32} {μr : jM} {v0 : Nat} {v1 : Int32} {μ : jM} {z : (Int32 × jM)} (H : b_X12_token_92 Y v0 v1 μ = some z) (D : z = (rr, μr)) : JW X (jEnd X n Y (some (.int rr)) μr 0 0) 0 0 n Y 92 [(0, .ref v0), (1, .int v1)] [] μ := by
  unfold b_X12_token_92 at H
  refine r_iconst (v := 0) K dX12_token_92 (by decide) ?_
  exact r_sub [0, 1] rfl (t_X12_token_93 K hl H D)
set_option maxRecDepth 10000 in
theorem t_X12_token_0 {X : jX} {l : Launch} {n : Nat} {Y : jY} (K : jOK X RX12 cX12_token 3 (some .int) 2) (hl : X.2.1 = l) {rr : Int32} {μr : jM} {v0 : Nat} {μ : jM} {z : ((jM) ⊕ (Int32 × jM))} (H : b_X12_token_0 Y v0 μ = some z) (D : Sum.elim (fun (s : jM) => JW X (jEnd X n Y (some (.int rr)) μr 0 0) 0 0 n Y 0 [(0, .ref v0)] [] s) (fun r => r = (rr, μr)) z) : JW X (jEnd X n Y (some (.int rr)) μr 0 0) 0 0 n Y 0 [(0, .ref v0)] [] μ := by
  unfold b_X12_token_0 at H
  refine r_aload_n K 0 dX12_token_0 rfl rfl ?_
  refine r_aload_n K 0 dX12_token_1 rfl rfl ?_
  refine w_getI K vc12 inX12 2 (by decide) mF_RX12_104 dX12_token_2 H (fun x1 H => ?_)
  refine w_callV K hl H (fun r h => c_X12_byteAt l h) mC_yX12_byteAt mM_RX12_107 mI_yX12_byteAt mS_yX12_byteAt mZ_RX12 vc12 (Nat.le_of_ble_eq_true rfl) (Nat.le_of_ble_eq_true rfl) np_yX12_byteAt rfl (Nat.le_of_ble_eq_true rfl) dX12_token_5 (fun r2 H => ?_) ⟨Nat.zero_le _, Nat.zero_le _⟩
  refine r_bipush (v := 32) K dX12_token_8 (by decide) ?_
  refine w_icmp_ne K 26 dX12_token_10 (by decide) H (fun _ H => ?_) (fun _ H => ?_)
  · refine r_aload_n K 0 dX12_token_26 rfl rfl ?_
    refine r_aload_n K 0 dX12_token_27 rfl rfl ?_
    refine w_getI K vc12 inX12 2 (by decide) mF_RX12_104 dX12_token_28 H (fun x3 H => ?_)
    refine w_put K vc12 inX12 tyX12_ok nmX12 4 (by decide) mF_RX12_111 rfl (fun _ => rfl) (fun _ => rfl) dX12_token_31 H (fun μ4 H => ?_)
    refine r_aload_n K 0 dX12_token_34 rfl rfl ?_
    refine r_aload_n K 0 dX12_token_35 rfl rfl ?_
    refine w_getI K vc12 inX12 2 (by decide) mF_RX12_104 dX12_token_36 H (fun x5 H => ?_)
    refine w_callV K hl H (fun r h => c_X12_byteAt l h) mC_yX12_byteAt mM_RX12_107 mI_yX12_byteAt mS_yX12_byteAt mZ_RX12 vc12 (Nat.le_of_ble_eq_true rfl) (Nat.le_of_ble_eq_true rfl) np_yX12_byteAt rfl (Nat.le_of_ble_eq_true rfl) dX12_token_39 (fun r6 H => ?_) ⟨Nat.zero_le _, Nat.zero_le _⟩
    refine r_istore_n K [(1, .int _), (0, .ref _)] dX12_token_42 rfl (by decide) rfl ?_
    refine r_iload_n K 0 dX12_token_43 rfl rfl ?_
    refine r_iconst (v := -1) K dX12_token_44 (by decide) ?_
    refine w_icmp_ne K 50 dX12_token_45 (by decide) H (fun _ H => ?_) (fun _ H => ?_)
    · refine r_aload_n K 1 dX12_token_50 rfl rfl ?_
      refine r_aload_n K 1 dX12_token_51 rfl rfl ?_
      refine w_getI K vc12 inX12 2 (by decide) mF_RX12_104 dX12_token_52 H (fun x7 H => ?_)
      refine r_iconst (v := 1) K dX12_token_55 (by decide) ?_
      refine r_iadd K dX12_token_56 ?_
      refine w_put K vc12 inX12 tyX12_ok nmX12 2 (by decide) mF_RX12_104 rfl (fun _ => rfl) (fun _ => rfl) dX12_token_57 H (fun μ8 H => ?_)
      refine r_iload_n K 0 dX12_token_60 rfl rfl ?_
      refine r_bipush (v := 47) K dX12_token_61 (by decide) ?_
      refine w_icmp_ne K 68 dX12_token_63 (by decide) H (fun _ H => ?_) (fun _ H => ?_)
      · refine r_iload_n K 0 dX12_token_68 rfl rfl ?_
        refine r_bipush (v := 45) K dX12_token_69 (by decide) ?_
        refine w_icmp_ne K 92 dX12_token_71 (by decide) H (fun _ H => ?_) (fun _ H => ?_)
        · obtain ⟨z2, H2, rfl⟩ := jmap H
          exact r_sub [1, 0] rfl (t_X12_token_92 K hl H2 D)
        · refine r_aload_n K 1 dX12_token_74 rfl rfl ?_
          refine r_aload_n K 1 dX12_token_75 rfl rfl ?_
          refine w_getI K vc12 inX12 2 (by decide) mF_RX12_104 dX12_token_76 H (fun x9 H => ?_)
          refine w_callV K hl H (fun r h => c_X12_byteAt l h) mC_yX12_byteAt mM_RX12_107 mI_yX12_byteAt mS_yX12_byteAt mZ_RX12 vc12 (Nat.le_of_ble_eq_true rfl) (Nat.le_of_ble_eq_true rfl) np_yX12_byteAt rfl (Nat.le_of_ble_eq_true rfl) dX12_token_79 (fun r10 H => ?_) ⟨Nat.zero_le _, Nat.zero_le _⟩
          refine w_callS K hl H (fun r h => c_X12_isDigit l h) mC_yX12_isDigit mM_RX12_114 mT_yX12_isDigit mZ_RX12 (Nat.le_of_ble_eq_true rfl) (Nat.le_of_ble_eq_true rfl) np_yX12_isDigit rfl (Nat.le_of_ble_eq_true rfl) dX12_token_82 (fun r11 H => ?_) ⟨Nat.zero_le _, Nat.zero_le _⟩
          refine w_if_eq K 92 dX12_token_85 (by decide) H (fun _ H => ?_) (fun _ H => ?_)
          · obtain ⟨z2, H2, rfl⟩ := jmap H
            exact r_sub [1, 0] rfl (t_X12_token_92 K hl H2 D)
          · refine r_iconst (v := 1) K dX12_token_88 (by decide) ?_
            refine r_goto K 93 dX12_token_89 (by decide) ?_
            obtain ⟨z2, H2, rfl⟩ := jmap H
            exact r_sub [1, 0] rfl (t_X12_token_93 K hl H2 D)
      · refine r_iconst (v := 2) K dX12_token_66 (by decide) ?_
        cases H
        simp only [Sum.elim_inr] at D
        obtain ⟨rfl, rfl⟩ := jfin2 D
        exact r_iret K dX12_token_67
    · refine r_iconst (v := 0) K dX12_token_48 (by decide) ?_
      cases H
      simp only [Sum.elim_inr] at D
      obtain ⟨rfl, rfl⟩ := jfin2 D
      exact r_iret K dX12_token_49
  · refine r_aload_n K 0 dX12_token_13 rfl rfl ?_
    refine r_aload_n K 0 dX12_token_14 rfl rfl ?_
    refine w_getI K vc12 inX12 2 (by decide) mF_RX12_104 dX12_token_15 H (fun x12 H => ?_)
    refine r_iconst (v := 1) K dX12_token_18 (by decide) ?_
    refine r_iadd K dX12_token_19 ?_
    refine w_put K vc12 inX12 tyX12_ok nmX12 2 (by decide) mF_RX12_104 rfl (fun _ => rfl) (fun _ => rfl) dX12_token_20 H (fun μ13 H => ?_)
    refine r_goto K 0 dX12_token_23 (by decide) ?_
    cases H
    exact r_sub [0] rfl D
set_option maxRecDepth 10000 in
theorem l_X12_token_0 {X : jX} {l : Launch} {n : Nat} {Y : jY} (K : jOK X RX12 cX12_token 3 (some .int) 2) (hl : X.2.1 = l) {rr : Int32} {μr : jM} {v0 : Nat}  {s0 : jM} {z : (Int32 × jM)} (H : jit jF (fun (s : jM) => b_X12_token_0 Y v0 s) s0 = some z) (D : z = (rr, μr)) : JW X (jEnd X n Y (some (.int rr)) μr 0 0) 0 0 n Y 0 [(0, .ref v0)] [] s0 :=
  jit_ind (P := fun (s : jM) => JW X (jEnd X n Y (some (.int rr)) μr 0 0) 0 0 n Y 0 [(0, .ref v0)] [] s) (D := fun r => r = (rr, μr)) (fun s z Hs Ds => t_X12_token_0 K hl Hs Ds) jF s0 z H D
def f_X12_token (Y : jY) (v0 : Nat) (μ : jM) : Option (Int32 × jM) := jit jF (fun (s : jM) => b_X12_token_0 Y v0 s) μ
theorem c_X12_token (l : Launch) {n : Nat} {Y : jY} {v0 : Nat} {μ : jM} {z : Int32 × jM} (H : f_X12_token Y v0 μ = some z) : jC l yX12_token cX12_token 3 (some .int) 2 0 0 [.ref v0] n Y μ n Y (some (.int z.1)) z.2 := by
  refine jC_of (by decide +kernel) (Nat.le_of_ble_eq_true rfl) (fun X hl K _ _ _ => ?_)
  obtain ⟨rr, μr⟩ := z
  unfold f_X12_token at H
  exact r_sub [0] rfl (l_X12_token_0 K hl H rfl)
/-! RX12 undo()I -/
def b_X12_undo_99 (Y : jY) (v0 : Nat) (v1 : Int32) (v2 : Int32) (μ : jM) : Option ((Int32 × jM) ⊕ (Int32 × jM)) :=
  if ((20 : Int32)) ≤ v2 then
    (jgI Y μ v0 12 25).bind fun x1 =>
    some (.inr (x1, μ))
  else
    (jgO Y μ v0 12 27).bind fun x2 =>
    (jgO Y μ v0 12 30).bind fun x3 =>
    (jaI Y μ x3 20 ((((((20 : Int32)) * v1)) + v2))).bind fun x4 =>
    (jas Y μ x2 20 v2 (.int x4)).bind fun μ5 =>
    (jgO Y μ5 v0 12 28).bind fun x6 =>
    (jgO Y μ5 v0 12 31).bind fun x7 =>
    (jaI Y μ5 x7 20 ((((((20 : Int32)) * v1)) + v2))).bind fun x8 =>
    (jas Y μ5 x6 20 v2 (.int x8)).bind fun μ9 =>
    some (.inl ((v2 + (1 : Int32)), μ9))
def b_X12_undo_91 (Y : jY) (v0 : Nat) (v1 : Int32) (v2 : Int32) (μ : jM) : Option ((Int32 × jM) ⊕ (Int32 × jM)) :=
  some (.inl ((v2 + (1 : Int32)), μ))
def b_X12_undo_33 (Y : jY) (v0 : Nat) (v1 : Int32) (v2 : Int32) (μ : jM) : Option ((Int32 × jM) ⊕ (Int32 × jM)) :=
  if ((4 : Int32)) ≤ v2 then
    (jit jF (fun (s : Int32 × jM) => b_X12_undo_99 Y v0 v1 s.1 s.2) ((0 : Int32), μ)).map (fun r => (.inr r))
  else
    (jgO Y μ v0 12 11).bind fun x1 =>
    (jgO Y μ v0 12 33).bind fun x2 =>
    (jaI Y μ x2 20 ((((((4 : Int32)) * v1)) + v2))).bind fun x3 =>
    (jas Y μ x1 20 v2 (.int x3)).bind fun μ4 =>
    (jgO Y μ4 v0 12 26).bind fun x5 =>
    (jgO Y μ4 v0 12 29).bind fun x6 =>
    (jaI Y μ4 x6 20 ((((((4 : Int32)) * v1)) + v2))).bind fun x7 =>
    (jas Y μ4 x5 20 v2 (.int x7)).bind fun μ8 =>
    if ((3 : Int32)) ≤ v2 then
      b_X12_undo_91 Y v0 v1 v2 μ8
    else
      (jgO Y μ8 v0 12 12).bind fun x9 =>
      (jgO Y μ8 v0 12 34).bind fun x10 =>
      (jaI Y μ8 x10 20 ((((((3 : Int32)) * v1)) + v2))).bind fun x11 =>
      (jas Y μ8 x9 20 v2 (.int x11)).bind fun μ12 =>
      b_X12_undo_91 Y v0 v1 v2 μ12
def f_X12_undo (Y : jY) (v0 : Nat) (μ : jM) : Option (Int32 × jM) :=
  (jgI Y μ v0 12 25).bind fun x1 =>
  if x1 = 0 then
    some ((-1 : Int32), μ)
  else
    (jgI Y μ v0 12 25).bind fun x2 =>
    (jput Y μ v0 12 25 (.int ((x2 - ((1 : Int32)))))).bind fun μ3 =>
    (jgO Y μ3 v0 12 32).bind fun x4 =>
    (jaI Y μ3 x4 20 ((x2 - ((1 : Int32))))).bind fun x5 =>
    (jput Y μ3 v0 12 10 (.int x5)).bind fun μ6 =>
    jit jF (fun (s : Int32 × jM) => b_X12_undo_33 Y v0 (x2 - ((1 : Int32))) s.1 s.2) ((0 : Int32), μ6)
set_option maxRecDepth 10000 in
theorem t_X12_undo_99 {X : jX} {l : Launch} {n : Nat} {Y : jY} (K : jOK X RX12 cX12_undo 3 (some .int) 1) (hl : X.2.1 = l) {rr : Int32} {μr : jM} {v0 : Nat} {v1 : Int32} {v2 : Int32} {μ : jM} {z : ((Int32 × jM) ⊕ (Int32 × jM))} (H : b_X12_undo_99 Y v0 v1 v2 μ = some z) (D : Sum.elim (fun (s : Int32 × jM) => JW X (jEnd X n Y (some (.int rr)) μr 0 0) 0 0 n Y 99 [(0, .ref v0), (1, .int v1), (2, .int s.1)] [] s.2) (fun r => r = (rr, μr)) z) : JW X (jEnd X n Y (some (.int rr)) μr 0 0) 0 0 n Y 99 [(0, .ref v0), (1, .int v1), (2, .int v2)] [] μ := by
  unfold b_X12_undo_99 at H
  refine r_iload_n K 2 dX12_undo_99 rfl rfl ?_
  refine r_bipush (v := 20) K dX12_undo_100 (by decide) ?_
  refine w_icmp_ge K 145 dX12_undo_102 (by decide) H (fun _ H => ?_) (fun _ H => ?_)
  · refine r_aload_n K 0 dX12_undo_145 rfl rfl ?_
    refine w_getI K vc12 inX12 25 (by decide) mF_RX12_148 dX12_undo_146 H (fun x1 H => ?_)
    cases H
    simp only [Sum.elim_inr] at D
    obtain ⟨rfl, rfl⟩ := jfin2 D
    exact r_iret K dX12_undo_149
  · refine r_aload_n K 0 dX12_undo_105 rfl rfl ?_
    refine w_getO K vc12 inX12 27 (by decide) mF_RX12_51 dX12_undo_106 H (fun x2 H => ?_)
    refine r_iload_n K 2 dX12_undo_109 rfl rfl ?_
    refine r_aload_n K 0 dX12_undo_110 rfl rfl ?_
    refine w_getO K vc12 inX12 30 (by decide) mF_RX12_60 dX12_undo_111 H (fun x3 H => ?_)
    refine r_bipush (v := 20) K dX12_undo_114 (by decide) ?_
    refine r_iload_n K 1 dX12_undo_116 rfl rfl ?_
    refine r_imul K dX12_undo_117 ?_
    refine r_iload_n K 2 dX12_undo_118 rfl rfl ?_
    refine r_iadd K dX12_undo_119 ?_
    refine w_iald K dX12_undo_120 H (fun x4 H => ?_)
    refine w_iast K dX12_undo_121 H (fun μ5 H => ?_)
    refine r_aload_n K 0 dX12_undo_122 rfl rfl ?_
    refine w_getO K vc12 inX12 28 (by decide) mF_RX12_54 dX12_undo_123 H (fun x6 H => ?_)
    refine r_iload_n K 2 dX12_undo_126 rfl rfl ?_
    refine r_aload_n K 0 dX12_undo_127 rfl rfl ?_
    refine w_getO K vc12 inX12 31 (by decide) mF_RX12_63 dX12_undo_128 H (fun x7 H => ?_)
    refine r_bipush (v := 20) K dX12_undo_131 (by decide) ?_
    refine r_iload_n K 1 dX12_undo_133 rfl rfl ?_
    refine r_imul K dX12_undo_134 ?_
    refine r_iload_n K 2 dX12_undo_135 rfl rfl ?_
    refine r_iadd K dX12_undo_136 ?_
    refine w_iald K dX12_undo_137 H (fun x8 H => ?_)
    refine w_iast K dX12_undo_138 H (fun μ9 H => ?_)
    refine r_iinc K 2 [(2, .int _), (0, .ref _), (1, .int _)] (v := _ + (1 : Int32)) dX12_undo_139 rfl rfl (by decide) rfl ?_
    refine r_goto K 99 dX12_undo_142 (by decide) ?_
    cases H
    exact r_sub [1, 2, 0] rfl D
set_option maxRecDepth 10000 in
theorem l_X12_undo_99 {X : jX} {l : Launch} {n : Nat} {Y : jY} (K : jOK X RX12 cX12_undo 3 (some .int) 1) (hl : X.2.1 = l) {rr : Int32} {μr : jM} {v0 : Nat} {v1 : Int32}  {s0 : Int32 × jM} {z : (Int32 × jM)} (H : jit jF (fun (s : Int32 × jM) => b_X12_undo_99 Y v0 v1 s.1 s.2) s0 = some z) (D : z = (rr, μr)) : JW X (jEnd X n Y (some (.int rr)) μr 0 0) 0 0 n Y 99 [(0, .ref v0), (1, .int v1), (2, .int s0.1)] [] s0.2 :=
  jit_ind (P := fun (s : Int32 × jM) => JW X (jEnd X n Y (some (.int rr)) μr 0 0) 0 0 n Y 99 [(0, .ref v0), (1, .int v1), (2, .int s.1)] [] s.2) (D := fun r => r = (rr, μr)) (fun s z Hs Ds => t_X12_undo_99 K hl Hs Ds) jF s0 z H D
set_option maxRecDepth 10000 in
theorem t_X12_undo_91 {X : jX} {l : Launch} {n : Nat} {Y : jY} (K : jOK X RX12 cX12_undo 3 (some .int) 1) (hl : X.2.1 = l) {rr : Int32} {μr : jM} {v0 : Nat} {v1 : Int32} {v2 : Int32} {μ : jM} {z : ((Int32 × jM) ⊕ (Int32 × jM))} (H : b_X12_undo_91 Y v0 v1 v2 μ = some z) (D : Sum.elim (fun (s : Int32 × jM) => JW X (jEnd X n Y (some (.int rr)) μr 0 0) 0 0 n Y 33 [(0, .ref v0), (1, .int v1), (2, .int s.1)] [] s.2) (fun r => r = (rr, μr)) z) : JW X (jEnd X n Y (some (.int rr)) μr 0 0) 0 0 n Y 91 [(0, .ref v0), (1, .int v1), (2, .int v2)] [] μ := by
  unfold b_X12_undo_91 at H
  refine r_iinc K 2 [(2, .int _), (0, .ref _), (1, .int _)] (v := _ + (1 : Int32)) dX12_undo_91 rfl rfl (by decide) rfl ?_
  refine r_goto K 33 dX12_undo_94 (by decide) ?_
  cases H
  exact r_sub [1, 2, 0] rfl D
set_option maxRecDepth 10000 in
theorem t_X12_undo_33 {X : jX} {l : Launch} {n : Nat} {Y : jY} (K : jOK X RX12 cX12_undo 3 (some .int) 1) (hl : X.2.1 = l) {rr : Int32} {μr : jM} {v0 : Nat} {v1 : Int32} {v2 : Int32} {μ : jM} {z : ((Int32 × jM) ⊕ (Int32 × jM))} (H : b_X12_undo_33 Y v0 v1 v2 μ = some z) (D : Sum.elim (fun (s : Int32 × jM) => JW X (jEnd X n Y (some (.int rr)) μr 0 0) 0 0 n Y 33 [(0, .ref v0), (1, .int v1), (2, .int s.1)] [] s.2) (fun r => r = (rr, μr)) z) : JW X (jEnd X n Y (some (.int rr)) μr 0 0) 0 0 n Y 33 [(0, .ref v0), (1, .int v1), (2, .int v2)] [] μ := by
  unfold b_X12_undo_33 at H
  refine r_iload_n K 2 dX12_undo_33 rfl rfl ?_
  refine r_iconst (v := 4) K dX12_undo_34 (by decide) ?_
  refine w_icmp_ge K 97 dX12_undo_35 (by decide) H (fun _ H => ?_) (fun _ H => ?_)
  · refine r_iconst (v := 0) K dX12_undo_97 (by decide) ?_
    refine r_istore_n K [(2, .int _), (0, .ref _), (1, .int _)] dX12_undo_98 rfl (by decide) rfl ?_
    obtain ⟨z2, H2, rfl⟩ := jmap H
    exact r_sub [1, 2, 0] rfl (l_X12_undo_99 K hl H2 D)
  · refine r_aload_n K 0 dX12_undo_38 rfl rfl ?_
    refine w_getO K vc12 inX12 11 (by decide) mF_RX12_20 dX12_undo_39 H (fun x1 H => ?_)
    refine r_iload_n K 2 dX12_undo_42 rfl rfl ?_
    refine r_aload_n K 0 dX12_undo_43 rfl rfl ?_
    refine w_getO K vc12 inX12 33 (by decide) mF_RX12_69 dX12_undo_44 H (fun x2 H => ?_)
    refine r_iconst (v := 4) K dX12_undo_47 (by decide) ?_
    refine r_iload_n K 1 dX12_undo_48 rfl rfl ?_
    refine r_imul K dX12_undo_49 ?_
    refine r_iload_n K 2 dX12_undo_50 rfl rfl ?_
    refine r_iadd K dX12_undo_51 ?_
    refine w_iald K dX12_undo_52 H (fun x3 H => ?_)
    refine w_iast K dX12_undo_53 H (fun μ4 H => ?_)
    refine r_aload_n K 0 dX12_undo_54 rfl rfl ?_
    refine w_getO K vc12 inX12 26 (by decide) mF_RX12_48 dX12_undo_55 H (fun x5 H => ?_)
    refine r_iload_n K 2 dX12_undo_58 rfl rfl ?_
    refine r_aload_n K 0 dX12_undo_59 rfl rfl ?_
    refine w_getO K vc12 inX12 29 (by decide) mF_RX12_57 dX12_undo_60 H (fun x6 H => ?_)
    refine r_iconst (v := 4) K dX12_undo_63 (by decide) ?_
    refine r_iload_n K 1 dX12_undo_64 rfl rfl ?_
    refine r_imul K dX12_undo_65 ?_
    refine r_iload_n K 2 dX12_undo_66 rfl rfl ?_
    refine r_iadd K dX12_undo_67 ?_
    refine w_iald K dX12_undo_68 H (fun x7 H => ?_)
    refine w_iast K dX12_undo_69 H (fun μ8 H => ?_)
    refine r_iload_n K 2 dX12_undo_70 rfl rfl ?_
    refine r_iconst (v := 3) K dX12_undo_71 (by decide) ?_
    refine w_icmp_ge K 91 dX12_undo_72 (by decide) H (fun _ H => ?_) (fun _ H => ?_)
    · exact r_sub [0, 1, 2] rfl (t_X12_undo_91 K hl H D)
    · refine r_aload_n K 0 dX12_undo_75 rfl rfl ?_
      refine w_getO K vc12 inX12 12 (by decide) mF_RX12_23 dX12_undo_76 H (fun x9 H => ?_)
      refine r_iload_n K 2 dX12_undo_79 rfl rfl ?_
      refine r_aload_n K 0 dX12_undo_80 rfl rfl ?_
      refine w_getO K vc12 inX12 34 (by decide) mF_RX12_72 dX12_undo_81 H (fun x10 H => ?_)
      refine r_iconst (v := 3) K dX12_undo_84 (by decide) ?_
      refine r_iload_n K 1 dX12_undo_85 rfl rfl ?_
      refine r_imul K dX12_undo_86 ?_
      refine r_iload_n K 2 dX12_undo_87 rfl rfl ?_
      refine r_iadd K dX12_undo_88 ?_
      refine w_iald K dX12_undo_89 H (fun x11 H => ?_)
      refine w_iast K dX12_undo_90 H (fun μ12 H => ?_)
      exact r_sub [0, 1, 2] rfl (t_X12_undo_91 K hl H D)
set_option maxRecDepth 10000 in
theorem l_X12_undo_33 {X : jX} {l : Launch} {n : Nat} {Y : jY} (K : jOK X RX12 cX12_undo 3 (some .int) 1) (hl : X.2.1 = l) {rr : Int32} {μr : jM} {v0 : Nat} {v1 : Int32}  {s0 : Int32 × jM} {z : (Int32 × jM)} (H : jit jF (fun (s : Int32 × jM) => b_X12_undo_33 Y v0 v1 s.1 s.2) s0 = some z) (D : z = (rr, μr)) : JW X (jEnd X n Y (some (.int rr)) μr 0 0) 0 0 n Y 33 [(0, .ref v0), (1, .int v1), (2, .int s0.1)] [] s0.2 :=
  jit_ind (P := fun (s : Int32 × jM) => JW X (jEnd X n Y (some (.int rr)) μr 0 0) 0 0 n Y 33 [(0, .ref v0), (1, .int v1), (2, .int s.1)] [] s.2) (D := fun r => r = (rr, μr)) (fun s z Hs Ds => t_X12_undo_33 K hl Hs Ds) jF s0 z H D
set_option maxRecDepth 10000 in
theorem t_X12_undo_0 {X : jX} {l : Launch} {n : Nat} {Y : jY} (K : jOK X RX12 cX12_undo 3 (some .int) 1) (hl : X.2.1 = l) {rr : Int32} {μr : jM} {v0 : Nat} {μ : jM} {z : (Int32 × jM)} (H : f_X12_undo Y v0 μ = some z) (D : z = (rr, μr)) : JW X (jEnd X n Y (some (.int rr)) μr 0 0) 0 0 n Y 0 [(0, .ref v0)] [] μ := by
  unfold f_X12_undo at H
  refine r_aload_n K 0 dX12_undo_0 rfl rfl ?_
  refine w_getI K vc12 inX12 25 (by decide) mF_RX12_148 dX12_undo_1 H (fun x1 H => ?_)
  refine w_if_ne K 9 dX12_undo_4 (by decide) H (fun _ H => ?_) (fun _ H => ?_)
  · refine r_aload_n K 0 dX12_undo_9 rfl rfl ?_
    refine w_getI K vc12 inX12 25 (by decide) mF_RX12_148 dX12_undo_10 H (fun x2 H => ?_)
    refine r_iconst (v := 1) K dX12_undo_13 (by decide) ?_
    refine r_isub K dX12_undo_14 ?_
    refine r_istore_n K [(1, .int _), (0, .ref _)] dX12_undo_15 rfl (by decide) rfl ?_
    refine r_aload_n K 1 dX12_undo_16 rfl rfl ?_
    refine r_iload_n K 0 dX12_undo_17 rfl rfl ?_
    refine w_put K vc12 inX12 tyX12_ok nmX12 25 (by decide) mF_RX12_148 rfl (fun _ => rfl) (fun _ => rfl) dX12_undo_18 H (fun μ3 H => ?_)
    refine r_aload_n K 1 dX12_undo_21 rfl rfl ?_
    refine r_aload_n K 1 dX12_undo_22 rfl rfl ?_
    refine w_getO K vc12 inX12 32 (by decide) mF_RX12_66 dX12_undo_23 H (fun x4 H => ?_)
    refine r_iload_n K 0 dX12_undo_26 rfl rfl ?_
    refine w_iald K dX12_undo_27 H (fun x5 H => ?_)
    refine w_put K vc12 inX12 tyX12_ok nmX12 10 (by decide) mF_RX12_145 rfl (fun _ => rfl) (fun _ => rfl) dX12_undo_28 H (fun μ6 H => ?_)
    refine r_iconst (v := 0) K dX12_undo_31 (by decide) ?_
    refine r_istore_n K [(2, .int _), (1, .int _), (0, .ref _)] dX12_undo_32 rfl (by decide) rfl ?_
    exact r_sub [2, 1, 0] rfl (l_X12_undo_33 K hl H D)
  · refine r_iconst (v := -1) K dX12_undo_7 (by decide) ?_
    cases H
    obtain ⟨rfl, rfl⟩ := jfin2 D
    exact r_iret K dX12_undo_8
theorem c_X12_undo (l : Launch) {n : Nat} {Y : jY} {v0 : Nat} {μ : jM} {z : Int32 × jM} (H : f_X12_undo Y v0 μ = some z) : jC l yX12_undo cX12_undo 3 (some .int) 1 0 0 [.ref v0] n Y μ n Y (some (.int z.1)) z.2 := by
  refine jC_of (by decide +kernel) (Nat.le_of_ble_eq_true rfl) (fun X hl K _ _ _ => ?_)
  obtain ⟨rr, μr⟩ := z
  exact t_X12_undo_0 K hl H rfl
/-! RX12 isEntry(IZI)Z -/
def b_X12_isEntry_25 (Y : jY) (t0 : Int32) (t1 : Int32) (t2 : Int32) (μ : jM) : Option (Int32 × jM) :=
  (f_X12_in Y t0 t1 t2 μ).bind fun r1 =>
  (jbool r1.1).bind fun x2 =>
  some (x2, r1.2)
def f_X12_isEntry (Y : jY) (v0 : Nat) (v1 : Int32) (v2 : Int32) (v3 : Int32) (μ : jM) : Option (Int32 × jM) :=
  if v2 = 0 then
    (jgO Y μ v0 12 26).bind fun x1 =>
    (jaI Y μ x1 20 v1).bind fun x2 =>
    b_X12_isEntry_25 Y v3 (0 : Int32) (x2 - ((2 : Int32))) μ
  else
    (jgO Y μ v0 12 26).bind fun x3 =>
    (jaI Y μ x3 20 v1).bind fun x4 =>
    b_X12_isEntry_25 Y v3 (0 : Int32) (x4 - ((1 : Int32))) μ
set_option maxRecDepth 10000 in
theorem t_X12_isEntry_25 {X : jX} {l : Launch} {n : Nat} {Y : jY} (K : jOK X RX12 cX12_isEntry 4 (some .boolean) 2) (hl : X.2.1 = l) {rr : Int32} {μr : jM} {t0 : Int32} {t1 : Int32} {t2 : Int32} {μ : jM} {z : (Int32 × jM)} (H : b_X12_isEntry_25 Y t0 t1 t2 μ = some z) (D : z = (rr, μr)) : JW X (jEnd X n Y (some (.int rr)) μr 0 0) 0 0 n Y 25 [] [.int t2, .int t1, .int t0] μ := by
  unfold b_X12_isEntry_25 at H
  refine w_callS K hl H (fun r h => c_X12_in l h) mC_yX12_in mM_RX12_134 mT_yX12_in mZ_RX12 (Nat.le_of_ble_eq_true rfl) (Nat.le_of_ble_eq_true rfl) np_yX12_in rfl (Nat.le_of_ble_eq_true rfl) dX12_isEntry_25 (fun r1 H => ?_) ⟨Nat.zero_le _, Nat.zero_le _⟩
  refine w_zret K dX12_isEntry_28 H (fun hz H => ?_)
  cases H
  obtain ⟨rfl, rfl⟩ := jfin2 D
  exact r_zret K hz dX12_isEntry_28
set_option maxRecDepth 10000 in
theorem t_X12_isEntry_0 {X : jX} {l : Launch} {n : Nat} {Y : jY} (K : jOK X RX12 cX12_isEntry 4 (some .boolean) 2) (hl : X.2.1 = l) {rr : Int32} {μr : jM} {v0 : Nat} {v1 : Int32} {v2 : Int32} {v3 : Int32} {μ : jM} {z : (Int32 × jM)} (H : f_X12_isEntry Y v0 v1 v2 v3 μ = some z) (D : z = (rr, μr)) : JW X (jEnd X n Y (some (.int rr)) μr 0 0) 0 0 n Y 0 [(0, .ref v0), (1, .int v1), (2, .int v2), (3, .int v3)] [] μ := by
  unfold f_X12_isEntry at H
  refine r_iload_n K 3 dX12_isEntry_0 rfl rfl ?_
  refine r_iconst (v := 0) K dX12_isEntry_1 (by decide) ?_
  refine r_iload_n K 2 dX12_isEntry_2 rfl rfl ?_
  refine w_if_eq K 17 dX12_isEntry_3 (by decide) H (fun _ H => ?_) (fun _ H => ?_)
  · refine r_aload_n K 0 dX12_isEntry_17 rfl rfl ?_
    refine w_getO K vc12 inX12 26 (by decide) mF_RX12_48 dX12_isEntry_18 H (fun x1 H => ?_)
    refine r_iload_n K 1 dX12_isEntry_21 rfl rfl ?_
    refine w_iald K dX12_isEntry_22 H (fun x2 H => ?_)
    refine r_iconst (v := 2) K dX12_isEntry_23 (by decide) ?_
    refine r_isub K dX12_isEntry_24 ?_
    exact r_sub [] rfl (t_X12_isEntry_25 K hl H D)
  · refine r_aload_n K 0 dX12_isEntry_6 rfl rfl ?_
    refine w_getO K vc12 inX12 26 (by decide) mF_RX12_48 dX12_isEntry_7 H (fun x3 H => ?_)
    refine r_iload_n K 1 dX12_isEntry_10 rfl rfl ?_
    refine w_iald K dX12_isEntry_11 H (fun x4 H => ?_)
    refine r_iconst (v := 1) K dX12_isEntry_12 (by decide) ?_
    refine r_isub K dX12_isEntry_13 ?_
    refine r_goto K 25 dX12_isEntry_14 (by decide) ?_
    exact r_sub [] rfl (t_X12_isEntry_25 K hl H D)
theorem c_X12_isEntry (l : Launch) {n : Nat} {Y : jY} {v0 : Nat} {v1 : Int32} {v2 : Int32} {v3 : Int32} {μ : jM} {z : Int32 × jM} (H : f_X12_isEntry Y v0 v1 v2 v3 μ = some z) : jC l yX12_isEntry cX12_isEntry 4 (some .boolean) 2 0 0 [.ref v0, .int v1, .int v2, .int v3] n Y μ n Y (some (.int z.1)) z.2 := by
  refine jC_of (by decide +kernel) (Nat.le_of_ble_eq_true rfl) (fun X hl K _ _ _ => ?_)
  obtain ⟨rr, μr⟩ := z
  exact t_X12_isEntry_0 K hl H rfl
/-! RX12 told(IZI)I -/
def b_X12_told__68 (Y : jY) (t0 : Int32) (μ : jM) : Option (Int32 × jM) :=
  some (t0, μ)
def f_X12_told_ (Y : jY) (v0 : Nat) (v1 : Int32) (v2 : Int32) (v3 : Int32) (μ : jM) : Option (Int32 × jM) :=
  (f_X12_isDrawer Y v1 μ).bind fun r1 =>
  if r1.1 = 0 then
    some ((-99 : Int32), r1.2)
  else
    (jgO Y r1.2 v0 12 26).bind fun x2 =>
    (jaI Y r1.2 x2 20 v1).bind fun x3 =>
    if x3 = 0 then
      some ((-100 : Int32), r1.2)
    else
      if v3 = ((-1 : Int32)) then
        (jgO Y r1.2 v0 12 26).bind fun x7 =>
        (jaI Y r1.2 x7 20 v1).bind fun x8 =>
        some (x8, r1.2)
      else
        (jrcv Y v0 12 (f_X12_isEntry Y v0 v1 v2 v3 r1.2)).bind fun r4 =>
        if r4.1 = 0 then
          b_X12_told__68 Y (-99 : Int32) r4.2
        else
          if v2 = 0 then
            (jrcv Y v0 12 (f_X12_c Y v0 v1 v3 r4.2)).bind fun r5 =>
            b_X12_told__68 Y r5.1 r5.2
          else
            (jrcv Y v0 12 (f_X12_a Y v0 v1 v3 r4.2)).bind fun r6 =>
            b_X12_told__68 Y r6.1 r6.2
set_option maxRecDepth 10000 in
theorem t_X12_told__68 {X : jX} {l : Launch} {n : Nat} {Y : jY} (K : jOK X RX12 cX12_told_ 4 (some .int) 3) (hl : X.2.1 = l) {rr : Int32} {μr : jM} {t0 : Int32} {μ : jM} {z : (Int32 × jM)} (H : b_X12_told__68 Y t0 μ = some z) (D : z = (rr, μr)) : JW X (jEnd X n Y (some (.int rr)) μr 0 0) 0 0 n Y 68 [] [.int t0] μ := by
  unfold b_X12_told__68 at H
  cases H
  obtain ⟨rfl, rfl⟩ := jfin2 D
  exact r_iret K dX12_told__68
set_option maxRecDepth 10000 in
theorem t_X12_told__0 {X : jX} {l : Launch} {n : Nat} {Y : jY} (K : jOK X RX12 cX12_told_ 4 (some .int) 3) (hl : X.2.1 = l) {rr : Int32} {μr : jM} {v0 : Nat} {v1 : Int32} {v2 : Int32} {v3 : Int32} {μ : jM} {z : (Int32 × jM)} (H : f_X12_told_ Y v0 v1 v2 v3 μ = some z) (D : z = (rr, μr)) : JW X (jEnd X n Y (some (.int rr)) μr 0 0) 0 0 n Y 0 [(0, .ref v0), (1, .int v1), (2, .int v2), (3, .int v3)] [] μ := by
  unfold f_X12_told_ at H
  refine r_iload_n K 1 dX12_told__0 rfl rfl ?_
  refine w_callS K hl H (fun r h => c_X12_isDrawer l h) mC_yX12_isDrawer mM_RX12_253 mT_yX12_isDrawer mZ_RX12 (Nat.le_of_ble_eq_true rfl) (Nat.le_of_ble_eq_true rfl) np_yX12_isDrawer rfl (Nat.le_of_ble_eq_true rfl) dX12_told__1 (fun r1 H => ?_) ⟨Nat.zero_le _, Nat.zero_le _⟩
  refine w_if_ne K 10 dX12_told__4 (by decide) H (fun _ H => ?_) (fun _ H => ?_)
  · refine r_aload_n K 0 dX12_told__10 rfl rfl ?_
    refine w_getO K vc12 inX12 26 (by decide) mF_RX12_48 dX12_told__11 H (fun x2 H => ?_)
    refine r_iload_n K 1 dX12_told__14 rfl rfl ?_
    refine w_iald K dX12_told__15 H (fun x3 H => ?_)
    refine w_if_ne K 22 dX12_told__16 (by decide) H (fun _ H => ?_) (fun _ H => ?_)
    · refine r_iload_n K 3 dX12_told__22 rfl rfl ?_
      refine r_iconst (v := -1) K dX12_told__23 (by decide) ?_
      refine w_icmp_ne K 34 dX12_told__24 (by decide) H (fun _ H => ?_) (fun _ H => ?_)
      · refine r_aload_n K 0 dX12_told__34 rfl rfl ?_
        refine r_iload_n K 1 dX12_told__35 rfl rfl ?_
        refine r_iload_n K 2 dX12_told__36 rfl rfl ?_
        refine r_iload_n K 3 dX12_told__37 rfl rfl ?_
        refine w_callV K hl H (fun r h => c_X12_isEntry l h) mC_yX12_isEntry mM_RX12_263 mI_yX12_isEntry mS_yX12_isEntry mZ_RX12 vc12 (Nat.le_of_ble_eq_true rfl) (Nat.le_of_ble_eq_true rfl) np_yX12_isEntry rfl (Nat.le_of_ble_eq_true rfl) dX12_told__38 (fun r4 H => ?_) ⟨Nat.zero_le _, Nat.zero_le _⟩
        refine w_if_ne K 49 dX12_told__41 (by decide) H (fun _ H => ?_) (fun _ H => ?_)
        · refine r_iload_n K 2 dX12_told__49 rfl rfl ?_
          refine w_if_eq K 62 dX12_told__50 (by decide) H (fun _ H => ?_) (fun _ H => ?_)
          · refine r_aload_n K 0 dX12_told__62 rfl rfl ?_
            refine r_iload_n K 1 dX12_told__63 rfl rfl ?_
            refine r_iload_n K 3 dX12_told__64 rfl rfl ?_
            refine w_callV K hl H (fun r h => c_X12_c l h) mC_yX12_c mM_RX12_260 mI_yX12_c mS_yX12_c mZ_RX12 vc12 (Nat.le_of_ble_eq_true rfl) (Nat.le_of_ble_eq_true rfl) np_yX12_c rfl (Nat.le_of_ble_eq_true rfl) dX12_told__65 (fun r5 H => ?_) ⟨Nat.zero_le _, Nat.zero_le _⟩
            exact r_sub [] rfl (t_X12_told__68 K hl H D)
          · refine r_aload_n K 0 dX12_told__53 rfl rfl ?_
            refine r_iload_n K 1 dX12_told__54 rfl rfl ?_
            refine r_iload_n K 3 dX12_told__55 rfl rfl ?_
            refine w_callV K hl H (fun r h => c_X12_a l h) mC_yX12_a mM_RX12_256 mI_yX12_a mS_yX12_a mZ_RX12 vc12 (Nat.le_of_ble_eq_true rfl) (Nat.le_of_ble_eq_true rfl) np_yX12_a rfl (Nat.le_of_ble_eq_true rfl) dX12_told__56 (fun r6 H => ?_) ⟨Nat.zero_le _, Nat.zero_le _⟩
            refine r_goto K 68 dX12_told__59 (by decide) ?_
            exact r_sub [] rfl (t_X12_told__68 K hl H D)
        · refine r_bipush (v := -99) K dX12_told__44 (by decide) ?_
          refine r_goto K 68 dX12_told__46 (by decide) ?_
          exact r_sub [] rfl (t_X12_told__68 K hl H D)
      · refine r_aload_n K 0 dX12_told__27 rfl rfl ?_
        refine w_getO K vc12 inX12 26 (by decide) mF_RX12_48 dX12_told__28 H (fun x7 H => ?_)
        refine r_iload_n K 1 dX12_told__31 rfl rfl ?_
        refine w_iald K dX12_told__32 H (fun x8 H => ?_)
        cases H
        obtain ⟨rfl, rfl⟩ := jfin2 D
        exact r_iret K dX12_told__33
    · refine r_bipush (v := -100) K dX12_told__19 (by decide) ?_
      cases H
      obtain ⟨rfl, rfl⟩ := jfin2 D
      exact r_iret K dX12_told__21
  · refine r_bipush (v := -99) K dX12_told__7 (by decide) ?_
    cases H
    obtain ⟨rfl, rfl⟩ := jfin2 D
    exact r_iret K dX12_told__9
theorem c_X12_told_ (l : Launch) {n : Nat} {Y : jY} {v0 : Nat} {v1 : Int32} {v2 : Int32} {v3 : Int32} {μ : jM} {z : Int32 × jM} (H : f_X12_told_ Y v0 v1 v2 v3 μ = some z) : jC l yX12_told_ cX12_told_ 4 (some .int) 3 0 0 [.ref v0, .int v1, .int v2, .int v3] n Y μ n Y (some (.int z.1)) z.2 := by
  refine jC_of (by decide +kernel) (Nat.le_of_ble_eq_true rfl) (fun X hl K _ _ _ => ?_)
  obtain ⟨rr, μr⟩ := z
  exact t_X12_told__0 K hl H rfl
/-! RX12 reduces()V -/
def b_X12_reduces_27 (Y : jY) (v0 : Nat) (t0 : Int64) (μ : jM) : Option (jM) :=
  (jgL Y μ v0 12 16).bind fun x1 =>
  (jdivL x1 t0).bind fun x2 =>
  (jput Y μ v0 12 16 (.long x2)).bind fun μ3 =>
  (jgL Y μ3 v0 12 17).bind fun x4 =>
  (jdivL x4 t0).bind fun x5 =>
  (jput Y μ3 v0 12 17 (.long x5)).bind fun μ6 =>
  some μ6
def f_X12_reduces (Y : jY) (v0 : Nat) (μ : jM) : Option (jM) :=
  (jgL Y μ v0 12 16).bind fun x1 =>
  (jgL Y μ v0 12 17).bind fun x2 =>
  (f_X12_common Y x1 x2 μ).bind fun r3 =>
  (jgL Y r3.2 v0 12 17).bind fun x4 =>
  if 0 ≤ ((lg_cmp x4 ((0 : Int64)))) then
    b_X12_reduces_27 Y v0 r3.1 r3.2
  else
    b_X12_reduces_27 Y v0 (-r3.1) r3.2
set_option maxRecDepth 10000 in
theorem t_X12_reduces_27 {X : jX} {l : Launch} {n : Nat} {Y : jY} (K : jOK X RX12 cX12_reduces 3 none 2) (hl : X.2.1 = l) {μr : jM} {v0 : Nat} {t0 : Int64} {μ : jM} {z : (jM)} (H : b_X12_reduces_27 Y v0 t0 μ = some z) (D : z = μr) : JW X (jEnd X n Y none μr 0 0) 0 0 n Y 27 [(0, .ref v0)] [.long t0] μ := by
  unfold b_X12_reduces_27 at H
  refine r_lstore_n K [(1, .long _), (0, .ref _)] dX12_reduces_27 rfl (by decide) rfl ?_
  refine r_aload_n K 1 dX12_reduces_28 rfl rfl ?_
  refine r_aload_n K 1 dX12_reduces_29 rfl rfl ?_
  refine w_getL K vc12 inX12 16 (by decide) mF_RX12_177 dX12_reduces_30 H (fun x1 H => ?_)
  refine r_lload_n K 0 dX12_reduces_33 rfl rfl ?_
  refine w_ldiv K dX12_reduces_34 H (fun x2 H => ?_)
  refine w_put K vc12 inX12 tyX12_ok nmX12 16 (by decide) mF_RX12_177 rfl (fun _ => rfl) (fun _ => rfl) dX12_reduces_35 H (fun μ3 H => ?_)
  refine r_aload_n K 1 dX12_reduces_38 rfl rfl ?_
  refine r_aload_n K 1 dX12_reduces_39 rfl rfl ?_
  refine w_getL K vc12 inX12 17 (by decide) mF_RX12_181 dX12_reduces_40 H (fun x4 H => ?_)
  refine r_lload_n K 0 dX12_reduces_43 rfl rfl ?_
  refine w_ldiv K dX12_reduces_44 H (fun x5 H => ?_)
  refine w_put K vc12 inX12 tyX12_ok nmX12 17 (by decide) mF_RX12_181 rfl (fun _ => rfl) (fun _ => rfl) dX12_reduces_45 H (fun μ6 H => ?_)
  cases H
  subst D
  exact r_vret K dX12_reduces_48
set_option maxRecDepth 10000 in
theorem t_X12_reduces_0 {X : jX} {l : Launch} {n : Nat} {Y : jY} (K : jOK X RX12 cX12_reduces 3 none 2) (hl : X.2.1 = l) {μr : jM} {v0 : Nat} {μ : jM} {z : (jM)} (H : f_X12_reduces Y v0 μ = some z) (D : z = μr) : JW X (jEnd X n Y none μr 0 0) 0 0 n Y 0 [(0, .ref v0)] [] μ := by
  unfold f_X12_reduces at H
  refine r_aload_n K 0 dX12_reduces_0 rfl rfl ?_
  refine w_getL K vc12 inX12 16 (by decide) mF_RX12_177 dX12_reduces_1 H (fun x1 H => ?_)
  refine r_aload_n K 0 dX12_reduces_4 rfl rfl ?_
  refine w_getL K vc12 inX12 17 (by decide) mF_RX12_181 dX12_reduces_5 H (fun x2 H => ?_)
  refine w_callS K hl H (fun r h => c_X12_common l h) mC_yX12_common mM_RX12_184 mT_yX12_common mZ_RX12 (Nat.le_of_ble_eq_true rfl) (Nat.le_of_ble_eq_true rfl) np_yX12_common rfl (Nat.le_of_ble_eq_true rfl) dX12_reduces_8 (fun r3 H => ?_) ⟨Nat.zero_le _, Nat.zero_le _⟩
  refine r_lstore_n K [(1, .long _), (0, .ref _)] dX12_reduces_11 rfl (by decide) rfl ?_
  refine r_aload_n K 1 dX12_reduces_12 rfl rfl ?_
  refine w_getL K vc12 inX12 17 (by decide) mF_RX12_181 dX12_reduces_13 H (fun x4 H => ?_)
  refine r_lconst (v := 0) K dX12_reduces_16 (by decide) ?_
  refine r_lcmp K dX12_reduces_17 ?_
  refine w_if_ge K 26 dX12_reduces_18 (by decide) H (fun _ H => ?_) (fun _ H => ?_)
  · refine r_lload_n K 0 dX12_reduces_26 rfl rfl ?_
    exact r_sub [1] rfl (t_X12_reduces_27 K hl H D)
  · refine r_lload_n K 0 dX12_reduces_21 rfl rfl ?_
    refine r_lneg K dX12_reduces_22 ?_
    refine r_goto K 27 dX12_reduces_23 (by decide) ?_
    exact r_sub [1] rfl (t_X12_reduces_27 K hl H D)
theorem c_X12_reduces (l : Launch) {n : Nat} {Y : jY} {v0 : Nat} {μ : jM} {z : jM} (H : f_X12_reduces Y v0 μ = some z) : jC l yX12_reduces cX12_reduces 3 none 2 0 0 [.ref v0] n Y μ n Y none z := by
  refine jC_of (by decide +kernel) (Nat.le_of_ble_eq_true rfl) (fun X hl K _ _ _ => ?_)
  exact t_X12_reduces_0 K hl H rfl
