/-! RX12 adds(JJ)V -/
def f_X12_adds (Y : jY) (v0 : Nat) (v1 : Int64) (v3 : Int64) (μ : jM) : Option (jM) :=
  (f_X12_common Y v1 v3 μ).bind fun r1 =>
  (jdivL v1 r1.1).bind fun x2 =>
  (jdivL v3 r1.1).bind fun x3 =>
  (jgL Y r1.2 v0 12 17).bind fun x4 =>
  (f_X12_common Y x4 x3 r1.2).bind fun r5 =>
  (jgL Y r5.2 v0 12 16).bind fun x6 =>
  (jdivL x3 r5.1).bind fun x7 =>
  (jgL Y r5.2 v0 12 17).bind fun x8 =>
  (jdivL x8 r5.1).bind fun x9 =>
  (jput Y r5.2 v0 12 16 (.long ((((x6 * x7)) + ((x2 * x9)))))).bind fun μ10 =>
  (jgL Y μ10 v0 12 17).bind fun x11 =>
  (jdivL x11 r5.1).bind fun x12 =>
  (jput Y μ10 v0 12 17 (.long ((x12 * x3)))).bind fun μ13 =>
  (jrcv Y v0 12 (f_X12_reduces Y v0 μ13)).bind fun μ14 =>
  some μ14
set_option maxRecDepth 10000 in
theorem t_X12_adds_0 {X : jX} {l : Launch} {n : Nat} {Y : jY} (K : jOK X RX12 cX12_adds 13 none 3) (hl : X.2.1 = l) {μr : jM} {v0 : Nat} {v1 : Int64} {v3 : Int64} {μ : jM} {z : (jM)} (H : f_X12_adds Y v0 v1 v3 μ = some z) (D : z = μr) : JW X (jEnd X n Y none μr 0 0) 0 0 n Y 0 [(0, .ref v0), (1, .long v1), (3, .long v3)] [] μ := by
  unfold f_X12_adds at H
  refine r_lload_n K 1 dX12_adds_0 rfl rfl ?_
  refine r_lload_n K 2 dX12_adds_1 rfl rfl ?_
  refine w_callS K hl H (fun r h => c_X12_common l h) mC_yX12_common mM_RX12_184 mT_yX12_common mZ_RX12 (Nat.le_of_ble_eq_true rfl) (Nat.le_of_ble_eq_true rfl) np_yX12_common rfl (Nat.le_of_ble_eq_true rfl) dX12_adds_2 (fun r1 H => ?_) ⟨Nat.zero_le _, Nat.zero_le _⟩
  refine r_lstore K [(5, .long _), (0, .ref _), (1, .long _), (3, .long _)] dX12_adds_5 (by decide) rfl ?_
  refine r_lload_n K 2 dX12_adds_7 rfl rfl ?_
  refine r_lload K 0 dX12_adds_8 rfl ?_
  refine w_ldiv K dX12_adds_10 H (fun x2 H => ?_)
  refine r_lstore K [(7, .long _), (5, .long _), (0, .ref _), (1, .long _), (3, .long _)] dX12_adds_11 (by decide) rfl ?_
  refine r_lload_n K 4 dX12_adds_13 rfl rfl ?_
  refine r_lload K 1 dX12_adds_14 rfl ?_
  refine w_ldiv K dX12_adds_16 H (fun x3 H => ?_)
  refine r_lstore K [(9, .long _), (7, .long _), (5, .long _), (0, .ref _), (1, .long _), (3, .long _)] dX12_adds_17 (by decide) rfl ?_
  refine r_aload_n K 3 dX12_adds_19 rfl rfl ?_
  refine w_getL K vc12 inX12 17 (by decide) mF_RX12_181 dX12_adds_20 H (fun x4 H => ?_)
  refine r_lload K 0 dX12_adds_23 rfl ?_
  refine w_callS K hl H (fun r h => c_X12_common l h) mC_yX12_common mM_RX12_184 mT_yX12_common mZ_RX12 (Nat.le_of_ble_eq_true rfl) (Nat.le_of_ble_eq_true rfl) np_yX12_common rfl (Nat.le_of_ble_eq_true rfl) dX12_adds_25 (fun r5 H => ?_) ⟨Nat.zero_le _, Nat.zero_le _⟩
  refine r_lstore K [(11, .long _), (9, .long _), (7, .long _), (5, .long _), (0, .ref _), (1, .long _), (3, .long _)] dX12_adds_28 (by decide) rfl ?_
  refine r_aload_n K 4 dX12_adds_30 rfl rfl ?_
  refine r_aload_n K 4 dX12_adds_31 rfl rfl ?_
  refine w_getL K vc12 inX12 16 (by decide) mF_RX12_177 dX12_adds_32 H (fun x6 H => ?_)
  refine r_lload K 1 dX12_adds_35 rfl ?_
  refine r_lload K 0 dX12_adds_37 rfl ?_
  refine w_ldiv K dX12_adds_39 H (fun x7 H => ?_)
  refine r_lmul K dX12_adds_40 ?_
  refine r_lload K 2 dX12_adds_41 rfl ?_
  refine r_aload_n K 4 dX12_adds_43 rfl rfl ?_
  refine w_getL K vc12 inX12 17 (by decide) mF_RX12_181 dX12_adds_44 H (fun x8 H => ?_)
  refine r_lload K 0 dX12_adds_47 rfl ?_
  refine w_ldiv K dX12_adds_49 H (fun x9 H => ?_)
  refine r_lmul K dX12_adds_50 ?_
  refine r_ladd K dX12_adds_51 ?_
  refine w_put K vc12 inX12 tyX12_ok nmX12 16 (by decide) mF_RX12_177 rfl (fun _ => rfl) (fun _ => rfl) dX12_adds_52 H (fun μ10 H => ?_)
  refine r_aload_n K 4 dX12_adds_55 rfl rfl ?_
  refine r_aload_n K 4 dX12_adds_56 rfl rfl ?_
  refine w_getL K vc12 inX12 17 (by decide) mF_RX12_181 dX12_adds_57 H (fun x11 H => ?_)
  refine r_lload K 0 dX12_adds_60 rfl ?_
  refine w_ldiv K dX12_adds_62 H (fun x12 H => ?_)
  refine r_lload K 1 dX12_adds_63 rfl ?_
  refine r_lmul K dX12_adds_65 ?_
  refine w_put K vc12 inX12 tyX12_ok nmX12 17 (by decide) mF_RX12_181 rfl (fun _ => rfl) (fun _ => rfl) dX12_adds_66 H (fun μ13 H => ?_)
  refine r_aload_n K 4 dX12_adds_69 rfl rfl ?_
  refine w_callV K hl H (fun r h => c_X12_reduces l h) mC_yX12_reduces mM_RX12_188 mI_yX12_reduces mS_yX12_reduces mZ_RX12 vc12 (Nat.le_of_ble_eq_true rfl) (Nat.le_of_ble_eq_true rfl) np_yX12_reduces rfl (Nat.le_of_ble_eq_true rfl) dX12_adds_70 (fun μ14 H => ?_) ⟨Nat.zero_le _, Nat.zero_le _⟩
  cases H
  subst D
  exact r_vret K dX12_adds_73
theorem c_X12_adds (l : Launch) {n : Nat} {Y : jY} {v0 : Nat} {v1 : Int64} {v3 : Int64} {μ : jM} {z : jM} (H : f_X12_adds Y v0 v1 v3 μ = some z) : jC l yX12_adds cX12_adds 13 none 3 0 0 [.ref v0, .long v1, .long v3] n Y μ n Y none z := by
  refine jC_of (by decide +kernel) (Nat.le_of_ble_eq_true rfl) (fun X hl K _ _ _ => ?_)
  exact t_X12_adds_0 K hl H rfl
/-! RX12 sets(JJ)V -/
def f_X12_sets (Y : jY) (v0 : Nat) (v1 : Int64) (v3 : Int64) (μ : jM) : Option (jM) :=
  (jput Y μ v0 12 16 (.long v1)).bind fun μ1 =>
  (jput Y μ1 v0 12 17 (.long v3)).bind fun μ2 =>
  (jrcv Y v0 12 (f_X12_reduces Y v0 μ2)).bind fun μ3 =>
  some μ3
set_option maxRecDepth 10000 in
theorem t_X12_sets_0 {X : jX} {l : Launch} {n : Nat} {Y : jY} (K : jOK X RX12 cX12_sets 5 none 3) (hl : X.2.1 = l) {μr : jM} {v0 : Nat} {v1 : Int64} {v3 : Int64} {μ : jM} {z : (jM)} (H : f_X12_sets Y v0 v1 v3 μ = some z) (D : z = μr) : JW X (jEnd X n Y none μr 0 0) 0 0 n Y 0 [(0, .ref v0), (1, .long v1), (3, .long v3)] [] μ := by
  unfold f_X12_sets at H
  refine r_aload_n K 0 dX12_sets_0 rfl rfl ?_
  refine r_lload_n K 1 dX12_sets_1 rfl rfl ?_
  refine w_put K vc12 inX12 tyX12_ok nmX12 16 (by decide) mF_RX12_177 rfl (fun _ => rfl) (fun _ => rfl) dX12_sets_2 H (fun μ1 H => ?_)
  refine r_aload_n K 0 dX12_sets_5 rfl rfl ?_
  refine r_lload_n K 2 dX12_sets_6 rfl rfl ?_
  refine w_put K vc12 inX12 tyX12_ok nmX12 17 (by decide) mF_RX12_181 rfl (fun _ => rfl) (fun _ => rfl) dX12_sets_7 H (fun μ2 H => ?_)
  refine r_aload_n K 0 dX12_sets_10 rfl rfl ?_
  refine w_callV K hl H (fun r h => c_X12_reduces l h) mC_yX12_reduces mM_RX12_188 mI_yX12_reduces mS_yX12_reduces mZ_RX12 vc12 (Nat.le_of_ble_eq_true rfl) (Nat.le_of_ble_eq_true rfl) np_yX12_reduces rfl (Nat.le_of_ble_eq_true rfl) dX12_sets_11 (fun μ3 H => ?_) ⟨Nat.zero_le _, Nat.zero_le _⟩
  cases H
  subst D
  exact r_vret K dX12_sets_14
theorem c_X12_sets (l : Launch) {n : Nat} {Y : jY} {v0 : Nat} {v1 : Int64} {v3 : Int64} {μ : jM} {z : jM} (H : f_X12_sets Y v0 v1 v3 μ = some z) : jC l yX12_sets cX12_sets 5 none 3 0 0 [.ref v0, .long v1, .long v3] n Y μ n Y none z := by
  refine jC_of (by decide +kernel) (Nat.le_of_ble_eq_true rfl) (fun X hl K _ _ _ => ?_)
  exact t_X12_sets_0 K hl H rfl
/-! RX12 sumTo(I)V -/
def b_X12_sumTo_59 (Y : jY) (μ : jM) : Option (jM) :=
  some μ
def f_X12_sumTo (Y : jY) (v0 : Nat) (v1 : Int32) (μ : jM) : Option (jM) :=
  (jgI Y μ v0 12 10).bind fun x1 =>
  if v1 = x1 then
    (jgO Y μ v0 12 13).bind fun x6 =>
    (jgI Y μ v0 12 10).bind fun x7 =>
    (jaL Y μ x6 21 ((x7 - ((1 : Int32))))).bind fun x8 =>
    (jrcv Y v0 12 (f_X12_sets Y v0 ((-x8)) ((1 : Int64)) μ)).bind fun μ9 =>
    b_X12_sumTo_59 Y μ9
  else
    if v1 = 0 then
      (jrcv Y v0 12 (f_X12_sets Y v0 ((0 : Int64)) ((1 : Int64)) μ)).bind fun μ5 =>
      b_X12_sumTo_59 Y μ5
    else
      (jrcv Y v0 12 (f_X12_minor Y v0 v1 ((0 : Int32)) ((v1 - ((1 : Int32)))) μ)).bind fun r2 =>
      (jrcv Y v0 12 (f_X12_hankel Y v0 v1 r2.2)).bind fun r3 =>
      (jrcv Y v0 12 (f_X12_sets Y v0 r2.1 r3.1 r3.2)).bind fun μ4 =>
      b_X12_sumTo_59 Y μ4
set_option maxRecDepth 10000 in
theorem t_X12_sumTo_59 {X : jX} {l : Launch} {n : Nat} {Y : jY} (K : jOK X RX12 cX12_sumTo 2 none 6) (hl : X.2.1 = l) {μr : jM} {μ : jM} {z : (jM)} (H : b_X12_sumTo_59 Y μ = some z) (D : z = μr) : JW X (jEnd X n Y none μr 0 0) 0 0 n Y 59 [] [] μ := by
  unfold b_X12_sumTo_59 at H
  cases H
  subst D
  exact r_vret K dX12_sumTo_59
set_option maxRecDepth 10000 in
theorem t_X12_sumTo_0 {X : jX} {l : Launch} {n : Nat} {Y : jY} (K : jOK X RX12 cX12_sumTo 2 none 6) (hl : X.2.1 = l) {μr : jM} {v0 : Nat} {v1 : Int32} {μ : jM} {z : (jM)} (H : f_X12_sumTo Y v0 v1 μ = some z) (D : z = μr) : JW X (jEnd X n Y none μr 0 0) 0 0 n Y 0 [(0, .ref v0), (1, .int v1)] [] μ := by
  unfold f_X12_sumTo at H
  refine r_iload_n K 1 dX12_sumTo_0 rfl rfl ?_
  refine r_aload_n K 0 dX12_sumTo_1 rfl rfl ?_
  refine w_getI K vc12 inX12 10 (by decide) mF_RX12_145 dX12_sumTo_2 H (fun x1 H => ?_)
  refine w_icmp_ne K 28 dX12_sumTo_5 (by decide) H (fun _ H => ?_) (fun _ H => ?_)
  · refine r_iload_n K 1 dX12_sumTo_28 rfl rfl ?_
    refine w_if_ne K 41 dX12_sumTo_29 (by decide) H (fun _ H => ?_) (fun _ H => ?_)
    · refine r_aload_n K 0 dX12_sumTo_41 rfl rfl ?_
      refine r_aload_n K 0 dX12_sumTo_42 rfl rfl ?_
      refine r_iload_n K 1 dX12_sumTo_43 rfl rfl ?_
      refine r_iconst (v := 0) K dX12_sumTo_44 (by decide) ?_
      refine r_iload_n K 1 dX12_sumTo_45 rfl rfl ?_
      refine r_iconst (v := 1) K dX12_sumTo_46 (by decide) ?_
      refine r_isub K dX12_sumTo_47 ?_
      refine w_callV K hl H (fun r h => c_X12_minor l h) mC_yX12_minor mM_RX12_173 mI_yX12_minor mS_yX12_minor mZ_RX12 vc12 (Nat.le_of_ble_eq_true rfl) (Nat.le_of_ble_eq_true rfl) np_yX12_minor rfl (Nat.le_of_ble_eq_true rfl) dX12_sumTo_48 (fun r2 H => ?_) ⟨Nat.zero_le _, Nat.zero_le _⟩
      refine r_aload_n K 0 dX12_sumTo_51 rfl rfl ?_
      refine r_iload_n K 1 dX12_sumTo_52 rfl rfl ?_
      refine w_callV K hl H (fun r h => c_X12_hankel l h) mC_yX12_hankel mM_RX12_199 mI_yX12_hankel mS_yX12_hankel mZ_RX12 vc12 (Nat.le_of_ble_eq_true rfl) (Nat.le_of_ble_eq_true rfl) np_yX12_hankel rfl (Nat.le_of_ble_eq_true rfl) dX12_sumTo_53 (fun r3 H => ?_) ⟨Nat.zero_le _, Nat.zero_le _⟩
      refine w_callV K hl H (fun r h => c_X12_sets l h) mC_yX12_sets mM_RX12_191 mI_yX12_sets mS_yX12_sets mZ_RX12 vc12 (Nat.le_of_ble_eq_true rfl) (Nat.le_of_ble_eq_true rfl) np_yX12_sets rfl (Nat.le_of_ble_eq_true rfl) dX12_sumTo_56 (fun μ4 H => ?_) ⟨Nat.zero_le _, Nat.zero_le _⟩
      exact r_sub [] rfl (t_X12_sumTo_59 K hl H D)
    · refine r_aload_n K 0 dX12_sumTo_32 rfl rfl ?_
      refine r_lconst (v := 0) K dX12_sumTo_33 (by decide) ?_
      refine r_lconst (v := 1) K dX12_sumTo_34 (by decide) ?_
      refine w_callV K hl H (fun r h => c_X12_sets l h) mC_yX12_sets mM_RX12_191 mI_yX12_sets mS_yX12_sets mZ_RX12 vc12 (Nat.le_of_ble_eq_true rfl) (Nat.le_of_ble_eq_true rfl) np_yX12_sets rfl (Nat.le_of_ble_eq_true rfl) dX12_sumTo_35 (fun μ5 H => ?_) ⟨Nat.zero_le _, Nat.zero_le _⟩
      refine r_goto K 59 dX12_sumTo_38 (by decide) ?_
      exact r_sub [] rfl (t_X12_sumTo_59 K hl H D)
  · refine r_aload_n K 0 dX12_sumTo_8 rfl rfl ?_
    refine r_aload_n K 0 dX12_sumTo_9 rfl rfl ?_
    refine w_getO K vc12 inX12 13 (by decide) mF_RX12_26 dX12_sumTo_10 H (fun x6 H => ?_)
    refine r_aload_n K 0 dX12_sumTo_13 rfl rfl ?_
    refine w_getI K vc12 inX12 10 (by decide) mF_RX12_145 dX12_sumTo_14 H (fun x7 H => ?_)
    refine r_iconst (v := 1) K dX12_sumTo_17 (by decide) ?_
    refine r_isub K dX12_sumTo_18 ?_
    refine w_lald K dX12_sumTo_19 H (fun x8 H => ?_)
    refine r_lneg K dX12_sumTo_20 ?_
    refine r_lconst (v := 1) K dX12_sumTo_21 (by decide) ?_
    refine w_callV K hl H (fun r h => c_X12_sets l h) mC_yX12_sets mM_RX12_191 mI_yX12_sets mS_yX12_sets mZ_RX12 vc12 (Nat.le_of_ble_eq_true rfl) (Nat.le_of_ble_eq_true rfl) np_yX12_sets rfl (Nat.le_of_ble_eq_true rfl) dX12_sumTo_22 (fun μ9 H => ?_) ⟨Nat.zero_le _, Nat.zero_le _⟩
    refine r_goto K 59 dX12_sumTo_25 (by decide) ?_
    exact r_sub [] rfl (t_X12_sumTo_59 K hl H D)
theorem c_X12_sumTo (l : Launch) {n : Nat} {Y : jY} {v0 : Nat} {v1 : Int32} {μ : jM} {z : jM} (H : f_X12_sumTo Y v0 v1 μ = some z) : jC l yX12_sumTo cX12_sumTo 2 none 6 0 0 [.ref v0, .int v1] n Y μ n Y none z := by
  refine jC_of (by decide +kernel) (Nat.le_of_ble_eq_true rfl) (fun X hl K _ _ _ => ?_)
  exact t_X12_sumTo_0 K hl H rfl
/-! RX12 laysA(I)V -/
def f_X12_laysA (Y : jY) (v0 : Nat) (v1 : Int32) (μ : jM) : Option (jM) :=
  (jrcv Y v0 12 (f_X12_sumTo Y v0 v1 μ)).bind fun μ1 =>
  (jgL Y μ1 v0 12 16).bind fun x2 =>
  (jgL Y μ1 v0 12 17).bind fun x3 =>
  (jrcv Y v0 12 (f_X12_sumTo Y v0 ((v1 + ((1 : Int32)))) μ1)).bind fun μ4 =>
  (jrcv Y v0 12 (f_X12_adds Y v0 ((-x2)) x3 μ4)).bind fun μ5 =>
  some μ5
set_option maxRecDepth 10000 in
theorem t_X12_laysA_0 {X : jX} {l : Launch} {n : Nat} {Y : jY} (K : jOK X RX12 cX12_laysA 6 none 7) (hl : X.2.1 = l) {μr : jM} {v0 : Nat} {v1 : Int32} {μ : jM} {z : (jM)} (H : f_X12_laysA Y v0 v1 μ = some z) (D : z = μr) : JW X (jEnd X n Y none μr 0 0) 0 0 n Y 0 [(0, .ref v0), (1, .int v1)] [] μ := by
  unfold f_X12_laysA at H
  refine r_aload_n K 0 dX12_laysA_0 rfl rfl ?_
  refine r_iload_n K 1 dX12_laysA_1 rfl rfl ?_
  refine w_callV K hl H (fun r h => c_X12_sumTo l h) mC_yX12_sumTo mM_RX12_202 mI_yX12_sumTo mS_yX12_sumTo mZ_RX12 vc12 (Nat.le_of_ble_eq_true rfl) (Nat.le_of_ble_eq_true rfl) np_yX12_sumTo rfl (Nat.le_of_ble_eq_true rfl) dX12_laysA_2 (fun μ1 H => ?_) ⟨Nat.zero_le _, Nat.zero_le _⟩
  refine r_aload_n K 0 dX12_laysA_5 rfl rfl ?_
  refine w_getL K vc12 inX12 16 (by decide) mF_RX12_177 dX12_laysA_6 H (fun x2 H => ?_)
  refine r_lstore_n K [(2, .long _), (0, .ref _), (1, .int _)] dX12_laysA_9 rfl (by decide) rfl ?_
  refine r_aload_n K 1 dX12_laysA_10 rfl rfl ?_
  refine w_getL K vc12 inX12 17 (by decide) mF_RX12_181 dX12_laysA_11 H (fun x3 H => ?_)
  refine r_lstore K [(4, .long _), (2, .long _), (0, .ref _), (1, .int _)] dX12_laysA_14 (by decide) rfl ?_
  refine r_aload_n K 2 dX12_laysA_16 rfl rfl ?_
  refine r_iload_n K 3 dX12_laysA_17 rfl rfl ?_
  refine r_iconst (v := 1) K dX12_laysA_18 (by decide) ?_
  refine r_iadd K dX12_laysA_19 ?_
  refine w_callV K hl H (fun r h => c_X12_sumTo l h) mC_yX12_sumTo mM_RX12_202 mI_yX12_sumTo mS_yX12_sumTo mZ_RX12 vc12 (Nat.le_of_ble_eq_true rfl) (Nat.le_of_ble_eq_true rfl) np_yX12_sumTo rfl (Nat.le_of_ble_eq_true rfl) dX12_laysA_20 (fun μ4 H => ?_) ⟨Nat.zero_le _, Nat.zero_le _⟩
  refine r_aload_n K 2 dX12_laysA_23 rfl rfl ?_
  refine r_lload_n K 1 dX12_laysA_24 rfl rfl ?_
  refine r_lneg K dX12_laysA_25 ?_
  refine r_lload K 0 dX12_laysA_26 rfl ?_
  refine w_callV K hl H (fun r h => c_X12_adds l h) mC_yX12_adds mM_RX12_205 mI_yX12_adds mS_yX12_adds mZ_RX12 vc12 (Nat.le_of_ble_eq_true rfl) (Nat.le_of_ble_eq_true rfl) np_yX12_adds rfl (Nat.le_of_ble_eq_true rfl) dX12_laysA_28 (fun μ5 H => ?_) ⟨Nat.zero_le _, Nat.zero_le _⟩
  cases H
  subst D
  exact r_vret K dX12_laysA_31
theorem c_X12_laysA (l : Launch) {n : Nat} {Y : jY} {v0 : Nat} {v1 : Int32} {μ : jM} {z : jM} (H : f_X12_laysA Y v0 v1 μ = some z) : jC l yX12_laysA cX12_laysA 6 none 7 0 0 [.ref v0, .int v1] n Y μ n Y none z := by
  refine jC_of (by decide +kernel) (Nat.le_of_ble_eq_true rfl) (fun X hl K _ _ _ => ?_)
  exact t_X12_laysA_0 K hl H rfl
/-! RX12 multiplies(JJ)V -/
def f_X12_multiplies (Y : jY) (v0 : Nat) (v1 : Int64) (v3 : Int64) (μ : jM) : Option (jM) :=
  (f_X12_common Y v1 v3 μ).bind fun r1 =>
  (jdivL v1 r1.1).bind fun x2 =>
  (jdivL v3 r1.1).bind fun x3 =>
  (jgL Y r1.2 v0 12 16).bind fun x4 =>
  (f_X12_common Y x4 x3 r1.2).bind fun r5 =>
  (jgL Y r5.2 v0 12 17).bind fun x6 =>
  (f_X12_common Y x2 x6 r5.2).bind fun r7 =>
  (jgL Y r7.2 v0 12 16).bind fun x8 =>
  (jdivL x8 r5.1).bind fun x9 =>
  (jdivL x2 r7.1).bind fun x10 =>
  (jput Y r7.2 v0 12 16 (.long ((x9 * x10)))).bind fun μ11 =>
  (jgL Y μ11 v0 12 17).bind fun x12 =>
  (jdivL x12 r7.1).bind fun x13 =>
  (jdivL x3 r5.1).bind fun x14 =>
  (jput Y μ11 v0 12 17 (.long ((x13 * x14)))).bind fun μ15 =>
  (jrcv Y v0 12 (f_X12_reduces Y v0 μ15)).bind fun μ16 =>
  some μ16
set_option maxRecDepth 10000 in
theorem t_X12_multiplies_0 {X : jX} {l : Launch} {n : Nat} {Y : jY} (K : jOK X RX12 cX12_multiplies 15 none 3) (hl : X.2.1 = l) {μr : jM} {v0 : Nat} {v1 : Int64} {v3 : Int64} {μ : jM} {z : (jM)} (H : f_X12_multiplies Y v0 v1 v3 μ = some z) (D : z = μr) : JW X (jEnd X n Y none μr 0 0) 0 0 n Y 0 [(0, .ref v0), (1, .long v1), (3, .long v3)] [] μ := by
  unfold f_X12_multiplies at H
  refine r_lload_n K 1 dX12_multiplies_0 rfl rfl ?_
  refine r_lload_n K 2 dX12_multiplies_1 rfl rfl ?_
  refine w_callS K hl H (fun r h => c_X12_common l h) mC_yX12_common mM_RX12_184 mT_yX12_common mZ_RX12 (Nat.le_of_ble_eq_true rfl) (Nat.le_of_ble_eq_true rfl) np_yX12_common rfl (Nat.le_of_ble_eq_true rfl) dX12_multiplies_2 (fun r1 H => ?_) ⟨Nat.zero_le _, Nat.zero_le _⟩
  refine r_lstore K [(5, .long _), (0, .ref _), (1, .long _), (3, .long _)] dX12_multiplies_5 (by decide) rfl ?_
  refine r_lload_n K 2 dX12_multiplies_7 rfl rfl ?_
  refine r_lload K 0 dX12_multiplies_8 rfl ?_
  refine w_ldiv K dX12_multiplies_10 H (fun x2 H => ?_)
  refine r_lstore K [(7, .long _), (5, .long _), (0, .ref _), (1, .long _), (3, .long _)] dX12_multiplies_11 (by decide) rfl ?_
  refine r_lload_n K 4 dX12_multiplies_13 rfl rfl ?_
  refine r_lload K 1 dX12_multiplies_14 rfl ?_
  refine w_ldiv K dX12_multiplies_16 H (fun x3 H => ?_)
  refine r_lstore K [(9, .long _), (7, .long _), (5, .long _), (0, .ref _), (1, .long _), (3, .long _)] dX12_multiplies_17 (by decide) rfl ?_
  refine r_aload_n K 3 dX12_multiplies_19 rfl rfl ?_
  refine w_getL K vc12 inX12 16 (by decide) mF_RX12_177 dX12_multiplies_20 H (fun x4 H => ?_)
  refine r_lload K 0 dX12_multiplies_23 rfl ?_
  refine w_callS K hl H (fun r h => c_X12_common l h) mC_yX12_common mM_RX12_184 mT_yX12_common mZ_RX12 (Nat.le_of_ble_eq_true rfl) (Nat.le_of_ble_eq_true rfl) np_yX12_common rfl (Nat.le_of_ble_eq_true rfl) dX12_multiplies_25 (fun r5 H => ?_) ⟨Nat.zero_le _, Nat.zero_le _⟩
  refine r_lstore K [(11, .long _), (9, .long _), (7, .long _), (5, .long _), (0, .ref _), (1, .long _), (3, .long _)] dX12_multiplies_28 (by decide) rfl ?_
  refine r_lload K 2 dX12_multiplies_30 rfl ?_
  refine r_aload_n K 4 dX12_multiplies_32 rfl rfl ?_
  refine w_getL K vc12 inX12 17 (by decide) mF_RX12_181 dX12_multiplies_33 H (fun x6 H => ?_)
  refine w_callS K hl H (fun r h => c_X12_common l h) mC_yX12_common mM_RX12_184 mT_yX12_common mZ_RX12 (Nat.le_of_ble_eq_true rfl) (Nat.le_of_ble_eq_true rfl) np_yX12_common rfl (Nat.le_of_ble_eq_true rfl) dX12_multiplies_36 (fun r7 H => ?_) ⟨Nat.zero_le _, Nat.zero_le _⟩
  refine r_lstore K [(13, .long _), (11, .long _), (9, .long _), (7, .long _), (5, .long _), (0, .ref _), (1, .long _), (3, .long _)] dX12_multiplies_39 (by decide) rfl ?_
  refine r_aload_n K 5 dX12_multiplies_41 rfl rfl ?_
  refine r_aload_n K 5 dX12_multiplies_42 rfl rfl ?_
  refine w_getL K vc12 inX12 16 (by decide) mF_RX12_177 dX12_multiplies_43 H (fun x8 H => ?_)
  refine r_lload K 1 dX12_multiplies_46 rfl ?_
  refine w_ldiv K dX12_multiplies_48 H (fun x9 H => ?_)
  refine r_lload K 3 dX12_multiplies_49 rfl ?_
  refine r_lload K 0 dX12_multiplies_51 rfl ?_
  refine w_ldiv K dX12_multiplies_53 H (fun x10 H => ?_)
  refine r_lmul K dX12_multiplies_54 ?_
  refine w_put K vc12 inX12 tyX12_ok nmX12 16 (by decide) mF_RX12_177 rfl (fun _ => rfl) (fun _ => rfl) dX12_multiplies_55 H (fun μ11 H => ?_)
  refine r_aload_n K 5 dX12_multiplies_58 rfl rfl ?_
  refine r_aload_n K 5 dX12_multiplies_59 rfl rfl ?_
  refine w_getL K vc12 inX12 17 (by decide) mF_RX12_181 dX12_multiplies_60 H (fun x12 H => ?_)
  refine r_lload K 0 dX12_multiplies_63 rfl ?_
  refine w_ldiv K dX12_multiplies_65 H (fun x13 H => ?_)
  refine r_lload K 2 dX12_multiplies_66 rfl ?_
  refine r_lload K 1 dX12_multiplies_68 rfl ?_
  refine w_ldiv K dX12_multiplies_70 H (fun x14 H => ?_)
  refine r_lmul K dX12_multiplies_71 ?_
  refine w_put K vc12 inX12 tyX12_ok nmX12 17 (by decide) mF_RX12_181 rfl (fun _ => rfl) (fun _ => rfl) dX12_multiplies_72 H (fun μ15 H => ?_)
  refine r_aload_n K 5 dX12_multiplies_75 rfl rfl ?_
  refine w_callV K hl H (fun r h => c_X12_reduces l h) mC_yX12_reduces mM_RX12_188 mI_yX12_reduces mS_yX12_reduces mZ_RX12 vc12 (Nat.le_of_ble_eq_true rfl) (Nat.le_of_ble_eq_true rfl) np_yX12_reduces rfl (Nat.le_of_ble_eq_true rfl) dX12_multiplies_76 (fun μ16 H => ?_) ⟨Nat.zero_le _, Nat.zero_le _⟩
  cases H
  subst D
  exact r_vret K dX12_multiplies_79
theorem c_X12_multiplies (l : Launch) {n : Nat} {Y : jY} {v0 : Nat} {v1 : Int64} {v3 : Int64} {μ : jM} {z : jM} (H : f_X12_multiplies Y v0 v1 v3 μ = some z) : jC l yX12_multiplies cX12_multiplies 15 none 3 0 0 [.ref v0, .long v1, .long v3] n Y μ n Y none z := by
  refine jC_of (by decide +kernel) (Nat.le_of_ble_eq_true rfl) (fun X hl K _ _ _ => ?_)
  exact t_X12_multiplies_0 K hl H rfl
/-! RX12 laysC(I)V -/
def f_X12_laysC (Y : jY) (v0 : Nat) (v1 : Int32) (μ : jM) : Option (jM) :=
  (jrcv Y v0 12 (f_X12_hankel Y v0 ((v1 + ((2 : Int32)))) μ)).bind fun r1 =>
  (jrcv Y v0 12 (f_X12_hankel Y v0 ((v1 + ((1 : Int32)))) r1.2)).bind fun r2 =>
  (jrcv Y v0 12 (f_X12_sets Y v0 r1.1 r2.1 r2.2)).bind fun μ3 =>
  (jrcv Y v0 12 (f_X12_hankel Y v0 v1 μ3)).bind fun r4 =>
  (jrcv Y v0 12 (f_X12_hankel Y v0 ((v1 + ((1 : Int32)))) r4.2)).bind fun r5 =>
  (jrcv Y v0 12 (f_X12_multiplies Y v0 r4.1 r5.1 r5.2)).bind fun μ6 =>
  some μ6
set_option maxRecDepth 10000 in
theorem t_X12_laysC_0 {X : jX} {l : Launch} {n : Nat} {Y : jY} (K : jOK X RX12 cX12_laysC 2 none 6) (hl : X.2.1 = l) {μr : jM} {v0 : Nat} {v1 : Int32} {μ : jM} {z : (jM)} (H : f_X12_laysC Y v0 v1 μ = some z) (D : z = μr) : JW X (jEnd X n Y none μr 0 0) 0 0 n Y 0 [(0, .ref v0), (1, .int v1)] [] μ := by
  unfold f_X12_laysC at H
  refine r_aload_n K 0 dX12_laysC_0 rfl rfl ?_
  refine r_aload_n K 0 dX12_laysC_1 rfl rfl ?_
  refine r_iload_n K 1 dX12_laysC_2 rfl rfl ?_
  refine r_iconst (v := 2) K dX12_laysC_3 (by decide) ?_
  refine r_iadd K dX12_laysC_4 ?_
  refine w_callV K hl H (fun r h => c_X12_hankel l h) mC_yX12_hankel mM_RX12_199 mI_yX12_hankel mS_yX12_hankel mZ_RX12 vc12 (Nat.le_of_ble_eq_true rfl) (Nat.le_of_ble_eq_true rfl) np_yX12_hankel rfl (Nat.le_of_ble_eq_true rfl) dX12_laysC_5 (fun r1 H => ?_) ⟨Nat.zero_le _, Nat.zero_le _⟩
  refine r_aload_n K 0 dX12_laysC_8 rfl rfl ?_
  refine r_iload_n K 1 dX12_laysC_9 rfl rfl ?_
  refine r_iconst (v := 1) K dX12_laysC_10 (by decide) ?_
  refine r_iadd K dX12_laysC_11 ?_
  refine w_callV K hl H (fun r h => c_X12_hankel l h) mC_yX12_hankel mM_RX12_199 mI_yX12_hankel mS_yX12_hankel mZ_RX12 vc12 (Nat.le_of_ble_eq_true rfl) (Nat.le_of_ble_eq_true rfl) np_yX12_hankel rfl (Nat.le_of_ble_eq_true rfl) dX12_laysC_12 (fun r2 H => ?_) ⟨Nat.zero_le _, Nat.zero_le _⟩
  refine w_callV K hl H (fun r h => c_X12_sets l h) mC_yX12_sets mM_RX12_191 mI_yX12_sets mS_yX12_sets mZ_RX12 vc12 (Nat.le_of_ble_eq_true rfl) (Nat.le_of_ble_eq_true rfl) np_yX12_sets rfl (Nat.le_of_ble_eq_true rfl) dX12_laysC_15 (fun μ3 H => ?_) ⟨Nat.zero_le _, Nat.zero_le _⟩
  refine r_aload_n K 0 dX12_laysC_18 rfl rfl ?_
  refine r_aload_n K 0 dX12_laysC_19 rfl rfl ?_
  refine r_iload_n K 1 dX12_laysC_20 rfl rfl ?_
  refine w_callV K hl H (fun r h => c_X12_hankel l h) mC_yX12_hankel mM_RX12_199 mI_yX12_hankel mS_yX12_hankel mZ_RX12 vc12 (Nat.le_of_ble_eq_true rfl) (Nat.le_of_ble_eq_true rfl) np_yX12_hankel rfl (Nat.le_of_ble_eq_true rfl) dX12_laysC_21 (fun r4 H => ?_) ⟨Nat.zero_le _, Nat.zero_le _⟩
  refine r_aload_n K 0 dX12_laysC_24 rfl rfl ?_
  refine r_iload_n K 1 dX12_laysC_25 rfl rfl ?_
  refine r_iconst (v := 1) K dX12_laysC_26 (by decide) ?_
  refine r_iadd K dX12_laysC_27 ?_
  refine w_callV K hl H (fun r h => c_X12_hankel l h) mC_yX12_hankel mM_RX12_199 mI_yX12_hankel mS_yX12_hankel mZ_RX12 vc12 (Nat.le_of_ble_eq_true rfl) (Nat.le_of_ble_eq_true rfl) np_yX12_hankel rfl (Nat.le_of_ble_eq_true rfl) dX12_laysC_28 (fun r5 H => ?_) ⟨Nat.zero_le _, Nat.zero_le _⟩
  refine w_callV K hl H (fun r h => c_X12_multiplies l h) mC_yX12_multiplies mM_RX12_208 mI_yX12_multiplies mS_yX12_multiplies mZ_RX12 vc12 (Nat.le_of_ble_eq_true rfl) (Nat.le_of_ble_eq_true rfl) np_yX12_multiplies rfl (Nat.le_of_ble_eq_true rfl) dX12_laysC_31 (fun μ6 H => ?_) ⟨Nat.zero_le _, Nat.zero_le _⟩
  cases H
  subst D
  exact r_vret K dX12_laysC_34
theorem c_X12_laysC (l : Launch) {n : Nat} {Y : jY} {v0 : Nat} {v1 : Int32} {μ : jM} {z : jM} (H : f_X12_laysC Y v0 v1 μ = some z) : jC l yX12_laysC cX12_laysC 2 none 6 0 0 [.ref v0, .int v1] n Y μ n Y none z := by
  refine jC_of (by decide +kernel) (Nat.le_of_ble_eq_true rfl) (fun X hl K _ _ _ => ?_)
  exact t_X12_laysC_0 K hl H rfl
/-! RX12 times([JII)V -/
def b_X12_times_10 (Y : jY) (v0 : Nat) (v2 : Int32) (v3 : Int32) (μ : jM) : Option ((Int32 × jM) ⊕ (jM)) :=
  if v3 ≤ 0 then
    (jaL Y μ v0 21 ((0 : Int32))).bind fun x1 =>
    (jas Y μ v0 21 ((0 : Int32)) (.long ((((((-v2)).toInt64)) * x1)))).bind fun μ2 =>
    some (.inr μ2)
  else
    (jaL Y μ v0 21 ((v3 - ((1 : Int32))))).bind fun x3 =>
    (jaL Y μ v0 21 v3).bind fun x4 =>
    (jas Y μ v0 21 v3 (.long ((x3 - ((((v2.toInt64)) * x4)))))).bind fun μ5 =>
    some (.inl ((v3 + (-1 : Int32)), μ5))
def f_X12_times (Y : jY) (v0 : Nat) (v1 : Int32) (v2 : Int32) (μ : jM) : Option (jM) :=
  (jaL Y μ v0 21 v1).bind fun x1 =>
  (jas Y μ v0 21 ((v1 + ((1 : Int32)))) (.long x1)).bind fun μ2 =>
  jit jF (fun (s : Int32 × jM) => b_X12_times_10 Y v0 v2 s.1 s.2) (v1, μ2)
set_option maxRecDepth 10000 in
theorem t_X12_times_10 {X : jX} {l : Launch} {n : Nat} {Y : jY} (K : jOK X RX12 cX12_times 4 none 1) (hl : X.2.1 = l) {μr : jM} {v0 : Nat} {v2 : Int32} {v3 : Int32} {μ : jM} {z : ((Int32 × jM) ⊕ (jM))} (H : b_X12_times_10 Y v0 v2 v3 μ = some z) (D : Sum.elim (fun (s : Int32 × jM) => JW X (jEnd X n Y none μr 0 0) 0 0 n Y 10 [(0, .ref v0), (2, .int v2), (3, .int s.1)] [] s.2) (fun r => r = μr) z) : JW X (jEnd X n Y none μr 0 0) 0 0 n Y 10 [(0, .ref v0), (2, .int v2), (3, .int v3)] [] μ := by
  unfold b_X12_times_10 at H
  refine r_iload_n K 2 dX12_times_10 rfl rfl ?_
  refine w_if_le K 35 dX12_times_11 (by decide) H (fun _ H => ?_) (fun _ H => ?_)
  · refine r_aload_n K 0 dX12_times_35 rfl rfl ?_
    refine r_iconst (v := 0) K dX12_times_36 (by decide) ?_
    refine r_iload_n K 1 dX12_times_37 rfl rfl ?_
    refine r_ineg K dX12_times_38 ?_
    refine r_i2l K dX12_times_39 ?_
    refine r_aload_n K 0 dX12_times_40 rfl rfl ?_
    refine r_iconst (v := 0) K dX12_times_41 (by decide) ?_
    refine w_lald K dX12_times_42 H (fun x1 H => ?_)
    refine r_lmul K dX12_times_43 ?_
    refine w_last K dX12_times_44 H (fun μ2 H => ?_)
    cases H
    simp only [Sum.elim_inr] at D
    subst D
    exact r_vret K dX12_times_45
  · refine r_aload_n K 0 dX12_times_14 rfl rfl ?_
    refine r_iload_n K 2 dX12_times_15 rfl rfl ?_
    refine r_aload_n K 0 dX12_times_16 rfl rfl ?_
    refine r_iload_n K 2 dX12_times_17 rfl rfl ?_
    refine r_iconst (v := 1) K dX12_times_18 (by decide) ?_
    refine r_isub K dX12_times_19 ?_
    refine w_lald K dX12_times_20 H (fun x3 H => ?_)
    refine r_iload_n K 1 dX12_times_21 rfl rfl ?_
    refine r_i2l K dX12_times_22 ?_
    refine r_aload_n K 0 dX12_times_23 rfl rfl ?_
    refine r_iload_n K 2 dX12_times_24 rfl rfl ?_
    refine w_lald K dX12_times_25 H (fun x4 H => ?_)
    refine r_lmul K dX12_times_26 ?_
    refine r_lsub K dX12_times_27 ?_
    refine w_last K dX12_times_28 H (fun μ5 H => ?_)
    refine r_iinc K 2 [(3, .int _), (0, .ref _), (2, .int _)] (v := _ + (-1 : Int32)) dX12_times_29 rfl rfl (by decide) rfl ?_
    refine r_goto K 10 dX12_times_32 (by decide) ?_
    cases H
    exact r_sub [1, 2, 0] rfl D
set_option maxRecDepth 10000 in
theorem l_X12_times_10 {X : jX} {l : Launch} {n : Nat} {Y : jY} (K : jOK X RX12 cX12_times 4 none 1) (hl : X.2.1 = l) {μr : jM} {v0 : Nat} {v2 : Int32}  {s0 : Int32 × jM} {z : (jM)} (H : jit jF (fun (s : Int32 × jM) => b_X12_times_10 Y v0 v2 s.1 s.2) s0 = some z) (D : z = μr) : JW X (jEnd X n Y none μr 0 0) 0 0 n Y 10 [(0, .ref v0), (2, .int v2), (3, .int s0.1)] [] s0.2 :=
  jit_ind (P := fun (s : Int32 × jM) => JW X (jEnd X n Y none μr 0 0) 0 0 n Y 10 [(0, .ref v0), (2, .int v2), (3, .int s.1)] [] s.2) (D := fun r => r = μr) (fun s z Hs Ds => t_X12_times_10 K hl Hs Ds) jF s0 z H D
set_option maxRecDepth 10000 in
theorem t_X12_times_0 {X : jX} {l : Launch} {n : Nat} {Y : jY} (K : jOK X RX12 cX12_times 4 none 1) (hl : X.2.1 = l) {μr : jM} {v0 : Nat} {v1 : Int32} {v2 : Int32} {μ : jM} {z : (jM)} (H : f_X12_times Y v0 v1 v2 μ = some z) (D : z = μr) : JW X (jEnd X n Y none μr 0 0) 0 0 n Y 0 [(0, .ref v0), (1, .int v1), (2, .int v2)] [] μ := by
  unfold f_X12_times at H
  refine r_aload_n K 0 dX12_times_0 rfl rfl ?_
  refine r_iload_n K 1 dX12_times_1 rfl rfl ?_
  refine r_iconst (v := 1) K dX12_times_2 (by decide) ?_
  refine r_iadd K dX12_times_3 ?_
  refine r_aload_n K 0 dX12_times_4 rfl rfl ?_
  refine r_iload_n K 1 dX12_times_5 rfl rfl ?_
  refine w_lald K dX12_times_6 H (fun x1 H => ?_)
  refine w_last K dX12_times_7 H (fun μ2 H => ?_)
  refine r_iload_n K 1 dX12_times_8 rfl rfl ?_
  refine r_istore_n K [(3, .int _), (0, .ref _), (1, .int _), (2, .int _)] dX12_times_9 rfl (by decide) rfl ?_
  exact r_sub [1, 3, 0] rfl (l_X12_times_10 K hl H D)
theorem c_X12_times (l : Launch) {n : Nat} {Y : jY} {v0 : Nat} {v1 : Int32} {v2 : Int32} {μ : jM} {z : jM} (H : f_X12_times Y v0 v1 v2 μ = some z) : jC l yX12_times cX12_times 4 none 1 0 0 [.ref v0, .int v1, .int v2] n Y μ n Y none z := by
  refine jC_of (by decide +kernel) (Nat.le_of_ble_eq_true rfl) (fun X hl K _ _ _ => ?_)
  exact t_X12_times_0 K hl H rfl
/-! RX12 laysTones()V -/
def b_X12_laysTones_169 (Y : jY) (v0 : Nat) (v1 : Int32) (μ : jM) : Option ((Int32 × jM) ⊕ (jM)) :=
  some (.inl ((v1 + (1 : Int32)), μ))
def b_X12_laysTones_117 (Y : jY) (v0 : Nat) (v1 : Int32) (v2 : Int32) (μ : jM) : Option ((Int32 × jM) ⊕ ((Int32 × jM) ⊕ (jM))) :=
  (jgI Y μ v0 12 10).bind fun x1 =>
  if x1 < v2 then
    (b_X12_laysTones_169 Y v0 v1 μ).map (fun r => (.inr r))
  else
    if v1 < v2 then
      (b_X12_laysTones_169 Y v0 v1 μ).map (fun r => (.inr r))
    else
      (jgO Y μ v0 12 15).bind fun x2 =>
      (jgO Y μ v0 12 15).bind fun x3 =>
      (jaL Y μ x3 21 v1).bind fun x4 =>
      (jgO Y μ v0 12 13).bind fun x5 =>
      (jgI Y μ v0 12 10).bind fun x6 =>
      (jaL Y μ x5 21 ((x6 - v2))).bind fun x7 =>
      (jgO Y μ v0 12 15).bind fun x8 =>
      (jaL Y μ x8 21 ((v1 - v2))).bind fun x9 =>
      (jas Y μ x2 21 v1 (.long ((x4 - ((x7 * x9)))))).bind fun μ10 =>
      some (.inl ((v2 + (1 : Int32)), μ10))
def b_X12_laysTones_114 (Y : jY) (v0 : Nat) (v1 : Int32) (t0 : Nat) (t1 : Int32) (t2 : Int64) (μ : jM) : Option ((Int32 × jM) ⊕ (jM)) :=
  (jas Y μ t0 21 t1 (.long t2)).bind fun μ1 =>
  jit jF (fun (s : Int32 × jM) => b_X12_laysTones_117 Y v0 v1 s.1 s.2) ((1 : Int32), μ1)
def b_X12_laysTones_78 (Y : jY) (v0 : Nat) (v1 : Int32) (μ : jM) : Option ((Int32 × jM) ⊕ (jM)) :=
  if ((8 : Int32)) ≤ v1 then
    some (.inr μ)
  else
    (jgO Y μ v0 12 15).bind fun x1 =>
    (jgI Y μ v0 12 10).bind fun x2 =>
    if x2 ≤ v1 then
      b_X12_laysTones_114 Y v0 v1 x1 v1 (0 : Int64) μ
    else
      (jgO Y μ v0 12 14).bind fun x3 =>
      (jgI Y μ v0 12 10).bind fun x4 =>
      (jaL Y μ x3 21 ((((x4 - ((1 : Int32)))) - v1))).bind fun x5 =>
      b_X12_laysTones_114 Y v0 v1 x1 v1 x5 μ
def b_X12_laysTones_46 (Y : jY) (v0 : Nat) (v1 : Int32) (μ : jM) : Option ((Int32 × jM) ⊕ (jM)) :=
  (jgI Y μ v0 12 10).bind fun x1 =>
  if ((x1 - ((1 : Int32)))) ≤ v1 then
    (jit jF (fun (s : Int32 × jM) => b_X12_laysTones_78 Y v0 s.1 s.2) ((0 : Int32), μ)).map (fun r => (.inr r))
  else
    (jgO Y μ v0 12 14).bind fun x2 =>
    (jgO Y μ v0 12 12).bind fun x3 =>
    (jaI Y μ x3 20 v1).bind fun x4 =>
    (f_X12_times Y x2 v1 x4 μ).bind fun μ5 =>
    some (.inl ((v1 + (1 : Int32)), μ5))
def b_X12_laysTones_16 (Y : jY) (v0 : Nat) (v1 : Int32) (μ : jM) : Option ((Int32 × jM) ⊕ (jM)) :=
  (jgI Y μ v0 12 10).bind fun x1 =>
  if x1 ≤ v1 then
    (jit jF (fun (s : Int32 × jM) => b_X12_laysTones_46 Y v0 s.1 s.2) ((0 : Int32), μ)).map (fun r => (.inr r))
  else
    (jgO Y μ v0 12 13).bind fun x2 =>
    (jgO Y μ v0 12 11).bind fun x3 =>
    (jaI Y μ x3 20 v1).bind fun x4 =>
    (f_X12_times Y x2 v1 x4 μ).bind fun μ5 =>
    some (.inl ((v1 + (1 : Int32)), μ5))
def f_X12_laysTones (Y : jY) (v0 : Nat) (μ : jM) : Option (jM) :=
  (jgO Y μ v0 12 13).bind fun x1 =>
  (jas Y μ x1 21 ((0 : Int32)) (.long ((1 : Int64)))).bind fun μ2 =>
  (jgO Y μ2 v0 12 14).bind fun x3 =>
  (jas Y μ2 x3 21 ((0 : Int32)) (.long ((1 : Int64)))).bind fun μ4 =>
  jit jF (fun (s : Int32 × jM) => b_X12_laysTones_16 Y v0 s.1 s.2) ((0 : Int32), μ4)
set_option maxRecDepth 10000 in
theorem t_X12_laysTones_169 {X : jX} {l : Launch} {n : Nat} {Y : jY} (K : jOK X RX12 cX12_laysTones 3 none 2) (hl : X.2.1 = l) {μr : jM} {v0 : Nat} {v1 : Int32} {μ : jM} {z : ((Int32 × jM) ⊕ (jM))} (H : b_X12_laysTones_169 Y v0 v1 μ = some z) (D : Sum.elim (fun (s : Int32 × jM) => JW X (jEnd X n Y none μr 0 0) 0 0 n Y 78 [(0, .ref v0), (1, .int s.1)] [] s.2) (fun r => r = μr) z) : JW X (jEnd X n Y none μr 0 0) 0 0 n Y 169 [(0, .ref v0), (1, .int v1)] [] μ := by
  unfold b_X12_laysTones_169 at H
  refine r_iinc K 1 [(1, .int _), (0, .ref _)] (v := _ + (1 : Int32)) dX12_laysTones_169 rfl rfl (by decide) rfl ?_
  refine r_goto K 78 dX12_laysTones_172 (by decide) ?_
  cases H
  exact r_sub [1, 0] rfl D
set_option maxRecDepth 10000 in
theorem t_X12_laysTones_117 {X : jX} {l : Launch} {n : Nat} {Y : jY} (K : jOK X RX12 cX12_laysTones 3 none 2) (hl : X.2.1 = l) {μr : jM} {v0 : Nat} {v1 : Int32} {v2 : Int32} {μ : jM} {z : ((Int32 × jM) ⊕ ((Int32 × jM) ⊕ (jM)))} (H : b_X12_laysTones_117 Y v0 v1 v2 μ = some z) (D : Sum.elim (fun (s : Int32 × jM) => JW X (jEnd X n Y none μr 0 0) 0 0 n Y 117 [(0, .ref v0), (1, .int v1), (2, .int s.1)] [] s.2) (Sum.elim (fun (s : Int32 × jM) => JW X (jEnd X n Y none μr 0 0) 0 0 n Y 78 [(0, .ref v0), (1, .int s.1)] [] s.2) (fun r => r = μr)) z) : JW X (jEnd X n Y none μr 0 0) 0 0 n Y 117 [(0, .ref v0), (1, .int v1), (2, .int v2)] [] μ := by
  unfold b_X12_laysTones_117 at H
  refine r_iload_n K 2 dX12_laysTones_117 rfl rfl ?_
  refine r_aload_n K 0 dX12_laysTones_118 rfl rfl ?_
  refine w_getI K vc12 inX12 10 (by decide) mF_RX12_145 dX12_laysTones_119 H (fun x1 H => ?_)
  refine w_icmp_gt K 169 dX12_laysTones_122 (by decide) H (fun _ H => ?_) (fun _ H => ?_)
  · obtain ⟨z2, H2, rfl⟩ := jmap H
    exact r_sub [0, 1] rfl (t_X12_laysTones_169 K hl H2 D)
  · refine r_iload_n K 2 dX12_laysTones_125 rfl rfl ?_
    refine r_iload_n K 1 dX12_laysTones_126 rfl rfl ?_
    refine w_icmp_gt K 169 dX12_laysTones_127 (by decide) H (fun _ H => ?_) (fun _ H => ?_)
    · obtain ⟨z2, H2, rfl⟩ := jmap H
      exact r_sub [0, 1] rfl (t_X12_laysTones_169 K hl H2 D)
    · refine r_aload_n K 0 dX12_laysTones_130 rfl rfl ?_
      refine w_getO K vc12 inX12 15 (by decide) mF_RX12_33 dX12_laysTones_131 H (fun x2 H => ?_)
      refine r_iload_n K 1 dX12_laysTones_134 rfl rfl ?_
      refine r_aload_n K 0 dX12_laysTones_135 rfl rfl ?_
      refine w_getO K vc12 inX12 15 (by decide) mF_RX12_33 dX12_laysTones_136 H (fun x3 H => ?_)
      refine r_iload_n K 1 dX12_laysTones_139 rfl rfl ?_
      refine w_lald K dX12_laysTones_140 H (fun x4 H => ?_)
      refine r_aload_n K 0 dX12_laysTones_141 rfl rfl ?_
      refine w_getO K vc12 inX12 13 (by decide) mF_RX12_26 dX12_laysTones_142 H (fun x5 H => ?_)
      refine r_aload_n K 0 dX12_laysTones_145 rfl rfl ?_
      refine w_getI K vc12 inX12 10 (by decide) mF_RX12_145 dX12_laysTones_146 H (fun x6 H => ?_)
      refine r_iload_n K 2 dX12_laysTones_149 rfl rfl ?_
      refine r_isub K dX12_laysTones_150 ?_
      refine w_lald K dX12_laysTones_151 H (fun x7 H => ?_)
      refine r_aload_n K 0 dX12_laysTones_152 rfl rfl ?_
      refine w_getO K vc12 inX12 15 (by decide) mF_RX12_33 dX12_laysTones_153 H (fun x8 H => ?_)
      refine r_iload_n K 1 dX12_laysTones_156 rfl rfl ?_
      refine r_iload_n K 2 dX12_laysTones_157 rfl rfl ?_
      refine r_isub K dX12_laysTones_158 ?_
      refine w_lald K dX12_laysTones_159 H (fun x9 H => ?_)
      refine r_lmul K dX12_laysTones_160 ?_
      refine r_lsub K dX12_laysTones_161 ?_
      refine w_last K dX12_laysTones_162 H (fun μ10 H => ?_)
      refine r_iinc K 2 [(2, .int _), (0, .ref _), (1, .int _)] (v := _ + (1 : Int32)) dX12_laysTones_163 rfl rfl (by decide) rfl ?_
      refine r_goto K 117 dX12_laysTones_166 (by decide) ?_
      cases H
      exact r_sub [1, 2, 0] rfl D
set_option maxRecDepth 10000 in
theorem l_X12_laysTones_117 {X : jX} {l : Launch} {n : Nat} {Y : jY} (K : jOK X RX12 cX12_laysTones 3 none 2) (hl : X.2.1 = l) {μr : jM} {v0 : Nat} {v1 : Int32}  {s0 : Int32 × jM} {z : ((Int32 × jM) ⊕ (jM))} (H : jit jF (fun (s : Int32 × jM) => b_X12_laysTones_117 Y v0 v1 s.1 s.2) s0 = some z) (D : Sum.elim (fun (s : Int32 × jM) => JW X (jEnd X n Y none μr 0 0) 0 0 n Y 78 [(0, .ref v0), (1, .int s.1)] [] s.2) (fun r => r = μr) z) : JW X (jEnd X n Y none μr 0 0) 0 0 n Y 117 [(0, .ref v0), (1, .int v1), (2, .int s0.1)] [] s0.2 :=
  jit_ind (P := fun (s : Int32 × jM) => JW X (jEnd X n Y none μr 0 0) 0 0 n Y 117 [(0, .ref v0), (1, .int v1), (2, .int s.1)] [] s.2) (D := Sum.elim (fun (s : Int32 × jM) => JW X (jEnd X n Y none μr 0 0) 0 0 n Y 78 [(0, .ref v0), (1, .int s.1)] [] s.2) (fun r => r = μr)) (fun s z Hs Ds => t_X12_laysTones_117 K hl Hs Ds) jF s0 z H D
set_option maxRecDepth 10000 in
theorem t_X12_laysTones_114 {X : jX} {l : Launch} {n : Nat} {Y : jY} (K : jOK X RX12 cX12_laysTones 3 none 2) (hl : X.2.1 = l) {μr : jM} {v0 : Nat} {v1 : Int32} {t0 : Nat} {t1 : Int32} {t2 : Int64} {μ : jM} {z : ((Int32 × jM) ⊕ (jM))} (H : b_X12_laysTones_114 Y v0 v1 t0 t1 t2 μ = some z) (D : Sum.elim (fun (s : Int32 × jM) => JW X (jEnd X n Y none μr 0 0) 0 0 n Y 78 [(0, .ref v0), (1, .int s.1)] [] s.2) (fun r => r = μr) z) : JW X (jEnd X n Y none μr 0 0) 0 0 n Y 114 [(0, .ref v0), (1, .int v1)] [.long t2, .int t1, .ref t0] μ := by
  unfold b_X12_laysTones_114 at H
  refine w_last K dX12_laysTones_114 H (fun μ1 H => ?_)
  refine r_iconst (v := 1) K dX12_laysTones_115 (by decide) ?_
  refine r_istore_n K [(2, .int _), (0, .ref _), (1, .int _)] dX12_laysTones_116 rfl (by decide) rfl ?_
  exact r_sub [1, 2, 0] rfl (l_X12_laysTones_117 K hl H D)
set_option maxRecDepth 10000 in
theorem t_X12_laysTones_78 {X : jX} {l : Launch} {n : Nat} {Y : jY} (K : jOK X RX12 cX12_laysTones 3 none 2) (hl : X.2.1 = l) {μr : jM} {v0 : Nat} {v1 : Int32} {μ : jM} {z : ((Int32 × jM) ⊕ (jM))} (H : b_X12_laysTones_78 Y v0 v1 μ = some z) (D : Sum.elim (fun (s : Int32 × jM) => JW X (jEnd X n Y none μr 0 0) 0 0 n Y 78 [(0, .ref v0), (1, .int s.1)] [] s.2) (fun r => r = μr) z) : JW X (jEnd X n Y none μr 0 0) 0 0 n Y 78 [(0, .ref v0), (1, .int v1)] [] μ := by
  unfold b_X12_laysTones_78 at H
  refine r_iload_n K 1 dX12_laysTones_78 rfl rfl ?_
  refine r_bipush (v := 8) K dX12_laysTones_79 (by decide) ?_
  refine w_icmp_ge K 175 dX12_laysTones_81 (by decide) H (fun _ H => ?_) (fun _ H => ?_)
  · cases H
    simp only [Sum.elim_inr] at D
    subst D
    exact r_vret K dX12_laysTones_175
  · refine r_aload_n K 0 dX12_laysTones_84 rfl rfl ?_
    refine w_getO K vc12 inX12 15 (by decide) mF_RX12_33 dX12_laysTones_85 H (fun x1 H => ?_)
    refine r_iload_n K 1 dX12_laysTones_88 rfl rfl ?_
    refine r_iload_n K 1 dX12_laysTones_89 rfl rfl ?_
    refine r_aload_n K 0 dX12_laysTones_90 rfl rfl ?_
    refine w_getI K vc12 inX12 10 (by decide) mF_RX12_145 dX12_laysTones_91 H (fun x2 H => ?_)
    refine w_icmp_ge K 113 dX12_laysTones_94 (by decide) H (fun _ H => ?_) (fun _ H => ?_)
    · refine r_lconst (v := 0) K dX12_laysTones_113 (by decide) ?_
      exact r_sub [0, 1] rfl (t_X12_laysTones_114 K hl H D)
    · refine r_aload_n K 0 dX12_laysTones_97 rfl rfl ?_
      refine w_getO K vc12 inX12 14 (by decide) mF_RX12_30 dX12_laysTones_98 H (fun x3 H => ?_)
      refine r_aload_n K 0 dX12_laysTones_101 rfl rfl ?_
      refine w_getI K vc12 inX12 10 (by decide) mF_RX12_145 dX12_laysTones_102 H (fun x4 H => ?_)
      refine r_iconst (v := 1) K dX12_laysTones_105 (by decide) ?_
      refine r_isub K dX12_laysTones_106 ?_
      refine r_iload_n K 1 dX12_laysTones_107 rfl rfl ?_
      refine r_isub K dX12_laysTones_108 ?_
      refine w_lald K dX12_laysTones_109 H (fun x5 H => ?_)
      refine r_goto K 114 dX12_laysTones_110 (by decide) ?_
      exact r_sub [0, 1] rfl (t_X12_laysTones_114 K hl H D)
set_option maxRecDepth 10000 in
theorem l_X12_laysTones_78 {X : jX} {l : Launch} {n : Nat} {Y : jY} (K : jOK X RX12 cX12_laysTones 3 none 2) (hl : X.2.1 = l) {μr : jM} {v0 : Nat}  {s0 : Int32 × jM} {z : (jM)} (H : jit jF (fun (s : Int32 × jM) => b_X12_laysTones_78 Y v0 s.1 s.2) s0 = some z) (D : z = μr) : JW X (jEnd X n Y none μr 0 0) 0 0 n Y 78 [(0, .ref v0), (1, .int s0.1)] [] s0.2 :=
  jit_ind (P := fun (s : Int32 × jM) => JW X (jEnd X n Y none μr 0 0) 0 0 n Y 78 [(0, .ref v0), (1, .int s.1)] [] s.2) (D := fun r => r = μr) (fun s z Hs Ds => t_X12_laysTones_78 K hl Hs Ds) jF s0 z H D
set_option maxRecDepth 10000 in
theorem t_X12_laysTones_46 {X : jX} {l : Launch} {n : Nat} {Y : jY} (K : jOK X RX12 cX12_laysTones 3 none 2) (hl : X.2.1 = l) {μr : jM} {v0 : Nat} {v1 : Int32} {μ : jM} {z : ((Int32 × jM) ⊕ (jM))} (H : b_X12_laysTones_46 Y v0 v1 μ = some z) (D : Sum.elim (fun (s : Int32 × jM) => JW X (jEnd X n Y none μr 0 0) 0 0 n Y 46 [(0, .ref v0), (1, .int s.1)] [] s.2) (fun r => r = μr) z) : JW X (jEnd X n Y none μr 0 0) 0 0 n Y 46 [(0, .ref v0), (1, .int v1)] [] μ := by
  unfold b_X12_laysTones_46 at H
  refine r_iload_n K 1 dX12_laysTones_46 rfl rfl ?_
  refine r_aload_n K 0 dX12_laysTones_47 rfl rfl ?_
  refine w_getI K vc12 inX12 10 (by decide) mF_RX12_145 dX12_laysTones_48 H (fun x1 H => ?_)
  refine r_iconst (v := 1) K dX12_laysTones_51 (by decide) ?_
  refine r_isub K dX12_laysTones_52 ?_
  refine w_icmp_ge K 76 dX12_laysTones_53 (by decide) H (fun _ H => ?_) (fun _ H => ?_)
  · refine r_iconst (v := 0) K dX12_laysTones_76 (by decide) ?_
    refine r_istore_n K [(1, .int _), (0, .ref _)] dX12_laysTones_77 rfl (by decide) rfl ?_
    obtain ⟨z2, H2, rfl⟩ := jmap H
    exact r_sub [1, 0] rfl (l_X12_laysTones_78 K hl H2 D)
  · refine r_aload_n K 0 dX12_laysTones_56 rfl rfl ?_
    refine w_getO K vc12 inX12 14 (by decide) mF_RX12_30 dX12_laysTones_57 H (fun x2 H => ?_)
    refine r_iload_n K 1 dX12_laysTones_60 rfl rfl ?_
    refine r_aload_n K 0 dX12_laysTones_61 rfl rfl ?_
    refine w_getO K vc12 inX12 12 (by decide) mF_RX12_23 dX12_laysTones_62 H (fun x3 H => ?_)
    refine r_iload_n K 1 dX12_laysTones_65 rfl rfl ?_
    refine w_iald K dX12_laysTones_66 H (fun x4 H => ?_)
    refine w_callS K hl H (fun r h => c_X12_times l h) mC_yX12_times mM_RX12_152 mT_yX12_times mZ_RX12 (Nat.le_of_ble_eq_true rfl) (Nat.le_of_ble_eq_true rfl) np_yX12_times rfl (Nat.le_of_ble_eq_true rfl) dX12_laysTones_67 (fun μ5 H => ?_) ⟨Nat.zero_le _, Nat.zero_le _⟩
    refine r_iinc K 1 [(1, .int _), (0, .ref _)] (v := _ + (1 : Int32)) dX12_laysTones_70 rfl rfl (by decide) rfl ?_
    refine r_goto K 46 dX12_laysTones_73 (by decide) ?_
    cases H
    exact r_sub [1, 0] rfl D
set_option maxRecDepth 10000 in
theorem l_X12_laysTones_46 {X : jX} {l : Launch} {n : Nat} {Y : jY} (K : jOK X RX12 cX12_laysTones 3 none 2) (hl : X.2.1 = l) {μr : jM} {v0 : Nat}  {s0 : Int32 × jM} {z : (jM)} (H : jit jF (fun (s : Int32 × jM) => b_X12_laysTones_46 Y v0 s.1 s.2) s0 = some z) (D : z = μr) : JW X (jEnd X n Y none μr 0 0) 0 0 n Y 46 [(0, .ref v0), (1, .int s0.1)] [] s0.2 :=
  jit_ind (P := fun (s : Int32 × jM) => JW X (jEnd X n Y none μr 0 0) 0 0 n Y 46 [(0, .ref v0), (1, .int s.1)] [] s.2) (D := fun r => r = μr) (fun s z Hs Ds => t_X12_laysTones_46 K hl Hs Ds) jF s0 z H D
set_option maxRecDepth 10000 in
theorem t_X12_laysTones_16 {X : jX} {l : Launch} {n : Nat} {Y : jY} (K : jOK X RX12 cX12_laysTones 3 none 2) (hl : X.2.1 = l) {μr : jM} {v0 : Nat} {v1 : Int32} {μ : jM} {z : ((Int32 × jM) ⊕ (jM))} (H : b_X12_laysTones_16 Y v0 v1 μ = some z) (D : Sum.elim (fun (s : Int32 × jM) => JW X (jEnd X n Y none μr 0 0) 0 0 n Y 16 [(0, .ref v0), (1, .int s.1)] [] s.2) (fun r => r = μr) z) : JW X (jEnd X n Y none μr 0 0) 0 0 n Y 16 [(0, .ref v0), (1, .int v1)] [] μ := by
  unfold b_X12_laysTones_16 at H
  refine r_iload_n K 1 dX12_laysTones_16 rfl rfl ?_
  refine r_aload_n K 0 dX12_laysTones_17 rfl rfl ?_
  refine w_getI K vc12 inX12 10 (by decide) mF_RX12_145 dX12_laysTones_18 H (fun x1 H => ?_)
  refine w_icmp_ge K 44 dX12_laysTones_21 (by decide) H (fun _ H => ?_) (fun _ H => ?_)
  · refine r_iconst (v := 0) K dX12_laysTones_44 (by decide) ?_
    refine r_istore_n K [(1, .int _), (0, .ref _)] dX12_laysTones_45 rfl (by decide) rfl ?_
    obtain ⟨z2, H2, rfl⟩ := jmap H
    exact r_sub [1, 0] rfl (l_X12_laysTones_46 K hl H2 D)
  · refine r_aload_n K 0 dX12_laysTones_24 rfl rfl ?_
    refine w_getO K vc12 inX12 13 (by decide) mF_RX12_26 dX12_laysTones_25 H (fun x2 H => ?_)
    refine r_iload_n K 1 dX12_laysTones_28 rfl rfl ?_
    refine r_aload_n K 0 dX12_laysTones_29 rfl rfl ?_
    refine w_getO K vc12 inX12 11 (by decide) mF_RX12_20 dX12_laysTones_30 H (fun x3 H => ?_)
    refine r_iload_n K 1 dX12_laysTones_33 rfl rfl ?_
    refine w_iald K dX12_laysTones_34 H (fun x4 H => ?_)
    refine w_callS K hl H (fun r h => c_X12_times l h) mC_yX12_times mM_RX12_152 mT_yX12_times mZ_RX12 (Nat.le_of_ble_eq_true rfl) (Nat.le_of_ble_eq_true rfl) np_yX12_times rfl (Nat.le_of_ble_eq_true rfl) dX12_laysTones_35 (fun μ5 H => ?_) ⟨Nat.zero_le _, Nat.zero_le _⟩
    refine r_iinc K 1 [(1, .int _), (0, .ref _)] (v := _ + (1 : Int32)) dX12_laysTones_38 rfl rfl (by decide) rfl ?_
    refine r_goto K 16 dX12_laysTones_41 (by decide) ?_
    cases H
    exact r_sub [1, 0] rfl D
set_option maxRecDepth 10000 in
theorem l_X12_laysTones_16 {X : jX} {l : Launch} {n : Nat} {Y : jY} (K : jOK X RX12 cX12_laysTones 3 none 2) (hl : X.2.1 = l) {μr : jM} {v0 : Nat}  {s0 : Int32 × jM} {z : (jM)} (H : jit jF (fun (s : Int32 × jM) => b_X12_laysTones_16 Y v0 s.1 s.2) s0 = some z) (D : z = μr) : JW X (jEnd X n Y none μr 0 0) 0 0 n Y 16 [(0, .ref v0), (1, .int s0.1)] [] s0.2 :=
  jit_ind (P := fun (s : Int32 × jM) => JW X (jEnd X n Y none μr 0 0) 0 0 n Y 16 [(0, .ref v0), (1, .int s.1)] [] s.2) (D := fun r => r = μr) (fun s z Hs Ds => t_X12_laysTones_16 K hl Hs Ds) jF s0 z H D
set_option maxRecDepth 10000 in
theorem t_X12_laysTones_0 {X : jX} {l : Launch} {n : Nat} {Y : jY} (K : jOK X RX12 cX12_laysTones 3 none 2) (hl : X.2.1 = l) {μr : jM} {v0 : Nat} {μ : jM} {z : (jM)} (H : f_X12_laysTones Y v0 μ = some z) (D : z = μr) : JW X (jEnd X n Y none μr 0 0) 0 0 n Y 0 [(0, .ref v0)] [] μ := by
  unfold f_X12_laysTones at H
  refine r_aload_n K 0 dX12_laysTones_0 rfl rfl ?_
  refine w_getO K vc12 inX12 13 (by decide) mF_RX12_26 dX12_laysTones_1 H (fun x1 H => ?_)
  refine r_iconst (v := 0) K dX12_laysTones_4 (by decide) ?_
  refine r_lconst (v := 1) K dX12_laysTones_5 (by decide) ?_
  refine w_last K dX12_laysTones_6 H (fun μ2 H => ?_)
  refine r_aload_n K 0 dX12_laysTones_7 rfl rfl ?_
  refine w_getO K vc12 inX12 14 (by decide) mF_RX12_30 dX12_laysTones_8 H (fun x3 H => ?_)
  refine r_iconst (v := 0) K dX12_laysTones_11 (by decide) ?_
  refine r_lconst (v := 1) K dX12_laysTones_12 (by decide) ?_
  refine w_last K dX12_laysTones_13 H (fun μ4 H => ?_)
  refine r_iconst (v := 0) K dX12_laysTones_14 (by decide) ?_
  refine r_istore_n K [(1, .int _), (0, .ref _)] dX12_laysTones_15 rfl (by decide) rfl ?_
  exact r_sub [1, 0] rfl (l_X12_laysTones_16 K hl H D)
theorem c_X12_laysTones (l : Launch) {n : Nat} {Y : jY} {v0 : Nat} {μ : jM} {z : jM} (H : f_X12_laysTones Y v0 μ = some z) : jC l yX12_laysTones cX12_laysTones 3 none 2 0 0 [.ref v0] n Y μ n Y none z := by
  refine jC_of (by decide +kernel) (Nat.le_of_ble_eq_true rfl) (fun X hl K _ _ _ => ?_)
  exact t_X12_laysTones_0 K hl H rfl
/-! RX12 laysChain()Z -/
def b_X12_laysChain_17 (Y : jY) (μ : jM) : Option (Int32 × jM) :=
  (jbool ((0 : Int32))).bind fun x1 =>
  some (x1, μ)
def b_X12_laysChain_228 (Y : jY) (v0 : Nat) (v1 : Int32) (μ : jM) : Option ((Int32 × jM) ⊕ (Int32 × jM)) :=
  (jgO Y μ v0 12 20).bind fun x1 =>
  (jgL Y μ v0 12 16).bind fun x2 =>
  (jas Y μ x1 21 v1 (.long x2)).bind fun μ3 =>
  (jgO Y μ3 v0 12 21).bind fun x4 =>
  (jgL Y μ3 v0 12 17).bind fun x5 =>
  (jas Y μ3 x4 21 v1 (.long x5)).bind fun μ6 =>
  some (.inl ((v1 + (-1 : Int32)), μ6))
def b_X12_laysChain_156 (Y : jY) (v0 : Nat) (v1 : Int32) (μ : jM) : Option ((Int32 × jM) ⊕ (Int32 × jM)) :=
  (jgO Y μ v0 12 18).bind fun x1 =>
  (jgL Y μ v0 12 16).bind fun x2 =>
  (jas Y μ x1 21 v1 (.long x2)).bind fun μ3 =>
  (jgO Y μ3 v0 12 19).bind fun x4 =>
  (jgL Y μ3 v0 12 17).bind fun x5 =>
  (jas Y μ3 x4 21 v1 (.long x5)).bind fun μ6 =>
  (jrcv Y v0 12 (f_X12_laysA Y v0 v1 μ6)).bind fun μ7 =>
  (jgO Y μ7 v0 12 18).bind fun x8 =>
  (jaL Y μ7 x8 21 v1).bind fun x9 =>
  (jgO Y μ7 v0 12 19).bind fun x10 =>
  (jaL Y μ7 x10 21 v1).bind fun x11 =>
  (jrcv Y v0 12 (f_X12_multiplies Y v0 x9 x11 μ7)).bind fun μ12 =>
  (jgI Y μ12 v0 12 10).bind fun x13 =>
  if ((x13 - ((1 : Int32)))) ≤ v1 then
    b_X12_laysChain_228 Y v0 v1 μ12
  else
    (jgO Y μ12 v0 12 20).bind fun x14 =>
    (jaL Y μ12 x14 21 ((v1 + ((1 : Int32))))).bind fun x15 =>
    (jgO Y μ12 v0 12 21).bind fun x16 =>
    (jaL Y μ12 x16 21 ((v1 + ((1 : Int32))))).bind fun x17 =>
    (jrcv Y v0 12 (f_X12_adds Y v0 ((-x15)) x17 μ12)).bind fun μ18 =>
    b_X12_laysChain_228 Y v0 v1 μ18
def b_X12_laysChain_30 (Y : jY) (v0 : Nat) (v1 : Int32) (μ : jM) : Option ((Int32 × jM) ⊕ (Int32 × jM)) :=
  if v1 < 0 then
    (jbool ((1 : Int32))).bind fun x1 =>
    some (.inr (x1, μ))
  else
    (jgI Y μ v0 12 10).bind fun x2 =>
    if v1 = ((x2 - ((1 : Int32)))) then
      (jrcv Y v0 12 (f_X12_sets Y v0 ((1 : Int64)) ((1 : Int64)) μ)).bind fun μ25 =>
      b_X12_laysChain_156 Y v0 v1 μ25
    else
      (jgO Y μ v0 12 20).bind fun x3 =>
      (jaL Y μ x3 21 ((v1 + ((1 : Int32))))).bind fun x4 =>
      (jgO Y μ v0 12 21).bind fun x5 =>
      (jaL Y μ x5 21 ((v1 + ((1 : Int32))))).bind fun x6 =>
      (jrcv Y v0 12 (f_X12_sets Y v0 x4 x6 μ)).bind fun μ7 =>
      (jgO Y μ7 v0 12 20).bind fun x8 =>
      (jaL Y μ7 x8 21 ((v1 + ((1 : Int32))))).bind fun x9 =>
      (jgO Y μ7 v0 12 21).bind fun x10 =>
      (jaL Y μ7 x10 21 ((v1 + ((1 : Int32))))).bind fun x11 =>
      (jrcv Y v0 12 (f_X12_multiplies Y v0 x9 x11 μ7)).bind fun μ12 =>
      (jgO Y μ12 v0 12 19).bind fun x13 =>
      (jaL Y μ12 x13 21 ((v1 + ((1 : Int32))))).bind fun x14 =>
      (jgO Y μ12 v0 12 18).bind fun x15 =>
      (jaL Y μ12 x15 21 ((v1 + ((1 : Int32))))).bind fun x16 =>
      (jrcv Y v0 12 (f_X12_multiplies Y v0 x14 x16 μ12)).bind fun μ17 =>
      (jgL Y μ17 v0 12 16).bind fun x18 =>
      (jgL Y μ17 v0 12 17).bind fun x19 =>
      (jrcv Y v0 12 (f_X12_laysC Y v0 v1 μ17)).bind fun μ20 =>
      (jgL Y μ20 v0 12 16).bind fun x21 =>
      (jgL Y μ20 v0 12 17).bind fun x22 =>
      (jrcv Y v0 12 (f_X12_sets Y v0 x18 x19 μ20)).bind fun μ23 =>
      (jrcv Y v0 12 (f_X12_multiplies Y v0 x22 x21 μ23)).bind fun μ24 =>
      b_X12_laysChain_156 Y v0 v1 μ24
def f_X12_laysChain (Y : jY) (v0 : Nat) (μ : jM) : Option (Int32 × jM) :=
  (jgI Y μ v0 12 10).bind fun x1 =>
  if ((3 : Int32)) < x1 then
    b_X12_laysChain_17 Y μ
  else
    (jgO Y μ v0 12 11).bind fun x2 =>
    (jaI Y μ x2 20 ((0 : Int32))).bind fun x3 =>
    if 0 < x3 then
      (jrcv Y v0 12 (f_X12_laysTones Y v0 μ)).bind fun μ4 =>
      (jgI Y μ4 v0 12 10).bind fun x5 =>
      jit jF (fun (s : Int32 × jM) => b_X12_laysChain_30 Y v0 s.1 s.2) ((x5 - ((1 : Int32))), μ4)
    else
      b_X12_laysChain_17 Y μ
set_option maxRecDepth 10000 in
theorem t_X12_laysChain_17 {X : jX} {l : Launch} {n : Nat} {Y : jY} (K : jOK X RX12 cX12_laysChain 10 (some .boolean) 8) (hl : X.2.1 = l) {rr : Int32} {μr : jM} {μ : jM} {z : (Int32 × jM)} (H : b_X12_laysChain_17 Y μ = some z) (D : z = (rr, μr)) : JW X (jEnd X n Y (some (.int rr)) μr 0 0) 0 0 n Y 17 [] [] μ := by
  unfold b_X12_laysChain_17 at H
  refine r_iconst (v := 0) K dX12_laysChain_17 (by decide) ?_
  refine w_zret K dX12_laysChain_18 H (fun hz H => ?_)
  cases H
  obtain ⟨rfl, rfl⟩ := jfin2 D
  exact r_zret K hz dX12_laysChain_18
set_option maxRecDepth 10000 in
theorem t_X12_laysChain_228 {X : jX} {l : Launch} {n : Nat} {Y : jY} (K : jOK X RX12 cX12_laysChain 10 (some .boolean) 8) (hl : X.2.1 = l) {rr : Int32} {μr : jM} {v0 : Nat} {v1 : Int32} {μ : jM} {z : ((Int32 × jM) ⊕ (Int32 × jM))} (H : b_X12_laysChain_228 Y v0 v1 μ = some z) (D : Sum.elim (fun (s : Int32 × jM) => JW X (jEnd X n Y (some (.int rr)) μr 0 0) 0 0 n Y 30 [(0, .ref v0), (1, .int s.1)] [] s.2) (fun r => r = (rr, μr)) z) : JW X (jEnd X n Y (some (.int rr)) μr 0 0) 0 0 n Y 228 [(0, .ref v0), (1, .int v1)] [] μ := by
  unfold b_X12_laysChain_228 at H
  refine r_aload_n K 0 dX12_laysChain_228 rfl rfl ?_
  refine w_getO K vc12 inX12 20 (by decide) mF_RX12_42 dX12_laysChain_229 H (fun x1 H => ?_)
  refine r_iload_n K 1 dX12_laysChain_232 rfl rfl ?_
  refine r_aload_n K 0 dX12_laysChain_233 rfl rfl ?_
  refine w_getL K vc12 inX12 16 (by decide) mF_RX12_177 dX12_laysChain_234 H (fun x2 H => ?_)
  refine w_last K dX12_laysChain_237 H (fun μ3 H => ?_)
  refine r_aload_n K 0 dX12_laysChain_238 rfl rfl ?_
  refine w_getO K vc12 inX12 21 (by decide) mF_RX12_45 dX12_laysChain_239 H (fun x4 H => ?_)
  refine r_iload_n K 1 dX12_laysChain_242 rfl rfl ?_
  refine r_aload_n K 0 dX12_laysChain_243 rfl rfl ?_
  refine w_getL K vc12 inX12 17 (by decide) mF_RX12_181 dX12_laysChain_244 H (fun x5 H => ?_)
  refine w_last K dX12_laysChain_247 H (fun μ6 H => ?_)
  refine r_iinc K 1 [(1, .int _), (0, .ref _)] (v := _ + (-1 : Int32)) dX12_laysChain_248 rfl rfl (by decide) rfl ?_
  refine r_goto K 30 dX12_laysChain_251 (by decide) ?_
  cases H
  exact r_sub [1, 0] rfl D
set_option maxRecDepth 10000 in
theorem t_X12_laysChain_156 {X : jX} {l : Launch} {n : Nat} {Y : jY} (K : jOK X RX12 cX12_laysChain 10 (some .boolean) 8) (hl : X.2.1 = l) {rr : Int32} {μr : jM} {v0 : Nat} {v1 : Int32} {μ : jM} {z : ((Int32 × jM) ⊕ (Int32 × jM))} (H : b_X12_laysChain_156 Y v0 v1 μ = some z) (D : Sum.elim (fun (s : Int32 × jM) => JW X (jEnd X n Y (some (.int rr)) μr 0 0) 0 0 n Y 30 [(0, .ref v0), (1, .int s.1)] [] s.2) (fun r => r = (rr, μr)) z) : JW X (jEnd X n Y (some (.int rr)) μr 0 0) 0 0 n Y 156 [(0, .ref v0), (1, .int v1)] [] μ := by
  unfold b_X12_laysChain_156 at H
  refine r_aload_n K 0 dX12_laysChain_156 rfl rfl ?_
  refine w_getO K vc12 inX12 18 (by decide) mF_RX12_36 dX12_laysChain_157 H (fun x1 H => ?_)
  refine r_iload_n K 1 dX12_laysChain_160 rfl rfl ?_
  refine r_aload_n K 0 dX12_laysChain_161 rfl rfl ?_
  refine w_getL K vc12 inX12 16 (by decide) mF_RX12_177 dX12_laysChain_162 H (fun x2 H => ?_)
  refine w_last K dX12_laysChain_165 H (fun μ3 H => ?_)
  refine r_aload_n K 0 dX12_laysChain_166 rfl rfl ?_
  refine w_getO K vc12 inX12 19 (by decide) mF_RX12_39 dX12_laysChain_167 H (fun x4 H => ?_)
  refine r_iload_n K 1 dX12_laysChain_170 rfl rfl ?_
  refine r_aload_n K 0 dX12_laysChain_171 rfl rfl ?_
  refine w_getL K vc12 inX12 17 (by decide) mF_RX12_181 dX12_laysChain_172 H (fun x5 H => ?_)
  refine w_last K dX12_laysChain_175 H (fun μ6 H => ?_)
  refine r_aload_n K 0 dX12_laysChain_176 rfl rfl ?_
  refine r_iload_n K 1 dX12_laysChain_177 rfl rfl ?_
  refine w_callV K hl H (fun r h => c_X12_laysA l h) mC_yX12_laysA mM_RX12_211 mI_yX12_laysA mS_yX12_laysA mZ_RX12 vc12 (Nat.le_of_ble_eq_true rfl) (Nat.le_of_ble_eq_true rfl) np_yX12_laysA rfl (Nat.le_of_ble_eq_true rfl) dX12_laysChain_178 (fun μ7 H => ?_) ⟨Nat.zero_le _, Nat.zero_le _⟩
  refine r_aload_n K 0 dX12_laysChain_181 rfl rfl ?_
  refine r_aload_n K 0 dX12_laysChain_182 rfl rfl ?_
  refine w_getO K vc12 inX12 18 (by decide) mF_RX12_36 dX12_laysChain_183 H (fun x8 H => ?_)
  refine r_iload_n K 1 dX12_laysChain_186 rfl rfl ?_
  refine w_lald K dX12_laysChain_187 H (fun x9 H => ?_)
  refine r_aload_n K 0 dX12_laysChain_188 rfl rfl ?_
  refine w_getO K vc12 inX12 19 (by decide) mF_RX12_39 dX12_laysChain_189 H (fun x10 H => ?_)
  refine r_iload_n K 1 dX12_laysChain_192 rfl rfl ?_
  refine w_lald K dX12_laysChain_193 H (fun x11 H => ?_)
  refine w_callV K hl H (fun r h => c_X12_multiplies l h) mC_yX12_multiplies mM_RX12_208 mI_yX12_multiplies mS_yX12_multiplies mZ_RX12 vc12 (Nat.le_of_ble_eq_true rfl) (Nat.le_of_ble_eq_true rfl) np_yX12_multiplies rfl (Nat.le_of_ble_eq_true rfl) dX12_laysChain_194 (fun μ12 H => ?_) ⟨Nat.zero_le _, Nat.zero_le _⟩
  refine r_iload_n K 1 dX12_laysChain_197 rfl rfl ?_
  refine r_aload_n K 0 dX12_laysChain_198 rfl rfl ?_
  refine w_getI K vc12 inX12 10 (by decide) mF_RX12_145 dX12_laysChain_199 H (fun x13 H => ?_)
  refine r_iconst (v := 1) K dX12_laysChain_202 (by decide) ?_
  refine r_isub K dX12_laysChain_203 ?_
  refine w_icmp_ge K 228 dX12_laysChain_204 (by decide) H (fun _ H => ?_) (fun _ H => ?_)
  · exact r_sub [0, 1] rfl (t_X12_laysChain_228 K hl H D)
  · refine r_aload_n K 0 dX12_laysChain_207 rfl rfl ?_
    refine r_aload_n K 0 dX12_laysChain_208 rfl rfl ?_
    refine w_getO K vc12 inX12 20 (by decide) mF_RX12_42 dX12_laysChain_209 H (fun x14 H => ?_)
    refine r_iload_n K 1 dX12_laysChain_212 rfl rfl ?_
    refine r_iconst (v := 1) K dX12_laysChain_213 (by decide) ?_
    refine r_iadd K dX12_laysChain_214 ?_
    refine w_lald K dX12_laysChain_215 H (fun x15 H => ?_)
    refine r_lneg K dX12_laysChain_216 ?_
    refine r_aload_n K 0 dX12_laysChain_217 rfl rfl ?_
    refine w_getO K vc12 inX12 21 (by decide) mF_RX12_45 dX12_laysChain_218 H (fun x16 H => ?_)
    refine r_iload_n K 1 dX12_laysChain_221 rfl rfl ?_
    refine r_iconst (v := 1) K dX12_laysChain_222 (by decide) ?_
    refine r_iadd K dX12_laysChain_223 ?_
    refine w_lald K dX12_laysChain_224 H (fun x17 H => ?_)
    refine w_callV K hl H (fun r h => c_X12_adds l h) mC_yX12_adds mM_RX12_205 mI_yX12_adds mS_yX12_adds mZ_RX12 vc12 (Nat.le_of_ble_eq_true rfl) (Nat.le_of_ble_eq_true rfl) np_yX12_adds rfl (Nat.le_of_ble_eq_true rfl) dX12_laysChain_225 (fun μ18 H => ?_) ⟨Nat.zero_le _, Nat.zero_le _⟩
    exact r_sub [0, 1] rfl (t_X12_laysChain_228 K hl H D)
set_option maxRecDepth 10000 in
theorem t_X12_laysChain_30 {X : jX} {l : Launch} {n : Nat} {Y : jY} (K : jOK X RX12 cX12_laysChain 10 (some .boolean) 8) (hl : X.2.1 = l) {rr : Int32} {μr : jM} {v0 : Nat} {v1 : Int32} {μ : jM} {z : ((Int32 × jM) ⊕ (Int32 × jM))} (H : b_X12_laysChain_30 Y v0 v1 μ = some z) (D : Sum.elim (fun (s : Int32 × jM) => JW X (jEnd X n Y (some (.int rr)) μr 0 0) 0 0 n Y 30 [(0, .ref v0), (1, .int s.1)] [] s.2) (fun r => r = (rr, μr)) z) : JW X (jEnd X n Y (some (.int rr)) μr 0 0) 0 0 n Y 30 [(0, .ref v0), (1, .int v1)] [] μ := by
  unfold b_X12_laysChain_30 at H
  refine r_iload_n K 1 dX12_laysChain_30 rfl rfl ?_
  refine w_if_lt K 254 dX12_laysChain_31 (by decide) H (fun _ H => ?_) (fun _ H => ?_)
  · refine r_iconst (v := 1) K dX12_laysChain_254 (by decide) ?_
    refine w_zret K dX12_laysChain_255 H (fun hz H => ?_)
    cases H
    simp only [Sum.elim_inr] at D
    obtain ⟨rfl, rfl⟩ := jfin2 D
    exact r_zret K hz dX12_laysChain_255
  · refine r_iload_n K 1 dX12_laysChain_34 rfl rfl ?_
    refine r_aload_n K 0 dX12_laysChain_35 rfl rfl ?_
    refine w_getI K vc12 inX12 10 (by decide) mF_RX12_145 dX12_laysChain_36 H (fun x2 H => ?_)
    refine r_iconst (v := 1) K dX12_laysChain_39 (by decide) ?_
    refine r_isub K dX12_laysChain_40 ?_
    refine w_icmp_ne K 53 dX12_laysChain_41 (by decide) H (fun _ H => ?_) (fun _ H => ?_)
    · refine r_aload_n K 0 dX12_laysChain_53 rfl rfl ?_
      refine r_aload_n K 0 dX12_laysChain_54 rfl rfl ?_
      refine w_getO K vc12 inX12 20 (by decide) mF_RX12_42 dX12_laysChain_55 H (fun x3 H => ?_)
      refine r_iload_n K 1 dX12_laysChain_58 rfl rfl ?_
      refine r_iconst (v := 1) K dX12_laysChain_59 (by decide) ?_
      refine r_iadd K dX12_laysChain_60 ?_
      refine w_lald K dX12_laysChain_61 H (fun x4 H => ?_)
      refine r_aload_n K 0 dX12_laysChain_62 rfl rfl ?_
      refine w_getO K vc12 inX12 21 (by decide) mF_RX12_45 dX12_laysChain_63 H (fun x5 H => ?_)
      refine r_iload_n K 1 dX12_laysChain_66 rfl rfl ?_
      refine r_iconst (v := 1) K dX12_laysChain_67 (by decide) ?_
      refine r_iadd K dX12_laysChain_68 ?_
      refine w_lald K dX12_laysChain_69 H (fun x6 H => ?_)
      refine w_callV K hl H (fun r h => c_X12_sets l h) mC_yX12_sets mM_RX12_191 mI_yX12_sets mS_yX12_sets mZ_RX12 vc12 (Nat.le_of_ble_eq_true rfl) (Nat.le_of_ble_eq_true rfl) np_yX12_sets rfl (Nat.le_of_ble_eq_true rfl) dX12_laysChain_70 (fun μ7 H => ?_) ⟨Nat.zero_le _, Nat.zero_le _⟩
      refine r_aload_n K 0 dX12_laysChain_73 rfl rfl ?_
      refine r_aload_n K 0 dX12_laysChain_74 rfl rfl ?_
      refine w_getO K vc12 inX12 20 (by decide) mF_RX12_42 dX12_laysChain_75 H (fun x8 H => ?_)
      refine r_iload_n K 1 dX12_laysChain_78 rfl rfl ?_
      refine r_iconst (v := 1) K dX12_laysChain_79 (by decide) ?_
      refine r_iadd K dX12_laysChain_80 ?_
      refine w_lald K dX12_laysChain_81 H (fun x9 H => ?_)
      refine r_aload_n K 0 dX12_laysChain_82 rfl rfl ?_
      refine w_getO K vc12 inX12 21 (by decide) mF_RX12_45 dX12_laysChain_83 H (fun x10 H => ?_)
      refine r_iload_n K 1 dX12_laysChain_86 rfl rfl ?_
      refine r_iconst (v := 1) K dX12_laysChain_87 (by decide) ?_
      refine r_iadd K dX12_laysChain_88 ?_
      refine w_lald K dX12_laysChain_89 H (fun x11 H => ?_)
      refine w_callV K hl H (fun r h => c_X12_multiplies l h) mC_yX12_multiplies mM_RX12_208 mI_yX12_multiplies mS_yX12_multiplies mZ_RX12 vc12 (Nat.le_of_ble_eq_true rfl) (Nat.le_of_ble_eq_true rfl) np_yX12_multiplies rfl (Nat.le_of_ble_eq_true rfl) dX12_laysChain_90 (fun μ12 H => ?_) ⟨Nat.zero_le _, Nat.zero_le _⟩
      refine r_aload_n K 0 dX12_laysChain_93 rfl rfl ?_
      refine r_aload_n K 0 dX12_laysChain_94 rfl rfl ?_
      refine w_getO K vc12 inX12 19 (by decide) mF_RX12_39 dX12_laysChain_95 H (fun x13 H => ?_)
      refine r_iload_n K 1 dX12_laysChain_98 rfl rfl ?_
      refine r_iconst (v := 1) K dX12_laysChain_99 (by decide) ?_
      refine r_iadd K dX12_laysChain_100 ?_
      refine w_lald K dX12_laysChain_101 H (fun x14 H => ?_)
      refine r_aload_n K 0 dX12_laysChain_102 rfl rfl ?_
      refine w_getO K vc12 inX12 18 (by decide) mF_RX12_36 dX12_laysChain_103 H (fun x15 H => ?_)
      refine r_iload_n K 1 dX12_laysChain_106 rfl rfl ?_
      refine r_iconst (v := 1) K dX12_laysChain_107 (by decide) ?_
      refine r_iadd K dX12_laysChain_108 ?_
      refine w_lald K dX12_laysChain_109 H (fun x16 H => ?_)
      refine w_callV K hl H (fun r h => c_X12_multiplies l h) mC_yX12_multiplies mM_RX12_208 mI_yX12_multiplies mS_yX12_multiplies mZ_RX12 vc12 (Nat.le_of_ble_eq_true rfl) (Nat.le_of_ble_eq_true rfl) np_yX12_multiplies rfl (Nat.le_of_ble_eq_true rfl) dX12_laysChain_110 (fun μ17 H => ?_) ⟨Nat.zero_le _, Nat.zero_le _⟩
      refine r_aload_n K 0 dX12_laysChain_113 rfl rfl ?_
      refine w_getL K vc12 inX12 16 (by decide) mF_RX12_177 dX12_laysChain_114 H (fun x18 H => ?_)
      refine r_lstore_n K [(2, .long _), (0, .ref _), (1, .int _)] dX12_laysChain_117 rfl (by decide) rfl ?_
      refine r_aload_n K 1 dX12_laysChain_118 rfl rfl ?_
      refine w_getL K vc12 inX12 17 (by decide) mF_RX12_181 dX12_laysChain_119 H (fun x19 H => ?_)
      refine r_lstore K [(4, .long _), (2, .long _), (0, .ref _), (1, .int _)] dX12_laysChain_122 (by decide) rfl ?_
      refine r_aload_n K 2 dX12_laysChain_124 rfl rfl ?_
      refine r_iload_n K 3 dX12_laysChain_125 rfl rfl ?_
      refine w_callV K hl H (fun r h => c_X12_laysC l h) mC_yX12_laysC mM_RX12_214 mI_yX12_laysC mS_yX12_laysC mZ_RX12 vc12 (Nat.le_of_ble_eq_true rfl) (Nat.le_of_ble_eq_true rfl) np_yX12_laysC rfl (Nat.le_of_ble_eq_true rfl) dX12_laysChain_126 (fun μ20 H => ?_) ⟨Nat.zero_le _, Nat.zero_le _⟩
      refine r_aload_n K 2 dX12_laysChain_129 rfl rfl ?_
      refine w_getL K vc12 inX12 16 (by decide) mF_RX12_177 dX12_laysChain_130 H (fun x21 H => ?_)
      refine r_lstore K [(6, .long _), (4, .long _), (2, .long _), (0, .ref _), (1, .int _)] dX12_laysChain_133 (by decide) rfl ?_
      refine r_aload_n K 3 dX12_laysChain_135 rfl rfl ?_
      refine w_getL K vc12 inX12 17 (by decide) mF_RX12_181 dX12_laysChain_136 H (fun x22 H => ?_)
      refine r_lstore K [(8, .long _), (6, .long _), (4, .long _), (2, .long _), (0, .ref _), (1, .int _)] dX12_laysChain_139 (by decide) rfl ?_
      refine r_aload_n K 4 dX12_laysChain_141 rfl rfl ?_
      refine r_lload_n K 3 dX12_laysChain_142 rfl rfl ?_
      refine r_lload K 2 dX12_laysChain_143 rfl ?_
      refine w_callV K hl H (fun r h => c_X12_sets l h) mC_yX12_sets mM_RX12_191 mI_yX12_sets mS_yX12_sets mZ_RX12 vc12 (Nat.le_of_ble_eq_true rfl) (Nat.le_of_ble_eq_true rfl) np_yX12_sets rfl (Nat.le_of_ble_eq_true rfl) dX12_laysChain_145 (fun μ23 H => ?_) ⟨Nat.zero_le _, Nat.zero_le _⟩
      refine r_aload_n K 4 dX12_laysChain_148 rfl rfl ?_
      refine r_lload K 0 dX12_laysChain_149 rfl ?_
      refine r_lload K 1 dX12_laysChain_151 rfl ?_
      refine w_callV K hl H (fun r h => c_X12_multiplies l h) mC_yX12_multiplies mM_RX12_208 mI_yX12_multiplies mS_yX12_multiplies mZ_RX12 vc12 (Nat.le_of_ble_eq_true rfl) (Nat.le_of_ble_eq_true rfl) np_yX12_multiplies rfl (Nat.le_of_ble_eq_true rfl) dX12_laysChain_153 (fun μ24 H => ?_) ⟨Nat.zero_le _, Nat.zero_le _⟩
      exact r_sub [4, 5] rfl (t_X12_laysChain_156 K hl H D)
    · refine r_aload_n K 0 dX12_laysChain_44 rfl rfl ?_
      refine r_lconst (v := 1) K dX12_laysChain_45 (by decide) ?_
      refine r_lconst (v := 1) K dX12_laysChain_46 (by decide) ?_
      refine w_callV K hl H (fun r h => c_X12_sets l h) mC_yX12_sets mM_RX12_191 mI_yX12_sets mS_yX12_sets mZ_RX12 vc12 (Nat.le_of_ble_eq_true rfl) (Nat.le_of_ble_eq_true rfl) np_yX12_sets rfl (Nat.le_of_ble_eq_true rfl) dX12_laysChain_47 (fun μ25 H => ?_) ⟨Nat.zero_le _, Nat.zero_le _⟩
      refine r_goto K 156 dX12_laysChain_50 (by decide) ?_
      exact r_sub [0, 1] rfl (t_X12_laysChain_156 K hl H D)
set_option maxRecDepth 10000 in
theorem l_X12_laysChain_30 {X : jX} {l : Launch} {n : Nat} {Y : jY} (K : jOK X RX12 cX12_laysChain 10 (some .boolean) 8) (hl : X.2.1 = l) {rr : Int32} {μr : jM} {v0 : Nat}  {s0 : Int32 × jM} {z : (Int32 × jM)} (H : jit jF (fun (s : Int32 × jM) => b_X12_laysChain_30 Y v0 s.1 s.2) s0 = some z) (D : z = (rr, μr)) : JW X (jEnd X n Y (some (.int rr)) μr 0 0) 0 0 n Y 30 [(0, .ref v0), (1, .int s0.1)] [] s0.2 :=
  jit_ind (P := fun (s : Int32 × jM) => JW X (jEnd X n Y (some (.int rr)) μr 0 0) 0 0 n Y 30 [(0, .ref v0), (1, .int s.1)] [] s.2) (D := fun r => r = (rr, μr)) (fun s z Hs Ds => t_X12_laysChain_30 K hl Hs Ds) jF s0 z H D
set_option maxRecDepth 10000 in
theorem t_X12_laysChain_0 {X : jX} {l : Launch} {n : Nat} {Y : jY} (K : jOK X RX12 cX12_laysChain 10 (some .boolean) 8) (hl : X.2.1 = l) {rr : Int32} {μr : jM} {v0 : Nat} {μ : jM} {z : (Int32 × jM)} (H : f_X12_laysChain Y v0 μ = some z) (D : z = (rr, μr)) : JW X (jEnd X n Y (some (.int rr)) μr 0 0) 0 0 n Y 0 [(0, .ref v0)] [] μ := by
  unfold f_X12_laysChain at H
  refine r_aload_n K 0 dX12_laysChain_0 rfl rfl ?_
  refine w_getI K vc12 inX12 10 (by decide) mF_RX12_145 dX12_laysChain_1 H (fun x1 H => ?_)
  refine r_iconst (v := 3) K dX12_laysChain_4 (by decide) ?_
  refine w_icmp_gt K 17 dX12_laysChain_5 (by decide) H (fun _ H => ?_) (fun _ H => ?_)
  · exact r_sub [] rfl (t_X12_laysChain_17 K hl H D)
  · refine r_aload_n K 0 dX12_laysChain_8 rfl rfl ?_
    refine w_getO K vc12 inX12 11 (by decide) mF_RX12_20 dX12_laysChain_9 H (fun x2 H => ?_)
    refine r_iconst (v := 0) K dX12_laysChain_12 (by decide) ?_
    refine w_iald K dX12_laysChain_13 H (fun x3 H => ?_)
    refine w_if_gt K 19 dX12_laysChain_14 (by decide) H (fun _ H => ?_) (fun _ H => ?_)
    · refine r_aload_n K 0 dX12_laysChain_19 rfl rfl ?_
      refine w_callV K hl H (fun r h => c_X12_laysTones l h) mC_yX12_laysTones mM_RX12_158 mI_yX12_laysTones mS_yX12_laysTones mZ_RX12 vc12 (Nat.le_of_ble_eq_true rfl) (Nat.le_of_ble_eq_true rfl) np_yX12_laysTones rfl (Nat.le_of_ble_eq_true rfl) dX12_laysChain_20 (fun μ4 H => ?_) ⟨Nat.zero_le _, Nat.zero_le _⟩
      refine r_aload_n K 0 dX12_laysChain_23 rfl rfl ?_
      refine w_getI K vc12 inX12 10 (by decide) mF_RX12_145 dX12_laysChain_24 H (fun x5 H => ?_)
      refine r_iconst (v := 1) K dX12_laysChain_27 (by decide) ?_
      refine r_isub K dX12_laysChain_28 ?_
      refine r_istore_n K [(1, .int _), (0, .ref _)] dX12_laysChain_29 rfl (by decide) rfl ?_
      exact r_sub [1, 0] rfl (l_X12_laysChain_30 K hl H D)
    · exact r_sub [] rfl (t_X12_laysChain_17 K hl H D)
theorem c_X12_laysChain (l : Launch) {n : Nat} {Y : jY} {v0 : Nat} {μ : jM} {z : Int32 × jM} (H : f_X12_laysChain Y v0 μ = some z) : jC l yX12_laysChain cX12_laysChain 10 (some .boolean) 8 0 0 [.ref v0] n Y μ n Y (some (.int z.1)) z.2 := by
  refine jC_of (by decide +kernel) (Nat.le_of_ble_eq_true rfl) (fun X hl K _ _ _ => ?_)
  obtain ⟨rr, μr⟩ := z
  exact t_X12_laysChain_0 K hl H rfl
/-! RX12 chain(III)J -/
def b_X12_chain_39 (Y : jY) (μ : jM) : Option (Int64 × jM) :=
  some ((-9223372036854775808 : Int64), μ)
def b_X12_chain_97 (Y : jY) (t0 : Int64) (μ : jM) : Option (Int64 × jM) :=
  some (t0, μ)
def b_X12_chain_77 (Y : jY) (t0 : Int64) (μ : jM) : Option (Int64 × jM) :=
  some (t0, μ)
def f_X12_chain (Y : jY) (v0 : Nat) (v1 : Int32) (v2 : Int32) (v3 : Int32) (μ : jM) : Option (Int64 × jM) :=
  (jgI Y μ v0 12 10).bind fun x1 =>
  if x1 = 0 then
    b_X12_chain_39 Y μ
  else
    (f_X12_in Y v1 ((0 : Int32)) ((1 : Int32)) μ).bind fun r2 =>
    if r2.1 = 0 then
      b_X12_chain_39 Y r2.2
    else
      (jgI Y r2.2 v0 12 10).bind fun x3 =>
      (f_X12_in Y v2 ((0 : Int32)) ((x3 - ((1 : Int32)))) r2.2).bind fun r4 =>
      if r4.1 = 0 then
        b_X12_chain_39 Y r4.2
      else
        (f_X12_in Y v3 ((0 : Int32)) ((1 : Int32)) r4.2).bind fun r5 =>
        if r5.1 = 0 then
          b_X12_chain_39 Y r5.2
        else
          (jrcv Y v0 12 (f_X12_laysChain Y v0 r5.2)).bind fun r6 =>
          if r6.1 = 0 then
            some ((-2 : Int64), r6.2)
          else
            if v1 = 0 then
              if v3 = 0 then
                (jgO Y r6.2 v0 12 18).bind fun x13 =>
                (jaL Y r6.2 x13 21 v2).bind fun x14 =>
                b_X12_chain_77 Y x14 r6.2
              else
                (jgO Y r6.2 v0 12 19).bind fun x11 =>
                (jaL Y r6.2 x11 21 v2).bind fun x12 =>
                b_X12_chain_77 Y x12 r6.2
            else
              if v3 = 0 then
                (jgO Y r6.2 v0 12 20).bind fun x9 =>
                (jaL Y r6.2 x9 21 v2).bind fun x10 =>
                b_X12_chain_97 Y x10 r6.2
              else
                (jgO Y r6.2 v0 12 21).bind fun x7 =>
                (jaL Y r6.2 x7 21 v2).bind fun x8 =>
                b_X12_chain_97 Y x8 r6.2
set_option maxRecDepth 10000 in
theorem t_X12_chain_39 {X : jX} {l : Launch} {n : Nat} {Y : jY} (K : jOK X RX12 cX12_chain 4 (some .long) 9) (hl : X.2.1 = l) {rr : Int64} {μr : jM} {μ : jM} {z : (Int64 × jM)} (H : b_X12_chain_39 Y μ = some z) (D : z = (rr, μr)) : JW X (jEnd X n Y (some (.long rr)) μr 0 0) 0 0 n Y 39 [] [] μ := by
  unfold b_X12_chain_39 at H
  refine r_ldc2 K (-9223372036854775808) mc_RX12_156 dX12_chain_39 ?_
  cases H
  obtain ⟨rfl, rfl⟩ := jfin2 D
  exact r_lret K dX12_chain_42
set_option maxRecDepth 10000 in
theorem t_X12_chain_97 {X : jX} {l : Launch} {n : Nat} {Y : jY} (K : jOK X RX12 cX12_chain 4 (some .long) 9) (hl : X.2.1 = l) {rr : Int64} {μr : jM} {t0 : Int64} {μ : jM} {z : (Int64 × jM)} (H : b_X12_chain_97 Y t0 μ = some z) (D : z = (rr, μr)) : JW X (jEnd X n Y (some (.long rr)) μr 0 0) 0 0 n Y 97 [] [.long t0] μ := by
  unfold b_X12_chain_97 at H
  cases H
  obtain ⟨rfl, rfl⟩ := jfin2 D
  exact r_lret K dX12_chain_97
set_option maxRecDepth 10000 in
theorem t_X12_chain_77 {X : jX} {l : Launch} {n : Nat} {Y : jY} (K : jOK X RX12 cX12_chain 4 (some .long) 9) (hl : X.2.1 = l) {rr : Int64} {μr : jM} {t0 : Int64} {μ : jM} {z : (Int64 × jM)} (H : b_X12_chain_77 Y t0 μ = some z) (D : z = (rr, μr)) : JW X (jEnd X n Y (some (.long rr)) μr 0 0) 0 0 n Y 77 [] [.long t0] μ := by
  unfold b_X12_chain_77 at H
  cases H
  obtain ⟨rfl, rfl⟩ := jfin2 D
  exact r_lret K dX12_chain_77
set_option maxRecDepth 10000 in
theorem t_X12_chain_0 {X : jX} {l : Launch} {n : Nat} {Y : jY} (K : jOK X RX12 cX12_chain 4 (some .long) 9) (hl : X.2.1 = l) {rr : Int64} {μr : jM} {v0 : Nat} {v1 : Int32} {v2 : Int32} {v3 : Int32} {μ : jM} {z : (Int64 × jM)} (H : f_X12_chain Y v0 v1 v2 v3 μ = some z) (D : z = (rr, μr)) : JW X (jEnd X n Y (some (.long rr)) μr 0 0) 0 0 n Y 0 [(0, .ref v0), (1, .int v1), (2, .int v2), (3, .int v3)] [] μ := by
  unfold f_X12_chain at H
  refine r_aload_n K 0 dX12_chain_0 rfl rfl ?_
  refine w_getI K vc12 inX12 10 (by decide) mF_RX12_145 dX12_chain_1 H (fun x1 H => ?_)
  refine w_if_eq K 39 dX12_chain_4 (by decide) H (fun _ H => ?_) (fun _ H => ?_)
  · exact r_sub [] rfl (t_X12_chain_39 K hl H D)
  · refine r_iload_n K 1 dX12_chain_7 rfl rfl ?_
    refine r_iconst (v := 0) K dX12_chain_8 (by decide) ?_
    refine r_iconst (v := 1) K dX12_chain_9 (by decide) ?_
    refine w_callS K hl H (fun r h => c_X12_in l h) mC_yX12_in mM_RX12_134 mT_yX12_in mZ_RX12 (Nat.le_of_ble_eq_true rfl) (Nat.le_of_ble_eq_true rfl) np_yX12_in rfl (Nat.le_of_ble_eq_true rfl) dX12_chain_10 (fun r2 H => ?_) ⟨Nat.zero_le _, Nat.zero_le _⟩
    refine w_if_eq K 39 dX12_chain_13 (by decide) H (fun _ H => ?_) (fun _ H => ?_)
    · exact r_sub [] rfl (t_X12_chain_39 K hl H D)
    · refine r_iload_n K 2 dX12_chain_16 rfl rfl ?_
      refine r_iconst (v := 0) K dX12_chain_17 (by decide) ?_
      refine r_aload_n K 0 dX12_chain_18 rfl rfl ?_
      refine w_getI K vc12 inX12 10 (by decide) mF_RX12_145 dX12_chain_19 H (fun x3 H => ?_)
      refine r_iconst (v := 1) K dX12_chain_22 (by decide) ?_
      refine r_isub K dX12_chain_23 ?_
      refine w_callS K hl H (fun r h => c_X12_in l h) mC_yX12_in mM_RX12_134 mT_yX12_in mZ_RX12 (Nat.le_of_ble_eq_true rfl) (Nat.le_of_ble_eq_true rfl) np_yX12_in rfl (Nat.le_of_ble_eq_true rfl) dX12_chain_24 (fun r4 H => ?_) ⟨Nat.zero_le _, Nat.zero_le _⟩
      refine w_if_eq K 39 dX12_chain_27 (by decide) H (fun _ H => ?_) (fun _ H => ?_)
      · exact r_sub [] rfl (t_X12_chain_39 K hl H D)
      · refine r_iload_n K 3 dX12_chain_30 rfl rfl ?_
        refine r_iconst (v := 0) K dX12_chain_31 (by decide) ?_
        refine r_iconst (v := 1) K dX12_chain_32 (by decide) ?_
        refine w_callS K hl H (fun r h => c_X12_in l h) mC_yX12_in mM_RX12_134 mT_yX12_in mZ_RX12 (Nat.le_of_ble_eq_true rfl) (Nat.le_of_ble_eq_true rfl) np_yX12_in rfl (Nat.le_of_ble_eq_true rfl) dX12_chain_33 (fun r5 H => ?_) ⟨Nat.zero_le _, Nat.zero_le _⟩
        refine w_if_ne K 43 dX12_chain_36 (by decide) H (fun _ H => ?_) (fun _ H => ?_)
        · refine r_aload_n K 0 dX12_chain_43 rfl rfl ?_
          refine w_callV K hl H (fun r h => c_X12_laysChain l h) mC_yX12_laysChain mM_RX12_234 mI_yX12_laysChain mS_yX12_laysChain mZ_RX12 vc12 (Nat.le_of_ble_eq_true rfl) (Nat.le_of_ble_eq_true rfl) np_yX12_laysChain rfl (Nat.le_of_ble_eq_true rfl) dX12_chain_44 (fun r6 H => ?_) ⟨Nat.zero_le _, Nat.zero_le _⟩
          refine w_if_ne K 54 dX12_chain_47 (by decide) H (fun _ H => ?_) (fun _ H => ?_)
          · refine r_iload_n K 1 dX12_chain_54 rfl rfl ?_
            refine w_if_ne K 78 dX12_chain_55 (by decide) H (fun _ H => ?_) (fun _ H => ?_)
            · refine r_iload_n K 3 dX12_chain_78 rfl rfl ?_
              refine w_if_ne K 91 dX12_chain_79 (by decide) H (fun _ H => ?_) (fun _ H => ?_)
              · refine r_aload_n K 0 dX12_chain_91 rfl rfl ?_
                refine w_getO K vc12 inX12 21 (by decide) mF_RX12_45 dX12_chain_92 H (fun x7 H => ?_)
                refine r_iload_n K 2 dX12_chain_95 rfl rfl ?_
                refine w_lald K dX12_chain_96 H (fun x8 H => ?_)
                exact r_sub [] rfl (t_X12_chain_97 K hl H D)
              · refine r_aload_n K 0 dX12_chain_82 rfl rfl ?_
                refine w_getO K vc12 inX12 20 (by decide) mF_RX12_42 dX12_chain_83 H (fun x9 H => ?_)
                refine r_iload_n K 2 dX12_chain_86 rfl rfl ?_
                refine w_lald K dX12_chain_87 H (fun x10 H => ?_)
                refine r_goto K 97 dX12_chain_88 (by decide) ?_
                exact r_sub [] rfl (t_X12_chain_97 K hl H D)
            · refine r_iload_n K 3 dX12_chain_58 rfl rfl ?_
              refine w_if_ne K 71 dX12_chain_59 (by decide) H (fun _ H => ?_) (fun _ H => ?_)
              · refine r_aload_n K 0 dX12_chain_71 rfl rfl ?_
                refine w_getO K vc12 inX12 19 (by decide) mF_RX12_39 dX12_chain_72 H (fun x11 H => ?_)
                refine r_iload_n K 2 dX12_chain_75 rfl rfl ?_
                refine w_lald K dX12_chain_76 H (fun x12 H => ?_)
                exact r_sub [] rfl (t_X12_chain_77 K hl H D)
              · refine r_aload_n K 0 dX12_chain_62 rfl rfl ?_
                refine w_getO K vc12 inX12 18 (by decide) mF_RX12_36 dX12_chain_63 H (fun x13 H => ?_)
                refine r_iload_n K 2 dX12_chain_66 rfl rfl ?_
                refine w_lald K dX12_chain_67 H (fun x14 H => ?_)
                refine r_goto K 77 dX12_chain_68 (by decide) ?_
                exact r_sub [] rfl (t_X12_chain_77 K hl H D)
          · refine r_ldc2 K (-2) mc_RX12_232 dX12_chain_50 ?_
            cases H
            obtain ⟨rfl, rfl⟩ := jfin2 D
            exact r_lret K dX12_chain_53
        · exact r_sub [] rfl (t_X12_chain_39 K hl H D)
theorem c_X12_chain (l : Launch) {n : Nat} {Y : jY} {v0 : Nat} {v1 : Int32} {v2 : Int32} {v3 : Int32} {μ : jM} {z : Int64 × jM} (H : f_X12_chain Y v0 v1 v2 v3 μ = some z) : jC l yX12_chain cX12_chain 4 (some .long) 9 0 0 [.ref v0, .int v1, .int v2, .int v3] n Y μ n Y (some (.long z.1)) z.2 := by
  refine jC_of (by decide +kernel) (Nat.le_of_ble_eq_true rfl) (fun X hl K _ _ _ => ?_)
  obtain ⟨rr, μr⟩ := z
  exact t_X12_chain_0 K hl H rfl
/-! RX12 weighed(II)J -/
def b_X12_weighed_26 (Y : jY) (μ : jM) : Option (Int64 × jM) :=
  some ((-9223372036854775808 : Int64), μ)
def b_X12_weighed_48 (Y : jY) (t0 : Int64) (μ : jM) : Option (Int64 × jM) :=
  some (t0, μ)
def f_X12_weighed (Y : jY) (v0 : Nat) (v1 : Int32) (v2 : Int32) (μ : jM) : Option (Int64 × jM) :=
  (jgI Y μ v0 12 10).bind fun x1 =>
  if x1 = 0 then
    b_X12_weighed_26 Y μ
  else
    (f_X12_in Y v1 ((0 : Int32)) ((7 : Int32)) μ).bind fun r2 =>
    if r2.1 = 0 then
      b_X12_weighed_26 Y r2.2
    else
      (f_X12_in Y v2 ((0 : Int32)) ((1 : Int32)) r2.2).bind fun r3 =>
      if r3.1 = 0 then
        b_X12_weighed_26 Y r3.2
      else
        (jrcv Y v0 12 (f_X12_laysTones Y v0 r3.2)).bind fun μ4 =>
        if v2 = 0 then
          (jgO Y μ4 v0 12 15).bind fun x5 =>
          (jaL Y μ4 x5 21 v1).bind fun x6 =>
          b_X12_weighed_48 Y x6 μ4
        else
          b_X12_weighed_48 Y (1 : Int64) μ4
set_option maxRecDepth 10000 in
theorem t_X12_weighed_26 {X : jX} {l : Launch} {n : Nat} {Y : jY} (K : jOK X RX12 cX12_weighed 3 (some .long) 3) (hl : X.2.1 = l) {rr : Int64} {μr : jM} {μ : jM} {z : (Int64 × jM)} (H : b_X12_weighed_26 Y μ = some z) (D : z = (rr, μr)) : JW X (jEnd X n Y (some (.long rr)) μr 0 0) 0 0 n Y 26 [] [] μ := by
  unfold b_X12_weighed_26 at H
  refine r_ldc2 K (-9223372036854775808) mc_RX12_156 dX12_weighed_26 ?_
  cases H
  obtain ⟨rfl, rfl⟩ := jfin2 D
  exact r_lret K dX12_weighed_29
set_option maxRecDepth 10000 in
theorem t_X12_weighed_48 {X : jX} {l : Launch} {n : Nat} {Y : jY} (K : jOK X RX12 cX12_weighed 3 (some .long) 3) (hl : X.2.1 = l) {rr : Int64} {μr : jM} {t0 : Int64} {μ : jM} {z : (Int64 × jM)} (H : b_X12_weighed_48 Y t0 μ = some z) (D : z = (rr, μr)) : JW X (jEnd X n Y (some (.long rr)) μr 0 0) 0 0 n Y 48 [] [.long t0] μ := by
  unfold b_X12_weighed_48 at H
  cases H
  obtain ⟨rfl, rfl⟩ := jfin2 D
  exact r_lret K dX12_weighed_48
set_option maxRecDepth 10000 in
theorem t_X12_weighed_0 {X : jX} {l : Launch} {n : Nat} {Y : jY} (K : jOK X RX12 cX12_weighed 3 (some .long) 3) (hl : X.2.1 = l) {rr : Int64} {μr : jM} {v0 : Nat} {v1 : Int32} {v2 : Int32} {μ : jM} {z : (Int64 × jM)} (H : f_X12_weighed Y v0 v1 v2 μ = some z) (D : z = (rr, μr)) : JW X (jEnd X n Y (some (.long rr)) μr 0 0) 0 0 n Y 0 [(0, .ref v0), (1, .int v1), (2, .int v2)] [] μ := by
  unfold f_X12_weighed at H
  refine r_aload_n K 0 dX12_weighed_0 rfl rfl ?_
  refine w_getI K vc12 inX12 10 (by decide) mF_RX12_145 dX12_weighed_1 H (fun x1 H => ?_)
  refine w_if_eq K 26 dX12_weighed_4 (by decide) H (fun _ H => ?_) (fun _ H => ?_)
  · exact r_sub [] rfl (t_X12_weighed_26 K hl H D)
  · refine r_iload_n K 1 dX12_weighed_7 rfl rfl ?_
    refine r_iconst (v := 0) K dX12_weighed_8 (by decide) ?_
    refine r_bipush (v := 7) K dX12_weighed_9 (by decide) ?_
    refine w_callS K hl H (fun r h => c_X12_in l h) mC_yX12_in mM_RX12_134 mT_yX12_in mZ_RX12 (Nat.le_of_ble_eq_true rfl) (Nat.le_of_ble_eq_true rfl) np_yX12_in rfl (Nat.le_of_ble_eq_true rfl) dX12_weighed_11 (fun r2 H => ?_) ⟨Nat.zero_le _, Nat.zero_le _⟩
    refine w_if_eq K 26 dX12_weighed_14 (by decide) H (fun _ H => ?_) (fun _ H => ?_)
    · exact r_sub [] rfl (t_X12_weighed_26 K hl H D)
    · refine r_iload_n K 2 dX12_weighed_17 rfl rfl ?_
      refine r_iconst (v := 0) K dX12_weighed_18 (by decide) ?_
      refine r_iconst (v := 1) K dX12_weighed_19 (by decide) ?_
      refine w_callS K hl H (fun r h => c_X12_in l h) mC_yX12_in mM_RX12_134 mT_yX12_in mZ_RX12 (Nat.le_of_ble_eq_true rfl) (Nat.le_of_ble_eq_true rfl) np_yX12_in rfl (Nat.le_of_ble_eq_true rfl) dX12_weighed_20 (fun r3 H => ?_) ⟨Nat.zero_le _, Nat.zero_le _⟩
      refine w_if_ne K 30 dX12_weighed_23 (by decide) H (fun _ H => ?_) (fun _ H => ?_)
      · refine r_aload_n K 0 dX12_weighed_30 rfl rfl ?_
        refine w_callV K hl H (fun r h => c_X12_laysTones l h) mC_yX12_laysTones mM_RX12_158 mI_yX12_laysTones mS_yX12_laysTones mZ_RX12 vc12 (Nat.le_of_ble_eq_true rfl) (Nat.le_of_ble_eq_true rfl) np_yX12_laysTones rfl (Nat.le_of_ble_eq_true rfl) dX12_weighed_31 (fun μ4 H => ?_) ⟨Nat.zero_le _, Nat.zero_le _⟩
        refine r_iload_n K 2 dX12_weighed_34 rfl rfl ?_
        refine w_if_ne K 47 dX12_weighed_35 (by decide) H (fun _ H => ?_) (fun _ H => ?_)
        · refine r_lconst (v := 1) K dX12_weighed_47 (by decide) ?_
          exact r_sub [] rfl (t_X12_weighed_48 K hl H D)
        · refine r_aload_n K 0 dX12_weighed_38 rfl rfl ?_
          refine w_getO K vc12 inX12 15 (by decide) mF_RX12_33 dX12_weighed_39 H (fun x5 H => ?_)
          refine r_iload_n K 1 dX12_weighed_42 rfl rfl ?_
          refine w_lald K dX12_weighed_43 H (fun x6 H => ?_)
          refine r_goto K 48 dX12_weighed_44 (by decide) ?_
          exact r_sub [] rfl (t_X12_weighed_48 K hl H D)
      · exact r_sub [] rfl (t_X12_weighed_26 K hl H D)
theorem c_X12_weighed (l : Launch) {n : Nat} {Y : jY} {v0 : Nat} {v1 : Int32} {v2 : Int32} {μ : jM} {z : Int64 × jM} (H : f_X12_weighed Y v0 v1 v2 μ = some z) : jC l yX12_weighed cX12_weighed 3 (some .long) 3 0 0 [.ref v0, .int v1, .int v2] n Y μ n Y (some (.long z.1)) z.2 := by
  refine jC_of (by decide +kernel) (Nat.le_of_ble_eq_true rfl) (fun X hl K _ _ _ => ?_)
  obtain ⟨rr, μr⟩ := z
  exact t_X12_weighed_0 K hl H rfl
/-! RX12 isTable()Z -/
def b_X12_isTable_146 (Y : jY) (t0 : Int32) (μ : jM) : Option (Int32 × jM) :=
  (jbool t0).bind fun x1 =>
  some (x1, μ)
def b_X12_isTable_145 (Y : jY) (μ : jM) : Option (Int32 × jM) :=
  b_X12_isTable_146 Y (0 : Int32) μ
def f_X12_isTable (Y : jY) (v0 : Nat) (μ : jM) : Option (Int32 × jM) :=
  (jgO Y μ v0 12 13).bind fun x1 =>
  (jaL Y μ x1 21 ((2 : Int32))).bind fun x2 =>
  (jgI Y μ v0 12 42).bind fun x3 =>
  (jgI Y μ v0 12 43).bind fun x4 =>
  (jput Y μ v0 12 44 (.int ((((((((-x2)).toInt32)) - x3)) - x4)))).bind fun μ5 =>
  (jgI Y μ5 v0 12 42).bind fun x6 =>
  (jgI Y μ5 v0 12 43).bind fun x7 =>
  (jgI Y μ5 v0 12 42).bind fun x8 =>
  (jgI Y μ5 v0 12 44).bind fun x9 =>
  (jgI Y μ5 v0 12 43).bind fun x10 =>
  (jgI Y μ5 v0 12 44).bind fun x11 =>
  (jgI Y μ5 v0 12 45).bind fun x12 =>
  (jgO Y μ5 v0 12 13).bind fun x13 =>
  (jaL Y μ5 x13 21 ((1 : Int32))).bind fun x14 =>
  (jput Y μ5 v0 12 46 (.int ((((((((((x6 * x7)) + ((x8 * x9)))) + ((x10 * x11)))) - x12)) - ((x14.toInt32)))))).bind fun μ15 =>
  (jgI Y μ15 v0 12 44).bind fun x16 =>
  (f_X12_in Y x16 ((-6 : Int32)) ((6 : Int32)) μ15).bind fun r17 =>
  if r17.1 = 0 then
    b_X12_isTable_145 Y r17.2
  else
    (jgI Y r17.2 v0 12 46).bind fun x18 =>
    (f_X12_in Y x18 ((1 : Int32)) ((36 : Int32)) r17.2).bind fun r19 =>
    if r19.1 = 0 then
      b_X12_isTable_145 Y r19.2
    else
      (jgI Y r19.2 v0 12 42).bind fun x20 =>
      (jgI Y r19.2 v0 12 43).bind fun x21 =>
      (jgI Y r19.2 v0 12 44).bind fun x22 =>
      (jgI Y r19.2 v0 12 45).bind fun x23 =>
      (jgI Y r19.2 v0 12 44).bind fun x24 =>
      (jgI Y r19.2 v0 12 46).bind fun x25 =>
      (jgI Y r19.2 v0 12 42).bind fun x26 =>
      (jgO Y r19.2 v0 12 13).bind fun x27 =>
      (jaL Y r19.2 x27 21 ((0 : Int32))).bind fun x28 =>
      if ((lg_cmp ((((((((((x20 * x21)) * x22)) - ((x23 * x24)))) - ((x25 * x26)))).toInt64)) ((-x28)))) = 0 then
        b_X12_isTable_146 Y (1 : Int32) r19.2
      else
        b_X12_isTable_145 Y r19.2
set_option maxRecDepth 10000 in
theorem t_X12_isTable_146 {X : jX} {l : Launch} {n : Nat} {Y : jY} (K : jOK X RX12 cX12_isTable 1 (some .boolean) 2) (hl : X.2.1 = l) {rr : Int32} {μr : jM} {t0 : Int32} {μ : jM} {z : (Int32 × jM)} (H : b_X12_isTable_146 Y t0 μ = some z) (D : z = (rr, μr)) : JW X (jEnd X n Y (some (.int rr)) μr 0 0) 0 0 n Y 146 [] [.int t0] μ := by
  unfold b_X12_isTable_146 at H
  refine w_zret K dX12_isTable_146 H (fun hz H => ?_)
  cases H
  obtain ⟨rfl, rfl⟩ := jfin2 D
  exact r_zret K hz dX12_isTable_146
set_option maxRecDepth 10000 in
theorem t_X12_isTable_145 {X : jX} {l : Launch} {n : Nat} {Y : jY} (K : jOK X RX12 cX12_isTable 1 (some .boolean) 2) (hl : X.2.1 = l) {rr : Int32} {μr : jM} {μ : jM} {z : (Int32 × jM)} (H : b_X12_isTable_145 Y μ = some z) (D : z = (rr, μr)) : JW X (jEnd X n Y (some (.int rr)) μr 0 0) 0 0 n Y 145 [] [] μ := by
  unfold b_X12_isTable_145 at H
  refine r_iconst (v := 0) K dX12_isTable_145 (by decide) ?_
  exact r_sub [] rfl (t_X12_isTable_146 K hl H D)
set_option maxRecDepth 10000 in
theorem t_X12_isTable_0 {X : jX} {l : Launch} {n : Nat} {Y : jY} (K : jOK X RX12 cX12_isTable 1 (some .boolean) 2) (hl : X.2.1 = l) {rr : Int32} {μr : jM} {v0 : Nat} {μ : jM} {z : (Int32 × jM)} (H : f_X12_isTable Y v0 μ = some z) (D : z = (rr, μr)) : JW X (jEnd X n Y (some (.int rr)) μr 0 0) 0 0 n Y 0 [(0, .ref v0)] [] μ := by
  unfold f_X12_isTable at H
  refine r_aload_n K 0 dX12_isTable_0 rfl rfl ?_
  refine r_aload_n K 0 dX12_isTable_1 rfl rfl ?_
  refine w_getO K vc12 inX12 13 (by decide) mF_RX12_26 dX12_isTable_2 H (fun x1 H => ?_)
  refine r_iconst (v := 2) K dX12_isTable_5 (by decide) ?_
  refine w_lald K dX12_isTable_6 H (fun x2 H => ?_)
  refine r_lneg K dX12_isTable_7 ?_
  refine r_l2i K dX12_isTable_8 ?_
  refine r_aload_n K 0 dX12_isTable_9 rfl rfl ?_
  refine w_getI K vc12 inX12 42 (by decide) mF_RX12_323 dX12_isTable_10 H (fun x3 H => ?_)
  refine r_isub K dX12_isTable_13 ?_
  refine r_aload_n K 0 dX12_isTable_14 rfl rfl ?_
  refine w_getI K vc12 inX12 43 (by decide) mF_RX12_326 dX12_isTable_15 H (fun x4 H => ?_)
  refine r_isub K dX12_isTable_18 ?_
  refine w_put K vc12 inX12 tyX12_ok nmX12 44 (by decide) mF_RX12_338 rfl (fun _ => rfl) (fun _ => rfl) dX12_isTable_19 H (fun μ5 H => ?_)
  refine r_aload_n K 0 dX12_isTable_22 rfl rfl ?_
  refine r_aload_n K 0 dX12_isTable_23 rfl rfl ?_
  refine w_getI K vc12 inX12 42 (by decide) mF_RX12_323 dX12_isTable_24 H (fun x6 H => ?_)
  refine r_aload_n K 0 dX12_isTable_27 rfl rfl ?_
  refine w_getI K vc12 inX12 43 (by decide) mF_RX12_326 dX12_isTable_28 H (fun x7 H => ?_)
  refine r_imul K dX12_isTable_31 ?_
  refine r_aload_n K 0 dX12_isTable_32 rfl rfl ?_
  refine w_getI K vc12 inX12 42 (by decide) mF_RX12_323 dX12_isTable_33 H (fun x8 H => ?_)
  refine r_aload_n K 0 dX12_isTable_36 rfl rfl ?_
  refine w_getI K vc12 inX12 44 (by decide) mF_RX12_338 dX12_isTable_37 H (fun x9 H => ?_)
  refine r_imul K dX12_isTable_40 ?_
  refine r_iadd K dX12_isTable_41 ?_
  refine r_aload_n K 0 dX12_isTable_42 rfl rfl ?_
  refine w_getI K vc12 inX12 43 (by decide) mF_RX12_326 dX12_isTable_43 H (fun x10 H => ?_)
  refine r_aload_n K 0 dX12_isTable_46 rfl rfl ?_
  refine w_getI K vc12 inX12 44 (by decide) mF_RX12_338 dX12_isTable_47 H (fun x11 H => ?_)
  refine r_imul K dX12_isTable_50 ?_
  refine r_iadd K dX12_isTable_51 ?_
  refine r_aload_n K 0 dX12_isTable_52 rfl rfl ?_
  refine w_getI K vc12 inX12 45 (by decide) mF_RX12_329 dX12_isTable_53 H (fun x12 H => ?_)
  refine r_isub K dX12_isTable_56 ?_
  refine r_aload_n K 0 dX12_isTable_57 rfl rfl ?_
  refine w_getO K vc12 inX12 13 (by decide) mF_RX12_26 dX12_isTable_58 H (fun x13 H => ?_)
  refine r_iconst (v := 1) K dX12_isTable_61 (by decide) ?_
  refine w_lald K dX12_isTable_62 H (fun x14 H => ?_)
  refine r_l2i K dX12_isTable_63 ?_
  refine r_isub K dX12_isTable_64 ?_
  refine w_put K vc12 inX12 tyX12_ok nmX12 46 (by decide) mF_RX12_341 rfl (fun _ => rfl) (fun _ => rfl) dX12_isTable_65 H (fun μ15 H => ?_)
  refine r_aload_n K 0 dX12_isTable_68 rfl rfl ?_
  refine w_getI K vc12 inX12 44 (by decide) mF_RX12_338 dX12_isTable_69 H (fun x16 H => ?_)
  refine r_bipush (v := -6) K dX12_isTable_72 (by decide) ?_
  refine r_bipush (v := 6) K dX12_isTable_74 (by decide) ?_
  refine w_callS K hl H (fun r h => c_X12_in l h) mC_yX12_in mM_RX12_134 mT_yX12_in mZ_RX12 (Nat.le_of_ble_eq_true rfl) (Nat.le_of_ble_eq_true rfl) np_yX12_in rfl (Nat.le_of_ble_eq_true rfl) dX12_isTable_76 (fun r17 H => ?_) ⟨Nat.zero_le _, Nat.zero_le _⟩
  refine w_if_eq K 145 dX12_isTable_79 (by decide) H (fun _ H => ?_) (fun _ H => ?_)
  · exact r_sub [] rfl (t_X12_isTable_145 K hl H D)
  · refine r_aload_n K 0 dX12_isTable_82 rfl rfl ?_
    refine w_getI K vc12 inX12 46 (by decide) mF_RX12_341 dX12_isTable_83 H (fun x18 H => ?_)
    refine r_iconst (v := 1) K dX12_isTable_86 (by decide) ?_
    refine r_bipush (v := 36) K dX12_isTable_87 (by decide) ?_
    refine w_callS K hl H (fun r h => c_X12_in l h) mC_yX12_in mM_RX12_134 mT_yX12_in mZ_RX12 (Nat.le_of_ble_eq_true rfl) (Nat.le_of_ble_eq_true rfl) np_yX12_in rfl (Nat.le_of_ble_eq_true rfl) dX12_isTable_89 (fun r19 H => ?_) ⟨Nat.zero_le _, Nat.zero_le _⟩
    refine w_if_eq K 145 dX12_isTable_92 (by decide) H (fun _ H => ?_) (fun _ H => ?_)
    · exact r_sub [] rfl (t_X12_isTable_145 K hl H D)
    · refine r_aload_n K 0 dX12_isTable_95 rfl rfl ?_
      refine w_getI K vc12 inX12 42 (by decide) mF_RX12_323 dX12_isTable_96 H (fun x20 H => ?_)
      refine r_aload_n K 0 dX12_isTable_99 rfl rfl ?_
      refine w_getI K vc12 inX12 43 (by decide) mF_RX12_326 dX12_isTable_100 H (fun x21 H => ?_)
      refine r_imul K dX12_isTable_103 ?_
      refine r_aload_n K 0 dX12_isTable_104 rfl rfl ?_
      refine w_getI K vc12 inX12 44 (by decide) mF_RX12_338 dX12_isTable_105 H (fun x22 H => ?_)
      refine r_imul K dX12_isTable_108 ?_
      refine r_aload_n K 0 dX12_isTable_109 rfl rfl ?_
      refine w_getI K vc12 inX12 45 (by decide) mF_RX12_329 dX12_isTable_110 H (fun x23 H => ?_)
      refine r_aload_n K 0 dX12_isTable_113 rfl rfl ?_
      refine w_getI K vc12 inX12 44 (by decide) mF_RX12_338 dX12_isTable_114 H (fun x24 H => ?_)
      refine r_imul K dX12_isTable_117 ?_
      refine r_isub K dX12_isTable_118 ?_
      refine r_aload_n K 0 dX12_isTable_119 rfl rfl ?_
      refine w_getI K vc12 inX12 46 (by decide) mF_RX12_341 dX12_isTable_120 H (fun x25 H => ?_)
      refine r_aload_n K 0 dX12_isTable_123 rfl rfl ?_
      refine w_getI K vc12 inX12 42 (by decide) mF_RX12_323 dX12_isTable_124 H (fun x26 H => ?_)
      refine r_imul K dX12_isTable_127 ?_
      refine r_isub K dX12_isTable_128 ?_
      refine r_i2l K dX12_isTable_129 ?_
      refine r_aload_n K 0 dX12_isTable_130 rfl rfl ?_
      refine w_getO K vc12 inX12 13 (by decide) mF_RX12_26 dX12_isTable_131 H (fun x27 H => ?_)
      refine r_iconst (v := 0) K dX12_isTable_134 (by decide) ?_
      refine w_lald K dX12_isTable_135 H (fun x28 H => ?_)
      refine r_lneg K dX12_isTable_136 ?_
      refine r_lcmp K dX12_isTable_137 ?_
      refine w_if_ne K 145 dX12_isTable_138 (by decide) H (fun _ H => ?_) (fun _ H => ?_)
      · exact r_sub [] rfl (t_X12_isTable_145 K hl H D)
      · refine r_iconst (v := 1) K dX12_isTable_141 (by decide) ?_
        refine r_goto K 146 dX12_isTable_142 (by decide) ?_
        exact r_sub [] rfl (t_X12_isTable_146 K hl H D)
theorem c_X12_isTable (l : Launch) {n : Nat} {Y : jY} {v0 : Nat} {μ : jM} {z : Int32 × jM} (H : f_X12_isTable Y v0 μ = some z) : jC l yX12_isTable cX12_isTable 1 (some .boolean) 2 0 0 [.ref v0] n Y μ n Y (some (.int z.1)) z.2 := by
  refine jC_of (by decide +kernel) (Nat.le_of_ble_eq_true rfl) (fun X hl K _ _ _ => ?_)
  obtain ⟨rr, μr⟩ := z
  exact t_X12_isTable_0 K hl H rfl
/-! RX12 apart()J -/
def b_X12_apart_26 (Y : jY) (v0 : Nat) (v1 : Int64) (v3 : Int32) (v4 : Int32) (μ : jM) : Option ((Int64 × Int32 × jM) ⊕ ((Int64 × Int32 × jM) ⊕ (Int64 × jM))) :=
  if v3 ≤ v4 then
    some (.inr (.inl (v1, (v3 + (1 : Int32)), μ)))
  else
    (jgO Y μ v0 12 11).bind fun x1 =>
    (jaI Y μ x1 20 v3).bind fun x2 =>
    (jgO Y μ v0 12 11).bind fun x3 =>
    (jaI Y μ x3 20 v4).bind fun x4 =>
    (jgO Y μ v0 12 11).bind fun x5 =>
    (jaI Y μ x5 20 v3).bind fun x6 =>
    (jgO Y μ v0 12 11).bind fun x7 =>
    (jaI Y μ x7 20 v4).bind fun x8 =>
    some (.inl ((((v1 * ((((x2 - x4)).toInt64)))) * ((((x6 - x8)).toInt64))), (v4 + (1 : Int32)), μ))
def b_X12_apart_15 (Y : jY) (v0 : Nat) (v1 : Int64) (v3 : Int32) (μ : jM) : Option ((Int64 × Int32 × jM) ⊕ (Int64 × jM)) :=
  (jgI Y μ v0 12 10).bind fun x1 =>
  if x1 ≤ v3 then
    some (.inr (v1, μ))
  else
    jit jF (fun (s : Int64 × Int32 × jM) => b_X12_apart_26 Y v0 s.1 v3 s.2.1 s.2.2) (v1, (0 : Int32), μ)
def f_X12_apart (Y : jY) (v0 : Nat) (μ : jM) : Option (Int64 × jM) :=
  (jgI Y μ v0 12 10).bind fun x1 =>
  if x1 = 0 then
    some ((-9223372036854775808 : Int64), μ)
  else
    jit jF (fun (s : Int64 × Int32 × jM) => b_X12_apart_15 Y v0 s.1 s.2.1 s.2.2) ((1 : Int64), (0 : Int32), μ)
set_option maxRecDepth 10000 in
theorem t_X12_apart_26 {X : jX} {l : Launch} {n : Nat} {Y : jY} (K : jOK X RX12 cX12_apart 5 (some .long) 1) (hl : X.2.1 = l) {rr : Int64} {μr : jM} {v0 : Nat} {v1 : Int64} {v3 : Int32} {v4 : Int32} {μ : jM} {z : ((Int64 × Int32 × jM) ⊕ ((Int64 × Int32 × jM) ⊕ (Int64 × jM)))} (H : b_X12_apart_26 Y v0 v1 v3 v4 μ = some z) (D : Sum.elim (fun (s : Int64 × Int32 × jM) => JW X (jEnd X n Y (some (.long rr)) μr 0 0) 0 0 n Y 26 [(0, .ref v0), (1, .long s.1), (3, .int v3), (4, .int s.2.1)] [] s.2.2) (Sum.elim (fun (s : Int64 × Int32 × jM) => JW X (jEnd X n Y (some (.long rr)) μr 0 0) 0 0 n Y 15 [(0, .ref v0), (1, .long s.1), (3, .int s.2.1)] [] s.2.2) (fun r => r = (rr, μr))) z) : JW X (jEnd X n Y (some (.long rr)) μr 0 0) 0 0 n Y 26 [(0, .ref v0), (1, .long v1), (3, .int v3), (4, .int v4)] [] μ := by
  unfold b_X12_apart_26 at H
  refine r_iload K 3 dX12_apart_26 rfl ?_
  refine r_iload_n K 2 dX12_apart_28 rfl rfl ?_
  refine w_icmp_ge K 72 dX12_apart_29 (by decide) H (fun _ H => ?_) (fun _ H => ?_)
  · refine r_iinc K 2 [(3, .int _), (0, .ref _), (1, .long _), (4, .int _)] (v := _ + (1 : Int32)) dX12_apart_72 rfl rfl (by decide) rfl ?_
    refine r_goto K 15 dX12_apart_75 (by decide) ?_
    cases H
    exact r_sub [1, 2, 0] rfl D
  · refine r_lload_n K 1 dX12_apart_32 rfl rfl ?_
    refine r_aload_n K 0 dX12_apart_33 rfl rfl ?_
    refine w_getO K vc12 inX12 11 (by decide) mF_RX12_20 dX12_apart_34 H (fun x1 H => ?_)
    refine r_iload_n K 2 dX12_apart_37 rfl rfl ?_
    refine w_iald K dX12_apart_38 H (fun x2 H => ?_)
    refine r_aload_n K 0 dX12_apart_39 rfl rfl ?_
    refine w_getO K vc12 inX12 11 (by decide) mF_RX12_20 dX12_apart_40 H (fun x3 H => ?_)
    refine r_iload K 3 dX12_apart_43 rfl ?_
    refine w_iald K dX12_apart_45 H (fun x4 H => ?_)
    refine r_isub K dX12_apart_46 ?_
    refine r_i2l K dX12_apart_47 ?_
    refine r_lmul K dX12_apart_48 ?_
    refine r_aload_n K 0 dX12_apart_49 rfl rfl ?_
    refine w_getO K vc12 inX12 11 (by decide) mF_RX12_20 dX12_apart_50 H (fun x5 H => ?_)
    refine r_iload_n K 2 dX12_apart_53 rfl rfl ?_
    refine w_iald K dX12_apart_54 H (fun x6 H => ?_)
    refine r_aload_n K 0 dX12_apart_55 rfl rfl ?_
    refine w_getO K vc12 inX12 11 (by decide) mF_RX12_20 dX12_apart_56 H (fun x7 H => ?_)
    refine r_iload K 3 dX12_apart_59 rfl ?_
    refine w_iald K dX12_apart_61 H (fun x8 H => ?_)
    refine r_isub K dX12_apart_62 ?_
    refine r_i2l K dX12_apart_63 ?_
    refine r_lmul K dX12_apart_64 ?_
    refine r_lstore_n K [(1, .long _), (0, .ref _), (3, .int _), (4, .int _)] dX12_apart_65 rfl (by decide) rfl ?_
    refine r_iinc K 3 [(4, .int _), (1, .long _), (0, .ref _), (3, .int _)] (v := _ + (1 : Int32)) dX12_apart_66 rfl rfl (by decide) rfl ?_
    refine r_goto K 26 dX12_apart_69 (by decide) ?_
    cases H
    exact r_sub [2, 1, 3, 0] rfl D
set_option maxRecDepth 10000 in
theorem l_X12_apart_26 {X : jX} {l : Launch} {n : Nat} {Y : jY} (K : jOK X RX12 cX12_apart 5 (some .long) 1) (hl : X.2.1 = l) {rr : Int64} {μr : jM} {v0 : Nat} {v3 : Int32}  {s0 : Int64 × Int32 × jM} {z : ((Int64 × Int32 × jM) ⊕ (Int64 × jM))} (H : jit jF (fun (s : Int64 × Int32 × jM) => b_X12_apart_26 Y v0 s.1 v3 s.2.1 s.2.2) s0 = some z) (D : Sum.elim (fun (s : Int64 × Int32 × jM) => JW X (jEnd X n Y (some (.long rr)) μr 0 0) 0 0 n Y 15 [(0, .ref v0), (1, .long s.1), (3, .int s.2.1)] [] s.2.2) (fun r => r = (rr, μr)) z) : JW X (jEnd X n Y (some (.long rr)) μr 0 0) 0 0 n Y 26 [(0, .ref v0), (1, .long s0.1), (3, .int v3), (4, .int s0.2.1)] [] s0.2.2 :=
  jit_ind (P := fun (s : Int64 × Int32 × jM) => JW X (jEnd X n Y (some (.long rr)) μr 0 0) 0 0 n Y 26 [(0, .ref v0), (1, .long s.1), (3, .int v3), (4, .int s.2.1)] [] s.2.2) (D := Sum.elim (fun (s : Int64 × Int32 × jM) => JW X (jEnd X n Y (some (.long rr)) μr 0 0) 0 0 n Y 15 [(0, .ref v0), (1, .long s.1), (3, .int s.2.1)] [] s.2.2) (fun r => r = (rr, μr))) (fun s z Hs Ds => t_X12_apart_26 K hl Hs Ds) jF s0 z H D
set_option maxRecDepth 10000 in
theorem t_X12_apart_15 {X : jX} {l : Launch} {n : Nat} {Y : jY} (K : jOK X RX12 cX12_apart 5 (some .long) 1) (hl : X.2.1 = l) {rr : Int64} {μr : jM} {v0 : Nat} {v1 : Int64} {v3 : Int32} {μ : jM} {z : ((Int64 × Int32 × jM) ⊕ (Int64 × jM))} (H : b_X12_apart_15 Y v0 v1 v3 μ = some z) (D : Sum.elim (fun (s : Int64 × Int32 × jM) => JW X (jEnd X n Y (some (.long rr)) μr 0 0) 0 0 n Y 15 [(0, .ref v0), (1, .long s.1), (3, .int s.2.1)] [] s.2.2) (fun r => r = (rr, μr)) z) : JW X (jEnd X n Y (some (.long rr)) μr 0 0) 0 0 n Y 15 [(0, .ref v0), (1, .long v1), (3, .int v3)] [] μ := by
  unfold b_X12_apart_15 at H
  refine r_iload_n K 2 dX12_apart_15 rfl rfl ?_
  refine r_aload_n K 0 dX12_apart_16 rfl rfl ?_
  refine w_getI K vc12 inX12 10 (by decide) mF_RX12_145 dX12_apart_17 H (fun x1 H => ?_)
  refine w_icmp_ge K 78 dX12_apart_20 (by decide) H (fun _ H => ?_) (fun _ H => ?_)
  · refine r_lload_n K 1 dX12_apart_78 rfl rfl ?_
    cases H
    simp only [Sum.elim_inr] at D
    obtain ⟨rfl, rfl⟩ := jfin2 D
    exact r_lret K dX12_apart_79
  · refine r_iconst (v := 0) K dX12_apart_23 (by decide) ?_
    refine r_istore K [(4, .int _), (0, .ref _), (1, .long _), (3, .int _)] dX12_apart_24 (by decide) rfl ?_
    exact r_sub [1, 2, 3, 0] rfl (l_X12_apart_26 K hl H D)
set_option maxRecDepth 10000 in
theorem l_X12_apart_15 {X : jX} {l : Launch} {n : Nat} {Y : jY} (K : jOK X RX12 cX12_apart 5 (some .long) 1) (hl : X.2.1 = l) {rr : Int64} {μr : jM} {v0 : Nat}  {s0 : Int64 × Int32 × jM} {z : (Int64 × jM)} (H : jit jF (fun (s : Int64 × Int32 × jM) => b_X12_apart_15 Y v0 s.1 s.2.1 s.2.2) s0 = some z) (D : z = (rr, μr)) : JW X (jEnd X n Y (some (.long rr)) μr 0 0) 0 0 n Y 15 [(0, .ref v0), (1, .long s0.1), (3, .int s0.2.1)] [] s0.2.2 :=
  jit_ind (P := fun (s : Int64 × Int32 × jM) => JW X (jEnd X n Y (some (.long rr)) μr 0 0) 0 0 n Y 15 [(0, .ref v0), (1, .long s.1), (3, .int s.2.1)] [] s.2.2) (D := fun r => r = (rr, μr)) (fun s z Hs Ds => t_X12_apart_15 K hl Hs Ds) jF s0 z H D
set_option maxRecDepth 10000 in
theorem t_X12_apart_0 {X : jX} {l : Launch} {n : Nat} {Y : jY} (K : jOK X RX12 cX12_apart 5 (some .long) 1) (hl : X.2.1 = l) {rr : Int64} {μr : jM} {v0 : Nat} {μ : jM} {z : (Int64 × jM)} (H : f_X12_apart Y v0 μ = some z) (D : z = (rr, μr)) : JW X (jEnd X n Y (some (.long rr)) μr 0 0) 0 0 n Y 0 [(0, .ref v0)] [] μ := by
  unfold f_X12_apart at H
  refine r_aload_n K 0 dX12_apart_0 rfl rfl ?_
  refine w_getI K vc12 inX12 10 (by decide) mF_RX12_145 dX12_apart_1 H (fun x1 H => ?_)
  refine w_if_ne K 11 dX12_apart_4 (by decide) H (fun _ H => ?_) (fun _ H => ?_)
  · refine r_lconst (v := 1) K dX12_apart_11 (by decide) ?_
    refine r_lstore_n K [(1, .long _), (0, .ref _)] dX12_apart_12 rfl (by decide) rfl ?_
    refine r_iconst (v := 0) K dX12_apart_13 (by decide) ?_
    refine r_istore_n K [(3, .int _), (1, .long _), (0, .ref _)] dX12_apart_14 rfl (by decide) rfl ?_
    exact r_sub [2, 1, 0] rfl (l_X12_apart_15 K hl H D)
  · refine r_ldc2 K (-9223372036854775808) mc_RX12_156 dX12_apart_7 ?_
    cases H
    obtain ⟨rfl, rfl⟩ := jfin2 D
    exact r_lret K dX12_apart_10
theorem c_X12_apart (l : Launch) {n : Nat} {Y : jY} {v0 : Nat} {μ : jM} {z : Int64 × jM} (H : f_X12_apart Y v0 μ = some z) : jC l yX12_apart cX12_apart 5 (some .long) 1 0 0 [.ref v0] n Y μ n Y (some (.long z.1)) z.2 := by
  refine jC_of (by decide +kernel) (Nat.le_of_ble_eq_true rfl) (fun X hl K _ _ _ => ?_)
  obtain ⟨rr, μr⟩ := z
  exact t_X12_apart_0 K hl H rfl
/-! RX12 begin0()V -/
def b_X12_begin0_32 (Y : jY) (v0 : Nat) (t0 : Nat) (t1 : Int32) (μ : jM) : Option (jM) :=
  (jput Y μ t0 12 42 (.int t1)).bind fun μ1 =>
  (jput Y μ1 v0 12 43 (.int ((-6 : Int32)))).bind fun μ2 =>
  (jput Y μ2 v0 12 45 (.int ((0 : Int32)))).bind fun μ3 =>
  some μ3
def f_X12_begin0 (Y : jY) (v0 : Nat) (μ : jM) : Option (jM) :=
  (jrcv Y v0 12 (f_X12_laysTones Y v0 μ)).bind fun μ1 =>
  (jgI Y μ1 v0 12 10).bind fun x2 =>
  if x2 = ((1 : Int32)) then
    b_X12_begin0_32 Y v0 v0 (0 : Int32) μ1
  else
    (jgI Y μ1 v0 12 10).bind fun x3 =>
    if x3 = ((2 : Int32)) then
      b_X12_begin0_32 Y v0 v0 (-7 : Int32) μ1
    else
      b_X12_begin0_32 Y v0 v0 (-6 : Int32) μ1
set_option maxRecDepth 10000 in
theorem t_X12_begin0_32 {X : jX} {l : Launch} {n : Nat} {Y : jY} (K : jOK X RX12 cX12_begin0 1 none 3) (hl : X.2.1 = l) {μr : jM} {v0 : Nat} {t0 : Nat} {t1 : Int32} {μ : jM} {z : (jM)} (H : b_X12_begin0_32 Y v0 t0 t1 μ = some z) (D : z = μr) : JW X (jEnd X n Y none μr 0 0) 0 0 n Y 32 [(0, .ref v0)] [.int t1, .ref t0] μ := by
  unfold b_X12_begin0_32 at H
  refine w_put K vc12 inX12 tyX12_ok nmX12 42 (by decide) mF_RX12_323 rfl (fun _ => rfl) (fun _ => rfl) dX12_begin0_32 H (fun μ1 H => ?_)
  refine r_aload_n K 0 dX12_begin0_35 rfl rfl ?_
  refine r_bipush (v := -6) K dX12_begin0_36 (by decide) ?_
  refine w_put K vc12 inX12 tyX12_ok nmX12 43 (by decide) mF_RX12_326 rfl (fun _ => rfl) (fun _ => rfl) dX12_begin0_38 H (fun μ2 H => ?_)
  refine r_aload_n K 0 dX12_begin0_41 rfl rfl ?_
  refine r_iconst (v := 0) K dX12_begin0_42 (by decide) ?_
  refine w_put K vc12 inX12 tyX12_ok nmX12 45 (by decide) mF_RX12_329 rfl (fun _ => rfl) (fun _ => rfl) dX12_begin0_43 H (fun μ3 H => ?_)
  cases H
  subst D
  exact r_vret K dX12_begin0_46
set_option maxRecDepth 10000 in
theorem t_X12_begin0_0 {X : jX} {l : Launch} {n : Nat} {Y : jY} (K : jOK X RX12 cX12_begin0 1 none 3) (hl : X.2.1 = l) {μr : jM} {v0 : Nat} {μ : jM} {z : (jM)} (H : f_X12_begin0 Y v0 μ = some z) (D : z = μr) : JW X (jEnd X n Y none μr 0 0) 0 0 n Y 0 [(0, .ref v0)] [] μ := by
  unfold f_X12_begin0 at H
  refine r_aload_n K 0 dX12_begin0_0 rfl rfl ?_
  refine w_callV K hl H (fun r h => c_X12_laysTones l h) mC_yX12_laysTones mM_RX12_158 mI_yX12_laysTones mS_yX12_laysTones mZ_RX12 vc12 (Nat.le_of_ble_eq_true rfl) (Nat.le_of_ble_eq_true rfl) np_yX12_laysTones rfl (Nat.le_of_ble_eq_true rfl) dX12_begin0_1 (fun μ1 H => ?_) ⟨Nat.zero_le _, Nat.zero_le _⟩
  refine r_aload_n K 0 dX12_begin0_4 rfl rfl ?_
  refine r_aload_n K 0 dX12_begin0_5 rfl rfl ?_
  refine w_getI K vc12 inX12 10 (by decide) mF_RX12_145 dX12_begin0_6 H (fun x2 H => ?_)
  refine r_iconst (v := 1) K dX12_begin0_9 (by decide) ?_
  refine w_icmp_ne K 17 dX12_begin0_10 (by decide) H (fun _ H => ?_) (fun _ H => ?_)
  · refine r_aload_n K 0 dX12_begin0_17 rfl rfl ?_
    refine w_getI K vc12 inX12 10 (by decide) mF_RX12_145 dX12_begin0_18 H (fun x3 H => ?_)
    refine r_iconst (v := 2) K dX12_begin0_21 (by decide) ?_
    refine w_icmp_ne K 30 dX12_begin0_22 (by decide) H (fun _ H => ?_) (fun _ H => ?_)
    · refine r_bipush (v := -6) K dX12_begin0_30 (by decide) ?_
      exact r_sub [0] rfl (t_X12_begin0_32 K hl H D)
    · refine r_bipush (v := -7) K dX12_begin0_25 (by decide) ?_
      refine r_goto K 32 dX12_begin0_27 (by decide) ?_
      exact r_sub [0] rfl (t_X12_begin0_32 K hl H D)
  · refine r_iconst (v := 0) K dX12_begin0_13 (by decide) ?_
    refine r_goto K 32 dX12_begin0_14 (by decide) ?_
    exact r_sub [0] rfl (t_X12_begin0_32 K hl H D)
theorem c_X12_begin0 (l : Launch) {n : Nat} {Y : jY} {v0 : Nat} {μ : jM} {z : jM} (H : f_X12_begin0 Y v0 μ = some z) : jC l yX12_begin0 cX12_begin0 1 none 3 0 0 [.ref v0] n Y μ n Y none z := by
  refine jC_of (by decide +kernel) (Nat.le_of_ble_eq_true rfl) (fun X hl K _ _ _ => ?_)
  exact t_X12_begin0_0 K hl H rfl
/-! RX12 steps()V -/
def f_X12_steps (Y : jY) (v0 : Nat) (μ : jM) : Option (jM) :=
  (jgI Y μ v0 12 45).bind fun x1 =>
  (jput Y μ v0 12 45 (.int ((x1 + ((1 : Int32)))))).bind fun μ2 =>
  (jgI Y μ2 v0 12 45).bind fun x3 =>
  if ((36 : Int32)) < x3 then
    (jput Y μ2 v0 12 45 (.int ((1 : Int32)))).bind fun μ4 =>
    (jgI Y μ4 v0 12 43).bind fun x5 =>
    (jput Y μ4 v0 12 43 (.int ((x5 + ((1 : Int32)))))).bind fun μ6 =>
    (jgI Y μ6 v0 12 43).bind fun x7 =>
    if ((6 : Int32)) < x7 then
      (jput Y μ6 v0 12 43 (.int ((-6 : Int32)))).bind fun μ8 =>
      (jgI Y μ8 v0 12 42).bind fun x9 =>
      (jput Y μ8 v0 12 42 (.int ((x9 + ((1 : Int32)))))).bind fun μ10 =>
      some μ10
    else
      some μ6
  else
    some μ2
set_option maxRecDepth 10000 in
theorem t_X12_steps_0 {X : jX} {l : Launch} {n : Nat} {Y : jY} (K : jOK X RX12 cX12_steps 1 none 1) (hl : X.2.1 = l) {μr : jM} {v0 : Nat} {μ : jM} {z : (jM)} (H : f_X12_steps Y v0 μ = some z) (D : z = μr) : JW X (jEnd X n Y none μr 0 0) 0 0 n Y 0 [(0, .ref v0)] [] μ := by
  unfold f_X12_steps at H
  refine r_aload_n K 0 dX12_steps_0 rfl rfl ?_
  refine r_aload_n K 0 dX12_steps_1 rfl rfl ?_
  refine w_getI K vc12 inX12 45 (by decide) mF_RX12_329 dX12_steps_2 H (fun x1 H => ?_)
  refine r_iconst (v := 1) K dX12_steps_5 (by decide) ?_
  refine r_iadd K dX12_steps_6 ?_
  refine w_put K vc12 inX12 tyX12_ok nmX12 45 (by decide) mF_RX12_329 rfl (fun _ => rfl) (fun _ => rfl) dX12_steps_7 H (fun μ2 H => ?_)
  refine r_aload_n K 0 dX12_steps_10 rfl rfl ?_
  refine w_getI K vc12 inX12 45 (by decide) mF_RX12_329 dX12_steps_11 H (fun x3 H => ?_)
  refine r_bipush (v := 36) K dX12_steps_14 (by decide) ?_
  refine w_icmp_gt K 20 dX12_steps_16 (by decide) H (fun _ H => ?_) (fun _ H => ?_)
  · refine r_aload_n K 0 dX12_steps_20 rfl rfl ?_
    refine r_iconst (v := 1) K dX12_steps_21 (by decide) ?_
    refine w_put K vc12 inX12 tyX12_ok nmX12 45 (by decide) mF_RX12_329 rfl (fun _ => rfl) (fun _ => rfl) dX12_steps_22 H (fun μ4 H => ?_)
    refine r_aload_n K 0 dX12_steps_25 rfl rfl ?_
    refine r_aload_n K 0 dX12_steps_26 rfl rfl ?_
    refine w_getI K vc12 inX12 43 (by decide) mF_RX12_326 dX12_steps_27 H (fun x5 H => ?_)
    refine r_iconst (v := 1) K dX12_steps_30 (by decide) ?_
    refine r_iadd K dX12_steps_31 ?_
    refine w_put K vc12 inX12 tyX12_ok nmX12 43 (by decide) mF_RX12_326 rfl (fun _ => rfl) (fun _ => rfl) dX12_steps_32 H (fun μ6 H => ?_)
    refine r_aload_n K 0 dX12_steps_35 rfl rfl ?_
    refine w_getI K vc12 inX12 43 (by decide) mF_RX12_326 dX12_steps_36 H (fun x7 H => ?_)
    refine r_bipush (v := 6) K dX12_steps_39 (by decide) ?_
    refine w_icmp_gt K 45 dX12_steps_41 (by decide) H (fun _ H => ?_) (fun _ H => ?_)
    · refine r_aload_n K 0 dX12_steps_45 rfl rfl ?_
      refine r_bipush (v := -6) K dX12_steps_46 (by decide) ?_
      refine w_put K vc12 inX12 tyX12_ok nmX12 43 (by decide) mF_RX12_326 rfl (fun _ => rfl) (fun _ => rfl) dX12_steps_48 H (fun μ8 H => ?_)
      refine r_aload_n K 0 dX12_steps_51 rfl rfl ?_
      refine r_aload_n K 0 dX12_steps_52 rfl rfl ?_
      refine w_getI K vc12 inX12 42 (by decide) mF_RX12_323 dX12_steps_53 H (fun x9 H => ?_)
      refine r_iconst (v := 1) K dX12_steps_56 (by decide) ?_
      refine r_iadd K dX12_steps_57 ?_
      refine w_put K vc12 inX12 tyX12_ok nmX12 42 (by decide) mF_RX12_323 rfl (fun _ => rfl) (fun _ => rfl) dX12_steps_58 H (fun μ10 H => ?_)
      cases H
      subst D
      exact r_vret K dX12_steps_61
    · cases H
      subst D
      exact r_vret K dX12_steps_44
  · cases H
    subst D
    exact r_vret K dX12_steps_19
theorem c_X12_steps (l : Launch) {n : Nat} {Y : jY} {v0 : Nat} {μ : jM} {z : jM} (H : f_X12_steps Y v0 μ = some z) : jC l yX12_steps cX12_steps 1 none 1 0 0 [.ref v0] n Y μ n Y none z := by
  refine jC_of (by decide +kernel) (Nat.le_of_ble_eq_true rfl) (fun X hl K _ _ _ => ?_)
  exact t_X12_steps_0 K hl H rfl
/-! RX12 goesOn()Z -/
def b_X12_goesOn_177 (Y : jY) (v1 : Int32) (μ : jM) : Option (Int32 × jM) :=
  (jbool v1).bind fun x1 =>
  some (x1, μ)
def b_X12_goesOn_173 (Y : jY) (v0 : Nat) (t0 : Int32) (μ : jM) : Option ((Int32 × jM) ⊕ (Int32 × jM)) :=
  some (.inl (t0, μ))
def b_X12_goesOn_172 (Y : jY) (v0 : Nat) (μ : jM) : Option ((Int32 × jM) ⊕ (Int32 × jM)) :=
  b_X12_goesOn_173 Y v0 (0 : Int32) μ
def b_X12_goesOn_144 (Y : jY) (v0 : Nat) (t0 : Int32) (μ : jM) : Option ((Int32 × jM) ⊕ (Int32 × jM)) :=
  some (.inl (t0, μ))
def b_X12_goesOn_143 (Y : jY) (v0 : Nat) (μ : jM) : Option ((Int32 × jM) ⊕ (Int32 × jM)) :=
  b_X12_goesOn_144 Y v0 (0 : Int32) μ
def b_X12_goesOn_34 (Y : jY) (v0 : Nat) (v1 : Int32) (μ : jM) : Option ((Int32 × jM) ⊕ (Int32 × jM)) :=
  if v1 = 0 then
    (jgI Y μ v0 12 42).bind fun x1 =>
    if ((6 : Int32)) < x1 then
      (b_X12_goesOn_177 Y v1 μ).map (fun r => (.inr r))
    else
      (jgI Y μ v0 12 10).bind fun x2 =>
      if x2 = ((2 : Int32)) then
        (jgI Y μ v0 12 42).bind fun x6 =>
        (jput Y μ v0 12 42 (.int ((x6 + ((1 : Int32)))))).bind fun μ7 =>
        (jgO Y μ7 v0 12 13).bind fun x8 =>
        (jaL Y μ7 x8 21 ((1 : Int32))).bind fun x9 =>
        (jgI Y μ7 v0 12 42).bind fun x10 =>
        (jput Y μ7 v0 12 43 (.int ((((((-x9)).toInt32)) - x10)))).bind fun μ11 =>
        (jgI Y μ11 v0 12 42).bind fun x12 =>
        (jgI Y μ11 v0 12 43).bind fun x13 =>
        (jgO Y μ11 v0 12 13).bind fun x14 =>
        (jaL Y μ11 x14 21 ((0 : Int32))).bind fun x15 =>
        (jput Y μ11 v0 12 45 (.int ((((x12 * x13)) - ((x15.toInt32)))))).bind fun μ16 =>
        (jgI Y μ16 v0 12 42).bind fun x17 =>
        if ((6 : Int32)) < x17 then
          b_X12_goesOn_143 Y v0 μ16
        else
          (jgI Y μ16 v0 12 43).bind fun x18 =>
          (f_X12_in Y x18 ((-6 : Int32)) ((6 : Int32)) μ16).bind fun r19 =>
          if r19.1 = 0 then
            b_X12_goesOn_143 Y v0 r19.2
          else
            (jgI Y r19.2 v0 12 45).bind fun x20 =>
            (f_X12_in Y x20 ((1 : Int32)) ((36 : Int32)) r19.2).bind fun r21 =>
            if r21.1 = 0 then
              b_X12_goesOn_143 Y v0 r21.2
            else
              b_X12_goesOn_144 Y v0 (1 : Int32) r21.2
      else
        (jrcv Y v0 12 (f_X12_steps Y v0 μ)).bind fun μ3 =>
        (jgI Y μ3 v0 12 42).bind fun x4 =>
        if ((6 : Int32)) < x4 then
          b_X12_goesOn_172 Y v0 μ3
        else
          (jrcv Y v0 12 (f_X12_isTable Y v0 μ3)).bind fun r5 =>
          if r5.1 = 0 then
            b_X12_goesOn_172 Y v0 r5.2
          else
            b_X12_goesOn_173 Y v0 (1 : Int32) r5.2
  else
    (b_X12_goesOn_177 Y v1 μ).map (fun r => (.inr r))
def b_X12_goesOn_31 (Y : jY) (t0 : Int32) (μ : jM) : Option (Int32 × jM) :=
  (jbool t0).bind fun x1 =>
  some (x1, μ)
def f_X12_goesOn (Y : jY) (v0 : Nat) (μ : jM) : Option (Int32 × jM) :=
  (jgI Y μ v0 12 10).bind fun x1 =>
  if x1 = ((1 : Int32)) then
    (jgI Y μ v0 12 42).bind fun x2 =>
    (jput Y μ v0 12 42 (.int ((x2 + ((1 : Int32)))))).bind fun μ3 =>
    (jgI Y μ3 v0 12 42).bind fun x4 =>
    if x4 = ((1 : Int32)) then
      b_X12_goesOn_31 Y (1 : Int32) μ3
    else
      b_X12_goesOn_31 Y (0 : Int32) μ3
  else
    jit jF (fun (s : Int32 × jM) => b_X12_goesOn_34 Y v0 s.1 s.2) ((0 : Int32), μ)
set_option maxRecDepth 10000 in
theorem t_X12_goesOn_177 {X : jX} {l : Launch} {n : Nat} {Y : jY} (K : jOK X RX12 cX12_goesOn 2 (some .boolean) 3) (hl : X.2.1 = l) {rr : Int32} {μr : jM} {v1 : Int32} {μ : jM} {z : (Int32 × jM)} (H : b_X12_goesOn_177 Y v1 μ = some z) (D : z = (rr, μr)) : JW X (jEnd X n Y (some (.int rr)) μr 0 0) 0 0 n Y 177 [(1, .int v1)] [] μ := by
  unfold b_X12_goesOn_177 at H
  refine r_iload_n K 0 dX12_goesOn_177 rfl rfl ?_
  refine w_zret K dX12_goesOn_178 H (fun hz H => ?_)
  cases H
  obtain ⟨rfl, rfl⟩ := jfin2 D
  exact r_zret K hz dX12_goesOn_178
set_option maxRecDepth 10000 in
theorem t_X12_goesOn_173 {X : jX} {l : Launch} {n : Nat} {Y : jY} (K : jOK X RX12 cX12_goesOn 2 (some .boolean) 3) (hl : X.2.1 = l) {rr : Int32} {μr : jM} {v0 : Nat} {t0 : Int32} {μ : jM} {z : ((Int32 × jM) ⊕ (Int32 × jM))} (H : b_X12_goesOn_173 Y v0 t0 μ = some z) (D : Sum.elim (fun (s : Int32 × jM) => JW X (jEnd X n Y (some (.int rr)) μr 0 0) 0 0 n Y 34 [(0, .ref v0), (1, .int s.1)] [] s.2) (fun r => r = (rr, μr)) z) : JW X (jEnd X n Y (some (.int rr)) μr 0 0) 0 0 n Y 173 [(0, .ref v0)] [.int t0] μ := by
  unfold b_X12_goesOn_173 at H
  refine r_istore_n K [(1, .int _), (0, .ref _)] dX12_goesOn_173 rfl (by decide) rfl ?_
  refine r_goto K 34 dX12_goesOn_174 (by decide) ?_
  cases H
  exact r_sub [1, 0] rfl D
set_option maxRecDepth 10000 in
theorem t_X12_goesOn_172 {X : jX} {l : Launch} {n : Nat} {Y : jY} (K : jOK X RX12 cX12_goesOn 2 (some .boolean) 3) (hl : X.2.1 = l) {rr : Int32} {μr : jM} {v0 : Nat} {μ : jM} {z : ((Int32 × jM) ⊕ (Int32 × jM))} (H : b_X12_goesOn_172 Y v0 μ = some z) (D : Sum.elim (fun (s : Int32 × jM) => JW X (jEnd X n Y (some (.int rr)) μr 0 0) 0 0 n Y 34 [(0, .ref v0), (1, .int s.1)] [] s.2) (fun r => r = (rr, μr)) z) : JW X (jEnd X n Y (some (.int rr)) μr 0 0) 0 0 n Y 172 [(0, .ref v0)] [] μ := by
  unfold b_X12_goesOn_172 at H
  refine r_iconst (v := 0) K dX12_goesOn_172 (by decide) ?_
  exact r_sub [0] rfl (t_X12_goesOn_173 K hl H D)
set_option maxRecDepth 10000 in
theorem t_X12_goesOn_144 {X : jX} {l : Launch} {n : Nat} {Y : jY} (K : jOK X RX12 cX12_goesOn 2 (some .boolean) 3) (hl : X.2.1 = l) {rr : Int32} {μr : jM} {v0 : Nat} {t0 : Int32} {μ : jM} {z : ((Int32 × jM) ⊕ (Int32 × jM))} (H : b_X12_goesOn_144 Y v0 t0 μ = some z) (D : Sum.elim (fun (s : Int32 × jM) => JW X (jEnd X n Y (some (.int rr)) μr 0 0) 0 0 n Y 34 [(0, .ref v0), (1, .int s.1)] [] s.2) (fun r => r = (rr, μr)) z) : JW X (jEnd X n Y (some (.int rr)) μr 0 0) 0 0 n Y 144 [(0, .ref v0)] [.int t0] μ := by
  unfold b_X12_goesOn_144 at H
  refine r_istore_n K [(1, .int _), (0, .ref _)] dX12_goesOn_144 rfl (by decide) rfl ?_
  refine r_goto K 34 dX12_goesOn_145 (by decide) ?_
  cases H
  exact r_sub [1, 0] rfl D
set_option maxRecDepth 10000 in
theorem t_X12_goesOn_143 {X : jX} {l : Launch} {n : Nat} {Y : jY} (K : jOK X RX12 cX12_goesOn 2 (some .boolean) 3) (hl : X.2.1 = l) {rr : Int32} {μr : jM} {v0 : Nat} {μ : jM} {z : ((Int32 × jM) ⊕ (Int32 × jM))} (H : b_X12_goesOn_143 Y v0 μ = some z) (D : Sum.elim (fun (s : Int32 × jM) => JW X (jEnd X n Y (some (.int rr)) μr 0 0) 0 0 n Y 34 [(0, .ref v0), (1, .int s.1)] [] s.2) (fun r => r = (rr, μr)) z) : JW X (jEnd X n Y (some (.int rr)) μr 0 0) 0 0 n Y 143 [(0, .ref v0)] [] μ := by
  unfold b_X12_goesOn_143 at H
  refine r_iconst (v := 0) K dX12_goesOn_143 (by decide) ?_
  exact r_sub [0] rfl (t_X12_goesOn_144 K hl H D)
set_option maxRecDepth 10000 in
theorem t_X12_goesOn_34 {X : jX} {l : Launch} {n : Nat} {Y : jY} (K : jOK X RX12 cX12_goesOn 2 (some .boolean) 3) (hl : X.2.1 = l) {rr : Int32} {μr : jM} {v0 : Nat} {v1 : Int32} {μ : jM} {z : ((Int32 × jM) ⊕ (Int32 × jM))} (H : b_X12_goesOn_34 Y v0 v1 μ = some z) (D : Sum.elim (fun (s : Int32 × jM) => JW X (jEnd X n Y (some (.int rr)) μr 0 0) 0 0 n Y 34 [(0, .ref v0), (1, .int s.1)] [] s.2) (fun r => r = (rr, μr)) z) : JW X (jEnd X n Y (some (.int rr)) μr 0 0) 0 0 n Y 34 [(0, .ref v0), (1, .int v1)] [] μ := by
  unfold b_X12_goesOn_34 at H
  refine r_iload_n K 1 dX12_goesOn_34 rfl rfl ?_
  refine w_if_ne K 177 dX12_goesOn_35 (by decide) H (fun _ H => ?_) (fun _ H => ?_)
  · obtain ⟨z2, H2, rfl⟩ := jmap H
    exact r_sub [1] rfl (t_X12_goesOn_177 K hl H2 D)
  · refine r_aload_n K 0 dX12_goesOn_38 rfl rfl ?_
    refine w_getI K vc12 inX12 42 (by decide) mF_RX12_323 dX12_goesOn_39 H (fun x1 H => ?_)
    refine r_bipush (v := 6) K dX12_goesOn_42 (by decide) ?_
    refine w_icmp_gt K 177 dX12_goesOn_44 (by decide) H (fun _ H => ?_) (fun _ H => ?_)
    · obtain ⟨z2, H2, rfl⟩ := jmap H
      exact r_sub [1] rfl (t_X12_goesOn_177 K hl H2 D)
    · refine r_aload_n K 0 dX12_goesOn_47 rfl rfl ?_
      refine w_getI K vc12 inX12 10 (by decide) mF_RX12_145 dX12_goesOn_48 H (fun x2 H => ?_)
      refine r_iconst (v := 2) K dX12_goesOn_51 (by decide) ?_
      refine w_icmp_ne K 148 dX12_goesOn_52 (by decide) H (fun _ H => ?_) (fun _ H => ?_)
      · refine r_aload_n K 0 dX12_goesOn_148 rfl rfl ?_
        refine w_callV K hl H (fun r h => c_X12_steps l h) mC_yX12_steps mM_RX12_332 mI_yX12_steps mS_yX12_steps mZ_RX12 vc12 (Nat.le_of_ble_eq_true rfl) (Nat.le_of_ble_eq_true rfl) np_yX12_steps rfl (Nat.le_of_ble_eq_true rfl) dX12_goesOn_149 (fun μ3 H => ?_) ⟨Nat.zero_le _, Nat.zero_le _⟩
        refine r_aload_n K 0 dX12_goesOn_152 rfl rfl ?_
        refine w_getI K vc12 inX12 42 (by decide) mF_RX12_323 dX12_goesOn_153 H (fun x4 H => ?_)
        refine r_bipush (v := 6) K dX12_goesOn_156 (by decide) ?_
        refine w_icmp_gt K 172 dX12_goesOn_158 (by decide) H (fun _ H => ?_) (fun _ H => ?_)
        · exact r_sub [0] rfl (t_X12_goesOn_172 K hl H D)
        · refine r_aload_n K 0 dX12_goesOn_161 rfl rfl ?_
          refine w_callV K hl H (fun r h => c_X12_isTable l h) mC_yX12_isTable mM_RX12_335 mI_yX12_isTable mS_yX12_isTable mZ_RX12 vc12 (Nat.le_of_ble_eq_true rfl) (Nat.le_of_ble_eq_true rfl) np_yX12_isTable rfl (Nat.le_of_ble_eq_true rfl) dX12_goesOn_162 (fun r5 H => ?_) ⟨Nat.zero_le _, Nat.zero_le _⟩
          refine w_if_eq K 172 dX12_goesOn_165 (by decide) H (fun _ H => ?_) (fun _ H => ?_)
          · exact r_sub [0] rfl (t_X12_goesOn_172 K hl H D)
          · refine r_iconst (v := 1) K dX12_goesOn_168 (by decide) ?_
            refine r_goto K 173 dX12_goesOn_169 (by decide) ?_
            exact r_sub [0] rfl (t_X12_goesOn_173 K hl H D)
      · refine r_aload_n K 0 dX12_goesOn_55 rfl rfl ?_
        refine r_aload_n K 0 dX12_goesOn_56 rfl rfl ?_
        refine w_getI K vc12 inX12 42 (by decide) mF_RX12_323 dX12_goesOn_57 H (fun x6 H => ?_)
        refine r_iconst (v := 1) K dX12_goesOn_60 (by decide) ?_
        refine r_iadd K dX12_goesOn_61 ?_
        refine w_put K vc12 inX12 tyX12_ok nmX12 42 (by decide) mF_RX12_323 rfl (fun _ => rfl) (fun _ => rfl) dX12_goesOn_62 H (fun μ7 H => ?_)
        refine r_aload_n K 0 dX12_goesOn_65 rfl rfl ?_
        refine r_aload_n K 0 dX12_goesOn_66 rfl rfl ?_
        refine w_getO K vc12 inX12 13 (by decide) mF_RX12_26 dX12_goesOn_67 H (fun x8 H => ?_)
        refine r_iconst (v := 1) K dX12_goesOn_70 (by decide) ?_
        refine w_lald K dX12_goesOn_71 H (fun x9 H => ?_)
        refine r_lneg K dX12_goesOn_72 ?_
        refine r_l2i K dX12_goesOn_73 ?_
        refine r_aload_n K 0 dX12_goesOn_74 rfl rfl ?_
        refine w_getI K vc12 inX12 42 (by decide) mF_RX12_323 dX12_goesOn_75 H (fun x10 H => ?_)
        refine r_isub K dX12_goesOn_78 ?_
        refine w_put K vc12 inX12 tyX12_ok nmX12 43 (by decide) mF_RX12_326 rfl (fun _ => rfl) (fun _ => rfl) dX12_goesOn_79 H (fun μ11 H => ?_)
        refine r_aload_n K 0 dX12_goesOn_82 rfl rfl ?_
        refine r_aload_n K 0 dX12_goesOn_83 rfl rfl ?_
        refine w_getI K vc12 inX12 42 (by decide) mF_RX12_323 dX12_goesOn_84 H (fun x12 H => ?_)
        refine r_aload_n K 0 dX12_goesOn_87 rfl rfl ?_
        refine w_getI K vc12 inX12 43 (by decide) mF_RX12_326 dX12_goesOn_88 H (fun x13 H => ?_)
        refine r_imul K dX12_goesOn_91 ?_
        refine r_aload_n K 0 dX12_goesOn_92 rfl rfl ?_
        refine w_getO K vc12 inX12 13 (by decide) mF_RX12_26 dX12_goesOn_93 H (fun x14 H => ?_)
        refine r_iconst (v := 0) K dX12_goesOn_96 (by decide) ?_
        refine w_lald K dX12_goesOn_97 H (fun x15 H => ?_)
        refine r_l2i K dX12_goesOn_98 ?_
        refine r_isub K dX12_goesOn_99 ?_
        refine w_put K vc12 inX12 tyX12_ok nmX12 45 (by decide) mF_RX12_329 rfl (fun _ => rfl) (fun _ => rfl) dX12_goesOn_100 H (fun μ16 H => ?_)
        refine r_aload_n K 0 dX12_goesOn_103 rfl rfl ?_
        refine w_getI K vc12 inX12 42 (by decide) mF_RX12_323 dX12_goesOn_104 H (fun x17 H => ?_)
        refine r_bipush (v := 6) K dX12_goesOn_107 (by decide) ?_
        refine w_icmp_gt K 143 dX12_goesOn_109 (by decide) H (fun _ H => ?_) (fun _ H => ?_)
        · exact r_sub [0] rfl (t_X12_goesOn_143 K hl H D)
        · refine r_aload_n K 0 dX12_goesOn_112 rfl rfl ?_
          refine w_getI K vc12 inX12 43 (by decide) mF_RX12_326 dX12_goesOn_113 H (fun x18 H => ?_)
          refine r_bipush (v := -6) K dX12_goesOn_116 (by decide) ?_
          refine r_bipush (v := 6) K dX12_goesOn_118 (by decide) ?_
          refine w_callS K hl H (fun r h => c_X12_in l h) mC_yX12_in mM_RX12_134 mT_yX12_in mZ_RX12 (Nat.le_of_ble_eq_true rfl) (Nat.le_of_ble_eq_true rfl) np_yX12_in rfl (Nat.le_of_ble_eq_true rfl) dX12_goesOn_120 (fun r19 H => ?_) ⟨Nat.zero_le _, Nat.zero_le _⟩
          refine w_if_eq K 143 dX12_goesOn_123 (by decide) H (fun _ H => ?_) (fun _ H => ?_)
          · exact r_sub [0] rfl (t_X12_goesOn_143 K hl H D)
          · refine r_aload_n K 0 dX12_goesOn_126 rfl rfl ?_
            refine w_getI K vc12 inX12 45 (by decide) mF_RX12_329 dX12_goesOn_127 H (fun x20 H => ?_)
            refine r_iconst (v := 1) K dX12_goesOn_130 (by decide) ?_
            refine r_bipush (v := 36) K dX12_goesOn_131 (by decide) ?_
            refine w_callS K hl H (fun r h => c_X12_in l h) mC_yX12_in mM_RX12_134 mT_yX12_in mZ_RX12 (Nat.le_of_ble_eq_true rfl) (Nat.le_of_ble_eq_true rfl) np_yX12_in rfl (Nat.le_of_ble_eq_true rfl) dX12_goesOn_133 (fun r21 H => ?_) ⟨Nat.zero_le _, Nat.zero_le _⟩
            refine w_if_eq K 143 dX12_goesOn_136 (by decide) H (fun _ H => ?_) (fun _ H => ?_)
            · exact r_sub [0] rfl (t_X12_goesOn_143 K hl H D)
            · refine r_iconst (v := 1) K dX12_goesOn_139 (by decide) ?_
              refine r_goto K 144 dX12_goesOn_140 (by decide) ?_
              exact r_sub [0] rfl (t_X12_goesOn_144 K hl H D)
set_option maxRecDepth 10000 in
theorem l_X12_goesOn_34 {X : jX} {l : Launch} {n : Nat} {Y : jY} (K : jOK X RX12 cX12_goesOn 2 (some .boolean) 3) (hl : X.2.1 = l) {rr : Int32} {μr : jM} {v0 : Nat}  {s0 : Int32 × jM} {z : (Int32 × jM)} (H : jit jF (fun (s : Int32 × jM) => b_X12_goesOn_34 Y v0 s.1 s.2) s0 = some z) (D : z = (rr, μr)) : JW X (jEnd X n Y (some (.int rr)) μr 0 0) 0 0 n Y 34 [(0, .ref v0), (1, .int s0.1)] [] s0.2 :=
  jit_ind (P := fun (s : Int32 × jM) => JW X (jEnd X n Y (some (.int rr)) μr 0 0) 0 0 n Y 34 [(0, .ref v0), (1, .int s.1)] [] s.2) (D := fun r => r = (rr, μr)) (fun s z Hs Ds => t_X12_goesOn_34 K hl Hs Ds) jF s0 z H D
set_option maxRecDepth 10000 in
theorem t_X12_goesOn_31 {X : jX} {l : Launch} {n : Nat} {Y : jY} (K : jOK X RX12 cX12_goesOn 2 (some .boolean) 3) (hl : X.2.1 = l) {rr : Int32} {μr : jM} {t0 : Int32} {μ : jM} {z : (Int32 × jM)} (H : b_X12_goesOn_31 Y t0 μ = some z) (D : z = (rr, μr)) : JW X (jEnd X n Y (some (.int rr)) μr 0 0) 0 0 n Y 31 [] [.int t0] μ := by
  unfold b_X12_goesOn_31 at H
  refine w_zret K dX12_goesOn_31 H (fun hz H => ?_)
  cases H
  obtain ⟨rfl, rfl⟩ := jfin2 D
  exact r_zret K hz dX12_goesOn_31
set_option maxRecDepth 10000 in
theorem t_X12_goesOn_0 {X : jX} {l : Launch} {n : Nat} {Y : jY} (K : jOK X RX12 cX12_goesOn 2 (some .boolean) 3) (hl : X.2.1 = l) {rr : Int32} {μr : jM} {v0 : Nat} {μ : jM} {z : (Int32 × jM)} (H : f_X12_goesOn Y v0 μ = some z) (D : z = (rr, μr)) : JW X (jEnd X n Y (some (.int rr)) μr 0 0) 0 0 n Y 0 [(0, .ref v0)] [] μ := by
  unfold f_X12_goesOn at H
  refine r_aload_n K 0 dX12_goesOn_0 rfl rfl ?_
  refine w_getI K vc12 inX12 10 (by decide) mF_RX12_145 dX12_goesOn_1 H (fun x1 H => ?_)
  refine r_iconst (v := 1) K dX12_goesOn_4 (by decide) ?_
  refine w_icmp_ne K 32 dX12_goesOn_5 (by decide) H (fun _ H => ?_) (fun _ H => ?_)
  · refine r_iconst (v := 0) K dX12_goesOn_32 (by decide) ?_
    refine r_istore_n K [(1, .int _), (0, .ref _)] dX12_goesOn_33 rfl (by decide) rfl ?_
    exact r_sub [1, 0] rfl (l_X12_goesOn_34 K hl H D)
  · refine r_aload_n K 0 dX12_goesOn_8 rfl rfl ?_
    refine r_aload_n K 0 dX12_goesOn_9 rfl rfl ?_
    refine w_getI K vc12 inX12 42 (by decide) mF_RX12_323 dX12_goesOn_10 H (fun x2 H => ?_)
    refine r_iconst (v := 1) K dX12_goesOn_13 (by decide) ?_
    refine r_iadd K dX12_goesOn_14 ?_
    refine w_put K vc12 inX12 tyX12_ok nmX12 42 (by decide) mF_RX12_323 rfl (fun _ => rfl) (fun _ => rfl) dX12_goesOn_15 H (fun μ3 H => ?_)
    refine r_aload_n K 0 dX12_goesOn_18 rfl rfl ?_
    refine w_getI K vc12 inX12 42 (by decide) mF_RX12_323 dX12_goesOn_19 H (fun x4 H => ?_)
    refine r_iconst (v := 1) K dX12_goesOn_22 (by decide) ?_
    refine w_icmp_ne K 30 dX12_goesOn_23 (by decide) H (fun _ H => ?_) (fun _ H => ?_)
    · refine r_iconst (v := 0) K dX12_goesOn_30 (by decide) ?_
      exact r_sub [] rfl (t_X12_goesOn_31 K hl H D)
    · refine r_iconst (v := 1) K dX12_goesOn_26 (by decide) ?_
      refine r_goto K 31 dX12_goesOn_27 (by decide) ?_
      exact r_sub [] rfl (t_X12_goesOn_31 K hl H D)
theorem c_X12_goesOn (l : Launch) {n : Nat} {Y : jY} {v0 : Nat} {μ : jM} {z : Int32 × jM} (H : f_X12_goesOn Y v0 μ = some z) : jC l yX12_goesOn cX12_goesOn 2 (some .boolean) 3 0 0 [.ref v0] n Y μ n Y (some (.int z.1)) z.2 := by
  refine jC_of (by decide +kernel) (Nat.le_of_ble_eq_true rfl) (fun X hl K _ _ _ => ?_)
  obtain ⟨rr, μr⟩ := z
  exact t_X12_goesOn_0 K hl H rfl
/-! RX12 all()I -/
def b_X12_all_26 (Y : jY) (v0 : Nat) (v1 : Int32) (μ : jM) : Option ((Int32 × jM) ⊕ (Int32 × jM)) :=
  (jrcv Y v0 12 (f_X12_goesOn Y v0 μ)).bind fun r1 =>
  if r1.1 = 0 then
    some (.inr (v1, r1.2))
  else
    some (.inl ((v1 + ((1 : Int32))), r1.2))
def f_X12_all (Y : jY) (v0 : Nat) (μ : jM) : Option (Int32 × jM) :=
  (jgI Y μ v0 12 10).bind fun x1 =>
  if x1 = 0 then
    some ((-1 : Int32), μ)
  else
    (jgI Y μ v0 12 10).bind fun x2 =>
    if x2 ≤ ((3 : Int32)) then
      (jrcv Y v0 12 (f_X12_begin0 Y v0 μ)).bind fun μ3 =>
      jit jF (fun (s : Int32 × jM) => b_X12_all_26 Y v0 s.1 s.2) ((0 : Int32), μ3)
    else
      some ((-2 : Int32), μ)
set_option maxRecDepth 10000 in
theorem t_X12_all_26 {X : jX} {l : Launch} {n : Nat} {Y : jY} (K : jOK X RX12 cX12_all 2 (some .int) 4) (hl : X.2.1 = l) {rr : Int32} {μr : jM} {v0 : Nat} {v1 : Int32} {μ : jM} {z : ((Int32 × jM) ⊕ (Int32 × jM))} (H : b_X12_all_26 Y v0 v1 μ = some z) (D : Sum.elim (fun (s : Int32 × jM) => JW X (jEnd X n Y (some (.int rr)) μr 0 0) 0 0 n Y 26 [(0, .ref v0), (1, .int s.1)] [] s.2) (fun r => r = (rr, μr)) z) : JW X (jEnd X n Y (some (.int rr)) μr 0 0) 0 0 n Y 26 [(0, .ref v0), (1, .int v1)] [] μ := by
  unfold b_X12_all_26 at H
  refine r_aload_n K 0 dX12_all_26 rfl rfl ?_
  refine w_callV K hl H (fun r h => c_X12_goesOn l h) mC_yX12_goesOn mM_RX12_350 mI_yX12_goesOn mS_yX12_goesOn mZ_RX12 vc12 (Nat.le_of_ble_eq_true rfl) (Nat.le_of_ble_eq_true rfl) np_yX12_goesOn rfl (Nat.le_of_ble_eq_true rfl) dX12_all_27 (fun r1 H => ?_) ⟨Nat.zero_le _, Nat.zero_le _⟩
  refine w_if_eq K 40 dX12_all_30 (by decide) H (fun _ H => ?_) (fun _ H => ?_)
  · refine r_iload_n K 1 dX12_all_40 rfl rfl ?_
    cases H
    simp only [Sum.elim_inr] at D
    obtain ⟨rfl, rfl⟩ := jfin2 D
    exact r_iret K dX12_all_41
  · refine r_iload_n K 1 dX12_all_33 rfl rfl ?_
    refine r_iconst (v := 1) K dX12_all_34 (by decide) ?_
    refine r_iadd K dX12_all_35 ?_
    refine r_istore_n K [(1, .int _), (0, .ref _)] dX12_all_36 rfl (by decide) rfl ?_
    refine r_goto K 26 dX12_all_37 (by decide) ?_
    cases H
    exact r_sub [1, 0] rfl D
set_option maxRecDepth 10000 in
theorem l_X12_all_26 {X : jX} {l : Launch} {n : Nat} {Y : jY} (K : jOK X RX12 cX12_all 2 (some .int) 4) (hl : X.2.1 = l) {rr : Int32} {μr : jM} {v0 : Nat}  {s0 : Int32 × jM} {z : (Int32 × jM)} (H : jit jF (fun (s : Int32 × jM) => b_X12_all_26 Y v0 s.1 s.2) s0 = some z) (D : z = (rr, μr)) : JW X (jEnd X n Y (some (.int rr)) μr 0 0) 0 0 n Y 26 [(0, .ref v0), (1, .int s0.1)] [] s0.2 :=
  jit_ind (P := fun (s : Int32 × jM) => JW X (jEnd X n Y (some (.int rr)) μr 0 0) 0 0 n Y 26 [(0, .ref v0), (1, .int s.1)] [] s.2) (D := fun r => r = (rr, μr)) (fun s z Hs Ds => t_X12_all_26 K hl Hs Ds) jF s0 z H D
set_option maxRecDepth 10000 in
theorem t_X12_all_0 {X : jX} {l : Launch} {n : Nat} {Y : jY} (K : jOK X RX12 cX12_all 2 (some .int) 4) (hl : X.2.1 = l) {rr : Int32} {μr : jM} {v0 : Nat} {μ : jM} {z : (Int32 × jM)} (H : f_X12_all Y v0 μ = some z) (D : z = (rr, μr)) : JW X (jEnd X n Y (some (.int rr)) μr 0 0) 0 0 n Y 0 [(0, .ref v0)] [] μ := by
  unfold f_X12_all at H
  refine r_aload_n K 0 dX12_all_0 rfl rfl ?_
  refine w_getI K vc12 inX12 10 (by decide) mF_RX12_145 dX12_all_1 H (fun x1 H => ?_)
  refine w_if_ne K 9 dX12_all_4 (by decide) H (fun _ H => ?_) (fun _ H => ?_)
  · refine r_aload_n K 0 dX12_all_9 rfl rfl ?_
    refine w_getI K vc12 inX12 10 (by decide) mF_RX12_145 dX12_all_10 H (fun x2 H => ?_)
    refine r_iconst (v := 3) K dX12_all_13 (by decide) ?_
    refine w_icmp_le K 20 dX12_all_14 (by decide) H (fun _ H => ?_) (fun _ H => ?_)
    · refine r_iconst (v := 0) K dX12_all_20 (by decide) ?_
      refine r_istore_n K [(1, .int _), (0, .ref _)] dX12_all_21 rfl (by decide) rfl ?_
      refine r_aload_n K 1 dX12_all_22 rfl rfl ?_
      refine w_callV K hl H (fun r h => c_X12_begin0 l h) mC_yX12_begin0 mM_RX12_347 mI_yX12_begin0 mS_yX12_begin0 mZ_RX12 vc12 (Nat.le_of_ble_eq_true rfl) (Nat.le_of_ble_eq_true rfl) np_yX12_begin0 rfl (Nat.le_of_ble_eq_true rfl) dX12_all_23 (fun μ3 H => ?_) ⟨Nat.zero_le _, Nat.zero_le _⟩
      exact r_sub [1, 0] rfl (l_X12_all_26 K hl H D)
    · refine r_bipush (v := -2) K dX12_all_17 (by decide) ?_
      cases H
      obtain ⟨rfl, rfl⟩ := jfin2 D
      exact r_iret K dX12_all_19
  · refine r_iconst (v := -1) K dX12_all_7 (by decide) ?_
    cases H
    obtain ⟨rfl, rfl⟩ := jfin2 D
    exact r_iret K dX12_all_8
theorem c_X12_all (l : Launch) {n : Nat} {Y : jY} {v0 : Nat} {μ : jM} {z : Int32 × jM} (H : f_X12_all Y v0 μ = some z) : jC l yX12_all cX12_all 2 (some .int) 4 0 0 [.ref v0] n Y μ n Y (some (.int z.1)) z.2 := by
  refine jC_of (by decide +kernel) (Nat.le_of_ble_eq_true rfl) (fun X hl K _ _ _ => ?_)
  obtain ⟨rr, μr⟩ := z
  exact t_X12_all_0 K hl H rfl
/-! RX12 wrong(I)I -/
def f_X12_wrong (Y : jY) (v0 : Nat) (v1 : Int32) (μ : jM) : Option (Int32 × jM) :=
  (jgI Y μ v0 12 4).bind fun x1 =>
  some ((((((-1000 : Int32)) * v1)) - x1), μ)
set_option maxRecDepth 10000 in
theorem t_X12_wrong_0 {X : jX} {l : Launch} {n : Nat} {Y : jY} (K : jOK X RX12 cX12_wrong 2 (some .int) 1) (hl : X.2.1 = l) {rr : Int32} {μr : jM} {v0 : Nat} {v1 : Int32} {μ : jM} {z : (Int32 × jM)} (H : f_X12_wrong Y v0 v1 μ = some z) (D : z = (rr, μr)) : JW X (jEnd X n Y (some (.int rr)) μr 0 0) 0 0 n Y 0 [(0, .ref v0), (1, .int v1)] [] μ := by
  unfold f_X12_wrong at H
  refine r_sipush (v := -1000) K dX12_wrong_0 (by decide) ?_
  refine r_iload_n K 1 dX12_wrong_3 rfl rfl ?_
  refine r_imul K dX12_wrong_4 ?_
  refine r_aload_n K 0 dX12_wrong_5 rfl rfl ?_
  refine w_getI K vc12 inX12 4 (by decide) mF_RX12_111 dX12_wrong_6 H (fun x1 H => ?_)
  refine r_isub K dX12_wrong_9 ?_
  cases H
  obtain ⟨rfl, rfl⟩ := jfin2 D
  exact r_iret K dX12_wrong_10
theorem c_X12_wrong (l : Launch) {n : Nat} {Y : jY} {v0 : Nat} {v1 : Int32} {μ : jM} {z : Int32 × jM} (H : f_X12_wrong Y v0 v1 μ = some z) : jC l yX12_wrong cX12_wrong 2 (some .int) 1 0 0 [.ref v0, .int v1] n Y μ n Y (some (.int z.1)) z.2 := by
  refine jC_of (by decide +kernel) (Nat.le_of_ble_eq_true rfl) (fun X hl K _ _ _ => ?_)
  obtain ⟨rr, μr⟩ := z
  exact t_X12_wrong_0 K hl H rfl
