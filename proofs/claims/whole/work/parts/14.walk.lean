/-! RX10 alter(I)Z -/
def b_X10_alter_51 (Y : jY) (t0 : Nat) (t1 : Int32) (μ : jM) : Option (Int32 × jM) :=
  (jrcv Y t0 10 (f_X10_raise Y t0 t1 μ)).bind fun r1 =>
  (jbool r1.1).bind fun x2 =>
  some (x2, r1.2)
def b_X10_alter_40 (Y : jY) (v0 : Nat) (v1 : Int32) (μ : jM) : Option (Int32 × jM) :=
  if v1 = ((1 : Int32)) then
    b_X10_alter_51 Y v0 (1 : Int32) μ
  else
    b_X10_alter_51 Y v0 (-1 : Int32) μ
def b_X10_alter_84 (Y : jY) (v0 : Nat) (μ : jM) : Option (Int32 × jM) :=
  (jgI Y μ v0 10 0).bind fun x1 =>
  (jput Y μ v0 10 0 (.int ((x1 - ((1 : Int32)))))).bind fun μ2 =>
  (jbool ((1 : Int32))).bind fun x3 =>
  some (x3, μ2)
def f_X10_alter (Y : jY) (v0 : Nat) (v1 : Int32) (μ : jM) : Option (Int32 × jM) :=
  if v1 = 0 then
    (jgO Y μ v0 10 1).bind fun x7 =>
    (jgI Y μ v0 10 0).bind fun x8 =>
    (f_X10_turnRound Y x7 x8 μ).bind fun μ9 =>
    (jgO Y μ9 v0 10 2).bind fun x10 =>
    (jgI Y μ9 v0 10 0).bind fun x11 =>
    (f_X10_turnRound Y x10 ((x11 - ((1 : Int32)))) μ9).bind fun μ12 =>
    (jbool ((1 : Int32))).bind fun x13 =>
    some (x13, μ12)
  else
    if v1 = ((1 : Int32)) then
      b_X10_alter_40 Y v0 v1 μ
    else
      if v1 = ((2 : Int32)) then
        b_X10_alter_40 Y v0 v1 μ
      else
        (jgI Y μ v0 10 0).bind fun x1 =>
        if x1 = ((1 : Int32)) then
          (jbool ((0 : Int32))).bind fun x6 =>
          some (x6, μ)
        else
          if v1 = ((4 : Int32)) then
            (jgO Y μ v0 10 1).bind fun x2 =>
            (f_X10_dropFirst Y x2 μ).bind fun μ3 =>
            (jgO Y μ3 v0 10 2).bind fun x4 =>
            (f_X10_dropFirst Y x4 μ3).bind fun μ5 =>
            b_X10_alter_84 Y v0 μ5
          else
            b_X10_alter_84 Y v0 μ
set_option maxRecDepth 10000 in
theorem t_X10_alter_51 {X : jX} {l : Launch} {n : Nat} {Y : jY} (K : jOK X RX10 cX10_alter 2 (some .boolean) 4) (hl : X.2.1 = l) {rr : Int32} {μr : jM} {t0 : Nat} {t1 : Int32} {μ : jM} {z : (Int32 × jM)} (H : b_X10_alter_51 Y t0 t1 μ = some z) (D : z = (rr, μr)) : JW X (jEnd X n Y (some (.int rr)) μr 0 0) 0 0 n Y 51 [] [.int t1, .ref t0] μ := by
  unfold b_X10_alter_51 at H
  refine w_callV K hl H (fun r h => c_X10_raise l h) mC_yX10_raise mM_RX10_92 mI_yX10_raise mS_yX10_raise mZ_RX10 vc10 (Nat.le_of_ble_eq_true rfl) (Nat.le_of_ble_eq_true rfl) np_yX10_raise rfl (Nat.le_of_ble_eq_true rfl) dX10_alter_51 (fun r1 H => ?_) ⟨Nat.zero_le _, Nat.zero_le _⟩
  refine w_zret K dX10_alter_54 H (fun hz H => ?_)
  cases H
  obtain ⟨rfl, rfl⟩ := jfin2 D
  exact r_zret K hz dX10_alter_54
set_option maxRecDepth 10000 in
theorem t_X10_alter_40 {X : jX} {l : Launch} {n : Nat} {Y : jY} (K : jOK X RX10 cX10_alter 2 (some .boolean) 4) (hl : X.2.1 = l) {rr : Int32} {μr : jM} {v0 : Nat} {v1 : Int32} {μ : jM} {z : (Int32 × jM)} (H : b_X10_alter_40 Y v0 v1 μ = some z) (D : z = (rr, μr)) : JW X (jEnd X n Y (some (.int rr)) μr 0 0) 0 0 n Y 40 [(0, .ref v0), (1, .int v1)] [] μ := by
  unfold b_X10_alter_40 at H
  refine r_aload_n K 0 dX10_alter_40 rfl rfl ?_
  refine r_iload_n K 1 dX10_alter_41 rfl rfl ?_
  refine r_iconst (v := 1) K dX10_alter_42 (by decide) ?_
  refine w_icmp_ne K 50 dX10_alter_43 (by decide) H (fun _ H => ?_) (fun _ H => ?_)
  · refine r_iconst (v := -1) K dX10_alter_50 (by decide) ?_
    exact r_sub [] rfl (t_X10_alter_51 K hl H D)
  · refine r_iconst (v := 1) K dX10_alter_46 (by decide) ?_
    refine r_goto K 51 dX10_alter_47 (by decide) ?_
    exact r_sub [] rfl (t_X10_alter_51 K hl H D)
set_option maxRecDepth 10000 in
theorem t_X10_alter_84 {X : jX} {l : Launch} {n : Nat} {Y : jY} (K : jOK X RX10 cX10_alter 2 (some .boolean) 4) (hl : X.2.1 = l) {rr : Int32} {μr : jM} {v0 : Nat} {μ : jM} {z : (Int32 × jM)} (H : b_X10_alter_84 Y v0 μ = some z) (D : z = (rr, μr)) : JW X (jEnd X n Y (some (.int rr)) μr 0 0) 0 0 n Y 84 [(0, .ref v0)] [] μ := by
  unfold b_X10_alter_84 at H
  refine r_aload_n K 0 dX10_alter_84 rfl rfl ?_
  refine r_dup K dX10_alter_85 rfl ?_
  refine w_getI K vc10 inX10 0 (by decide) mF_RX10_9 dX10_alter_86 H (fun x1 H => ?_)
  refine r_iconst (v := 1) K dX10_alter_89 (by decide) ?_
  refine r_isub K dX10_alter_90 ?_
  refine w_put K vc10 inX10 tyX10_ok nmX10 0 (by decide) mF_RX10_9 rfl (fun _ => rfl) (fun _ => rfl) dX10_alter_91 H (fun μ2 H => ?_)
  refine r_iconst (v := 1) K dX10_alter_94 (by decide) ?_
  refine w_zret K dX10_alter_95 H (fun hz H => ?_)
  cases H
  obtain ⟨rfl, rfl⟩ := jfin2 D
  exact r_zret K hz dX10_alter_95
set_option maxRecDepth 10000 in
theorem t_X10_alter_0 {X : jX} {l : Launch} {n : Nat} {Y : jY} (K : jOK X RX10 cX10_alter 2 (some .boolean) 4) (hl : X.2.1 = l) {rr : Int32} {μr : jM} {v0 : Nat} {v1 : Int32} {μ : jM} {z : (Int32 × jM)} (H : f_X10_alter Y v0 v1 μ = some z) (D : z = (rr, μr)) : JW X (jEnd X n Y (some (.int rr)) μr 0 0) 0 0 n Y 0 [(0, .ref v0), (1, .int v1)] [] μ := by
  unfold f_X10_alter at H
  refine r_iload_n K 1 dX10_alter_0 rfl rfl ?_
  refine w_if_ne K 30 dX10_alter_1 (by decide) H (fun _ H => ?_) (fun _ H => ?_)
  · refine r_iload_n K 1 dX10_alter_30 rfl rfl ?_
    refine r_iconst (v := 1) K dX10_alter_31 (by decide) ?_
    refine w_icmp_eq K 40 dX10_alter_32 (by decide) H (fun _ H => ?_) (fun _ H => ?_)
    · exact r_sub [0, 1] rfl (t_X10_alter_40 K hl H D)
    · refine r_iload_n K 1 dX10_alter_35 rfl rfl ?_
      refine r_iconst (v := 2) K dX10_alter_36 (by decide) ?_
      refine w_icmp_ne K 55 dX10_alter_37 (by decide) H (fun _ H => ?_) (fun _ H => ?_)
      · refine r_aload_n K 0 dX10_alter_55 rfl rfl ?_
        refine w_getI K vc10 inX10 0 (by decide) mF_RX10_9 dX10_alter_56 H (fun x1 H => ?_)
        refine r_iconst (v := 1) K dX10_alter_59 (by decide) ?_
        refine w_icmp_ne K 65 dX10_alter_60 (by decide) H (fun _ H => ?_) (fun _ H => ?_)
        · refine r_iload_n K 1 dX10_alter_65 rfl rfl ?_
          refine r_iconst (v := 4) K dX10_alter_66 (by decide) ?_
          refine w_icmp_ne K 84 dX10_alter_67 (by decide) H (fun _ H => ?_) (fun _ H => ?_)
          · exact r_sub [0] rfl (t_X10_alter_84 K hl H D)
          · refine r_aload_n K 0 dX10_alter_70 rfl rfl ?_
            refine w_getO K vc10 inX10 1 (by decide) mF_RX10_15 dX10_alter_71 H (fun x2 H => ?_)
            refine w_callS K hl H (fun r h => c_X10_dropFirst l h) mC_yX10_dropFirst mM_RX10_95 mT_yX10_dropFirst mZ_RX10 (Nat.le_of_ble_eq_true rfl) (Nat.le_of_ble_eq_true rfl) np_yX10_dropFirst rfl (Nat.le_of_ble_eq_true rfl) dX10_alter_74 (fun μ3 H => ?_) ⟨Nat.zero_le _, Nat.zero_le _⟩
            refine r_aload_n K 0 dX10_alter_77 rfl rfl ?_
            refine w_getO K vc10 inX10 2 (by decide) mF_RX10_19 dX10_alter_78 H (fun x4 H => ?_)
            refine w_callS K hl H (fun r h => c_X10_dropFirst l h) mC_yX10_dropFirst mM_RX10_95 mT_yX10_dropFirst mZ_RX10 (Nat.le_of_ble_eq_true rfl) (Nat.le_of_ble_eq_true rfl) np_yX10_dropFirst rfl (Nat.le_of_ble_eq_true rfl) dX10_alter_81 (fun μ5 H => ?_) ⟨Nat.zero_le _, Nat.zero_le _⟩
            exact r_sub [0] rfl (t_X10_alter_84 K hl H D)
        · refine r_iconst (v := 0) K dX10_alter_63 (by decide) ?_
          refine w_zret K dX10_alter_64 H (fun hz H => ?_)
          cases H
          obtain ⟨rfl, rfl⟩ := jfin2 D
          exact r_zret K hz dX10_alter_64
      · exact r_sub [0, 1] rfl (t_X10_alter_40 K hl H D)
  · refine r_aload_n K 0 dX10_alter_4 rfl rfl ?_
    refine w_getO K vc10 inX10 1 (by decide) mF_RX10_15 dX10_alter_5 H (fun x7 H => ?_)
    refine r_aload_n K 0 dX10_alter_8 rfl rfl ?_
    refine w_getI K vc10 inX10 0 (by decide) mF_RX10_9 dX10_alter_9 H (fun x8 H => ?_)
    refine w_callS K hl H (fun r h => c_X10_turnRound l h) mC_yX10_turnRound mM_RX10_88 mT_yX10_turnRound mZ_RX10 (Nat.le_of_ble_eq_true rfl) (Nat.le_of_ble_eq_true rfl) np_yX10_turnRound rfl (Nat.le_of_ble_eq_true rfl) dX10_alter_12 (fun μ9 H => ?_) ⟨Nat.zero_le _, Nat.zero_le _⟩
    refine r_aload_n K 0 dX10_alter_15 rfl rfl ?_
    refine w_getO K vc10 inX10 2 (by decide) mF_RX10_19 dX10_alter_16 H (fun x10 H => ?_)
    refine r_aload_n K 0 dX10_alter_19 rfl rfl ?_
    refine w_getI K vc10 inX10 0 (by decide) mF_RX10_9 dX10_alter_20 H (fun x11 H => ?_)
    refine r_iconst (v := 1) K dX10_alter_23 (by decide) ?_
    refine r_isub K dX10_alter_24 ?_
    refine w_callS K hl H (fun r h => c_X10_turnRound l h) mC_yX10_turnRound mM_RX10_88 mT_yX10_turnRound mZ_RX10 (Nat.le_of_ble_eq_true rfl) (Nat.le_of_ble_eq_true rfl) np_yX10_turnRound rfl (Nat.le_of_ble_eq_true rfl) dX10_alter_25 (fun μ12 H => ?_) ⟨Nat.zero_le _, Nat.zero_le _⟩
    refine r_iconst (v := 1) K dX10_alter_28 (by decide) ?_
    refine w_zret K dX10_alter_29 H (fun hz H => ?_)
    cases H
    obtain ⟨rfl, rfl⟩ := jfin2 D
    exact r_zret K hz dX10_alter_29
theorem c_X10_alter (l : Launch) {n : Nat} {Y : jY} {v0 : Nat} {v1 : Int32} {μ : jM} {z : Int32 × jM} (H : f_X10_alter Y v0 v1 μ = some z) : jC l yX10_alter cX10_alter 2 (some .boolean) 4 0 0 [.ref v0, .int v1] n Y μ n Y (some (.int z.1)) z.2 := by
  refine jC_of (by decide +kernel) (Nat.le_of_ble_eq_true rfl) (fun X hl K _ _ _ => ?_)
  obtain ⟨rr, μr⟩ := z
  exact t_X10_alter_0 K hl H rfl
/-! RX10 meets(I)Z -/
def b_X10_meets_58 (Y : jY) (t0 : Int32) (μ : jM) : Option (Int32 × jM) :=
  (jbool t0).bind fun x1 =>
  some (x1, μ)
def b_X10_meets_39 (Y : jY) (t0 : Int32) (μ : jM) : Option (Int32 × jM) :=
  (jbool t0).bind fun x1 =>
  some (x1, μ)
def f_X10_meets (Y : jY) (v0 : Nat) (v1 : Int32) (μ : jM) : Option (Int32 × jM) :=
  if v1 = 0 then
    (jgI Y μ v0 10 0).bind fun x5 =>
    (jrcv Y v0 10 (f_X10_areWhole Y v0 x5 μ)).bind fun r6 =>
    (jbool r6.1).bind fun x7 =>
    some (x7, r6.2)
  else
    if v1 = ((1 : Int32)) then
      (jgI Y μ v0 10 0).bind fun x3 =>
      (jrcv Y v0 10 (f_X10_valueAt Y v0 ((0 : Int32)) x3 ((0 : Int32)) ((1 : Int32)) μ)).bind fun r4 =>
      if ((lg_cmp r4.1 ((0 : Int64)))) = 0 then
        b_X10_meets_39 Y (1 : Int32) r4.2
      else
        b_X10_meets_39 Y (0 : Int32) r4.2
    else
      (jgI Y μ v0 10 0).bind fun x1 =>
      (jrcv Y v0 10 (f_X10_rootsBelow Y v0 x1 ((0 : Int32)) ((1 : Int32)) μ)).bind fun r2 =>
      if r2.1 = 0 then
        b_X10_meets_58 Y (1 : Int32) r2.2
      else
        b_X10_meets_58 Y (0 : Int32) r2.2
set_option maxRecDepth 10000 in
theorem t_X10_meets_58 {X : jX} {l : Launch} {n : Nat} {Y : jY} (K : jOK X RX10 cX10_meets 2 (some .boolean) 4) (hl : X.2.1 = l) {rr : Int32} {μr : jM} {t0 : Int32} {μ : jM} {z : (Int32 × jM)} (H : b_X10_meets_58 Y t0 μ = some z) (D : z = (rr, μr)) : JW X (jEnd X n Y (some (.int rr)) μr 0 0) 0 0 n Y 58 [] [.int t0] μ := by
  unfold b_X10_meets_58 at H
  refine w_zret K dX10_meets_58 H (fun hz H => ?_)
  cases H
  obtain ⟨rfl, rfl⟩ := jfin2 D
  exact r_zret K hz dX10_meets_58
set_option maxRecDepth 10000 in
theorem t_X10_meets_39 {X : jX} {l : Launch} {n : Nat} {Y : jY} (K : jOK X RX10 cX10_meets 2 (some .boolean) 4) (hl : X.2.1 = l) {rr : Int32} {μr : jM} {t0 : Int32} {μ : jM} {z : (Int32 × jM)} (H : b_X10_meets_39 Y t0 μ = some z) (D : z = (rr, μr)) : JW X (jEnd X n Y (some (.int rr)) μr 0 0) 0 0 n Y 39 [] [.int t0] μ := by
  unfold b_X10_meets_39 at H
  refine w_zret K dX10_meets_39 H (fun hz H => ?_)
  cases H
  obtain ⟨rfl, rfl⟩ := jfin2 D
  exact r_zret K hz dX10_meets_39
set_option maxRecDepth 10000 in
theorem t_X10_meets_0 {X : jX} {l : Launch} {n : Nat} {Y : jY} (K : jOK X RX10 cX10_meets 2 (some .boolean) 4) (hl : X.2.1 = l) {rr : Int32} {μr : jM} {v0 : Nat} {v1 : Int32} {μ : jM} {z : (Int32 × jM)} (H : f_X10_meets Y v0 v1 μ = some z) (D : z = (rr, μr)) : JW X (jEnd X n Y (some (.int rr)) μr 0 0) 0 0 n Y 0 [(0, .ref v0), (1, .int v1)] [] μ := by
  unfold f_X10_meets at H
  refine r_iload_n K 1 dX10_meets_0 rfl rfl ?_
  refine w_if_ne K 13 dX10_meets_1 (by decide) H (fun _ H => ?_) (fun _ H => ?_)
  · refine r_iload_n K 1 dX10_meets_13 rfl rfl ?_
    refine r_iconst (v := 1) K dX10_meets_14 (by decide) ?_
    refine w_icmp_ne K 40 dX10_meets_15 (by decide) H (fun _ H => ?_) (fun _ H => ?_)
    · refine r_aload_n K 0 dX10_meets_40 rfl rfl ?_
      refine r_aload_n K 0 dX10_meets_41 rfl rfl ?_
      refine w_getI K vc10 inX10 0 (by decide) mF_RX10_9 dX10_meets_42 H (fun x1 H => ?_)
      refine r_iconst (v := 0) K dX10_meets_45 (by decide) ?_
      refine r_iconst (v := 1) K dX10_meets_46 (by decide) ?_
      refine w_callV K hl H (fun r h => c_X10_rootsBelow l h) mC_yX10_rootsBelow mM_RX10_41 mI_yX10_rootsBelow mS_yX10_rootsBelow mZ_RX10 vc10 (Nat.le_of_ble_eq_true rfl) (Nat.le_of_ble_eq_true rfl) np_yX10_rootsBelow rfl (Nat.le_of_ble_eq_true rfl) dX10_meets_47 (fun r2 H => ?_) ⟨Nat.zero_le _, Nat.zero_le _⟩
      refine w_if_ne K 57 dX10_meets_50 (by decide) H (fun _ H => ?_) (fun _ H => ?_)
      · refine r_iconst (v := 0) K dX10_meets_57 (by decide) ?_
        exact r_sub [] rfl (t_X10_meets_58 K hl H D)
      · refine r_iconst (v := 1) K dX10_meets_53 (by decide) ?_
        refine r_goto K 58 dX10_meets_54 (by decide) ?_
        exact r_sub [] rfl (t_X10_meets_58 K hl H D)
    · refine r_aload_n K 0 dX10_meets_18 rfl rfl ?_
      refine r_iconst (v := 0) K dX10_meets_19 (by decide) ?_
      refine r_aload_n K 0 dX10_meets_20 rfl rfl ?_
      refine w_getI K vc10 inX10 0 (by decide) mF_RX10_9 dX10_meets_21 H (fun x3 H => ?_)
      refine r_iconst (v := 0) K dX10_meets_24 (by decide) ?_
      refine r_iconst (v := 1) K dX10_meets_25 (by decide) ?_
      refine w_callV K hl H (fun r h => c_X10_valueAt l h) mC_yX10_valueAt mM_RX10_45 mI_yX10_valueAt mS_yX10_valueAt mZ_RX10 vc10 (Nat.le_of_ble_eq_true rfl) (Nat.le_of_ble_eq_true rfl) np_yX10_valueAt rfl (Nat.le_of_ble_eq_true rfl) dX10_meets_26 (fun r4 H => ?_) ⟨Nat.zero_le _, Nat.zero_le _⟩
      refine r_lconst (v := 0) K dX10_meets_29 (by decide) ?_
      refine r_lcmp K dX10_meets_30 ?_
      refine w_if_ne K 38 dX10_meets_31 (by decide) H (fun _ H => ?_) (fun _ H => ?_)
      · refine r_iconst (v := 0) K dX10_meets_38 (by decide) ?_
        exact r_sub [] rfl (t_X10_meets_39 K hl H D)
      · refine r_iconst (v := 1) K dX10_meets_34 (by decide) ?_
        refine r_goto K 39 dX10_meets_35 (by decide) ?_
        exact r_sub [] rfl (t_X10_meets_39 K hl H D)
  · refine r_aload_n K 0 dX10_meets_4 rfl rfl ?_
    refine r_aload_n K 0 dX10_meets_5 rfl rfl ?_
    refine w_getI K vc10 inX10 0 (by decide) mF_RX10_9 dX10_meets_6 H (fun x5 H => ?_)
    refine w_callV K hl H (fun r h => c_X10_areWhole l h) mC_yX10_areWhole mM_RX10_49 mI_yX10_areWhole mS_yX10_areWhole mZ_RX10 vc10 (Nat.le_of_ble_eq_true rfl) (Nat.le_of_ble_eq_true rfl) np_yX10_areWhole rfl (Nat.le_of_ble_eq_true rfl) dX10_meets_9 (fun r6 H => ?_) ⟨Nat.zero_le _, Nat.zero_le _⟩
    refine w_zret K dX10_meets_12 H (fun hz H => ?_)
    cases H
    obtain ⟨rfl, rfl⟩ := jfin2 D
    exact r_zret K hz dX10_meets_12
theorem c_X10_meets (l : Launch) {n : Nat} {Y : jY} {v0 : Nat} {v1 : Int32} {μ : jM} {z : Int32 × jM} (H : f_X10_meets Y v0 v1 μ = some z) : jC l yX10_meets cX10_meets 2 (some .boolean) 4 0 0 [.ref v0, .int v1] n Y μ n Y (some (.int z.1)) z.2 := by
  refine jC_of (by decide +kernel) (Nat.le_of_ble_eq_true rfl) (fun X hl K _ _ _ => ?_)
  obtain ⟨rr, μr⟩ := z
  exact t_X10_meets_0 K hl H rfl
/-! RX10 setNumber(ZII)V -/
def b_X10_setNumber_21 (Y : jY) (μ : jM) : Option (jM) :=
  some μ
def f_X10_setNumber (Y : jY) (v0 : Nat) (v1 : Int32) (v2 : Int32) (v3 : Int32) (μ : jM) : Option (jM) :=
  if v1 = 0 then
    (jgO Y μ v0 10 2).bind fun x1 =>
    (jas Y μ x1 20 v2 (.int v3)).bind fun μ2 =>
    b_X10_setNumber_21 Y μ2
  else
    (jgO Y μ v0 10 1).bind fun x3 =>
    (jas Y μ x3 20 v2 (.int v3)).bind fun μ4 =>
    b_X10_setNumber_21 Y μ4
set_option maxRecDepth 10000 in
theorem t_X10_setNumber_21 {X : jX} {l : Launch} {n : Nat} {Y : jY} (K : jOK X RX10 cX10_setNumber 4 none 1) (hl : X.2.1 = l) {μr : jM} {μ : jM} {z : (jM)} (H : b_X10_setNumber_21 Y μ = some z) (D : z = μr) : JW X (jEnd X n Y none μr 0 0) 0 0 n Y 21 [] [] μ := by
  unfold b_X10_setNumber_21 at H
  cases H
  subst D
  exact r_vret K dX10_setNumber_21
set_option maxRecDepth 10000 in
theorem t_X10_setNumber_0 {X : jX} {l : Launch} {n : Nat} {Y : jY} (K : jOK X RX10 cX10_setNumber 4 none 1) (hl : X.2.1 = l) {μr : jM} {v0 : Nat} {v1 : Int32} {v2 : Int32} {v3 : Int32} {μ : jM} {z : (jM)} (H : f_X10_setNumber Y v0 v1 v2 v3 μ = some z) (D : z = μr) : JW X (jEnd X n Y none μr 0 0) 0 0 n Y 0 [(0, .ref v0), (1, .int v1), (2, .int v2), (3, .int v3)] [] μ := by
  unfold f_X10_setNumber at H
  refine r_iload_n K 1 dX10_setNumber_0 rfl rfl ?_
  refine w_if_eq K 14 dX10_setNumber_1 (by decide) H (fun _ H => ?_) (fun _ H => ?_)
  · refine r_aload_n K 0 dX10_setNumber_14 rfl rfl ?_
    refine w_getO K vc10 inX10 2 (by decide) mF_RX10_19 dX10_setNumber_15 H (fun x1 H => ?_)
    refine r_iload_n K 2 dX10_setNumber_18 rfl rfl ?_
    refine r_iload_n K 3 dX10_setNumber_19 rfl rfl ?_
    refine w_iast K dX10_setNumber_20 H (fun μ2 H => ?_)
    exact r_sub [] rfl (t_X10_setNumber_21 K hl H D)
  · refine r_aload_n K 0 dX10_setNumber_4 rfl rfl ?_
    refine w_getO K vc10 inX10 1 (by decide) mF_RX10_15 dX10_setNumber_5 H (fun x3 H => ?_)
    refine r_iload_n K 2 dX10_setNumber_8 rfl rfl ?_
    refine r_iload_n K 3 dX10_setNumber_9 rfl rfl ?_
    refine w_iast K dX10_setNumber_10 H (fun μ4 H => ?_)
    refine r_goto K 21 dX10_setNumber_11 (by decide) ?_
    exact r_sub [] rfl (t_X10_setNumber_21 K hl H D)
theorem c_X10_setNumber (l : Launch) {n : Nat} {Y : jY} {v0 : Nat} {v1 : Int32} {v2 : Int32} {v3 : Int32} {μ : jM} {z : jM} (H : f_X10_setNumber Y v0 v1 v2 v3 μ = some z) : jC l yX10_setNumber cX10_setNumber 4 none 1 0 0 [.ref v0, .int v1, .int v2, .int v3] n Y μ n Y none z := by
  refine jC_of (by decide +kernel) (Nat.le_of_ble_eq_true rfl) (fun X hl K _ _ _ => ?_)
  exact t_X10_setNumber_0 K hl H rfl
/-! RX11 isDrawer(I)Z -/
def f_X11_isDrawer (Y : jY) (v0 : Int32) (μ : jM) : Option (Int32 × jM) :=
  (f_X11_within Y v0 ((0 : Int32)) ((3 : Int32)) μ).bind fun r1 =>
  (jbool r1.1).bind fun x2 =>
  some (x2, r1.2)
set_option maxRecDepth 10000 in
theorem t_X11_isDrawer_0 {X : jX} {l : Launch} {n : Nat} {Y : jY} (K : jOK X RX11 cX11_isDrawer 1 (some .boolean) 2) (hl : X.2.1 = l) {rr : Int32} {μr : jM} {v0 : Int32} {μ : jM} {z : (Int32 × jM)} (H : f_X11_isDrawer Y v0 μ = some z) (D : z = (rr, μr)) : JW X (jEnd X n Y (some (.int rr)) μr 0 0) 0 0 n Y 0 [(0, .int v0)] [] μ := by
  unfold f_X11_isDrawer at H
  refine r_iload_n K 0 dX11_isDrawer_0 rfl rfl ?_
  refine r_iconst (v := 0) K dX11_isDrawer_1 (by decide) ?_
  refine r_iconst (v := 3) K dX11_isDrawer_2 (by decide) ?_
  refine w_callS K hl H (fun r h => c_X11_within l h) mC_yX11_within mM_RX11_133 mT_yX11_within mZ_RX11 (Nat.le_of_ble_eq_true rfl) (Nat.le_of_ble_eq_true rfl) np_yX11_within rfl (Nat.le_of_ble_eq_true rfl) dX11_isDrawer_3 (fun r1 H => ?_) ⟨Nat.zero_le _, Nat.zero_le _⟩
  refine w_zret K dX11_isDrawer_6 H (fun hz H => ?_)
  cases H
  obtain ⟨rfl, rfl⟩ := jfin2 D
  exact r_zret K hz dX11_isDrawer_6
theorem c_X11_isDrawer (l : Launch) {n : Nat} {Y : jY} {v0 : Int32} {μ : jM} {z : Int32 × jM} (H : f_X11_isDrawer Y v0 μ = some z) : jC l yX11_isDrawer cX11_isDrawer 1 (some .boolean) 2 0 0 [.int v0] n Y μ n Y (some (.int z.1)) z.2 := by
  refine jC_of (by decide +kernel) (Nat.le_of_ble_eq_true rfl) (fun X hl K _ _ _ => ?_)
  obtain ⟨rr, μr⟩ := z
  exact t_X11_isDrawer_0 K hl H rfl
/-! RX11 whole(II)I -/
def b_X11_whole_50 (Y : jY) (t0 : Int32) (μ : jM) : Option (Int32 × jM) :=
  some (t0, μ)
def f_X11_whole (Y : jY) (v0 : Nat) (v1 : Int32) (v2 : Int32) (μ : jM) : Option (Int32 × jM) :=
  (f_X11_isDrawer Y v1 μ).bind fun r1 =>
  if r1.1 = 0 then
    some ((-1 : Int32), r1.2)
  else
    (jgO Y r1.2 v0 11 3).bind fun x2 =>
    (jgO Y r1.2 x2 3 1).bind fun x3 =>
    (jaO Y r1.2 x3 24 v1).bind fun x4 =>
    (jgI Y r1.2 x4 10 0).bind fun x5 =>
    if x5 = 0 then
      some ((-2 : Int32), r1.2)
    else
      (jgI Y r1.2 x4 10 0).bind fun x6 =>
      (f_X11_within Y v2 ((1 : Int32)) x6 r1.2).bind fun r7 =>
      if r7.1 = 0 then
        b_X11_whole_50 Y (-1 : Int32) r7.2
      else
        (jrcv Y x4 10 (f_X10_wholeRoots Y x4 v2 r7.2)).bind fun r8 =>
        b_X11_whole_50 Y r8.1 r8.2
set_option maxRecDepth 10000 in
theorem t_X11_whole_50 {X : jX} {l : Launch} {n : Nat} {Y : jY} (K : jOK X RX11 cX11_whole 4 (some .int) 4) (hl : X.2.1 = l) {rr : Int32} {μr : jM} {t0 : Int32} {μ : jM} {z : (Int32 × jM)} (H : b_X11_whole_50 Y t0 μ = some z) (D : z = (rr, μr)) : JW X (jEnd X n Y (some (.int rr)) μr 0 0) 0 0 n Y 50 [] [.int t0] μ := by
  unfold b_X11_whole_50 at H
  cases H
  obtain ⟨rfl, rfl⟩ := jfin2 D
  exact r_iret K dX11_whole_50
set_option maxRecDepth 10000 in
theorem t_X11_whole_0 {X : jX} {l : Launch} {n : Nat} {Y : jY} (K : jOK X RX11 cX11_whole 4 (some .int) 4) (hl : X.2.1 = l) {rr : Int32} {μr : jM} {v0 : Nat} {v1 : Int32} {v2 : Int32} {μ : jM} {z : (Int32 × jM)} (H : f_X11_whole Y v0 v1 v2 μ = some z) (D : z = (rr, μr)) : JW X (jEnd X n Y (some (.int rr)) μr 0 0) 0 0 n Y 0 [(0, .ref v0), (1, .int v1), (2, .int v2)] [] μ := by
  unfold f_X11_whole at H
  refine r_iload_n K 1 dX11_whole_0 rfl rfl ?_
  refine w_callS K hl H (fun r h => c_X11_isDrawer l h) mC_yX11_isDrawer mM_RX11_252 mT_yX11_isDrawer mZ_RX11 (Nat.le_of_ble_eq_true rfl) (Nat.le_of_ble_eq_true rfl) np_yX11_isDrawer rfl (Nat.le_of_ble_eq_true rfl) dX11_whole_1 (fun r1 H => ?_) ⟨Nat.zero_le _, Nat.zero_le _⟩
  refine w_if_ne K 9 dX11_whole_4 (by decide) H (fun _ H => ?_) (fun _ H => ?_)
  · refine r_aload_n K 0 dX11_whole_9 rfl rfl ?_
    refine w_getO K vc11 inX11 3 (by decide) mF_RX11_35 dX11_whole_10 H (fun x2 H => ?_)
    refine w_getO K vc3 inX3 1 (by decide) mF_RX11_255 dX11_whole_13 H (fun x3 H => ?_)
    refine r_iload_n K 1 dX11_whole_16 rfl rfl ?_
    refine w_aald K 24 rfl rfl dX11_whole_17 H (fun x4 H => ?_)
    refine r_astore_n K [(3, .ref _), (0, .ref _), (1, .int _), (2, .int _)] dX11_whole_18 rfl (by decide) rfl ?_
    refine r_aload_n K 0 dX11_whole_19 rfl rfl ?_
    refine w_getI K vc10 inX10 0 (by decide) mF_RX11_263 dX11_whole_20 H (fun x5 H => ?_)
    refine w_if_ne K 29 dX11_whole_23 (by decide) H (fun _ H => ?_) (fun _ H => ?_)
    · refine r_iload_n K 3 dX11_whole_29 rfl rfl ?_
      refine r_iconst (v := 1) K dX11_whole_30 (by decide) ?_
      refine r_aload_n K 0 dX11_whole_31 rfl rfl ?_
      refine w_getI K vc10 inX10 0 (by decide) mF_RX11_263 dX11_whole_32 H (fun x6 H => ?_)
      refine w_callS K hl H (fun r h => c_X11_within l h) mC_yX11_within mM_RX11_133 mT_yX11_within mZ_RX11 (Nat.le_of_ble_eq_true rfl) (Nat.le_of_ble_eq_true rfl) np_yX11_within rfl (Nat.le_of_ble_eq_true rfl) dX11_whole_35 (fun r7 H => ?_) ⟨Nat.zero_le _, Nat.zero_le _⟩
      refine w_if_eq K 49 dX11_whole_38 (by decide) H (fun _ H => ?_) (fun _ H => ?_)
      · refine r_iconst (v := -1) K dX11_whole_49 (by decide) ?_
        exact r_sub [] rfl (t_X11_whole_50 K hl H D)
      · refine r_aload_n K 0 dX11_whole_41 rfl rfl ?_
        refine r_iload_n K 3 dX11_whole_42 rfl rfl ?_
        refine w_callV K hl H (fun r h => c_X10_wholeRoots l h) mC_yX10_wholeRoots mM_RX11_309 mI_yX10_wholeRoots mS_yX10_wholeRoots mZ_RX10 vc10 (Nat.le_of_ble_eq_true rfl) (Nat.le_of_ble_eq_true rfl) np_yX10_wholeRoots rfl (Nat.le_of_ble_eq_true rfl) dX11_whole_43 (fun r8 H => ?_) ⟨Nat.zero_le _, Nat.zero_le _⟩
        refine r_goto K 50 dX11_whole_46 (by decide) ?_
        exact r_sub [] rfl (t_X11_whole_50 K hl H D)
    · refine r_bipush (v := -2) K dX11_whole_26 (by decide) ?_
      cases H
      obtain ⟨rfl, rfl⟩ := jfin2 D
      exact r_iret K dX11_whole_28
  · refine r_iconst (v := -1) K dX11_whole_7 (by decide) ?_
    cases H
    obtain ⟨rfl, rfl⟩ := jfin2 D
    exact r_iret K dX11_whole_8
theorem c_X11_whole (l : Launch) {n : Nat} {Y : jY} {v0 : Nat} {v1 : Int32} {v2 : Int32} {μ : jM} {z : Int32 × jM} (H : f_X11_whole Y v0 v1 v2 μ = some z) : jC l yX11_whole cX11_whole 4 (some .int) 4 0 0 [.ref v0, .int v1, .int v2] n Y μ n Y (some (.int z.1)) z.2 := by
  refine jC_of (by decide +kernel) (Nat.le_of_ble_eq_true rfl) (fun X hl K _ _ _ => ?_)
  obtain ⟨rr, μr⟩ := z
  exact t_X11_whole_0 K hl H rfl
/-! RX11 change(II)I -/
def b_X11_change_16 (Y : jY) (μ : jM) : Option (Int32 × jM) :=
  some ((-1 : Int32), μ)
def b_X11_change_55 (Y : jY) (t0 : Int32) (μ : jM) : Option (Int32 × jM) :=
  some (t0, μ)
def f_X11_change (Y : jY) (v0 : Nat) (v1 : Int32) (v2 : Int32) (μ : jM) : Option (Int32 × jM) :=
  (f_X11_isDrawer Y v1 μ).bind fun r1 =>
  if r1.1 = 0 then
    b_X11_change_16 Y r1.2
  else
    (f_X11_within Y v2 ((0 : Int32)) ((4 : Int32)) r1.2).bind fun r2 =>
    if r2.1 = 0 then
      b_X11_change_16 Y r2.2
    else
      (jgO Y r2.2 v0 11 3).bind fun x3 =>
      (jgO Y r2.2 x3 3 1).bind fun x4 =>
      (jaO Y r2.2 x4 24 v1).bind fun x5 =>
      (jgI Y r2.2 x5 10 0).bind fun x6 =>
      if x6 = 0 then
        some ((-2 : Int32), r2.2)
      else
        (jrcv Y x5 10 (f_X10_alter Y x5 v2 r2.2)).bind fun r7 =>
        if r7.1 = 0 then
          b_X11_change_55 Y (-3 : Int32) r7.2
        else
          (jgI Y r7.2 x5 10 0).bind fun x8 =>
          b_X11_change_55 Y x8 r7.2
set_option maxRecDepth 10000 in
theorem t_X11_change_16 {X : jX} {l : Launch} {n : Nat} {Y : jY} (K : jOK X RX11 cX11_change 4 (some .int) 5) (hl : X.2.1 = l) {rr : Int32} {μr : jM} {μ : jM} {z : (Int32 × jM)} (H : b_X11_change_16 Y μ = some z) (D : z = (rr, μr)) : JW X (jEnd X n Y (some (.int rr)) μr 0 0) 0 0 n Y 16 [] [] μ := by
  unfold b_X11_change_16 at H
  refine r_iconst (v := -1) K dX11_change_16 (by decide) ?_
  cases H
  obtain ⟨rfl, rfl⟩ := jfin2 D
  exact r_iret K dX11_change_17
set_option maxRecDepth 10000 in
theorem t_X11_change_55 {X : jX} {l : Launch} {n : Nat} {Y : jY} (K : jOK X RX11 cX11_change 4 (some .int) 5) (hl : X.2.1 = l) {rr : Int32} {μr : jM} {t0 : Int32} {μ : jM} {z : (Int32 × jM)} (H : b_X11_change_55 Y t0 μ = some z) (D : z = (rr, μr)) : JW X (jEnd X n Y (some (.int rr)) μr 0 0) 0 0 n Y 55 [] [.int t0] μ := by
  unfold b_X11_change_55 at H
  cases H
  obtain ⟨rfl, rfl⟩ := jfin2 D
  exact r_iret K dX11_change_55
set_option maxRecDepth 10000 in
theorem t_X11_change_0 {X : jX} {l : Launch} {n : Nat} {Y : jY} (K : jOK X RX11 cX11_change 4 (some .int) 5) (hl : X.2.1 = l) {rr : Int32} {μr : jM} {v0 : Nat} {v1 : Int32} {v2 : Int32} {μ : jM} {z : (Int32 × jM)} (H : f_X11_change Y v0 v1 v2 μ = some z) (D : z = (rr, μr)) : JW X (jEnd X n Y (some (.int rr)) μr 0 0) 0 0 n Y 0 [(0, .ref v0), (1, .int v1), (2, .int v2)] [] μ := by
  unfold f_X11_change at H
  refine r_iload_n K 1 dX11_change_0 rfl rfl ?_
  refine w_callS K hl H (fun r h => c_X11_isDrawer l h) mC_yX11_isDrawer mM_RX11_252 mT_yX11_isDrawer mZ_RX11 (Nat.le_of_ble_eq_true rfl) (Nat.le_of_ble_eq_true rfl) np_yX11_isDrawer rfl (Nat.le_of_ble_eq_true rfl) dX11_change_1 (fun r1 H => ?_) ⟨Nat.zero_le _, Nat.zero_le _⟩
  refine w_if_eq K 16 dX11_change_4 (by decide) H (fun _ H => ?_) (fun _ H => ?_)
  · exact r_sub [] rfl (t_X11_change_16 K hl H D)
  · refine r_iload_n K 2 dX11_change_7 rfl rfl ?_
    refine r_iconst (v := 0) K dX11_change_8 (by decide) ?_
    refine r_iconst (v := 4) K dX11_change_9 (by decide) ?_
    refine w_callS K hl H (fun r h => c_X11_within l h) mC_yX11_within mM_RX11_133 mT_yX11_within mZ_RX11 (Nat.le_of_ble_eq_true rfl) (Nat.le_of_ble_eq_true rfl) np_yX11_within rfl (Nat.le_of_ble_eq_true rfl) dX11_change_10 (fun r2 H => ?_) ⟨Nat.zero_le _, Nat.zero_le _⟩
    refine w_if_ne K 18 dX11_change_13 (by decide) H (fun _ H => ?_) (fun _ H => ?_)
    · refine r_aload_n K 0 dX11_change_18 rfl rfl ?_
      refine w_getO K vc11 inX11 3 (by decide) mF_RX11_35 dX11_change_19 H (fun x3 H => ?_)
      refine w_getO K vc3 inX3 1 (by decide) mF_RX11_255 dX11_change_22 H (fun x4 H => ?_)
      refine r_iload_n K 1 dX11_change_25 rfl rfl ?_
      refine w_aald K 24 rfl rfl dX11_change_26 H (fun x5 H => ?_)
      refine r_astore_n K [(3, .ref _), (0, .ref _), (1, .int _), (2, .int _)] dX11_change_27 rfl (by decide) rfl ?_
      refine r_aload_n K 0 dX11_change_28 rfl rfl ?_
      refine w_getI K vc10 inX10 0 (by decide) mF_RX11_263 dX11_change_29 H (fun x6 H => ?_)
      refine w_if_ne K 38 dX11_change_32 (by decide) H (fun _ H => ?_) (fun _ H => ?_)
      · refine r_aload_n K 0 dX11_change_38 rfl rfl ?_
        refine r_iload_n K 3 dX11_change_39 rfl rfl ?_
        refine w_callV K hl H (fun r h => c_X10_alter l h) mC_yX10_alter mM_RX11_334 mI_yX10_alter mS_yX10_alter mZ_RX10 vc10 (Nat.le_of_ble_eq_true rfl) (Nat.le_of_ble_eq_true rfl) np_yX10_alter rfl (Nat.le_of_ble_eq_true rfl) dX11_change_40 (fun r7 H => ?_) ⟨Nat.zero_le _, Nat.zero_le _⟩
        refine w_if_eq K 53 dX11_change_43 (by decide) H (fun _ H => ?_) (fun _ H => ?_)
        · refine r_bipush (v := -3) K dX11_change_53 (by decide) ?_
          exact r_sub [] rfl (t_X11_change_55 K hl H D)
        · refine r_aload_n K 0 dX11_change_46 rfl rfl ?_
          refine w_getI K vc10 inX10 0 (by decide) mF_RX11_263 dX11_change_47 H (fun x8 H => ?_)
          refine r_goto K 55 dX11_change_50 (by decide) ?_
          exact r_sub [] rfl (t_X11_change_55 K hl H D)
      · refine r_bipush (v := -2) K dX11_change_35 (by decide) ?_
        cases H
        obtain ⟨rfl, rfl⟩ := jfin2 D
        exact r_iret K dX11_change_37
    · exact r_sub [] rfl (t_X11_change_16 K hl H D)
theorem c_X11_change (l : Launch) {n : Nat} {Y : jY} {v0 : Nat} {v1 : Int32} {v2 : Int32} {μ : jM} {z : Int32 × jM} (H : f_X11_change Y v0 v1 v2 μ = some z) : jC l yX11_change cX11_change 4 (some .int) 5 0 0 [.ref v0, .int v1, .int v2] n Y μ n Y (some (.int z.1)) z.2 := by
  refine jC_of (by decide +kernel) (Nat.le_of_ble_eq_true rfl) (fun X hl K _ _ _ => ?_)
  obtain ⟨rr, μr⟩ := z
  exact t_X11_change_0 K hl H rfl
/-! RX11 isFilled(I)Z -/
def b_X11_isFilled_27 (Y : jY) (t0 : Int32) (μ : jM) : Option (Int32 × jM) :=
  (jbool t0).bind fun x1 =>
  some (x1, μ)
def b_X11_isFilled_26 (Y : jY) (μ : jM) : Option (Int32 × jM) :=
  b_X11_isFilled_27 Y (0 : Int32) μ
def f_X11_isFilled (Y : jY) (v0 : Nat) (v1 : Int32) (μ : jM) : Option (Int32 × jM) :=
  (f_X11_isDrawer Y v1 μ).bind fun r1 =>
  if r1.1 = 0 then
    b_X11_isFilled_26 Y r1.2
  else
    (jgO Y r1.2 v0 11 3).bind fun x2 =>
    (jgO Y r1.2 x2 3 1).bind fun x3 =>
    (jaO Y r1.2 x3 24 v1).bind fun x4 =>
    (jgI Y r1.2 x4 10 0).bind fun x5 =>
    if x5 ≤ 0 then
      b_X11_isFilled_26 Y r1.2
    else
      b_X11_isFilled_27 Y (1 : Int32) r1.2
set_option maxRecDepth 10000 in
theorem t_X11_isFilled_27 {X : jX} {l : Launch} {n : Nat} {Y : jY} (K : jOK X RX11 cX11_isFilled 2 (some .boolean) 3) (hl : X.2.1 = l) {rr : Int32} {μr : jM} {t0 : Int32} {μ : jM} {z : (Int32 × jM)} (H : b_X11_isFilled_27 Y t0 μ = some z) (D : z = (rr, μr)) : JW X (jEnd X n Y (some (.int rr)) μr 0 0) 0 0 n Y 27 [] [.int t0] μ := by
  unfold b_X11_isFilled_27 at H
  refine w_zret K dX11_isFilled_27 H (fun hz H => ?_)
  cases H
  obtain ⟨rfl, rfl⟩ := jfin2 D
  exact r_zret K hz dX11_isFilled_27
set_option maxRecDepth 10000 in
theorem t_X11_isFilled_26 {X : jX} {l : Launch} {n : Nat} {Y : jY} (K : jOK X RX11 cX11_isFilled 2 (some .boolean) 3) (hl : X.2.1 = l) {rr : Int32} {μr : jM} {μ : jM} {z : (Int32 × jM)} (H : b_X11_isFilled_26 Y μ = some z) (D : z = (rr, μr)) : JW X (jEnd X n Y (some (.int rr)) μr 0 0) 0 0 n Y 26 [] [] μ := by
  unfold b_X11_isFilled_26 at H
  refine r_iconst (v := 0) K dX11_isFilled_26 (by decide) ?_
  exact r_sub [] rfl (t_X11_isFilled_27 K hl H D)
set_option maxRecDepth 10000 in
theorem t_X11_isFilled_0 {X : jX} {l : Launch} {n : Nat} {Y : jY} (K : jOK X RX11 cX11_isFilled 2 (some .boolean) 3) (hl : X.2.1 = l) {rr : Int32} {μr : jM} {v0 : Nat} {v1 : Int32} {μ : jM} {z : (Int32 × jM)} (H : f_X11_isFilled Y v0 v1 μ = some z) (D : z = (rr, μr)) : JW X (jEnd X n Y (some (.int rr)) μr 0 0) 0 0 n Y 0 [(0, .ref v0), (1, .int v1)] [] μ := by
  unfold f_X11_isFilled at H
  refine r_iload_n K 1 dX11_isFilled_0 rfl rfl ?_
  refine w_callS K hl H (fun r h => c_X11_isDrawer l h) mC_yX11_isDrawer mM_RX11_252 mT_yX11_isDrawer mZ_RX11 (Nat.le_of_ble_eq_true rfl) (Nat.le_of_ble_eq_true rfl) np_yX11_isDrawer rfl (Nat.le_of_ble_eq_true rfl) dX11_isFilled_1 (fun r1 H => ?_) ⟨Nat.zero_le _, Nat.zero_le _⟩
  refine w_if_eq K 26 dX11_isFilled_4 (by decide) H (fun _ H => ?_) (fun _ H => ?_)
  · exact r_sub [] rfl (t_X11_isFilled_26 K hl H D)
  · refine r_aload_n K 0 dX11_isFilled_7 rfl rfl ?_
    refine w_getO K vc11 inX11 3 (by decide) mF_RX11_35 dX11_isFilled_8 H (fun x2 H => ?_)
    refine w_getO K vc3 inX3 1 (by decide) mF_RX11_255 dX11_isFilled_11 H (fun x3 H => ?_)
    refine r_iload_n K 1 dX11_isFilled_14 rfl rfl ?_
    refine w_aald K 24 rfl rfl dX11_isFilled_15 H (fun x4 H => ?_)
    refine w_getI K vc10 inX10 0 (by decide) mF_RX11_263 dX11_isFilled_16 H (fun x5 H => ?_)
    refine w_if_le K 26 dX11_isFilled_19 (by decide) H (fun _ H => ?_) (fun _ H => ?_)
    · exact r_sub [] rfl (t_X11_isFilled_26 K hl H D)
    · refine r_iconst (v := 1) K dX11_isFilled_22 (by decide) ?_
      refine r_goto K 27 dX11_isFilled_23 (by decide) ?_
      exact r_sub [] rfl (t_X11_isFilled_27 K hl H D)
theorem c_X11_isFilled (l : Launch) {n : Nat} {Y : jY} {v0 : Nat} {v1 : Int32} {μ : jM} {z : Int32 × jM} (H : f_X11_isFilled Y v0 v1 μ = some z) : jC l yX11_isFilled cX11_isFilled 2 (some .boolean) 3 0 0 [.ref v0, .int v1] n Y μ n Y (some (.int z.1)) z.2 := by
  refine jC_of (by decide +kernel) (Nat.le_of_ble_eq_true rfl) (fun X hl K _ _ _ => ?_)
  obtain ⟨rr, μr⟩ := z
  exact t_X11_isFilled_0 K hl H rfl
/-! RX11 isTone(I)Z -/
def f_X11_isTone (Y : jY) (v0 : Nat) (v1 : Int32) (μ : jM) : Option (Int32 × jM) :=
  (jgO Y μ v0 11 3).bind fun x1 =>
  (jgO Y μ x1 3 0).bind fun x2 =>
  (jgI Y μ x2 9 0).bind fun x3 =>
  (f_X11_within Y v1 ((0 : Int32)) ((x3 - ((1 : Int32)))) μ).bind fun r4 =>
  (jbool r4.1).bind fun x5 =>
  some (x5, r4.2)
set_option maxRecDepth 10000 in
theorem t_X11_isTone_0 {X : jX} {l : Launch} {n : Nat} {Y : jY} (K : jOK X RX11 cX11_isTone 2 (some .boolean) 2) (hl : X.2.1 = l) {rr : Int32} {μr : jM} {v0 : Nat} {v1 : Int32} {μ : jM} {z : (Int32 × jM)} (H : f_X11_isTone Y v0 v1 μ = some z) (D : z = (rr, μr)) : JW X (jEnd X n Y (some (.int rr)) μr 0 0) 0 0 n Y 0 [(0, .ref v0), (1, .int v1)] [] μ := by
  unfold f_X11_isTone at H
  refine r_iload_n K 1 dX11_isTone_0 rfl rfl ?_
  refine r_iconst (v := 0) K dX11_isTone_1 (by decide) ?_
  refine r_aload_n K 0 dX11_isTone_2 rfl rfl ?_
  refine w_getO K vc11 inX11 3 (by decide) mF_RX11_35 dX11_isTone_3 H (fun x1 H => ?_)
  refine w_getO K vc3 inX3 0 (by decide) mF_RX11_119 dX11_isTone_6 H (fun x2 H => ?_)
  refine w_getI K vc9 inX9 0 (by decide) mF_RX11_126 dX11_isTone_9 H (fun x3 H => ?_)
  refine r_iconst (v := 1) K dX11_isTone_12 (by decide) ?_
  refine r_isub K dX11_isTone_13 ?_
  refine w_callS K hl H (fun r h => c_X11_within l h) mC_yX11_within mM_RX11_133 mT_yX11_within mZ_RX11 (Nat.le_of_ble_eq_true rfl) (Nat.le_of_ble_eq_true rfl) np_yX11_within rfl (Nat.le_of_ble_eq_true rfl) dX11_isTone_14 (fun r4 H => ?_) ⟨Nat.zero_le _, Nat.zero_le _⟩
  refine w_zret K dX11_isTone_17 H (fun hz H => ?_)
  cases H
  obtain ⟨rfl, rfl⟩ := jfin2 D
  exact r_zret K hz dX11_isTone_17
theorem c_X11_isTone (l : Launch) {n : Nat} {Y : jY} {v0 : Nat} {v1 : Int32} {μ : jM} {z : Int32 × jM} (H : f_X11_isTone Y v0 v1 μ = some z) : jC l yX11_isTone cX11_isTone 2 (some .boolean) 2 0 0 [.ref v0, .int v1] n Y μ n Y (some (.int z.1)) z.2 := by
  refine jC_of (by decide +kernel) (Nat.le_of_ble_eq_true rfl) (fun X hl K _ _ _ => ?_)
  obtain ⟨rr, μr⟩ := z
  exact t_X11_isTone_0 K hl H rfl
/-! RX11 isRow(II)Z -/
def b_X11_isRow_35 (Y : jY) (t0 : Int32) (μ : jM) : Option (Int32 × jM) :=
  (jbool t0).bind fun x1 =>
  some (x1, μ)
def b_X11_isRow_34 (Y : jY) (μ : jM) : Option (Int32 × jM) :=
  b_X11_isRow_35 Y (0 : Int32) μ
def f_X11_isRow (Y : jY) (v0 : Nat) (v1 : Int32) (v2 : Int32) (μ : jM) : Option (Int32 × jM) :=
  (jrcv Y v0 11 (f_X11_isFilled Y v0 v1 μ)).bind fun r1 =>
  if r1.1 = 0 then
    b_X11_isRow_34 Y r1.2
  else
    (jgO Y r1.2 v0 11 3).bind fun x2 =>
    (jgO Y r1.2 x2 3 1).bind fun x3 =>
    (jaO Y r1.2 x3 24 v1).bind fun x4 =>
    (jgI Y r1.2 x4 10 0).bind fun x5 =>
    (f_X11_within Y v2 ((0 : Int32)) ((x5 - ((1 : Int32)))) r1.2).bind fun r6 =>
    if r6.1 = 0 then
      b_X11_isRow_34 Y r6.2
    else
      b_X11_isRow_35 Y (1 : Int32) r6.2
set_option maxRecDepth 10000 in
theorem t_X11_isRow_35 {X : jX} {l : Launch} {n : Nat} {Y : jY} (K : jOK X RX11 cX11_isRow 3 (some .boolean) 4) (hl : X.2.1 = l) {rr : Int32} {μr : jM} {t0 : Int32} {μ : jM} {z : (Int32 × jM)} (H : b_X11_isRow_35 Y t0 μ = some z) (D : z = (rr, μr)) : JW X (jEnd X n Y (some (.int rr)) μr 0 0) 0 0 n Y 35 [] [.int t0] μ := by
  unfold b_X11_isRow_35 at H
  refine w_zret K dX11_isRow_35 H (fun hz H => ?_)
  cases H
  obtain ⟨rfl, rfl⟩ := jfin2 D
  exact r_zret K hz dX11_isRow_35
set_option maxRecDepth 10000 in
theorem t_X11_isRow_34 {X : jX} {l : Launch} {n : Nat} {Y : jY} (K : jOK X RX11 cX11_isRow 3 (some .boolean) 4) (hl : X.2.1 = l) {rr : Int32} {μr : jM} {μ : jM} {z : (Int32 × jM)} (H : b_X11_isRow_34 Y μ = some z) (D : z = (rr, μr)) : JW X (jEnd X n Y (some (.int rr)) μr 0 0) 0 0 n Y 34 [] [] μ := by
  unfold b_X11_isRow_34 at H
  refine r_iconst (v := 0) K dX11_isRow_34 (by decide) ?_
  exact r_sub [] rfl (t_X11_isRow_35 K hl H D)
set_option maxRecDepth 10000 in
theorem t_X11_isRow_0 {X : jX} {l : Launch} {n : Nat} {Y : jY} (K : jOK X RX11 cX11_isRow 3 (some .boolean) 4) (hl : X.2.1 = l) {rr : Int32} {μr : jM} {v0 : Nat} {v1 : Int32} {v2 : Int32} {μ : jM} {z : (Int32 × jM)} (H : f_X11_isRow Y v0 v1 v2 μ = some z) (D : z = (rr, μr)) : JW X (jEnd X n Y (some (.int rr)) μr 0 0) 0 0 n Y 0 [(0, .ref v0), (1, .int v1), (2, .int v2)] [] μ := by
  unfold f_X11_isRow at H
  refine r_aload_n K 0 dX11_isRow_0 rfl rfl ?_
  refine r_iload_n K 1 dX11_isRow_1 rfl rfl ?_
  refine w_callV K hl H (fun r h => c_X11_isFilled l h) mC_yX11_isFilled mM_RX11_285 mI_yX11_isFilled mS_yX11_isFilled mZ_RX11 vc11 (Nat.le_of_ble_eq_true rfl) (Nat.le_of_ble_eq_true rfl) np_yX11_isFilled rfl (Nat.le_of_ble_eq_true rfl) dX11_isRow_2 (fun r1 H => ?_) ⟨Nat.zero_le _, Nat.zero_le _⟩
  refine w_if_eq K 34 dX11_isRow_5 (by decide) H (fun _ H => ?_) (fun _ H => ?_)
  · exact r_sub [] rfl (t_X11_isRow_34 K hl H D)
  · refine r_iload_n K 2 dX11_isRow_8 rfl rfl ?_
    refine r_iconst (v := 0) K dX11_isRow_9 (by decide) ?_
    refine r_aload_n K 0 dX11_isRow_10 rfl rfl ?_
    refine w_getO K vc11 inX11 3 (by decide) mF_RX11_35 dX11_isRow_11 H (fun x2 H => ?_)
    refine w_getO K vc3 inX3 1 (by decide) mF_RX11_255 dX11_isRow_14 H (fun x3 H => ?_)
    refine r_iload_n K 1 dX11_isRow_17 rfl rfl ?_
    refine w_aald K 24 rfl rfl dX11_isRow_18 H (fun x4 H => ?_)
    refine w_getI K vc10 inX10 0 (by decide) mF_RX11_263 dX11_isRow_19 H (fun x5 H => ?_)
    refine r_iconst (v := 1) K dX11_isRow_22 (by decide) ?_
    refine r_isub K dX11_isRow_23 ?_
    refine w_callS K hl H (fun r h => c_X11_within l h) mC_yX11_within mM_RX11_133 mT_yX11_within mZ_RX11 (Nat.le_of_ble_eq_true rfl) (Nat.le_of_ble_eq_true rfl) np_yX11_within rfl (Nat.le_of_ble_eq_true rfl) dX11_isRow_24 (fun r6 H => ?_) ⟨Nat.zero_le _, Nat.zero_le _⟩
    refine w_if_eq K 34 dX11_isRow_27 (by decide) H (fun _ H => ?_) (fun _ H => ?_)
    · exact r_sub [] rfl (t_X11_isRow_34 K hl H D)
    · refine r_iconst (v := 1) K dX11_isRow_30 (by decide) ?_
      refine r_goto K 35 dX11_isRow_31 (by decide) ?_
      exact r_sub [] rfl (t_X11_isRow_35 K hl H D)
theorem c_X11_isRow (l : Launch) {n : Nat} {Y : jY} {v0 : Nat} {v1 : Int32} {v2 : Int32} {μ : jM} {z : Int32 × jM} (H : f_X11_isRow Y v0 v1 v2 μ = some z) : jC l yX11_isRow cX11_isRow 3 (some .boolean) 4 0 0 [.ref v0, .int v1, .int v2] n Y μ n Y (some (.int z.1)) z.2 := by
  refine jC_of (by decide +kernel) (Nat.le_of_ble_eq_true rfl) (fun X hl K _ _ _ => ?_)
  obtain ⟨rr, μr⟩ := z
  exact t_X11_isRow_0 K hl H rfl
/-! RX11 told(IZI)I -/
def b_X11_told_65 (Y : jY) (t0 : Int32) (μ : jM) : Option (Int32 × jM) :=
  some (t0, μ)
def f_X11_told (Y : jY) (v0 : Nat) (v1 : Int32) (v2 : Int32) (v3 : Int32) (μ : jM) : Option (Int32 × jM) :=
  (f_X11_isDrawer Y v1 μ).bind fun r1 =>
  if r1.1 = 0 then
    some ((-99 : Int32), r1.2)
  else
    (jgO Y r1.2 v0 11 3).bind fun x2 =>
    (jgO Y r1.2 x2 3 1).bind fun x3 =>
    (jaO Y r1.2 x3 24 v1).bind fun x4 =>
    (jgI Y r1.2 x4 10 0).bind fun x5 =>
    if x5 = 0 then
      some ((-100 : Int32), r1.2)
    else
      if v3 = ((-1 : Int32)) then
        (jgI Y r1.2 x4 10 0).bind fun x8 =>
        some (x8, r1.2)
      else
        (jrcv Y x4 10 (f_X10_hasNumber Y x4 v2 v3 r1.2)).bind fun r6 =>
        if r6.1 = 0 then
          b_X11_told_65 Y (-99 : Int32) r6.2
        else
          (jrcv Y x4 10 (f_X10_numberAt Y x4 v2 v3 r6.2)).bind fun r7 =>
          b_X11_told_65 Y r7.1 r7.2
set_option maxRecDepth 10000 in
theorem t_X11_told_65 {X : jX} {l : Launch} {n : Nat} {Y : jY} (K : jOK X RX11 cX11_told 5 (some .int) 3) (hl : X.2.1 = l) {rr : Int32} {μr : jM} {t0 : Int32} {μ : jM} {z : (Int32 × jM)} (H : b_X11_told_65 Y t0 μ = some z) (D : z = (rr, μr)) : JW X (jEnd X n Y (some (.int rr)) μr 0 0) 0 0 n Y 65 [] [.int t0] μ := by
  unfold b_X11_told_65 at H
  cases H
  obtain ⟨rfl, rfl⟩ := jfin2 D
  exact r_iret K dX11_told_65
set_option maxRecDepth 10000 in
theorem t_X11_told_0 {X : jX} {l : Launch} {n : Nat} {Y : jY} (K : jOK X RX11 cX11_told 5 (some .int) 3) (hl : X.2.1 = l) {rr : Int32} {μr : jM} {v0 : Nat} {v1 : Int32} {v2 : Int32} {v3 : Int32} {μ : jM} {z : (Int32 × jM)} (H : f_X11_told Y v0 v1 v2 v3 μ = some z) (D : z = (rr, μr)) : JW X (jEnd X n Y (some (.int rr)) μr 0 0) 0 0 n Y 0 [(0, .ref v0), (1, .int v1), (2, .int v2), (3, .int v3)] [] μ := by
  unfold f_X11_told at H
  refine r_iload_n K 1 dX11_told_0 rfl rfl ?_
  refine w_callS K hl H (fun r h => c_X11_isDrawer l h) mC_yX11_isDrawer mM_RX11_252 mT_yX11_isDrawer mZ_RX11 (Nat.le_of_ble_eq_true rfl) (Nat.le_of_ble_eq_true rfl) np_yX11_isDrawer rfl (Nat.le_of_ble_eq_true rfl) dX11_told_1 (fun r1 H => ?_) ⟨Nat.zero_le _, Nat.zero_le _⟩
  refine w_if_ne K 10 dX11_told_4 (by decide) H (fun _ H => ?_) (fun _ H => ?_)
  · refine r_aload_n K 0 dX11_told_10 rfl rfl ?_
    refine w_getO K vc11 inX11 3 (by decide) mF_RX11_35 dX11_told_11 H (fun x2 H => ?_)
    refine w_getO K vc3 inX3 1 (by decide) mF_RX11_255 dX11_told_14 H (fun x3 H => ?_)
    refine r_iload_n K 1 dX11_told_17 rfl rfl ?_
    refine w_aald K 24 rfl rfl dX11_told_18 H (fun x4 H => ?_)
    refine r_astore K [(4, .ref _), (0, .ref _), (1, .int _), (2, .int _), (3, .int _)] dX11_told_19 (by decide) rfl ?_
    refine r_aload K 0 dX11_told_21 rfl ?_
    refine w_getI K vc10 inX10 0 (by decide) mF_RX11_263 dX11_told_23 H (fun x5 H => ?_)
    refine w_if_ne K 32 dX11_told_26 (by decide) H (fun _ H => ?_) (fun _ H => ?_)
    · refine r_iload_n K 4 dX11_told_32 rfl rfl ?_
      refine r_iconst (v := -1) K dX11_told_33 (by decide) ?_
      refine w_icmp_ne K 43 dX11_told_34 (by decide) H (fun _ H => ?_) (fun _ H => ?_)
      · refine r_aload K 0 dX11_told_43 rfl ?_
        refine r_iload_n K 3 dX11_told_45 rfl rfl ?_
        refine r_iload_n K 4 dX11_told_46 rfl rfl ?_
        refine w_callV K hl H (fun r h => c_X10_hasNumber l h) mC_yX10_hasNumber mM_RX11_270 mI_yX10_hasNumber mS_yX10_hasNumber mZ_RX10 vc10 (Nat.le_of_ble_eq_true rfl) (Nat.le_of_ble_eq_true rfl) np_yX10_hasNumber rfl (Nat.le_of_ble_eq_true rfl) dX11_told_47 (fun r6 H => ?_) ⟨Nat.zero_le _, Nat.zero_le _⟩
        refine w_if_eq K 63 dX11_told_50 (by decide) H (fun _ H => ?_) (fun _ H => ?_)
        · refine r_bipush (v := -99) K dX11_told_63 (by decide) ?_
          exact r_sub [] rfl (t_X11_told_65 K hl H D)
        · refine r_aload K 0 dX11_told_53 rfl ?_
          refine r_iload_n K 3 dX11_told_55 rfl rfl ?_
          refine r_iload_n K 4 dX11_told_56 rfl rfl ?_
          refine w_callV K hl H (fun r h => c_X10_numberAt l h) mC_yX10_numberAt mM_RX11_277 mI_yX10_numberAt mS_yX10_numberAt mZ_RX10 vc10 (Nat.le_of_ble_eq_true rfl) (Nat.le_of_ble_eq_true rfl) np_yX10_numberAt rfl (Nat.le_of_ble_eq_true rfl) dX11_told_57 (fun r7 H => ?_) ⟨Nat.zero_le _, Nat.zero_le _⟩
          refine r_goto K 65 dX11_told_60 (by decide) ?_
          exact r_sub [] rfl (t_X11_told_65 K hl H D)
      · refine r_aload K 0 dX11_told_37 rfl ?_
        refine w_getI K vc10 inX10 0 (by decide) mF_RX11_263 dX11_told_39 H (fun x8 H => ?_)
        cases H
        obtain ⟨rfl, rfl⟩ := jfin2 D
        exact r_iret K dX11_told_42
    · refine r_bipush (v := -100) K dX11_told_29 (by decide) ?_
      cases H
      obtain ⟨rfl, rfl⟩ := jfin2 D
      exact r_iret K dX11_told_31
  · refine r_bipush (v := -99) K dX11_told_7 (by decide) ?_
    cases H
    obtain ⟨rfl, rfl⟩ := jfin2 D
    exact r_iret K dX11_told_9
theorem c_X11_told (l : Launch) {n : Nat} {Y : jY} {v0 : Nat} {v1 : Int32} {v2 : Int32} {v3 : Int32} {μ : jM} {z : Int32 × jM} (H : f_X11_told Y v0 v1 v2 v3 μ = some z) : jC l yX11_told cX11_told 5 (some .int) 3 0 0 [.ref v0, .int v1, .int v2, .int v3] n Y μ n Y (some (.int z.1)) z.2 := by
  refine jC_of (by decide +kernel) (Nat.le_of_ble_eq_true rfl) (fun X hl K _ _ _ => ?_)
  obtain ⟨rr, μr⟩ := z
  exact t_X11_told_0 K hl H rfl
/-! RX11 would(IZIII)J -/
def b_X11_would_55 (Y : jY) (μ : jM) : Option (Int64 × jM) :=
  some ((-9223372036854775808 : Int64), μ)
def f_X11_would (Y : jY) (v0 : Nat) (v1 : Int32) (v2 : Int32) (v3 : Int32) (v4 : Int32) (v5 : Int32) (μ : jM) : Option (Int64 × jM) :=
  (jrcv Y v0 11 (f_X11_isFilled Y v0 v1 μ)).bind fun r1 =>
  if r1.1 = 0 then
    b_X11_would_55 Y r1.2
  else
    (jgO Y r1.2 v0 11 3).bind fun x2 =>
    (jgO Y r1.2 x2 3 1).bind fun x3 =>
    (jaO Y r1.2 x3 24 v1).bind fun x4 =>
    (jrcv Y x4 10 (f_X10_hasNumber Y x4 v2 v3 r1.2)).bind fun r5 =>
    if r5.1 = 0 then
      b_X11_would_55 Y r5.2
    else
      (f_X10_canBe Y v2 v4 r5.2).bind fun r6 =>
      if r6.1 = 0 then
        b_X11_would_55 Y r6.2
      else
        (jgO Y r6.2 v0 11 3).bind fun x7 =>
        (jgO Y r6.2 x7 3 1).bind fun x8 =>
        (jaO Y r6.2 x8 24 v1).bind fun x9 =>
        (jgI Y r6.2 x9 10 0).bind fun x10 =>
        (f_X11_within Y v5 ((0 : Int32)) x10 r6.2).bind fun r11 =>
        if r11.1 = 0 then
          b_X11_would_55 Y r11.2
        else
          (jgO Y r11.2 v0 11 10).bind fun x12 =>
          (jgO Y r11.2 v0 11 3).bind fun x13 =>
          (jgO Y r11.2 x13 3 1).bind fun x14 =>
          (jaO Y r11.2 x14 24 v1).bind fun x15 =>
          (jrcv Y x12 10 (f_X10_copy Y x12 x15 r11.2)).bind fun μ16 =>
          (jgO Y μ16 v0 11 10).bind fun x17 =>
          (jrcv Y x17 10 (f_X10_setNumber Y x17 v2 v3 v4 μ16)).bind fun μ18 =>
          (jgO Y μ18 v0 11 9).bind fun x19 =>
          (jgO Y μ18 v0 11 10).bind fun x20 =>
          (jrcv Y x19 4 (f_X4_multiplyOut Y x19 x20 μ18)).bind fun μ21 =>
          (jgO Y μ21 v0 11 9).bind fun x22 =>
          (jgO Y μ21 x22 4 0).bind fun x23 =>
          (jgO Y μ21 v0 11 10).bind fun x24 =>
          (jgI Y μ21 x24 10 0).bind fun x25 =>
          (jaO Y μ21 x23 26 x25).bind fun x26 =>
          (jaL Y μ21 x26 21 v5).bind fun x27 =>
          some (x27, μ21)
set_option maxRecDepth 10000 in
theorem t_X11_would_55 {X : jX} {l : Launch} {n : Nat} {Y : jY} (K : jOK X RX11 cX11_would 6 (some .long) 4) (hl : X.2.1 = l) {rr : Int64} {μr : jM} {μ : jM} {z : (Int64 × jM)} (H : b_X11_would_55 Y μ = some z) (D : z = (rr, μr)) : JW X (jEnd X n Y (some (.long rr)) μr 0 0) 0 0 n Y 55 [] [] μ := by
  unfold b_X11_would_55 at H
  refine r_ldc2 K (-9223372036854775808) mc_RX11_151 dX11_would_55 ?_
  cases H
  obtain ⟨rfl, rfl⟩ := jfin2 D
  exact r_lret K dX11_would_58
set_option maxRecDepth 10000 in
theorem t_X11_would_0 {X : jX} {l : Launch} {n : Nat} {Y : jY} (K : jOK X RX11 cX11_would 6 (some .long) 4) (hl : X.2.1 = l) {rr : Int64} {μr : jM} {v0 : Nat} {v1 : Int32} {v2 : Int32} {v3 : Int32} {v4 : Int32} {v5 : Int32} {μ : jM} {z : (Int64 × jM)} (H : f_X11_would Y v0 v1 v2 v3 v4 v5 μ = some z) (D : z = (rr, μr)) : JW X (jEnd X n Y (some (.long rr)) μr 0 0) 0 0 n Y 0 [(0, .ref v0), (1, .int v1), (2, .int v2), (3, .int v3), (4, .int v4), (5, .int v5)] [] μ := by
  unfold f_X11_would at H
  refine r_aload_n K 0 dX11_would_0 rfl rfl ?_
  refine r_iload_n K 1 dX11_would_1 rfl rfl ?_
  refine w_callV K hl H (fun r h => c_X11_isFilled l h) mC_yX11_isFilled mM_RX11_285 mI_yX11_isFilled mS_yX11_isFilled mZ_RX11 vc11 (Nat.le_of_ble_eq_true rfl) (Nat.le_of_ble_eq_true rfl) np_yX11_isFilled rfl (Nat.le_of_ble_eq_true rfl) dX11_would_2 (fun r1 H => ?_) ⟨Nat.zero_le _, Nat.zero_le _⟩
  refine w_if_eq K 55 dX11_would_5 (by decide) H (fun _ H => ?_) (fun _ H => ?_)
  · exact r_sub [] rfl (t_X11_would_55 K hl H D)
  · refine r_aload_n K 0 dX11_would_8 rfl rfl ?_
    refine w_getO K vc11 inX11 3 (by decide) mF_RX11_35 dX11_would_9 H (fun x2 H => ?_)
    refine w_getO K vc3 inX3 1 (by decide) mF_RX11_255 dX11_would_12 H (fun x3 H => ?_)
    refine r_iload_n K 1 dX11_would_15 rfl rfl ?_
    refine w_aald K 24 rfl rfl dX11_would_16 H (fun x4 H => ?_)
    refine r_iload_n K 2 dX11_would_17 rfl rfl ?_
    refine r_iload_n K 3 dX11_would_18 rfl rfl ?_
    refine w_callV K hl H (fun r h => c_X10_hasNumber l h) mC_yX10_hasNumber mM_RX11_270 mI_yX10_hasNumber mS_yX10_hasNumber mZ_RX10 vc10 (Nat.le_of_ble_eq_true rfl) (Nat.le_of_ble_eq_true rfl) np_yX10_hasNumber rfl (Nat.le_of_ble_eq_true rfl) dX11_would_19 (fun r5 H => ?_) ⟨Nat.zero_le _, Nat.zero_le _⟩
    refine w_if_eq K 55 dX11_would_22 (by decide) H (fun _ H => ?_) (fun _ H => ?_)
    · exact r_sub [] rfl (t_X11_would_55 K hl H D)
    · refine r_iload_n K 2 dX11_would_25 rfl rfl ?_
      refine r_iload K 4 dX11_would_26 rfl ?_
      refine w_callS K hl H (fun r h => c_X10_canBe l h) mC_yX10_canBe mM_RX11_274 mT_yX10_canBe mZ_RX10 (Nat.le_of_ble_eq_true rfl) (Nat.le_of_ble_eq_true rfl) np_yX10_canBe rfl (Nat.le_of_ble_eq_true rfl) dX11_would_28 (fun r6 H => ?_) ⟨Nat.zero_le _, Nat.zero_le _⟩
      refine w_if_eq K 55 dX11_would_31 (by decide) H (fun _ H => ?_) (fun _ H => ?_)
      · exact r_sub [] rfl (t_X11_would_55 K hl H D)
      · refine r_iload K 5 dX11_would_34 rfl ?_
        refine r_iconst (v := 0) K dX11_would_36 (by decide) ?_
        refine r_aload_n K 0 dX11_would_37 rfl rfl ?_
        refine w_getO K vc11 inX11 3 (by decide) mF_RX11_35 dX11_would_38 H (fun x7 H => ?_)
        refine w_getO K vc3 inX3 1 (by decide) mF_RX11_255 dX11_would_41 H (fun x8 H => ?_)
        refine r_iload_n K 1 dX11_would_44 rfl rfl ?_
        refine w_aald K 24 rfl rfl dX11_would_45 H (fun x9 H => ?_)
        refine w_getI K vc10 inX10 0 (by decide) mF_RX11_263 dX11_would_46 H (fun x10 H => ?_)
        refine w_callS K hl H (fun r h => c_X11_within l h) mC_yX11_within mM_RX11_133 mT_yX11_within mZ_RX11 (Nat.le_of_ble_eq_true rfl) (Nat.le_of_ble_eq_true rfl) np_yX11_within rfl (Nat.le_of_ble_eq_true rfl) dX11_would_49 (fun r11 H => ?_) ⟨Nat.zero_le _, Nat.zero_le _⟩
        refine w_if_ne K 59 dX11_would_52 (by decide) H (fun _ H => ?_) (fun _ H => ?_)
        · refine r_aload_n K 0 dX11_would_59 rfl rfl ?_
          refine w_getO K vc11 inX11 10 (by decide) mF_RX11_80 dX11_would_60 H (fun x12 H => ?_)
          refine r_aload_n K 0 dX11_would_63 rfl rfl ?_
          refine w_getO K vc11 inX11 3 (by decide) mF_RX11_35 dX11_would_64 H (fun x13 H => ?_)
          refine w_getO K vc3 inX3 1 (by decide) mF_RX11_255 dX11_would_67 H (fun x14 H => ?_)
          refine r_iload_n K 1 dX11_would_70 rfl rfl ?_
          refine w_aald K 24 rfl rfl dX11_would_71 H (fun x15 H => ?_)
          refine w_callV K hl H (fun r h => c_X10_copy l h) mC_yX10_copy mM_RX11_337 mI_yX10_copy mS_yX10_copy mZ_RX10 vc10 (Nat.le_of_ble_eq_true rfl) (Nat.le_of_ble_eq_true rfl) np_yX10_copy rfl (Nat.le_of_ble_eq_true rfl) dX11_would_72 (fun μ16 H => ?_) ⟨Nat.zero_le _, Nat.zero_le _⟩
          refine r_aload_n K 0 dX11_would_75 rfl rfl ?_
          refine w_getO K vc11 inX11 10 (by decide) mF_RX11_80 dX11_would_76 H (fun x17 H => ?_)
          refine r_iload_n K 2 dX11_would_79 rfl rfl ?_
          refine r_iload_n K 3 dX11_would_80 rfl rfl ?_
          refine r_iload K 4 dX11_would_81 rfl ?_
          refine w_callV K hl H (fun r h => c_X10_setNumber l h) mC_yX10_setNumber mM_RX11_281 mI_yX10_setNumber mS_yX10_setNumber mZ_RX10 vc10 (Nat.le_of_ble_eq_true rfl) (Nat.le_of_ble_eq_true rfl) np_yX10_setNumber rfl (Nat.le_of_ble_eq_true rfl) dX11_would_83 (fun μ18 H => ?_) ⟨Nat.zero_le _, Nat.zero_le _⟩
          refine r_aload_n K 0 dX11_would_86 rfl rfl ?_
          refine w_getO K vc11 inX11 9 (by decide) mF_RX11_73 dX11_would_87 H (fun x19 H => ?_)
          refine r_aload_n K 0 dX11_would_90 rfl rfl ?_
          refine w_getO K vc11 inX11 10 (by decide) mF_RX11_80 dX11_would_91 H (fun x20 H => ?_)
          refine w_callV K hl H (fun r h => c_X4_multiplyOut l h) mC_yX4_multiplyOut mM_RX11_288 mI_yX4_multiplyOut mS_yX4_multiplyOut mZ_RX4 vc4 (Nat.le_of_ble_eq_true rfl) (Nat.le_of_ble_eq_true rfl) np_yX4_multiplyOut rfl (Nat.le_of_ble_eq_true rfl) dX11_would_94 (fun μ21 H => ?_) ⟨Nat.zero_le _, Nat.zero_le _⟩
          refine r_aload_n K 0 dX11_would_97 rfl rfl ?_
          refine w_getO K vc11 inX11 9 (by decide) mF_RX11_73 dX11_would_98 H (fun x22 H => ?_)
          refine w_getO K vc4 inX4 0 (by decide) mF_RX11_292 dX11_would_101 H (fun x23 H => ?_)
          refine r_aload_n K 0 dX11_would_104 rfl rfl ?_
          refine w_getO K vc11 inX11 10 (by decide) mF_RX11_80 dX11_would_105 H (fun x24 H => ?_)
          refine w_getI K vc10 inX10 0 (by decide) mF_RX11_263 dX11_would_108 H (fun x25 H => ?_)
          refine w_aald K 26 rfl rfl dX11_would_111 H (fun x26 H => ?_)
          refine r_iload K 5 dX11_would_112 rfl ?_
          refine w_lald K dX11_would_114 H (fun x27 H => ?_)
          cases H
          obtain ⟨rfl, rfl⟩ := jfin2 D
          exact r_lret K dX11_would_115
        · exact r_sub [] rfl (t_X11_would_55 K hl H D)
theorem c_X11_would (l : Launch) {n : Nat} {Y : jY} {v0 : Nat} {v1 : Int32} {v2 : Int32} {v3 : Int32} {v4 : Int32} {v5 : Int32} {μ : jM} {z : Int64 × jM} (H : f_X11_would Y v0 v1 v2 v3 v4 v5 μ = some z) : jC l yX11_would cX11_would 6 (some .long) 4 0 0 [.ref v0, .int v1, .int v2, .int v3, .int v4, .int v5] n Y μ n Y (some (.long z.1)) z.2 := by
  refine jC_of (by decide +kernel) (Nat.le_of_ble_eq_true rfl) (fun X hl K _ _ _ => ?_)
  obtain ⟨rr, μr⟩ := z
  exact t_X11_would_0 K hl H rfl
/-! RX11 hasTones()Z -/
def b_X11_hasTones_18 (Y : jY) (t0 : Int32) (μ : jM) : Option (Int32 × jM) :=
  (jbool t0).bind fun x1 =>
  some (x1, μ)
def f_X11_hasTones (Y : jY) (v0 : Nat) (μ : jM) : Option (Int32 × jM) :=
  (jgO Y μ v0 11 3).bind fun x1 =>
  (jgO Y μ x1 3 0).bind fun x2 =>
  (jgI Y μ x2 9 0).bind fun x3 =>
  if x3 ≤ 0 then
    b_X11_hasTones_18 Y (0 : Int32) μ
  else
    b_X11_hasTones_18 Y (1 : Int32) μ
set_option maxRecDepth 10000 in
theorem t_X11_hasTones_18 {X : jX} {l : Launch} {n : Nat} {Y : jY} (K : jOK X RX11 cX11_hasTones 1 (some .boolean) 1) (hl : X.2.1 = l) {rr : Int32} {μr : jM} {t0 : Int32} {μ : jM} {z : (Int32 × jM)} (H : b_X11_hasTones_18 Y t0 μ = some z) (D : z = (rr, μr)) : JW X (jEnd X n Y (some (.int rr)) μr 0 0) 0 0 n Y 18 [] [.int t0] μ := by
  unfold b_X11_hasTones_18 at H
  refine w_zret K dX11_hasTones_18 H (fun hz H => ?_)
  cases H
  obtain ⟨rfl, rfl⟩ := jfin2 D
  exact r_zret K hz dX11_hasTones_18
set_option maxRecDepth 10000 in
theorem t_X11_hasTones_0 {X : jX} {l : Launch} {n : Nat} {Y : jY} (K : jOK X RX11 cX11_hasTones 1 (some .boolean) 1) (hl : X.2.1 = l) {rr : Int32} {μr : jM} {v0 : Nat} {μ : jM} {z : (Int32 × jM)} (H : f_X11_hasTones Y v0 μ = some z) (D : z = (rr, μr)) : JW X (jEnd X n Y (some (.int rr)) μr 0 0) 0 0 n Y 0 [(0, .ref v0)] [] μ := by
  unfold f_X11_hasTones at H
  refine r_aload_n K 0 dX11_hasTones_0 rfl rfl ?_
  refine w_getO K vc11 inX11 3 (by decide) mF_RX11_35 dX11_hasTones_1 H (fun x1 H => ?_)
  refine w_getO K vc3 inX3 0 (by decide) mF_RX11_119 dX11_hasTones_4 H (fun x2 H => ?_)
  refine w_getI K vc9 inX9 0 (by decide) mF_RX11_126 dX11_hasTones_7 H (fun x3 H => ?_)
  refine w_if_le K 17 dX11_hasTones_10 (by decide) H (fun _ H => ?_) (fun _ H => ?_)
  · refine r_iconst (v := 0) K dX11_hasTones_17 (by decide) ?_
    exact r_sub [] rfl (t_X11_hasTones_18 K hl H D)
  · refine r_iconst (v := 1) K dX11_hasTones_13 (by decide) ?_
    refine r_goto K 18 dX11_hasTones_14 (by decide) ?_
    exact r_sub [] rfl (t_X11_hasTones_18 K hl H D)
theorem c_X11_hasTones (l : Launch) {n : Nat} {Y : jY} {v0 : Nat} {μ : jM} {z : Int32 × jM} (H : f_X11_hasTones Y v0 μ = some z) : jC l yX11_hasTones cX11_hasTones 1 (some .boolean) 1 0 0 [.ref v0] n Y μ n Y (some (.int z.1)) z.2 := by
  refine jC_of (by decide +kernel) (Nat.le_of_ble_eq_true rfl) (fun X hl K _ _ _ => ?_)
  obtain ⟨rr, μr⟩ := z
  exact t_X11_hasTones_0 K hl H rfl
/-! RX11 moment(I)J -/
def b_X11_moment_17 (Y : jY) (μ : jM) : Option (Int64 × jM) :=
  some ((-9223372036854775808 : Int64), μ)
def f_X11_moment (Y : jY) (v0 : Nat) (v1 : Int32) (μ : jM) : Option (Int64 × jM) :=
  (jrcv Y v0 11 (f_X11_hasTones Y v0 μ)).bind fun r1 =>
  if r1.1 = 0 then
    b_X11_moment_17 Y r1.2
  else
    (f_X11_within Y v1 ((0 : Int32)) ((7 : Int32)) r1.2).bind fun r2 =>
    if r2.1 = 0 then
      b_X11_moment_17 Y r2.2
    else
      (jgO Y r2.2 v0 11 6).bind fun x3 =>
      (jgO Y r2.2 v0 11 3).bind fun x4 =>
      (jgO Y r2.2 x4 3 0).bind fun x5 =>
      (jrcv Y x3 7 (f_X7_rebuild Y x3 x5 r2.2)).bind fun μ6 =>
      (jgO Y μ6 v0 11 6).bind fun x7 =>
      (jgO Y μ6 x7 7 3).bind fun x8 =>
      (jaL Y μ6 x8 21 v1).bind fun x9 =>
      some (x9, μ6)
set_option maxRecDepth 10000 in
theorem t_X11_moment_17 {X : jX} {l : Launch} {n : Nat} {Y : jY} (K : jOK X RX11 cX11_moment 2 (some .long) 3) (hl : X.2.1 = l) {rr : Int64} {μr : jM} {μ : jM} {z : (Int64 × jM)} (H : b_X11_moment_17 Y μ = some z) (D : z = (rr, μr)) : JW X (jEnd X n Y (some (.long rr)) μr 0 0) 0 0 n Y 17 [] [] μ := by
  unfold b_X11_moment_17 at H
  refine r_ldc2 K (-9223372036854775808) mc_RX11_151 dX11_moment_17 ?_
  cases H
  obtain ⟨rfl, rfl⟩ := jfin2 D
  exact r_lret K dX11_moment_20
set_option maxRecDepth 10000 in
theorem t_X11_moment_0 {X : jX} {l : Launch} {n : Nat} {Y : jY} (K : jOK X RX11 cX11_moment 2 (some .long) 3) (hl : X.2.1 = l) {rr : Int64} {μr : jM} {v0 : Nat} {v1 : Int32} {μ : jM} {z : (Int64 × jM)} (H : f_X11_moment Y v0 v1 μ = some z) (D : z = (rr, μr)) : JW X (jEnd X n Y (some (.long rr)) μr 0 0) 0 0 n Y 0 [(0, .ref v0), (1, .int v1)] [] μ := by
  unfold f_X11_moment at H
  refine r_aload_n K 0 dX11_moment_0 rfl rfl ?_
  refine w_callV K hl H (fun r h => c_X11_hasTones l h) mC_yX11_hasTones mM_RX11_147 mI_yX11_hasTones mS_yX11_hasTones mZ_RX11 vc11 (Nat.le_of_ble_eq_true rfl) (Nat.le_of_ble_eq_true rfl) np_yX11_hasTones rfl (Nat.le_of_ble_eq_true rfl) dX11_moment_1 (fun r1 H => ?_) ⟨Nat.zero_le _, Nat.zero_le _⟩
  refine w_if_eq K 17 dX11_moment_4 (by decide) H (fun _ H => ?_) (fun _ H => ?_)
  · exact r_sub [] rfl (t_X11_moment_17 K hl H D)
  · refine r_iload_n K 1 dX11_moment_7 rfl rfl ?_
    refine r_iconst (v := 0) K dX11_moment_8 (by decide) ?_
    refine r_bipush (v := 7) K dX11_moment_9 (by decide) ?_
    refine w_callS K hl H (fun r h => c_X11_within l h) mC_yX11_within mM_RX11_133 mT_yX11_within mZ_RX11 (Nat.le_of_ble_eq_true rfl) (Nat.le_of_ble_eq_true rfl) np_yX11_within rfl (Nat.le_of_ble_eq_true rfl) dX11_moment_11 (fun r2 H => ?_) ⟨Nat.zero_le _, Nat.zero_le _⟩
    refine w_if_ne K 21 dX11_moment_14 (by decide) H (fun _ H => ?_) (fun _ H => ?_)
    · refine r_aload_n K 0 dX11_moment_21 rfl rfl ?_
      refine w_getO K vc11 inX11 6 (by decide) mF_RX11_50 dX11_moment_22 H (fun x3 H => ?_)
      refine r_aload_n K 0 dX11_moment_25 rfl rfl ?_
      refine w_getO K vc11 inX11 3 (by decide) mF_RX11_35 dX11_moment_26 H (fun x4 H => ?_)
      refine w_getO K vc3 inX3 0 (by decide) mF_RX11_119 dX11_moment_29 H (fun x5 H => ?_)
      refine w_callV K hl H (fun r h => c_X7_rebuild l h) mC_yX7_rebuild mM_RX11_153 mI_yX7_rebuild mS_yX7_rebuild mZ_RX7 vc7 (Nat.le_of_ble_eq_true rfl) (Nat.le_of_ble_eq_true rfl) np_yX7_rebuild rfl (Nat.le_of_ble_eq_true rfl) dX11_moment_32 (fun μ6 H => ?_) ⟨Nat.zero_le _, Nat.zero_le _⟩
      refine r_aload_n K 0 dX11_moment_35 rfl rfl ?_
      refine w_getO K vc11 inX11 6 (by decide) mF_RX11_50 dX11_moment_36 H (fun x7 H => ?_)
      refine w_getO K vc7 inX7 3 (by decide) mF_RX11_164 dX11_moment_39 H (fun x8 H => ?_)
      refine r_iload_n K 1 dX11_moment_42 rfl rfl ?_
      refine w_lald K dX11_moment_43 H (fun x9 H => ?_)
      cases H
      obtain ⟨rfl, rfl⟩ := jfin2 D
      exact r_lret K dX11_moment_44
    · exact r_sub [] rfl (t_X11_moment_17 K hl H D)
theorem c_X11_moment (l : Launch) {n : Nat} {Y : jY} {v0 : Nat} {v1 : Int32} {μ : jM} {z : Int64 × jM} (H : f_X11_moment Y v0 v1 μ = some z) : jC l yX11_moment cX11_moment 2 (some .long) 3 0 0 [.ref v0, .int v1] n Y μ n Y (some (.long z.1)) z.2 := by
  refine jC_of (by decide +kernel) (Nat.le_of_ble_eq_true rfl) (fun X hl K _ _ _ => ?_)
  obtain ⟨rr, μr⟩ := z
  exact t_X11_moment_0 K hl H rfl
/-! RX11 feed(IIIII)I -/
def f_X11_feed (Y : jY) (v0 : Nat) (v1 : Int32) (v2 : Int32) (v3 : Int32) (v4 : Int32) (v5 : Int32) (μ : jM) : Option (Int32 × jM) :=
  (jgO Y μ v0 11 0).bind fun x1 =>
  (jrcv Y x1 5 (f_X5_hasRoomForInts Y x1 ((5 : Int32)) μ)).bind fun r2 =>
  if r2.1 = 0 then
    some ((-1 : Int32), r2.2)
  else
    (jgO Y r2.2 v0 11 0).bind fun x3 =>
    (jrcv Y x3 5 (f_X5_add Y x3 v1 r2.2)).bind fun μ4 =>
    (jgO Y μ4 v0 11 0).bind fun x5 =>
    (jrcv Y x5 5 (f_X5_add Y x5 v2 μ4)).bind fun μ6 =>
    (jgO Y μ6 v0 11 0).bind fun x7 =>
    (jrcv Y x7 5 (f_X5_add Y x7 v3 μ6)).bind fun μ8 =>
    (jgO Y μ8 v0 11 0).bind fun x9 =>
    (jrcv Y x9 5 (f_X5_add Y x9 v4 μ8)).bind fun μ10 =>
    (jgO Y μ10 v0 11 0).bind fun x11 =>
    (jrcv Y x11 5 (f_X5_add Y x11 v5 μ10)).bind fun μ12 =>
    (jgO Y μ12 v0 11 0).bind fun x13 =>
    (jgI Y μ12 x13 5 1).bind fun x14 =>
    some (x14, μ12)
set_option maxRecDepth 10000 in
theorem t_X11_feed_0 {X : jX} {l : Launch} {n : Nat} {Y : jY} (K : jOK X RX11 cX11_feed 6 (some .int) 2) (hl : X.2.1 = l) {rr : Int32} {μr : jM} {v0 : Nat} {v1 : Int32} {v2 : Int32} {v3 : Int32} {v4 : Int32} {v5 : Int32} {μ : jM} {z : (Int32 × jM)} (H : f_X11_feed Y v0 v1 v2 v3 v4 v5 μ = some z) (D : z = (rr, μr)) : JW X (jEnd X n Y (some (.int rr)) μr 0 0) 0 0 n Y 0 [(0, .ref v0), (1, .int v1), (2, .int v2), (3, .int v3), (4, .int v4), (5, .int v5)] [] μ := by
  unfold f_X11_feed at H
  refine r_aload_n K 0 dX11_feed_0 rfl rfl ?_
  refine w_getO K vc11 inX11 0 (by decide) mF_RX11_12 dX11_feed_1 H (fun x1 H => ?_)
  refine r_iconst (v := 5) K dX11_feed_4 (by decide) ?_
  refine w_callV K hl H (fun r h => c_X5_hasRoomForInts l h) mC_yX5_hasRoomForInts mM_RX11_98 mI_yX5_hasRoomForInts mS_yX5_hasRoomForInts mZ_RX5 vc5 (Nat.le_of_ble_eq_true rfl) (Nat.le_of_ble_eq_true rfl) np_yX5_hasRoomForInts rfl (Nat.le_of_ble_eq_true rfl) dX11_feed_5 (fun r2 H => ?_) ⟨Nat.zero_le _, Nat.zero_le _⟩
  refine w_if_ne K 13 dX11_feed_8 (by decide) H (fun _ H => ?_) (fun _ H => ?_)
  · refine r_aload_n K 0 dX11_feed_13 rfl rfl ?_
    refine w_getO K vc11 inX11 0 (by decide) mF_RX11_12 dX11_feed_14 H (fun x3 H => ?_)
    refine r_iload_n K 1 dX11_feed_17 rfl rfl ?_
    refine w_callV K hl H (fun r h => c_X5_add l h) mC_yX5_add mM_RX11_102 mI_yX5_add mS_yX5_add mZ_RX5 vc5 (Nat.le_of_ble_eq_true rfl) (Nat.le_of_ble_eq_true rfl) np_yX5_add rfl (Nat.le_of_ble_eq_true rfl) dX11_feed_18 (fun μ4 H => ?_) ⟨Nat.zero_le _, Nat.zero_le _⟩
    refine r_aload_n K 0 dX11_feed_21 rfl rfl ?_
    refine w_getO K vc11 inX11 0 (by decide) mF_RX11_12 dX11_feed_22 H (fun x5 H => ?_)
    refine r_iload_n K 2 dX11_feed_25 rfl rfl ?_
    refine w_callV K hl H (fun r h => c_X5_add l h) mC_yX5_add mM_RX11_102 mI_yX5_add mS_yX5_add mZ_RX5 vc5 (Nat.le_of_ble_eq_true rfl) (Nat.le_of_ble_eq_true rfl) np_yX5_add rfl (Nat.le_of_ble_eq_true rfl) dX11_feed_26 (fun μ6 H => ?_) ⟨Nat.zero_le _, Nat.zero_le _⟩
    refine r_aload_n K 0 dX11_feed_29 rfl rfl ?_
    refine w_getO K vc11 inX11 0 (by decide) mF_RX11_12 dX11_feed_30 H (fun x7 H => ?_)
    refine r_iload_n K 3 dX11_feed_33 rfl rfl ?_
    refine w_callV K hl H (fun r h => c_X5_add l h) mC_yX5_add mM_RX11_102 mI_yX5_add mS_yX5_add mZ_RX5 vc5 (Nat.le_of_ble_eq_true rfl) (Nat.le_of_ble_eq_true rfl) np_yX5_add rfl (Nat.le_of_ble_eq_true rfl) dX11_feed_34 (fun μ8 H => ?_) ⟨Nat.zero_le _, Nat.zero_le _⟩
    refine r_aload_n K 0 dX11_feed_37 rfl rfl ?_
    refine w_getO K vc11 inX11 0 (by decide) mF_RX11_12 dX11_feed_38 H (fun x9 H => ?_)
    refine r_iload K 4 dX11_feed_41 rfl ?_
    refine w_callV K hl H (fun r h => c_X5_add l h) mC_yX5_add mM_RX11_102 mI_yX5_add mS_yX5_add mZ_RX5 vc5 (Nat.le_of_ble_eq_true rfl) (Nat.le_of_ble_eq_true rfl) np_yX5_add rfl (Nat.le_of_ble_eq_true rfl) dX11_feed_43 (fun μ10 H => ?_) ⟨Nat.zero_le _, Nat.zero_le _⟩
    refine r_aload_n K 0 dX11_feed_46 rfl rfl ?_
    refine w_getO K vc11 inX11 0 (by decide) mF_RX11_12 dX11_feed_47 H (fun x11 H => ?_)
    refine r_iload K 5 dX11_feed_50 rfl ?_
    refine w_callV K hl H (fun r h => c_X5_add l h) mC_yX5_add mM_RX11_102 mI_yX5_add mS_yX5_add mZ_RX5 vc5 (Nat.le_of_ble_eq_true rfl) (Nat.le_of_ble_eq_true rfl) np_yX5_add rfl (Nat.le_of_ble_eq_true rfl) dX11_feed_52 (fun μ12 H => ?_) ⟨Nat.zero_le _, Nat.zero_le _⟩
    refine r_aload_n K 0 dX11_feed_55 rfl rfl ?_
    refine w_getO K vc11 inX11 0 (by decide) mF_RX11_12 dX11_feed_56 H (fun x13 H => ?_)
    refine w_getI K vc5 inX5 1 (by decide) mF_RX11_106 dX11_feed_59 H (fun x14 H => ?_)
    cases H
    obtain ⟨rfl, rfl⟩ := jfin2 D
    exact r_iret K dX11_feed_62
  · refine r_iconst (v := -1) K dX11_feed_11 (by decide) ?_
    cases H
    obtain ⟨rfl, rfl⟩ := jfin2 D
    exact r_iret K dX11_feed_12
theorem c_X11_feed (l : Launch) {n : Nat} {Y : jY} {v0 : Nat} {v1 : Int32} {v2 : Int32} {v3 : Int32} {v4 : Int32} {v5 : Int32} {μ : jM} {z : Int32 × jM} (H : f_X11_feed Y v0 v1 v2 v3 v4 v5 μ = some z) : jC l yX11_feed cX11_feed 6 (some .int) 2 0 0 [.ref v0, .int v1, .int v2, .int v3, .int v4, .int v5] n Y μ n Y (some (.int z.1)) z.2 := by
  refine jC_of (by decide +kernel) (Nat.le_of_ble_eq_true rfl) (fun X hl K _ _ _ => ?_)
  obtain ⟨rr, μr⟩ := z
  exact t_X11_feed_0 K hl H rfl
/-! RX11 count(I)I -/
def f_X11_count (Y : jY) (v0 : Nat) (v1 : Int32) (μ : jM) : Option (Int32 × jM) :=
  if v1 = 0 then
    (jgO Y μ v0 11 3).bind fun x22 =>
    (jgO Y μ x22 3 0).bind fun x23 =>
    (jgI Y μ x23 9 0).bind fun x24 =>
    some (x24, μ)
  else
    if v1 = ((1 : Int32)) then
      (jgO Y μ v0 11 3).bind fun x20 =>
      (jrcv Y x20 3 (f_X3_filledDrawers Y x20 μ)).bind fun r21 =>
      some (r21.1, r21.2)
    else
      if v1 = ((2 : Int32)) then
        (jgO Y μ v0 11 0).bind fun x18 =>
        (jgI Y μ x18 5 1).bind fun x19 =>
        some (x19, μ)
      else
        if v1 = ((3 : Int32)) then
          (jgI Y μ v0 11 5).bind fun x17 =>
          some (x17, μ)
        else
          (jgO Y μ v0 11 3).bind fun x1 =>
          (jgO Y μ x1 3 0).bind fun x2 =>
          (jgI Y μ x2 9 0).bind fun x3 =>
          (f_X11_within Y v1 ((10 : Int32)) ((((9 : Int32)) + x3)) μ).bind fun r4 =>
          if r4.1 = 0 then
            (jgO Y r4.2 v0 11 3).bind fun x5 =>
            (jgO Y r4.2 x5 3 0).bind fun x6 =>
            (jgI Y r4.2 x6 9 0).bind fun x7 =>
            (f_X11_within Y v1 ((20 : Int32)) ((((18 : Int32)) + x7)) r4.2).bind fun r8 =>
            if r8.1 = 0 then
              some ((-2147483648 : Int32), r8.2)
            else
              (jgO Y r8.2 v0 11 3).bind fun x9 =>
              (jgO Y r8.2 x9 3 0).bind fun x10 =>
              (jgO Y r8.2 x10 9 2).bind fun x11 =>
              (jaI Y r8.2 x11 20 ((v1 - ((20 : Int32))))).bind fun x12 =>
              some (x12, r8.2)
          else
            (jgO Y r4.2 v0 11 3).bind fun x13 =>
            (jgO Y r4.2 x13 3 0).bind fun x14 =>
            (jgO Y r4.2 x14 9 1).bind fun x15 =>
            (jaI Y r4.2 x15 20 ((v1 - ((10 : Int32))))).bind fun x16 =>
            some (x16, r4.2)
set_option maxRecDepth 10000 in
theorem t_X11_count_0 {X : jX} {l : Launch} {n : Nat} {Y : jY} (K : jOK X RX11 cX11_count 2 (some .int) 2) (hl : X.2.1 = l) {rr : Int32} {μr : jM} {v0 : Nat} {v1 : Int32} {μ : jM} {z : (Int32 × jM)} (H : f_X11_count Y v0 v1 μ = some z) (D : z = (rr, μr)) : JW X (jEnd X n Y (some (.int rr)) μr 0 0) 0 0 n Y 0 [(0, .ref v0), (1, .int v1)] [] μ := by
  unfold f_X11_count at H
  refine r_iload_n K 1 dX11_count_0 rfl rfl ?_
  refine w_if_ne K 15 dX11_count_1 (by decide) H (fun _ H => ?_) (fun _ H => ?_)
  · refine r_iload_n K 1 dX11_count_15 rfl rfl ?_
    refine r_iconst (v := 1) K dX11_count_16 (by decide) ?_
    refine w_icmp_ne K 28 dX11_count_17 (by decide) H (fun _ H => ?_) (fun _ H => ?_)
    · refine r_iload_n K 1 dX11_count_28 rfl rfl ?_
      refine r_iconst (v := 2) K dX11_count_29 (by decide) ?_
      refine w_icmp_ne K 41 dX11_count_30 (by decide) H (fun _ H => ?_) (fun _ H => ?_)
      · refine r_iload_n K 1 dX11_count_41 rfl rfl ?_
        refine r_iconst (v := 3) K dX11_count_42 (by decide) ?_
        refine w_icmp_ne K 51 dX11_count_43 (by decide) H (fun _ H => ?_) (fun _ H => ?_)
        · refine r_iload_n K 1 dX11_count_51 rfl rfl ?_
          refine r_bipush (v := 10) K dX11_count_52 (by decide) ?_
          refine r_bipush (v := 9) K dX11_count_54 (by decide) ?_
          refine r_aload_n K 0 dX11_count_56 rfl rfl ?_
          refine w_getO K vc11 inX11 3 (by decide) mF_RX11_35 dX11_count_57 H (fun x1 H => ?_)
          refine w_getO K vc3 inX3 0 (by decide) mF_RX11_119 dX11_count_60 H (fun x2 H => ?_)
          refine w_getI K vc9 inX9 0 (by decide) mF_RX11_126 dX11_count_63 H (fun x3 H => ?_)
          refine r_iadd K dX11_count_66 ?_
          refine w_callS K hl H (fun r h => c_X11_within l h) mC_yX11_within mM_RX11_133 mT_yX11_within mZ_RX11 (Nat.le_of_ble_eq_true rfl) (Nat.le_of_ble_eq_true rfl) np_yX11_within rfl (Nat.le_of_ble_eq_true rfl) dX11_count_67 (fun r4 H => ?_) ⟨Nat.zero_le _, Nat.zero_le _⟩
          refine w_if_eq K 89 dX11_count_70 (by decide) H (fun _ H => ?_) (fun _ H => ?_)
          · refine r_iload_n K 1 dX11_count_89 rfl rfl ?_
            refine r_bipush (v := 20) K dX11_count_90 (by decide) ?_
            refine r_bipush (v := 18) K dX11_count_92 (by decide) ?_
            refine r_aload_n K 0 dX11_count_94 rfl rfl ?_
            refine w_getO K vc11 inX11 3 (by decide) mF_RX11_35 dX11_count_95 H (fun x5 H => ?_)
            refine w_getO K vc3 inX3 0 (by decide) mF_RX11_119 dX11_count_98 H (fun x6 H => ?_)
            refine w_getI K vc9 inX9 0 (by decide) mF_RX11_126 dX11_count_101 H (fun x7 H => ?_)
            refine r_iadd K dX11_count_104 ?_
            refine w_callS K hl H (fun r h => c_X11_within l h) mC_yX11_within mM_RX11_133 mT_yX11_within mZ_RX11 (Nat.le_of_ble_eq_true rfl) (Nat.le_of_ble_eq_true rfl) np_yX11_within rfl (Nat.le_of_ble_eq_true rfl) dX11_count_105 (fun r8 H => ?_) ⟨Nat.zero_le _, Nat.zero_le _⟩
            refine w_if_eq K 127 dX11_count_108 (by decide) H (fun _ H => ?_) (fun _ H => ?_)
            · refine r_ldc K (-2147483648) mc_RX11_146 dX11_count_127 ?_
              cases H
              obtain ⟨rfl, rfl⟩ := jfin2 D
              exact r_iret K dX11_count_129
            · refine r_aload_n K 0 dX11_count_111 rfl rfl ?_
              refine w_getO K vc11 inX11 3 (by decide) mF_RX11_35 dX11_count_112 H (fun x9 H => ?_)
              refine w_getO K vc3 inX3 0 (by decide) mF_RX11_119 dX11_count_115 H (fun x10 H => ?_)
              refine w_getO K vc9 inX9 2 (by decide) mF_RX11_141 dX11_count_118 H (fun x11 H => ?_)
              refine r_iload_n K 1 dX11_count_121 rfl rfl ?_
              refine r_bipush (v := 20) K dX11_count_122 (by decide) ?_
              refine r_isub K dX11_count_124 ?_
              refine w_iald K dX11_count_125 H (fun x12 H => ?_)
              cases H
              obtain ⟨rfl, rfl⟩ := jfin2 D
              exact r_iret K dX11_count_126
          · refine r_aload_n K 0 dX11_count_73 rfl rfl ?_
            refine w_getO K vc11 inX11 3 (by decide) mF_RX11_35 dX11_count_74 H (fun x13 H => ?_)
            refine w_getO K vc3 inX3 0 (by decide) mF_RX11_119 dX11_count_77 H (fun x14 H => ?_)
            refine w_getO K vc9 inX9 1 (by decide) mF_RX11_137 dX11_count_80 H (fun x15 H => ?_)
            refine r_iload_n K 1 dX11_count_83 rfl rfl ?_
            refine r_bipush (v := 10) K dX11_count_84 (by decide) ?_
            refine r_isub K dX11_count_86 ?_
            refine w_iald K dX11_count_87 H (fun x16 H => ?_)
            cases H
            obtain ⟨rfl, rfl⟩ := jfin2 D
            exact r_iret K dX11_count_88
        · refine r_aload_n K 0 dX11_count_46 rfl rfl ?_
          refine w_getI K vc11 inX11 5 (by decide) mF_RX11_43 dX11_count_47 H (fun x17 H => ?_)
          cases H
          obtain ⟨rfl, rfl⟩ := jfin2 D
          exact r_iret K dX11_count_50
      · refine r_aload_n K 0 dX11_count_33 rfl rfl ?_
        refine w_getO K vc11 inX11 0 (by decide) mF_RX11_12 dX11_count_34 H (fun x18 H => ?_)
        refine w_getI K vc5 inX5 1 (by decide) mF_RX11_106 dX11_count_37 H (fun x19 H => ?_)
        cases H
        obtain ⟨rfl, rfl⟩ := jfin2 D
        exact r_iret K dX11_count_40
    · refine r_aload_n K 0 dX11_count_20 rfl rfl ?_
      refine w_getO K vc11 inX11 3 (by decide) mF_RX11_35 dX11_count_21 H (fun x20 H => ?_)
      refine w_callV K hl H (fun r h => c_X3_filledDrawers l h) mC_yX3_filledDrawers mM_RX11_129 mI_yX3_filledDrawers mS_yX3_filledDrawers mZ_RX3 vc3 (Nat.le_of_ble_eq_true rfl) (Nat.le_of_ble_eq_true rfl) np_yX3_filledDrawers rfl (Nat.le_of_ble_eq_true rfl) dX11_count_24 (fun r21 H => ?_) ⟨Nat.zero_le _, Nat.zero_le _⟩
      cases H
      obtain ⟨rfl, rfl⟩ := jfin2 D
      exact r_iret K dX11_count_27
  · refine r_aload_n K 0 dX11_count_4 rfl rfl ?_
    refine w_getO K vc11 inX11 3 (by decide) mF_RX11_35 dX11_count_5 H (fun x22 H => ?_)
    refine w_getO K vc3 inX3 0 (by decide) mF_RX11_119 dX11_count_8 H (fun x23 H => ?_)
    refine w_getI K vc9 inX9 0 (by decide) mF_RX11_126 dX11_count_11 H (fun x24 H => ?_)
    cases H
    obtain ⟨rfl, rfl⟩ := jfin2 D
    exact r_iret K dX11_count_14
theorem c_X11_count (l : Launch) {n : Nat} {Y : jY} {v0 : Nat} {v1 : Int32} {μ : jM} {z : Int32 × jM} (H : f_X11_count Y v0 v1 μ = some z) : jC l yX11_count cX11_count 2 (some .int) 2 0 0 [.ref v0, .int v1] n Y μ n Y (some (.int z.1)) z.2 := by
  refine jC_of (by decide +kernel) (Nat.le_of_ble_eq_true rfl) (fun X hl K _ _ _ => ?_)
  obtain ⟨rr, μr⟩ := z
  exact t_X11_count_0 K hl H rfl
/-! RX11 beginAllTables()V -/
def f_X11_beginAllTables (Y : jY) (v0 : Nat) (μ : jM) : Option (jM) :=
  (jgO Y μ v0 11 6).bind fun x1 =>
  (jgO Y μ v0 11 3).bind fun x2 =>
  (jgO Y μ x2 3 0).bind fun x3 =>
  (jrcv Y x1 7 (f_X7_rebuild Y x1 x3 μ)).bind fun μ4 =>
  (jgO Y μ4 v0 11 8).bind fun x5 =>
  (jgO Y μ4 v0 11 6).bind fun x6 =>
  (jrcv Y x5 0 (f_X0_begin Y x5 x6 μ4)).bind fun μ7 =>
  some μ7
set_option maxRecDepth 10000 in
theorem t_X11_beginAllTables_0 {X : jX} {l : Launch} {n : Nat} {Y : jY} (K : jOK X RX11 cX11_beginAllTables 1 none 3) (hl : X.2.1 = l) {μr : jM} {v0 : Nat} {μ : jM} {z : (jM)} (H : f_X11_beginAllTables Y v0 μ = some z) (D : z = μr) : JW X (jEnd X n Y none μr 0 0) 0 0 n Y 0 [(0, .ref v0)] [] μ := by
  unfold f_X11_beginAllTables at H
  refine r_aload_n K 0 dX11_beginAllTables_0 rfl rfl ?_
  refine w_getO K vc11 inX11 6 (by decide) mF_RX11_50 dX11_beginAllTables_1 H (fun x1 H => ?_)
  refine r_aload_n K 0 dX11_beginAllTables_4 rfl rfl ?_
  refine w_getO K vc11 inX11 3 (by decide) mF_RX11_35 dX11_beginAllTables_5 H (fun x2 H => ?_)
  refine w_getO K vc3 inX3 0 (by decide) mF_RX11_119 dX11_beginAllTables_8 H (fun x3 H => ?_)
  refine w_callV K hl H (fun r h => c_X7_rebuild l h) mC_yX7_rebuild mM_RX11_153 mI_yX7_rebuild mS_yX7_rebuild mZ_RX7 vc7 (Nat.le_of_ble_eq_true rfl) (Nat.le_of_ble_eq_true rfl) np_yX7_rebuild rfl (Nat.le_of_ble_eq_true rfl) dX11_beginAllTables_11 (fun μ4 H => ?_) ⟨Nat.zero_le _, Nat.zero_le _⟩
  refine r_aload_n K 0 dX11_beginAllTables_14 rfl rfl ?_
  refine w_getO K vc11 inX11 8 (by decide) mF_RX11_66 dX11_beginAllTables_15 H (fun x5 H => ?_)
  refine r_aload_n K 0 dX11_beginAllTables_18 rfl rfl ?_
  refine w_getO K vc11 inX11 6 (by decide) mF_RX11_50 dX11_beginAllTables_19 H (fun x6 H => ?_)
  refine w_callV K hl H (fun r h => c_X0_begin l h) mC_yX0_begin mM_RX11_388 mI_yX0_begin mS_yX0_begin mZ_RX0 vc0 (Nat.le_of_ble_eq_true rfl) (Nat.le_of_ble_eq_true rfl) np_yX0_begin rfl (Nat.le_of_ble_eq_true rfl) dX11_beginAllTables_22 (fun μ7 H => ?_) ⟨Nat.zero_le _, Nat.zero_le _⟩
  cases H
  subst D
  exact r_vret K dX11_beginAllTables_25
theorem c_X11_beginAllTables (l : Launch) {n : Nat} {Y : jY} {v0 : Nat} {μ : jM} {z : jM} (H : f_X11_beginAllTables Y v0 μ = some z) : jC l yX11_beginAllTables cX11_beginAllTables 1 none 3 0 0 [.ref v0] n Y μ n Y none z := by
  refine jC_of (by decide +kernel) (Nat.le_of_ble_eq_true rfl) (fun X hl K _ _ _ => ?_)
  exact t_X11_beginAllTables_0 K hl H rfl
/-! RX11 countTables(II)I -/
def b_X11_countTables_74 (Y : jY) (v0 : Nat) (v1 : Int32) (v2 : Int32) (v3 : Int32) (v4 : Int32) (μ : jM) : Option ((Int32 × Int32 × jM) ⊕ (Int32 × jM)) :=
  some (.inl (v3, (v4 + (1 : Int32)), μ))
def b_X11_countTables_35 (Y : jY) (v0 : Nat) (v1 : Int32) (v2 : Int32) (v3 : Int32) (v4 : Int32) (μ : jM) : Option ((Int32 × Int32 × jM) ⊕ (Int32 × jM)) :=
  (jgO Y μ v0 11 8).bind fun x1 =>
  (jrcv Y x1 0 (f_X0_codes Y x1 μ)).bind fun r2 =>
  if r2.1 ≤ v4 then
    some (.inr (v3, r2.2))
  else
    (jgO Y r2.2 v0 11 8).bind fun x3 =>
    (jrcv Y x3 0 (f_X0_makes Y x3 v4 r2.2)).bind fun r4 =>
    if r4.1 = 0 then
      b_X11_countTables_74 Y v0 v1 v2 v3 v4 r4.2
    else
      (jgO Y r4.2 v0 11 8).bind fun x5 =>
      (jrcv Y x5 0 (f_X0_madeMeets Y x5 v1 v2 r4.2)).bind fun r6 =>
      if r6.1 = 0 then
        b_X11_countTables_74 Y v0 v1 v2 v3 v4 r6.2
      else
        b_X11_countTables_74 Y v0 v1 v2 (v3 + (1 : Int32)) v4 r6.2
def f_X11_countTables (Y : jY) (v0 : Nat) (v1 : Int32) (v2 : Int32) (μ : jM) : Option (Int32 × jM) :=
  (jrcv Y v0 11 (f_X11_hasTones Y v0 μ)).bind fun r1 =>
  if r1.1 = 0 then
    some ((-1 : Int32), r1.2)
  else
    (jgO Y r1.2 v0 11 3).bind fun x2 =>
    (jgO Y r1.2 x2 3 0).bind fun x3 =>
    (jgI Y r1.2 x3 9 0).bind fun x4 =>
    if x4 ≤ ((3 : Int32)) then
      (jrcv Y v0 11 (f_X11_beginAllTables Y v0 r1.2)).bind fun μ5 =>
      jit jF (fun (s : Int32 × Int32 × jM) => b_X11_countTables_35 Y v0 v1 v2 s.1 s.2.1 s.2.2) ((0 : Int32), (0 : Int32), μ5)
    else
      some ((-2 : Int32), r1.2)
set_option maxRecDepth 10000 in
theorem t_X11_countTables_74 {X : jX} {l : Launch} {n : Nat} {Y : jY} (K : jOK X RX11 cX11_countTables 5 (some .int) 5) (hl : X.2.1 = l) {rr : Int32} {μr : jM} {v0 : Nat} {v1 : Int32} {v2 : Int32} {v3 : Int32} {v4 : Int32} {μ : jM} {z : ((Int32 × Int32 × jM) ⊕ (Int32 × jM))} (H : b_X11_countTables_74 Y v0 v1 v2 v3 v4 μ = some z) (D : Sum.elim (fun (s : Int32 × Int32 × jM) => JW X (jEnd X n Y (some (.int rr)) μr 0 0) 0 0 n Y 35 [(0, .ref v0), (1, .int v1), (2, .int v2), (3, .int s.1), (4, .int s.2.1)] [] s.2.2) (fun r => r = (rr, μr)) z) : JW X (jEnd X n Y (some (.int rr)) μr 0 0) 0 0 n Y 74 [(0, .ref v0), (1, .int v1), (2, .int v2), (3, .int v3), (4, .int v4)] [] μ := by
  unfold b_X11_countTables_74 at H
  refine r_iinc K 4 [(4, .int _), (0, .ref _), (1, .int _), (2, .int _), (3, .int _)] (v := _ + (1 : Int32)) dX11_countTables_74 rfl rfl (by decide) rfl ?_
  refine r_goto K 35 dX11_countTables_77 (by decide) ?_
  cases H
  exact r_sub [1, 2, 3, 4, 0] rfl D
set_option maxRecDepth 10000 in
theorem t_X11_countTables_35 {X : jX} {l : Launch} {n : Nat} {Y : jY} (K : jOK X RX11 cX11_countTables 5 (some .int) 5) (hl : X.2.1 = l) {rr : Int32} {μr : jM} {v0 : Nat} {v1 : Int32} {v2 : Int32} {v3 : Int32} {v4 : Int32} {μ : jM} {z : ((Int32 × Int32 × jM) ⊕ (Int32 × jM))} (H : b_X11_countTables_35 Y v0 v1 v2 v3 v4 μ = some z) (D : Sum.elim (fun (s : Int32 × Int32 × jM) => JW X (jEnd X n Y (some (.int rr)) μr 0 0) 0 0 n Y 35 [(0, .ref v0), (1, .int v1), (2, .int v2), (3, .int s.1), (4, .int s.2.1)] [] s.2.2) (fun r => r = (rr, μr)) z) : JW X (jEnd X n Y (some (.int rr)) μr 0 0) 0 0 n Y 35 [(0, .ref v0), (1, .int v1), (2, .int v2), (3, .int v3), (4, .int v4)] [] μ := by
  unfold b_X11_countTables_35 at H
  refine r_iload K 4 dX11_countTables_35 rfl ?_
  refine r_aload_n K 0 dX11_countTables_37 rfl rfl ?_
  refine w_getO K vc11 inX11 8 (by decide) mF_RX11_66 dX11_countTables_38 H (fun x1 H => ?_)
  refine w_callV K hl H (fun r h => c_X0_codes l h) mC_yX0_codes mM_RX11_370 mI_yX0_codes mS_yX0_codes mZ_RX0 vc0 (Nat.le_of_ble_eq_true rfl) (Nat.le_of_ble_eq_true rfl) np_yX0_codes rfl (Nat.le_of_ble_eq_true rfl) dX11_countTables_41 (fun r2 H => ?_) ⟨Nat.zero_le _, Nat.zero_le _⟩
  refine w_icmp_ge K 80 dX11_countTables_44 (by decide) H (fun _ H => ?_) (fun _ H => ?_)
  · refine r_iload_n K 3 dX11_countTables_80 rfl rfl ?_
    cases H
    simp only [Sum.elim_inr] at D
    obtain ⟨rfl, rfl⟩ := jfin2 D
    exact r_iret K dX11_countTables_81
  · refine r_aload_n K 0 dX11_countTables_47 rfl rfl ?_
    refine w_getO K vc11 inX11 8 (by decide) mF_RX11_66 dX11_countTables_48 H (fun x3 H => ?_)
    refine r_iload K 4 dX11_countTables_51 rfl ?_
    refine w_callV K hl H (fun r h => c_X0_makes l h) mC_yX0_makes mM_RX11_373 mI_yX0_makes mS_yX0_makes mZ_RX0 vc0 (Nat.le_of_ble_eq_true rfl) (Nat.le_of_ble_eq_true rfl) np_yX0_makes rfl (Nat.le_of_ble_eq_true rfl) dX11_countTables_53 (fun r4 H => ?_) ⟨Nat.zero_le _, Nat.zero_le _⟩
    refine w_if_eq K 74 dX11_countTables_56 (by decide) H (fun _ H => ?_) (fun _ H => ?_)
    · exact r_sub [0, 1, 2, 3, 4] rfl (t_X11_countTables_74 K hl H D)
    · refine r_aload_n K 0 dX11_countTables_59 rfl rfl ?_
      refine w_getO K vc11 inX11 8 (by decide) mF_RX11_66 dX11_countTables_60 H (fun x5 H => ?_)
      refine r_iload_n K 1 dX11_countTables_63 rfl rfl ?_
      refine r_iload_n K 2 dX11_countTables_64 rfl rfl ?_
      refine w_callV K hl H (fun r h => c_X0_madeMeets l h) mC_yX0_madeMeets mM_RX11_390 mI_yX0_madeMeets mS_yX0_madeMeets mZ_RX0 vc0 (Nat.le_of_ble_eq_true rfl) (Nat.le_of_ble_eq_true rfl) np_yX0_madeMeets rfl (Nat.le_of_ble_eq_true rfl) dX11_countTables_65 (fun r6 H => ?_) ⟨Nat.zero_le _, Nat.zero_le _⟩
      refine w_if_eq K 74 dX11_countTables_68 (by decide) H (fun _ H => ?_) (fun _ H => ?_)
      · exact r_sub [0, 1, 2, 3, 4] rfl (t_X11_countTables_74 K hl H D)
      · refine r_iinc K 3 [(3, .int _), (0, .ref _), (1, .int _), (2, .int _), (4, .int _)] (v := _ + (1 : Int32)) dX11_countTables_71 rfl rfl (by decide) rfl ?_
        exact r_sub [1, 2, 3, 0, 4] rfl (t_X11_countTables_74 K hl H D)
set_option maxRecDepth 10000 in
theorem l_X11_countTables_35 {X : jX} {l : Launch} {n : Nat} {Y : jY} (K : jOK X RX11 cX11_countTables 5 (some .int) 5) (hl : X.2.1 = l) {rr : Int32} {μr : jM} {v0 : Nat} {v1 : Int32} {v2 : Int32}  {s0 : Int32 × Int32 × jM} {z : (Int32 × jM)} (H : jit jF (fun (s : Int32 × Int32 × jM) => b_X11_countTables_35 Y v0 v1 v2 s.1 s.2.1 s.2.2) s0 = some z) (D : z = (rr, μr)) : JW X (jEnd X n Y (some (.int rr)) μr 0 0) 0 0 n Y 35 [(0, .ref v0), (1, .int v1), (2, .int v2), (3, .int s0.1), (4, .int s0.2.1)] [] s0.2.2 :=
  jit_ind (P := fun (s : Int32 × Int32 × jM) => JW X (jEnd X n Y (some (.int rr)) μr 0 0) 0 0 n Y 35 [(0, .ref v0), (1, .int v1), (2, .int v2), (3, .int s.1), (4, .int s.2.1)] [] s.2.2) (D := fun r => r = (rr, μr)) (fun s z Hs Ds => t_X11_countTables_35 K hl Hs Ds) jF s0 z H D
set_option maxRecDepth 10000 in
theorem t_X11_countTables_0 {X : jX} {l : Launch} {n : Nat} {Y : jY} (K : jOK X RX11 cX11_countTables 5 (some .int) 5) (hl : X.2.1 = l) {rr : Int32} {μr : jM} {v0 : Nat} {v1 : Int32} {v2 : Int32} {μ : jM} {z : (Int32 × jM)} (H : f_X11_countTables Y v0 v1 v2 μ = some z) (D : z = (rr, μr)) : JW X (jEnd X n Y (some (.int rr)) μr 0 0) 0 0 n Y 0 [(0, .ref v0), (1, .int v1), (2, .int v2)] [] μ := by
  unfold f_X11_countTables at H
  refine r_aload_n K 0 dX11_countTables_0 rfl rfl ?_
  refine w_callV K hl H (fun r h => c_X11_hasTones l h) mC_yX11_hasTones mM_RX11_147 mI_yX11_hasTones mS_yX11_hasTones mZ_RX11 vc11 (Nat.le_of_ble_eq_true rfl) (Nat.le_of_ble_eq_true rfl) np_yX11_hasTones rfl (Nat.le_of_ble_eq_true rfl) dX11_countTables_1 (fun r1 H => ?_) ⟨Nat.zero_le _, Nat.zero_le _⟩
  refine w_if_ne K 9 dX11_countTables_4 (by decide) H (fun _ H => ?_) (fun _ H => ?_)
  · refine r_aload_n K 0 dX11_countTables_9 rfl rfl ?_
    refine w_getO K vc11 inX11 3 (by decide) mF_RX11_35 dX11_countTables_10 H (fun x2 H => ?_)
    refine w_getO K vc3 inX3 0 (by decide) mF_RX11_119 dX11_countTables_13 H (fun x3 H => ?_)
    refine w_getI K vc9 inX9 0 (by decide) mF_RX11_126 dX11_countTables_16 H (fun x4 H => ?_)
    refine r_iconst (v := 3) K dX11_countTables_19 (by decide) ?_
    refine w_icmp_le K 26 dX11_countTables_20 (by decide) H (fun _ H => ?_) (fun _ H => ?_)
    · refine r_aload_n K 0 dX11_countTables_26 rfl rfl ?_
      refine w_callV K hl H (fun r h => c_X11_beginAllTables l h) mC_yX11_beginAllTables mM_RX11_367 mI_yX11_beginAllTables mS_yX11_beginAllTables mZ_RX11 vc11 (Nat.le_of_ble_eq_true rfl) (Nat.le_of_ble_eq_true rfl) np_yX11_beginAllTables rfl (Nat.le_of_ble_eq_true rfl) dX11_countTables_27 (fun μ5 H => ?_) ⟨Nat.zero_le _, Nat.zero_le _⟩
      refine r_iconst (v := 0) K dX11_countTables_30 (by decide) ?_
      refine r_istore_n K [(3, .int _), (0, .ref _), (1, .int _), (2, .int _)] dX11_countTables_31 rfl (by decide) rfl ?_
      refine r_iconst (v := 0) K dX11_countTables_32 (by decide) ?_
      refine r_istore K [(4, .int _), (3, .int _), (0, .ref _), (1, .int _), (2, .int _)] dX11_countTables_33 (by decide) rfl ?_
      exact r_sub [2, 3, 4, 1, 0] rfl (l_X11_countTables_35 K hl H D)
    · refine r_bipush (v := -2) K dX11_countTables_23 (by decide) ?_
      cases H
      obtain ⟨rfl, rfl⟩ := jfin2 D
      exact r_iret K dX11_countTables_25
  · refine r_iconst (v := -1) K dX11_countTables_7 (by decide) ?_
    cases H
    obtain ⟨rfl, rfl⟩ := jfin2 D
    exact r_iret K dX11_countTables_8
theorem c_X11_countTables (l : Launch) {n : Nat} {Y : jY} {v0 : Nat} {v1 : Int32} {v2 : Int32} {μ : jM} {z : Int32 × jM} (H : f_X11_countTables Y v0 v1 v2 μ = some z) : jC l yX11_countTables cX11_countTables 5 (some .int) 5 0 0 [.ref v0, .int v1, .int v2] n Y μ n Y (some (.int z.1)) z.2 := by
  refine jC_of (by decide +kernel) (Nat.le_of_ble_eq_true rfl) (fun X hl K _ _ _ => ?_)
  obtain ⟨rr, μr⟩ := z
  exact t_X11_countTables_0 K hl H rfl
/-! RX11 all()I -/
def f_X11_all (Y : jY) (v0 : Nat) (μ : jM) : Option (Int32 × jM) :=
  (jrcv Y v0 11 (f_X11_countTables Y v0 ((5 : Int32)) ((0 : Int32)) μ)).bind fun r1 =>
  some (r1.1, r1.2)
set_option maxRecDepth 10000 in
theorem t_X11_all_0 {X : jX} {l : Launch} {n : Nat} {Y : jY} (K : jOK X RX11 cX11_all 1 (some .int) 6) (hl : X.2.1 = l) {rr : Int32} {μr : jM} {v0 : Nat} {μ : jM} {z : (Int32 × jM)} (H : f_X11_all Y v0 μ = some z) (D : z = (rr, μr)) : JW X (jEnd X n Y (some (.int rr)) μr 0 0) 0 0 n Y 0 [(0, .ref v0)] [] μ := by
  unfold f_X11_all at H
  refine r_aload_n K 0 dX11_all_0 rfl rfl ?_
  refine r_iconst (v := 5) K dX11_all_1 (by decide) ?_
  refine r_iconst (v := 0) K dX11_all_2 (by decide) ?_
  refine w_callV K hl H (fun r h => c_X11_countTables l h) mC_yX11_countTables mM_RX11_364 mI_yX11_countTables mS_yX11_countTables mZ_RX11 vc11 (Nat.le_of_ble_eq_true rfl) (Nat.le_of_ble_eq_true rfl) np_yX11_countTables rfl (Nat.le_of_ble_eq_true rfl) dX11_all_3 (fun r1 H => ?_) ⟨Nat.zero_le _, Nat.zero_le _⟩
  cases H
  obtain ⟨rfl, rfl⟩ := jfin2 D
  exact r_iret K dX11_all_6
theorem c_X11_all (l : Launch) {n : Nat} {Y : jY} {v0 : Nat} {μ : jM} {z : Int32 × jM} (H : f_X11_all Y v0 μ = some z) : jC l yX11_all cX11_all 1 (some .int) 6 0 0 [.ref v0] n Y μ n Y (some (.int z.1)) z.2 := by
  refine jC_of (by decide +kernel) (Nat.le_of_ble_eq_true rfl) (fun X hl K _ _ _ => ?_)
  obtain ⟨rr, μr⟩ := z
  exact t_X11_all_0 K hl H rfl
/-! RX11 hasChain()Z -/
def b_X11_hasChain_38 (Y : jY) (t0 : Int32) (μ : jM) : Option (Int32 × jM) :=
  (jbool t0).bind fun x1 =>
  some (x1, μ)
def b_X11_hasChain_37 (Y : jY) (μ : jM) : Option (Int32 × jM) :=
  b_X11_hasChain_38 Y (0 : Int32) μ
def f_X11_hasChain (Y : jY) (v0 : Nat) (μ : jM) : Option (Int32 × jM) :=
  (jgO Y μ v0 11 3).bind fun x1 =>
  (jgO Y μ x1 3 0).bind fun x2 =>
  (jgI Y μ x2 9 0).bind fun x3 =>
  (f_X11_within Y x3 ((1 : Int32)) ((3 : Int32)) μ).bind fun r4 =>
  if r4.1 = 0 then
    b_X11_hasChain_37 Y r4.2
  else
    (jgO Y r4.2 v0 11 3).bind fun x5 =>
    (jgO Y r4.2 x5 3 0).bind fun x6 =>
    (jgO Y r4.2 x6 9 1).bind fun x7 =>
    (jaI Y r4.2 x7 20 ((0 : Int32))).bind fun x8 =>
    if x8 ≤ 0 then
      b_X11_hasChain_37 Y r4.2
    else
      b_X11_hasChain_38 Y (1 : Int32) r4.2
set_option maxRecDepth 10000 in
theorem t_X11_hasChain_38 {X : jX} {l : Launch} {n : Nat} {Y : jY} (K : jOK X RX11 cX11_hasChain 1 (some .boolean) 2) (hl : X.2.1 = l) {rr : Int32} {μr : jM} {t0 : Int32} {μ : jM} {z : (Int32 × jM)} (H : b_X11_hasChain_38 Y t0 μ = some z) (D : z = (rr, μr)) : JW X (jEnd X n Y (some (.int rr)) μr 0 0) 0 0 n Y 38 [] [.int t0] μ := by
  unfold b_X11_hasChain_38 at H
  refine w_zret K dX11_hasChain_38 H (fun hz H => ?_)
  cases H
  obtain ⟨rfl, rfl⟩ := jfin2 D
  exact r_zret K hz dX11_hasChain_38
set_option maxRecDepth 10000 in
theorem t_X11_hasChain_37 {X : jX} {l : Launch} {n : Nat} {Y : jY} (K : jOK X RX11 cX11_hasChain 1 (some .boolean) 2) (hl : X.2.1 = l) {rr : Int32} {μr : jM} {μ : jM} {z : (Int32 × jM)} (H : b_X11_hasChain_37 Y μ = some z) (D : z = (rr, μr)) : JW X (jEnd X n Y (some (.int rr)) μr 0 0) 0 0 n Y 37 [] [] μ := by
  unfold b_X11_hasChain_37 at H
  refine r_iconst (v := 0) K dX11_hasChain_37 (by decide) ?_
  exact r_sub [] rfl (t_X11_hasChain_38 K hl H D)
set_option maxRecDepth 10000 in
theorem t_X11_hasChain_0 {X : jX} {l : Launch} {n : Nat} {Y : jY} (K : jOK X RX11 cX11_hasChain 1 (some .boolean) 2) (hl : X.2.1 = l) {rr : Int32} {μr : jM} {v0 : Nat} {μ : jM} {z : (Int32 × jM)} (H : f_X11_hasChain Y v0 μ = some z) (D : z = (rr, μr)) : JW X (jEnd X n Y (some (.int rr)) μr 0 0) 0 0 n Y 0 [(0, .ref v0)] [] μ := by
  unfold f_X11_hasChain at H
  refine r_aload_n K 0 dX11_hasChain_0 rfl rfl ?_
  refine w_getO K vc11 inX11 3 (by decide) mF_RX11_35 dX11_hasChain_1 H (fun x1 H => ?_)
  refine w_getO K vc3 inX3 0 (by decide) mF_RX11_119 dX11_hasChain_4 H (fun x2 H => ?_)
  refine w_getI K vc9 inX9 0 (by decide) mF_RX11_126 dX11_hasChain_7 H (fun x3 H => ?_)
  refine r_iconst (v := 1) K dX11_hasChain_10 (by decide) ?_
  refine r_iconst (v := 3) K dX11_hasChain_11 (by decide) ?_
  refine w_callS K hl H (fun r h => c_X11_within l h) mC_yX11_within mM_RX11_133 mT_yX11_within mZ_RX11 (Nat.le_of_ble_eq_true rfl) (Nat.le_of_ble_eq_true rfl) np_yX11_within rfl (Nat.le_of_ble_eq_true rfl) dX11_hasChain_12 (fun r4 H => ?_) ⟨Nat.zero_le _, Nat.zero_le _⟩
  refine w_if_eq K 37 dX11_hasChain_15 (by decide) H (fun _ H => ?_) (fun _ H => ?_)
  · exact r_sub [] rfl (t_X11_hasChain_37 K hl H D)
  · refine r_aload_n K 0 dX11_hasChain_18 rfl rfl ?_
    refine w_getO K vc11 inX11 3 (by decide) mF_RX11_35 dX11_hasChain_19 H (fun x5 H => ?_)
    refine w_getO K vc3 inX3 0 (by decide) mF_RX11_119 dX11_hasChain_22 H (fun x6 H => ?_)
    refine w_getO K vc9 inX9 1 (by decide) mF_RX11_137 dX11_hasChain_25 H (fun x7 H => ?_)
    refine r_iconst (v := 0) K dX11_hasChain_28 (by decide) ?_
    refine w_iald K dX11_hasChain_29 H (fun x8 H => ?_)
    refine w_if_le K 37 dX11_hasChain_30 (by decide) H (fun _ H => ?_) (fun _ H => ?_)
    · exact r_sub [] rfl (t_X11_hasChain_37 K hl H D)
    · refine r_iconst (v := 1) K dX11_hasChain_33 (by decide) ?_
      refine r_goto K 38 dX11_hasChain_34 (by decide) ?_
      exact r_sub [] rfl (t_X11_hasChain_38 K hl H D)
theorem c_X11_hasChain (l : Launch) {n : Nat} {Y : jY} {v0 : Nat} {μ : jM} {z : Int32 × jM} (H : f_X11_hasChain Y v0 μ = some z) : jC l yX11_hasChain cX11_hasChain 1 (some .boolean) 2 0 0 [.ref v0] n Y μ n Y (some (.int z.1)) z.2 := by
  refine jC_of (by decide +kernel) (Nat.le_of_ble_eq_true rfl) (fun X hl K _ _ _ => ?_)
  obtain ⟨rr, μr⟩ := z
  exact t_X11_hasChain_0 K hl H rfl
/-! RX11 isPart(I)Z -/
def b_X11_isPart_14 (Y : jY) (t0 : Int32) (μ : jM) : Option (Int32 × jM) :=
  (jbool t0).bind fun x1 =>
  some (x1, μ)
def b_X11_isPart_9 (Y : jY) (μ : jM) : Option (Int32 × jM) :=
  b_X11_isPart_14 Y (1 : Int32) μ
def f_X11_isPart (Y : jY) (v0 : Int32) (μ : jM) : Option (Int32 × jM) :=
  if v0 = 0 then
    b_X11_isPart_9 Y μ
  else
    if v0 = ((1 : Int32)) then
      b_X11_isPart_9 Y μ
    else
      b_X11_isPart_14 Y (0 : Int32) μ
set_option maxRecDepth 10000 in
theorem t_X11_isPart_14 {X : jX} {l : Launch} {n : Nat} {Y : jY} (K : jOK X RX11 cX11_isPart 1 (some .boolean) 1) (hl : X.2.1 = l) {rr : Int32} {μr : jM} {t0 : Int32} {μ : jM} {z : (Int32 × jM)} (H : b_X11_isPart_14 Y t0 μ = some z) (D : z = (rr, μr)) : JW X (jEnd X n Y (some (.int rr)) μr 0 0) 0 0 n Y 14 [] [.int t0] μ := by
  unfold b_X11_isPart_14 at H
  refine w_zret K dX11_isPart_14 H (fun hz H => ?_)
  cases H
  obtain ⟨rfl, rfl⟩ := jfin2 D
  exact r_zret K hz dX11_isPart_14
set_option maxRecDepth 10000 in
theorem t_X11_isPart_9 {X : jX} {l : Launch} {n : Nat} {Y : jY} (K : jOK X RX11 cX11_isPart 1 (some .boolean) 1) (hl : X.2.1 = l) {rr : Int32} {μr : jM} {μ : jM} {z : (Int32 × jM)} (H : b_X11_isPart_9 Y μ = some z) (D : z = (rr, μr)) : JW X (jEnd X n Y (some (.int rr)) μr 0 0) 0 0 n Y 9 [] [] μ := by
  unfold b_X11_isPart_9 at H
  refine r_iconst (v := 1) K dX11_isPart_9 (by decide) ?_
  refine r_goto K 14 dX11_isPart_10 (by decide) ?_
  exact r_sub [] rfl (t_X11_isPart_14 K hl H D)
set_option maxRecDepth 10000 in
theorem t_X11_isPart_0 {X : jX} {l : Launch} {n : Nat} {Y : jY} (K : jOK X RX11 cX11_isPart 1 (some .boolean) 1) (hl : X.2.1 = l) {rr : Int32} {μr : jM} {v0 : Int32} {μ : jM} {z : (Int32 × jM)} (H : f_X11_isPart Y v0 μ = some z) (D : z = (rr, μr)) : JW X (jEnd X n Y (some (.int rr)) μr 0 0) 0 0 n Y 0 [(0, .int v0)] [] μ := by
  unfold f_X11_isPart at H
  refine r_iload_n K 0 dX11_isPart_0 rfl rfl ?_
  refine w_if_eq K 9 dX11_isPart_1 (by decide) H (fun _ H => ?_) (fun _ H => ?_)
  · exact r_sub [] rfl (t_X11_isPart_9 K hl H D)
  · refine r_iload_n K 0 dX11_isPart_4 rfl rfl ?_
    refine r_iconst (v := 1) K dX11_isPart_5 (by decide) ?_
    refine w_icmp_ne K 13 dX11_isPart_6 (by decide) H (fun _ H => ?_) (fun _ H => ?_)
    · refine r_iconst (v := 0) K dX11_isPart_13 (by decide) ?_
      exact r_sub [] rfl (t_X11_isPart_14 K hl H D)
    · exact r_sub [] rfl (t_X11_isPart_9 K hl H D)
theorem c_X11_isPart (l : Launch) {n : Nat} {Y : jY} {v0 : Int32} {μ : jM} {z : Int32 × jM} (H : f_X11_isPart Y v0 μ = some z) : jC l yX11_isPart cX11_isPart 1 (some .boolean) 1 0 0 [.int v0] n Y μ n Y (some (.int z.1)) z.2 := by
  refine jC_of (by decide +kernel) (Nat.le_of_ble_eq_true rfl) (fun X hl K _ _ _ => ?_)
  obtain ⟨rr, μr⟩ := z
  exact t_X11_isPart_0 K hl H rfl
/-! RX11 mass(I)J -/
def b_X11_mass_14 (Y : jY) (μ : jM) : Option (Int64 × jM) :=
  some ((-9223372036854775808 : Int64), μ)
def b_X11_mass_61 (Y : jY) (v0 : Nat) (v1 : Int32) (v2 : Int32) (μ : jM) : Option ((Int32 × jM) ⊕ (Int64 × jM)) :=
  (jgO Y μ v0 11 3).bind fun x1 =>
  (jgO Y μ x1 3 0).bind fun x2 =>
  (jgI Y μ x2 9 0).bind fun x3 =>
  if x3 ≤ v2 then
    (jgO Y μ v0 11 12).bind fun x4 =>
    (jrcv Y x4 1 (f_X1_part Y x4 v1 μ)).bind fun r5 =>
    some (.inr (r5.1, r5.2))
  else
    (jgO Y μ v0 11 12).bind fun x6 =>
    (jgO Y μ v0 11 7).bind fun x7 =>
    (jgO Y μ x7 8 4).bind fun x8 =>
    (jaO Y μ x8 23 v2).bind fun x9 =>
    (jrcv Y x6 1 (f_X1_add Y x6 x9 μ)).bind fun μ10 =>
    some (.inl ((v2 + (1 : Int32)), μ10))
def f_X11_mass (Y : jY) (v0 : Nat) (v1 : Int32) (μ : jM) : Option (Int64 × jM) :=
  (jrcv Y v0 11 (f_X11_hasTones Y v0 μ)).bind fun r1 =>
  if r1.1 = 0 then
    b_X11_mass_14 Y r1.2
  else
    (f_X11_isPart Y v1 r1.2).bind fun r2 =>
    if r2.1 = 0 then
      b_X11_mass_14 Y r2.2
    else
      (jrcv Y v0 11 (f_X11_hasChain Y v0 r2.2)).bind fun r3 =>
      if r3.1 = 0 then
        some ((-2 : Int64), r3.2)
      else
        (jgO Y r3.2 v0 11 7).bind fun x4 =>
        (jgO Y r3.2 v0 11 3).bind fun x5 =>
        (jgO Y r3.2 x5 3 0).bind fun x6 =>
        (jrcv Y x4 8 (f_X8_rebuild Y x4 x6 r3.2)).bind fun μ7 =>
        (jgO Y μ7 v0 11 7).bind fun x8 =>
        (jrcv Y x8 8 (f_X8_hang Y x8 μ7)).bind fun μ9 =>
        (jgO Y μ9 v0 11 12).bind fun x10 =>
        (jrcv Y x10 1 (f_X1_set Y x10 ((0 : Int64)) ((1 : Int64)) μ9)).bind fun μ11 =>
        jit jF (fun (s : Int32 × jM) => b_X11_mass_61 Y v0 v1 s.1 s.2) ((0 : Int32), μ11)
set_option maxRecDepth 10000 in
theorem t_X11_mass_14 {X : jX} {l : Launch} {n : Nat} {Y : jY} (K : jOK X RX11 cX11_mass 3 (some .long) 7) (hl : X.2.1 = l) {rr : Int64} {μr : jM} {μ : jM} {z : (Int64 × jM)} (H : b_X11_mass_14 Y μ = some z) (D : z = (rr, μr)) : JW X (jEnd X n Y (some (.long rr)) μr 0 0) 0 0 n Y 14 [] [] μ := by
  unfold b_X11_mass_14 at H
  refine r_ldc2 K (-9223372036854775808) mc_RX11_151 dX11_mass_14 ?_
  cases H
  obtain ⟨rfl, rfl⟩ := jfin2 D
  exact r_lret K dX11_mass_17
set_option maxRecDepth 10000 in
theorem t_X11_mass_61 {X : jX} {l : Launch} {n : Nat} {Y : jY} (K : jOK X RX11 cX11_mass 3 (some .long) 7) (hl : X.2.1 = l) {rr : Int64} {μr : jM} {v0 : Nat} {v1 : Int32} {v2 : Int32} {μ : jM} {z : ((Int32 × jM) ⊕ (Int64 × jM))} (H : b_X11_mass_61 Y v0 v1 v2 μ = some z) (D : Sum.elim (fun (s : Int32 × jM) => JW X (jEnd X n Y (some (.long rr)) μr 0 0) 0 0 n Y 61 [(0, .ref v0), (1, .int v1), (2, .int s.1)] [] s.2) (fun r => r = (rr, μr)) z) : JW X (jEnd X n Y (some (.long rr)) μr 0 0) 0 0 n Y 61 [(0, .ref v0), (1, .int v1), (2, .int v2)] [] μ := by
  unfold b_X11_mass_61 at H
  refine r_iload_n K 2 dX11_mass_61 rfl rfl ?_
  refine r_aload_n K 0 dX11_mass_62 rfl rfl ?_
  refine w_getO K vc11 inX11 3 (by decide) mF_RX11_35 dX11_mass_63 H (fun x1 H => ?_)
  refine w_getO K vc3 inX3 0 (by decide) mF_RX11_119 dX11_mass_66 H (fun x2 H => ?_)
  refine w_getI K vc9 inX9 0 (by decide) mF_RX11_126 dX11_mass_69 H (fun x3 H => ?_)
  refine w_icmp_ge K 97 dX11_mass_72 (by decide) H (fun _ H => ?_) (fun _ H => ?_)
  · refine r_aload_n K 0 dX11_mass_97 rfl rfl ?_
    refine w_getO K vc11 inX11 12 (by decide) mF_RX11_94 dX11_mass_98 H (fun x4 H => ?_)
    refine r_iload_n K 1 dX11_mass_101 rfl rfl ?_
    refine w_callV K hl H (fun r h => c_X1_part l h) mC_yX1_part mM_RX11_177 mI_yX1_part mS_yX1_part mZ_RX1 vc1 (Nat.le_of_ble_eq_true rfl) (Nat.le_of_ble_eq_true rfl) np_yX1_part rfl (Nat.le_of_ble_eq_true rfl) dX11_mass_102 (fun r5 H => ?_) ⟨Nat.zero_le _, Nat.zero_le _⟩
    cases H
    simp only [Sum.elim_inr] at D
    obtain ⟨rfl, rfl⟩ := jfin2 D
    exact r_lret K dX11_mass_105
  · refine r_aload_n K 0 dX11_mass_75 rfl rfl ?_
    refine w_getO K vc11 inX11 12 (by decide) mF_RX11_94 dX11_mass_76 H (fun x6 H => ?_)
    refine r_aload_n K 0 dX11_mass_79 rfl rfl ?_
    refine w_getO K vc11 inX11 7 (by decide) mF_RX11_59 dX11_mass_80 H (fun x7 H => ?_)
    refine w_getO K vc8 inX8 4 (by decide) mF_RX11_209 dX11_mass_83 H (fun x8 H => ?_)
    refine r_iload_n K 2 dX11_mass_86 rfl rfl ?_
    refine w_aald K 23 rfl rfl dX11_mass_87 H (fun x9 H => ?_)
    refine w_callV K hl H (fun r h => c_X1_add l h) mC_yX1_add mM_RX11_219 mI_yX1_add mS_yX1_add mZ_RX1 vc1 (Nat.le_of_ble_eq_true rfl) (Nat.le_of_ble_eq_true rfl) np_yX1_add rfl (Nat.le_of_ble_eq_true rfl) dX11_mass_88 (fun μ10 H => ?_) ⟨Nat.zero_le _, Nat.zero_le _⟩
    refine r_iinc K 2 [(2, .int _), (0, .ref _), (1, .int _)] (v := _ + (1 : Int32)) dX11_mass_91 rfl rfl (by decide) rfl ?_
    refine r_goto K 61 dX11_mass_94 (by decide) ?_
    cases H
    exact r_sub [1, 2, 0] rfl D
set_option maxRecDepth 10000 in
theorem l_X11_mass_61 {X : jX} {l : Launch} {n : Nat} {Y : jY} (K : jOK X RX11 cX11_mass 3 (some .long) 7) (hl : X.2.1 = l) {rr : Int64} {μr : jM} {v0 : Nat} {v1 : Int32}  {s0 : Int32 × jM} {z : (Int64 × jM)} (H : jit jF (fun (s : Int32 × jM) => b_X11_mass_61 Y v0 v1 s.1 s.2) s0 = some z) (D : z = (rr, μr)) : JW X (jEnd X n Y (some (.long rr)) μr 0 0) 0 0 n Y 61 [(0, .ref v0), (1, .int v1), (2, .int s0.1)] [] s0.2 :=
  jit_ind (P := fun (s : Int32 × jM) => JW X (jEnd X n Y (some (.long rr)) μr 0 0) 0 0 n Y 61 [(0, .ref v0), (1, .int v1), (2, .int s.1)] [] s.2) (D := fun r => r = (rr, μr)) (fun s z Hs Ds => t_X11_mass_61 K hl Hs Ds) jF s0 z H D
set_option maxRecDepth 10000 in
theorem t_X11_mass_0 {X : jX} {l : Launch} {n : Nat} {Y : jY} (K : jOK X RX11 cX11_mass 3 (some .long) 7) (hl : X.2.1 = l) {rr : Int64} {μr : jM} {v0 : Nat} {v1 : Int32} {μ : jM} {z : (Int64 × jM)} (H : f_X11_mass Y v0 v1 μ = some z) (D : z = (rr, μr)) : JW X (jEnd X n Y (some (.long rr)) μr 0 0) 0 0 n Y 0 [(0, .ref v0), (1, .int v1)] [] μ := by
  unfold f_X11_mass at H
  refine r_aload_n K 0 dX11_mass_0 rfl rfl ?_
  refine w_callV K hl H (fun r h => c_X11_hasTones l h) mC_yX11_hasTones mM_RX11_147 mI_yX11_hasTones mS_yX11_hasTones mZ_RX11 vc11 (Nat.le_of_ble_eq_true rfl) (Nat.le_of_ble_eq_true rfl) np_yX11_hasTones rfl (Nat.le_of_ble_eq_true rfl) dX11_mass_1 (fun r1 H => ?_) ⟨Nat.zero_le _, Nat.zero_le _⟩
  refine w_if_eq K 14 dX11_mass_4 (by decide) H (fun _ H => ?_) (fun _ H => ?_)
  · exact r_sub [] rfl (t_X11_mass_14 K hl H D)
  · refine r_iload_n K 1 dX11_mass_7 rfl rfl ?_
    refine w_callS K hl H (fun r h => c_X11_isPart l h) mC_yX11_isPart mM_RX11_170 mT_yX11_isPart mZ_RX11 (Nat.le_of_ble_eq_true rfl) (Nat.le_of_ble_eq_true rfl) np_yX11_isPart rfl (Nat.le_of_ble_eq_true rfl) dX11_mass_8 (fun r2 H => ?_) ⟨Nat.zero_le _, Nat.zero_le _⟩
    refine w_if_ne K 18 dX11_mass_11 (by decide) H (fun _ H => ?_) (fun _ H => ?_)
    · refine r_aload_n K 0 dX11_mass_18 rfl rfl ?_
      refine w_callV K hl H (fun r h => c_X11_hasChain l h) mC_yX11_hasChain mM_RX11_203 mI_yX11_hasChain mS_yX11_hasChain mZ_RX11 vc11 (Nat.le_of_ble_eq_true rfl) (Nat.le_of_ble_eq_true rfl) np_yX11_hasChain rfl (Nat.le_of_ble_eq_true rfl) dX11_mass_19 (fun r3 H => ?_) ⟨Nat.zero_le _, Nat.zero_le _⟩
      refine w_if_ne K 29 dX11_mass_22 (by decide) H (fun _ H => ?_) (fun _ H => ?_)
      · refine r_aload_n K 0 dX11_mass_29 rfl rfl ?_
        refine w_getO K vc11 inX11 7 (by decide) mF_RX11_59 dX11_mass_30 H (fun x4 H => ?_)
        refine r_aload_n K 0 dX11_mass_33 rfl rfl ?_
        refine w_getO K vc11 inX11 3 (by decide) mF_RX11_35 dX11_mass_34 H (fun x5 H => ?_)
        refine w_getO K vc3 inX3 0 (by decide) mF_RX11_119 dX11_mass_37 H (fun x6 H => ?_)
        refine w_callV K hl H (fun r h => c_X8_rebuild l h) mC_yX8_rebuild mM_RX11_185 mI_yX8_rebuild mS_yX8_rebuild mZ_RX8 vc8 (Nat.le_of_ble_eq_true rfl) (Nat.le_of_ble_eq_true rfl) np_yX8_rebuild rfl (Nat.le_of_ble_eq_true rfl) dX11_mass_40 (fun μ7 H => ?_) ⟨Nat.zero_le _, Nat.zero_le _⟩
        refine r_aload_n K 0 dX11_mass_43 rfl rfl ?_
        refine w_getO K vc11 inX11 7 (by decide) mF_RX11_59 dX11_mass_44 H (fun x8 H => ?_)
        refine w_callV K hl H (fun r h => c_X8_hang l h) mC_yX8_hang mM_RX11_206 mI_yX8_hang mS_yX8_hang mZ_RX8 vc8 (Nat.le_of_ble_eq_true rfl) (Nat.le_of_ble_eq_true rfl) np_yX8_hang rfl (Nat.le_of_ble_eq_true rfl) dX11_mass_47 (fun μ9 H => ?_) ⟨Nat.zero_le _, Nat.zero_le _⟩
        refine r_aload_n K 0 dX11_mass_50 rfl rfl ?_
        refine w_getO K vc11 inX11 12 (by decide) mF_RX11_94 dX11_mass_51 H (fun x10 H => ?_)
        refine r_lconst (v := 0) K dX11_mass_54 (by decide) ?_
        refine r_lconst (v := 1) K dX11_mass_55 (by decide) ?_
        refine w_callV K hl H (fun r h => c_X1_set l h) mC_yX1_set mM_RX11_215 mI_yX1_set mS_yX1_set mZ_RX1 vc1 (Nat.le_of_ble_eq_true rfl) (Nat.le_of_ble_eq_true rfl) np_yX1_set rfl (Nat.le_of_ble_eq_true rfl) dX11_mass_56 (fun μ11 H => ?_) ⟨Nat.zero_le _, Nat.zero_le _⟩
        refine r_iconst (v := 0) K dX11_mass_59 (by decide) ?_
        refine r_istore_n K [(2, .int _), (0, .ref _), (1, .int _)] dX11_mass_60 rfl (by decide) rfl ?_
        exact r_sub [1, 2, 0] rfl (l_X11_mass_61 K hl H D)
      · refine r_ldc2 K (-2) mc_RX11_201 dX11_mass_25 ?_
        cases H
        obtain ⟨rfl, rfl⟩ := jfin2 D
        exact r_lret K dX11_mass_28
    · exact r_sub [] rfl (t_X11_mass_14 K hl H D)
theorem c_X11_mass (l : Launch) {n : Nat} {Y : jY} {v0 : Nat} {v1 : Int32} {μ : jM} {z : Int64 × jM} (H : f_X11_mass Y v0 v1 μ = some z) : jC l yX11_mass cX11_mass 3 (some .long) 7 0 0 [.ref v0, .int v1] n Y μ n Y (some (.long z.1)) z.2 := by
  refine jC_of (by decide +kernel) (Nat.le_of_ble_eq_true rfl) (fun X hl K _ _ _ => ?_)
  obtain ⟨rr, μr⟩ := z
  exact t_X11_mass_0 K hl H rfl
/-! RX11 root(IIII)I -/
def b_X11_root_18 (Y : jY) (μ : jM) : Option (Int32 × jM) :=
  some ((-100001 : Int32), μ)
def b_X11_root_69 (Y : jY) (μ : jM) : Option (Int32 × jM) :=
  some ((-100001 : Int32), μ)
def f_X11_root (Y : jY) (v0 : Nat) (v1 : Int32) (v2 : Int32) (v3 : Int32) (v4 : Int32) (μ : jM) : Option (Int32 × jM) :=
  (f_X11_isDrawer Y v1 μ).bind fun r1 =>
  if r1.1 = 0 then
    b_X11_root_18 Y r1.2
  else
    (f_X11_within Y v4 ((1 : Int32)) ((50 : Int32)) r1.2).bind fun r2 =>
    if r2.1 = 0 then
      b_X11_root_18 Y r2.2
    else
      (jgO Y r2.2 v0 11 3).bind fun x3 =>
      (jgO Y r2.2 x3 3 1).bind fun x4 =>
      (jaO Y r2.2 x4 24 v1).bind fun x5 =>
      (jgI Y r2.2 x5 10 0).bind fun x6 =>
      if x6 = 0 then
        some ((-100000 : Int32), r2.2)
      else
        (jgI Y r2.2 x5 10 0).bind fun x7 =>
        (f_X11_within Y v2 ((1 : Int32)) x7 r2.2).bind fun r8 =>
        if r8.1 = 0 then
          b_X11_root_69 Y r8.2
        else
          (f_X11_within Y v3 ((0 : Int32)) ((v2 - ((1 : Int32)))) r8.2).bind fun r9 =>
          if r9.1 = 0 then
            b_X11_root_69 Y r9.2
          else
            (jrcv Y x5 10 (f_X10_rootInParts Y x5 v2 v3 v4 r9.2)).bind fun r10 =>
            some (r10.1, r10.2)
set_option maxRecDepth 10000 in
theorem t_X11_root_18 {X : jX} {l : Launch} {n : Nat} {Y : jY} (K : jOK X RX11 cX11_root 6 (some .int) 4) (hl : X.2.1 = l) {rr : Int32} {μr : jM} {μ : jM} {z : (Int32 × jM)} (H : b_X11_root_18 Y μ = some z) (D : z = (rr, μr)) : JW X (jEnd X n Y (some (.int rr)) μr 0 0) 0 0 n Y 18 [] [] μ := by
  unfold b_X11_root_18 at H
  refine r_ldc_w K (-100001) mc_RX11_304 dX11_root_18 ?_
  cases H
  obtain ⟨rfl, rfl⟩ := jfin2 D
  exact r_iret K dX11_root_21
set_option maxRecDepth 10000 in
theorem t_X11_root_69 {X : jX} {l : Launch} {n : Nat} {Y : jY} (K : jOK X RX11 cX11_root 6 (some .int) 4) (hl : X.2.1 = l) {rr : Int32} {μr : jM} {μ : jM} {z : (Int32 × jM)} (H : b_X11_root_69 Y μ = some z) (D : z = (rr, μr)) : JW X (jEnd X n Y (some (.int rr)) μr 0 0) 0 0 n Y 69 [] [] μ := by
  unfold b_X11_root_69 at H
  refine r_ldc_w K (-100001) mc_RX11_304 dX11_root_69 ?_
  cases H
  obtain ⟨rfl, rfl⟩ := jfin2 D
  exact r_iret K dX11_root_72
set_option maxRecDepth 10000 in
theorem t_X11_root_0 {X : jX} {l : Launch} {n : Nat} {Y : jY} (K : jOK X RX11 cX11_root 6 (some .int) 4) (hl : X.2.1 = l) {rr : Int32} {μr : jM} {v0 : Nat} {v1 : Int32} {v2 : Int32} {v3 : Int32} {v4 : Int32} {μ : jM} {z : (Int32 × jM)} (H : f_X11_root Y v0 v1 v2 v3 v4 μ = some z) (D : z = (rr, μr)) : JW X (jEnd X n Y (some (.int rr)) μr 0 0) 0 0 n Y 0 [(0, .ref v0), (1, .int v1), (2, .int v2), (3, .int v3), (4, .int v4)] [] μ := by
  unfold f_X11_root at H
  refine r_iload_n K 1 dX11_root_0 rfl rfl ?_
  refine w_callS K hl H (fun r h => c_X11_isDrawer l h) mC_yX11_isDrawer mM_RX11_252 mT_yX11_isDrawer mZ_RX11 (Nat.le_of_ble_eq_true rfl) (Nat.le_of_ble_eq_true rfl) np_yX11_isDrawer rfl (Nat.le_of_ble_eq_true rfl) dX11_root_1 (fun r1 H => ?_) ⟨Nat.zero_le _, Nat.zero_le _⟩
  refine w_if_eq K 18 dX11_root_4 (by decide) H (fun _ H => ?_) (fun _ H => ?_)
  · exact r_sub [] rfl (t_X11_root_18 K hl H D)
  · refine r_iload K 4 dX11_root_7 rfl ?_
    refine r_iconst (v := 1) K dX11_root_9 (by decide) ?_
    refine r_bipush (v := 50) K dX11_root_10 (by decide) ?_
    refine w_callS K hl H (fun r h => c_X11_within l h) mC_yX11_within mM_RX11_133 mT_yX11_within mZ_RX11 (Nat.le_of_ble_eq_true rfl) (Nat.le_of_ble_eq_true rfl) np_yX11_within rfl (Nat.le_of_ble_eq_true rfl) dX11_root_12 (fun r2 H => ?_) ⟨Nat.zero_le _, Nat.zero_le _⟩
    refine w_if_ne K 22 dX11_root_15 (by decide) H (fun _ H => ?_) (fun _ H => ?_)
    · refine r_aload_n K 0 dX11_root_22 rfl rfl ?_
      refine w_getO K vc11 inX11 3 (by decide) mF_RX11_35 dX11_root_23 H (fun x3 H => ?_)
      refine w_getO K vc3 inX3 1 (by decide) mF_RX11_255 dX11_root_26 H (fun x4 H => ?_)
      refine r_iload_n K 1 dX11_root_29 rfl rfl ?_
      refine w_aald K 24 rfl rfl dX11_root_30 H (fun x5 H => ?_)
      refine r_astore K [(5, .ref _), (0, .ref _), (1, .int _), (2, .int _), (3, .int _), (4, .int _)] dX11_root_31 (by decide) rfl ?_
      refine r_aload K 0 dX11_root_33 rfl ?_
      refine w_getI K vc10 inX10 0 (by decide) mF_RX11_263 dX11_root_35 H (fun x6 H => ?_)
      refine w_if_ne K 45 dX11_root_38 (by decide) H (fun _ H => ?_) (fun _ H => ?_)
      · refine r_iload_n K 3 dX11_root_45 rfl rfl ?_
        refine r_iconst (v := 1) K dX11_root_46 (by decide) ?_
        refine r_aload K 0 dX11_root_47 rfl ?_
        refine w_getI K vc10 inX10 0 (by decide) mF_RX11_263 dX11_root_49 H (fun x7 H => ?_)
        refine w_callS K hl H (fun r h => c_X11_within l h) mC_yX11_within mM_RX11_133 mT_yX11_within mZ_RX11 (Nat.le_of_ble_eq_true rfl) (Nat.le_of_ble_eq_true rfl) np_yX11_within rfl (Nat.le_of_ble_eq_true rfl) dX11_root_52 (fun r8 H => ?_) ⟨Nat.zero_le _, Nat.zero_le _⟩
        refine w_if_eq K 69 dX11_root_55 (by decide) H (fun _ H => ?_) (fun _ H => ?_)
        · exact r_sub [] rfl (t_X11_root_69 K hl H D)
        · refine r_iload_n K 4 dX11_root_58 rfl rfl ?_
          refine r_iconst (v := 0) K dX11_root_59 (by decide) ?_
          refine r_iload_n K 3 dX11_root_60 rfl rfl ?_
          refine r_iconst (v := 1) K dX11_root_61 (by decide) ?_
          refine r_isub K dX11_root_62 ?_
          refine w_callS K hl H (fun r h => c_X11_within l h) mC_yX11_within mM_RX11_133 mT_yX11_within mZ_RX11 (Nat.le_of_ble_eq_true rfl) (Nat.le_of_ble_eq_true rfl) np_yX11_within rfl (Nat.le_of_ble_eq_true rfl) dX11_root_63 (fun r9 H => ?_) ⟨Nat.zero_le _, Nat.zero_le _⟩
          refine w_if_ne K 73 dX11_root_66 (by decide) H (fun _ H => ?_) (fun _ H => ?_)
          · refine r_aload K 0 dX11_root_73 rfl ?_
            refine r_iload_n K 3 dX11_root_75 rfl rfl ?_
            refine r_iload_n K 4 dX11_root_76 rfl rfl ?_
            refine r_iload K 5 dX11_root_77 rfl ?_
            refine w_callV K hl H (fun r h => c_X10_rootInParts l h) mC_yX10_rootInParts mM_RX11_306 mI_yX10_rootInParts mS_yX10_rootInParts mZ_RX10 vc10 (Nat.le_of_ble_eq_true rfl) (Nat.le_of_ble_eq_true rfl) np_yX10_rootInParts rfl (Nat.le_of_ble_eq_true rfl) dX11_root_79 (fun r10 H => ?_) ⟨Nat.zero_le _, Nat.zero_le _⟩
            cases H
            obtain ⟨rfl, rfl⟩ := jfin2 D
            exact r_iret K dX11_root_82
          · exact r_sub [] rfl (t_X11_root_69 K hl H D)
      · refine r_ldc_w K (-100000) mc_RX11_305 dX11_root_41 ?_
        cases H
        obtain ⟨rfl, rfl⟩ := jfin2 D
        exact r_iret K dX11_root_44
    · exact r_sub [] rfl (t_X11_root_18 K hl H D)
theorem c_X11_root (l : Launch) {n : Nat} {Y : jY} {v0 : Nat} {v1 : Int32} {v2 : Int32} {v3 : Int32} {v4 : Int32} {μ : jM} {z : Int32 × jM} (H : f_X11_root Y v0 v1 v2 v3 v4 μ = some z) : jC l yX11_root cX11_root 6 (some .int) 4 0 0 [.ref v0, .int v1, .int v2, .int v3, .int v4] n Y μ n Y (some (.int z.1)) z.2 := by
  refine jC_of (by decide +kernel) (Nat.le_of_ble_eq_true rfl) (fun X hl K _ _ _ => ?_)
  obtain ⟨rr, μr⟩ := z
  exact t_X11_root_0 K hl H rfl
/-! RX11 takeSpareTones()I -/
def f_X11_takeSpareTones (Y : jY) (v0 : Nat) (μ : jM) : Option (Int32 × jM) :=
  (jgO Y μ v0 11 11).bind fun x1 =>
  (jrcv Y x1 9 (f_X9_areRight Y x1 μ)).bind fun r2 =>
  if r2.1 = 0 then
    some ((-3 : Int32), r2.2)
  else
    (jgO Y r2.2 v0 11 3).bind fun x3 =>
    (jgO Y r2.2 x3 3 0).bind fun x4 =>
    (jgO Y r2.2 v0 11 11).bind fun x5 =>
    (jrcv Y x4 9 (f_X9_copy Y x4 x5 r2.2)).bind fun μ6 =>
    (jgO Y μ6 v0 11 3).bind fun x7 =>
    (jgO Y μ6 x7 3 0).bind fun x8 =>
    (jgI Y μ6 x8 9 0).bind fun x9 =>
    some (x9, μ6)
set_option maxRecDepth 10000 in
theorem t_X11_takeSpareTones_0 {X : jX} {l : Launch} {n : Nat} {Y : jY} (K : jOK X RX11 cX11_takeSpareTones 1 (some .int) 3) (hl : X.2.1 = l) {rr : Int32} {μr : jM} {v0 : Nat} {μ : jM} {z : (Int32 × jM)} (H : f_X11_takeSpareTones Y v0 μ = some z) (D : z = (rr, μr)) : JW X (jEnd X n Y (some (.int rr)) μr 0 0) 0 0 n Y 0 [(0, .ref v0)] [] μ := by
  unfold f_X11_takeSpareTones at H
  refine r_aload_n K 0 dX11_takeSpareTones_0 rfl rfl ?_
  refine w_getO K vc11 inX11 11 (by decide) mF_RX11_87 dX11_takeSpareTones_1 H (fun x1 H => ?_)
  refine w_callV K hl H (fun r h => c_X9_areRight l h) mC_yX9_areRight mM_RX11_385 mI_yX9_areRight mS_yX9_areRight mZ_RX9 vc9 (Nat.le_of_ble_eq_true rfl) (Nat.le_of_ble_eq_true rfl) np_yX9_areRight rfl (Nat.le_of_ble_eq_true rfl) dX11_takeSpareTones_4 (fun r2 H => ?_) ⟨Nat.zero_le _, Nat.zero_le _⟩
  refine w_if_ne K 13 dX11_takeSpareTones_7 (by decide) H (fun _ H => ?_) (fun _ H => ?_)
  · refine r_aload_n K 0 dX11_takeSpareTones_13 rfl rfl ?_
    refine w_getO K vc11 inX11 3 (by decide) mF_RX11_35 dX11_takeSpareTones_14 H (fun x3 H => ?_)
    refine w_getO K vc3 inX3 0 (by decide) mF_RX11_119 dX11_takeSpareTones_17 H (fun x4 H => ?_)
    refine r_aload_n K 0 dX11_takeSpareTones_20 rfl rfl ?_
    refine w_getO K vc11 inX11 11 (by decide) mF_RX11_87 dX11_takeSpareTones_21 H (fun x5 H => ?_)
    refine w_callV K hl H (fun r h => c_X9_copy l h) mC_yX9_copy mM_RX11_243 mI_yX9_copy mS_yX9_copy mZ_RX9 vc9 (Nat.le_of_ble_eq_true rfl) (Nat.le_of_ble_eq_true rfl) np_yX9_copy rfl (Nat.le_of_ble_eq_true rfl) dX11_takeSpareTones_24 (fun μ6 H => ?_) ⟨Nat.zero_le _, Nat.zero_le _⟩
    refine r_aload_n K 0 dX11_takeSpareTones_27 rfl rfl ?_
    refine w_getO K vc11 inX11 3 (by decide) mF_RX11_35 dX11_takeSpareTones_28 H (fun x7 H => ?_)
    refine w_getO K vc3 inX3 0 (by decide) mF_RX11_119 dX11_takeSpareTones_31 H (fun x8 H => ?_)
    refine w_getI K vc9 inX9 0 (by decide) mF_RX11_126 dX11_takeSpareTones_34 H (fun x9 H => ?_)
    cases H
    obtain ⟨rfl, rfl⟩ := jfin2 D
    exact r_iret K dX11_takeSpareTones_37
  · refine r_bipush (v := -3) K dX11_takeSpareTones_10 (by decide) ?_
    cases H
    obtain ⟨rfl, rfl⟩ := jfin2 D
    exact r_iret K dX11_takeSpareTones_12
theorem c_X11_takeSpareTones (l : Launch) {n : Nat} {Y : jY} {v0 : Nat} {μ : jM} {z : Int32 × jM} (H : f_X11_takeSpareTones Y v0 μ = some z) : jC l yX11_takeSpareTones cX11_takeSpareTones 1 (some .int) 3 0 0 [.ref v0] n Y μ n Y (some (.int z.1)) z.2 := by
  refine jC_of (by decide +kernel) (Nat.le_of_ble_eq_true rfl) (fun X hl K _ _ _ => ?_)
  obtain ⟨rr, μr⟩ := z
  exact t_X11_takeSpareTones_0 K hl H rfl
/-! RX11 fraction(III)J -/
def b_X11_fraction_43 (Y : jY) (μ : jM) : Option (Int64 × jM) :=
  some ((-9223372036854775808 : Int64), μ)
def b_X11_fraction_91 (Y : jY) (t0 : Int64) (μ : jM) : Option (Int64 × jM) :=
  some (t0, μ)
def f_X11_fraction (Y : jY) (v0 : Nat) (v1 : Int32) (v2 : Int32) (v3 : Int32) (μ : jM) : Option (Int64 × jM) :=
  (jrcv Y v0 11 (f_X11_hasTones Y v0 μ)).bind fun r1 =>
  if r1.1 = 0 then
    b_X11_fraction_43 Y r1.2
  else
    (jgO Y r1.2 v0 11 3).bind fun x2 =>
    (jgO Y r1.2 x2 3 0).bind fun x3 =>
    (jgI Y r1.2 x3 9 0).bind fun x4 =>
    (f_X11_within Y v1 ((1 : Int32)) x4 r1.2).bind fun r5 =>
    if r5.1 = 0 then
      b_X11_fraction_43 Y r5.2
    else
      (f_X11_within Y v2 ((-20 : Int32)) ((20 : Int32)) r5.2).bind fun r6 =>
      if r6.1 = 0 then
        b_X11_fraction_43 Y r6.2
      else
        (f_X11_isPart Y v3 r6.2).bind fun r7 =>
        if r7.1 = 0 then
          b_X11_fraction_43 Y r7.2
        else
          (jgO Y r7.2 v0 11 7).bind fun x8 =>
          (jgO Y r7.2 v0 11 3).bind fun x9 =>
          (jgO Y r7.2 x9 3 0).bind fun x10 =>
          (jrcv Y x8 8 (f_X8_rebuild Y x8 x10 r7.2)).bind fun μ11 =>
          (jgO Y μ11 v0 11 7).bind fun x12 =>
          (jgO Y μ11 v0 11 12).bind fun x13 =>
          (jrcv Y x12 8 (f_X8_cutShort Y x12 v1 v2 x13 μ11)).bind fun r14 =>
          if r14.1 = 0 then
            b_X11_fraction_91 Y (-2 : Int64) r14.2
          else
            (jgO Y r14.2 v0 11 12).bind fun x15 =>
            (jrcv Y x15 1 (f_X1_part Y x15 v3 r14.2)).bind fun r16 =>
            b_X11_fraction_91 Y r16.1 r16.2
set_option maxRecDepth 10000 in
theorem t_X11_fraction_43 {X : jX} {l : Launch} {n : Nat} {Y : jY} (K : jOK X RX11 cX11_fraction 4 (some .long) 7) (hl : X.2.1 = l) {rr : Int64} {μr : jM} {μ : jM} {z : (Int64 × jM)} (H : b_X11_fraction_43 Y μ = some z) (D : z = (rr, μr)) : JW X (jEnd X n Y (some (.long rr)) μr 0 0) 0 0 n Y 43 [] [] μ := by
  unfold b_X11_fraction_43 at H
  refine r_ldc2 K (-9223372036854775808) mc_RX11_151 dX11_fraction_43 ?_
  cases H
  obtain ⟨rfl, rfl⟩ := jfin2 D
  exact r_lret K dX11_fraction_46
set_option maxRecDepth 10000 in
theorem t_X11_fraction_91 {X : jX} {l : Launch} {n : Nat} {Y : jY} (K : jOK X RX11 cX11_fraction 4 (some .long) 7) (hl : X.2.1 = l) {rr : Int64} {μr : jM} {t0 : Int64} {μ : jM} {z : (Int64 × jM)} (H : b_X11_fraction_91 Y t0 μ = some z) (D : z = (rr, μr)) : JW X (jEnd X n Y (some (.long rr)) μr 0 0) 0 0 n Y 91 [] [.long t0] μ := by
  unfold b_X11_fraction_91 at H
  cases H
  obtain ⟨rfl, rfl⟩ := jfin2 D
  exact r_lret K dX11_fraction_91
set_option maxRecDepth 10000 in
theorem t_X11_fraction_0 {X : jX} {l : Launch} {n : Nat} {Y : jY} (K : jOK X RX11 cX11_fraction 4 (some .long) 7) (hl : X.2.1 = l) {rr : Int64} {μr : jM} {v0 : Nat} {v1 : Int32} {v2 : Int32} {v3 : Int32} {μ : jM} {z : (Int64 × jM)} (H : f_X11_fraction Y v0 v1 v2 v3 μ = some z) (D : z = (rr, μr)) : JW X (jEnd X n Y (some (.long rr)) μr 0 0) 0 0 n Y 0 [(0, .ref v0), (1, .int v1), (2, .int v2), (3, .int v3)] [] μ := by
  unfold f_X11_fraction at H
  refine r_aload_n K 0 dX11_fraction_0 rfl rfl ?_
  refine w_callV K hl H (fun r h => c_X11_hasTones l h) mC_yX11_hasTones mM_RX11_147 mI_yX11_hasTones mS_yX11_hasTones mZ_RX11 vc11 (Nat.le_of_ble_eq_true rfl) (Nat.le_of_ble_eq_true rfl) np_yX11_hasTones rfl (Nat.le_of_ble_eq_true rfl) dX11_fraction_1 (fun r1 H => ?_) ⟨Nat.zero_le _, Nat.zero_le _⟩
  refine w_if_eq K 43 dX11_fraction_4 (by decide) H (fun _ H => ?_) (fun _ H => ?_)
  · exact r_sub [] rfl (t_X11_fraction_43 K hl H D)
  · refine r_iload_n K 1 dX11_fraction_7 rfl rfl ?_
    refine r_iconst (v := 1) K dX11_fraction_8 (by decide) ?_
    refine r_aload_n K 0 dX11_fraction_9 rfl rfl ?_
    refine w_getO K vc11 inX11 3 (by decide) mF_RX11_35 dX11_fraction_10 H (fun x2 H => ?_)
    refine w_getO K vc3 inX3 0 (by decide) mF_RX11_119 dX11_fraction_13 H (fun x3 H => ?_)
    refine w_getI K vc9 inX9 0 (by decide) mF_RX11_126 dX11_fraction_16 H (fun x4 H => ?_)
    refine w_callS K hl H (fun r h => c_X11_within l h) mC_yX11_within mM_RX11_133 mT_yX11_within mZ_RX11 (Nat.le_of_ble_eq_true rfl) (Nat.le_of_ble_eq_true rfl) np_yX11_within rfl (Nat.le_of_ble_eq_true rfl) dX11_fraction_19 (fun r5 H => ?_) ⟨Nat.zero_le _, Nat.zero_le _⟩
    refine w_if_eq K 43 dX11_fraction_22 (by decide) H (fun _ H => ?_) (fun _ H => ?_)
    · exact r_sub [] rfl (t_X11_fraction_43 K hl H D)
    · refine r_iload_n K 2 dX11_fraction_25 rfl rfl ?_
      refine r_bipush (v := -20) K dX11_fraction_26 (by decide) ?_
      refine r_bipush (v := 20) K dX11_fraction_28 (by decide) ?_
      refine w_callS K hl H (fun r h => c_X11_within l h) mC_yX11_within mM_RX11_133 mT_yX11_within mZ_RX11 (Nat.le_of_ble_eq_true rfl) (Nat.le_of_ble_eq_true rfl) np_yX11_within rfl (Nat.le_of_ble_eq_true rfl) dX11_fraction_30 (fun r6 H => ?_) ⟨Nat.zero_le _, Nat.zero_le _⟩
      refine w_if_eq K 43 dX11_fraction_33 (by decide) H (fun _ H => ?_) (fun _ H => ?_)
      · exact r_sub [] rfl (t_X11_fraction_43 K hl H D)
      · refine r_iload_n K 3 dX11_fraction_36 rfl rfl ?_
        refine w_callS K hl H (fun r h => c_X11_isPart l h) mC_yX11_isPart mM_RX11_170 mT_yX11_isPart mZ_RX11 (Nat.le_of_ble_eq_true rfl) (Nat.le_of_ble_eq_true rfl) np_yX11_isPart rfl (Nat.le_of_ble_eq_true rfl) dX11_fraction_37 (fun r7 H => ?_) ⟨Nat.zero_le _, Nat.zero_le _⟩
        refine w_if_ne K 47 dX11_fraction_40 (by decide) H (fun _ H => ?_) (fun _ H => ?_)
        · refine r_aload_n K 0 dX11_fraction_47 rfl rfl ?_
          refine w_getO K vc11 inX11 7 (by decide) mF_RX11_59 dX11_fraction_48 H (fun x8 H => ?_)
          refine r_aload_n K 0 dX11_fraction_51 rfl rfl ?_
          refine w_getO K vc11 inX11 3 (by decide) mF_RX11_35 dX11_fraction_52 H (fun x9 H => ?_)
          refine w_getO K vc3 inX3 0 (by decide) mF_RX11_119 dX11_fraction_55 H (fun x10 H => ?_)
          refine w_callV K hl H (fun r h => c_X8_rebuild l h) mC_yX8_rebuild mM_RX11_185 mI_yX8_rebuild mS_yX8_rebuild mZ_RX8 vc8 (Nat.le_of_ble_eq_true rfl) (Nat.le_of_ble_eq_true rfl) np_yX8_rebuild rfl (Nat.le_of_ble_eq_true rfl) dX11_fraction_58 (fun μ11 H => ?_) ⟨Nat.zero_le _, Nat.zero_le _⟩
          refine r_aload_n K 0 dX11_fraction_61 rfl rfl ?_
          refine w_getO K vc11 inX11 7 (by decide) mF_RX11_59 dX11_fraction_62 H (fun x12 H => ?_)
          refine r_iload_n K 1 dX11_fraction_65 rfl rfl ?_
          refine r_iload_n K 2 dX11_fraction_66 rfl rfl ?_
          refine r_aload_n K 0 dX11_fraction_67 rfl rfl ?_
          refine w_getO K vc11 inX11 12 (by decide) mF_RX11_94 dX11_fraction_68 H (fun x13 H => ?_)
          refine w_callV K hl H (fun r h => c_X8_cutShort l h) mC_yX8_cutShort mM_RX11_197 mI_yX8_cutShort mS_yX8_cutShort mZ_RX8 vc8 (Nat.le_of_ble_eq_true rfl) (Nat.le_of_ble_eq_true rfl) np_yX8_cutShort rfl (Nat.le_of_ble_eq_true rfl) dX11_fraction_71 (fun r14 H => ?_) ⟨Nat.zero_le _, Nat.zero_le _⟩
          refine w_if_eq K 88 dX11_fraction_74 (by decide) H (fun _ H => ?_) (fun _ H => ?_)
          · refine r_ldc2 K (-2) mc_RX11_201 dX11_fraction_88 ?_
            exact r_sub [] rfl (t_X11_fraction_91 K hl H D)
          · refine r_aload_n K 0 dX11_fraction_77 rfl rfl ?_
            refine w_getO K vc11 inX11 12 (by decide) mF_RX11_94 dX11_fraction_78 H (fun x15 H => ?_)
            refine r_iload_n K 3 dX11_fraction_81 rfl rfl ?_
            refine w_callV K hl H (fun r h => c_X1_part l h) mC_yX1_part mM_RX11_177 mI_yX1_part mS_yX1_part mZ_RX1 vc1 (Nat.le_of_ble_eq_true rfl) (Nat.le_of_ble_eq_true rfl) np_yX1_part rfl (Nat.le_of_ble_eq_true rfl) dX11_fraction_82 (fun r16 H => ?_) ⟨Nat.zero_le _, Nat.zero_le _⟩
            refine r_goto K 91 dX11_fraction_85 (by decide) ?_
            exact r_sub [] rfl (t_X11_fraction_91 K hl H D)
        · exact r_sub [] rfl (t_X11_fraction_43 K hl H D)
theorem c_X11_fraction (l : Launch) {n : Nat} {Y : jY} {v0 : Nat} {v1 : Int32} {v2 : Int32} {v3 : Int32} {μ : jM} {z : Int64 × jM} (H : f_X11_fraction Y v0 v1 v2 v3 μ = some z) : jC l yX11_fraction cX11_fraction 4 (some .long) 7 0 0 [.ref v0, .int v1, .int v2, .int v3] n Y μ n Y (some (.long z.1)) z.2 := by
  refine jC_of (by decide +kernel) (Nat.le_of_ble_eq_true rfl) (fun X hl K _ _ _ => ?_)
  obtain ⟨rr, μr⟩ := z
  exact t_X11_fraction_0 K hl H rfl
/-! RX11 heard(I)I -/
def f_X11_heard (Y : jY) (v0 : Nat) (v1 : Int32) (μ : jM) : Option (Int32 × jM) :=
  (f_X11_isDrawer Y v1 μ).bind fun r1 =>
  if r1.1 = 0 then
    some ((-1 : Int32), r1.2)
  else
    (jgO Y r1.2 v0 11 3).bind fun x2 =>
    (jgO Y r1.2 x2 3 1).bind fun x3 =>
    (jaO Y r1.2 x3 24 v1).bind fun x4 =>
    (jgI Y r1.2 x4 10 0).bind fun x5 =>
    if x5 = 0 then
      some ((-2 : Int32), r1.2)
    else
      (jgO Y r1.2 v0 11 11).bind fun x6 =>
      (jgO Y r1.2 v0 11 3).bind fun x7 =>
      (jgO Y r1.2 x7 3 1).bind fun x8 =>
      (jaO Y r1.2 x8 24 v1).bind fun x9 =>
      (jrcv Y x6 9 (f_X9_hear Y x6 x9 r1.2)).bind fun r10 =>
      if r10.1 = 0 then
        some ((-3 : Int32), r10.2)
      else
        (jgO Y r10.2 v0 11 3).bind fun x11 =>
        (jgO Y r10.2 x11 3 0).bind fun x12 =>
        (jgO Y r10.2 v0 11 11).bind fun x13 =>
        (jrcv Y x12 9 (f_X9_copy Y x12 x13 r10.2)).bind fun μ14 =>
        (jgO Y μ14 v0 11 3).bind fun x15 =>
        (jgO Y μ14 x15 3 0).bind fun x16 =>
        (jgI Y μ14 x16 9 0).bind fun x17 =>
        some (x17, μ14)
set_option maxRecDepth 10000 in
theorem t_X11_heard_0 {X : jX} {l : Launch} {n : Nat} {Y : jY} (K : jOK X RX11 cX11_heard 2 (some .int) 5) (hl : X.2.1 = l) {rr : Int32} {μr : jM} {v0 : Nat} {v1 : Int32} {μ : jM} {z : (Int32 × jM)} (H : f_X11_heard Y v0 v1 μ = some z) (D : z = (rr, μr)) : JW X (jEnd X n Y (some (.int rr)) μr 0 0) 0 0 n Y 0 [(0, .ref v0), (1, .int v1)] [] μ := by
  unfold f_X11_heard at H
  refine r_iload_n K 1 dX11_heard_0 rfl rfl ?_
  refine w_callS K hl H (fun r h => c_X11_isDrawer l h) mC_yX11_isDrawer mM_RX11_252 mT_yX11_isDrawer mZ_RX11 (Nat.le_of_ble_eq_true rfl) (Nat.le_of_ble_eq_true rfl) np_yX11_isDrawer rfl (Nat.le_of_ble_eq_true rfl) dX11_heard_1 (fun r1 H => ?_) ⟨Nat.zero_le _, Nat.zero_le _⟩
  refine w_if_ne K 9 dX11_heard_4 (by decide) H (fun _ H => ?_) (fun _ H => ?_)
  · refine r_aload_n K 0 dX11_heard_9 rfl rfl ?_
    refine w_getO K vc11 inX11 3 (by decide) mF_RX11_35 dX11_heard_10 H (fun x2 H => ?_)
    refine w_getO K vc3 inX3 1 (by decide) mF_RX11_255 dX11_heard_13 H (fun x3 H => ?_)
    refine r_iload_n K 1 dX11_heard_16 rfl rfl ?_
    refine w_aald K 24 rfl rfl dX11_heard_17 H (fun x4 H => ?_)
    refine w_getI K vc10 inX10 0 (by decide) mF_RX11_263 dX11_heard_18 H (fun x5 H => ?_)
    refine w_if_ne K 27 dX11_heard_21 (by decide) H (fun _ H => ?_) (fun _ H => ?_)
    · refine r_aload_n K 0 dX11_heard_27 rfl rfl ?_
      refine w_getO K vc11 inX11 11 (by decide) mF_RX11_87 dX11_heard_28 H (fun x6 H => ?_)
      refine r_aload_n K 0 dX11_heard_31 rfl rfl ?_
      refine w_getO K vc11 inX11 3 (by decide) mF_RX11_35 dX11_heard_32 H (fun x7 H => ?_)
      refine w_getO K vc3 inX3 1 (by decide) mF_RX11_255 dX11_heard_35 H (fun x8 H => ?_)
      refine r_iload_n K 1 dX11_heard_38 rfl rfl ?_
      refine w_aald K 24 rfl rfl dX11_heard_39 H (fun x9 H => ?_)
      refine w_callV K hl H (fun r h => c_X9_hear l h) mC_yX9_hear mM_RX11_379 mI_yX9_hear mS_yX9_hear mZ_RX9 vc9 (Nat.le_of_ble_eq_true rfl) (Nat.le_of_ble_eq_true rfl) np_yX9_hear rfl (Nat.le_of_ble_eq_true rfl) dX11_heard_40 (fun r10 H => ?_) ⟨Nat.zero_le _, Nat.zero_le _⟩
      refine w_if_ne K 49 dX11_heard_43 (by decide) H (fun _ H => ?_) (fun _ H => ?_)
      · refine r_aload_n K 0 dX11_heard_49 rfl rfl ?_
        refine w_getO K vc11 inX11 3 (by decide) mF_RX11_35 dX11_heard_50 H (fun x11 H => ?_)
        refine w_getO K vc3 inX3 0 (by decide) mF_RX11_119 dX11_heard_53 H (fun x12 H => ?_)
        refine r_aload_n K 0 dX11_heard_56 rfl rfl ?_
        refine w_getO K vc11 inX11 11 (by decide) mF_RX11_87 dX11_heard_57 H (fun x13 H => ?_)
        refine w_callV K hl H (fun r h => c_X9_copy l h) mC_yX9_copy mM_RX11_243 mI_yX9_copy mS_yX9_copy mZ_RX9 vc9 (Nat.le_of_ble_eq_true rfl) (Nat.le_of_ble_eq_true rfl) np_yX9_copy rfl (Nat.le_of_ble_eq_true rfl) dX11_heard_60 (fun μ14 H => ?_) ⟨Nat.zero_le _, Nat.zero_le _⟩
        refine r_aload_n K 0 dX11_heard_63 rfl rfl ?_
        refine w_getO K vc11 inX11 3 (by decide) mF_RX11_35 dX11_heard_64 H (fun x15 H => ?_)
        refine w_getO K vc3 inX3 0 (by decide) mF_RX11_119 dX11_heard_67 H (fun x16 H => ?_)
        refine w_getI K vc9 inX9 0 (by decide) mF_RX11_126 dX11_heard_70 H (fun x17 H => ?_)
        cases H
        obtain ⟨rfl, rfl⟩ := jfin2 D
        exact r_iret K dX11_heard_73
      · refine r_bipush (v := -3) K dX11_heard_46 (by decide) ?_
        cases H
        obtain ⟨rfl, rfl⟩ := jfin2 D
        exact r_iret K dX11_heard_48
    · refine r_bipush (v := -2) K dX11_heard_24 (by decide) ?_
      cases H
      obtain ⟨rfl, rfl⟩ := jfin2 D
      exact r_iret K dX11_heard_26
  · refine r_iconst (v := -1) K dX11_heard_7 (by decide) ?_
    cases H
    obtain ⟨rfl, rfl⟩ := jfin2 D
    exact r_iret K dX11_heard_8
theorem c_X11_heard (l : Launch) {n : Nat} {Y : jY} {v0 : Nat} {v1 : Int32} {μ : jM} {z : Int32 × jM} (H : f_X11_heard Y v0 v1 μ = some z) : jC l yX11_heard cX11_heard 2 (some .int) 5 0 0 [.ref v0, .int v1] n Y μ n Y (some (.int z.1)) z.2 := by
  refine jC_of (by decide +kernel) (Nat.le_of_ble_eq_true rfl) (fun X hl K _ _ _ => ?_)
  obtain ⟨rr, μr⟩ := z
  exact t_X11_heard_0 K hl H rfl
/-! RX11 table(II)Z -/
def b_X11_table_16 (Y : jY) (μ : jM) : Option (Int32 × jM) :=
  (jbool ((0 : Int32))).bind fun x1 =>
  some (x1, μ)
def f_X11_table (Y : jY) (v0 : Nat) (v1 : Int32) (v2 : Int32) (μ : jM) : Option (Int32 × jM) :=
  (f_X11_isDrawer Y v1 μ).bind fun r1 =>
  if r1.1 = 0 then
    b_X11_table_16 Y r1.2
  else
    (f_X11_within Y v2 ((1 : Int32)) ((5 : Int32)) r1.2).bind fun r2 =>
    if r2.1 = 0 then
      b_X11_table_16 Y r2.2
    else
      (jgO Y r2.2 v0 11 3).bind fun x3 =>
      (jgO Y r2.2 x3 3 1).bind fun x4 =>
      (jaO Y r2.2 x4 24 v1).bind fun x5 =>
      (jrcv Y x5 10 (f_X10_begin Y x5 v2 r2.2)).bind fun μ6 =>
      (jbool ((1 : Int32))).bind fun x7 =>
      some (x7, μ6)
set_option maxRecDepth 10000 in
theorem t_X11_table_16 {X : jX} {l : Launch} {n : Nat} {Y : jY} (K : jOK X RX11 cX11_table 3 (some .boolean) 3) (hl : X.2.1 = l) {rr : Int32} {μr : jM} {μ : jM} {z : (Int32 × jM)} (H : b_X11_table_16 Y μ = some z) (D : z = (rr, μr)) : JW X (jEnd X n Y (some (.int rr)) μr 0 0) 0 0 n Y 16 [] [] μ := by
  unfold b_X11_table_16 at H
  refine r_iconst (v := 0) K dX11_table_16 (by decide) ?_
  refine w_zret K dX11_table_17 H (fun hz H => ?_)
  cases H
  obtain ⟨rfl, rfl⟩ := jfin2 D
  exact r_zret K hz dX11_table_17
set_option maxRecDepth 10000 in
theorem t_X11_table_0 {X : jX} {l : Launch} {n : Nat} {Y : jY} (K : jOK X RX11 cX11_table 3 (some .boolean) 3) (hl : X.2.1 = l) {rr : Int32} {μr : jM} {v0 : Nat} {v1 : Int32} {v2 : Int32} {μ : jM} {z : (Int32 × jM)} (H : f_X11_table Y v0 v1 v2 μ = some z) (D : z = (rr, μr)) : JW X (jEnd X n Y (some (.int rr)) μr 0 0) 0 0 n Y 0 [(0, .ref v0), (1, .int v1), (2, .int v2)] [] μ := by
  unfold f_X11_table at H
  refine r_iload_n K 1 dX11_table_0 rfl rfl ?_
  refine w_callS K hl H (fun r h => c_X11_isDrawer l h) mC_yX11_isDrawer mM_RX11_252 mT_yX11_isDrawer mZ_RX11 (Nat.le_of_ble_eq_true rfl) (Nat.le_of_ble_eq_true rfl) np_yX11_isDrawer rfl (Nat.le_of_ble_eq_true rfl) dX11_table_1 (fun r1 H => ?_) ⟨Nat.zero_le _, Nat.zero_le _⟩
  refine w_if_eq K 16 dX11_table_4 (by decide) H (fun _ H => ?_) (fun _ H => ?_)
  · exact r_sub [] rfl (t_X11_table_16 K hl H D)
  · refine r_iload_n K 2 dX11_table_7 rfl rfl ?_
    refine r_iconst (v := 1) K dX11_table_8 (by decide) ?_
    refine r_iconst (v := 5) K dX11_table_9 (by decide) ?_
    refine w_callS K hl H (fun r h => c_X11_within l h) mC_yX11_within mM_RX11_133 mT_yX11_within mZ_RX11 (Nat.le_of_ble_eq_true rfl) (Nat.le_of_ble_eq_true rfl) np_yX11_within rfl (Nat.le_of_ble_eq_true rfl) dX11_table_10 (fun r2 H => ?_) ⟨Nat.zero_le _, Nat.zero_le _⟩
    refine w_if_ne K 18 dX11_table_13 (by decide) H (fun _ H => ?_) (fun _ H => ?_)
    · refine r_aload_n K 0 dX11_table_18 rfl rfl ?_
      refine w_getO K vc11 inX11 3 (by decide) mF_RX11_35 dX11_table_19 H (fun x3 H => ?_)
      refine w_getO K vc3 inX3 1 (by decide) mF_RX11_255 dX11_table_22 H (fun x4 H => ?_)
      refine r_iload_n K 1 dX11_table_25 rfl rfl ?_
      refine w_aald K 24 rfl rfl dX11_table_26 H (fun x5 H => ?_)
      refine r_iload_n K 2 dX11_table_27 rfl rfl ?_
      refine w_callV K hl H (fun r h => c_X10_begin l h) mC_yX10_begin mM_RX11_259 mI_yX10_begin mS_yX10_begin mZ_RX10 vc10 (Nat.le_of_ble_eq_true rfl) (Nat.le_of_ble_eq_true rfl) np_yX10_begin rfl (Nat.le_of_ble_eq_true rfl) dX11_table_28 (fun μ6 H => ?_) ⟨Nat.zero_le _, Nat.zero_le _⟩
      refine r_iconst (v := 1) K dX11_table_31 (by decide) ?_
      refine w_zret K dX11_table_32 H (fun hz H => ?_)
      cases H
      obtain ⟨rfl, rfl⟩ := jfin2 D
      exact r_zret K hz dX11_table_32
    · exact r_sub [] rfl (t_X11_table_16 K hl H D)
theorem c_X11_table (l : Launch) {n : Nat} {Y : jY} {v0 : Nat} {v1 : Int32} {v2 : Int32} {μ : jM} {z : Int32 × jM} (H : f_X11_table Y v0 v1 v2 μ = some z) : jC l yX11_table cX11_table 3 (some .boolean) 3 0 0 [.ref v0, .int v1, .int v2] n Y μ n Y (some (.int z.1)) z.2 := by
  refine jC_of (by decide +kernel) (Nat.le_of_ble_eq_true rfl) (fun X hl K _ _ _ => ?_)
  obtain ⟨rr, μr⟩ := z
  exact t_X11_table_0 K hl H rfl
/-! RX11 inverse(IIII)J -/
def b_X11_inverse_34 (Y : jY) (μ : jM) : Option (Int64 × jM) :=
  some ((-9223372036854775808 : Int64), μ)
def b_X11_inverse_74 (Y : jY) (t0 : Int64) (μ : jM) : Option (Int64 × jM) :=
  some (t0, μ)
def f_X11_inverse (Y : jY) (v0 : Nat) (v1 : Int32) (v2 : Int32) (v3 : Int32) (v4 : Int32) (μ : jM) : Option (Int64 × jM) :=
  (jrcv Y v0 11 (f_X11_isFilled Y v0 v1 μ)).bind fun r1 =>
  if r1.1 = 0 then
    b_X11_inverse_34 Y r1.2
  else
    (jrcv Y v0 11 (f_X11_isRow Y v0 v1 v2 r1.2)).bind fun r2 =>
    if r2.1 = 0 then
      b_X11_inverse_34 Y r2.2
    else
      (jrcv Y v0 11 (f_X11_isRow Y v0 v1 v3 r2.2)).bind fun r3 =>
      if r3.1 = 0 then
        b_X11_inverse_34 Y r3.2
      else
        (f_X11_isPart Y v4 r3.2).bind fun r4 =>
        if r4.1 = 0 then
          b_X11_inverse_34 Y r4.2
        else
          (jgO Y r4.2 v0 11 3).bind fun x5 =>
          (jgO Y r4.2 x5 3 1).bind fun x6 =>
          (jaO Y r4.2 x6 24 v1).bind fun x7 =>
          (jgO Y r4.2 v0 11 12).bind fun x8 =>
          (jrcv Y x7 10 (f_X10_invert Y x7 v2 v3 x8 r4.2)).bind fun r9 =>
          if r9.1 = 0 then
            b_X11_inverse_74 Y (-2 : Int64) r9.2
          else
            (jgO Y r9.2 v0 11 12).bind fun x10 =>
            (jrcv Y x10 1 (f_X1_part Y x10 v4 r9.2)).bind fun r11 =>
            b_X11_inverse_74 Y r11.1 r11.2
set_option maxRecDepth 10000 in
theorem t_X11_inverse_34 {X : jX} {l : Launch} {n : Nat} {Y : jY} (K : jOK X RX11 cX11_inverse 5 (some .long) 5) (hl : X.2.1 = l) {rr : Int64} {μr : jM} {μ : jM} {z : (Int64 × jM)} (H : b_X11_inverse_34 Y μ = some z) (D : z = (rr, μr)) : JW X (jEnd X n Y (some (.long rr)) μr 0 0) 0 0 n Y 34 [] [] μ := by
  unfold b_X11_inverse_34 at H
  refine r_ldc2 K (-9223372036854775808) mc_RX11_151 dX11_inverse_34 ?_
  cases H
  obtain ⟨rfl, rfl⟩ := jfin2 D
  exact r_lret K dX11_inverse_37
set_option maxRecDepth 10000 in
theorem t_X11_inverse_74 {X : jX} {l : Launch} {n : Nat} {Y : jY} (K : jOK X RX11 cX11_inverse 5 (some .long) 5) (hl : X.2.1 = l) {rr : Int64} {μr : jM} {t0 : Int64} {μ : jM} {z : (Int64 × jM)} (H : b_X11_inverse_74 Y t0 μ = some z) (D : z = (rr, μr)) : JW X (jEnd X n Y (some (.long rr)) μr 0 0) 0 0 n Y 74 [] [.long t0] μ := by
  unfold b_X11_inverse_74 at H
  cases H
  obtain ⟨rfl, rfl⟩ := jfin2 D
  exact r_lret K dX11_inverse_74
set_option maxRecDepth 10000 in
theorem t_X11_inverse_0 {X : jX} {l : Launch} {n : Nat} {Y : jY} (K : jOK X RX11 cX11_inverse 5 (some .long) 5) (hl : X.2.1 = l) {rr : Int64} {μr : jM} {v0 : Nat} {v1 : Int32} {v2 : Int32} {v3 : Int32} {v4 : Int32} {μ : jM} {z : (Int64 × jM)} (H : f_X11_inverse Y v0 v1 v2 v3 v4 μ = some z) (D : z = (rr, μr)) : JW X (jEnd X n Y (some (.long rr)) μr 0 0) 0 0 n Y 0 [(0, .ref v0), (1, .int v1), (2, .int v2), (3, .int v3), (4, .int v4)] [] μ := by
  unfold f_X11_inverse at H
  refine r_aload_n K 0 dX11_inverse_0 rfl rfl ?_
  refine r_iload_n K 1 dX11_inverse_1 rfl rfl ?_
  refine w_callV K hl H (fun r h => c_X11_isFilled l h) mC_yX11_isFilled mM_RX11_285 mI_yX11_isFilled mS_yX11_isFilled mZ_RX11 vc11 (Nat.le_of_ble_eq_true rfl) (Nat.le_of_ble_eq_true rfl) np_yX11_isFilled rfl (Nat.le_of_ble_eq_true rfl) dX11_inverse_2 (fun r1 H => ?_) ⟨Nat.zero_le _, Nat.zero_le _⟩
  refine w_if_eq K 34 dX11_inverse_5 (by decide) H (fun _ H => ?_) (fun _ H => ?_)
  · exact r_sub [] rfl (t_X11_inverse_34 K hl H D)
  · refine r_aload_n K 0 dX11_inverse_8 rfl rfl ?_
    refine r_iload_n K 1 dX11_inverse_9 rfl rfl ?_
    refine r_iload_n K 2 dX11_inverse_10 rfl rfl ?_
    refine w_callV K hl H (fun r h => c_X11_isRow l h) mC_yX11_isRow mM_RX11_312 mI_yX11_isRow mS_yX11_isRow mZ_RX11 vc11 (Nat.le_of_ble_eq_true rfl) (Nat.le_of_ble_eq_true rfl) np_yX11_isRow rfl (Nat.le_of_ble_eq_true rfl) dX11_inverse_11 (fun r2 H => ?_) ⟨Nat.zero_le _, Nat.zero_le _⟩
    refine w_if_eq K 34 dX11_inverse_14 (by decide) H (fun _ H => ?_) (fun _ H => ?_)
    · exact r_sub [] rfl (t_X11_inverse_34 K hl H D)
    · refine r_aload_n K 0 dX11_inverse_17 rfl rfl ?_
      refine r_iload_n K 1 dX11_inverse_18 rfl rfl ?_
      refine r_iload_n K 3 dX11_inverse_19 rfl rfl ?_
      refine w_callV K hl H (fun r h => c_X11_isRow l h) mC_yX11_isRow mM_RX11_312 mI_yX11_isRow mS_yX11_isRow mZ_RX11 vc11 (Nat.le_of_ble_eq_true rfl) (Nat.le_of_ble_eq_true rfl) np_yX11_isRow rfl (Nat.le_of_ble_eq_true rfl) dX11_inverse_20 (fun r3 H => ?_) ⟨Nat.zero_le _, Nat.zero_le _⟩
      refine w_if_eq K 34 dX11_inverse_23 (by decide) H (fun _ H => ?_) (fun _ H => ?_)
      · exact r_sub [] rfl (t_X11_inverse_34 K hl H D)
      · refine r_iload K 4 dX11_inverse_26 rfl ?_
        refine w_callS K hl H (fun r h => c_X11_isPart l h) mC_yX11_isPart mM_RX11_170 mT_yX11_isPart mZ_RX11 (Nat.le_of_ble_eq_true rfl) (Nat.le_of_ble_eq_true rfl) np_yX11_isPart rfl (Nat.le_of_ble_eq_true rfl) dX11_inverse_28 (fun r4 H => ?_) ⟨Nat.zero_le _, Nat.zero_le _⟩
        refine w_if_ne K 38 dX11_inverse_31 (by decide) H (fun _ H => ?_) (fun _ H => ?_)
        · refine r_aload_n K 0 dX11_inverse_38 rfl rfl ?_
          refine w_getO K vc11 inX11 3 (by decide) mF_RX11_35 dX11_inverse_39 H (fun x5 H => ?_)
          refine w_getO K vc3 inX3 1 (by decide) mF_RX11_255 dX11_inverse_42 H (fun x6 H => ?_)
          refine r_iload_n K 1 dX11_inverse_45 rfl rfl ?_
          refine w_aald K 24 rfl rfl dX11_inverse_46 H (fun x7 H => ?_)
          refine r_iload_n K 2 dX11_inverse_47 rfl rfl ?_
          refine r_iload_n K 3 dX11_inverse_48 rfl rfl ?_
          refine r_aload_n K 0 dX11_inverse_49 rfl rfl ?_
          refine w_getO K vc11 inX11 12 (by decide) mF_RX11_94 dX11_inverse_50 H (fun x8 H => ?_)
          refine w_callV K hl H (fun r h => c_X10_invert l h) mC_yX10_invert mM_RX11_316 mI_yX10_invert mS_yX10_invert mZ_RX10 vc10 (Nat.le_of_ble_eq_true rfl) (Nat.le_of_ble_eq_true rfl) np_yX10_invert rfl (Nat.le_of_ble_eq_true rfl) dX11_inverse_53 (fun r9 H => ?_) ⟨Nat.zero_le _, Nat.zero_le _⟩
          refine w_if_eq K 71 dX11_inverse_56 (by decide) H (fun _ H => ?_) (fun _ H => ?_)
          · refine r_ldc2 K (-2) mc_RX11_201 dX11_inverse_71 ?_
            exact r_sub [] rfl (t_X11_inverse_74 K hl H D)
          · refine r_aload_n K 0 dX11_inverse_59 rfl rfl ?_
            refine w_getO K vc11 inX11 12 (by decide) mF_RX11_94 dX11_inverse_60 H (fun x10 H => ?_)
            refine r_iload K 4 dX11_inverse_63 rfl ?_
            refine w_callV K hl H (fun r h => c_X1_part l h) mC_yX1_part mM_RX11_177 mI_yX1_part mS_yX1_part mZ_RX1 vc1 (Nat.le_of_ble_eq_true rfl) (Nat.le_of_ble_eq_true rfl) np_yX1_part rfl (Nat.le_of_ble_eq_true rfl) dX11_inverse_65 (fun r11 H => ?_) ⟨Nat.zero_le _, Nat.zero_le _⟩
            refine r_goto K 74 dX11_inverse_68 (by decide) ?_
            exact r_sub [] rfl (t_X11_inverse_74 K hl H D)
        · exact r_sub [] rfl (t_X11_inverse_34 K hl H D)
theorem c_X11_inverse (l : Launch) {n : Nat} {Y : jY} {v0 : Nat} {v1 : Int32} {v2 : Int32} {v3 : Int32} {v4 : Int32} {μ : jM} {z : Int64 × jM} (H : f_X11_inverse Y v0 v1 v2 v3 v4 μ = some z) : jC l yX11_inverse cX11_inverse 5 (some .long) 5 0 0 [.ref v0, .int v1, .int v2, .int v3, .int v4] n Y μ n Y (some (.long z.1)) z.2 := by
  refine jC_of (by decide +kernel) (Nat.le_of_ble_eq_true rfl) (fun X hl K _ _ _ => ?_)
  obtain ⟨rr, μr⟩ := z
  exact t_X11_inverse_0 K hl H rfl
/-! RX11 nearest(II)I -/
def b_X11_nearest_17 (Y : jY) (μ : jM) : Option (Int32 × jM) :=
  some ((-1 : Int32), μ)
def b_X11_nearest_57 (Y : jY) (t0 : Int32) (μ : jM) : Option (Int32 × jM) :=
  some (t0, μ)
def f_X11_nearest (Y : jY) (v0 : Nat) (v1 : Int32) (v2 : Int32) (μ : jM) : Option (Int32 × jM) :=
  (f_X11_isDrawer Y v1 μ).bind fun r1 =>
  if r1.1 = 0 then
    b_X11_nearest_17 Y r1.2
  else
    (f_X11_within Y v2 ((1 : Int32)) ((50 : Int32)) r1.2).bind fun r2 =>
    if r2.1 = 0 then
      b_X11_nearest_17 Y r2.2
    else
      (jgO Y r2.2 v0 11 3).bind fun x3 =>
      (jgO Y r2.2 x3 3 1).bind fun x4 =>
      (jaO Y r2.2 x4 24 v1).bind fun x5 =>
      (jgI Y r2.2 x5 10 0).bind fun x6 =>
      if x6 = 0 then
        some ((-2 : Int32), r2.2)
      else
        (jgI Y r2.2 x5 10 0).bind fun x7 =>
        if x7 = ((1 : Int32)) then
          b_X11_nearest_57 Y (-3 : Int32) r2.2
        else
          (jrcv Y x5 10 (f_X10_leastStep Y x5 v2 r2.2)).bind fun r8 =>
          b_X11_nearest_57 Y r8.1 r8.2
set_option maxRecDepth 10000 in
theorem t_X11_nearest_17 {X : jX} {l : Launch} {n : Nat} {Y : jY} (K : jOK X RX11 cX11_nearest 4 (some .int) 5) (hl : X.2.1 = l) {rr : Int32} {μr : jM} {μ : jM} {z : (Int32 × jM)} (H : b_X11_nearest_17 Y μ = some z) (D : z = (rr, μr)) : JW X (jEnd X n Y (some (.int rr)) μr 0 0) 0 0 n Y 17 [] [] μ := by
  unfold b_X11_nearest_17 at H
  refine r_iconst (v := -1) K dX11_nearest_17 (by decide) ?_
  cases H
  obtain ⟨rfl, rfl⟩ := jfin2 D
  exact r_iret K dX11_nearest_18
set_option maxRecDepth 10000 in
theorem t_X11_nearest_57 {X : jX} {l : Launch} {n : Nat} {Y : jY} (K : jOK X RX11 cX11_nearest 4 (some .int) 5) (hl : X.2.1 = l) {rr : Int32} {μr : jM} {t0 : Int32} {μ : jM} {z : (Int32 × jM)} (H : b_X11_nearest_57 Y t0 μ = some z) (D : z = (rr, μr)) : JW X (jEnd X n Y (some (.int rr)) μr 0 0) 0 0 n Y 57 [] [.int t0] μ := by
  unfold b_X11_nearest_57 at H
  cases H
  obtain ⟨rfl, rfl⟩ := jfin2 D
  exact r_iret K dX11_nearest_57
set_option maxRecDepth 10000 in
theorem t_X11_nearest_0 {X : jX} {l : Launch} {n : Nat} {Y : jY} (K : jOK X RX11 cX11_nearest 4 (some .int) 5) (hl : X.2.1 = l) {rr : Int32} {μr : jM} {v0 : Nat} {v1 : Int32} {v2 : Int32} {μ : jM} {z : (Int32 × jM)} (H : f_X11_nearest Y v0 v1 v2 μ = some z) (D : z = (rr, μr)) : JW X (jEnd X n Y (some (.int rr)) μr 0 0) 0 0 n Y 0 [(0, .ref v0), (1, .int v1), (2, .int v2)] [] μ := by
  unfold f_X11_nearest at H
  refine r_iload_n K 1 dX11_nearest_0 rfl rfl ?_
  refine w_callS K hl H (fun r h => c_X11_isDrawer l h) mC_yX11_isDrawer mM_RX11_252 mT_yX11_isDrawer mZ_RX11 (Nat.le_of_ble_eq_true rfl) (Nat.le_of_ble_eq_true rfl) np_yX11_isDrawer rfl (Nat.le_of_ble_eq_true rfl) dX11_nearest_1 (fun r1 H => ?_) ⟨Nat.zero_le _, Nat.zero_le _⟩
  refine w_if_eq K 17 dX11_nearest_4 (by decide) H (fun _ H => ?_) (fun _ H => ?_)
  · exact r_sub [] rfl (t_X11_nearest_17 K hl H D)
  · refine r_iload_n K 2 dX11_nearest_7 rfl rfl ?_
    refine r_iconst (v := 1) K dX11_nearest_8 (by decide) ?_
    refine r_bipush (v := 50) K dX11_nearest_9 (by decide) ?_
    refine w_callS K hl H (fun r h => c_X11_within l h) mC_yX11_within mM_RX11_133 mT_yX11_within mZ_RX11 (Nat.le_of_ble_eq_true rfl) (Nat.le_of_ble_eq_true rfl) np_yX11_within rfl (Nat.le_of_ble_eq_true rfl) dX11_nearest_11 (fun r2 H => ?_) ⟨Nat.zero_le _, Nat.zero_le _⟩
    refine w_if_ne K 19 dX11_nearest_14 (by decide) H (fun _ H => ?_) (fun _ H => ?_)
    · refine r_aload_n K 0 dX11_nearest_19 rfl rfl ?_
      refine w_getO K vc11 inX11 3 (by decide) mF_RX11_35 dX11_nearest_20 H (fun x3 H => ?_)
      refine w_getO K vc3 inX3 1 (by decide) mF_RX11_255 dX11_nearest_23 H (fun x4 H => ?_)
      refine r_iload_n K 1 dX11_nearest_26 rfl rfl ?_
      refine w_aald K 24 rfl rfl dX11_nearest_27 H (fun x5 H => ?_)
      refine r_astore_n K [(3, .ref _), (0, .ref _), (1, .int _), (2, .int _)] dX11_nearest_28 rfl (by decide) rfl ?_
      refine r_aload_n K 0 dX11_nearest_29 rfl rfl ?_
      refine w_getI K vc10 inX10 0 (by decide) mF_RX11_263 dX11_nearest_30 H (fun x6 H => ?_)
      refine w_if_ne K 39 dX11_nearest_33 (by decide) H (fun _ H => ?_) (fun _ H => ?_)
      · refine r_aload_n K 0 dX11_nearest_39 rfl rfl ?_
        refine w_getI K vc10 inX10 0 (by decide) mF_RX11_263 dX11_nearest_40 H (fun x7 H => ?_)
        refine r_iconst (v := 1) K dX11_nearest_43 (by decide) ?_
        refine w_icmp_ne K 52 dX11_nearest_44 (by decide) H (fun _ H => ?_) (fun _ H => ?_)
        · refine r_aload_n K 0 dX11_nearest_52 rfl rfl ?_
          refine r_iload_n K 3 dX11_nearest_53 rfl rfl ?_
          refine w_callV K hl H (fun r h => c_X10_leastStep l h) mC_yX10_leastStep mM_RX11_361 mI_yX10_leastStep mS_yX10_leastStep mZ_RX10 vc10 (Nat.le_of_ble_eq_true rfl) (Nat.le_of_ble_eq_true rfl) np_yX10_leastStep rfl (Nat.le_of_ble_eq_true rfl) dX11_nearest_54 (fun r8 H => ?_) ⟨Nat.zero_le _, Nat.zero_le _⟩
          exact r_sub [] rfl (t_X11_nearest_57 K hl H D)
        · refine r_bipush (v := -3) K dX11_nearest_47 (by decide) ?_
          refine r_goto K 57 dX11_nearest_49 (by decide) ?_
          exact r_sub [] rfl (t_X11_nearest_57 K hl H D)
      · refine r_bipush (v := -2) K dX11_nearest_36 (by decide) ?_
        cases H
        obtain ⟨rfl, rfl⟩ := jfin2 D
        exact r_iret K dX11_nearest_38
    · exact r_sub [] rfl (t_X11_nearest_17 K hl H D)
theorem c_X11_nearest (l : Launch) {n : Nat} {Y : jY} {v0 : Nat} {v1 : Int32} {v2 : Int32} {μ : jM} {z : Int32 × jM} (H : f_X11_nearest Y v0 v1 v2 μ = some z) : jC l yX11_nearest cX11_nearest 4 (some .int) 5 0 0 [.ref v0, .int v1, .int v2] n Y μ n Y (some (.int z.1)) z.2 := by
  refine jC_of (by decide +kernel) (Nat.le_of_ble_eq_true rfl) (fun X hl K _ _ _ => ?_)
  obtain ⟨rr, μr⟩ := z
  exact t_X11_nearest_0 K hl H rfl
/-! RX11 walks(IIII)J -/
def b_X11_walks_37 (Y : jY) (μ : jM) : Option (Int64 × jM) :=
  some ((-9223372036854775808 : Int64), μ)
def f_X11_walks (Y : jY) (v0 : Nat) (v1 : Int32) (v2 : Int32) (v3 : Int32) (v4 : Int32) (μ : jM) : Option (Int64 × jM) :=
  (jrcv Y v0 11 (f_X11_isFilled Y v0 v1 μ)).bind fun r1 =>
  if r1.1 = 0 then
    b_X11_walks_37 Y r1.2
  else
    (f_X11_within Y v2 ((0 : Int32)) ((8 : Int32)) r1.2).bind fun r2 =>
    if r2.1 = 0 then
      b_X11_walks_37 Y r2.2
    else
      (jrcv Y v0 11 (f_X11_isRow Y v0 v1 v3 r2.2)).bind fun r3 =>
      if r3.1 = 0 then
        b_X11_walks_37 Y r3.2
      else
        (jrcv Y v0 11 (f_X11_isRow Y v0 v1 v4 r3.2)).bind fun r4 =>
        if r4.1 = 0 then
          b_X11_walks_37 Y r4.2
        else
          (jgO Y r4.2 v0 11 9).bind fun x5 =>
          (jgO Y r4.2 v0 11 3).bind fun x6 =>
          (jgO Y r4.2 x6 3 1).bind fun x7 =>
          (jaO Y r4.2 x7 24 v1).bind fun x8 =>
          (jrcv Y x5 4 (f_X4_walk Y x5 x8 v2 v3 v4 r4.2)).bind fun r9 =>
          some (r9.1, r9.2)
set_option maxRecDepth 10000 in
theorem t_X11_walks_37 {X : jX} {l : Launch} {n : Nat} {Y : jY} (K : jOK X RX11 cX11_walks 5 (some .long) 5) (hl : X.2.1 = l) {rr : Int64} {μr : jM} {μ : jM} {z : (Int64 × jM)} (H : b_X11_walks_37 Y μ = some z) (D : z = (rr, μr)) : JW X (jEnd X n Y (some (.long rr)) μr 0 0) 0 0 n Y 37 [] [] μ := by
  unfold b_X11_walks_37 at H
  refine r_ldc2 K (-9223372036854775808) mc_RX11_151 dX11_walks_37 ?_
  cases H
  obtain ⟨rfl, rfl⟩ := jfin2 D
  exact r_lret K dX11_walks_40
set_option maxRecDepth 10000 in
theorem t_X11_walks_0 {X : jX} {l : Launch} {n : Nat} {Y : jY} (K : jOK X RX11 cX11_walks 5 (some .long) 5) (hl : X.2.1 = l) {rr : Int64} {μr : jM} {v0 : Nat} {v1 : Int32} {v2 : Int32} {v3 : Int32} {v4 : Int32} {μ : jM} {z : (Int64 × jM)} (H : f_X11_walks Y v0 v1 v2 v3 v4 μ = some z) (D : z = (rr, μr)) : JW X (jEnd X n Y (some (.long rr)) μr 0 0) 0 0 n Y 0 [(0, .ref v0), (1, .int v1), (2, .int v2), (3, .int v3), (4, .int v4)] [] μ := by
  unfold f_X11_walks at H
  refine r_aload_n K 0 dX11_walks_0 rfl rfl ?_
  refine r_iload_n K 1 dX11_walks_1 rfl rfl ?_
  refine w_callV K hl H (fun r h => c_X11_isFilled l h) mC_yX11_isFilled mM_RX11_285 mI_yX11_isFilled mS_yX11_isFilled mZ_RX11 vc11 (Nat.le_of_ble_eq_true rfl) (Nat.le_of_ble_eq_true rfl) np_yX11_isFilled rfl (Nat.le_of_ble_eq_true rfl) dX11_walks_2 (fun r1 H => ?_) ⟨Nat.zero_le _, Nat.zero_le _⟩
  refine w_if_eq K 37 dX11_walks_5 (by decide) H (fun _ H => ?_) (fun _ H => ?_)
  · exact r_sub [] rfl (t_X11_walks_37 K hl H D)
  · refine r_iload_n K 2 dX11_walks_8 rfl rfl ?_
    refine r_iconst (v := 0) K dX11_walks_9 (by decide) ?_
    refine r_bipush (v := 8) K dX11_walks_10 (by decide) ?_
    refine w_callS K hl H (fun r h => c_X11_within l h) mC_yX11_within mM_RX11_133 mT_yX11_within mZ_RX11 (Nat.le_of_ble_eq_true rfl) (Nat.le_of_ble_eq_true rfl) np_yX11_within rfl (Nat.le_of_ble_eq_true rfl) dX11_walks_12 (fun r2 H => ?_) ⟨Nat.zero_le _, Nat.zero_le _⟩
    refine w_if_eq K 37 dX11_walks_15 (by decide) H (fun _ H => ?_) (fun _ H => ?_)
    · exact r_sub [] rfl (t_X11_walks_37 K hl H D)
    · refine r_aload_n K 0 dX11_walks_18 rfl rfl ?_
      refine r_iload_n K 1 dX11_walks_19 rfl rfl ?_
      refine r_iload_n K 3 dX11_walks_20 rfl rfl ?_
      refine w_callV K hl H (fun r h => c_X11_isRow l h) mC_yX11_isRow mM_RX11_312 mI_yX11_isRow mS_yX11_isRow mZ_RX11 vc11 (Nat.le_of_ble_eq_true rfl) (Nat.le_of_ble_eq_true rfl) np_yX11_isRow rfl (Nat.le_of_ble_eq_true rfl) dX11_walks_21 (fun r3 H => ?_) ⟨Nat.zero_le _, Nat.zero_le _⟩
      refine w_if_eq K 37 dX11_walks_24 (by decide) H (fun _ H => ?_) (fun _ H => ?_)
      · exact r_sub [] rfl (t_X11_walks_37 K hl H D)
      · refine r_aload_n K 0 dX11_walks_27 rfl rfl ?_
        refine r_iload_n K 1 dX11_walks_28 rfl rfl ?_
        refine r_iload K 4 dX11_walks_29 rfl ?_
        refine w_callV K hl H (fun r h => c_X11_isRow l h) mC_yX11_isRow mM_RX11_312 mI_yX11_isRow mS_yX11_isRow mZ_RX11 vc11 (Nat.le_of_ble_eq_true rfl) (Nat.le_of_ble_eq_true rfl) np_yX11_isRow rfl (Nat.le_of_ble_eq_true rfl) dX11_walks_31 (fun r4 H => ?_) ⟨Nat.zero_le _, Nat.zero_le _⟩
        refine w_if_ne K 41 dX11_walks_34 (by decide) H (fun _ H => ?_) (fun _ H => ?_)
        · refine r_aload_n K 0 dX11_walks_41 rfl rfl ?_
          refine w_getO K vc11 inX11 9 (by decide) mF_RX11_73 dX11_walks_42 H (fun x5 H => ?_)
          refine r_aload_n K 0 dX11_walks_45 rfl rfl ?_
          refine w_getO K vc11 inX11 3 (by decide) mF_RX11_35 dX11_walks_46 H (fun x6 H => ?_)
          refine w_getO K vc3 inX3 1 (by decide) mF_RX11_255 dX11_walks_49 H (fun x7 H => ?_)
          refine r_iload_n K 1 dX11_walks_52 rfl rfl ?_
          refine w_aald K 24 rfl rfl dX11_walks_53 H (fun x8 H => ?_)
          refine r_iload_n K 2 dX11_walks_54 rfl rfl ?_
          refine r_iload_n K 3 dX11_walks_55 rfl rfl ?_
          refine r_iload K 4 dX11_walks_56 rfl ?_
          refine w_callV K hl H (fun r h => c_X4_walk l h) mC_yX4_walk mM_RX11_339 mI_yX4_walk mS_yX4_walk mZ_RX4 vc4 (Nat.le_of_ble_eq_true rfl) (Nat.le_of_ble_eq_true rfl) np_yX4_walk rfl (Nat.le_of_ble_eq_true rfl) dX11_walks_58 (fun r9 H => ?_) ⟨Nat.zero_le _, Nat.zero_le _⟩
          cases H
          obtain ⟨rfl, rfl⟩ := jfin2 D
          exact r_lret K dX11_walks_61
        · exact r_sub [] rfl (t_X11_walks_37 K hl H D)
theorem c_X11_walks (l : Launch) {n : Nat} {Y : jY} {v0 : Nat} {v1 : Int32} {v2 : Int32} {v3 : Int32} {v4 : Int32} {μ : jM} {z : Int64 × jM} (H : f_X11_walks Y v0 v1 v2 v3 v4 μ = some z) : jC l yX11_walks cX11_walks 5 (some .long) 5 0 0 [.ref v0, .int v1, .int v2, .int v3, .int v4] n Y μ n Y (some (.long z.1)) z.2 := by
  refine jC_of (by decide +kernel) (Nat.le_of_ble_eq_true rfl) (fun X hl K _ _ _ => ?_)
  obtain ⟨rr, μr⟩ := z
  exact t_X11_walks_0 K hl H rfl
/-! RX11 census(II)I -/
def b_X11_census_20 (Y : jY) (μ : jM) : Option (Int32 × jM) :=
  some ((-1 : Int32), μ)
def b_X11_census_132 (Y : jY) (v0 : Nat) (v1 : Int32) (v2 : Int32) (v3 : Int32) (v4 : Int32) (μ : jM) : Option ((Int32 × Int32 × jM) ⊕ (Int32 × jM)) :=
  some (.inl (v3, (v4 + (1 : Int32)), μ))
def b_X11_census_126 (Y : jY) (v0 : Nat) (v1 : Int32) (v2 : Int32) (v3 : Int32) (v4 : Int32) (v5 : Int32) (μ : jM) : Option ((Int32 × Int32 × jM) ⊕ ((Int32 × Int32 × jM) ⊕ (Int32 × jM))) :=
  some (.inl (v3, (v5 + (1 : Int32)), μ))
def b_X11_census_117 (Y : jY) (v0 : Nat) (v1 : Int32) (v2 : Int32) (v3 : Int32) (v4 : Int32) (v5 : Int32) (t0 : Nat) (t1 : Int32) (μ : jM) : Option ((Int32 × Int32 × jM) ⊕ ((Int32 × Int32 × jM) ⊕ (Int32 × jM))) :=
  (jrcv Y t0 10 (f_X10_meets Y t0 t1 μ)).bind fun r1 =>
  if r1.1 = 0 then
    b_X11_census_126 Y v0 v1 v2 v3 v4 v5 r1.2
  else
    b_X11_census_126 Y v0 v1 v2 (v3 + (1 : Int32)) v4 v5 r1.2
def b_X11_census_84 (Y : jY) (v0 : Nat) (v1 : Int32) (v2 : Int32) (v3 : Int32) (v4 : Int32) (v5 : Int32) (μ : jM) : Option ((Int32 × Int32 × jM) ⊕ ((Int32 × Int32 × jM) ⊕ (Int32 × jM))) :=
  if ((36 : Int32)) < v5 then
    (b_X11_census_132 Y v0 v1 v2 v3 v4 μ).map (fun r => (.inr r))
  else
    (jgO Y μ v0 11 10).bind fun x1 =>
    (jgO Y μ x1 10 2).bind fun x2 =>
    (jas Y μ x2 20 ((0 : Int32)) (.int v5)).bind fun μ3 =>
    (jgO Y μ3 v0 11 10).bind fun x4 =>
    if v2 = 0 then
      b_X11_census_117 Y v0 v1 v2 v3 v4 v5 x4 (0 : Int32) μ3
    else
      b_X11_census_117 Y v0 v1 v2 v3 v4 v5 x4 (((3 : Int32)) - v2) μ3
def b_X11_census_36 (Y : jY) (v0 : Nat) (v1 : Int32) (v2 : Int32) (v3 : Int32) (v4 : Int32) (μ : jM) : Option ((Int32 × Int32 × jM) ⊕ (Int32 × jM)) :=
  if ((6 : Int32)) < v4 then
    some (.inr (v3, μ))
  else
    (f_X10_canBe Y ((1 : Int32)) ((v1 - v4)) μ).bind fun r1 =>
    if r1.1 = 0 then
      b_X11_census_132 Y v0 v1 v2 v3 v4 r1.2
    else
      (jgO Y r1.2 v0 11 10).bind fun x2 =>
      (jgO Y r1.2 x2 10 1).bind fun x3 =>
      (jas Y r1.2 x3 20 ((0 : Int32)) (.int v4)).bind fun μ4 =>
      (jgO Y μ4 v0 11 10).bind fun x5 =>
      (jgO Y μ4 x5 10 1).bind fun x6 =>
      (jas Y μ4 x6 20 ((1 : Int32)) (.int ((v1 - v4)))).bind fun μ7 =>
      jit jF (fun (s : Int32 × Int32 × jM) => b_X11_census_84 Y v0 v1 v2 s.1 v4 s.2.1 s.2.2) (v3, (1 : Int32), μ7)
def f_X11_census (Y : jY) (v0 : Nat) (v1 : Int32) (v2 : Int32) (μ : jM) : Option (Int32 × jM) :=
  (f_X11_within Y v1 ((-12 : Int32)) ((12 : Int32)) μ).bind fun r1 =>
  if r1.1 = 0 then
    b_X11_census_20 Y r1.2
  else
    (f_X11_within Y v2 ((0 : Int32)) ((2 : Int32)) r1.2).bind fun r2 =>
    if r2.1 = 0 then
      b_X11_census_20 Y r2.2
    else
      (jgO Y r2.2 v0 11 10).bind fun x3 =>
      (jrcv Y x3 10 (f_X10_begin Y x3 ((2 : Int32)) r2.2)).bind fun μ4 =>
      jit jF (fun (s : Int32 × Int32 × jM) => b_X11_census_36 Y v0 v1 v2 s.1 s.2.1 s.2.2) ((0 : Int32), (-6 : Int32), μ4)
set_option maxRecDepth 10000 in
theorem t_X11_census_20 {X : jX} {l : Launch} {n : Nat} {Y : jY} (K : jOK X RX11 cX11_census 6 (some .int) 5) (hl : X.2.1 = l) {rr : Int32} {μr : jM} {μ : jM} {z : (Int32 × jM)} (H : b_X11_census_20 Y μ = some z) (D : z = (rr, μr)) : JW X (jEnd X n Y (some (.int rr)) μr 0 0) 0 0 n Y 20 [] [] μ := by
  unfold b_X11_census_20 at H
  refine r_iconst (v := -1) K dX11_census_20 (by decide) ?_
  cases H
  obtain ⟨rfl, rfl⟩ := jfin2 D
  exact r_iret K dX11_census_21
set_option maxRecDepth 10000 in
theorem t_X11_census_132 {X : jX} {l : Launch} {n : Nat} {Y : jY} (K : jOK X RX11 cX11_census 6 (some .int) 5) (hl : X.2.1 = l) {rr : Int32} {μr : jM} {v0 : Nat} {v1 : Int32} {v2 : Int32} {v3 : Int32} {v4 : Int32} {μ : jM} {z : ((Int32 × Int32 × jM) ⊕ (Int32 × jM))} (H : b_X11_census_132 Y v0 v1 v2 v3 v4 μ = some z) (D : Sum.elim (fun (s : Int32 × Int32 × jM) => JW X (jEnd X n Y (some (.int rr)) μr 0 0) 0 0 n Y 36 [(0, .ref v0), (1, .int v1), (2, .int v2), (3, .int s.1), (4, .int s.2.1)] [] s.2.2) (fun r => r = (rr, μr)) z) : JW X (jEnd X n Y (some (.int rr)) μr 0 0) 0 0 n Y 132 [(0, .ref v0), (1, .int v1), (2, .int v2), (3, .int v3), (4, .int v4)] [] μ := by
  unfold b_X11_census_132 at H
  refine r_iinc K 4 [(4, .int _), (0, .ref _), (1, .int _), (2, .int _), (3, .int _)] (v := _ + (1 : Int32)) dX11_census_132 rfl rfl (by decide) rfl ?_
  refine r_goto K 36 dX11_census_135 (by decide) ?_
  cases H
  exact r_sub [1, 2, 3, 4, 0] rfl D
set_option maxRecDepth 10000 in
theorem t_X11_census_126 {X : jX} {l : Launch} {n : Nat} {Y : jY} (K : jOK X RX11 cX11_census 6 (some .int) 5) (hl : X.2.1 = l) {rr : Int32} {μr : jM} {v0 : Nat} {v1 : Int32} {v2 : Int32} {v3 : Int32} {v4 : Int32} {v5 : Int32} {μ : jM} {z : ((Int32 × Int32 × jM) ⊕ ((Int32 × Int32 × jM) ⊕ (Int32 × jM)))} (H : b_X11_census_126 Y v0 v1 v2 v3 v4 v5 μ = some z) (D : Sum.elim (fun (s : Int32 × Int32 × jM) => JW X (jEnd X n Y (some (.int rr)) μr 0 0) 0 0 n Y 84 [(0, .ref v0), (1, .int v1), (2, .int v2), (3, .int s.1), (4, .int v4), (5, .int s.2.1)] [] s.2.2) (Sum.elim (fun (s : Int32 × Int32 × jM) => JW X (jEnd X n Y (some (.int rr)) μr 0 0) 0 0 n Y 36 [(0, .ref v0), (1, .int v1), (2, .int v2), (3, .int s.1), (4, .int s.2.1)] [] s.2.2) (fun r => r = (rr, μr))) z) : JW X (jEnd X n Y (some (.int rr)) μr 0 0) 0 0 n Y 126 [(0, .ref v0), (1, .int v1), (2, .int v2), (3, .int v3), (4, .int v4), (5, .int v5)] [] μ := by
  unfold b_X11_census_126 at H
  refine r_iinc K 5 [(5, .int _), (0, .ref _), (1, .int _), (2, .int _), (3, .int _), (4, .int _)] (v := _ + (1 : Int32)) dX11_census_126 rfl rfl (by decide) rfl ?_
  refine r_goto K 84 dX11_census_129 (by decide) ?_
  cases H
  exact r_sub [1, 2, 3, 4, 5, 0] rfl D
set_option maxRecDepth 10000 in
theorem t_X11_census_117 {X : jX} {l : Launch} {n : Nat} {Y : jY} (K : jOK X RX11 cX11_census 6 (some .int) 5) (hl : X.2.1 = l) {rr : Int32} {μr : jM} {v0 : Nat} {v1 : Int32} {v2 : Int32} {v3 : Int32} {v4 : Int32} {v5 : Int32} {t0 : Nat} {t1 : Int32} {μ : jM} {z : ((Int32 × Int32 × jM) ⊕ ((Int32 × Int32 × jM) ⊕ (Int32 × jM)))} (H : b_X11_census_117 Y v0 v1 v2 v3 v4 v5 t0 t1 μ = some z) (D : Sum.elim (fun (s : Int32 × Int32 × jM) => JW X (jEnd X n Y (some (.int rr)) μr 0 0) 0 0 n Y 84 [(0, .ref v0), (1, .int v1), (2, .int v2), (3, .int s.1), (4, .int v4), (5, .int s.2.1)] [] s.2.2) (Sum.elim (fun (s : Int32 × Int32 × jM) => JW X (jEnd X n Y (some (.int rr)) μr 0 0) 0 0 n Y 36 [(0, .ref v0), (1, .int v1), (2, .int v2), (3, .int s.1), (4, .int s.2.1)] [] s.2.2) (fun r => r = (rr, μr))) z) : JW X (jEnd X n Y (some (.int rr)) μr 0 0) 0 0 n Y 117 [(0, .ref v0), (1, .int v1), (2, .int v2), (3, .int v3), (4, .int v4), (5, .int v5)] [.int t1, .ref t0] μ := by
  unfold b_X11_census_117 at H
  refine w_callV K hl H (fun r h => c_X10_meets l h) mC_yX10_meets mM_RX11_354 mI_yX10_meets mS_yX10_meets mZ_RX10 vc10 (Nat.le_of_ble_eq_true rfl) (Nat.le_of_ble_eq_true rfl) np_yX10_meets rfl (Nat.le_of_ble_eq_true rfl) dX11_census_117 (fun r1 H => ?_) ⟨Nat.zero_le _, Nat.zero_le _⟩
  refine w_if_eq K 126 dX11_census_120 (by decide) H (fun _ H => ?_) (fun _ H => ?_)
  · exact r_sub [0, 1, 2, 3, 4, 5] rfl (t_X11_census_126 K hl H D)
  · refine r_iinc K 3 [(3, .int _), (0, .ref _), (1, .int _), (2, .int _), (4, .int _), (5, .int _)] (v := _ + (1 : Int32)) dX11_census_123 rfl rfl (by decide) rfl ?_
    exact r_sub [1, 2, 3, 0, 4, 5] rfl (t_X11_census_126 K hl H D)
set_option maxRecDepth 10000 in
theorem t_X11_census_84 {X : jX} {l : Launch} {n : Nat} {Y : jY} (K : jOK X RX11 cX11_census 6 (some .int) 5) (hl : X.2.1 = l) {rr : Int32} {μr : jM} {v0 : Nat} {v1 : Int32} {v2 : Int32} {v3 : Int32} {v4 : Int32} {v5 : Int32} {μ : jM} {z : ((Int32 × Int32 × jM) ⊕ ((Int32 × Int32 × jM) ⊕ (Int32 × jM)))} (H : b_X11_census_84 Y v0 v1 v2 v3 v4 v5 μ = some z) (D : Sum.elim (fun (s : Int32 × Int32 × jM) => JW X (jEnd X n Y (some (.int rr)) μr 0 0) 0 0 n Y 84 [(0, .ref v0), (1, .int v1), (2, .int v2), (3, .int s.1), (4, .int v4), (5, .int s.2.1)] [] s.2.2) (Sum.elim (fun (s : Int32 × Int32 × jM) => JW X (jEnd X n Y (some (.int rr)) μr 0 0) 0 0 n Y 36 [(0, .ref v0), (1, .int v1), (2, .int v2), (3, .int s.1), (4, .int s.2.1)] [] s.2.2) (fun r => r = (rr, μr))) z) : JW X (jEnd X n Y (some (.int rr)) μr 0 0) 0 0 n Y 84 [(0, .ref v0), (1, .int v1), (2, .int v2), (3, .int v3), (4, .int v4), (5, .int v5)] [] μ := by
  unfold b_X11_census_84 at H
  refine r_iload K 5 dX11_census_84 rfl ?_
  refine r_bipush (v := 36) K dX11_census_86 (by decide) ?_
  refine w_icmp_gt K 132 dX11_census_88 (by decide) H (fun _ H => ?_) (fun _ H => ?_)
  · obtain ⟨z2, H2, rfl⟩ := jmap H
    exact r_sub [0, 1, 2, 3, 4] rfl (t_X11_census_132 K hl H2 D)
  · refine r_aload_n K 0 dX11_census_91 rfl rfl ?_
    refine w_getO K vc11 inX11 10 (by decide) mF_RX11_80 dX11_census_92 H (fun x1 H => ?_)
    refine w_getO K vc10 inX10 2 (by decide) mF_RX11_268 dX11_census_95 H (fun x2 H => ?_)
    refine r_iconst (v := 0) K dX11_census_98 (by decide) ?_
    refine r_iload K 5 dX11_census_99 rfl ?_
    refine w_iast K dX11_census_101 H (fun μ3 H => ?_)
    refine r_aload_n K 0 dX11_census_102 rfl rfl ?_
    refine w_getO K vc11 inX11 10 (by decide) mF_RX11_80 dX11_census_103 H (fun x4 H => ?_)
    refine r_iload_n K 2 dX11_census_106 rfl rfl ?_
    refine w_if_ne K 114 dX11_census_107 (by decide) H (fun _ H => ?_) (fun _ H => ?_)
    · refine r_iconst (v := 3) K dX11_census_114 (by decide) ?_
      refine r_iload_n K 2 dX11_census_115 rfl rfl ?_
      refine r_isub K dX11_census_116 ?_
      exact r_sub [0, 1, 2, 3, 4, 5] rfl (t_X11_census_117 K hl H D)
    · refine r_iconst (v := 0) K dX11_census_110 (by decide) ?_
      refine r_goto K 117 dX11_census_111 (by decide) ?_
      exact r_sub [0, 1, 2, 3, 4, 5] rfl (t_X11_census_117 K hl H D)
set_option maxRecDepth 10000 in
theorem l_X11_census_84 {X : jX} {l : Launch} {n : Nat} {Y : jY} (K : jOK X RX11 cX11_census 6 (some .int) 5) (hl : X.2.1 = l) {rr : Int32} {μr : jM} {v0 : Nat} {v1 : Int32} {v2 : Int32} {v4 : Int32}  {s0 : Int32 × Int32 × jM} {z : ((Int32 × Int32 × jM) ⊕ (Int32 × jM))} (H : jit jF (fun (s : Int32 × Int32 × jM) => b_X11_census_84 Y v0 v1 v2 s.1 v4 s.2.1 s.2.2) s0 = some z) (D : Sum.elim (fun (s : Int32 × Int32 × jM) => JW X (jEnd X n Y (some (.int rr)) μr 0 0) 0 0 n Y 36 [(0, .ref v0), (1, .int v1), (2, .int v2), (3, .int s.1), (4, .int s.2.1)] [] s.2.2) (fun r => r = (rr, μr)) z) : JW X (jEnd X n Y (some (.int rr)) μr 0 0) 0 0 n Y 84 [(0, .ref v0), (1, .int v1), (2, .int v2), (3, .int s0.1), (4, .int v4), (5, .int s0.2.1)] [] s0.2.2 :=
  jit_ind (P := fun (s : Int32 × Int32 × jM) => JW X (jEnd X n Y (some (.int rr)) μr 0 0) 0 0 n Y 84 [(0, .ref v0), (1, .int v1), (2, .int v2), (3, .int s.1), (4, .int v4), (5, .int s.2.1)] [] s.2.2) (D := Sum.elim (fun (s : Int32 × Int32 × jM) => JW X (jEnd X n Y (some (.int rr)) μr 0 0) 0 0 n Y 36 [(0, .ref v0), (1, .int v1), (2, .int v2), (3, .int s.1), (4, .int s.2.1)] [] s.2.2) (fun r => r = (rr, μr))) (fun s z Hs Ds => t_X11_census_84 K hl Hs Ds) jF s0 z H D
set_option maxRecDepth 10000 in
theorem t_X11_census_36 {X : jX} {l : Launch} {n : Nat} {Y : jY} (K : jOK X RX11 cX11_census 6 (some .int) 5) (hl : X.2.1 = l) {rr : Int32} {μr : jM} {v0 : Nat} {v1 : Int32} {v2 : Int32} {v3 : Int32} {v4 : Int32} {μ : jM} {z : ((Int32 × Int32 × jM) ⊕ (Int32 × jM))} (H : b_X11_census_36 Y v0 v1 v2 v3 v4 μ = some z) (D : Sum.elim (fun (s : Int32 × Int32 × jM) => JW X (jEnd X n Y (some (.int rr)) μr 0 0) 0 0 n Y 36 [(0, .ref v0), (1, .int v1), (2, .int v2), (3, .int s.1), (4, .int s.2.1)] [] s.2.2) (fun r => r = (rr, μr)) z) : JW X (jEnd X n Y (some (.int rr)) μr 0 0) 0 0 n Y 36 [(0, .ref v0), (1, .int v1), (2, .int v2), (3, .int v3), (4, .int v4)] [] μ := by
  unfold b_X11_census_36 at H
  refine r_iload K 4 dX11_census_36 rfl ?_
  refine r_bipush (v := 6) K dX11_census_38 (by decide) ?_
  refine w_icmp_gt K 138 dX11_census_40 (by decide) H (fun _ H => ?_) (fun _ H => ?_)
  · refine r_iload_n K 3 dX11_census_138 rfl rfl ?_
    cases H
    simp only [Sum.elim_inr] at D
    obtain ⟨rfl, rfl⟩ := jfin2 D
    exact r_iret K dX11_census_139
  · refine r_iconst (v := 1) K dX11_census_43 (by decide) ?_
    refine r_iload_n K 1 dX11_census_44 rfl rfl ?_
    refine r_iload K 4 dX11_census_45 rfl ?_
    refine r_isub K dX11_census_47 ?_
    refine w_callS K hl H (fun r h => c_X10_canBe l h) mC_yX10_canBe mM_RX11_274 mT_yX10_canBe mZ_RX10 (Nat.le_of_ble_eq_true rfl) (Nat.le_of_ble_eq_true rfl) np_yX10_canBe rfl (Nat.le_of_ble_eq_true rfl) dX11_census_48 (fun r1 H => ?_) ⟨Nat.zero_le _, Nat.zero_le _⟩
    refine w_if_ne K 57 dX11_census_51 (by decide) H (fun _ H => ?_) (fun _ H => ?_)
    · refine r_aload_n K 0 dX11_census_57 rfl rfl ?_
      refine w_getO K vc11 inX11 10 (by decide) mF_RX11_80 dX11_census_58 H (fun x2 H => ?_)
      refine w_getO K vc10 inX10 1 (by decide) mF_RX11_266 dX11_census_61 H (fun x3 H => ?_)
      refine r_iconst (v := 0) K dX11_census_64 (by decide) ?_
      refine r_iload K 4 dX11_census_65 rfl ?_
      refine w_iast K dX11_census_67 H (fun μ4 H => ?_)
      refine r_aload_n K 0 dX11_census_68 rfl rfl ?_
      refine w_getO K vc11 inX11 10 (by decide) mF_RX11_80 dX11_census_69 H (fun x5 H => ?_)
      refine w_getO K vc10 inX10 1 (by decide) mF_RX11_266 dX11_census_72 H (fun x6 H => ?_)
      refine r_iconst (v := 1) K dX11_census_75 (by decide) ?_
      refine r_iload_n K 1 dX11_census_76 rfl rfl ?_
      refine r_iload K 4 dX11_census_77 rfl ?_
      refine r_isub K dX11_census_79 ?_
      refine w_iast K dX11_census_80 H (fun μ7 H => ?_)
      refine r_iconst (v := 1) K dX11_census_81 (by decide) ?_
      refine r_istore K [(5, .int _), (0, .ref _), (1, .int _), (2, .int _), (3, .int _), (4, .int _)] dX11_census_82 (by decide) rfl ?_
      exact r_sub [1, 2, 3, 4, 5, 0] rfl (l_X11_census_84 K hl H D)
    · refine r_goto K 132 dX11_census_54 (by decide) ?_
      exact r_sub [0, 1, 2, 3, 4] rfl (t_X11_census_132 K hl H D)
set_option maxRecDepth 10000 in
theorem l_X11_census_36 {X : jX} {l : Launch} {n : Nat} {Y : jY} (K : jOK X RX11 cX11_census 6 (some .int) 5) (hl : X.2.1 = l) {rr : Int32} {μr : jM} {v0 : Nat} {v1 : Int32} {v2 : Int32}  {s0 : Int32 × Int32 × jM} {z : (Int32 × jM)} (H : jit jF (fun (s : Int32 × Int32 × jM) => b_X11_census_36 Y v0 v1 v2 s.1 s.2.1 s.2.2) s0 = some z) (D : z = (rr, μr)) : JW X (jEnd X n Y (some (.int rr)) μr 0 0) 0 0 n Y 36 [(0, .ref v0), (1, .int v1), (2, .int v2), (3, .int s0.1), (4, .int s0.2.1)] [] s0.2.2 :=
  jit_ind (P := fun (s : Int32 × Int32 × jM) => JW X (jEnd X n Y (some (.int rr)) μr 0 0) 0 0 n Y 36 [(0, .ref v0), (1, .int v1), (2, .int v2), (3, .int s.1), (4, .int s.2.1)] [] s.2.2) (D := fun r => r = (rr, μr)) (fun s z Hs Ds => t_X11_census_36 K hl Hs Ds) jF s0 z H D
set_option maxRecDepth 10000 in
theorem t_X11_census_0 {X : jX} {l : Launch} {n : Nat} {Y : jY} (K : jOK X RX11 cX11_census 6 (some .int) 5) (hl : X.2.1 = l) {rr : Int32} {μr : jM} {v0 : Nat} {v1 : Int32} {v2 : Int32} {μ : jM} {z : (Int32 × jM)} (H : f_X11_census Y v0 v1 v2 μ = some z) (D : z = (rr, μr)) : JW X (jEnd X n Y (some (.int rr)) μr 0 0) 0 0 n Y 0 [(0, .ref v0), (1, .int v1), (2, .int v2)] [] μ := by
  unfold f_X11_census at H
  refine r_iload_n K 1 dX11_census_0 rfl rfl ?_
  refine r_bipush (v := -12) K dX11_census_1 (by decide) ?_
  refine r_bipush (v := 12) K dX11_census_3 (by decide) ?_
  refine w_callS K hl H (fun r h => c_X11_within l h) mC_yX11_within mM_RX11_133 mT_yX11_within mZ_RX11 (Nat.le_of_ble_eq_true rfl) (Nat.le_of_ble_eq_true rfl) np_yX11_within rfl (Nat.le_of_ble_eq_true rfl) dX11_census_5 (fun r1 H => ?_) ⟨Nat.zero_le _, Nat.zero_le _⟩
  refine w_if_eq K 20 dX11_census_8 (by decide) H (fun _ H => ?_) (fun _ H => ?_)
  · exact r_sub [] rfl (t_X11_census_20 K hl H D)
  · refine r_iload_n K 2 dX11_census_11 rfl rfl ?_
    refine r_iconst (v := 0) K dX11_census_12 (by decide) ?_
    refine r_iconst (v := 2) K dX11_census_13 (by decide) ?_
    refine w_callS K hl H (fun r h => c_X11_within l h) mC_yX11_within mM_RX11_133 mT_yX11_within mZ_RX11 (Nat.le_of_ble_eq_true rfl) (Nat.le_of_ble_eq_true rfl) np_yX11_within rfl (Nat.le_of_ble_eq_true rfl) dX11_census_14 (fun r2 H => ?_) ⟨Nat.zero_le _, Nat.zero_le _⟩
    refine w_if_ne K 22 dX11_census_17 (by decide) H (fun _ H => ?_) (fun _ H => ?_)
    · refine r_iconst (v := 0) K dX11_census_22 (by decide) ?_
      refine r_istore_n K [(3, .int _), (0, .ref _), (1, .int _), (2, .int _)] dX11_census_23 rfl (by decide) rfl ?_
      refine r_aload_n K 1 dX11_census_24 rfl rfl ?_
      refine w_getO K vc11 inX11 10 (by decide) mF_RX11_80 dX11_census_25 H (fun x3 H => ?_)
      refine r_iconst (v := 2) K dX11_census_28 (by decide) ?_
      refine w_callV K hl H (fun r h => c_X10_begin l h) mC_yX10_begin mM_RX11_259 mI_yX10_begin mS_yX10_begin mZ_RX10 vc10 (Nat.le_of_ble_eq_true rfl) (Nat.le_of_ble_eq_true rfl) np_yX10_begin rfl (Nat.le_of_ble_eq_true rfl) dX11_census_29 (fun μ4 H => ?_) ⟨Nat.zero_le _, Nat.zero_le _⟩
      refine r_bipush (v := -6) K dX11_census_32 (by decide) ?_
      refine r_istore K [(4, .int _), (3, .int _), (0, .ref _), (1, .int _), (2, .int _)] dX11_census_34 (by decide) rfl ?_
      exact r_sub [2, 3, 4, 1, 0] rfl (l_X11_census_36 K hl H D)
    · exact r_sub [] rfl (t_X11_census_20 K hl H D)
theorem c_X11_census (l : Launch) {n : Nat} {Y : jY} {v0 : Nat} {v1 : Int32} {v2 : Int32} {μ : jM} {z : Int32 × jM} (H : f_X11_census Y v0 v1 v2 μ = some z) : jC l yX11_census cX11_census 6 (some .int) 5 0 0 [.ref v0, .int v1, .int v2] n Y μ n Y (some (.int z.1)) z.2 := by
  refine jC_of (by decide +kernel) (Nat.le_of_ble_eq_true rfl) (fun X hl K _ _ _ => ?_)
  obtain ⟨rr, μr⟩ := z
  exact t_X11_census_0 K hl H rfl
