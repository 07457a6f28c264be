/-! RX12 typed4(I)V -/
def b_X12_typed4_2 (Y : jY) (v0 : Nat) (v1 : Int32) (v2 : Int32) (μ : jM) : Option ((Int32 × jM) ⊕ (jM)) :=
  if v2 < 0 then
    some (.inr μ)
  else
    (jgO Y μ v0 12 0).bind fun x1 =>
    (jgI Y μ v0 12 1).bind fun x2 =>
    (jas Y μ x1 22 x2 (.int ((((v1 >>> (((((8 : Int32)) * v2)) &&& 31))).toInt8.toInt32)).toInt8.toInt32)).bind fun μ3 =>
    (jgI Y μ3 v0 12 1).bind fun x4 =>
    (jput Y μ3 v0 12 1 (.int ((x4 + ((1 : Int32)))))).bind fun μ5 =>
    some (.inl ((v2 + (-1 : Int32)), μ5))
def f_X12_typed4 (Y : jY) (v0 : Nat) (v1 : Int32) (μ : jM) : Option (jM) :=
  jit jF (fun (s : Int32 × jM) => b_X12_typed4_2 Y v0 v1 s.1 s.2) ((3 : Int32), μ)
set_option maxRecDepth 10000 in
theorem t_X12_typed4_2 {X : jX} {l : Launch} {n : Nat} {Y : jY} (K : jOK X RX12 cX12_typed4 3 none 1) (hl : X.2.1 = l) {μr : jM} {v0 : Nat} {v1 : Int32} {v2 : Int32} {μ : jM} {z : ((Int32 × jM) ⊕ (jM))} (H : b_X12_typed4_2 Y v0 v1 v2 μ = some z) (D : Sum.elim (fun (s : Int32 × jM) => JW X (jEnd X n Y none μr 0 0) 0 0 n Y 2 [(0, .ref v0), (1, .int v1), (2, .int s.1)] [] s.2) (fun r => r = μr) z) : JW X (jEnd X n Y none μr 0 0) 0 0 n Y 2 [(0, .ref v0), (1, .int v1), (2, .int v2)] [] μ := by
  unfold b_X12_typed4_2 at H
  refine r_iload_n K 2 dX12_typed4_2 rfl rfl ?_
  refine w_if_lt K 38 dX12_typed4_3 (by decide) H (fun _ H => ?_) (fun _ H => ?_)
  · cases H
    simp only [Sum.elim_inr] at D
    subst D
    exact r_vret K dX12_typed4_38
  · refine r_aload_n K 0 dX12_typed4_6 rfl rfl ?_
    refine w_getO K vc12 inX12 0 (by decide) mF_RX12_7 dX12_typed4_7 H (fun x1 H => ?_)
    refine r_aload_n K 0 dX12_typed4_10 rfl rfl ?_
    refine w_getI K vc12 inX12 1 (by decide) mF_RX12_93 dX12_typed4_11 H (fun x2 H => ?_)
    refine r_iload_n K 1 dX12_typed4_14 rfl rfl ?_
    refine r_bipush (v := 8) K dX12_typed4_15 (by decide) ?_
    refine r_iload_n K 2 dX12_typed4_17 rfl rfl ?_
    refine r_imul K dX12_typed4_18 ?_
    refine r_ishr K dX12_typed4_19 ?_
    refine r_i2b K dX12_typed4_20 ?_
    refine w_bast K dX12_typed4_21 H (fun μ3 H => ?_)
    refine r_aload_n K 0 dX12_typed4_22 rfl rfl ?_
    refine r_aload_n K 0 dX12_typed4_23 rfl rfl ?_
    refine w_getI K vc12 inX12 1 (by decide) mF_RX12_93 dX12_typed4_24 H (fun x4 H => ?_)
    refine r_iconst (v := 1) K dX12_typed4_27 (by decide) ?_
    refine r_iadd K dX12_typed4_28 ?_
    refine w_put K vc12 inX12 tyX12_ok nmX12 1 (by decide) mF_RX12_93 rfl (fun _ => rfl) (fun _ => rfl) dX12_typed4_29 H (fun μ5 H => ?_)
    refine r_iinc K 2 [(2, .int _), (0, .ref _), (1, .int _)] (v := _ + (-1 : Int32)) dX12_typed4_32 rfl rfl (by decide) rfl ?_
    refine r_goto K 2 dX12_typed4_35 (by decide) ?_
    cases H
    exact r_sub [1, 2, 0] rfl D
set_option maxRecDepth 10000 in
theorem l_X12_typed4_2 {X : jX} {l : Launch} {n : Nat} {Y : jY} (K : jOK X RX12 cX12_typed4 3 none 1) (hl : X.2.1 = l) {μr : jM} {v0 : Nat} {v1 : Int32}  {s0 : Int32 × jM} {z : (jM)} (H : jit jF (fun (s : Int32 × jM) => b_X12_typed4_2 Y v0 v1 s.1 s.2) s0 = some z) (D : z = μr) : JW X (jEnd X n Y none μr 0 0) 0 0 n Y 2 [(0, .ref v0), (1, .int v1), (2, .int s0.1)] [] s0.2 :=
  jit_ind (P := fun (s : Int32 × jM) => JW X (jEnd X n Y none μr 0 0) 0 0 n Y 2 [(0, .ref v0), (1, .int v1), (2, .int s.1)] [] s.2) (D := fun r => r = μr) (fun s z Hs Ds => t_X12_typed4_2 K hl Hs Ds) jF s0 z H D
set_option maxRecDepth 10000 in
theorem t_X12_typed4_0 {X : jX} {l : Launch} {n : Nat} {Y : jY} (K : jOK X RX12 cX12_typed4 3 none 1) (hl : X.2.1 = l) {μr : jM} {v0 : Nat} {v1 : Int32} {μ : jM} {z : (jM)} (H : f_X12_typed4 Y v0 v1 μ = some z) (D : z = μr) : JW X (jEnd X n Y none μr 0 0) 0 0 n Y 0 [(0, .ref v0), (1, .int v1)] [] μ := by
  unfold f_X12_typed4 at H
  refine r_iconst (v := 3) K dX12_typed4_0 (by decide) ?_
  refine r_istore_n K [(2, .int _), (0, .ref _), (1, .int _)] dX12_typed4_1 rfl (by decide) rfl ?_
  exact r_sub [1, 2, 0] rfl (l_X12_typed4_2 K hl H D)
theorem c_X12_typed4 (l : Launch) {n : Nat} {Y : jY} {v0 : Nat} {v1 : Int32} {μ : jM} {z : jM} (H : f_X12_typed4 Y v0 v1 μ = some z) : jC l yX12_typed4 cX12_typed4 3 none 1 0 0 [.ref v0, .int v1] n Y μ n Y none z := by
  refine jC_of (by decide +kernel) (Nat.le_of_ble_eq_true rfl) (fun X hl K _ _ _ => ?_)
  exact t_X12_typed4_0 K hl H rfl
/-! RX12 feed(IIIII)I -/
def f_X12_feed (Y : jY) (v0 : Nat) (v1 : Int32) (v2 : Int32) (v3 : Int32) (v4 : Int32) (v5 : Int32) (μ : jM) : Option (Int32 × jM) :=
  (jgI Y μ v0 12 1).bind fun x1 =>
  if ((x1 + ((20 : Int32)))) ≤ ((120 : Int32)) then
    (jrcv Y v0 12 (f_X12_typed4 Y v0 v1 μ)).bind fun μ2 =>
    (jrcv Y v0 12 (f_X12_typed4 Y v0 v2 μ2)).bind fun μ3 =>
    (jrcv Y v0 12 (f_X12_typed4 Y v0 v3 μ3)).bind fun μ4 =>
    (jrcv Y v0 12 (f_X12_typed4 Y v0 v4 μ4)).bind fun μ5 =>
    (jrcv Y v0 12 (f_X12_typed4 Y v0 v5 μ5)).bind fun μ6 =>
    (jgI Y μ6 v0 12 1).bind fun x7 =>
    some (x7, μ6)
  else
    some ((-1 : Int32), μ)
set_option maxRecDepth 10000 in
theorem t_X12_feed_0 {X : jX} {l : Launch} {n : Nat} {Y : jY} (K : jOK X RX12 cX12_feed 6 (some .int) 2) (hl : X.2.1 = l) {rr : Int32} {μr : jM} {v0 : Nat} {v1 : Int32} {v2 : Int32} {v3 : Int32} {v4 : Int32} {v5 : Int32} {μ : jM} {z : (Int32 × jM)} (H : f_X12_feed Y v0 v1 v2 v3 v4 v5 μ = some z) (D : z = (rr, μr)) : JW X (jEnd X n Y (some (.int rr)) μr 0 0) 0 0 n Y 0 [(0, .ref v0), (1, .int v1), (2, .int v2), (3, .int v3), (4, .int v4), (5, .int v5)] [] μ := by
  unfold f_X12_feed at H
  refine r_aload_n K 0 dX12_feed_0 rfl rfl ?_
  refine w_getI K vc12 inX12 1 (by decide) mF_RX12_93 dX12_feed_1 H (fun x1 H => ?_)
  refine r_bipush (v := 20) K dX12_feed_4 (by decide) ?_
  refine r_iadd K dX12_feed_6 ?_
  refine r_bipush (v := 120) K dX12_feed_7 (by decide) ?_
  refine w_icmp_le K 14 dX12_feed_9 (by decide) H (fun _ H => ?_) (fun _ H => ?_)
  · refine r_aload_n K 0 dX12_feed_14 rfl rfl ?_
    refine r_iload_n K 1 dX12_feed_15 rfl rfl ?_
    refine w_callV K hl H (fun r h => c_X12_typed4 l h) mC_yX12_typed4 mM_RX12_97 mI_yX12_typed4 mS_yX12_typed4 mZ_RX12 vc12 (Nat.le_of_ble_eq_true rfl) (Nat.le_of_ble_eq_true rfl) np_yX12_typed4 rfl (Nat.le_of_ble_eq_true rfl) dX12_feed_16 (fun μ2 H => ?_) ⟨Nat.zero_le _, Nat.zero_le _⟩
    refine r_aload_n K 0 dX12_feed_19 rfl rfl ?_
    refine r_iload_n K 2 dX12_feed_20 rfl rfl ?_
    refine w_callV K hl H (fun r h => c_X12_typed4 l h) mC_yX12_typed4 mM_RX12_97 mI_yX12_typed4 mS_yX12_typed4 mZ_RX12 vc12 (Nat.le_of_ble_eq_true rfl) (Nat.le_of_ble_eq_true rfl) np_yX12_typed4 rfl (Nat.le_of_ble_eq_true rfl) dX12_feed_21 (fun μ3 H => ?_) ⟨Nat.zero_le _, Nat.zero_le _⟩
    refine r_aload_n K 0 dX12_feed_24 rfl rfl ?_
    refine r_iload_n K 3 dX12_feed_25 rfl rfl ?_
    refine w_callV K hl H (fun r h => c_X12_typed4 l h) mC_yX12_typed4 mM_RX12_97 mI_yX12_typed4 mS_yX12_typed4 mZ_RX12 vc12 (Nat.le_of_ble_eq_true rfl) (Nat.le_of_ble_eq_true rfl) np_yX12_typed4 rfl (Nat.le_of_ble_eq_true rfl) dX12_feed_26 (fun μ4 H => ?_) ⟨Nat.zero_le _, Nat.zero_le _⟩
    refine r_aload_n K 0 dX12_feed_29 rfl rfl ?_
    refine r_iload K 4 dX12_feed_30 rfl ?_
    refine w_callV K hl H (fun r h => c_X12_typed4 l h) mC_yX12_typed4 mM_RX12_97 mI_yX12_typed4 mS_yX12_typed4 mZ_RX12 vc12 (Nat.le_of_ble_eq_true rfl) (Nat.le_of_ble_eq_true rfl) np_yX12_typed4 rfl (Nat.le_of_ble_eq_true rfl) dX12_feed_32 (fun μ5 H => ?_) ⟨Nat.zero_le _, Nat.zero_le _⟩
    refine r_aload_n K 0 dX12_feed_35 rfl rfl ?_
    refine r_iload K 5 dX12_feed_36 rfl ?_
    refine w_callV K hl H (fun r h => c_X12_typed4 l h) mC_yX12_typed4 mM_RX12_97 mI_yX12_typed4 mS_yX12_typed4 mZ_RX12 vc12 (Nat.le_of_ble_eq_true rfl) (Nat.le_of_ble_eq_true rfl) np_yX12_typed4 rfl (Nat.le_of_ble_eq_true rfl) dX12_feed_38 (fun μ6 H => ?_) ⟨Nat.zero_le _, Nat.zero_le _⟩
    refine r_aload_n K 0 dX12_feed_41 rfl rfl ?_
    refine w_getI K vc12 inX12 1 (by decide) mF_RX12_93 dX12_feed_42 H (fun x7 H => ?_)
    cases H
    obtain ⟨rfl, rfl⟩ := jfin2 D
    exact r_iret K dX12_feed_45
  · refine r_iconst (v := -1) K dX12_feed_12 (by decide) ?_
    cases H
    obtain ⟨rfl, rfl⟩ := jfin2 D
    exact r_iret K dX12_feed_13
theorem c_X12_feed (l : Launch) {n : Nat} {Y : jY} {v0 : Nat} {v1 : Int32} {v2 : Int32} {v3 : Int32} {v4 : Int32} {v5 : Int32} {μ : jM} {z : Int32 × jM} (H : f_X12_feed Y v0 v1 v2 v3 v4 v5 μ = some z) : jC l yX12_feed cX12_feed 6 (some .int) 2 0 0 [.ref v0, .int v1, .int v2, .int v3, .int v4, .int v5] n Y μ n Y (some (.int z.1)) z.2 := by
  refine jC_of (by decide +kernel) (Nat.le_of_ble_eq_true rfl) (fun X hl K _ _ _ => ?_)
  obtain ⟨rr, μr⟩ := z
  exact t_X12_feed_0 K hl H rfl
/-! RX12 writes(I)V -/
def b_X12_writes_16 (Y : jY) (v0 : Nat) (μ : jM) : Option (jM) :=
  (jgI Y μ v0 12 22).bind fun x1 =>
  (jput Y μ v0 12 22 (.int ((x1 + ((1 : Int32)))))).bind fun μ2 =>
  some μ2
def f_X12_writes (Y : jY) (v0 : Nat) (v1 : Int32) (μ : jM) : Option (jM) :=
  (jgI Y μ v0 12 22).bind fun x1 =>
  (jgI Y μ v0 12 23).bind fun x2 =>
  if x1 = x2 then
    (jput Y μ v0 12 24 (.int v1)).bind fun μ3 =>
    b_X12_writes_16 Y v0 μ3
  else
    b_X12_writes_16 Y v0 μ
set_option maxRecDepth 10000 in
theorem t_X12_writes_16 {X : jX} {l : Launch} {n : Nat} {Y : jY} (K : jOK X RX12 cX12_writes 2 none 1) (hl : X.2.1 = l) {μr : jM} {v0 : Nat} {μ : jM} {z : (jM)} (H : b_X12_writes_16 Y v0 μ = some z) (D : z = μr) : JW X (jEnd X n Y none μr 0 0) 0 0 n Y 16 [(0, .ref v0)] [] μ := by
  unfold b_X12_writes_16 at H
  refine r_aload_n K 0 dX12_writes_16 rfl rfl ?_
  refine r_aload_n K 0 dX12_writes_17 rfl rfl ?_
  refine w_getI K vc12 inX12 22 (by decide) mF_RX12_238 dX12_writes_18 H (fun x1 H => ?_)
  refine r_iconst (v := 1) K dX12_writes_21 (by decide) ?_
  refine r_iadd K dX12_writes_22 ?_
  refine w_put K vc12 inX12 tyX12_ok nmX12 22 (by decide) mF_RX12_238 rfl (fun _ => rfl) (fun _ => rfl) dX12_writes_23 H (fun μ2 H => ?_)
  cases H
  subst D
  exact r_vret K dX12_writes_26
set_option maxRecDepth 10000 in
theorem t_X12_writes_0 {X : jX} {l : Launch} {n : Nat} {Y : jY} (K : jOK X RX12 cX12_writes 2 none 1) (hl : X.2.1 = l) {μr : jM} {v0 : Nat} {v1 : Int32} {μ : jM} {z : (jM)} (H : f_X12_writes Y v0 v1 μ = some z) (D : z = μr) : JW X (jEnd X n Y none μr 0 0) 0 0 n Y 0 [(0, .ref v0), (1, .int v1)] [] μ := by
  unfold f_X12_writes at H
  refine r_aload_n K 0 dX12_writes_0 rfl rfl ?_
  refine w_getI K vc12 inX12 22 (by decide) mF_RX12_238 dX12_writes_1 H (fun x1 H => ?_)
  refine r_aload_n K 0 dX12_writes_4 rfl rfl ?_
  refine w_getI K vc12 inX12 23 (by decide) mF_RX12_241 dX12_writes_5 H (fun x2 H => ?_)
  refine w_icmp_ne K 16 dX12_writes_8 (by decide) H (fun _ H => ?_) (fun _ H => ?_)
  · exact r_sub [0] rfl (t_X12_writes_16 K hl H D)
  · refine r_aload_n K 0 dX12_writes_11 rfl rfl ?_
    refine r_iload_n K 1 dX12_writes_12 rfl rfl ?_
    refine w_put K vc12 inX12 tyX12_ok nmX12 24 (by decide) mF_RX12_244 rfl (fun _ => rfl) (fun _ => rfl) dX12_writes_13 H (fun μ3 H => ?_)
    exact r_sub [0] rfl (t_X12_writes_16 K hl H D)
theorem c_X12_writes (l : Launch) {n : Nat} {Y : jY} {v0 : Nat} {v1 : Int32} {μ : jM} {z : jM} (H : f_X12_writes Y v0 v1 μ = some z) : jC l yX12_writes cX12_writes 2 none 1 0 0 [.ref v0, .int v1] n Y μ n Y none z := by
  refine jC_of (by decide +kernel) (Nat.le_of_ble_eq_true rfl) (fun X hl K _ _ _ => ?_)
  exact t_X12_writes_0 K hl H rfl
/-! RX12 writesNumber(I)V -/
def b_X12_writesNumber_38 (Y : jY) (v0 : Nat) (v2 : Int32) (μ : jM) : Option (jM) :=
  (jremI v2 ((10 : Int32))).bind fun x1 =>
  (jrcv Y v0 12 (f_X12_writes Y v0 ((((48 : Int32)) + x1)) μ)).bind fun μ2 =>
  some μ2
def b_X12_writesNumber_20 (Y : jY) (v0 : Nat) (t0 : Int32) (μ : jM) : Option (jM) :=
  if t0 ≤ ((9 : Int32)) then
    b_X12_writesNumber_38 Y v0 t0 μ
  else
    (jdivI t0 ((10 : Int32))).bind fun x1 =>
    (jrcv Y v0 12 (f_X12_writes Y v0 ((((48 : Int32)) + x1)) μ)).bind fun μ2 =>
    b_X12_writesNumber_38 Y v0 t0 μ2
def b_X12_writesNumber_10 (Y : jY) (v0 : Nat) (v1 : Int32) (μ : jM) : Option (jM) :=
  if 0 ≤ v1 then
    b_X12_writesNumber_20 Y v0 v1 μ
  else
    b_X12_writesNumber_20 Y v0 (-v1) μ
def f_X12_writesNumber (Y : jY) (v0 : Nat) (v1 : Int32) (μ : jM) : Option (jM) :=
  if 0 ≤ v1 then
    b_X12_writesNumber_10 Y v0 v1 μ
  else
    (jrcv Y v0 12 (f_X12_writes Y v0 ((45 : Int32)) μ)).bind fun μ1 =>
    b_X12_writesNumber_10 Y v0 v1 μ1
set_option maxRecDepth 10000 in
theorem t_X12_writesNumber_38 {X : jX} {l : Launch} {n : Nat} {Y : jY} (K : jOK X RX12 cX12_writesNumber 3 none 2) (hl : X.2.1 = l) {μr : jM} {v0 : Nat} {v2 : Int32} {μ : jM} {z : (jM)} (H : b_X12_writesNumber_38 Y v0 v2 μ = some z) (D : z = μr) : JW X (jEnd X n Y none μr 0 0) 0 0 n Y 38 [(0, .ref v0), (2, .int v2)] [] μ := by
  unfold b_X12_writesNumber_38 at H
  refine r_aload_n K 0 dX12_writesNumber_38 rfl rfl ?_
  refine r_bipush (v := 48) K dX12_writesNumber_39 (by decide) ?_
  refine r_iload_n K 1 dX12_writesNumber_41 rfl rfl ?_
  refine r_bipush (v := 10) K dX12_writesNumber_42 (by decide) ?_
  refine w_irem K dX12_writesNumber_44 H (fun x1 H => ?_)
  refine r_iadd K dX12_writesNumber_45 ?_
  refine w_callV K hl H (fun r h => c_X12_writes l h) mC_yX12_writes mM_RX12_247 mI_yX12_writes mS_yX12_writes mZ_RX12 vc12 (Nat.le_of_ble_eq_true rfl) (Nat.le_of_ble_eq_true rfl) np_yX12_writes rfl (Nat.le_of_ble_eq_true rfl) dX12_writesNumber_46 (fun μ2 H => ?_) ⟨Nat.zero_le _, Nat.zero_le _⟩
  cases H
  subst D
  exact r_vret K dX12_writesNumber_49
set_option maxRecDepth 10000 in
theorem t_X12_writesNumber_20 {X : jX} {l : Launch} {n : Nat} {Y : jY} (K : jOK X RX12 cX12_writesNumber 3 none 2) (hl : X.2.1 = l) {μr : jM} {v0 : Nat} {t0 : Int32} {μ : jM} {z : (jM)} (H : b_X12_writesNumber_20 Y v0 t0 μ = some z) (D : z = μr) : JW X (jEnd X n Y none μr 0 0) 0 0 n Y 20 [(0, .ref v0)] [.int t0] μ := by
  unfold b_X12_writesNumber_20 at H
  refine r_istore_n K [(2, .int _), (0, .ref _)] dX12_writesNumber_20 rfl (by decide) rfl ?_
  refine r_iload_n K 0 dX12_writesNumber_21 rfl rfl ?_
  refine r_bipush (v := 9) K dX12_writesNumber_22 (by decide) ?_
  refine w_icmp_le K 38 dX12_writesNumber_24 (by decide) H (fun _ H => ?_) (fun _ H => ?_)
  · exact r_sub [1, 0] rfl (t_X12_writesNumber_38 K hl H D)
  · refine r_aload_n K 1 dX12_writesNumber_27 rfl rfl ?_
    refine r_bipush (v := 48) K dX12_writesNumber_28 (by decide) ?_
    refine r_iload_n K 0 dX12_writesNumber_30 rfl rfl ?_
    refine r_bipush (v := 10) K dX12_writesNumber_31 (by decide) ?_
    refine w_idiv K dX12_writesNumber_33 H (fun x1 H => ?_)
    refine r_iadd K dX12_writesNumber_34 ?_
    refine w_callV K hl H (fun r h => c_X12_writes l h) mC_yX12_writes mM_RX12_247 mI_yX12_writes mS_yX12_writes mZ_RX12 vc12 (Nat.le_of_ble_eq_true rfl) (Nat.le_of_ble_eq_true rfl) np_yX12_writes rfl (Nat.le_of_ble_eq_true rfl) dX12_writesNumber_35 (fun μ2 H => ?_) ⟨Nat.zero_le _, Nat.zero_le _⟩
    exact r_sub [1, 0] rfl (t_X12_writesNumber_38 K hl H D)
set_option maxRecDepth 10000 in
theorem t_X12_writesNumber_10 {X : jX} {l : Launch} {n : Nat} {Y : jY} (K : jOK X RX12 cX12_writesNumber 3 none 2) (hl : X.2.1 = l) {μr : jM} {v0 : Nat} {v1 : Int32} {μ : jM} {z : (jM)} (H : b_X12_writesNumber_10 Y v0 v1 μ = some z) (D : z = μr) : JW X (jEnd X n Y none μr 0 0) 0 0 n Y 10 [(0, .ref v0), (1, .int v1)] [] μ := by
  unfold b_X12_writesNumber_10 at H
  refine r_iload_n K 1 dX12_writesNumber_10 rfl rfl ?_
  refine w_if_ge K 19 dX12_writesNumber_11 (by decide) H (fun _ H => ?_) (fun _ H => ?_)
  · refine r_iload_n K 1 dX12_writesNumber_19 rfl rfl ?_
    exact r_sub [0] rfl (t_X12_writesNumber_20 K hl H D)
  · refine r_iload_n K 1 dX12_writesNumber_14 rfl rfl ?_
    refine r_ineg K dX12_writesNumber_15 ?_
    refine r_goto K 20 dX12_writesNumber_16 (by decide) ?_
    exact r_sub [0] rfl (t_X12_writesNumber_20 K hl H D)
set_option maxRecDepth 10000 in
theorem t_X12_writesNumber_0 {X : jX} {l : Launch} {n : Nat} {Y : jY} (K : jOK X RX12 cX12_writesNumber 3 none 2) (hl : X.2.1 = l) {μr : jM} {v0 : Nat} {v1 : Int32} {μ : jM} {z : (jM)} (H : f_X12_writesNumber Y v0 v1 μ = some z) (D : z = μr) : JW X (jEnd X n Y none μr 0 0) 0 0 n Y 0 [(0, .ref v0), (1, .int v1)] [] μ := by
  unfold f_X12_writesNumber at H
  refine r_iload_n K 1 dX12_writesNumber_0 rfl rfl ?_
  refine w_if_ge K 10 dX12_writesNumber_1 (by decide) H (fun _ H => ?_) (fun _ H => ?_)
  · exact r_sub [0, 1] rfl (t_X12_writesNumber_10 K hl H D)
  · refine r_aload_n K 0 dX12_writesNumber_4 rfl rfl ?_
    refine r_bipush (v := 45) K dX12_writesNumber_5 (by decide) ?_
    refine w_callV K hl H (fun r h => c_X12_writes l h) mC_yX12_writes mM_RX12_247 mI_yX12_writes mS_yX12_writes mZ_RX12 vc12 (Nat.le_of_ble_eq_true rfl) (Nat.le_of_ble_eq_true rfl) np_yX12_writes rfl (Nat.le_of_ble_eq_true rfl) dX12_writesNumber_7 (fun μ1 H => ?_) ⟨Nat.zero_le _, Nat.zero_le _⟩
    exact r_sub [0, 1] rfl (t_X12_writesNumber_10 K hl H D)
theorem c_X12_writesNumber (l : Launch) {n : Nat} {Y : jY} {v0 : Nat} {v1 : Int32} {μ : jM} {z : jM} (H : f_X12_writesNumber Y v0 v1 μ = some z) : jC l yX12_writesNumber cX12_writesNumber 3 none 2 0 0 [.ref v0, .int v1] n Y μ n Y none z := by
  refine jC_of (by decide +kernel) (Nat.le_of_ble_eq_true rfl) (fun X hl K _ _ _ => ?_)
  exact t_X12_writesNumber_0 K hl H rfl
/-! RX12 power(II)J -/
def b_X12_power_22 (Y : jY) (t0 : Int64) (μ : jM) : Option (Int64 × jM) :=
  some (t0, μ)
def f_X12_power (Y : jY) (v0 : Nat) (v1 : Int32) (v2 : Int32) (μ : jM) : Option (Int64 × jM) :=
  (jrcv Y v0 12 (f_X12_minor Y v0 v1 ((0 : Int32)) v2 μ)).bind fun r1 =>
  (jremI ((v1 - v2)) ((2 : Int32))).bind fun x2 =>
  if x2 = 0 then
    b_X12_power_22 Y r1.1 r1.2
  else
    b_X12_power_22 Y (-r1.1) r1.2
set_option maxRecDepth 10000 in
theorem t_X12_power_22 {X : jX} {l : Launch} {n : Nat} {Y : jY} (K : jOK X RX12 cX12_power 5 (some .long) 5) (hl : X.2.1 = l) {rr : Int64} {μr : jM} {t0 : Int64} {μ : jM} {z : (Int64 × jM)} (H : b_X12_power_22 Y t0 μ = some z) (D : z = (rr, μr)) : JW X (jEnd X n Y (some (.long rr)) μr 0 0) 0 0 n Y 22 [] [.long t0] μ := by
  unfold b_X12_power_22 at H
  cases H
  obtain ⟨rfl, rfl⟩ := jfin2 D
  exact r_lret K dX12_power_22
set_option maxRecDepth 10000 in
theorem t_X12_power_0 {X : jX} {l : Launch} {n : Nat} {Y : jY} (K : jOK X RX12 cX12_power 5 (some .long) 5) (hl : X.2.1 = l) {rr : Int64} {μr : jM} {v0 : Nat} {v1 : Int32} {v2 : Int32} {μ : jM} {z : (Int64 × jM)} (H : f_X12_power Y v0 v1 v2 μ = some z) (D : z = (rr, μr)) : JW X (jEnd X n Y (some (.long rr)) μr 0 0) 0 0 n Y 0 [(0, .ref v0), (1, .int v1), (2, .int v2)] [] μ := by
  unfold f_X12_power at H
  refine r_aload_n K 0 dX12_power_0 rfl rfl ?_
  refine r_iload_n K 1 dX12_power_1 rfl rfl ?_
  refine r_iconst (v := 0) K dX12_power_2 (by decide) ?_
  refine r_iload_n K 2 dX12_power_3 rfl rfl ?_
  refine w_callV K hl H (fun r h => c_X12_minor l h) mC_yX12_minor mM_RX12_173 mI_yX12_minor mS_yX12_minor mZ_RX12 vc12 (Nat.le_of_ble_eq_true rfl) (Nat.le_of_ble_eq_true rfl) np_yX12_minor rfl (Nat.le_of_ble_eq_true rfl) dX12_power_4 (fun r1 H => ?_) ⟨Nat.zero_le _, Nat.zero_le _⟩
  refine r_lstore_n K [(3, .long _), (0, .ref _), (1, .int _), (2, .int _)] dX12_power_7 rfl (by decide) rfl ?_
  refine r_iload_n K 2 dX12_power_8 rfl rfl ?_
  refine r_iload_n K 3 dX12_power_9 rfl rfl ?_
  refine r_isub K dX12_power_10 ?_
  refine r_iconst (v := 2) K dX12_power_11 (by decide) ?_
  refine w_irem K dX12_power_12 H (fun x2 H => ?_)
  refine w_if_ne K 20 dX12_power_13 (by decide) H (fun _ H => ?_) (fun _ H => ?_)
  · refine r_lload_n K 0 dX12_power_20 rfl rfl ?_
    refine r_lneg K dX12_power_21 ?_
    exact r_sub [] rfl (t_X12_power_22 K hl H D)
  · refine r_lload_n K 0 dX12_power_16 rfl rfl ?_
    refine r_goto K 22 dX12_power_17 (by decide) ?_
    exact r_sub [] rfl (t_X12_power_22 K hl H D)
theorem c_X12_power (l : Launch) {n : Nat} {Y : jY} {v0 : Nat} {v1 : Int32} {v2 : Int32} {μ : jM} {z : Int64 × jM} (H : f_X12_power Y v0 v1 v2 μ = some z) : jC l yX12_power cX12_power 5 (some .long) 5 0 0 [.ref v0, .int v1, .int v2] n Y μ n Y (some (.long z.1)) z.2 := by
  refine jC_of (by decide +kernel) (Nat.le_of_ble_eq_true rfl) (fun X hl K _ _ _ => ?_)
  obtain ⟨rr, μr⟩ := z
  exact t_X12_power_0 K hl H rfl
/-! RX12 valueOf(IJ)J -/
def b_X12_valueOf_40 (Y : jY) (v0 : Nat) (v1 : Int32) (v2 : Int64) (v6 : Int32) (t0 : Int64) (t1 : Int64) (μ : jM) : Option ((Int64 × Int32 × jM) ⊕ (Int64 × jM)) :=
  some (.inl ((t0 + t1), (v6 + (-1 : Int32)), μ))
def b_X12_valueOf_6 (Y : jY) (v0 : Nat) (v1 : Int32) (v2 : Int64) (v4 : Int64) (v6 : Int32) (μ : jM) : Option ((Int64 × Int32 × jM) ⊕ (Int64 × jM)) :=
  if v6 < 0 then
    some (.inr (v4, μ))
  else
    (jgI Y μ v0 12 10).bind fun x1 =>
    if v1 = x1 then
      (jgO Y μ v0 12 13).bind fun x3 =>
      (jaL Y μ x3 21 v6).bind fun x4 =>
      b_X12_valueOf_40 Y v0 v1 v2 v6 (v4 * v2) x4 μ
    else
      (jrcv Y v0 12 (f_X12_power Y v0 v1 v6 μ)).bind fun r2 =>
      b_X12_valueOf_40 Y v0 v1 v2 v6 (v4 * v2) r2.1 r2.2
def f_X12_valueOf (Y : jY) (v0 : Nat) (v1 : Int32) (v2 : Int64) (μ : jM) : Option (Int64 × jM) :=
  jit jF (fun (s : Int64 × Int32 × jM) => b_X12_valueOf_6 Y v0 v1 v2 s.1 s.2.1 s.2.2) ((0 : Int64), v1, μ)
set_option maxRecDepth 10000 in
theorem t_X12_valueOf_40 {X : jX} {l : Launch} {n : Nat} {Y : jY} (K : jOK X RX12 cX12_valueOf 7 (some .long) 6) (hl : X.2.1 = l) {rr : Int64} {μr : jM} {v0 : Nat} {v1 : Int32} {v2 : Int64} {v6 : Int32} {t0 : Int64} {t1 : Int64} {μ : jM} {z : ((Int64 × Int32 × jM) ⊕ (Int64 × jM))} (H : b_X12_valueOf_40 Y v0 v1 v2 v6 t0 t1 μ = some z) (D : Sum.elim (fun (s : Int64 × Int32 × jM) => JW X (jEnd X n Y (some (.long rr)) μr 0 0) 0 0 n Y 6 [(0, .ref v0), (1, .int v1), (2, .long v2), (4, .long s.1), (6, .int s.2.1)] [] s.2.2) (fun r => r = (rr, μr)) z) : JW X (jEnd X n Y (some (.long rr)) μr 0 0) 0 0 n Y 40 [(0, .ref v0), (1, .int v1), (2, .long v2), (6, .int v6)] [.long t1, .long t0] μ := by
  unfold b_X12_valueOf_40 at H
  refine r_ladd K dX12_valueOf_40 ?_
  refine r_lstore K [(4, .long _), (0, .ref _), (1, .int _), (2, .long _), (6, .int _)] dX12_valueOf_41 (by decide) rfl ?_
  refine r_iinc K 4 [(6, .int _), (4, .long _), (0, .ref _), (1, .int _), (2, .long _)] (v := _ + (-1 : Int32)) dX12_valueOf_43 rfl rfl (by decide) rfl ?_
  refine r_goto K 6 dX12_valueOf_46 (by decide) ?_
  cases H
  exact r_sub [2, 3, 4, 1, 0] rfl D
set_option maxRecDepth 10000 in
theorem t_X12_valueOf_6 {X : jX} {l : Launch} {n : Nat} {Y : jY} (K : jOK X RX12 cX12_valueOf 7 (some .long) 6) (hl : X.2.1 = l) {rr : Int64} {μr : jM} {v0 : Nat} {v1 : Int32} {v2 : Int64} {v4 : Int64} {v6 : Int32} {μ : jM} {z : ((Int64 × Int32 × jM) ⊕ (Int64 × jM))} (H : b_X12_valueOf_6 Y v0 v1 v2 v4 v6 μ = some z) (D : Sum.elim (fun (s : Int64 × Int32 × jM) => JW X (jEnd X n Y (some (.long rr)) μr 0 0) 0 0 n Y 6 [(0, .ref v0), (1, .int v1), (2, .long v2), (4, .long s.1), (6, .int s.2.1)] [] s.2.2) (fun r => r = (rr, μr)) z) : JW X (jEnd X n Y (some (.long rr)) μr 0 0) 0 0 n Y 6 [(0, .ref v0), (1, .int v1), (2, .long v2), (4, .long v4), (6, .int v6)] [] μ := by
  unfold b_X12_valueOf_6 at H
  refine r_iload K 4 dX12_valueOf_6 rfl ?_
  refine w_if_lt K 49 dX12_valueOf_8 (by decide) H (fun _ H => ?_) (fun _ H => ?_)
  · refine r_lload K 3 dX12_valueOf_49 rfl ?_
    cases H
    simp only [Sum.elim_inr] at D
    obtain ⟨rfl, rfl⟩ := jfin2 D
    exact r_lret K dX12_valueOf_51
  · refine r_lload K 3 dX12_valueOf_11 rfl ?_
    refine r_lload_n K 2 dX12_valueOf_13 rfl rfl ?_
    refine r_lmul K dX12_valueOf_14 ?_
    refine r_iload_n K 1 dX12_valueOf_15 rfl rfl ?_
    refine r_aload_n K 0 dX12_valueOf_16 rfl rfl ?_
    refine w_getI K vc12 inX12 10 (by decide) mF_RX12_145 dX12_valueOf_17 H (fun x1 H => ?_)
    refine w_icmp_ne K 33 dX12_valueOf_20 (by decide) H (fun _ H => ?_) (fun _ H => ?_)
    · refine r_aload_n K 0 dX12_valueOf_33 rfl rfl ?_
      refine r_iload_n K 1 dX12_valueOf_34 rfl rfl ?_
      refine r_iload K 4 dX12_valueOf_35 rfl ?_
      refine w_callV K hl H (fun r h => c_X12_power l h) mC_yX12_power mM_RX12_217 mI_yX12_power mS_yX12_power mZ_RX12 vc12 (Nat.le_of_ble_eq_true rfl) (Nat.le_of_ble_eq_true rfl) np_yX12_power rfl (Nat.le_of_ble_eq_true rfl) dX12_valueOf_37 (fun r2 H => ?_) ⟨Nat.zero_le _, Nat.zero_le _⟩
      exact r_sub [0, 1, 2, 4] rfl (t_X12_valueOf_40 K hl H D)
    · refine r_aload_n K 0 dX12_valueOf_23 rfl rfl ?_
      refine w_getO K vc12 inX12 13 (by decide) mF_RX12_26 dX12_valueOf_24 H (fun x3 H => ?_)
      refine r_iload K 4 dX12_valueOf_27 rfl ?_
      refine w_lald K dX12_valueOf_29 H (fun x4 H => ?_)
      refine r_goto K 40 dX12_valueOf_30 (by decide) ?_
      exact r_sub [0, 1, 2, 4] rfl (t_X12_valueOf_40 K hl H D)
set_option maxRecDepth 10000 in
theorem l_X12_valueOf_6 {X : jX} {l : Launch} {n : Nat} {Y : jY} (K : jOK X RX12 cX12_valueOf 7 (some .long) 6) (hl : X.2.1 = l) {rr : Int64} {μr : jM} {v0 : Nat} {v1 : Int32} {v2 : Int64}  {s0 : Int64 × Int32 × jM} {z : (Int64 × jM)} (H : jit jF (fun (s : Int64 × Int32 × jM) => b_X12_valueOf_6 Y v0 v1 v2 s.1 s.2.1 s.2.2) s0 = some z) (D : z = (rr, μr)) : JW X (jEnd X n Y (some (.long rr)) μr 0 0) 0 0 n Y 6 [(0, .ref v0), (1, .int v1), (2, .long v2), (4, .long s0.1), (6, .int s0.2.1)] [] s0.2.2 :=
  jit_ind (P := fun (s : Int64 × Int32 × jM) => JW X (jEnd X n Y (some (.long rr)) μr 0 0) 0 0 n Y 6 [(0, .ref v0), (1, .int v1), (2, .long v2), (4, .long s.1), (6, .int s.2.1)] [] s.2.2) (D := fun r => r = (rr, μr)) (fun s z Hs Ds => t_X12_valueOf_6 K hl Hs Ds) jF s0 z H D
set_option maxRecDepth 10000 in
theorem t_X12_valueOf_0 {X : jX} {l : Launch} {n : Nat} {Y : jY} (K : jOK X RX12 cX12_valueOf 7 (some .long) 6) (hl : X.2.1 = l) {rr : Int64} {μr : jM} {v0 : Nat} {v1 : Int32} {v2 : Int64} {μ : jM} {z : (Int64 × jM)} (H : f_X12_valueOf Y v0 v1 v2 μ = some z) (D : z = (rr, μr)) : JW X (jEnd X n Y (some (.long rr)) μr 0 0) 0 0 n Y 0 [(0, .ref v0), (1, .int v1), (2, .long v2)] [] μ := by
  unfold f_X12_valueOf at H
  refine r_lconst (v := 0) K dX12_valueOf_0 (by decide) ?_
  refine r_lstore K [(4, .long _), (0, .ref _), (1, .int _), (2, .long _)] dX12_valueOf_1 (by decide) rfl ?_
  refine r_iload_n K 2 dX12_valueOf_3 rfl rfl ?_
  refine r_istore K [(6, .int _), (4, .long _), (0, .ref _), (1, .int _), (2, .long _)] dX12_valueOf_4 (by decide) rfl ?_
  exact r_sub [2, 3, 4, 1, 0] rfl (l_X12_valueOf_6 K hl H D)
theorem c_X12_valueOf (l : Launch) {n : Nat} {Y : jY} {v0 : Nat} {v1 : Int32} {v2 : Int64} {μ : jM} {z : Int64 × jM} (H : f_X12_valueOf Y v0 v1 v2 μ = some z) : jC l yX12_valueOf cX12_valueOf 7 (some .long) 6 0 0 [.ref v0, .int v1, .long v2] n Y μ n Y (some (.long z.1)) z.2 := by
  refine jC_of (by decide +kernel) (Nat.le_of_ble_eq_true rfl) (fun X hl K _ _ _ => ?_)
  obtain ⟨rr, μr⟩ := z
  exact t_X12_valueOf_0 K hl H rfl
/-! RX12 count(I)I -/
def b_X12_count_132 (Y : jY) (t0 : Int32) (μ : jM) : Option (Int32 × jM) :=
  some (t0, μ)
def b_X12_count_78 (Y : jY) (v0 : Nat) (v1 : Int32) (v3 : Int32) (t0 : Int32) (t1 : Int32) (μ : jM) : Option ((Int32 × Int32 × jM) ⊕ (Int32 × jM)) :=
  some (.inl ((t0 ||| t1), (v3 + (1 : Int32)), μ))
def b_X12_count_56 (Y : jY) (v0 : Nat) (v1 : Int32) (v2 : Int32) (v3 : Int32) (μ : jM) : Option ((Int32 × Int32 × jM) ⊕ (Int32 × jM)) :=
  if ((4 : Int32)) ≤ v3 then
    if v1 = 0 then
      (jgI Y μ v0 12 10).bind fun x3 =>
      (b_X12_count_132 Y x3 μ).map (fun r => (.inr r))
    else
      if v1 = ((1 : Int32)) then
        (b_X12_count_132 Y v2 μ).map (fun r => (.inr r))
      else
        if v1 = ((2 : Int32)) then
          (jgI Y μ v0 12 1).bind fun x2 =>
          (b_X12_count_132 Y x2 μ).map (fun r => (.inr r))
        else
          if v1 = ((3 : Int32)) then
            (jgI Y μ v0 12 25).bind fun x1 =>
            (b_X12_count_132 Y x1 μ).map (fun r => (.inr r))
          else
            (b_X12_count_132 Y (-2147483648 : Int32) μ).map (fun r => (.inr r))
  else
    (jgO Y μ v0 12 26).bind fun x4 =>
    (jaI Y μ x4 20 v3).bind fun x5 =>
    if x5 ≤ 0 then
      b_X12_count_78 Y v0 v1 v3 v2 (0 : Int32) μ
    else
      b_X12_count_78 Y v0 v1 v3 v2 (((1 : Int32)) <<< (v3 &&& 31)) μ
def f_X12_count (Y : jY) (v0 : Nat) (v1 : Int32) (μ : jM) : Option (Int32 × jM) :=
  (jgI Y μ v0 12 10).bind fun x1 =>
  (f_X12_in Y v1 ((10 : Int32)) ((((9 : Int32)) + x1)) μ).bind fun r2 =>
  if r2.1 = 0 then
    (jgI Y r2.2 v0 12 10).bind fun x3 =>
    (f_X12_in Y v1 ((20 : Int32)) ((((18 : Int32)) + x3)) r2.2).bind fun r4 =>
    if r4.1 = 0 then
      jit jF (fun (s : Int32 × Int32 × jM) => b_X12_count_56 Y v0 v1 s.1 s.2.1 s.2.2) ((0 : Int32), (0 : Int32), r4.2)
    else
      (jgO Y r4.2 v0 12 12).bind fun x5 =>
      (jaI Y r4.2 x5 20 ((v1 - ((20 : Int32))))).bind fun x6 =>
      some (x6, r4.2)
  else
    (jgO Y r2.2 v0 12 11).bind fun x7 =>
    (jaI Y r2.2 x7 20 ((v1 - ((10 : Int32))))).bind fun x8 =>
    some (x8, r2.2)
set_option maxRecDepth 10000 in
theorem t_X12_count_132 {X : jX} {l : Launch} {n : Nat} {Y : jY} (K : jOK X RX12 cX12_count 4 (some .int) 2) (hl : X.2.1 = l) {rr : Int32} {μr : jM} {t0 : Int32} {μ : jM} {z : (Int32 × jM)} (H : b_X12_count_132 Y t0 μ = some z) (D : z = (rr, μr)) : JW X (jEnd X n Y (some (.int rr)) μr 0 0) 0 0 n Y 132 [] [.int t0] μ := by
  unfold b_X12_count_132 at H
  cases H
  obtain ⟨rfl, rfl⟩ := jfin2 D
  exact r_iret K dX12_count_132
set_option maxRecDepth 10000 in
theorem t_X12_count_78 {X : jX} {l : Launch} {n : Nat} {Y : jY} (K : jOK X RX12 cX12_count 4 (some .int) 2) (hl : X.2.1 = l) {rr : Int32} {μr : jM} {v0 : Nat} {v1 : Int32} {v3 : Int32} {t0 : Int32} {t1 : Int32} {μ : jM} {z : ((Int32 × Int32 × jM) ⊕ (Int32 × jM))} (H : b_X12_count_78 Y v0 v1 v3 t0 t1 μ = some z) (D : Sum.elim (fun (s : Int32 × Int32 × jM) => JW X (jEnd X n Y (some (.int rr)) μr 0 0) 0 0 n Y 56 [(0, .ref v0), (1, .int v1), (2, .int s.1), (3, .int s.2.1)] [] s.2.2) (fun r => r = (rr, μr)) z) : JW X (jEnd X n Y (some (.int rr)) μr 0 0) 0 0 n Y 78 [(0, .ref v0), (1, .int v1), (3, .int v3)] [.int t1, .int t0] μ := by
  unfold b_X12_count_78 at H
  refine r_ior K dX12_count_78 ?_
  refine r_istore_n K [(2, .int _), (0, .ref _), (1, .int _), (3, .int _)] dX12_count_79 rfl (by decide) rfl ?_
  refine r_iinc K 3 [(3, .int _), (2, .int _), (0, .ref _), (1, .int _)] (v := _ + (1 : Int32)) dX12_count_80 rfl rfl (by decide) rfl ?_
  refine r_goto K 56 dX12_count_83 (by decide) ?_
  cases H
  exact r_sub [2, 3, 1, 0] rfl D
set_option maxRecDepth 10000 in
theorem t_X12_count_56 {X : jX} {l : Launch} {n : Nat} {Y : jY} (K : jOK X RX12 cX12_count 4 (some .int) 2) (hl : X.2.1 = l) {rr : Int32} {μr : jM} {v0 : Nat} {v1 : Int32} {v2 : Int32} {v3 : Int32} {μ : jM} {z : ((Int32 × Int32 × jM) ⊕ (Int32 × jM))} (H : b_X12_count_56 Y v0 v1 v2 v3 μ = some z) (D : Sum.elim (fun (s : Int32 × Int32 × jM) => JW X (jEnd X n Y (some (.int rr)) μr 0 0) 0 0 n Y 56 [(0, .ref v0), (1, .int v1), (2, .int s.1), (3, .int s.2.1)] [] s.2.2) (fun r => r = (rr, μr)) z) : JW X (jEnd X n Y (some (.int rr)) μr 0 0) 0 0 n Y 56 [(0, .ref v0), (1, .int v1), (2, .int v2), (3, .int v3)] [] μ := by
  unfold b_X12_count_56 at H
  refine r_iload_n K 3 dX12_count_56 rfl rfl ?_
  refine r_iconst (v := 4) K dX12_count_57 (by decide) ?_
  refine w_icmp_ge K 86 dX12_count_58 (by decide) H (fun _ H => ?_) (fun _ H => ?_)
  · refine r_iload_n K 1 dX12_count_86 rfl rfl ?_
    refine w_if_ne K 97 dX12_count_87 (by decide) H (fun _ H => ?_) (fun _ H => ?_)
    · refine r_iload_n K 1 dX12_count_97 rfl rfl ?_
      refine r_iconst (v := 1) K dX12_count_98 (by decide) ?_
      refine w_icmp_ne K 106 dX12_count_99 (by decide) H (fun _ H => ?_) (fun _ H => ?_)
      · refine r_iload_n K 1 dX12_count_106 rfl rfl ?_
        refine r_iconst (v := 2) K dX12_count_107 (by decide) ?_
        refine w_icmp_ne K 118 dX12_count_108 (by decide) H (fun _ H => ?_) (fun _ H => ?_)
        · refine r_iload_n K 1 dX12_count_118 rfl rfl ?_
          refine r_iconst (v := 3) K dX12_count_119 (by decide) ?_
          refine w_icmp_ne K 130 dX12_count_120 (by decide) H (fun _ H => ?_) (fun _ H => ?_)
          · refine r_ldc K (-2147483648) mc_RX12_151 dX12_count_130 ?_
            obtain ⟨z2, H2, rfl⟩ := jmap H
            exact r_sub [] rfl (t_X12_count_132 K hl H2 D)
          · refine r_aload_n K 0 dX12_count_123 rfl rfl ?_
            refine w_getI K vc12 inX12 25 (by decide) mF_RX12_148 dX12_count_124 H (fun x1 H => ?_)
            refine r_goto K 132 dX12_count_127 (by decide) ?_
            obtain ⟨z2, H2, rfl⟩ := jmap H
            exact r_sub [] rfl (t_X12_count_132 K hl H2 D)
        · refine r_aload_n K 0 dX12_count_111 rfl rfl ?_
          refine w_getI K vc12 inX12 1 (by decide) mF_RX12_93 dX12_count_112 H (fun x2 H => ?_)
          refine r_goto K 132 dX12_count_115 (by decide) ?_
          obtain ⟨z2, H2, rfl⟩ := jmap H
          exact r_sub [] rfl (t_X12_count_132 K hl H2 D)
      · refine r_iload_n K 2 dX12_count_102 rfl rfl ?_
        refine r_goto K 132 dX12_count_103 (by decide) ?_
        obtain ⟨z2, H2, rfl⟩ := jmap H
        exact r_sub [] rfl (t_X12_count_132 K hl H2 D)
    · refine r_aload_n K 0 dX12_count_90 rfl rfl ?_
      refine w_getI K vc12 inX12 10 (by decide) mF_RX12_145 dX12_count_91 H (fun x3 H => ?_)
      refine r_goto K 132 dX12_count_94 (by decide) ?_
      obtain ⟨z2, H2, rfl⟩ := jmap H
      exact r_sub [] rfl (t_X12_count_132 K hl H2 D)
  · refine r_iload_n K 2 dX12_count_61 rfl rfl ?_
    refine r_aload_n K 0 dX12_count_62 rfl rfl ?_
    refine w_getO K vc12 inX12 26 (by decide) mF_RX12_48 dX12_count_63 H (fun x4 H => ?_)
    refine r_iload_n K 3 dX12_count_66 rfl rfl ?_
    refine w_iald K dX12_count_67 H (fun x5 H => ?_)
    refine w_if_le K 77 dX12_count_68 (by decide) H (fun _ H => ?_) (fun _ H => ?_)
    · refine r_iconst (v := 0) K dX12_count_77 (by decide) ?_
      exact r_sub [0, 1, 3] rfl (t_X12_count_78 K hl H D)
    · refine r_iconst (v := 1) K dX12_count_71 (by decide) ?_
      refine r_iload_n K 3 dX12_count_72 rfl rfl ?_
      refine r_ishl K dX12_count_73 ?_
      refine r_goto K 78 dX12_count_74 (by decide) ?_
      exact r_sub [0, 1, 3] rfl (t_X12_count_78 K hl H D)
set_option maxRecDepth 10000 in
theorem l_X12_count_56 {X : jX} {l : Launch} {n : Nat} {Y : jY} (K : jOK X RX12 cX12_count 4 (some .int) 2) (hl : X.2.1 = l) {rr : Int32} {μr : jM} {v0 : Nat} {v1 : Int32}  {s0 : Int32 × Int32 × jM} {z : (Int32 × jM)} (H : jit jF (fun (s : Int32 × Int32 × jM) => b_X12_count_56 Y v0 v1 s.1 s.2.1 s.2.2) s0 = some z) (D : z = (rr, μr)) : JW X (jEnd X n Y (some (.int rr)) μr 0 0) 0 0 n Y 56 [(0, .ref v0), (1, .int v1), (2, .int s0.1), (3, .int s0.2.1)] [] s0.2.2 :=
  jit_ind (P := fun (s : Int32 × Int32 × jM) => JW X (jEnd X n Y (some (.int rr)) μr 0 0) 0 0 n Y 56 [(0, .ref v0), (1, .int v1), (2, .int s.1), (3, .int s.2.1)] [] s.2.2) (D := fun r => r = (rr, μr)) (fun s z Hs Ds => t_X12_count_56 K hl Hs Ds) jF s0 z H D
set_option maxRecDepth 10000 in
theorem t_X12_count_0 {X : jX} {l : Launch} {n : Nat} {Y : jY} (K : jOK X RX12 cX12_count 4 (some .int) 2) (hl : X.2.1 = l) {rr : Int32} {μr : jM} {v0 : Nat} {v1 : Int32} {μ : jM} {z : (Int32 × jM)} (H : f_X12_count Y v0 v1 μ = some z) (D : z = (rr, μr)) : JW X (jEnd X n Y (some (.int rr)) μr 0 0) 0 0 n Y 0 [(0, .ref v0), (1, .int v1)] [] μ := by
  unfold f_X12_count at H
  refine r_iload_n K 1 dX12_count_0 rfl rfl ?_
  refine r_bipush (v := 10) K dX12_count_1 (by decide) ?_
  refine r_bipush (v := 9) K dX12_count_3 (by decide) ?_
  refine r_aload_n K 0 dX12_count_5 rfl rfl ?_
  refine w_getI K vc12 inX12 10 (by decide) mF_RX12_145 dX12_count_6 H (fun x1 H => ?_)
  refine r_iadd K dX12_count_9 ?_
  refine w_callS K hl H (fun r h => c_X12_in l h) mC_yX12_in mM_RX12_134 mT_yX12_in mZ_RX12 (Nat.le_of_ble_eq_true rfl) (Nat.le_of_ble_eq_true rfl) np_yX12_in rfl (Nat.le_of_ble_eq_true rfl) dX12_count_10 (fun r2 H => ?_) ⟨Nat.zero_le _, Nat.zero_le _⟩
  refine w_if_eq K 26 dX12_count_13 (by decide) H (fun _ H => ?_) (fun _ H => ?_)
  · refine r_iload_n K 1 dX12_count_26 rfl rfl ?_
    refine r_bipush (v := 20) K dX12_count_27 (by decide) ?_
    refine r_bipush (v := 18) K dX12_count_29 (by decide) ?_
    refine r_aload_n K 0 dX12_count_31 rfl rfl ?_
    refine w_getI K vc12 inX12 10 (by decide) mF_RX12_145 dX12_count_32 H (fun x3 H => ?_)
    refine r_iadd K dX12_count_35 ?_
    refine w_callS K hl H (fun r h => c_X12_in l h) mC_yX12_in mM_RX12_134 mT_yX12_in mZ_RX12 (Nat.le_of_ble_eq_true rfl) (Nat.le_of_ble_eq_true rfl) np_yX12_in rfl (Nat.le_of_ble_eq_true rfl) dX12_count_36 (fun r4 H => ?_) ⟨Nat.zero_le _, Nat.zero_le _⟩
    refine w_if_eq K 52 dX12_count_39 (by decide) H (fun _ H => ?_) (fun _ H => ?_)
    · refine r_iconst (v := 0) K dX12_count_52 (by decide) ?_
      refine r_istore_n K [(2, .int _), (0, .ref _), (1, .int _)] dX12_count_53 rfl (by decide) rfl ?_
      refine r_iconst (v := 0) K dX12_count_54 (by decide) ?_
      refine r_istore_n K [(3, .int _), (2, .int _), (0, .ref _), (1, .int _)] dX12_count_55 rfl (by decide) rfl ?_
      exact r_sub [2, 3, 1, 0] rfl (l_X12_count_56 K hl H D)
    · refine r_aload_n K 0 dX12_count_42 rfl rfl ?_
      refine w_getO K vc12 inX12 12 (by decide) mF_RX12_23 dX12_count_43 H (fun x5 H => ?_)
      refine r_iload_n K 1 dX12_count_46 rfl rfl ?_
      refine r_bipush (v := 20) K dX12_count_47 (by decide) ?_
      refine r_isub K dX12_count_49 ?_
      refine w_iald K dX12_count_50 H (fun x6 H => ?_)
      cases H
      obtain ⟨rfl, rfl⟩ := jfin2 D
      exact r_iret K dX12_count_51
  · refine r_aload_n K 0 dX12_count_16 rfl rfl ?_
    refine w_getO K vc12 inX12 11 (by decide) mF_RX12_20 dX12_count_17 H (fun x7 H => ?_)
    refine r_iload_n K 1 dX12_count_20 rfl rfl ?_
    refine r_bipush (v := 10) K dX12_count_21 (by decide) ?_
    refine r_isub K dX12_count_23 ?_
    refine w_iald K dX12_count_24 H (fun x8 H => ?_)
    cases H
    obtain ⟨rfl, rfl⟩ := jfin2 D
    exact r_iret K dX12_count_25
theorem c_X12_count (l : Launch) {n : Nat} {Y : jY} {v0 : Nat} {v1 : Int32} {μ : jM} {z : Int32 × jM} (H : f_X12_count Y v0 v1 μ = some z) : jC l yX12_count cX12_count 4 (some .int) 2 0 0 [.ref v0, .int v1] n Y μ n Y (some (.int z.1)) z.2 := by
  refine jC_of (by decide +kernel) (Nat.le_of_ble_eq_true rfl) (fun X hl K _ _ _ => ?_)
  obtain ⟨rr, μr⟩ := z
  exact t_X12_count_0 K hl H rfl
/-! RX12 letter(I)I -/
def b_X12_letter_12 (Y : jY) (μ : jM) : Option (Int32 × jM) :=
  some ((-1 : Int32), μ)
def b_X12_letter_133 (Y : jY) (t0 : Int32) (μ : jM) : Option (Int32 × jM) :=
  some (t0, μ)
def b_X12_letter_88 (Y : jY) (v0 : Nat) (v1 : Int32) (v2 : Int32) (μ : jM) : Option ((Int32 × jM) ⊕ (Int32 × jM)) :=
  (jgO Y μ v0 12 12).bind fun x1 =>
  (jaI Y μ x1 20 v2).bind fun x2 =>
  (jrcv Y v0 12 (f_X12_writesNumber Y v0 x2 μ)).bind fun μ3 =>
  some (.inl ((v2 + (1 : Int32)), μ3))
def b_X12_letter_68 (Y : jY) (v0 : Nat) (v1 : Int32) (v2 : Int32) (μ : jM) : Option ((Int32 × jM) ⊕ (Int32 × jM)) :=
  (jgI Y μ v0 12 10).bind fun x1 =>
  if ((x1 - ((1 : Int32)))) ≤ v2 then
    if v1 = ((-1 : Int32)) then
      (jgI Y μ v0 12 22).bind fun x4 =>
      (b_X12_letter_133 Y x4 μ).map (fun r => (.inr r))
    else
      (jgI Y μ v0 12 22).bind fun x2 =>
      if x2 ≤ v1 then
        (b_X12_letter_133 Y (-3 : Int32) μ).map (fun r => (.inr r))
      else
        (jgI Y μ v0 12 24).bind fun x3 =>
        (b_X12_letter_133 Y x3 μ).map (fun r => (.inr r))
  else
    if v2 ≤ 0 then
      b_X12_letter_88 Y v0 v1 v2 μ
    else
      (jrcv Y v0 12 (f_X12_writes Y v0 ((32 : Int32)) μ)).bind fun μ5 =>
      b_X12_letter_88 Y v0 v1 v2 μ5
def b_X12_letter_44 (Y : jY) (v0 : Nat) (v1 : Int32) (v2 : Int32) (μ : jM) : Option ((Int32 × jM) ⊕ (Int32 × jM)) :=
  (jgO Y μ v0 12 11).bind fun x1 =>
  (jaI Y μ x1 20 v2).bind fun x2 =>
  (jrcv Y v0 12 (f_X12_writesNumber Y v0 x2 μ)).bind fun μ3 =>
  some (.inl ((v2 + (1 : Int32)), μ3))
def b_X12_letter_26 (Y : jY) (v0 : Nat) (v1 : Int32) (v2 : Int32) (μ : jM) : Option ((Int32 × jM) ⊕ (Int32 × jM)) :=
  (jgI Y μ v0 12 10).bind fun x1 =>
  if x1 ≤ v2 then
    (jrcv Y v0 12 (f_X12_writes Y v0 ((47 : Int32)) μ)).bind fun μ2 =>
    (jit jF (fun (s : Int32 × jM) => b_X12_letter_68 Y v0 v1 s.1 s.2) ((0 : Int32), μ2)).map (fun r => (.inr r))
  else
    if v2 ≤ 0 then
      b_X12_letter_44 Y v0 v1 v2 μ
    else
      (jrcv Y v0 12 (f_X12_writes Y v0 ((32 : Int32)) μ)).bind fun μ3 =>
      b_X12_letter_44 Y v0 v1 v2 μ3
def f_X12_letter (Y : jY) (v0 : Nat) (v1 : Int32) (μ : jM) : Option (Int32 × jM) :=
  (jgI Y μ v0 12 10).bind fun x1 =>
  if x1 = 0 then
    b_X12_letter_12 Y μ
  else
    if ((-1 : Int32)) ≤ v1 then
      (jput Y μ v0 12 22 (.int ((0 : Int32)))).bind fun μ2 =>
      (jput Y μ2 v0 12 23 (.int v1)).bind fun μ3 =>
      jit jF (fun (s : Int32 × jM) => b_X12_letter_26 Y v0 v1 s.1 s.2) ((0 : Int32), μ3)
    else
      b_X12_letter_12 Y μ
set_option maxRecDepth 10000 in
theorem t_X12_letter_12 {X : jX} {l : Launch} {n : Nat} {Y : jY} (K : jOK X RX12 cX12_letter 3 (some .int) 3) (hl : X.2.1 = l) {rr : Int32} {μr : jM} {μ : jM} {z : (Int32 × jM)} (H : b_X12_letter_12 Y μ = some z) (D : z = (rr, μr)) : JW X (jEnd X n Y (some (.int rr)) μr 0 0) 0 0 n Y 12 [] [] μ := by
  unfold b_X12_letter_12 at H
  refine r_iconst (v := -1) K dX12_letter_12 (by decide) ?_
  cases H
  obtain ⟨rfl, rfl⟩ := jfin2 D
  exact r_iret K dX12_letter_13
set_option maxRecDepth 10000 in
theorem t_X12_letter_133 {X : jX} {l : Launch} {n : Nat} {Y : jY} (K : jOK X RX12 cX12_letter 3 (some .int) 3) (hl : X.2.1 = l) {rr : Int32} {μr : jM} {t0 : Int32} {μ : jM} {z : (Int32 × jM)} (H : b_X12_letter_133 Y t0 μ = some z) (D : z = (rr, μr)) : JW X (jEnd X n Y (some (.int rr)) μr 0 0) 0 0 n Y 133 [] [.int t0] μ := by
  unfold b_X12_letter_133 at H
  cases H
  obtain ⟨rfl, rfl⟩ := jfin2 D
  exact r_iret K dX12_letter_133
set_option maxRecDepth 10000 in
theorem t_X12_letter_88 {X : jX} {l : Launch} {n : Nat} {Y : jY} (K : jOK X RX12 cX12_letter 3 (some .int) 3) (hl : X.2.1 = l) {rr : Int32} {μr : jM} {v0 : Nat} {v1 : Int32} {v2 : Int32} {μ : jM} {z : ((Int32 × jM) ⊕ (Int32 × jM))} (H : b_X12_letter_88 Y v0 v1 v2 μ = some z) (D : Sum.elim (fun (s : Int32 × jM) => JW X (jEnd X n Y (some (.int rr)) μr 0 0) 0 0 n Y 68 [(0, .ref v0), (1, .int v1), (2, .int s.1)] [] s.2) (fun r => r = (rr, μr)) z) : JW X (jEnd X n Y (some (.int rr)) μr 0 0) 0 0 n Y 88 [(0, .ref v0), (1, .int v1), (2, .int v2)] [] μ := by
  unfold b_X12_letter_88 at H
  refine r_aload_n K 0 dX12_letter_88 rfl rfl ?_
  refine r_aload_n K 0 dX12_letter_89 rfl rfl ?_
  refine w_getO K vc12 inX12 12 (by decide) mF_RX12_23 dX12_letter_90 H (fun x1 H => ?_)
  refine r_iload_n K 2 dX12_letter_93 rfl rfl ?_
  refine w_iald K dX12_letter_94 H (fun x2 H => ?_)
  refine w_callV K hl H (fun r h => c_X12_writesNumber l h) mC_yX12_writesNumber mM_RX12_250 mI_yX12_writesNumber mS_yX12_writesNumber mZ_RX12 vc12 (Nat.le_of_ble_eq_true rfl) (Nat.le_of_ble_eq_true rfl) np_yX12_writesNumber rfl (Nat.le_of_ble_eq_true rfl) dX12_letter_95 (fun μ3 H => ?_) ⟨Nat.zero_le _, Nat.zero_le _⟩
  refine r_iinc K 2 [(2, .int _), (0, .ref _), (1, .int _)] (v := _ + (1 : Int32)) dX12_letter_98 rfl rfl (by decide) rfl ?_
  refine r_goto K 68 dX12_letter_101 (by decide) ?_
  cases H
  exact r_sub [1, 2, 0] rfl D
set_option maxRecDepth 10000 in
theorem t_X12_letter_68 {X : jX} {l : Launch} {n : Nat} {Y : jY} (K : jOK X RX12 cX12_letter 3 (some .int) 3) (hl : X.2.1 = l) {rr : Int32} {μr : jM} {v0 : Nat} {v1 : Int32} {v2 : Int32} {μ : jM} {z : ((Int32 × jM) ⊕ (Int32 × jM))} (H : b_X12_letter_68 Y v0 v1 v2 μ = some z) (D : Sum.elim (fun (s : Int32 × jM) => JW X (jEnd X n Y (some (.int rr)) μr 0 0) 0 0 n Y 68 [(0, .ref v0), (1, .int v1), (2, .int s.1)] [] s.2) (fun r => r = (rr, μr)) z) : JW X (jEnd X n Y (some (.int rr)) μr 0 0) 0 0 n Y 68 [(0, .ref v0), (1, .int v1), (2, .int v2)] [] μ := by
  unfold b_X12_letter_68 at H
  refine r_iload_n K 2 dX12_letter_68 rfl rfl ?_
  refine r_aload_n K 0 dX12_letter_69 rfl rfl ?_
  refine w_getI K vc12 inX12 10 (by decide) mF_RX12_145 dX12_letter_70 H (fun x1 H => ?_)
  refine r_iconst (v := 1) K dX12_letter_73 (by decide) ?_
  refine r_isub K dX12_letter_74 ?_
  refine w_icmp_ge K 104 dX12_letter_75 (by decide) H (fun _ H => ?_) (fun _ H => ?_)
  · refine r_iload_n K 1 dX12_letter_104 rfl rfl ?_
    refine r_iconst (v := -1) K dX12_letter_105 (by decide) ?_
    refine w_icmp_ne K 116 dX12_letter_106 (by decide) H (fun _ H => ?_) (fun _ H => ?_)
    · refine r_iload_n K 1 dX12_letter_116 rfl rfl ?_
      refine r_aload_n K 0 dX12_letter_117 rfl rfl ?_
      refine w_getI K vc12 inX12 22 (by decide) mF_RX12_238 dX12_letter_118 H (fun x2 H => ?_)
      refine w_icmp_ge K 131 dX12_letter_121 (by decide) H (fun _ H => ?_) (fun _ H => ?_)
      · refine r_bipush (v := -3) K dX12_letter_131 (by decide) ?_
        obtain ⟨z2, H2, rfl⟩ := jmap H
        exact r_sub [] rfl (t_X12_letter_133 K hl H2 D)
      · refine r_aload_n K 0 dX12_letter_124 rfl rfl ?_
        refine w_getI K vc12 inX12 24 (by decide) mF_RX12_244 dX12_letter_125 H (fun x3 H => ?_)
        refine r_goto K 133 dX12_letter_128 (by decide) ?_
        obtain ⟨z2, H2, rfl⟩ := jmap H
        exact r_sub [] rfl (t_X12_letter_133 K hl H2 D)
    · refine r_aload_n K 0 dX12_letter_109 rfl rfl ?_
      refine w_getI K vc12 inX12 22 (by decide) mF_RX12_238 dX12_letter_110 H (fun x4 H => ?_)
      refine r_goto K 133 dX12_letter_113 (by decide) ?_
      obtain ⟨z2, H2, rfl⟩ := jmap H
      exact r_sub [] rfl (t_X12_letter_133 K hl H2 D)
  · refine r_iload_n K 2 dX12_letter_78 rfl rfl ?_
    refine w_if_le K 88 dX12_letter_79 (by decide) H (fun _ H => ?_) (fun _ H => ?_)
    · exact r_sub [0, 1, 2] rfl (t_X12_letter_88 K hl H D)
    · refine r_aload_n K 0 dX12_letter_82 rfl rfl ?_
      refine r_bipush (v := 32) K dX12_letter_83 (by decide) ?_
      refine w_callV K hl H (fun r h => c_X12_writes l h) mC_yX12_writes mM_RX12_247 mI_yX12_writes mS_yX12_writes mZ_RX12 vc12 (Nat.le_of_ble_eq_true rfl) (Nat.le_of_ble_eq_true rfl) np_yX12_writes rfl (Nat.le_of_ble_eq_true rfl) dX12_letter_85 (fun μ5 H => ?_) ⟨Nat.zero_le _, Nat.zero_le _⟩
      exact r_sub [0, 1, 2] rfl (t_X12_letter_88 K hl H D)
set_option maxRecDepth 10000 in
theorem l_X12_letter_68 {X : jX} {l : Launch} {n : Nat} {Y : jY} (K : jOK X RX12 cX12_letter 3 (some .int) 3) (hl : X.2.1 = l) {rr : Int32} {μr : jM} {v0 : Nat} {v1 : Int32}  {s0 : Int32 × jM} {z : (Int32 × jM)} (H : jit jF (fun (s : Int32 × jM) => b_X12_letter_68 Y v0 v1 s.1 s.2) s0 = some z) (D : z = (rr, μr)) : JW X (jEnd X n Y (some (.int rr)) μr 0 0) 0 0 n Y 68 [(0, .ref v0), (1, .int v1), (2, .int s0.1)] [] s0.2 :=
  jit_ind (P := fun (s : Int32 × jM) => JW X (jEnd X n Y (some (.int rr)) μr 0 0) 0 0 n Y 68 [(0, .ref v0), (1, .int v1), (2, .int s.1)] [] s.2) (D := fun r => r = (rr, μr)) (fun s z Hs Ds => t_X12_letter_68 K hl Hs Ds) jF s0 z H D
set_option maxRecDepth 10000 in
theorem t_X12_letter_44 {X : jX} {l : Launch} {n : Nat} {Y : jY} (K : jOK X RX12 cX12_letter 3 (some .int) 3) (hl : X.2.1 = l) {rr : Int32} {μr : jM} {v0 : Nat} {v1 : Int32} {v2 : Int32} {μ : jM} {z : ((Int32 × jM) ⊕ (Int32 × jM))} (H : b_X12_letter_44 Y v0 v1 v2 μ = some z) (D : Sum.elim (fun (s : Int32 × jM) => JW X (jEnd X n Y (some (.int rr)) μr 0 0) 0 0 n Y 26 [(0, .ref v0), (1, .int v1), (2, .int s.1)] [] s.2) (fun r => r = (rr, μr)) z) : JW X (jEnd X n Y (some (.int rr)) μr 0 0) 0 0 n Y 44 [(0, .ref v0), (1, .int v1), (2, .int v2)] [] μ := by
  unfold b_X12_letter_44 at H
  refine r_aload_n K 0 dX12_letter_44 rfl rfl ?_
  refine r_aload_n K 0 dX12_letter_45 rfl rfl ?_
  refine w_getO K vc12 inX12 11 (by decide) mF_RX12_20 dX12_letter_46 H (fun x1 H => ?_)
  refine r_iload_n K 2 dX12_letter_49 rfl rfl ?_
  refine w_iald K dX12_letter_50 H (fun x2 H => ?_)
  refine w_callV K hl H (fun r h => c_X12_writesNumber l h) mC_yX12_writesNumber mM_RX12_250 mI_yX12_writesNumber mS_yX12_writesNumber mZ_RX12 vc12 (Nat.le_of_ble_eq_true rfl) (Nat.le_of_ble_eq_true rfl) np_yX12_writesNumber rfl (Nat.le_of_ble_eq_true rfl) dX12_letter_51 (fun μ3 H => ?_) ⟨Nat.zero_le _, Nat.zero_le _⟩
  refine r_iinc K 2 [(2, .int _), (0, .ref _), (1, .int _)] (v := _ + (1 : Int32)) dX12_letter_54 rfl rfl (by decide) rfl ?_
  refine r_goto K 26 dX12_letter_57 (by decide) ?_
  cases H
  exact r_sub [1, 2, 0] rfl D
set_option maxRecDepth 10000 in
theorem t_X12_letter_26 {X : jX} {l : Launch} {n : Nat} {Y : jY} (K : jOK X RX12 cX12_letter 3 (some .int) 3) (hl : X.2.1 = l) {rr : Int32} {μr : jM} {v0 : Nat} {v1 : Int32} {v2 : Int32} {μ : jM} {z : ((Int32 × jM) ⊕ (Int32 × jM))} (H : b_X12_letter_26 Y v0 v1 v2 μ = some z) (D : Sum.elim (fun (s : Int32 × jM) => JW X (jEnd X n Y (some (.int rr)) μr 0 0) 0 0 n Y 26 [(0, .ref v0), (1, .int v1), (2, .int s.1)] [] s.2) (fun r => r = (rr, μr)) z) : JW X (jEnd X n Y (some (.int rr)) μr 0 0) 0 0 n Y 26 [(0, .ref v0), (1, .int v1), (2, .int v2)] [] μ := by
  unfold b_X12_letter_26 at H
  refine r_iload_n K 2 dX12_letter_26 rfl rfl ?_
  refine r_aload_n K 0 dX12_letter_27 rfl rfl ?_
  refine w_getI K vc12 inX12 10 (by decide) mF_RX12_145 dX12_letter_28 H (fun x1 H => ?_)
  refine w_icmp_ge K 60 dX12_letter_31 (by decide) H (fun _ H => ?_) (fun _ H => ?_)
  · refine r_aload_n K 0 dX12_letter_60 rfl rfl ?_
    refine r_bipush (v := 47) K dX12_letter_61 (by decide) ?_
    refine w_callV K hl H (fun r h => c_X12_writes l h) mC_yX12_writes mM_RX12_247 mI_yX12_writes mS_yX12_writes mZ_RX12 vc12 (Nat.le_of_ble_eq_true rfl) (Nat.le_of_ble_eq_true rfl) np_yX12_writes rfl (Nat.le_of_ble_eq_true rfl) dX12_letter_63 (fun μ2 H => ?_) ⟨Nat.zero_le _, Nat.zero_le _⟩
    refine r_iconst (v := 0) K dX12_letter_66 (by decide) ?_
    refine r_istore_n K [(2, .int _), (0, .ref _), (1, .int _)] dX12_letter_67 rfl (by decide) rfl ?_
    obtain ⟨z2, H2, rfl⟩ := jmap H
    exact r_sub [1, 2, 0] rfl (l_X12_letter_68 K hl H2 D)
  · refine r_iload_n K 2 dX12_letter_34 rfl rfl ?_
    refine w_if_le K 44 dX12_letter_35 (by decide) H (fun _ H => ?_) (fun _ H => ?_)
    · exact r_sub [0, 1, 2] rfl (t_X12_letter_44 K hl H D)
    · refine r_aload_n K 0 dX12_letter_38 rfl rfl ?_
      refine r_bipush (v := 32) K dX12_letter_39 (by decide) ?_
      refine w_callV K hl H (fun r h => c_X12_writes l h) mC_yX12_writes mM_RX12_247 mI_yX12_writes mS_yX12_writes mZ_RX12 vc12 (Nat.le_of_ble_eq_true rfl) (Nat.le_of_ble_eq_true rfl) np_yX12_writes rfl (Nat.le_of_ble_eq_true rfl) dX12_letter_41 (fun μ3 H => ?_) ⟨Nat.zero_le _, Nat.zero_le _⟩
      exact r_sub [0, 1, 2] rfl (t_X12_letter_44 K hl H D)
set_option maxRecDepth 10000 in
theorem l_X12_letter_26 {X : jX} {l : Launch} {n : Nat} {Y : jY} (K : jOK X RX12 cX12_letter 3 (some .int) 3) (hl : X.2.1 = l) {rr : Int32} {μr : jM} {v0 : Nat} {v1 : Int32}  {s0 : Int32 × jM} {z : (Int32 × jM)} (H : jit jF (fun (s : Int32 × jM) => b_X12_letter_26 Y v0 v1 s.1 s.2) s0 = some z) (D : z = (rr, μr)) : JW X (jEnd X n Y (some (.int rr)) μr 0 0) 0 0 n Y 26 [(0, .ref v0), (1, .int v1), (2, .int s0.1)] [] s0.2 :=
  jit_ind (P := fun (s : Int32 × jM) => JW X (jEnd X n Y (some (.int rr)) μr 0 0) 0 0 n Y 26 [(0, .ref v0), (1, .int v1), (2, .int s.1)] [] s.2) (D := fun r => r = (rr, μr)) (fun s z Hs Ds => t_X12_letter_26 K hl Hs Ds) jF s0 z H D
set_option maxRecDepth 10000 in
theorem t_X12_letter_0 {X : jX} {l : Launch} {n : Nat} {Y : jY} (K : jOK X RX12 cX12_letter 3 (some .int) 3) (hl : X.2.1 = l) {rr : Int32} {μr : jM} {v0 : Nat} {v1 : Int32} {μ : jM} {z : (Int32 × jM)} (H : f_X12_letter Y v0 v1 μ = some z) (D : z = (rr, μr)) : JW X (jEnd X n Y (some (.int rr)) μr 0 0) 0 0 n Y 0 [(0, .ref v0), (1, .int v1)] [] μ := by
  unfold f_X12_letter at H
  refine r_aload_n K 0 dX12_letter_0 rfl rfl ?_
  refine w_getI K vc12 inX12 10 (by decide) mF_RX12_145 dX12_letter_1 H (fun x1 H => ?_)
  refine w_if_eq K 12 dX12_letter_4 (by decide) H (fun _ H => ?_) (fun _ H => ?_)
  · exact r_sub [] rfl (t_X12_letter_12 K hl H D)
  · refine r_iload_n K 1 dX12_letter_7 rfl rfl ?_
    refine r_iconst (v := -1) K dX12_letter_8 (by decide) ?_
    refine w_icmp_ge K 14 dX12_letter_9 (by decide) H (fun _ H => ?_) (fun _ H => ?_)
    · refine r_aload_n K 0 dX12_letter_14 rfl rfl ?_
      refine r_iconst (v := 0) K dX12_letter_15 (by decide) ?_
      refine w_put K vc12 inX12 tyX12_ok nmX12 22 (by decide) mF_RX12_238 rfl (fun _ => rfl) (fun _ => rfl) dX12_letter_16 H (fun μ2 H => ?_)
      refine r_aload_n K 0 dX12_letter_19 rfl rfl ?_
      refine r_iload_n K 1 dX12_letter_20 rfl rfl ?_
      refine w_put K vc12 inX12 tyX12_ok nmX12 23 (by decide) mF_RX12_241 rfl (fun _ => rfl) (fun _ => rfl) dX12_letter_21 H (fun μ3 H => ?_)
      refine r_iconst (v := 0) K dX12_letter_24 (by decide) ?_
      refine r_istore_n K [(2, .int _), (0, .ref _), (1, .int _)] dX12_letter_25 rfl (by decide) rfl ?_
      exact r_sub [1, 2, 0] rfl (l_X12_letter_26 K hl H D)
    · exact r_sub [] rfl (t_X12_letter_12 K hl H D)
theorem c_X12_letter (l : Launch) {n : Nat} {Y : jY} {v0 : Nat} {v1 : Int32} {μ : jM} {z : Int32 × jM} (H : f_X12_letter Y v0 v1 μ = some z) : jC l yX12_letter cX12_letter 3 (some .int) 3 0 0 [.ref v0, .int v1] n Y μ n Y (some (.int z.1)) z.2 := by
  refine jC_of (by decide +kernel) (Nat.le_of_ble_eq_true rfl) (fun X hl K _ _ _ => ?_)
  obtain ⟨rr, μr⟩ := z
  exact t_X12_letter_0 K hl H rfl
/-! RX12 table(II)Z -/
def b_X12_table_16 (Y : jY) (μ : jM) : Option (Int32 × jM) :=
  (jbool ((0 : Int32))).bind fun x1 =>
  some (x1, μ)
def b_X12_table_27 (Y : jY) (v0 : Nat) (v1 : Int32) (v3 : Int32) (μ : jM) : Option ((Int32 × jM) ⊕ (Int32 × jM)) :=
  if ((5 : Int32)) ≤ v3 then
    (jbool ((1 : Int32))).bind fun x1 =>
    some (.inr (x1, μ))
  else
    (jgO Y μ v0 12 27).bind fun x2 =>
    (jas Y μ x2 20 ((((((5 : Int32)) * v1)) + v3)) (.int ((0 : Int32)))).bind fun μ3 =>
    (jgO Y μ3 v0 12 28).bind fun x4 =>
    (jas Y μ3 x4 20 ((((((5 : Int32)) * v1)) + v3)) (.int ((1 : Int32)))).bind fun μ5 =>
    some (.inl ((v3 + (1 : Int32)), μ5))
def f_X12_table (Y : jY) (v0 : Nat) (v1 : Int32) (v2 : Int32) (μ : jM) : Option (Int32 × jM) :=
  (f_X12_isDrawer Y v1 μ).bind fun r1 =>
  if r1.1 = 0 then
    b_X12_table_16 Y r1.2
  else
    (f_X12_in Y v2 ((1 : Int32)) ((5 : Int32)) r1.2).bind fun r2 =>
    if r2.1 = 0 then
      b_X12_table_16 Y r2.2
    else
      (jgO Y r2.2 v0 12 26).bind fun x3 =>
      (jas Y r2.2 x3 20 v1 (.int v2)).bind fun μ4 =>
      jit jF (fun (s : Int32 × jM) => b_X12_table_27 Y v0 v1 s.1 s.2) ((0 : Int32), μ4)
set_option maxRecDepth 10000 in
theorem t_X12_table_16 {X : jX} {l : Launch} {n : Nat} {Y : jY} (K : jOK X RX12 cX12_table 4 (some .boolean) 3) (hl : X.2.1 = l) {rr : Int32} {μr : jM} {μ : jM} {z : (Int32 × jM)} (H : b_X12_table_16 Y μ = some z) (D : z = (rr, μr)) : JW X (jEnd X n Y (some (.int rr)) μr 0 0) 0 0 n Y 16 [] [] μ := by
  unfold b_X12_table_16 at H
  refine r_iconst (v := 0) K dX12_table_16 (by decide) ?_
  refine w_zret K dX12_table_17 H (fun hz H => ?_)
  cases H
  obtain ⟨rfl, rfl⟩ := jfin2 D
  exact r_zret K hz dX12_table_17
set_option maxRecDepth 10000 in
theorem t_X12_table_27 {X : jX} {l : Launch} {n : Nat} {Y : jY} (K : jOK X RX12 cX12_table 4 (some .boolean) 3) (hl : X.2.1 = l) {rr : Int32} {μr : jM} {v0 : Nat} {v1 : Int32} {v3 : Int32} {μ : jM} {z : ((Int32 × jM) ⊕ (Int32 × jM))} (H : b_X12_table_27 Y v0 v1 v3 μ = some z) (D : Sum.elim (fun (s : Int32 × jM) => JW X (jEnd X n Y (some (.int rr)) μr 0 0) 0 0 n Y 27 [(0, .ref v0), (1, .int v1), (3, .int s.1)] [] s.2) (fun r => r = (rr, μr)) z) : JW X (jEnd X n Y (some (.int rr)) μr 0 0) 0 0 n Y 27 [(0, .ref v0), (1, .int v1), (3, .int v3)] [] μ := by
  unfold b_X12_table_27 at H
  refine r_iload_n K 2 dX12_table_27 rfl rfl ?_
  refine r_iconst (v := 5) K dX12_table_28 (by decide) ?_
  refine w_icmp_ge K 60 dX12_table_29 (by decide) H (fun _ H => ?_) (fun _ H => ?_)
  · refine r_iconst (v := 1) K dX12_table_60 (by decide) ?_
    refine w_zret K dX12_table_61 H (fun hz H => ?_)
    cases H
    simp only [Sum.elim_inr] at D
    obtain ⟨rfl, rfl⟩ := jfin2 D
    exact r_zret K hz dX12_table_61
  · refine r_aload_n K 0 dX12_table_32 rfl rfl ?_
    refine w_getO K vc12 inX12 27 (by decide) mF_RX12_51 dX12_table_33 H (fun x2 H => ?_)
    refine r_iconst (v := 5) K dX12_table_36 (by decide) ?_
    refine r_iload_n K 1 dX12_table_37 rfl rfl ?_
    refine r_imul K dX12_table_38 ?_
    refine r_iload_n K 2 dX12_table_39 rfl rfl ?_
    refine r_iadd K dX12_table_40 ?_
    refine r_iconst (v := 0) K dX12_table_41 (by decide) ?_
    refine w_iast K dX12_table_42 H (fun μ3 H => ?_)
    refine r_aload_n K 0 dX12_table_43 rfl rfl ?_
    refine w_getO K vc12 inX12 28 (by decide) mF_RX12_54 dX12_table_44 H (fun x4 H => ?_)
    refine r_iconst (v := 5) K dX12_table_47 (by decide) ?_
    refine r_iload_n K 1 dX12_table_48 rfl rfl ?_
    refine r_imul K dX12_table_49 ?_
    refine r_iload_n K 2 dX12_table_50 rfl rfl ?_
    refine r_iadd K dX12_table_51 ?_
    refine r_iconst (v := 1) K dX12_table_52 (by decide) ?_
    refine w_iast K dX12_table_53 H (fun μ5 H => ?_)
    refine r_iinc K 2 [(3, .int _), (0, .ref _), (1, .int _)] (v := _ + (1 : Int32)) dX12_table_54 rfl rfl (by decide) rfl ?_
    refine r_goto K 27 dX12_table_57 (by decide) ?_
    cases H
    exact r_sub [1, 2, 0] rfl D
set_option maxRecDepth 10000 in
theorem l_X12_table_27 {X : jX} {l : Launch} {n : Nat} {Y : jY} (K : jOK X RX12 cX12_table 4 (some .boolean) 3) (hl : X.2.1 = l) {rr : Int32} {μr : jM} {v0 : Nat} {v1 : Int32}  {s0 : Int32 × jM} {z : (Int32 × jM)} (H : jit jF (fun (s : Int32 × jM) => b_X12_table_27 Y v0 v1 s.1 s.2) s0 = some z) (D : z = (rr, μr)) : JW X (jEnd X n Y (some (.int rr)) μr 0 0) 0 0 n Y 27 [(0, .ref v0), (1, .int v1), (3, .int s0.1)] [] s0.2 :=
  jit_ind (P := fun (s : Int32 × jM) => JW X (jEnd X n Y (some (.int rr)) μr 0 0) 0 0 n Y 27 [(0, .ref v0), (1, .int v1), (3, .int s.1)] [] s.2) (D := fun r => r = (rr, μr)) (fun s z Hs Ds => t_X12_table_27 K hl Hs Ds) jF s0 z H D
set_option maxRecDepth 10000 in
theorem t_X12_table_0 {X : jX} {l : Launch} {n : Nat} {Y : jY} (K : jOK X RX12 cX12_table 4 (some .boolean) 3) (hl : X.2.1 = l) {rr : Int32} {μr : jM} {v0 : Nat} {v1 : Int32} {v2 : Int32} {μ : jM} {z : (Int32 × jM)} (H : f_X12_table Y v0 v1 v2 μ = some z) (D : z = (rr, μr)) : JW X (jEnd X n Y (some (.int rr)) μr 0 0) 0 0 n Y 0 [(0, .ref v0), (1, .int v1), (2, .int v2)] [] μ := by
  unfold f_X12_table at H
  refine r_iload_n K 1 dX12_table_0 rfl rfl ?_
  refine w_callS K hl H (fun r h => c_X12_isDrawer l h) mC_yX12_isDrawer mM_RX12_253 mT_yX12_isDrawer mZ_RX12 (Nat.le_of_ble_eq_true rfl) (Nat.le_of_ble_eq_true rfl) np_yX12_isDrawer rfl (Nat.le_of_ble_eq_true rfl) dX12_table_1 (fun r1 H => ?_) ⟨Nat.zero_le _, Nat.zero_le _⟩
  refine w_if_eq K 16 dX12_table_4 (by decide) H (fun _ H => ?_) (fun _ H => ?_)
  · exact r_sub [] rfl (t_X12_table_16 K hl H D)
  · refine r_iload_n K 2 dX12_table_7 rfl rfl ?_
    refine r_iconst (v := 1) K dX12_table_8 (by decide) ?_
    refine r_iconst (v := 5) K dX12_table_9 (by decide) ?_
    refine w_callS K hl H (fun r h => c_X12_in l h) mC_yX12_in mM_RX12_134 mT_yX12_in mZ_RX12 (Nat.le_of_ble_eq_true rfl) (Nat.le_of_ble_eq_true rfl) np_yX12_in rfl (Nat.le_of_ble_eq_true rfl) dX12_table_10 (fun r2 H => ?_) ⟨Nat.zero_le _, Nat.zero_le _⟩
    refine w_if_ne K 18 dX12_table_13 (by decide) H (fun _ H => ?_) (fun _ H => ?_)
    · refine r_aload_n K 0 dX12_table_18 rfl rfl ?_
      refine w_getO K vc12 inX12 26 (by decide) mF_RX12_48 dX12_table_19 H (fun x3 H => ?_)
      refine r_iload_n K 1 dX12_table_22 rfl rfl ?_
      refine r_iload_n K 2 dX12_table_23 rfl rfl ?_
      refine w_iast K dX12_table_24 H (fun μ4 H => ?_)
      refine r_iconst (v := 0) K dX12_table_25 (by decide) ?_
      refine r_istore_n K [(3, .int _), (0, .ref _), (1, .int _), (2, .int _)] dX12_table_26 rfl (by decide) rfl ?_
      exact r_sub [1, 2, 0] rfl (l_X12_table_27 K hl H D)
    · exact r_sub [] rfl (t_X12_table_16 K hl H D)
theorem c_X12_table (l : Launch) {n : Nat} {Y : jY} {v0 : Nat} {v1 : Int32} {v2 : Int32} {μ : jM} {z : Int32 × jM} (H : f_X12_table Y v0 v1 v2 μ = some z) : jC l yX12_table cX12_table 4 (some .boolean) 3 0 0 [.ref v0, .int v1, .int v2] n Y μ n Y (some (.int z.1)) z.2 := by
  refine jC_of (by decide +kernel) (Nat.le_of_ble_eq_true rfl) (fun X hl K _ _ _ => ?_)
  obtain ⟨rr, μr⟩ := z
  exact t_X12_table_0 K hl H rfl
/-! RX12 join(III)I -/
def b_X12_join_24 (Y : jY) (μ : jM) : Option (Int32 × jM) :=
  some ((-1 : Int32), μ)
def b_X12_join_44 (Y : jY) (μ : jM) : Option (Int32 × jM) :=
  some ((-2 : Int32), μ)
def b_X12_join_150 (Y : jY) (v0 : Nat) (v1 : Int32) (v2 : Int32) (v4 : Int32) (v5 : Int32) (v6 : Int32) (μ : jM) : Option ((Int32 × jM) ⊕ (Int32 × jM)) :=
  some (.inl ((v6 + (1 : Int32)), μ))
def b_X12_join_92 (Y : jY) (v0 : Nat) (v1 : Int32) (v2 : Int32) (v4 : Int32) (v5 : Int32) (v6 : Int32) (μ : jM) : Option ((Int32 × jM) ⊕ (Int32 × jM)) :=
  if v5 ≤ v6 then
    (jgO Y μ v0 12 26).bind fun x1 =>
    (jas Y μ x1 20 v1 (.int ((v4 + v5)))).bind fun μ2 =>
    some (.inr ((v4 + v5), μ2))
  else
    (jgO Y μ v0 12 27).bind fun x3 =>
    (jrcv Y v0 12 (f_X12_a Y v0 v2 v6 μ)).bind fun r4 =>
    (jas Y r4.2 x3 20 ((((((((5 : Int32)) * v1)) + v4)) + v6)) (.int r4.1)).bind fun μ5 =>
    if ((v5 - ((1 : Int32)))) ≤ v6 then
      b_X12_join_150 Y v0 v1 v2 v4 v5 v6 μ5
    else
      (jgO Y μ5 v0 12 28).bind fun x6 =>
      (jrcv Y v0 12 (f_X12_c Y v0 v2 v6 μ5)).bind fun r7 =>
      (jas Y r7.2 x6 20 ((((((((5 : Int32)) * v1)) + v4)) + v6)) (.int r7.1)).bind fun μ8 =>
      b_X12_join_150 Y v0 v1 v2 v4 v5 v6 μ8
def f_X12_join (Y : jY) (v0 : Nat) (v1 : Int32) (v2 : Int32) (v3 : Int32) (μ : jM) : Option (Int32 × jM) :=
  (f_X12_isDrawer Y v1 μ).bind fun r1 =>
  if r1.1 = 0 then
    b_X12_join_24 Y r1.2
  else
    (f_X12_isDrawer Y v2 r1.2).bind fun r2 =>
    if r2.1 = 0 then
      b_X12_join_24 Y r2.2
    else
      (f_X12_in Y v3 ((1 : Int32)) ((36 : Int32)) r2.2).bind fun r3 =>
      if r3.1 = 0 then
        b_X12_join_24 Y r3.2
      else
        (jgO Y r3.2 v0 12 26).bind fun x4 =>
        (jaI Y r3.2 x4 20 v1).bind fun x5 =>
        if x5 = 0 then
          b_X12_join_44 Y r3.2
        else
          (jgO Y r3.2 v0 12 26).bind fun x6 =>
          (jaI Y r3.2 x6 20 v2).bind fun x7 =>
          if x7 = 0 then
            b_X12_join_44 Y r3.2
          else
            (jgO Y r3.2 v0 12 26).bind fun x8 =>
            (jaI Y r3.2 x8 20 v1).bind fun x9 =>
            (jgO Y r3.2 v0 12 26).bind fun x10 =>
            (jaI Y r3.2 x10 20 v2).bind fun x11 =>
            if ((x9 + x11)) ≤ ((5 : Int32)) then
              (jgO Y r3.2 v0 12 28).bind fun x12 =>
              (jas Y r3.2 x12 20 ((((((((5 : Int32)) * v1)) + x9)) - ((1 : Int32)))) (.int v3)).bind fun μ13 =>
              jit jF (fun (s : Int32 × jM) => b_X12_join_92 Y v0 v1 v2 x9 x11 s.1 s.2) ((0 : Int32), μ13)
            else
              some ((-3 : Int32), r3.2)
set_option maxRecDepth 10000 in
theorem t_X12_join_24 {X : jX} {l : Launch} {n : Nat} {Y : jY} (K : jOK X RX12 cX12_join 7 (some .int) 3) (hl : X.2.1 = l) {rr : Int32} {μr : jM} {μ : jM} {z : (Int32 × jM)} (H : b_X12_join_24 Y μ = some z) (D : z = (rr, μr)) : JW X (jEnd X n Y (some (.int rr)) μr 0 0) 0 0 n Y 24 [] [] μ := by
  unfold b_X12_join_24 at H
  refine r_iconst (v := -1) K dX12_join_24 (by decide) ?_
  cases H
  obtain ⟨rfl, rfl⟩ := jfin2 D
  exact r_iret K dX12_join_25
set_option maxRecDepth 10000 in
theorem t_X12_join_44 {X : jX} {l : Launch} {n : Nat} {Y : jY} (K : jOK X RX12 cX12_join 7 (some .int) 3) (hl : X.2.1 = l) {rr : Int32} {μr : jM} {μ : jM} {z : (Int32 × jM)} (H : b_X12_join_44 Y μ = some z) (D : z = (rr, μr)) : JW X (jEnd X n Y (some (.int rr)) μr 0 0) 0 0 n Y 44 [] [] μ := by
  unfold b_X12_join_44 at H
  refine r_bipush (v := -2) K dX12_join_44 (by decide) ?_
  cases H
  obtain ⟨rfl, rfl⟩ := jfin2 D
  exact r_iret K dX12_join_46
set_option maxRecDepth 10000 in
theorem t_X12_join_150 {X : jX} {l : Launch} {n : Nat} {Y : jY} (K : jOK X RX12 cX12_join 7 (some .int) 3) (hl : X.2.1 = l) {rr : Int32} {μr : jM} {v0 : Nat} {v1 : Int32} {v2 : Int32} {v4 : Int32} {v5 : Int32} {v6 : Int32} {μ : jM} {z : ((Int32 × jM) ⊕ (Int32 × jM))} (H : b_X12_join_150 Y v0 v1 v2 v4 v5 v6 μ = some z) (D : Sum.elim (fun (s : Int32 × jM) => JW X (jEnd X n Y (some (.int rr)) μr 0 0) 0 0 n Y 92 [(0, .ref v0), (1, .int v1), (2, .int v2), (4, .int v4), (5, .int v5), (6, .int s.1)] [] s.2) (fun r => r = (rr, μr)) z) : JW X (jEnd X n Y (some (.int rr)) μr 0 0) 0 0 n Y 150 [(0, .ref v0), (1, .int v1), (2, .int v2), (4, .int v4), (5, .int v5), (6, .int v6)] [] μ := by
  unfold b_X12_join_150 at H
  refine r_iinc K 5 [(6, .int _), (0, .ref _), (1, .int _), (2, .int _), (4, .int _), (5, .int _)] (v := _ + (1 : Int32)) dX12_join_150 rfl rfl (by decide) rfl ?_
  refine r_goto K 92 dX12_join_153 (by decide) ?_
  cases H
  exact r_sub [1, 2, 3, 4, 5, 0] rfl D
set_option maxRecDepth 10000 in
theorem t_X12_join_92 {X : jX} {l : Launch} {n : Nat} {Y : jY} (K : jOK X RX12 cX12_join 7 (some .int) 3) (hl : X.2.1 = l) {rr : Int32} {μr : jM} {v0 : Nat} {v1 : Int32} {v2 : Int32} {v4 : Int32} {v5 : Int32} {v6 : Int32} {μ : jM} {z : ((Int32 × jM) ⊕ (Int32 × jM))} (H : b_X12_join_92 Y v0 v1 v2 v4 v5 v6 μ = some z) (D : Sum.elim (fun (s : Int32 × jM) => JW X (jEnd X n Y (some (.int rr)) μr 0 0) 0 0 n Y 92 [(0, .ref v0), (1, .int v1), (2, .int v2), (4, .int v4), (5, .int v5), (6, .int s.1)] [] s.2) (fun r => r = (rr, μr)) z) : JW X (jEnd X n Y (some (.int rr)) μr 0 0) 0 0 n Y 92 [(0, .ref v0), (1, .int v1), (2, .int v2), (4, .int v4), (5, .int v5), (6, .int v6)] [] μ := by
  unfold b_X12_join_92 at H
  refine r_iload K 5 dX12_join_92 rfl ?_
  refine r_iload K 4 dX12_join_94 rfl ?_
  refine w_icmp_ge K 156 dX12_join_96 (by decide) H (fun _ H => ?_) (fun _ H => ?_)
  · refine r_aload_n K 0 dX12_join_156 rfl rfl ?_
    refine w_getO K vc12 inX12 26 (by decide) mF_RX12_48 dX12_join_157 H (fun x1 H => ?_)
    refine r_iload_n K 1 dX12_join_160 rfl rfl ?_
    refine r_iload K 3 dX12_join_161 rfl ?_
    refine r_iload K 4 dX12_join_163 rfl ?_
    refine r_iadd K dX12_join_165 ?_
    refine w_iast K dX12_join_166 H (fun μ2 H => ?_)
    refine r_iload K 3 dX12_join_167 rfl ?_
    refine r_iload K 4 dX12_join_169 rfl ?_
    refine r_iadd K dX12_join_171 ?_
    cases H
    simp only [Sum.elim_inr] at D
    obtain ⟨rfl, rfl⟩ := jfin2 D
    exact r_iret K dX12_join_172
  · refine r_aload_n K 0 dX12_join_99 rfl rfl ?_
    refine w_getO K vc12 inX12 27 (by decide) mF_RX12_51 dX12_join_100 H (fun x3 H => ?_)
    refine r_iconst (v := 5) K dX12_join_103 (by decide) ?_
    refine r_iload_n K 1 dX12_join_104 rfl rfl ?_
    refine r_imul K dX12_join_105 ?_
    refine r_iload K 3 dX12_join_106 rfl ?_
    refine r_iadd K dX12_join_108 ?_
    refine r_iload K 5 dX12_join_109 rfl ?_
    refine r_iadd K dX12_join_111 ?_
    refine r_aload_n K 0 dX12_join_112 rfl rfl ?_
    refine r_iload_n K 2 dX12_join_113 rfl rfl ?_
    refine r_iload K 5 dX12_join_114 rfl ?_
    refine w_callV K hl H (fun r h => c_X12_a l h) mC_yX12_a mM_RX12_256 mI_yX12_a mS_yX12_a mZ_RX12 vc12 (Nat.le_of_ble_eq_true rfl) (Nat.le_of_ble_eq_true rfl) np_yX12_a rfl (Nat.le_of_ble_eq_true rfl) dX12_join_116 (fun r4 H => ?_) ⟨Nat.zero_le _, Nat.zero_le _⟩
    refine w_iast K dX12_join_119 H (fun μ5 H => ?_)
    refine r_iload K 5 dX12_join_120 rfl ?_
    refine r_iload K 4 dX12_join_122 rfl ?_
    refine r_iconst (v := 1) K dX12_join_124 (by decide) ?_
    refine r_isub K dX12_join_125 ?_
    refine w_icmp_ge K 150 dX12_join_126 (by decide) H (fun _ H => ?_) (fun _ H => ?_)
    · exact r_sub [0, 1, 2, 3, 4, 5] rfl (t_X12_join_150 K hl H D)
    · refine r_aload_n K 0 dX12_join_129 rfl rfl ?_
      refine w_getO K vc12 inX12 28 (by decide) mF_RX12_54 dX12_join_130 H (fun x6 H => ?_)
      refine r_iconst (v := 5) K dX12_join_133 (by decide) ?_
      refine r_iload_n K 1 dX12_join_134 rfl rfl ?_
      refine r_imul K dX12_join_135 ?_
      refine r_iload K 3 dX12_join_136 rfl ?_
      refine r_iadd K dX12_join_138 ?_
      refine r_iload K 5 dX12_join_139 rfl ?_
      refine r_iadd K dX12_join_141 ?_
      refine r_aload_n K 0 dX12_join_142 rfl rfl ?_
      refine r_iload_n K 2 dX12_join_143 rfl rfl ?_
      refine r_iload K 5 dX12_join_144 rfl ?_
      refine w_callV K hl H (fun r h => c_X12_c l h) mC_yX12_c mM_RX12_260 mI_yX12_c mS_yX12_c mZ_RX12 vc12 (Nat.le_of_ble_eq_true rfl) (Nat.le_of_ble_eq_true rfl) np_yX12_c rfl (Nat.le_of_ble_eq_true rfl) dX12_join_146 (fun r7 H => ?_) ⟨Nat.zero_le _, Nat.zero_le _⟩
      refine w_iast K dX12_join_149 H (fun μ8 H => ?_)
      exact r_sub [0, 1, 2, 3, 4, 5] rfl (t_X12_join_150 K hl H D)
set_option maxRecDepth 10000 in
theorem l_X12_join_92 {X : jX} {l : Launch} {n : Nat} {Y : jY} (K : jOK X RX12 cX12_join 7 (some .int) 3) (hl : X.2.1 = l) {rr : Int32} {μr : jM} {v0 : Nat} {v1 : Int32} {v2 : Int32} {v4 : Int32} {v5 : Int32}  {s0 : Int32 × jM} {z : (Int32 × jM)} (H : jit jF (fun (s : Int32 × jM) => b_X12_join_92 Y v0 v1 v2 v4 v5 s.1 s.2) s0 = some z) (D : z = (rr, μr)) : JW X (jEnd X n Y (some (.int rr)) μr 0 0) 0 0 n Y 92 [(0, .ref v0), (1, .int v1), (2, .int v2), (4, .int v4), (5, .int v5), (6, .int s0.1)] [] s0.2 :=
  jit_ind (P := fun (s : Int32 × jM) => JW X (jEnd X n Y (some (.int rr)) μr 0 0) 0 0 n Y 92 [(0, .ref v0), (1, .int v1), (2, .int v2), (4, .int v4), (5, .int v5), (6, .int s.1)] [] s.2) (D := fun r => r = (rr, μr)) (fun s z Hs Ds => t_X12_join_92 K hl Hs Ds) jF s0 z H D
set_option maxRecDepth 10000 in
theorem t_X12_join_0 {X : jX} {l : Launch} {n : Nat} {Y : jY} (K : jOK X RX12 cX12_join 7 (some .int) 3) (hl : X.2.1 = l) {rr : Int32} {μr : jM} {v0 : Nat} {v1 : Int32} {v2 : Int32} {v3 : Int32} {μ : jM} {z : (Int32 × jM)} (H : f_X12_join Y v0 v1 v2 v3 μ = some z) (D : z = (rr, μr)) : JW X (jEnd X n Y (some (.int rr)) μr 0 0) 0 0 n Y 0 [(0, .ref v0), (1, .int v1), (2, .int v2), (3, .int v3)] [] μ := by
  unfold f_X12_join at H
  refine r_iload_n K 1 dX12_join_0 rfl rfl ?_
  refine w_callS K hl H (fun r h => c_X12_isDrawer l h) mC_yX12_isDrawer mM_RX12_253 mT_yX12_isDrawer mZ_RX12 (Nat.le_of_ble_eq_true rfl) (Nat.le_of_ble_eq_true rfl) np_yX12_isDrawer rfl (Nat.le_of_ble_eq_true rfl) dX12_join_1 (fun r1 H => ?_) ⟨Nat.zero_le _, Nat.zero_le _⟩
  refine w_if_eq K 24 dX12_join_4 (by decide) H (fun _ H => ?_) (fun _ H => ?_)
  · exact r_sub [] rfl (t_X12_join_24 K hl H D)
  · refine r_iload_n K 2 dX12_join_7 rfl rfl ?_
    refine w_callS K hl H (fun r h => c_X12_isDrawer l h) mC_yX12_isDrawer mM_RX12_253 mT_yX12_isDrawer mZ_RX12 (Nat.le_of_ble_eq_true rfl) (Nat.le_of_ble_eq_true rfl) np_yX12_isDrawer rfl (Nat.le_of_ble_eq_true rfl) dX12_join_8 (fun r2 H => ?_) ⟨Nat.zero_le _, Nat.zero_le _⟩
    refine w_if_eq K 24 dX12_join_11 (by decide) H (fun _ H => ?_) (fun _ H => ?_)
    · exact r_sub [] rfl (t_X12_join_24 K hl H D)
    · refine r_iload_n K 3 dX12_join_14 rfl rfl ?_
      refine r_iconst (v := 1) K dX12_join_15 (by decide) ?_
      refine r_bipush (v := 36) K dX12_join_16 (by decide) ?_
      refine w_callS K hl H (fun r h => c_X12_in l h) mC_yX12_in mM_RX12_134 mT_yX12_in mZ_RX12 (Nat.le_of_ble_eq_true rfl) (Nat.le_of_ble_eq_true rfl) np_yX12_in rfl (Nat.le_of_ble_eq_true rfl) dX12_join_18 (fun r3 H => ?_) ⟨Nat.zero_le _, Nat.zero_le _⟩
      refine w_if_ne K 26 dX12_join_21 (by decide) H (fun _ H => ?_) (fun _ H => ?_)
      · refine r_aload_n K 0 dX12_join_26 rfl rfl ?_
        refine w_getO K vc12 inX12 26 (by decide) mF_RX12_48 dX12_join_27 H (fun x4 H => ?_)
        refine r_iload_n K 1 dX12_join_30 rfl rfl ?_
        refine w_iald K dX12_join_31 H (fun x5 H => ?_)
        refine w_if_eq K 44 dX12_join_32 (by decide) H (fun _ H => ?_) (fun _ H => ?_)
        · exact r_sub [] rfl (t_X12_join_44 K hl H D)
        · refine r_aload_n K 0 dX12_join_35 rfl rfl ?_
          refine w_getO K vc12 inX12 26 (by decide) mF_RX12_48 dX12_join_36 H (fun x6 H => ?_)
          refine r_iload_n K 2 dX12_join_39 rfl rfl ?_
          refine w_iald K dX12_join_40 H (fun x7 H => ?_)
          refine w_if_ne K 47 dX12_join_41 (by decide) H (fun _ H => ?_) (fun _ H => ?_)
          · refine r_aload_n K 0 dX12_join_47 rfl rfl ?_
            refine w_getO K vc12 inX12 26 (by decide) mF_RX12_48 dX12_join_48 H (fun x8 H => ?_)
            refine r_iload_n K 1 dX12_join_51 rfl rfl ?_
            refine w_iald K dX12_join_52 H (fun x9 H => ?_)
            refine r_istore K [(4, .int _), (0, .ref _), (1, .int _), (2, .int _), (3, .int _)] dX12_join_53 (by decide) rfl ?_
            refine r_aload_n K 1 dX12_join_55 rfl rfl ?_
            refine w_getO K vc12 inX12 26 (by decide) mF_RX12_48 dX12_join_56 H (fun x10 H => ?_)
            refine r_iload_n K 3 dX12_join_59 rfl rfl ?_
            refine w_iald K dX12_join_60 H (fun x11 H => ?_)
            refine r_istore K [(5, .int _), (4, .int _), (0, .ref _), (1, .int _), (2, .int _), (3, .int _)] dX12_join_61 (by decide) rfl ?_
            refine r_iload K 1 dX12_join_63 rfl ?_
            refine r_iload K 0 dX12_join_65 rfl ?_
            refine r_iadd K dX12_join_67 ?_
            refine r_iconst (v := 5) K dX12_join_68 (by decide) ?_
            refine w_icmp_le K 75 dX12_join_69 (by decide) H (fun _ H => ?_) (fun _ H => ?_)
            · refine r_aload_n K 2 dX12_join_75 rfl rfl ?_
              refine w_getO K vc12 inX12 28 (by decide) mF_RX12_54 dX12_join_76 H (fun x12 H => ?_)
              refine r_iconst (v := 5) K dX12_join_79 (by decide) ?_
              refine r_iload_n K 3 dX12_join_80 rfl rfl ?_
              refine r_imul K dX12_join_81 ?_
              refine r_iload K 1 dX12_join_82 rfl ?_
              refine r_iadd K dX12_join_84 ?_
              refine r_iconst (v := 1) K dX12_join_85 (by decide) ?_
              refine r_isub K dX12_join_86 ?_
              refine r_iload_n K 5 dX12_join_87 rfl rfl ?_
              refine w_iast K dX12_join_88 H (fun μ13 H => ?_)
              refine r_iconst (v := 0) K dX12_join_89 (by decide) ?_
              refine r_istore K [(6, .int _), (5, .int _), (4, .int _), (0, .ref _), (1, .int _), (2, .int _), (3, .int _)] dX12_join_90 (by decide) rfl ?_
              exact r_sub [3, 4, 5, 2, 1, 0] rfl (l_X12_join_92 K hl H D)
            · refine r_bipush (v := -3) K dX12_join_72 (by decide) ?_
              cases H
              obtain ⟨rfl, rfl⟩ := jfin2 D
              exact r_iret K dX12_join_74
          · exact r_sub [] rfl (t_X12_join_44 K hl H D)
      · exact r_sub [] rfl (t_X12_join_24 K hl H D)
theorem c_X12_join (l : Launch) {n : Nat} {Y : jY} {v0 : Nat} {v1 : Int32} {v2 : Int32} {v3 : Int32} {μ : jM} {z : Int32 × jM} (H : f_X12_join Y v0 v1 v2 v3 μ = some z) : jC l yX12_join cX12_join 7 (some .int) 3 0 0 [.ref v0, .int v1, .int v2, .int v3] n Y μ n Y (some (.int z.1)) z.2 := by
  refine jC_of (by decide +kernel) (Nat.le_of_ble_eq_true rfl) (fun X hl K _ _ _ => ?_)
  obtain ⟨rr, μr⟩ := z
  exact t_X12_join_0 K hl H rfl
/-! RX12 weight(II)J -/
def b_X12_weight_30 (Y : jY) (μ : jM) : Option (Int64 × jM) :=
  some ((-9223372036854775808 : Int64), μ)
def b_X12_weight_118 (Y : jY) (v0 : Nat) (v1 : Int32) (v2 : Int32) (v3 : Int64) (v7 : Int32) (t0 : Int64) (μ : jM) : Option ((Int64 × Int32 × jM) ⊕ (Int64 × jM)) :=
  some (.inl (t0, (v7 + (1 : Int32)), μ))
def b_X12_weight_80 (Y : jY) (v0 : Nat) (v1 : Int32) (v2 : Int32) (v3 : Int64) (v5 : Int64) (v7 : Int32) (μ : jM) : Option ((Int64 × Int32 × jM) ⊕ (Int64 × jM)) :=
  (jgI Y μ v0 12 10).bind fun x1 =>
  if x1 ≤ v7 then
    (jrcv Y v0 12 (f_X12_sets Y v0 v3 v5 μ)).bind fun μ2 =>
    (jrcv Y v0 12 (f_X12_told Y v0 v2 μ2)).bind fun r3 =>
    some (.inr (r3.1, r3.2))
  else
    if v7 = v1 then
      b_X12_weight_118 Y v0 v1 v2 v3 v7 v5 μ
    else
      (jgO Y μ v0 12 11).bind fun x4 =>
      (jaI Y μ x4 20 v1).bind fun x5 =>
      (jgO Y μ v0 12 11).bind fun x6 =>
      (jaI Y μ x6 20 v7).bind fun x7 =>
      b_X12_weight_118 Y v0 v1 v2 v3 v7 (v5 * ((((x5 - x7)).toInt64))) μ
def b_X12_weight_42 (Y : jY) (v0 : Nat) (v1 : Int32) (v2 : Int32) (v3 : Int64) (v5 : Int64) (v7 : Int32) (μ : jM) : Option ((Int64 × Int32 × jM) ⊕ (Int64 × jM)) :=
  (jgI Y μ v0 12 10).bind fun x1 =>
  if ((x1 - ((1 : Int32)))) ≤ v7 then
    (jit jF (fun (s : Int64 × Int32 × jM) => b_X12_weight_80 Y v0 v1 v2 v3 s.1 s.2.1 s.2.2) (v5, (0 : Int32), μ)).map (fun r => (.inr r))
  else
    (jgO Y μ v0 12 11).bind fun x2 =>
    (jaI Y μ x2 20 v1).bind fun x3 =>
    (jgO Y μ v0 12 12).bind fun x4 =>
    (jaI Y μ x4 20 v7).bind fun x5 =>
    some (.inl ((v3 * ((((x3 - x5)).toInt64))), (v7 + (1 : Int32)), μ))
def f_X12_weight (Y : jY) (v0 : Nat) (v1 : Int32) (v2 : Int32) (μ : jM) : Option (Int64 × jM) :=
  (jgI Y μ v0 12 10).bind fun x1 =>
  if x1 = 0 then
    b_X12_weight_30 Y μ
  else
    (jgI Y μ v0 12 10).bind fun x2 =>
    (f_X12_in Y v1 ((0 : Int32)) ((x2 - ((1 : Int32)))) μ).bind fun r3 =>
    if r3.1 = 0 then
      b_X12_weight_30 Y r3.2
    else
      (f_X12_in Y v2 ((0 : Int32)) ((1 : Int32)) r3.2).bind fun r4 =>
      if r4.1 = 0 then
        b_X12_weight_30 Y r4.2
      else
        jit jF (fun (s : Int64 × Int32 × jM) => b_X12_weight_42 Y v0 v1 v2 s.1 (1 : Int64) s.2.1 s.2.2) ((1 : Int64), (0 : Int32), r4.2)
set_option maxRecDepth 10000 in
theorem t_X12_weight_30 {X : jX} {l : Launch} {n : Nat} {Y : jY} (K : jOK X RX12 cX12_weight 8 (some .long) 4) (hl : X.2.1 = l) {rr : Int64} {μr : jM} {μ : jM} {z : (Int64 × jM)} (H : b_X12_weight_30 Y μ = some z) (D : z = (rr, μr)) : JW X (jEnd X n Y (some (.long rr)) μr 0 0) 0 0 n Y 30 [] [] μ := by
  unfold b_X12_weight_30 at H
  refine r_ldc2 K (-9223372036854775808) mc_RX12_156 dX12_weight_30 ?_
  cases H
  obtain ⟨rfl, rfl⟩ := jfin2 D
  exact r_lret K dX12_weight_33
set_option maxRecDepth 10000 in
theorem t_X12_weight_118 {X : jX} {l : Launch} {n : Nat} {Y : jY} (K : jOK X RX12 cX12_weight 8 (some .long) 4) (hl : X.2.1 = l) {rr : Int64} {μr : jM} {v0 : Nat} {v1 : Int32} {v2 : Int32} {v3 : Int64} {v7 : Int32} {t0 : Int64} {μ : jM} {z : ((Int64 × Int32 × jM) ⊕ (Int64 × jM))} (H : b_X12_weight_118 Y v0 v1 v2 v3 v7 t0 μ = some z) (D : Sum.elim (fun (s : Int64 × Int32 × jM) => JW X (jEnd X n Y (some (.long rr)) μr 0 0) 0 0 n Y 80 [(0, .ref v0), (1, .int v1), (2, .int v2), (3, .long v3), (5, .long s.1), (7, .int s.2.1)] [] s.2.2) (fun r => r = (rr, μr)) z) : JW X (jEnd X n Y (some (.long rr)) μr 0 0) 0 0 n Y 118 [(0, .ref v0), (1, .int v1), (2, .int v2), (3, .long v3), (7, .int v7)] [.long t0] μ := by
  unfold b_X12_weight_118 at H
  refine r_lstore K [(5, .long _), (0, .ref _), (1, .int _), (2, .int _), (3, .long _), (7, .int _)] dX12_weight_118 (by decide) rfl ?_
  refine r_iinc K 5 [(7, .int _), (5, .long _), (0, .ref _), (1, .int _), (2, .int _), (3, .long _)] (v := _ + (1 : Int32)) dX12_weight_120 rfl rfl (by decide) rfl ?_
  refine r_goto K 80 dX12_weight_123 (by decide) ?_
  cases H
  exact r_sub [2, 3, 4, 5, 1, 0] rfl D
set_option maxRecDepth 10000 in
theorem t_X12_weight_80 {X : jX} {l : Launch} {n : Nat} {Y : jY} (K : jOK X RX12 cX12_weight 8 (some .long) 4) (hl : X.2.1 = l) {rr : Int64} {μr : jM} {v0 : Nat} {v1 : Int32} {v2 : Int32} {v3 : Int64} {v5 : Int64} {v7 : Int32} {μ : jM} {z : ((Int64 × Int32 × jM) ⊕ (Int64 × jM))} (H : b_X12_weight_80 Y v0 v1 v2 v3 v5 v7 μ = some z) (D : Sum.elim (fun (s : Int64 × Int32 × jM) => JW X (jEnd X n Y (some (.long rr)) μr 0 0) 0 0 n Y 80 [(0, .ref v0), (1, .int v1), (2, .int v2), (3, .long v3), (5, .long s.1), (7, .int s.2.1)] [] s.2.2) (fun r => r = (rr, μr)) z) : JW X (jEnd X n Y (some (.long rr)) μr 0 0) 0 0 n Y 80 [(0, .ref v0), (1, .int v1), (2, .int v2), (3, .long v3), (5, .long v5), (7, .int v7)] [] μ := by
  unfold b_X12_weight_80 at H
  refine r_iload K 5 dX12_weight_80 rfl ?_
  refine r_aload_n K 0 dX12_weight_82 rfl rfl ?_
  refine w_getI K vc12 inX12 10 (by decide) mF_RX12_145 dX12_weight_83 H (fun x1 H => ?_)
  refine w_icmp_ge K 126 dX12_weight_86 (by decide) H (fun _ H => ?_) (fun _ H => ?_)
  · refine r_aload_n K 0 dX12_weight_126 rfl rfl ?_
    refine r_lload_n K 3 dX12_weight_127 rfl rfl ?_
    refine r_lload K 4 dX12_weight_128 rfl ?_
    refine w_callV K hl H (fun r h => c_X12_sets l h) mC_yX12_sets mM_RX12_191 mI_yX12_sets mS_yX12_sets mZ_RX12 vc12 (Nat.le_of_ble_eq_true rfl) (Nat.le_of_ble_eq_true rfl) np_yX12_sets rfl (Nat.le_of_ble_eq_true rfl) dX12_weight_130 (fun μ2 H => ?_) ⟨Nat.zero_le _, Nat.zero_le _⟩
    refine r_aload_n K 0 dX12_weight_133 rfl rfl ?_
    refine r_iload_n K 2 dX12_weight_134 rfl rfl ?_
    refine w_callV K hl H (fun r h => c_X12_told l h) mC_yX12_told mM_RX12_195 mI_yX12_told mS_yX12_told mZ_RX12 vc12 (Nat.le_of_ble_eq_true rfl) (Nat.le_of_ble_eq_true rfl) np_yX12_told rfl (Nat.le_of_ble_eq_true rfl) dX12_weight_135 (fun r3 H => ?_) ⟨Nat.zero_le _, Nat.zero_le _⟩
    cases H
    simp only [Sum.elim_inr] at D
    obtain ⟨rfl, rfl⟩ := jfin2 D
    exact r_lret K dX12_weight_138
  · refine r_iload K 5 dX12_weight_89 rfl ?_
    refine r_iload_n K 1 dX12_weight_91 rfl rfl ?_
    refine w_icmp_ne K 100 dX12_weight_92 (by decide) H (fun _ H => ?_) (fun _ H => ?_)
    · refine r_lload K 4 dX12_weight_100 rfl ?_
      refine r_aload_n K 0 dX12_weight_102 rfl rfl ?_
      refine w_getO K vc12 inX12 11 (by decide) mF_RX12_20 dX12_weight_103 H (fun x4 H => ?_)
      refine r_iload_n K 1 dX12_weight_106 rfl rfl ?_
      refine w_iald K dX12_weight_107 H (fun x5 H => ?_)
      refine r_aload_n K 0 dX12_weight_108 rfl rfl ?_
      refine w_getO K vc12 inX12 11 (by decide) mF_RX12_20 dX12_weight_109 H (fun x6 H => ?_)
      refine r_iload K 5 dX12_weight_112 rfl ?_
      refine w_iald K dX12_weight_114 H (fun x7 H => ?_)
      refine r_isub K dX12_weight_115 ?_
      refine r_i2l K dX12_weight_116 ?_
      refine r_lmul K dX12_weight_117 ?_
      exact r_sub [0, 1, 2, 3, 5] rfl (t_X12_weight_118 K hl H D)
    · refine r_lload K 4 dX12_weight_95 rfl ?_
      refine r_goto K 118 dX12_weight_97 (by decide) ?_
      exact r_sub [0, 1, 2, 3, 5] rfl (t_X12_weight_118 K hl H D)
set_option maxRecDepth 10000 in
theorem l_X12_weight_80 {X : jX} {l : Launch} {n : Nat} {Y : jY} (K : jOK X RX12 cX12_weight 8 (some .long) 4) (hl : X.2.1 = l) {rr : Int64} {μr : jM} {v0 : Nat} {v1 : Int32} {v2 : Int32} {v3 : Int64}  {s0 : Int64 × Int32 × jM} {z : (Int64 × jM)} (H : jit jF (fun (s : Int64 × Int32 × jM) => b_X12_weight_80 Y v0 v1 v2 v3 s.1 s.2.1 s.2.2) s0 = some z) (D : z = (rr, μr)) : JW X (jEnd X n Y (some (.long rr)) μr 0 0) 0 0 n Y 80 [(0, .ref v0), (1, .int v1), (2, .int v2), (3, .long v3), (5, .long s0.1), (7, .int s0.2.1)] [] s0.2.2 :=
  jit_ind (P := fun (s : Int64 × Int32 × jM) => JW X (jEnd X n Y (some (.long rr)) μr 0 0) 0 0 n Y 80 [(0, .ref v0), (1, .int v1), (2, .int v2), (3, .long v3), (5, .long s.1), (7, .int s.2.1)] [] s.2.2) (D := fun r => r = (rr, μr)) (fun s z Hs Ds => t_X12_weight_80 K hl Hs Ds) jF s0 z H D
set_option maxRecDepth 10000 in
theorem t_X12_weight_42 {X : jX} {l : Launch} {n : Nat} {Y : jY} (K : jOK X RX12 cX12_weight 8 (some .long) 4) (hl : X.2.1 = l) {rr : Int64} {μr : jM} {v0 : Nat} {v1 : Int32} {v2 : Int32} {v3 : Int64} {v5 : Int64} {v7 : Int32} {μ : jM} {z : ((Int64 × Int32 × jM) ⊕ (Int64 × jM))} (H : b_X12_weight_42 Y v0 v1 v2 v3 v5 v7 μ = some z) (D : Sum.elim (fun (s : Int64 × Int32 × jM) => JW X (jEnd X n Y (some (.long rr)) μr 0 0) 0 0 n Y 42 [(0, .ref v0), (1, .int v1), (2, .int v2), (3, .long s.1), (5, .long v5), (7, .int s.2.1)] [] s.2.2) (fun r => r = (rr, μr)) z) : JW X (jEnd X n Y (some (.long rr)) μr 0 0) 0 0 n Y 42 [(0, .ref v0), (1, .int v1), (2, .int v2), (3, .long v3), (5, .long v5), (7, .int v7)] [] μ := by
  unfold b_X12_weight_42 at H
  refine r_iload K 5 dX12_weight_42 rfl ?_
  refine r_aload_n K 0 dX12_weight_44 rfl rfl ?_
  refine w_getI K vc12 inX12 10 (by decide) mF_RX12_145 dX12_weight_45 H (fun x1 H => ?_)
  refine r_iconst (v := 1) K dX12_weight_48 (by decide) ?_
  refine r_isub K dX12_weight_49 ?_
  refine w_icmp_ge K 77 dX12_weight_50 (by decide) H (fun _ H => ?_) (fun _ H => ?_)
  · refine r_iconst (v := 0) K dX12_weight_77 (by decide) ?_
    refine r_istore K [(7, .int _), (0, .ref _), (1, .int _), (2, .int _), (3, .long _), (5, .long _)] dX12_weight_78 (by decide) rfl ?_
    obtain ⟨z2, H2, rfl⟩ := jmap H
    exact r_sub [1, 2, 3, 4, 5, 0] rfl (l_X12_weight_80 K hl H2 D)
  · refine r_lload_n K 3 dX12_weight_53 rfl rfl ?_
    refine r_aload_n K 0 dX12_weight_54 rfl rfl ?_
    refine w_getO K vc12 inX12 11 (by decide) mF_RX12_20 dX12_weight_55 H (fun x2 H => ?_)
    refine r_iload_n K 1 dX12_weight_58 rfl rfl ?_
    refine w_iald K dX12_weight_59 H (fun x3 H => ?_)
    refine r_aload_n K 0 dX12_weight_60 rfl rfl ?_
    refine w_getO K vc12 inX12 12 (by decide) mF_RX12_23 dX12_weight_61 H (fun x4 H => ?_)
    refine r_iload K 5 dX12_weight_64 rfl ?_
    refine w_iald K dX12_weight_66 H (fun x5 H => ?_)
    refine r_isub K dX12_weight_67 ?_
    refine r_i2l K dX12_weight_68 ?_
    refine r_lmul K dX12_weight_69 ?_
    refine r_lstore_n K [(3, .long _), (0, .ref _), (1, .int _), (2, .int _), (5, .long _), (7, .int _)] dX12_weight_70 rfl (by decide) rfl ?_
    refine r_iinc K 5 [(7, .int _), (3, .long _), (0, .ref _), (1, .int _), (2, .int _), (5, .long _)] (v := _ + (1 : Int32)) dX12_weight_71 rfl rfl (by decide) rfl ?_
    refine r_goto K 42 dX12_weight_74 (by decide) ?_
    cases H
    exact r_sub [2, 3, 4, 1, 5, 0] rfl D
set_option maxRecDepth 10000 in
theorem l_X12_weight_42 {X : jX} {l : Launch} {n : Nat} {Y : jY} (K : jOK X RX12 cX12_weight 8 (some .long) 4) (hl : X.2.1 = l) {rr : Int64} {μr : jM} {v0 : Nat} {v1 : Int32} {v2 : Int32} {v5 : Int64}  {s0 : Int64 × Int32 × jM} {z : (Int64 × jM)} (H : jit jF (fun (s : Int64 × Int32 × jM) => b_X12_weight_42 Y v0 v1 v2 s.1 v5 s.2.1 s.2.2) s0 = some z) (D : z = (rr, μr)) : JW X (jEnd X n Y (some (.long rr)) μr 0 0) 0 0 n Y 42 [(0, .ref v0), (1, .int v1), (2, .int v2), (3, .long s0.1), (5, .long v5), (7, .int s0.2.1)] [] s0.2.2 :=
  jit_ind (P := fun (s : Int64 × Int32 × jM) => JW X (jEnd X n Y (some (.long rr)) μr 0 0) 0 0 n Y 42 [(0, .ref v0), (1, .int v1), (2, .int v2), (3, .long s.1), (5, .long v5), (7, .int s.2.1)] [] s.2.2) (D := fun r => r = (rr, μr)) (fun s z Hs Ds => t_X12_weight_42 K hl Hs Ds) jF s0 z H D
set_option maxRecDepth 10000 in
theorem t_X12_weight_0 {X : jX} {l : Launch} {n : Nat} {Y : jY} (K : jOK X RX12 cX12_weight 8 (some .long) 4) (hl : X.2.1 = l) {rr : Int64} {μr : jM} {v0 : Nat} {v1 : Int32} {v2 : Int32} {μ : jM} {z : (Int64 × jM)} (H : f_X12_weight Y v0 v1 v2 μ = some z) (D : z = (rr, μr)) : JW X (jEnd X n Y (some (.long rr)) μr 0 0) 0 0 n Y 0 [(0, .ref v0), (1, .int v1), (2, .int v2)] [] μ := by
  unfold f_X12_weight at H
  refine r_aload_n K 0 dX12_weight_0 rfl rfl ?_
  refine w_getI K vc12 inX12 10 (by decide) mF_RX12_145 dX12_weight_1 H (fun x1 H => ?_)
  refine w_if_eq K 30 dX12_weight_4 (by decide) H (fun _ H => ?_) (fun _ H => ?_)
  · exact r_sub [] rfl (t_X12_weight_30 K hl H D)
  · refine r_iload_n K 1 dX12_weight_7 rfl rfl ?_
    refine r_iconst (v := 0) K dX12_weight_8 (by decide) ?_
    refine r_aload_n K 0 dX12_weight_9 rfl rfl ?_
    refine w_getI K vc12 inX12 10 (by decide) mF_RX12_145 dX12_weight_10 H (fun x2 H => ?_)
    refine r_iconst (v := 1) K dX12_weight_13 (by decide) ?_
    refine r_isub K dX12_weight_14 ?_
    refine w_callS K hl H (fun r h => c_X12_in l h) mC_yX12_in mM_RX12_134 mT_yX12_in mZ_RX12 (Nat.le_of_ble_eq_true rfl) (Nat.le_of_ble_eq_true rfl) np_yX12_in rfl (Nat.le_of_ble_eq_true rfl) dX12_weight_15 (fun r3 H => ?_) ⟨Nat.zero_le _, Nat.zero_le _⟩
    refine w_if_eq K 30 dX12_weight_18 (by decide) H (fun _ H => ?_) (fun _ H => ?_)
    · exact r_sub [] rfl (t_X12_weight_30 K hl H D)
    · refine r_iload_n K 2 dX12_weight_21 rfl rfl ?_
      refine r_iconst (v := 0) K dX12_weight_22 (by decide) ?_
      refine r_iconst (v := 1) K dX12_weight_23 (by decide) ?_
      refine w_callS K hl H (fun r h => c_X12_in l h) mC_yX12_in mM_RX12_134 mT_yX12_in mZ_RX12 (Nat.le_of_ble_eq_true rfl) (Nat.le_of_ble_eq_true rfl) np_yX12_in rfl (Nat.le_of_ble_eq_true rfl) dX12_weight_24 (fun r4 H => ?_) ⟨Nat.zero_le _, Nat.zero_le _⟩
      refine w_if_ne K 34 dX12_weight_27 (by decide) H (fun _ H => ?_) (fun _ H => ?_)
      · refine r_lconst (v := 1) K dX12_weight_34 (by decide) ?_
        refine r_lstore_n K [(3, .long _), (0, .ref _), (1, .int _), (2, .int _)] dX12_weight_35 rfl (by decide) rfl ?_
        refine r_lconst (v := 1) K dX12_weight_36 (by decide) ?_
        refine r_lstore K [(5, .long _), (3, .long _), (0, .ref _), (1, .int _), (2, .int _)] dX12_weight_37 (by decide) rfl ?_
        refine r_iconst (v := 0) K dX12_weight_39 (by decide) ?_
        refine r_istore K [(7, .int _), (5, .long _), (3, .long _), (0, .ref _), (1, .int _), (2, .int _)] dX12_weight_40 (by decide) rfl ?_
        exact r_sub [3, 4, 5, 2, 1, 0] rfl (l_X12_weight_42 K hl H D)
      · exact r_sub [] rfl (t_X12_weight_30 K hl H D)
theorem c_X12_weight (l : Launch) {n : Nat} {Y : jY} {v0 : Nat} {v1 : Int32} {v2 : Int32} {μ : jM} {z : Int64 × jM} (H : f_X12_weight Y v0 v1 v2 μ = some z) : jC l yX12_weight cX12_weight 8 (some .long) 4 0 0 [.ref v0, .int v1, .int v2] n Y μ n Y (some (.long z.1)) z.2 := by
  refine jC_of (by decide +kernel) (Nat.le_of_ble_eq_true rfl) (fun X hl K _ _ _ => ?_)
  obtain ⟨rr, μr⟩ := z
  exact t_X12_weight_0 K hl H rfl
/-! RX12 number(III)J -/
def b_X12_number_39 (Y : jY) (μ : jM) : Option (Int64 × jM) :=
  some ((-9223372036854775808 : Int64), μ)
def f_X12_number (Y : jY) (v0 : Nat) (v1 : Int32) (v2 : Int32) (v3 : Int32) (μ : jM) : Option (Int64 × jM) :=
  (f_X12_isDrawer Y v1 μ).bind fun r1 =>
  if r1.1 = 0 then
    b_X12_number_39 Y r1.2
  else
    (jgO Y r1.2 v0 12 26).bind fun x2 =>
    (jaI Y r1.2 x2 20 v1).bind fun x3 =>
    if x3 = 0 then
      b_X12_number_39 Y r1.2
    else
      (jgO Y r1.2 v0 12 26).bind fun x4 =>
      (jaI Y r1.2 x4 20 v1).bind fun x5 =>
      (f_X12_in Y v2 ((0 : Int32)) x5 r1.2).bind fun r6 =>
      if r6.1 = 0 then
        b_X12_number_39 Y r6.2
      else
        (f_X12_in Y v3 ((0 : Int32)) v2 r6.2).bind fun r7 =>
        if r7.1 = 0 then
          b_X12_number_39 Y r7.2
        else
          (jrcv Y v0 12 (f_X12_laysPoly Y v0 v1 ((0 : Int32)) r7.2)).bind fun μ8 =>
          (jgO Y μ8 v0 12 35).bind fun x9 =>
          (jaL Y μ8 x9 21 ((((((6 : Int32)) * v2)) + v3))).bind fun x10 =>
          some (x10, μ8)
set_option maxRecDepth 10000 in
theorem t_X12_number_39 {X : jX} {l : Launch} {n : Nat} {Y : jY} (K : jOK X RX12 cX12_number 4 (some .long) 3) (hl : X.2.1 = l) {rr : Int64} {μr : jM} {μ : jM} {z : (Int64 × jM)} (H : b_X12_number_39 Y μ = some z) (D : z = (rr, μr)) : JW X (jEnd X n Y (some (.long rr)) μr 0 0) 0 0 n Y 39 [] [] μ := by
  unfold b_X12_number_39 at H
  refine r_ldc2 K (-9223372036854775808) mc_RX12_156 dX12_number_39 ?_
  cases H
  obtain ⟨rfl, rfl⟩ := jfin2 D
  exact r_lret K dX12_number_42
set_option maxRecDepth 10000 in
theorem t_X12_number_0 {X : jX} {l : Launch} {n : Nat} {Y : jY} (K : jOK X RX12 cX12_number 4 (some .long) 3) (hl : X.2.1 = l) {rr : Int64} {μr : jM} {v0 : Nat} {v1 : Int32} {v2 : Int32} {v3 : Int32} {μ : jM} {z : (Int64 × jM)} (H : f_X12_number Y v0 v1 v2 v3 μ = some z) (D : z = (rr, μr)) : JW X (jEnd X n Y (some (.long rr)) μr 0 0) 0 0 n Y 0 [(0, .ref v0), (1, .int v1), (2, .int v2), (3, .int v3)] [] μ := by
  unfold f_X12_number at H
  refine r_iload_n K 1 dX12_number_0 rfl rfl ?_
  refine w_callS K hl H (fun r h => c_X12_isDrawer l h) mC_yX12_isDrawer mM_RX12_253 mT_yX12_isDrawer mZ_RX12 (Nat.le_of_ble_eq_true rfl) (Nat.le_of_ble_eq_true rfl) np_yX12_isDrawer rfl (Nat.le_of_ble_eq_true rfl) dX12_number_1 (fun r1 H => ?_) ⟨Nat.zero_le _, Nat.zero_le _⟩
  refine w_if_eq K 39 dX12_number_4 (by decide) H (fun _ H => ?_) (fun _ H => ?_)
  · exact r_sub [] rfl (t_X12_number_39 K hl H D)
  · refine r_aload_n K 0 dX12_number_7 rfl rfl ?_
    refine w_getO K vc12 inX12 26 (by decide) mF_RX12_48 dX12_number_8 H (fun x2 H => ?_)
    refine r_iload_n K 1 dX12_number_11 rfl rfl ?_
    refine w_iald K dX12_number_12 H (fun x3 H => ?_)
    refine w_if_eq K 39 dX12_number_13 (by decide) H (fun _ H => ?_) (fun _ H => ?_)
    · exact r_sub [] rfl (t_X12_number_39 K hl H D)
    · refine r_iload_n K 2 dX12_number_16 rfl rfl ?_
      refine r_iconst (v := 0) K dX12_number_17 (by decide) ?_
      refine r_aload_n K 0 dX12_number_18 rfl rfl ?_
      refine w_getO K vc12 inX12 26 (by decide) mF_RX12_48 dX12_number_19 H (fun x4 H => ?_)
      refine r_iload_n K 1 dX12_number_22 rfl rfl ?_
      refine w_iald K dX12_number_23 H (fun x5 H => ?_)
      refine w_callS K hl H (fun r h => c_X12_in l h) mC_yX12_in mM_RX12_134 mT_yX12_in mZ_RX12 (Nat.le_of_ble_eq_true rfl) (Nat.le_of_ble_eq_true rfl) np_yX12_in rfl (Nat.le_of_ble_eq_true rfl) dX12_number_24 (fun r6 H => ?_) ⟨Nat.zero_le _, Nat.zero_le _⟩
      refine w_if_eq K 39 dX12_number_27 (by decide) H (fun _ H => ?_) (fun _ H => ?_)
      · exact r_sub [] rfl (t_X12_number_39 K hl H D)
      · refine r_iload_n K 3 dX12_number_30 rfl rfl ?_
        refine r_iconst (v := 0) K dX12_number_31 (by decide) ?_
        refine r_iload_n K 2 dX12_number_32 rfl rfl ?_
        refine w_callS K hl H (fun r h => c_X12_in l h) mC_yX12_in mM_RX12_134 mT_yX12_in mZ_RX12 (Nat.le_of_ble_eq_true rfl) (Nat.le_of_ble_eq_true rfl) np_yX12_in rfl (Nat.le_of_ble_eq_true rfl) dX12_number_33 (fun r7 H => ?_) ⟨Nat.zero_le _, Nat.zero_le _⟩
        refine w_if_ne K 43 dX12_number_36 (by decide) H (fun _ H => ?_) (fun _ H => ?_)
        · refine r_aload_n K 0 dX12_number_43 rfl rfl ?_
          refine r_iload_n K 1 dX12_number_44 rfl rfl ?_
          refine r_iconst (v := 0) K dX12_number_45 (by decide) ?_
          refine w_callV K hl H (fun r h => c_X12_laysPoly l h) mC_yX12_laysPoly mM_RX12_275 mI_yX12_laysPoly mS_yX12_laysPoly mZ_RX12 vc12 (Nat.le_of_ble_eq_true rfl) (Nat.le_of_ble_eq_true rfl) np_yX12_laysPoly rfl (Nat.le_of_ble_eq_true rfl) dX12_number_46 (fun μ8 H => ?_) ⟨Nat.zero_le _, Nat.zero_le _⟩
          refine r_aload_n K 0 dX12_number_49 rfl rfl ?_
          refine w_getO K vc12 inX12 35 (by decide) mF_RX12_75 dX12_number_50 H (fun x9 H => ?_)
          refine r_bipush (v := 6) K dX12_number_53 (by decide) ?_
          refine r_iload_n K 2 dX12_number_55 rfl rfl ?_
          refine r_imul K dX12_number_56 ?_
          refine r_iload_n K 3 dX12_number_57 rfl rfl ?_
          refine r_iadd K dX12_number_58 ?_
          refine w_lald K dX12_number_59 H (fun x10 H => ?_)
          cases H
          obtain ⟨rfl, rfl⟩ := jfin2 D
          exact r_lret K dX12_number_60
        · exact r_sub [] rfl (t_X12_number_39 K hl H D)
theorem c_X12_number (l : Launch) {n : Nat} {Y : jY} {v0 : Nat} {v1 : Int32} {v2 : Int32} {v3 : Int32} {μ : jM} {z : Int64 × jM} (H : f_X12_number Y v0 v1 v2 v3 μ = some z) : jC l yX12_number cX12_number 4 (some .long) 3 0 0 [.ref v0, .int v1, .int v2, .int v3] n Y μ n Y (some (.long z.1)) z.2 := by
  refine jC_of (by decide +kernel) (Nat.le_of_ble_eq_true rfl) (fun X hl K _ _ _ => ?_)
  obtain ⟨rr, μr⟩ := z
  exact t_X12_number_0 K hl H rfl
/-! RX12 isTurned(II)Z -/
def b_X12_isTurned_101 (Y : jY) (v0 : Nat) (v1 : Int32) (v2 : Int32) (v4 : Int32) (v5 : Int32) (t0 : Int32) (μ : jM) : Option ((Int32 × Int32 × jM) ⊕ (Int32 × jM)) :=
  some (.inl (t0, (v5 + (1 : Int32)), μ))
def b_X12_isTurned_100 (Y : jY) (v0 : Nat) (v1 : Int32) (v2 : Int32) (v4 : Int32) (v5 : Int32) (μ : jM) : Option ((Int32 × Int32 × jM) ⊕ (Int32 × jM)) :=
  b_X12_isTurned_101 Y v0 v1 v2 v4 v5 (0 : Int32) μ
def b_X12_isTurned_61 (Y : jY) (v0 : Nat) (v1 : Int32) (v2 : Int32) (v3 : Int32) (v4 : Int32) (v5 : Int32) (μ : jM) : Option ((Int32 × Int32 × jM) ⊕ (Int32 × jM)) :=
  if ((v4 - ((1 : Int32)))) ≤ v5 then
    (jbool v3).bind fun x1 =>
    some (.inr (x1, μ))
  else
    if v3 = 0 then
      b_X12_isTurned_100 Y v0 v1 v2 v4 v5 μ
    else
      (jrcv Y v0 12 (f_X12_c Y v0 v1 v5 μ)).bind fun r2 =>
      (jrcv Y v0 12 (f_X12_c Y v0 v2 ((((v4 - ((2 : Int32)))) - v5)) r2.2)).bind fun r3 =>
      if r2.1 = r3.1 then
        b_X12_isTurned_101 Y v0 v1 v2 v4 v5 (1 : Int32) r3.2
      else
        b_X12_isTurned_100 Y v0 v1 v2 v4 v5 r3.2
def b_X12_isTurned_51 (Y : jY) (v0 : Nat) (v1 : Int32) (v2 : Int32) (v4 : Int32) (v5 : Int32) (t0 : Int32) (μ : jM) : Option ((Int32 × Int32 × jM) ⊕ (Int32 × jM)) :=
  some (.inl (t0, (v5 + (1 : Int32)), μ))
def b_X12_isTurned_50 (Y : jY) (v0 : Nat) (v1 : Int32) (v2 : Int32) (v4 : Int32) (v5 : Int32) (μ : jM) : Option ((Int32 × Int32 × jM) ⊕ (Int32 × jM)) :=
  b_X12_isTurned_51 Y v0 v1 v2 v4 v5 (0 : Int32) μ
def b_X12_isTurned_13 (Y : jY) (v0 : Nat) (v1 : Int32) (v2 : Int32) (v3 : Int32) (v4 : Int32) (v5 : Int32) (μ : jM) : Option ((Int32 × Int32 × jM) ⊕ (Int32 × jM)) :=
  if v4 ≤ v5 then
    (jit jF (fun (s : Int32 × Int32 × jM) => b_X12_isTurned_61 Y v0 v1 v2 s.1 v4 s.2.1 s.2.2) (v3, (0 : Int32), μ)).map (fun r => (.inr r))
  else
    if v3 = 0 then
      b_X12_isTurned_50 Y v0 v1 v2 v4 v5 μ
    else
      (jrcv Y v0 12 (f_X12_a Y v0 v1 v5 μ)).bind fun r1 =>
      (jrcv Y v0 12 (f_X12_a Y v0 v2 ((((v4 - ((1 : Int32)))) - v5)) r1.2)).bind fun r2 =>
      if r1.1 = r2.1 then
        b_X12_isTurned_51 Y v0 v1 v2 v4 v5 (1 : Int32) r2.2
      else
        b_X12_isTurned_50 Y v0 v1 v2 v4 v5 r2.2
def f_X12_isTurned (Y : jY) (v0 : Nat) (v1 : Int32) (v2 : Int32) (μ : jM) : Option (Int32 × jM) :=
  (jgO Y μ v0 12 26).bind fun x1 =>
  (jaI Y μ x1 20 v1).bind fun x2 =>
  jit jF (fun (s : Int32 × Int32 × jM) => b_X12_isTurned_13 Y v0 v1 v2 s.1 x2 s.2.1 s.2.2) ((1 : Int32), (0 : Int32), μ)
set_option maxRecDepth 10000 in
theorem t_X12_isTurned_101 {X : jX} {l : Launch} {n : Nat} {Y : jY} (K : jOK X RX12 cX12_isTurned 6 (some .boolean) 2) (hl : X.2.1 = l) {rr : Int32} {μr : jM} {v0 : Nat} {v1 : Int32} {v2 : Int32} {v4 : Int32} {v5 : Int32} {t0 : Int32} {μ : jM} {z : ((Int32 × Int32 × jM) ⊕ (Int32 × jM))} (H : b_X12_isTurned_101 Y v0 v1 v2 v4 v5 t0 μ = some z) (D : Sum.elim (fun (s : Int32 × Int32 × jM) => JW X (jEnd X n Y (some (.int rr)) μr 0 0) 0 0 n Y 61 [(0, .ref v0), (1, .int v1), (2, .int v2), (3, .int s.1), (4, .int v4), (5, .int s.2.1)] [] s.2.2) (fun r => r = (rr, μr)) z) : JW X (jEnd X n Y (some (.int rr)) μr 0 0) 0 0 n Y 101 [(0, .ref v0), (1, .int v1), (2, .int v2), (4, .int v4), (5, .int v5)] [.int t0] μ := by
  unfold b_X12_isTurned_101 at H
  refine r_istore_n K [(3, .int _), (0, .ref _), (1, .int _), (2, .int _), (4, .int _), (5, .int _)] dX12_isTurned_101 rfl (by decide) rfl ?_
  refine r_iinc K 5 [(5, .int _), (3, .int _), (0, .ref _), (1, .int _), (2, .int _), (4, .int _)] (v := _ + (1 : Int32)) dX12_isTurned_102 rfl rfl (by decide) rfl ?_
  refine r_goto K 61 dX12_isTurned_105 (by decide) ?_
  cases H
  exact r_sub [2, 3, 4, 1, 5, 0] rfl D
set_option maxRecDepth 10000 in
theorem t_X12_isTurned_100 {X : jX} {l : Launch} {n : Nat} {Y : jY} (K : jOK X RX12 cX12_isTurned 6 (some .boolean) 2) (hl : X.2.1 = l) {rr : Int32} {μr : jM} {v0 : Nat} {v1 : Int32} {v2 : Int32} {v4 : Int32} {v5 : Int32} {μ : jM} {z : ((Int32 × Int32 × jM) ⊕ (Int32 × jM))} (H : b_X12_isTurned_100 Y v0 v1 v2 v4 v5 μ = some z) (D : Sum.elim (fun (s : Int32 × Int32 × jM) => JW X (jEnd X n Y (some (.int rr)) μr 0 0) 0 0 n Y 61 [(0, .ref v0), (1, .int v1), (2, .int v2), (3, .int s.1), (4, .int v4), (5, .int s.2.1)] [] s.2.2) (fun r => r = (rr, μr)) z) : JW X (jEnd X n Y (some (.int rr)) μr 0 0) 0 0 n Y 100 [(0, .ref v0), (1, .int v1), (2, .int v2), (4, .int v4), (5, .int v5)] [] μ := by
  unfold b_X12_isTurned_100 at H
  refine r_iconst (v := 0) K dX12_isTurned_100 (by decide) ?_
  exact r_sub [0, 1, 2, 3, 4] rfl (t_X12_isTurned_101 K hl H D)
set_option maxRecDepth 10000 in
theorem t_X12_isTurned_61 {X : jX} {l : Launch} {n : Nat} {Y : jY} (K : jOK X RX12 cX12_isTurned 6 (some .boolean) 2) (hl : X.2.1 = l) {rr : Int32} {μr : jM} {v0 : Nat} {v1 : Int32} {v2 : Int32} {v3 : Int32} {v4 : Int32} {v5 : Int32} {μ : jM} {z : ((Int32 × Int32 × jM) ⊕ (Int32 × jM))} (H : b_X12_isTurned_61 Y v0 v1 v2 v3 v4 v5 μ = some z) (D : Sum.elim (fun (s : Int32 × Int32 × jM) => JW X (jEnd X n Y (some (.int rr)) μr 0 0) 0 0 n Y 61 [(0, .ref v0), (1, .int v1), (2, .int v2), (3, .int s.1), (4, .int v4), (5, .int s.2.1)] [] s.2.2) (fun r => r = (rr, μr)) z) : JW X (jEnd X n Y (some (.int rr)) μr 0 0) 0 0 n Y 61 [(0, .ref v0), (1, .int v1), (2, .int v2), (3, .int v3), (4, .int v4), (5, .int v5)] [] μ := by
  unfold b_X12_isTurned_61 at H
  refine r_iload K 5 dX12_isTurned_61 rfl ?_
  refine r_iload K 4 dX12_isTurned_63 rfl ?_
  refine r_iconst (v := 1) K dX12_isTurned_65 (by decide) ?_
  refine r_isub K dX12_isTurned_66 ?_
  refine w_icmp_ge K 108 dX12_isTurned_67 (by decide) H (fun _ H => ?_) (fun _ H => ?_)
  · refine r_iload_n K 3 dX12_isTurned_108 rfl rfl ?_
    refine w_zret K dX12_isTurned_109 H (fun hz H => ?_)
    cases H
    simp only [Sum.elim_inr] at D
    obtain ⟨rfl, rfl⟩ := jfin2 D
    exact r_zret K hz dX12_isTurned_109
  · refine r_iload_n K 3 dX12_isTurned_70 rfl rfl ?_
    refine w_if_eq K 100 dX12_isTurned_71 (by decide) H (fun _ H => ?_) (fun _ H => ?_)
    · exact r_sub [0, 1, 2, 4, 5] rfl (t_X12_isTurned_100 K hl H D)
    · refine r_aload_n K 0 dX12_isTurned_74 rfl rfl ?_
      refine r_iload_n K 1 dX12_isTurned_75 rfl rfl ?_
      refine r_iload K 5 dX12_isTurned_76 rfl ?_
      refine w_callV K hl H (fun r h => c_X12_c l h) mC_yX12_c mM_RX12_260 mI_yX12_c mS_yX12_c mZ_RX12 vc12 (Nat.le_of_ble_eq_true rfl) (Nat.le_of_ble_eq_true rfl) np_yX12_c rfl (Nat.le_of_ble_eq_true rfl) dX12_isTurned_78 (fun r2 H => ?_) ⟨Nat.zero_le _, Nat.zero_le _⟩
      refine r_aload_n K 0 dX12_isTurned_81 rfl rfl ?_
      refine r_iload_n K 2 dX12_isTurned_82 rfl rfl ?_
      refine r_iload K 4 dX12_isTurned_83 rfl ?_
      refine r_iconst (v := 2) K dX12_isTurned_85 (by decide) ?_
      refine r_isub K dX12_isTurned_86 ?_
      refine r_iload K 5 dX12_isTurned_87 rfl ?_
      refine r_isub K dX12_isTurned_89 ?_
      refine w_callV K hl H (fun r h => c_X12_c l h) mC_yX12_c mM_RX12_260 mI_yX12_c mS_yX12_c mZ_RX12 vc12 (Nat.le_of_ble_eq_true rfl) (Nat.le_of_ble_eq_true rfl) np_yX12_c rfl (Nat.le_of_ble_eq_true rfl) dX12_isTurned_90 (fun r3 H => ?_) ⟨Nat.zero_le _, Nat.zero_le _⟩
      refine w_icmp_ne K 100 dX12_isTurned_93 (by decide) H (fun _ H => ?_) (fun _ H => ?_)
      · exact r_sub [0, 1, 2, 4, 5] rfl (t_X12_isTurned_100 K hl H D)
      · refine r_iconst (v := 1) K dX12_isTurned_96 (by decide) ?_
        refine r_goto K 101 dX12_isTurned_97 (by decide) ?_
        exact r_sub [0, 1, 2, 4, 5] rfl (t_X12_isTurned_101 K hl H D)
set_option maxRecDepth 10000 in
theorem l_X12_isTurned_61 {X : jX} {l : Launch} {n : Nat} {Y : jY} (K : jOK X RX12 cX12_isTurned 6 (some .boolean) 2) (hl : X.2.1 = l) {rr : Int32} {μr : jM} {v0 : Nat} {v1 : Int32} {v2 : Int32} {v4 : Int32}  {s0 : Int32 × Int32 × jM} {z : (Int32 × jM)} (H : jit jF (fun (s : Int32 × Int32 × jM) => b_X12_isTurned_61 Y v0 v1 v2 s.1 v4 s.2.1 s.2.2) s0 = some z) (D : z = (rr, μr)) : JW X (jEnd X n Y (some (.int rr)) μr 0 0) 0 0 n Y 61 [(0, .ref v0), (1, .int v1), (2, .int v2), (3, .int s0.1), (4, .int v4), (5, .int s0.2.1)] [] s0.2.2 :=
  jit_ind (P := fun (s : Int32 × Int32 × jM) => JW X (jEnd X n Y (some (.int rr)) μr 0 0) 0 0 n Y 61 [(0, .ref v0), (1, .int v1), (2, .int v2), (3, .int s.1), (4, .int v4), (5, .int s.2.1)] [] s.2.2) (D := fun r => r = (rr, μr)) (fun s z Hs Ds => t_X12_isTurned_61 K hl Hs Ds) jF s0 z H D
set_option maxRecDepth 10000 in
theorem t_X12_isTurned_51 {X : jX} {l : Launch} {n : Nat} {Y : jY} (K : jOK X RX12 cX12_isTurned 6 (some .boolean) 2) (hl : X.2.1 = l) {rr : Int32} {μr : jM} {v0 : Nat} {v1 : Int32} {v2 : Int32} {v4 : Int32} {v5 : Int32} {t0 : Int32} {μ : jM} {z : ((Int32 × Int32 × jM) ⊕ (Int32 × jM))} (H : b_X12_isTurned_51 Y v0 v1 v2 v4 v5 t0 μ = some z) (D : Sum.elim (fun (s : Int32 × Int32 × jM) => JW X (jEnd X n Y (some (.int rr)) μr 0 0) 0 0 n Y 13 [(0, .ref v0), (1, .int v1), (2, .int v2), (3, .int s.1), (4, .int v4), (5, .int s.2.1)] [] s.2.2) (fun r => r = (rr, μr)) z) : JW X (jEnd X n Y (some (.int rr)) μr 0 0) 0 0 n Y 51 [(0, .ref v0), (1, .int v1), (2, .int v2), (4, .int v4), (5, .int v5)] [.int t0] μ := by
  unfold b_X12_isTurned_51 at H
  refine r_istore_n K [(3, .int _), (0, .ref _), (1, .int _), (2, .int _), (4, .int _), (5, .int _)] dX12_isTurned_51 rfl (by decide) rfl ?_
  refine r_iinc K 5 [(5, .int _), (3, .int _), (0, .ref _), (1, .int _), (2, .int _), (4, .int _)] (v := _ + (1 : Int32)) dX12_isTurned_52 rfl rfl (by decide) rfl ?_
  refine r_goto K 13 dX12_isTurned_55 (by decide) ?_
  cases H
  exact r_sub [2, 3, 4, 1, 5, 0] rfl D
set_option maxRecDepth 10000 in
theorem t_X12_isTurned_50 {X : jX} {l : Launch} {n : Nat} {Y : jY} (K : jOK X RX12 cX12_isTurned 6 (some .boolean) 2) (hl : X.2.1 = l) {rr : Int32} {μr : jM} {v0 : Nat} {v1 : Int32} {v2 : Int32} {v4 : Int32} {v5 : Int32} {μ : jM} {z : ((Int32 × Int32 × jM) ⊕ (Int32 × jM))} (H : b_X12_isTurned_50 Y v0 v1 v2 v4 v5 μ = some z) (D : Sum.elim (fun (s : Int32 × Int32 × jM) => JW X (jEnd X n Y (some (.int rr)) μr 0 0) 0 0 n Y 13 [(0, .ref v0), (1, .int v1), (2, .int v2), (3, .int s.1), (4, .int v4), (5, .int s.2.1)] [] s.2.2) (fun r => r = (rr, μr)) z) : JW X (jEnd X n Y (some (.int rr)) μr 0 0) 0 0 n Y 50 [(0, .ref v0), (1, .int v1), (2, .int v2), (4, .int v4), (5, .int v5)] [] μ := by
  unfold b_X12_isTurned_50 at H
  refine r_iconst (v := 0) K dX12_isTurned_50 (by decide) ?_
  exact r_sub [0, 1, 2, 3, 4] rfl (t_X12_isTurned_51 K hl H D)
set_option maxRecDepth 10000 in
theorem t_X12_isTurned_13 {X : jX} {l : Launch} {n : Nat} {Y : jY} (K : jOK X RX12 cX12_isTurned 6 (some .boolean) 2) (hl : X.2.1 = l) {rr : Int32} {μr : jM} {v0 : Nat} {v1 : Int32} {v2 : Int32} {v3 : Int32} {v4 : Int32} {v5 : Int32} {μ : jM} {z : ((Int32 × Int32 × jM) ⊕ (Int32 × jM))} (H : b_X12_isTurned_13 Y v0 v1 v2 v3 v4 v5 μ = some z) (D : Sum.elim (fun (s : Int32 × Int32 × jM) => JW X (jEnd X n Y (some (.int rr)) μr 0 0) 0 0 n Y 13 [(0, .ref v0), (1, .int v1), (2, .int v2), (3, .int s.1), (4, .int v4), (5, .int s.2.1)] [] s.2.2) (fun r => r = (rr, μr)) z) : JW X (jEnd X n Y (some (.int rr)) μr 0 0) 0 0 n Y 13 [(0, .ref v0), (1, .int v1), (2, .int v2), (3, .int v3), (4, .int v4), (5, .int v5)] [] μ := by
  unfold b_X12_isTurned_13 at H
  refine r_iload K 5 dX12_isTurned_13 rfl ?_
  refine r_iload K 4 dX12_isTurned_15 rfl ?_
  refine w_icmp_ge K 58 dX12_isTurned_17 (by decide) H (fun _ H => ?_) (fun _ H => ?_)
  · refine r_iconst (v := 0) K dX12_isTurned_58 (by decide) ?_
    refine r_istore K [(5, .int _), (0, .ref _), (1, .int _), (2, .int _), (3, .int _), (4, .int _)] dX12_isTurned_59 (by decide) rfl ?_
    obtain ⟨z2, H2, rfl⟩ := jmap H
    exact r_sub [1, 2, 3, 4, 5, 0] rfl (l_X12_isTurned_61 K hl H2 D)
  · refine r_iload_n K 3 dX12_isTurned_20 rfl rfl ?_
    refine w_if_eq K 50 dX12_isTurned_21 (by decide) H (fun _ H => ?_) (fun _ H => ?_)
    · exact r_sub [0, 1, 2, 4, 5] rfl (t_X12_isTurned_50 K hl H D)
    · refine r_aload_n K 0 dX12_isTurned_24 rfl rfl ?_
      refine r_iload_n K 1 dX12_isTurned_25 rfl rfl ?_
      refine r_iload K 5 dX12_isTurned_26 rfl ?_
      refine w_callV K hl H (fun r h => c_X12_a l h) mC_yX12_a mM_RX12_256 mI_yX12_a mS_yX12_a mZ_RX12 vc12 (Nat.le_of_ble_eq_true rfl) (Nat.le_of_ble_eq_true rfl) np_yX12_a rfl (Nat.le_of_ble_eq_true rfl) dX12_isTurned_28 (fun r1 H => ?_) ⟨Nat.zero_le _, Nat.zero_le _⟩
      refine r_aload_n K 0 dX12_isTurned_31 rfl rfl ?_
      refine r_iload_n K 2 dX12_isTurned_32 rfl rfl ?_
      refine r_iload K 4 dX12_isTurned_33 rfl ?_
      refine r_iconst (v := 1) K dX12_isTurned_35 (by decide) ?_
      refine r_isub K dX12_isTurned_36 ?_
      refine r_iload K 5 dX12_isTurned_37 rfl ?_
      refine r_isub K dX12_isTurned_39 ?_
      refine w_callV K hl H (fun r h => c_X12_a l h) mC_yX12_a mM_RX12_256 mI_yX12_a mS_yX12_a mZ_RX12 vc12 (Nat.le_of_ble_eq_true rfl) (Nat.le_of_ble_eq_true rfl) np_yX12_a rfl (Nat.le_of_ble_eq_true rfl) dX12_isTurned_40 (fun r2 H => ?_) ⟨Nat.zero_le _, Nat.zero_le _⟩
      refine w_icmp_ne K 50 dX12_isTurned_43 (by decide) H (fun _ H => ?_) (fun _ H => ?_)
      · exact r_sub [0, 1, 2, 4, 5] rfl (t_X12_isTurned_50 K hl H D)
      · refine r_iconst (v := 1) K dX12_isTurned_46 (by decide) ?_
        refine r_goto K 51 dX12_isTurned_47 (by decide) ?_
        exact r_sub [0, 1, 2, 4, 5] rfl (t_X12_isTurned_51 K hl H D)
set_option maxRecDepth 10000 in
theorem l_X12_isTurned_13 {X : jX} {l : Launch} {n : Nat} {Y : jY} (K : jOK X RX12 cX12_isTurned 6 (some .boolean) 2) (hl : X.2.1 = l) {rr : Int32} {μr : jM} {v0 : Nat} {v1 : Int32} {v2 : Int32} {v4 : Int32}  {s0 : Int32 × Int32 × jM} {z : (Int32 × jM)} (H : jit jF (fun (s : Int32 × Int32 × jM) => b_X12_isTurned_13 Y v0 v1 v2 s.1 v4 s.2.1 s.2.2) s0 = some z) (D : z = (rr, μr)) : JW X (jEnd X n Y (some (.int rr)) μr 0 0) 0 0 n Y 13 [(0, .ref v0), (1, .int v1), (2, .int v2), (3, .int s0.1), (4, .int v4), (5, .int s0.2.1)] [] s0.2.2 :=
  jit_ind (P := fun (s : Int32 × Int32 × jM) => JW X (jEnd X n Y (some (.int rr)) μr 0 0) 0 0 n Y 13 [(0, .ref v0), (1, .int v1), (2, .int v2), (3, .int s.1), (4, .int v4), (5, .int s.2.1)] [] s.2.2) (D := fun r => r = (rr, μr)) (fun s z Hs Ds => t_X12_isTurned_13 K hl Hs Ds) jF s0 z H D
set_option maxRecDepth 10000 in
theorem t_X12_isTurned_0 {X : jX} {l : Launch} {n : Nat} {Y : jY} (K : jOK X RX12 cX12_isTurned 6 (some .boolean) 2) (hl : X.2.1 = l) {rr : Int32} {μr : jM} {v0 : Nat} {v1 : Int32} {v2 : Int32} {μ : jM} {z : (Int32 × jM)} (H : f_X12_isTurned Y v0 v1 v2 μ = some z) (D : z = (rr, μr)) : JW X (jEnd X n Y (some (.int rr)) μr 0 0) 0 0 n Y 0 [(0, .ref v0), (1, .int v1), (2, .int v2)] [] μ := by
  unfold f_X12_isTurned at H
  refine r_iconst (v := 1) K dX12_isTurned_0 (by decide) ?_
  refine r_istore_n K [(3, .int _), (0, .ref _), (1, .int _), (2, .int _)] dX12_isTurned_1 rfl (by decide) rfl ?_
  refine r_aload_n K 1 dX12_isTurned_2 rfl rfl ?_
  refine w_getO K vc12 inX12 26 (by decide) mF_RX12_48 dX12_isTurned_3 H (fun x1 H => ?_)
  refine r_iload_n K 2 dX12_isTurned_6 rfl rfl ?_
  refine w_iald K dX12_isTurned_7 H (fun x2 H => ?_)
  refine r_istore K [(4, .int _), (3, .int _), (0, .ref _), (1, .int _), (2, .int _)] dX12_isTurned_8 (by decide) rfl ?_
  refine r_iconst (v := 0) K dX12_isTurned_10 (by decide) ?_
  refine r_istore K [(5, .int _), (4, .int _), (3, .int _), (0, .ref _), (1, .int _), (2, .int _)] dX12_isTurned_11 (by decide) rfl ?_
  exact r_sub [3, 4, 5, 2, 1, 0] rfl (l_X12_isTurned_13 K hl H D)
theorem c_X12_isTurned (l : Launch) {n : Nat} {Y : jY} {v0 : Nat} {v1 : Int32} {v2 : Int32} {μ : jM} {z : Int32 × jM} (H : f_X12_isTurned Y v0 v1 v2 μ = some z) : jC l yX12_isTurned cX12_isTurned 6 (some .boolean) 2 0 0 [.ref v0, .int v1, .int v2] n Y μ n Y (some (.int z.1)) z.2 := by
  refine jC_of (by decide +kernel) (Nat.le_of_ble_eq_true rfl) (fun X hl K _ _ _ => ?_)
  obtain ⟨rr, μr⟩ := z
  exact t_X12_isTurned_0 K hl H rfl
/-! RX12 alike(III)I -/
def b_X12_alike_23 (Y : jY) (μ : jM) : Option (Int32 × jM) :=
  some ((-1 : Int32), μ)
def b_X12_alike_43 (Y : jY) (μ : jM) : Option (Int32 × jM) :=
  some ((-2 : Int32), μ)
def b_X12_alike_328 (Y : jY) (t0 : Int32) (μ : jM) : Option (Int32 × jM) :=
  some (t0, μ)
def b_X12_alike_310 (Y : jY) (v0 : Nat) (v1 : Int32) (v5 : Int32) (t0 : Int32) (μ : jM) : Option ((Int32 × Int32 × jM) ⊕ (Int32 × jM)) :=
  some (.inl (t0, (v5 + (1 : Int32)), μ))
def b_X12_alike_309 (Y : jY) (v0 : Nat) (v1 : Int32) (v5 : Int32) (μ : jM) : Option ((Int32 × Int32 × jM) ⊕ (Int32 × jM)) :=
  b_X12_alike_310 Y v0 v1 v5 (0 : Int32) μ
def b_X12_alike_261 (Y : jY) (v0 : Nat) (v1 : Int32) (v4 : Int32) (v5 : Int32) (μ : jM) : Option ((Int32 × Int32 × jM) ⊕ (Int32 × jM)) :=
  (jgO Y μ v0 12 26).bind fun x1 =>
  (jaI Y μ x1 20 v1).bind fun x2 =>
  if x2 < v5 then
    if v4 = 0 then
      (b_X12_alike_328 Y (0 : Int32) μ).map (fun r => (.inr r))
    else
      (b_X12_alike_328 Y (1 : Int32) μ).map (fun r => (.inr r))
  else
    if v4 = 0 then
      b_X12_alike_309 Y v0 v1 v5 μ
    else
      (jgO Y μ v0 12 36).bind fun x3 =>
      (jaL Y μ x3 21 v5).bind fun x4 =>
      (jgO Y μ v0 12 35).bind fun x5 =>
      (jgO Y μ v0 12 26).bind fun x6 =>
      (jaI Y μ x6 20 v1).bind fun x7 =>
      (jaL Y μ x5 21 ((((((6 : Int32)) * x7)) + v5))).bind fun x8 =>
      if ((lg_cmp x4 x8)) = 0 then
        b_X12_alike_310 Y v0 v1 v5 (1 : Int32) μ
      else
        b_X12_alike_309 Y v0 v1 v5 μ
def b_X12_alike_211 (Y : jY) (v0 : Nat) (v1 : Int32) (v2 : Int32) (v4 : Int32) (v5 : Int32) (μ : jM) : Option ((Int32 × jM) ⊕ (Int32 × jM)) :=
  (jgO Y μ v0 12 26).bind fun x1 =>
  (jaI Y μ x1 20 v1).bind fun x2 =>
  if x2 < v5 then
    (jrcv Y v0 12 (f_X12_laysPoly Y v0 v2 ((0 : Int32)) μ)).bind fun μ3 =>
    (jit jF (fun (s : Int32 × Int32 × jM) => b_X12_alike_261 Y v0 v1 s.1 s.2.1 s.2.2) (v4, (0 : Int32), μ3)).map (fun r => (.inr r))
  else
    (jgO Y μ v0 12 36).bind fun x4 =>
    (jgO Y μ v0 12 35).bind fun x5 =>
    (jgO Y μ v0 12 26).bind fun x6 =>
    (jaI Y μ x6 20 v1).bind fun x7 =>
    (jaL Y μ x5 21 ((((((6 : Int32)) * x7)) + v5))).bind fun x8 =>
    (jas Y μ x4 21 v5 (.long x8)).bind fun μ9 =>
    some (.inl ((v5 + (1 : Int32)), μ9))
def b_X12_alike_198 (Y : jY) (t0 : Int32) (μ : jM) : Option (Int32 × jM) :=
  some (t0, μ)
def b_X12_alike_150 (Y : jY) (v0 : Nat) (v1 : Int32) (v2 : Int32) (v5 : Int32) (t0 : Int32) (t1 : Int32) (μ : jM) : Option ((Int32 × Int32 × jM) ⊕ (Int32 × jM)) :=
  some (.inl ((t0 + t1), (v5 + (1 : Int32)), μ))
def b_X12_alike_130 (Y : jY) (v0 : Nat) (v1 : Int32) (v2 : Int32) (v4 : Int32) (v5 : Int32) (v7 : Int32) (t0 : Int32) (μ : jM) : Option ((Int32 × Int32 × jM) ⊕ ((Int32 × Int32 × jM) ⊕ (Int32 × jM))) :=
  some (.inl (t0, (v7 + (1 : Int32)), μ))
def b_X12_alike_125 (Y : jY) (v0 : Nat) (v1 : Int32) (v2 : Int32) (v4 : Int32) (v5 : Int32) (v7 : Int32) (μ : jM) : Option ((Int32 × Int32 × jM) ⊕ ((Int32 × Int32 × jM) ⊕ (Int32 × jM))) :=
  b_X12_alike_130 Y v0 v1 v2 v4 v5 v7 (1 : Int32) μ
def b_X12_alike_74 (Y : jY) (v0 : Nat) (v1 : Int32) (v2 : Int32) (v4 : Int32) (v5 : Int32) (v6 : Int32) (v7 : Int32) (μ : jM) : Option ((Int32 × Int32 × jM) ⊕ ((Int32 × Int32 × jM) ⊕ (Int32 × jM))) :=
  (jgO Y μ v0 12 26).bind fun x1 =>
  (jaI Y μ x1 20 v2).bind fun x2 =>
  if x2 ≤ v7 then
    if v6 = 0 then
      (b_X12_alike_150 Y v0 v1 v2 v5 v4 (0 : Int32) μ).map (fun r => (.inr r))
    else
      (b_X12_alike_150 Y v0 v1 v2 v5 v4 (1 : Int32) μ).map (fun r => (.inr r))
  else
    if v6 = 0 then
      (jgO Y μ v0 12 26).bind fun x3 =>
      (jaI Y μ x3 20 v1).bind fun x4 =>
      (jrcv Y v0 12 (f_X12_rootOf Y v0 v1 ((0 : Int32)) x4 v5 ((50 : Int32)) μ)).bind fun r5 =>
      (jgO Y r5.2 v0 12 26).bind fun x6 =>
      (jaI Y r5.2 x6 20 v2).bind fun x7 =>
      (jrcv Y v0 12 (f_X12_rootOf Y v0 v2 ((0 : Int32)) x7 v7 ((50 : Int32)) r5.2)).bind fun r8 =>
      if r5.1 = r8.1 then
        b_X12_alike_125 Y v0 v1 v2 v4 v5 v7 r8.2
      else
        b_X12_alike_130 Y v0 v1 v2 v4 v5 v7 (0 : Int32) r8.2
    else
      b_X12_alike_125 Y v0 v1 v2 v4 v5 v7 μ
def b_X12_alike_57 (Y : jY) (v0 : Nat) (v1 : Int32) (v2 : Int32) (v4 : Int32) (v5 : Int32) (μ : jM) : Option ((Int32 × Int32 × jM) ⊕ (Int32 × jM)) :=
  (jgO Y μ v0 12 26).bind fun x1 =>
  (jaI Y μ x1 20 v1).bind fun x2 =>
  if x2 ≤ v5 then
    some (.inr (v4, μ))
  else
    jit jF (fun (s : Int32 × Int32 × jM) => b_X12_alike_74 Y v0 v1 v2 v4 v5 s.1 s.2.1 s.2.2) ((0 : Int32), (0 : Int32), μ)
def f_X12_alike (Y : jY) (v0 : Nat) (v1 : Int32) (v2 : Int32) (v3 : Int32) (μ : jM) : Option (Int32 × jM) :=
  (f_X12_isDrawer Y v1 μ).bind fun r1 =>
  if r1.1 = 0 then
    b_X12_alike_23 Y r1.2
  else
    (f_X12_isDrawer Y v2 r1.2).bind fun r2 =>
    if r2.1 = 0 then
      b_X12_alike_23 Y r2.2
    else
      (f_X12_in Y v3 ((0 : Int32)) ((2 : Int32)) r2.2).bind fun r3 =>
      if r3.1 = 0 then
        b_X12_alike_23 Y r3.2
      else
        (jgO Y r3.2 v0 12 26).bind fun x4 =>
        (jaI Y r3.2 x4 20 v1).bind fun x5 =>
        if x5 = 0 then
          b_X12_alike_43 Y r3.2
        else
          (jgO Y r3.2 v0 12 26).bind fun x6 =>
          (jaI Y r3.2 x6 20 v2).bind fun x7 =>
          if x7 = 0 then
            b_X12_alike_43 Y r3.2
          else
            if v3 = ((2 : Int32)) then
              jit jF (fun (s : Int32 × Int32 × jM) => b_X12_alike_57 Y v0 v1 v2 s.1 s.2.1 s.2.2) ((0 : Int32), (0 : Int32), r3.2)
            else
              (jgO Y r3.2 v0 12 26).bind fun x8 =>
              (jaI Y r3.2 x8 20 v1).bind fun x9 =>
              (jgO Y r3.2 v0 12 26).bind fun x10 =>
              (jaI Y r3.2 x10 20 v2).bind fun x11 =>
              if x9 = x11 then
                if v3 = ((1 : Int32)) then
                  (jrcv Y v0 12 (f_X12_isTurned Y v0 v1 v2 r3.2)).bind fun r13 =>
                  if r13.1 = 0 then
                    b_X12_alike_198 Y (0 : Int32) r13.2
                  else
                    b_X12_alike_198 Y (1 : Int32) r13.2
                else
                  (jrcv Y v0 12 (f_X12_laysPoly Y v0 v1 ((0 : Int32)) r3.2)).bind fun μ12 =>
                  jit jF (fun (s : Int32 × jM) => b_X12_alike_211 Y v0 v1 v2 (1 : Int32) s.1 s.2) ((0 : Int32), μ12)
              else
                some ((0 : Int32), r3.2)
set_option maxRecDepth 10000 in
theorem t_X12_alike_23 {X : jX} {l : Launch} {n : Nat} {Y : jY} (K : jOK X RX12 cX12_alike 8 (some .int) 4) (hl : X.2.1 = l) {rr : Int32} {μr : jM} {μ : jM} {z : (Int32 × jM)} (H : b_X12_alike_23 Y μ = some z) (D : z = (rr, μr)) : JW X (jEnd X n Y (some (.int rr)) μr 0 0) 0 0 n Y 23 [] [] μ := by
  unfold b_X12_alike_23 at H
  refine r_iconst (v := -1) K dX12_alike_23 (by decide) ?_
  cases H
  obtain ⟨rfl, rfl⟩ := jfin2 D
  exact r_iret K dX12_alike_24
set_option maxRecDepth 10000 in
theorem t_X12_alike_43 {X : jX} {l : Launch} {n : Nat} {Y : jY} (K : jOK X RX12 cX12_alike 8 (some .int) 4) (hl : X.2.1 = l) {rr : Int32} {μr : jM} {μ : jM} {z : (Int32 × jM)} (H : b_X12_alike_43 Y μ = some z) (D : z = (rr, μr)) : JW X (jEnd X n Y (some (.int rr)) μr 0 0) 0 0 n Y 43 [] [] μ := by
  unfold b_X12_alike_43 at H
  refine r_bipush (v := -2) K dX12_alike_43 (by decide) ?_
  cases H
  obtain ⟨rfl, rfl⟩ := jfin2 D
  exact r_iret K dX12_alike_45
set_option maxRecDepth 10000 in
theorem t_X12_alike_328 {X : jX} {l : Launch} {n : Nat} {Y : jY} (K : jOK X RX12 cX12_alike 8 (some .int) 4) (hl : X.2.1 = l) {rr : Int32} {μr : jM} {t0 : Int32} {μ : jM} {z : (Int32 × jM)} (H : b_X12_alike_328 Y t0 μ = some z) (D : z = (rr, μr)) : JW X (jEnd X n Y (some (.int rr)) μr 0 0) 0 0 n Y 328 [] [.int t0] μ := by
  unfold b_X12_alike_328 at H
  cases H
  obtain ⟨rfl, rfl⟩ := jfin2 D
  exact r_iret K dX12_alike_328
set_option maxRecDepth 10000 in
theorem t_X12_alike_310 {X : jX} {l : Launch} {n : Nat} {Y : jY} (K : jOK X RX12 cX12_alike 8 (some .int) 4) (hl : X.2.1 = l) {rr : Int32} {μr : jM} {v0 : Nat} {v1 : Int32} {v5 : Int32} {t0 : Int32} {μ : jM} {z : ((Int32 × Int32 × jM) ⊕ (Int32 × jM))} (H : b_X12_alike_310 Y v0 v1 v5 t0 μ = some z) (D : Sum.elim (fun (s : Int32 × Int32 × jM) => JW X (jEnd X n Y (some (.int rr)) μr 0 0) 0 0 n Y 261 [(0, .ref v0), (1, .int v1), (4, .int s.1), (5, .int s.2.1)] [] s.2.2) (fun r => r = (rr, μr)) z) : JW X (jEnd X n Y (some (.int rr)) μr 0 0) 0 0 n Y 310 [(0, .ref v0), (1, .int v1), (5, .int v5)] [.int t0] μ := by
  unfold b_X12_alike_310 at H
  refine r_istore K [(4, .int _), (0, .ref _), (1, .int _), (5, .int _)] dX12_alike_310 (by decide) rfl ?_
  refine r_iinc K 3 [(5, .int _), (4, .int _), (0, .ref _), (1, .int _)] (v := _ + (1 : Int32)) dX12_alike_312 rfl rfl (by decide) rfl ?_
  refine r_goto K 261 dX12_alike_315 (by decide) ?_
  cases H
  exact r_sub [2, 3, 1, 0] rfl D
set_option maxRecDepth 10000 in
theorem t_X12_alike_309 {X : jX} {l : Launch} {n : Nat} {Y : jY} (K : jOK X RX12 cX12_alike 8 (some .int) 4) (hl : X.2.1 = l) {rr : Int32} {μr : jM} {v0 : Nat} {v1 : Int32} {v5 : Int32} {μ : jM} {z : ((Int32 × Int32 × jM) ⊕ (Int32 × jM))} (H : b_X12_alike_309 Y v0 v1 v5 μ = some z) (D : Sum.elim (fun (s : Int32 × Int32 × jM) => JW X (jEnd X n Y (some (.int rr)) μr 0 0) 0 0 n Y 261 [(0, .ref v0), (1, .int v1), (4, .int s.1), (5, .int s.2.1)] [] s.2.2) (fun r => r = (rr, μr)) z) : JW X (jEnd X n Y (some (.int rr)) μr 0 0) 0 0 n Y 309 [(0, .ref v0), (1, .int v1), (5, .int v5)] [] μ := by
  unfold b_X12_alike_309 at H
  refine r_iconst (v := 0) K dX12_alike_309 (by decide) ?_
  exact r_sub [0, 1, 2] rfl (t_X12_alike_310 K hl H D)
set_option maxRecDepth 10000 in
theorem t_X12_alike_261 {X : jX} {l : Launch} {n : Nat} {Y : jY} (K : jOK X RX12 cX12_alike 8 (some .int) 4) (hl : X.2.1 = l) {rr : Int32} {μr : jM} {v0 : Nat} {v1 : Int32} {v4 : Int32} {v5 : Int32} {μ : jM} {z : ((Int32 × Int32 × jM) ⊕ (Int32 × jM))} (H : b_X12_alike_261 Y v0 v1 v4 v5 μ = some z) (D : Sum.elim (fun (s : Int32 × Int32 × jM) => JW X (jEnd X n Y (some (.int rr)) μr 0 0) 0 0 n Y 261 [(0, .ref v0), (1, .int v1), (4, .int s.1), (5, .int s.2.1)] [] s.2.2) (fun r => r = (rr, μr)) z) : JW X (jEnd X n Y (some (.int rr)) μr 0 0) 0 0 n Y 261 [(0, .ref v0), (1, .int v1), (4, .int v4), (5, .int v5)] [] μ := by
  unfold b_X12_alike_261 at H
  refine r_iload K 3 dX12_alike_261 rfl ?_
  refine r_aload_n K 0 dX12_alike_263 rfl rfl ?_
  refine w_getO K vc12 inX12 26 (by decide) mF_RX12_48 dX12_alike_264 H (fun x1 H => ?_)
  refine r_iload_n K 1 dX12_alike_267 rfl rfl ?_
  refine w_iald K dX12_alike_268 H (fun x2 H => ?_)
  refine w_icmp_gt K 318 dX12_alike_269 (by decide) H (fun _ H => ?_) (fun _ H => ?_)
  · refine r_iload K 2 dX12_alike_318 rfl ?_
    refine w_if_eq K 327 dX12_alike_320 (by decide) H (fun _ H => ?_) (fun _ H => ?_)
    · refine r_iconst (v := 0) K dX12_alike_327 (by decide) ?_
      obtain ⟨z2, H2, rfl⟩ := jmap H
      exact r_sub [] rfl (t_X12_alike_328 K hl H2 D)
    · refine r_iconst (v := 1) K dX12_alike_323 (by decide) ?_
      refine r_goto K 328 dX12_alike_324 (by decide) ?_
      obtain ⟨z2, H2, rfl⟩ := jmap H
      exact r_sub [] rfl (t_X12_alike_328 K hl H2 D)
  · refine r_iload K 2 dX12_alike_272 rfl ?_
    refine w_if_eq K 309 dX12_alike_274 (by decide) H (fun _ H => ?_) (fun _ H => ?_)
    · exact r_sub [0, 1, 3] rfl (t_X12_alike_309 K hl H D)
    · refine r_aload_n K 0 dX12_alike_277 rfl rfl ?_
      refine w_getO K vc12 inX12 36 (by decide) mF_RX12_78 dX12_alike_278 H (fun x3 H => ?_)
      refine r_iload K 3 dX12_alike_281 rfl ?_
      refine w_lald K dX12_alike_283 H (fun x4 H => ?_)
      refine r_aload_n K 0 dX12_alike_284 rfl rfl ?_
      refine w_getO K vc12 inX12 35 (by decide) mF_RX12_75 dX12_alike_285 H (fun x5 H => ?_)
      refine r_bipush (v := 6) K dX12_alike_288 (by decide) ?_
      refine r_aload_n K 0 dX12_alike_290 rfl rfl ?_
      refine w_getO K vc12 inX12 26 (by decide) mF_RX12_48 dX12_alike_291 H (fun x6 H => ?_)
      refine r_iload_n K 1 dX12_alike_294 rfl rfl ?_
      refine w_iald K dX12_alike_295 H (fun x7 H => ?_)
      refine r_imul K dX12_alike_296 ?_
      refine r_iload K 3 dX12_alike_297 rfl ?_
      refine r_iadd K dX12_alike_299 ?_
      refine w_lald K dX12_alike_300 H (fun x8 H => ?_)
      refine r_lcmp K dX12_alike_301 ?_
      refine w_if_ne K 309 dX12_alike_302 (by decide) H (fun _ H => ?_) (fun _ H => ?_)
      · exact r_sub [0, 1, 3] rfl (t_X12_alike_309 K hl H D)
      · refine r_iconst (v := 1) K dX12_alike_305 (by decide) ?_
        refine r_goto K 310 dX12_alike_306 (by decide) ?_
        exact r_sub [0, 1, 3] rfl (t_X12_alike_310 K hl H D)
set_option maxRecDepth 10000 in
theorem l_X12_alike_261 {X : jX} {l : Launch} {n : Nat} {Y : jY} (K : jOK X RX12 cX12_alike 8 (some .int) 4) (hl : X.2.1 = l) {rr : Int32} {μr : jM} {v0 : Nat} {v1 : Int32}  {s0 : Int32 × Int32 × jM} {z : (Int32 × jM)} (H : jit jF (fun (s : Int32 × Int32 × jM) => b_X12_alike_261 Y v0 v1 s.1 s.2.1 s.2.2) s0 = some z) (D : z = (rr, μr)) : JW X (jEnd X n Y (some (.int rr)) μr 0 0) 0 0 n Y 261 [(0, .ref v0), (1, .int v1), (4, .int s0.1), (5, .int s0.2.1)] [] s0.2.2 :=
  jit_ind (P := fun (s : Int32 × Int32 × jM) => JW X (jEnd X n Y (some (.int rr)) μr 0 0) 0 0 n Y 261 [(0, .ref v0), (1, .int v1), (4, .int s.1), (5, .int s.2.1)] [] s.2.2) (D := fun r => r = (rr, μr)) (fun s z Hs Ds => t_X12_alike_261 K hl Hs Ds) jF s0 z H D
set_option maxRecDepth 10000 in
theorem t_X12_alike_211 {X : jX} {l : Launch} {n : Nat} {Y : jY} (K : jOK X RX12 cX12_alike 8 (some .int) 4) (hl : X.2.1 = l) {rr : Int32} {μr : jM} {v0 : Nat} {v1 : Int32} {v2 : Int32} {v4 : Int32} {v5 : Int32} {μ : jM} {z : ((Int32 × jM) ⊕ (Int32 × jM))} (H : b_X12_alike_211 Y v0 v1 v2 v4 v5 μ = some z) (D : Sum.elim (fun (s : Int32 × jM) => JW X (jEnd X n Y (some (.int rr)) μr 0 0) 0 0 n Y 211 [(0, .ref v0), (1, .int v1), (2, .int v2), (4, .int v4), (5, .int s.1)] [] s.2) (fun r => r = (rr, μr)) z) : JW X (jEnd X n Y (some (.int rr)) μr 0 0) 0 0 n Y 211 [(0, .ref v0), (1, .int v1), (2, .int v2), (4, .int v4), (5, .int v5)] [] μ := by
  unfold b_X12_alike_211 at H
  refine r_iload K 4 dX12_alike_211 rfl ?_
  refine r_aload_n K 0 dX12_alike_213 rfl rfl ?_
  refine w_getO K vc12 inX12 26 (by decide) mF_RX12_48 dX12_alike_214 H (fun x1 H => ?_)
  refine r_iload_n K 1 dX12_alike_217 rfl rfl ?_
  refine w_iald K dX12_alike_218 H (fun x2 H => ?_)
  refine w_icmp_gt K 252 dX12_alike_219 (by decide) H (fun _ H => ?_) (fun _ H => ?_)
  · refine r_aload_n K 0 dX12_alike_252 rfl rfl ?_
    refine r_iload_n K 2 dX12_alike_253 rfl rfl ?_
    refine r_iconst (v := 0) K dX12_alike_254 (by decide) ?_
    refine w_callV K hl H (fun r h => c_X12_laysPoly l h) mC_yX12_laysPoly mM_RX12_275 mI_yX12_laysPoly mS_yX12_laysPoly mZ_RX12 vc12 (Nat.le_of_ble_eq_true rfl) (Nat.le_of_ble_eq_true rfl) np_yX12_laysPoly rfl (Nat.le_of_ble_eq_true rfl) dX12_alike_255 (fun μ3 H => ?_) ⟨Nat.zero_le _, Nat.zero_le _⟩
    refine r_iconst (v := 0) K dX12_alike_258 (by decide) ?_
    refine r_istore K [(5, .int _), (0, .ref _), (1, .int _), (2, .int _), (4, .int _)] dX12_alike_259 (by decide) rfl ?_
    obtain ⟨z2, H2, rfl⟩ := jmap H
    exact r_sub [1, 2, 4, 0] rfl (l_X12_alike_261 K hl H2 D)
  · refine r_aload_n K 0 dX12_alike_222 rfl rfl ?_
    refine w_getO K vc12 inX12 36 (by decide) mF_RX12_78 dX12_alike_223 H (fun x4 H => ?_)
    refine r_iload K 4 dX12_alike_226 rfl ?_
    refine r_aload_n K 0 dX12_alike_228 rfl rfl ?_
    refine w_getO K vc12 inX12 35 (by decide) mF_RX12_75 dX12_alike_229 H (fun x5 H => ?_)
    refine r_bipush (v := 6) K dX12_alike_232 (by decide) ?_
    refine r_aload_n K 0 dX12_alike_234 rfl rfl ?_
    refine w_getO K vc12 inX12 26 (by decide) mF_RX12_48 dX12_alike_235 H (fun x6 H => ?_)
    refine r_iload_n K 1 dX12_alike_238 rfl rfl ?_
    refine w_iald K dX12_alike_239 H (fun x7 H => ?_)
    refine r_imul K dX12_alike_240 ?_
    refine r_iload K 4 dX12_alike_241 rfl ?_
    refine r_iadd K dX12_alike_243 ?_
    refine w_lald K dX12_alike_244 H (fun x8 H => ?_)
    refine w_last K dX12_alike_245 H (fun μ9 H => ?_)
    refine r_iinc K 4 [(5, .int _), (0, .ref _), (1, .int _), (2, .int _), (4, .int _)] (v := _ + (1 : Int32)) dX12_alike_246 rfl rfl (by decide) rfl ?_
    refine r_goto K 211 dX12_alike_249 (by decide) ?_
    cases H
    exact r_sub [1, 2, 3, 4, 0] rfl D
set_option maxRecDepth 10000 in
theorem l_X12_alike_211 {X : jX} {l : Launch} {n : Nat} {Y : jY} (K : jOK X RX12 cX12_alike 8 (some .int) 4) (hl : X.2.1 = l) {rr : Int32} {μr : jM} {v0 : Nat} {v1 : Int32} {v2 : Int32} {v4 : Int32}  {s0 : Int32 × jM} {z : (Int32 × jM)} (H : jit jF (fun (s : Int32 × jM) => b_X12_alike_211 Y v0 v1 v2 v4 s.1 s.2) s0 = some z) (D : z = (rr, μr)) : JW X (jEnd X n Y (some (.int rr)) μr 0 0) 0 0 n Y 211 [(0, .ref v0), (1, .int v1), (2, .int v2), (4, .int v4), (5, .int s0.1)] [] s0.2 :=
  jit_ind (P := fun (s : Int32 × jM) => JW X (jEnd X n Y (some (.int rr)) μr 0 0) 0 0 n Y 211 [(0, .ref v0), (1, .int v1), (2, .int v2), (4, .int v4), (5, .int s.1)] [] s.2) (D := fun r => r = (rr, μr)) (fun s z Hs Ds => t_X12_alike_211 K hl Hs Ds) jF s0 z H D
set_option maxRecDepth 10000 in
theorem t_X12_alike_198 {X : jX} {l : Launch} {n : Nat} {Y : jY} (K : jOK X RX12 cX12_alike 8 (some .int) 4) (hl : X.2.1 = l) {rr : Int32} {μr : jM} {t0 : Int32} {μ : jM} {z : (Int32 × jM)} (H : b_X12_alike_198 Y t0 μ = some z) (D : z = (rr, μr)) : JW X (jEnd X n Y (some (.int rr)) μr 0 0) 0 0 n Y 198 [] [.int t0] μ := by
  unfold b_X12_alike_198 at H
  cases H
  obtain ⟨rfl, rfl⟩ := jfin2 D
  exact r_iret K dX12_alike_198
set_option maxRecDepth 10000 in
theorem t_X12_alike_150 {X : jX} {l : Launch} {n : Nat} {Y : jY} (K : jOK X RX12 cX12_alike 8 (some .int) 4) (hl : X.2.1 = l) {rr : Int32} {μr : jM} {v0 : Nat} {v1 : Int32} {v2 : Int32} {v5 : Int32} {t0 : Int32} {t1 : Int32} {μ : jM} {z : ((Int32 × Int32 × jM) ⊕ (Int32 × jM))} (H : b_X12_alike_150 Y v0 v1 v2 v5 t0 t1 μ = some z) (D : Sum.elim (fun (s : Int32 × Int32 × jM) => JW X (jEnd X n Y (some (.int rr)) μr 0 0) 0 0 n Y 57 [(0, .ref v0), (1, .int v1), (2, .int v2), (4, .int s.1), (5, .int s.2.1)] [] s.2.2) (fun r => r = (rr, μr)) z) : JW X (jEnd X n Y (some (.int rr)) μr 0 0) 0 0 n Y 150 [(0, .ref v0), (1, .int v1), (2, .int v2), (5, .int v5)] [.int t1, .int t0] μ := by
  unfold b_X12_alike_150 at H
  refine r_iadd K dX12_alike_150 ?_
  refine r_istore K [(4, .int _), (0, .ref _), (1, .int _), (2, .int _), (5, .int _)] dX12_alike_151 (by decide) rfl ?_
  refine r_iinc K 4 [(5, .int _), (4, .int _), (0, .ref _), (1, .int _), (2, .int _)] (v := _ + (1 : Int32)) dX12_alike_153 rfl rfl (by decide) rfl ?_
  refine r_goto K 57 dX12_alike_156 (by decide) ?_
  cases H
  exact r_sub [2, 3, 4, 1, 0] rfl D
set_option maxRecDepth 10000 in
theorem t_X12_alike_130 {X : jX} {l : Launch} {n : Nat} {Y : jY} (K : jOK X RX12 cX12_alike 8 (some .int) 4) (hl : X.2.1 = l) {rr : Int32} {μr : jM} {v0 : Nat} {v1 : Int32} {v2 : Int32} {v4 : Int32} {v5 : Int32} {v7 : Int32} {t0 : Int32} {μ : jM} {z : ((Int32 × Int32 × jM) ⊕ ((Int32 × Int32 × jM) ⊕ (Int32 × jM)))} (H : b_X12_alike_130 Y v0 v1 v2 v4 v5 v7 t0 μ = some z) (D : Sum.elim (fun (s : Int32 × Int32 × jM) => JW X (jEnd X n Y (some (.int rr)) μr 0 0) 0 0 n Y 74 [(0, .ref v0), (1, .int v1), (2, .int v2), (4, .int v4), (5, .int v5), (6, .int s.1), (7, .int s.2.1)] [] s.2.2) (Sum.elim (fun (s : Int32 × Int32 × jM) => JW X (jEnd X n Y (some (.int rr)) μr 0 0) 0 0 n Y 57 [(0, .ref v0), (1, .int v1), (2, .int v2), (4, .int s.1), (5, .int s.2.1)] [] s.2.2) (fun r => r = (rr, μr))) z) : JW X (jEnd X n Y (some (.int rr)) μr 0 0) 0 0 n Y 130 [(0, .ref v0), (1, .int v1), (2, .int v2), (4, .int v4), (5, .int v5), (7, .int v7)] [.int t0] μ := by
  unfold b_X12_alike_130 at H
  refine r_istore K [(6, .int _), (0, .ref _), (1, .int _), (2, .int _), (4, .int _), (5, .int _), (7, .int _)] dX12_alike_130 (by decide) rfl ?_
  refine r_iinc K 6 [(7, .int _), (6, .int _), (0, .ref _), (1, .int _), (2, .int _), (4, .int _), (5, .int _)] (v := _ + (1 : Int32)) dX12_alike_132 rfl rfl (by decide) rfl ?_
  refine r_goto K 74 dX12_alike_135 (by decide) ?_
  cases H
  exact r_sub [2, 3, 4, 5, 6, 1, 0] rfl D
set_option maxRecDepth 10000 in
theorem t_X12_alike_125 {X : jX} {l : Launch} {n : Nat} {Y : jY} (K : jOK X RX12 cX12_alike 8 (some .int) 4) (hl : X.2.1 = l) {rr : Int32} {μr : jM} {v0 : Nat} {v1 : Int32} {v2 : Int32} {v4 : Int32} {v5 : Int32} {v7 : Int32} {μ : jM} {z : ((Int32 × Int32 × jM) ⊕ ((Int32 × Int32 × jM) ⊕ (Int32 × jM)))} (H : b_X12_alike_125 Y v0 v1 v2 v4 v5 v7 μ = some z) (D : Sum.elim (fun (s : Int32 × Int32 × jM) => JW X (jEnd X n Y (some (.int rr)) μr 0 0) 0 0 n Y 74 [(0, .ref v0), (1, .int v1), (2, .int v2), (4, .int v4), (5, .int v5), (6, .int s.1), (7, .int s.2.1)] [] s.2.2) (Sum.elim (fun (s : Int32 × Int32 × jM) => JW X (jEnd X n Y (some (.int rr)) μr 0 0) 0 0 n Y 57 [(0, .ref v0), (1, .int v1), (2, .int v2), (4, .int s.1), (5, .int s.2.1)] [] s.2.2) (fun r => r = (rr, μr))) z) : JW X (jEnd X n Y (some (.int rr)) μr 0 0) 0 0 n Y 125 [(0, .ref v0), (1, .int v1), (2, .int v2), (4, .int v4), (5, .int v5), (7, .int v7)] [] μ := by
  unfold b_X12_alike_125 at H
  refine r_iconst (v := 1) K dX12_alike_125 (by decide) ?_
  refine r_goto K 130 dX12_alike_126 (by decide) ?_
  exact r_sub [0, 1, 2, 3, 4, 5] rfl (t_X12_alike_130 K hl H D)
set_option maxRecDepth 10000 in
theorem t_X12_alike_74 {X : jX} {l : Launch} {n : Nat} {Y : jY} (K : jOK X RX12 cX12_alike 8 (some .int) 4) (hl : X.2.1 = l) {rr : Int32} {μr : jM} {v0 : Nat} {v1 : Int32} {v2 : Int32} {v4 : Int32} {v5 : Int32} {v6 : Int32} {v7 : Int32} {μ : jM} {z : ((Int32 × Int32 × jM) ⊕ ((Int32 × Int32 × jM) ⊕ (Int32 × jM)))} (H : b_X12_alike_74 Y v0 v1 v2 v4 v5 v6 v7 μ = some z) (D : Sum.elim (fun (s : Int32 × Int32 × jM) => JW X (jEnd X n Y (some (.int rr)) μr 0 0) 0 0 n Y 74 [(0, .ref v0), (1, .int v1), (2, .int v2), (4, .int v4), (5, .int v5), (6, .int s.1), (7, .int s.2.1)] [] s.2.2) (Sum.elim (fun (s : Int32 × Int32 × jM) => JW X (jEnd X n Y (some (.int rr)) μr 0 0) 0 0 n Y 57 [(0, .ref v0), (1, .int v1), (2, .int v2), (4, .int s.1), (5, .int s.2.1)] [] s.2.2) (fun r => r = (rr, μr))) z) : JW X (jEnd X n Y (some (.int rr)) μr 0 0) 0 0 n Y 74 [(0, .ref v0), (1, .int v1), (2, .int v2), (4, .int v4), (5, .int v5), (6, .int v6), (7, .int v7)] [] μ := by
  unfold b_X12_alike_74 at H
  refine r_iload K 6 dX12_alike_74 rfl ?_
  refine r_aload_n K 0 dX12_alike_76 rfl rfl ?_
  refine w_getO K vc12 inX12 26 (by decide) mF_RX12_48 dX12_alike_77 H (fun x1 H => ?_)
  refine r_iload_n K 2 dX12_alike_80 rfl rfl ?_
  refine w_iald K dX12_alike_81 H (fun x2 H => ?_)
  refine w_icmp_ge K 138 dX12_alike_82 (by decide) H (fun _ H => ?_) (fun _ H => ?_)
  · refine r_iload K 3 dX12_alike_138 rfl ?_
    refine r_iload K 5 dX12_alike_140 rfl ?_
    refine w_if_eq K 149 dX12_alike_142 (by decide) H (fun _ H => ?_) (fun _ H => ?_)
    · refine r_iconst (v := 0) K dX12_alike_149 (by decide) ?_
      obtain ⟨z2, H2, rfl⟩ := jmap H
      exact r_sub [0, 1, 2, 4] rfl (t_X12_alike_150 K hl H2 D)
    · refine r_iconst (v := 1) K dX12_alike_145 (by decide) ?_
      refine r_goto K 150 dX12_alike_146 (by decide) ?_
      obtain ⟨z2, H2, rfl⟩ := jmap H
      exact r_sub [0, 1, 2, 4] rfl (t_X12_alike_150 K hl H2 D)
  · refine r_iload K 5 dX12_alike_85 rfl ?_
    refine w_if_ne K 125 dX12_alike_87 (by decide) H (fun _ H => ?_) (fun _ H => ?_)
    · exact r_sub [0, 1, 2, 3, 4, 6] rfl (t_X12_alike_125 K hl H D)
    · refine r_aload_n K 0 dX12_alike_90 rfl rfl ?_
      refine r_iload_n K 1 dX12_alike_91 rfl rfl ?_
      refine r_iconst (v := 0) K dX12_alike_92 (by decide) ?_
      refine r_aload_n K 0 dX12_alike_93 rfl rfl ?_
      refine w_getO K vc12 inX12 26 (by decide) mF_RX12_48 dX12_alike_94 H (fun x3 H => ?_)
      refine r_iload_n K 1 dX12_alike_97 rfl rfl ?_
      refine w_iald K dX12_alike_98 H (fun x4 H => ?_)
      refine r_iload K 4 dX12_alike_99 rfl ?_
      refine r_bipush (v := 50) K dX12_alike_101 (by decide) ?_
      refine w_callV K hl H (fun r h => c_X12_rootOf l h) mC_yX12_rootOf mM_RX12_289 mI_yX12_rootOf mS_yX12_rootOf mZ_RX12 vc12 (Nat.le_of_ble_eq_true rfl) (Nat.le_of_ble_eq_true rfl) np_yX12_rootOf rfl (Nat.le_of_ble_eq_true rfl) dX12_alike_103 (fun r5 H => ?_) ⟨Nat.zero_le _, Nat.zero_le _⟩
      refine r_aload_n K 0 dX12_alike_106 rfl rfl ?_
      refine r_iload_n K 2 dX12_alike_107 rfl rfl ?_
      refine r_iconst (v := 0) K dX12_alike_108 (by decide) ?_
      refine r_aload_n K 0 dX12_alike_109 rfl rfl ?_
      refine w_getO K vc12 inX12 26 (by decide) mF_RX12_48 dX12_alike_110 H (fun x6 H => ?_)
      refine r_iload_n K 2 dX12_alike_113 rfl rfl ?_
      refine w_iald K dX12_alike_114 H (fun x7 H => ?_)
      refine r_iload K 6 dX12_alike_115 rfl ?_
      refine r_bipush (v := 50) K dX12_alike_117 (by decide) ?_
      refine w_callV K hl H (fun r h => c_X12_rootOf l h) mC_yX12_rootOf mM_RX12_289 mI_yX12_rootOf mS_yX12_rootOf mZ_RX12 vc12 (Nat.le_of_ble_eq_true rfl) (Nat.le_of_ble_eq_true rfl) np_yX12_rootOf rfl (Nat.le_of_ble_eq_true rfl) dX12_alike_119 (fun r8 H => ?_) ⟨Nat.zero_le _, Nat.zero_le _⟩
      refine w_icmp_ne K 129 dX12_alike_122 (by decide) H (fun _ H => ?_) (fun _ H => ?_)
      · refine r_iconst (v := 0) K dX12_alike_129 (by decide) ?_
        exact r_sub [0, 1, 2, 3, 4, 6] rfl (t_X12_alike_130 K hl H D)
      · exact r_sub [0, 1, 2, 3, 4, 6] rfl (t_X12_alike_125 K hl H D)
set_option maxRecDepth 10000 in
theorem l_X12_alike_74 {X : jX} {l : Launch} {n : Nat} {Y : jY} (K : jOK X RX12 cX12_alike 8 (some .int) 4) (hl : X.2.1 = l) {rr : Int32} {μr : jM} {v0 : Nat} {v1 : Int32} {v2 : Int32} {v4 : Int32} {v5 : Int32}  {s0 : Int32 × Int32 × jM} {z : ((Int32 × Int32 × jM) ⊕ (Int32 × jM))} (H : jit jF (fun (s : Int32 × Int32 × jM) => b_X12_alike_74 Y v0 v1 v2 v4 v5 s.1 s.2.1 s.2.2) s0 = some z) (D : Sum.elim (fun (s : Int32 × Int32 × jM) => JW X (jEnd X n Y (some (.int rr)) μr 0 0) 0 0 n Y 57 [(0, .ref v0), (1, .int v1), (2, .int v2), (4, .int s.1), (5, .int s.2.1)] [] s.2.2) (fun r => r = (rr, μr)) z) : JW X (jEnd X n Y (some (.int rr)) μr 0 0) 0 0 n Y 74 [(0, .ref v0), (1, .int v1), (2, .int v2), (4, .int v4), (5, .int v5), (6, .int s0.1), (7, .int s0.2.1)] [] s0.2.2 :=
  jit_ind (P := fun (s : Int32 × Int32 × jM) => JW X (jEnd X n Y (some (.int rr)) μr 0 0) 0 0 n Y 74 [(0, .ref v0), (1, .int v1), (2, .int v2), (4, .int v4), (5, .int v5), (6, .int s.1), (7, .int s.2.1)] [] s.2.2) (D := Sum.elim (fun (s : Int32 × Int32 × jM) => JW X (jEnd X n Y (some (.int rr)) μr 0 0) 0 0 n Y 57 [(0, .ref v0), (1, .int v1), (2, .int v2), (4, .int s.1), (5, .int s.2.1)] [] s.2.2) (fun r => r = (rr, μr))) (fun s z Hs Ds => t_X12_alike_74 K hl Hs Ds) jF s0 z H D
set_option maxRecDepth 10000 in
theorem t_X12_alike_57 {X : jX} {l : Launch} {n : Nat} {Y : jY} (K : jOK X RX12 cX12_alike 8 (some .int) 4) (hl : X.2.1 = l) {rr : Int32} {μr : jM} {v0 : Nat} {v1 : Int32} {v2 : Int32} {v4 : Int32} {v5 : Int32} {μ : jM} {z : ((Int32 × Int32 × jM) ⊕ (Int32 × jM))} (H : b_X12_alike_57 Y v0 v1 v2 v4 v5 μ = some z) (D : Sum.elim (fun (s : Int32 × Int32 × jM) => JW X (jEnd X n Y (some (.int rr)) μr 0 0) 0 0 n Y 57 [(0, .ref v0), (1, .int v1), (2, .int v2), (4, .int s.1), (5, .int s.2.1)] [] s.2.2) (fun r => r = (rr, μr)) z) : JW X (jEnd X n Y (some (.int rr)) μr 0 0) 0 0 n Y 57 [(0, .ref v0), (1, .int v1), (2, .int v2), (4, .int v4), (5, .int v5)] [] μ := by
  unfold b_X12_alike_57 at H
  refine r_iload K 4 dX12_alike_57 rfl ?_
  refine r_aload_n K 0 dX12_alike_59 rfl rfl ?_
  refine w_getO K vc12 inX12 26 (by decide) mF_RX12_48 dX12_alike_60 H (fun x1 H => ?_)
  refine r_iload_n K 1 dX12_alike_63 rfl rfl ?_
  refine w_iald K dX12_alike_64 H (fun x2 H => ?_)
  refine w_icmp_ge K 159 dX12_alike_65 (by decide) H (fun _ H => ?_) (fun _ H => ?_)
  · refine r_iload K 3 dX12_alike_159 rfl ?_
    cases H
    simp only [Sum.elim_inr] at D
    obtain ⟨rfl, rfl⟩ := jfin2 D
    exact r_iret K dX12_alike_161
  · refine r_iconst (v := 0) K dX12_alike_68 (by decide) ?_
    refine r_istore K [(6, .int _), (0, .ref _), (1, .int _), (2, .int _), (4, .int _), (5, .int _)] dX12_alike_69 (by decide) rfl ?_
    refine r_iconst (v := 0) K dX12_alike_71 (by decide) ?_
    refine r_istore K [(7, .int _), (6, .int _), (0, .ref _), (1, .int _), (2, .int _), (4, .int _), (5, .int _)] dX12_alike_72 (by decide) rfl ?_
    exact r_sub [2, 3, 4, 5, 6, 1, 0] rfl (l_X12_alike_74 K hl H D)
set_option maxRecDepth 10000 in
theorem l_X12_alike_57 {X : jX} {l : Launch} {n : Nat} {Y : jY} (K : jOK X RX12 cX12_alike 8 (some .int) 4) (hl : X.2.1 = l) {rr : Int32} {μr : jM} {v0 : Nat} {v1 : Int32} {v2 : Int32}  {s0 : Int32 × Int32 × jM} {z : (Int32 × jM)} (H : jit jF (fun (s : Int32 × Int32 × jM) => b_X12_alike_57 Y v0 v1 v2 s.1 s.2.1 s.2.2) s0 = some z) (D : z = (rr, μr)) : JW X (jEnd X n Y (some (.int rr)) μr 0 0) 0 0 n Y 57 [(0, .ref v0), (1, .int v1), (2, .int v2), (4, .int s0.1), (5, .int s0.2.1)] [] s0.2.2 :=
  jit_ind (P := fun (s : Int32 × Int32 × jM) => JW X (jEnd X n Y (some (.int rr)) μr 0 0) 0 0 n Y 57 [(0, .ref v0), (1, .int v1), (2, .int v2), (4, .int s.1), (5, .int s.2.1)] [] s.2.2) (D := fun r => r = (rr, μr)) (fun s z Hs Ds => t_X12_alike_57 K hl Hs Ds) jF s0 z H D
set_option maxRecDepth 10000 in
theorem t_X12_alike_0 {X : jX} {l : Launch} {n : Nat} {Y : jY} (K : jOK X RX12 cX12_alike 8 (some .int) 4) (hl : X.2.1 = l) {rr : Int32} {μr : jM} {v0 : Nat} {v1 : Int32} {v2 : Int32} {v3 : Int32} {μ : jM} {z : (Int32 × jM)} (H : f_X12_alike Y v0 v1 v2 v3 μ = some z) (D : z = (rr, μr)) : JW X (jEnd X n Y (some (.int rr)) μr 0 0) 0 0 n Y 0 [(0, .ref v0), (1, .int v1), (2, .int v2), (3, .int v3)] [] μ := by
  unfold f_X12_alike at H
  refine r_iload_n K 1 dX12_alike_0 rfl rfl ?_
  refine w_callS K hl H (fun r h => c_X12_isDrawer l h) mC_yX12_isDrawer mM_RX12_253 mT_yX12_isDrawer mZ_RX12 (Nat.le_of_ble_eq_true rfl) (Nat.le_of_ble_eq_true rfl) np_yX12_isDrawer rfl (Nat.le_of_ble_eq_true rfl) dX12_alike_1 (fun r1 H => ?_) ⟨Nat.zero_le _, Nat.zero_le _⟩
  refine w_if_eq K 23 dX12_alike_4 (by decide) H (fun _ H => ?_) (fun _ H => ?_)
  · exact r_sub [] rfl (t_X12_alike_23 K hl H D)
  · refine r_iload_n K 2 dX12_alike_7 rfl rfl ?_
    refine w_callS K hl H (fun r h => c_X12_isDrawer l h) mC_yX12_isDrawer mM_RX12_253 mT_yX12_isDrawer mZ_RX12 (Nat.le_of_ble_eq_true rfl) (Nat.le_of_ble_eq_true rfl) np_yX12_isDrawer rfl (Nat.le_of_ble_eq_true rfl) dX12_alike_8 (fun r2 H => ?_) ⟨Nat.zero_le _, Nat.zero_le _⟩
    refine w_if_eq K 23 dX12_alike_11 (by decide) H (fun _ H => ?_) (fun _ H => ?_)
    · exact r_sub [] rfl (t_X12_alike_23 K hl H D)
    · refine r_iload_n K 3 dX12_alike_14 rfl rfl ?_
      refine r_iconst (v := 0) K dX12_alike_15 (by decide) ?_
      refine r_iconst (v := 2) K dX12_alike_16 (by decide) ?_
      refine w_callS K hl H (fun r h => c_X12_in l h) mC_yX12_in mM_RX12_134 mT_yX12_in mZ_RX12 (Nat.le_of_ble_eq_true rfl) (Nat.le_of_ble_eq_true rfl) np_yX12_in rfl (Nat.le_of_ble_eq_true rfl) dX12_alike_17 (fun r3 H => ?_) ⟨Nat.zero_le _, Nat.zero_le _⟩
      refine w_if_ne K 25 dX12_alike_20 (by decide) H (fun _ H => ?_) (fun _ H => ?_)
      · refine r_aload_n K 0 dX12_alike_25 rfl rfl ?_
        refine w_getO K vc12 inX12 26 (by decide) mF_RX12_48 dX12_alike_26 H (fun x4 H => ?_)
        refine r_iload_n K 1 dX12_alike_29 rfl rfl ?_
        refine w_iald K dX12_alike_30 H (fun x5 H => ?_)
        refine w_if_eq K 43 dX12_alike_31 (by decide) H (fun _ H => ?_) (fun _ H => ?_)
        · exact r_sub [] rfl (t_X12_alike_43 K hl H D)
        · refine r_aload_n K 0 dX12_alike_34 rfl rfl ?_
          refine w_getO K vc12 inX12 26 (by decide) mF_RX12_48 dX12_alike_35 H (fun x6 H => ?_)
          refine r_iload_n K 2 dX12_alike_38 rfl rfl ?_
          refine w_iald K dX12_alike_39 H (fun x7 H => ?_)
          refine w_if_ne K 46 dX12_alike_40 (by decide) H (fun _ H => ?_) (fun _ H => ?_)
          · refine r_iload_n K 3 dX12_alike_46 rfl rfl ?_
            refine r_iconst (v := 2) K dX12_alike_47 (by decide) ?_
            refine w_icmp_ne K 162 dX12_alike_48 (by decide) H (fun _ H => ?_) (fun _ H => ?_)
            · refine r_aload_n K 0 dX12_alike_162 rfl rfl ?_
              refine w_getO K vc12 inX12 26 (by decide) mF_RX12_48 dX12_alike_163 H (fun x8 H => ?_)
              refine r_iload_n K 1 dX12_alike_166 rfl rfl ?_
              refine w_iald K dX12_alike_167 H (fun x9 H => ?_)
              refine r_aload_n K 0 dX12_alike_168 rfl rfl ?_
              refine w_getO K vc12 inX12 26 (by decide) mF_RX12_48 dX12_alike_169 H (fun x10 H => ?_)
              refine r_iload_n K 2 dX12_alike_172 rfl rfl ?_
              refine w_iald K dX12_alike_173 H (fun x11 H => ?_)
              refine w_icmp_eq K 179 dX12_alike_174 (by decide) H (fun _ H => ?_) (fun _ H => ?_)
              · refine r_iload_n K 3 dX12_alike_179 rfl rfl ?_
                refine r_iconst (v := 1) K dX12_alike_180 (by decide) ?_
                refine w_icmp_ne K 199 dX12_alike_181 (by decide) H (fun _ H => ?_) (fun _ H => ?_)
                · refine r_iconst (v := 1) K dX12_alike_199 (by decide) ?_
                  refine r_istore K [(4, .int _), (0, .ref _), (1, .int _), (2, .int _), (3, .int _)] dX12_alike_200 (by decide) rfl ?_
                  refine r_aload_n K 1 dX12_alike_202 rfl rfl ?_
                  refine r_iload_n K 2 dX12_alike_203 rfl rfl ?_
                  refine r_iconst (v := 0) K dX12_alike_204 (by decide) ?_
                  refine w_callV K hl H (fun r h => c_X12_laysPoly l h) mC_yX12_laysPoly mM_RX12_275 mI_yX12_laysPoly mS_yX12_laysPoly mZ_RX12 vc12 (Nat.le_of_ble_eq_true rfl) (Nat.le_of_ble_eq_true rfl) np_yX12_laysPoly rfl (Nat.le_of_ble_eq_true rfl) dX12_alike_205 (fun μ12 H => ?_) ⟨Nat.zero_le _, Nat.zero_le _⟩
                  refine r_iconst (v := 0) K dX12_alike_208 (by decide) ?_
                  refine r_istore K [(5, .int _), (4, .int _), (0, .ref _), (1, .int _), (2, .int _), (3, .int _)] dX12_alike_209 (by decide) rfl ?_
                  exact r_sub [2, 3, 4, 1, 0] rfl (l_X12_alike_211 K hl H D)
                · refine r_aload_n K 0 dX12_alike_184 rfl rfl ?_
                  refine r_iload_n K 1 dX12_alike_185 rfl rfl ?_
                  refine r_iload_n K 2 dX12_alike_186 rfl rfl ?_
                  refine w_callV K hl H (fun r h => c_X12_isTurned l h) mC_yX12_isTurned mM_RX12_296 mI_yX12_isTurned mS_yX12_isTurned mZ_RX12 vc12 (Nat.le_of_ble_eq_true rfl) (Nat.le_of_ble_eq_true rfl) np_yX12_isTurned rfl (Nat.le_of_ble_eq_true rfl) dX12_alike_187 (fun r13 H => ?_) ⟨Nat.zero_le _, Nat.zero_le _⟩
                  refine w_if_eq K 197 dX12_alike_190 (by decide) H (fun _ H => ?_) (fun _ H => ?_)
                  · refine r_iconst (v := 0) K dX12_alike_197 (by decide) ?_
                    exact r_sub [] rfl (t_X12_alike_198 K hl H D)
                  · refine r_iconst (v := 1) K dX12_alike_193 (by decide) ?_
                    refine r_goto K 198 dX12_alike_194 (by decide) ?_
                    exact r_sub [] rfl (t_X12_alike_198 K hl H D)
              · refine r_iconst (v := 0) K dX12_alike_177 (by decide) ?_
                cases H
                obtain ⟨rfl, rfl⟩ := jfin2 D
                exact r_iret K dX12_alike_178
            · refine r_iconst (v := 0) K dX12_alike_51 (by decide) ?_
              refine r_istore K [(4, .int _), (0, .ref _), (1, .int _), (2, .int _), (3, .int _)] dX12_alike_52 (by decide) rfl ?_
              refine r_iconst (v := 0) K dX12_alike_54 (by decide) ?_
              refine r_istore K [(5, .int _), (4, .int _), (0, .ref _), (1, .int _), (2, .int _), (3, .int _)] dX12_alike_55 (by decide) rfl ?_
              exact r_sub [2, 3, 4, 1, 0] rfl (l_X12_alike_57 K hl H D)
          · exact r_sub [] rfl (t_X12_alike_43 K hl H D)
      · exact r_sub [] rfl (t_X12_alike_23 K hl H D)
theorem c_X12_alike (l : Launch) {n : Nat} {Y : jY} {v0 : Nat} {v1 : Int32} {v2 : Int32} {v3 : Int32} {μ : jM} {z : Int32 × jM} (H : f_X12_alike Y v0 v1 v2 v3 μ = some z) : jC l yX12_alike cX12_alike 8 (some .int) 4 0 0 [.ref v0, .int v1, .int v2, .int v3] n Y μ n Y (some (.int z.1)) z.2 := by
  refine jC_of (by decide +kernel) (Nat.le_of_ble_eq_true rfl) (fun X hl K _ _ _ => ?_)
  obtain ⟨rr, μr⟩ := z
  exact t_X12_alike_0 K hl H rfl
/-! RX12 laterOf(IJ)J -/
def b_X12_laterOf_55 (Y : jY) (v0 : Nat) (v1 : Int32) (v2 : Int64) (v4 : Int64) (v6 : Int32) (v9 : Int32) (t0 : Int64) (t1 : Int64) (μ : jM) : Option ((Int64 × Int32 × jM) ⊕ ((Int64 × Int32 × jM) ⊕ (Int64 × jM))) :=
  (jgO Y μ v0 12 15).bind fun x1 =>
  (jaL Y μ x1 21 ((((v9 - ((1 : Int32)))) - v6))).bind fun x2 =>
  some (.inl ((t0 + ((t1 * x2))), (v9 + (1 : Int32)), μ))
def b_X12_laterOf_22 (Y : jY) (v0 : Nat) (v1 : Int32) (v2 : Int64) (v4 : Int64) (v6 : Int32) (v7 : Int64) (v9 : Int32) (μ : jM) : Option ((Int64 × Int32 × jM) ⊕ ((Int64 × Int32 × jM) ⊕ (Int64 × jM))) :=
  if v1 < v9 then
    some (.inr (.inl ((((v4 * v2)) + v7), (v6 + (-1 : Int32)), μ)))
  else
    (jgI Y μ v0 12 10).bind fun x1 =>
    if v1 = x1 then
      (jgO Y μ v0 12 13).bind fun x3 =>
      (jaL Y μ x3 21 v9).bind fun x4 =>
      b_X12_laterOf_55 Y v0 v1 v2 v4 v6 v9 v7 x4 μ
    else
      (jrcv Y v0 12 (f_X12_power Y v0 v1 v9 μ)).bind fun r2 =>
      b_X12_laterOf_55 Y v0 v1 v2 v4 v6 v9 v7 r2.1 r2.2
def b_X12_laterOf_8 (Y : jY) (v0 : Nat) (v1 : Int32) (v2 : Int64) (v4 : Int64) (v6 : Int32) (μ : jM) : Option ((Int64 × Int32 × jM) ⊕ (Int64 × jM)) :=
  if v6 < 0 then
    some (.inr (v4, μ))
  else
    jit jF (fun (s : Int64 × Int32 × jM) => b_X12_laterOf_22 Y v0 v1 v2 v4 v6 s.1 s.2.1 s.2.2) ((0 : Int64), (v6 + ((1 : Int32))), μ)
def f_X12_laterOf (Y : jY) (v0 : Nat) (v1 : Int32) (v2 : Int64) (μ : jM) : Option (Int64 × jM) :=
  jit jF (fun (s : Int64 × Int32 × jM) => b_X12_laterOf_8 Y v0 v1 v2 s.1 s.2.1 s.2.2) ((0 : Int64), (v1 - ((1 : Int32))), μ)
set_option maxRecDepth 10000 in
theorem t_X12_laterOf_55 {X : jX} {l : Launch} {n : Nat} {Y : jY} (K : jOK X RX12 cX12_laterOf 10 (some .long) 6) (hl : X.2.1 = l) {rr : Int64} {μr : jM} {v0 : Nat} {v1 : Int32} {v2 : Int64} {v4 : Int64} {v6 : Int32} {v9 : Int32} {t0 : Int64} {t1 : Int64} {μ : jM} {z : ((Int64 × Int32 × jM) ⊕ ((Int64 × Int32 × jM) ⊕ (Int64 × jM)))} (H : b_X12_laterOf_55 Y v0 v1 v2 v4 v6 v9 t0 t1 μ = some z) (D : Sum.elim (fun (s : Int64 × Int32 × jM) => JW X (jEnd X n Y (some (.long rr)) μr 0 0) 0 0 n Y 22 [(0, .ref v0), (1, .int v1), (2, .long v2), (4, .long v4), (6, .int v6), (7, .long s.1), (9, .int s.2.1)] [] s.2.2) (Sum.elim (fun (s : Int64 × Int32 × jM) => JW X (jEnd X n Y (some (.long rr)) μr 0 0) 0 0 n Y 8 [(0, .ref v0), (1, .int v1), (2, .long v2), (4, .long s.1), (6, .int s.2.1)] [] s.2.2) (fun r => r = (rr, μr))) z) : JW X (jEnd X n Y (some (.long rr)) μr 0 0) 0 0 n Y 55 [(0, .ref v0), (1, .int v1), (2, .long v2), (4, .long v4), (6, .int v6), (9, .int v9)] [.long t1, .long t0] μ := by
  unfold b_X12_laterOf_55 at H
  refine r_aload_n K 0 dX12_laterOf_55 rfl rfl ?_
  refine w_getO K vc12 inX12 15 (by decide) mF_RX12_33 dX12_laterOf_56 H (fun x1 H => ?_)
  refine r_iload K 5 dX12_laterOf_59 rfl ?_
  refine r_iconst (v := 1) K dX12_laterOf_61 (by decide) ?_
  refine r_isub K dX12_laterOf_62 ?_
  refine r_iload K 4 dX12_laterOf_63 rfl ?_
  refine r_isub K dX12_laterOf_65 ?_
  refine w_lald K dX12_laterOf_66 H (fun x2 H => ?_)
  refine r_lmul K dX12_laterOf_67 ?_
  refine r_ladd K dX12_laterOf_68 ?_
  refine r_lstore K [(7, .long _), (0, .ref _), (1, .int _), (2, .long _), (4, .long _), (6, .int _), (9, .int _)] dX12_laterOf_69 (by decide) rfl ?_
  refine r_iinc K 6 [(9, .int _), (7, .long _), (0, .ref _), (1, .int _), (2, .long _), (4, .long _), (6, .int _)] (v := _ + (1 : Int32)) dX12_laterOf_71 rfl rfl (by decide) rfl ?_
  refine r_goto K 22 dX12_laterOf_74 (by decide) ?_
  cases H
  exact r_sub [2, 3, 4, 5, 6, 1, 0] rfl D
set_option maxRecDepth 10000 in
theorem t_X12_laterOf_22 {X : jX} {l : Launch} {n : Nat} {Y : jY} (K : jOK X RX12 cX12_laterOf 10 (some .long) 6) (hl : X.2.1 = l) {rr : Int64} {μr : jM} {v0 : Nat} {v1 : Int32} {v2 : Int64} {v4 : Int64} {v6 : Int32} {v7 : Int64} {v9 : Int32} {μ : jM} {z : ((Int64 × Int32 × jM) ⊕ ((Int64 × Int32 × jM) ⊕ (Int64 × jM)))} (H : b_X12_laterOf_22 Y v0 v1 v2 v4 v6 v7 v9 μ = some z) (D : Sum.elim (fun (s : Int64 × Int32 × jM) => JW X (jEnd X n Y (some (.long rr)) μr 0 0) 0 0 n Y 22 [(0, .ref v0), (1, .int v1), (2, .long v2), (4, .long v4), (6, .int v6), (7, .long s.1), (9, .int s.2.1)] [] s.2.2) (Sum.elim (fun (s : Int64 × Int32 × jM) => JW X (jEnd X n Y (some (.long rr)) μr 0 0) 0 0 n Y 8 [(0, .ref v0), (1, .int v1), (2, .long v2), (4, .long s.1), (6, .int s.2.1)] [] s.2.2) (fun r => r = (rr, μr))) z) : JW X (jEnd X n Y (some (.long rr)) μr 0 0) 0 0 n Y 22 [(0, .ref v0), (1, .int v1), (2, .long v2), (4, .long v4), (6, .int v6), (7, .long v7), (9, .int v9)] [] μ := by
  unfold b_X12_laterOf_22 at H
  refine r_iload K 6 dX12_laterOf_22 rfl ?_
  refine r_iload_n K 1 dX12_laterOf_24 rfl rfl ?_
  refine w_icmp_gt K 77 dX12_laterOf_25 (by decide) H (fun _ H => ?_) (fun _ H => ?_)
  · refine r_lload K 3 dX12_laterOf_77 rfl ?_
    refine r_lload_n K 2 dX12_laterOf_79 rfl rfl ?_
    refine r_lmul K dX12_laterOf_80 ?_
    refine r_lload K 5 dX12_laterOf_81 rfl ?_
    refine r_ladd K dX12_laterOf_83 ?_
    refine r_lstore K [(4, .long _), (0, .ref _), (1, .int _), (2, .long _), (6, .int _), (7, .long _), (9, .int _)] dX12_laterOf_84 (by decide) rfl ?_
    refine r_iinc K 4 [(6, .int _), (4, .long _), (0, .ref _), (1, .int _), (2, .long _), (7, .long _), (9, .int _)] (v := _ + (-1 : Int32)) dX12_laterOf_86 rfl rfl (by decide) rfl ?_
    refine r_goto K 8 dX12_laterOf_89 (by decide) ?_
    cases H
    exact r_sub [2, 3, 4, 1, 0] rfl D
  · refine r_lload K 5 dX12_laterOf_28 rfl ?_
    refine r_iload_n K 1 dX12_laterOf_30 rfl rfl ?_
    refine r_aload_n K 0 dX12_laterOf_31 rfl rfl ?_
    refine w_getI K vc12 inX12 10 (by decide) mF_RX12_145 dX12_laterOf_32 H (fun x1 H => ?_)
    refine w_icmp_ne K 48 dX12_laterOf_35 (by decide) H (fun _ H => ?_) (fun _ H => ?_)
    · refine r_aload_n K 0 dX12_laterOf_48 rfl rfl ?_
      refine r_iload_n K 1 dX12_laterOf_49 rfl rfl ?_
      refine r_iload K 6 dX12_laterOf_50 rfl ?_
      refine w_callV K hl H (fun r h => c_X12_power l h) mC_yX12_power mM_RX12_217 mI_yX12_power mS_yX12_power mZ_RX12 vc12 (Nat.le_of_ble_eq_true rfl) (Nat.le_of_ble_eq_true rfl) np_yX12_power rfl (Nat.le_of_ble_eq_true rfl) dX12_laterOf_52 (fun r2 H => ?_) ⟨Nat.zero_le _, Nat.zero_le _⟩
      exact r_sub [0, 1, 2, 3, 4, 6] rfl (t_X12_laterOf_55 K hl H D)
    · refine r_aload_n K 0 dX12_laterOf_38 rfl rfl ?_
      refine w_getO K vc12 inX12 13 (by decide) mF_RX12_26 dX12_laterOf_39 H (fun x3 H => ?_)
      refine r_iload K 6 dX12_laterOf_42 rfl ?_
      refine w_lald K dX12_laterOf_44 H (fun x4 H => ?_)
      refine r_goto K 55 dX12_laterOf_45 (by decide) ?_
      exact r_sub [0, 1, 2, 3, 4, 6] rfl (t_X12_laterOf_55 K hl H D)
set_option maxRecDepth 10000 in
theorem l_X12_laterOf_22 {X : jX} {l : Launch} {n : Nat} {Y : jY} (K : jOK X RX12 cX12_laterOf 10 (some .long) 6) (hl : X.2.1 = l) {rr : Int64} {μr : jM} {v0 : Nat} {v1 : Int32} {v2 : Int64} {v4 : Int64} {v6 : Int32}  {s0 : Int64 × Int32 × jM} {z : ((Int64 × Int32 × jM) ⊕ (Int64 × jM))} (H : jit jF (fun (s : Int64 × Int32 × jM) => b_X12_laterOf_22 Y v0 v1 v2 v4 v6 s.1 s.2.1 s.2.2) s0 = some z) (D : Sum.elim (fun (s : Int64 × Int32 × jM) => JW X (jEnd X n Y (some (.long rr)) μr 0 0) 0 0 n Y 8 [(0, .ref v0), (1, .int v1), (2, .long v2), (4, .long s.1), (6, .int s.2.1)] [] s.2.2) (fun r => r = (rr, μr)) z) : JW X (jEnd X n Y (some (.long rr)) μr 0 0) 0 0 n Y 22 [(0, .ref v0), (1, .int v1), (2, .long v2), (4, .long v4), (6, .int v6), (7, .long s0.1), (9, .int s0.2.1)] [] s0.2.2 :=
  jit_ind (P := fun (s : Int64 × Int32 × jM) => JW X (jEnd X n Y (some (.long rr)) μr 0 0) 0 0 n Y 22 [(0, .ref v0), (1, .int v1), (2, .long v2), (4, .long v4), (6, .int v6), (7, .long s.1), (9, .int s.2.1)] [] s.2.2) (D := Sum.elim (fun (s : Int64 × Int32 × jM) => JW X (jEnd X n Y (some (.long rr)) μr 0 0) 0 0 n Y 8 [(0, .ref v0), (1, .int v1), (2, .long v2), (4, .long s.1), (6, .int s.2.1)] [] s.2.2) (fun r => r = (rr, μr))) (fun s z Hs Ds => t_X12_laterOf_22 K hl Hs Ds) jF s0 z H D
set_option maxRecDepth 10000 in
theorem t_X12_laterOf_8 {X : jX} {l : Launch} {n : Nat} {Y : jY} (K : jOK X RX12 cX12_laterOf 10 (some .long) 6) (hl : X.2.1 = l) {rr : Int64} {μr : jM} {v0 : Nat} {v1 : Int32} {v2 : Int64} {v4 : Int64} {v6 : Int32} {μ : jM} {z : ((Int64 × Int32 × jM) ⊕ (Int64 × jM))} (H : b_X12_laterOf_8 Y v0 v1 v2 v4 v6 μ = some z) (D : Sum.elim (fun (s : Int64 × Int32 × jM) => JW X (jEnd X n Y (some (.long rr)) μr 0 0) 0 0 n Y 8 [(0, .ref v0), (1, .int v1), (2, .long v2), (4, .long s.1), (6, .int s.2.1)] [] s.2.2) (fun r => r = (rr, μr)) z) : JW X (jEnd X n Y (some (.long rr)) μr 0 0) 0 0 n Y 8 [(0, .ref v0), (1, .int v1), (2, .long v2), (4, .long v4), (6, .int v6)] [] μ := by
  unfold b_X12_laterOf_8 at H
  refine r_iload K 4 dX12_laterOf_8 rfl ?_
  refine w_if_lt K 92 dX12_laterOf_10 (by decide) H (fun _ H => ?_) (fun _ H => ?_)
  · refine r_lload K 3 dX12_laterOf_92 rfl ?_
    cases H
    simp only [Sum.elim_inr] at D
    obtain ⟨rfl, rfl⟩ := jfin2 D
    exact r_lret K dX12_laterOf_94
  · refine r_lconst (v := 0) K dX12_laterOf_13 (by decide) ?_
    refine r_lstore K [(7, .long _), (0, .ref _), (1, .int _), (2, .long _), (4, .long _), (6, .int _)] dX12_laterOf_14 (by decide) rfl ?_
    refine r_iload K 5 dX12_laterOf_16 rfl ?_
    refine r_iconst (v := 1) K dX12_laterOf_18 (by decide) ?_
    refine r_iadd K dX12_laterOf_19 ?_
    refine r_istore K [(9, .int _), (7, .long _), (0, .ref _), (1, .int _), (2, .long _), (4, .long _), (6, .int _)] dX12_laterOf_20 (by decide) rfl ?_
    exact r_sub [2, 3, 4, 5, 6, 1, 0] rfl (l_X12_laterOf_22 K hl H D)
set_option maxRecDepth 10000 in
theorem l_X12_laterOf_8 {X : jX} {l : Launch} {n : Nat} {Y : jY} (K : jOK X RX12 cX12_laterOf 10 (some .long) 6) (hl : X.2.1 = l) {rr : Int64} {μr : jM} {v0 : Nat} {v1 : Int32} {v2 : Int64}  {s0 : Int64 × Int32 × jM} {z : (Int64 × jM)} (H : jit jF (fun (s : Int64 × Int32 × jM) => b_X12_laterOf_8 Y v0 v1 v2 s.1 s.2.1 s.2.2) s0 = some z) (D : z = (rr, μr)) : JW X (jEnd X n Y (some (.long rr)) μr 0 0) 0 0 n Y 8 [(0, .ref v0), (1, .int v1), (2, .long v2), (4, .long s0.1), (6, .int s0.2.1)] [] s0.2.2 :=
  jit_ind (P := fun (s : Int64 × Int32 × jM) => JW X (jEnd X n Y (some (.long rr)) μr 0 0) 0 0 n Y 8 [(0, .ref v0), (1, .int v1), (2, .long v2), (4, .long s.1), (6, .int s.2.1)] [] s.2.2) (D := fun r => r = (rr, μr)) (fun s z Hs Ds => t_X12_laterOf_8 K hl Hs Ds) jF s0 z H D
set_option maxRecDepth 10000 in
theorem t_X12_laterOf_0 {X : jX} {l : Launch} {n : Nat} {Y : jY} (K : jOK X RX12 cX12_laterOf 10 (some .long) 6) (hl : X.2.1 = l) {rr : Int64} {μr : jM} {v0 : Nat} {v1 : Int32} {v2 : Int64} {μ : jM} {z : (Int64 × jM)} (H : f_X12_laterOf Y v0 v1 v2 μ = some z) (D : z = (rr, μr)) : JW X (jEnd X n Y (some (.long rr)) μr 0 0) 0 0 n Y 0 [(0, .ref v0), (1, .int v1), (2, .long v2)] [] μ := by
  unfold f_X12_laterOf at H
  refine r_lconst (v := 0) K dX12_laterOf_0 (by decide) ?_
  refine r_lstore K [(4, .long _), (0, .ref _), (1, .int _), (2, .long _)] dX12_laterOf_1 (by decide) rfl ?_
  refine r_iload_n K 2 dX12_laterOf_3 rfl rfl ?_
  refine r_iconst (v := 1) K dX12_laterOf_4 (by decide) ?_
  refine r_isub K dX12_laterOf_5 ?_
  refine r_istore K [(6, .int _), (4, .long _), (0, .ref _), (1, .int _), (2, .long _)] dX12_laterOf_6 (by decide) rfl ?_
  exact r_sub [2, 3, 4, 1, 0] rfl (l_X12_laterOf_8 K hl H D)
theorem c_X12_laterOf (l : Launch) {n : Nat} {Y : jY} {v0 : Nat} {v1 : Int32} {v2 : Int64} {μ : jM} {z : Int64 × jM} (H : f_X12_laterOf Y v0 v1 v2 μ = some z) : jC l yX12_laterOf cX12_laterOf 10 (some .long) 6 0 0 [.ref v0, .int v1, .long v2] n Y μ n Y (some (.long z.1)) z.2 := by
  refine jC_of (by decide +kernel) (Nat.le_of_ble_eq_true rfl) (fun X hl K _ _ _ => ?_)
  obtain ⟨rr, μr⟩ := z
  exact t_X12_laterOf_0 K hl H rfl
