def b_X11_keep_39 (Y : jY) (v0 : Nat) (μ : jM) : Option (Int32 × jM) :=
  (jgO Y μ v0 11 4).bind fun x1 =>
  (jgI Y μ v0 11 5).bind fun x2 =>
  (jaO Y μ x1 25 x2).bind fun x3 =>
  (jgO Y μ v0 11 3).bind fun x4 =>
  (jrcv Y x3 3 (f_X3_copy Y x3 x4 μ)).bind fun μ5 =>
  (jgI Y μ5 v0 11 5).bind fun x6 =>
  (jput Y μ5 v0 11 5 (.int ((x6 + ((1 : Int32)))))).bind fun μ7 =>
  (jgI Y μ7 v0 11 5).bind fun x8 =>
  some (x8, μ7)
set_option maxRecDepth 10000 in
theorem t_X11_keep_39 {X : jX} {l : Launch} {n : Nat} {Y : jY} (K : jOK X RX11 cX11_keep 1 (some .int) 9) (hl : X.2.1 = l) {nc ns : Nat} (hroom : nc ≤ X.2.2.2.1.cells ∧ ns ≤ X.2.2.2.1.slots) {rr : Int32} {μr : jM} {v0 : Nat} {μ : jM} {z : (Int32 × jM)} (H : b_X11_keep_39 Y v0 μ = some z) (D : z = (rr, μr)) : JW X (jEnd X n Y (some (.int rr)) μr nc ns) nc ns n Y 39 [(0, .ref v0)] [] μ := by
  unfold b_X11_keep_39 at H
  refine r_aload_n K 0 dX11_keep_39 rfl rfl ?_
  refine w_getO K vc11 inX11 4 (by decide) mF_RX11_39 dX11_keep_40 H (fun x1 H => ?_)
  refine r_aload_n K 0 dX11_keep_43 rfl rfl ?_
  refine w_getI K vc11 inX11 5 (by decide) mF_RX11_43 dX11_keep_44 H (fun x2 H => ?_)
  refine w_aald K 25 rfl rfl dX11_keep_47 H (fun x3 H => ?_)
  refine r_aload_n K 0 dX11_keep_48 rfl rfl ?_
  refine w_getO K vc11 inX11 3 (by decide) mF_RX11_35 dX11_keep_49 H (fun x4 H => ?_)
  refine w_callV K hl H (fun r h => c_X3_copy l h) mC_yX3_copy mM_RX11_382 mI_yX3_copy mS_yX3_copy mZ_RX3 vc3 (Nat.le_of_ble_eq_true rfl) (Nat.le_of_ble_eq_true rfl) np_yX3_copy rfl (Nat.le_of_ble_eq_true rfl) dX11_keep_52 (fun μ5 H => ?_) hroom
  refine r_aload_n K 0 dX11_keep_55 rfl rfl ?_
  refine r_dup K dX11_keep_56 rfl ?_
  refine w_getI K vc11 inX11 5 (by decide) mF_RX11_43 dX11_keep_57 H (fun x6 H => ?_)
  refine r_iconst (v := 1) K dX11_keep_60 (by decide) ?_
  refine r_iadd K dX11_keep_61 ?_
  refine w_put K vc11 inX11 tyX11_ok nmX11 5 (by decide) mF_RX11_43 rfl (fun _ => rfl) (fun _ => rfl) dX11_keep_62 H (fun μ7 H => ?_)
  refine r_aload_n K 0 dX11_keep_65 rfl rfl ?_
  refine w_getI K vc11 inX11 5 (by decide) mF_RX11_43 dX11_keep_66 H (fun x8 H => ?_)
  cases H
  obtain ⟨rfl, rfl⟩ := jfin2 D
  exact r_iret K dX11_keep_69
theorem c_X11_keep_full (l : Launch) {n : Nat} {Y : jY} {v0 : Nat} {μ : jM} {k : Int32} (ho : (Y v0).1 = 11) (hk : μ v0 5 = .int k) (h8 : ¬ k < 8) : jC l yX11_keep cX11_keep 1 (some .int) 9 0 0 [.ref v0] n Y μ n Y (some (.int (-1))) μ := by
  refine jC_of (by decide +kernel) (Nat.le_of_ble_eq_true rfl) (fun X hl K hrc hrs hnit => ?_)
  refine r_aload_n K 0 dX11_keep_0 rfl rfl ?_
  refine r_get K vc11 inX11 5 (by decide) mF_RX11_43 ho hk dX11_keep_1 ?_
  refine r_bipush (v := 8) K dX11_keep_4 (by decide) ?_
  refine r_icmp_lt K 11 dX11_keep_6 (by decide) (fun h => absurd h h8) (fun _ => ?_)
  refine r_iconst (v := -1) K dX11_keep_9 (by decide) ?_
  exact r_iret K dX11_keep_10
theorem c_X11_keep_old (l : Launch) {n : Nat} {Y : jY} {v0 a j q : Nat} {μ : jM} {k : Int32} {z : Int32 × jM} (ho : (Y v0).1 = 11) (hk : μ v0 5 = .int k) (h8 : k < 8) (ha : μ v0 4 = .ref a) (hta : (Y a).1 = 25) (hi : jix k (Y a).2 = some j) (hq : μ a j = .ref q) (H : b_X11_keep_39 Y v0 μ = some z) : jC l yX11_keep cX11_keep 1 (some .int) 9 0 0 [.ref v0] n Y μ n Y (some (.int z.1)) z.2 := by
  refine jC_of (by decide +kernel) (Nat.le_of_ble_eq_true rfl) (fun X hl K hrc hrs hnit => ?_)
  refine r_aload_n K 0 dX11_keep_0 rfl rfl ?_
  refine r_get K vc11 inX11 5 (by decide) mF_RX11_43 ho hk dX11_keep_1 ?_
  refine r_bipush (v := 8) K dX11_keep_4 (by decide) ?_
  refine r_icmp_lt K 11 dX11_keep_6 (by decide) (fun _ => ?_) (fun h => absurd h8 h)
  refine r_aload_n K 0 dX11_keep_11 rfl rfl ?_
  refine r_get K vc11 inX11 4 (by decide) mF_RX11_39 ho ha dX11_keep_12 ?_
  refine r_aload_n K 0 dX11_keep_15 rfl rfl ?_
  refine r_get K vc11 inX11 5 (by decide) mF_RX11_43 ho hk dX11_keep_16 ?_
  refine r_aald K (t := 25) rfl rfl hta hi hq dX11_keep_19 ?_
  refine r_ifnonnull K 39 dX11_keep_20 (by decide) ?_
  exact t_X11_keep_39 K hl ⟨Nat.zero_le _, Nat.zero_le _⟩ H rfl
theorem c_X11_keep_new (l : Launch) {n : Nat} {Y : jY} {v0 a j : Nat} {μ : jM} {k : Int32} {z : Int32 × jM} (hn : 0 < n) (hlt : v0 < n) (ho0 : v0 ≠ 0) (ho : (Y v0).1 = 11) (hk : μ v0 5 = .int k) (h8 : k < 8) (ha : μ v0 4 = .ref a) (ha0 : a ≠ 0) (hal : a < n) (hta : (Y a).1 = 25) (hi : jix k (Y a).2 = some j) (hq : μ a j = .null) (H : b_X11_keep_39 (mY_X3_init (n + 1) (jYn Y n 3 2)) v0 (jw (mM_X3_init (n + 1) n (jMn μ n (jdef tyX3))) a j (.ref n)) = some z) : jC l yX11_keep cX11_keep 1 (some .int) 9 17 64 [.ref v0] n Y μ (n + 17) (mY_X3_init (n + 1) (jYn Y n 3 2)) (some (.int z.1)) z.2 := by
  refine jC_of (by decide +kernel) (Nat.le_of_ble_eq_true rfl) (fun X hl K hrc hrs hnit => ?_)
  refine r_aload_n K 0 dX11_keep_0 rfl rfl ?_
  refine r_get K vc11 inX11 5 (by decide) mF_RX11_43 ho hk dX11_keep_1 ?_
  refine r_bipush (v := 8) K dX11_keep_4 (by decide) ?_
  refine r_icmp_lt K 11 dX11_keep_6 (by decide) (fun _ => ?_) (fun h => absurd h8 h)
  refine r_aload_n K 0 dX11_keep_11 rfl rfl ?_
  refine r_get K vc11 inX11 4 (by decide) mF_RX11_39 ho ha dX11_keep_12 ?_
  refine r_aload_n K 0 dX11_keep_15 rfl rfl ?_
  refine r_get K vc11 inX11 5 (by decide) mF_RX11_43 ho hk dX11_keep_16 ?_
  refine r_aald K (t := 25) rfl rfl hta hi hq dX11_keep_19 ?_
  refine r_ifnonnullN K dX11_keep_20 ?_
  refine r_aload_n K 0 dX11_keep_23 rfl rfl ?_
  refine r_get K vc11 inX11 4 (by decide) mF_RX11_39 ho ha dX11_keep_24 ?_
  refine r_aload_n K 0 dX11_keep_27 rfl rfl ?_
  refine r_get K vc11 inX11 5 (by decide) mF_RX11_43 ho hk dX11_keep_28 ?_
  refine r_new K vc3 inX3 tyX3 tyX3_ok mK_RX11_32 mN_RX3 mZ_RX3 hn dX11_keep_31 ⟨by omega, by omega⟩ ?_
  refine r_dup K dX11_keep_34 rfl ?_
  refine r_callI K hl (c_X3_init l (by omega) (by omega) (by omega) (by simp (disch := omega) only [jYn_ne, jYn_eq, jMn_ne, jMn_eq, jw_cell, jw_same, jw_slot, jY6_lt, jM6_lt, mY_X3_init_lt, mM_X3_init_lt])) mC_yX3_init mM_RX11_34 mI_yX3_init mZ_RX3 rfl (Nat.le_of_ble_eq_true rfl) (Nat.le_of_ble_eq_true rfl) np_yX3_init rfl (Nat.le_of_ble_eq_true rfl) dX11_keep_35 ⟨by omega, by omega⟩ ?_
  refine r_aast K 25 rfl vc3 ha0 (by (try simp (disch := omega) only [jYn_ne, jYn_eq, jMn_ne, jMn_eq, jw_cell, jw_same, jw_slot, jY6_lt, jM6_lt, mY_X3_init_lt, mM_X3_init_lt]); first | exact ho | exact hta | exact hi | exact hk | exact ha) (by (try simp (disch := omega) only [jYn_ne, jYn_eq, jMn_ne, jMn_eq, jw_cell, jw_same, jw_slot, jY6_lt, jM6_lt, mY_X3_init_lt, mM_X3_init_lt]); first | exact ho | exact hta | exact hi | exact hk | exact ha) (by simp (disch := omega) only [jYn_ne, jYn_eq, jMn_ne, jMn_eq, jw_cell, jw_same, jw_slot, jY6_lt, jM6_lt, mY_X3_init_lt, mM_X3_init_lt]) dX11_keep_38 ?_
  exact t_X11_keep_39 K hl ⟨by omega, by omega⟩ H rfl
