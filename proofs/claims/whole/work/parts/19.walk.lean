/-! RX12 reads(Z)I -/
def b_X12_reads_357 (Y : jY) (t0 : Int32) (μ : jM) : Option (Int32 × jM) :=
  some (t0, μ)
def b_X12_reads_348 (Y : jY) (v0 : Nat) (μ : jM) : Option (Int32 × jM) :=
  (jrcv Y v0 12 (f_X12_wrong Y v0 ((1 : Int32)) μ)).bind fun r1 =>
  b_X12_reads_357 Y r1.1 r1.2
def b_X12_reads_42 (Y : jY) (v0 : Nat) (μ : jM) : Option (Int32 × jM) :=
  (jrcv Y v0 12 (f_X12_wrong Y v0 ((1 : Int32)) μ)).bind fun r1 =>
  some (r1.1, r1.2)
def b_X12_reads_323 (Y : jY) (v0 : Nat) (v1 : Int32) (v2 : Int32) (μ : jM) : Option ((Int32 × Int32 × jM) ⊕ (Int32 × jM)) :=
  (jrcv Y v0 12 (f_X12_token Y v0 μ)).bind fun r1 =>
  some (.inl (v2, r1.1, r1.2))
def b_X12_reads_300 (Y : jY) (v0 : Nat) (v1 : Int32) (v2 : Int32) (μ : jM) : Option ((Int32 × Int32 × jM) ⊕ (Int32 × jM)) :=
  (jgO Y μ v0 12 6).bind fun x1 =>
  (jgI Y μ v0 12 8).bind fun x2 =>
  (jgI Y μ v0 12 5).bind fun x3 =>
  (jas Y μ x1 20 x2 (.int x3)).bind fun μ4 =>
  (jgI Y μ4 v0 12 8).bind fun x5 =>
  (jput Y μ4 v0 12 8 (.int ((x5 + ((1 : Int32)))))).bind fun μ6 =>
  b_X12_reads_323 Y v0 v1 v2 μ6
def b_X12_reads_256 (Y : jY) (v0 : Nat) (v1 : Int32) (v2 : Int32) (t0 : Int32) (t1 : Int32) (μ : jM) : Option ((Int32 × Int32 × jM) ⊕ (Int32 × jM)) :=
  if t0 = t1 then
    (jrcv Y v0 12 (f_X12_wrong Y v0 ((3 : Int32)) μ)).bind fun r7 =>
    some (.inr (r7.1, r7.2))
  else
    if v1 = 0 then
      b_X12_reads_300 Y v0 v1 v2 μ
    else
      (jgI Y μ v0 12 8).bind fun x1 =>
      if x1 ≤ 0 then
        b_X12_reads_300 Y v0 v1 v2 μ
      else
        (jgI Y μ v0 12 5).bind fun x2 =>
        (jgO Y μ v0 12 6).bind fun x3 =>
        (jgI Y μ v0 12 8).bind fun x4 =>
        (jaI Y μ x3 20 ((x4 - ((1 : Int32))))).bind fun x5 =>
        if x5 < x2 then
          b_X12_reads_300 Y v0 v1 v2 μ
        else
          (jrcv Y v0 12 (f_X12_wrong Y v0 ((4 : Int32)) μ)).bind fun r6 =>
          some (.inr (r6.1, r6.2))
def b_X12_reads_197 (Y : jY) (v0 : Nat) (v1 : Int32) (v2 : Int32) (μ : jM) : Option ((Int32 × Int32 × jM) ⊕ (Int32 × jM)) :=
  (jgO Y μ v0 12 7).bind fun x1 =>
  (jgI Y μ v0 12 9).bind fun x2 =>
  (jgI Y μ v0 12 5).bind fun x3 =>
  (jas Y μ x1 20 x2 (.int x3)).bind fun μ4 =>
  (jgI Y μ4 v0 12 9).bind fun x5 =>
  (jput Y μ4 v0 12 9 (.int ((x5 + ((1 : Int32)))))).bind fun μ6 =>
  b_X12_reads_323 Y v0 v1 v2 μ6
def b_X12_reads_191 (Y : jY) (v0 : Nat) (μ : jM) : Option (Int32 × jM) :=
  (jrcv Y v0 12 (f_X12_wrong Y v0 ((5 : Int32)) μ)).bind fun r1 =>
  some (r1.1, r1.2)
def b_X12_reads_153 (Y : jY) (v0 : Nat) (v1 : Int32) (v2 : Int32) (μ : jM) : Option ((Int32 × Int32 × jM) ⊕ (Int32 × jM)) :=
  if v1 = 0 then
    b_X12_reads_197 Y v0 v1 v2 μ
  else
    (jgI Y μ v0 12 5).bind fun x1 =>
    (jgO Y μ v0 12 6).bind fun x2 =>
    (jgI Y μ v0 12 9).bind fun x3 =>
    (jaI Y μ x2 20 x3).bind fun x4 =>
    if x1 ≤ x4 then
      (b_X12_reads_191 Y v0 μ).map (fun r => (.inr r))
    else
      (jgI Y μ v0 12 5).bind fun x5 =>
      (jgO Y μ v0 12 6).bind fun x6 =>
      (jgI Y μ v0 12 9).bind fun x7 =>
      (jaI Y μ x6 20 ((x7 + ((1 : Int32))))).bind fun x8 =>
      if x5 < x8 then
        b_X12_reads_197 Y v0 v1 v2 μ
      else
        (b_X12_reads_191 Y v0 μ).map (fun r => (.inr r))
def b_X12_reads_87 (Y : jY) (v0 : Nat) (v1 : Int32) (v2 : Int32) (t0 : Int32) (t1 : Int32) (t2 : Int32) (μ : jM) : Option ((Int32 × Int32 × jM) ⊕ (Int32 × jM)) :=
  (f_X12_in Y t0 t1 t2 μ).bind fun r1 =>
  if r1.1 = 0 then
    (jrcv Y v0 12 (f_X12_wrong Y v0 ((2 : Int32)) r1.2)).bind fun r11 =>
    some (.inr (r11.1, r11.2))
  else
    (jgI Y r1.2 v0 12 9).bind fun x2 =>
    (jgI Y r1.2 v0 12 8).bind fun x3 =>
    if x2 = ((x3 - ((1 : Int32)))) then
      (jrcv Y v0 12 (f_X12_wrong Y v0 ((3 : Int32)) r1.2)).bind fun r10 =>
      some (.inr (r10.1, r10.2))
    else
      if v1 = 0 then
        b_X12_reads_153 Y v0 v1 v2 r1.2
      else
        (jgI Y r1.2 v0 12 9).bind fun x4 =>
        if x4 ≤ 0 then
          b_X12_reads_153 Y v0 v1 v2 r1.2
        else
          (jgI Y r1.2 v0 12 5).bind fun x5 =>
          (jgO Y r1.2 v0 12 7).bind fun x6 =>
          (jgI Y r1.2 v0 12 9).bind fun x7 =>
          (jaI Y r1.2 x6 20 ((x7 - ((1 : Int32))))).bind fun x8 =>
          if x8 < x5 then
            b_X12_reads_153 Y v0 v1 v2 r1.2
          else
            (jrcv Y v0 12 (f_X12_wrong Y v0 ((4 : Int32)) r1.2)).bind fun r9 =>
            some (.inr (r9.1, r9.2))
def b_X12_reads_76 (Y : jY) (v0 : Nat) (v1 : Int32) (v2 : Int32) (t0 : Int32) (t1 : Int32) (μ : jM) : Option ((Int32 × Int32 × jM) ⊕ (Int32 × jM)) :=
  if v1 = 0 then
    b_X12_reads_87 Y v0 v1 v2 t0 t1 (36 : Int32) μ
  else
    b_X12_reads_87 Y v0 v1 v2 t0 t1 (6 : Int32) μ
def b_X12_reads_48 (Y : jY) (v0 : Nat) (v1 : Int32) (v2 : Int32) (v3 : Int32) (μ : jM) : Option ((Int32 × Int32 × jM) ⊕ (Int32 × jM)) :=
  if v3 = ((2 : Int32)) then
    b_X12_reads_323 Y v0 v1 (1 : Int32) μ
  else
    if v2 = 0 then
      (jgI Y μ v0 12 5).bind fun x1 =>
      (f_X12_in Y x1 ((-6 : Int32)) ((6 : Int32)) μ).bind fun r2 =>
      if r2.1 = 0 then
        (jrcv Y v0 12 (f_X12_wrong Y v0 ((2 : Int32)) r2.2)).bind fun r4 =>
        some (.inr (r4.1, r4.2))
      else
        (jgI Y r2.2 v0 12 8).bind fun x3 =>
        if v1 = 0 then
          b_X12_reads_256 Y v0 v1 v2 x3 (5 : Int32) r2.2
        else
          b_X12_reads_256 Y v0 v1 v2 x3 (4 : Int32) r2.2
    else
      (jgI Y μ v0 12 5).bind fun x5 =>
      if v1 = 0 then
        b_X12_reads_76 Y v0 v1 v2 x5 (1 : Int32) μ
      else
        b_X12_reads_76 Y v0 v1 v2 x5 (-6 : Int32) μ
def b_X12_reads_17 (Y : jY) (v0 : Nat) (v1 : Int32) (v2 : Int32) (v3 : Int32) (μ : jM) : Option ((Int32 × Int32 × jM) ⊕ (Int32 × jM)) :=
  if v3 = 0 then
    if v2 = 0 then
      (b_X12_reads_348 Y v0 μ).map (fun r => (.inr r))
    else
      (jgI Y μ v0 12 9).bind fun x1 =>
      (jgI Y μ v0 12 8).bind fun x2 =>
      if ((x2 - ((1 : Int32)))) ≤ x1 then
        (b_X12_reads_357 Y (0 : Int32) μ).map (fun r => (.inr r))
      else
        (b_X12_reads_348 Y v0 μ).map (fun r => (.inr r))
  else
    if v3 = ((3 : Int32)) then
      (b_X12_reads_42 Y v0 μ).map (fun r => (.inr r))
    else
      if v3 = ((2 : Int32)) then
        if v2 = 0 then
          (jgI Y μ v0 12 8).bind fun x3 =>
          if x3 = 0 then
            (b_X12_reads_42 Y v0 μ).map (fun r => (.inr r))
          else
            b_X12_reads_48 Y v0 v1 v2 v3 μ
        else
          (b_X12_reads_42 Y v0 μ).map (fun r => (.inr r))
      else
        b_X12_reads_48 Y v0 v1 v2 v3 μ
def f_X12_reads (Y : jY) (v0 : Nat) (v1 : Int32) (μ : jM) : Option (Int32 × jM) :=
  (jput Y μ v0 12 8 (.int ((0 : Int32)))).bind fun μ1 =>
  (jput Y μ1 v0 12 9 (.int ((0 : Int32)))).bind fun μ2 =>
  (jrcv Y v0 12 (f_X12_token Y v0 μ2)).bind fun r3 =>
  jit jF (fun (s : Int32 × Int32 × jM) => b_X12_reads_17 Y v0 v1 s.1 s.2.1 s.2.2) ((0 : Int32), r3.1, r3.2)
set_option maxRecDepth 10000 in
theorem t_X12_reads_357 {X : jX} {l : Launch} {n : Nat} {Y : jY} (K : jOK X RX12 cX12_reads 4 (some .int) 3) (hl : X.2.1 = l) {rr : Int32} {μr : jM} {t0 : Int32} {μ : jM} {z : (Int32 × jM)} (H : b_X12_reads_357 Y t0 μ = some z) (D : z = (rr, μr)) : JW X (jEnd X n Y (some (.int rr)) μr 0 0) 0 0 n Y 357 [] [.int t0] μ := by
  unfold b_X12_reads_357 at H
  cases H
  obtain ⟨rfl, rfl⟩ := jfin2 D
  exact r_iret K dX12_reads_357
set_option maxRecDepth 10000 in
theorem t_X12_reads_348 {X : jX} {l : Launch} {n : Nat} {Y : jY} (K : jOK X RX12 cX12_reads 4 (some .int) 3) (hl : X.2.1 = l) {rr : Int32} {μr : jM} {v0 : Nat} {μ : jM} {z : (Int32 × jM)} (H : b_X12_reads_348 Y v0 μ = some z) (D : z = (rr, μr)) : JW X (jEnd X n Y (some (.int rr)) μr 0 0) 0 0 n Y 348 [(0, .ref v0)] [] μ := by
  unfold b_X12_reads_348 at H
  refine r_aload_n K 0 dX12_reads_348 rfl rfl ?_
  refine r_iconst (v := 1) K dX12_reads_349 (by decide) ?_
  refine w_callV K hl H (fun r h => c_X12_wrong l h) mC_yX12_wrong mM_RX12_131 mI_yX12_wrong mS_yX12_wrong mZ_RX12 vc12 (Nat.le_of_ble_eq_true rfl) (Nat.le_of_ble_eq_true rfl) np_yX12_wrong rfl (Nat.le_of_ble_eq_true rfl) dX12_reads_350 (fun r1 H => ?_) ⟨Nat.zero_le _, Nat.zero_le _⟩
  refine r_goto K 357 dX12_reads_353 (by decide) ?_
  exact r_sub [] rfl (t_X12_reads_357 K hl H D)
set_option maxRecDepth 10000 in
theorem t_X12_reads_42 {X : jX} {l : Launch} {n : Nat} {Y : jY} (K : jOK X RX12 cX12_reads 4 (some .int) 3) (hl : X.2.1 = l) {rr : Int32} {μr : jM} {v0 : Nat} {μ : jM} {z : (Int32 × jM)} (H : b_X12_reads_42 Y v0 μ = some z) (D : z = (rr, μr)) : JW X (jEnd X n Y (some (.int rr)) μr 0 0) 0 0 n Y 42 [(0, .ref v0)] [] μ := by
  unfold b_X12_reads_42 at H
  refine r_aload_n K 0 dX12_reads_42 rfl rfl ?_
  refine r_iconst (v := 1) K dX12_reads_43 (by decide) ?_
  refine w_callV K hl H (fun r h => c_X12_wrong l h) mC_yX12_wrong mM_RX12_131 mI_yX12_wrong mS_yX12_wrong mZ_RX12 vc12 (Nat.le_of_ble_eq_true rfl) (Nat.le_of_ble_eq_true rfl) np_yX12_wrong rfl (Nat.le_of_ble_eq_true rfl) dX12_reads_44 (fun r1 H => ?_) ⟨Nat.zero_le _, Nat.zero_le _⟩
  cases H
  obtain ⟨rfl, rfl⟩ := jfin2 D
  exact r_iret K dX12_reads_47
set_option maxRecDepth 10000 in
theorem t_X12_reads_323 {X : jX} {l : Launch} {n : Nat} {Y : jY} (K : jOK X RX12 cX12_reads 4 (some .int) 3) (hl : X.2.1 = l) {rr : Int32} {μr : jM} {v0 : Nat} {v1 : Int32} {v2 : Int32} {μ : jM} {z : ((Int32 × Int32 × jM) ⊕ (Int32 × jM))} (H : b_X12_reads_323 Y v0 v1 v2 μ = some z) (D : Sum.elim (fun (s : Int32 × Int32 × jM) => JW X (jEnd X n Y (some (.int rr)) μr 0 0) 0 0 n Y 17 [(0, .ref v0), (1, .int v1), (2, .int s.1), (3, .int s.2.1)] [] s.2.2) (fun r => r = (rr, μr)) z) : JW X (jEnd X n Y (some (.int rr)) μr 0 0) 0 0 n Y 323 [(0, .ref v0), (1, .int v1), (2, .int v2)] [] μ := by
  unfold b_X12_reads_323 at H
  refine r_aload_n K 0 dX12_reads_323 rfl rfl ?_
  refine w_callV K hl H (fun r h => c_X12_token l h) mC_yX12_token mM_RX12_127 mI_yX12_token mS_yX12_token mZ_RX12 vc12 (Nat.le_of_ble_eq_true rfl) (Nat.le_of_ble_eq_true rfl) np_yX12_token rfl (Nat.le_of_ble_eq_true rfl) dX12_reads_324 (fun r1 H => ?_) ⟨Nat.zero_le _, Nat.zero_le _⟩
  refine r_istore_n K [(3, .int _), (0, .ref _), (1, .int _), (2, .int _)] dX12_reads_327 rfl (by decide) rfl ?_
  refine r_goto K 17 dX12_reads_328 (by decide) ?_
  cases H
  exact r_sub [1, 2, 3, 0] rfl D
set_option maxRecDepth 10000 in
theorem t_X12_reads_300 {X : jX} {l : Launch} {n : Nat} {Y : jY} (K : jOK X RX12 cX12_reads 4 (some .int) 3) (hl : X.2.1 = l) {rr : Int32} {μr : jM} {v0 : Nat} {v1 : Int32} {v2 : Int32} {μ : jM} {z : ((Int32 × Int32 × jM) ⊕ (Int32 × jM))} (H : b_X12_reads_300 Y v0 v1 v2 μ = some z) (D : Sum.elim (fun (s : Int32 × Int32 × jM) => JW X (jEnd X n Y (some (.int rr)) μr 0 0) 0 0 n Y 17 [(0, .ref v0), (1, .int v1), (2, .int s.1), (3, .int s.2.1)] [] s.2.2) (fun r => r = (rr, μr)) z) : JW X (jEnd X n Y (some (.int rr)) μr 0 0) 0 0 n Y 300 [(0, .ref v0), (1, .int v1), (2, .int v2)] [] μ := by
  unfold b_X12_reads_300 at H
  refine r_aload_n K 0 dX12_reads_300 rfl rfl ?_
  refine w_getO K vc12 inX12 6 (by decide) mF_RX12_13 dX12_reads_301 H (fun x1 H => ?_)
  refine r_aload_n K 0 dX12_reads_304 rfl rfl ?_
  refine w_getI K vc12 inX12 8 (by decide) mF_RX12_121 dX12_reads_305 H (fun x2 H => ?_)
  refine r_aload_n K 0 dX12_reads_308 rfl rfl ?_
  refine w_getI K vc12 inX12 5 (by decide) mF_RX12_118 dX12_reads_309 H (fun x3 H => ?_)
  refine w_iast K dX12_reads_312 H (fun μ4 H => ?_)
  refine r_aload_n K 0 dX12_reads_313 rfl rfl ?_
  refine r_aload_n K 0 dX12_reads_314 rfl rfl ?_
  refine w_getI K vc12 inX12 8 (by decide) mF_RX12_121 dX12_reads_315 H (fun x5 H => ?_)
  refine r_iconst (v := 1) K dX12_reads_318 (by decide) ?_
  refine r_iadd K dX12_reads_319 ?_
  refine w_put K vc12 inX12 tyX12_ok nmX12 8 (by decide) mF_RX12_121 rfl (fun _ => rfl) (fun _ => rfl) dX12_reads_320 H (fun μ6 H => ?_)
  exact r_sub [0, 1, 2] rfl (t_X12_reads_323 K hl H D)
set_option maxRecDepth 10000 in
theorem t_X12_reads_256 {X : jX} {l : Launch} {n : Nat} {Y : jY} (K : jOK X RX12 cX12_reads 4 (some .int) 3) (hl : X.2.1 = l) {rr : Int32} {μr : jM} {v0 : Nat} {v1 : Int32} {v2 : Int32} {t0 : Int32} {t1 : Int32} {μ : jM} {z : ((Int32 × Int32 × jM) ⊕ (Int32 × jM))} (H : b_X12_reads_256 Y v0 v1 v2 t0 t1 μ = some z) (D : Sum.elim (fun (s : Int32 × Int32 × jM) => JW X (jEnd X n Y (some (.int rr)) μr 0 0) 0 0 n Y 17 [(0, .ref v0), (1, .int v1), (2, .int s.1), (3, .int s.2.1)] [] s.2.2) (fun r => r = (rr, μr)) z) : JW X (jEnd X n Y (some (.int rr)) μr 0 0) 0 0 n Y 256 [(0, .ref v0), (1, .int v1), (2, .int v2)] [.int t1, .int t0] μ := by
  unfold b_X12_reads_256 at H
  refine w_icmp_ne K 265 dX12_reads_256 (by decide) H (fun _ H => ?_) (fun _ H => ?_)
  · refine r_iload_n K 1 dX12_reads_265 rfl rfl ?_
    refine w_if_eq K 300 dX12_reads_266 (by decide) H (fun _ H => ?_) (fun _ H => ?_)
    · exact r_sub [0, 1, 2] rfl (t_X12_reads_300 K hl H D)
    · refine r_aload_n K 0 dX12_reads_269 rfl rfl ?_
      refine w_getI K vc12 inX12 8 (by decide) mF_RX12_121 dX12_reads_270 H (fun x1 H => ?_)
      refine w_if_le K 300 dX12_reads_273 (by decide) H (fun _ H => ?_) (fun _ H => ?_)
      · exact r_sub [0, 1, 2] rfl (t_X12_reads_300 K hl H D)
      · refine r_aload_n K 0 dX12_reads_276 rfl rfl ?_
        refine w_getI K vc12 inX12 5 (by decide) mF_RX12_118 dX12_reads_277 H (fun x2 H => ?_)
        refine r_aload_n K 0 dX12_reads_280 rfl rfl ?_
        refine w_getO K vc12 inX12 6 (by decide) mF_RX12_13 dX12_reads_281 H (fun x3 H => ?_)
        refine r_aload_n K 0 dX12_reads_284 rfl rfl ?_
        refine w_getI K vc12 inX12 8 (by decide) mF_RX12_121 dX12_reads_285 H (fun x4 H => ?_)
        refine r_iconst (v := 1) K dX12_reads_288 (by decide) ?_
        refine r_isub K dX12_reads_289 ?_
        refine w_iald K dX12_reads_290 H (fun x5 H => ?_)
        refine w_icmp_gt K 300 dX12_reads_291 (by decide) H (fun _ H => ?_) (fun _ H => ?_)
        · exact r_sub [0, 1, 2] rfl (t_X12_reads_300 K hl H D)
        · refine r_aload_n K 0 dX12_reads_294 rfl rfl ?_
          refine r_iconst (v := 4) K dX12_reads_295 (by decide) ?_
          refine w_callV K hl H (fun r h => c_X12_wrong l h) mC_yX12_wrong mM_RX12_131 mI_yX12_wrong mS_yX12_wrong mZ_RX12 vc12 (Nat.le_of_ble_eq_true rfl) (Nat.le_of_ble_eq_true rfl) np_yX12_wrong rfl (Nat.le_of_ble_eq_true rfl) dX12_reads_296 (fun r6 H => ?_) ⟨Nat.zero_le _, Nat.zero_le _⟩
          cases H
          simp only [Sum.elim_inr] at D
          obtain ⟨rfl, rfl⟩ := jfin2 D
          exact r_iret K dX12_reads_299
  · refine r_aload_n K 0 dX12_reads_259 rfl rfl ?_
    refine r_iconst (v := 3) K dX12_reads_260 (by decide) ?_
    refine w_callV K hl H (fun r h => c_X12_wrong l h) mC_yX12_wrong mM_RX12_131 mI_yX12_wrong mS_yX12_wrong mZ_RX12 vc12 (Nat.le_of_ble_eq_true rfl) (Nat.le_of_ble_eq_true rfl) np_yX12_wrong rfl (Nat.le_of_ble_eq_true rfl) dX12_reads_261 (fun r7 H => ?_) ⟨Nat.zero_le _, Nat.zero_le _⟩
    cases H
    simp only [Sum.elim_inr] at D
    obtain ⟨rfl, rfl⟩ := jfin2 D
    exact r_iret K dX12_reads_264
set_option maxRecDepth 10000 in
theorem t_X12_reads_197 {X : jX} {l : Launch} {n : Nat} {Y : jY} (K : jOK X RX12 cX12_reads 4 (some .int) 3) (hl : X.2.1 = l) {rr : Int32} {μr : jM} {v0 : Nat} {v1 : Int32} {v2 : Int32} {μ : jM} {z : ((Int32 × Int32 × jM) ⊕ (Int32 × jM))} (H : b_X12_reads_197 Y v0 v1 v2 μ = some z) (D : Sum.elim (fun (s : Int32 × Int32 × jM) => JW X (jEnd X n Y (some (.int rr)) μr 0 0) 0 0 n Y 17 [(0, .ref v0), (1, .int v1), (2, .int s.1), (3, .int s.2.1)] [] s.2.2) (fun r => r = (rr, μr)) z) : JW X (jEnd X n Y (some (.int rr)) μr 0 0) 0 0 n Y 197 [(0, .ref v0), (1, .int v1), (2, .int v2)] [] μ := by
  unfold b_X12_reads_197 at H
  refine r_aload_n K 0 dX12_reads_197 rfl rfl ?_
  refine w_getO K vc12 inX12 7 (by decide) mF_RX12_17 dX12_reads_198 H (fun x1 H => ?_)
  refine r_aload_n K 0 dX12_reads_201 rfl rfl ?_
  refine w_getI K vc12 inX12 9 (by decide) mF_RX12_124 dX12_reads_202 H (fun x2 H => ?_)
  refine r_aload_n K 0 dX12_reads_205 rfl rfl ?_
  refine w_getI K vc12 inX12 5 (by decide) mF_RX12_118 dX12_reads_206 H (fun x3 H => ?_)
  refine w_iast K dX12_reads_209 H (fun μ4 H => ?_)
  refine r_aload_n K 0 dX12_reads_210 rfl rfl ?_
  refine r_aload_n K 0 dX12_reads_211 rfl rfl ?_
  refine w_getI K vc12 inX12 9 (by decide) mF_RX12_124 dX12_reads_212 H (fun x5 H => ?_)
  refine r_iconst (v := 1) K dX12_reads_215 (by decide) ?_
  refine r_iadd K dX12_reads_216 ?_
  refine w_put K vc12 inX12 tyX12_ok nmX12 9 (by decide) mF_RX12_124 rfl (fun _ => rfl) (fun _ => rfl) dX12_reads_217 H (fun μ6 H => ?_)
  refine r_goto K 323 dX12_reads_220 (by decide) ?_
  exact r_sub [0, 1, 2] rfl (t_X12_reads_323 K hl H D)
set_option maxRecDepth 10000 in
theorem t_X12_reads_191 {X : jX} {l : Launch} {n : Nat} {Y : jY} (K : jOK X RX12 cX12_reads 4 (some .int) 3) (hl : X.2.1 = l) {rr : Int32} {μr : jM} {v0 : Nat} {μ : jM} {z : (Int32 × jM)} (H : b_X12_reads_191 Y v0 μ = some z) (D : z = (rr, μr)) : JW X (jEnd X n Y (some (.int rr)) μr 0 0) 0 0 n Y 191 [(0, .ref v0)] [] μ := by
  unfold b_X12_reads_191 at H
  refine r_aload_n K 0 dX12_reads_191 rfl rfl ?_
  refine r_iconst (v := 5) K dX12_reads_192 (by decide) ?_
  refine w_callV K hl H (fun r h => c_X12_wrong l h) mC_yX12_wrong mM_RX12_131 mI_yX12_wrong mS_yX12_wrong mZ_RX12 vc12 (Nat.le_of_ble_eq_true rfl) (Nat.le_of_ble_eq_true rfl) np_yX12_wrong rfl (Nat.le_of_ble_eq_true rfl) dX12_reads_193 (fun r1 H => ?_) ⟨Nat.zero_le _, Nat.zero_le _⟩
  cases H
  obtain ⟨rfl, rfl⟩ := jfin2 D
  exact r_iret K dX12_reads_196
set_option maxRecDepth 10000 in
theorem t_X12_reads_153 {X : jX} {l : Launch} {n : Nat} {Y : jY} (K : jOK X RX12 cX12_reads 4 (some .int) 3) (hl : X.2.1 = l) {rr : Int32} {μr : jM} {v0 : Nat} {v1 : Int32} {v2 : Int32} {μ : jM} {z : ((Int32 × Int32 × jM) ⊕ (Int32 × jM))} (H : b_X12_reads_153 Y v0 v1 v2 μ = some z) (D : Sum.elim (fun (s : Int32 × Int32 × jM) => JW X (jEnd X n Y (some (.int rr)) μr 0 0) 0 0 n Y 17 [(0, .ref v0), (1, .int v1), (2, .int s.1), (3, .int s.2.1)] [] s.2.2) (fun r => r = (rr, μr)) z) : JW X (jEnd X n Y (some (.int rr)) μr 0 0) 0 0 n Y 153 [(0, .ref v0), (1, .int v1), (2, .int v2)] [] μ := by
  unfold b_X12_reads_153 at H
  refine r_iload_n K 1 dX12_reads_153 rfl rfl ?_
  refine w_if_eq K 197 dX12_reads_154 (by decide) H (fun _ H => ?_) (fun _ H => ?_)
  · exact r_sub [0, 1, 2] rfl (t_X12_reads_197 K hl H D)
  · refine r_aload_n K 0 dX12_reads_157 rfl rfl ?_
    refine w_getI K vc12 inX12 5 (by decide) mF_RX12_118 dX12_reads_158 H (fun x1 H => ?_)
    refine r_aload_n K 0 dX12_reads_161 rfl rfl ?_
    refine w_getO K vc12 inX12 6 (by decide) mF_RX12_13 dX12_reads_162 H (fun x2 H => ?_)
    refine r_aload_n K 0 dX12_reads_165 rfl rfl ?_
    refine w_getI K vc12 inX12 9 (by decide) mF_RX12_124 dX12_reads_166 H (fun x3 H => ?_)
    refine w_iald K dX12_reads_169 H (fun x4 H => ?_)
    refine w_icmp_le K 191 dX12_reads_170 (by decide) H (fun _ H => ?_) (fun _ H => ?_)
    · obtain ⟨z2, H2, rfl⟩ := jmap H
      exact r_sub [0] rfl (t_X12_reads_191 K hl H2 D)
    · refine r_aload_n K 0 dX12_reads_173 rfl rfl ?_
      refine w_getI K vc12 inX12 5 (by decide) mF_RX12_118 dX12_reads_174 H (fun x5 H => ?_)
      refine r_aload_n K 0 dX12_reads_177 rfl rfl ?_
      refine w_getO K vc12 inX12 6 (by decide) mF_RX12_13 dX12_reads_178 H (fun x6 H => ?_)
      refine r_aload_n K 0 dX12_reads_181 rfl rfl ?_
      refine w_getI K vc12 inX12 9 (by decide) mF_RX12_124 dX12_reads_182 H (fun x7 H => ?_)
      refine r_iconst (v := 1) K dX12_reads_185 (by decide) ?_
      refine r_iadd K dX12_reads_186 ?_
      refine w_iald K dX12_reads_187 H (fun x8 H => ?_)
      refine w_icmp_lt K 197 dX12_reads_188 (by decide) H (fun _ H => ?_) (fun _ H => ?_)
      · exact r_sub [0, 1, 2] rfl (t_X12_reads_197 K hl H D)
      · obtain ⟨z2, H2, rfl⟩ := jmap H
        exact r_sub [0] rfl (t_X12_reads_191 K hl H2 D)
set_option maxRecDepth 10000 in
theorem t_X12_reads_87 {X : jX} {l : Launch} {n : Nat} {Y : jY} (K : jOK X RX12 cX12_reads 4 (some .int) 3) (hl : X.2.1 = l) {rr : Int32} {μr : jM} {v0 : Nat} {v1 : Int32} {v2 : Int32} {t0 : Int32} {t1 : Int32} {t2 : Int32} {μ : jM} {z : ((Int32 × Int32 × jM) ⊕ (Int32 × jM))} (H : b_X12_reads_87 Y v0 v1 v2 t0 t1 t2 μ = some z) (D : Sum.elim (fun (s : Int32 × Int32 × jM) => JW X (jEnd X n Y (some (.int rr)) μr 0 0) 0 0 n Y 17 [(0, .ref v0), (1, .int v1), (2, .int s.1), (3, .int s.2.1)] [] s.2.2) (fun r => r = (rr, μr)) z) : JW X (jEnd X n Y (some (.int rr)) μr 0 0) 0 0 n Y 87 [(0, .ref v0), (1, .int v1), (2, .int v2)] [.int t2, .int t1, .int t0] μ := by
  unfold b_X12_reads_87 at H
  refine w_callS K hl H (fun r h => c_X12_in l h) mC_yX12_in mM_RX12_134 mT_yX12_in mZ_RX12 (Nat.le_of_ble_eq_true rfl) (Nat.le_of_ble_eq_true rfl) np_yX12_in rfl (Nat.le_of_ble_eq_true rfl) dX12_reads_87 (fun r1 H => ?_) ⟨Nat.zero_le _, Nat.zero_le _⟩
  refine w_if_ne K 99 dX12_reads_90 (by decide) H (fun _ H => ?_) (fun _ H => ?_)
  · refine r_aload_n K 0 dX12_reads_99 rfl rfl ?_
    refine w_getI K vc12 inX12 9 (by decide) mF_RX12_124 dX12_reads_100 H (fun x2 H => ?_)
    refine r_aload_n K 0 dX12_reads_103 rfl rfl ?_
    refine w_getI K vc12 inX12 8 (by decide) mF_RX12_121 dX12_reads_104 H (fun x3 H => ?_)
    refine r_iconst (v := 1) K dX12_reads_107 (by decide) ?_
    refine r_isub K dX12_reads_108 ?_
    refine w_icmp_ne K 118 dX12_reads_109 (by decide) H (fun _ H => ?_) (fun _ H => ?_)
    · refine r_iload_n K 1 dX12_reads_118 rfl rfl ?_
      refine w_if_eq K 153 dX12_reads_119 (by decide) H (fun _ H => ?_) (fun _ H => ?_)
      · exact r_sub [0, 1, 2] rfl (t_X12_reads_153 K hl H D)
      · refine r_aload_n K 0 dX12_reads_122 rfl rfl ?_
        refine w_getI K vc12 inX12 9 (by decide) mF_RX12_124 dX12_reads_123 H (fun x4 H => ?_)
        refine w_if_le K 153 dX12_reads_126 (by decide) H (fun _ H => ?_) (fun _ H => ?_)
        · exact r_sub [0, 1, 2] rfl (t_X12_reads_153 K hl H D)
        · refine r_aload_n K 0 dX12_reads_129 rfl rfl ?_
          refine w_getI K vc12 inX12 5 (by decide) mF_RX12_118 dX12_reads_130 H (fun x5 H => ?_)
          refine r_aload_n K 0 dX12_reads_133 rfl rfl ?_
          refine w_getO K vc12 inX12 7 (by decide) mF_RX12_17 dX12_reads_134 H (fun x6 H => ?_)
          refine r_aload_n K 0 dX12_reads_137 rfl rfl ?_
          refine w_getI K vc12 inX12 9 (by decide) mF_RX12_124 dX12_reads_138 H (fun x7 H => ?_)
          refine r_iconst (v := 1) K dX12_reads_141 (by decide) ?_
          refine r_isub K dX12_reads_142 ?_
          refine w_iald K dX12_reads_143 H (fun x8 H => ?_)
          refine w_icmp_gt K 153 dX12_reads_144 (by decide) H (fun _ H => ?_) (fun _ H => ?_)
          · exact r_sub [0, 1, 2] rfl (t_X12_reads_153 K hl H D)
          · refine r_aload_n K 0 dX12_reads_147 rfl rfl ?_
            refine r_iconst (v := 4) K dX12_reads_148 (by decide) ?_
            refine w_callV K hl H (fun r h => c_X12_wrong l h) mC_yX12_wrong mM_RX12_131 mI_yX12_wrong mS_yX12_wrong mZ_RX12 vc12 (Nat.le_of_ble_eq_true rfl) (Nat.le_of_ble_eq_true rfl) np_yX12_wrong rfl (Nat.le_of_ble_eq_true rfl) dX12_reads_149 (fun r9 H => ?_) ⟨Nat.zero_le _, Nat.zero_le _⟩
            cases H
            simp only [Sum.elim_inr] at D
            obtain ⟨rfl, rfl⟩ := jfin2 D
            exact r_iret K dX12_reads_152
    · refine r_aload_n K 0 dX12_reads_112 rfl rfl ?_
      refine r_iconst (v := 3) K dX12_reads_113 (by decide) ?_
      refine w_callV K hl H (fun r h => c_X12_wrong l h) mC_yX12_wrong mM_RX12_131 mI_yX12_wrong mS_yX12_wrong mZ_RX12 vc12 (Nat.le_of_ble_eq_true rfl) (Nat.le_of_ble_eq_true rfl) np_yX12_wrong rfl (Nat.le_of_ble_eq_true rfl) dX12_reads_114 (fun r10 H => ?_) ⟨Nat.zero_le _, Nat.zero_le _⟩
      cases H
      simp only [Sum.elim_inr] at D
      obtain ⟨rfl, rfl⟩ := jfin2 D
      exact r_iret K dX12_reads_117
  · refine r_aload_n K 0 dX12_reads_93 rfl rfl ?_
    refine r_iconst (v := 2) K dX12_reads_94 (by decide) ?_
    refine w_callV K hl H (fun r h => c_X12_wrong l h) mC_yX12_wrong mM_RX12_131 mI_yX12_wrong mS_yX12_wrong mZ_RX12 vc12 (Nat.le_of_ble_eq_true rfl) (Nat.le_of_ble_eq_true rfl) np_yX12_wrong rfl (Nat.le_of_ble_eq_true rfl) dX12_reads_95 (fun r11 H => ?_) ⟨Nat.zero_le _, Nat.zero_le _⟩
    cases H
    simp only [Sum.elim_inr] at D
    obtain ⟨rfl, rfl⟩ := jfin2 D
    exact r_iret K dX12_reads_98
set_option maxRecDepth 10000 in
theorem t_X12_reads_76 {X : jX} {l : Launch} {n : Nat} {Y : jY} (K : jOK X RX12 cX12_reads 4 (some .int) 3) (hl : X.2.1 = l) {rr : Int32} {μr : jM} {v0 : Nat} {v1 : Int32} {v2 : Int32} {t0 : Int32} {t1 : Int32} {μ : jM} {z : ((Int32 × Int32 × jM) ⊕ (Int32 × jM))} (H : b_X12_reads_76 Y v0 v1 v2 t0 t1 μ = some z) (D : Sum.elim (fun (s : Int32 × Int32 × jM) => JW X (jEnd X n Y (some (.int rr)) μr 0 0) 0 0 n Y 17 [(0, .ref v0), (1, .int v1), (2, .int s.1), (3, .int s.2.1)] [] s.2.2) (fun r => r = (rr, μr)) z) : JW X (jEnd X n Y (some (.int rr)) μr 0 0) 0 0 n Y 76 [(0, .ref v0), (1, .int v1), (2, .int v2)] [.int t1, .int t0] μ := by
  unfold b_X12_reads_76 at H
  refine r_iload_n K 1 dX12_reads_76 rfl rfl ?_
  refine w_if_eq K 85 dX12_reads_77 (by decide) H (fun _ H => ?_) (fun _ H => ?_)
  · refine r_bipush (v := 36) K dX12_reads_85 (by decide) ?_
    exact r_sub [0, 1, 2] rfl (t_X12_reads_87 K hl H D)
  · refine r_bipush (v := 6) K dX12_reads_80 (by decide) ?_
    refine r_goto K 87 dX12_reads_82 (by decide) ?_
    exact r_sub [0, 1, 2] rfl (t_X12_reads_87 K hl H D)
set_option maxRecDepth 10000 in
theorem t_X12_reads_48 {X : jX} {l : Launch} {n : Nat} {Y : jY} (K : jOK X RX12 cX12_reads 4 (some .int) 3) (hl : X.2.1 = l) {rr : Int32} {μr : jM} {v0 : Nat} {v1 : Int32} {v2 : Int32} {v3 : Int32} {μ : jM} {z : ((Int32 × Int32 × jM) ⊕ (Int32 × jM))} (H : b_X12_reads_48 Y v0 v1 v2 v3 μ = some z) (D : Sum.elim (fun (s : Int32 × Int32 × jM) => JW X (jEnd X n Y (some (.int rr)) μr 0 0) 0 0 n Y 17 [(0, .ref v0), (1, .int v1), (2, .int s.1), (3, .int s.2.1)] [] s.2.2) (fun r => r = (rr, μr)) z) : JW X (jEnd X n Y (some (.int rr)) μr 0 0) 0 0 n Y 48 [(0, .ref v0), (1, .int v1), (2, .int v2), (3, .int v3)] [] μ := by
  unfold b_X12_reads_48 at H
  refine r_iload_n K 3 dX12_reads_48 rfl rfl ?_
  refine r_iconst (v := 2) K dX12_reads_49 (by decide) ?_
  refine w_icmp_ne K 58 dX12_reads_50 (by decide) H (fun _ H => ?_) (fun _ H => ?_)
  · refine r_iload_n K 2 dX12_reads_58 rfl rfl ?_
    refine w_if_eq K 223 dX12_reads_59 (by decide) H (fun _ H => ?_) (fun _ H => ?_)
    · refine r_aload_n K 0 dX12_reads_223 rfl rfl ?_
      refine w_getI K vc12 inX12 5 (by decide) mF_RX12_118 dX12_reads_224 H (fun x1 H => ?_)
      refine r_bipush (v := -6) K dX12_reads_227 (by decide) ?_
      refine r_bipush (v := 6) K dX12_reads_229 (by decide) ?_
      refine w_callS K hl H (fun r h => c_X12_in l h) mC_yX12_in mM_RX12_134 mT_yX12_in mZ_RX12 (Nat.le_of_ble_eq_true rfl) (Nat.le_of_ble_eq_true rfl) np_yX12_in rfl (Nat.le_of_ble_eq_true rfl) dX12_reads_231 (fun r2 H => ?_) ⟨Nat.zero_le _, Nat.zero_le _⟩
      refine w_if_ne K 243 dX12_reads_234 (by decide) H (fun _ H => ?_) (fun _ H => ?_)
      · refine r_aload_n K 0 dX12_reads_243 rfl rfl ?_
        refine w_getI K vc12 inX12 8 (by decide) mF_RX12_121 dX12_reads_244 H (fun x3 H => ?_)
        refine r_iload_n K 1 dX12_reads_247 rfl rfl ?_
        refine w_if_eq K 255 dX12_reads_248 (by decide) H (fun _ H => ?_) (fun _ H => ?_)
        · refine r_iconst (v := 5) K dX12_reads_255 (by decide) ?_
          exact r_sub [0, 1, 2] rfl (t_X12_reads_256 K hl H D)
        · refine r_iconst (v := 4) K dX12_reads_251 (by decide) ?_
          refine r_goto K 256 dX12_reads_252 (by decide) ?_
          exact r_sub [0, 1, 2] rfl (t_X12_reads_256 K hl H D)
      · refine r_aload_n K 0 dX12_reads_237 rfl rfl ?_
        refine r_iconst (v := 2) K dX12_reads_238 (by decide) ?_
        refine w_callV K hl H (fun r h => c_X12_wrong l h) mC_yX12_wrong mM_RX12_131 mI_yX12_wrong mS_yX12_wrong mZ_RX12 vc12 (Nat.le_of_ble_eq_true rfl) (Nat.le_of_ble_eq_true rfl) np_yX12_wrong rfl (Nat.le_of_ble_eq_true rfl) dX12_reads_239 (fun r4 H => ?_) ⟨Nat.zero_le _, Nat.zero_le _⟩
        cases H
        simp only [Sum.elim_inr] at D
        obtain ⟨rfl, rfl⟩ := jfin2 D
        exact r_iret K dX12_reads_242
    · refine r_aload_n K 0 dX12_reads_62 rfl rfl ?_
      refine w_getI K vc12 inX12 5 (by decide) mF_RX12_118 dX12_reads_63 H (fun x5 H => ?_)
      refine r_iload_n K 1 dX12_reads_66 rfl rfl ?_
      refine w_if_eq K 75 dX12_reads_67 (by decide) H (fun _ H => ?_) (fun _ H => ?_)
      · refine r_iconst (v := 1) K dX12_reads_75 (by decide) ?_
        exact r_sub [0, 1, 2] rfl (t_X12_reads_76 K hl H D)
      · refine r_bipush (v := -6) K dX12_reads_70 (by decide) ?_
        refine r_goto K 76 dX12_reads_72 (by decide) ?_
        exact r_sub [0, 1, 2] rfl (t_X12_reads_76 K hl H D)
  · refine r_iconst (v := 1) K dX12_reads_53 (by decide) ?_
    refine r_istore_n K [(2, .int _), (0, .ref _), (1, .int _), (3, .int _)] dX12_reads_54 rfl (by decide) rfl ?_
    refine r_goto K 323 dX12_reads_55 (by decide) ?_
    exact r_sub [1, 2, 0] rfl (t_X12_reads_323 K hl H D)
set_option maxRecDepth 10000 in
theorem t_X12_reads_17 {X : jX} {l : Launch} {n : Nat} {Y : jY} (K : jOK X RX12 cX12_reads 4 (some .int) 3) (hl : X.2.1 = l) {rr : Int32} {μr : jM} {v0 : Nat} {v1 : Int32} {v2 : Int32} {v3 : Int32} {μ : jM} {z : ((Int32 × Int32 × jM) ⊕ (Int32 × jM))} (H : b_X12_reads_17 Y v0 v1 v2 v3 μ = some z) (D : Sum.elim (fun (s : Int32 × Int32 × jM) => JW X (jEnd X n Y (some (.int rr)) μr 0 0) 0 0 n Y 17 [(0, .ref v0), (1, .int v1), (2, .int s.1), (3, .int s.2.1)] [] s.2.2) (fun r => r = (rr, μr)) z) : JW X (jEnd X n Y (some (.int rr)) μr 0 0) 0 0 n Y 17 [(0, .ref v0), (1, .int v1), (2, .int v2), (3, .int v3)] [] μ := by
  unfold b_X12_reads_17 at H
  refine r_iload_n K 3 dX12_reads_17 rfl rfl ?_
  refine w_if_eq K 331 dX12_reads_18 (by decide) H (fun _ H => ?_) (fun _ H => ?_)
  · refine r_iload_n K 2 dX12_reads_331 rfl rfl ?_
    refine w_if_eq K 348 dX12_reads_332 (by decide) H (fun _ H => ?_) (fun _ H => ?_)
    · obtain ⟨z2, H2, rfl⟩ := jmap H
      exact r_sub [0] rfl (t_X12_reads_348 K hl H2 D)
    · refine r_aload_n K 0 dX12_reads_335 rfl rfl ?_
      refine w_getI K vc12 inX12 9 (by decide) mF_RX12_124 dX12_reads_336 H (fun x1 H => ?_)
      refine r_aload_n K 0 dX12_reads_339 rfl rfl ?_
      refine w_getI K vc12 inX12 8 (by decide) mF_RX12_121 dX12_reads_340 H (fun x2 H => ?_)
      refine r_iconst (v := 1) K dX12_reads_343 (by decide) ?_
      refine r_isub K dX12_reads_344 ?_
      refine w_icmp_ge K 356 dX12_reads_345 (by decide) H (fun _ H => ?_) (fun _ H => ?_)
      · refine r_iconst (v := 0) K dX12_reads_356 (by decide) ?_
        obtain ⟨z2, H2, rfl⟩ := jmap H
        exact r_sub [] rfl (t_X12_reads_357 K hl H2 D)
      · obtain ⟨z2, H2, rfl⟩ := jmap H
        exact r_sub [0] rfl (t_X12_reads_348 K hl H2 D)
  · refine r_iload_n K 3 dX12_reads_21 rfl rfl ?_
    refine r_iconst (v := 3) K dX12_reads_22 (by decide) ?_
    refine w_icmp_eq K 42 dX12_reads_23 (by decide) H (fun _ H => ?_) (fun _ H => ?_)
    · obtain ⟨z2, H2, rfl⟩ := jmap H
      exact r_sub [0] rfl (t_X12_reads_42 K hl H2 D)
    · refine r_iload_n K 3 dX12_reads_26 rfl rfl ?_
      refine r_iconst (v := 2) K dX12_reads_27 (by decide) ?_
      refine w_icmp_ne K 48 dX12_reads_28 (by decide) H (fun _ H => ?_) (fun _ H => ?_)
      · exact r_sub [0, 1, 2, 3] rfl (t_X12_reads_48 K hl H D)
      · refine r_iload_n K 2 dX12_reads_31 rfl rfl ?_
        refine w_if_ne K 42 dX12_reads_32 (by decide) H (fun _ H => ?_) (fun _ H => ?_)
        · obtain ⟨z2, H2, rfl⟩ := jmap H
          exact r_sub [0] rfl (t_X12_reads_42 K hl H2 D)
        · refine r_aload_n K 0 dX12_reads_35 rfl rfl ?_
          refine w_getI K vc12 inX12 8 (by decide) mF_RX12_121 dX12_reads_36 H (fun x3 H => ?_)
          refine w_if_ne K 48 dX12_reads_39 (by decide) H (fun _ H => ?_) (fun _ H => ?_)
          · exact r_sub [0, 1, 2, 3] rfl (t_X12_reads_48 K hl H D)
          · obtain ⟨z2, H2, rfl⟩ := jmap H
            exact r_sub [0] rfl (t_X12_reads_42 K hl H2 D)
set_option maxRecDepth 10000 in
theorem l_X12_reads_17 {X : jX} {l : Launch} {n : Nat} {Y : jY} (K : jOK X RX12 cX12_reads 4 (some .int) 3) (hl : X.2.1 = l) {rr : Int32} {μr : jM} {v0 : Nat} {v1 : Int32}  {s0 : Int32 × Int32 × jM} {z : (Int32 × jM)} (H : jit jF (fun (s : Int32 × Int32 × jM) => b_X12_reads_17 Y v0 v1 s.1 s.2.1 s.2.2) s0 = some z) (D : z = (rr, μr)) : JW X (jEnd X n Y (some (.int rr)) μr 0 0) 0 0 n Y 17 [(0, .ref v0), (1, .int v1), (2, .int s0.1), (3, .int s0.2.1)] [] s0.2.2 :=
  jit_ind (P := fun (s : Int32 × Int32 × jM) => JW X (jEnd X n Y (some (.int rr)) μr 0 0) 0 0 n Y 17 [(0, .ref v0), (1, .int v1), (2, .int s.1), (3, .int s.2.1)] [] s.2.2) (D := fun r => r = (rr, μr)) (fun s z Hs Ds => t_X12_reads_17 K hl Hs Ds) jF s0 z H D
set_option maxRecDepth 10000 in
theorem t_X12_reads_0 {X : jX} {l : Launch} {n : Nat} {Y : jY} (K : jOK X RX12 cX12_reads 4 (some .int) 3) (hl : X.2.1 = l) {rr : Int32} {μr : jM} {v0 : Nat} {v1 : Int32} {μ : jM} {z : (Int32 × jM)} (H : f_X12_reads Y v0 v1 μ = some z) (D : z = (rr, μr)) : JW X (jEnd X n Y (some (.int rr)) μr 0 0) 0 0 n Y 0 [(0, .ref v0), (1, .int v1)] [] μ := by
  unfold f_X12_reads at H
  refine r_aload_n K 0 dX12_reads_0 rfl rfl ?_
  refine r_iconst (v := 0) K dX12_reads_1 (by decide) ?_
  refine w_put K vc12 inX12 tyX12_ok nmX12 8 (by decide) mF_RX12_121 rfl (fun _ => rfl) (fun _ => rfl) dX12_reads_2 H (fun μ1 H => ?_)
  refine r_aload_n K 0 dX12_reads_5 rfl rfl ?_
  refine r_iconst (v := 0) K dX12_reads_6 (by decide) ?_
  refine w_put K vc12 inX12 tyX12_ok nmX12 9 (by decide) mF_RX12_124 rfl (fun _ => rfl) (fun _ => rfl) dX12_reads_7 H (fun μ2 H => ?_)
  refine r_iconst (v := 0) K dX12_reads_10 (by decide) ?_
  refine r_istore_n K [(2, .int _), (0, .ref _), (1, .int _)] dX12_reads_11 rfl (by decide) rfl ?_
  refine r_aload_n K 1 dX12_reads_12 rfl rfl ?_
  refine w_callV K hl H (fun r h => c_X12_token l h) mC_yX12_token mM_RX12_127 mI_yX12_token mS_yX12_token mZ_RX12 vc12 (Nat.le_of_ble_eq_true rfl) (Nat.le_of_ble_eq_true rfl) np_yX12_token rfl (Nat.le_of_ble_eq_true rfl) dX12_reads_13 (fun r3 H => ?_) ⟨Nat.zero_le _, Nat.zero_le _⟩
  refine r_istore_n K [(3, .int _), (2, .int _), (0, .ref _), (1, .int _)] dX12_reads_16 rfl (by decide) rfl ?_
  exact r_sub [2, 3, 1, 0] rfl (l_X12_reads_17 K hl H D)
theorem c_X12_reads (l : Launch) {n : Nat} {Y : jY} {v0 : Nat} {v1 : Int32} {μ : jM} {z : Int32 × jM} (H : f_X12_reads Y v0 v1 μ = some z) : jC l yX12_reads cX12_reads 4 (some .int) 3 0 0 [.ref v0, .int v1] n Y μ n Y (some (.int z.1)) z.2 := by
  refine jC_of (by decide +kernel) (Nat.le_of_ble_eq_true rfl) (fun X hl K _ _ _ => ?_)
  obtain ⟨rr, μr⟩ := z
  exact t_X12_reads_0 K hl H rfl
/-! RX12 tones(I)I -/
def b_X12_tones_18 (Y : jY) (μ : jM) : Option (Int32 × jM) :=
  some ((-1 : Int32), μ)
def b_X12_tones_76 (Y : jY) (v0 : Nat) (v3 : Int32) (μ : jM) : Option ((Int32 × jM) ⊕ (Int32 × jM)) :=
  (jgI Y μ v0 12 10).bind fun x1 =>
  if ((x1 - ((1 : Int32)))) ≤ v3 then
    (jgI Y μ v0 12 10).bind fun x2 =>
    some (.inr (x2, μ))
  else
    (jgO Y μ v0 12 12).bind fun x3 =>
    (jgO Y μ v0 12 7).bind fun x4 =>
    (jaI Y μ x4 20 v3).bind fun x5 =>
    (jas Y μ x3 20 v3 (.int x5)).bind fun μ6 =>
    some (.inl ((v3 + (1 : Int32)), μ6))
def b_X12_tones_48 (Y : jY) (v0 : Nat) (v3 : Int32) (μ : jM) : Option ((Int32 × jM) ⊕ (Int32 × jM)) :=
  (jgI Y μ v0 12 10).bind fun x1 =>
  if x1 ≤ v3 then
    (jit jF (fun (s : Int32 × jM) => b_X12_tones_76 Y v0 s.1 s.2) ((0 : Int32), μ)).map (fun r => (.inr r))
  else
    (jgO Y μ v0 12 11).bind fun x2 =>
    (jgO Y μ v0 12 6).bind fun x3 =>
    (jaI Y μ x3 20 v3).bind fun x4 =>
    (jas Y μ x2 20 v3 (.int x4)).bind fun μ5 =>
    some (.inl ((v3 + (1 : Int32)), μ5))
def f_X12_tones (Y : jY) (v0 : Nat) (v1 : Int32) (μ : jM) : Option (Int32 × jM) :=
  (f_X12_in Y v1 ((1 : Int32)) ((60 : Int32)) μ).bind fun r1 =>
  if r1.1 = 0 then
    b_X12_tones_18 Y r1.2
  else
    (jgI Y r1.2 v0 12 1).bind fun x2 =>
    if v1 ≤ x2 then
      (jrcv Y v0 12 (f_X12_begins Y v0 v1 r1.2)).bind fun r3 =>
      (jrcv Y v0 12 (f_X12_reads Y v0 ((1 : Int32)) r3.2)).bind fun r4 =>
      if 0 ≤ r4.1 then
        (jgI Y r4.2 v0 12 8).bind fun x5 =>
        (jput Y r4.2 v0 12 10 (.int x5)).bind fun μ6 =>
        jit jF (fun (s : Int32 × jM) => b_X12_tones_48 Y v0 s.1 s.2) ((0 : Int32), μ6)
      else
        some (r4.1, r4.2)
    else
      b_X12_tones_18 Y r1.2
set_option maxRecDepth 10000 in
theorem t_X12_tones_18 {X : jX} {l : Launch} {n : Nat} {Y : jY} (K : jOK X RX12 cX12_tones 4 (some .int) 4) (hl : X.2.1 = l) {rr : Int32} {μr : jM} {μ : jM} {z : (Int32 × jM)} (H : b_X12_tones_18 Y μ = some z) (D : z = (rr, μr)) : JW X (jEnd X n Y (some (.int rr)) μr 0 0) 0 0 n Y 18 [] [] μ := by
  unfold b_X12_tones_18 at H
  refine r_iconst (v := -1) K dX12_tones_18 (by decide) ?_
  cases H
  obtain ⟨rfl, rfl⟩ := jfin2 D
  exact r_iret K dX12_tones_19
set_option maxRecDepth 10000 in
theorem t_X12_tones_76 {X : jX} {l : Launch} {n : Nat} {Y : jY} (K : jOK X RX12 cX12_tones 4 (some .int) 4) (hl : X.2.1 = l) {rr : Int32} {μr : jM} {v0 : Nat} {v3 : Int32} {μ : jM} {z : ((Int32 × jM) ⊕ (Int32 × jM))} (H : b_X12_tones_76 Y v0 v3 μ = some z) (D : Sum.elim (fun (s : Int32 × jM) => JW X (jEnd X n Y (some (.int rr)) μr 0 0) 0 0 n Y 76 [(0, .ref v0), (3, .int s.1)] [] s.2) (fun r => r = (rr, μr)) z) : JW X (jEnd X n Y (some (.int rr)) μr 0 0) 0 0 n Y 76 [(0, .ref v0), (3, .int v3)] [] μ := by
  unfold b_X12_tones_76 at H
  refine r_iload_n K 1 dX12_tones_76 rfl rfl ?_
  refine r_aload_n K 0 dX12_tones_77 rfl rfl ?_
  refine w_getI K vc12 inX12 10 (by decide) mF_RX12_145 dX12_tones_78 H (fun x1 H => ?_)
  refine r_iconst (v := 1) K dX12_tones_81 (by decide) ?_
  refine r_isub K dX12_tones_82 ?_
  refine w_icmp_ge K 104 dX12_tones_83 (by decide) H (fun _ H => ?_) (fun _ H => ?_)
  · refine r_aload_n K 0 dX12_tones_104 rfl rfl ?_
    refine w_getI K vc12 inX12 10 (by decide) mF_RX12_145 dX12_tones_105 H (fun x2 H => ?_)
    cases H
    simp only [Sum.elim_inr] at D
    obtain ⟨rfl, rfl⟩ := jfin2 D
    exact r_iret K dX12_tones_108
  · refine r_aload_n K 0 dX12_tones_86 rfl rfl ?_
    refine w_getO K vc12 inX12 12 (by decide) mF_RX12_23 dX12_tones_87 H (fun x3 H => ?_)
    refine r_iload_n K 1 dX12_tones_90 rfl rfl ?_
    refine r_aload_n K 0 dX12_tones_91 rfl rfl ?_
    refine w_getO K vc12 inX12 7 (by decide) mF_RX12_17 dX12_tones_92 H (fun x4 H => ?_)
    refine r_iload_n K 1 dX12_tones_95 rfl rfl ?_
    refine w_iald K dX12_tones_96 H (fun x5 H => ?_)
    refine w_iast K dX12_tones_97 H (fun μ6 H => ?_)
    refine r_iinc K 1 [(3, .int _), (0, .ref _)] (v := _ + (1 : Int32)) dX12_tones_98 rfl rfl (by decide) rfl ?_
    refine r_goto K 76 dX12_tones_101 (by decide) ?_
    cases H
    exact r_sub [1, 0] rfl D
set_option maxRecDepth 10000 in
theorem l_X12_tones_76 {X : jX} {l : Launch} {n : Nat} {Y : jY} (K : jOK X RX12 cX12_tones 4 (some .int) 4) (hl : X.2.1 = l) {rr : Int32} {μr : jM} {v0 : Nat}  {s0 : Int32 × jM} {z : (Int32 × jM)} (H : jit jF (fun (s : Int32 × jM) => b_X12_tones_76 Y v0 s.1 s.2) s0 = some z) (D : z = (rr, μr)) : JW X (jEnd X n Y (some (.int rr)) μr 0 0) 0 0 n Y 76 [(0, .ref v0), (3, .int s0.1)] [] s0.2 :=
  jit_ind (P := fun (s : Int32 × jM) => JW X (jEnd X n Y (some (.int rr)) μr 0 0) 0 0 n Y 76 [(0, .ref v0), (3, .int s.1)] [] s.2) (D := fun r => r = (rr, μr)) (fun s z Hs Ds => t_X12_tones_76 K hl Hs Ds) jF s0 z H D
set_option maxRecDepth 10000 in
theorem t_X12_tones_48 {X : jX} {l : Launch} {n : Nat} {Y : jY} (K : jOK X RX12 cX12_tones 4 (some .int) 4) (hl : X.2.1 = l) {rr : Int32} {μr : jM} {v0 : Nat} {v3 : Int32} {μ : jM} {z : ((Int32 × jM) ⊕ (Int32 × jM))} (H : b_X12_tones_48 Y v0 v3 μ = some z) (D : Sum.elim (fun (s : Int32 × jM) => JW X (jEnd X n Y (some (.int rr)) μr 0 0) 0 0 n Y 48 [(0, .ref v0), (3, .int s.1)] [] s.2) (fun r => r = (rr, μr)) z) : JW X (jEnd X n Y (some (.int rr)) μr 0 0) 0 0 n Y 48 [(0, .ref v0), (3, .int v3)] [] μ := by
  unfold b_X12_tones_48 at H
  refine r_iload_n K 1 dX12_tones_48 rfl rfl ?_
  refine r_aload_n K 0 dX12_tones_49 rfl rfl ?_
  refine w_getI K vc12 inX12 10 (by decide) mF_RX12_145 dX12_tones_50 H (fun x1 H => ?_)
  refine w_icmp_ge K 74 dX12_tones_53 (by decide) H (fun _ H => ?_) (fun _ H => ?_)
  · refine r_iconst (v := 0) K dX12_tones_74 (by decide) ?_
    refine r_istore_n K [(3, .int _), (0, .ref _)] dX12_tones_75 rfl (by decide) rfl ?_
    obtain ⟨z2, H2, rfl⟩ := jmap H
    exact r_sub [1, 0] rfl (l_X12_tones_76 K hl H2 D)
  · refine r_aload_n K 0 dX12_tones_56 rfl rfl ?_
    refine w_getO K vc12 inX12 11 (by decide) mF_RX12_20 dX12_tones_57 H (fun x2 H => ?_)
    refine r_iload_n K 1 dX12_tones_60 rfl rfl ?_
    refine r_aload_n K 0 dX12_tones_61 rfl rfl ?_
    refine w_getO K vc12 inX12 6 (by decide) mF_RX12_13 dX12_tones_62 H (fun x3 H => ?_)
    refine r_iload_n K 1 dX12_tones_65 rfl rfl ?_
    refine w_iald K dX12_tones_66 H (fun x4 H => ?_)
    refine w_iast K dX12_tones_67 H (fun μ5 H => ?_)
    refine r_iinc K 1 [(3, .int _), (0, .ref _)] (v := _ + (1 : Int32)) dX12_tones_68 rfl rfl (by decide) rfl ?_
    refine r_goto K 48 dX12_tones_71 (by decide) ?_
    cases H
    exact r_sub [1, 0] rfl D
set_option maxRecDepth 10000 in
theorem l_X12_tones_48 {X : jX} {l : Launch} {n : Nat} {Y : jY} (K : jOK X RX12 cX12_tones 4 (some .int) 4) (hl : X.2.1 = l) {rr : Int32} {μr : jM} {v0 : Nat}  {s0 : Int32 × jM} {z : (Int32 × jM)} (H : jit jF (fun (s : Int32 × jM) => b_X12_tones_48 Y v0 s.1 s.2) s0 = some z) (D : z = (rr, μr)) : JW X (jEnd X n Y (some (.int rr)) μr 0 0) 0 0 n Y 48 [(0, .ref v0), (3, .int s0.1)] [] s0.2 :=
  jit_ind (P := fun (s : Int32 × jM) => JW X (jEnd X n Y (some (.int rr)) μr 0 0) 0 0 n Y 48 [(0, .ref v0), (3, .int s.1)] [] s.2) (D := fun r => r = (rr, μr)) (fun s z Hs Ds => t_X12_tones_48 K hl Hs Ds) jF s0 z H D
set_option maxRecDepth 10000 in
theorem t_X12_tones_0 {X : jX} {l : Launch} {n : Nat} {Y : jY} (K : jOK X RX12 cX12_tones 4 (some .int) 4) (hl : X.2.1 = l) {rr : Int32} {μr : jM} {v0 : Nat} {v1 : Int32} {μ : jM} {z : (Int32 × jM)} (H : f_X12_tones Y v0 v1 μ = some z) (D : z = (rr, μr)) : JW X (jEnd X n Y (some (.int rr)) μr 0 0) 0 0 n Y 0 [(0, .ref v0), (1, .int v1)] [] μ := by
  unfold f_X12_tones at H
  refine r_iload_n K 1 dX12_tones_0 rfl rfl ?_
  refine r_iconst (v := 1) K dX12_tones_1 (by decide) ?_
  refine r_bipush (v := 60) K dX12_tones_2 (by decide) ?_
  refine w_callS K hl H (fun r h => c_X12_in l h) mC_yX12_in mM_RX12_134 mT_yX12_in mZ_RX12 (Nat.le_of_ble_eq_true rfl) (Nat.le_of_ble_eq_true rfl) np_yX12_in rfl (Nat.le_of_ble_eq_true rfl) dX12_tones_4 (fun r1 H => ?_) ⟨Nat.zero_le _, Nat.zero_le _⟩
  refine w_if_eq K 18 dX12_tones_7 (by decide) H (fun _ H => ?_) (fun _ H => ?_)
  · exact r_sub [] rfl (t_X12_tones_18 K hl H D)
  · refine r_iload_n K 1 dX12_tones_10 rfl rfl ?_
    refine r_aload_n K 0 dX12_tones_11 rfl rfl ?_
    refine w_getI K vc12 inX12 1 (by decide) mF_RX12_93 dX12_tones_12 H (fun x2 H => ?_)
    refine w_icmp_le K 20 dX12_tones_15 (by decide) H (fun _ H => ?_) (fun _ H => ?_)
    · refine r_aload_n K 0 dX12_tones_20 rfl rfl ?_
      refine r_iload_n K 1 dX12_tones_21 rfl rfl ?_
      refine w_callV K hl H (fun r h => c_X12_begins l h) mC_yX12_begins mM_RX12_138 mI_yX12_begins mS_yX12_begins mZ_RX12 vc12 (Nat.le_of_ble_eq_true rfl) (Nat.le_of_ble_eq_true rfl) np_yX12_begins rfl (Nat.le_of_ble_eq_true rfl) dX12_tones_22 (fun r3 H => ?_) ⟨Nat.zero_le _, Nat.zero_le _⟩
      refine r_pop K dX12_tones_25 rfl ?_
      refine r_aload_n K 0 dX12_tones_26 rfl rfl ?_
      refine r_iconst (v := 1) K dX12_tones_27 (by decide) ?_
      refine w_callV K hl H (fun r h => c_X12_reads l h) mC_yX12_reads mM_RX12_141 mI_yX12_reads mS_yX12_reads mZ_RX12 vc12 (Nat.le_of_ble_eq_true rfl) (Nat.le_of_ble_eq_true rfl) np_yX12_reads rfl (Nat.le_of_ble_eq_true rfl) dX12_tones_28 (fun r4 H => ?_) ⟨Nat.zero_le _, Nat.zero_le _⟩
      refine r_istore_n K [(2, .int _), (0, .ref _), (1, .int _)] dX12_tones_31 rfl (by decide) rfl ?_
      refine r_iload_n K 0 dX12_tones_32 rfl rfl ?_
      refine w_if_ge K 38 dX12_tones_33 (by decide) H (fun _ H => ?_) (fun _ H => ?_)
      · refine r_aload_n K 1 dX12_tones_38 rfl rfl ?_
        refine r_aload_n K 1 dX12_tones_39 rfl rfl ?_
        refine w_getI K vc12 inX12 8 (by decide) mF_RX12_121 dX12_tones_40 H (fun x5 H => ?_)
        refine w_put K vc12 inX12 tyX12_ok nmX12 10 (by decide) mF_RX12_145 rfl (fun _ => rfl) (fun _ => rfl) dX12_tones_43 H (fun μ6 H => ?_)
        refine r_iconst (v := 0) K dX12_tones_46 (by decide) ?_
        refine r_istore_n K [(3, .int _), (2, .int _), (0, .ref _), (1, .int _)] dX12_tones_47 rfl (by decide) rfl ?_
        exact r_sub [2, 0] rfl (l_X12_tones_48 K hl H D)
      · refine r_iload_n K 0 dX12_tones_36 rfl rfl ?_
        cases H
        obtain ⟨rfl, rfl⟩ := jfin2 D
        exact r_iret K dX12_tones_37
    · exact r_sub [] rfl (t_X12_tones_18 K hl H D)
theorem c_X12_tones (l : Launch) {n : Nat} {Y : jY} {v0 : Nat} {v1 : Int32} {μ : jM} {z : Int32 × jM} (H : f_X12_tones Y v0 v1 μ = some z) : jC l yX12_tones cX12_tones 4 (some .int) 4 0 0 [.ref v0, .int v1] n Y μ n Y (some (.int z.1)) z.2 := by
  refine jC_of (by decide +kernel) (Nat.le_of_ble_eq_true rfl) (fun X hl K _ _ _ => ?_)
  obtain ⟨rr, μr⟩ := z
  exact t_X12_tones_0 K hl H rfl
/-! RX12 goes(III)V -/
def b_X12_goes_154 (Y : jY) (v0 : Nat) (v1 : Int32) (v2 : Int32) (v4 : Int32) (v5 : Int32) (v6 : Int32) (μ : jM) : Option ((Int32 × jM) ⊕ ((Int32 × jM) ⊕ (jM))) :=
  if v4 ≤ v6 then
    some (.inr (.inl ((v5 + (1 : Int32)), μ)))
  else
    (jgO Y μ v0 12 37).bind fun x1 =>
    (jgO Y μ v0 12 38).bind fun x2 =>
    (jaL Y μ x2 21 v6).bind fun x3 =>
    (jas Y μ x1 21 v6 (.long x3)).bind fun μ4 =>
    some (.inl ((v6 + (1 : Int32)), μ4))
def b_X12_goes_144 (Y : jY) (v0 : Nat) (v1 : Int32) (v2 : Int32) (v4 : Int32) (v5 : Int32) (v6 : Int32) (t0 : Nat) (t1 : Int32) (t2 : Int64) (μ : jM) : Option ((Int32 × jM) ⊕ ((Int32 × jM) ⊕ (jM))) :=
  (jas Y μ t0 21 t1 (.long t2)).bind fun μ1 =>
  some (.inl ((v6 + (1 : Int32)), μ1))
def b_X12_goes_101 (Y : jY) (v0 : Nat) (v1 : Int32) (v2 : Int32) (v4 : Int32) (v5 : Int32) (v6 : Int32) (t0 : Int64) (μ : jM) : Option ((Int32 × jM) ⊕ ((Int32 × jM) ⊕ (jM))) :=
  (jgO Y μ v0 12 38).bind fun x1 =>
  if ((v4 - ((1 : Int32)))) ≤ v6 then
    b_X12_goes_144 Y v0 v1 v2 v4 v5 v6 x1 v6 t0 μ
  else
    (jgO Y μ v0 12 37).bind fun x2 =>
    (jaL Y μ x2 21 ((v6 + ((1 : Int32))))).bind fun x3 =>
    (jrcv Y v0 12 (f_X12_c Y v0 v1 v6 μ)).bind fun r4 =>
    b_X12_goes_144 Y v0 v1 v2 v4 v5 v6 x1 v6 (t0 + ((x3 * ((r4.1.toInt64))))) r4.2
def b_X12_goes_54 (Y : jY) (v0 : Nat) (v1 : Int32) (v2 : Int32) (v4 : Int32) (v5 : Int32) (v6 : Int32) (μ : jM) : Option ((Int32 × jM) ⊕ ((Int32 × jM) ⊕ (jM))) :=
  if v4 ≤ v6 then
    (jit jF (fun (s : Int32 × jM) => b_X12_goes_154 Y v0 v1 v2 v4 v5 s.1 s.2) ((0 : Int32), μ)).map (fun r => (.inr r))
  else
    (jgO Y μ v0 12 37).bind fun x1 =>
    (jaL Y μ x1 21 v6).bind fun x2 =>
    (jrcv Y v0 12 (f_X12_a Y v0 v1 v6 μ)).bind fun r3 =>
    if v6 ≤ 0 then
      b_X12_goes_101 Y v0 v1 v2 v4 v5 v6 (x2 * ((r3.1.toInt64))) r3.2
    else
      (jgO Y r3.2 v0 12 37).bind fun x4 =>
      (jaL Y r3.2 x4 21 ((v6 - ((1 : Int32))))).bind fun x5 =>
      b_X12_goes_101 Y v0 v1 v2 v4 v5 v6 (((x2 * ((r3.1.toInt64)))) + x5) r3.2
def b_X12_goes_45 (Y : jY) (v0 : Nat) (v1 : Int32) (v2 : Int32) (v4 : Int32) (v5 : Int32) (μ : jM) : Option ((Int32 × jM) ⊕ (jM)) :=
  if v2 ≤ v5 then
    some (.inr μ)
  else
    jit jF (fun (s : Int32 × jM) => b_X12_goes_54 Y v0 v1 v2 v4 v5 s.1 s.2) ((0 : Int32), μ)
def b_X12_goes_35 (Y : jY) (v0 : Nat) (v1 : Int32) (v2 : Int32) (v3 : Int32) (v4 : Int32) (v5 : Int32) (t0 : Nat) (t1 : Int32) (t2 : Int64) (μ : jM) : Option ((Int32 × jM) ⊕ (jM)) :=
  (jas Y μ t0 21 t1 (.long t2)).bind fun μ1 =>
  some (.inl ((v5 + (1 : Int32)), μ1))
def b_X12_goes_11 (Y : jY) (v0 : Nat) (v1 : Int32) (v2 : Int32) (v3 : Int32) (v4 : Int32) (v5 : Int32) (μ : jM) : Option ((Int32 × jM) ⊕ (jM)) :=
  if v4 ≤ v5 then
    (jit jF (fun (s : Int32 × jM) => b_X12_goes_45 Y v0 v1 v2 v4 s.1 s.2) ((0 : Int32), μ)).map (fun r => (.inr r))
  else
    (jgO Y μ v0 12 37).bind fun x1 =>
    if v5 = v3 then
      b_X12_goes_35 Y v0 v1 v2 v3 v4 v5 x1 v5 (1 : Int64) μ
    else
      b_X12_goes_35 Y v0 v1 v2 v3 v4 v5 x1 v5 (0 : Int64) μ
def f_X12_goes (Y : jY) (v0 : Nat) (v1 : Int32) (v2 : Int32) (v3 : Int32) (μ : jM) : Option (jM) :=
  (jgO Y μ v0 12 26).bind fun x1 =>
  (jaI Y μ x1 20 v1).bind fun x2 =>
  jit jF (fun (s : Int32 × jM) => b_X12_goes_11 Y v0 v1 v2 v3 x2 s.1 s.2) ((0 : Int32), μ)
set_option maxRecDepth 10000 in
theorem t_X12_goes_154 {X : jX} {l : Launch} {n : Nat} {Y : jY} (K : jOK X RX12 cX12_goes 9 none 2) (hl : X.2.1 = l) {μr : jM} {v0 : Nat} {v1 : Int32} {v2 : Int32} {v4 : Int32} {v5 : Int32} {v6 : Int32} {μ : jM} {z : ((Int32 × jM) ⊕ ((Int32 × jM) ⊕ (jM)))} (H : b_X12_goes_154 Y v0 v1 v2 v4 v5 v6 μ = some z) (D : Sum.elim (fun (s : Int32 × jM) => JW X (jEnd X n Y none μr 0 0) 0 0 n Y 154 [(0, .ref v0), (1, .int v1), (2, .int v2), (4, .int v4), (5, .int v5), (6, .int s.1)] [] s.2) (Sum.elim (fun (s : Int32 × jM) => JW X (jEnd X n Y none μr 0 0) 0 0 n Y 45 [(0, .ref v0), (1, .int v1), (2, .int v2), (4, .int v4), (5, .int s.1)] [] s.2) (fun r => r = μr)) z) : JW X (jEnd X n Y none μr 0 0) 0 0 n Y 154 [(0, .ref v0), (1, .int v1), (2, .int v2), (4, .int v4), (5, .int v5), (6, .int v6)] [] μ := by
  unfold b_X12_goes_154 at H
  refine r_iload K 5 dX12_goes_154 rfl ?_
  refine r_iload K 3 dX12_goes_156 rfl ?_
  refine w_icmp_ge K 181 dX12_goes_158 (by decide) H (fun _ H => ?_) (fun _ H => ?_)
  · refine r_iinc K 4 [(5, .int _), (0, .ref _), (1, .int _), (2, .int _), (4, .int _), (6, .int _)] (v := _ + (1 : Int32)) dX12_goes_181 rfl rfl (by decide) rfl ?_
    refine r_goto K 45 dX12_goes_184 (by decide) ?_
    cases H
    exact r_sub [1, 2, 3, 4, 0] rfl D
  · refine r_aload_n K 0 dX12_goes_161 rfl rfl ?_
    refine w_getO K vc12 inX12 37 (by decide) mF_RX12_81 dX12_goes_162 H (fun x1 H => ?_)
    refine r_iload K 5 dX12_goes_165 rfl ?_
    refine r_aload_n K 0 dX12_goes_167 rfl rfl ?_
    refine w_getO K vc12 inX12 38 (by decide) mF_RX12_84 dX12_goes_168 H (fun x2 H => ?_)
    refine r_iload K 5 dX12_goes_171 rfl ?_
    refine w_lald K dX12_goes_173 H (fun x3 H => ?_)
    refine w_last K dX12_goes_174 H (fun μ4 H => ?_)
    refine r_iinc K 5 [(6, .int _), (0, .ref _), (1, .int _), (2, .int _), (4, .int _), (5, .int _)] (v := _ + (1 : Int32)) dX12_goes_175 rfl rfl (by decide) rfl ?_
    refine r_goto K 154 dX12_goes_178 (by decide) ?_
    cases H
    exact r_sub [1, 2, 3, 4, 5, 0] rfl D
set_option maxRecDepth 10000 in
theorem l_X12_goes_154 {X : jX} {l : Launch} {n : Nat} {Y : jY} (K : jOK X RX12 cX12_goes 9 none 2) (hl : X.2.1 = l) {μr : jM} {v0 : Nat} {v1 : Int32} {v2 : Int32} {v4 : Int32} {v5 : Int32}  {s0 : Int32 × jM} {z : ((Int32 × jM) ⊕ (jM))} (H : jit jF (fun (s : Int32 × jM) => b_X12_goes_154 Y v0 v1 v2 v4 v5 s.1 s.2) s0 = some z) (D : Sum.elim (fun (s : Int32 × jM) => JW X (jEnd X n Y none μr 0 0) 0 0 n Y 45 [(0, .ref v0), (1, .int v1), (2, .int v2), (4, .int v4), (5, .int s.1)] [] s.2) (fun r => r = μr) z) : JW X (jEnd X n Y none μr 0 0) 0 0 n Y 154 [(0, .ref v0), (1, .int v1), (2, .int v2), (4, .int v4), (5, .int v5), (6, .int s0.1)] [] s0.2 :=
  jit_ind (P := fun (s : Int32 × jM) => JW X (jEnd X n Y none μr 0 0) 0 0 n Y 154 [(0, .ref v0), (1, .int v1), (2, .int v2), (4, .int v4), (5, .int v5), (6, .int s.1)] [] s.2) (D := Sum.elim (fun (s : Int32 × jM) => JW X (jEnd X n Y none μr 0 0) 0 0 n Y 45 [(0, .ref v0), (1, .int v1), (2, .int v2), (4, .int v4), (5, .int s.1)] [] s.2) (fun r => r = μr)) (fun s z Hs Ds => t_X12_goes_154 K hl Hs Ds) jF s0 z H D
set_option maxRecDepth 10000 in
theorem t_X12_goes_144 {X : jX} {l : Launch} {n : Nat} {Y : jY} (K : jOK X RX12 cX12_goes 9 none 2) (hl : X.2.1 = l) {μr : jM} {v0 : Nat} {v1 : Int32} {v2 : Int32} {v4 : Int32} {v5 : Int32} {v6 : Int32} {t0 : Nat} {t1 : Int32} {t2 : Int64} {μ : jM} {z : ((Int32 × jM) ⊕ ((Int32 × jM) ⊕ (jM)))} (H : b_X12_goes_144 Y v0 v1 v2 v4 v5 v6 t0 t1 t2 μ = some z) (D : Sum.elim (fun (s : Int32 × jM) => JW X (jEnd X n Y none μr 0 0) 0 0 n Y 54 [(0, .ref v0), (1, .int v1), (2, .int v2), (4, .int v4), (5, .int v5), (6, .int s.1)] [] s.2) (Sum.elim (fun (s : Int32 × jM) => JW X (jEnd X n Y none μr 0 0) 0 0 n Y 45 [(0, .ref v0), (1, .int v1), (2, .int v2), (4, .int v4), (5, .int s.1)] [] s.2) (fun r => r = μr)) z) : JW X (jEnd X n Y none μr 0 0) 0 0 n Y 144 [(0, .ref v0), (1, .int v1), (2, .int v2), (4, .int v4), (5, .int v5), (6, .int v6)] [.long t2, .int t1, .ref t0] μ := by
  unfold b_X12_goes_144 at H
  refine w_last K dX12_goes_144 H (fun μ1 H => ?_)
  refine r_iinc K 5 [(6, .int _), (0, .ref _), (1, .int _), (2, .int _), (4, .int _), (5, .int _)] (v := _ + (1 : Int32)) dX12_goes_145 rfl rfl (by decide) rfl ?_
  refine r_goto K 54 dX12_goes_148 (by decide) ?_
  cases H
  exact r_sub [1, 2, 3, 4, 5, 0] rfl D
set_option maxRecDepth 10000 in
theorem t_X12_goes_101 {X : jX} {l : Launch} {n : Nat} {Y : jY} (K : jOK X RX12 cX12_goes 9 none 2) (hl : X.2.1 = l) {μr : jM} {v0 : Nat} {v1 : Int32} {v2 : Int32} {v4 : Int32} {v5 : Int32} {v6 : Int32} {t0 : Int64} {μ : jM} {z : ((Int32 × jM) ⊕ ((Int32 × jM) ⊕ (jM)))} (H : b_X12_goes_101 Y v0 v1 v2 v4 v5 v6 t0 μ = some z) (D : Sum.elim (fun (s : Int32 × jM) => JW X (jEnd X n Y none μr 0 0) 0 0 n Y 54 [(0, .ref v0), (1, .int v1), (2, .int v2), (4, .int v4), (5, .int v5), (6, .int s.1)] [] s.2) (Sum.elim (fun (s : Int32 × jM) => JW X (jEnd X n Y none μr 0 0) 0 0 n Y 45 [(0, .ref v0), (1, .int v1), (2, .int v2), (4, .int v4), (5, .int s.1)] [] s.2) (fun r => r = μr)) z) : JW X (jEnd X n Y none μr 0 0) 0 0 n Y 101 [(0, .ref v0), (1, .int v1), (2, .int v2), (4, .int v4), (5, .int v5), (6, .int v6)] [.long t0] μ := by
  unfold b_X12_goes_101 at H
  refine r_lstore K [(7, .long _), (0, .ref _), (1, .int _), (2, .int _), (4, .int _), (5, .int _), (6, .int _)] dX12_goes_101 (by decide) rfl ?_
  refine r_aload_n K 1 dX12_goes_103 rfl rfl ?_
  refine w_getO K vc12 inX12 38 (by decide) mF_RX12_84 dX12_goes_104 H (fun x1 H => ?_)
  refine r_iload K 6 dX12_goes_107 rfl ?_
  refine r_iload K 6 dX12_goes_109 rfl ?_
  refine r_iload K 4 dX12_goes_111 rfl ?_
  refine r_iconst (v := 1) K dX12_goes_113 (by decide) ?_
  refine r_isub K dX12_goes_114 ?_
  refine w_icmp_ge K 142 dX12_goes_115 (by decide) H (fun _ H => ?_) (fun _ H => ?_)
  · refine r_lload K 0 dX12_goes_142 rfl ?_
    exact r_sub [1, 2, 3, 4, 5, 6] rfl (t_X12_goes_144 K hl H D)
  · refine r_lload K 0 dX12_goes_118 rfl ?_
    refine r_aload_n K 1 dX12_goes_120 rfl rfl ?_
    refine w_getO K vc12 inX12 37 (by decide) mF_RX12_81 dX12_goes_121 H (fun x2 H => ?_)
    refine r_iload K 6 dX12_goes_124 rfl ?_
    refine r_iconst (v := 1) K dX12_goes_126 (by decide) ?_
    refine r_iadd K dX12_goes_127 ?_
    refine w_lald K dX12_goes_128 H (fun x3 H => ?_)
    refine r_aload_n K 1 dX12_goes_129 rfl rfl ?_
    refine r_iload_n K 2 dX12_goes_130 rfl rfl ?_
    refine r_iload K 6 dX12_goes_131 rfl ?_
    refine w_callV K hl H (fun r h => c_X12_c l h) mC_yX12_c mM_RX12_260 mI_yX12_c mS_yX12_c mZ_RX12 vc12 (Nat.le_of_ble_eq_true rfl) (Nat.le_of_ble_eq_true rfl) np_yX12_c rfl (Nat.le_of_ble_eq_true rfl) dX12_goes_133 (fun r4 H => ?_) ⟨Nat.zero_le _, Nat.zero_le _⟩
    refine r_i2l K dX12_goes_136 ?_
    refine r_lmul K dX12_goes_137 ?_
    refine r_ladd K dX12_goes_138 ?_
    refine r_goto K 144 dX12_goes_139 (by decide) ?_
    exact r_sub [1, 2, 3, 4, 5, 6] rfl (t_X12_goes_144 K hl H D)
set_option maxRecDepth 10000 in
theorem t_X12_goes_54 {X : jX} {l : Launch} {n : Nat} {Y : jY} (K : jOK X RX12 cX12_goes 9 none 2) (hl : X.2.1 = l) {μr : jM} {v0 : Nat} {v1 : Int32} {v2 : Int32} {v4 : Int32} {v5 : Int32} {v6 : Int32} {μ : jM} {z : ((Int32 × jM) ⊕ ((Int32 × jM) ⊕ (jM)))} (H : b_X12_goes_54 Y v0 v1 v2 v4 v5 v6 μ = some z) (D : Sum.elim (fun (s : Int32 × jM) => JW X (jEnd X n Y none μr 0 0) 0 0 n Y 54 [(0, .ref v0), (1, .int v1), (2, .int v2), (4, .int v4), (5, .int v5), (6, .int s.1)] [] s.2) (Sum.elim (fun (s : Int32 × jM) => JW X (jEnd X n Y none μr 0 0) 0 0 n Y 45 [(0, .ref v0), (1, .int v1), (2, .int v2), (4, .int v4), (5, .int s.1)] [] s.2) (fun r => r = μr)) z) : JW X (jEnd X n Y none μr 0 0) 0 0 n Y 54 [(0, .ref v0), (1, .int v1), (2, .int v2), (4, .int v4), (5, .int v5), (6, .int v6)] [] μ := by
  unfold b_X12_goes_54 at H
  refine r_iload K 5 dX12_goes_54 rfl ?_
  refine r_iload K 3 dX12_goes_56 rfl ?_
  refine w_icmp_ge K 151 dX12_goes_58 (by decide) H (fun _ H => ?_) (fun _ H => ?_)
  · refine r_iconst (v := 0) K dX12_goes_151 (by decide) ?_
    refine r_istore K [(6, .int _), (0, .ref _), (1, .int _), (2, .int _), (4, .int _), (5, .int _)] dX12_goes_152 (by decide) rfl ?_
    obtain ⟨z2, H2, rfl⟩ := jmap H
    exact r_sub [1, 2, 3, 4, 5, 0] rfl (l_X12_goes_154 K hl H2 D)
  · refine r_aload_n K 0 dX12_goes_61 rfl rfl ?_
    refine w_getO K vc12 inX12 37 (by decide) mF_RX12_81 dX12_goes_62 H (fun x1 H => ?_)
    refine r_iload K 5 dX12_goes_65 rfl ?_
    refine w_lald K dX12_goes_67 H (fun x2 H => ?_)
    refine r_aload_n K 0 dX12_goes_68 rfl rfl ?_
    refine r_iload_n K 1 dX12_goes_69 rfl rfl ?_
    refine r_iload K 5 dX12_goes_70 rfl ?_
    refine w_callV K hl H (fun r h => c_X12_a l h) mC_yX12_a mM_RX12_256 mI_yX12_a mS_yX12_a mZ_RX12 vc12 (Nat.le_of_ble_eq_true rfl) (Nat.le_of_ble_eq_true rfl) np_yX12_a rfl (Nat.le_of_ble_eq_true rfl) dX12_goes_72 (fun r3 H => ?_) ⟨Nat.zero_le _, Nat.zero_le _⟩
    refine r_i2l K dX12_goes_75 ?_
    refine r_lmul K dX12_goes_76 ?_
    refine r_lstore K [(7, .long _), (0, .ref _), (1, .int _), (2, .int _), (4, .int _), (5, .int _), (6, .int _)] dX12_goes_77 (by decide) rfl ?_
    refine r_iload K 6 dX12_goes_79 rfl ?_
    refine w_if_le K 99 dX12_goes_81 (by decide) H (fun _ H => ?_) (fun _ H => ?_)
    · refine r_lload K 0 dX12_goes_99 rfl ?_
      exact r_sub [1, 2, 3, 4, 5, 6] rfl (t_X12_goes_101 K hl H D)
    · refine r_lload K 0 dX12_goes_84 rfl ?_
      refine r_aload_n K 1 dX12_goes_86 rfl rfl ?_
      refine w_getO K vc12 inX12 37 (by decide) mF_RX12_81 dX12_goes_87 H (fun x4 H => ?_)
      refine r_iload K 6 dX12_goes_90 rfl ?_
      refine r_iconst (v := 1) K dX12_goes_92 (by decide) ?_
      refine r_isub K dX12_goes_93 ?_
      refine w_lald K dX12_goes_94 H (fun x5 H => ?_)
      refine r_ladd K dX12_goes_95 ?_
      refine r_goto K 101 dX12_goes_96 (by decide) ?_
      exact r_sub [1, 2, 3, 4, 5, 6] rfl (t_X12_goes_101 K hl H D)
set_option maxRecDepth 10000 in
theorem l_X12_goes_54 {X : jX} {l : Launch} {n : Nat} {Y : jY} (K : jOK X RX12 cX12_goes 9 none 2) (hl : X.2.1 = l) {μr : jM} {v0 : Nat} {v1 : Int32} {v2 : Int32} {v4 : Int32} {v5 : Int32}  {s0 : Int32 × jM} {z : ((Int32 × jM) ⊕ (jM))} (H : jit jF (fun (s : Int32 × jM) => b_X12_goes_54 Y v0 v1 v2 v4 v5 s.1 s.2) s0 = some z) (D : Sum.elim (fun (s : Int32 × jM) => JW X (jEnd X n Y none μr 0 0) 0 0 n Y 45 [(0, .ref v0), (1, .int v1), (2, .int v2), (4, .int v4), (5, .int s.1)] [] s.2) (fun r => r = μr) z) : JW X (jEnd X n Y none μr 0 0) 0 0 n Y 54 [(0, .ref v0), (1, .int v1), (2, .int v2), (4, .int v4), (5, .int v5), (6, .int s0.1)] [] s0.2 :=
  jit_ind (P := fun (s : Int32 × jM) => JW X (jEnd X n Y none μr 0 0) 0 0 n Y 54 [(0, .ref v0), (1, .int v1), (2, .int v2), (4, .int v4), (5, .int v5), (6, .int s.1)] [] s.2) (D := Sum.elim (fun (s : Int32 × jM) => JW X (jEnd X n Y none μr 0 0) 0 0 n Y 45 [(0, .ref v0), (1, .int v1), (2, .int v2), (4, .int v4), (5, .int s.1)] [] s.2) (fun r => r = μr)) (fun s z Hs Ds => t_X12_goes_54 K hl Hs Ds) jF s0 z H D
set_option maxRecDepth 10000 in
theorem t_X12_goes_45 {X : jX} {l : Launch} {n : Nat} {Y : jY} (K : jOK X RX12 cX12_goes 9 none 2) (hl : X.2.1 = l) {μr : jM} {v0 : Nat} {v1 : Int32} {v2 : Int32} {v4 : Int32} {v5 : Int32} {μ : jM} {z : ((Int32 × jM) ⊕ (jM))} (H : b_X12_goes_45 Y v0 v1 v2 v4 v5 μ = some z) (D : Sum.elim (fun (s : Int32 × jM) => JW X (jEnd X n Y none μr 0 0) 0 0 n Y 45 [(0, .ref v0), (1, .int v1), (2, .int v2), (4, .int v4), (5, .int s.1)] [] s.2) (fun r => r = μr) z) : JW X (jEnd X n Y none μr 0 0) 0 0 n Y 45 [(0, .ref v0), (1, .int v1), (2, .int v2), (4, .int v4), (5, .int v5)] [] μ := by
  unfold b_X12_goes_45 at H
  refine r_iload K 4 dX12_goes_45 rfl ?_
  refine r_iload_n K 2 dX12_goes_47 rfl rfl ?_
  refine w_icmp_ge K 187 dX12_goes_48 (by decide) H (fun _ H => ?_) (fun _ H => ?_)
  · cases H
    simp only [Sum.elim_inr] at D
    subst D
    exact r_vret K dX12_goes_187
  · refine r_iconst (v := 0) K dX12_goes_51 (by decide) ?_
    refine r_istore K [(6, .int _), (0, .ref _), (1, .int _), (2, .int _), (4, .int _), (5, .int _)] dX12_goes_52 (by decide) rfl ?_
    exact r_sub [1, 2, 3, 4, 5, 0] rfl (l_X12_goes_54 K hl H D)
set_option maxRecDepth 10000 in
theorem l_X12_goes_45 {X : jX} {l : Launch} {n : Nat} {Y : jY} (K : jOK X RX12 cX12_goes 9 none 2) (hl : X.2.1 = l) {μr : jM} {v0 : Nat} {v1 : Int32} {v2 : Int32} {v4 : Int32}  {s0 : Int32 × jM} {z : (jM)} (H : jit jF (fun (s : Int32 × jM) => b_X12_goes_45 Y v0 v1 v2 v4 s.1 s.2) s0 = some z) (D : z = μr) : JW X (jEnd X n Y none μr 0 0) 0 0 n Y 45 [(0, .ref v0), (1, .int v1), (2, .int v2), (4, .int v4), (5, .int s0.1)] [] s0.2 :=
  jit_ind (P := fun (s : Int32 × jM) => JW X (jEnd X n Y none μr 0 0) 0 0 n Y 45 [(0, .ref v0), (1, .int v1), (2, .int v2), (4, .int v4), (5, .int s.1)] [] s.2) (D := fun r => r = μr) (fun s z Hs Ds => t_X12_goes_45 K hl Hs Ds) jF s0 z H D
set_option maxRecDepth 10000 in
theorem t_X12_goes_35 {X : jX} {l : Launch} {n : Nat} {Y : jY} (K : jOK X RX12 cX12_goes 9 none 2) (hl : X.2.1 = l) {μr : jM} {v0 : Nat} {v1 : Int32} {v2 : Int32} {v3 : Int32} {v4 : Int32} {v5 : Int32} {t0 : Nat} {t1 : Int32} {t2 : Int64} {μ : jM} {z : ((Int32 × jM) ⊕ (jM))} (H : b_X12_goes_35 Y v0 v1 v2 v3 v4 v5 t0 t1 t2 μ = some z) (D : Sum.elim (fun (s : Int32 × jM) => JW X (jEnd X n Y none μr 0 0) 0 0 n Y 11 [(0, .ref v0), (1, .int v1), (2, .int v2), (3, .int v3), (4, .int v4), (5, .int s.1)] [] s.2) (fun r => r = μr) z) : JW X (jEnd X n Y none μr 0 0) 0 0 n Y 35 [(0, .ref v0), (1, .int v1), (2, .int v2), (3, .int v3), (4, .int v4), (5, .int v5)] [.long t2, .int t1, .ref t0] μ := by
  unfold b_X12_goes_35 at H
  refine w_last K dX12_goes_35 H (fun μ1 H => ?_)
  refine r_iinc K 5 [(5, .int _), (0, .ref _), (1, .int _), (2, .int _), (3, .int _), (4, .int _)] (v := _ + (1 : Int32)) dX12_goes_36 rfl rfl (by decide) rfl ?_
  refine r_goto K 11 dX12_goes_39 (by decide) ?_
  cases H
  exact r_sub [1, 2, 3, 4, 5, 0] rfl D
set_option maxRecDepth 10000 in
theorem t_X12_goes_11 {X : jX} {l : Launch} {n : Nat} {Y : jY} (K : jOK X RX12 cX12_goes 9 none 2) (hl : X.2.1 = l) {μr : jM} {v0 : Nat} {v1 : Int32} {v2 : Int32} {v3 : Int32} {v4 : Int32} {v5 : Int32} {μ : jM} {z : ((Int32 × jM) ⊕ (jM))} (H : b_X12_goes_11 Y v0 v1 v2 v3 v4 v5 μ = some z) (D : Sum.elim (fun (s : Int32 × jM) => JW X (jEnd X n Y none μr 0 0) 0 0 n Y 11 [(0, .ref v0), (1, .int v1), (2, .int v2), (3, .int v3), (4, .int v4), (5, .int s.1)] [] s.2) (fun r => r = μr) z) : JW X (jEnd X n Y none μr 0 0) 0 0 n Y 11 [(0, .ref v0), (1, .int v1), (2, .int v2), (3, .int v3), (4, .int v4), (5, .int v5)] [] μ := by
  unfold b_X12_goes_11 at H
  refine r_iload K 5 dX12_goes_11 rfl ?_
  refine r_iload K 4 dX12_goes_13 rfl ?_
  refine w_icmp_ge K 42 dX12_goes_15 (by decide) H (fun _ H => ?_) (fun _ H => ?_)
  · refine r_iconst (v := 0) K dX12_goes_42 (by decide) ?_
    refine r_istore K [(5, .int _), (0, .ref _), (1, .int _), (2, .int _), (3, .int _), (4, .int _)] dX12_goes_43 (by decide) rfl ?_
    obtain ⟨z2, H2, rfl⟩ := jmap H
    exact r_sub [1, 2, 3, 5, 0] rfl (l_X12_goes_45 K hl H2 D)
  · refine r_aload_n K 0 dX12_goes_18 rfl rfl ?_
    refine w_getO K vc12 inX12 37 (by decide) mF_RX12_81 dX12_goes_19 H (fun x1 H => ?_)
    refine r_iload K 5 dX12_goes_22 rfl ?_
    refine r_iload K 5 dX12_goes_24 rfl ?_
    refine r_iload_n K 3 dX12_goes_26 rfl rfl ?_
    refine w_icmp_ne K 34 dX12_goes_27 (by decide) H (fun _ H => ?_) (fun _ H => ?_)
    · refine r_lconst (v := 0) K dX12_goes_34 (by decide) ?_
      exact r_sub [0, 1, 2, 3, 4, 5] rfl (t_X12_goes_35 K hl H D)
    · refine r_lconst (v := 1) K dX12_goes_30 (by decide) ?_
      refine r_goto K 35 dX12_goes_31 (by decide) ?_
      exact r_sub [0, 1, 2, 3, 4, 5] rfl (t_X12_goes_35 K hl H D)
set_option maxRecDepth 10000 in
theorem l_X12_goes_11 {X : jX} {l : Launch} {n : Nat} {Y : jY} (K : jOK X RX12 cX12_goes 9 none 2) (hl : X.2.1 = l) {μr : jM} {v0 : Nat} {v1 : Int32} {v2 : Int32} {v3 : Int32} {v4 : Int32}  {s0 : Int32 × jM} {z : (jM)} (H : jit jF (fun (s : Int32 × jM) => b_X12_goes_11 Y v0 v1 v2 v3 v4 s.1 s.2) s0 = some z) (D : z = μr) : JW X (jEnd X n Y none μr 0 0) 0 0 n Y 11 [(0, .ref v0), (1, .int v1), (2, .int v2), (3, .int v3), (4, .int v4), (5, .int s0.1)] [] s0.2 :=
  jit_ind (P := fun (s : Int32 × jM) => JW X (jEnd X n Y none μr 0 0) 0 0 n Y 11 [(0, .ref v0), (1, .int v1), (2, .int v2), (3, .int v3), (4, .int v4), (5, .int s.1)] [] s.2) (D := fun r => r = μr) (fun s z Hs Ds => t_X12_goes_11 K hl Hs Ds) jF s0 z H D
set_option maxRecDepth 10000 in
theorem t_X12_goes_0 {X : jX} {l : Launch} {n : Nat} {Y : jY} (K : jOK X RX12 cX12_goes 9 none 2) (hl : X.2.1 = l) {μr : jM} {v0 : Nat} {v1 : Int32} {v2 : Int32} {v3 : Int32} {μ : jM} {z : (jM)} (H : f_X12_goes Y v0 v1 v2 v3 μ = some z) (D : z = μr) : JW X (jEnd X n Y none μr 0 0) 0 0 n Y 0 [(0, .ref v0), (1, .int v1), (2, .int v2), (3, .int v3)] [] μ := by
  unfold f_X12_goes at H
  refine r_aload_n K 0 dX12_goes_0 rfl rfl ?_
  refine w_getO K vc12 inX12 26 (by decide) mF_RX12_48 dX12_goes_1 H (fun x1 H => ?_)
  refine r_iload_n K 1 dX12_goes_4 rfl rfl ?_
  refine w_iald K dX12_goes_5 H (fun x2 H => ?_)
  refine r_istore K [(4, .int _), (0, .ref _), (1, .int _), (2, .int _), (3, .int _)] dX12_goes_6 (by decide) rfl ?_
  refine r_iconst (v := 0) K dX12_goes_8 (by decide) ?_
  refine r_istore K [(5, .int _), (4, .int _), (0, .ref _), (1, .int _), (2, .int _), (3, .int _)] dX12_goes_9 (by decide) rfl ?_
  exact r_sub [2, 3, 4, 5, 1, 0] rfl (l_X12_goes_11 K hl H D)
theorem c_X12_goes (l : Launch) {n : Nat} {Y : jY} {v0 : Nat} {v1 : Int32} {v2 : Int32} {v3 : Int32} {μ : jM} {z : jM} (H : f_X12_goes Y v0 v1 v2 v3 μ = some z) : jC l yX12_goes cX12_goes 9 none 2 0 0 [.ref v0, .int v1, .int v2, .int v3] n Y μ n Y none z := by
  refine jC_of (by decide +kernel) (Nat.le_of_ble_eq_true rfl) (fun X hl K _ _ _ => ?_)
  exact t_X12_goes_0 K hl H rfl
/-! RX12 walks(IIII)J -/
def b_X12_walks_59 (Y : jY) (μ : jM) : Option (Int64 × jM) :=
  some ((-9223372036854775808 : Int64), μ)
def f_X12_walks (Y : jY) (v0 : Nat) (v1 : Int32) (v2 : Int32) (v3 : Int32) (v4 : Int32) (μ : jM) : Option (Int64 × jM) :=
  (f_X12_isDrawer Y v1 μ).bind fun r1 =>
  if r1.1 = 0 then
    b_X12_walks_59 Y r1.2
  else
    (jgO Y r1.2 v0 12 26).bind fun x2 =>
    (jaI Y r1.2 x2 20 v1).bind fun x3 =>
    if x3 = 0 then
      b_X12_walks_59 Y r1.2
    else
      (f_X12_in Y v2 ((0 : Int32)) ((8 : Int32)) r1.2).bind fun r4 =>
      if r4.1 = 0 then
        b_X12_walks_59 Y r4.2
      else
        (jgO Y r4.2 v0 12 26).bind fun x5 =>
        (jaI Y r4.2 x5 20 v1).bind fun x6 =>
        (f_X12_in Y v3 ((0 : Int32)) ((x6 - ((1 : Int32)))) r4.2).bind fun r7 =>
        if r7.1 = 0 then
          b_X12_walks_59 Y r7.2
        else
          (jgO Y r7.2 v0 12 26).bind fun x8 =>
          (jaI Y r7.2 x8 20 v1).bind fun x9 =>
          (f_X12_in Y v4 ((0 : Int32)) ((x9 - ((1 : Int32)))) r7.2).bind fun r10 =>
          if r10.1 = 0 then
            b_X12_walks_59 Y r10.2
          else
            (jrcv Y v0 12 (f_X12_goes Y v0 v1 v2 v3 r10.2)).bind fun μ11 =>
            (jgO Y μ11 v0 12 37).bind fun x12 =>
            (jaL Y μ11 x12 21 v4).bind fun x13 =>
            some (x13, μ11)
set_option maxRecDepth 10000 in
theorem t_X12_walks_59 {X : jX} {l : Launch} {n : Nat} {Y : jY} (K : jOK X RX12 cX12_walks 5 (some .long) 3) (hl : X.2.1 = l) {rr : Int64} {μr : jM} {μ : jM} {z : (Int64 × jM)} (H : b_X12_walks_59 Y μ = some z) (D : z = (rr, μr)) : JW X (jEnd X n Y (some (.long rr)) μr 0 0) 0 0 n Y 59 [] [] μ := by
  unfold b_X12_walks_59 at H
  refine r_ldc2 K (-9223372036854775808) mc_RX12_156 dX12_walks_59 ?_
  cases H
  obtain ⟨rfl, rfl⟩ := jfin2 D
  exact r_lret K dX12_walks_62
set_option maxRecDepth 10000 in
theorem t_X12_walks_0 {X : jX} {l : Launch} {n : Nat} {Y : jY} (K : jOK X RX12 cX12_walks 5 (some .long) 3) (hl : X.2.1 = l) {rr : Int64} {μr : jM} {v0 : Nat} {v1 : Int32} {v2 : Int32} {v3 : Int32} {v4 : Int32} {μ : jM} {z : (Int64 × jM)} (H : f_X12_walks Y v0 v1 v2 v3 v4 μ = some z) (D : z = (rr, μr)) : JW X (jEnd X n Y (some (.long rr)) μr 0 0) 0 0 n Y 0 [(0, .ref v0), (1, .int v1), (2, .int v2), (3, .int v3), (4, .int v4)] [] μ := by
  unfold f_X12_walks at H
  refine r_iload_n K 1 dX12_walks_0 rfl rfl ?_
  refine w_callS K hl H (fun r h => c_X12_isDrawer l h) mC_yX12_isDrawer mM_RX12_253 mT_yX12_isDrawer mZ_RX12 (Nat.le_of_ble_eq_true rfl) (Nat.le_of_ble_eq_true rfl) np_yX12_isDrawer rfl (Nat.le_of_ble_eq_true rfl) dX12_walks_1 (fun r1 H => ?_) ⟨Nat.zero_le _, Nat.zero_le _⟩
  refine w_if_eq K 59 dX12_walks_4 (by decide) H (fun _ H => ?_) (fun _ H => ?_)
  · exact r_sub [] rfl (t_X12_walks_59 K hl H D)
  · refine r_aload_n K 0 dX12_walks_7 rfl rfl ?_
    refine w_getO K vc12 inX12 26 (by decide) mF_RX12_48 dX12_walks_8 H (fun x2 H => ?_)
    refine r_iload_n K 1 dX12_walks_11 rfl rfl ?_
    refine w_iald K dX12_walks_12 H (fun x3 H => ?_)
    refine w_if_eq K 59 dX12_walks_13 (by decide) H (fun _ H => ?_) (fun _ H => ?_)
    · exact r_sub [] rfl (t_X12_walks_59 K hl H D)
    · refine r_iload_n K 2 dX12_walks_16 rfl rfl ?_
      refine r_iconst (v := 0) K dX12_walks_17 (by decide) ?_
      refine r_bipush (v := 8) K dX12_walks_18 (by decide) ?_
      refine w_callS K hl H (fun r h => c_X12_in l h) mC_yX12_in mM_RX12_134 mT_yX12_in mZ_RX12 (Nat.le_of_ble_eq_true rfl) (Nat.le_of_ble_eq_true rfl) np_yX12_in rfl (Nat.le_of_ble_eq_true rfl) dX12_walks_20 (fun r4 H => ?_) ⟨Nat.zero_le _, Nat.zero_le _⟩
      refine w_if_eq K 59 dX12_walks_23 (by decide) H (fun _ H => ?_) (fun _ H => ?_)
      · exact r_sub [] rfl (t_X12_walks_59 K hl H D)
      · refine r_iload_n K 3 dX12_walks_26 rfl rfl ?_
        refine r_iconst (v := 0) K dX12_walks_27 (by decide) ?_
        refine r_aload_n K 0 dX12_walks_28 rfl rfl ?_
        refine w_getO K vc12 inX12 26 (by decide) mF_RX12_48 dX12_walks_29 H (fun x5 H => ?_)
        refine r_iload_n K 1 dX12_walks_32 rfl rfl ?_
        refine w_iald K dX12_walks_33 H (fun x6 H => ?_)
        refine r_iconst (v := 1) K dX12_walks_34 (by decide) ?_
        refine r_isub K dX12_walks_35 ?_
        refine w_callS K hl H (fun r h => c_X12_in l h) mC_yX12_in mM_RX12_134 mT_yX12_in mZ_RX12 (Nat.le_of_ble_eq_true rfl) (Nat.le_of_ble_eq_true rfl) np_yX12_in rfl (Nat.le_of_ble_eq_true rfl) dX12_walks_36 (fun r7 H => ?_) ⟨Nat.zero_le _, Nat.zero_le _⟩
        refine w_if_eq K 59 dX12_walks_39 (by decide) H (fun _ H => ?_) (fun _ H => ?_)
        · exact r_sub [] rfl (t_X12_walks_59 K hl H D)
        · refine r_iload K 4 dX12_walks_42 rfl ?_
          refine r_iconst (v := 0) K dX12_walks_44 (by decide) ?_
          refine r_aload_n K 0 dX12_walks_45 rfl rfl ?_
          refine w_getO K vc12 inX12 26 (by decide) mF_RX12_48 dX12_walks_46 H (fun x8 H => ?_)
          refine r_iload_n K 1 dX12_walks_49 rfl rfl ?_
          refine w_iald K dX12_walks_50 H (fun x9 H => ?_)
          refine r_iconst (v := 1) K dX12_walks_51 (by decide) ?_
          refine r_isub K dX12_walks_52 ?_
          refine w_callS K hl H (fun r h => c_X12_in l h) mC_yX12_in mM_RX12_134 mT_yX12_in mZ_RX12 (Nat.le_of_ble_eq_true rfl) (Nat.le_of_ble_eq_true rfl) np_yX12_in rfl (Nat.le_of_ble_eq_true rfl) dX12_walks_53 (fun r10 H => ?_) ⟨Nat.zero_le _, Nat.zero_le _⟩
          refine w_if_ne K 63 dX12_walks_56 (by decide) H (fun _ H => ?_) (fun _ H => ?_)
          · refine r_aload_n K 0 dX12_walks_63 rfl rfl ?_
            refine r_iload_n K 1 dX12_walks_64 rfl rfl ?_
            refine r_iload_n K 2 dX12_walks_65 rfl rfl ?_
            refine r_iload_n K 3 dX12_walks_66 rfl rfl ?_
            refine w_callV K hl H (fun r h => c_X12_goes l h) mC_yX12_goes mM_RX12_304 mI_yX12_goes mS_yX12_goes mZ_RX12 vc12 (Nat.le_of_ble_eq_true rfl) (Nat.le_of_ble_eq_true rfl) np_yX12_goes rfl (Nat.le_of_ble_eq_true rfl) dX12_walks_67 (fun μ11 H => ?_) ⟨Nat.zero_le _, Nat.zero_le _⟩
            refine r_aload_n K 0 dX12_walks_70 rfl rfl ?_
            refine w_getO K vc12 inX12 37 (by decide) mF_RX12_81 dX12_walks_71 H (fun x12 H => ?_)
            refine r_iload K 4 dX12_walks_74 rfl ?_
            refine w_lald K dX12_walks_76 H (fun x13 H => ?_)
            cases H
            obtain ⟨rfl, rfl⟩ := jfin2 D
            exact r_lret K dX12_walks_77
          · exact r_sub [] rfl (t_X12_walks_59 K hl H D)
theorem c_X12_walks (l : Launch) {n : Nat} {Y : jY} {v0 : Nat} {v1 : Int32} {v2 : Int32} {v3 : Int32} {v4 : Int32} {μ : jM} {z : Int64 × jM} (H : f_X12_walks Y v0 v1 v2 v3 v4 μ = some z) : jC l yX12_walks cX12_walks 5 (some .long) 3 0 0 [.ref v0, .int v1, .int v2, .int v3, .int v4] n Y μ n Y (some (.long z.1)) z.2 := by
  refine jC_of (by decide +kernel) (Nat.le_of_ble_eq_true rfl) (fun X hl K _ _ _ => ?_)
  obtain ⟨rr, μr⟩ := z
  exact t_X12_walks_0 K hl H rfl
/-! RX12 nearest(II)I -/
def b_X12_nearest_17 (Y : jY) (μ : jM) : Option (Int32 × jM) :=
  some ((-1 : Int32), μ)
def b_X12_nearest_113 (Y : jY) (v0 : Nat) (v1 : Int32) (v2 : Int32) (v5 : Int32) (v6 : Int32) (t0 : Int32) (μ : jM) : Option ((Int32 × Int32 × Int32 × jM) ⊕ (Int32 × jM)) :=
  some (.inl (t0, v6, (v5 + (1 : Int32)), μ))
def b_X12_nearest_67 (Y : jY) (v0 : Nat) (v1 : Int32) (v2 : Int32) (v3 : Int32) (v4 : Int32) (v5 : Int32) (μ : jM) : Option ((Int32 × Int32 × Int32 × jM) ⊕ (Int32 × jM)) :=
  (jgO Y μ v0 12 26).bind fun x1 =>
  (jaI Y μ x1 20 v1).bind fun x2 =>
  if x2 ≤ v5 then
    some (.inr (v3, μ))
  else
    (jgO Y μ v0 12 26).bind fun x3 =>
    (jaI Y μ x3 20 v1).bind fun x4 =>
    (jrcv Y v0 12 (f_X12_rootOf Y v0 v1 ((0 : Int32)) x4 v5 v2 μ)).bind fun r5 =>
    if v3 ≤ ((r5.1 - v4)) then
      b_X12_nearest_113 Y v0 v1 v2 v5 r5.1 v3 r5.2
    else
      b_X12_nearest_113 Y v0 v1 v2 v5 r5.1 (r5.1 - v4) r5.2
def f_X12_nearest (Y : jY) (v0 : Nat) (v1 : Int32) (v2 : Int32) (μ : jM) : Option (Int32 × jM) :=
  (f_X12_isDrawer Y v1 μ).bind fun r1 =>
  if r1.1 = 0 then
    b_X12_nearest_17 Y r1.2
  else
    (f_X12_in Y v2 ((1 : Int32)) ((50 : Int32)) r1.2).bind fun r2 =>
    if r2.1 = 0 then
      b_X12_nearest_17 Y r2.2
    else
      (jgO Y r2.2 v0 12 26).bind fun x3 =>
      (jaI Y r2.2 x3 20 v1).bind fun x4 =>
      if x4 = 0 then
        some ((-2 : Int32), r2.2)
      else
        (jgO Y r2.2 v0 12 26).bind fun x5 =>
        (jaI Y r2.2 x5 20 v1).bind fun x6 =>
        if x6 = ((1 : Int32)) then
          some ((-3 : Int32), r2.2)
        else
          (jgO Y r2.2 v0 12 26).bind fun x7 =>
          (jaI Y r2.2 x7 20 v1).bind fun x8 =>
          (jrcv Y v0 12 (f_X12_rootOf Y v0 v1 ((0 : Int32)) x8 ((0 : Int32)) v2 r2.2)).bind fun r9 =>
          jit jF (fun (s : Int32 × Int32 × Int32 × jM) => b_X12_nearest_67 Y v0 v1 v2 s.1 s.2.1 s.2.2.1 s.2.2.2) ((100000 : Int32), r9.1, (1 : Int32), r9.2)
set_option maxRecDepth 10000 in
theorem t_X12_nearest_17 {X : jX} {l : Launch} {n : Nat} {Y : jY} (K : jOK X RX12 cX12_nearest 7 (some .int) 4) (hl : X.2.1 = l) {rr : Int32} {μr : jM} {μ : jM} {z : (Int32 × jM)} (H : b_X12_nearest_17 Y μ = some z) (D : z = (rr, μr)) : JW X (jEnd X n Y (some (.int rr)) μr 0 0) 0 0 n Y 17 [] [] μ := by
  unfold b_X12_nearest_17 at H
  refine r_iconst (v := -1) K dX12_nearest_17 (by decide) ?_
  cases H
  obtain ⟨rfl, rfl⟩ := jfin2 D
  exact r_iret K dX12_nearest_18
set_option maxRecDepth 10000 in
theorem t_X12_nearest_113 {X : jX} {l : Launch} {n : Nat} {Y : jY} (K : jOK X RX12 cX12_nearest 7 (some .int) 4) (hl : X.2.1 = l) {rr : Int32} {μr : jM} {v0 : Nat} {v1 : Int32} {v2 : Int32} {v5 : Int32} {v6 : Int32} {t0 : Int32} {μ : jM} {z : ((Int32 × Int32 × Int32 × jM) ⊕ (Int32 × jM))} (H : b_X12_nearest_113 Y v0 v1 v2 v5 v6 t0 μ = some z) (D : Sum.elim (fun (s : Int32 × Int32 × Int32 × jM) => JW X (jEnd X n Y (some (.int rr)) μr 0 0) 0 0 n Y 67 [(0, .ref v0), (1, .int v1), (2, .int v2), (3, .int s.1), (4, .int s.2.1), (5, .int s.2.2.1)] [] s.2.2.2) (fun r => r = (rr, μr)) z) : JW X (jEnd X n Y (some (.int rr)) μr 0 0) 0 0 n Y 113 [(0, .ref v0), (1, .int v1), (2, .int v2), (5, .int v5), (6, .int v6)] [.int t0] μ := by
  unfold b_X12_nearest_113 at H
  refine r_istore_n K [(3, .int _), (0, .ref _), (1, .int _), (2, .int _), (5, .int _), (6, .int _)] dX12_nearest_113 rfl (by decide) rfl ?_
  refine r_iload K 5 dX12_nearest_114 rfl ?_
  refine r_istore K [(4, .int _), (3, .int _), (0, .ref _), (1, .int _), (2, .int _), (5, .int _), (6, .int _)] dX12_nearest_116 (by decide) rfl ?_
  refine r_iinc K 5 [(5, .int _), (4, .int _), (3, .int _), (0, .ref _), (1, .int _), (2, .int _), (6, .int _)] (v := _ + (1 : Int32)) dX12_nearest_118 rfl rfl (by decide) rfl ?_
  refine r_goto K 67 dX12_nearest_121 (by decide) ?_
  cases H
  exact r_sub [3, 4, 5, 2, 1, 0] rfl D
set_option maxRecDepth 10000 in
theorem t_X12_nearest_67 {X : jX} {l : Launch} {n : Nat} {Y : jY} (K : jOK X RX12 cX12_nearest 7 (some .int) 4) (hl : X.2.1 = l) {rr : Int32} {μr : jM} {v0 : Nat} {v1 : Int32} {v2 : Int32} {v3 : Int32} {v4 : Int32} {v5 : Int32} {μ : jM} {z : ((Int32 × Int32 × Int32 × jM) ⊕ (Int32 × jM))} (H : b_X12_nearest_67 Y v0 v1 v2 v3 v4 v5 μ = some z) (D : Sum.elim (fun (s : Int32 × Int32 × Int32 × jM) => JW X (jEnd X n Y (some (.int rr)) μr 0 0) 0 0 n Y 67 [(0, .ref v0), (1, .int v1), (2, .int v2), (3, .int s.1), (4, .int s.2.1), (5, .int s.2.2.1)] [] s.2.2.2) (fun r => r = (rr, μr)) z) : JW X (jEnd X n Y (some (.int rr)) μr 0 0) 0 0 n Y 67 [(0, .ref v0), (1, .int v1), (2, .int v2), (3, .int v3), (4, .int v4), (5, .int v5)] [] μ := by
  unfold b_X12_nearest_67 at H
  refine r_iload K 5 dX12_nearest_67 rfl ?_
  refine r_aload_n K 0 dX12_nearest_69 rfl rfl ?_
  refine w_getO K vc12 inX12 26 (by decide) mF_RX12_48 dX12_nearest_70 H (fun x1 H => ?_)
  refine r_iload_n K 1 dX12_nearest_73 rfl rfl ?_
  refine w_iald K dX12_nearest_74 H (fun x2 H => ?_)
  refine w_icmp_ge K 124 dX12_nearest_75 (by decide) H (fun _ H => ?_) (fun _ H => ?_)
  · refine r_iload_n K 3 dX12_nearest_124 rfl rfl ?_
    cases H
    simp only [Sum.elim_inr] at D
    obtain ⟨rfl, rfl⟩ := jfin2 D
    exact r_iret K dX12_nearest_125
  · refine r_aload_n K 0 dX12_nearest_78 rfl rfl ?_
    refine r_iload_n K 1 dX12_nearest_79 rfl rfl ?_
    refine r_iconst (v := 0) K dX12_nearest_80 (by decide) ?_
    refine r_aload_n K 0 dX12_nearest_81 rfl rfl ?_
    refine w_getO K vc12 inX12 26 (by decide) mF_RX12_48 dX12_nearest_82 H (fun x3 H => ?_)
    refine r_iload_n K 1 dX12_nearest_85 rfl rfl ?_
    refine w_iald K dX12_nearest_86 H (fun x4 H => ?_)
    refine r_iload K 5 dX12_nearest_87 rfl ?_
    refine r_iload_n K 2 dX12_nearest_89 rfl rfl ?_
    refine w_callV K hl H (fun r h => c_X12_rootOf l h) mC_yX12_rootOf mM_RX12_289 mI_yX12_rootOf mS_yX12_rootOf mZ_RX12 vc12 (Nat.le_of_ble_eq_true rfl) (Nat.le_of_ble_eq_true rfl) np_yX12_rootOf rfl (Nat.le_of_ble_eq_true rfl) dX12_nearest_90 (fun r5 H => ?_) ⟨Nat.zero_le _, Nat.zero_le _⟩
    refine r_istore K [(6, .int _), (0, .ref _), (1, .int _), (2, .int _), (3, .int _), (4, .int _), (5, .int _)] dX12_nearest_93 (by decide) rfl ?_
    refine r_iload K 0 dX12_nearest_95 rfl ?_
    refine r_iload K 5 dX12_nearest_97 rfl ?_
    refine r_isub K dX12_nearest_99 ?_
    refine r_iload_n K 4 dX12_nearest_100 rfl rfl ?_
    refine w_icmp_ge K 112 dX12_nearest_101 (by decide) H (fun _ H => ?_) (fun _ H => ?_)
    · refine r_iload_n K 4 dX12_nearest_112 rfl rfl ?_
      exact r_sub [1, 2, 3, 6, 0] rfl (t_X12_nearest_113 K hl H D)
    · refine r_iload K 0 dX12_nearest_104 rfl ?_
      refine r_iload K 5 dX12_nearest_106 rfl ?_
      refine r_isub K dX12_nearest_108 ?_
      refine r_goto K 113 dX12_nearest_109 (by decide) ?_
      exact r_sub [1, 2, 3, 6, 0] rfl (t_X12_nearest_113 K hl H D)
set_option maxRecDepth 10000 in
theorem l_X12_nearest_67 {X : jX} {l : Launch} {n : Nat} {Y : jY} (K : jOK X RX12 cX12_nearest 7 (some .int) 4) (hl : X.2.1 = l) {rr : Int32} {μr : jM} {v0 : Nat} {v1 : Int32} {v2 : Int32}  {s0 : Int32 × Int32 × Int32 × jM} {z : (Int32 × jM)} (H : jit jF (fun (s : Int32 × Int32 × Int32 × jM) => b_X12_nearest_67 Y v0 v1 v2 s.1 s.2.1 s.2.2.1 s.2.2.2) s0 = some z) (D : z = (rr, μr)) : JW X (jEnd X n Y (some (.int rr)) μr 0 0) 0 0 n Y 67 [(0, .ref v0), (1, .int v1), (2, .int v2), (3, .int s0.1), (4, .int s0.2.1), (5, .int s0.2.2.1)] [] s0.2.2.2 :=
  jit_ind (P := fun (s : Int32 × Int32 × Int32 × jM) => JW X (jEnd X n Y (some (.int rr)) μr 0 0) 0 0 n Y 67 [(0, .ref v0), (1, .int v1), (2, .int v2), (3, .int s.1), (4, .int s.2.1), (5, .int s.2.2.1)] [] s.2.2.2) (D := fun r => r = (rr, μr)) (fun s z Hs Ds => t_X12_nearest_67 K hl Hs Ds) jF s0 z H D
set_option maxRecDepth 10000 in
theorem t_X12_nearest_0 {X : jX} {l : Launch} {n : Nat} {Y : jY} (K : jOK X RX12 cX12_nearest 7 (some .int) 4) (hl : X.2.1 = l) {rr : Int32} {μr : jM} {v0 : Nat} {v1 : Int32} {v2 : Int32} {μ : jM} {z : (Int32 × jM)} (H : f_X12_nearest Y v0 v1 v2 μ = some z) (D : z = (rr, μr)) : JW X (jEnd X n Y (some (.int rr)) μr 0 0) 0 0 n Y 0 [(0, .ref v0), (1, .int v1), (2, .int v2)] [] μ := by
  unfold f_X12_nearest at H
  refine r_iload_n K 1 dX12_nearest_0 rfl rfl ?_
  refine w_callS K hl H (fun r h => c_X12_isDrawer l h) mC_yX12_isDrawer mM_RX12_253 mT_yX12_isDrawer mZ_RX12 (Nat.le_of_ble_eq_true rfl) (Nat.le_of_ble_eq_true rfl) np_yX12_isDrawer rfl (Nat.le_of_ble_eq_true rfl) dX12_nearest_1 (fun r1 H => ?_) ⟨Nat.zero_le _, Nat.zero_le _⟩
  refine w_if_eq K 17 dX12_nearest_4 (by decide) H (fun _ H => ?_) (fun _ H => ?_)
  · exact r_sub [] rfl (t_X12_nearest_17 K hl H D)
  · refine r_iload_n K 2 dX12_nearest_7 rfl rfl ?_
    refine r_iconst (v := 1) K dX12_nearest_8 (by decide) ?_
    refine r_bipush (v := 50) K dX12_nearest_9 (by decide) ?_
    refine w_callS K hl H (fun r h => c_X12_in l h) mC_yX12_in mM_RX12_134 mT_yX12_in mZ_RX12 (Nat.le_of_ble_eq_true rfl) (Nat.le_of_ble_eq_true rfl) np_yX12_in rfl (Nat.le_of_ble_eq_true rfl) dX12_nearest_11 (fun r2 H => ?_) ⟨Nat.zero_le _, Nat.zero_le _⟩
    refine w_if_ne K 19 dX12_nearest_14 (by decide) H (fun _ H => ?_) (fun _ H => ?_)
    · refine r_aload_n K 0 dX12_nearest_19 rfl rfl ?_
      refine w_getO K vc12 inX12 26 (by decide) mF_RX12_48 dX12_nearest_20 H (fun x3 H => ?_)
      refine r_iload_n K 1 dX12_nearest_23 rfl rfl ?_
      refine w_iald K dX12_nearest_24 H (fun x4 H => ?_)
      refine w_if_ne K 31 dX12_nearest_25 (by decide) H (fun _ H => ?_) (fun _ H => ?_)
      · refine r_aload_n K 0 dX12_nearest_31 rfl rfl ?_
        refine w_getO K vc12 inX12 26 (by decide) mF_RX12_48 dX12_nearest_32 H (fun x5 H => ?_)
        refine r_iload_n K 1 dX12_nearest_35 rfl rfl ?_
        refine w_iald K dX12_nearest_36 H (fun x6 H => ?_)
        refine r_iconst (v := 1) K dX12_nearest_37 (by decide) ?_
        refine w_icmp_ne K 44 dX12_nearest_38 (by decide) H (fun _ H => ?_) (fun _ H => ?_)
        · refine r_ldc_w K (100000) mc_RX12_308 dX12_nearest_44 ?_
          refine r_istore_n K [(3, .int _), (0, .ref _), (1, .int _), (2, .int _)] dX12_nearest_47 rfl (by decide) rfl ?_
          refine r_aload_n K 1 dX12_nearest_48 rfl rfl ?_
          refine r_iload_n K 2 dX12_nearest_49 rfl rfl ?_
          refine r_iconst (v := 0) K dX12_nearest_50 (by decide) ?_
          refine r_aload_n K 1 dX12_nearest_51 rfl rfl ?_
          refine w_getO K vc12 inX12 26 (by decide) mF_RX12_48 dX12_nearest_52 H (fun x7 H => ?_)
          refine r_iload_n K 2 dX12_nearest_55 rfl rfl ?_
          refine w_iald K dX12_nearest_56 H (fun x8 H => ?_)
          refine r_iconst (v := 0) K dX12_nearest_57 (by decide) ?_
          refine r_iload_n K 3 dX12_nearest_58 rfl rfl ?_
          refine w_callV K hl H (fun r h => c_X12_rootOf l h) mC_yX12_rootOf mM_RX12_289 mI_yX12_rootOf mS_yX12_rootOf mZ_RX12 vc12 (Nat.le_of_ble_eq_true rfl) (Nat.le_of_ble_eq_true rfl) np_yX12_rootOf rfl (Nat.le_of_ble_eq_true rfl) dX12_nearest_59 (fun r9 H => ?_) ⟨Nat.zero_le _, Nat.zero_le _⟩
          refine r_istore K [(4, .int _), (3, .int _), (0, .ref _), (1, .int _), (2, .int _)] dX12_nearest_62 (by decide) rfl ?_
          refine r_iconst (v := 1) K dX12_nearest_64 (by decide) ?_
          refine r_istore K [(5, .int _), (4, .int _), (3, .int _), (0, .ref _), (1, .int _), (2, .int _)] dX12_nearest_65 (by decide) rfl ?_
          exact r_sub [3, 4, 5, 2, 1, 0] rfl (l_X12_nearest_67 K hl H D)
        · refine r_bipush (v := -3) K dX12_nearest_41 (by decide) ?_
          cases H
          obtain ⟨rfl, rfl⟩ := jfin2 D
          exact r_iret K dX12_nearest_43
      · refine r_bipush (v := -2) K dX12_nearest_28 (by decide) ?_
        cases H
        obtain ⟨rfl, rfl⟩ := jfin2 D
        exact r_iret K dX12_nearest_30
    · exact r_sub [] rfl (t_X12_nearest_17 K hl H D)
theorem c_X12_nearest (l : Launch) {n : Nat} {Y : jY} {v0 : Nat} {v1 : Int32} {v2 : Int32} {μ : jM} {z : Int32 × jM} (H : f_X12_nearest Y v0 v1 v2 μ = some z) : jC l yX12_nearest cX12_nearest 7 (some .int) 4 0 0 [.ref v0, .int v1, .int v2] n Y μ n Y (some (.int z.1)) z.2 := by
  refine jC_of (by decide +kernel) (Nat.le_of_ble_eq_true rfl) (fun X hl K _ _ _ => ?_)
  obtain ⟨rr, μr⟩ := z
  exact t_X12_nearest_0 K hl H rfl
/-! RX12 root(IIII)I -/
def b_X12_root_52 (Y : jY) (μ : jM) : Option (Int32 × jM) :=
  some ((-100001 : Int32), μ)
def b_X12_root_81 (Y : jY) (t0 : Int32) (μ : jM) : Option (Int32 × jM) :=
  some (t0, μ)
def b_X12_root_56 (Y : jY) (v0 : Nat) (v1 : Int32) (v2 : Int32) (v3 : Int32) (v4 : Int32) (μ : jM) : Option (Int32 × jM) :=
  (jgO Y μ v0 12 26).bind fun x1 =>
  (jaI Y μ x1 20 v1).bind fun x2 =>
  if x2 = 0 then
    b_X12_root_81 Y (-100000 : Int32) μ
  else
    (jrcv Y v0 12 (f_X12_rootOf Y v0 v1 ((0 : Int32)) v2 v3 v4 μ)).bind fun r3 =>
    b_X12_root_81 Y r3.1 r3.2
def f_X12_root (Y : jY) (v0 : Nat) (v1 : Int32) (v2 : Int32) (v3 : Int32) (v4 : Int32) (μ : jM) : Option (Int32 × jM) :=
  (f_X12_isDrawer Y v1 μ).bind fun r1 =>
  if r1.1 = 0 then
    b_X12_root_52 Y r1.2
  else
    (f_X12_in Y v4 ((1 : Int32)) ((50 : Int32)) r1.2).bind fun r2 =>
    if r2.1 = 0 then
      b_X12_root_52 Y r2.2
    else
      (jgO Y r2.2 v0 12 26).bind fun x3 =>
      (jaI Y r2.2 x3 20 v1).bind fun x4 =>
      if x4 ≤ 0 then
        b_X12_root_56 Y v0 v1 v2 v3 v4 r2.2
      else
        (jgO Y r2.2 v0 12 26).bind fun x5 =>
        (jaI Y r2.2 x5 20 v1).bind fun x6 =>
        (f_X12_in Y v2 ((1 : Int32)) x6 r2.2).bind fun r7 =>
        if r7.1 = 0 then
          b_X12_root_52 Y r7.2
        else
          (f_X12_in Y v3 ((0 : Int32)) ((v2 - ((1 : Int32)))) r7.2).bind fun r8 =>
          if r8.1 = 0 then
            b_X12_root_52 Y r8.2
          else
            b_X12_root_56 Y v0 v1 v2 v3 v4 r8.2
set_option maxRecDepth 10000 in
theorem t_X12_root_52 {X : jX} {l : Launch} {n : Nat} {Y : jY} (K : jOK X RX12 cX12_root 5 (some .int) 4) (hl : X.2.1 = l) {rr : Int32} {μr : jM} {μ : jM} {z : (Int32 × jM)} (H : b_X12_root_52 Y μ = some z) (D : z = (rr, μr)) : JW X (jEnd X n Y (some (.int rr)) μr 0 0) 0 0 n Y 52 [] [] μ := by
  unfold b_X12_root_52 at H
  refine r_ldc_w K (-100001) mc_RX12_287 dX12_root_52 ?_
  cases H
  obtain ⟨rfl, rfl⟩ := jfin2 D
  exact r_iret K dX12_root_55
set_option maxRecDepth 10000 in
theorem t_X12_root_81 {X : jX} {l : Launch} {n : Nat} {Y : jY} (K : jOK X RX12 cX12_root 5 (some .int) 4) (hl : X.2.1 = l) {rr : Int32} {μr : jM} {t0 : Int32} {μ : jM} {z : (Int32 × jM)} (H : b_X12_root_81 Y t0 μ = some z) (D : z = (rr, μr)) : JW X (jEnd X n Y (some (.int rr)) μr 0 0) 0 0 n Y 81 [] [.int t0] μ := by
  unfold b_X12_root_81 at H
  cases H
  obtain ⟨rfl, rfl⟩ := jfin2 D
  exact r_iret K dX12_root_81
set_option maxRecDepth 10000 in
theorem t_X12_root_56 {X : jX} {l : Launch} {n : Nat} {Y : jY} (K : jOK X RX12 cX12_root 5 (some .int) 4) (hl : X.2.1 = l) {rr : Int32} {μr : jM} {v0 : Nat} {v1 : Int32} {v2 : Int32} {v3 : Int32} {v4 : Int32} {μ : jM} {z : (Int32 × jM)} (H : b_X12_root_56 Y v0 v1 v2 v3 v4 μ = some z) (D : z = (rr, μr)) : JW X (jEnd X n Y (some (.int rr)) μr 0 0) 0 0 n Y 56 [(0, .ref v0), (1, .int v1), (2, .int v2), (3, .int v3), (4, .int v4)] [] μ := by
  unfold b_X12_root_56 at H
  refine r_aload_n K 0 dX12_root_56 rfl rfl ?_
  refine w_getO K vc12 inX12 26 (by decide) mF_RX12_48 dX12_root_57 H (fun x1 H => ?_)
  refine r_iload_n K 1 dX12_root_60 rfl rfl ?_
  refine w_iald K dX12_root_61 H (fun x2 H => ?_)
  refine w_if_ne K 71 dX12_root_62 (by decide) H (fun _ H => ?_) (fun _ H => ?_)
  · refine r_aload_n K 0 dX12_root_71 rfl rfl ?_
    refine r_iload_n K 1 dX12_root_72 rfl rfl ?_
    refine r_iconst (v := 0) K dX12_root_73 (by decide) ?_
    refine r_iload_n K 2 dX12_root_74 rfl rfl ?_
    refine r_iload_n K 3 dX12_root_75 rfl rfl ?_
    refine r_iload K 4 dX12_root_76 rfl ?_
    refine w_callV K hl H (fun r h => c_X12_rootOf l h) mC_yX12_rootOf mM_RX12_289 mI_yX12_rootOf mS_yX12_rootOf mZ_RX12 vc12 (Nat.le_of_ble_eq_true rfl) (Nat.le_of_ble_eq_true rfl) np_yX12_rootOf rfl (Nat.le_of_ble_eq_true rfl) dX12_root_78 (fun r3 H => ?_) ⟨Nat.zero_le _, Nat.zero_le _⟩
    exact r_sub [] rfl (t_X12_root_81 K hl H D)
  · refine r_ldc_w K (-100000) mc_RX12_288 dX12_root_65 ?_
    refine r_goto K 81 dX12_root_68 (by decide) ?_
    exact r_sub [] rfl (t_X12_root_81 K hl H D)
set_option maxRecDepth 10000 in
theorem t_X12_root_0 {X : jX} {l : Launch} {n : Nat} {Y : jY} (K : jOK X RX12 cX12_root 5 (some .int) 4) (hl : X.2.1 = l) {rr : Int32} {μr : jM} {v0 : Nat} {v1 : Int32} {v2 : Int32} {v3 : Int32} {v4 : Int32} {μ : jM} {z : (Int32 × jM)} (H : f_X12_root Y v0 v1 v2 v3 v4 μ = some z) (D : z = (rr, μr)) : JW X (jEnd X n Y (some (.int rr)) μr 0 0) 0 0 n Y 0 [(0, .ref v0), (1, .int v1), (2, .int v2), (3, .int v3), (4, .int v4)] [] μ := by
  unfold f_X12_root at H
  refine r_iload_n K 1 dX12_root_0 rfl rfl ?_
  refine w_callS K hl H (fun r h => c_X12_isDrawer l h) mC_yX12_isDrawer mM_RX12_253 mT_yX12_isDrawer mZ_RX12 (Nat.le_of_ble_eq_true rfl) (Nat.le_of_ble_eq_true rfl) np_yX12_isDrawer rfl (Nat.le_of_ble_eq_true rfl) dX12_root_1 (fun r1 H => ?_) ⟨Nat.zero_le _, Nat.zero_le _⟩
  refine w_if_eq K 52 dX12_root_4 (by decide) H (fun _ H => ?_) (fun _ H => ?_)
  · exact r_sub [] rfl (t_X12_root_52 K hl H D)
  · refine r_iload K 4 dX12_root_7 rfl ?_
    refine r_iconst (v := 1) K dX12_root_9 (by decide) ?_
    refine r_bipush (v := 50) K dX12_root_10 (by decide) ?_
    refine w_callS K hl H (fun r h => c_X12_in l h) mC_yX12_in mM_RX12_134 mT_yX12_in mZ_RX12 (Nat.le_of_ble_eq_true rfl) (Nat.le_of_ble_eq_true rfl) np_yX12_in rfl (Nat.le_of_ble_eq_true rfl) dX12_root_12 (fun r2 H => ?_) ⟨Nat.zero_le _, Nat.zero_le _⟩
    refine w_if_eq K 52 dX12_root_15 (by decide) H (fun _ H => ?_) (fun _ H => ?_)
    · exact r_sub [] rfl (t_X12_root_52 K hl H D)
    · refine r_aload_n K 0 dX12_root_18 rfl rfl ?_
      refine w_getO K vc12 inX12 26 (by decide) mF_RX12_48 dX12_root_19 H (fun x3 H => ?_)
      refine r_iload_n K 1 dX12_root_22 rfl rfl ?_
      refine w_iald K dX12_root_23 H (fun x4 H => ?_)
      refine w_if_le K 56 dX12_root_24 (by decide) H (fun _ H => ?_) (fun _ H => ?_)
      · exact r_sub [0, 1, 2, 3, 4] rfl (t_X12_root_56 K hl H D)
      · refine r_iload_n K 2 dX12_root_27 rfl rfl ?_
        refine r_iconst (v := 1) K dX12_root_28 (by decide) ?_
        refine r_aload_n K 0 dX12_root_29 rfl rfl ?_
        refine w_getO K vc12 inX12 26 (by decide) mF_RX12_48 dX12_root_30 H (fun x5 H => ?_)
        refine r_iload_n K 1 dX12_root_33 rfl rfl ?_
        refine w_iald K dX12_root_34 H (fun x6 H => ?_)
        refine w_callS K hl H (fun r h => c_X12_in l h) mC_yX12_in mM_RX12_134 mT_yX12_in mZ_RX12 (Nat.le_of_ble_eq_true rfl) (Nat.le_of_ble_eq_true rfl) np_yX12_in rfl (Nat.le_of_ble_eq_true rfl) dX12_root_35 (fun r7 H => ?_) ⟨Nat.zero_le _, Nat.zero_le _⟩
        refine w_if_eq K 52 dX12_root_38 (by decide) H (fun _ H => ?_) (fun _ H => ?_)
        · exact r_sub [] rfl (t_X12_root_52 K hl H D)
        · refine r_iload_n K 3 dX12_root_41 rfl rfl ?_
          refine r_iconst (v := 0) K dX12_root_42 (by decide) ?_
          refine r_iload_n K 2 dX12_root_43 rfl rfl ?_
          refine r_iconst (v := 1) K dX12_root_44 (by decide) ?_
          refine r_isub K dX12_root_45 ?_
          refine w_callS K hl H (fun r h => c_X12_in l h) mC_yX12_in mM_RX12_134 mT_yX12_in mZ_RX12 (Nat.le_of_ble_eq_true rfl) (Nat.le_of_ble_eq_true rfl) np_yX12_in rfl (Nat.le_of_ble_eq_true rfl) dX12_root_46 (fun r8 H => ?_) ⟨Nat.zero_le _, Nat.zero_le _⟩
          refine w_if_ne K 56 dX12_root_49 (by decide) H (fun _ H => ?_) (fun _ H => ?_)
          · exact r_sub [0, 1, 2, 3, 4] rfl (t_X12_root_56 K hl H D)
          · exact r_sub [] rfl (t_X12_root_52 K hl H D)
theorem c_X12_root (l : Launch) {n : Nat} {Y : jY} {v0 : Nat} {v1 : Int32} {v2 : Int32} {v3 : Int32} {v4 : Int32} {μ : jM} {z : Int32 × jM} (H : f_X12_root Y v0 v1 v2 v3 v4 μ = some z) : jC l yX12_root cX12_root 5 (some .int) 4 0 0 [.ref v0, .int v1, .int v2, .int v3, .int v4] n Y μ n Y (some (.int z.1)) z.2 := by
  refine jC_of (by decide +kernel) (Nat.le_of_ble_eq_true rfl) (fun X hl K _ _ _ => ?_)
  obtain ⟨rr, μr⟩ := z
  exact t_X12_root_0 K hl H rfl
/-! RX12 strike(IIII)J -/
def b_X12_strike_59 (Y : jY) (μ : jM) : Option (Int64 × jM) :=
  some ((-9223372036854775808 : Int64), μ)
def b_X12_strike_274 (Y : jY) (v0 : Nat) (v1 : Int32) (v3 : Int32) (v4 : Int32) (v5 : Int32) (v6 : Int32) (v7 : Int32) (μ : jM) : Option ((Int32 × jM) ⊕ ((Int32 × jM) ⊕ (Int64 × jM))) :=
  some (.inl ((v7 + (1 : Int32)), μ))
def b_X12_strike_234 (Y : jY) (v0 : Nat) (v1 : Int32) (v3 : Int32) (v4 : Int32) (v5 : Int32) (v6 : Int32) (v7 : Int32) (μ : jM) : Option ((Int32 × jM) ⊕ ((Int32 × jM) ⊕ (Int64 × jM))) :=
  if v7 ≤ 0 then
    b_X12_strike_274 Y v0 v1 v3 v4 v5 v6 v7 μ
  else
    (jgO Y μ v0 12 40).bind fun x1 =>
    (jgO Y μ v0 12 40).bind fun x2 =>
    (jaL Y μ x2 21 v7).bind fun x3 =>
    (jrcv Y v0 12 (f_X12_c Y v0 v1 ((v7 - ((1 : Int32)))) μ)).bind fun r4 =>
    (jgO Y r4.2 v0 12 39).bind fun x5 =>
    (jaL Y r4.2 x5 21 ((v7 - ((1 : Int32))))).bind fun x6 =>
    (jas Y r4.2 x1 21 v7 (.long ((x3 - ((((r4.1.toInt64)) * x6)))))).bind fun μ7 =>
    b_X12_strike_274 Y v0 v1 v3 v4 v5 v6 v7 μ7
def b_X12_strike_163 (Y : jY) (v0 : Nat) (v1 : Int32) (v3 : Int32) (v4 : Int32) (v5 : Int32) (v6 : Int32) (v7 : Int32) (μ : jM) : Option ((Int32 × jM) ⊕ ((Int32 × jM) ⊕ (Int64 × jM))) :=
  if v5 ≤ v7 then
    some (.inr (.inl ((v6 + (1 : Int32)), μ)))
  else
    (jgO Y μ v0 12 40).bind fun x1 =>
    (jgO Y μ v0 12 40).bind fun x2 =>
    (jaL Y μ x2 21 v7).bind fun x3 =>
    (jrcv Y v0 12 (f_X12_a Y v0 v1 v7 μ)).bind fun r4 =>
    (jgO Y r4.2 v0 12 39).bind fun x5 =>
    (jaL Y r4.2 x5 21 v7).bind fun x6 =>
    (jas Y r4.2 x1 21 v7 (.long ((x3 - ((((r4.1.toInt64)) * x6)))))).bind fun μ7 =>
    if ((v5 - ((1 : Int32)))) ≤ v7 then
      b_X12_strike_234 Y v0 v1 v3 v4 v5 v6 v7 μ7
    else
      (jgO Y μ7 v0 12 40).bind fun x8 =>
      (jgO Y μ7 v0 12 40).bind fun x9 =>
      (jaL Y μ7 x9 21 v7).bind fun x10 =>
      (jgO Y μ7 v0 12 39).bind fun x11 =>
      (jaL Y μ7 x11 21 ((v7 + ((1 : Int32))))).bind fun x12 =>
      (jas Y μ7 x8 21 v7 (.long ((x10 - x12)))).bind fun μ13 =>
      b_X12_strike_234 Y v0 v1 v3 v4 v5 v6 v7 μ13
def b_X12_strike_125 (Y : jY) (v0 : Nat) (v1 : Int32) (v3 : Int32) (v4 : Int32) (v5 : Int32) (v6 : Int32) (v7 : Int32) (μ : jM) : Option ((Int32 × jM) ⊕ ((Int32 × jM) ⊕ (Int64 × jM))) :=
  if v5 ≤ v7 then
    (jit jF (fun (s : Int32 × jM) => b_X12_strike_163 Y v0 v1 v3 v4 v5 v6 s.1 s.2) ((0 : Int32), μ)).map (fun r => (.inr r))
  else
    (jgO Y μ v0 12 39).bind fun x1 =>
    (jgO Y μ v0 12 39).bind fun x2 =>
    (jaL Y μ x2 21 v7).bind fun x3 =>
    (jgO Y μ v0 12 40).bind fun x4 =>
    (jaL Y μ x4 21 v7).bind fun x5 =>
    (jas Y μ x1 21 v7 (.long ((x3 + x5)))).bind fun μ6 =>
    some (.inl ((v7 + (1 : Int32)), μ6))
def b_X12_strike_116 (Y : jY) (v0 : Nat) (v1 : Int32) (v3 : Int32) (v4 : Int32) (v5 : Int32) (v6 : Int32) (μ : jM) : Option ((Int32 × jM) ⊕ (Int64 × jM)) :=
  if v3 ≤ v6 then
    (jgO Y μ v0 12 39).bind fun x1 =>
    (jaL Y μ x1 21 v4).bind fun x2 =>
    some (.inr (x2, μ))
  else
    jit jF (fun (s : Int32 × jM) => b_X12_strike_125 Y v0 v1 v3 v4 v5 v6 s.1 s.2) ((0 : Int32), μ)
def b_X12_strike_106 (Y : jY) (v0 : Nat) (v1 : Int32) (v2 : Int32) (v3 : Int32) (v4 : Int32) (v5 : Int32) (v6 : Int32) (t0 : Nat) (t1 : Int32) (t2 : Int64) (μ : jM) : Option ((Int32 × jM) ⊕ (Int64 × jM)) :=
  (jas Y μ t0 21 t1 (.long t2)).bind fun μ1 =>
  some (.inl ((v6 + (1 : Int32)), μ1))
def b_X12_strike_74 (Y : jY) (v0 : Nat) (v1 : Int32) (v2 : Int32) (v3 : Int32) (v4 : Int32) (v5 : Int32) (v6 : Int32) (μ : jM) : Option ((Int32 × jM) ⊕ (Int64 × jM)) :=
  if v5 ≤ v6 then
    (jit jF (fun (s : Int32 × jM) => b_X12_strike_116 Y v0 v1 v3 v4 v5 s.1 s.2) ((0 : Int32), μ)).map (fun r => (.inr r))
  else
    (jgO Y μ v0 12 39).bind fun x1 =>
    (jas Y μ x1 21 v6 (.long ((0 : Int64)))).bind fun μ2 =>
    (jgO Y μ2 v0 12 40).bind fun x3 =>
    if v6 = v2 then
      b_X12_strike_106 Y v0 v1 v2 v3 v4 v5 v6 x3 v6 (1 : Int64) μ2
    else
      b_X12_strike_106 Y v0 v1 v2 v3 v4 v5 v6 x3 v6 (0 : Int64) μ2
def f_X12_strike (Y : jY) (v0 : Nat) (v1 : Int32) (v2 : Int32) (v3 : Int32) (v4 : Int32) (μ : jM) : Option (Int64 × jM) :=
  (f_X12_isDrawer Y v1 μ).bind fun r1 =>
  if r1.1 = 0 then
    b_X12_strike_59 Y r1.2
  else
    (jgO Y r1.2 v0 12 26).bind fun x2 =>
    (jaI Y r1.2 x2 20 v1).bind fun x3 =>
    if x3 = 0 then
      b_X12_strike_59 Y r1.2
    else
      (jgO Y r1.2 v0 12 26).bind fun x4 =>
      (jaI Y r1.2 x4 20 v1).bind fun x5 =>
      (f_X12_in Y v2 ((0 : Int32)) ((x5 - ((1 : Int32)))) r1.2).bind fun r6 =>
      if r6.1 = 0 then
        b_X12_strike_59 Y r6.2
      else
        (f_X12_in Y v3 ((0 : Int32)) ((8 : Int32)) r6.2).bind fun r7 =>
        if r7.1 = 0 then
          b_X12_strike_59 Y r7.2
        else
          (jgO Y r7.2 v0 12 26).bind fun x8 =>
          (jaI Y r7.2 x8 20 v1).bind fun x9 =>
          (f_X12_in Y v4 ((0 : Int32)) ((x9 - ((1 : Int32)))) r7.2).bind fun r10 =>
          if r10.1 = 0 then
            b_X12_strike_59 Y r10.2
          else
            (jgO Y r10.2 v0 12 26).bind fun x11 =>
            (jaI Y r10.2 x11 20 v1).bind fun x12 =>
            jit jF (fun (s : Int32 × jM) => b_X12_strike_74 Y v0 v1 v2 v3 v4 x12 s.1 s.2) ((0 : Int32), r10.2)
set_option maxRecDepth 10000 in
theorem t_X12_strike_59 {X : jX} {l : Launch} {n : Nat} {Y : jY} (K : jOK X RX12 cX12_strike 8 (some .long) 3) (hl : X.2.1 = l) {rr : Int64} {μr : jM} {μ : jM} {z : (Int64 × jM)} (H : b_X12_strike_59 Y μ = some z) (D : z = (rr, μr)) : JW X (jEnd X n Y (some (.long rr)) μr 0 0) 0 0 n Y 59 [] [] μ := by
  unfold b_X12_strike_59 at H
  refine r_ldc2 K (-9223372036854775808) mc_RX12_156 dX12_strike_59 ?_
  cases H
  obtain ⟨rfl, rfl⟩ := jfin2 D
  exact r_lret K dX12_strike_62
set_option maxRecDepth 10000 in
theorem t_X12_strike_274 {X : jX} {l : Launch} {n : Nat} {Y : jY} (K : jOK X RX12 cX12_strike 8 (some .long) 3) (hl : X.2.1 = l) {rr : Int64} {μr : jM} {v0 : Nat} {v1 : Int32} {v3 : Int32} {v4 : Int32} {v5 : Int32} {v6 : Int32} {v7 : Int32} {μ : jM} {z : ((Int32 × jM) ⊕ ((Int32 × jM) ⊕ (Int64 × jM)))} (H : b_X12_strike_274 Y v0 v1 v3 v4 v5 v6 v7 μ = some z) (D : Sum.elim (fun (s : Int32 × jM) => JW X (jEnd X n Y (some (.long rr)) μr 0 0) 0 0 n Y 163 [(0, .ref v0), (1, .int v1), (3, .int v3), (4, .int v4), (5, .int v5), (6, .int v6), (7, .int s.1)] [] s.2) (Sum.elim (fun (s : Int32 × jM) => JW X (jEnd X n Y (some (.long rr)) μr 0 0) 0 0 n Y 116 [(0, .ref v0), (1, .int v1), (3, .int v3), (4, .int v4), (5, .int v5), (6, .int s.1)] [] s.2) (fun r => r = (rr, μr))) z) : JW X (jEnd X n Y (some (.long rr)) μr 0 0) 0 0 n Y 274 [(0, .ref v0), (1, .int v1), (3, .int v3), (4, .int v4), (5, .int v5), (6, .int v6), (7, .int v7)] [] μ := by
  unfold b_X12_strike_274 at H
  refine r_iinc K 6 [(7, .int _), (0, .ref _), (1, .int _), (3, .int _), (4, .int _), (5, .int _), (6, .int _)] (v := _ + (1 : Int32)) dX12_strike_274 rfl rfl (by decide) rfl ?_
  refine r_goto K 163 dX12_strike_277 (by decide) ?_
  cases H
  exact r_sub [1, 2, 3, 4, 5, 6, 0] rfl D
set_option maxRecDepth 10000 in
theorem t_X12_strike_234 {X : jX} {l : Launch} {n : Nat} {Y : jY} (K : jOK X RX12 cX12_strike 8 (some .long) 3) (hl : X.2.1 = l) {rr : Int64} {μr : jM} {v0 : Nat} {v1 : Int32} {v3 : Int32} {v4 : Int32} {v5 : Int32} {v6 : Int32} {v7 : Int32} {μ : jM} {z : ((Int32 × jM) ⊕ ((Int32 × jM) ⊕ (Int64 × jM)))} (H : b_X12_strike_234 Y v0 v1 v3 v4 v5 v6 v7 μ = some z) (D : Sum.elim (fun (s : Int32 × jM) => JW X (jEnd X n Y (some (.long rr)) μr 0 0) 0 0 n Y 163 [(0, .ref v0), (1, .int v1), (3, .int v3), (4, .int v4), (5, .int v5), (6, .int v6), (7, .int s.1)] [] s.2) (Sum.elim (fun (s : Int32 × jM) => JW X (jEnd X n Y (some (.long rr)) μr 0 0) 0 0 n Y 116 [(0, .ref v0), (1, .int v1), (3, .int v3), (4, .int v4), (5, .int v5), (6, .int s.1)] [] s.2) (fun r => r = (rr, μr))) z) : JW X (jEnd X n Y (some (.long rr)) μr 0 0) 0 0 n Y 234 [(0, .ref v0), (1, .int v1), (3, .int v3), (4, .int v4), (5, .int v5), (6, .int v6), (7, .int v7)] [] μ := by
  unfold b_X12_strike_234 at H
  refine r_iload K 6 dX12_strike_234 rfl ?_
  refine w_if_le K 274 dX12_strike_236 (by decide) H (fun _ H => ?_) (fun _ H => ?_)
  · exact r_sub [0, 1, 2, 3, 4, 5, 6] rfl (t_X12_strike_274 K hl H D)
  · refine r_aload_n K 0 dX12_strike_239 rfl rfl ?_
    refine w_getO K vc12 inX12 40 (by decide) mF_RX12_90 dX12_strike_240 H (fun x1 H => ?_)
    refine r_iload K 6 dX12_strike_243 rfl ?_
    refine r_aload_n K 0 dX12_strike_245 rfl rfl ?_
    refine w_getO K vc12 inX12 40 (by decide) mF_RX12_90 dX12_strike_246 H (fun x2 H => ?_)
    refine r_iload K 6 dX12_strike_249 rfl ?_
    refine w_lald K dX12_strike_251 H (fun x3 H => ?_)
    refine r_aload_n K 0 dX12_strike_252 rfl rfl ?_
    refine r_iload_n K 1 dX12_strike_253 rfl rfl ?_
    refine r_iload K 6 dX12_strike_254 rfl ?_
    refine r_iconst (v := 1) K dX12_strike_256 (by decide) ?_
    refine r_isub K dX12_strike_257 ?_
    refine w_callV K hl H (fun r h => c_X12_c l h) mC_yX12_c mM_RX12_260 mI_yX12_c mS_yX12_c mZ_RX12 vc12 (Nat.le_of_ble_eq_true rfl) (Nat.le_of_ble_eq_true rfl) np_yX12_c rfl (Nat.le_of_ble_eq_true rfl) dX12_strike_258 (fun r4 H => ?_) ⟨Nat.zero_le _, Nat.zero_le _⟩
    refine r_i2l K dX12_strike_261 ?_
    refine r_aload_n K 0 dX12_strike_262 rfl rfl ?_
    refine w_getO K vc12 inX12 39 (by decide) mF_RX12_87 dX12_strike_263 H (fun x5 H => ?_)
    refine r_iload K 6 dX12_strike_266 rfl ?_
    refine r_iconst (v := 1) K dX12_strike_268 (by decide) ?_
    refine r_isub K dX12_strike_269 ?_
    refine w_lald K dX12_strike_270 H (fun x6 H => ?_)
    refine r_lmul K dX12_strike_271 ?_
    refine r_lsub K dX12_strike_272 ?_
    refine w_last K dX12_strike_273 H (fun μ7 H => ?_)
    exact r_sub [0, 1, 2, 3, 4, 5, 6] rfl (t_X12_strike_274 K hl H D)
set_option maxRecDepth 10000 in
theorem t_X12_strike_163 {X : jX} {l : Launch} {n : Nat} {Y : jY} (K : jOK X RX12 cX12_strike 8 (some .long) 3) (hl : X.2.1 = l) {rr : Int64} {μr : jM} {v0 : Nat} {v1 : Int32} {v3 : Int32} {v4 : Int32} {v5 : Int32} {v6 : Int32} {v7 : Int32} {μ : jM} {z : ((Int32 × jM) ⊕ ((Int32 × jM) ⊕ (Int64 × jM)))} (H : b_X12_strike_163 Y v0 v1 v3 v4 v5 v6 v7 μ = some z) (D : Sum.elim (fun (s : Int32 × jM) => JW X (jEnd X n Y (some (.long rr)) μr 0 0) 0 0 n Y 163 [(0, .ref v0), (1, .int v1), (3, .int v3), (4, .int v4), (5, .int v5), (6, .int v6), (7, .int s.1)] [] s.2) (Sum.elim (fun (s : Int32 × jM) => JW X (jEnd X n Y (some (.long rr)) μr 0 0) 0 0 n Y 116 [(0, .ref v0), (1, .int v1), (3, .int v3), (4, .int v4), (5, .int v5), (6, .int s.1)] [] s.2) (fun r => r = (rr, μr))) z) : JW X (jEnd X n Y (some (.long rr)) μr 0 0) 0 0 n Y 163 [(0, .ref v0), (1, .int v1), (3, .int v3), (4, .int v4), (5, .int v5), (6, .int v6), (7, .int v7)] [] μ := by
  unfold b_X12_strike_163 at H
  refine r_iload K 6 dX12_strike_163 rfl ?_
  refine r_iload K 4 dX12_strike_165 rfl ?_
  refine w_icmp_ge K 280 dX12_strike_167 (by decide) H (fun _ H => ?_) (fun _ H => ?_)
  · refine r_iinc K 5 [(6, .int _), (0, .ref _), (1, .int _), (3, .int _), (4, .int _), (5, .int _), (7, .int _)] (v := _ + (1 : Int32)) dX12_strike_280 rfl rfl (by decide) rfl ?_
    refine r_goto K 116 dX12_strike_283 (by decide) ?_
    cases H
    exact r_sub [1, 2, 3, 4, 5, 0] rfl D
  · refine r_aload_n K 0 dX12_strike_170 rfl rfl ?_
    refine w_getO K vc12 inX12 40 (by decide) mF_RX12_90 dX12_strike_171 H (fun x1 H => ?_)
    refine r_iload K 6 dX12_strike_174 rfl ?_
    refine r_aload_n K 0 dX12_strike_176 rfl rfl ?_
    refine w_getO K vc12 inX12 40 (by decide) mF_RX12_90 dX12_strike_177 H (fun x2 H => ?_)
    refine r_iload K 6 dX12_strike_180 rfl ?_
    refine w_lald K dX12_strike_182 H (fun x3 H => ?_)
    refine r_aload_n K 0 dX12_strike_183 rfl rfl ?_
    refine r_iload_n K 1 dX12_strike_184 rfl rfl ?_
    refine r_iload K 6 dX12_strike_185 rfl ?_
    refine w_callV K hl H (fun r h => c_X12_a l h) mC_yX12_a mM_RX12_256 mI_yX12_a mS_yX12_a mZ_RX12 vc12 (Nat.le_of_ble_eq_true rfl) (Nat.le_of_ble_eq_true rfl) np_yX12_a rfl (Nat.le_of_ble_eq_true rfl) dX12_strike_187 (fun r4 H => ?_) ⟨Nat.zero_le _, Nat.zero_le _⟩
    refine r_i2l K dX12_strike_190 ?_
    refine r_aload_n K 0 dX12_strike_191 rfl rfl ?_
    refine w_getO K vc12 inX12 39 (by decide) mF_RX12_87 dX12_strike_192 H (fun x5 H => ?_)
    refine r_iload K 6 dX12_strike_195 rfl ?_
    refine w_lald K dX12_strike_197 H (fun x6 H => ?_)
    refine r_lmul K dX12_strike_198 ?_
    refine r_lsub K dX12_strike_199 ?_
    refine w_last K dX12_strike_200 H (fun μ7 H => ?_)
    refine r_iload K 6 dX12_strike_201 rfl ?_
    refine r_iload K 4 dX12_strike_203 rfl ?_
    refine r_iconst (v := 1) K dX12_strike_205 (by decide) ?_
    refine r_isub K dX12_strike_206 ?_
    refine w_icmp_ge K 234 dX12_strike_207 (by decide) H (fun _ H => ?_) (fun _ H => ?_)
    · exact r_sub [0, 1, 2, 3, 4, 5, 6] rfl (t_X12_strike_234 K hl H D)
    · refine r_aload_n K 0 dX12_strike_210 rfl rfl ?_
      refine w_getO K vc12 inX12 40 (by decide) mF_RX12_90 dX12_strike_211 H (fun x8 H => ?_)
      refine r_iload K 6 dX12_strike_214 rfl ?_
      refine r_aload_n K 0 dX12_strike_216 rfl rfl ?_
      refine w_getO K vc12 inX12 40 (by decide) mF_RX12_90 dX12_strike_217 H (fun x9 H => ?_)
      refine r_iload K 6 dX12_strike_220 rfl ?_
      refine w_lald K dX12_strike_222 H (fun x10 H => ?_)
      refine r_aload_n K 0 dX12_strike_223 rfl rfl ?_
      refine w_getO K vc12 inX12 39 (by decide) mF_RX12_87 dX12_strike_224 H (fun x11 H => ?_)
      refine r_iload K 6 dX12_strike_227 rfl ?_
      refine r_iconst (v := 1) K dX12_strike_229 (by decide) ?_
      refine r_iadd K dX12_strike_230 ?_
      refine w_lald K dX12_strike_231 H (fun x12 H => ?_)
      refine r_lsub K dX12_strike_232 ?_
      refine w_last K dX12_strike_233 H (fun μ13 H => ?_)
      exact r_sub [0, 1, 2, 3, 4, 5, 6] rfl (t_X12_strike_234 K hl H D)
set_option maxRecDepth 10000 in
theorem l_X12_strike_163 {X : jX} {l : Launch} {n : Nat} {Y : jY} (K : jOK X RX12 cX12_strike 8 (some .long) 3) (hl : X.2.1 = l) {rr : Int64} {μr : jM} {v0 : Nat} {v1 : Int32} {v3 : Int32} {v4 : Int32} {v5 : Int32} {v6 : Int32}  {s0 : Int32 × jM} {z : ((Int32 × jM) ⊕ (Int64 × jM))} (H : jit jF (fun (s : Int32 × jM) => b_X12_strike_163 Y v0 v1 v3 v4 v5 v6 s.1 s.2) s0 = some z) (D : Sum.elim (fun (s : Int32 × jM) => JW X (jEnd X n Y (some (.long rr)) μr 0 0) 0 0 n Y 116 [(0, .ref v0), (1, .int v1), (3, .int v3), (4, .int v4), (5, .int v5), (6, .int s.1)] [] s.2) (fun r => r = (rr, μr)) z) : JW X (jEnd X n Y (some (.long rr)) μr 0 0) 0 0 n Y 163 [(0, .ref v0), (1, .int v1), (3, .int v3), (4, .int v4), (5, .int v5), (6, .int v6), (7, .int s0.1)] [] s0.2 :=
  jit_ind (P := fun (s : Int32 × jM) => JW X (jEnd X n Y (some (.long rr)) μr 0 0) 0 0 n Y 163 [(0, .ref v0), (1, .int v1), (3, .int v3), (4, .int v4), (5, .int v5), (6, .int v6), (7, .int s.1)] [] s.2) (D := Sum.elim (fun (s : Int32 × jM) => JW X (jEnd X n Y (some (.long rr)) μr 0 0) 0 0 n Y 116 [(0, .ref v0), (1, .int v1), (3, .int v3), (4, .int v4), (5, .int v5), (6, .int s.1)] [] s.2) (fun r => r = (rr, μr))) (fun s z Hs Ds => t_X12_strike_163 K hl Hs Ds) jF s0 z H D
set_option maxRecDepth 10000 in
theorem t_X12_strike_125 {X : jX} {l : Launch} {n : Nat} {Y : jY} (K : jOK X RX12 cX12_strike 8 (some .long) 3) (hl : X.2.1 = l) {rr : Int64} {μr : jM} {v0 : Nat} {v1 : Int32} {v3 : Int32} {v4 : Int32} {v5 : Int32} {v6 : Int32} {v7 : Int32} {μ : jM} {z : ((Int32 × jM) ⊕ ((Int32 × jM) ⊕ (Int64 × jM)))} (H : b_X12_strike_125 Y v0 v1 v3 v4 v5 v6 v7 μ = some z) (D : Sum.elim (fun (s : Int32 × jM) => JW X (jEnd X n Y (some (.long rr)) μr 0 0) 0 0 n Y 125 [(0, .ref v0), (1, .int v1), (3, .int v3), (4, .int v4), (5, .int v5), (6, .int v6), (7, .int s.1)] [] s.2) (Sum.elim (fun (s : Int32 × jM) => JW X (jEnd X n Y (some (.long rr)) μr 0 0) 0 0 n Y 116 [(0, .ref v0), (1, .int v1), (3, .int v3), (4, .int v4), (5, .int v5), (6, .int s.1)] [] s.2) (fun r => r = (rr, μr))) z) : JW X (jEnd X n Y (some (.long rr)) μr 0 0) 0 0 n Y 125 [(0, .ref v0), (1, .int v1), (3, .int v3), (4, .int v4), (5, .int v5), (6, .int v6), (7, .int v7)] [] μ := by
  unfold b_X12_strike_125 at H
  refine r_iload K 6 dX12_strike_125 rfl ?_
  refine r_iload K 4 dX12_strike_127 rfl ?_
  refine w_icmp_ge K 160 dX12_strike_129 (by decide) H (fun _ H => ?_) (fun _ H => ?_)
  · refine r_iconst (v := 0) K dX12_strike_160 (by decide) ?_
    refine r_istore K [(7, .int _), (0, .ref _), (1, .int _), (3, .int _), (4, .int _), (5, .int _), (6, .int _)] dX12_strike_161 (by decide) rfl ?_
    obtain ⟨z2, H2, rfl⟩ := jmap H
    exact r_sub [1, 2, 3, 4, 5, 6, 0] rfl (l_X12_strike_163 K hl H2 D)
  · refine r_aload_n K 0 dX12_strike_132 rfl rfl ?_
    refine w_getO K vc12 inX12 39 (by decide) mF_RX12_87 dX12_strike_133 H (fun x1 H => ?_)
    refine r_iload K 6 dX12_strike_136 rfl ?_
    refine r_aload_n K 0 dX12_strike_138 rfl rfl ?_
    refine w_getO K vc12 inX12 39 (by decide) mF_RX12_87 dX12_strike_139 H (fun x2 H => ?_)
    refine r_iload K 6 dX12_strike_142 rfl ?_
    refine w_lald K dX12_strike_144 H (fun x3 H => ?_)
    refine r_aload_n K 0 dX12_strike_145 rfl rfl ?_
    refine w_getO K vc12 inX12 40 (by decide) mF_RX12_90 dX12_strike_146 H (fun x4 H => ?_)
    refine r_iload K 6 dX12_strike_149 rfl ?_
    refine w_lald K dX12_strike_151 H (fun x5 H => ?_)
    refine r_ladd K dX12_strike_152 ?_
    refine w_last K dX12_strike_153 H (fun μ6 H => ?_)
    refine r_iinc K 6 [(7, .int _), (0, .ref _), (1, .int _), (3, .int _), (4, .int _), (5, .int _), (6, .int _)] (v := _ + (1 : Int32)) dX12_strike_154 rfl rfl (by decide) rfl ?_
    refine r_goto K 125 dX12_strike_157 (by decide) ?_
    cases H
    exact r_sub [1, 2, 3, 4, 5, 6, 0] rfl D
set_option maxRecDepth 10000 in
theorem l_X12_strike_125 {X : jX} {l : Launch} {n : Nat} {Y : jY} (K : jOK X RX12 cX12_strike 8 (some .long) 3) (hl : X.2.1 = l) {rr : Int64} {μr : jM} {v0 : Nat} {v1 : Int32} {v3 : Int32} {v4 : Int32} {v5 : Int32} {v6 : Int32}  {s0 : Int32 × jM} {z : ((Int32 × jM) ⊕ (Int64 × jM))} (H : jit jF (fun (s : Int32 × jM) => b_X12_strike_125 Y v0 v1 v3 v4 v5 v6 s.1 s.2) s0 = some z) (D : Sum.elim (fun (s : Int32 × jM) => JW X (jEnd X n Y (some (.long rr)) μr 0 0) 0 0 n Y 116 [(0, .ref v0), (1, .int v1), (3, .int v3), (4, .int v4), (5, .int v5), (6, .int s.1)] [] s.2) (fun r => r = (rr, μr)) z) : JW X (jEnd X n Y (some (.long rr)) μr 0 0) 0 0 n Y 125 [(0, .ref v0), (1, .int v1), (3, .int v3), (4, .int v4), (5, .int v5), (6, .int v6), (7, .int s0.1)] [] s0.2 :=
  jit_ind (P := fun (s : Int32 × jM) => JW X (jEnd X n Y (some (.long rr)) μr 0 0) 0 0 n Y 125 [(0, .ref v0), (1, .int v1), (3, .int v3), (4, .int v4), (5, .int v5), (6, .int v6), (7, .int s.1)] [] s.2) (D := Sum.elim (fun (s : Int32 × jM) => JW X (jEnd X n Y (some (.long rr)) μr 0 0) 0 0 n Y 116 [(0, .ref v0), (1, .int v1), (3, .int v3), (4, .int v4), (5, .int v5), (6, .int s.1)] [] s.2) (fun r => r = (rr, μr))) (fun s z Hs Ds => t_X12_strike_125 K hl Hs Ds) jF s0 z H D
set_option maxRecDepth 10000 in
theorem t_X12_strike_116 {X : jX} {l : Launch} {n : Nat} {Y : jY} (K : jOK X RX12 cX12_strike 8 (some .long) 3) (hl : X.2.1 = l) {rr : Int64} {μr : jM} {v0 : Nat} {v1 : Int32} {v3 : Int32} {v4 : Int32} {v5 : Int32} {v6 : Int32} {μ : jM} {z : ((Int32 × jM) ⊕ (Int64 × jM))} (H : b_X12_strike_116 Y v0 v1 v3 v4 v5 v6 μ = some z) (D : Sum.elim (fun (s : Int32 × jM) => JW X (jEnd X n Y (some (.long rr)) μr 0 0) 0 0 n Y 116 [(0, .ref v0), (1, .int v1), (3, .int v3), (4, .int v4), (5, .int v5), (6, .int s.1)] [] s.2) (fun r => r = (rr, μr)) z) : JW X (jEnd X n Y (some (.long rr)) μr 0 0) 0 0 n Y 116 [(0, .ref v0), (1, .int v1), (3, .int v3), (4, .int v4), (5, .int v5), (6, .int v6)] [] μ := by
  unfold b_X12_strike_116 at H
  refine r_iload K 5 dX12_strike_116 rfl ?_
  refine r_iload_n K 2 dX12_strike_118 rfl rfl ?_
  refine w_icmp_ge K 286 dX12_strike_119 (by decide) H (fun _ H => ?_) (fun _ H => ?_)
  · refine r_aload_n K 0 dX12_strike_286 rfl rfl ?_
    refine w_getO K vc12 inX12 39 (by decide) mF_RX12_87 dX12_strike_287 H (fun x1 H => ?_)
    refine r_iload K 3 dX12_strike_290 rfl ?_
    refine w_lald K dX12_strike_292 H (fun x2 H => ?_)
    cases H
    simp only [Sum.elim_inr] at D
    obtain ⟨rfl, rfl⟩ := jfin2 D
    exact r_lret K dX12_strike_293
  · refine r_iconst (v := 0) K dX12_strike_122 (by decide) ?_
    refine r_istore K [(7, .int _), (0, .ref _), (1, .int _), (3, .int _), (4, .int _), (5, .int _), (6, .int _)] dX12_strike_123 (by decide) rfl ?_
    exact r_sub [1, 2, 3, 4, 5, 6, 0] rfl (l_X12_strike_125 K hl H D)
set_option maxRecDepth 10000 in
theorem l_X12_strike_116 {X : jX} {l : Launch} {n : Nat} {Y : jY} (K : jOK X RX12 cX12_strike 8 (some .long) 3) (hl : X.2.1 = l) {rr : Int64} {μr : jM} {v0 : Nat} {v1 : Int32} {v3 : Int32} {v4 : Int32} {v5 : Int32}  {s0 : Int32 × jM} {z : (Int64 × jM)} (H : jit jF (fun (s : Int32 × jM) => b_X12_strike_116 Y v0 v1 v3 v4 v5 s.1 s.2) s0 = some z) (D : z = (rr, μr)) : JW X (jEnd X n Y (some (.long rr)) μr 0 0) 0 0 n Y 116 [(0, .ref v0), (1, .int v1), (3, .int v3), (4, .int v4), (5, .int v5), (6, .int s0.1)] [] s0.2 :=
  jit_ind (P := fun (s : Int32 × jM) => JW X (jEnd X n Y (some (.long rr)) μr 0 0) 0 0 n Y 116 [(0, .ref v0), (1, .int v1), (3, .int v3), (4, .int v4), (5, .int v5), (6, .int s.1)] [] s.2) (D := fun r => r = (rr, μr)) (fun s z Hs Ds => t_X12_strike_116 K hl Hs Ds) jF s0 z H D
set_option maxRecDepth 10000 in
theorem t_X12_strike_106 {X : jX} {l : Launch} {n : Nat} {Y : jY} (K : jOK X RX12 cX12_strike 8 (some .long) 3) (hl : X.2.1 = l) {rr : Int64} {μr : jM} {v0 : Nat} {v1 : Int32} {v2 : Int32} {v3 : Int32} {v4 : Int32} {v5 : Int32} {v6 : Int32} {t0 : Nat} {t1 : Int32} {t2 : Int64} {μ : jM} {z : ((Int32 × jM) ⊕ (Int64 × jM))} (H : b_X12_strike_106 Y v0 v1 v2 v3 v4 v5 v6 t0 t1 t2 μ = some z) (D : Sum.elim (fun (s : Int32 × jM) => JW X (jEnd X n Y (some (.long rr)) μr 0 0) 0 0 n Y 74 [(0, .ref v0), (1, .int v1), (2, .int v2), (3, .int v3), (4, .int v4), (5, .int v5), (6, .int s.1)] [] s.2) (fun r => r = (rr, μr)) z) : JW X (jEnd X n Y (some (.long rr)) μr 0 0) 0 0 n Y 106 [(0, .ref v0), (1, .int v1), (2, .int v2), (3, .int v3), (4, .int v4), (5, .int v5), (6, .int v6)] [.long t2, .int t1, .ref t0] μ := by
  unfold b_X12_strike_106 at H
  refine w_last K dX12_strike_106 H (fun μ1 H => ?_)
  refine r_iinc K 6 [(6, .int _), (0, .ref _), (1, .int _), (2, .int _), (3, .int _), (4, .int _), (5, .int _)] (v := _ + (1 : Int32)) dX12_strike_107 rfl rfl (by decide) rfl ?_
  refine r_goto K 74 dX12_strike_110 (by decide) ?_
  cases H
  exact r_sub [1, 2, 3, 4, 5, 6, 0] rfl D
set_option maxRecDepth 10000 in
theorem t_X12_strike_74 {X : jX} {l : Launch} {n : Nat} {Y : jY} (K : jOK X RX12 cX12_strike 8 (some .long) 3) (hl : X.2.1 = l) {rr : Int64} {μr : jM} {v0 : Nat} {v1 : Int32} {v2 : Int32} {v3 : Int32} {v4 : Int32} {v5 : Int32} {v6 : Int32} {μ : jM} {z : ((Int32 × jM) ⊕ (Int64 × jM))} (H : b_X12_strike_74 Y v0 v1 v2 v3 v4 v5 v6 μ = some z) (D : Sum.elim (fun (s : Int32 × jM) => JW X (jEnd X n Y (some (.long rr)) μr 0 0) 0 0 n Y 74 [(0, .ref v0), (1, .int v1), (2, .int v2), (3, .int v3), (4, .int v4), (5, .int v5), (6, .int s.1)] [] s.2) (fun r => r = (rr, μr)) z) : JW X (jEnd X n Y (some (.long rr)) μr 0 0) 0 0 n Y 74 [(0, .ref v0), (1, .int v1), (2, .int v2), (3, .int v3), (4, .int v4), (5, .int v5), (6, .int v6)] [] μ := by
  unfold b_X12_strike_74 at H
  refine r_iload K 6 dX12_strike_74 rfl ?_
  refine r_iload K 5 dX12_strike_76 rfl ?_
  refine w_icmp_ge K 113 dX12_strike_78 (by decide) H (fun _ H => ?_) (fun _ H => ?_)
  · refine r_iconst (v := 0) K dX12_strike_113 (by decide) ?_
    refine r_istore K [(6, .int _), (0, .ref _), (1, .int _), (2, .int _), (3, .int _), (4, .int _), (5, .int _)] dX12_strike_114 (by decide) rfl ?_
    obtain ⟨z2, H2, rfl⟩ := jmap H
    exact r_sub [1, 2, 4, 5, 6, 0] rfl (l_X12_strike_116 K hl H2 D)
  · refine r_aload_n K 0 dX12_strike_81 rfl rfl ?_
    refine w_getO K vc12 inX12 39 (by decide) mF_RX12_87 dX12_strike_82 H (fun x1 H => ?_)
    refine r_iload K 6 dX12_strike_85 rfl ?_
    refine r_lconst (v := 0) K dX12_strike_87 (by decide) ?_
    refine w_last K dX12_strike_88 H (fun μ2 H => ?_)
    refine r_aload_n K 0 dX12_strike_89 rfl rfl ?_
    refine w_getO K vc12 inX12 40 (by decide) mF_RX12_90 dX12_strike_90 H (fun x3 H => ?_)
    refine r_iload K 6 dX12_strike_93 rfl ?_
    refine r_iload K 6 dX12_strike_95 rfl ?_
    refine r_iload_n K 2 dX12_strike_97 rfl rfl ?_
    refine w_icmp_ne K 105 dX12_strike_98 (by decide) H (fun _ H => ?_) (fun _ H => ?_)
    · refine r_lconst (v := 0) K dX12_strike_105 (by decide) ?_
      exact r_sub [0, 1, 2, 3, 4, 5, 6] rfl (t_X12_strike_106 K hl H D)
    · refine r_lconst (v := 1) K dX12_strike_101 (by decide) ?_
      refine r_goto K 106 dX12_strike_102 (by decide) ?_
      exact r_sub [0, 1, 2, 3, 4, 5, 6] rfl (t_X12_strike_106 K hl H D)
set_option maxRecDepth 10000 in
theorem l_X12_strike_74 {X : jX} {l : Launch} {n : Nat} {Y : jY} (K : jOK X RX12 cX12_strike 8 (some .long) 3) (hl : X.2.1 = l) {rr : Int64} {μr : jM} {v0 : Nat} {v1 : Int32} {v2 : Int32} {v3 : Int32} {v4 : Int32} {v5 : Int32}  {s0 : Int32 × jM} {z : (Int64 × jM)} (H : jit jF (fun (s : Int32 × jM) => b_X12_strike_74 Y v0 v1 v2 v3 v4 v5 s.1 s.2) s0 = some z) (D : z = (rr, μr)) : JW X (jEnd X n Y (some (.long rr)) μr 0 0) 0 0 n Y 74 [(0, .ref v0), (1, .int v1), (2, .int v2), (3, .int v3), (4, .int v4), (5, .int v5), (6, .int s0.1)] [] s0.2 :=
  jit_ind (P := fun (s : Int32 × jM) => JW X (jEnd X n Y (some (.long rr)) μr 0 0) 0 0 n Y 74 [(0, .ref v0), (1, .int v1), (2, .int v2), (3, .int v3), (4, .int v4), (5, .int v5), (6, .int s.1)] [] s.2) (D := fun r => r = (rr, μr)) (fun s z Hs Ds => t_X12_strike_74 K hl Hs Ds) jF s0 z H D
set_option maxRecDepth 10000 in
theorem t_X12_strike_0 {X : jX} {l : Launch} {n : Nat} {Y : jY} (K : jOK X RX12 cX12_strike 8 (some .long) 3) (hl : X.2.1 = l) {rr : Int64} {μr : jM} {v0 : Nat} {v1 : Int32} {v2 : Int32} {v3 : Int32} {v4 : Int32} {μ : jM} {z : (Int64 × jM)} (H : f_X12_strike Y v0 v1 v2 v3 v4 μ = some z) (D : z = (rr, μr)) : JW X (jEnd X n Y (some (.long rr)) μr 0 0) 0 0 n Y 0 [(0, .ref v0), (1, .int v1), (2, .int v2), (3, .int v3), (4, .int v4)] [] μ := by
  unfold f_X12_strike at H
  refine r_iload_n K 1 dX12_strike_0 rfl rfl ?_
  refine w_callS K hl H (fun r h => c_X12_isDrawer l h) mC_yX12_isDrawer mM_RX12_253 mT_yX12_isDrawer mZ_RX12 (Nat.le_of_ble_eq_true rfl) (Nat.le_of_ble_eq_true rfl) np_yX12_isDrawer rfl (Nat.le_of_ble_eq_true rfl) dX12_strike_1 (fun r1 H => ?_) ⟨Nat.zero_le _, Nat.zero_le _⟩
  refine w_if_eq K 59 dX12_strike_4 (by decide) H (fun _ H => ?_) (fun _ H => ?_)
  · exact r_sub [] rfl (t_X12_strike_59 K hl H D)
  · refine r_aload_n K 0 dX12_strike_7 rfl rfl ?_
    refine w_getO K vc12 inX12 26 (by decide) mF_RX12_48 dX12_strike_8 H (fun x2 H => ?_)
    refine r_iload_n K 1 dX12_strike_11 rfl rfl ?_
    refine w_iald K dX12_strike_12 H (fun x3 H => ?_)
    refine w_if_eq K 59 dX12_strike_13 (by decide) H (fun _ H => ?_) (fun _ H => ?_)
    · exact r_sub [] rfl (t_X12_strike_59 K hl H D)
    · refine r_iload_n K 2 dX12_strike_16 rfl rfl ?_
      refine r_iconst (v := 0) K dX12_strike_17 (by decide) ?_
      refine r_aload_n K 0 dX12_strike_18 rfl rfl ?_
      refine w_getO K vc12 inX12 26 (by decide) mF_RX12_48 dX12_strike_19 H (fun x4 H => ?_)
      refine r_iload_n K 1 dX12_strike_22 rfl rfl ?_
      refine w_iald K dX12_strike_23 H (fun x5 H => ?_)
      refine r_iconst (v := 1) K dX12_strike_24 (by decide) ?_
      refine r_isub K dX12_strike_25 ?_
      refine w_callS K hl H (fun r h => c_X12_in l h) mC_yX12_in mM_RX12_134 mT_yX12_in mZ_RX12 (Nat.le_of_ble_eq_true rfl) (Nat.le_of_ble_eq_true rfl) np_yX12_in rfl (Nat.le_of_ble_eq_true rfl) dX12_strike_26 (fun r6 H => ?_) ⟨Nat.zero_le _, Nat.zero_le _⟩
      refine w_if_eq K 59 dX12_strike_29 (by decide) H (fun _ H => ?_) (fun _ H => ?_)
      · exact r_sub [] rfl (t_X12_strike_59 K hl H D)
      · refine r_iload_n K 3 dX12_strike_32 rfl rfl ?_
        refine r_iconst (v := 0) K dX12_strike_33 (by decide) ?_
        refine r_bipush (v := 8) K dX12_strike_34 (by decide) ?_
        refine w_callS K hl H (fun r h => c_X12_in l h) mC_yX12_in mM_RX12_134 mT_yX12_in mZ_RX12 (Nat.le_of_ble_eq_true rfl) (Nat.le_of_ble_eq_true rfl) np_yX12_in rfl (Nat.le_of_ble_eq_true rfl) dX12_strike_36 (fun r7 H => ?_) ⟨Nat.zero_le _, Nat.zero_le _⟩
        refine w_if_eq K 59 dX12_strike_39 (by decide) H (fun _ H => ?_) (fun _ H => ?_)
        · exact r_sub [] rfl (t_X12_strike_59 K hl H D)
        · refine r_iload K 4 dX12_strike_42 rfl ?_
          refine r_iconst (v := 0) K dX12_strike_44 (by decide) ?_
          refine r_aload_n K 0 dX12_strike_45 rfl rfl ?_
          refine w_getO K vc12 inX12 26 (by decide) mF_RX12_48 dX12_strike_46 H (fun x8 H => ?_)
          refine r_iload_n K 1 dX12_strike_49 rfl rfl ?_
          refine w_iald K dX12_strike_50 H (fun x9 H => ?_)
          refine r_iconst (v := 1) K dX12_strike_51 (by decide) ?_
          refine r_isub K dX12_strike_52 ?_
          refine w_callS K hl H (fun r h => c_X12_in l h) mC_yX12_in mM_RX12_134 mT_yX12_in mZ_RX12 (Nat.le_of_ble_eq_true rfl) (Nat.le_of_ble_eq_true rfl) np_yX12_in rfl (Nat.le_of_ble_eq_true rfl) dX12_strike_53 (fun r10 H => ?_) ⟨Nat.zero_le _, Nat.zero_le _⟩
          refine w_if_ne K 63 dX12_strike_56 (by decide) H (fun _ H => ?_) (fun _ H => ?_)
          · refine r_aload_n K 0 dX12_strike_63 rfl rfl ?_
            refine w_getO K vc12 inX12 26 (by decide) mF_RX12_48 dX12_strike_64 H (fun x11 H => ?_)
            refine r_iload_n K 1 dX12_strike_67 rfl rfl ?_
            refine w_iald K dX12_strike_68 H (fun x12 H => ?_)
            refine r_istore K [(5, .int _), (0, .ref _), (1, .int _), (2, .int _), (3, .int _), (4, .int _)] dX12_strike_69 (by decide) rfl ?_
            refine r_iconst (v := 0) K dX12_strike_71 (by decide) ?_
            refine r_istore K [(6, .int _), (5, .int _), (0, .ref _), (1, .int _), (2, .int _), (3, .int _), (4, .int _)] dX12_strike_72 (by decide) rfl ?_
            exact r_sub [2, 3, 4, 5, 6, 1, 0] rfl (l_X12_strike_74 K hl H D)
          · exact r_sub [] rfl (t_X12_strike_59 K hl H D)
theorem c_X12_strike (l : Launch) {n : Nat} {Y : jY} {v0 : Nat} {v1 : Int32} {v2 : Int32} {v3 : Int32} {v4 : Int32} {μ : jM} {z : Int64 × jM} (H : f_X12_strike Y v0 v1 v2 v3 v4 μ = some z) : jC l yX12_strike cX12_strike 8 (some .long) 3 0 0 [.ref v0, .int v1, .int v2, .int v3, .int v4] n Y μ n Y (some (.long z.1)) z.2 := by
  refine jC_of (by decide +kernel) (Nat.le_of_ble_eq_true rfl) (fun X hl K _ _ _ => ?_)
  obtain ⟨rr, μr⟩ := z
  exact t_X12_strike_0 K hl H rfl
/-! RX12 told(I)J -/
def b_X12_told_15 (Y : jY) (t0 : Int64) (μ : jM) : Option (Int64 × jM) :=
  some (t0, μ)
def f_X12_told (Y : jY) (v0 : Nat) (v1 : Int32) (μ : jM) : Option (Int64 × jM) :=
  if v1 = 0 then
    (jgL Y μ v0 12 16).bind fun x2 =>
    b_X12_told_15 Y x2 μ
  else
    (jgL Y μ v0 12 17).bind fun x1 =>
    b_X12_told_15 Y x1 μ
set_option maxRecDepth 10000 in
theorem t_X12_told_15 {X : jX} {l : Launch} {n : Nat} {Y : jY} (K : jOK X RX12 cX12_told 2 (some .long) 1) (hl : X.2.1 = l) {rr : Int64} {μr : jM} {t0 : Int64} {μ : jM} {z : (Int64 × jM)} (H : b_X12_told_15 Y t0 μ = some z) (D : z = (rr, μr)) : JW X (jEnd X n Y (some (.long rr)) μr 0 0) 0 0 n Y 15 [] [.long t0] μ := by
  unfold b_X12_told_15 at H
  cases H
  obtain ⟨rfl, rfl⟩ := jfin2 D
  exact r_lret K dX12_told_15
set_option maxRecDepth 10000 in
theorem t_X12_told_0 {X : jX} {l : Launch} {n : Nat} {Y : jY} (K : jOK X RX12 cX12_told 2 (some .long) 1) (hl : X.2.1 = l) {rr : Int64} {μr : jM} {v0 : Nat} {v1 : Int32} {μ : jM} {z : (Int64 × jM)} (H : f_X12_told Y v0 v1 μ = some z) (D : z = (rr, μr)) : JW X (jEnd X n Y (some (.long rr)) μr 0 0) 0 0 n Y 0 [(0, .ref v0), (1, .int v1)] [] μ := by
  unfold f_X12_told at H
  refine r_iload_n K 1 dX12_told_0 rfl rfl ?_
  refine w_if_ne K 11 dX12_told_1 (by decide) H (fun _ H => ?_) (fun _ H => ?_)
  · refine r_aload_n K 0 dX12_told_11 rfl rfl ?_
    refine w_getL K vc12 inX12 17 (by decide) mF_RX12_181 dX12_told_12 H (fun x1 H => ?_)
    exact r_sub [] rfl (t_X12_told_15 K hl H D)
  · refine r_aload_n K 0 dX12_told_4 rfl rfl ?_
    refine w_getL K vc12 inX12 16 (by decide) mF_RX12_177 dX12_told_5 H (fun x2 H => ?_)
    refine r_goto K 15 dX12_told_8 (by decide) ?_
    exact r_sub [] rfl (t_X12_told_15 K hl H D)
theorem c_X12_told (l : Launch) {n : Nat} {Y : jY} {v0 : Nat} {v1 : Int32} {μ : jM} {z : Int64 × jM} (H : f_X12_told Y v0 v1 μ = some z) : jC l yX12_told cX12_told 2 (some .long) 1 0 0 [.ref v0, .int v1] n Y μ n Y (some (.long z.1)) z.2 := by
  refine jC_of (by decide +kernel) (Nat.le_of_ble_eq_true rfl) (fun X hl K _ _ _ => ?_)
  obtain ⟨rr, μr⟩ := z
  exact t_X12_told_0 K hl H rfl
/-! RX12 entry(ZII)J -/
def b_X12_entry_43 (Y : jY) (μ : jM) : Option (Int64 × jM) :=
  some ((-9223372036854775808 : Int64), μ)
def b_X12_entry_68 (Y : jY) (v0 : Nat) (v3 : Int32) (μ : jM) : Option (Int64 × jM) :=
  (jrcv Y v0 12 (f_X12_told Y v0 v3 μ)).bind fun r1 =>
  some (r1.1, r1.2)
def b_X12_entry_28 (Y : jY) (v0 : Nat) (v1 : Int32) (v2 : Int32) (v3 : Int32) (t0 : Int32) (t1 : Int32) (t2 : Int32) (μ : jM) : Option (Int64 × jM) :=
  (f_X12_in Y t0 t1 t2 μ).bind fun r1 =>
  if r1.1 = 0 then
    b_X12_entry_43 Y r1.2
  else
    (f_X12_in Y v3 ((0 : Int32)) ((1 : Int32)) r1.2).bind fun r2 =>
    if r2.1 = 0 then
      b_X12_entry_43 Y r2.2
    else
      (jrcv Y v0 12 (f_X12_laysTones Y v0 r2.2)).bind fun μ3 =>
      if v1 = 0 then
        (jrcv Y v0 12 (f_X12_laysC Y v0 v2 μ3)).bind fun μ4 =>
        b_X12_entry_68 Y v0 v3 μ4
      else
        (jrcv Y v0 12 (f_X12_laysA Y v0 v2 μ3)).bind fun μ5 =>
        b_X12_entry_68 Y v0 v3 μ5
def f_X12_entry (Y : jY) (v0 : Nat) (v1 : Int32) (v2 : Int32) (v3 : Int32) (μ : jM) : Option (Int64 × jM) :=
  (jgI Y μ v0 12 10).bind fun x1 =>
  if x1 = 0 then
    b_X12_entry_43 Y μ
  else
    if v1 = 0 then
      (jgI Y μ v0 12 10).bind fun x2 =>
      b_X12_entry_28 Y v0 v1 v2 v3 v2 (0 : Int32) (x2 - ((2 : Int32))) μ
    else
      (jgI Y μ v0 12 10).bind fun x3 =>
      b_X12_entry_28 Y v0 v1 v2 v3 v2 (0 : Int32) (x3 - ((1 : Int32))) μ
set_option maxRecDepth 10000 in
theorem t_X12_entry_43 {X : jX} {l : Launch} {n : Nat} {Y : jY} (K : jOK X RX12 cX12_entry 4 (some .long) 8) (hl : X.2.1 = l) {rr : Int64} {μr : jM} {μ : jM} {z : (Int64 × jM)} (H : b_X12_entry_43 Y μ = some z) (D : z = (rr, μr)) : JW X (jEnd X n Y (some (.long rr)) μr 0 0) 0 0 n Y 43 [] [] μ := by
  unfold b_X12_entry_43 at H
  refine r_ldc2 K (-9223372036854775808) mc_RX12_156 dX12_entry_43 ?_
  cases H
  obtain ⟨rfl, rfl⟩ := jfin2 D
  exact r_lret K dX12_entry_46
set_option maxRecDepth 10000 in
theorem t_X12_entry_68 {X : jX} {l : Launch} {n : Nat} {Y : jY} (K : jOK X RX12 cX12_entry 4 (some .long) 8) (hl : X.2.1 = l) {rr : Int64} {μr : jM} {v0 : Nat} {v3 : Int32} {μ : jM} {z : (Int64 × jM)} (H : b_X12_entry_68 Y v0 v3 μ = some z) (D : z = (rr, μr)) : JW X (jEnd X n Y (some (.long rr)) μr 0 0) 0 0 n Y 68 [(0, .ref v0), (3, .int v3)] [] μ := by
  unfold b_X12_entry_68 at H
  refine r_aload_n K 0 dX12_entry_68 rfl rfl ?_
  refine r_iload_n K 1 dX12_entry_69 rfl rfl ?_
  refine w_callV K hl H (fun r h => c_X12_told l h) mC_yX12_told mM_RX12_195 mI_yX12_told mS_yX12_told mZ_RX12 vc12 (Nat.le_of_ble_eq_true rfl) (Nat.le_of_ble_eq_true rfl) np_yX12_told rfl (Nat.le_of_ble_eq_true rfl) dX12_entry_70 (fun r1 H => ?_) ⟨Nat.zero_le _, Nat.zero_le _⟩
  cases H
  obtain ⟨rfl, rfl⟩ := jfin2 D
  exact r_lret K dX12_entry_73
set_option maxRecDepth 10000 in
theorem t_X12_entry_28 {X : jX} {l : Launch} {n : Nat} {Y : jY} (K : jOK X RX12 cX12_entry 4 (some .long) 8) (hl : X.2.1 = l) {rr : Int64} {μr : jM} {v0 : Nat} {v1 : Int32} {v2 : Int32} {v3 : Int32} {t0 : Int32} {t1 : Int32} {t2 : Int32} {μ : jM} {z : (Int64 × jM)} (H : b_X12_entry_28 Y v0 v1 v2 v3 t0 t1 t2 μ = some z) (D : z = (rr, μr)) : JW X (jEnd X n Y (some (.long rr)) μr 0 0) 0 0 n Y 28 [(0, .ref v0), (1, .int v1), (2, .int v2), (3, .int v3)] [.int t2, .int t1, .int t0] μ := by
  unfold b_X12_entry_28 at H
  refine w_callS K hl H (fun r h => c_X12_in l h) mC_yX12_in mM_RX12_134 mT_yX12_in mZ_RX12 (Nat.le_of_ble_eq_true rfl) (Nat.le_of_ble_eq_true rfl) np_yX12_in rfl (Nat.le_of_ble_eq_true rfl) dX12_entry_28 (fun r1 H => ?_) ⟨Nat.zero_le _, Nat.zero_le _⟩
  refine w_if_eq K 43 dX12_entry_31 (by decide) H (fun _ H => ?_) (fun _ H => ?_)
  · exact r_sub [] rfl (t_X12_entry_43 K hl H D)
  · refine r_iload_n K 3 dX12_entry_34 rfl rfl ?_
    refine r_iconst (v := 0) K dX12_entry_35 (by decide) ?_
    refine r_iconst (v := 1) K dX12_entry_36 (by decide) ?_
    refine w_callS K hl H (fun r h => c_X12_in l h) mC_yX12_in mM_RX12_134 mT_yX12_in mZ_RX12 (Nat.le_of_ble_eq_true rfl) (Nat.le_of_ble_eq_true rfl) np_yX12_in rfl (Nat.le_of_ble_eq_true rfl) dX12_entry_37 (fun r2 H => ?_) ⟨Nat.zero_le _, Nat.zero_le _⟩
    refine w_if_ne K 47 dX12_entry_40 (by decide) H (fun _ H => ?_) (fun _ H => ?_)
    · refine r_aload_n K 0 dX12_entry_47 rfl rfl ?_
      refine w_callV K hl H (fun r h => c_X12_laysTones l h) mC_yX12_laysTones mM_RX12_158 mI_yX12_laysTones mS_yX12_laysTones mZ_RX12 vc12 (Nat.le_of_ble_eq_true rfl) (Nat.le_of_ble_eq_true rfl) np_yX12_laysTones rfl (Nat.le_of_ble_eq_true rfl) dX12_entry_48 (fun μ3 H => ?_) ⟨Nat.zero_le _, Nat.zero_le _⟩
      refine r_iload_n K 1 dX12_entry_51 rfl rfl ?_
      refine w_if_eq K 63 dX12_entry_52 (by decide) H (fun _ H => ?_) (fun _ H => ?_)
      · refine r_aload_n K 0 dX12_entry_63 rfl rfl ?_
        refine r_iload_n K 2 dX12_entry_64 rfl rfl ?_
        refine w_callV K hl H (fun r h => c_X12_laysC l h) mC_yX12_laysC mM_RX12_214 mI_yX12_laysC mS_yX12_laysC mZ_RX12 vc12 (Nat.le_of_ble_eq_true rfl) (Nat.le_of_ble_eq_true rfl) np_yX12_laysC rfl (Nat.le_of_ble_eq_true rfl) dX12_entry_65 (fun μ4 H => ?_) ⟨Nat.zero_le _, Nat.zero_le _⟩
        exact r_sub [0, 3] rfl (t_X12_entry_68 K hl H D)
      · refine r_aload_n K 0 dX12_entry_55 rfl rfl ?_
        refine r_iload_n K 2 dX12_entry_56 rfl rfl ?_
        refine w_callV K hl H (fun r h => c_X12_laysA l h) mC_yX12_laysA mM_RX12_211 mI_yX12_laysA mS_yX12_laysA mZ_RX12 vc12 (Nat.le_of_ble_eq_true rfl) (Nat.le_of_ble_eq_true rfl) np_yX12_laysA rfl (Nat.le_of_ble_eq_true rfl) dX12_entry_57 (fun μ5 H => ?_) ⟨Nat.zero_le _, Nat.zero_le _⟩
        refine r_goto K 68 dX12_entry_60 (by decide) ?_
        exact r_sub [0, 3] rfl (t_X12_entry_68 K hl H D)
    · exact r_sub [] rfl (t_X12_entry_43 K hl H D)
set_option maxRecDepth 10000 in
theorem t_X12_entry_0 {X : jX} {l : Launch} {n : Nat} {Y : jY} (K : jOK X RX12 cX12_entry 4 (some .long) 8) (hl : X.2.1 = l) {rr : Int64} {μr : jM} {v0 : Nat} {v1 : Int32} {v2 : Int32} {v3 : Int32} {μ : jM} {z : (Int64 × jM)} (H : f_X12_entry Y v0 v1 v2 v3 μ = some z) (D : z = (rr, μr)) : JW X (jEnd X n Y (some (.long rr)) μr 0 0) 0 0 n Y 0 [(0, .ref v0), (1, .int v1), (2, .int v2), (3, .int v3)] [] μ := by
  unfold f_X12_entry at H
  refine r_aload_n K 0 dX12_entry_0 rfl rfl ?_
  refine w_getI K vc12 inX12 10 (by decide) mF_RX12_145 dX12_entry_1 H (fun x1 H => ?_)
  refine w_if_eq K 43 dX12_entry_4 (by decide) H (fun _ H => ?_) (fun _ H => ?_)
  · exact r_sub [] rfl (t_X12_entry_43 K hl H D)
  · refine r_iload_n K 2 dX12_entry_7 rfl rfl ?_
    refine r_iconst (v := 0) K dX12_entry_8 (by decide) ?_
    refine r_iload_n K 1 dX12_entry_9 rfl rfl ?_
    refine w_if_eq K 22 dX12_entry_10 (by decide) H (fun _ H => ?_) (fun _ H => ?_)
    · refine r_aload_n K 0 dX12_entry_22 rfl rfl ?_
      refine w_getI K vc12 inX12 10 (by decide) mF_RX12_145 dX12_entry_23 H (fun x2 H => ?_)
      refine r_iconst (v := 2) K dX12_entry_26 (by decide) ?_
      refine r_isub K dX12_entry_27 ?_
      exact r_sub [0, 1, 2, 3] rfl (t_X12_entry_28 K hl H D)
    · refine r_aload_n K 0 dX12_entry_13 rfl rfl ?_
      refine w_getI K vc12 inX12 10 (by decide) mF_RX12_145 dX12_entry_14 H (fun x3 H => ?_)
      refine r_iconst (v := 1) K dX12_entry_17 (by decide) ?_
      refine r_isub K dX12_entry_18 ?_
      refine r_goto K 28 dX12_entry_19 (by decide) ?_
      exact r_sub [0, 1, 2, 3] rfl (t_X12_entry_28 K hl H D)
theorem c_X12_entry (l : Launch) {n : Nat} {Y : jY} {v0 : Nat} {v1 : Int32} {v2 : Int32} {v3 : Int32} {μ : jM} {z : Int64 × jM} (H : f_X12_entry Y v0 v1 v2 v3 μ = some z) : jC l yX12_entry cX12_entry 4 (some .long) 8 0 0 [.ref v0, .int v1, .int v2, .int v3] n Y μ n Y (some (.long z.1)) z.2 := by
  refine jC_of (by decide +kernel) (Nat.le_of_ble_eq_true rfl) (fun X hl K _ _ _ => ?_)
  obtain ⟨rr, μr⟩ := z
  exact t_X12_entry_0 K hl H rfl
/-! RX12 canBe(ZI)Z -/
def b_X12_canBe_22 (Y : jY) (t0 : Int32) (μ : jM) : Option (Int32 × jM) :=
  (jbool t0).bind fun x1 =>
  some (x1, μ)
def f_X12_canBe (Y : jY) (v0 : Int32) (v1 : Int32) (μ : jM) : Option (Int32 × jM) :=
  if v0 = 0 then
    (f_X12_in Y v1 ((1 : Int32)) ((36 : Int32)) μ).bind fun r1 =>
    b_X12_canBe_22 Y r1.1 r1.2
  else
    (f_X12_in Y v1 ((-6 : Int32)) ((6 : Int32)) μ).bind fun r2 =>
    b_X12_canBe_22 Y r2.1 r2.2
set_option maxRecDepth 10000 in
theorem t_X12_canBe_22 {X : jX} {l : Launch} {n : Nat} {Y : jY} (K : jOK X RX12 cX12_canBe 2 (some .boolean) 2) (hl : X.2.1 = l) {rr : Int32} {μr : jM} {t0 : Int32} {μ : jM} {z : (Int32 × jM)} (H : b_X12_canBe_22 Y t0 μ = some z) (D : z = (rr, μr)) : JW X (jEnd X n Y (some (.int rr)) μr 0 0) 0 0 n Y 22 [] [.int t0] μ := by
  unfold b_X12_canBe_22 at H
  refine w_zret K dX12_canBe_22 H (fun hz H => ?_)
  cases H
  obtain ⟨rfl, rfl⟩ := jfin2 D
  exact r_zret K hz dX12_canBe_22
set_option maxRecDepth 10000 in
theorem t_X12_canBe_0 {X : jX} {l : Launch} {n : Nat} {Y : jY} (K : jOK X RX12 cX12_canBe 2 (some .boolean) 2) (hl : X.2.1 = l) {rr : Int32} {μr : jM} {v0 : Int32} {v1 : Int32} {μ : jM} {z : (Int32 × jM)} (H : f_X12_canBe Y v0 v1 μ = some z) (D : z = (rr, μr)) : JW X (jEnd X n Y (some (.int rr)) μr 0 0) 0 0 n Y 0 [(0, .int v0), (1, .int v1)] [] μ := by
  unfold f_X12_canBe at H
  refine r_iload_n K 0 dX12_canBe_0 rfl rfl ?_
  refine w_if_eq K 15 dX12_canBe_1 (by decide) H (fun _ H => ?_) (fun _ H => ?_)
  · refine r_iload_n K 1 dX12_canBe_15 rfl rfl ?_
    refine r_iconst (v := 1) K dX12_canBe_16 (by decide) ?_
    refine r_bipush (v := 36) K dX12_canBe_17 (by decide) ?_
    refine w_callS K hl H (fun r h => c_X12_in l h) mC_yX12_in mM_RX12_134 mT_yX12_in mZ_RX12 (Nat.le_of_ble_eq_true rfl) (Nat.le_of_ble_eq_true rfl) np_yX12_in rfl (Nat.le_of_ble_eq_true rfl) dX12_canBe_19 (fun r1 H => ?_) ⟨Nat.zero_le _, Nat.zero_le _⟩
    exact r_sub [] rfl (t_X12_canBe_22 K hl H D)
  · refine r_iload_n K 1 dX12_canBe_4 rfl rfl ?_
    refine r_bipush (v := -6) K dX12_canBe_5 (by decide) ?_
    refine r_bipush (v := 6) K dX12_canBe_7 (by decide) ?_
    refine w_callS K hl H (fun r h => c_X12_in l h) mC_yX12_in mM_RX12_134 mT_yX12_in mZ_RX12 (Nat.le_of_ble_eq_true rfl) (Nat.le_of_ble_eq_true rfl) np_yX12_in rfl (Nat.le_of_ble_eq_true rfl) dX12_canBe_9 (fun r2 H => ?_) ⟨Nat.zero_le _, Nat.zero_le _⟩
    refine r_goto K 22 dX12_canBe_12 (by decide) ?_
    exact r_sub [] rfl (t_X12_canBe_22 K hl H D)
theorem c_X12_canBe (l : Launch) {n : Nat} {Y : jY} {v0 : Int32} {v1 : Int32} {μ : jM} {z : Int32 × jM} (H : f_X12_canBe Y v0 v1 μ = some z) : jC l yX12_canBe cX12_canBe 2 (some .boolean) 2 0 0 [.int v0, .int v1] n Y μ n Y (some (.int z.1)) z.2 := by
  refine jC_of (by decide +kernel) (Nat.le_of_ble_eq_true rfl) (fun X hl K _ _ _ => ?_)
  obtain ⟨rr, μr⟩ := z
  exact t_X12_canBe_0 K hl H rfl
/-! RX12 hasLater()Z -/
def b_X12_hasLater_97 (Y : jY) (t0 : Int32) (μ : jM) : Option (Int32 × jM) :=
  (jbool t0).bind fun x1 =>
  some (x1, μ)
def b_X12_hasLater_96 (Y : jY) (μ : jM) : Option (Int32 × jM) :=
  b_X12_hasLater_97 Y (0 : Int32) μ
def b_X12_hasLater_36 (Y : jY) (t0 : Int32) (μ : jM) : Option (Int32 × jM) :=
  (jbool t0).bind fun x1 =>
  some (x1, μ)
def f_X12_hasLater (Y : jY) (v0 : Nat) (μ : jM) : Option (Int32 × jM) :=
  (jgI Y μ v0 12 10).bind fun x1 =>
  if x1 = ((1 : Int32)) then
    (jbool ((1 : Int32))).bind fun x19 =>
    some (x19, μ)
  else
    (jgI Y μ v0 12 10).bind fun x2 =>
    if x2 = ((2 : Int32)) then
      (jgI Y μ v0 12 43).bind fun x16 =>
      (jgO Y μ v0 12 12).bind fun x17 =>
      (jaI Y μ x17 20 ((0 : Int32))).bind fun x18 =>
      if x16 = x18 then
        b_X12_hasLater_36 Y (1 : Int32) μ
      else
        b_X12_hasLater_36 Y (0 : Int32) μ
    else
      (jgI Y μ v0 12 43).bind fun x3 =>
      (jgI Y μ v0 12 44).bind fun x4 =>
      (jgO Y μ v0 12 12).bind fun x5 =>
      (jaI Y μ x5 20 ((0 : Int32))).bind fun x6 =>
      (jgO Y μ v0 12 12).bind fun x7 =>
      (jaI Y μ x7 20 ((1 : Int32))).bind fun x8 =>
      if ((x3 + x4)) = ((x6 + x8)) then
        (jgI Y μ v0 12 43).bind fun x9 =>
        (jgI Y μ v0 12 44).bind fun x10 =>
        (jgI Y μ v0 12 46).bind fun x11 =>
        (jgO Y μ v0 12 12).bind fun x12 =>
        (jaI Y μ x12 20 ((0 : Int32))).bind fun x13 =>
        (jgO Y μ v0 12 12).bind fun x14 =>
        (jaI Y μ x14 20 ((1 : Int32))).bind fun x15 =>
        if ((((x9 * x10)) - x11)) = ((x13 * x15)) then
          b_X12_hasLater_97 Y (1 : Int32) μ
        else
          b_X12_hasLater_96 Y μ
      else
        b_X12_hasLater_96 Y μ
set_option maxRecDepth 10000 in
theorem t_X12_hasLater_97 {X : jX} {l : Launch} {n : Nat} {Y : jY} (K : jOK X RX12 cX12_hasLater 1 (some .boolean) 1) (hl : X.2.1 = l) {rr : Int32} {μr : jM} {t0 : Int32} {μ : jM} {z : (Int32 × jM)} (H : b_X12_hasLater_97 Y t0 μ = some z) (D : z = (rr, μr)) : JW X (jEnd X n Y (some (.int rr)) μr 0 0) 0 0 n Y 97 [] [.int t0] μ := by
  unfold b_X12_hasLater_97 at H
  refine w_zret K dX12_hasLater_97 H (fun hz H => ?_)
  cases H
  obtain ⟨rfl, rfl⟩ := jfin2 D
  exact r_zret K hz dX12_hasLater_97
set_option maxRecDepth 10000 in
theorem t_X12_hasLater_96 {X : jX} {l : Launch} {n : Nat} {Y : jY} (K : jOK X RX12 cX12_hasLater 1 (some .boolean) 1) (hl : X.2.1 = l) {rr : Int32} {μr : jM} {μ : jM} {z : (Int32 × jM)} (H : b_X12_hasLater_96 Y μ = some z) (D : z = (rr, μr)) : JW X (jEnd X n Y (some (.int rr)) μr 0 0) 0 0 n Y 96 [] [] μ := by
  unfold b_X12_hasLater_96 at H
  refine r_iconst (v := 0) K dX12_hasLater_96 (by decide) ?_
  exact r_sub [] rfl (t_X12_hasLater_97 K hl H D)
set_option maxRecDepth 10000 in
theorem t_X12_hasLater_36 {X : jX} {l : Launch} {n : Nat} {Y : jY} (K : jOK X RX12 cX12_hasLater 1 (some .boolean) 1) (hl : X.2.1 = l) {rr : Int32} {μr : jM} {t0 : Int32} {μ : jM} {z : (Int32 × jM)} (H : b_X12_hasLater_36 Y t0 μ = some z) (D : z = (rr, μr)) : JW X (jEnd X n Y (some (.int rr)) μr 0 0) 0 0 n Y 36 [] [.int t0] μ := by
  unfold b_X12_hasLater_36 at H
  refine w_zret K dX12_hasLater_36 H (fun hz H => ?_)
  cases H
  obtain ⟨rfl, rfl⟩ := jfin2 D
  exact r_zret K hz dX12_hasLater_36
set_option maxRecDepth 10000 in
theorem t_X12_hasLater_0 {X : jX} {l : Launch} {n : Nat} {Y : jY} (K : jOK X RX12 cX12_hasLater 1 (some .boolean) 1) (hl : X.2.1 = l) {rr : Int32} {μr : jM} {v0 : Nat} {μ : jM} {z : (Int32 × jM)} (H : f_X12_hasLater Y v0 μ = some z) (D : z = (rr, μr)) : JW X (jEnd X n Y (some (.int rr)) μr 0 0) 0 0 n Y 0 [(0, .ref v0)] [] μ := by
  unfold f_X12_hasLater at H
  refine r_aload_n K 0 dX12_hasLater_0 rfl rfl ?_
  refine w_getI K vc12 inX12 10 (by decide) mF_RX12_145 dX12_hasLater_1 H (fun x1 H => ?_)
  refine r_iconst (v := 1) K dX12_hasLater_4 (by decide) ?_
  refine w_icmp_ne K 10 dX12_hasLater_5 (by decide) H (fun _ H => ?_) (fun _ H => ?_)
  · refine r_aload_n K 0 dX12_hasLater_10 rfl rfl ?_
    refine w_getI K vc12 inX12 10 (by decide) mF_RX12_145 dX12_hasLater_11 H (fun x2 H => ?_)
    refine r_iconst (v := 2) K dX12_hasLater_14 (by decide) ?_
    refine w_icmp_ne K 37 dX12_hasLater_15 (by decide) H (fun _ H => ?_) (fun _ H => ?_)
    · refine r_aload_n K 0 dX12_hasLater_37 rfl rfl ?_
      refine w_getI K vc12 inX12 43 (by decide) mF_RX12_326 dX12_hasLater_38 H (fun x3 H => ?_)
      refine r_aload_n K 0 dX12_hasLater_41 rfl rfl ?_
      refine w_getI K vc12 inX12 44 (by decide) mF_RX12_338 dX12_hasLater_42 H (fun x4 H => ?_)
      refine r_iadd K dX12_hasLater_45 ?_
      refine r_aload_n K 0 dX12_hasLater_46 rfl rfl ?_
      refine w_getO K vc12 inX12 12 (by decide) mF_RX12_23 dX12_hasLater_47 H (fun x5 H => ?_)
      refine r_iconst (v := 0) K dX12_hasLater_50 (by decide) ?_
      refine w_iald K dX12_hasLater_51 H (fun x6 H => ?_)
      refine r_aload_n K 0 dX12_hasLater_52 rfl rfl ?_
      refine w_getO K vc12 inX12 12 (by decide) mF_RX12_23 dX12_hasLater_53 H (fun x7 H => ?_)
      refine r_iconst (v := 1) K dX12_hasLater_56 (by decide) ?_
      refine w_iald K dX12_hasLater_57 H (fun x8 H => ?_)
      refine r_iadd K dX12_hasLater_58 ?_
      refine w_icmp_ne K 96 dX12_hasLater_59 (by decide) H (fun _ H => ?_) (fun _ H => ?_)
      · exact r_sub [] rfl (t_X12_hasLater_96 K hl H D)
      · refine r_aload_n K 0 dX12_hasLater_62 rfl rfl ?_
        refine w_getI K vc12 inX12 43 (by decide) mF_RX12_326 dX12_hasLater_63 H (fun x9 H => ?_)
        refine r_aload_n K 0 dX12_hasLater_66 rfl rfl ?_
        refine w_getI K vc12 inX12 44 (by decide) mF_RX12_338 dX12_hasLater_67 H (fun x10 H => ?_)
        refine r_imul K dX12_hasLater_70 ?_
        refine r_aload_n K 0 dX12_hasLater_71 rfl rfl ?_
        refine w_getI K vc12 inX12 46 (by decide) mF_RX12_341 dX12_hasLater_72 H (fun x11 H => ?_)
        refine r_isub K dX12_hasLater_75 ?_
        refine r_aload_n K 0 dX12_hasLater_76 rfl rfl ?_
        refine w_getO K vc12 inX12 12 (by decide) mF_RX12_23 dX12_hasLater_77 H (fun x12 H => ?_)
        refine r_iconst (v := 0) K dX12_hasLater_80 (by decide) ?_
        refine w_iald K dX12_hasLater_81 H (fun x13 H => ?_)
        refine r_aload_n K 0 dX12_hasLater_82 rfl rfl ?_
        refine w_getO K vc12 inX12 12 (by decide) mF_RX12_23 dX12_hasLater_83 H (fun x14 H => ?_)
        refine r_iconst (v := 1) K dX12_hasLater_86 (by decide) ?_
        refine w_iald K dX12_hasLater_87 H (fun x15 H => ?_)
        refine r_imul K dX12_hasLater_88 ?_
        refine w_icmp_ne K 96 dX12_hasLater_89 (by decide) H (fun _ H => ?_) (fun _ H => ?_)
        · exact r_sub [] rfl (t_X12_hasLater_96 K hl H D)
        · refine r_iconst (v := 1) K dX12_hasLater_92 (by decide) ?_
          refine r_goto K 97 dX12_hasLater_93 (by decide) ?_
          exact r_sub [] rfl (t_X12_hasLater_97 K hl H D)
    · refine r_aload_n K 0 dX12_hasLater_18 rfl rfl ?_
      refine w_getI K vc12 inX12 43 (by decide) mF_RX12_326 dX12_hasLater_19 H (fun x16 H => ?_)
      refine r_aload_n K 0 dX12_hasLater_22 rfl rfl ?_
      refine w_getO K vc12 inX12 12 (by decide) mF_RX12_23 dX12_hasLater_23 H (fun x17 H => ?_)
      refine r_iconst (v := 0) K dX12_hasLater_26 (by decide) ?_
      refine w_iald K dX12_hasLater_27 H (fun x18 H => ?_)
      refine w_icmp_ne K 35 dX12_hasLater_28 (by decide) H (fun _ H => ?_) (fun _ H => ?_)
      · refine r_iconst (v := 0) K dX12_hasLater_35 (by decide) ?_
        exact r_sub [] rfl (t_X12_hasLater_36 K hl H D)
      · refine r_iconst (v := 1) K dX12_hasLater_31 (by decide) ?_
        refine r_goto K 36 dX12_hasLater_32 (by decide) ?_
        exact r_sub [] rfl (t_X12_hasLater_36 K hl H D)
  · refine r_iconst (v := 1) K dX12_hasLater_8 (by decide) ?_
    refine w_zret K dX12_hasLater_9 H (fun hz H => ?_)
    cases H
    obtain ⟨rfl, rfl⟩ := jfin2 D
    exact r_zret K hz dX12_hasLater_9
theorem c_X12_hasLater (l : Launch) {n : Nat} {Y : jY} {v0 : Nat} {μ : jM} {z : Int32 × jM} (H : f_X12_hasLater Y v0 μ = some z) : jC l yX12_hasLater cX12_hasLater 1 (some .boolean) 1 0 0 [.ref v0] n Y μ n Y (some (.int z.1)) z.2 := by
  refine jC_of (by decide +kernel) (Nat.le_of_ble_eq_true rfl) (fun X hl K _ _ _ => ?_)
  obtain ⟨rr, μr⟩ := z
  exact t_X12_hasLater_0 K hl H rfl
/-! RX12 unique()I -/
def b_X12_unique_46 (Y : jY) (v0 : Nat) (t0 : Int32) (t1 : Int32) (μ : jM) : Option ((Int32 × jM) ⊕ (Int32 × jM)) :=
  some (.inl ((t0 + t1), μ))
def b_X12_unique_26 (Y : jY) (v0 : Nat) (v1 : Int32) (μ : jM) : Option ((Int32 × jM) ⊕ (Int32 × jM)) :=
  (jrcv Y v0 12 (f_X12_goesOn Y v0 μ)).bind fun r1 =>
  if r1.1 = 0 then
    some (.inr (v1, r1.2))
  else
    (jrcv Y v0 12 (f_X12_hasLater Y v0 r1.2)).bind fun r2 =>
    if r2.1 = 0 then
      b_X12_unique_46 Y v0 v1 (0 : Int32) r2.2
    else
      b_X12_unique_46 Y v0 v1 (1 : Int32) r2.2
def f_X12_unique (Y : jY) (v0 : Nat) (μ : jM) : Option (Int32 × jM) :=
  (jgI Y μ v0 12 10).bind fun x1 =>
  if x1 = 0 then
    some ((-1 : Int32), μ)
  else
    (jgI Y μ v0 12 10).bind fun x2 =>
    if x2 ≤ ((3 : Int32)) then
      (jrcv Y v0 12 (f_X12_begin0 Y v0 μ)).bind fun μ3 =>
      jit jF (fun (s : Int32 × jM) => b_X12_unique_26 Y v0 s.1 s.2) ((0 : Int32), μ3)
    else
      some ((-2 : Int32), μ)
set_option maxRecDepth 10000 in
theorem t_X12_unique_46 {X : jX} {l : Launch} {n : Nat} {Y : jY} (K : jOK X RX12 cX12_unique 2 (some .int) 4) (hl : X.2.1 = l) {rr : Int32} {μr : jM} {v0 : Nat} {t0 : Int32} {t1 : Int32} {μ : jM} {z : ((Int32 × jM) ⊕ (Int32 × jM))} (H : b_X12_unique_46 Y v0 t0 t1 μ = some z) (D : Sum.elim (fun (s : Int32 × jM) => JW X (jEnd X n Y (some (.int rr)) μr 0 0) 0 0 n Y 26 [(0, .ref v0), (1, .int s.1)] [] s.2) (fun r => r = (rr, μr)) z) : JW X (jEnd X n Y (some (.int rr)) μr 0 0) 0 0 n Y 46 [(0, .ref v0)] [.int t1, .int t0] μ := by
  unfold b_X12_unique_46 at H
  refine r_iadd K dX12_unique_46 ?_
  refine r_istore_n K [(1, .int _), (0, .ref _)] dX12_unique_47 rfl (by decide) rfl ?_
  refine r_goto K 26 dX12_unique_48 (by decide) ?_
  cases H
  exact r_sub [1, 0] rfl D
set_option maxRecDepth 10000 in
theorem t_X12_unique_26 {X : jX} {l : Launch} {n : Nat} {Y : jY} (K : jOK X RX12 cX12_unique 2 (some .int) 4) (hl : X.2.1 = l) {rr : Int32} {μr : jM} {v0 : Nat} {v1 : Int32} {μ : jM} {z : ((Int32 × jM) ⊕ (Int32 × jM))} (H : b_X12_unique_26 Y v0 v1 μ = some z) (D : Sum.elim (fun (s : Int32 × jM) => JW X (jEnd X n Y (some (.int rr)) μr 0 0) 0 0 n Y 26 [(0, .ref v0), (1, .int s.1)] [] s.2) (fun r => r = (rr, μr)) z) : JW X (jEnd X n Y (some (.int rr)) μr 0 0) 0 0 n Y 26 [(0, .ref v0), (1, .int v1)] [] μ := by
  unfold b_X12_unique_26 at H
  refine r_aload_n K 0 dX12_unique_26 rfl rfl ?_
  refine w_callV K hl H (fun r h => c_X12_goesOn l h) mC_yX12_goesOn mM_RX12_350 mI_yX12_goesOn mS_yX12_goesOn mZ_RX12 vc12 (Nat.le_of_ble_eq_true rfl) (Nat.le_of_ble_eq_true rfl) np_yX12_goesOn rfl (Nat.le_of_ble_eq_true rfl) dX12_unique_27 (fun r1 H => ?_) ⟨Nat.zero_le _, Nat.zero_le _⟩
  refine w_if_eq K 51 dX12_unique_30 (by decide) H (fun _ H => ?_) (fun _ H => ?_)
  · refine r_iload_n K 1 dX12_unique_51 rfl rfl ?_
    cases H
    simp only [Sum.elim_inr] at D
    obtain ⟨rfl, rfl⟩ := jfin2 D
    exact r_iret K dX12_unique_52
  · refine r_iload_n K 1 dX12_unique_33 rfl rfl ?_
    refine r_aload_n K 0 dX12_unique_34 rfl rfl ?_
    refine w_callV K hl H (fun r h => c_X12_hasLater l h) mC_yX12_hasLater mM_RX12_353 mI_yX12_hasLater mS_yX12_hasLater mZ_RX12 vc12 (Nat.le_of_ble_eq_true rfl) (Nat.le_of_ble_eq_true rfl) np_yX12_hasLater rfl (Nat.le_of_ble_eq_true rfl) dX12_unique_35 (fun r2 H => ?_) ⟨Nat.zero_le _, Nat.zero_le _⟩
    refine w_if_eq K 45 dX12_unique_38 (by decide) H (fun _ H => ?_) (fun _ H => ?_)
    · refine r_iconst (v := 0) K dX12_unique_45 (by decide) ?_
      exact r_sub [0] rfl (t_X12_unique_46 K hl H D)
    · refine r_iconst (v := 1) K dX12_unique_41 (by decide) ?_
      refine r_goto K 46 dX12_unique_42 (by decide) ?_
      exact r_sub [0] rfl (t_X12_unique_46 K hl H D)
set_option maxRecDepth 10000 in
theorem l_X12_unique_26 {X : jX} {l : Launch} {n : Nat} {Y : jY} (K : jOK X RX12 cX12_unique 2 (some .int) 4) (hl : X.2.1 = l) {rr : Int32} {μr : jM} {v0 : Nat}  {s0 : Int32 × jM} {z : (Int32 × jM)} (H : jit jF (fun (s : Int32 × jM) => b_X12_unique_26 Y v0 s.1 s.2) s0 = some z) (D : z = (rr, μr)) : JW X (jEnd X n Y (some (.int rr)) μr 0 0) 0 0 n Y 26 [(0, .ref v0), (1, .int s0.1)] [] s0.2 :=
  jit_ind (P := fun (s : Int32 × jM) => JW X (jEnd X n Y (some (.int rr)) μr 0 0) 0 0 n Y 26 [(0, .ref v0), (1, .int s.1)] [] s.2) (D := fun r => r = (rr, μr)) (fun s z Hs Ds => t_X12_unique_26 K hl Hs Ds) jF s0 z H D
set_option maxRecDepth 10000 in
theorem t_X12_unique_0 {X : jX} {l : Launch} {n : Nat} {Y : jY} (K : jOK X RX12 cX12_unique 2 (some .int) 4) (hl : X.2.1 = l) {rr : Int32} {μr : jM} {v0 : Nat} {μ : jM} {z : (Int32 × jM)} (H : f_X12_unique Y v0 μ = some z) (D : z = (rr, μr)) : JW X (jEnd X n Y (some (.int rr)) μr 0 0) 0 0 n Y 0 [(0, .ref v0)] [] μ := by
  unfold f_X12_unique at H
  refine r_aload_n K 0 dX12_unique_0 rfl rfl ?_
  refine w_getI K vc12 inX12 10 (by decide) mF_RX12_145 dX12_unique_1 H (fun x1 H => ?_)
  refine w_if_ne K 9 dX12_unique_4 (by decide) H (fun _ H => ?_) (fun _ H => ?_)
  · refine r_aload_n K 0 dX12_unique_9 rfl rfl ?_
    refine w_getI K vc12 inX12 10 (by decide) mF_RX12_145 dX12_unique_10 H (fun x2 H => ?_)
    refine r_iconst (v := 3) K dX12_unique_13 (by decide) ?_
    refine w_icmp_le K 20 dX12_unique_14 (by decide) H (fun _ H => ?_) (fun _ H => ?_)
    · refine r_iconst (v := 0) K dX12_unique_20 (by decide) ?_
      refine r_istore_n K [(1, .int _), (0, .ref _)] dX12_unique_21 rfl (by decide) rfl ?_
      refine r_aload_n K 1 dX12_unique_22 rfl rfl ?_
      refine w_callV K hl H (fun r h => c_X12_begin0 l h) mC_yX12_begin0 mM_RX12_347 mI_yX12_begin0 mS_yX12_begin0 mZ_RX12 vc12 (Nat.le_of_ble_eq_true rfl) (Nat.le_of_ble_eq_true rfl) np_yX12_begin0 rfl (Nat.le_of_ble_eq_true rfl) dX12_unique_23 (fun μ3 H => ?_) ⟨Nat.zero_le _, Nat.zero_le _⟩
      exact r_sub [1, 0] rfl (l_X12_unique_26 K hl H D)
    · refine r_bipush (v := -2) K dX12_unique_17 (by decide) ?_
      cases H
      obtain ⟨rfl, rfl⟩ := jfin2 D
      exact r_iret K dX12_unique_19
  · refine r_iconst (v := -1) K dX12_unique_7 (by decide) ?_
    cases H
    obtain ⟨rfl, rfl⟩ := jfin2 D
    exact r_iret K dX12_unique_8
theorem c_X12_unique (l : Launch) {n : Nat} {Y : jY} {v0 : Nat} {μ : jM} {z : Int32 × jM} (H : f_X12_unique Y v0 μ = some z) : jC l yX12_unique cX12_unique 2 (some .int) 4 0 0 [.ref v0] n Y μ n Y (some (.int z.1)) z.2 := by
  refine jC_of (by decide +kernel) (Nat.le_of_ble_eq_true rfl) (fun X hl K _ _ _ => ?_)
  obtain ⟨rr, μr⟩ := z
  exact t_X12_unique_0 K hl H rfl
/-! RX12 below(IIII)I -/
def b_X12_below_54 (Y : jY) (μ : jM) : Option (Int32 × jM) :=
  some ((-1 : Int32), μ)
def b_X12_below_80 (Y : jY) (t0 : Int32) (μ : jM) : Option (Int32 × jM) :=
  some (t0, μ)
def b_X12_below_30 (Y : jY) (v0 : Nat) (v1 : Int32) (v2 : Int32) (v3 : Int32) (v4 : Int32) (μ : jM) : Option (Int32 × jM) :=
  (f_X12_in Y v3 ((-1000 : Int32)) ((1000 : Int32)) μ).bind fun r1 =>
  if r1.1 = 0 then
    b_X12_below_54 Y r1.2
  else
    (f_X12_in Y v4 ((1 : Int32)) ((50 : Int32)) r1.2).bind fun r2 =>
    if r2.1 = 0 then
      b_X12_below_54 Y r2.2
    else
      (jgO Y r2.2 v0 12 26).bind fun x3 =>
      (jaI Y r2.2 x3 20 v1).bind fun x4 =>
      if x4 = 0 then
        b_X12_below_80 Y (-2 : Int32) r2.2
      else
        (jrcv Y v0 12 (f_X12_belowOf Y v0 v1 ((0 : Int32)) v2 v3 v4 r2.2)).bind fun r5 =>
        b_X12_below_80 Y r5.1 r5.2
def f_X12_below (Y : jY) (v0 : Nat) (v1 : Int32) (v2 : Int32) (v3 : Int32) (v4 : Int32) (μ : jM) : Option (Int32 × jM) :=
  (f_X12_isDrawer Y v1 μ).bind fun r1 =>
  if r1.1 = 0 then
    b_X12_below_54 Y r1.2
  else
    (jgO Y r1.2 v0 12 26).bind fun x2 =>
    (jaI Y r1.2 x2 20 v1).bind fun x3 =>
    if x3 ≤ 0 then
      b_X12_below_30 Y v0 v1 v2 v3 v4 r1.2
    else
      (jgO Y r1.2 v0 12 26).bind fun x4 =>
      (jaI Y r1.2 x4 20 v1).bind fun x5 =>
      (f_X12_in Y v2 ((1 : Int32)) x5 r1.2).bind fun r6 =>
      if r6.1 = 0 then
        b_X12_below_54 Y r6.2
      else
        b_X12_below_30 Y v0 v1 v2 v3 v4 r6.2
set_option maxRecDepth 10000 in
theorem t_X12_below_54 {X : jX} {l : Launch} {n : Nat} {Y : jY} (K : jOK X RX12 cX12_below 5 (some .int) 3) (hl : X.2.1 = l) {rr : Int32} {μr : jM} {μ : jM} {z : (Int32 × jM)} (H : b_X12_below_54 Y μ = some z) (D : z = (rr, μr)) : JW X (jEnd X n Y (some (.int rr)) μr 0 0) 0 0 n Y 54 [] [] μ := by
  unfold b_X12_below_54 at H
  refine r_iconst (v := -1) K dX12_below_54 (by decide) ?_
  cases H
  obtain ⟨rfl, rfl⟩ := jfin2 D
  exact r_iret K dX12_below_55
set_option maxRecDepth 10000 in
theorem t_X12_below_80 {X : jX} {l : Launch} {n : Nat} {Y : jY} (K : jOK X RX12 cX12_below 5 (some .int) 3) (hl : X.2.1 = l) {rr : Int32} {μr : jM} {t0 : Int32} {μ : jM} {z : (Int32 × jM)} (H : b_X12_below_80 Y t0 μ = some z) (D : z = (rr, μr)) : JW X (jEnd X n Y (some (.int rr)) μr 0 0) 0 0 n Y 80 [] [.int t0] μ := by
  unfold b_X12_below_80 at H
  cases H
  obtain ⟨rfl, rfl⟩ := jfin2 D
  exact r_iret K dX12_below_80
set_option maxRecDepth 10000 in
theorem t_X12_below_30 {X : jX} {l : Launch} {n : Nat} {Y : jY} (K : jOK X RX12 cX12_below 5 (some .int) 3) (hl : X.2.1 = l) {rr : Int32} {μr : jM} {v0 : Nat} {v1 : Int32} {v2 : Int32} {v3 : Int32} {v4 : Int32} {μ : jM} {z : (Int32 × jM)} (H : b_X12_below_30 Y v0 v1 v2 v3 v4 μ = some z) (D : z = (rr, μr)) : JW X (jEnd X n Y (some (.int rr)) μr 0 0) 0 0 n Y 30 [(0, .ref v0), (1, .int v1), (2, .int v2), (3, .int v3), (4, .int v4)] [] μ := by
  unfold b_X12_below_30 at H
  refine r_iload_n K 3 dX12_below_30 rfl rfl ?_
  refine r_sipush (v := -1000) K dX12_below_31 (by decide) ?_
  refine r_sipush (v := 1000) K dX12_below_34 (by decide) ?_
  refine w_callS K hl H (fun r h => c_X12_in l h) mC_yX12_in mM_RX12_134 mT_yX12_in mZ_RX12 (Nat.le_of_ble_eq_true rfl) (Nat.le_of_ble_eq_true rfl) np_yX12_in rfl (Nat.le_of_ble_eq_true rfl) dX12_below_37 (fun r1 H => ?_) ⟨Nat.zero_le _, Nat.zero_le _⟩
  refine w_if_eq K 54 dX12_below_40 (by decide) H (fun _ H => ?_) (fun _ H => ?_)
  · exact r_sub [] rfl (t_X12_below_54 K hl H D)
  · refine r_iload K 4 dX12_below_43 rfl ?_
    refine r_iconst (v := 1) K dX12_below_45 (by decide) ?_
    refine r_bipush (v := 50) K dX12_below_46 (by decide) ?_
    refine w_callS K hl H (fun r h => c_X12_in l h) mC_yX12_in mM_RX12_134 mT_yX12_in mZ_RX12 (Nat.le_of_ble_eq_true rfl) (Nat.le_of_ble_eq_true rfl) np_yX12_in rfl (Nat.le_of_ble_eq_true rfl) dX12_below_48 (fun r2 H => ?_) ⟨Nat.zero_le _, Nat.zero_le _⟩
    refine w_if_ne K 56 dX12_below_51 (by decide) H (fun _ H => ?_) (fun _ H => ?_)
    · refine r_aload_n K 0 dX12_below_56 rfl rfl ?_
      refine w_getO K vc12 inX12 26 (by decide) mF_RX12_48 dX12_below_57 H (fun x3 H => ?_)
      refine r_iload_n K 1 dX12_below_60 rfl rfl ?_
      refine w_iald K dX12_below_61 H (fun x4 H => ?_)
      refine w_if_ne K 70 dX12_below_62 (by decide) H (fun _ H => ?_) (fun _ H => ?_)
      · refine r_aload_n K 0 dX12_below_70 rfl rfl ?_
        refine r_iload_n K 1 dX12_below_71 rfl rfl ?_
        refine r_iconst (v := 0) K dX12_below_72 (by decide) ?_
        refine r_iload_n K 2 dX12_below_73 rfl rfl ?_
        refine r_iload_n K 3 dX12_below_74 rfl rfl ?_
        refine r_iload K 4 dX12_below_75 rfl ?_
        refine w_callV K hl H (fun r h => c_X12_belowOf l h) mC_yX12_belowOf mM_RX12_283 mI_yX12_belowOf mS_yX12_belowOf mZ_RX12 vc12 (Nat.le_of_ble_eq_true rfl) (Nat.le_of_ble_eq_true rfl) np_yX12_belowOf rfl (Nat.le_of_ble_eq_true rfl) dX12_below_77 (fun r5 H => ?_) ⟨Nat.zero_le _, Nat.zero_le _⟩
        exact r_sub [] rfl (t_X12_below_80 K hl H D)
      · refine r_bipush (v := -2) K dX12_below_65 (by decide) ?_
        refine r_goto K 80 dX12_below_67 (by decide) ?_
        exact r_sub [] rfl (t_X12_below_80 K hl H D)
    · exact r_sub [] rfl (t_X12_below_54 K hl H D)
set_option maxRecDepth 10000 in
theorem t_X12_below_0 {X : jX} {l : Launch} {n : Nat} {Y : jY} (K : jOK X RX12 cX12_below 5 (some .int) 3) (hl : X.2.1 = l) {rr : Int32} {μr : jM} {v0 : Nat} {v1 : Int32} {v2 : Int32} {v3 : Int32} {v4 : Int32} {μ : jM} {z : (Int32 × jM)} (H : f_X12_below Y v0 v1 v2 v3 v4 μ = some z) (D : z = (rr, μr)) : JW X (jEnd X n Y (some (.int rr)) μr 0 0) 0 0 n Y 0 [(0, .ref v0), (1, .int v1), (2, .int v2), (3, .int v3), (4, .int v4)] [] μ := by
  unfold f_X12_below at H
  refine r_iload_n K 1 dX12_below_0 rfl rfl ?_
  refine w_callS K hl H (fun r h => c_X12_isDrawer l h) mC_yX12_isDrawer mM_RX12_253 mT_yX12_isDrawer mZ_RX12 (Nat.le_of_ble_eq_true rfl) (Nat.le_of_ble_eq_true rfl) np_yX12_isDrawer rfl (Nat.le_of_ble_eq_true rfl) dX12_below_1 (fun r1 H => ?_) ⟨Nat.zero_le _, Nat.zero_le _⟩
  refine w_if_eq K 54 dX12_below_4 (by decide) H (fun _ H => ?_) (fun _ H => ?_)
  · exact r_sub [] rfl (t_X12_below_54 K hl H D)
  · refine r_aload_n K 0 dX12_below_7 rfl rfl ?_
    refine w_getO K vc12 inX12 26 (by decide) mF_RX12_48 dX12_below_8 H (fun x2 H => ?_)
    refine r_iload_n K 1 dX12_below_11 rfl rfl ?_
    refine w_iald K dX12_below_12 H (fun x3 H => ?_)
    refine w_if_le K 30 dX12_below_13 (by decide) H (fun _ H => ?_) (fun _ H => ?_)
    · exact r_sub [0, 1, 2, 3, 4] rfl (t_X12_below_30 K hl H D)
    · refine r_iload_n K 2 dX12_below_16 rfl rfl ?_
      refine r_iconst (v := 1) K dX12_below_17 (by decide) ?_
      refine r_aload_n K 0 dX12_below_18 rfl rfl ?_
      refine w_getO K vc12 inX12 26 (by decide) mF_RX12_48 dX12_below_19 H (fun x4 H => ?_)
      refine r_iload_n K 1 dX12_below_22 rfl rfl ?_
      refine w_iald K dX12_below_23 H (fun x5 H => ?_)
      refine w_callS K hl H (fun r h => c_X12_in l h) mC_yX12_in mM_RX12_134 mT_yX12_in mZ_RX12 (Nat.le_of_ble_eq_true rfl) (Nat.le_of_ble_eq_true rfl) np_yX12_in rfl (Nat.le_of_ble_eq_true rfl) dX12_below_24 (fun r6 H => ?_) ⟨Nat.zero_le _, Nat.zero_le _⟩
      refine w_if_eq K 54 dX12_below_27 (by decide) H (fun _ H => ?_) (fun _ H => ?_)
      · exact r_sub [] rfl (t_X12_below_54 K hl H D)
      · exact r_sub [0, 1, 2, 3, 4] rfl (t_X12_below_30 K hl H D)
theorem c_X12_below (l : Launch) {n : Nat} {Y : jY} {v0 : Nat} {v1 : Int32} {v2 : Int32} {v3 : Int32} {v4 : Int32} {μ : jM} {z : Int32 × jM} (H : f_X12_below Y v0 v1 v2 v3 v4 μ = some z) : jC l yX12_below cX12_below 5 (some .int) 3 0 0 [.ref v0, .int v1, .int v2, .int v3, .int v4] n Y μ n Y (some (.int z.1)) z.2 := by
  refine jC_of (by decide +kernel) (Nat.le_of_ble_eq_true rfl) (fun X hl K _ _ _ => ?_)
  obtain ⟨rr, μr⟩ := z
  exact t_X12_below_0 K hl H rfl
