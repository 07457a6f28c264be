/-! RX12 strike(IIII)J -/
def b_X12_strike_59 (Y : jY) (μ : jM) : Option (Int64 × jM) :=
  some ((-9223372036854775808 : Int64), μ)
def b_X12_strike_274 (Y : jY) (v0 : Nat) (v1 : Int32) (v3 : Int32) (v4 : Int32) (v5 : Int32) (v6 : Int32) (v7 : Int32) (μ : jM) : Option ((Int32 × jM) ⊕ ((Int32 × jM) ⊕ (Int64 × jM))) :=
  some (.inl ((v7 + (1 : Int32)), μ))
def b_X12_strike_234 (Y : jY) (v0 : Nat) (v1 : Int32) (v3 : Int32) (v4 : Int32) (v5 : Int32) (v6 : Int32) (v7 : Int32) (μ : jM) : Option ((Int32 × jM) ⊕ ((Int32 × jM) ⊕ (Int64 × jM))) :=
  if v7 ≤ 0 then
    b_X12_strike_274 Y v0 v1 v3 v4 v5 v6 v7 μ
  else
    (jgO Y μ v0 12 40).bind fun x1 =>
    (jgO Y μ v0 12 40).bind fun x2 =>
    (jaL Y μ x2 21 v7).bind fun x3 =>
    (jrcv Y v0 12 (f_X12_c Y v0 v1 ((v7 - ((1 : Int32)))) μ)).bind fun r4 =>
    (jgO Y r4.2 v0 12 39).bind fun x5 =>
    (jaL Y r4.2 x5 21 ((v7 - ((1 : Int32))))).bind fun x6 =>
    (jas Y r4.2 x1 21 v7 (.long ((x3 - ((((r4.1.toInt64)) * x6)))))).bind fun μ7 =>
    b_X12_strike_274 Y v0 v1 v3 v4 v5 v6 v7 μ7
def b_X12_strike_163 (Y : jY) (v0 : Nat) (v1 : Int32) (v3 : Int32) (v4 : Int32) (v5 : Int32) (v6 : Int32) (v7 : Int32) (μ : jM) : Option ((Int32 × jM) ⊕ ((Int32 × jM) ⊕ (Int64 × jM))) :=
  if v5 ≤ v7 then
    some (.inr (.inl ((v6 + (1 : Int32)), μ)))
  else
    (jgO Y μ v0 12 40).bind fun x1 =>
    (jgO Y μ v0 12 40).bind fun x2 =>
    (jaL Y μ x2 21 v7).bind fun x3 =>
    (jrcv Y v0 12 (f_X12_a Y v0 v1 v7 μ)).bind fun r4 =>
    (jgO Y r4.2 v0 12 39).bind fun x5 =>
    (jaL Y r4.2 x5 21 v7).bind fun x6 =>
    (jas Y r4.2 x1 21 v7 (.long ((x3 - ((((r4.1.toInt64)) * x6)))))).bind fun μ7 =>
    if ((v5 - ((1 : Int32)))) ≤ v7 then
      b_X12_strike_234 Y v0 v1 v3 v4 v5 v6 v7 μ7
    else
      (jgO Y μ7 v0 12 40).bind fun x8 =>
      (jgO Y μ7 v0 12 40).bind fun x9 =>
      (jaL Y μ7 x9 21 v7).bind fun x10 =>
      (jgO Y μ7 v0 12 39).bind fun x11 =>
      (jaL Y μ7 x11 21 ((v7 + ((1 : Int32))))).bind fun x12 =>
      (jas Y μ7 x8 21 v7 (.long ((x10 - x12)))).bind fun μ13 =>
      b_X12_strike_234 Y v0 v1 v3 v4 v5 v6 v7 μ13
def b_X12_strike_125 (Y : jY) (v0 : Nat) (v1 : Int32) (v3 : Int32) (v4 : Int32) (v5 : Int32) (v6 : Int32) (v7 : Int32) (μ : jM) : Option ((Int32 × jM) ⊕ ((Int32 × jM) ⊕ (Int64 × jM))) :=
  if v5 ≤ v7 then
    (jit jF (fun (s : Int32 × jM) => b_X12_strike_163 Y v0 v1 v3 v4 v5 v6 s.1 s.2) ((0 : Int32), μ)).map (fun r => (.inr r))
  else
    (jgO Y μ v0 12 39).bind fun x1 =>
    (jgO Y μ v0 12 39).bind fun x2 =>
    (jaL Y μ x2 21 v7).bind fun x3 =>
    (jgO Y μ v0 12 40).bind fun x4 =>
    (jaL Y μ x4 21 v7).bind fun x5 =>
    (jas Y μ x1 21 v7 (.long ((x3 + x5)))).bind fun μ6 =>
    some (.inl ((v7 + (1 : Int32)), μ6))
def b_X12_strike_116 (Y : jY) (v0 : Nat) (v1 : Int32) (v3 : Int32) (v4 : Int32) (v5 : Int32) (v6 : Int32) (μ : jM) : Option ((Int32 × jM) ⊕ (Int64 × jM)) :=
  if v3 ≤ v6 then
    (jgO Y μ v0 12 39).bind fun x1 =>
    (jaL Y μ x1 21 v4).bind fun x2 =>
    some (.inr (x2, μ))
  else
    jit jF (fun (s : Int32 × jM) => b_X12_strike_125 Y v0 v1 v3 v4 v5 v6 s.1 s.2) ((0 : Int32), μ)
def b_X12_strike_106 (Y : jY) (v0 : Nat) (v1 : Int32) (v2 : Int32) (v3 : Int32) (v4 : Int32) (v5 : Int32) (v6 : Int32) (t0 : Nat) (t1 : Int32) (t2 : Int64) (μ : jM) : Option ((Int32 × jM) ⊕ (Int64 × jM)) :=
  (jas Y μ t0 21 t1 (.long t2)).bind fun μ1 =>
  some (.inl ((v6 + (1 : Int32)), μ1))
def b_X12_strike_74 (Y : jY) (v0 : Nat) (v1 : Int32) (v2 : Int32) (v3 : Int32) (v4 : Int32) (v5 : Int32) (v6 : Int32) (μ : jM) : Option ((Int32 × jM) ⊕ (Int64 × jM)) :=
  if v5 ≤ v6 then
    (jit jF (fun (s : Int32 × jM) => b_X12_strike_116 Y v0 v1 v3 v4 v5 s.1 s.2) ((0 : Int32), μ)).map (fun r => (.inr r))
  else
    (jgO Y μ v0 12 39).bind fun x1 =>
    (jas Y μ x1 21 v6 (.long ((0 : Int64)))).bind fun μ2 =>
    (jgO Y μ2 v0 12 40).bind fun x3 =>
    if v6 = v2 then
      b_X12_strike_106 Y v0 v1 v2 v3 v4 v5 v6 x3 v6 (1 : Int64) μ2
    else
      b_X12_strike_106 Y v0 v1 v2 v3 v4 v5 v6 x3 v6 (0 : Int64) μ2
def f_X12_strike (Y : jY) (v0 : Nat) (v1 : Int32) (v2 : Int32) (v3 : Int32) (v4 : Int32) (μ : jM) : Option (Int64 × jM) :=
  (f_X12_isDrawer Y v1 μ).bind fun r1 =>
  if r1.1 = 0 then
    b_X12_strike_59 Y r1.2
  else
    (jgO Y r1.2 v0 12 26).bind fun x2 =>
    (jaI Y r1.2 x2 20 v1).bind fun x3 =>
    if x3 = 0 then
      b_X12_strike_59 Y r1.2
    else
      (jgO Y r1.2 v0 12 26).bind fun x4 =>
      (jaI Y r1.2 x4 20 v1).bind fun x5 =>
      (f_X12_in Y v2 ((0 : Int32)) ((x5 - ((1 : Int32)))) r1.2).bind fun r6 =>
      if r6.1 = 0 then
        b_X12_strike_59 Y r6.2
      else
        (f_X12_in Y v3 ((0 : Int32)) ((8 : Int32)) r6.2).bind fun r7 =>
        if r7.1 = 0 then
          b_X12_strike_59 Y r7.2
        else
          (jgO Y r7.2 v0 12 26).bind fun x8 =>
          (jaI Y r7.2 x8 20 v1).bind fun x9 =>
          (f_X12_in Y v4 ((0 : Int32)) ((x9 - ((1 : Int32)))) r7.2).bind fun r10 =>
          if r10.1 = 0 then
            b_X12_strike_59 Y r10.2
          else
            (jgO Y r10.2 v0 12 26).bind fun x11 =>
            (jaI Y r10.2 x11 20 v1).bind fun x12 =>
            jit jF (fun (s : Int32 × jM) => b_X12_strike_74 Y v0 v1 v2 v3 v4 x12 s.1 s.2) ((0 : Int32), r10.2)
set_option maxRecDepth 10000 in
theorem t_X12_strike_59 {X : jX} {l : Launch} {n : Nat} {Y : jY} (K : jOK X RX12 cX12_strike 8 (some .long) 3) (hl : X.2.1 = l) {rr : Int64} {μr : jM} {μ : jM} {z : (Int64 × jM)} (H : b_X12_strike_59 Y μ = some z) (D : z = (rr, μr)) : JW X (jEnd X n Y (some (.long rr)) μr 0 0) 0 0 n Y 59 [] [] μ := by
  unfold b_X12_strike_59 at H
  refine r_ldc2 K (-9223372036854775808) mc_RX12_156 dX12_strike_59 ?_
  cases H
  obtain ⟨rfl, rfl⟩ := jfin2 D
  exact r_lret K dX12_strike_62
set_option maxRecDepth 10000 in
theorem t_X12_strike_274 {X : jX} {l : Launch} {n : Nat} {Y : jY} (K : jOK X RX12 cX12_strike 8 (some .long) 3) (hl : X.2.1 = l) {rr : Int64} {μr : jM} {v0 : Nat} {v1 : Int32} {v3 : Int32} {v4 : Int32} {v5 : Int32} {v6 : Int32} {v7 : Int32} {μ : jM} {z : ((Int32 × jM) ⊕ ((Int32 × jM) ⊕ (Int64 × jM)))} (H : b_X12_strike_274 Y v0 v1 v3 v4 v5 v6 v7 μ = some z) (D : Sum.elim (fun (s : Int32 × jM) => JW X (jEnd X n Y (some (.long rr)) μr 0 0) 0 0 n Y 163 [(0, .ref v0), (1, .int v1), (3, .int v3), (4, .int v4), (5, .int v5), (6, .int v6), (7, .int s.1)] [] s.2) (Sum.elim (fun (s : Int32 × jM) => JW X (jEnd X n Y (some (.long rr)) μr 0 0) 0 0 n Y 116 [(0, .ref v0), (1, .int v1), (3, .int v3), (4, .int v4), (5, .int v5), (6, .int s.1)] [] s.2) (fun r => r = (rr, μr))) z) : JW X (jEnd X n Y (some (.long rr)) μr 0 0) 0 0 n Y 274 [(0, .ref v0), (1, .int v1), (3, .int v3), (4, .int v4), (5, .int v5), (6, .int v6), (7, .int v7)] [] μ := by
  unfold b_X12_strike_274 at H
  refine r_iinc K 6 [(7, .int _), (0, .ref _), (1, .int _), (3, .int _), (4, .int _), (5, .int _), (6, .int _)] (v := _ + (1 : Int32)) dX12_strike_274 rfl rfl (by decide) rfl ?_
  refine r_goto K 163 dX12_strike_277 (by decide) ?_
  cases H
  exact r_sub [1, 2, 3, 4, 5, 6, 0] rfl D
set_option maxRecDepth 10000 in
theorem t_X12_strike_234 {X : jX} {l : Launch} {n : Nat} {Y : jY} (K : jOK X RX12 cX12_strike 8 (some .long) 3) (hl : X.2.1 = l) {rr : Int64} {μr : jM} {v0 : Nat} {v1 : Int32} {v3 : Int32} {v4 : Int32} {v5 : Int32} {v6 : Int32} {v7 : Int32} {μ : jM} {z : ((Int32 × jM) ⊕ ((Int32 × jM) ⊕ (Int64 × jM)))} (H : b_X12_strike_234 Y v0 v1 v3 v4 v5 v6 v7 μ = some z) (D : Sum.elim (fun (s : Int32 × jM) => JW X (jEnd X n Y (some (.long rr)) μr 0 0) 0 0 n Y 163 [(0, .ref v0), (1, .int v1), (3, .int v3), (4, .int v4), (5, .int v5), (6, .int v6), (7, .int s.1)] [] s.2) (Sum.elim (fun (s : Int32 × jM) => JW X (jEnd X n Y (some (.long rr)) μr 0 0) 0 0 n Y 116 [(0, .ref v0), (1, .int v1), (3, .int v3), (4, .int v4), (5, .int v5), (6, .int s.1)] [] s.2) (fun r => r = (rr, μr))) z) : JW X (jEnd X n Y (some (.long rr)) μr 0 0) 0 0 n Y 234 [(0, .ref v0), (1, .int v1), (3, .int v3), (4, .int v4), (5, .int v5), (6, .int v6), (7, .int v7)] [] μ := by
  unfold b_X12_strike_234 at H
  refine r_iload K 6 dX12_strike_234 rfl ?_
  refine w_if_le K 274 dX12_strike_236 (by decide) H (fun _ H => ?_) (fun _ H => ?_)
  · exact r_sub [0, 1, 2, 3, 4, 5, 6] rfl (t_X12_strike_274 K hl H D)
  · refine r_aload_n K 0 dX12_strike_239 rfl rfl ?_
    refine w_getO K vc12 inX12 40 (by decide) mF_RX12_90 dX12_strike_240 H (fun x1 H => ?_)
    refine r_iload K 6 dX12_strike_243 rfl ?_
    refine r_aload_n K 0 dX12_strike_245 rfl rfl ?_
    refine w_getO K vc12 inX12 40 (by decide) mF_RX12_90 dX12_strike_246 H (fun x2 H => ?_)
    refine r_iload K 6 dX12_strike_249 rfl ?_
    refine w_lald K dX12_strike_251 H (fun x3 H => ?_)
    refine r_aload_n K 0 dX12_strike_252 rfl rfl ?_
    refine r_iload_n K 1 dX12_strike_253 rfl rfl ?_
    refine r_iload K 6 dX12_strike_254 rfl ?_
    refine r_iconst (v := 1) K dX12_strike_256 (by decide) ?_
    refine r_isub K dX12_strike_257 ?_
    refine w_callV K hl H (fun r h => c_X12_c l h) mC_yX12_c mM_RX12_260 mI_yX12_c mS_yX12_c mZ_RX12 vc12 (Nat.le_of_ble_eq_true rfl) (Nat.le_of_ble_eq_true rfl) np_yX12_c rfl (Nat.le_of_ble_eq_true rfl) dX12_strike_258 (fun r4 H => ?_) ⟨Nat.zero_le _, Nat.zero_le _⟩
    refine r_i2l K dX12_strike_261 ?_
    refine r_aload_n K 0 dX12_strike_262 rfl rfl ?_
    refine w_getO K vc12 inX12 39 (by decide) mF_RX12_87 dX12_strike_263 H (fun x5 H => ?_)
    refine r_iload K 6 dX12_strike_266 rfl ?_
    refine r_iconst (v := 1) K dX12_strike_268 (by decide) ?_
    refine r_isub K dX12_strike_269 ?_
    refine w_lald K dX12_strike_270 H (fun x6 H => ?_)
    refine r_lmul K dX12_strike_271 ?_
    refine r_lsub K dX12_strike_272 ?_
    refine w_last K dX12_strike_273 H (fun μ7 H => ?_)
    exact r_sub [0, 1, 2, 3, 4, 5, 6] rfl (t_X12_strike_274 K hl H D)
set_option maxRecDepth 10000 in
theorem t_X12_strike_163 {X : jX} {l : Launch} {n : Nat} {Y : jY} (K : jOK X RX12 cX12_strike 8 (some .long) 3) (hl : X.2.1 = l) {rr : Int64} {μr : jM} {v0 : Nat} {v1 : Int32} {v3 : Int32} {v4 : Int32} {v5 : Int32} {v6 : Int32} {v7 : Int32} {μ : jM} {z : ((Int32 × jM) ⊕ ((Int32 × jM) ⊕ (Int64 × jM)))} (H : b_X12_strike_163 Y v0 v1 v3 v4 v5 v6 v7 μ = some z) (D : Sum.elim (fun (s : Int32 × jM) => JW X (jEnd X n Y (some (.long rr)) μr 0 0) 0 0 n Y 163 [(0, .ref v0), (1, .int v1), (3, .int v3), (4, .int v4), (5, .int v5), (6, .int v6), (7, .int s.1)] [] s.2) (Sum.elim (fun (s : Int32 × jM) => JW X (jEnd X n Y (some (.long rr)) μr 0 0) 0 0 n Y 116 [(0, .ref v0), (1, .int v1), (3, .int v3), (4, .int v4), (5, .int v5), (6, .int s.1)] [] s.2) (fun r => r = (rr, μr))) z) : JW X (jEnd X n Y (some (.long rr)) μr 0 0) 0 0 n Y 163 [(0, .ref v0), (1, .int v1), (3, .int v3), (4, .int v4), (5, .int v5), (6, .int v6), (7, .int v7)] [] μ := by
  unfold b_X12_strike_163 at H
  refine r_iload K 6 dX12_strike_163 rfl ?_
  refine r_iload K 4 dX12_strike_165 rfl ?_
  refine w_icmp_ge K 280 dX12_strike_167 (by decide) H (fun _ H => ?_) (fun _ H => ?_)
  · refine r_iinc K 5 [(6, .int _), (0, .ref _), (1, .int _), (3, .int _), (4, .int _), (5, .int _), (7, .int _)] (v := _ + (1 : Int32)) dX12_strike_280 rfl rfl (by decide) rfl ?_
    refine r_goto K 116 dX12_strike_283 (by decide) ?_
    cases H
    exact r_sub [1, 2, 3, 4, 5, 0] rfl D
  · refine r_aload_n K 0 dX12_strike_170 rfl rfl ?_
    refine w_getO K vc12 inX12 40 (by decide) mF_RX12_90 dX12_strike_171 H (fun x1 H => ?_)
    refine r_iload K 6 dX12_strike_174 rfl ?_
    refine r_aload_n K 0 dX12_strike_176 rfl rfl ?_
    refine w_getO K vc12 inX12 40 (by decide) mF_RX12_90 dX12_strike_177 H (fun x2 H => ?_)
    refine r_iload K 6 dX12_strike_180 rfl ?_
    refine w_lald K dX12_strike_182 H (fun x3 H => ?_)
    refine r_aload_n K 0 dX12_strike_183 rfl rfl ?_
    refine r_iload_n K 1 dX12_strike_184 rfl rfl ?_
    refine r_iload K 6 dX12_strike_185 rfl ?_
    refine w_callV K hl H (fun r h => c_X12_a l h) mC_yX12_a mM_RX12_256 mI_yX12_a mS_yX12_a mZ_RX12 vc12 (Nat.le_of_ble_eq_true rfl) (Nat.le_of_ble_eq_true rfl) np_yX12_a rfl (Nat.le_of_ble_eq_true rfl) dX12_strike_187 (fun r4 H => ?_) ⟨Nat.zero_le _, Nat.zero_le _⟩
    refine r_i2l K dX12_strike_190 ?_
    refine r_aload_n K 0 dX12_strike_191 rfl rfl ?_
    refine w_getO K vc12 inX12 39 (by decide) mF_RX12_87 dX12_strike_192 H (fun x5 H => ?_)
    refine r_iload K 6 dX12_strike_195 rfl ?_
    refine w_lald K dX12_strike_197 H (fun x6 H => ?_)
    refine r_lmul K dX12_strike_198 ?_
    refine r_lsub K dX12_strike_199 ?_
    refine w_last K dX12_strike_200 H (fun μ7 H => ?_)
    refine r_iload K 6 dX12_strike_201 rfl ?_
    refine r_iload K 4 dX12_strike_203 rfl ?_
    refine r_iconst (v := 1) K dX12_strike_205 (by decide) ?_
    refine r_isub K dX12_strike_206 ?_
    refine w_icmp_ge K 234 dX12_strike_207 (by decide) H (fun _ H => ?_) (fun _ H => ?_)
    · exact r_sub [0, 1, 2, 3, 4, 5, 6] rfl (t_X12_strike_234 K hl H D)
    · refine r_aload_n K 0 dX12_strike_210 rfl rfl ?_
      refine w_getO K vc12 inX12 40 (by decide) mF_RX12_90 dX12_strike_211 H (fun x8 H => ?_)
      refine r_iload K 6 dX12_strike_214 rfl ?_
      refine r_aload_n K 0 dX12_strike_216 rfl rfl ?_
      refine w_getO K vc12 inX12 40 (by decide) mF_RX12_90 dX12_strike_217 H (fun x9 H => ?_)
      refine r_iload K 6 dX12_strike_220 rfl ?_
      refine w_lald K dX12_strike_222 H (fun x10 H => ?_)
      refine r_aload_n K 0 dX12_strike_223 rfl rfl ?_
      refine w_getO K vc12 inX12 39 (by decide) mF_RX12_87 dX12_strike_224 H (fun x11 H => ?_)
      refine r_iload K 6 dX12_strike_227 rfl ?_
      refine r_iconst (v := 1) K dX12_strike_229 (by decide) ?_
      refine r_iadd K dX12_strike_230 ?_
      refine w_lald K dX12_strike_231 H (fun x12 H => ?_)
      refine r_lsub K dX12_strike_232 ?_
      refine w_last K dX12_strike_233 H (fun μ13 H => ?_)
      exact r_sub [0, 1, 2, 3, 4, 5, 6] rfl (t_X12_strike_234 K hl H D)
set_option maxRecDepth 10000 in
theorem l_X12_strike_163 {X : jX} {l : Launch} {n : Nat} {Y : jY} (K : jOK X RX12 cX12_strike 8 (some .long) 3) (hl : X.2.1 = l) {rr : Int64} {μr : jM} {v0 : Nat} {v1 : Int32} {v3 : Int32} {v4 : Int32} {v5 : Int32} {v6 : Int32}  {s0 : Int32 × jM} {z : ((Int32 × jM) ⊕ (Int64 × jM))} (H : jit jF (fun (s : Int32 × jM) => b_X12_strike_163 Y v0 v1 v3 v4 v5 v6 s.1 s.2) s0 = some z) (D : Sum.elim (fun (s : Int32 × jM) => JW X (jEnd X n Y (some (.long rr)) μr 0 0) 0 0 n Y 116 [(0, .ref v0), (1, .int v1), (3, .int v3), (4, .int v4), (5, .int v5), (6, .int s.1)] [] s.2) (fun r => r = (rr, μr)) z) : JW X (jEnd X n Y (some (.long rr)) μr 0 0) 0 0 n Y 163 [(0, .ref v0), (1, .int v1), (3, .int v3), (4, .int v4), (5, .int v5), (6, .int v6), (7, .int s0.1)] [] s0.2 :=
  jit_ind (P := fun (s : Int32 × jM) => JW X (jEnd X n Y (some (.long rr)) μr 0 0) 0 0 n Y 163 [(0, .ref v0), (1, .int v1), (3, .int v3), (4, .int v4), (5, .int v5), (6, .int v6), (7, .int s.1)] [] s.2) (D := Sum.elim (fun (s : Int32 × jM) => JW X (jEnd X n Y (some (.long rr)) μr 0 0) 0 0 n Y 116 [(0, .ref v0), (1, .int v1), (3, .int v3), (4, .int v4), (5, .int v5), (6, .int s.1)] [] s.2) (fun r => r = (rr, μr))) (fun s z Hs Ds => t_X12_strike_163 K hl Hs Ds) jF s0 z H D
set_option maxRecDepth 10000 in
theorem t_X12_strike_125 {X : jX} {l : Launch} {n : Nat} {Y : jY} (K : jOK X RX12 cX12_strike 8 (some .long) 3) (hl : X.2.1 = l) {rr : Int64} {μr : jM} {v0 : Nat} {v1 : Int32} {v3 : Int32} {v4 : Int32} {v5 : Int32} {v6 : Int32} {v7 : Int32} {μ : jM} {z : ((Int32 × jM) ⊕ ((Int32 × jM) ⊕ (Int64 × jM)))} (H : b_X12_strike_125 Y v0 v1 v3 v4 v5 v6 v7 μ = some z) (D : Sum.elim (fun (s : Int32 × jM) => JW X (jEnd X n Y (some (.long rr)) μr 0 0) 0 0 n Y 125 [(0, .ref v0), (1, .int v1), (3, .int v3), (4, .int v4), (5, .int v5), (6, .int v6), (7, .int s.1)] [] s.2) (Sum.elim (fun (s : Int32 × jM) => JW X (jEnd X n Y (some (.long rr)) μr 0 0) 0 0 n Y 116 [(0, .ref v0), (1, .int v1), (3, .int v3), (4, .int v4), (5, .int v5), (6, .int s.1)] [] s.2) (fun r => r = (rr, μr))) z) : JW X (jEnd X n Y (some (.long rr)) μr 0 0) 0 0 n Y 125 [(0, .ref v0), (1, .int v1), (3, .int v3), (4, .int v4), (5, .int v5), (6, .int v6), (7, .int v7)] [] μ := by
  unfold b_X12_strike_125 at H
  refine r_iload K 6 dX12_strike_125 rfl ?_
  refine r_iload K 4 dX12_strike_127 rfl ?_
  refine w_icmp_ge K 160 dX12_strike_129 (by decide) H (fun _ H => ?_) (fun _ H => ?_)
  · refine r_iconst (v := 0) K dX12_strike_160 (by decide) ?_
    refine r_istore K [(7, .int _), (0, .ref _), (1, .int _), (3, .int _), (4, .int _), (5, .int _), (6, .int _)] dX12_strike_161 (by decide) rfl ?_
    obtain ⟨z2, H2, rfl⟩ := jmap H
    exact r_sub [1, 2, 3, 4, 5, 6, 0] rfl (l_X12_strike_163 K hl H2 D)
  · refine r_aload_n K 0 dX12_strike_132 rfl rfl ?_
    refine w_getO K vc12 inX12 39 (by decide) mF_RX12_87 dX12_strike_133 H (fun x1 H => ?_)
    refine r_iload K 6 dX12_strike_136 rfl ?_
    refine r_aload_n K 0 dX12_strike_138 rfl rfl ?_
    refine w_getO K vc12 inX12 39 (by decide) mF_RX12_87 dX12_strike_139 H (fun x2 H => ?_)
    refine r_iload K 6 dX12_strike_142 rfl ?_
    refine w_lald K dX12_strike_144 H (fun x3 H => ?_)
    refine r_aload_n K 0 dX12_strike_145 rfl rfl ?_
    refine w_getO K vc12 inX12 40 (by decide) mF_RX12_90 dX12_strike_146 H (fun x4 H => ?_)
    refine r_iload K 6 dX12_strike_149 rfl ?_
    refine w_lald K dX12_strike_151 H (fun x5 H => ?_)
    refine r_ladd K dX12_strike_152 ?_
    refine w_last K dX12_strike_153 H (fun μ6 H => ?_)
    refine r_iinc K 6 [(7, .int _), (0, .ref _), (1, .int _), (3, .int _), (4, .int _), (5, .int _), (6, .int _)] (v := _ + (1 : Int32)) dX12_strike_154 rfl rfl (by decide) rfl ?_
    refine r_goto K 125 dX12_strike_157 (by decide) ?_
    cases H
    exact r_sub [1, 2, 3, 4, 5, 6, 0] rfl D
set_option maxRecDepth 10000 in
theorem l_X12_strike_125 {X : jX} {l : Launch} {n : Nat} {Y : jY} (K : jOK X RX12 cX12_strike 8 (some .long) 3) (hl : X.2.1 = l) {rr : Int64} {μr : jM} {v0 : Nat} {v1 : Int32} {v3 : Int32} {v4 : Int32} {v5 : Int32} {v6 : Int32}  {s0 : Int32 × jM} {z : ((Int32 × jM) ⊕ (Int64 × jM))} (H : jit jF (fun (s : Int32 × jM) => b_X12_strike_125 Y v0 v1 v3 v4 v5 v6 s.1 s.2) s0 = some z) (D : Sum.elim (fun (s : Int32 × jM) => JW X (jEnd X n Y (some (.long rr)) μr 0 0) 0 0 n Y 116 [(0, .ref v0), (1, .int v1), (3, .int v3), (4, .int v4), (5, .int v5), (6, .int s.1)] [] s.2) (fun r => r = (rr, μr)) z) : JW X (jEnd X n Y (some (.long rr)) μr 0 0) 0 0 n Y 125 [(0, .ref v0), (1, .int v1), (3, .int v3), (4, .int v4), (5, .int v5), (6, .int v6), (7, .int s0.1)] [] s0.2 :=
  jit_ind (P := fun (s : Int32 × jM) => JW X (jEnd X n Y (some (.long rr)) μr 0 0) 0 0 n Y 125 [(0, .ref v0), (1, .int v1), (3, .int v3), (4, .int v4), (5, .int v5), (6, .int v6), (7, .int s.1)] [] s.2) (D := Sum.elim (fun (s : Int32 × jM) => JW X (jEnd X n Y (some (.long rr)) μr 0 0) 0 0 n Y 116 [(0, .ref v0), (1, .int v1), (3, .int v3), (4, .int v4), (5, .int v5), (6, .int s.1)] [] s.2) (fun r => r = (rr, μr))) (fun s z Hs Ds => t_X12_strike_125 K hl Hs Ds) jF s0 z H D
set_option maxRecDepth 10000 in
theorem t_X12_strike_116 {X : jX} {l : Launch} {n : Nat} {Y : jY} (K : jOK X RX12 cX12_strike 8 (some .long) 3) (hl : X.2.1 = l) {rr : Int64} {μr : jM} {v0 : Nat} {v1 : Int32} {v3 : Int32} {v4 : Int32} {v5 : Int32} {v6 : Int32} {μ : jM} {z : ((Int32 × jM) ⊕ (Int64 × jM))} (H : b_X12_strike_116 Y v0 v1 v3 v4 v5 v6 μ = some z) (D : Sum.elim (fun (s : Int32 × jM) => JW X (jEnd X n Y (some (.long rr)) μr 0 0) 0 0 n Y 116 [(0, .ref v0), (1, .int v1), (3, .int v3), (4, .int v4), (5, .int v5), (6, .int s.1)] [] s.2) (fun r => r = (rr, μr)) z) : JW X (jEnd X n Y (some (.long rr)) μr 0 0) 0 0 n Y 116 [(0, .ref v0), (1, .int v1), (3, .int v3), (4, .int v4), (5, .int v5), (6, .int v6)] [] μ := by
  unfold b_X12_strike_116 at H
  refine r_iload K 5 dX12_strike_116 rfl ?_
  refine r_iload_n K 2 dX12_strike_118 rfl rfl ?_
  refine w_icmp_ge K 286 dX12_strike_119 (by decide) H (fun _ H => ?_) (fun _ H => ?_)
  · refine r_aload_n K 0 dX12_strike_286 rfl rfl ?_
    refine w_getO K vc12 inX12 39 (by decide) mF_RX12_87 dX12_strike_287 H (fun x1 H => ?_)
    refine r_iload K 3 dX12_strike_290 rfl ?_
    refine w_lald K dX12_strike_292 H (fun x2 H => ?_)
    cases H
    simp only [Sum.elim_inr] at D
    obtain ⟨rfl, rfl⟩ := jfin2 D
    exact r_lret K dX12_strike_293
  · refine r_iconst (v := 0) K dX12_strike_122 (by decide) ?_
    refine r_istore K [(7, .int _), (0, .ref _), (1, .int _), (3, .int _), (4, .int _), (5, .int _), (6, .int _)] dX12_strike_123 (by decide) rfl ?_
    exact r_sub [1, 2, 3, 4, 5, 6, 0] rfl (l_X12_strike_125 K hl H D)
set_option maxRecDepth 10000 in
theorem l_X12_strike_116 {X : jX} {l : Launch} {n : Nat} {Y : jY} (K : jOK X RX12 cX12_strike 8 (some .long) 3) (hl : X.2.1 = l) {rr : Int64} {μr : jM} {v0 : Nat} {v1 : Int32} {v3 : Int32} {v4 : Int32} {v5 : Int32}  {s0 : Int32 × jM} {z : (Int64 × jM)} (H : jit jF (fun (s : Int32 × jM) => b_X12_strike_116 Y v0 v1 v3 v4 v5 s.1 s.2) s0 = some z) (D : z = (rr, μr)) : JW X (jEnd X n Y (some (.long rr)) μr 0 0) 0 0 n Y 116 [(0, .ref v0), (1, .int v1), (3, .int v3), (4, .int v4), (5, .int v5), (6, .int s0.1)] [] s0.2 :=
  jit_ind (P := fun (s : Int32 × jM) => JW X (jEnd X n Y (some (.long rr)) μr 0 0) 0 0 n Y 116 [(0, .ref v0), (1, .int v1), (3, .int v3), (4, .int v4), (5, .int v5), (6, .int s.1)] [] s.2) (D := fun r => r = (rr, μr)) (fun s z Hs Ds => t_X12_strike_116 K hl Hs Ds) jF s0 z H D
set_option maxRecDepth 10000 in
theorem t_X12_strike_106 {X : jX} {l : Launch} {n : Nat} {Y : jY} (K : jOK X RX12 cX12_strike 8 (some .long) 3) (hl : X.2.1 = l) {rr : Int64} {μr : jM} {v0 : Nat} {v1 : Int32} {v2 : Int32} {v3 : Int32} {v4 : Int32} {v5 : Int32} {v6 : Int32} {t0 : Nat} {t1 : Int32} {t2 : Int64} {μ : jM} {z : ((Int32 × jM) ⊕ (Int64 × jM))} (H : b_X12_strike_106 Y v0 v1 v2 v3 v4 v5 v6 t0 t1 t2 μ = some z) (D : Sum.elim (fun (s : Int32 × jM) => JW X (jEnd X n Y (some (.long rr)) μr 0 0) 0 0 n Y 74 [(0, .ref v0), (1, .int v1), (2, .int v2), (3, .int v3), (4, .int v4), (5, .int v5), (6, .int s.1)] [] s.2) (fun r => r = (rr, μr)) z) : JW X (jEnd X n Y (some (.long rr)) μr 0 0) 0 0 n Y 106 [(0, .ref v0), (1, .int v1), (2, .int v2), (3, .int v3), (4, .int v4), (5, .int v5), (6, .int v6)] [.long t2, .int t1, .ref t0] μ := by
  unfold b_X12_strike_106 at H
  refine w_last K dX12_strike_106 H (fun μ1 H => ?_)
  refine r_iinc K 6 [(6, .int _), (0, .ref _), (1, .int _), (2, .int _), (3, .int _), (4, .int _), (5, .int _)] (v := _ + (1 : Int32)) dX12_strike_107 rfl rfl (by decide) rfl ?_
  refine r_goto K 74 dX12_strike_110 (by decide) ?_
  cases H
  exact r_sub [1, 2, 3, 4, 5, 6, 0] rfl D
set_option maxRecDepth 10000 in
theorem t_X12_strike_74 {X : jX} {l : Launch} {n : Nat} {Y : jY} (K : jOK X RX12 cX12_strike 8 (some .long) 3) (hl : X.2.1 = l) {rr : Int64} {μr : jM} {v0 : Nat} {v1 : Int32} {v2 : Int32} {v3 : Int32} {v4 : Int32} {v5 : Int32} {v6 : Int32} {μ : jM} {z : ((Int32 × jM) ⊕ (Int64 × jM))} (H : b_X12_strike_74 Y v0 v1 v2 v3 v4 v5 v6 μ = some z) (D : Sum.elim (fun (s : Int32 × jM) => JW X (jEnd X n Y (some (.long rr)) μr 0 0) 0 0 n Y 74 [(0, .ref v0), (1, .int v1), (2, .int v2), (3, .int v3), (4, .int v4), (5, .int v5), (6, .int s.1)] [] s.2) (fun r => r = (rr, μr)) z) : JW X (jEnd X n Y (some (.long rr)) μr 0 0) 0 0 n Y 74 [(0, .ref v0), (1, .int v1), (2, .int v2), (3, .int v3), (4, .int v4), (5, .int v5), (6, .int v6)] [] μ := by
  unfold b_X12_strike_74 at H
  refine r_iload K 6 dX12_strike_74 rfl ?_
  refine r_iload K 5 dX12_strike_76 rfl ?_
  refine w_icmp_ge K 113 dX12_strike_78 (by decide) H (fun _ H => ?_) (fun _ H => ?_)
  · refine r_iconst (v := 0) K dX12_strike_113 (by decide) ?_
    refine r_istore K [(6, .int _), (0, .ref _), (1, .int _), (2, .int _), (3, .int _), (4, .int _), (5, .int _)] dX12_strike_114 (by decide) rfl ?_
    obtain ⟨z2, H2, rfl⟩ := jmap H
    exact r_sub [1, 2, 4, 5, 6, 0] rfl (l_X12_strike_116 K hl H2 D)
  · refine r_aload_n K 0 dX12_strike_81 rfl rfl ?_
    refine w_getO K vc12 inX12 39 (by decide) mF_RX12_87 dX12_strike_82 H (fun x1 H => ?_)
    refine r_iload K 6 dX12_strike_85 rfl ?_
    refine r_lconst (v := 0) K dX12_strike_87 (by decide) ?_
    refine w_last K dX12_strike_88 H (fun μ2 H => ?_)
    refine r_aload_n K 0 dX12_strike_89 rfl rfl ?_
    refine w_getO K vc12 inX12 40 (by decide) mF_RX12_90 dX12_strike_90 H (fun x3 H => ?_)
    refine r_iload K 6 dX12_strike_93 rfl ?_
    refine r_iload K 6 dX12_strike_95 rfl ?_
    refine r_iload_n K 2 dX12_strike_97 rfl rfl ?_
    refine w_icmp_ne K 105 dX12_strike_98 (by decide) H (fun _ H => ?_) (fun _ H => ?_)
    · refine r_lconst (v := 0) K dX12_strike_105 (by decide) ?_
      exact r_sub [0, 1, 2, 3, 4, 5, 6] rfl (t_X12_strike_106 K hl H D)
    · refine r_lconst (v := 1) K dX12_strike_101 (by decide) ?_
      refine r_goto K 106 dX12_strike_102 (by decide) ?_
      exact r_sub [0, 1, 2, 3, 4, 5, 6] rfl (t_X12_strike_106 K hl H D)
set_option maxRecDepth 10000 in
theorem l_X12_strike_74 {X : jX} {l : Launch} {n : Nat} {Y : jY} (K : jOK X RX12 cX12_strike 8 (some .long) 3) (hl : X.2.1 = l) {rr : Int64} {μr : jM} {v0 : Nat} {v1 : Int32} {v2 : Int32} {v3 : Int32} {v4 : Int32} {v5 : Int32}  {s0 : Int32 × jM} {z : (Int64 × jM)} (H : jit jF (fun (s : Int32 × jM) => b_X12_strike_74 Y v0 v1 v2 v3 v4 v5 s.1 s.2) s0 = some z) (D : z = (rr, μr)) : JW X (jEnd X n Y (some (.long rr)) μr 0 0) 0 0 n Y 74 [(0, .ref v0), (1, .int v1), (2, .int v2), (3, .int v3), (4, .int v4), (5, .int v5), (6, .int s0.1)] [] s0.2 :=
  jit_ind (P := fun (s : Int32 × jM) => JW X (jEnd X n Y (some (.long rr)) μr 0 0) 0 0 n Y 74 [(0, .ref v0), (1, .int v1), (2, .int v2), (3, .int v3), (4, .int v4), (5, .int v5), (6, .int s.1)] [] s.2) (D := fun r => r = (rr, μr)) (fun s z Hs Ds => t_X12_strike_74 K hl Hs Ds) jF s0 z H D
set_option maxRecDepth 10000 in
theorem t_X12_strike_0 {X : jX} {l : Launch} {n : Nat} {Y : jY} (K : jOK X RX12 cX12_strike 8 (some .long) 3) (hl : X.2.1 = l) {rr : Int64} {μr : jM} {v0 : Nat} {v1 : Int32} {v2 : Int32} {v3 : Int32} {v4 : Int32} {μ : jM} {z : (Int64 × jM)} (H : f_X12_strike Y v0 v1 v2 v3 v4 μ = some z) (D : z = (rr, μr)) : JW X (jEnd X n Y (some (.long rr)) μr 0 0) 0 0 n Y 0 [(0, .ref v0), (1, .int v1), (2, .int v2), (3, .int v3), (4, .int v4)] [] μ := by
  unfold f_X12_strike at H
  refine r_iload_n K 1 dX12_strike_0 rfl rfl ?_
  refine w_callS K hl H (fun r h => c_X12_isDrawer l h) mC_yX12_isDrawer mM_RX12_253 mT_yX12_isDrawer mZ_RX12 (Nat.le_of_ble_eq_true rfl) (Nat.le_of_ble_eq_true rfl) np_yX12_isDrawer rfl (Nat.le_of_ble_eq_true rfl) dX12_strike_1 (fun r1 H => ?_) ⟨Nat.zero_le _, Nat.zero_le _⟩
  refine w_if_eq K 59 dX12_strike_4 (by decide) H (fun _ H => ?_) (fun _ H => ?_)
  · exact r_sub [] rfl (t_X12_strike_59 K hl H D)
  · refine r_aload_n K 0 dX12_strike_7 rfl rfl ?_
    refine w_getO K vc12 inX12 26 (by decide) mF_RX12_48 dX12_strike_8 H (fun x2 H => ?_)
    refine r_iload_n K 1 dX12_strike_11 rfl rfl ?_
    refine w_iald K dX12_strike_12 H (fun x3 H => ?_)
    refine w_if_eq K 59 dX12_strike_13 (by decide) H (fun _ H => ?_) (fun _ H => ?_)
    · exact r_sub [] rfl (t_X12_strike_59 K hl H D)
    · refine r_iload_n K 2 dX12_strike_16 rfl rfl ?_
      refine r_iconst (v := 0) K dX12_strike_17 (by decide) ?_
      refine r_aload_n K 0 dX12_strike_18 rfl rfl ?_
      refine w_getO K vc12 inX12 26 (by decide) mF_RX12_48 dX12_strike_19 H (fun x4 H => ?_)
      refine r_iload_n K 1 dX12_strike_22 rfl rfl ?_
      refine w_iald K dX12_strike_23 H (fun x5 H => ?_)
      refine r_iconst (v := 1) K dX12_strike_24 (by decide) ?_
      refine r_isub K dX12_strike_25 ?_
      refine w_callS K hl H (fun r h => c_X12_in l h) mC_yX12_in mM_RX12_134 mT_yX12_in mZ_RX12 (Nat.le_of_ble_eq_true rfl) (Nat.le_of_ble_eq_true rfl) np_yX12_in rfl (Nat.le_of_ble_eq_true rfl) dX12_strike_26 (fun r6 H => ?_) ⟨Nat.zero_le _, Nat.zero_le _⟩
      refine w_if_eq K 59 dX12_strike_29 (by decide) H (fun _ H => ?_) (fun _ H => ?_)
      · exact r_sub [] rfl (t_X12_strike_59 K hl H D)
      · refine r_iload_n K 3 dX12_strike_32 rfl rfl ?_
        refine r_iconst (v := 0) K dX12_strike_33 (by decide) ?_
        refine r_bipush (v := 8) K dX12_strike_34 (by decide) ?_
        refine w_callS K hl H (fun r h => c_X12_in l h) mC_yX12_in mM_RX12_134 mT_yX12_in mZ_RX12 (Nat.le_of_ble_eq_true rfl) (Nat.le_of_ble_eq_true rfl) np_yX12_in rfl (Nat.le_of_ble_eq_true rfl) dX12_strike_36 (fun r7 H => ?_) ⟨Nat.zero_le _, Nat.zero_le _⟩
        refine w_if_eq K 59 dX12_strike_39 (by decide) H (fun _ H => ?_) (fun _ H => ?_)
        · exact r_sub [] rfl (t_X12_strike_59 K hl H D)
        · refine r_iload K 4 dX12_strike_42 rfl ?_
          refine r_iconst (v := 0) K dX12_strike_44 (by decide) ?_
          refine r_aload_n K 0 dX12_strike_45 rfl rfl ?_
          refine w_getO K vc12 inX12 26 (by decide) mF_RX12_48 dX12_strike_46 H (fun x8 H => ?_)
          refine r_iload_n K 1 dX12_strike_49 rfl rfl ?_
          refine w_iald K dX12_strike_50 H (fun x9 H => ?_)
          refine r_iconst (v := 1) K dX12_strike_51 (by decide) ?_
          refine r_isub K dX12_strike_52 ?_
          refine w_callS K hl H (fun r h => c_X12_in l h) mC_yX12_in mM_RX12_134 mT_yX12_in mZ_RX12 (Nat.le_of_ble_eq_true rfl) (Nat.le_of_ble_eq_true rfl) np_yX12_in rfl (Nat.le_of_ble_eq_true rfl) dX12_strike_53 (fun r10 H => ?_) ⟨Nat.zero_le _, Nat.zero_le _⟩
          refine w_if_ne K 63 dX12_strike_56 (by decide) H (fun _ H => ?_) (fun _ H => ?_)
          · refine r_aload_n K 0 dX12_strike_63 rfl rfl ?_
            refine w_getO K vc12 inX12 26 (by decide) mF_RX12_48 dX12_strike_64 H (fun x11 H => ?_)
            refine r_iload_n K 1 dX12_strike_67 rfl rfl ?_
            refine w_iald K dX12_strike_68 H (fun x12 H => ?_)
            refine r_istore K [(5, .int _), (0, .ref _), (1, .int _), (2, .int _), (3, .int _), (4, .int _)] dX12_strike_69 (by decide) rfl ?_
            refine r_iconst (v := 0) K dX12_strike_71 (by decide) ?_
            refine r_istore K [(6, .int _), (5, .int _), (0, .ref _), (1, .int _), (2, .int _), (3, .int _), (4, .int _)] dX12_strike_72 (by decide) rfl ?_
            exact r_sub [2, 3, 4, 5, 6, 1, 0] rfl (l_X12_strike_74 K hl H D)
          · exact r_sub [] rfl (t_X12_strike_59 K hl H D)
theorem c_X12_strike (l : Launch) {n : Nat} {Y : jY} {v0 : Nat} {v1 : Int32} {v2 : Int32} {v3 : Int32} {v4 : Int32} {μ : jM} {z : Int64 × jM} (H : f_X12_strike Y v0 v1 v2 v3 v4 μ = some z) : jC l yX12_strike cX12_strike 8 (some .long) 3 0 0 [.ref v0, .int v1, .int v2, .int v3, .int v4] n Y μ n Y (some (.long z.1)) z.2 := by
  refine jC_of (by decide +kernel) (Nat.le_of_ble_eq_true rfl) (fun X hl K _ _ _ => ?_)
  obtain ⟨rr, μr⟩ := z
  exact t_X12_strike_0 K hl H rfl
/-! RX12 hasLater()Z -/
def b_X12_hasLater_97 (Y : jY) (t0 : Int32) (μ : jM) : Option (Int32 × jM) :=
  (jbool t0).bind fun x1 =>
  some (x1, μ)
def b_X12_hasLater_96 (Y : jY) (μ : jM) : Option (Int32 × jM) :=
  b_X12_hasLater_97 Y (0 : Int32) μ
def b_X12_hasLater_36 (Y : jY) (t0 : Int32) (μ : jM) : Option (Int32 × jM) :=
  (jbool t0).bind fun x1 =>
  some (x1, μ)
def f_X12_hasLater (Y : jY) (v0 : Nat) (μ : jM) : Option (Int32 × jM) :=
  (jgI Y μ v0 12 10).bind fun x1 =>
  if x1 = ((1 : Int32)) then
    (jbool ((1 : Int32))).bind fun x19 =>
    some (x19, μ)
  else
    (jgI Y μ v0 12 10).bind fun x2 =>
    if x2 = ((2 : Int32)) then
      (jgI Y μ v0 12 43).bind fun x16 =>
      (jgO Y μ v0 12 12).bind fun x17 =>
      (jaI Y μ x17 20 ((0 : Int32))).bind fun x18 =>
      if x16 = x18 then
        b_X12_hasLater_36 Y (1 : Int32) μ
      else
        b_X12_hasLater_36 Y (0 : Int32) μ
    else
      (jgI Y μ v0 12 43).bind fun x3 =>
      (jgI Y μ v0 12 44).bind fun x4 =>
      (jgO Y μ v0 12 12).bind fun x5 =>
      (jaI Y μ x5 20 ((0 : Int32))).bind fun x6 =>
      (jgO Y μ v0 12 12).bind fun x7 =>
      (jaI Y μ x7 20 ((1 : Int32))).bind fun x8 =>
      if ((x3 + x4)) = ((x6 + x8)) then
        (jgI Y μ v0 12 43).bind fun x9 =>
        (jgI Y μ v0 12 44).bind fun x10 =>
        (jgI Y μ v0 12 46).bind fun x11 =>
        (jgO Y μ v0 12 12).bind fun x12 =>
        (jaI Y μ x12 20 ((0 : Int32))).bind fun x13 =>
        (jgO Y μ v0 12 12).bind fun x14 =>
        (jaI Y μ x14 20 ((1 : Int32))).bind fun x15 =>
        if ((((x9 * x10)) - x11)) = ((x13 * x15)) then
          b_X12_hasLater_97 Y (1 : Int32) μ
        else
          b_X12_hasLater_96 Y μ
      else
        b_X12_hasLater_96 Y μ
set_option maxRecDepth 10000 in
theorem t_X12_hasLater_97 {X : jX} {l : Launch} {n : Nat} {Y : jY} (K : jOK X RX12 cX12_hasLater 1 (some .boolean) 1) (hl : X.2.1 = l) {rr : Int32} {μr : jM} {t0 : Int32} {μ : jM} {z : (Int32 × jM)} (H : b_X12_hasLater_97 Y t0 μ = some z) (D : z = (rr, μr)) : JW X (jEnd X n Y (some (.int rr)) μr 0 0) 0 0 n Y 97 [] [.int t0] μ := by
  unfold b_X12_hasLater_97 at H
  refine w_zret K dX12_hasLater_97 H (fun hz H => ?_)
  cases H
  obtain ⟨rfl, rfl⟩ := jfin2 D
  exact r_zret K hz dX12_hasLater_97
set_option maxRecDepth 10000 in
theorem t_X12_hasLater_96 {X : jX} {l : Launch} {n : Nat} {Y : jY} (K : jOK X RX12 cX12_hasLater 1 (some .boolean) 1) (hl : X.2.1 = l) {rr : Int32} {μr : jM} {μ : jM} {z : (Int32 × jM)} (H : b_X12_hasLater_96 Y μ = some z) (D : z = (rr, μr)) : JW X (jEnd X n Y (some (.int rr)) μr 0 0) 0 0 n Y 96 [] [] μ := by
  unfold b_X12_hasLater_96 at H
  refine r_iconst (v := 0) K dX12_hasLater_96 (by decide) ?_
  exact r_sub [] rfl (t_X12_hasLater_97 K hl H D)
set_option maxRecDepth 10000 in
theorem t_X12_hasLater_36 {X : jX} {l : Launch} {n : Nat} {Y : jY} (K : jOK X RX12 cX12_hasLater 1 (some .boolean) 1) (hl : X.2.1 = l) {rr : Int32} {μr : jM} {t0 : Int32} {μ : jM} {z : (Int32 × jM)} (H : b_X12_hasLater_36 Y t0 μ = some z) (D : z = (rr, μr)) : JW X (jEnd X n Y (some (.int rr)) μr 0 0) 0 0 n Y 36 [] [.int t0] μ := by
  unfold b_X12_hasLater_36 at H
  refine w_zret K dX12_hasLater_36 H (fun hz H => ?_)
  cases H
  obtain ⟨rfl, rfl⟩ := jfin2 D
  exact r_zret K hz dX12_hasLater_36
set_option maxRecDepth 10000 in
theorem t_X12_hasLater_0 {X : jX} {l : Launch} {n : Nat} {Y : jY} (K : jOK X RX12 cX12_hasLater 1 (some .boolean) 1) (hl : X.2.1 = l) {rr : Int32} {μr : jM} {v0 : Nat} {μ : jM} {z : (Int32 × jM)} (H : f_X12_hasLater Y v0 μ = some z) (D : z = (rr, μr)) : JW X (jEnd X n Y (some (.int rr)) μr 0 0) 0 0 n Y 0 [(0, .ref v0)] [] μ := by
  unfold f_X12_hasLater at H
  refine r_aload_n K 0 dX12_hasLater_0 rfl rfl ?_
  refine w_getI K vc12 inX12 10 (by decide) mF_RX12_145 dX12_hasLater_1 H (fun x1 H => ?_)
  refine r_iconst (v := 1) K dX12_hasLater_4 (by decide) ?_
  refine w_icmp_ne K 10 dX12_hasLater_5 (by decide) H (fun _ H => ?_) (fun _ H => ?_)
  · refine r_aload_n K 0 dX12_hasLater_10 rfl rfl ?_
    refine w_getI K vc12 inX12 10 (by decide) mF_RX12_145 dX12_hasLater_11 H (fun x2 H => ?_)
    refine r_iconst (v := 2) K dX12_hasLater_14 (by decide) ?_
    refine w_icmp_ne K 37 dX12_hasLater_15 (by decide) H (fun _ H => ?_) (fun _ H => ?_)
    · refine r_aload_n K 0 dX12_hasLater_37 rfl rfl ?_
      refine w_getI K vc12 inX12 43 (by decide) mF_RX12_326 dX12_hasLater_38 H (fun x3 H => ?_)
      refine r_aload_n K 0 dX12_hasLater_41 rfl rfl ?_
      refine w_getI K vc12 inX12 44 (by decide) mF_RX12_338 dX12_hasLater_42 H (fun x4 H => ?_)
      refine r_iadd K dX12_hasLater_45 ?_
      refine r_aload_n K 0 dX12_hasLater_46 rfl rfl ?_
      refine w_getO K vc12 inX12 12 (by decide) mF_RX12_23 dX12_hasLater_47 H (fun x5 H => ?_)
      refine r_iconst (v := 0) K dX12_hasLater_50 (by decide) ?_
      refine w_iald K dX12_hasLater_51 H (fun x6 H => ?_)
      refine r_aload_n K 0 dX12_hasLater_52 rfl rfl ?_
      refine w_getO K vc12 inX12 12 (by decide) mF_RX12_23 dX12_hasLater_53 H (fun x7 H => ?_)
      refine r_iconst (v := 1) K dX12_hasLater_56 (by decide) ?_
      refine w_iald K dX12_hasLater_57 H (fun x8 H => ?_)
      refine r_iadd K dX12_hasLater_58 ?_
      refine w_icmp_ne K 96 dX12_hasLater_59 (by decide) H (fun _ H => ?_) (fun _ H => ?_)
      · exact r_sub [] rfl (t_X12_hasLater_96 K hl H D)
      · refine r_aload_n K 0 dX12_hasLater_62 rfl rfl ?_
        refine w_getI K vc12 inX12 43 (by decide) mF_RX12_326 dX12_hasLater_63 H (fun x9 H => ?_)
        refine r_aload_n K 0 dX12_hasLater_66 rfl rfl ?_
        refine w_getI K vc12 inX12 44 (by decide) mF_RX12_338 dX12_hasLater_67 H (fun x10 H => ?_)
        refine r_imul K dX12_hasLater_70 ?_
        refine r_aload_n K 0 dX12_hasLater_71 rfl rfl ?_
        refine w_getI K vc12 inX12 46 (by decide) mF_RX12_341 dX12_hasLater_72 H (fun x11 H => ?_)
        refine r_isub K dX12_hasLater_75 ?_
        refine r_aload_n K 0 dX12_hasLater_76 rfl rfl ?_
        refine w_getO K vc12 inX12 12 (by decide) mF_RX12_23 dX12_hasLater_77 H (fun x12 H => ?_)
        refine r_iconst (v := 0) K dX12_hasLater_80 (by decide) ?_
        refine w_iald K dX12_hasLater_81 H (fun x13 H => ?_)
        refine r_aload_n K 0 dX12_hasLater_82 rfl rfl ?_
        refine w_getO K vc12 inX12 12 (by decide) mF_RX12_23 dX12_hasLater_83 H (fun x14 H => ?_)
        refine r_iconst (v := 1) K dX12_hasLater_86 (by decide) ?_
        refine w_iald K dX12_hasLater_87 H (fun x15 H => ?_)
        refine r_imul K dX12_hasLater_88 ?_
        refine w_icmp_ne K 96 dX12_hasLater_89 (by decide) H (fun _ H => ?_) (fun _ H => ?_)
        · exact r_sub [] rfl (t_X12_hasLater_96 K hl H D)
        · refine r_iconst (v := 1) K dX12_hasLater_92 (by decide) ?_
          refine r_goto K 97 dX12_hasLater_93 (by decide) ?_
          exact r_sub [] rfl (t_X12_hasLater_97 K hl H D)
    · refine r_aload_n K 0 dX12_hasLater_18 rfl rfl ?_
      refine w_getI K vc12 inX12 43 (by decide) mF_RX12_326 dX12_hasLater_19 H (fun x16 H => ?_)
      refine r_aload_n K 0 dX12_hasLater_22 rfl rfl ?_
      refine w_getO K vc12 inX12 12 (by decide) mF_RX12_23 dX12_hasLater_23 H (fun x17 H => ?_)
      refine r_iconst (v := 0) K dX12_hasLater_26 (by decide) ?_
      refine w_iald K dX12_hasLater_27 H (fun x18 H => ?_)
      refine w_icmp_ne K 35 dX12_hasLater_28 (by decide) H (fun _ H => ?_) (fun _ H => ?_)
      · refine r_iconst (v := 0) K dX12_hasLater_35 (by decide) ?_
        exact r_sub [] rfl (t_X12_hasLater_36 K hl H D)
      · refine r_iconst (v := 1) K dX12_hasLater_31 (by decide) ?_
        refine r_goto K 36 dX12_hasLater_32 (by decide) ?_
        exact r_sub [] rfl (t_X12_hasLater_36 K hl H D)
  · refine r_iconst (v := 1) K dX12_hasLater_8 (by decide) ?_
    refine w_zret K dX12_hasLater_9 H (fun hz H => ?_)
    cases H
    obtain ⟨rfl, rfl⟩ := jfin2 D
    exact r_zret K hz dX12_hasLater_9
theorem c_X12_hasLater (l : Launch) {n : Nat} {Y : jY} {v0 : Nat} {μ : jM} {z : Int32 × jM} (H : f_X12_hasLater Y v0 μ = some z) : jC l yX12_hasLater cX12_hasLater 1 (some .boolean) 1 0 0 [.ref v0] n Y μ n Y (some (.int z.1)) z.2 := by
  refine jC_of (by decide +kernel) (Nat.le_of_ble_eq_true rfl) (fun X hl K _ _ _ => ?_)
  obtain ⟨rr, μr⟩ := z
  exact t_X12_hasLater_0 K hl H rfl
/-! RX12 unique()I -/
def b_X12_unique_46 (Y : jY) (v0 : Nat) (t0 : Int32) (t1 : Int32) (μ : jM) : Option ((Int32 × jM) ⊕ (Int32 × jM)) :=
  some (.inl ((t0 + t1), μ))
def b_X12_unique_26 (Y : jY) (v0 : Nat) (v1 : Int32) (μ : jM) : Option ((Int32 × jM) ⊕ (Int32 × jM)) :=
  (jrcv Y v0 12 (f_X12_goesOn Y v0 μ)).bind fun r1 =>
  if r1.1 = 0 then
    some (.inr (v1, r1.2))
  else
    (jrcv Y v0 12 (f_X12_hasLater Y v0 r1.2)).bind fun r2 =>
    if r2.1 = 0 then
      b_X12_unique_46 Y v0 v1 (0 : Int32) r2.2
    else
      b_X12_unique_46 Y v0 v1 (1 : Int32) r2.2
def f_X12_unique (Y : jY) (v0 : Nat) (μ : jM) : Option (Int32 × jM) :=
  (jgI Y μ v0 12 10).bind fun x1 =>
  if x1 = 0 then
    some ((-1 : Int32), μ)
  else
    (jgI Y μ v0 12 10).bind fun x2 =>
    if x2 ≤ ((3 : Int32)) then
      (jrcv Y v0 12 (f_X12_begin0 Y v0 μ)).bind fun μ3 =>
      jit jF (fun (s : Int32 × jM) => b_X12_unique_26 Y v0 s.1 s.2) ((0 : Int32), μ3)
    else
      some ((-2 : Int32), μ)
set_option maxRecDepth 10000 in
theorem t_X12_unique_46 {X : jX} {l : Launch} {n : Nat} {Y : jY} (K : jOK X RX12 cX12_unique 2 (some .int) 4) (hl : X.2.1 = l) {rr : Int32} {μr : jM} {v0 : Nat} {t0 : Int32} {t1 : Int32} {μ : jM} {z : ((Int32 × jM) ⊕ (Int32 × jM))} (H : b_X12_unique_46 Y v0 t0 t1 μ = some z) (D : Sum.elim (fun (s : Int32 × jM) => JW X (jEnd X n Y (some (.int rr)) μr 0 0) 0 0 n Y 26 [(0, .ref v0), (1, .int s.1)] [] s.2) (fun r => r = (rr, μr)) z) : JW X (jEnd X n Y (some (.int rr)) μr 0 0) 0 0 n Y 46 [(0, .ref v0)] [.int t1, .int t0] μ := by
  unfold b_X12_unique_46 at H
  refine r_iadd K dX12_unique_46 ?_
  refine r_istore_n K [(1, .int _), (0, .ref _)] dX12_unique_47 rfl (by decide) rfl ?_
  refine r_goto K 26 dX12_unique_48 (by decide) ?_
  cases H
  exact r_sub [1, 0] rfl D
set_option maxRecDepth 10000 in
theorem t_X12_unique_26 {X : jX} {l : Launch} {n : Nat} {Y : jY} (K : jOK X RX12 cX12_unique 2 (some .int) 4) (hl : X.2.1 = l) {rr : Int32} {μr : jM} {v0 : Nat} {v1 : Int32} {μ : jM} {z : ((Int32 × jM) ⊕ (Int32 × jM))} (H : b_X12_unique_26 Y v0 v1 μ = some z) (D : Sum.elim (fun (s : Int32 × jM) => JW X (jEnd X n Y (some (.int rr)) μr 0 0) 0 0 n Y 26 [(0, .ref v0), (1, .int s.1)] [] s.2) (fun r => r = (rr, μr)) z) : JW X (jEnd X n Y (some (.int rr)) μr 0 0) 0 0 n Y 26 [(0, .ref v0), (1, .int v1)] [] μ := by
  unfold b_X12_unique_26 at H
  refine r_aload_n K 0 dX12_unique_26 rfl rfl ?_
  refine w_callV K hl H (fun r h => c_X12_goesOn l h) mC_yX12_goesOn mM_RX12_350 mI_yX12_goesOn mS_yX12_goesOn mZ_RX12 vc12 (Nat.le_of_ble_eq_true rfl) (Nat.le_of_ble_eq_true rfl) np_yX12_goesOn rfl (Nat.le_of_ble_eq_true rfl) dX12_unique_27 (fun r1 H => ?_) ⟨Nat.zero_le _, Nat.zero_le _⟩
  refine w_if_eq K 51 dX12_unique_30 (by decide) H (fun _ H => ?_) (fun _ H => ?_)
  · refine r_iload_n K 1 dX12_unique_51 rfl rfl ?_
    cases H
    simp only [Sum.elim_inr] at D
    obtain ⟨rfl, rfl⟩ := jfin2 D
    exact r_iret K dX12_unique_52
  · refine r_iload_n K 1 dX12_unique_33 rfl rfl ?_
    refine r_aload_n K 0 dX12_unique_34 rfl rfl ?_
    refine w_callV K hl H (fun r h => c_X12_hasLater l h) mC_yX12_hasLater mM_RX12_353 mI_yX12_hasLater mS_yX12_hasLater mZ_RX12 vc12 (Nat.le_of_ble_eq_true rfl) (Nat.le_of_ble_eq_true rfl) np_yX12_hasLater rfl (Nat.le_of_ble_eq_true rfl) dX12_unique_35 (fun r2 H => ?_) ⟨Nat.zero_le _, Nat.zero_le _⟩
    refine w_if_eq K 45 dX12_unique_38 (by decide) H (fun _ H => ?_) (fun _ H => ?_)
    · refine r_iconst (v := 0) K dX12_unique_45 (by decide) ?_
      exact r_sub [0] rfl (t_X12_unique_46 K hl H D)
    · refine r_iconst (v := 1) K dX12_unique_41 (by decide) ?_
      refine r_goto K 46 dX12_unique_42 (by decide) ?_
      exact r_sub [0] rfl (t_X12_unique_46 K hl H D)
set_option maxRecDepth 10000 in
theorem l_X12_unique_26 {X : jX} {l : Launch} {n : Nat} {Y : jY} (K : jOK X RX12 cX12_unique 2 (some .int) 4) (hl : X.2.1 = l) {rr : Int32} {μr : jM} {v0 : Nat}  {s0 : Int32 × jM} {z : (Int32 × jM)} (H : jit jF (fun (s : Int32 × jM) => b_X12_unique_26 Y v0 s.1 s.2) s0 = some z) (D : z = (rr, μr)) : JW X (jEnd X n Y (some (.int rr)) μr 0 0) 0 0 n Y 26 [(0, .ref v0), (1, .int s0.1)] [] s0.2 :=
  jit_ind (P := fun (s : Int32 × jM) => JW X (jEnd X n Y (some (.int rr)) μr 0 0) 0 0 n Y 26 [(0, .ref v0), (1, .int s.1)] [] s.2) (D := fun r => r = (rr, μr)) (fun s z Hs Ds => t_X12_unique_26 K hl Hs Ds) jF s0 z H D
set_option maxRecDepth 10000 in
theorem t_X12_unique_0 {X : jX} {l : Launch} {n : Nat} {Y : jY} (K : jOK X RX12 cX12_unique 2 (some .int) 4) (hl : X.2.1 = l) {rr : Int32} {μr : jM} {v0 : Nat} {μ : jM} {z : (Int32 × jM)} (H : f_X12_unique Y v0 μ = some z) (D : z = (rr, μr)) : JW X (jEnd X n Y (some (.int rr)) μr 0 0) 0 0 n Y 0 [(0, .ref v0)] [] μ := by
  unfold f_X12_unique at H
  refine r_aload_n K 0 dX12_unique_0 rfl rfl ?_
  refine w_getI K vc12 inX12 10 (by decide) mF_RX12_145 dX12_unique_1 H (fun x1 H => ?_)
  refine w_if_ne K 9 dX12_unique_4 (by decide) H (fun _ H => ?_) (fun _ H => ?_)
  · refine r_aload_n K 0 dX12_unique_9 rfl rfl ?_
    refine w_getI K vc12 inX12 10 (by decide) mF_RX12_145 dX12_unique_10 H (fun x2 H => ?_)
    refine r_iconst (v := 3) K dX12_unique_13 (by decide) ?_
    refine w_icmp_le K 20 dX12_unique_14 (by decide) H (fun _ H => ?_) (fun _ H => ?_)
    · refine r_iconst (v := 0) K dX12_unique_20 (by decide) ?_
      refine r_istore_n K [(1, .int _), (0, .ref _)] dX12_unique_21 rfl (by decide) rfl ?_
      refine r_aload_n K 1 dX12_unique_22 rfl rfl ?_
      refine w_callV K hl H (fun r h => c_X12_begin0 l h) mC_yX12_begin0 mM_RX12_347 mI_yX12_begin0 mS_yX12_begin0 mZ_RX12 vc12 (Nat.le_of_ble_eq_true rfl) (Nat.le_of_ble_eq_true rfl) np_yX12_begin0 rfl (Nat.le_of_ble_eq_true rfl) dX12_unique_23 (fun μ3 H => ?_) ⟨Nat.zero_le _, Nat.zero_le _⟩
      exact r_sub [1, 0] rfl (l_X12_unique_26 K hl H D)
    · refine r_bipush (v := -2) K dX12_unique_17 (by decide) ?_
      cases H
      obtain ⟨rfl, rfl⟩ := jfin2 D
      exact r_iret K dX12_unique_19
  · refine r_iconst (v := -1) K dX12_unique_7 (by decide) ?_
    cases H
    obtain ⟨rfl, rfl⟩ := jfin2 D
    exact r_iret K dX12_unique_8
theorem c_X12_unique (l : Launch) {n : Nat} {Y : jY} {v0 : Nat} {μ : jM} {z : Int32 × jM} (H : f_X12_unique Y v0 μ = some z) : jC l yX12_unique cX12_unique 2 (some .int) 4 0 0 [.ref v0] n Y μ n Y (some (.int z.1)) z.2 := by
  refine jC_of (by decide +kernel) (Nat.le_of_ble_eq_true rfl) (fun X hl K _ _ _ => ?_)
  obtain ⟨rr, μr⟩ := z
  exact t_X12_unique_0 K hl H rfl
/-! RX12 tones(I)I -/
def b_X12_tones_18 (Y : jY) (μ : jM) : Option (Int32 × jM) :=
  some ((-1 : Int32), μ)
def b_X12_tones_76 (Y : jY) (v0 : Nat) (v3 : Int32) (μ : jM) : Option ((Int32 × jM) ⊕ (Int32 × jM)) :=
  (jgI Y μ v0 12 10).bind fun x1 =>
  if ((x1 - ((1 : Int32)))) ≤ v3 then
    (jgI Y μ v0 12 10).bind fun x2 =>
    some (.inr (x2, μ))
  else
    (jgO Y μ v0 12 12).bind fun x3 =>
    (jgO Y μ v0 12 7).bind fun x4 =>
    (jaI Y μ x4 20 v3).bind fun x5 =>
    (jas Y μ x3 20 v3 (.int x5)).bind fun μ6 =>
    some (.inl ((v3 + (1 : Int32)), μ6))
def b_X12_tones_48 (Y : jY) (v0 : Nat) (v3 : Int32) (μ : jM) : Option ((Int32 × jM) ⊕ (Int32 × jM)) :=
  (jgI Y μ v0 12 10).bind fun x1 =>
  if x1 ≤ v3 then
    (jit jF (fun (s : Int32 × jM) => b_X12_tones_76 Y v0 s.1 s.2) ((0 : Int32), μ)).map (fun r => (.inr r))
  else
    (jgO Y μ v0 12 11).bind fun x2 =>
    (jgO Y μ v0 12 6).bind fun x3 =>
    (jaI Y μ x3 20 v3).bind fun x4 =>
    (jas Y μ x2 20 v3 (.int x4)).bind fun μ5 =>
    some (.inl ((v3 + (1 : Int32)), μ5))
def f_X12_tones (Y : jY) (v0 : Nat) (v1 : Int32) (μ : jM) : Option (Int32 × jM) :=
  (f_X12_in Y v1 ((1 : Int32)) ((60 : Int32)) μ).bind fun r1 =>
  if r1.1 = 0 then
    b_X12_tones_18 Y r1.2
  else
    (jgI Y r1.2 v0 12 1).bind fun x2 =>
    if v1 ≤ x2 then
      (jrcv Y v0 12 (f_X12_begins Y v0 v1 r1.2)).bind fun r3 =>
      (jrcv Y v0 12 (f_X12_reads Y v0 ((1 : Int32)) r3.2)).bind fun r4 =>
      if 0 ≤ r4.1 then
        (jgI Y r4.2 v0 12 8).bind fun x5 =>
        (jput Y r4.2 v0 12 10 (.int x5)).bind fun μ6 =>
        jit jF (fun (s : Int32 × jM) => b_X12_tones_48 Y v0 s.1 s.2) ((0 : Int32), μ6)
      else
        some (r4.1, r4.2)
    else
      b_X12_tones_18 Y r1.2
set_option maxRecDepth 10000 in
theorem t_X12_tones_18 {X : jX} {l : Launch} {n : Nat} {Y : jY} (K : jOK X RX12 cX12_tones 4 (some .int) 4) (hl : X.2.1 = l) {rr : Int32} {μr : jM} {μ : jM} {z : (Int32 × jM)} (H : b_X12_tones_18 Y μ = some z) (D : z = (rr, μr)) : JW X (jEnd X n Y (some (.int rr)) μr 0 0) 0 0 n Y 18 [] [] μ := by
  unfold b_X12_tones_18 at H
  refine r_iconst (v := -1) K dX12_tones_18 (by decide) ?_
  cases H
  obtain ⟨rfl, rfl⟩ := jfin2 D
  exact r_iret K dX12_tones_19
set_option maxRecDepth 10000 in
theorem t_X12_tones_76 {X : jX} {l : Launch} {n : Nat} {Y : jY} (K : jOK X RX12 cX12_tones 4 (some .int) 4) (hl : X.2.1 = l) {rr : Int32} {μr : jM} {v0 : Nat} {v3 : Int32} {μ : jM} {z : ((Int32 × jM) ⊕ (Int32 × jM))} (H : b_X12_tones_76 Y v0 v3 μ = some z) (D : Sum.elim (fun (s : Int32 × jM) => JW X (jEnd X n Y (some (.int rr)) μr 0 0) 0 0 n Y 76 [(0, .ref v0), (3, .int s.1)] [] s.2) (fun r => r = (rr, μr)) z) : JW X (jEnd X n Y (some (.int rr)) μr 0 0) 0 0 n Y 76 [(0, .ref v0), (3, .int v3)] [] μ := by
  unfold b_X12_tones_76 at H
  refine r_iload_n K 1 dX12_tones_76 rfl rfl ?_
  refine r_aload_n K 0 dX12_tones_77 rfl rfl ?_
  refine w_getI K vc12 inX12 10 (by decide) mF_RX12_145 dX12_tones_78 H (fun x1 H => ?_)
  refine r_iconst (v := 1) K dX12_tones_81 (by decide) ?_
  refine r_isub K dX12_tones_82 ?_
  refine w_icmp_ge K 104 dX12_tones_83 (by decide) H (fun _ H => ?_) (fun _ H => ?_)
  · refine r_aload_n K 0 dX12_tones_104 rfl rfl ?_
    refine w_getI K vc12 inX12 10 (by decide) mF_RX12_145 dX12_tones_105 H (fun x2 H => ?_)
    cases H
    simp only [Sum.elim_inr] at D
    obtain ⟨rfl, rfl⟩ := jfin2 D
    exact r_iret K dX12_tones_108
  · refine r_aload_n K 0 dX12_tones_86 rfl rfl ?_
    refine w_getO K vc12 inX12 12 (by decide) mF_RX12_23 dX12_tones_87 H (fun x3 H => ?_)
    refine r_iload_n K 1 dX12_tones_90 rfl rfl ?_
    refine r_aload_n K 0 dX12_tones_91 rfl rfl ?_
    refine w_getO K vc12 inX12 7 (by decide) mF_RX12_17 dX12_tones_92 H (fun x4 H => ?_)
    refine r_iload_n K 1 dX12_tones_95 rfl rfl ?_
    refine w_iald K dX12_tones_96 H (fun x5 H => ?_)
    refine w_iast K dX12_tones_97 H (fun μ6 H => ?_)
    refine r_iinc K 1 [(3, .int _), (0, .ref _)] (v := _ + (1 : Int32)) dX12_tones_98 rfl rfl (by decide) rfl ?_
    refine r_goto K 76 dX12_tones_101 (by decide) ?_
    cases H
    exact r_sub [1, 0] rfl D
set_option maxRecDepth 10000 in
theorem l_X12_tones_76 {X : jX} {l : Launch} {n : Nat} {Y : jY} (K : jOK X RX12 cX12_tones 4 (some .int) 4) (hl : X.2.1 = l) {rr : Int32} {μr : jM} {v0 : Nat}  {s0 : Int32 × jM} {z : (Int32 × jM)} (H : jit jF (fun (s : Int32 × jM) => b_X12_tones_76 Y v0 s.1 s.2) s0 = some z) (D : z = (rr, μr)) : JW X (jEnd X n Y (some (.int rr)) μr 0 0) 0 0 n Y 76 [(0, .ref v0), (3, .int s0.1)] [] s0.2 :=
  jit_ind (P := fun (s : Int32 × jM) => JW X (jEnd X n Y (some (.int rr)) μr 0 0) 0 0 n Y 76 [(0, .ref v0), (3, .int s.1)] [] s.2) (D := fun r => r = (rr, μr)) (fun s z Hs Ds => t_X12_tones_76 K hl Hs Ds) jF s0 z H D
set_option maxRecDepth 10000 in
theorem t_X12_tones_48 {X : jX} {l : Launch} {n : Nat} {Y : jY} (K : jOK X RX12 cX12_tones 4 (some .int) 4) (hl : X.2.1 = l) {rr : Int32} {μr : jM} {v0 : Nat} {v3 : Int32} {μ : jM} {z : ((Int32 × jM) ⊕ (Int32 × jM))} (H : b_X12_tones_48 Y v0 v3 μ = some z) (D : Sum.elim (fun (s : Int32 × jM) => JW X (jEnd X n Y (some (.int rr)) μr 0 0) 0 0 n Y 48 [(0, .ref v0), (3, .int s.1)] [] s.2) (fun r => r = (rr, μr)) z) : JW X (jEnd X n Y (some (.int rr)) μr 0 0) 0 0 n Y 48 [(0, .ref v0), (3, .int v3)] [] μ := by
  unfold b_X12_tones_48 at H
  refine r_iload_n K 1 dX12_tones_48 rfl rfl ?_
  refine r_aload_n K 0 dX12_tones_49 rfl rfl ?_
  refine w_getI K vc12 inX12 10 (by decide) mF_RX12_145 dX12_tones_50 H (fun x1 H => ?_)
  refine w_icmp_ge K 74 dX12_tones_53 (by decide) H (fun _ H => ?_) (fun _ H => ?_)
  · refine r_iconst (v := 0) K dX12_tones_74 (by decide) ?_
    refine r_istore_n K [(3, .int _), (0, .ref _)] dX12_tones_75 rfl (by decide) rfl ?_
    obtain ⟨z2, H2, rfl⟩ := jmap H
    exact r_sub [1, 0] rfl (l_X12_tones_76 K hl H2 D)
  · refine r_aload_n K 0 dX12_tones_56 rfl rfl ?_
    refine w_getO K vc12 inX12 11 (by decide) mF_RX12_20 dX12_tones_57 H (fun x2 H => ?_)
    refine r_iload_n K 1 dX12_tones_60 rfl rfl ?_
    refine r_aload_n K 0 dX12_tones_61 rfl rfl ?_
    refine w_getO K vc12 inX12 6 (by decide) mF_RX12_13 dX12_tones_62 H (fun x3 H => ?_)
    refine r_iload_n K 1 dX12_tones_65 rfl rfl ?_
    refine w_iald K dX12_tones_66 H (fun x4 H => ?_)
    refine w_iast K dX12_tones_67 H (fun μ5 H => ?_)
    refine r_iinc K 1 [(3, .int _), (0, .ref _)] (v := _ + (1 : Int32)) dX12_tones_68 rfl rfl (by decide) rfl ?_
    refine r_goto K 48 dX12_tones_71 (by decide) ?_
    cases H
    exact r_sub [1, 0] rfl D
set_option maxRecDepth 10000 in
theorem l_X12_tones_48 {X : jX} {l : Launch} {n : Nat} {Y : jY} (K : jOK X RX12 cX12_tones 4 (some .int) 4) (hl : X.2.1 = l) {rr : Int32} {μr : jM} {v0 : Nat}  {s0 : Int32 × jM} {z : (Int32 × jM)} (H : jit jF (fun (s : Int32 × jM) => b_X12_tones_48 Y v0 s.1 s.2) s0 = some z) (D : z = (rr, μr)) : JW X (jEnd X n Y (some (.int rr)) μr 0 0) 0 0 n Y 48 [(0, .ref v0), (3, .int s0.1)] [] s0.2 :=
  jit_ind (P := fun (s : Int32 × jM) => JW X (jEnd X n Y (some (.int rr)) μr 0 0) 0 0 n Y 48 [(0, .ref v0), (3, .int s.1)] [] s.2) (D := fun r => r = (rr, μr)) (fun s z Hs Ds => t_X12_tones_48 K hl Hs Ds) jF s0 z H D
set_option maxRecDepth 10000 in
theorem t_X12_tones_0 {X : jX} {l : Launch} {n : Nat} {Y : jY} (K : jOK X RX12 cX12_tones 4 (some .int) 4) (hl : X.2.1 = l) {rr : Int32} {μr : jM} {v0 : Nat} {v1 : Int32} {μ : jM} {z : (Int32 × jM)} (H : f_X12_tones Y v0 v1 μ = some z) (D : z = (rr, μr)) : JW X (jEnd X n Y (some (.int rr)) μr 0 0) 0 0 n Y 0 [(0, .ref v0), (1, .int v1)] [] μ := by
  unfold f_X12_tones at H
  refine r_iload_n K 1 dX12_tones_0 rfl rfl ?_
  refine r_iconst (v := 1) K dX12_tones_1 (by decide) ?_
  refine r_bipush (v := 60) K dX12_tones_2 (by decide) ?_
  refine w_callS K hl H (fun r h => c_X12_in l h) mC_yX12_in mM_RX12_134 mT_yX12_in mZ_RX12 (Nat.le_of_ble_eq_true rfl) (Nat.le_of_ble_eq_true rfl) np_yX12_in rfl (Nat.le_of_ble_eq_true rfl) dX12_tones_4 (fun r1 H => ?_) ⟨Nat.zero_le _, Nat.zero_le _⟩
  refine w_if_eq K 18 dX12_tones_7 (by decide) H (fun _ H => ?_) (fun _ H => ?_)
  · exact r_sub [] rfl (t_X12_tones_18 K hl H D)
  · refine r_iload_n K 1 dX12_tones_10 rfl rfl ?_
    refine r_aload_n K 0 dX12_tones_11 rfl rfl ?_
    refine w_getI K vc12 inX12 1 (by decide) mF_RX12_93 dX12_tones_12 H (fun x2 H => ?_)
    refine w_icmp_le K 20 dX12_tones_15 (by decide) H (fun _ H => ?_) (fun _ H => ?_)
    · refine r_aload_n K 0 dX12_tones_20 rfl rfl ?_
      refine r_iload_n K 1 dX12_tones_21 rfl rfl ?_
      refine w_callV K hl H (fun r h => c_X12_begins l h) mC_yX12_begins mM_RX12_138 mI_yX12_begins mS_yX12_begins mZ_RX12 vc12 (Nat.le_of_ble_eq_true rfl) (Nat.le_of_ble_eq_true rfl) np_yX12_begins rfl (Nat.le_of_ble_eq_true rfl) dX12_tones_22 (fun r3 H => ?_) ⟨Nat.zero_le _, Nat.zero_le _⟩
      refine r_pop K dX12_tones_25 rfl ?_
      refine r_aload_n K 0 dX12_tones_26 rfl rfl ?_
      refine r_iconst (v := 1) K dX12_tones_27 (by decide) ?_
      refine w_callV K hl H (fun r h => c_X12_reads l h) mC_yX12_reads mM_RX12_141 mI_yX12_reads mS_yX12_reads mZ_RX12 vc12 (Nat.le_of_ble_eq_true rfl) (Nat.le_of_ble_eq_true rfl) np_yX12_reads rfl (Nat.le_of_ble_eq_true rfl) dX12_tones_28 (fun r4 H => ?_) ⟨Nat.zero_le _, Nat.zero_le _⟩
      refine r_istore_n K [(2, .int _), (0, .ref _), (1, .int _)] dX12_tones_31 rfl (by decide) rfl ?_
      refine r_iload_n K 0 dX12_tones_32 rfl rfl ?_
      refine w_if_ge K 38 dX12_tones_33 (by decide) H (fun _ H => ?_) (fun _ H => ?_)
      · refine r_aload_n K 1 dX12_tones_38 rfl rfl ?_
        refine r_aload_n K 1 dX12_tones_39 rfl rfl ?_
        refine w_getI K vc12 inX12 8 (by decide) mF_RX12_121 dX12_tones_40 H (fun x5 H => ?_)
        refine w_put K vc12 inX12 tyX12_ok nmX12 10 (by decide) mF_RX12_145 rfl (fun _ => rfl) (fun _ => rfl) dX12_tones_43 H (fun μ6 H => ?_)
        refine r_iconst (v := 0) K dX12_tones_46 (by decide) ?_
        refine r_istore_n K [(3, .int _), (2, .int _), (0, .ref _), (1, .int _)] dX12_tones_47 rfl (by decide) rfl ?_
        exact r_sub [2, 0] rfl (l_X12_tones_48 K hl H D)
      · refine r_iload_n K 0 dX12_tones_36 rfl rfl ?_
        cases H
        obtain ⟨rfl, rfl⟩ := jfin2 D
        exact r_iret K dX12_tones_37
    · exact r_sub [] rfl (t_X12_tones_18 K hl H D)
theorem c_X12_tones (l : Launch) {n : Nat} {Y : jY} {v0 : Nat} {v1 : Int32} {μ : jM} {z : Int32 × jM} (H : f_X12_tones Y v0 v1 μ = some z) : jC l yX12_tones cX12_tones 4 (some .int) 4 0 0 [.ref v0, .int v1] n Y μ n Y (some (.int z.1)) z.2 := by
  refine jC_of (by decide +kernel) (Nat.le_of_ble_eq_true rfl) (fun X hl K _ _ _ => ?_)
  obtain ⟨rr, μr⟩ := z
  exact t_X12_tones_0 K hl H rfl
/-! RX12 moment(I)J -/
def b_X12_moment_17 (Y : jY) (μ : jM) : Option (Int64 × jM) :=
  some ((-9223372036854775808 : Int64), μ)
def f_X12_moment (Y : jY) (v0 : Nat) (v1 : Int32) (μ : jM) : Option (Int64 × jM) :=
  (jgI Y μ v0 12 10).bind fun x1 =>
  if x1 = 0 then
    b_X12_moment_17 Y μ
  else
    (f_X12_in Y v1 ((0 : Int32)) ((7 : Int32)) μ).bind fun r2 =>
    if r2.1 = 0 then
      b_X12_moment_17 Y r2.2
    else
      (jrcv Y v0 12 (f_X12_laysTones Y v0 r2.2)).bind fun μ3 =>
      (jgO Y μ3 v0 12 15).bind fun x4 =>
      (jaL Y μ3 x4 21 v1).bind fun x5 =>
      some (x5, μ3)
set_option maxRecDepth 10000 in
theorem t_X12_moment_17 {X : jX} {l : Launch} {n : Nat} {Y : jY} (K : jOK X RX12 cX12_moment 2 (some .long) 3) (hl : X.2.1 = l) {rr : Int64} {μr : jM} {μ : jM} {z : (Int64 × jM)} (H : b_X12_moment_17 Y μ = some z) (D : z = (rr, μr)) : JW X (jEnd X n Y (some (.long rr)) μr 0 0) 0 0 n Y 17 [] [] μ := by
  unfold b_X12_moment_17 at H
  refine r_ldc2 K (-9223372036854775808) mc_RX12_156 dX12_moment_17 ?_
  cases H
  obtain ⟨rfl, rfl⟩ := jfin2 D
  exact r_lret K dX12_moment_20
set_option maxRecDepth 10000 in
theorem t_X12_moment_0 {X : jX} {l : Launch} {n : Nat} {Y : jY} (K : jOK X RX12 cX12_moment 2 (some .long) 3) (hl : X.2.1 = l) {rr : Int64} {μr : jM} {v0 : Nat} {v1 : Int32} {μ : jM} {z : (Int64 × jM)} (H : f_X12_moment Y v0 v1 μ = some z) (D : z = (rr, μr)) : JW X (jEnd X n Y (some (.long rr)) μr 0 0) 0 0 n Y 0 [(0, .ref v0), (1, .int v1)] [] μ := by
  unfold f_X12_moment at H
  refine r_aload_n K 0 dX12_moment_0 rfl rfl ?_
  refine w_getI K vc12 inX12 10 (by decide) mF_RX12_145 dX12_moment_1 H (fun x1 H => ?_)
  refine w_if_eq K 17 dX12_moment_4 (by decide) H (fun _ H => ?_) (fun _ H => ?_)
  · exact r_sub [] rfl (t_X12_moment_17 K hl H D)
  · refine r_iload_n K 1 dX12_moment_7 rfl rfl ?_
    refine r_iconst (v := 0) K dX12_moment_8 (by decide) ?_
    refine r_bipush (v := 7) K dX12_moment_9 (by decide) ?_
    refine w_callS K hl H (fun r h => c_X12_in l h) mC_yX12_in mM_RX12_134 mT_yX12_in mZ_RX12 (Nat.le_of_ble_eq_true rfl) (Nat.le_of_ble_eq_true rfl) np_yX12_in rfl (Nat.le_of_ble_eq_true rfl) dX12_moment_11 (fun r2 H => ?_) ⟨Nat.zero_le _, Nat.zero_le _⟩
    refine w_if_ne K 21 dX12_moment_14 (by decide) H (fun _ H => ?_) (fun _ H => ?_)
    · refine r_aload_n K 0 dX12_moment_21 rfl rfl ?_
      refine w_callV K hl H (fun r h => c_X12_laysTones l h) mC_yX12_laysTones mM_RX12_158 mI_yX12_laysTones mS_yX12_laysTones mZ_RX12 vc12 (Nat.le_of_ble_eq_true rfl) (Nat.le_of_ble_eq_true rfl) np_yX12_laysTones rfl (Nat.le_of_ble_eq_true rfl) dX12_moment_22 (fun μ3 H => ?_) ⟨Nat.zero_le _, Nat.zero_le _⟩
      refine r_aload_n K 0 dX12_moment_25 rfl rfl ?_
      refine w_getO K vc12 inX12 15 (by decide) mF_RX12_33 dX12_moment_26 H (fun x4 H => ?_)
      refine r_iload_n K 1 dX12_moment_29 rfl rfl ?_
      refine w_lald K dX12_moment_30 H (fun x5 H => ?_)
      cases H
      obtain ⟨rfl, rfl⟩ := jfin2 D
      exact r_lret K dX12_moment_31
    · exact r_sub [] rfl (t_X12_moment_17 K hl H D)
theorem c_X12_moment (l : Launch) {n : Nat} {Y : jY} {v0 : Nat} {v1 : Int32} {μ : jM} {z : Int64 × jM} (H : f_X12_moment Y v0 v1 μ = some z) : jC l yX12_moment cX12_moment 2 (some .long) 3 0 0 [.ref v0, .int v1] n Y μ n Y (some (.long z.1)) z.2 := by
  refine jC_of (by decide +kernel) (Nat.le_of_ble_eq_true rfl) (fun X hl K _ _ _ => ?_)
  obtain ⟨rr, μr⟩ := z
  exact t_X12_moment_0 K hl H rfl
/-! RX12 number(III)J -/
def b_X12_number_39 (Y : jY) (μ : jM) : Option (Int64 × jM) :=
  some ((-9223372036854775808 : Int64), μ)
def f_X12_number (Y : jY) (v0 : Nat) (v1 : Int32) (v2 : Int32) (v3 : Int32) (μ : jM) : Option (Int64 × jM) :=
  (f_X12_isDrawer Y v1 μ).bind fun r1 =>
  if r1.1 = 0 then
    b_X12_number_39 Y r1.2
  else
    (jgO Y r1.2 v0 12 26).bind fun x2 =>
    (jaI Y r1.2 x2 20 v1).bind fun x3 =>
    if x3 = 0 then
      b_X12_number_39 Y r1.2
    else
      (jgO Y r1.2 v0 12 26).bind fun x4 =>
      (jaI Y r1.2 x4 20 v1).bind fun x5 =>
      (f_X12_in Y v2 ((0 : Int32)) x5 r1.2).bind fun r6 =>
      if r6.1 = 0 then
        b_X12_number_39 Y r6.2
      else
        (f_X12_in Y v3 ((0 : Int32)) v2 r6.2).bind fun r7 =>
        if r7.1 = 0 then
          b_X12_number_39 Y r7.2
        else
          (jrcv Y v0 12 (f_X12_laysPoly Y v0 v1 ((0 : Int32)) r7.2)).bind fun μ8 =>
          (jgO Y μ8 v0 12 35).bind fun x9 =>
          (jaL Y μ8 x9 21 ((((((6 : Int32)) * v2)) + v3))).bind fun x10 =>
          some (x10, μ8)
set_option maxRecDepth 10000 in
theorem t_X12_number_39 {X : jX} {l : Launch} {n : Nat} {Y : jY} (K : jOK X RX12 cX12_number 4 (some .long) 3) (hl : X.2.1 = l) {rr : Int64} {μr : jM} {μ : jM} {z : (Int64 × jM)} (H : b_X12_number_39 Y μ = some z) (D : z = (rr, μr)) : JW X (jEnd X n Y (some (.long rr)) μr 0 0) 0 0 n Y 39 [] [] μ := by
  unfold b_X12_number_39 at H
  refine r_ldc2 K (-9223372036854775808) mc_RX12_156 dX12_number_39 ?_
  cases H
  obtain ⟨rfl, rfl⟩ := jfin2 D
  exact r_lret K dX12_number_42
set_option maxRecDepth 10000 in
theorem t_X12_number_0 {X : jX} {l : Launch} {n : Nat} {Y : jY} (K : jOK X RX12 cX12_number 4 (some .long) 3) (hl : X.2.1 = l) {rr : Int64} {μr : jM} {v0 : Nat} {v1 : Int32} {v2 : Int32} {v3 : Int32} {μ : jM} {z : (Int64 × jM)} (H : f_X12_number Y v0 v1 v2 v3 μ = some z) (D : z = (rr, μr)) : JW X (jEnd X n Y (some (.long rr)) μr 0 0) 0 0 n Y 0 [(0, .ref v0), (1, .int v1), (2, .int v2), (3, .int v3)] [] μ := by
  unfold f_X12_number at H
  refine r_iload_n K 1 dX12_number_0 rfl rfl ?_
  refine w_callS K hl H (fun r h => c_X12_isDrawer l h) mC_yX12_isDrawer mM_RX12_253 mT_yX12_isDrawer mZ_RX12 (Nat.le_of_ble_eq_true rfl) (Nat.le_of_ble_eq_true rfl) np_yX12_isDrawer rfl (Nat.le_of_ble_eq_true rfl) dX12_number_1 (fun r1 H => ?_) ⟨Nat.zero_le _, Nat.zero_le _⟩
  refine w_if_eq K 39 dX12_number_4 (by decide) H (fun _ H => ?_) (fun _ H => ?_)
  · exact r_sub [] rfl (t_X12_number_39 K hl H D)
  · refine r_aload_n K 0 dX12_number_7 rfl rfl ?_
    refine w_getO K vc12 inX12 26 (by decide) mF_RX12_48 dX12_number_8 H (fun x2 H => ?_)
    refine r_iload_n K 1 dX12_number_11 rfl rfl ?_
    refine w_iald K dX12_number_12 H (fun x3 H => ?_)
    refine w_if_eq K 39 dX12_number_13 (by decide) H (fun _ H => ?_) (fun _ H => ?_)
    · exact r_sub [] rfl (t_X12_number_39 K hl H D)
    · refine r_iload_n K 2 dX12_number_16 rfl rfl ?_
      refine r_iconst (v := 0) K dX12_number_17 (by decide) ?_
      refine r_aload_n K 0 dX12_number_18 rfl rfl ?_
      refine w_getO K vc12 inX12 26 (by decide) mF_RX12_48 dX12_number_19 H (fun x4 H => ?_)
      refine r_iload_n K 1 dX12_number_22 rfl rfl ?_
      refine w_iald K dX12_number_23 H (fun x5 H => ?_)
      refine w_callS K hl H (fun r h => c_X12_in l h) mC_yX12_in mM_RX12_134 mT_yX12_in mZ_RX12 (Nat.le_of_ble_eq_true rfl) (Nat.le_of_ble_eq_true rfl) np_yX12_in rfl (Nat.le_of_ble_eq_true rfl) dX12_number_24 (fun r6 H => ?_) ⟨Nat.zero_le _, Nat.zero_le _⟩
      refine w_if_eq K 39 dX12_number_27 (by decide) H (fun _ H => ?_) (fun _ H => ?_)
      · exact r_sub [] rfl (t_X12_number_39 K hl H D)
      · refine r_iload_n K 3 dX12_number_30 rfl rfl ?_
        refine r_iconst (v := 0) K dX12_number_31 (by decide) ?_
        refine r_iload_n K 2 dX12_number_32 rfl rfl ?_
        refine w_callS K hl H (fun r h => c_X12_in l h) mC_yX12_in mM_RX12_134 mT_yX12_in mZ_RX12 (Nat.le_of_ble_eq_true rfl) (Nat.le_of_ble_eq_true rfl) np_yX12_in rfl (Nat.le_of_ble_eq_true rfl) dX12_number_33 (fun r7 H => ?_) ⟨Nat.zero_le _, Nat.zero_le _⟩
        refine w_if_ne K 43 dX12_number_36 (by decide) H (fun _ H => ?_) (fun _ H => ?_)
        · refine r_aload_n K 0 dX12_number_43 rfl rfl ?_
          refine r_iload_n K 1 dX12_number_44 rfl rfl ?_
          refine r_iconst (v := 0) K dX12_number_45 (by decide) ?_
          refine w_callV K hl H (fun r h => c_X12_laysPoly l h) mC_yX12_laysPoly mM_RX12_275 mI_yX12_laysPoly mS_yX12_laysPoly mZ_RX12 vc12 (Nat.le_of_ble_eq_true rfl) (Nat.le_of_ble_eq_true rfl) np_yX12_laysPoly rfl (Nat.le_of_ble_eq_true rfl) dX12_number_46 (fun μ8 H => ?_) ⟨Nat.zero_le _, Nat.zero_le _⟩
          refine r_aload_n K 0 dX12_number_49 rfl rfl ?_
          refine w_getO K vc12 inX12 35 (by decide) mF_RX12_75 dX12_number_50 H (fun x9 H => ?_)
          refine r_bipush (v := 6) K dX12_number_53 (by decide) ?_
          refine r_iload_n K 2 dX12_number_55 rfl rfl ?_
          refine r_imul K dX12_number_56 ?_
          refine r_iload_n K 3 dX12_number_57 rfl rfl ?_
          refine r_iadd K dX12_number_58 ?_
          refine w_lald K dX12_number_59 H (fun x10 H => ?_)
          cases H
          obtain ⟨rfl, rfl⟩ := jfin2 D
          exact r_lret K dX12_number_60
        · exact r_sub [] rfl (t_X12_number_39 K hl H D)
theorem c_X12_number (l : Launch) {n : Nat} {Y : jY} {v0 : Nat} {v1 : Int32} {v2 : Int32} {v3 : Int32} {μ : jM} {z : Int64 × jM} (H : f_X12_number Y v0 v1 v2 v3 μ = some z) : jC l yX12_number cX12_number 4 (some .long) 3 0 0 [.ref v0, .int v1, .int v2, .int v3] n Y μ n Y (some (.long z.1)) z.2 := by
  refine jC_of (by decide +kernel) (Nat.le_of_ble_eq_true rfl) (fun X hl K _ _ _ => ?_)
  obtain ⟨rr, μr⟩ := z
  exact t_X12_number_0 K hl H rfl
/-! RX12 some(II)I -/
def b_X12_some_16 (Y : jY) (μ : jM) : Option (Int32 × jM) :=
  some ((-1 : Int32), μ)
def b_X12_some_57 (Y : jY) (v0 : Nat) (v1 : Int32) (v2 : Int32) (t0 : Int32) (t1 : Int32) (μ : jM) : Option ((Int32 × jM) ⊕ (Int32 × jM)) :=
  some (.inl ((t0 + t1), μ))
def b_X12_some_35 (Y : jY) (v0 : Nat) (v1 : Int32) (v2 : Int32) (v3 : Int32) (μ : jM) : Option ((Int32 × jM) ⊕ (Int32 × jM)) :=
  (jrcv Y v0 12 (f_X12_goesOn Y v0 μ)).bind fun r1 =>
  if r1.1 = 0 then
    some (.inr (v3, r1.2))
  else
    (jrcv Y v0 12 (f_X12_isSome Y v0 v1 v2 r1.2)).bind fun r2 =>
    if r2.1 = 0 then
      b_X12_some_57 Y v0 v1 v2 v3 (0 : Int32) r2.2
    else
      b_X12_some_57 Y v0 v1 v2 v3 (1 : Int32) r2.2
def f_X12_some (Y : jY) (v0 : Nat) (v1 : Int32) (v2 : Int32) (μ : jM) : Option (Int32 × jM) :=
  (jgI Y μ v0 12 10).bind fun x1 =>
  if x1 = 0 then
    b_X12_some_16 Y μ
  else
    (f_X12_in Y v1 ((0 : Int32)) ((3 : Int32)) μ).bind fun r2 =>
    if r2.1 = 0 then
      b_X12_some_16 Y r2.2
    else
      (jgI Y r2.2 v0 12 10).bind fun x3 =>
      if x3 ≤ ((3 : Int32)) then
        (jrcv Y v0 12 (f_X12_begin0 Y v0 r2.2)).bind fun μ4 =>
        jit jF (fun (s : Int32 × jM) => b_X12_some_35 Y v0 v1 v2 s.1 s.2) ((0 : Int32), μ4)
      else
        some ((-2 : Int32), r2.2)
set_option maxRecDepth 10000 in
theorem t_X12_some_16 {X : jX} {l : Launch} {n : Nat} {Y : jY} (K : jOK X RX12 cX12_some 4 (some .int) 4) (hl : X.2.1 = l) {rr : Int32} {μr : jM} {μ : jM} {z : (Int32 × jM)} (H : b_X12_some_16 Y μ = some z) (D : z = (rr, μr)) : JW X (jEnd X n Y (some (.int rr)) μr 0 0) 0 0 n Y 16 [] [] μ := by
  unfold b_X12_some_16 at H
  refine r_iconst (v := -1) K dX12_some_16 (by decide) ?_
  cases H
  obtain ⟨rfl, rfl⟩ := jfin2 D
  exact r_iret K dX12_some_17
set_option maxRecDepth 10000 in
theorem t_X12_some_57 {X : jX} {l : Launch} {n : Nat} {Y : jY} (K : jOK X RX12 cX12_some 4 (some .int) 4) (hl : X.2.1 = l) {rr : Int32} {μr : jM} {v0 : Nat} {v1 : Int32} {v2 : Int32} {t0 : Int32} {t1 : Int32} {μ : jM} {z : ((Int32 × jM) ⊕ (Int32 × jM))} (H : b_X12_some_57 Y v0 v1 v2 t0 t1 μ = some z) (D : Sum.elim (fun (s : Int32 × jM) => JW X (jEnd X n Y (some (.int rr)) μr 0 0) 0 0 n Y 35 [(0, .ref v0), (1, .int v1), (2, .int v2), (3, .int s.1)] [] s.2) (fun r => r = (rr, μr)) z) : JW X (jEnd X n Y (some (.int rr)) μr 0 0) 0 0 n Y 57 [(0, .ref v0), (1, .int v1), (2, .int v2)] [.int t1, .int t0] μ := by
  unfold b_X12_some_57 at H
  refine r_iadd K dX12_some_57 ?_
  refine r_istore_n K [(3, .int _), (0, .ref _), (1, .int _), (2, .int _)] dX12_some_58 rfl (by decide) rfl ?_
  refine r_goto K 35 dX12_some_59 (by decide) ?_
  cases H
  exact r_sub [1, 2, 3, 0] rfl D
set_option maxRecDepth 10000 in
theorem t_X12_some_35 {X : jX} {l : Launch} {n : Nat} {Y : jY} (K : jOK X RX12 cX12_some 4 (some .int) 4) (hl : X.2.1 = l) {rr : Int32} {μr : jM} {v0 : Nat} {v1 : Int32} {v2 : Int32} {v3 : Int32} {μ : jM} {z : ((Int32 × jM) ⊕ (Int32 × jM))} (H : b_X12_some_35 Y v0 v1 v2 v3 μ = some z) (D : Sum.elim (fun (s : Int32 × jM) => JW X (jEnd X n Y (some (.int rr)) μr 0 0) 0 0 n Y 35 [(0, .ref v0), (1, .int v1), (2, .int v2), (3, .int s.1)] [] s.2) (fun r => r = (rr, μr)) z) : JW X (jEnd X n Y (some (.int rr)) μr 0 0) 0 0 n Y 35 [(0, .ref v0), (1, .int v1), (2, .int v2), (3, .int v3)] [] μ := by
  unfold b_X12_some_35 at H
  refine r_aload_n K 0 dX12_some_35 rfl rfl ?_
  refine w_callV K hl H (fun r h => c_X12_goesOn l h) mC_yX12_goesOn mM_RX12_350 mI_yX12_goesOn mS_yX12_goesOn mZ_RX12 vc12 (Nat.le_of_ble_eq_true rfl) (Nat.le_of_ble_eq_true rfl) np_yX12_goesOn rfl (Nat.le_of_ble_eq_true rfl) dX12_some_36 (fun r1 H => ?_) ⟨Nat.zero_le _, Nat.zero_le _⟩
  refine w_if_eq K 62 dX12_some_39 (by decide) H (fun _ H => ?_) (fun _ H => ?_)
  · refine r_iload_n K 3 dX12_some_62 rfl rfl ?_
    cases H
    simp only [Sum.elim_inr] at D
    obtain ⟨rfl, rfl⟩ := jfin2 D
    exact r_iret K dX12_some_63
  · refine r_iload_n K 3 dX12_some_42 rfl rfl ?_
    refine r_aload_n K 0 dX12_some_43 rfl rfl ?_
    refine r_iload_n K 1 dX12_some_44 rfl rfl ?_
    refine r_iload_n K 2 dX12_some_45 rfl rfl ?_
    refine w_callV K hl H (fun r h => c_X12_isSome l h) mC_yX12_isSome mM_RX12_356 mI_yX12_isSome mS_yX12_isSome mZ_RX12 vc12 (Nat.le_of_ble_eq_true rfl) (Nat.le_of_ble_eq_true rfl) np_yX12_isSome rfl (Nat.le_of_ble_eq_true rfl) dX12_some_46 (fun r2 H => ?_) ⟨Nat.zero_le _, Nat.zero_le _⟩
    refine w_if_eq K 56 dX12_some_49 (by decide) H (fun _ H => ?_) (fun _ H => ?_)
    · refine r_iconst (v := 0) K dX12_some_56 (by decide) ?_
      exact r_sub [0, 1, 2] rfl (t_X12_some_57 K hl H D)
    · refine r_iconst (v := 1) K dX12_some_52 (by decide) ?_
      refine r_goto K 57 dX12_some_53 (by decide) ?_
      exact r_sub [0, 1, 2] rfl (t_X12_some_57 K hl H D)
set_option maxRecDepth 10000 in
theorem l_X12_some_35 {X : jX} {l : Launch} {n : Nat} {Y : jY} (K : jOK X RX12 cX12_some 4 (some .int) 4) (hl : X.2.1 = l) {rr : Int32} {μr : jM} {v0 : Nat} {v1 : Int32} {v2 : Int32}  {s0 : Int32 × jM} {z : (Int32 × jM)} (H : jit jF (fun (s : Int32 × jM) => b_X12_some_35 Y v0 v1 v2 s.1 s.2) s0 = some z) (D : z = (rr, μr)) : JW X (jEnd X n Y (some (.int rr)) μr 0 0) 0 0 n Y 35 [(0, .ref v0), (1, .int v1), (2, .int v2), (3, .int s0.1)] [] s0.2 :=
  jit_ind (P := fun (s : Int32 × jM) => JW X (jEnd X n Y (some (.int rr)) μr 0 0) 0 0 n Y 35 [(0, .ref v0), (1, .int v1), (2, .int v2), (3, .int s.1)] [] s.2) (D := fun r => r = (rr, μr)) (fun s z Hs Ds => t_X12_some_35 K hl Hs Ds) jF s0 z H D
set_option maxRecDepth 10000 in
theorem t_X12_some_0 {X : jX} {l : Launch} {n : Nat} {Y : jY} (K : jOK X RX12 cX12_some 4 (some .int) 4) (hl : X.2.1 = l) {rr : Int32} {μr : jM} {v0 : Nat} {v1 : Int32} {v2 : Int32} {μ : jM} {z : (Int32 × jM)} (H : f_X12_some Y v0 v1 v2 μ = some z) (D : z = (rr, μr)) : JW X (jEnd X n Y (some (.int rr)) μr 0 0) 0 0 n Y 0 [(0, .ref v0), (1, .int v1), (2, .int v2)] [] μ := by
  unfold f_X12_some at H
  refine r_aload_n K 0 dX12_some_0 rfl rfl ?_
  refine w_getI K vc12 inX12 10 (by decide) mF_RX12_145 dX12_some_1 H (fun x1 H => ?_)
  refine w_if_eq K 16 dX12_some_4 (by decide) H (fun _ H => ?_) (fun _ H => ?_)
  · exact r_sub [] rfl (t_X12_some_16 K hl H D)
  · refine r_iload_n K 1 dX12_some_7 rfl rfl ?_
    refine r_iconst (v := 0) K dX12_some_8 (by decide) ?_
    refine r_iconst (v := 3) K dX12_some_9 (by decide) ?_
    refine w_callS K hl H (fun r h => c_X12_in l h) mC_yX12_in mM_RX12_134 mT_yX12_in mZ_RX12 (Nat.le_of_ble_eq_true rfl) (Nat.le_of_ble_eq_true rfl) np_yX12_in rfl (Nat.le_of_ble_eq_true rfl) dX12_some_10 (fun r2 H => ?_) ⟨Nat.zero_le _, Nat.zero_le _⟩
    refine w_if_ne K 18 dX12_some_13 (by decide) H (fun _ H => ?_) (fun _ H => ?_)
    · refine r_aload_n K 0 dX12_some_18 rfl rfl ?_
      refine w_getI K vc12 inX12 10 (by decide) mF_RX12_145 dX12_some_19 H (fun x3 H => ?_)
      refine r_iconst (v := 3) K dX12_some_22 (by decide) ?_
      refine w_icmp_le K 29 dX12_some_23 (by decide) H (fun _ H => ?_) (fun _ H => ?_)
      · refine r_iconst (v := 0) K dX12_some_29 (by decide) ?_
        refine r_istore_n K [(3, .int _), (0, .ref _), (1, .int _), (2, .int _)] dX12_some_30 rfl (by decide) rfl ?_
        refine r_aload_n K 1 dX12_some_31 rfl rfl ?_
        refine w_callV K hl H (fun r h => c_X12_begin0 l h) mC_yX12_begin0 mM_RX12_347 mI_yX12_begin0 mS_yX12_begin0 mZ_RX12 vc12 (Nat.le_of_ble_eq_true rfl) (Nat.le_of_ble_eq_true rfl) np_yX12_begin0 rfl (Nat.le_of_ble_eq_true rfl) dX12_some_32 (fun μ4 H => ?_) ⟨Nat.zero_le _, Nat.zero_le _⟩
        exact r_sub [1, 2, 3, 0] rfl (l_X12_some_35 K hl H D)
      · refine r_bipush (v := -2) K dX12_some_26 (by decide) ?_
        cases H
        obtain ⟨rfl, rfl⟩ := jfin2 D
        exact r_iret K dX12_some_28
    · exact r_sub [] rfl (t_X12_some_16 K hl H D)
theorem c_X12_some (l : Launch) {n : Nat} {Y : jY} {v0 : Nat} {v1 : Int32} {v2 : Int32} {μ : jM} {z : Int32 × jM} (H : f_X12_some Y v0 v1 v2 μ = some z) : jC l yX12_some cX12_some 4 (some .int) 4 0 0 [.ref v0, .int v1, .int v2] n Y μ n Y (some (.int z.1)) z.2 := by
  refine jC_of (by decide +kernel) (Nat.le_of_ble_eq_true rfl) (fun X hl K _ _ _ => ?_)
  obtain ⟨rr, μr⟩ := z
  exact t_X12_some_0 K hl H rfl
/-! RX12 valueOf(IJ)J -/
def b_X12_valueOf_40 (Y : jY) (v0 : Nat) (v1 : Int32) (v2 : Int64) (v6 : Int32) (t0 : Int64) (t1 : Int64) (μ : jM) : Option ((Int64 × Int32 × jM) ⊕ (Int64 × jM)) :=
  some (.inl ((t0 + t1), (v6 + (-1 : Int32)), μ))
def b_X12_valueOf_6 (Y : jY) (v0 : Nat) (v1 : Int32) (v2 : Int64) (v4 : Int64) (v6 : Int32) (μ : jM) : Option ((Int64 × Int32 × jM) ⊕ (Int64 × jM)) :=
  if v6 < 0 then
    some (.inr (v4, μ))
  else
    (jgI Y μ v0 12 10).bind fun x1 =>
    if v1 = x1 then
      (jgO Y μ v0 12 13).bind fun x3 =>
      (jaL Y μ x3 21 v6).bind fun x4 =>
      b_X12_valueOf_40 Y v0 v1 v2 v6 (v4 * v2) x4 μ
    else
      (jrcv Y v0 12 (f_X12_power Y v0 v1 v6 μ)).bind fun r2 =>
      b_X12_valueOf_40 Y v0 v1 v2 v6 (v4 * v2) r2.1 r2.2
def f_X12_valueOf (Y : jY) (v0 : Nat) (v1 : Int32) (v2 : Int64) (μ : jM) : Option (Int64 × jM) :=
  jit jF (fun (s : Int64 × Int32 × jM) => b_X12_valueOf_6 Y v0 v1 v2 s.1 s.2.1 s.2.2) ((0 : Int64), v1, μ)
set_option maxRecDepth 10000 in
theorem t_X12_valueOf_40 {X : jX} {l : Launch} {n : Nat} {Y : jY} (K : jOK X RX12 cX12_valueOf 7 (some .long) 6) (hl : X.2.1 = l) {rr : Int64} {μr : jM} {v0 : Nat} {v1 : Int32} {v2 : Int64} {v6 : Int32} {t0 : Int64} {t1 : Int64} {μ : jM} {z : ((Int64 × Int32 × jM) ⊕ (Int64 × jM))} (H : b_X12_valueOf_40 Y v0 v1 v2 v6 t0 t1 μ = some z) (D : Sum.elim (fun (s : Int64 × Int32 × jM) => JW X (jEnd X n Y (some (.long rr)) μr 0 0) 0 0 n Y 6 [(0, .ref v0), (1, .int v1), (2, .long v2), (4, .long s.1), (6, .int s.2.1)] [] s.2.2) (fun r => r = (rr, μr)) z) : JW X (jEnd X n Y (some (.long rr)) μr 0 0) 0 0 n Y 40 [(0, .ref v0), (1, .int v1), (2, .long v2), (6, .int v6)] [.long t1, .long t0] μ := by
  unfold b_X12_valueOf_40 at H
  refine r_ladd K dX12_valueOf_40 ?_
  refine r_lstore K [(4, .long _), (0, .ref _), (1, .int _), (2, .long _), (6, .int _)] dX12_valueOf_41 (by decide) rfl ?_
  refine r_iinc K 4 [(6, .int _), (4, .long _), (0, .ref _), (1, .int _), (2, .long _)] (v := _ + (-1 : Int32)) dX12_valueOf_43 rfl rfl (by decide) rfl ?_
  refine r_goto K 6 dX12_valueOf_46 (by decide) ?_
  cases H
  exact r_sub [2, 3, 4, 1, 0] rfl D
set_option maxRecDepth 10000 in
theorem t_X12_valueOf_6 {X : jX} {l : Launch} {n : Nat} {Y : jY} (K : jOK X RX12 cX12_valueOf 7 (some .long) 6) (hl : X.2.1 = l) {rr : Int64} {μr : jM} {v0 : Nat} {v1 : Int32} {v2 : Int64} {v4 : Int64} {v6 : Int32} {μ : jM} {z : ((Int64 × Int32 × jM) ⊕ (Int64 × jM))} (H : b_X12_valueOf_6 Y v0 v1 v2 v4 v6 μ = some z) (D : Sum.elim (fun (s : Int64 × Int32 × jM) => JW X (jEnd X n Y (some (.long rr)) μr 0 0) 0 0 n Y 6 [(0, .ref v0), (1, .int v1), (2, .long v2), (4, .long s.1), (6, .int s.2.1)] [] s.2.2) (fun r => r = (rr, μr)) z) : JW X (jEnd X n Y (some (.long rr)) μr 0 0) 0 0 n Y 6 [(0, .ref v0), (1, .int v1), (2, .long v2), (4, .long v4), (6, .int v6)] [] μ := by
  unfold b_X12_valueOf_6 at H
  refine r_iload K 4 dX12_valueOf_6 rfl ?_
  refine w_if_lt K 49 dX12_valueOf_8 (by decide) H (fun _ H => ?_) (fun _ H => ?_)
  · refine r_lload K 3 dX12_valueOf_49 rfl ?_
    cases H
    simp only [Sum.elim_inr] at D
    obtain ⟨rfl, rfl⟩ := jfin2 D
    exact r_lret K dX12_valueOf_51
  · refine r_lload K 3 dX12_valueOf_11 rfl ?_
    refine r_lload_n K 2 dX12_valueOf_13 rfl rfl ?_
    refine r_lmul K dX12_valueOf_14 ?_
    refine r_iload_n K 1 dX12_valueOf_15 rfl rfl ?_
    refine r_aload_n K 0 dX12_valueOf_16 rfl rfl ?_
    refine w_getI K vc12 inX12 10 (by decide) mF_RX12_145 dX12_valueOf_17 H (fun x1 H => ?_)
    refine w_icmp_ne K 33 dX12_valueOf_20 (by decide) H (fun _ H => ?_) (fun _ H => ?_)
    · refine r_aload_n K 0 dX12_valueOf_33 rfl rfl ?_
      refine r_iload_n K 1 dX12_valueOf_34 rfl rfl ?_
      refine r_iload K 4 dX12_valueOf_35 rfl ?_
      refine w_callV K hl H (fun r h => c_X12_power l h) mC_yX12_power mM_RX12_217 mI_yX12_power mS_yX12_power mZ_RX12 vc12 (Nat.le_of_ble_eq_true rfl) (Nat.le_of_ble_eq_true rfl) np_yX12_power rfl (Nat.le_of_ble_eq_true rfl) dX12_valueOf_37 (fun r2 H => ?_) ⟨Nat.zero_le _, Nat.zero_le _⟩
      exact r_sub [0, 1, 2, 4] rfl (t_X12_valueOf_40 K hl H D)
    · refine r_aload_n K 0 dX12_valueOf_23 rfl rfl ?_
      refine w_getO K vc12 inX12 13 (by decide) mF_RX12_26 dX12_valueOf_24 H (fun x3 H => ?_)
      refine r_iload K 4 dX12_valueOf_27 rfl ?_
      refine w_lald K dX12_valueOf_29 H (fun x4 H => ?_)
      refine r_goto K 40 dX12_valueOf_30 (by decide) ?_
      exact r_sub [0, 1, 2, 4] rfl (t_X12_valueOf_40 K hl H D)
set_option maxRecDepth 10000 in
theorem l_X12_valueOf_6 {X : jX} {l : Launch} {n : Nat} {Y : jY} (K : jOK X RX12 cX12_valueOf 7 (some .long) 6) (hl : X.2.1 = l) {rr : Int64} {μr : jM} {v0 : Nat} {v1 : Int32} {v2 : Int64}  {s0 : Int64 × Int32 × jM} {z : (Int64 × jM)} (H : jit jF (fun (s : Int64 × Int32 × jM) => b_X12_valueOf_6 Y v0 v1 v2 s.1 s.2.1 s.2.2) s0 = some z) (D : z = (rr, μr)) : JW X (jEnd X n Y (some (.long rr)) μr 0 0) 0 0 n Y 6 [(0, .ref v0), (1, .int v1), (2, .long v2), (4, .long s0.1), (6, .int s0.2.1)] [] s0.2.2 :=
  jit_ind (P := fun (s : Int64 × Int32 × jM) => JW X (jEnd X n Y (some (.long rr)) μr 0 0) 0 0 n Y 6 [(0, .ref v0), (1, .int v1), (2, .long v2), (4, .long s.1), (6, .int s.2.1)] [] s.2.2) (D := fun r => r = (rr, μr)) (fun s z Hs Ds => t_X12_valueOf_6 K hl Hs Ds) jF s0 z H D
set_option maxRecDepth 10000 in
theorem t_X12_valueOf_0 {X : jX} {l : Launch} {n : Nat} {Y : jY} (K : jOK X RX12 cX12_valueOf 7 (some .long) 6) (hl : X.2.1 = l) {rr : Int64} {μr : jM} {v0 : Nat} {v1 : Int32} {v2 : Int64} {μ : jM} {z : (Int64 × jM)} (H : f_X12_valueOf Y v0 v1 v2 μ = some z) (D : z = (rr, μr)) : JW X (jEnd X n Y (some (.long rr)) μr 0 0) 0 0 n Y 0 [(0, .ref v0), (1, .int v1), (2, .long v2)] [] μ := by
  unfold f_X12_valueOf at H
  refine r_lconst (v := 0) K dX12_valueOf_0 (by decide) ?_
  refine r_lstore K [(4, .long _), (0, .ref _), (1, .int _), (2, .long _)] dX12_valueOf_1 (by decide) rfl ?_
  refine r_iload_n K 2 dX12_valueOf_3 rfl rfl ?_
  refine r_istore K [(6, .int _), (4, .long _), (0, .ref _), (1, .int _), (2, .long _)] dX12_valueOf_4 (by decide) rfl ?_
  exact r_sub [2, 3, 4, 1, 0] rfl (l_X12_valueOf_6 K hl H D)
theorem c_X12_valueOf (l : Launch) {n : Nat} {Y : jY} {v0 : Nat} {v1 : Int32} {v2 : Int64} {μ : jM} {z : Int64 × jM} (H : f_X12_valueOf Y v0 v1 v2 μ = some z) : jC l yX12_valueOf cX12_valueOf 7 (some .long) 6 0 0 [.ref v0, .int v1, .long v2] n Y μ n Y (some (.long z.1)) z.2 := by
  refine jC_of (by decide +kernel) (Nat.le_of_ble_eq_true rfl) (fun X hl K _ _ _ => ?_)
  obtain ⟨rr, μr⟩ := z
  exact t_X12_valueOf_0 K hl H rfl
/-! RX12 kernel(II)J -/
def b_X12_kernel_27 (Y : jY) (μ : jM) : Option (Int64 × jM) :=
  some ((-9223372036854775808 : Int64), μ)
def b_X12_kernel_82 (Y : jY) (v0 : Nat) (v1 : Int32) (v2 : Int32) (v3 : Int64) (v5 : Int64) (v7 : Int32) (μ : jM) : Option ((Int64 × Int32 × jM) ⊕ (Int64 × jM)) :=
  if v7 ≤ 0 then
    (jgI Y μ v0 12 10).bind fun x1 =>
    (jrcv Y v0 12 (f_X12_valueOf Y v0 ((x1 - ((1 : Int32)))) ((v1.toInt64)) μ)).bind fun r2 =>
    (jgI Y r2.2 v0 12 10).bind fun x3 =>
    (jrcv Y v0 12 (f_X12_valueOf Y v0 x3 ((v1.toInt64)) r2.2)).bind fun r4 =>
    (jgI Y r4.2 v0 12 10).bind fun x5 =>
    (jrcv Y v0 12 (f_X12_hankel Y v0 x5 r4.2)).bind fun r6 =>
    (jrcv Y v0 12 (f_X12_sets Y v0 ((((v3 * r2.1)) - ((v5 * r4.1)))) r6.1 r6.2)).bind fun μ7 =>
    (jrcv Y v0 12 (f_X12_told Y v0 v2 μ7)).bind fun r8 =>
    some (.inr (r8.1, r8.2))
  else
    (jgI Y μ v0 12 10).bind fun x9 =>
    (jrcv Y v0 12 (f_X12_power Y v0 ((x9 - ((1 : Int32)))) v7 μ)).bind fun r10 =>
    some (.inl ((((v5 * ((v1.toInt64)))) + ((((v7.toInt64)) * r10.1))), (v7 + (-1 : Int32)), r10.2))
def b_X12_kernel_46 (Y : jY) (v0 : Nat) (v1 : Int32) (v2 : Int32) (v3 : Int64) (v5 : Int64) (v7 : Int32) (μ : jM) : Option ((Int64 × Int32 × jM) ⊕ (Int64 × jM)) :=
  if v7 ≤ 0 then
    (jgI Y μ v0 12 10).bind fun x1 =>
    (jit jF (fun (s : Int64 × Int32 × jM) => b_X12_kernel_82 Y v0 v1 v2 v3 s.1 s.2.1 s.2.2) (v5, (x1 - ((1 : Int32))), μ)).map (fun r => (.inr r))
  else
    (jgO Y μ v0 12 13).bind fun x2 =>
    (jaL Y μ x2 21 v7).bind fun x3 =>
    some (.inl ((((v3 * ((v1.toInt64)))) + ((((v7.toInt64)) * x3))), (v7 + (-1 : Int32)), μ))
def f_X12_kernel (Y : jY) (v0 : Nat) (v1 : Int32) (v2 : Int32) (μ : jM) : Option (Int64 × jM) :=
  (jgI Y μ v0 12 10).bind fun x1 =>
  if x1 = 0 then
    b_X12_kernel_27 Y μ
  else
    (f_X12_in Y v1 ((-8 : Int32)) ((8 : Int32)) μ).bind fun r2 =>
    if r2.1 = 0 then
      b_X12_kernel_27 Y r2.2
    else
      (f_X12_in Y v2 ((0 : Int32)) ((1 : Int32)) r2.2).bind fun r3 =>
      if r3.1 = 0 then
        b_X12_kernel_27 Y r3.2
      else
        (jrcv Y v0 12 (f_X12_laysTones Y v0 r3.2)).bind fun μ4 =>
        (jgI Y μ4 v0 12 10).bind fun x5 =>
        jit jF (fun (s : Int64 × Int32 × jM) => b_X12_kernel_46 Y v0 v1 v2 s.1 (0 : Int64) s.2.1 s.2.2) ((0 : Int64), x5, μ4)
set_option maxRecDepth 10000 in
theorem t_X12_kernel_27 {X : jX} {l : Launch} {n : Nat} {Y : jY} (K : jOK X RX12 cX12_kernel 8 (some .long) 7) (hl : X.2.1 = l) {rr : Int64} {μr : jM} {μ : jM} {z : (Int64 × jM)} (H : b_X12_kernel_27 Y μ = some z) (D : z = (rr, μr)) : JW X (jEnd X n Y (some (.long rr)) μr 0 0) 0 0 n Y 27 [] [] μ := by
  unfold b_X12_kernel_27 at H
  refine r_ldc2 K (-9223372036854775808) mc_RX12_156 dX12_kernel_27 ?_
  cases H
  obtain ⟨rfl, rfl⟩ := jfin2 D
  exact r_lret K dX12_kernel_30
set_option maxRecDepth 10000 in
theorem t_X12_kernel_82 {X : jX} {l : Launch} {n : Nat} {Y : jY} (K : jOK X RX12 cX12_kernel 8 (some .long) 7) (hl : X.2.1 = l) {rr : Int64} {μr : jM} {v0 : Nat} {v1 : Int32} {v2 : Int32} {v3 : Int64} {v5 : Int64} {v7 : Int32} {μ : jM} {z : ((Int64 × Int32 × jM) ⊕ (Int64 × jM))} (H : b_X12_kernel_82 Y v0 v1 v2 v3 v5 v7 μ = some z) (D : Sum.elim (fun (s : Int64 × Int32 × jM) => JW X (jEnd X n Y (some (.long rr)) μr 0 0) 0 0 n Y 82 [(0, .ref v0), (1, .int v1), (2, .int v2), (3, .long v3), (5, .long s.1), (7, .int s.2.1)] [] s.2.2) (fun r => r = (rr, μr)) z) : JW X (jEnd X n Y (some (.long rr)) μr 0 0) 0 0 n Y 82 [(0, .ref v0), (1, .int v1), (2, .int v2), (3, .long v3), (5, .long v5), (7, .int v7)] [] μ := by
  unfold b_X12_kernel_82 at H
  refine r_iload K 5 dX12_kernel_82 rfl ?_
  refine w_if_le K 117 dX12_kernel_84 (by decide) H (fun _ H => ?_) (fun _ H => ?_)
  · refine r_aload_n K 0 dX12_kernel_117 rfl rfl ?_
    refine r_lload_n K 3 dX12_kernel_118 rfl rfl ?_
    refine r_aload_n K 0 dX12_kernel_119 rfl rfl ?_
    refine r_aload_n K 0 dX12_kernel_120 rfl rfl ?_
    refine w_getI K vc12 inX12 10 (by decide) mF_RX12_145 dX12_kernel_121 H (fun x1 H => ?_)
    refine r_iconst (v := 1) K dX12_kernel_124 (by decide) ?_
    refine r_isub K dX12_kernel_125 ?_
    refine r_iload_n K 1 dX12_kernel_126 rfl rfl ?_
    refine r_i2l K dX12_kernel_127 ?_
    refine w_callV K hl H (fun r h => c_X12_valueOf l h) mC_yX12_valueOf mM_RX12_221 mI_yX12_valueOf mS_yX12_valueOf mZ_RX12 vc12 (Nat.le_of_ble_eq_true rfl) (Nat.le_of_ble_eq_true rfl) np_yX12_valueOf rfl (Nat.le_of_ble_eq_true rfl) dX12_kernel_128 (fun r2 H => ?_) ⟨Nat.zero_le _, Nat.zero_le _⟩
    refine r_lmul K dX12_kernel_131 ?_
    refine r_lload K 4 dX12_kernel_132 rfl ?_
    refine r_aload_n K 0 dX12_kernel_134 rfl rfl ?_
    refine r_aload_n K 0 dX12_kernel_135 rfl rfl ?_
    refine w_getI K vc12 inX12 10 (by decide) mF_RX12_145 dX12_kernel_136 H (fun x3 H => ?_)
    refine r_iload_n K 1 dX12_kernel_139 rfl rfl ?_
    refine r_i2l K dX12_kernel_140 ?_
    refine w_callV K hl H (fun r h => c_X12_valueOf l h) mC_yX12_valueOf mM_RX12_221 mI_yX12_valueOf mS_yX12_valueOf mZ_RX12 vc12 (Nat.le_of_ble_eq_true rfl) (Nat.le_of_ble_eq_true rfl) np_yX12_valueOf rfl (Nat.le_of_ble_eq_true rfl) dX12_kernel_141 (fun r4 H => ?_) ⟨Nat.zero_le _, Nat.zero_le _⟩
    refine r_lmul K dX12_kernel_144 ?_
    refine r_lsub K dX12_kernel_145 ?_
    refine r_aload_n K 0 dX12_kernel_146 rfl rfl ?_
    refine r_aload_n K 0 dX12_kernel_147 rfl rfl ?_
    refine w_getI K vc12 inX12 10 (by decide) mF_RX12_145 dX12_kernel_148 H (fun x5 H => ?_)
    refine w_callV K hl H (fun r h => c_X12_hankel l h) mC_yX12_hankel mM_RX12_199 mI_yX12_hankel mS_yX12_hankel mZ_RX12 vc12 (Nat.le_of_ble_eq_true rfl) (Nat.le_of_ble_eq_true rfl) np_yX12_hankel rfl (Nat.le_of_ble_eq_true rfl) dX12_kernel_151 (fun r6 H => ?_) ⟨Nat.zero_le _, Nat.zero_le _⟩
    refine w_callV K hl H (fun r h => c_X12_sets l h) mC_yX12_sets mM_RX12_191 mI_yX12_sets mS_yX12_sets mZ_RX12 vc12 (Nat.le_of_ble_eq_true rfl) (Nat.le_of_ble_eq_true rfl) np_yX12_sets rfl (Nat.le_of_ble_eq_true rfl) dX12_kernel_154 (fun μ7 H => ?_) ⟨Nat.zero_le _, Nat.zero_le _⟩
    refine r_aload_n K 0 dX12_kernel_157 rfl rfl ?_
    refine r_iload_n K 2 dX12_kernel_158 rfl rfl ?_
    refine w_callV K hl H (fun r h => c_X12_told l h) mC_yX12_told mM_RX12_195 mI_yX12_told mS_yX12_told mZ_RX12 vc12 (Nat.le_of_ble_eq_true rfl) (Nat.le_of_ble_eq_true rfl) np_yX12_told rfl (Nat.le_of_ble_eq_true rfl) dX12_kernel_159 (fun r8 H => ?_) ⟨Nat.zero_le _, Nat.zero_le _⟩
    cases H
    simp only [Sum.elim_inr] at D
    obtain ⟨rfl, rfl⟩ := jfin2 D
    exact r_lret K dX12_kernel_162
  · refine r_lload K 4 dX12_kernel_87 rfl ?_
    refine r_iload_n K 1 dX12_kernel_89 rfl rfl ?_
    refine r_i2l K dX12_kernel_90 ?_
    refine r_lmul K dX12_kernel_91 ?_
    refine r_iload K 5 dX12_kernel_92 rfl ?_
    refine r_i2l K dX12_kernel_94 ?_
    refine r_aload_n K 0 dX12_kernel_95 rfl rfl ?_
    refine r_aload_n K 0 dX12_kernel_96 rfl rfl ?_
    refine w_getI K vc12 inX12 10 (by decide) mF_RX12_145 dX12_kernel_97 H (fun x9 H => ?_)
    refine r_iconst (v := 1) K dX12_kernel_100 (by decide) ?_
    refine r_isub K dX12_kernel_101 ?_
    refine r_iload K 5 dX12_kernel_102 rfl ?_
    refine w_callV K hl H (fun r h => c_X12_power l h) mC_yX12_power mM_RX12_217 mI_yX12_power mS_yX12_power mZ_RX12 vc12 (Nat.le_of_ble_eq_true rfl) (Nat.le_of_ble_eq_true rfl) np_yX12_power rfl (Nat.le_of_ble_eq_true rfl) dX12_kernel_104 (fun r10 H => ?_) ⟨Nat.zero_le _, Nat.zero_le _⟩
    refine r_lmul K dX12_kernel_107 ?_
    refine r_ladd K dX12_kernel_108 ?_
    refine r_lstore K [(5, .long _), (0, .ref _), (1, .int _), (2, .int _), (3, .long _), (7, .int _)] dX12_kernel_109 (by decide) rfl ?_
    refine r_iinc K 5 [(7, .int _), (5, .long _), (0, .ref _), (1, .int _), (2, .int _), (3, .long _)] (v := _ + (-1 : Int32)) dX12_kernel_111 rfl rfl (by decide) rfl ?_
    refine r_goto K 82 dX12_kernel_114 (by decide) ?_
    cases H
    exact r_sub [2, 3, 4, 5, 1, 0] rfl D
set_option maxRecDepth 10000 in
theorem l_X12_kernel_82 {X : jX} {l : Launch} {n : Nat} {Y : jY} (K : jOK X RX12 cX12_kernel 8 (some .long) 7) (hl : X.2.1 = l) {rr : Int64} {μr : jM} {v0 : Nat} {v1 : Int32} {v2 : Int32} {v3 : Int64}  {s0 : Int64 × Int32 × jM} {z : (Int64 × jM)} (H : jit jF (fun (s : Int64 × Int32 × jM) => b_X12_kernel_82 Y v0 v1 v2 v3 s.1 s.2.1 s.2.2) s0 = some z) (D : z = (rr, μr)) : JW X (jEnd X n Y (some (.long rr)) μr 0 0) 0 0 n Y 82 [(0, .ref v0), (1, .int v1), (2, .int v2), (3, .long v3), (5, .long s0.1), (7, .int s0.2.1)] [] s0.2.2 :=
  jit_ind (P := fun (s : Int64 × Int32 × jM) => JW X (jEnd X n Y (some (.long rr)) μr 0 0) 0 0 n Y 82 [(0, .ref v0), (1, .int v1), (2, .int v2), (3, .long v3), (5, .long s.1), (7, .int s.2.1)] [] s.2.2) (D := fun r => r = (rr, μr)) (fun s z Hs Ds => t_X12_kernel_82 K hl Hs Ds) jF s0 z H D
set_option maxRecDepth 10000 in
theorem t_X12_kernel_46 {X : jX} {l : Launch} {n : Nat} {Y : jY} (K : jOK X RX12 cX12_kernel 8 (some .long) 7) (hl : X.2.1 = l) {rr : Int64} {μr : jM} {v0 : Nat} {v1 : Int32} {v2 : Int32} {v3 : Int64} {v5 : Int64} {v7 : Int32} {μ : jM} {z : ((Int64 × Int32 × jM) ⊕ (Int64 × jM))} (H : b_X12_kernel_46 Y v0 v1 v2 v3 v5 v7 μ = some z) (D : Sum.elim (fun (s : Int64 × Int32 × jM) => JW X (jEnd X n Y (some (.long rr)) μr 0 0) 0 0 n Y 46 [(0, .ref v0), (1, .int v1), (2, .int v2), (3, .long s.1), (5, .long v5), (7, .int s.2.1)] [] s.2.2) (fun r => r = (rr, μr)) z) : JW X (jEnd X n Y (some (.long rr)) μr 0 0) 0 0 n Y 46 [(0, .ref v0), (1, .int v1), (2, .int v2), (3, .long v3), (5, .long v5), (7, .int v7)] [] μ := by
  unfold b_X12_kernel_46 at H
  refine r_iload K 5 dX12_kernel_46 rfl ?_
  refine w_if_le K 74 dX12_kernel_48 (by decide) H (fun _ H => ?_) (fun _ H => ?_)
  · refine r_aload_n K 0 dX12_kernel_74 rfl rfl ?_
    refine w_getI K vc12 inX12 10 (by decide) mF_RX12_145 dX12_kernel_75 H (fun x1 H => ?_)
    refine r_iconst (v := 1) K dX12_kernel_78 (by decide) ?_
    refine r_isub K dX12_kernel_79 ?_
    refine r_istore K [(7, .int _), (0, .ref _), (1, .int _), (2, .int _), (3, .long _), (5, .long _)] dX12_kernel_80 (by decide) rfl ?_
    obtain ⟨z2, H2, rfl⟩ := jmap H
    exact r_sub [1, 2, 3, 4, 5, 0] rfl (l_X12_kernel_82 K hl H2 D)
  · refine r_lload_n K 3 dX12_kernel_51 rfl rfl ?_
    refine r_iload_n K 1 dX12_kernel_52 rfl rfl ?_
    refine r_i2l K dX12_kernel_53 ?_
    refine r_lmul K dX12_kernel_54 ?_
    refine r_iload K 5 dX12_kernel_55 rfl ?_
    refine r_i2l K dX12_kernel_57 ?_
    refine r_aload_n K 0 dX12_kernel_58 rfl rfl ?_
    refine w_getO K vc12 inX12 13 (by decide) mF_RX12_26 dX12_kernel_59 H (fun x2 H => ?_)
    refine r_iload K 5 dX12_kernel_62 rfl ?_
    refine w_lald K dX12_kernel_64 H (fun x3 H => ?_)
    refine r_lmul K dX12_kernel_65 ?_
    refine r_ladd K dX12_kernel_66 ?_
    refine r_lstore_n K [(3, .long _), (0, .ref _), (1, .int _), (2, .int _), (5, .long _), (7, .int _)] dX12_kernel_67 rfl (by decide) rfl ?_
    refine r_iinc K 5 [(7, .int _), (3, .long _), (0, .ref _), (1, .int _), (2, .int _), (5, .long _)] (v := _ + (-1 : Int32)) dX12_kernel_68 rfl rfl (by decide) rfl ?_
    refine r_goto K 46 dX12_kernel_71 (by decide) ?_
    cases H
    exact r_sub [2, 3, 4, 1, 5, 0] rfl D
set_option maxRecDepth 10000 in
theorem l_X12_kernel_46 {X : jX} {l : Launch} {n : Nat} {Y : jY} (K : jOK X RX12 cX12_kernel 8 (some .long) 7) (hl : X.2.1 = l) {rr : Int64} {μr : jM} {v0 : Nat} {v1 : Int32} {v2 : Int32} {v5 : Int64}  {s0 : Int64 × Int32 × jM} {z : (Int64 × jM)} (H : jit jF (fun (s : Int64 × Int32 × jM) => b_X12_kernel_46 Y v0 v1 v2 s.1 v5 s.2.1 s.2.2) s0 = some z) (D : z = (rr, μr)) : JW X (jEnd X n Y (some (.long rr)) μr 0 0) 0 0 n Y 46 [(0, .ref v0), (1, .int v1), (2, .int v2), (3, .long s0.1), (5, .long v5), (7, .int s0.2.1)] [] s0.2.2 :=
  jit_ind (P := fun (s : Int64 × Int32 × jM) => JW X (jEnd X n Y (some (.long rr)) μr 0 0) 0 0 n Y 46 [(0, .ref v0), (1, .int v1), (2, .int v2), (3, .long s.1), (5, .long v5), (7, .int s.2.1)] [] s.2.2) (D := fun r => r = (rr, μr)) (fun s z Hs Ds => t_X12_kernel_46 K hl Hs Ds) jF s0 z H D
set_option maxRecDepth 10000 in
theorem t_X12_kernel_0 {X : jX} {l : Launch} {n : Nat} {Y : jY} (K : jOK X RX12 cX12_kernel 8 (some .long) 7) (hl : X.2.1 = l) {rr : Int64} {μr : jM} {v0 : Nat} {v1 : Int32} {v2 : Int32} {μ : jM} {z : (Int64 × jM)} (H : f_X12_kernel Y v0 v1 v2 μ = some z) (D : z = (rr, μr)) : JW X (jEnd X n Y (some (.long rr)) μr 0 0) 0 0 n Y 0 [(0, .ref v0), (1, .int v1), (2, .int v2)] [] μ := by
  unfold f_X12_kernel at H
  refine r_aload_n K 0 dX12_kernel_0 rfl rfl ?_
  refine w_getI K vc12 inX12 10 (by decide) mF_RX12_145 dX12_kernel_1 H (fun x1 H => ?_)
  refine w_if_eq K 27 dX12_kernel_4 (by decide) H (fun _ H => ?_) (fun _ H => ?_)
  · exact r_sub [] rfl (t_X12_kernel_27 K hl H D)
  · refine r_iload_n K 1 dX12_kernel_7 rfl rfl ?_
    refine r_bipush (v := -8) K dX12_kernel_8 (by decide) ?_
    refine r_bipush (v := 8) K dX12_kernel_10 (by decide) ?_
    refine w_callS K hl H (fun r h => c_X12_in l h) mC_yX12_in mM_RX12_134 mT_yX12_in mZ_RX12 (Nat.le_of_ble_eq_true rfl) (Nat.le_of_ble_eq_true rfl) np_yX12_in rfl (Nat.le_of_ble_eq_true rfl) dX12_kernel_12 (fun r2 H => ?_) ⟨Nat.zero_le _, Nat.zero_le _⟩
    refine w_if_eq K 27 dX12_kernel_15 (by decide) H (fun _ H => ?_) (fun _ H => ?_)
    · exact r_sub [] rfl (t_X12_kernel_27 K hl H D)
    · refine r_iload_n K 2 dX12_kernel_18 rfl rfl ?_
      refine r_iconst (v := 0) K dX12_kernel_19 (by decide) ?_
      refine r_iconst (v := 1) K dX12_kernel_20 (by decide) ?_
      refine w_callS K hl H (fun r h => c_X12_in l h) mC_yX12_in mM_RX12_134 mT_yX12_in mZ_RX12 (Nat.le_of_ble_eq_true rfl) (Nat.le_of_ble_eq_true rfl) np_yX12_in rfl (Nat.le_of_ble_eq_true rfl) dX12_kernel_21 (fun r3 H => ?_) ⟨Nat.zero_le _, Nat.zero_le _⟩
      refine w_if_ne K 31 dX12_kernel_24 (by decide) H (fun _ H => ?_) (fun _ H => ?_)
      · refine r_aload_n K 0 dX12_kernel_31 rfl rfl ?_
        refine w_callV K hl H (fun r h => c_X12_laysTones l h) mC_yX12_laysTones mM_RX12_158 mI_yX12_laysTones mS_yX12_laysTones mZ_RX12 vc12 (Nat.le_of_ble_eq_true rfl) (Nat.le_of_ble_eq_true rfl) np_yX12_laysTones rfl (Nat.le_of_ble_eq_true rfl) dX12_kernel_32 (fun μ4 H => ?_) ⟨Nat.zero_le _, Nat.zero_le _⟩
        refine r_lconst (v := 0) K dX12_kernel_35 (by decide) ?_
        refine r_lstore_n K [(3, .long _), (0, .ref _), (1, .int _), (2, .int _)] dX12_kernel_36 rfl (by decide) rfl ?_
        refine r_lconst (v := 0) K dX12_kernel_37 (by decide) ?_
        refine r_lstore K [(5, .long _), (3, .long _), (0, .ref _), (1, .int _), (2, .int _)] dX12_kernel_38 (by decide) rfl ?_
        refine r_aload_n K 2 dX12_kernel_40 rfl rfl ?_
        refine w_getI K vc12 inX12 10 (by decide) mF_RX12_145 dX12_kernel_41 H (fun x5 H => ?_)
        refine r_istore K [(7, .int _), (5, .long _), (3, .long _), (0, .ref _), (1, .int _), (2, .int _)] dX12_kernel_44 (by decide) rfl ?_
        exact r_sub [3, 4, 5, 2, 1, 0] rfl (l_X12_kernel_46 K hl H D)
      · exact r_sub [] rfl (t_X12_kernel_27 K hl H D)
theorem c_X12_kernel (l : Launch) {n : Nat} {Y : jY} {v0 : Nat} {v1 : Int32} {v2 : Int32} {μ : jM} {z : Int64 × jM} (H : f_X12_kernel Y v0 v1 v2 μ = some z) : jC l yX12_kernel cX12_kernel 8 (some .long) 7 0 0 [.ref v0, .int v1, .int v2] n Y μ n Y (some (.long z.1)) z.2 := by
  refine jC_of (by decide +kernel) (Nat.le_of_ble_eq_true rfl) (fun X hl K _ _ _ => ?_)
  obtain ⟨rr, μr⟩ := z
  exact t_X12_kernel_0 K hl H rfl
/-! RX12 polynomial(ZI)J -/
def b_X12_polynomial_32 (Y : jY) (μ : jM) : Option (Int64 × jM) :=
  some ((-9223372036854775808 : Int64), μ)
def b_X12_polynomial_59 (Y : jY) (t0 : Int64) (μ : jM) : Option (Int64 × jM) :=
  some (t0, μ)
def b_X12_polynomial_26 (Y : jY) (v0 : Nat) (v1 : Int32) (v2 : Int32) (t0 : Int32) (t1 : Int32) (t2 : Int32) (μ : jM) : Option (Int64 × jM) :=
  (f_X12_in Y t0 t1 t2 μ).bind fun r1 =>
  if r1.1 = 0 then
    b_X12_polynomial_32 Y r1.2
  else
    (jrcv Y v0 12 (f_X12_laysTones Y v0 r1.2)).bind fun μ2 =>
    if v1 = 0 then
      (jgO Y μ2 v0 12 14).bind fun x3 =>
      (jaL Y μ2 x3 21 v2).bind fun x4 =>
      b_X12_polynomial_59 Y x4 μ2
    else
      (jgO Y μ2 v0 12 13).bind fun x5 =>
      (jaL Y μ2 x5 21 v2).bind fun x6 =>
      b_X12_polynomial_59 Y x6 μ2
def f_X12_polynomial (Y : jY) (v0 : Nat) (v1 : Int32) (v2 : Int32) (μ : jM) : Option (Int64 × jM) :=
  (jgI Y μ v0 12 10).bind fun x1 =>
  if x1 = 0 then
    b_X12_polynomial_32 Y μ
  else
    if v1 = 0 then
      (jgI Y μ v0 12 10).bind fun x2 =>
      b_X12_polynomial_26 Y v0 v1 v2 v2 (0 : Int32) (x2 - ((1 : Int32))) μ
    else
      (jgI Y μ v0 12 10).bind fun x3 =>
      b_X12_polynomial_26 Y v0 v1 v2 v2 (0 : Int32) x3 μ
set_option maxRecDepth 10000 in
theorem t_X12_polynomial_32 {X : jX} {l : Launch} {n : Nat} {Y : jY} (K : jOK X RX12 cX12_polynomial 3 (some .long) 3) (hl : X.2.1 = l) {rr : Int64} {μr : jM} {μ : jM} {z : (Int64 × jM)} (H : b_X12_polynomial_32 Y μ = some z) (D : z = (rr, μr)) : JW X (jEnd X n Y (some (.long rr)) μr 0 0) 0 0 n Y 32 [] [] μ := by
  unfold b_X12_polynomial_32 at H
  refine r_ldc2 K (-9223372036854775808) mc_RX12_156 dX12_polynomial_32 ?_
  cases H
  obtain ⟨rfl, rfl⟩ := jfin2 D
  exact r_lret K dX12_polynomial_35
set_option maxRecDepth 10000 in
theorem t_X12_polynomial_59 {X : jX} {l : Launch} {n : Nat} {Y : jY} (K : jOK X RX12 cX12_polynomial 3 (some .long) 3) (hl : X.2.1 = l) {rr : Int64} {μr : jM} {t0 : Int64} {μ : jM} {z : (Int64 × jM)} (H : b_X12_polynomial_59 Y t0 μ = some z) (D : z = (rr, μr)) : JW X (jEnd X n Y (some (.long rr)) μr 0 0) 0 0 n Y 59 [] [.long t0] μ := by
  unfold b_X12_polynomial_59 at H
  cases H
  obtain ⟨rfl, rfl⟩ := jfin2 D
  exact r_lret K dX12_polynomial_59
set_option maxRecDepth 10000 in
theorem t_X12_polynomial_26 {X : jX} {l : Launch} {n : Nat} {Y : jY} (K : jOK X RX12 cX12_polynomial 3 (some .long) 3) (hl : X.2.1 = l) {rr : Int64} {μr : jM} {v0 : Nat} {v1 : Int32} {v2 : Int32} {t0 : Int32} {t1 : Int32} {t2 : Int32} {μ : jM} {z : (Int64 × jM)} (H : b_X12_polynomial_26 Y v0 v1 v2 t0 t1 t2 μ = some z) (D : z = (rr, μr)) : JW X (jEnd X n Y (some (.long rr)) μr 0 0) 0 0 n Y 26 [(0, .ref v0), (1, .int v1), (2, .int v2)] [.int t2, .int t1, .int t0] μ := by
  unfold b_X12_polynomial_26 at H
  refine w_callS K hl H (fun r h => c_X12_in l h) mC_yX12_in mM_RX12_134 mT_yX12_in mZ_RX12 (Nat.le_of_ble_eq_true rfl) (Nat.le_of_ble_eq_true rfl) np_yX12_in rfl (Nat.le_of_ble_eq_true rfl) dX12_polynomial_26 (fun r1 H => ?_) ⟨Nat.zero_le _, Nat.zero_le _⟩
  refine w_if_ne K 36 dX12_polynomial_29 (by decide) H (fun _ H => ?_) (fun _ H => ?_)
  · refine r_aload_n K 0 dX12_polynomial_36 rfl rfl ?_
    refine w_callV K hl H (fun r h => c_X12_laysTones l h) mC_yX12_laysTones mM_RX12_158 mI_yX12_laysTones mS_yX12_laysTones mZ_RX12 vc12 (Nat.le_of_ble_eq_true rfl) (Nat.le_of_ble_eq_true rfl) np_yX12_laysTones rfl (Nat.le_of_ble_eq_true rfl) dX12_polynomial_37 (fun μ2 H => ?_) ⟨Nat.zero_le _, Nat.zero_le _⟩
    refine r_iload_n K 1 dX12_polynomial_40 rfl rfl ?_
    refine w_if_eq K 53 dX12_polynomial_41 (by decide) H (fun _ H => ?_) (fun _ H => ?_)
    · refine r_aload_n K 0 dX12_polynomial_53 rfl rfl ?_
      refine w_getO K vc12 inX12 14 (by decide) mF_RX12_30 dX12_polynomial_54 H (fun x3 H => ?_)
      refine r_iload_n K 2 dX12_polynomial_57 rfl rfl ?_
      refine w_lald K dX12_polynomial_58 H (fun x4 H => ?_)
      exact r_sub [] rfl (t_X12_polynomial_59 K hl H D)
    · refine r_aload_n K 0 dX12_polynomial_44 rfl rfl ?_
      refine w_getO K vc12 inX12 13 (by decide) mF_RX12_26 dX12_polynomial_45 H (fun x5 H => ?_)
      refine r_iload_n K 2 dX12_polynomial_48 rfl rfl ?_
      refine w_lald K dX12_polynomial_49 H (fun x6 H => ?_)
      refine r_goto K 59 dX12_polynomial_50 (by decide) ?_
      exact r_sub [] rfl (t_X12_polynomial_59 K hl H D)
  · exact r_sub [] rfl (t_X12_polynomial_32 K hl H D)
set_option maxRecDepth 10000 in
theorem t_X12_polynomial_0 {X : jX} {l : Launch} {n : Nat} {Y : jY} (K : jOK X RX12 cX12_polynomial 3 (some .long) 3) (hl : X.2.1 = l) {rr : Int64} {μr : jM} {v0 : Nat} {v1 : Int32} {v2 : Int32} {μ : jM} {z : (Int64 × jM)} (H : f_X12_polynomial Y v0 v1 v2 μ = some z) (D : z = (rr, μr)) : JW X (jEnd X n Y (some (.long rr)) μr 0 0) 0 0 n Y 0 [(0, .ref v0), (1, .int v1), (2, .int v2)] [] μ := by
  unfold f_X12_polynomial at H
  refine r_aload_n K 0 dX12_polynomial_0 rfl rfl ?_
  refine w_getI K vc12 inX12 10 (by decide) mF_RX12_145 dX12_polynomial_1 H (fun x1 H => ?_)
  refine w_if_eq K 32 dX12_polynomial_4 (by decide) H (fun _ H => ?_) (fun _ H => ?_)
  · exact r_sub [] rfl (t_X12_polynomial_32 K hl H D)
  · refine r_iload_n K 2 dX12_polynomial_7 rfl rfl ?_
    refine r_iconst (v := 0) K dX12_polynomial_8 (by decide) ?_
    refine r_iload_n K 1 dX12_polynomial_9 rfl rfl ?_
    refine w_if_eq K 20 dX12_polynomial_10 (by decide) H (fun _ H => ?_) (fun _ H => ?_)
    · refine r_aload_n K 0 dX12_polynomial_20 rfl rfl ?_
      refine w_getI K vc12 inX12 10 (by decide) mF_RX12_145 dX12_polynomial_21 H (fun x2 H => ?_)
      refine r_iconst (v := 1) K dX12_polynomial_24 (by decide) ?_
      refine r_isub K dX12_polynomial_25 ?_
      exact r_sub [0, 1, 2] rfl (t_X12_polynomial_26 K hl H D)
    · refine r_aload_n K 0 dX12_polynomial_13 rfl rfl ?_
      refine w_getI K vc12 inX12 10 (by decide) mF_RX12_145 dX12_polynomial_14 H (fun x3 H => ?_)
      refine r_goto K 26 dX12_polynomial_17 (by decide) ?_
      exact r_sub [0, 1, 2] rfl (t_X12_polynomial_26 K hl H D)
theorem c_X12_polynomial (l : Launch) {n : Nat} {Y : jY} {v0 : Nat} {v1 : Int32} {v2 : Int32} {μ : jM} {z : Int64 × jM} (H : f_X12_polynomial Y v0 v1 v2 μ = some z) : jC l yX12_polynomial cX12_polynomial 3 (some .long) 3 0 0 [.ref v0, .int v1, .int v2] n Y μ n Y (some (.long z.1)) z.2 := by
  refine jC_of (by decide +kernel) (Nat.le_of_ble_eq_true rfl) (fun X hl K _ _ _ => ?_)
  obtain ⟨rr, μr⟩ := z
  exact t_X12_polynomial_0 K hl H rfl
/-! RX12 laterOf(IJ)J -/
def b_X12_laterOf_55 (Y : jY) (v0 : Nat) (v1 : Int32) (v2 : Int64) (v4 : Int64) (v6 : Int32) (v9 : Int32) (t0 : Int64) (t1 : Int64) (μ : jM) : Option ((Int64 × Int32 × jM) ⊕ ((Int64 × Int32 × jM) ⊕ (Int64 × jM))) :=
  (jgO Y μ v0 12 15).bind fun x1 =>
  (jaL Y μ x1 21 ((((v9 - ((1 : Int32)))) - v6))).bind fun x2 =>
  some (.inl ((t0 + ((t1 * x2))), (v9 + (1 : Int32)), μ))
def b_X12_laterOf_22 (Y : jY) (v0 : Nat) (v1 : Int32) (v2 : Int64) (v4 : Int64) (v6 : Int32) (v7 : Int64) (v9 : Int32) (μ : jM) : Option ((Int64 × Int32 × jM) ⊕ ((Int64 × Int32 × jM) ⊕ (Int64 × jM))) :=
  if v1 < v9 then
    some (.inr (.inl ((((v4 * v2)) + v7), (v6 + (-1 : Int32)), μ)))
  else
    (jgI Y μ v0 12 10).bind fun x1 =>
    if v1 = x1 then
      (jgO Y μ v0 12 13).bind fun x3 =>
      (jaL Y μ x3 21 v9).bind fun x4 =>
      b_X12_laterOf_55 Y v0 v1 v2 v4 v6 v9 v7 x4 μ
    else
      (jrcv Y v0 12 (f_X12_power Y v0 v1 v9 μ)).bind fun r2 =>
      b_X12_laterOf_55 Y v0 v1 v2 v4 v6 v9 v7 r2.1 r2.2
def b_X12_laterOf_8 (Y : jY) (v0 : Nat) (v1 : Int32) (v2 : Int64) (v4 : Int64) (v6 : Int32) (μ : jM) : Option ((Int64 × Int32 × jM) ⊕ (Int64 × jM)) :=
  if v6 < 0 then
    some (.inr (v4, μ))
  else
    jit jF (fun (s : Int64 × Int32 × jM) => b_X12_laterOf_22 Y v0 v1 v2 v4 v6 s.1 s.2.1 s.2.2) ((0 : Int64), (v6 + ((1 : Int32))), μ)
def f_X12_laterOf (Y : jY) (v0 : Nat) (v1 : Int32) (v2 : Int64) (μ : jM) : Option (Int64 × jM) :=
  jit jF (fun (s : Int64 × Int32 × jM) => b_X12_laterOf_8 Y v0 v1 v2 s.1 s.2.1 s.2.2) ((0 : Int64), (v1 - ((1 : Int32))), μ)
set_option maxRecDepth 10000 in
theorem t_X12_laterOf_55 {X : jX} {l : Launch} {n : Nat} {Y : jY} (K : jOK X RX12 cX12_laterOf 10 (some .long) 6) (hl : X.2.1 = l) {rr : Int64} {μr : jM} {v0 : Nat} {v1 : Int32} {v2 : Int64} {v4 : Int64} {v6 : Int32} {v9 : Int32} {t0 : Int64} {t1 : Int64} {μ : jM} {z : ((Int64 × Int32 × jM) ⊕ ((Int64 × Int32 × jM) ⊕ (Int64 × jM)))} (H : b_X12_laterOf_55 Y v0 v1 v2 v4 v6 v9 t0 t1 μ = some z) (D : Sum.elim (fun (s : Int64 × Int32 × jM) => JW X (jEnd X n Y (some (.long rr)) μr 0 0) 0 0 n Y 22 [(0, .ref v0), (1, .int v1), (2, .long v2), (4, .long v4), (6, .int v6), (7, .long s.1), (9, .int s.2.1)] [] s.2.2) (Sum.elim (fun (s : Int64 × Int32 × jM) => JW X (jEnd X n Y (some (.long rr)) μr 0 0) 0 0 n Y 8 [(0, .ref v0), (1, .int v1), (2, .long v2), (4, .long s.1), (6, .int s.2.1)] [] s.2.2) (fun r => r = (rr, μr))) z) : JW X (jEnd X n Y (some (.long rr)) μr 0 0) 0 0 n Y 55 [(0, .ref v0), (1, .int v1), (2, .long v2), (4, .long v4), (6, .int v6), (9, .int v9)] [.long t1, .long t0] μ := by
  unfold b_X12_laterOf_55 at H
  refine r_aload_n K 0 dX12_laterOf_55 rfl rfl ?_
  refine w_getO K vc12 inX12 15 (by decide) mF_RX12_33 dX12_laterOf_56 H (fun x1 H => ?_)
  refine r_iload K 5 dX12_laterOf_59 rfl ?_
  refine r_iconst (v := 1) K dX12_laterOf_61 (by decide) ?_
  refine r_isub K dX12_laterOf_62 ?_
  refine r_iload K 4 dX12_laterOf_63 rfl ?_
  refine r_isub K dX12_laterOf_65 ?_
  refine w_lald K dX12_laterOf_66 H (fun x2 H => ?_)
  refine r_lmul K dX12_laterOf_67 ?_
  refine r_ladd K dX12_laterOf_68 ?_
  refine r_lstore K [(7, .long _), (0, .ref _), (1, .int _), (2, .long _), (4, .long _), (6, .int _), (9, .int _)] dX12_laterOf_69 (by decide) rfl ?_
  refine r_iinc K 6 [(9, .int _), (7, .long _), (0, .ref _), (1, .int _), (2, .long _), (4, .long _), (6, .int _)] (v := _ + (1 : Int32)) dX12_laterOf_71 rfl rfl (by decide) rfl ?_
  refine r_goto K 22 dX12_laterOf_74 (by decide) ?_
  cases H
  exact r_sub [2, 3, 4, 5, 6, 1, 0] rfl D
set_option maxRecDepth 10000 in
theorem t_X12_laterOf_22 {X : jX} {l : Launch} {n : Nat} {Y : jY} (K : jOK X RX12 cX12_laterOf 10 (some .long) 6) (hl : X.2.1 = l) {rr : Int64} {μr : jM} {v0 : Nat} {v1 : Int32} {v2 : Int64} {v4 : Int64} {v6 : Int32} {v7 : Int64} {v9 : Int32} {μ : jM} {z : ((Int64 × Int32 × jM) ⊕ ((Int64 × Int32 × jM) ⊕ (Int64 × jM)))} (H : b_X12_laterOf_22 Y v0 v1 v2 v4 v6 v7 v9 μ = some z) (D : Sum.elim (fun (s : Int64 × Int32 × jM) => JW X (jEnd X n Y (some (.long rr)) μr 0 0) 0 0 n Y 22 [(0, .ref v0), (1, .int v1), (2, .long v2), (4, .long v4), (6, .int v6), (7, .long s.1), (9, .int s.2.1)] [] s.2.2) (Sum.elim (fun (s : Int64 × Int32 × jM) => JW X (jEnd X n Y (some (.long rr)) μr 0 0) 0 0 n Y 8 [(0, .ref v0), (1, .int v1), (2, .long v2), (4, .long s.1), (6, .int s.2.1)] [] s.2.2) (fun r => r = (rr, μr))) z) : JW X (jEnd X n Y (some (.long rr)) μr 0 0) 0 0 n Y 22 [(0, .ref v0), (1, .int v1), (2, .long v2), (4, .long v4), (6, .int v6), (7, .long v7), (9, .int v9)] [] μ := by
  unfold b_X12_laterOf_22 at H
  refine r_iload K 6 dX12_laterOf_22 rfl ?_
  refine r_iload_n K 1 dX12_laterOf_24 rfl rfl ?_
  refine w_icmp_gt K 77 dX12_laterOf_25 (by decide) H (fun _ H => ?_) (fun _ H => ?_)
  · refine r_lload K 3 dX12_laterOf_77 rfl ?_
    refine r_lload_n K 2 dX12_laterOf_79 rfl rfl ?_
    refine r_lmul K dX12_laterOf_80 ?_
    refine r_lload K 5 dX12_laterOf_81 rfl ?_
    refine r_ladd K dX12_laterOf_83 ?_
    refine r_lstore K [(4, .long _), (0, .ref _), (1, .int _), (2, .long _), (6, .int _), (7, .long _), (9, .int _)] dX12_laterOf_84 (by decide) rfl ?_
    refine r_iinc K 4 [(6, .int _), (4, .long _), (0, .ref _), (1, .int _), (2, .long _), (7, .long _), (9, .int _)] (v := _ + (-1 : Int32)) dX12_laterOf_86 rfl rfl (by decide) rfl ?_
    refine r_goto K 8 dX12_laterOf_89 (by decide) ?_
    cases H
    exact r_sub [2, 3, 4, 1, 0] rfl D
  · refine r_lload K 5 dX12_laterOf_28 rfl ?_
    refine r_iload_n K 1 dX12_laterOf_30 rfl rfl ?_
    refine r_aload_n K 0 dX12_laterOf_31 rfl rfl ?_
    refine w_getI K vc12 inX12 10 (by decide) mF_RX12_145 dX12_laterOf_32 H (fun x1 H => ?_)
    refine w_icmp_ne K 48 dX12_laterOf_35 (by decide) H (fun _ H => ?_) (fun _ H => ?_)
    · refine r_aload_n K 0 dX12_laterOf_48 rfl rfl ?_
      refine r_iload_n K 1 dX12_laterOf_49 rfl rfl ?_
      refine r_iload K 6 dX12_laterOf_50 rfl ?_
      refine w_callV K hl H (fun r h => c_X12_power l h) mC_yX12_power mM_RX12_217 mI_yX12_power mS_yX12_power mZ_RX12 vc12 (Nat.le_of_ble_eq_true rfl) (Nat.le_of_ble_eq_true rfl) np_yX12_power rfl (Nat.le_of_ble_eq_true rfl) dX12_laterOf_52 (fun r2 H => ?_) ⟨Nat.zero_le _, Nat.zero_le _⟩
      exact r_sub [0, 1, 2, 3, 4, 6] rfl (t_X12_laterOf_55 K hl H D)
    · refine r_aload_n K 0 dX12_laterOf_38 rfl rfl ?_
      refine w_getO K vc12 inX12 13 (by decide) mF_RX12_26 dX12_laterOf_39 H (fun x3 H => ?_)
      refine r_iload K 6 dX12_laterOf_42 rfl ?_
      refine w_lald K dX12_laterOf_44 H (fun x4 H => ?_)
      refine r_goto K 55 dX12_laterOf_45 (by decide) ?_
      exact r_sub [0, 1, 2, 3, 4, 6] rfl (t_X12_laterOf_55 K hl H D)
set_option maxRecDepth 10000 in
theorem l_X12_laterOf_22 {X : jX} {l : Launch} {n : Nat} {Y : jY} (K : jOK X RX12 cX12_laterOf 10 (some .long) 6) (hl : X.2.1 = l) {rr : Int64} {μr : jM} {v0 : Nat} {v1 : Int32} {v2 : Int64} {v4 : Int64} {v6 : Int32}  {s0 : Int64 × Int32 × jM} {z : ((Int64 × Int32 × jM) ⊕ (Int64 × jM))} (H : jit jF (fun (s : Int64 × Int32 × jM) => b_X12_laterOf_22 Y v0 v1 v2 v4 v6 s.1 s.2.1 s.2.2) s0 = some z) (D : Sum.elim (fun (s : Int64 × Int32 × jM) => JW X (jEnd X n Y (some (.long rr)) μr 0 0) 0 0 n Y 8 [(0, .ref v0), (1, .int v1), (2, .long v2), (4, .long s.1), (6, .int s.2.1)] [] s.2.2) (fun r => r = (rr, μr)) z) : JW X (jEnd X n Y (some (.long rr)) μr 0 0) 0 0 n Y 22 [(0, .ref v0), (1, .int v1), (2, .long v2), (4, .long v4), (6, .int v6), (7, .long s0.1), (9, .int s0.2.1)] [] s0.2.2 :=
  jit_ind (P := fun (s : Int64 × Int32 × jM) => JW X (jEnd X n Y (some (.long rr)) μr 0 0) 0 0 n Y 22 [(0, .ref v0), (1, .int v1), (2, .long v2), (4, .long v4), (6, .int v6), (7, .long s.1), (9, .int s.2.1)] [] s.2.2) (D := Sum.elim (fun (s : Int64 × Int32 × jM) => JW X (jEnd X n Y (some (.long rr)) μr 0 0) 0 0 n Y 8 [(0, .ref v0), (1, .int v1), (2, .long v2), (4, .long s.1), (6, .int s.2.1)] [] s.2.2) (fun r => r = (rr, μr))) (fun s z Hs Ds => t_X12_laterOf_22 K hl Hs Ds) jF s0 z H D
set_option maxRecDepth 10000 in
theorem t_X12_laterOf_8 {X : jX} {l : Launch} {n : Nat} {Y : jY} (K : jOK X RX12 cX12_laterOf 10 (some .long) 6) (hl : X.2.1 = l) {rr : Int64} {μr : jM} {v0 : Nat} {v1 : Int32} {v2 : Int64} {v4 : Int64} {v6 : Int32} {μ : jM} {z : ((Int64 × Int32 × jM) ⊕ (Int64 × jM))} (H : b_X12_laterOf_8 Y v0 v1 v2 v4 v6 μ = some z) (D : Sum.elim (fun (s : Int64 × Int32 × jM) => JW X (jEnd X n Y (some (.long rr)) μr 0 0) 0 0 n Y 8 [(0, .ref v0), (1, .int v1), (2, .long v2), (4, .long s.1), (6, .int s.2.1)] [] s.2.2) (fun r => r = (rr, μr)) z) : JW X (jEnd X n Y (some (.long rr)) μr 0 0) 0 0 n Y 8 [(0, .ref v0), (1, .int v1), (2, .long v2), (4, .long v4), (6, .int v6)] [] μ := by
  unfold b_X12_laterOf_8 at H
  refine r_iload K 4 dX12_laterOf_8 rfl ?_
  refine w_if_lt K 92 dX12_laterOf_10 (by decide) H (fun _ H => ?_) (fun _ H => ?_)
  · refine r_lload K 3 dX12_laterOf_92 rfl ?_
    cases H
    simp only [Sum.elim_inr] at D
    obtain ⟨rfl, rfl⟩ := jfin2 D
    exact r_lret K dX12_laterOf_94
  · refine r_lconst (v := 0) K dX12_laterOf_13 (by decide) ?_
    refine r_lstore K [(7, .long _), (0, .ref _), (1, .int _), (2, .long _), (4, .long _), (6, .int _)] dX12_laterOf_14 (by decide) rfl ?_
    refine r_iload K 5 dX12_laterOf_16 rfl ?_
    refine r_iconst (v := 1) K dX12_laterOf_18 (by decide) ?_
    refine r_iadd K dX12_laterOf_19 ?_
    refine r_istore K [(9, .int _), (7, .long _), (0, .ref _), (1, .int _), (2, .long _), (4, .long _), (6, .int _)] dX12_laterOf_20 (by decide) rfl ?_
    exact r_sub [2, 3, 4, 5, 6, 1, 0] rfl (l_X12_laterOf_22 K hl H D)
set_option maxRecDepth 10000 in
theorem l_X12_laterOf_8 {X : jX} {l : Launch} {n : Nat} {Y : jY} (K : jOK X RX12 cX12_laterOf 10 (some .long) 6) (hl : X.2.1 = l) {rr : Int64} {μr : jM} {v0 : Nat} {v1 : Int32} {v2 : Int64}  {s0 : Int64 × Int32 × jM} {z : (Int64 × jM)} (H : jit jF (fun (s : Int64 × Int32 × jM) => b_X12_laterOf_8 Y v0 v1 v2 s.1 s.2.1 s.2.2) s0 = some z) (D : z = (rr, μr)) : JW X (jEnd X n Y (some (.long rr)) μr 0 0) 0 0 n Y 8 [(0, .ref v0), (1, .int v1), (2, .long v2), (4, .long s0.1), (6, .int s0.2.1)] [] s0.2.2 :=
  jit_ind (P := fun (s : Int64 × Int32 × jM) => JW X (jEnd X n Y (some (.long rr)) μr 0 0) 0 0 n Y 8 [(0, .ref v0), (1, .int v1), (2, .long v2), (4, .long s.1), (6, .int s.2.1)] [] s.2.2) (D := fun r => r = (rr, μr)) (fun s z Hs Ds => t_X12_laterOf_8 K hl Hs Ds) jF s0 z H D
set_option maxRecDepth 10000 in
theorem t_X12_laterOf_0 {X : jX} {l : Launch} {n : Nat} {Y : jY} (K : jOK X RX12 cX12_laterOf 10 (some .long) 6) (hl : X.2.1 = l) {rr : Int64} {μr : jM} {v0 : Nat} {v1 : Int32} {v2 : Int64} {μ : jM} {z : (Int64 × jM)} (H : f_X12_laterOf Y v0 v1 v2 μ = some z) (D : z = (rr, μr)) : JW X (jEnd X n Y (some (.long rr)) μr 0 0) 0 0 n Y 0 [(0, .ref v0), (1, .int v1), (2, .long v2)] [] μ := by
  unfold f_X12_laterOf at H
  refine r_lconst (v := 0) K dX12_laterOf_0 (by decide) ?_
  refine r_lstore K [(4, .long _), (0, .ref _), (1, .int _), (2, .long _)] dX12_laterOf_1 (by decide) rfl ?_
  refine r_iload_n K 2 dX12_laterOf_3 rfl rfl ?_
  refine r_iconst (v := 1) K dX12_laterOf_4 (by decide) ?_
  refine r_isub K dX12_laterOf_5 ?_
  refine r_istore K [(6, .int _), (4, .long _), (0, .ref _), (1, .int _), (2, .long _)] dX12_laterOf_6 (by decide) rfl ?_
  exact r_sub [2, 3, 4, 1, 0] rfl (l_X12_laterOf_8 K hl H D)
theorem c_X12_laterOf (l : Launch) {n : Nat} {Y : jY} {v0 : Nat} {v1 : Int32} {v2 : Int64} {μ : jM} {z : Int64 × jM} (H : f_X12_laterOf Y v0 v1 v2 μ = some z) : jC l yX12_laterOf cX12_laterOf 10 (some .long) 6 0 0 [.ref v0, .int v1, .long v2] n Y μ n Y (some (.long z.1)) z.2 := by
  refine jC_of (by decide +kernel) (Nat.le_of_ble_eq_true rfl) (fun X hl K _ _ _ => ?_)
  obtain ⟨rr, μr⟩ := z
  exact t_X12_laterOf_0 K hl H rfl
/-! RX12 isNothing(IIJ)Z -/
def b_X12_isNothing_153 (Y : jY) (t0 : Int32) (μ : jM) : Option (Int32 × jM) :=
  (jbool t0).bind fun x1 =>
  some (x1, μ)
def b_X12_isNothing_152 (Y : jY) (μ : jM) : Option (Int32 × jM) :=
  b_X12_isNothing_153 Y (0 : Int32) μ
def b_X12_isNothing_78 (Y : jY) (t0 : Int32) (μ : jM) : Option (Int32 × jM) :=
  (jbool t0).bind fun x1 =>
  some (x1, μ)
def b_X12_isNothing_42 (Y : jY) (t0 : Int32) (μ : jM) : Option (Int32 × jM) :=
  (jbool t0).bind fun x1 =>
  some (x1, μ)
def b_X12_isNothing_20 (Y : jY) (t0 : Int32) (μ : jM) : Option (Int32 × jM) :=
  (jbool t0).bind fun x1 =>
  some (x1, μ)
def f_X12_isNothing (Y : jY) (v0 : Nat) (v1 : Int32) (v2 : Int32) (v3 : Int64) (μ : jM) : Option (Int32 × jM) :=
  if v2 = 0 then
    (jrcv Y v0 12 (f_X12_valueOf Y v0 v1 v3 μ)).bind fun r15 =>
    if ((lg_cmp r15.1 ((0 : Int64)))) = 0 then
      b_X12_isNothing_20 Y (1 : Int32) r15.2
    else
      b_X12_isNothing_20 Y (0 : Int32) r15.2
  else
    if v2 = ((1 : Int32)) then
      (jrcv Y v0 12 (f_X12_laterOf Y v0 v1 v3 μ)).bind fun r14 =>
      if ((lg_cmp r14.1 ((0 : Int64)))) = 0 then
        b_X12_isNothing_42 Y (1 : Int32) r14.2
      else
        b_X12_isNothing_42 Y (0 : Int32) r14.2
    else
      (jrcv Y v0 12 (f_X12_laysA Y v0 ((v1 - ((1 : Int32)))) μ)).bind fun μ1 =>
      (jrcv Y v0 12 (f_X12_adds Y v0 ((-v3)) ((1 : Int64)) μ1)).bind fun μ2 =>
      if v2 = ((v1 - ((1 : Int32)))) then
        (jgL Y μ2 v0 12 16).bind fun x13 =>
        if ((lg_cmp x13 ((0 : Int64)))) = 0 then
          b_X12_isNothing_78 Y (1 : Int32) μ2
        else
          b_X12_isNothing_78 Y (0 : Int32) μ2
      else
        (jgL Y μ2 v0 12 16).bind fun x3 =>
        (jgL Y μ2 v0 12 17).bind fun x4 =>
        (jrcv Y v0 12 (f_X12_laysA Y v0 ((2 : Int32)) μ2)).bind fun μ5 =>
        (jrcv Y v0 12 (f_X12_adds Y v0 ((-v3)) ((1 : Int64)) μ5)).bind fun μ6 =>
        (jrcv Y v0 12 (f_X12_multiplies Y v0 x3 x4 μ6)).bind fun μ7 =>
        (jgL Y μ7 v0 12 16).bind fun x8 =>
        (jgL Y μ7 v0 12 17).bind fun x9 =>
        (jrcv Y v0 12 (f_X12_laysC Y v0 ((2 : Int32)) μ7)).bind fun μ10 =>
        (jgL Y μ10 v0 12 16).bind fun x11 =>
        if ((lg_cmp x11 x8)) = 0 then
          (jgL Y μ10 v0 12 17).bind fun x12 =>
          if ((lg_cmp x12 x9)) = 0 then
            b_X12_isNothing_153 Y (1 : Int32) μ10
          else
            b_X12_isNothing_152 Y μ10
        else
          b_X12_isNothing_152 Y μ10
set_option maxRecDepth 10000 in
theorem t_X12_isNothing_153 {X : jX} {l : Launch} {n : Nat} {Y : jY} (K : jOK X RX12 cX12_isNothing 9 (some .boolean) 8) (hl : X.2.1 = l) {rr : Int32} {μr : jM} {t0 : Int32} {μ : jM} {z : (Int32 × jM)} (H : b_X12_isNothing_153 Y t0 μ = some z) (D : z = (rr, μr)) : JW X (jEnd X n Y (some (.int rr)) μr 0 0) 0 0 n Y 153 [] [.int t0] μ := by
  unfold b_X12_isNothing_153 at H
  refine w_zret K dX12_isNothing_153 H (fun hz H => ?_)
  cases H
  obtain ⟨rfl, rfl⟩ := jfin2 D
  exact r_zret K hz dX12_isNothing_153
set_option maxRecDepth 10000 in
theorem t_X12_isNothing_152 {X : jX} {l : Launch} {n : Nat} {Y : jY} (K : jOK X RX12 cX12_isNothing 9 (some .boolean) 8) (hl : X.2.1 = l) {rr : Int32} {μr : jM} {μ : jM} {z : (Int32 × jM)} (H : b_X12_isNothing_152 Y μ = some z) (D : z = (rr, μr)) : JW X (jEnd X n Y (some (.int rr)) μr 0 0) 0 0 n Y 152 [] [] μ := by
  unfold b_X12_isNothing_152 at H
  refine r_iconst (v := 0) K dX12_isNothing_152 (by decide) ?_
  exact r_sub [] rfl (t_X12_isNothing_153 K hl H D)
set_option maxRecDepth 10000 in
theorem t_X12_isNothing_78 {X : jX} {l : Launch} {n : Nat} {Y : jY} (K : jOK X RX12 cX12_isNothing 9 (some .boolean) 8) (hl : X.2.1 = l) {rr : Int32} {μr : jM} {t0 : Int32} {μ : jM} {z : (Int32 × jM)} (H : b_X12_isNothing_78 Y t0 μ = some z) (D : z = (rr, μr)) : JW X (jEnd X n Y (some (.int rr)) μr 0 0) 0 0 n Y 78 [] [.int t0] μ := by
  unfold b_X12_isNothing_78 at H
  refine w_zret K dX12_isNothing_78 H (fun hz H => ?_)
  cases H
  obtain ⟨rfl, rfl⟩ := jfin2 D
  exact r_zret K hz dX12_isNothing_78
set_option maxRecDepth 10000 in
theorem t_X12_isNothing_42 {X : jX} {l : Launch} {n : Nat} {Y : jY} (K : jOK X RX12 cX12_isNothing 9 (some .boolean) 8) (hl : X.2.1 = l) {rr : Int32} {μr : jM} {t0 : Int32} {μ : jM} {z : (Int32 × jM)} (H : b_X12_isNothing_42 Y t0 μ = some z) (D : z = (rr, μr)) : JW X (jEnd X n Y (some (.int rr)) μr 0 0) 0 0 n Y 42 [] [.int t0] μ := by
  unfold b_X12_isNothing_42 at H
  refine w_zret K dX12_isNothing_42 H (fun hz H => ?_)
  cases H
  obtain ⟨rfl, rfl⟩ := jfin2 D
  exact r_zret K hz dX12_isNothing_42
set_option maxRecDepth 10000 in
theorem t_X12_isNothing_20 {X : jX} {l : Launch} {n : Nat} {Y : jY} (K : jOK X RX12 cX12_isNothing 9 (some .boolean) 8) (hl : X.2.1 = l) {rr : Int32} {μr : jM} {t0 : Int32} {μ : jM} {z : (Int32 × jM)} (H : b_X12_isNothing_20 Y t0 μ = some z) (D : z = (rr, μr)) : JW X (jEnd X n Y (some (.int rr)) μr 0 0) 0 0 n Y 20 [] [.int t0] μ := by
  unfold b_X12_isNothing_20 at H
  refine w_zret K dX12_isNothing_20 H (fun hz H => ?_)
  cases H
  obtain ⟨rfl, rfl⟩ := jfin2 D
  exact r_zret K hz dX12_isNothing_20
set_option maxRecDepth 10000 in
theorem t_X12_isNothing_0 {X : jX} {l : Launch} {n : Nat} {Y : jY} (K : jOK X RX12 cX12_isNothing 9 (some .boolean) 8) (hl : X.2.1 = l) {rr : Int32} {μr : jM} {v0 : Nat} {v1 : Int32} {v2 : Int32} {v3 : Int64} {μ : jM} {z : (Int32 × jM)} (H : f_X12_isNothing Y v0 v1 v2 v3 μ = some z) (D : z = (rr, μr)) : JW X (jEnd X n Y (some (.int rr)) μr 0 0) 0 0 n Y 0 [(0, .ref v0), (1, .int v1), (2, .int v2), (3, .long v3)] [] μ := by
  unfold f_X12_isNothing at H
  refine r_iload_n K 2 dX12_isNothing_0 rfl rfl ?_
  refine w_if_ne K 21 dX12_isNothing_1 (by decide) H (fun _ H => ?_) (fun _ H => ?_)
  · refine r_iload_n K 2 dX12_isNothing_21 rfl rfl ?_
    refine r_iconst (v := 1) K dX12_isNothing_22 (by decide) ?_
    refine w_icmp_ne K 43 dX12_isNothing_23 (by decide) H (fun _ H => ?_) (fun _ H => ?_)
    · refine r_aload_n K 0 dX12_isNothing_43 rfl rfl ?_
      refine r_iload_n K 1 dX12_isNothing_44 rfl rfl ?_
      refine r_iconst (v := 1) K dX12_isNothing_45 (by decide) ?_
      refine r_isub K dX12_isNothing_46 ?_
      refine w_callV K hl H (fun r h => c_X12_laysA l h) mC_yX12_laysA mM_RX12_211 mI_yX12_laysA mS_yX12_laysA mZ_RX12 vc12 (Nat.le_of_ble_eq_true rfl) (Nat.le_of_ble_eq_true rfl) np_yX12_laysA rfl (Nat.le_of_ble_eq_true rfl) dX12_isNothing_47 (fun μ1 H => ?_) ⟨Nat.zero_le _, Nat.zero_le _⟩
      refine r_aload_n K 0 dX12_isNothing_50 rfl rfl ?_
      refine r_lload_n K 3 dX12_isNothing_51 rfl rfl ?_
      refine r_lneg K dX12_isNothing_52 ?_
      refine r_lconst (v := 1) K dX12_isNothing_53 (by decide) ?_
      refine w_callV K hl H (fun r h => c_X12_adds l h) mC_yX12_adds mM_RX12_205 mI_yX12_adds mS_yX12_adds mZ_RX12 vc12 (Nat.le_of_ble_eq_true rfl) (Nat.le_of_ble_eq_true rfl) np_yX12_adds rfl (Nat.le_of_ble_eq_true rfl) dX12_isNothing_54 (fun μ2 H => ?_) ⟨Nat.zero_le _, Nat.zero_le _⟩
      refine r_iload_n K 2 dX12_isNothing_57 rfl rfl ?_
      refine r_iload_n K 1 dX12_isNothing_58 rfl rfl ?_
      refine r_iconst (v := 1) K dX12_isNothing_59 (by decide) ?_
      refine r_isub K dX12_isNothing_60 ?_
      refine w_icmp_ne K 79 dX12_isNothing_61 (by decide) H (fun _ H => ?_) (fun _ H => ?_)
      · refine r_aload_n K 0 dX12_isNothing_79 rfl rfl ?_
        refine w_getL K vc12 inX12 16 (by decide) mF_RX12_177 dX12_isNothing_80 H (fun x3 H => ?_)
        refine r_lstore K [(5, .long _), (0, .ref _), (1, .int _), (2, .int _), (3, .long _)] dX12_isNothing_83 (by decide) rfl ?_
        refine r_aload_n K 1 dX12_isNothing_85 rfl rfl ?_
        refine w_getL K vc12 inX12 17 (by decide) mF_RX12_181 dX12_isNothing_86 H (fun x4 H => ?_)
        refine r_lstore K [(7, .long _), (5, .long _), (0, .ref _), (1, .int _), (2, .int _), (3, .long _)] dX12_isNothing_89 (by decide) rfl ?_
        refine r_aload_n K 2 dX12_isNothing_91 rfl rfl ?_
        refine r_iconst (v := 2) K dX12_isNothing_92 (by decide) ?_
        refine w_callV K hl H (fun r h => c_X12_laysA l h) mC_yX12_laysA mM_RX12_211 mI_yX12_laysA mS_yX12_laysA mZ_RX12 vc12 (Nat.le_of_ble_eq_true rfl) (Nat.le_of_ble_eq_true rfl) np_yX12_laysA rfl (Nat.le_of_ble_eq_true rfl) dX12_isNothing_93 (fun μ5 H => ?_) ⟨Nat.zero_le _, Nat.zero_le _⟩
        refine r_aload_n K 2 dX12_isNothing_96 rfl rfl ?_
        refine r_lload_n K 5 dX12_isNothing_97 rfl rfl ?_
        refine r_lneg K dX12_isNothing_98 ?_
        refine r_lconst (v := 1) K dX12_isNothing_99 (by decide) ?_
        refine w_callV K hl H (fun r h => c_X12_adds l h) mC_yX12_adds mM_RX12_205 mI_yX12_adds mS_yX12_adds mZ_RX12 vc12 (Nat.le_of_ble_eq_true rfl) (Nat.le_of_ble_eq_true rfl) np_yX12_adds rfl (Nat.le_of_ble_eq_true rfl) dX12_isNothing_100 (fun μ6 H => ?_) ⟨Nat.zero_le _, Nat.zero_le _⟩
        refine r_aload_n K 2 dX12_isNothing_103 rfl rfl ?_
        refine r_lload K 1 dX12_isNothing_104 rfl ?_
        refine r_lload K 0 dX12_isNothing_106 rfl ?_
        refine w_callV K hl H (fun r h => c_X12_multiplies l h) mC_yX12_multiplies mM_RX12_208 mI_yX12_multiplies mS_yX12_multiplies mZ_RX12 vc12 (Nat.le_of_ble_eq_true rfl) (Nat.le_of_ble_eq_true rfl) np_yX12_multiplies rfl (Nat.le_of_ble_eq_true rfl) dX12_isNothing_108 (fun μ7 H => ?_) ⟨Nat.zero_le _, Nat.zero_le _⟩
        refine r_aload_n K 2 dX12_isNothing_111 rfl rfl ?_
        refine w_getL K vc12 inX12 16 (by decide) mF_RX12_177 dX12_isNothing_112 H (fun x8 H => ?_)
        refine r_lstore K [(5, .long _), (7, .long _), (0, .ref _), (1, .int _), (2, .int _), (3, .long _)] dX12_isNothing_115 (by decide) rfl ?_
        refine r_aload_n K 2 dX12_isNothing_117 rfl rfl ?_
        refine w_getL K vc12 inX12 17 (by decide) mF_RX12_181 dX12_isNothing_118 H (fun x9 H => ?_)
        refine r_lstore K [(7, .long _), (5, .long _), (0, .ref _), (1, .int _), (2, .int _), (3, .long _)] dX12_isNothing_121 (by decide) rfl ?_
        refine r_aload_n K 2 dX12_isNothing_123 rfl rfl ?_
        refine r_iconst (v := 2) K dX12_isNothing_124 (by decide) ?_
        refine w_callV K hl H (fun r h => c_X12_laysC l h) mC_yX12_laysC mM_RX12_214 mI_yX12_laysC mS_yX12_laysC mZ_RX12 vc12 (Nat.le_of_ble_eq_true rfl) (Nat.le_of_ble_eq_true rfl) np_yX12_laysC rfl (Nat.le_of_ble_eq_true rfl) dX12_isNothing_125 (fun μ10 H => ?_) ⟨Nat.zero_le _, Nat.zero_le _⟩
        refine r_aload_n K 2 dX12_isNothing_128 rfl rfl ?_
        refine w_getL K vc12 inX12 16 (by decide) mF_RX12_177 dX12_isNothing_129 H (fun x11 H => ?_)
        refine r_lload K 1 dX12_isNothing_132 rfl ?_
        refine r_lcmp K dX12_isNothing_134 ?_
        refine w_if_ne K 152 dX12_isNothing_135 (by decide) H (fun _ H => ?_) (fun _ H => ?_)
        · exact r_sub [] rfl (t_X12_isNothing_152 K hl H D)
        · refine r_aload_n K 2 dX12_isNothing_138 rfl rfl ?_
          refine w_getL K vc12 inX12 17 (by decide) mF_RX12_181 dX12_isNothing_139 H (fun x12 H => ?_)
          refine r_lload K 0 dX12_isNothing_142 rfl ?_
          refine r_lcmp K dX12_isNothing_144 ?_
          refine w_if_ne K 152 dX12_isNothing_145 (by decide) H (fun _ H => ?_) (fun _ H => ?_)
          · exact r_sub [] rfl (t_X12_isNothing_152 K hl H D)
          · refine r_iconst (v := 1) K dX12_isNothing_148 (by decide) ?_
            refine r_goto K 153 dX12_isNothing_149 (by decide) ?_
            exact r_sub [] rfl (t_X12_isNothing_153 K hl H D)
      · refine r_aload_n K 0 dX12_isNothing_64 rfl rfl ?_
        refine w_getL K vc12 inX12 16 (by decide) mF_RX12_177 dX12_isNothing_65 H (fun x13 H => ?_)
        refine r_lconst (v := 0) K dX12_isNothing_68 (by decide) ?_
        refine r_lcmp K dX12_isNothing_69 ?_
        refine w_if_ne K 77 dX12_isNothing_70 (by decide) H (fun _ H => ?_) (fun _ H => ?_)
        · refine r_iconst (v := 0) K dX12_isNothing_77 (by decide) ?_
          exact r_sub [] rfl (t_X12_isNothing_78 K hl H D)
        · refine r_iconst (v := 1) K dX12_isNothing_73 (by decide) ?_
          refine r_goto K 78 dX12_isNothing_74 (by decide) ?_
          exact r_sub [] rfl (t_X12_isNothing_78 K hl H D)
    · refine r_aload_n K 0 dX12_isNothing_26 rfl rfl ?_
      refine r_iload_n K 1 dX12_isNothing_27 rfl rfl ?_
      refine r_lload_n K 3 dX12_isNothing_28 rfl rfl ?_
      refine w_callV K hl H (fun r h => c_X12_laterOf l h) mC_yX12_laterOf mM_RX12_225 mI_yX12_laterOf mS_yX12_laterOf mZ_RX12 vc12 (Nat.le_of_ble_eq_true rfl) (Nat.le_of_ble_eq_true rfl) np_yX12_laterOf rfl (Nat.le_of_ble_eq_true rfl) dX12_isNothing_29 (fun r14 H => ?_) ⟨Nat.zero_le _, Nat.zero_le _⟩
      refine r_lconst (v := 0) K dX12_isNothing_32 (by decide) ?_
      refine r_lcmp K dX12_isNothing_33 ?_
      refine w_if_ne K 41 dX12_isNothing_34 (by decide) H (fun _ H => ?_) (fun _ H => ?_)
      · refine r_iconst (v := 0) K dX12_isNothing_41 (by decide) ?_
        exact r_sub [] rfl (t_X12_isNothing_42 K hl H D)
      · refine r_iconst (v := 1) K dX12_isNothing_37 (by decide) ?_
        refine r_goto K 42 dX12_isNothing_38 (by decide) ?_
        exact r_sub [] rfl (t_X12_isNothing_42 K hl H D)
  · refine r_aload_n K 0 dX12_isNothing_4 rfl rfl ?_
    refine r_iload_n K 1 dX12_isNothing_5 rfl rfl ?_
    refine r_lload_n K 3 dX12_isNothing_6 rfl rfl ?_
    refine w_callV K hl H (fun r h => c_X12_valueOf l h) mC_yX12_valueOf mM_RX12_221 mI_yX12_valueOf mS_yX12_valueOf mZ_RX12 vc12 (Nat.le_of_ble_eq_true rfl) (Nat.le_of_ble_eq_true rfl) np_yX12_valueOf rfl (Nat.le_of_ble_eq_true rfl) dX12_isNothing_7 (fun r15 H => ?_) ⟨Nat.zero_le _, Nat.zero_le _⟩
    refine r_lconst (v := 0) K dX12_isNothing_10 (by decide) ?_
    refine r_lcmp K dX12_isNothing_11 ?_
    refine w_if_ne K 19 dX12_isNothing_12 (by decide) H (fun _ H => ?_) (fun _ H => ?_)
    · refine r_iconst (v := 0) K dX12_isNothing_19 (by decide) ?_
      exact r_sub [] rfl (t_X12_isNothing_20 K hl H D)
    · refine r_iconst (v := 1) K dX12_isNothing_15 (by decide) ?_
      refine r_goto K 20 dX12_isNothing_16 (by decide) ?_
      exact r_sub [] rfl (t_X12_isNothing_20 K hl H D)
theorem c_X12_isNothing (l : Launch) {n : Nat} {Y : jY} {v0 : Nat} {v1 : Int32} {v2 : Int32} {v3 : Int64} {μ : jM} {z : Int32 × jM} (H : f_X12_isNothing Y v0 v1 v2 v3 μ = some z) : jC l yX12_isNothing cX12_isNothing 9 (some .boolean) 8 0 0 [.ref v0, .int v1, .int v2, .long v3] n Y μ n Y (some (.int z.1)) z.2 := by
  refine jC_of (by decide +kernel) (Nat.le_of_ble_eq_true rfl) (fun X hl K _ _ _ => ?_)
  obtain ⟨rr, μr⟩ := z
  exact t_X12_isNothing_0 K hl H rfl
/-! RX12 between(III)I -/
def b_X12_between_24 (Y : jY) (μ : jM) : Option (Int32 × jM) :=
  some ((-1 : Int32), μ)
def b_X12_between_44 (Y : jY) (μ : jM) : Option (Int32 × jM) :=
  some ((-2 : Int32), μ)
def b_X12_between_171 (Y : jY) (t0 : Int32) (μ : jM) : Option (Int32 × jM) :=
  some (t0, μ)
def b_X12_between_153 (Y : jY) (v0 : Nat) (v1 : Int32) (v2 : Int32) (v3 : Int32) (v5 : Int32) (t0 : Int32) (μ : jM) : Option ((Int32 × Int32 × jM) ⊕ (Int32 × jM)) :=
  some (.inl (t0, (v5 + (1 : Int32)), μ))
def b_X12_between_152 (Y : jY) (v0 : Nat) (v1 : Int32) (v2 : Int32) (v3 : Int32) (v5 : Int32) (μ : jM) : Option ((Int32 × Int32 × jM) ⊕ (Int32 × jM)) :=
  b_X12_between_153 Y v0 v1 v2 v3 v5 (0 : Int32) μ
def b_X12_between_73 (Y : jY) (v0 : Nat) (v1 : Int32) (v2 : Int32) (v3 : Int32) (v4 : Int32) (v5 : Int32) (μ : jM) : Option ((Int32 × Int32 × jM) ⊕ (Int32 × jM)) :=
  (jgO Y μ v0 12 26).bind fun x1 =>
  (jaI Y μ x1 20 v2).bind fun x2 =>
  if x2 ≤ v5 then
    if v4 = 0 then
      (b_X12_between_171 Y (0 : Int32) μ).map (fun r => (.inr r))
    else
      (b_X12_between_171 Y (1 : Int32) μ).map (fun r => (.inr r))
  else
    (jgO Y μ v0 12 26).bind fun x3 =>
    (jaI Y μ x3 20 v2).bind fun x4 =>
    (jrcv Y v0 12 (f_X12_rootOf Y v0 v2 ((0 : Int32)) x4 v5 v3 μ)).bind fun r5 =>
    if v4 = 0 then
      b_X12_between_152 Y v0 v1 v2 v3 v5 r5.2
    else
      (jgO Y r5.2 v0 12 26).bind fun x6 =>
      (jaI Y r5.2 x6 20 v1).bind fun x7 =>
      (jrcv Y v0 12 (f_X12_rootOf Y v0 v1 ((0 : Int32)) x7 v5 v3 r5.2)).bind fun r8 =>
      if r5.1 < r8.1 then
        b_X12_between_152 Y v0 v1 v2 v3 v5 r8.2
      else
        (jgO Y r8.2 v0 12 26).bind fun x9 =>
        (jaI Y r8.2 x9 20 v1).bind fun x10 =>
        (jrcv Y v0 12 (f_X12_rootOf Y v0 v1 ((0 : Int32)) x10 ((v5 + ((1 : Int32)))) v3 r8.2)).bind fun r11 =>
        if r11.1 < r5.1 then
          b_X12_between_152 Y v0 v1 v2 v3 v5 r11.2
        else
          b_X12_between_153 Y v0 v1 v2 v3 v5 (1 : Int32) r11.2
def f_X12_between (Y : jY) (v0 : Nat) (v1 : Int32) (v2 : Int32) (v3 : Int32) (μ : jM) : Option (Int32 × jM) :=
  (f_X12_isDrawer Y v1 μ).bind fun r1 =>
  if r1.1 = 0 then
    b_X12_between_24 Y r1.2
  else
    (f_X12_isDrawer Y v2 r1.2).bind fun r2 =>
    if r2.1 = 0 then
      b_X12_between_24 Y r2.2
    else
      (f_X12_in Y v3 ((1 : Int32)) ((50 : Int32)) r2.2).bind fun r3 =>
      if r3.1 = 0 then
        b_X12_between_24 Y r3.2
      else
        (jgO Y r3.2 v0 12 26).bind fun x4 =>
        (jaI Y r3.2 x4 20 v1).bind fun x5 =>
        if x5 = 0 then
          b_X12_between_44 Y r3.2
        else
          (jgO Y r3.2 v0 12 26).bind fun x6 =>
          (jaI Y r3.2 x6 20 v2).bind fun x7 =>
          if x7 = 0 then
            b_X12_between_44 Y r3.2
          else
            (jgO Y r3.2 v0 12 26).bind fun x8 =>
            (jaI Y r3.2 x8 20 v2).bind fun x9 =>
            (jgO Y r3.2 v0 12 26).bind fun x10 =>
            (jaI Y r3.2 x10 20 v1).bind fun x11 =>
            if x9 = ((x11 - ((1 : Int32)))) then
              jit jF (fun (s : Int32 × Int32 × jM) => b_X12_between_73 Y v0 v1 v2 v3 s.1 s.2.1 s.2.2) ((1 : Int32), (0 : Int32), r3.2)
            else
              some ((-3 : Int32), r3.2)
set_option maxRecDepth 10000 in
theorem t_X12_between_24 {X : jX} {l : Launch} {n : Nat} {Y : jY} (K : jOK X RX12 cX12_between 7 (some .int) 4) (hl : X.2.1 = l) {rr : Int32} {μr : jM} {μ : jM} {z : (Int32 × jM)} (H : b_X12_between_24 Y μ = some z) (D : z = (rr, μr)) : JW X (jEnd X n Y (some (.int rr)) μr 0 0) 0 0 n Y 24 [] [] μ := by
  unfold b_X12_between_24 at H
  refine r_iconst (v := -1) K dX12_between_24 (by decide) ?_
  cases H
  obtain ⟨rfl, rfl⟩ := jfin2 D
  exact r_iret K dX12_between_25
set_option maxRecDepth 10000 in
theorem t_X12_between_44 {X : jX} {l : Launch} {n : Nat} {Y : jY} (K : jOK X RX12 cX12_between 7 (some .int) 4) (hl : X.2.1 = l) {rr : Int32} {μr : jM} {μ : jM} {z : (Int32 × jM)} (H : b_X12_between_44 Y μ = some z) (D : z = (rr, μr)) : JW X (jEnd X n Y (some (.int rr)) μr 0 0) 0 0 n Y 44 [] [] μ := by
  unfold b_X12_between_44 at H
  refine r_bipush (v := -2) K dX12_between_44 (by decide) ?_
  cases H
  obtain ⟨rfl, rfl⟩ := jfin2 D
  exact r_iret K dX12_between_46
set_option maxRecDepth 10000 in
theorem t_X12_between_171 {X : jX} {l : Launch} {n : Nat} {Y : jY} (K : jOK X RX12 cX12_between 7 (some .int) 4) (hl : X.2.1 = l) {rr : Int32} {μr : jM} {t0 : Int32} {μ : jM} {z : (Int32 × jM)} (H : b_X12_between_171 Y t0 μ = some z) (D : z = (rr, μr)) : JW X (jEnd X n Y (some (.int rr)) μr 0 0) 0 0 n Y 171 [] [.int t0] μ := by
  unfold b_X12_between_171 at H
  cases H
  obtain ⟨rfl, rfl⟩ := jfin2 D
  exact r_iret K dX12_between_171
set_option maxRecDepth 10000 in
theorem t_X12_between_153 {X : jX} {l : Launch} {n : Nat} {Y : jY} (K : jOK X RX12 cX12_between 7 (some .int) 4) (hl : X.2.1 = l) {rr : Int32} {μr : jM} {v0 : Nat} {v1 : Int32} {v2 : Int32} {v3 : Int32} {v5 : Int32} {t0 : Int32} {μ : jM} {z : ((Int32 × Int32 × jM) ⊕ (Int32 × jM))} (H : b_X12_between_153 Y v0 v1 v2 v3 v5 t0 μ = some z) (D : Sum.elim (fun (s : Int32 × Int32 × jM) => JW X (jEnd X n Y (some (.int rr)) μr 0 0) 0 0 n Y 73 [(0, .ref v0), (1, .int v1), (2, .int v2), (3, .int v3), (4, .int s.1), (5, .int s.2.1)] [] s.2.2) (fun r => r = (rr, μr)) z) : JW X (jEnd X n Y (some (.int rr)) μr 0 0) 0 0 n Y 153 [(0, .ref v0), (1, .int v1), (2, .int v2), (3, .int v3), (5, .int v5)] [.int t0] μ := by
  unfold b_X12_between_153 at H
  refine r_istore K [(4, .int _), (0, .ref _), (1, .int _), (2, .int _), (3, .int _), (5, .int _)] dX12_between_153 (by decide) rfl ?_
  refine r_iinc K 5 [(5, .int _), (4, .int _), (0, .ref _), (1, .int _), (2, .int _), (3, .int _)] (v := _ + (1 : Int32)) dX12_between_155 rfl rfl (by decide) rfl ?_
  refine r_goto K 73 dX12_between_158 (by decide) ?_
  cases H
  exact r_sub [2, 3, 4, 5, 1, 0] rfl D
set_option maxRecDepth 10000 in
theorem t_X12_between_152 {X : jX} {l : Launch} {n : Nat} {Y : jY} (K : jOK X RX12 cX12_between 7 (some .int) 4) (hl : X.2.1 = l) {rr : Int32} {μr : jM} {v0 : Nat} {v1 : Int32} {v2 : Int32} {v3 : Int32} {v5 : Int32} {μ : jM} {z : ((Int32 × Int32 × jM) ⊕ (Int32 × jM))} (H : b_X12_between_152 Y v0 v1 v2 v3 v5 μ = some z) (D : Sum.elim (fun (s : Int32 × Int32 × jM) => JW X (jEnd X n Y (some (.int rr)) μr 0 0) 0 0 n Y 73 [(0, .ref v0), (1, .int v1), (2, .int v2), (3, .int v3), (4, .int s.1), (5, .int s.2.1)] [] s.2.2) (fun r => r = (rr, μr)) z) : JW X (jEnd X n Y (some (.int rr)) μr 0 0) 0 0 n Y 152 [(0, .ref v0), (1, .int v1), (2, .int v2), (3, .int v3), (5, .int v5)] [] μ := by
  unfold b_X12_between_152 at H
  refine r_iconst (v := 0) K dX12_between_152 (by decide) ?_
  exact r_sub [0, 1, 2, 3, 4] rfl (t_X12_between_153 K hl H D)
set_option maxRecDepth 10000 in
theorem t_X12_between_73 {X : jX} {l : Launch} {n : Nat} {Y : jY} (K : jOK X RX12 cX12_between 7 (some .int) 4) (hl : X.2.1 = l) {rr : Int32} {μr : jM} {v0 : Nat} {v1 : Int32} {v2 : Int32} {v3 : Int32} {v4 : Int32} {v5 : Int32} {μ : jM} {z : ((Int32 × Int32 × jM) ⊕ (Int32 × jM))} (H : b_X12_between_73 Y v0 v1 v2 v3 v4 v5 μ = some z) (D : Sum.elim (fun (s : Int32 × Int32 × jM) => JW X (jEnd X n Y (some (.int rr)) μr 0 0) 0 0 n Y 73 [(0, .ref v0), (1, .int v1), (2, .int v2), (3, .int v3), (4, .int s.1), (5, .int s.2.1)] [] s.2.2) (fun r => r = (rr, μr)) z) : JW X (jEnd X n Y (some (.int rr)) μr 0 0) 0 0 n Y 73 [(0, .ref v0), (1, .int v1), (2, .int v2), (3, .int v3), (4, .int v4), (5, .int v5)] [] μ := by
  unfold b_X12_between_73 at H
  refine r_iload K 5 dX12_between_73 rfl ?_
  refine r_aload_n K 0 dX12_between_75 rfl rfl ?_
  refine w_getO K vc12 inX12 26 (by decide) mF_RX12_48 dX12_between_76 H (fun x1 H => ?_)
  refine r_iload_n K 2 dX12_between_79 rfl rfl ?_
  refine w_iald K dX12_between_80 H (fun x2 H => ?_)
  refine w_icmp_ge K 161 dX12_between_81 (by decide) H (fun _ H => ?_) (fun _ H => ?_)
  · refine r_iload K 4 dX12_between_161 rfl ?_
    refine w_if_eq K 170 dX12_between_163 (by decide) H (fun _ H => ?_) (fun _ H => ?_)
    · refine r_iconst (v := 0) K dX12_between_170 (by decide) ?_
      obtain ⟨z2, H2, rfl⟩ := jmap H
      exact r_sub [] rfl (t_X12_between_171 K hl H2 D)
    · refine r_iconst (v := 1) K dX12_between_166 (by decide) ?_
      refine r_goto K 171 dX12_between_167 (by decide) ?_
      obtain ⟨z2, H2, rfl⟩ := jmap H
      exact r_sub [] rfl (t_X12_between_171 K hl H2 D)
  · refine r_aload_n K 0 dX12_between_84 rfl rfl ?_
    refine r_iload_n K 2 dX12_between_85 rfl rfl ?_
    refine r_iconst (v := 0) K dX12_between_86 (by decide) ?_
    refine r_aload_n K 0 dX12_between_87 rfl rfl ?_
    refine w_getO K vc12 inX12 26 (by decide) mF_RX12_48 dX12_between_88 H (fun x3 H => ?_)
    refine r_iload_n K 2 dX12_between_91 rfl rfl ?_
    refine w_iald K dX12_between_92 H (fun x4 H => ?_)
    refine r_iload K 5 dX12_between_93 rfl ?_
    refine r_iload_n K 3 dX12_between_95 rfl rfl ?_
    refine w_callV K hl H (fun r h => c_X12_rootOf l h) mC_yX12_rootOf mM_RX12_289 mI_yX12_rootOf mS_yX12_rootOf mZ_RX12 vc12 (Nat.le_of_ble_eq_true rfl) (Nat.le_of_ble_eq_true rfl) np_yX12_rootOf rfl (Nat.le_of_ble_eq_true rfl) dX12_between_96 (fun r5 H => ?_) ⟨Nat.zero_le _, Nat.zero_le _⟩
    refine r_istore K [(6, .int _), (0, .ref _), (1, .int _), (2, .int _), (3, .int _), (4, .int _), (5, .int _)] dX12_between_99 (by decide) rfl ?_
    refine r_iload K 5 dX12_between_101 rfl ?_
    refine w_if_eq K 152 dX12_between_103 (by decide) H (fun _ H => ?_) (fun _ H => ?_)
    · exact r_sub [1, 2, 3, 4, 6] rfl (t_X12_between_152 K hl H D)
    · refine r_iload K 0 dX12_between_106 rfl ?_
      refine r_aload_n K 1 dX12_between_108 rfl rfl ?_
      refine r_iload_n K 2 dX12_between_109 rfl rfl ?_
      refine r_iconst (v := 0) K dX12_between_110 (by decide) ?_
      refine r_aload_n K 1 dX12_between_111 rfl rfl ?_
      refine w_getO K vc12 inX12 26 (by decide) mF_RX12_48 dX12_between_112 H (fun x6 H => ?_)
      refine r_iload_n K 2 dX12_between_115 rfl rfl ?_
      refine w_iald K dX12_between_116 H (fun x7 H => ?_)
      refine r_iload K 6 dX12_between_117 rfl ?_
      refine r_iload_n K 4 dX12_between_119 rfl rfl ?_
      refine w_callV K hl H (fun r h => c_X12_rootOf l h) mC_yX12_rootOf mM_RX12_289 mI_yX12_rootOf mS_yX12_rootOf mZ_RX12 vc12 (Nat.le_of_ble_eq_true rfl) (Nat.le_of_ble_eq_true rfl) np_yX12_rootOf rfl (Nat.le_of_ble_eq_true rfl) dX12_between_120 (fun r8 H => ?_) ⟨Nat.zero_le _, Nat.zero_le _⟩
      refine w_icmp_lt K 152 dX12_between_123 (by decide) H (fun _ H => ?_) (fun _ H => ?_)
      · exact r_sub [1, 2, 3, 4, 6] rfl (t_X12_between_152 K hl H D)
      · refine r_iload K 0 dX12_between_126 rfl ?_
        refine r_aload_n K 1 dX12_between_128 rfl rfl ?_
        refine r_iload_n K 2 dX12_between_129 rfl rfl ?_
        refine r_iconst (v := 0) K dX12_between_130 (by decide) ?_
        refine r_aload_n K 1 dX12_between_131 rfl rfl ?_
        refine w_getO K vc12 inX12 26 (by decide) mF_RX12_48 dX12_between_132 H (fun x9 H => ?_)
        refine r_iload_n K 2 dX12_between_135 rfl rfl ?_
        refine w_iald K dX12_between_136 H (fun x10 H => ?_)
        refine r_iload K 6 dX12_between_137 rfl ?_
        refine r_iconst (v := 1) K dX12_between_139 (by decide) ?_
        refine r_iadd K dX12_between_140 ?_
        refine r_iload_n K 4 dX12_between_141 rfl rfl ?_
        refine w_callV K hl H (fun r h => c_X12_rootOf l h) mC_yX12_rootOf mM_RX12_289 mI_yX12_rootOf mS_yX12_rootOf mZ_RX12 vc12 (Nat.le_of_ble_eq_true rfl) (Nat.le_of_ble_eq_true rfl) np_yX12_rootOf rfl (Nat.le_of_ble_eq_true rfl) dX12_between_142 (fun r11 H => ?_) ⟨Nat.zero_le _, Nat.zero_le _⟩
        refine w_icmp_gt K 152 dX12_between_145 (by decide) H (fun _ H => ?_) (fun _ H => ?_)
        · exact r_sub [1, 2, 3, 4, 6] rfl (t_X12_between_152 K hl H D)
        · refine r_iconst (v := 1) K dX12_between_148 (by decide) ?_
          refine r_goto K 153 dX12_between_149 (by decide) ?_
          exact r_sub [1, 2, 3, 4, 6] rfl (t_X12_between_153 K hl H D)
set_option maxRecDepth 10000 in
theorem l_X12_between_73 {X : jX} {l : Launch} {n : Nat} {Y : jY} (K : jOK X RX12 cX12_between 7 (some .int) 4) (hl : X.2.1 = l) {rr : Int32} {μr : jM} {v0 : Nat} {v1 : Int32} {v2 : Int32} {v3 : Int32}  {s0 : Int32 × Int32 × jM} {z : (Int32 × jM)} (H : jit jF (fun (s : Int32 × Int32 × jM) => b_X12_between_73 Y v0 v1 v2 v3 s.1 s.2.1 s.2.2) s0 = some z) (D : z = (rr, μr)) : JW X (jEnd X n Y (some (.int rr)) μr 0 0) 0 0 n Y 73 [(0, .ref v0), (1, .int v1), (2, .int v2), (3, .int v3), (4, .int s0.1), (5, .int s0.2.1)] [] s0.2.2 :=
  jit_ind (P := fun (s : Int32 × Int32 × jM) => JW X (jEnd X n Y (some (.int rr)) μr 0 0) 0 0 n Y 73 [(0, .ref v0), (1, .int v1), (2, .int v2), (3, .int v3), (4, .int s.1), (5, .int s.2.1)] [] s.2.2) (D := fun r => r = (rr, μr)) (fun s z Hs Ds => t_X12_between_73 K hl Hs Ds) jF s0 z H D
set_option maxRecDepth 10000 in
theorem t_X12_between_0 {X : jX} {l : Launch} {n : Nat} {Y : jY} (K : jOK X RX12 cX12_between 7 (some .int) 4) (hl : X.2.1 = l) {rr : Int32} {μr : jM} {v0 : Nat} {v1 : Int32} {v2 : Int32} {v3 : Int32} {μ : jM} {z : (Int32 × jM)} (H : f_X12_between Y v0 v1 v2 v3 μ = some z) (D : z = (rr, μr)) : JW X (jEnd X n Y (some (.int rr)) μr 0 0) 0 0 n Y 0 [(0, .ref v0), (1, .int v1), (2, .int v2), (3, .int v3)] [] μ := by
  unfold f_X12_between at H
  refine r_iload_n K 1 dX12_between_0 rfl rfl ?_
  refine w_callS K hl H (fun r h => c_X12_isDrawer l h) mC_yX12_isDrawer mM_RX12_253 mT_yX12_isDrawer mZ_RX12 (Nat.le_of_ble_eq_true rfl) (Nat.le_of_ble_eq_true rfl) np_yX12_isDrawer rfl (Nat.le_of_ble_eq_true rfl) dX12_between_1 (fun r1 H => ?_) ⟨Nat.zero_le _, Nat.zero_le _⟩
  refine w_if_eq K 24 dX12_between_4 (by decide) H (fun _ H => ?_) (fun _ H => ?_)
  · exact r_sub [] rfl (t_X12_between_24 K hl H D)
  · refine r_iload_n K 2 dX12_between_7 rfl rfl ?_
    refine w_callS K hl H (fun r h => c_X12_isDrawer l h) mC_yX12_isDrawer mM_RX12_253 mT_yX12_isDrawer mZ_RX12 (Nat.le_of_ble_eq_true rfl) (Nat.le_of_ble_eq_true rfl) np_yX12_isDrawer rfl (Nat.le_of_ble_eq_true rfl) dX12_between_8 (fun r2 H => ?_) ⟨Nat.zero_le _, Nat.zero_le _⟩
    refine w_if_eq K 24 dX12_between_11 (by decide) H (fun _ H => ?_) (fun _ H => ?_)
    · exact r_sub [] rfl (t_X12_between_24 K hl H D)
    · refine r_iload_n K 3 dX12_between_14 rfl rfl ?_
      refine r_iconst (v := 1) K dX12_between_15 (by decide) ?_
      refine r_bipush (v := 50) K dX12_between_16 (by decide) ?_
      refine w_callS K hl H (fun r h => c_X12_in l h) mC_yX12_in mM_RX12_134 mT_yX12_in mZ_RX12 (Nat.le_of_ble_eq_true rfl) (Nat.le_of_ble_eq_true rfl) np_yX12_in rfl (Nat.le_of_ble_eq_true rfl) dX12_between_18 (fun r3 H => ?_) ⟨Nat.zero_le _, Nat.zero_le _⟩
      refine w_if_ne K 26 dX12_between_21 (by decide) H (fun _ H => ?_) (fun _ H => ?_)
      · refine r_aload_n K 0 dX12_between_26 rfl rfl ?_
        refine w_getO K vc12 inX12 26 (by decide) mF_RX12_48 dX12_between_27 H (fun x4 H => ?_)
        refine r_iload_n K 1 dX12_between_30 rfl rfl ?_
        refine w_iald K dX12_between_31 H (fun x5 H => ?_)
        refine w_if_eq K 44 dX12_between_32 (by decide) H (fun _ H => ?_) (fun _ H => ?_)
        · exact r_sub [] rfl (t_X12_between_44 K hl H D)
        · refine r_aload_n K 0 dX12_between_35 rfl rfl ?_
          refine w_getO K vc12 inX12 26 (by decide) mF_RX12_48 dX12_between_36 H (fun x6 H => ?_)
          refine r_iload_n K 2 dX12_between_39 rfl rfl ?_
          refine w_iald K dX12_between_40 H (fun x7 H => ?_)
          refine w_if_ne K 47 dX12_between_41 (by decide) H (fun _ H => ?_) (fun _ H => ?_)
          · refine r_aload_n K 0 dX12_between_47 rfl rfl ?_
            refine w_getO K vc12 inX12 26 (by decide) mF_RX12_48 dX12_between_48 H (fun x8 H => ?_)
            refine r_iload_n K 2 dX12_between_51 rfl rfl ?_
            refine w_iald K dX12_between_52 H (fun x9 H => ?_)
            refine r_aload_n K 0 dX12_between_53 rfl rfl ?_
            refine w_getO K vc12 inX12 26 (by decide) mF_RX12_48 dX12_between_54 H (fun x10 H => ?_)
            refine r_iload_n K 1 dX12_between_57 rfl rfl ?_
            refine w_iald K dX12_between_58 H (fun x11 H => ?_)
            refine r_iconst (v := 1) K dX12_between_59 (by decide) ?_
            refine r_isub K dX12_between_60 ?_
            refine w_icmp_eq K 67 dX12_between_61 (by decide) H (fun _ H => ?_) (fun _ H => ?_)
            · refine r_iconst (v := 1) K dX12_between_67 (by decide) ?_
              refine r_istore K [(4, .int _), (0, .ref _), (1, .int _), (2, .int _), (3, .int _)] dX12_between_68 (by decide) rfl ?_
              refine r_iconst (v := 0) K dX12_between_70 (by decide) ?_
              refine r_istore K [(5, .int _), (4, .int _), (0, .ref _), (1, .int _), (2, .int _), (3, .int _)] dX12_between_71 (by decide) rfl ?_
              exact r_sub [2, 3, 4, 5, 1, 0] rfl (l_X12_between_73 K hl H D)
            · refine r_bipush (v := -3) K dX12_between_64 (by decide) ?_
              cases H
              obtain ⟨rfl, rfl⟩ := jfin2 D
              exact r_iret K dX12_between_66
          · exact r_sub [] rfl (t_X12_between_44 K hl H D)
      · exact r_sub [] rfl (t_X12_between_24 K hl H D)
theorem c_X12_between (l : Launch) {n : Nat} {Y : jY} {v0 : Nat} {v1 : Int32} {v2 : Int32} {v3 : Int32} {μ : jM} {z : Int32 × jM} (H : f_X12_between Y v0 v1 v2 v3 μ = some z) : jC l yX12_between cX12_between 7 (some .int) 4 0 0 [.ref v0, .int v1, .int v2, .int v3] n Y μ n Y (some (.int z.1)) z.2 := by
  refine jC_of (by decide +kernel) (Nat.le_of_ble_eq_true rfl) (fun X hl K _ _ _ => ?_)
  obtain ⟨rr, μr⟩ := z
  exact t_X12_between_0 K hl H rfl
