/-! OPS: keep. A state more is made -/
theorem kAI.ext {Y Y2 : jY} {μ μ2 : jM} {a n : Nat} (h : kAI Y μ a n) (hy : Y2 a = Y a) (hm : μ2 a = μ a) : kAI Y2 μ2 a n := ⟨by rw [hy]; exact h.1, h.2.1, h.2.2.1, fun j hj => by unfold isI; rw [hm]; exact h.2.2.2 j hj⟩
theorem kAB.ext {Y Y2 : jY} {μ μ2 : jM} {a n : Nat} (h : kAB Y μ a n) (hy : Y2 a = Y a) (hm : μ2 a = μ a) : kAB Y2 μ2 a n := ⟨by rw [hy]; exact h.1, h.2.1, h.2.2.1, fun j hj => by unfold isI; rw [hm]; exact h.2.2.2 j hj⟩
theorem kAL.ext {Y Y2 : jY} {μ μ2 : jM} {a n : Nat} (h : kAL Y μ a n) (hy : Y2 a = Y a) (hm : μ2 a = μ a) : kAL Y2 μ2 a n := ⟨by rw [hy]; exact h.1, h.2.1, h.2.2.1, fun j hj => by unfold isL; rw [hm]; exact h.2.2.2 j hj⟩
theorem isI.ext {μ μ2 : jM} {a j : Nat} (h : isI μ a j) (hm : μ2 a = μ a) : isI μ2 a j := by unfold isI; rw [hm]; exact h
theorem isL.ext {μ μ2 : jM} {a j : Nat} (h : isL μ a j) (hm : μ2 a = μ a) : isL μ2 a j := by unfold isL; rw [hm]; exact h
theorem kT.ext {Y Y2 : jY} {μ μ2 : jM} {o : Nat} (h : kT Y μ o) (hy : ∀ i, o ≤ i → i < o + 3 → Y2 i = Y i) (hm : ∀ i, o ≤ i → i < o + 3 → μ2 i = μ i) : kT Y2 μ2 o := ⟨by rw [hy o (by omega) (by omega)]; exact h.1, h.2.1, h.2.2.1.ext (hm o (by omega) (by omega)), by rw [hm o (by omega) (by omega)]; exact h.2.2.2.1, by rw [hm o (by omega) (by omega)]; exact h.2.2.2.2.1, h.2.2.2.2.2.1.ext (hy _ (by omega) (by omega)) (hm _ (by omega) (by omega)), h.2.2.2.2.2.2.ext (hy _ (by omega) (by omega)) (hm _ (by omega) (by omega))⟩
theorem kN.ext {Y Y2 : jY} {μ μ2 : jM} {o : Nat} (h : kN Y μ o) (hy : ∀ i, o ≤ i → i < o + 3 → Y2 i = Y i) (hm : ∀ i, o ≤ i → i < o + 3 → μ2 i = μ i) : kN Y2 μ2 o := ⟨by rw [hy o (by omega) (by omega)]; exact h.1, h.2.1, h.2.2.1.ext (hm o (by omega) (by omega)), by rw [hm o (by omega) (by omega)]; exact h.2.2.2.1, by rw [hm o (by omega) (by omega)]; exact h.2.2.2.2.1, h.2.2.2.2.2.1.ext (hy _ (by omega) (by omega)) (hm _ (by omega) (by omega)), h.2.2.2.2.2.2.ext (hy _ (by omega) (by omega)) (hm _ (by omega) (by omega))⟩
theorem kS.ext {Y Y2 : jY} {μ μ2 : jM} {b : Nat} (h : kS Y μ b) (hy : ∀ i, b ≤ i → i < b + 17 → Y2 i = Y i) (hm : ∀ i, b ≤ i → i < b + 17 → μ2 i = μ i) : kS Y2 μ2 b := ⟨by rw [hy b (by omega) (by omega)]; exact h.1, h.2.1, by rw [hm b (by omega) (by omega)]; exact h.2.2.1, by rw [hm b (by omega) (by omega)]; exact h.2.2.2.1, h.2.2.2.2.1.ext (fun i p q => hy i (by omega) (by omega)) (fun i p q => hm i (by omega) (by omega)), by rw [hy _ (by omega) (by omega)]; exact h.2.2.2.2.2.1, fun d hd => ⟨by rw [hm _ (by omega) (by omega)]; exact (h.2.2.2.2.2.2 d hd).1, (h.2.2.2.2.2.2 d hd).2.ext (fun i p q => hy i (by omega) (by omega)) (fun i p q => hm i (by omega) (by omega))⟩⟩
theorem kFr.ext {Y Y2 : jY} {μ μ2 : jM} {o : Nat} (h : kFr Y μ o) (hy : Y2 o = Y o) (hm : μ2 o = μ o) : kFr Y2 μ2 o := ⟨by rw [hy]; exact h.1, h.2.1, h.2.2.1.ext hm, h.2.2.2.ext hm⟩
theorem kFA.ext {Y Y2 : jY} {μ μ2 : jM} {a n : Nat} (h : kFA Y μ a n) (hy : ∀ i, a ≤ i → i < a + 6 → Y2 i = Y i) (hm : ∀ i, a ≤ i → i < a + 6 → μ2 i = μ i) : kFA Y2 μ2 a n := ⟨by rw [hy a (by omega) (by omega)]; exact h.1, h.2.1, fun j hj => ⟨by rw [hm a (by omega) (by omega)]; exact (h.2.2 j hj).1, (h.2.2 j hj).2.ext (hy _ (by omega) (by have := h.2.1; omega)) (hm _ (by omega) (by have := h.2.1; omega))⟩⟩
theorem kX.ext {Y Y2 : jY} {μ μ2 : jM} (h : kX Y μ) (hy : ∀ i, i < 95 → Y2 i = Y i) (hm : ∀ i, i < 95 → i ≠ 26 → μ2 i = μ i) : kX Y2 μ2 := by
  obtain ⟨h1, h2, h3, h4, h5, h6, h7, h8, h9, h10, h11, h12, h13⟩ := h
  have b1 : ∀ q ∈ kXt, q.1 < 95 := by decide
  have b2 : ∀ q ∈ kXr, q.1 < 95 ∧ q.1 ≠ 26 := by decide
  have b3 : ∀ q ∈ kXi, q.1 < 95 ∧ q.1 ≠ 26 := by decide
  have b4 : ∀ q ∈ kXai, q.1 < 95 ∧ q.1 ≠ 26 := by decide
  have b5 : ∀ q ∈ kXal, q.1 < 95 ∧ q.1 ≠ 26 := by decide
  have b6 : ∀ q ∈ kXfa, 26 < q.1 ∧ q.1 + 6 < 95 := by decide
  have b7 : ∀ q ∈ kXf, q < 95 ∧ q ≠ 26 := by decide
  exact ⟨fun q hq => by rw [hy _ (b1 q hq)]; exact h1 q hq, fun q hq => by rw [hm _ (b2 q hq).1 (b2 q hq).2]; exact h2 q hq, fun q hq => (h3 q hq).ext (hm _ (b3 q hq).1 (b3 q hq).2), fun q hq => (h4 q hq).ext (hy _ (b4 q hq).1) (hm _ (b4 q hq).1 (b4 q hq).2), fun q hq => (h5 q hq).ext (hy _ (b5 q hq).1) (hm _ (b5 q hq).1 (b5 q hq).2), fun q hq => (h6 q hq).ext (fun i p r => hy i (by have := b6 q hq; omega)) (fun i p r => hm i (by have := b6 q hq; omega) (by have := b6 q hq; omega)), fun q hq => (h7 q hq).ext (hy _ (b7 q hq).1) (hm _ (b7 q hq).1 (b7 q hq).2), h8.ext (fun i p r => hy i (by omega)) (fun i p r => hm i (by omega) (by omega)), h9.ext (fun i p r => hy i (by omega)) (fun i p r => hm i (by omega) (by omega)), h10.ext (fun i p r => hy i (by omega)) (fun i p r => hm i (by omega) (by omega)), h11.ext (fun i p r => hy i (by omega)) (fun i p r => hm i (by omega) (by omega)), by rw [hy 26 (by omega)]; exact h12, by rw [hy 79 (by omega)]; exact h13⟩
theorem kM.ext {Y Y2 : jY} {μ μ2 : jM} (h : kM Y μ) (hy : ∀ i, 95 ≤ i → i < 123 → Y2 i = Y i) (hm : ∀ i, 95 ≤ i → i < 123 → μ2 i = μ i) : kM Y2 μ2 := by
  obtain ⟨h1, h2, h3, h4, h5, h6, h7⟩ := h
  have b5 : ∀ q ∈ kMai, 95 ≤ q.1 ∧ q.1 < 123 := by decide
  have b6 : ∀ q ∈ kMal, 95 ≤ q.1 ∧ q.1 < 123 := by decide
  have e := hm 95 (by omega) (by omega)
  exact ⟨by rw [hy 95 (by omega) (by omega)]; exact h1, fun q hq => (h2 q hq).ext e, ⟨h3.1.ext e, h3.2.ext e⟩, fun q hq => by rw [e]; exact h4 q hq, fun q hq => (h5 q hq).ext (hy _ (b5 q hq).1 (b5 q hq).2) (hm _ (b5 q hq).1 (b5 q hq).2), fun q hq => (h6 q hq).ext (hy _ (b6 q hq).1 (b6 q hq).2) (hm _ (b6 q hq).1 (b6 q hq).2), h7.ext (hy _ (by omega) (by omega)) (hm _ (by omega) (by omega))⟩
theorem lay_new {Y : jY} {μ : jM} {o a k : Nat} (ha : a < o) : kT (mY_X10_init (o + 1) (jYn Y o 10 3)) (jw (mM_X10_init (o + 1) o (jMn μ o (jdef tyX10))) a k (.ref o)) o ∧ (∀ i, i < o → mY_X10_init (o + 1) (jYn Y o 10 3) i = Y i) ∧ (∀ i, i < o → i ≠ a → jw (mM_X10_init (o + 1) o (jMn μ o (jdef tyX10))) a k (.ref o) i = μ i) ∧ jw (mM_X10_init (o + 1) o (jMn μ o (jdef tyX10))) a k (.ref o) a k = .ref o ∧ ∀ j, j ≠ k → jw (mM_X10_init (o + 1) o (jMn μ o (jdef tyX10))) a k (.ref o) a j = μ a j := by
  refine ⟨⟨?_, by omega, ⟨0, ?_⟩, ?_, ?_, ⟨?_, by omega, by omega, fun j hj => ⟨0, ?_⟩⟩, ⟨?_, by omega, by omega, fun j hj => ⟨0, ?_⟩⟩⟩, fun i hi => ?_, fun i hi hia => ?_, ?_, fun j hj => ?_⟩
  · rw [mY_X10_init_lt (by omega), jYn_eq]
  · rw [jw_cell (by omega)]
    simp (disch := omega) only [mM_X10_init, jw, jMn, if_pos, if_neg, if_true, and_self, true_and, and_true]
    try rfl
  · rw [jw_cell (by omega)]
    simp (disch := omega) only [mM_X10_init, jw, jMn, if_pos, if_neg, if_true, and_self, true_and, and_true]
    try rfl
  · rw [jw_cell (by omega)]
    simp (disch := omega) only [mM_X10_init, jw, jMn, if_pos, if_neg, if_true, and_self, true_and, and_true]
    try rfl
  · simp (disch := omega) only [mY_X10_init, jYn, if_pos, if_neg, if_true, and_self, true_and, and_true]
    try rfl
  · rw [jw_cell (by omega)]
    simp (disch := omega) only [mM_X10_init, jw, jMn, if_pos, if_neg, if_true, and_self, true_and, and_true]
    try rfl
  · simp (disch := omega) only [mY_X10_init, jYn, if_pos, if_neg, if_true, and_self, true_and, and_true]
    try rfl
  · rw [jw_cell (by omega)]
    simp (disch := omega) only [mM_X10_init, jw, jMn, if_pos, if_neg, if_true, and_self, true_and, and_true]
    try rfl
  · rw [mY_X10_init_lt (by omega), jYn_ne (by omega)]
  · rw [jw_cell hia, mM_X10_init_lt (by omega) (by omega), jMn_ne (by omega)]
  · rw [jw_same]
  · rw [jw_ne _ _ (by omega), mM_X10_init_lt (by omega) (by omega), jMn_ne (by omega)]
theorem ton_new {Y : jY} {μ : jM} {n : Nat} (hn : 0 < n) : kN (jYn (mY_X9_init (n + 2) (jYn (jYn Y n 3 2) (n + 1) 9 3)) (n + 4) 24 4) (jw (jMn (jw (mM_X9_init (n + 2) (n + 1) (jMn (jMn μ n (jdef tyX3)) (n + 1) (jdef tyX9))) n 0 (.ref (n + 1))) (n + 4) (fun _ => .null)) n 1 (.ref (n + 4))) (n + 1) ∧ jw (jMn (jw (mM_X9_init (n + 2) (n + 1) (jMn (jMn μ n (jdef tyX3)) (n + 1) (jdef tyX9))) n 0 (.ref (n + 1))) (n + 4) (fun _ => .null)) n 1 (.ref (n + 4)) n 0 = .ref (n + 1) ∧ jw (jMn (jw (mM_X9_init (n + 2) (n + 1) (jMn (jMn μ n (jdef tyX3)) (n + 1) (jdef tyX9))) n 0 (.ref (n + 1))) (n + 4) (fun _ => .null)) n 1 (.ref (n + 4)) n 1 = .ref (n + 4) ∧ jYn (mY_X9_init (n + 2) (jYn (jYn Y n 3 2) (n + 1) 9 3)) (n + 4) 24 4 n = (3, 2) ∧ jYn (mY_X9_init (n + 2) (jYn (jYn Y n 3 2) (n + 1) 9 3)) (n + 4) 24 4 (n + 4) = (24, 4) := by
  refine ⟨⟨?_, by omega, ⟨0, ?_⟩, ?_, ?_, ⟨?_, by omega, by omega, fun j hj => ⟨0, ?_⟩⟩, ⟨?_, by omega, by omega, fun j hj => ⟨0, ?_⟩⟩⟩, ?_, ?_, ?_, ?_⟩
  · simp (disch := omega) only [mY_X9_init, jYn, if_pos, if_neg, if_true, and_self, true_and, and_true]
    try rfl
  · simp (disch := omega) only [mM_X9_init, jw, jMn, if_pos, if_neg, if_true, and_self, true_and, and_true]
    try rfl
  · simp (disch := omega) only [mM_X9_init, jw, jMn, if_pos, if_neg, if_true, and_self, true_and, and_true]
    try rfl
  · simp (disch := omega) only [mM_X9_init, jw, jMn, if_pos, if_neg, if_true, and_self, true_and, and_true]
    try rfl
  · simp (disch := omega) only [mY_X9_init, jYn, if_pos, if_neg, if_true, and_self, true_and, and_true]
    try rfl
  · simp (disch := omega) only [mM_X9_init, jw, jMn, if_pos, if_neg, if_true, and_self, true_and, and_true]
    try rfl
  · simp (disch := omega) only [mY_X9_init, jYn, if_pos, if_neg, if_true, and_self, true_and, and_true]
    try rfl
  · simp (disch := omega) only [mM_X9_init, jw, jMn, if_pos, if_neg, if_true, and_self, true_and, and_true]
    try rfl
  · simp (disch := omega) only [mM_X9_init, jw, jMn, if_pos, if_neg, if_true, and_self, true_and, and_true]
    try rfl
  · simp (disch := omega) only [mM_X9_init, jw, jMn, if_pos, if_neg, if_true, and_self, true_and, and_true]
    try rfl
  · simp (disch := omega) only [mY_X9_init, jYn, if_pos, if_neg, if_true, and_self, true_and, and_true]
    try rfl
  · simp (disch := omega) only [mY_X9_init, jYn, if_pos, if_neg, if_true, and_self, true_and, and_true]
    try rfl
theorem kS_new {Y : jY} {μ : jM} {n : Nat} (hn : 123 ≤ n) : kS (mY_X3_init (n + 1) (jYn Y n 3 2)) (mM_X3_init (n + 1) n (jMn μ n (jdef tyX3))) n := by
  obtain ⟨t1, t2, t3, t4, t5⟩ := ton_new (Y := Y) (μ := μ) (n := n) (by omega)
  unfold mY_X3_init mM_X3_init
  simp only [Nat.add_assoc, Nat.reduceAdd] at t1 t2 t3 t4 t5 ⊢
  generalize jYn (mY_X9_init (n + 2) (jYn (jYn Y n 3 2) (n + 1) 9 3)) (n + 4) 24 4 = Y1 at *
  generalize jw (jMn (jw (mM_X9_init (n + 2) (n + 1) (jMn (jMn μ n (jdef tyX3)) (n + 1) (jdef tyX9))) n 0 (.ref (n + 1))) (n + 4) (fun _ => .null)) n 1 (.ref (n + 4)) = μ1 at *
  obtain ⟨a1, a2, a3, a4, a5⟩ := lay_new (Y := Y1) (μ := μ1) (o := n + 5) (a := n + 4) (k := 0) (by omega)
  simp only [Nat.add_assoc, Nat.reduceAdd] at a1 a2 a3 a4 a5
  generalize mY_X10_init (n + 6) (jYn Y1 (n + 5) 10 3) = Y2 at *
  generalize jw (mM_X10_init (n + 6) (n + 5) (jMn μ1 (n + 5) (jdef tyX10))) (n + 4) 0 (.ref (n + 5)) = μ2 at *
  obtain ⟨b1, b2, b3, b4, b5⟩ := lay_new (Y := Y2) (μ := μ2) (o := n + 8) (a := n + 4) (k := 1) (by omega)
  simp only [Nat.add_assoc, Nat.reduceAdd] at b1 b2 b3 b4 b5
  generalize mY_X10_init (n + 9) (jYn Y2 (n + 8) 10 3) = Y3 at *
  generalize jw (mM_X10_init (n + 9) (n + 8) (jMn μ2 (n + 8) (jdef tyX10))) (n + 4) 1 (.ref (n + 8)) = μ3 at *
  obtain ⟨c1, c2, c3, c4, c5⟩ := lay_new (Y := Y3) (μ := μ3) (o := n + 11) (a := n + 4) (k := 2) (by omega)
  simp only [Nat.add_assoc, Nat.reduceAdd] at c1 c2 c3 c4 c5
  generalize mY_X10_init (n + 12) (jYn Y3 (n + 11) 10 3) = Y4 at *
  generalize jw (mM_X10_init (n + 12) (n + 11) (jMn μ3 (n + 11) (jdef tyX10))) (n + 4) 2 (.ref (n + 11)) = μ4 at *
  obtain ⟨d1, d2, d3, d4, d5⟩ := lay_new (Y := Y4) (μ := μ4) (o := n + 14) (a := n + 4) (k := 3) (by omega)
  simp only [Nat.add_assoc, Nat.reduceAdd] at d1 d2 d3 d4 d5
  generalize mY_X10_init (n + 15) (jYn Y4 (n + 14) 10 3) = Y5 at *
  generalize jw (mM_X10_init (n + 15) (n + 14) (jMn μ4 (n + 14) (jdef tyX10))) (n + 4) 3 (.ref (n + 14)) = μ5 at *
  have eY : ∀ i, i < n + 5 → Y5 i = Y1 i := fun i hi => by rw [d2 i (by omega), c2 i (by omega), b2 i (by omega), a2 i (by omega)]
  have eM : ∀ i, i < n + 5 → i ≠ n + 4 → μ5 i = μ1 i := fun i hi h => by rw [d3 i (by omega) h, c3 i (by omega) h, b3 i (by omega) h, a3 i (by omega) h]
  refine ⟨by rw [eY n (by omega), t4], by omega, by rw [eM n (by omega) (by omega), t2], by rw [eM n (by omega) (by omega), t3], t1.ext (fun i p q => eY i (by omega)) (fun i p q => eM i (by omega) (by omega)), by rw [eY _ (by omega), t5], fun d hd => ?_⟩
  have : d = 0 ∨ d = 1 ∨ d = 2 ∨ d = 3 := by omega
  rcases this with rfl | rfl | rfl | rfl
  · exact ⟨by rw [d5 0 (by omega), c5 0 (by omega), b5 0 (by omega)]; exact a4, a1.ext (fun i p q => by rw [d2 i (by omega), c2 i (by omega), b2 i (by omega)]) (fun i p q => by rw [d3 i (by omega) (by omega), c3 i (by omega) (by omega), b3 i (by omega) (by omega)])⟩
  · exact ⟨by rw [d5 1 (by omega), c5 1 (by omega)]; exact b4, b1.ext (fun i p q => by rw [d2 i (by omega), c2 i (by omega)]) (fun i p q => by rw [d3 i (by omega) (by omega), c3 i (by omega) (by omega)])⟩
  · exact ⟨by rw [d5 2 (by omega)]; exact c4, c1.ext (fun i p q => by rw [d2 i (by omega)]) (fun i p q => by rw [d3 i (by omega) (by omega)])⟩
  · exact ⟨d4, d1⟩
