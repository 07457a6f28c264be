/-! THE INVARIANT: class and reference hold the same -/
def kN (Y : jY) (μ : jM) (o : Nat) : Prop := (Y o).1 = 9 ∧ o ≠ 0 ∧ isI μ o 0 ∧ μ o 1 = .ref (o + 1) ∧ μ o 2 = .ref (o + 2) ∧ kAI Y μ (o + 1) 4 ∧ kAI Y μ (o + 2) 3
theorem kN.to {Y : jY} {μ μ' : jM} {o lo hi : Nat} (h : kN Y μ o) (k : kF lo hi μ μ') : kN Y μ' o := ⟨h.1, h.2.1, k.I h.2.2.1, k.R h.2.2.2.1, k.R h.2.2.2.2.1, h.2.2.2.2.2.1.to k, h.2.2.2.2.2.2.to k⟩
theorem kN.y {Y : jY} {μ : jM} {o : Nat} (h : kN Y μ o) : (Y o).1 = 9 := h.1
theorem kN.ir {Y : jY} {μ : jM} {o : Nat} (h : kN Y μ o) : isI μ o 0 := h.2.2.1
theorem kN.aa {Y : jY} {μ : jM} {o : Nat} (h : kN Y μ o) : kAI Y μ (o + 1) 4 := h.2.2.2.2.2.1
theorem kN.ac {Y : jY} {μ : jM} {o : Nat} (h : kN Y μ o) : kAI Y μ (o + 2) 3 := h.2.2.2.2.2.2
theorem kN.ga {Y : jY} {μ : jM} {o : Nat} (h : kN Y μ o) : jgO Y μ o 9 1 = some (o + 1) := kgO h.y h.2.2.2.1
theorem kN.gc {Y : jY} {μ : jM} {o : Nat} (h : kN Y μ o) : jgO Y μ o 9 2 = some (o + 2) := kgO h.y h.2.2.2.2.1
theorem kN.gr {Y : jY} {μ : jM} {o : Nat} (h : kN Y μ o) : jgI Y μ o 9 0 = some (ki (gi μ o 0)) := kgI h.y h.2.2.1
theorem kN.pr {Y : jY} {μ : jM} {o : Nat} (h : kN Y μ o) {μ2 : jM} (v : Value) : jput Y μ2 o 9 0 v = some (jw μ2 o 0 v) := kput h.y h.2.1
def kS (Y : jY) (μ : jM) (b : Nat) : Prop := (Y b).1 = 3 ∧ b ≠ 0 ∧ μ b 0 = .ref (b + 1) ∧ μ b 1 = .ref (b + 4) ∧ kN Y μ (b + 1) ∧ Y (b + 4) = (24, 4) ∧ ∀ d, d < 4 → μ (b + 4) d = .ref (b + 5 + 3 * d) ∧ kT Y μ (b + 5 + 3 * d)
theorem kS.to {Y : jY} {μ μ' : jM} {o lo hi : Nat} (h : kS Y μ o) (k : kF lo hi μ μ') : kS Y μ' o := ⟨h.1, h.2.1, k.R h.2.2.1, k.R h.2.2.2.1, h.2.2.2.2.1.to k, h.2.2.2.2.2.1, fun d hd => ⟨k.R (h.2.2.2.2.2.2 d hd).1, (h.2.2.2.2.2.2 d hd).2.to k⟩⟩
theorem kS.y {Y : jY} {μ : jM} {b : Nat} (h : kS Y μ b) : (Y b).1 = 3 := h.1
theorem kS.n {Y : jY} {μ : jM} {b : Nat} (h : kS Y μ b) : kN Y μ (b + 1) := h.2.2.2.2.1
theorem kS.gn {Y : jY} {μ : jM} {b : Nat} (h : kS Y μ b) : jgO Y μ b 3 0 = some (b + 1) := kgO h.y h.2.2.1
theorem kS.gd {Y : jY} {μ : jM} {b : Nat} (h : kS Y μ b) : jgO Y μ b 3 1 = some (b + 4) := kgO h.y h.2.2.2.1
theorem kS.t {Y : jY} {μ : jM} {b : Nat} (h : kS Y μ b) {d : Int} (h1 : 0 ≤ d) (h2 : d ≤ 3) : kT Y μ (b + 5 + 3 * d.toNat) := (h.2.2.2.2.2.2 d.toNat (by omega)).2
theorem kS.gt {Y : jY} {μ : jM} {b : Nat} (h : kS Y μ b) {d : Int} (h1 : 0 ≤ d) (h2 : d ≤ 3) : jaO Y μ (b + 4) 24 (ki d) = some (b + 5 + 3 * d.toNat) := by
  unfold jaO
  rw [h.2.2.2.2.2.1, if_pos rfl, kjix h1 (by show d < ((4 : Nat) : Int); omega) (by decide), Option.bind_some, (h.2.2.2.2.2.2 d.toNat (by omega)).1]
  rfl
def kFr (Y : jY) (μ : jM) (o : Nat) : Prop := (Y o).1 = 1 ∧ o ≠ 0 ∧ isL μ o 0 ∧ isL μ o 1
theorem kFr.to {Y : jY} {μ μ' : jM} {o lo hi : Nat} (h : kFr Y μ o) (k : kF lo hi μ μ') : kFr Y μ' o := ⟨h.1, h.2.1, k.L h.2.2.1, k.L h.2.2.2⟩
def kFA (Y : jY) (μ : jM) (a n : Nat) : Prop := Y a = (23, n) ∧ n ≤ 5 ∧ ∀ j, j < n → μ a j = .ref (a + 1 + j) ∧ kFr Y μ (a + 1 + j)
theorem kFA.to {Y : jY} {μ μ' : jM} {a n lo hi : Nat} (h : kFA Y μ a n) (k : kF lo hi μ μ') : kFA Y μ' a n := ⟨h.1, h.2.1, fun j hj => ⟨k.R (h.2.2 j hj).1, (h.2.2 j hj).2.to k⟩⟩
/-- the class's own cells, but for the kept ones: what refers to what, and of what kind each place is -/
def kXr : List (Nat × Nat × Nat) := [(1, 0, 2), (1, 1, 4), (1, 2, 7), (1, 3, 9), (1, 4, 26), (1, 6, 27), (1, 7, 31), (1, 8, 72), (1, 9, 78), (1, 10, 88), (1, 11, 91), (1, 12, 94), (2, 0, 3), (4, 0, 5), (4, 1, 6), (7, 0, 8), (27, 1, 28), (27, 2, 29), (27, 3, 30), (31, 0, 27), (31, 2, 32), (31, 3, 37), (31, 4, 41), (31, 5, 45), (31, 6, 49), (31, 7, 55), (31, 8, 61), (31, 9, 67), (31, 10, 68), (31, 11, 69), (31, 12, 70), (31, 13, 71), (72, 0, 73), (72, 2, 76), (72, 3, 77), (78, 0, 79), (78, 1, 86), (78, 2, 87), (79, 0, 80), (79, 1, 81), (79, 2, 82), (79, 3, 83), (79, 4, 84), (79, 5, 85)]
def kXi : List (Nat × Nat) := [(1, 5), (2, 1), (4, 2), (4, 3), (4, 4), (4, 5), (4, 6), (7, 1), (27, 0), (31, 1), (72, 1)]
def kXt : List (Nat × Nat) := [(1, 11), (2, 5), (4, 6), (7, 2), (9, 3), (27, 7), (31, 8), (72, 0), (78, 4)]
def kXai : List (Nat × Nat) := [(3, 120), (5, 5), (6, 4), (8, 60)]
def kXal : List (Nat × Nat) := [(28, 5), (29, 4), (30, 8), (76, 4), (77, 3), (80, 6), (81, 6), (82, 6), (83, 6), (84, 6), (85, 6), (86, 5), (87, 5)]
def kXfa : List (Nat × Nat) := [(32, 4), (37, 3), (41, 3), (45, 3), (49, 5), (55, 5), (61, 5)]
def kXf : List Nat := [67, 68, 69, 70, 71, 94]
def kX (Y : jY) (μ : jM) : Prop := (∀ q ∈ kXt, (Y q.1).1 = q.2) ∧ (∀ q ∈ kXr, μ q.1 q.2.1 = .ref q.2.2) ∧ (∀ q ∈ kXi, isI μ q.1 q.2) ∧ (∀ q ∈ kXai, kAI Y μ q.1 q.2) ∧ (∀ q ∈ kXal, kAL Y μ q.1 q.2) ∧ (∀ q ∈ kXfa, kFA Y μ q.1 q.2) ∧ (∀ q ∈ kXf, kFr Y μ q) ∧ kS Y μ 9 ∧ kT Y μ 73 ∧ kT Y μ 88 ∧ kN Y μ 91 ∧ Y 26 = (25, 8) ∧ Y 79 = (26, 6)
theorem kX.to {Y : jY} {μ μ' : jM} {lo hi : Nat} (h : kX Y μ) (k : kF lo hi μ μ') : kX Y μ' := by
  obtain ⟨h1, h2, h3, h4, h5, h6, h7, h8, h9, h10, h11, h12⟩ := h
  exact ⟨h1, fun q hq => k.R (h2 q hq), fun q hq => k.I (h3 q hq), fun q hq => (h4 q hq).to k, fun q hq => (h5 q hq).to k, fun q hq => (h6 q hq).to k, fun q hq => (h7 q hq).to k, h8.to k, h9.to k, h10.to k, h11.to k, h12⟩
theorem kX.y1 {Y : jY} {μ : jM} (h : kX Y μ) : (Y 1).1 = 11 := h.1 (1, 11) (List.mem_of_getElem? (i := 0) rfl)
theorem kX.y2 {Y : jY} {μ : jM} (h : kX Y μ) : (Y 2).1 = 5 := h.1 (2, 5) (List.mem_of_getElem? (i := 1) rfl)
theorem kX.y4 {Y : jY} {μ : jM} (h : kX Y μ) : (Y 4).1 = 6 := h.1 (4, 6) (List.mem_of_getElem? (i := 2) rfl)
theorem kX.y7 {Y : jY} {μ : jM} (h : kX Y μ) : (Y 7).1 = 2 := h.1 (7, 2) (List.mem_of_getElem? (i := 3) rfl)
theorem kX.y9 {Y : jY} {μ : jM} (h : kX Y μ) : (Y 9).1 = 3 := h.1 (9, 3) (List.mem_of_getElem? (i := 4) rfl)
theorem kX.y27 {Y : jY} {μ : jM} (h : kX Y μ) : (Y 27).1 = 7 := h.1 (27, 7) (List.mem_of_getElem? (i := 5) rfl)
theorem kX.y31 {Y : jY} {μ : jM} (h : kX Y μ) : (Y 31).1 = 8 := h.1 (31, 8) (List.mem_of_getElem? (i := 6) rfl)
theorem kX.y72 {Y : jY} {μ : jM} (h : kX Y μ) : (Y 72).1 = 0 := h.1 (72, 0) (List.mem_of_getElem? (i := 7) rfl)
theorem kX.y78 {Y : jY} {μ : jM} (h : kX Y μ) : (Y 78).1 = 4 := h.1 (78, 4) (List.mem_of_getElem? (i := 8) rfl)
theorem kX.o1_0 {Y : jY} {μ : jM} (h : kX Y μ) : jgO Y μ 1 11 0 = some 2 := kgO h.y1 (h.2.1 (1, 0, 2) (List.mem_of_getElem? (i := 0) rfl))
theorem kX.o1_1 {Y : jY} {μ : jM} (h : kX Y μ) : jgO Y μ 1 11 1 = some 4 := kgO h.y1 (h.2.1 (1, 1, 4) (List.mem_of_getElem? (i := 1) rfl))
theorem kX.o1_2 {Y : jY} {μ : jM} (h : kX Y μ) : jgO Y μ 1 11 2 = some 7 := kgO h.y1 (h.2.1 (1, 2, 7) (List.mem_of_getElem? (i := 2) rfl))
theorem kX.o1_3 {Y : jY} {μ : jM} (h : kX Y μ) : jgO Y μ 1 11 3 = some 9 := kgO h.y1 (h.2.1 (1, 3, 9) (List.mem_of_getElem? (i := 3) rfl))
theorem kX.o1_4 {Y : jY} {μ : jM} (h : kX Y μ) : jgO Y μ 1 11 4 = some 26 := kgO h.y1 (h.2.1 (1, 4, 26) (List.mem_of_getElem? (i := 4) rfl))
theorem kX.o1_6 {Y : jY} {μ : jM} (h : kX Y μ) : jgO Y μ 1 11 6 = some 27 := kgO h.y1 (h.2.1 (1, 6, 27) (List.mem_of_getElem? (i := 5) rfl))
theorem kX.o1_7 {Y : jY} {μ : jM} (h : kX Y μ) : jgO Y μ 1 11 7 = some 31 := kgO h.y1 (h.2.1 (1, 7, 31) (List.mem_of_getElem? (i := 6) rfl))
theorem kX.o1_8 {Y : jY} {μ : jM} (h : kX Y μ) : jgO Y μ 1 11 8 = some 72 := kgO h.y1 (h.2.1 (1, 8, 72) (List.mem_of_getElem? (i := 7) rfl))
theorem kX.o1_9 {Y : jY} {μ : jM} (h : kX Y μ) : jgO Y μ 1 11 9 = some 78 := kgO h.y1 (h.2.1 (1, 9, 78) (List.mem_of_getElem? (i := 8) rfl))
theorem kX.o1_10 {Y : jY} {μ : jM} (h : kX Y μ) : jgO Y μ 1 11 10 = some 88 := kgO h.y1 (h.2.1 (1, 10, 88) (List.mem_of_getElem? (i := 9) rfl))
theorem kX.o1_11 {Y : jY} {μ : jM} (h : kX Y μ) : jgO Y μ 1 11 11 = some 91 := kgO h.y1 (h.2.1 (1, 11, 91) (List.mem_of_getElem? (i := 10) rfl))
theorem kX.o1_12 {Y : jY} {μ : jM} (h : kX Y μ) : jgO Y μ 1 11 12 = some 94 := kgO h.y1 (h.2.1 (1, 12, 94) (List.mem_of_getElem? (i := 11) rfl))
theorem kX.o2_0 {Y : jY} {μ : jM} (h : kX Y μ) : jgO Y μ 2 5 0 = some 3 := kgO h.y2 (h.2.1 (2, 0, 3) (List.mem_of_getElem? (i := 12) rfl))
theorem kX.o4_0 {Y : jY} {μ : jM} (h : kX Y μ) : jgO Y μ 4 6 0 = some 5 := kgO h.y4 (h.2.1 (4, 0, 5) (List.mem_of_getElem? (i := 13) rfl))
theorem kX.o4_1 {Y : jY} {μ : jM} (h : kX Y μ) : jgO Y μ 4 6 1 = some 6 := kgO h.y4 (h.2.1 (4, 1, 6) (List.mem_of_getElem? (i := 14) rfl))
theorem kX.o7_0 {Y : jY} {μ : jM} (h : kX Y μ) : jgO Y μ 7 2 0 = some 8 := kgO h.y7 (h.2.1 (7, 0, 8) (List.mem_of_getElem? (i := 15) rfl))
theorem kX.o27_1 {Y : jY} {μ : jM} (h : kX Y μ) : jgO Y μ 27 7 1 = some 28 := kgO h.y27 (h.2.1 (27, 1, 28) (List.mem_of_getElem? (i := 16) rfl))
theorem kX.o27_2 {Y : jY} {μ : jM} (h : kX Y μ) : jgO Y μ 27 7 2 = some 29 := kgO h.y27 (h.2.1 (27, 2, 29) (List.mem_of_getElem? (i := 17) rfl))
theorem kX.o27_3 {Y : jY} {μ : jM} (h : kX Y μ) : jgO Y μ 27 7 3 = some 30 := kgO h.y27 (h.2.1 (27, 3, 30) (List.mem_of_getElem? (i := 18) rfl))
theorem kX.o31_0 {Y : jY} {μ : jM} (h : kX Y μ) : jgO Y μ 31 8 0 = some 27 := kgO h.y31 (h.2.1 (31, 0, 27) (List.mem_of_getElem? (i := 19) rfl))
theorem kX.o31_2 {Y : jY} {μ : jM} (h : kX Y μ) : jgO Y μ 31 8 2 = some 32 := kgO h.y31 (h.2.1 (31, 2, 32) (List.mem_of_getElem? (i := 20) rfl))
theorem kX.o31_3 {Y : jY} {μ : jM} (h : kX Y μ) : jgO Y μ 31 8 3 = some 37 := kgO h.y31 (h.2.1 (31, 3, 37) (List.mem_of_getElem? (i := 21) rfl))
theorem kX.o31_4 {Y : jY} {μ : jM} (h : kX Y μ) : jgO Y μ 31 8 4 = some 41 := kgO h.y31 (h.2.1 (31, 4, 41) (List.mem_of_getElem? (i := 22) rfl))
theorem kX.o31_5 {Y : jY} {μ : jM} (h : kX Y μ) : jgO Y μ 31 8 5 = some 45 := kgO h.y31 (h.2.1 (31, 5, 45) (List.mem_of_getElem? (i := 23) rfl))
theorem kX.o31_6 {Y : jY} {μ : jM} (h : kX Y μ) : jgO Y μ 31 8 6 = some 49 := kgO h.y31 (h.2.1 (31, 6, 49) (List.mem_of_getElem? (i := 24) rfl))
theorem kX.o31_7 {Y : jY} {μ : jM} (h : kX Y μ) : jgO Y μ 31 8 7 = some 55 := kgO h.y31 (h.2.1 (31, 7, 55) (List.mem_of_getElem? (i := 25) rfl))
theorem kX.o31_8 {Y : jY} {μ : jM} (h : kX Y μ) : jgO Y μ 31 8 8 = some 61 := kgO h.y31 (h.2.1 (31, 8, 61) (List.mem_of_getElem? (i := 26) rfl))
theorem kX.o31_9 {Y : jY} {μ : jM} (h : kX Y μ) : jgO Y μ 31 8 9 = some 67 := kgO h.y31 (h.2.1 (31, 9, 67) (List.mem_of_getElem? (i := 27) rfl))
theorem kX.o31_10 {Y : jY} {μ : jM} (h : kX Y μ) : jgO Y μ 31 8 10 = some 68 := kgO h.y31 (h.2.1 (31, 10, 68) (List.mem_of_getElem? (i := 28) rfl))
theorem kX.o31_11 {Y : jY} {μ : jM} (h : kX Y μ) : jgO Y μ 31 8 11 = some 69 := kgO h.y31 (h.2.1 (31, 11, 69) (List.mem_of_getElem? (i := 29) rfl))
theorem kX.o31_12 {Y : jY} {μ : jM} (h : kX Y μ) : jgO Y μ 31 8 12 = some 70 := kgO h.y31 (h.2.1 (31, 12, 70) (List.mem_of_getElem? (i := 30) rfl))
theorem kX.o31_13 {Y : jY} {μ : jM} (h : kX Y μ) : jgO Y μ 31 8 13 = some 71 := kgO h.y31 (h.2.1 (31, 13, 71) (List.mem_of_getElem? (i := 31) rfl))
theorem kX.o72_0 {Y : jY} {μ : jM} (h : kX Y μ) : jgO Y μ 72 0 0 = some 73 := kgO h.y72 (h.2.1 (72, 0, 73) (List.mem_of_getElem? (i := 32) rfl))
theorem kX.o72_2 {Y : jY} {μ : jM} (h : kX Y μ) : jgO Y μ 72 0 2 = some 76 := kgO h.y72 (h.2.1 (72, 2, 76) (List.mem_of_getElem? (i := 33) rfl))
theorem kX.o72_3 {Y : jY} {μ : jM} (h : kX Y μ) : jgO Y μ 72 0 3 = some 77 := kgO h.y72 (h.2.1 (72, 3, 77) (List.mem_of_getElem? (i := 34) rfl))
theorem kX.o78_0 {Y : jY} {μ : jM} (h : kX Y μ) : jgO Y μ 78 4 0 = some 79 := kgO h.y78 (h.2.1 (78, 0, 79) (List.mem_of_getElem? (i := 35) rfl))
theorem kX.o78_1 {Y : jY} {μ : jM} (h : kX Y μ) : jgO Y μ 78 4 1 = some 86 := kgO h.y78 (h.2.1 (78, 1, 86) (List.mem_of_getElem? (i := 36) rfl))
theorem kX.o78_2 {Y : jY} {μ : jM} (h : kX Y μ) : jgO Y μ 78 4 2 = some 87 := kgO h.y78 (h.2.1 (78, 2, 87) (List.mem_of_getElem? (i := 37) rfl))
theorem kX.i1_5 {Y : jY} {μ : jM} (h : kX Y μ) : isI μ 1 5 := h.2.2.1 (1, 5) (List.mem_of_getElem? (i := 0) rfl)
theorem kX.g1_5 {Y : jY} {μ : jM} (h : kX Y μ) : jgI Y μ 1 11 5 = some (ki (gi μ 1 5)) := kgI h.y1 h.i1_5
theorem kX.i2_1 {Y : jY} {μ : jM} (h : kX Y μ) : isI μ 2 1 := h.2.2.1 (2, 1) (List.mem_of_getElem? (i := 1) rfl)
theorem kX.g2_1 {Y : jY} {μ : jM} (h : kX Y μ) : jgI Y μ 2 5 1 = some (ki (gi μ 2 1)) := kgI h.y2 h.i2_1
theorem kX.i4_2 {Y : jY} {μ : jM} (h : kX Y μ) : isI μ 4 2 := h.2.2.1 (4, 2) (List.mem_of_getElem? (i := 2) rfl)
theorem kX.g4_2 {Y : jY} {μ : jM} (h : kX Y μ) : jgI Y μ 4 6 2 = some (ki (gi μ 4 2)) := kgI h.y4 h.i4_2
theorem kX.i4_3 {Y : jY} {μ : jM} (h : kX Y μ) : isI μ 4 3 := h.2.2.1 (4, 3) (List.mem_of_getElem? (i := 3) rfl)
theorem kX.g4_3 {Y : jY} {μ : jM} (h : kX Y μ) : jgI Y μ 4 6 3 = some (ki (gi μ 4 3)) := kgI h.y4 h.i4_3
theorem kX.i4_4 {Y : jY} {μ : jM} (h : kX Y μ) : isI μ 4 4 := h.2.2.1 (4, 4) (List.mem_of_getElem? (i := 4) rfl)
theorem kX.g4_4 {Y : jY} {μ : jM} (h : kX Y μ) : jgI Y μ 4 6 4 = some (ki (gi μ 4 4)) := kgI h.y4 h.i4_4
theorem kX.i4_5 {Y : jY} {μ : jM} (h : kX Y μ) : isI μ 4 5 := h.2.2.1 (4, 5) (List.mem_of_getElem? (i := 5) rfl)
theorem kX.g4_5 {Y : jY} {μ : jM} (h : kX Y μ) : jgI Y μ 4 6 5 = some (ki (gi μ 4 5)) := kgI h.y4 h.i4_5
theorem kX.i4_6 {Y : jY} {μ : jM} (h : kX Y μ) : isI μ 4 6 := h.2.2.1 (4, 6) (List.mem_of_getElem? (i := 6) rfl)
theorem kX.g4_6 {Y : jY} {μ : jM} (h : kX Y μ) : jgI Y μ 4 6 6 = some (ki (gi μ 4 6)) := kgI h.y4 h.i4_6
theorem kX.i7_1 {Y : jY} {μ : jM} (h : kX Y μ) : isI μ 7 1 := h.2.2.1 (7, 1) (List.mem_of_getElem? (i := 7) rfl)
theorem kX.g7_1 {Y : jY} {μ : jM} (h : kX Y μ) : jgI Y μ 7 2 1 = some (ki (gi μ 7 1)) := kgI h.y7 h.i7_1
theorem kX.i27_0 {Y : jY} {μ : jM} (h : kX Y μ) : isI μ 27 0 := h.2.2.1 (27, 0) (List.mem_of_getElem? (i := 8) rfl)
theorem kX.g27_0 {Y : jY} {μ : jM} (h : kX Y μ) : jgI Y μ 27 7 0 = some (ki (gi μ 27 0)) := kgI h.y27 h.i27_0
theorem kX.i31_1 {Y : jY} {μ : jM} (h : kX Y μ) : isI μ 31 1 := h.2.2.1 (31, 1) (List.mem_of_getElem? (i := 9) rfl)
theorem kX.g31_1 {Y : jY} {μ : jM} (h : kX Y μ) : jgI Y μ 31 8 1 = some (ki (gi μ 31 1)) := kgI h.y31 h.i31_1
theorem kX.i72_1 {Y : jY} {μ : jM} (h : kX Y μ) : isI μ 72 1 := h.2.2.1 (72, 1) (List.mem_of_getElem? (i := 10) rfl)
theorem kX.g72_1 {Y : jY} {μ : jM} (h : kX Y μ) : jgI Y μ 72 0 1 = some (ki (gi μ 72 1)) := kgI h.y72 h.i72_1
theorem kX.a3 {Y : jY} {μ : jM} (h : kX Y μ) : kAI Y μ 3 120 := h.2.2.2.1 (3, 120) (List.mem_of_getElem? (i := 0) rfl)
theorem kX.a5 {Y : jY} {μ : jM} (h : kX Y μ) : kAI Y μ 5 5 := h.2.2.2.1 (5, 5) (List.mem_of_getElem? (i := 1) rfl)
theorem kX.a6 {Y : jY} {μ : jM} (h : kX Y μ) : kAI Y μ 6 4 := h.2.2.2.1 (6, 4) (List.mem_of_getElem? (i := 2) rfl)
theorem kX.a8 {Y : jY} {μ : jM} (h : kX Y μ) : kAI Y μ 8 60 := h.2.2.2.1 (8, 60) (List.mem_of_getElem? (i := 3) rfl)
theorem kX.a28 {Y : jY} {μ : jM} (h : kX Y μ) : kAL Y μ 28 5 := h.2.2.2.2.1 (28, 5) (List.mem_of_getElem? (i := 0) rfl)
theorem kX.a29 {Y : jY} {μ : jM} (h : kX Y μ) : kAL Y μ 29 4 := h.2.2.2.2.1 (29, 4) (List.mem_of_getElem? (i := 1) rfl)
theorem kX.a30 {Y : jY} {μ : jM} (h : kX Y μ) : kAL Y μ 30 8 := h.2.2.2.2.1 (30, 8) (List.mem_of_getElem? (i := 2) rfl)
theorem kX.a76 {Y : jY} {μ : jM} (h : kX Y μ) : kAL Y μ 76 4 := h.2.2.2.2.1 (76, 4) (List.mem_of_getElem? (i := 3) rfl)
theorem kX.a77 {Y : jY} {μ : jM} (h : kX Y μ) : kAL Y μ 77 3 := h.2.2.2.2.1 (77, 3) (List.mem_of_getElem? (i := 4) rfl)
theorem kX.a80 {Y : jY} {μ : jM} (h : kX Y μ) : kAL Y μ 80 6 := h.2.2.2.2.1 (80, 6) (List.mem_of_getElem? (i := 5) rfl)
theorem kX.a81 {Y : jY} {μ : jM} (h : kX Y μ) : kAL Y μ 81 6 := h.2.2.2.2.1 (81, 6) (List.mem_of_getElem? (i := 6) rfl)
theorem kX.a82 {Y : jY} {μ : jM} (h : kX Y μ) : kAL Y μ 82 6 := h.2.2.2.2.1 (82, 6) (List.mem_of_getElem? (i := 7) rfl)
theorem kX.a83 {Y : jY} {μ : jM} (h : kX Y μ) : kAL Y μ 83 6 := h.2.2.2.2.1 (83, 6) (List.mem_of_getElem? (i := 8) rfl)
theorem kX.a84 {Y : jY} {μ : jM} (h : kX Y μ) : kAL Y μ 84 6 := h.2.2.2.2.1 (84, 6) (List.mem_of_getElem? (i := 9) rfl)
theorem kX.a85 {Y : jY} {μ : jM} (h : kX Y μ) : kAL Y μ 85 6 := h.2.2.2.2.1 (85, 6) (List.mem_of_getElem? (i := 10) rfl)
theorem kX.a86 {Y : jY} {μ : jM} (h : kX Y μ) : kAL Y μ 86 5 := h.2.2.2.2.1 (86, 5) (List.mem_of_getElem? (i := 11) rfl)
theorem kX.a87 {Y : jY} {μ : jM} (h : kX Y μ) : kAL Y μ 87 5 := h.2.2.2.2.1 (87, 5) (List.mem_of_getElem? (i := 12) rfl)
theorem kX.f32 {Y : jY} {μ : jM} (h : kX Y μ) : kFA Y μ 32 4 := h.2.2.2.2.2.1 (32, 4) (List.mem_of_getElem? (i := 0) rfl)
theorem kX.f37 {Y : jY} {μ : jM} (h : kX Y μ) : kFA Y μ 37 3 := h.2.2.2.2.2.1 (37, 3) (List.mem_of_getElem? (i := 1) rfl)
theorem kX.f41 {Y : jY} {μ : jM} (h : kX Y μ) : kFA Y μ 41 3 := h.2.2.2.2.2.1 (41, 3) (List.mem_of_getElem? (i := 2) rfl)
theorem kX.f45 {Y : jY} {μ : jM} (h : kX Y μ) : kFA Y μ 45 3 := h.2.2.2.2.2.1 (45, 3) (List.mem_of_getElem? (i := 3) rfl)
theorem kX.f49 {Y : jY} {μ : jM} (h : kX Y μ) : kFA Y μ 49 5 := h.2.2.2.2.2.1 (49, 5) (List.mem_of_getElem? (i := 4) rfl)
theorem kX.f55 {Y : jY} {μ : jM} (h : kX Y μ) : kFA Y μ 55 5 := h.2.2.2.2.2.1 (55, 5) (List.mem_of_getElem? (i := 5) rfl)
theorem kX.f61 {Y : jY} {μ : jM} (h : kX Y μ) : kFA Y μ 61 5 := h.2.2.2.2.2.1 (61, 5) (List.mem_of_getElem? (i := 6) rfl)
theorem kX.f67 {Y : jY} {μ : jM} (h : kX Y μ) : kFr Y μ 67 := h.2.2.2.2.2.2.1 67 (List.mem_of_getElem? (i := 0) rfl)
theorem kX.f68 {Y : jY} {μ : jM} (h : kX Y μ) : kFr Y μ 68 := h.2.2.2.2.2.2.1 68 (List.mem_of_getElem? (i := 1) rfl)
theorem kX.f69 {Y : jY} {μ : jM} (h : kX Y μ) : kFr Y μ 69 := h.2.2.2.2.2.2.1 69 (List.mem_of_getElem? (i := 2) rfl)
theorem kX.f70 {Y : jY} {μ : jM} (h : kX Y μ) : kFr Y μ 70 := h.2.2.2.2.2.2.1 70 (List.mem_of_getElem? (i := 3) rfl)
theorem kX.f71 {Y : jY} {μ : jM} (h : kX Y μ) : kFr Y μ 71 := h.2.2.2.2.2.2.1 71 (List.mem_of_getElem? (i := 4) rfl)
theorem kX.f94 {Y : jY} {μ : jM} (h : kX Y μ) : kFr Y μ 94 := h.2.2.2.2.2.2.1 94 (List.mem_of_getElem? (i := 5) rfl)
theorem kX.now {Y : jY} {μ : jM} (h : kX Y μ) : kS Y μ 9 := h.2.2.2.2.2.2.2.1
theorem kX.t73 {Y : jY} {μ : jM} (h : kX Y μ) : kT Y μ 73 := h.2.2.2.2.2.2.2.2.1
theorem kX.t88 {Y : jY} {μ : jM} (h : kX Y μ) : kT Y μ 88 := h.2.2.2.2.2.2.2.2.2.1
theorem kX.n91 {Y : jY} {μ : jM} (h : kX Y μ) : kN Y μ 91 := h.2.2.2.2.2.2.2.2.2.2.1
theorem kX.y26 {Y : jY} {μ : jM} (h : kX Y μ) : Y 26 = (25, 8) := h.2.2.2.2.2.2.2.2.2.2.2.1
theorem kX.y79 {Y : jY} {μ : jM} (h : kX Y μ) : Y 79 = (26, 6) := h.2.2.2.2.2.2.2.2.2.2.2.2
theorem kX.p1 {Y : jY} {μ : jM} (h : kX Y μ) {μ2 : jM} {k : Nat} {v : Value} : jput Y μ2 1 11 k v = some (jw μ2 1 k v) := kput h.y1 (by decide)
theorem kX.p2 {Y : jY} {μ : jM} (h : kX Y μ) {μ2 : jM} {k : Nat} {v : Value} : jput Y μ2 2 5 k v = some (jw μ2 2 k v) := kput h.y2 (by decide)
theorem kX.p4 {Y : jY} {μ : jM} (h : kX Y μ) {μ2 : jM} {k : Nat} {v : Value} : jput Y μ2 4 6 k v = some (jw μ2 4 k v) := kput h.y4 (by decide)
theorem kX.p7 {Y : jY} {μ : jM} (h : kX Y μ) {μ2 : jM} {k : Nat} {v : Value} : jput Y μ2 7 2 k v = some (jw μ2 7 k v) := kput h.y7 (by decide)
theorem kX.p27 {Y : jY} {μ : jM} (h : kX Y μ) {μ2 : jM} {k : Nat} {v : Value} : jput Y μ2 27 7 k v = some (jw μ2 27 k v) := kput h.y27 (by decide)
theorem kX.p31 {Y : jY} {μ : jM} (h : kX Y μ) {μ2 : jM} {k : Nat} {v : Value} : jput Y μ2 31 8 k v = some (jw μ2 31 k v) := kput h.y31 (by decide)
theorem kX.p72 {Y : jY} {μ : jM} (h : kX Y μ) {μ2 : jM} {k : Nat} {v : Value} : jput Y μ2 72 0 k v = some (jw μ2 72 k v) := kput h.y72 (by decide)
theorem kX.n10 {Y : jY} {μ : jM} (h : kX Y μ) : kN Y μ 10 := h.now.n
/-! what is the same in both -/
def relT (μ : jM) (o : Nat) (R : Int) (A C : Int → Int) : Prop := gi μ o 0 = R ∧ 0 ≤ R ∧ R ≤ 5 ∧ (∀ x : Int, 0 ≤ x → x < R → gi μ (o + 1) x = A x ∧ -6 ≤ A x ∧ A x ≤ 6) ∧ ∀ x : Int, 0 ≤ x → x < R - 1 → gi μ (o + 2) x = C x ∧ 1 ≤ C x ∧ C x ≤ 36
def relS (μ : jM) (b : Nat) (N : Int) (lo mi ro di co : Int → Int) : Prop := gi μ (b + 1) 0 = N ∧ 0 ≤ N ∧ N ≤ 4 ∧ (∀ x : Int, 0 ≤ x → x < N → gi μ (b + 2) x = lo x ∧ -6 ≤ lo x ∧ lo x ≤ 6) ∧ (∀ x : Int, 0 ≤ x → x < N - 1 → gi μ (b + 3) x = mi x ∧ lo x < mi x ∧ mi x < lo (x + 1)) ∧ ∀ d : Nat, d < 4 → relT μ (b + 5 + 3 * d) (ro d) (fun x => di (5 * d + x)) (fun x => co (5 * d + x))
def relK (μ : jM) (k : Nat) : Prop := relS μ (123 + 17 * k) (gi μ 114 k) (fun x => gi μ 115 (4 * k + x)) (fun x => gi μ 116 (3 * k + x)) (fun x => gi μ 111 (4 * k + x)) (fun x => gi μ 112 (20 * k + x)) (fun x => gi μ 113 (20 * k + x))
def relN (μ : jM) : Prop := relS μ 9 (gi μ 95 10) (gi μ 99) (gi μ 100) (gi μ 108) (gi μ 109) (gi μ 110)
def relP (μ : jM) : Prop := gi μ 2 1 = gi μ 95 1 ∧ 0 ≤ gi μ 2 1 ∧ gi μ 2 1 ≤ 120 ∧ ∀ x : Int, 0 ≤ x → x < gi μ 2 1 → gi μ 3 x = gi μ 96 x % 256 ∧ -128 ≤ gi μ 96 x ∧ gi μ 96 x ≤ 127
def kK (Y : jY) (μ : jM) (s : Nat) : Prop := (∀ j, j < s → μ 26 j = .ref (123 + 17 * j) ∧ kS Y μ (123 + 17 * j)) ∧ ∀ j, s ≤ j → j < 8 → μ 26 j = .null
def Inv (L : Nat) (xs : Nat → Int32) (n : Nat) (Y : jY) (μ : jM) : Prop := (Y 0 = (20, L) ∧ ∀ j, j < L → μ 0 j = .int (xs j)) ∧ kX Y μ ∧ kM Y μ ∧ (∃ s : Nat, s ≤ 8 ∧ n = 123 + 17 * s ∧ gi μ 1 5 ≤ s ∧ kK Y μ s) ∧ relP μ ∧ relN μ ∧ gi μ 1 5 = gi μ 95 25 ∧ 0 ≤ gi μ 1 5 ∧ gi μ 1 5 ≤ 8 ∧ ∀ k : Nat, (k : Int) < gi μ 1 5 → relK μ k
/-- only what is reckoned with has changed -/
def pers (i : Nat) : Prop := i ≤ 3 ∨ (9 ≤ i ∧ i ≤ 26) ∨ i = 96 ∨ i = 99 ∨ i = 100 ∨ (108 ≤ i ∧ i ≤ 116) ∨ 123 ≤ i
def kP (μ μ' : jM) : Prop := kF 0 123 μ μ' ∧ (∀ i, pers i → μ' i = μ i) ∧ μ' 95 1 = μ 95 1 ∧ μ' 95 10 = μ 95 10 ∧ μ' 95 25 = μ 95 25
theorem kP.refl {μ : jM} : kP μ μ := ⟨kF.refl, fun _ _ => rfl, rfl, rfl, rfl⟩
theorem kP.trans {a b c : jM} (h : kP a b) (k : kP b c) : kP a c := ⟨h.1.trans k.1, fun i hi => (k.2.1 i hi).trans (h.2.1 i hi), k.2.2.1.trans h.2.2.1, k.2.2.2.1.trans h.2.2.2.1, k.2.2.2.2.trans h.2.2.2.2⟩
theorem kP.gi {a b : jM} (h : kP a b) {i : Nat} (hi : pers i) (x : Int) : gi b i x = gi a i x := gi_cell (h.2.1 i hi) x
theorem gi_slot {a b : jM} {i k : Nat} (h : b i k = a i k) : gi b i (k : Int) = gi a i (k : Int) := by
  unfold gi
  rw [Int.toNat_natCast, h]
theorem relT.to {μ μ' : jM} {o : Nat} {R : Int} {A C : Int → Int} (h : relT μ o R A C) (h0 : μ' o = μ o) (h1 : μ' (o + 1) = μ (o + 1)) (h2 : μ' (o + 2) = μ (o + 2)) : relT μ' o R A C := by
  unfold relT
  rw [gi_cell h0]
  refine ⟨h.1, h.2.1, h.2.2.1, fun x a b => ?_, fun x a b => ?_⟩
  · rw [gi_cell h1]; exact h.2.2.2.1 x a b
  · rw [gi_cell h2]; exact h.2.2.2.2 x a b
theorem relS.to {μ μ' : jM} {b : Nat} {N : Int} {lo mi ro di co : Int → Int} (h : relS μ b N lo mi ro di co) (hc : ∀ i, b ≤ i → i < b + 17 → μ' i = μ i) : relS μ' b N lo mi ro di co := by
  unfold relS
  rw [gi_cell (hc (b + 1) (by omega) (by omega))]
  refine ⟨h.1, h.2.1, h.2.2.1, fun x p q => ?_, fun x p q => ?_, fun d hd => ?_⟩
  · rw [gi_cell (hc (b + 2) (by omega) (by omega))]; exact h.2.2.2.1 x p q
  · rw [gi_cell (hc (b + 3) (by omega) (by omega))]; exact h.2.2.2.2.1 x p q
  · exact (h.2.2.2.2.2 d hd).to (hc _ (by omega) (by omega)) (hc _ (by omega) (by omega)) (hc _ (by omega) (by omega))
theorem relK.to {μ μ' : jM} {k : Nat} (h : relK μ k) (h1 : ∀ i, 123 ≤ i → μ' i = μ i) (h2 : ∀ i, 111 ≤ i → i ≤ 116 → μ' i = μ i) : relK μ' k := by
  unfold relK
  simp only [gi_cell (h2 111 (by omega) (by omega)), gi_cell (h2 112 (by omega) (by omega)), gi_cell (h2 113 (by omega) (by omega)), gi_cell (h2 114 (by omega) (by omega)), gi_cell (h2 115 (by omega) (by omega)), gi_cell (h2 116 (by omega) (by omega))]
  exact relS.to h (fun i p q => h1 i (by omega))
theorem relN.to {μ μ' : jM} (h : relN μ) (h1 : ∀ i, 9 ≤ i → i ≤ 25 → μ' i = μ i) (h2 : ∀ i, i = 99 ∨ i = 100 ∨ i = 108 ∨ i = 109 ∨ i = 110 → μ' i = μ i) (h3 : μ' 95 10 = μ 95 10) : relN μ' := by
  unfold relN
  have e : gi μ' 95 10 = gi μ 95 10 := gi_slot (k := 10) h3
  have e1 : gi μ' 99 = gi μ 99 := funext (gi_cell (h2 99 (by omega)))
  have e2 : gi μ' 100 = gi μ 100 := funext (gi_cell (h2 100 (by omega)))
  have e3 : gi μ' 108 = gi μ 108 := funext (gi_cell (h2 108 (by omega)))
  have e4 : gi μ' 109 = gi μ 109 := funext (gi_cell (h2 109 (by omega)))
  have e5 : gi μ' 110 = gi μ 110 := funext (gi_cell (h2 110 (by omega)))
  rw [e, e1, e2, e3, e4, e5]
  exact relS.to h (fun i p q => h1 i (by omega) (by omega))
theorem relP.to {μ μ' : jM} (h : relP μ) (h1 : μ' 2 = μ 2) (h2 : μ' 3 = μ 3) (h3 : μ' 96 = μ 96) (h4 : μ' 95 1 = μ 95 1) : relP μ' := by
  unfold relP
  have e : gi μ' 95 1 = gi μ 95 1 := gi_slot (k := 1) h4
  rw [e, gi_cell h1]
  refine ⟨h.1, h.2.1, h.2.2.1, fun x p q => ?_⟩
  rw [gi_cell h2, gi_cell h3]
  exact h.2.2.2 x p q
theorem kK.to {Y : jY} {μ μ' : jM} {s lo hi : Nat} (h : kK Y μ s) (k : kF lo hi μ μ') : kK Y μ' s := ⟨fun j hj => ⟨k.R (h.1 j hj).1, (h.1 j hj).2.to k⟩, fun j h1 h2 => k.N (h.2 j h1 h2)⟩
theorem Inv.to {L : Nat} {xs : Nat → Int32} {n : Nat} {Y : jY} {μ μ' : jM} (h : Inv L xs n Y μ) (k : kP μ μ') : Inv L xs n Y μ' := by
  obtain ⟨⟨a1, a2⟩, a3, a4, ⟨s, s1, s2, s3, s4⟩, a5, a6, a7, a8, a9, a10⟩ := h
  have e1 : gi μ' 1 5 = gi μ 1 5 := k.gi (Or.inl (by omega)) 5
  have e2 : gi μ' 95 25 = gi μ 95 25 := gi_slot (k := 25) k.2.2.2.2
  refine ⟨⟨a1, fun j hj => by rw [k.2.1 0 (Or.inl (by omega))]; exact a2 j hj⟩, a3.to k.1, a4.to k.1, ⟨s, s1, s2, by rw [e1]; exact s3, s4.to k.1⟩, a5.to (k.2.1 2 (Or.inl (by omega))) (k.2.1 3 (Or.inl (by omega))) (k.2.1 96 (by unfold pers; omega)) k.2.2.1, a6.to (fun i p q => k.2.1 i (by unfold pers; omega)) (fun i p => k.2.1 i (by unfold pers; omega)) k.2.2.2.1, by rw [e1, e2]; exact a7, by rw [e1]; exact a8, by rw [e1]; exact a9, fun j hj => ?_⟩
  rw [e1] at hj
  exact (a10 j hj).to (fun i p => k.2.1 i (by unfold pers; omega)) (fun i p q => k.2.1 i (by unfold pers; omega))
theorem kP.of_reader {μ μ' : jM} (h : kF 4 9 μ μ') : kP μ μ' := ⟨h.mono (by omega) (by omega), fun i hi => h.1 i (by unfold pers at hi; omega), by rw [h.1 95 (by omega)], by rw [h.1 95 (by omega)], by rw [h.1 95 (by omega)]⟩
theorem kP.of_rows {μ μ' : jM} (h : kF 27 95 μ μ') : kP μ μ' := ⟨h.mono (by omega) (by omega), fun i hi => h.1 i (by unfold pers at hi; omega), by rw [h.1 95 (by omega)], by rw [h.1 95 (by omega)], by rw [h.1 95 (by omega)]⟩
