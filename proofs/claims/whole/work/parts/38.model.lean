/-! THE REFERENCE: what its cells hold -/
def kMi : List Nat := [1, 2, 3, 4, 5, 8, 9, 10, 22, 23, 24, 25, 41, 42, 43, 44, 45, 46]
def kMr : List (Nat × Nat) := [(0, 96), (6, 97), (7, 98), (11, 99), (12, 100), (13, 101), (14, 102), (15, 103), (18, 104), (19, 105), (20, 106), (21, 107), (26, 108), (27, 109), (28, 110), (29, 111), (30, 112), (31, 113), (32, 114), (33, 115), (34, 116), (35, 117), (36, 118), (37, 119), (38, 120), (39, 121), (40, 122)]
def kMai : List (Nat × Nat) := [(97, 5), (98, 4), (99, 4), (100, 3), (108, 4), (109, 20), (110, 20), (111, 32), (112, 160), (113, 160), (114, 8), (115, 32), (116, 24)]
def kMal : List (Nat × Nat) := [(101, 5), (102, 4), (103, 8), (104, 3), (105, 3), (106, 3), (107, 3), (117, 36), (118, 6), (119, 5), (120, 5), (121, 5), (122, 5)]
def kM (Y : jY) (μ : jM) : Prop := (Y 95).1 = 12 ∧ (∀ k ∈ kMi, isI μ 95 k) ∧ (isL μ 95 16 ∧ isL μ 95 17) ∧ (∀ q ∈ kMr, μ 95 q.1 = .ref q.2) ∧ (∀ q ∈ kMai, kAI Y μ q.1 q.2) ∧ (∀ q ∈ kMal, kAL Y μ q.1 q.2) ∧ kAB Y μ 96 120
theorem kM.to {Y : jY} {μ μ' : jM} {lo hi : Nat} (h : kM Y μ) (k : kF lo hi μ μ') : kM Y μ' :=
  ⟨h.1, fun q hq => k.I (h.2.1 q hq), ⟨k.L h.2.2.1.1, k.L h.2.2.1.2⟩, fun q hq => k.R (h.2.2.2.1 q hq), fun q hq => (h.2.2.2.2.1 q hq).to k, fun q hq => (h.2.2.2.2.2.1 q hq).to k, h.2.2.2.2.2.2.to k⟩
theorem kM.y {Y : jY} {μ : jM} (h : kM Y μ) : (Y 95).1 = 12 := h.1
theorem kM.p {Y : jY} {μ : jM} (h : kM Y μ) {μ' : jM} {k : Nat} {v : Value} : jput Y μ' 95 12 k v = some (jw μ' 95 k v) := kput h.1 (by decide)
theorem kM.g16 {Y : jY} {μ : jM} (h : kM Y μ) : jgL Y μ 95 12 16 = some (kl (gl μ 95 16)) := kgL h.1 h.2.2.1.1
theorem kM.g17 {Y : jY} {μ : jM} (h : kM Y μ) : jgL Y μ 95 12 17 = some (kl (gl μ 95 17)) := kgL h.1 h.2.2.1.2
theorem kM.i1 {Y : jY} {μ : jM} (h : kM Y μ) : isI μ 95 1 := h.2.1 1 (List.mem_of_getElem? (i := 0) rfl)
theorem kM.g1 {Y : jY} {μ : jM} (h : kM Y μ) : jgI Y μ 95 12 1 = some (ki (gi μ 95 1)) := kgI h.1 h.i1
theorem kM.i2 {Y : jY} {μ : jM} (h : kM Y μ) : isI μ 95 2 := h.2.1 2 (List.mem_of_getElem? (i := 1) rfl)
theorem kM.g2 {Y : jY} {μ : jM} (h : kM Y μ) : jgI Y μ 95 12 2 = some (ki (gi μ 95 2)) := kgI h.1 h.i2
theorem kM.i3 {Y : jY} {μ : jM} (h : kM Y μ) : isI μ 95 3 := h.2.1 3 (List.mem_of_getElem? (i := 2) rfl)
theorem kM.g3 {Y : jY} {μ : jM} (h : kM Y μ) : jgI Y μ 95 12 3 = some (ki (gi μ 95 3)) := kgI h.1 h.i3
theorem kM.i4 {Y : jY} {μ : jM} (h : kM Y μ) : isI μ 95 4 := h.2.1 4 (List.mem_of_getElem? (i := 3) rfl)
theorem kM.g4 {Y : jY} {μ : jM} (h : kM Y μ) : jgI Y μ 95 12 4 = some (ki (gi μ 95 4)) := kgI h.1 h.i4
theorem kM.i5 {Y : jY} {μ : jM} (h : kM Y μ) : isI μ 95 5 := h.2.1 5 (List.mem_of_getElem? (i := 4) rfl)
theorem kM.g5 {Y : jY} {μ : jM} (h : kM Y μ) : jgI Y μ 95 12 5 = some (ki (gi μ 95 5)) := kgI h.1 h.i5
theorem kM.i8 {Y : jY} {μ : jM} (h : kM Y μ) : isI μ 95 8 := h.2.1 8 (List.mem_of_getElem? (i := 5) rfl)
theorem kM.g8 {Y : jY} {μ : jM} (h : kM Y μ) : jgI Y μ 95 12 8 = some (ki (gi μ 95 8)) := kgI h.1 h.i8
theorem kM.i9 {Y : jY} {μ : jM} (h : kM Y μ) : isI μ 95 9 := h.2.1 9 (List.mem_of_getElem? (i := 6) rfl)
theorem kM.g9 {Y : jY} {μ : jM} (h : kM Y μ) : jgI Y μ 95 12 9 = some (ki (gi μ 95 9)) := kgI h.1 h.i9
theorem kM.i10 {Y : jY} {μ : jM} (h : kM Y μ) : isI μ 95 10 := h.2.1 10 (List.mem_of_getElem? (i := 7) rfl)
theorem kM.g10 {Y : jY} {μ : jM} (h : kM Y μ) : jgI Y μ 95 12 10 = some (ki (gi μ 95 10)) := kgI h.1 h.i10
theorem kM.i22 {Y : jY} {μ : jM} (h : kM Y μ) : isI μ 95 22 := h.2.1 22 (List.mem_of_getElem? (i := 8) rfl)
theorem kM.g22 {Y : jY} {μ : jM} (h : kM Y μ) : jgI Y μ 95 12 22 = some (ki (gi μ 95 22)) := kgI h.1 h.i22
theorem kM.i23 {Y : jY} {μ : jM} (h : kM Y μ) : isI μ 95 23 := h.2.1 23 (List.mem_of_getElem? (i := 9) rfl)
theorem kM.g23 {Y : jY} {μ : jM} (h : kM Y μ) : jgI Y μ 95 12 23 = some (ki (gi μ 95 23)) := kgI h.1 h.i23
theorem kM.i24 {Y : jY} {μ : jM} (h : kM Y μ) : isI μ 95 24 := h.2.1 24 (List.mem_of_getElem? (i := 10) rfl)
theorem kM.g24 {Y : jY} {μ : jM} (h : kM Y μ) : jgI Y μ 95 12 24 = some (ki (gi μ 95 24)) := kgI h.1 h.i24
theorem kM.i25 {Y : jY} {μ : jM} (h : kM Y μ) : isI μ 95 25 := h.2.1 25 (List.mem_of_getElem? (i := 11) rfl)
theorem kM.g25 {Y : jY} {μ : jM} (h : kM Y μ) : jgI Y μ 95 12 25 = some (ki (gi μ 95 25)) := kgI h.1 h.i25
theorem kM.i41 {Y : jY} {μ : jM} (h : kM Y μ) : isI μ 95 41 := h.2.1 41 (List.mem_of_getElem? (i := 12) rfl)
theorem kM.g41 {Y : jY} {μ : jM} (h : kM Y μ) : jgI Y μ 95 12 41 = some (ki (gi μ 95 41)) := kgI h.1 h.i41
theorem kM.i42 {Y : jY} {μ : jM} (h : kM Y μ) : isI μ 95 42 := h.2.1 42 (List.mem_of_getElem? (i := 13) rfl)
theorem kM.g42 {Y : jY} {μ : jM} (h : kM Y μ) : jgI Y μ 95 12 42 = some (ki (gi μ 95 42)) := kgI h.1 h.i42
theorem kM.i43 {Y : jY} {μ : jM} (h : kM Y μ) : isI μ 95 43 := h.2.1 43 (List.mem_of_getElem? (i := 14) rfl)
theorem kM.g43 {Y : jY} {μ : jM} (h : kM Y μ) : jgI Y μ 95 12 43 = some (ki (gi μ 95 43)) := kgI h.1 h.i43
theorem kM.i44 {Y : jY} {μ : jM} (h : kM Y μ) : isI μ 95 44 := h.2.1 44 (List.mem_of_getElem? (i := 15) rfl)
theorem kM.g44 {Y : jY} {μ : jM} (h : kM Y μ) : jgI Y μ 95 12 44 = some (ki (gi μ 95 44)) := kgI h.1 h.i44
theorem kM.i45 {Y : jY} {μ : jM} (h : kM Y μ) : isI μ 95 45 := h.2.1 45 (List.mem_of_getElem? (i := 16) rfl)
theorem kM.g45 {Y : jY} {μ : jM} (h : kM Y μ) : jgI Y μ 95 12 45 = some (ki (gi μ 95 45)) := kgI h.1 h.i45
theorem kM.i46 {Y : jY} {μ : jM} (h : kM Y μ) : isI μ 95 46 := h.2.1 46 (List.mem_of_getElem? (i := 17) rfl)
theorem kM.g46 {Y : jY} {μ : jM} (h : kM Y μ) : jgI Y μ 95 12 46 = some (ki (gi μ 95 46)) := kgI h.1 h.i46
theorem kM.o0 {Y : jY} {μ : jM} (h : kM Y μ) : jgO Y μ 95 12 0 = some 96 := kgO h.1 (h.2.2.2.1 (0, 96) (List.mem_of_getElem? (i := 0) rfl))
theorem kM.o6 {Y : jY} {μ : jM} (h : kM Y μ) : jgO Y μ 95 12 6 = some 97 := kgO h.1 (h.2.2.2.1 (6, 97) (List.mem_of_getElem? (i := 1) rfl))
theorem kM.o7 {Y : jY} {μ : jM} (h : kM Y μ) : jgO Y μ 95 12 7 = some 98 := kgO h.1 (h.2.2.2.1 (7, 98) (List.mem_of_getElem? (i := 2) rfl))
theorem kM.o11 {Y : jY} {μ : jM} (h : kM Y μ) : jgO Y μ 95 12 11 = some 99 := kgO h.1 (h.2.2.2.1 (11, 99) (List.mem_of_getElem? (i := 3) rfl))
theorem kM.o12 {Y : jY} {μ : jM} (h : kM Y μ) : jgO Y μ 95 12 12 = some 100 := kgO h.1 (h.2.2.2.1 (12, 100) (List.mem_of_getElem? (i := 4) rfl))
theorem kM.o13 {Y : jY} {μ : jM} (h : kM Y μ) : jgO Y μ 95 12 13 = some 101 := kgO h.1 (h.2.2.2.1 (13, 101) (List.mem_of_getElem? (i := 5) rfl))
theorem kM.o14 {Y : jY} {μ : jM} (h : kM Y μ) : jgO Y μ 95 12 14 = some 102 := kgO h.1 (h.2.2.2.1 (14, 102) (List.mem_of_getElem? (i := 6) rfl))
theorem kM.o15 {Y : jY} {μ : jM} (h : kM Y μ) : jgO Y μ 95 12 15 = some 103 := kgO h.1 (h.2.2.2.1 (15, 103) (List.mem_of_getElem? (i := 7) rfl))
theorem kM.o18 {Y : jY} {μ : jM} (h : kM Y μ) : jgO Y μ 95 12 18 = some 104 := kgO h.1 (h.2.2.2.1 (18, 104) (List.mem_of_getElem? (i := 8) rfl))
theorem kM.o19 {Y : jY} {μ : jM} (h : kM Y μ) : jgO Y μ 95 12 19 = some 105 := kgO h.1 (h.2.2.2.1 (19, 105) (List.mem_of_getElem? (i := 9) rfl))
theorem kM.o20 {Y : jY} {μ : jM} (h : kM Y μ) : jgO Y μ 95 12 20 = some 106 := kgO h.1 (h.2.2.2.1 (20, 106) (List.mem_of_getElem? (i := 10) rfl))
theorem kM.o21 {Y : jY} {μ : jM} (h : kM Y μ) : jgO Y μ 95 12 21 = some 107 := kgO h.1 (h.2.2.2.1 (21, 107) (List.mem_of_getElem? (i := 11) rfl))
theorem kM.o26 {Y : jY} {μ : jM} (h : kM Y μ) : jgO Y μ 95 12 26 = some 108 := kgO h.1 (h.2.2.2.1 (26, 108) (List.mem_of_getElem? (i := 12) rfl))
theorem kM.o27 {Y : jY} {μ : jM} (h : kM Y μ) : jgO Y μ 95 12 27 = some 109 := kgO h.1 (h.2.2.2.1 (27, 109) (List.mem_of_getElem? (i := 13) rfl))
theorem kM.o28 {Y : jY} {μ : jM} (h : kM Y μ) : jgO Y μ 95 12 28 = some 110 := kgO h.1 (h.2.2.2.1 (28, 110) (List.mem_of_getElem? (i := 14) rfl))
theorem kM.o29 {Y : jY} {μ : jM} (h : kM Y μ) : jgO Y μ 95 12 29 = some 111 := kgO h.1 (h.2.2.2.1 (29, 111) (List.mem_of_getElem? (i := 15) rfl))
theorem kM.o30 {Y : jY} {μ : jM} (h : kM Y μ) : jgO Y μ 95 12 30 = some 112 := kgO h.1 (h.2.2.2.1 (30, 112) (List.mem_of_getElem? (i := 16) rfl))
theorem kM.o31 {Y : jY} {μ : jM} (h : kM Y μ) : jgO Y μ 95 12 31 = some 113 := kgO h.1 (h.2.2.2.1 (31, 113) (List.mem_of_getElem? (i := 17) rfl))
theorem kM.o32 {Y : jY} {μ : jM} (h : kM Y μ) : jgO Y μ 95 12 32 = some 114 := kgO h.1 (h.2.2.2.1 (32, 114) (List.mem_of_getElem? (i := 18) rfl))
theorem kM.o33 {Y : jY} {μ : jM} (h : kM Y μ) : jgO Y μ 95 12 33 = some 115 := kgO h.1 (h.2.2.2.1 (33, 115) (List.mem_of_getElem? (i := 19) rfl))
theorem kM.o34 {Y : jY} {μ : jM} (h : kM Y μ) : jgO Y μ 95 12 34 = some 116 := kgO h.1 (h.2.2.2.1 (34, 116) (List.mem_of_getElem? (i := 20) rfl))
theorem kM.o35 {Y : jY} {μ : jM} (h : kM Y μ) : jgO Y μ 95 12 35 = some 117 := kgO h.1 (h.2.2.2.1 (35, 117) (List.mem_of_getElem? (i := 21) rfl))
theorem kM.o36 {Y : jY} {μ : jM} (h : kM Y μ) : jgO Y μ 95 12 36 = some 118 := kgO h.1 (h.2.2.2.1 (36, 118) (List.mem_of_getElem? (i := 22) rfl))
theorem kM.o37 {Y : jY} {μ : jM} (h : kM Y μ) : jgO Y μ 95 12 37 = some 119 := kgO h.1 (h.2.2.2.1 (37, 119) (List.mem_of_getElem? (i := 23) rfl))
theorem kM.o38 {Y : jY} {μ : jM} (h : kM Y μ) : jgO Y μ 95 12 38 = some 120 := kgO h.1 (h.2.2.2.1 (38, 120) (List.mem_of_getElem? (i := 24) rfl))
theorem kM.o39 {Y : jY} {μ : jM} (h : kM Y μ) : jgO Y μ 95 12 39 = some 121 := kgO h.1 (h.2.2.2.1 (39, 121) (List.mem_of_getElem? (i := 25) rfl))
theorem kM.o40 {Y : jY} {μ : jM} (h : kM Y μ) : jgO Y μ 95 12 40 = some 122 := kgO h.1 (h.2.2.2.1 (40, 122) (List.mem_of_getElem? (i := 26) rfl))
theorem kM.a97 {Y : jY} {μ : jM} (h : kM Y μ) : kAI Y μ 97 5 := h.2.2.2.2.1 (97, 5) (List.mem_of_getElem? (i := 0) rfl)
theorem kM.a98 {Y : jY} {μ : jM} (h : kM Y μ) : kAI Y μ 98 4 := h.2.2.2.2.1 (98, 4) (List.mem_of_getElem? (i := 1) rfl)
theorem kM.a99 {Y : jY} {μ : jM} (h : kM Y μ) : kAI Y μ 99 4 := h.2.2.2.2.1 (99, 4) (List.mem_of_getElem? (i := 2) rfl)
theorem kM.a100 {Y : jY} {μ : jM} (h : kM Y μ) : kAI Y μ 100 3 := h.2.2.2.2.1 (100, 3) (List.mem_of_getElem? (i := 3) rfl)
theorem kM.a108 {Y : jY} {μ : jM} (h : kM Y μ) : kAI Y μ 108 4 := h.2.2.2.2.1 (108, 4) (List.mem_of_getElem? (i := 4) rfl)
theorem kM.a109 {Y : jY} {μ : jM} (h : kM Y μ) : kAI Y μ 109 20 := h.2.2.2.2.1 (109, 20) (List.mem_of_getElem? (i := 5) rfl)
theorem kM.a110 {Y : jY} {μ : jM} (h : kM Y μ) : kAI Y μ 110 20 := h.2.2.2.2.1 (110, 20) (List.mem_of_getElem? (i := 6) rfl)
theorem kM.a111 {Y : jY} {μ : jM} (h : kM Y μ) : kAI Y μ 111 32 := h.2.2.2.2.1 (111, 32) (List.mem_of_getElem? (i := 7) rfl)
theorem kM.a112 {Y : jY} {μ : jM} (h : kM Y μ) : kAI Y μ 112 160 := h.2.2.2.2.1 (112, 160) (List.mem_of_getElem? (i := 8) rfl)
theorem kM.a113 {Y : jY} {μ : jM} (h : kM Y μ) : kAI Y μ 113 160 := h.2.2.2.2.1 (113, 160) (List.mem_of_getElem? (i := 9) rfl)
theorem kM.a114 {Y : jY} {μ : jM} (h : kM Y μ) : kAI Y μ 114 8 := h.2.2.2.2.1 (114, 8) (List.mem_of_getElem? (i := 10) rfl)
theorem kM.a115 {Y : jY} {μ : jM} (h : kM Y μ) : kAI Y μ 115 32 := h.2.2.2.2.1 (115, 32) (List.mem_of_getElem? (i := 11) rfl)
theorem kM.a116 {Y : jY} {μ : jM} (h : kM Y μ) : kAI Y μ 116 24 := h.2.2.2.2.1 (116, 24) (List.mem_of_getElem? (i := 12) rfl)
theorem kM.a101 {Y : jY} {μ : jM} (h : kM Y μ) : kAL Y μ 101 5 := h.2.2.2.2.2.1 (101, 5) (List.mem_of_getElem? (i := 0) rfl)
theorem kM.a102 {Y : jY} {μ : jM} (h : kM Y μ) : kAL Y μ 102 4 := h.2.2.2.2.2.1 (102, 4) (List.mem_of_getElem? (i := 1) rfl)
theorem kM.a103 {Y : jY} {μ : jM} (h : kM Y μ) : kAL Y μ 103 8 := h.2.2.2.2.2.1 (103, 8) (List.mem_of_getElem? (i := 2) rfl)
theorem kM.a104 {Y : jY} {μ : jM} (h : kM Y μ) : kAL Y μ 104 3 := h.2.2.2.2.2.1 (104, 3) (List.mem_of_getElem? (i := 3) rfl)
theorem kM.a105 {Y : jY} {μ : jM} (h : kM Y μ) : kAL Y μ 105 3 := h.2.2.2.2.2.1 (105, 3) (List.mem_of_getElem? (i := 4) rfl)
theorem kM.a106 {Y : jY} {μ : jM} (h : kM Y μ) : kAL Y μ 106 3 := h.2.2.2.2.2.1 (106, 3) (List.mem_of_getElem? (i := 5) rfl)
theorem kM.a107 {Y : jY} {μ : jM} (h : kM Y μ) : kAL Y μ 107 3 := h.2.2.2.2.2.1 (107, 3) (List.mem_of_getElem? (i := 6) rfl)
theorem kM.a117 {Y : jY} {μ : jM} (h : kM Y μ) : kAL Y μ 117 36 := h.2.2.2.2.2.1 (117, 36) (List.mem_of_getElem? (i := 7) rfl)
theorem kM.a118 {Y : jY} {μ : jM} (h : kM Y μ) : kAL Y μ 118 6 := h.2.2.2.2.2.1 (118, 6) (List.mem_of_getElem? (i := 8) rfl)
theorem kM.a119 {Y : jY} {μ : jM} (h : kM Y μ) : kAL Y μ 119 5 := h.2.2.2.2.2.1 (119, 5) (List.mem_of_getElem? (i := 9) rfl)
theorem kM.a120 {Y : jY} {μ : jM} (h : kM Y μ) : kAL Y μ 120 5 := h.2.2.2.2.2.1 (120, 5) (List.mem_of_getElem? (i := 10) rfl)
theorem kM.a121 {Y : jY} {μ : jM} (h : kM Y μ) : kAL Y μ 121 5 := h.2.2.2.2.2.1 (121, 5) (List.mem_of_getElem? (i := 11) rfl)
theorem kM.a122 {Y : jY} {μ : jM} (h : kM Y μ) : kAL Y μ 122 5 := h.2.2.2.2.2.1 (122, 5) (List.mem_of_getElem? (i := 12) rfl)
theorem kM.a96 {Y : jY} {μ : jM} (h : kM Y μ) : kAB Y μ 96 120 := h.2.2.2.2.2.2
