/-! THE START: class and reference as they are made -/
theorem fmc {α : Type} {p : α → Prop} {a : α} {l : List α} (h : p a) (t : ∀ x ∈ l, p x) : ∀ x ∈ a :: l, p x := fun x hx => by
  rcases List.mem_cons.1 hx with e | e
  · rw [e]; exact h
  · exact t x e
theorem lt3 {P : Nat → Prop} (h0 : P 0) (h1 : P 1) (h2 : P 2) : ∀ j, j < 3 → P j := fun j hj => match j, hj with
  | 0, _ => h0
  | 1, _ => h1
  | 2, _ => h2
theorem lt4 {P : Nat → Prop} (h0 : P 0) (h1 : P 1) (h2 : P 2) (h3 : P 3) : ∀ j, j < 4 → P j := fun j hj => match j, hj with
  | 0, _ => h0
  | 1, _ => h1
  | 2, _ => h2
  | 3, _ => h3
theorem lt5 {P : Nat → Prop} (h0 : P 0) (h1 : P 1) (h2 : P 2) (h3 : P 3) (h4 : P 4) : ∀ j, j < 5 → P j := fun j hj => match j, hj with
  | 0, _ => h0
  | 1, _ => h1
  | 2, _ => h2
  | 3, _ => h3
  | 4, _ => h4
set_option maxRecDepth 100000 in
theorem in_T {L : Nat} : ∀ q ∈ kXt, (jY0 L q.1).1 = q.2 := by
  unfold kXt
  iterate 9 refine fmc (rfl) ?_
  exact fun _ h => nomatch h
set_option maxRecDepth 100000 in
theorem in_R {xs : Nat → Int32} : ∀ q ∈ kXr, jM0 xs q.1 q.2.1 = .ref q.2.2 := by
  unfold kXr
  iterate 44 refine fmc (rfl) ?_
  exact fun _ h => nomatch h
set_option maxRecDepth 100000 in
theorem in_I {xs : Nat → Int32} : ∀ q ∈ kXi, isI (jM0 xs) q.1 q.2 := by
  unfold kXi
  iterate 11 refine fmc (⟨_, rfl⟩) ?_
  exact fun _ h => nomatch h
set_option maxRecDepth 100000 in
theorem in_AI {L : Nat} {xs : Nat → Int32} : ∀ q ∈ kXai, kAI (jY0 L) (jM0 xs) q.1 q.2 := by
  unfold kXai
  iterate 4 refine fmc (⟨rfl, by decide, by decide, fun j hj => ⟨_, rfl⟩⟩) ?_
  exact fun _ h => nomatch h
set_option maxRecDepth 100000 in
theorem in_AL {L : Nat} {xs : Nat → Int32} : ∀ q ∈ kXal, kAL (jY0 L) (jM0 xs) q.1 q.2 := by
  unfold kXal
  iterate 13 refine fmc (⟨rfl, by decide, by decide, fun j hj => ⟨_, rfl⟩⟩) ?_
  exact fun _ h => nomatch h
set_option maxRecDepth 100000 in
theorem in_F {L : Nat} {xs : Nat → Int32} : ∀ q ∈ kXf, kFr (jY0 L) (jM0 xs) q := by
  unfold kXf
  iterate 6 refine fmc (⟨rfl, by decide, ⟨_, rfl⟩, ⟨_, rfl⟩⟩) ?_
  exact fun _ h => nomatch h
set_option maxRecDepth 100000 in
theorem in_FA {L : Nat} {xs : Nat → Int32} : ∀ q ∈ kXfa, kFA (jY0 L) (jM0 xs) q.1 q.2 := by
  unfold kXfa
  refine fmc (⟨rfl, by decide, lt4 ⟨rfl, rfl, by decide, ⟨_, rfl⟩, ⟨_, rfl⟩⟩ ⟨rfl, rfl, by decide, ⟨_, rfl⟩, ⟨_, rfl⟩⟩ ⟨rfl, rfl, by decide, ⟨_, rfl⟩, ⟨_, rfl⟩⟩ ⟨rfl, rfl, by decide, ⟨_, rfl⟩, ⟨_, rfl⟩⟩⟩) ?_
  iterate 3 refine fmc (⟨rfl, by decide, lt3 ⟨rfl, rfl, by decide, ⟨_, rfl⟩, ⟨_, rfl⟩⟩ ⟨rfl, rfl, by decide, ⟨_, rfl⟩, ⟨_, rfl⟩⟩ ⟨rfl, rfl, by decide, ⟨_, rfl⟩, ⟨_, rfl⟩⟩⟩) ?_
  iterate 3 refine fmc (⟨rfl, by decide, lt5 ⟨rfl, rfl, by decide, ⟨_, rfl⟩, ⟨_, rfl⟩⟩ ⟨rfl, rfl, by decide, ⟨_, rfl⟩, ⟨_, rfl⟩⟩ ⟨rfl, rfl, by decide, ⟨_, rfl⟩, ⟨_, rfl⟩⟩ ⟨rfl, rfl, by decide, ⟨_, rfl⟩, ⟨_, rfl⟩⟩ ⟨rfl, rfl, by decide, ⟨_, rfl⟩, ⟨_, rfl⟩⟩⟩) ?_
  exact fun _ h => nomatch h
set_option maxRecDepth 100000 in
theorem in_t {L : Nat} {xs : Nat → Int32} : kT (jY0 L) (jM0 xs) 73 ∧ kT (jY0 L) (jM0 xs) 88 := by
  refine ⟨⟨rfl, by decide, ⟨_, rfl⟩, rfl, rfl, ⟨rfl, by decide, by decide, fun j hj => ⟨_, rfl⟩⟩, ⟨rfl, by decide, by decide, fun j hj => ⟨_, rfl⟩⟩⟩, ⟨rfl, by decide, ⟨_, rfl⟩, rfl, rfl, ⟨rfl, by decide, by decide, fun j hj => ⟨_, rfl⟩⟩, ⟨rfl, by decide, by decide, fun j hj => ⟨_, rfl⟩⟩⟩⟩
set_option maxRecDepth 100000 in
theorem in_N {L : Nat} {xs : Nat → Int32} : kN (jY0 L) (jM0 xs) 91 ∧ kN (jY0 L) (jM0 xs) 10 := by
  refine ⟨⟨rfl, by decide, ⟨_, rfl⟩, rfl, rfl, ⟨rfl, by decide, by decide, fun j hj => ⟨_, rfl⟩⟩, ⟨rfl, by decide, by decide, fun j hj => ⟨_, rfl⟩⟩⟩, ⟨rfl, by decide, ⟨_, rfl⟩, rfl, rfl, ⟨rfl, by decide, by decide, fun j hj => ⟨_, rfl⟩⟩, ⟨rfl, by decide, by decide, fun j hj => ⟨_, rfl⟩⟩⟩⟩
set_option maxRecDepth 100000 in
theorem in_S {L : Nat} {xs : Nat → Int32} : kS (jY0 L) (jM0 xs) 9 := by
  refine ⟨rfl, by decide, rfl, rfl, in_N.2, rfl, lt4 ⟨rfl, ?_⟩ ⟨rfl, ?_⟩ ⟨rfl, ?_⟩ ⟨rfl, ?_⟩⟩
  · exact ⟨rfl, by decide, ⟨_, rfl⟩, rfl, rfl, ⟨rfl, by decide, by decide, fun j hj => ⟨_, rfl⟩⟩, ⟨rfl, by decide, by decide, fun j hj => ⟨_, rfl⟩⟩⟩
  · exact ⟨rfl, by decide, ⟨_, rfl⟩, rfl, rfl, ⟨rfl, by decide, by decide, fun j hj => ⟨_, rfl⟩⟩, ⟨rfl, by decide, by decide, fun j hj => ⟨_, rfl⟩⟩⟩
  · exact ⟨rfl, by decide, ⟨_, rfl⟩, rfl, rfl, ⟨rfl, by decide, by decide, fun j hj => ⟨_, rfl⟩⟩, ⟨rfl, by decide, by decide, fun j hj => ⟨_, rfl⟩⟩⟩
  · exact ⟨rfl, by decide, ⟨_, rfl⟩, rfl, rfl, ⟨rfl, by decide, by decide, fun j hj => ⟨_, rfl⟩⟩, ⟨rfl, by decide, by decide, fun j hj => ⟨_, rfl⟩⟩⟩
set_option maxRecDepth 100000 in
theorem in_X {L : Nat} {xs : Nat → Int32} : kX (jY0 L) (jM0 xs) := ⟨in_T, in_R, in_I, in_AI, in_AL, in_FA, in_F, in_S, in_t.1, in_t.2, in_N.1, rfl, rfl⟩
set_option maxRecDepth 100000 in
theorem in_M {L : Nat} {xs : Nat → Int32} : kM (jY0 L) (jM0 xs) := by
  refine ⟨rfl, ?_, ⟨⟨_, rfl⟩, ⟨_, rfl⟩⟩, ?_, ?_, ?_, ⟨rfl, by decide, by decide, fun j hj => ⟨_, rfl⟩⟩⟩
  · unfold kMi
    iterate 18 refine fmc (⟨_, rfl⟩) ?_
    exact fun _ h => nomatch h
  · unfold kMr
    iterate 27 refine fmc (rfl) ?_
    exact fun _ h => nomatch h
  · unfold kMai
    iterate 13 refine fmc (⟨rfl, by decide, by decide, fun j hj => ⟨_, rfl⟩⟩) ?_
    exact fun _ h => nomatch h
  · unfold kMal
    iterate 13 refine fmc (⟨rfl, by decide, by decide, fun j hj => ⟨_, rfl⟩⟩) ?_
    exact fun _ h => nomatch h
set_option maxRecDepth 100000 in
theorem in_T0 {xs : Nat → Int32} {o : Nat} {R : Int} {A C : Int → Int} (e : gi (jM0 xs) o 0 = 0) (r : R = 0) : relT (jM0 xs) o R A C := by
  subst r
  exact ⟨e, by omega, by omega, fun x a b => by omega, fun x a b => by omega⟩
set_option maxRecDepth 100000 in
theorem in_Inv {L : Nat} {xs : Nat → Int32} : Inv L xs 123 (jY0 L) (jM0 xs) := by
  have e1 : gi (jM0 xs) 2 1 = 0 := rfl
  have e2 : gi (jM0 xs) 95 10 = 0 := rfl
  have e3 : gi (jM0 xs) 1 5 = 0 := rfl
  refine ⟨⟨rfl, fun j hj => rfl⟩, in_X, in_M, ⟨0, by omega, rfl, by omega, fun j hj => by omega, fun j _ hj => rfl⟩, ⟨rfl, by omega, by omega, fun x a b => by omega⟩, ⟨rfl, by omega, by omega, fun x a b => by omega, fun x a b => by omega, lt4 (in_T0 rfl rfl) (in_T0 rfl rfl) (in_T0 rfl rfl) (in_T0 rfl rfl)⟩, rfl, by omega, by omega, fun k hk => by omega⟩
set_option maxRecDepth 100000 in
theorem in_hS {L : Nat} {xs : Nat → Int32} : ∀ (n : Nat) (Y : jY) (μ : jM), Inv L xs n Y μ → Y 0 = (20, L) ∧ (∀ j, j < L → μ 0 j = .int (xs j)) ∧ (Y 1).1 = 11 ∧ (Y 95).1 = 12 ∧ n ≤ 400 := by
  intro n Y μ h
  obtain ⟨s, s8, sn, _⟩ := h.2.2.2.1
  exact ⟨h.1.1, h.1.2, h.x.y1, h.m.y, by omega⟩
