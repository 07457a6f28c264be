/-! BASE of the pure part: whole numbers in the machine's ints and longs, what a cell holds, what changes, loops -/
def ki (x : Int) : Int32 := Int32.ofInt x
def kl (x : Int) : Int64 := Int64.ofInt x
theorem ki_toInt {x : Int} (h1 : -2147483648 ≤ x) (h2 : x ≤ 2147483647) : (ki x).toInt = x := Int32.toInt_ofInt_of_le (by omega) (by omega)
theorem kl_toInt {x : Int} (h1 : -9223372036854775808 ≤ x) (h2 : x ≤ 9223372036854775807) : (kl x).toInt = x := Int64.toInt_ofInt_of_le (by omega) (by omega)
theorem ki_of (v : Int32) : ki v.toInt = v := Int32.ofInt_toInt v
theorem kl_of (v : Int64) : kl v.toInt = v := Int64.ofInt_toInt v
theorem ki_lo (v : Int32) : -2147483648 ≤ v.toInt := by have := v.le_toInt; omega
theorem ki_hi (v : Int32) : v.toInt ≤ 2147483647 := by have := v.toInt_lt; omega
theorem kl_lo (v : Int64) : -9223372036854775808 ≤ v.toInt := by have := v.le_toInt; omega
theorem kl_hi (v : Int64) : v.toInt ≤ 9223372036854775807 := by have := v.toInt_lt; omega
theorem ki_is (v : Int32) : ∃ x : Int, -2147483648 ≤ x ∧ x ≤ 2147483647 ∧ v = ki x := ⟨v.toInt, ki_lo v, ki_hi v, (ki_of v).symm⟩
theorem ki_add (a b : Int) : ki a + ki b = ki (a + b) := (Int32.ofInt_add a b).symm
theorem ki_sub (a b : Int) : ki a - ki b = ki (a - b) := (Int32.ofInt_sub a b).symm
theorem ki_mul (a b : Int) : ki a * ki b = ki (a * b) := (Int32.ofInt_mul a b).symm
theorem ki_neg (a : Int) : -ki a = ki (-a) := (Int32.ofInt_neg a).symm
theorem kl_add (a b : Int) : kl a + kl b = kl (a + b) := (Int64.ofInt_add a b).symm
theorem kl_sub (a b : Int) : kl a - kl b = kl (a - b) := (Int64.ofInt_sub a b).symm
theorem kl_mul (a b : Int) : kl a * kl b = kl (a * b) := (Int64.ofInt_mul a b).symm
theorem kl_neg (a : Int) : -kl a = kl (-a) := (Int64.ofInt_neg a).symm
theorem ki_lt {a b : Int} (h1 : -2147483648 ≤ a) (h2 : a ≤ 2147483647) (h3 : -2147483648 ≤ b) (h4 : b ≤ 2147483647) : (ki a < ki b) = (a < b) := by
  rw [Int32.lt_iff_toInt_lt, ki_toInt h1 h2, ki_toInt h3 h4]
theorem ki_le {a b : Int} (h1 : -2147483648 ≤ a) (h2 : a ≤ 2147483647) (h3 : -2147483648 ≤ b) (h4 : b ≤ 2147483647) : (ki a ≤ ki b) = (a ≤ b) := by
  rw [Int32.le_iff_toInt_le, ki_toInt h1 h2, ki_toInt h3 h4]
theorem ki_eq {a b : Int} (h1 : -2147483648 ≤ a) (h2 : a ≤ 2147483647) (h3 : -2147483648 ≤ b) (h4 : b ≤ 2147483647) : (ki a = ki b) = (a = b) := by
  rw [← Int32.toInt_inj, ki_toInt h1 h2, ki_toInt h3 h4]
theorem kl_eq {a b : Int} (h1 : -9223372036854775808 ≤ a) (h2 : a ≤ 9223372036854775807) (h3 : -9223372036854775808 ≤ b) (h4 : b ≤ 9223372036854775807) : (kl a = kl b) = (a = b) := by
  rw [← Int64.toInt_inj, kl_toInt h1 h2, kl_toInt h3 h4]
theorem kl_lt {a b : Int} (h1 : -9223372036854775808 ≤ a) (h2 : a ≤ 9223372036854775807) (h3 : -9223372036854775808 ≤ b) (h4 : b ≤ 9223372036854775807) : (kl a < kl b) = (a < b) := by
  rw [Int64.lt_iff_toInt_lt, kl_toInt h1 h2, kl_toInt h3 h4]
theorem ki_i2l {a : Int} (h1 : -2147483648 ≤ a) (h2 : a ≤ 2147483647) : (ki a).toInt64 = kl a := by
  rw [← Int64.toInt_inj, Int32.toInt_toInt64, ki_toInt h1 h2, kl_toInt (by omega) (by omega)]
theorem kl_l2i (a : Int) : (kl a).toInt32 = ki a := by
  rw [← Int32.toInt_inj]
  simp [kl, ki]
theorem kcmp_cases {a b : Int} (h1 : -9223372036854775808 ≤ a) (h2 : a ≤ 9223372036854775807) (h3 : -9223372036854775808 ≤ b) (h4 : b ≤ 9223372036854775807) : (a < b ∧ lg_cmp (kl a) (kl b) = -1) ∨ (a = b ∧ lg_cmp (kl a) (kl b) = 0) ∨ (b < a ∧ lg_cmp (kl a) (kl b) = 1) := by
  unfold lg_cmp
  simp only [gt_iff_lt, kl_lt h3 h4 h1 h2, kl_eq h1 h2 h3 h4]
  by_cases e1 : b < a
  · exact Or.inr (Or.inr ⟨e1, by rw [if_pos e1]⟩)
  · by_cases e2 : a = b
    · exact Or.inr (Or.inl ⟨e2, by rw [if_neg e1, if_pos e2]⟩)
    · exact Or.inl ⟨by omega, by rw [if_neg e1, if_neg e2]⟩
theorem kcmp_eq {a b : Int} (h1 : -9223372036854775808 ≤ a) (h2 : a ≤ 9223372036854775807) (h3 : -9223372036854775808 ≤ b) (h4 : b ≤ 9223372036854775807) : (lg_cmp (kl a) (kl b) = ki 0) = (a = b) := by
  rcases kcmp_cases h1 h2 h3 h4 with ⟨h, e⟩ | ⟨h, e⟩ | ⟨h, e⟩ <;> rw [e] <;> apply propext <;> constructor <;> intro q <;> first | omega | decide | exact absurd q (by decide)
theorem kcmp_lt {a b : Int} (h1 : -9223372036854775808 ≤ a) (h2 : a ≤ 9223372036854775807) (h3 : -9223372036854775808 ≤ b) (h4 : b ≤ 9223372036854775807) : (lg_cmp (kl a) (kl b) < ki 0) = (a < b) := by
  rcases kcmp_cases h1 h2 h3 h4 with ⟨h, e⟩ | ⟨h, e⟩ | ⟨h, e⟩ <;> rw [e] <;> apply propext <;> constructor <;> intro q <;> first | omega | decide | exact absurd q (by decide)
theorem kcmp_le {a b : Int} (h1 : -9223372036854775808 ≤ a) (h2 : a ≤ 9223372036854775807) (h3 : -9223372036854775808 ≤ b) (h4 : b ≤ 9223372036854775807) : (lg_cmp (kl a) (kl b) ≤ ki 0) = (a ≤ b) := by
  rcases kcmp_cases h1 h2 h3 h4 with ⟨h, e⟩ | ⟨h, e⟩ | ⟨h, e⟩ <;> rw [e] <;> apply propext <;> constructor <;> intro q <;> first | omega | decide | exact absurd q (by decide)
theorem kcmp_gt {a b : Int} (h1 : -9223372036854775808 ≤ a) (h2 : a ≤ 9223372036854775807) (h3 : -9223372036854775808 ≤ b) (h4 : b ≤ 9223372036854775807) : (ki 0 < lg_cmp (kl a) (kl b)) = (b < a) := by
  rcases kcmp_cases h1 h2 h3 h4 with ⟨h, e⟩ | ⟨h, e⟩ | ⟨h, e⟩ <;> rw [e] <;> apply propext <;> constructor <;> intro q <;> first | omega | decide | exact absurd q (by decide)
theorem kcmp_ge {a b : Int} (h1 : -9223372036854775808 ≤ a) (h2 : a ≤ 9223372036854775807) (h3 : -9223372036854775808 ≤ b) (h4 : b ≤ 9223372036854775807) : (ki 0 ≤ lg_cmp (kl a) (kl b)) = (b ≤ a) := by
  rcases kcmp_cases h1 h2 h3 h4 with ⟨h, e⟩ | ⟨h, e⟩ | ⟨h, e⟩ <;> rw [e] <;> apply propext <;> constructor <;> intro q <;> first | omega | decide | exact absurd q (by decide)
theorem ki_0 : (0 : Int32) = ki 0 := rfl
theorem ki_1 : (1 : Int32) = ki 1 := rfl
theorem ki_2 : (2 : Int32) = ki 2 := rfl
theorem ki_3 : (3 : Int32) = ki 3 := rfl
theorem ki_4 : (4 : Int32) = ki 4 := rfl
theorem ki_5 : (5 : Int32) = ki 5 := rfl
theorem ki_6 : (6 : Int32) = ki 6 := rfl
theorem ki_7 : (7 : Int32) = ki 7 := rfl
theorem ki_8 : (8 : Int32) = ki 8 := rfl
theorem ki_9 : (9 : Int32) = ki 9 := rfl
theorem ki_10 : (10 : Int32) = ki 10 := rfl
theorem ki_11 : (11 : Int32) = ki 11 := rfl
theorem ki_12 : (12 : Int32) = ki 12 := rfl
theorem ki_13 : (13 : Int32) = ki 13 := rfl
theorem ki_18 : (18 : Int32) = ki 18 := rfl
theorem ki_20 : (20 : Int32) = ki 20 := rfl
theorem ki_24 : (24 : Int32) = ki 24 := rfl
theorem ki_32 : (32 : Int32) = ki 32 := rfl
theorem ki_36 : (36 : Int32) = ki 36 := rfl
theorem ki_45 : (45 : Int32) = ki 45 := rfl
theorem ki_47 : (47 : Int32) = ki 47 := rfl
theorem ki_48 : (48 : Int32) = ki 48 := rfl
theorem ki_50 : (50 : Int32) = ki 50 := rfl
theorem ki_57 : (57 : Int32) = ki 57 := rfl
theorem ki_60 : (60 : Int32) = ki 60 := rfl
theorem ki_63 : (63 : Int32) = ki 63 := rfl
theorem ki_99 : (99 : Int32) = ki 99 := rfl
theorem ki_100 : (100 : Int32) = ki 100 := rfl
theorem ki_101 : (101 : Int32) = ki 101 := rfl
theorem ki_120 : (120 : Int32) = ki 120 := rfl
theorem ki_255 : (255 : Int32) = ki 255 := rfl
theorem ki_468 : (468 : Int32) = ki 468 := rfl
theorem ki_1000 : (1000 : Int32) = ki 1000 := rfl
theorem ki_1024 : (1024 : Int32) = ki 1024 := rfl
theorem ki_13849 : (13849 : Int32) = ki 13849 := rfl
theorem ki_25173 : (25173 : Int32) = ki 25173 := rfl
theorem ki_65535 : (65535 : Int32) = ki 65535 := rfl
theorem ki_65536 : (65536 : Int32) = ki 65536 := rfl
theorem ki_100000 : (100000 : Int32) = ki 100000 := rfl
theorem ki_100001 : (100001 : Int32) = ki 100001 := rfl
theorem ki_2147483647 : (2147483647 : Int32) = ki 2147483647 := rfl
theorem ki_2147483648 : (2147483648 : Int32) = ki 2147483648 := rfl
theorem kl_0 : (0 : Int64) = kl 0 := rfl
theorem kl_1 : (1 : Int64) = kl 1 := rfl
theorem kl_2 : (2 : Int64) = kl 2 := rfl
theorem kl_9223372036854775808 : (9223372036854775808 : Int64) = kl 9223372036854775808 := rfl
/-! what a cell holds -/
def gi (μ : jM) (a : Nat) (x : Int) : Int := match μ a x.toNat with
  | .int v => v.toInt
  | _ => 0
def gl (μ : jM) (a : Nat) (x : Int) : Int := match μ a x.toNat with
  | .long v => v.toInt
  | _ => 0
def isI (μ : jM) (a j : Nat) : Prop := ∃ v, μ a j = .int v
def isL (μ : jM) (a j : Nat) : Prop := ∃ v, μ a j = .long v
theorem gi_lo (μ : jM) (a : Nat) (x : Int) : -2147483648 ≤ gi μ a x := by
  unfold gi
  split
  · exact ki_lo _
  · omega
theorem gi_hi (μ : jM) (a : Nat) (x : Int) : gi μ a x ≤ 2147483647 := by
  unfold gi
  split
  · exact ki_hi _
  · omega
theorem gl_lo (μ : jM) (a : Nat) (x : Int) : -9223372036854775808 ≤ gl μ a x := by
  unfold gl
  split
  · exact kl_lo _
  · omega
theorem gl_hi (μ : jM) (a : Nat) (x : Int) : gl μ a x ≤ 9223372036854775807 := by
  unfold gl
  split
  · exact kl_hi _
  · omega
theorem gi_at {μ : jM} {a j : Nat} (h : isI μ a j) : μ a j = .int (ki (gi μ a (j : Int))) := by
  obtain ⟨v, hv⟩ := h
  unfold gi
  rw [Int.toNat_natCast, hv, ki_of]
theorem gl_at {μ : jM} {a j : Nat} (h : isL μ a j) : μ a j = .long (kl (gl μ a (j : Int))) := by
  obtain ⟨v, hv⟩ := h
  unfold gl
  rw [Int.toNat_natCast, hv, kl_of]
theorem gi_is {μ : jM} {a j : Nat} {x : Int} (h : μ a j = .int (ki x)) (h1 : -2147483648 ≤ x) (h2 : x ≤ 2147483647) : gi μ a (j : Int) = x := by
  unfold gi
  rw [Int.toNat_natCast, h]
  exact ki_toInt h1 h2
theorem gi_cell {μ μ' : jM} {a : Nat} (h : μ' a = μ a) (x : Int) : gi μ' a x = gi μ a x := by
  unfold gi
  rw [h]
theorem gl_cell {μ μ' : jM} {a : Nat} (h : μ' a = μ a) (x : Int) : gl μ' a x = gl μ a x := by
  unfold gl
  rw [h]
/-- a field of ints, of longs, of references -/
theorem kgI {Y : jY} {μ : jM} {o ci k : Nat} (hY : (Y o).1 = ci) (h : isI μ o k) : jgI Y μ o ci k = some (ki (gi μ o (k : Int))) := by
  unfold jgI
  rw [if_pos hY, gi_at h]
  rfl
theorem kgL {Y : jY} {μ : jM} {o ci k : Nat} (hY : (Y o).1 = ci) (h : isL μ o k) : jgL Y μ o ci k = some (kl (gl μ o (k : Int))) := by
  unfold jgL
  rw [if_pos hY, gl_at h]
  rfl
theorem kgO {Y : jY} {μ : jM} {o ci k r : Nat} (hY : (Y o).1 = ci) (h : μ o k = .ref r) : jgO Y μ o ci k = some r := by
  unfold jgO
  rw [if_pos hY, h]
  rfl
theorem kput {Y : jY} {μ : jM} {o ci k : Nat} {v : Value} (hY : (Y o).1 = ci) (h0 : o ≠ 0) : jput Y μ o ci k v = some (jw μ o k v) := by
  unfold jput
  rw [if_pos ⟨hY, h0⟩]
theorem kjix {x : Int} {n : Nat} (h0 : 0 ≤ x) (h1 : x < n) (hn : n ≤ 1000) : jix (ki x) n = some x.toNat := by
  unfold jix
  rw [ki_toInt (by omega) (by omega), if_pos ⟨h0, h1⟩]
/-- arrays of ints, longs, bytes -/
def kAI (Y : jY) (μ : jM) (a n : Nat) : Prop := Y a = (20, n) ∧ a ≠ 0 ∧ n ≤ 1000 ∧ ∀ j, j < n → isI μ a j
def kAL (Y : jY) (μ : jM) (a n : Nat) : Prop := Y a = (21, n) ∧ a ≠ 0 ∧ n ≤ 1000 ∧ ∀ j, j < n → isL μ a j
def kAB (Y : jY) (μ : jM) (a n : Nat) : Prop := Y a = (22, n) ∧ a ≠ 0 ∧ n ≤ 1000 ∧ ∀ j, j < n → isI μ a j
theorem toNat_cast {x : Int} (h : 0 ≤ x) : ((x.toNat : Nat) : Int) = x := by omega
theorem kaI {Y : jY} {μ : jM} {a n : Nat} (h : kAI Y μ a n) {x : Int} (h0 : 0 ≤ x) (h1 : x < n) : jaI Y μ a 20 (ki x) = some (ki (gi μ a x)) := by
  unfold jaI
  rw [h.1, if_pos rfl, kjix h0 h1 h.2.2.1, Option.bind_some, gi_at (h.2.2.2 x.toNat (by omega)), toNat_cast h0]
  rfl
theorem kaL {Y : jY} {μ : jM} {a n : Nat} (h : kAL Y μ a n) {x : Int} (h0 : 0 ≤ x) (h1 : x < n) : jaL Y μ a 21 (ki x) = some (kl (gl μ a x)) := by
  unfold jaL
  rw [h.1, if_pos rfl, kjix h0 h1 h.2.2.1, Option.bind_some, gl_at (h.2.2.2 x.toNat (by omega)), toNat_cast h0]
  rfl
theorem kaB {Y : jY} {μ : jM} {a n : Nat} (h : kAB Y μ a n) {x : Int} (h0 : 0 ≤ x) (h1 : x < n) : jaI Y μ a 22 (ki x) = some (ki (gi μ a x)) := by
  unfold jaI
  rw [h.1, if_pos rfl, kjix h0 h1 h.2.2.1, Option.bind_some, gi_at (h.2.2.2 x.toNat (by omega)), toNat_cast h0]
  rfl
theorem kasI {Y : jY} {μ : jM} {a n : Nat} (h : kAI Y μ a n) {x : Int} {v : Value} (h0 : 0 ≤ x) (h1 : x < n) : jas Y μ a 20 (ki x) v = some (jw μ a x.toNat v) := by
  unfold jas
  rw [h.1, if_pos ⟨rfl, h.2.1⟩, kjix h0 h1 h.2.2.1]
  rfl
theorem kasL {Y : jY} {μ : jM} {a n : Nat} (h : kAL Y μ a n) {x : Int} {v : Value} (h0 : 0 ≤ x) (h1 : x < n) : jas Y μ a 21 (ki x) v = some (jw μ a x.toNat v) := by
  unfold jas
  rw [h.1, if_pos ⟨rfl, h.2.1⟩, kjix h0 h1 h.2.2.1]
  rfl
theorem kasB {Y : jY} {μ : jM} {a n : Nat} (h : kAB Y μ a n) {x : Int} {v : Value} (h0 : 0 ≤ x) (h1 : x < n) : jas Y μ a 22 (ki x) v = some (jw μ a x.toNat v) := by
  unfold jas
  rw [h.1, if_pos ⟨rfl, h.2.1⟩, kjix h0 h1 h.2.2.1]
  rfl
theorem krcv {α : Type} {Y : jY} {o ci : Nat} {r : Option α} (hY : (Y o).1 = ci) : jrcv Y o ci r = r := by
  unfold jrcv
  rw [if_pos hY]
theorem kbool0 : jbool (ki 0) = some (ki 0) := rfl
theorem kbool1 : jbool (ki 1) = some (ki 1) := rfl
/-! what changes: only cells of lo to hi, and every place keeps its kind -/
def kF (lo hi : Nat) (μ μ' : jM) : Prop := (∀ i, i < lo ∨ hi ≤ i → μ' i = μ i) ∧ ∀ i j, (isI μ i j → isI μ' i j) ∧ (isL μ i j → isL μ' i j) ∧ (∀ r, μ i j = .ref r → μ' i j = .ref r) ∧ (μ i j = .null → μ' i j = .null)
theorem kF.refl {lo hi : Nat} {μ : jM} : kF lo hi μ μ := ⟨fun _ _ => rfl, fun _ _ => ⟨id, id, fun _ => id, id⟩⟩
theorem kF.trans {lo hi : Nat} {a b c : jM} (h1 : kF lo hi a b) (h2 : kF lo hi b c) : kF lo hi a c :=
  ⟨fun i hi => (h2.1 i hi).trans (h1.1 i hi), fun i j => ⟨fun h => (h2.2 i j).1 ((h1.2 i j).1 h), fun h => (h2.2 i j).2.1 ((h1.2 i j).2.1 h), fun r h => (h2.2 i j).2.2.1 r ((h1.2 i j).2.2.1 r h), fun h => (h2.2 i j).2.2.2 ((h1.2 i j).2.2.2 h)⟩⟩
theorem kF.mono {lo hi lo' hi' : Nat} {a b : jM} (h : kF lo hi a b) (h1 : lo' ≤ lo) (h2 : hi ≤ hi') : kF lo' hi' a b :=
  ⟨fun i hi => h.1 i (by omega), h.2⟩
theorem kF.cell {lo hi : Nat} {a b : jM} (h : kF lo hi a b) {i : Nat} (hi : i < lo ∨ hi ≤ i) : b i = a i := h.1 i hi
theorem kF.gi {lo hi : Nat} {a b : jM} (h : kF lo hi a b) {i : Nat} (hi : i < lo ∨ hi ≤ i) (x : Int) : gi b i x = gi a i x := gi_cell (h.1 i hi) x
theorem kF.gl {lo hi : Nat} {a b : jM} (h : kF lo hi a b) {i : Nat} (hi : i < lo ∨ hi ≤ i) (x : Int) : gl b i x = gl a i x := gl_cell (h.1 i hi) x
theorem kF.I {lo hi : Nat} {a b : jM} (h : kF lo hi a b) {i j : Nat} (q : isI a i j) : isI b i j := (h.2 i j).1 q
theorem kF.L {lo hi : Nat} {a b : jM} (h : kF lo hi a b) {i j : Nat} (q : isL a i j) : isL b i j := (h.2 i j).2.1 q
theorem kF.R {lo hi : Nat} {a b : jM} (h : kF lo hi a b) {i j r : Nat} (q : a i j = .ref r) : b i j = .ref r := (h.2 i j).2.2.1 r q
theorem kF.N {lo hi : Nat} {a b : jM} (h : kF lo hi a b) {i j : Nat} (q : a i j = .null) : b i j = .null := (h.2 i j).2.2.2 q
theorem kAI.to {Y : jY} {μ μ' : jM} {a n lo hi : Nat} (h : kAI Y μ a n) (k : kF lo hi μ μ') : kAI Y μ' a n := ⟨h.1, h.2.1, h.2.2.1, fun j hj => k.I (h.2.2.2 j hj)⟩
theorem kAL.to {Y : jY} {μ μ' : jM} {a n lo hi : Nat} (h : kAL Y μ a n) (k : kF lo hi μ μ') : kAL Y μ' a n := ⟨h.1, h.2.1, h.2.2.1, fun j hj => k.L (h.2.2.2 j hj)⟩
theorem kAB.to {Y : jY} {μ μ' : jM} {a n lo hi : Nat} (h : kAB Y μ a n) (k : kF lo hi μ μ') : kAB Y μ' a n := ⟨h.1, h.2.1, h.2.2.1, fun j hj => k.I (h.2.2.2 j hj)⟩
theorem kF_I {lo hi : Nat} {μ : jM} {o k : Nat} {v : Int32} (h : isI μ o k) (h1 : lo ≤ o) (h2 : o < hi) : kF lo hi μ (jw μ o k (.int v)) := by
  obtain ⟨w, hw⟩ := h
  refine ⟨fun i hi => funext fun j => jw_ne μ _ (fun q => by omega), fun i j => ?_⟩
  by_cases e : i = o ∧ j = k
  · obtain ⟨rfl, rfl⟩ := e
    rw [jw_same, hw]
    exact ⟨fun _ => ⟨v, jw_same _ _ _ _⟩, fun q => (by obtain ⟨z, q⟩ := q; rw [hw] at q; cases q), fun r q => (by cases q), fun q => (by cases q)⟩
  · have e2 := jw_ne μ (.int v) e
    unfold isI isL
    rw [e2]
    exact ⟨id, id, fun _ => id, id⟩
theorem kF_L {lo hi : Nat} {μ : jM} {o k : Nat} {v : Int64} (h : isL μ o k) (h1 : lo ≤ o) (h2 : o < hi) : kF lo hi μ (jw μ o k (.long v)) := by
  obtain ⟨w, hw⟩ := h
  refine ⟨fun i hi => funext fun j => jw_ne μ _ (fun q => by omega), fun i j => ?_⟩
  by_cases e : i = o ∧ j = k
  · obtain ⟨rfl, rfl⟩ := e
    rw [jw_same, hw]
    exact ⟨fun q => (by obtain ⟨z, q⟩ := q; rw [hw] at q; cases q), fun _ => ⟨v, jw_same _ _ _ _⟩, fun r q => (by cases q), fun q => (by cases q)⟩
  · have e2 := jw_ne μ (.long v) e
    unfold isI isL
    rw [e2]
    exact ⟨id, id, fun _ => id, id⟩
/-- what is read behind a write -/
theorem gi_jw {μ : jM} {o k : Nat} {v : Int} (a : Nat) (x : Int) (h1 : -2147483648 ≤ v) (h2 : v ≤ 2147483647) : gi (jw μ o k (.int (ki v))) a x = if a = o ∧ x.toNat = k then v else gi μ a x := by
  unfold gi
  by_cases e : a = o ∧ x.toNat = k
  · rw [if_pos e]
    obtain ⟨rfl, rfl⟩ := e
    rw [jw_same]
    exact ki_toInt h1 h2
  · rw [if_neg e, jw_ne μ _ e]
theorem gl_jw {μ : jM} {o k : Nat} {v : Int} (a : Nat) (x : Int) (h1 : -9223372036854775808 ≤ v) (h2 : v ≤ 9223372036854775807) : gl (jw μ o k (.long (kl v))) a x = if a = o ∧ x.toNat = k then v else gl μ a x := by
  unfold gl
  by_cases e : a = o ∧ x.toNat = k
  · rw [if_pos e]
    obtain ⟨rfl, rfl⟩ := e
    rw [jw_same]
    exact kl_toInt h1 h2
  · rw [if_neg e, jw_ne μ _ e]
theorem gi_jwl {μ : jM} {o k : Nat} {v : Int64} (a : Nat) (x : Int) (h : isL μ o k) : gi (jw μ o k (.long v)) a x = gi μ a x := by
  unfold gi
  by_cases e : a = o ∧ x.toNat = k
  · obtain ⟨rfl, rfl⟩ := e
    obtain ⟨w, hw⟩ := h
    rw [jw_same, hw]
  · rw [jw_ne μ _ e]
theorem gl_jwi {μ : jM} {o k : Nat} {v : Int32} (a : Nat) (x : Int) (h : isI μ o k) : gl (jw μ o k (.int v)) a x = gl μ a x := by
  unfold gl
  by_cases e : a = o ∧ x.toNat = k
  · obtain ⟨rfl, rfl⟩ := e
    obtain ⟨w, hw⟩ := h
    rw [jw_same, hw]
  · rw [jw_ne μ _ e]
/-! loops -/
theorem jit_go {σ ρ : Type} {f : σ → Option (σ ⊕ ρ)} (I : Nat → σ → Prop) (D : ρ → Prop) (N : Nat) (step : ∀ k s, k ≤ N → I k s → ∃ z, f s = some z ∧ Sum.elim (fun s2 => k < N ∧ I (k + 1) s2) D z) : ∀ (d k fuel : Nat) (s : σ), k + d = N → I k s → d < fuel → ∃ r, jit fuel f s = some r ∧ D r := by
  intro d
  induction d with
  | zero =>
    intro k fuel s hk hI hf
    obtain ⟨z, e, h⟩ := step k s (by omega) hI
    cases fuel with
    | zero => omega
    | succ fuel =>
      rw [jit, e]
      cases z with
      | inl s2 => exact absurd h.1 (by omega)
      | inr r => exact ⟨r, rfl, h⟩
  | succ d ih =>
    intro k fuel s hk hI hf
    obtain ⟨z, e, h⟩ := step k s (by omega) hI
    cases fuel with
    | zero => omega
    | succ fuel =>
      rw [jit, e]
      cases z with
      | inl s2 => exact ih (k + 1) fuel s2 (by omega) h.2 (by omega)
      | inr r => exact ⟨r, rfl, h⟩
theorem jit_inv {σ ρ : Type} {f : σ → Option (σ ⊕ ρ)} (I : Nat → σ → Prop) (D : ρ → Prop) (N : Nat) {s : σ} (h0 : I 0 s) (hN : N < 1000000) (step : ∀ k s, k ≤ N → I k s → ∃ z, f s = some z ∧ Sum.elim (fun s2 => k < N ∧ I (k + 1) s2) D z) : ∃ r, jit jF f s = some r ∧ D r :=
  jit_go I D N step N 0 jF s (by omega) h0 hN
/-- a loop whose states are told one by one -/
theorem jit_run {σ ρ : Type} {f : σ → Option (σ ⊕ ρ)} (T : Nat → σ) (r : ρ) (N : Nat) {s0 : σ} (hs : s0 = T 0) (hN : N < 1000000) (step : ∀ k, k < N → f (T k) = some (.inl (T (k + 1)))) (last : f (T N) = some (.inr r)) : jit jF f s0 = some r := by
  subst hs
  obtain ⟨r', e, h⟩ := jit_inv (f := f) (fun k s => s = T k) (fun x => x = r) N (s := T 0) rfl hN (fun k s hk hs => by
    subst hs
    by_cases e : k < N
    · exact ⟨_, step k e, e, rfl⟩
    · have : k = N := by omega
      subst this
      exact ⟨_, last, rfl⟩)
  rw [e, h]
