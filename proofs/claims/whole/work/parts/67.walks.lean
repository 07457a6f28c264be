/-! WALKS: a table times a column, a row times a table -/
theorem mulB {a b A B : Int} (h1 : -A ≤ a) (h2 : a ≤ A) (h3 : -B ≤ b) (h4 : b ≤ B) : -(A * B) ≤ a * b ∧ a * b ≤ A * B := by
  have k : (a * b).natAbs ≤ A.toNat * B.toNat := by
    rw [Int.natAbs_mul]
    exact Nat.mul_le_mul (by omega) (by omega)
  have e : A * B = ((A.toNat * B.toNat : Nat) : Int) := by
    rw [Int.natCast_mul, toNat_cast (by omega), toNat_cast (by omega)]
  omega
def rowL (ν : jM) (a : Nat) (R : Int) (p : Int → Int) : Prop := ∀ x : Int, 0 ≤ x → x < R → gl ν a x = p x
def bdR (B R : Int) (p : Int → Int) : Prop := ∀ x : Int, 0 ≤ x → x < R → -B ≤ p x ∧ p x ≤ B
def cs (A C : Int → Int) (R : Int) (p : Int → Int) (x : Int) : Int := A x * p x + (if x + 1 < R then p (x + 1) else 0) + (if 0 < x then C (x - 1) * p (x - 1) else 0)
def rs (A C : Int → Int) (R : Int) (p : Int → Int) (x : Int) : Int := p x * A x + (if 0 < x then p (x - 1) else 0) + (if x < R - 1 then p (x + 1) * C x else 0)
def csI (A C : Int → Int) (R : Int) (p : Int → Int) : Nat → Int → Int
  | 0 => p
  | k + 1 => cs A C R (csI A C R p k)
def rsI (A C : Int → Int) (R : Int) (p : Int → Int) : Nat → Int → Int
  | 0 => p
  | k + 1 => rs A C R (rsI A C R p k)
def eI (j x : Int) : Int := if x = j then 1 else 0
def tbR (R : Int) (A C : Int → Int) : Prop := (∀ x : Int, 0 ≤ x → x < R → -6 ≤ A x ∧ A x ≤ 6) ∧ ∀ x : Int, 0 ≤ x → x < R - 1 → 1 ≤ C x ∧ C x ≤ 36
theorem cs_bd {A C : Int → Int} {R B : Int} {p : Int → Int} (h : tbR R A C) (hB : 0 ≤ B) (hp : bdR B R p) : bdR (43 * B) R (cs A C R p) := by
  intro x x0 x1
  unfold cs
  have b1 := mulB (A := 6) (B := B) (h.1 x x0 x1).1 (h.1 x x0 x1).2 (hp x x0 x1).1 (hp x x0 x1).2
  have b2 : -B ≤ (if x + 1 < R then p (x + 1) else 0) ∧ (if x + 1 < R then p (x + 1) else 0) ≤ B := by
    by_cases e : x + 1 < R
    · rw [if_pos e]; exact hp (x + 1) (by omega) e
    · rw [if_neg e]; omega
  have b3 : -(36 * B) ≤ (if 0 < x then C (x - 1) * p (x - 1) else 0) ∧ (if 0 < x then C (x - 1) * p (x - 1) else 0) ≤ 36 * B := by
    by_cases e : 0 < x
    · rw [if_pos e]
      have c := h.2 (x - 1) (by omega) (by omega)
      have q := hp (x - 1) (by omega) (by omega)
      exact mulB (by omega) c.2 q.1 q.2
    · rw [if_neg e]; omega
  generalize (if x + 1 < R then p (x + 1) else 0) = u at *
  generalize (if 0 < x then C (x - 1) * p (x - 1) else 0) = v at *
  generalize A x * p x = w at *
  omega
theorem rs_bd {A C : Int → Int} {R B : Int} {p : Int → Int} (h : tbR R A C) (hB : 0 ≤ B) (hp : bdR B R p) : bdR (43 * B) R (rs A C R p) := by
  intro x x0 x1
  unfold rs
  have b1 := mulB (A := 6) (B := B) (h.1 x x0 x1).1 (h.1 x x0 x1).2 (hp x x0 x1).1 (hp x x0 x1).2
  rw [Int.mul_comm (A x)] at b1
  have b2 : -B ≤ (if 0 < x then p (x - 1) else 0) ∧ (if 0 < x then p (x - 1) else 0) ≤ B := by
    by_cases e : 0 < x
    · rw [if_pos e]; exact hp (x - 1) (by omega) (by omega)
    · rw [if_neg e]; omega
  have b3 : -(36 * B) ≤ (if x < R - 1 then p (x + 1) * C x else 0) ∧ (if x < R - 1 then p (x + 1) * C x else 0) ≤ 36 * B := by
    by_cases e : x < R - 1
    · rw [if_pos e, Int.mul_comm (p (x + 1))]
      have c := h.2 x (by omega) (by omega)
      have q := hp (x + 1) (by omega) (by omega)
      exact mulB (by omega) c.2 q.1 q.2
    · rw [if_neg e]; omega
  generalize (if 0 < x then p (x - 1) else 0) = u at *
  generalize (if x < R - 1 then p (x + 1) * C x else 0) = v at *
  generalize p x * A x = w at *
  omega
def p43 : Nat → Int
  | 0 => 1
  | k + 1 => 43 * p43 k
theorem p43_pos : ∀ k, 0 ≤ p43 k := by
  intro k
  induction k with
  | zero => show (0 : Int) ≤ 1; omega
  | succ k ih => show 0 ≤ 43 * p43 k; omega
theorem csI_bd {A C : Int → Int} {R : Int} {p : Int → Int} (h : tbR R A C) (hp : bdR 1 R p) : ∀ k, bdR (p43 k) R (csI A C R p k) := by
  intro k
  induction k with
  | zero => exact hp
  | succ k ih => exact cs_bd h (p43_pos k) ih
theorem rsI_bd {A C : Int → Int} {R : Int} {p : Int → Int} (h : tbR R A C) (hp : bdR 1 R p) : ∀ k, bdR (p43 k) R (rsI A C R p k) := by
  intro k
  induction k with
  | zero => exact hp
  | succ k ih => exact rs_bd h (p43_pos k) ih
theorem eI_bd {j R : Int} : bdR 1 R (eI j) := by
  intro x _ _
  unfold eI
  split <;> omega
theorem p43_le : ∀ k, k ≤ 8 → p43 k ≤ 11688200277601 := by
  intro k hk
  have : k = 0 ∨ k = 1 ∨ k = 2 ∨ k = 3 ∨ k = 4 ∨ k = 5 ∨ k = 6 ∨ k = 7 ∨ k = 8 := by omega
  rcases this with rfl | rfl | rfl | rfl | rfl | rfl | rfl | rfl | rfl <;> decide
/-- the product of a row and a column -/
def dot (r p : Int → Int) : Nat → Int
  | 0 => 0
  | n + 1 => dot r p n + r n * p n
theorem dot_e {j : Int} {p : Int → Int} : ∀ n : Nat, 0 ≤ j → dot (eI j) p n = if j < n then p j else 0 := by
  intro n
  induction n with
  | zero => intro h; rw [if_neg (by omega)]; rfl
  | succ n ih =>
    intro h
    rw [dot, ih h, eI]
    by_cases e : (n : Int) = j
    · rw [if_pos e, if_neg (by omega), if_pos (by omega), e, Int.zero_add, Int.one_mul]
    · rw [if_neg e, Int.zero_mul, Int.add_zero]
      by_cases f : j < n
      · rw [if_pos f, if_pos (by omega)]
      · rw [if_neg f, if_neg (by omega)]
theorem dot_e2 {j : Int} {p : Int → Int} : ∀ n : Nat, 0 ≤ j → dot p (eI j) n = if j < n then p j else 0 := by
  intro n
  induction n with
  | zero => intro h; rw [if_neg (by omega)]; rfl
  | succ n ih =>
    intro h
    rw [dot, ih h, eI]
    by_cases e : (n : Int) = j
    · rw [if_pos e, if_neg (by omega), if_pos (by omega), e, Int.zero_add, Int.mul_one]
    · rw [if_neg e, Int.mul_zero, Int.add_zero]
      by_cases f : j < n
      · rw [if_pos f, if_pos (by omega)]
      · rw [if_neg f, if_neg (by omega)]
theorem dot_cs {A C r p : Int → Int} : ∀ n : Nat, n ≤ 5 → dot r (cs A C n p) n = dot (rs A C n r) p n := by
  intro n hn
  have : n = 0 ∨ n = 1 ∨ n = 2 ∨ n = 3 ∨ n = 4 ∨ n = 5 := by omega
  rcases this with rfl | rfl | rfl | rfl | rfl | rfl
  · rfl
  · simp [dot, cs, rs]
    grind
  · simp [dot, cs, rs]
    grind
  · simp [dot, cs, rs]
    grind
  · simp [dot, cs, rs]
    grind
  · simp [dot, cs, rs]
    grind
theorem rs_front {A C : Int → Int} {R : Int} {r : Int → Int} : ∀ k, rsI A C R (rs A C R r) k = rs A C R (rsI A C R r k) := by
  intro k
  induction k with
  | zero => rfl
  | succ k ih => rw [rsI, ih, rsI]
theorem dot_csI {A C p : Int → Int} {n : Nat} (hn : n ≤ 5) : ∀ (k : Nat) (r : Int → Int), dot r (csI A C n p k) n = dot (rsI A C n r k) p n := by
  intro k
  induction k with
  | zero => intro r; rfl
  | succ k ih =>
    intro r
    rw [csI, dot_cs n hn, ih, rs_front]
    rfl
/-- row i, column j of the table taken k times: carried along as a column, or as a row -/
theorem walk_eq {A C : Int → Int} {R i j : Int} (h0 : 0 ≤ R) (h5 : R ≤ 5) (i0 : 0 ≤ i) (i1 : i < R) (j0 : 0 ≤ j) (j1 : j < R) (k : Nat) : csI A C R (eI j) k i = rsI A C R (eI i) k j := by
  have h := dot_csI (A := A) (C := C) (p := eI j) (n := R.toNat) (by omega) k (eI i)
  rw [dot_e _ i0, dot_e2 _ j0, if_pos (by omega), if_pos (by omega), toNat_cast h0] at h
  exact h
