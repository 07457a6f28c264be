/-! FRACTIONS reckoned, with every number looked at; all TONES one by one -/
def okB (x : Int) : Bool := Nat.ble x.natAbs 4611686018427387904
def fmulO (p : Int × Int) (t b : Int) : Option (Int × Int) :=
  let T := p.1.tdiv (cd p.1 b) * t.tdiv (cd t p.2)
  let B := p.2.tdiv (cd t p.2) * b.tdiv (cd p.1 b)
  if okB T && okB B then some (fset T B) else none
def faddO (p : Int × Int) (t b : Int) : Option (Int × Int) :=
  let T := p.1 * b.tdiv (cd p.2 b) + t * p.2.tdiv (cd p.2 b)
  let B := p.2.tdiv (cd p.2 b) * b
  if okB T && okB B then some (fset T B) else none
theorem okB_iff {x : Int} : okB x = true ↔ okb x := by
  unfold okB okb
  rw [Nat.ble_eq]
  omega
theorem tdiv_ok {a b : Int} (ha : okb a) : okb (a.tdiv b) := by
  unfold okb at *
  have h : (a.tdiv b).natAbs ≤ a.natAbs := by
    rw [Int.natAbs_tdiv]
    exact Nat.div_le_self _ _
  omega
theorem fset_ok {t b : Int} (ht : okb t) (hb : okb b) : okb (fset t b).1 ∧ okb (fset t b).2 := by
  have h1 := tdiv_ok (b := cd t b) ht
  have h2 := tdiv_ok (b := cd t b) hb
  unfold okb at h1 h2
  unfold fset
  split
  · exact ⟨by unfold okb; omega, by unfold okb; omega⟩
  · split
    · exact ⟨h1, h2⟩
    · simp only [okb]
      omega
theorem okb_1 : okb 1 := by unfold okb; omega
theorem okb_0 : okb 0 := by unfold okb; omega
theorem fmulO_ok {p : Int × Int} {t b : Int} {q : Int × Int} (e : fmulO p t b = some q) : okb q.1 ∧ okb q.2 := by
  simp only [fmulO] at e
  split at e
  · rename_i c
    rw [Bool.and_eq_true, okB_iff, okB_iff] at c
    cases e
    exact fset_ok c.1 c.2
  · cases e
theorem faddO_ok {p : Int × Int} {t b : Int} {q : Int × Int} (e : faddO p t b = some q) : okb q.1 ∧ okb q.2 := by
  simp only [faddO] at e
  split at e
  · rename_i c
    rw [Bool.and_eq_true, okB_iff, okB_iff] at c
    cases e
    exact fset_ok c.1 c.2
  · cases e
theorem X1_multiply_ {Y : jY} {μ : jM} {o : Nat} (h : kFr Y μ o) {p : Int × Int} (h0 : μ o 0 = .long (kl p.1)) (h1 : μ o 1 = .long (kl p.2)) (o0 : okb p.1) (o1 : okb p.2) {t b : Int} (ht : okb t) (hb : okb b) {q : Int × Int} (e : fmulO p t b = some q) : f_X1_multiply_ Y o (kl t) (kl b) μ = some (frw μ o q) := by
  simp only [fmulO] at e
  split at e
  · rename_i c
    rw [Bool.and_eq_true, okB_iff, okB_iff] at c
    cases e
    have g0 := kgLv (k := 0) h.1 h0
    have g1 := kgLv (k := 1) h.1 h1
    have c1 := X1_commonDivisor (Y := Y) (μ := μ) o0 hb
    have c2 := X1_commonDivisor (Y := Y) (μ := μ) ht o1
    have d1 := kdivL o0 (cd_ok o0 hb) (cd_ne p.1 b)
    have d2 := kdivL ht (cd_ok ht o1) (cd_ne t p.2)
    have d3 := kdivL o1 (cd_ok ht o1) (cd_ne t p.2)
    have d4 := kdivL hb (cd_ok o0 hb) (cd_ne p.1 b)
    have S := X1_set h c.1 c.2
    simp only [f_X1_multiply_, g0, g1, c1, c2, d1, d2, d3, d4, Option.bind_some, kl_mul, krcv h.1, S]
  · cases e
theorem X1_add_ {Y : jY} {μ : jM} {o : Nat} (h : kFr Y μ o) {p : Int × Int} (h0 : μ o 0 = .long (kl p.1)) (h1 : μ o 1 = .long (kl p.2)) (o1 : okb p.2) {t b : Int} (hb : okb b) {q : Int × Int} (e : faddO p t b = some q) : f_X1_add_ Y o (kl t) (kl b) μ = some (frw μ o q) := by
  simp only [faddO] at e
  split at e
  · rename_i c
    rw [Bool.and_eq_true, okB_iff, okB_iff] at c
    cases e
    have g0 := kgLv (k := 0) h.1 h0
    have g1 := kgLv (k := 1) h.1 h1
    have c1 := X1_commonDivisor (Y := Y) (μ := μ) o1 hb
    have d1 := kdivL hb (cd_ok o1 hb) (cd_ne p.2 b)
    have d2 := kdivL o1 (cd_ok o1 hb) (cd_ne p.2 b)
    have S := X1_set h c.1 c.2
    simp only [f_X1_add_, g0, g1, c1, d1, d2, Option.bind_some, kl_mul, kl_add, krcv h.1, S]
  · cases e
/-- the same, quicker to reckon -/
def gF (a b : Int) : Nat := match Nat.gcd (Int.natAbs a) (Int.natAbs b) with
  | 0 => 1
  | Nat.succ n => Nat.succ n
def dF (a : Int) (g : Nat) : Int := match a with
  | Int.ofNat n => Int.ofNat (Nat.div n g)
  | Int.negSucc n => Int.negOfNat (Nat.div (Nat.succ n) g)
def fN {α : Type} (x : Nat) (k : Nat → α) : α := match x with
  | 0 => k 0
  | Nat.succ n => k (Nat.succ n)
theorem fN_eq {α : Type} (x : Nat) (k : Nat → α) : fN x k = k x := by cases x <;> rfl
def fJ {α : Type} (x : Int) (k : Int → α) : α := match x with
  | Int.ofNat n => fN n fun n => k (Int.ofNat n)
  | Int.negSucc n => fN n fun n => k (Int.negSucc n)
theorem fJ_eq {α : Type} (x : Int) (k : Int → α) : fJ x k = k x := by
  cases x with
  | ofNat n => exact fN_eq n (fun n => k (Int.ofNat n))
  | negSucc n => exact fN_eq n (fun n => k (Int.negSucc n))
def sF (t b : Int) : Int × Int := match b with
  | Int.ofNat 0 => (0, 1)
  | Int.ofNat (Nat.succ n) => fN (gF t (Int.ofNat (Nat.succ n))) fun g => (dF t g, Int.ofNat (Nat.div (Nat.succ n) g))
  | Int.negSucc n => fN (gF t (Int.negSucc n)) fun g => (Int.neg (dF t g), Int.ofNat (Nat.div (Nat.succ n) g))
def goF (T B : Int) : Option (Int × Int) := match Nat.ble (Int.natAbs T) 4611686018427387904 with
  | false => none
  | true => match Nat.ble (Int.natAbs B) 4611686018427387904 with
    | false => none
    | true => fJ (sF T B).1 fun x => fJ (sF T B).2 fun y => some (x, y)
def mF (p : Int × Int) (t b : Int) : Option (Int × Int) := fN (gF p.1 b) fun g => fN (gF t p.2) fun h => fJ (Int.mul (dF p.1 g) (dF t h)) fun T => fJ (Int.mul (dF p.2 h) (dF b g)) fun B => goF T B
def aF (p : Int × Int) (t b : Int) : Option (Int × Int) := fN (gF p.2 b) fun g => fJ (dF p.2 g) fun u => fJ (Int.add (Int.mul p.1 (dF b g)) (Int.mul t u)) fun T => fJ (Int.mul u b) fun B => goF T B
theorem gF_eq (a b : Int) : gF a b = cd a b := by
  unfold gF cd
  split
  · rename_i h
    rw [h]
    rfl
  · rename_i n h
    rw [h]
    omega
theorem dF_eq (a : Int) (g : Nat) : dF a g = a.tdiv (g : Int) := by
  cases a with
  | ofNat n => rfl
  | negSucc n => rfl
theorem sF_eq (t b : Int) : sF t b = fset t b := by
  unfold fset
  cases b with
  | ofNat n =>
    cases n with
    | zero => rfl
    | succ n =>
      rw [if_neg (by show ¬ ((n + 1 : Nat) : Int) = 0; omega), if_pos (by show 0 ≤ ((n + 1 : Nat) : Int); omega)]
      show fN (gF t (Int.ofNat (Nat.succ n))) (fun g => (dF t g, Int.ofNat (Nat.div (Nat.succ n) g))) = _
      rw [fN_eq]
      show (dF t (gF t (Int.ofNat (Nat.succ n))), dF (Int.ofNat (Nat.succ n)) (gF t (Int.ofNat (Nat.succ n)))) = _
      rw [dF_eq, dF_eq, gF_eq]
  | negSucc n =>
    rw [if_neg (by omega), if_neg (by omega)]
    have e : -((Int.negSucc n).tdiv (cd t (Int.negSucc n) : Int)) = Int.ofNat (Nat.div (Nat.succ n) (cd t (Int.negSucc n))) := by
      rw [← dF_eq]
      show -(Int.negOfNat (Nat.div (Nat.succ n) (cd t (Int.negSucc n)))) = _
      generalize Nat.div (Nat.succ n) (cd t (Int.negSucc n)) = k
      cases k <;> rfl
    rw [e]
    show fN (gF t (Int.negSucc n)) (fun g => (Int.neg (dF t g), Int.ofNat (Nat.div (Nat.succ n) g))) = _
    rw [fN_eq]
    show (-(dF t (gF t (Int.negSucc n))), Int.ofNat (Nat.div (Nat.succ n) (gF t (Int.negSucc n)))) = _
    rw [dF_eq, gF_eq]
theorem goF_eq (T B : Int) : goF T B = if okB T && okB B then some (fset T B) else none := by
  unfold goF okB
  simp only [fJ_eq]
  rw [sF_eq]
  cases Nat.ble (Int.natAbs T) 4611686018427387904 <;> cases Nat.ble (Int.natAbs B) 4611686018427387904 <;> rfl
theorem mF_eq (p : Int × Int) (t b : Int) : mF p t b = fmulO p t b := by
  unfold mF fmulO
  rw [fN_eq, fN_eq, fJ_eq, fJ_eq, goF_eq, dF_eq, dF_eq, dF_eq, dF_eq, gF_eq, gF_eq]
  rfl
theorem aF_eq (p : Int × Int) (t b : Int) : aF p t b = faddO p t b := by
  unfold aF faddO
  rw [fN_eq, fJ_eq, fJ_eq, fJ_eq, goF_eq, dF_eq, dF_eq, gF_eq]
  rfl
/-! all TONES: the rows that rise -/
def lf (a b c d : Int) (x : Int) : Int := match x with
  | Int.ofNat 0 => a
  | Int.ofNat 1 => b
  | Int.ofNat 2 => c
  | _ => d
def rngI (lo : Int) : Nat → List Int
  | 0 => []
  | n + 1 => lo :: rngI (lo + 1) n
theorem rngI_all {f : Int → Bool} : ∀ (n : Nat) (lo : Int), (rngI lo n).all f = true → ∀ x : Int, lo ≤ x → x < lo + n → f x = true := by
  intro n
  induction n with
  | zero => intro lo _ x h1 h2; omega
  | succ n ih =>
    intro lo h x h1 h2
    rw [rngI, List.all_cons, Bool.and_eq_true] at h
    by_cases e : x = lo
    · rw [e]; exact h.1
    · exact ih (lo + 1) h.2 x (by omega) (by omega)
def upI (a : Int) (f : Int → Bool) : Bool := (rngI (a + 1) (6 - a).toNat).all f
theorem upI_all {a : Int} {f : Int → Bool} (h : upI a f = true) {x : Int} (h1 : a < x) (h2 : x ≤ 6) : f x = true := rngI_all _ _ h x (by omega) (by omega)
def all1 (P : Nat → (Int → Int) → (Int → Int) → Bool) : Bool := upI (-7) fun a => P 1 (lf a 0 0 0) (lf 0 0 0 0)
def all2 (P : Nat → (Int → Int) → (Int → Int) → Bool) : Bool := upI (-7) fun a => upI a fun u => upI u fun b => P 2 (lf a b 0 0) (lf u 0 0 0)
def all3 (P : Nat → (Int → Int) → (Int → Int) → Bool) : Bool := upI (-7) fun a => upI a fun u => upI u fun b => upI b fun v => upI v fun c => P 3 (lf a b c 0) (lf u v 0 0)
def all4a (P : Nat → (Int → Int) → (Int → Int) → Bool) (a : Int) : Bool := upI a fun u => upI u fun b => upI b fun v => upI v fun c => upI c fun w => upI w fun d => P 4 (lf a b c d) (lf u v w 0)
def allQ (P : Nat → (Int → Int) → (Int → Int) → Bool) : Prop := all1 P = true ∧ all2 P = true ∧ all3 P = true ∧ all4a P (-6) = true ∧ all4a P (-5) = true ∧ all4a P (-4) = true ∧ all4a P (-3) = true ∧ all4a P (-2) = true ∧ all4a P (-1) = true ∧ all4a P 0 = true
theorem Inv.all {L : Nat} {xs : Nat → Int32} {n : Nat} {Y : jY} {μ : jM} (h : Inv L xs n Y μ) (hN : gi μ 95 10 ≠ 0) {P : Nat → (Int → Int) → (Int → Int) → Bool} (hP : allQ P) : ∃ l m : Int → Int, (∀ x : Int, 0 ≤ x → x < gi μ 95 10 → gi μ 99 x = l x) ∧ (∀ x : Int, 0 ≤ x → x < gi μ 95 10 - 1 → gi μ 100 x = m x) ∧ P (gi μ 95 10).toNat l m = true := by
  obtain ⟨q1, q2, q3, q4, q5⟩ := h.q
  obtain ⟨p1, p2, p3, p4⟩ := hP
  have : gi μ 95 10 = 1 ∨ gi μ 95 10 = 2 ∨ gi μ 95 10 = 3 ∨ gi μ 95 10 = 4 := by omega
  rcases this with e | e | e | e <;> rw [e] at q4 q5 ⊢
  · have l0 := q4 0 (by omega) (by omega)
    refine ⟨lf (gi μ 99 0) 0 0 0, lf 0 0 0 0, fun x a b => ?_, fun x a b => by omega, upI_all p1 (by omega) (by omega)⟩
    have : x = 0 := by omega
    subst this
    rfl
  · have l0 := q4 0 (by omega) (by omega)
    have l1 := q4 1 (by omega) (by omega)
    have m0 := (q5 0 (by omega) (by omega)).2
    simp only [Int.zero_add] at m0
    refine ⟨lf (gi μ 99 0) (gi μ 99 1) 0 0, lf (gi μ 100 0) 0 0 0, fun x a b => ?_, fun x a b => ?_, upI_all (upI_all (upI_all p2 (x := gi μ 99 0) (by omega) (by omega)) (x := gi μ 100 0) (by omega) (by omega)) (x := gi μ 99 1) (by omega) (by omega)⟩
    · have : x = 0 ∨ x = 1 := by omega
      rcases this with rfl | rfl <;> rfl
    · have : x = 0 := by omega
      subst this
      rfl
  · have l0 := q4 0 (by omega) (by omega)
    have l1 := q4 1 (by omega) (by omega)
    have l2 := q4 2 (by omega) (by omega)
    have m0 := (q5 0 (by omega) (by omega)).2
    have m1 := (q5 1 (by omega) (by omega)).2
    simp only [Int.zero_add] at m0
    simp only [Int.reduceAdd] at m1
    refine ⟨lf (gi μ 99 0) (gi μ 99 1) (gi μ 99 2) 0, lf (gi μ 100 0) (gi μ 100 1) 0 0, fun x a b => ?_, fun x a b => ?_, upI_all (upI_all (upI_all (upI_all (upI_all p3 (x := gi μ 99 0) (by omega) (by omega)) (x := gi μ 100 0) (by omega) (by omega)) (x := gi μ 99 1) (by omega) (by omega)) (x := gi μ 100 1) (by omega) (by omega)) (x := gi μ 99 2) (by omega) (by omega)⟩
    · have : x = 0 ∨ x = 1 ∨ x = 2 := by omega
      rcases this with rfl | rfl | rfl <;> rfl
    · have : x = 0 ∨ x = 1 := by omega
      rcases this with rfl | rfl <;> rfl
  · have l0 := q4 0 (by omega) (by omega)
    have l1 := q4 1 (by omega) (by omega)
    have l2 := q4 2 (by omega) (by omega)
    have l3 := q4 3 (by omega) (by omega)
    have m0 := (q5 0 (by omega) (by omega)).2
    have m1 := (q5 1 (by omega) (by omega)).2
    have m2 := (q5 2 (by omega) (by omega)).2
    simp only [Int.zero_add] at m0
    simp only [Int.reduceAdd] at m1 m2
    have pa : all4a P (gi μ 99 0) = true := by
      obtain ⟨r0, r1, r2, r3, r4, r5, r6⟩ := p4
      have : gi μ 99 0 = -6 ∨ gi μ 99 0 = -5 ∨ gi μ 99 0 = -4 ∨ gi μ 99 0 = -3 ∨ gi μ 99 0 = -2 ∨ gi μ 99 0 = -1 ∨ gi μ 99 0 = 0 := by omega
      rcases this with f | f | f | f | f | f | f <;> rw [f] <;> assumption
    refine ⟨lf (gi μ 99 0) (gi μ 99 1) (gi μ 99 2) (gi μ 99 3), lf (gi μ 100 0) (gi μ 100 1) (gi μ 100 2) 0, fun x a b => ?_, fun x a b => ?_, upI_all (upI_all (upI_all (upI_all (upI_all (upI_all pa (x := gi μ 100 0) (by omega) (by omega)) (x := gi μ 99 1) (by omega) (by omega)) (x := gi μ 100 1) (by omega) (by omega)) (x := gi μ 99 2) (by omega) (by omega)) (x := gi μ 100 2) (by omega) (by omega)) (x := gi μ 99 3) (by omega) (by omega)⟩
    · have : x = 0 ∨ x = 1 ∨ x = 2 ∨ x = 3 := by omega
      rcases this with rfl | rfl | rfl | rfl <;> rfl
    · have : x = 0 ∨ x = 1 ∨ x = 2 := by omega
      rcases this with rfl | rfl | rfl <;> rfl
