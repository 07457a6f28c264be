/-! ALL TONES: what is looked at of each -/
def fI (x : Int) (k : Int → Bool) : Bool := match x with
  | Int.ofNat 0 => k (Int.ofNat 0)
  | Int.ofNat (Nat.succ n) => k (Int.ofNat (Nat.succ n))
  | Int.negSucc 0 => k (Int.negSucc 0)
  | Int.negSucc (Nat.succ n) => k (Int.negSucc (Nat.succ n))
theorem fI_eq (x : Int) (k : Int → Bool) : fI x k = k x := by
  cases x with
  | ofNat n => cases n <;> rfl
  | negSucc n => cases n <;> rfl
def l8 (a b c d e f g h : Int) (x : Int) : Int := match x with
  | Int.ofNat 0 => a
  | Int.ofNat 1 => b
  | Int.ofNat 2 => c
  | Int.ofNat 3 => d
  | Int.ofNat 4 => e
  | Int.ofNat 5 => f
  | Int.ofNat 6 => g
  | _ => h
theorem l8_is {a b c d e f g h : Int} {p : Int → Int} (h0 : a = p 0) (h1 : b = p 1) (h2 : c = p 2) (h3 : d = p 3) (h4 : e = p 4) (h5 : f = p 5) (h6 : g = p 6) (h7 : h = p 7) {x : Int} (x0 : 0 ≤ x) (x7 : x ≤ 7) : l8 a b c d e f g h x = p x := by
  have : x = 0 ∨ x = 1 ∨ x = 2 ∨ x = 3 ∨ x = 4 ∨ x = 5 ∨ x = 6 ∨ x = 7 := by omega
  rcases this with rfl | rfl | rfl | rfl | rfl | rfl | rfl | rfl <;> assumption
def l5 (p : Int → Int) : Int → Int := l8 (p 0) (p 1) (p 2) (p 3) (p 4) (p 5) (p 6) (p 7)
theorem l5_is {p : Int → Int} {x : Int} (x0 : 0 ≤ x) (x7 : x ≤ 7) : l5 p x = p x := l8_is rfl rfl rfl rfl rfl rfl rfl rfl x0 x7
def f8 (p : Int → Int) (K : (Int → Int) → Bool) : Bool := fI (p 0) fun a => fI (p 1) fun b => fI (p 2) fun c => fI (p 3) fun d => fI (p 4) fun e => fI (p 5) fun f => fI (p 6) fun g => fI (p 7) fun h => K (l8 a b c d e f g h)
theorem f8_eq (p : Int → Int) (K : (Int → Int) → Bool) : f8 p K = K (l5 p) := by
  simp only [f8, fI_eq]
  rfl
def withN (n : Nat) (l m : Int → Int) (K : (Int → Int) → (Int → Int) → (Int → Int) → Bool) : Bool := f8 (tp l n) fun U => f8 (tp m (n - 1)) fun W => f8 (moT n U W 8) fun f => K U W f
theorem vf_uw {N : Int} {U W U' W' f g : Int → Int} (hN : N ≤ 8) (hU : ∀ x : Int, 0 ≤ x → x ≤ 7 → U x = U' x) (hW : ∀ x : Int, 0 ≤ x → x ≤ 7 → W x = W' x) {k : Nat} (hf : ∀ x : Int, 0 ≤ x → x < k → f x = g x) : ∀ j : Nat, j ≤ k → (j : Int) ≤ N ∨ N < 0 → j ≤ N.toNat → vf N U W f k j = vf N U' W' g k j := by
  intro j
  induction j with
  | zero =>
    intro _ _ _
    unfold vf
    by_cases h : (k : Int) < N
    · rw [if_pos h, if_pos h, hW _ (by omega) (by omega)]
    · rw [if_neg h, if_neg h]
  | succ j ih =>
    intro h1 h2 h3
    rw [vf, vf, ih (by omega) (by omega) (by omega), hU _ (by omega) (by omega), hf _ (by omega) (by omega)]
theorem moT_uw {N : Int} {U W U' W' : Int → Int} (hN : N ≤ 8) (hU : ∀ x : Int, 0 ≤ x → x ≤ 7 → U x = U' x) (hW : ∀ x : Int, 0 ≤ x → x ≤ 7 → W x = W' x) : ∀ (k : Nat) (x : Int), moT N U W k x = moT N U' W' k x := by
  intro k
  induction k with
  | zero => intro x; rfl
  | succ k ih =>
    intro x
    show (if x = (k : Int) then vf N U W (moT N U W k) k (min k N.toNat) else moT N U W k x) = (if x = (k : Int) then vf N U' W' (moT N U' W' k) k (min k N.toNat) else moT N U' W' k x)
    rw [ih x, vf_uw hN hU hW (fun y _ _ => ih y) (min k N.toNat) (by omega) (by omega) (by omega)]
/-- the numbers of the polynomials, values, what comes later -/
def pw (f : Int → Int) (k j : Int) : Int := if (k - j).tmod 2 = 0 then mMin f k 0 j else -(mMin f k 0 j)
def eC (N : Nat) (U f : Int → Int) (k j : Int) : Int := if k = (N : Int) then U j else pw f k j
def hv (c : Int → Int) (x k : Int) : Nat → Int
  | 0 => 0
  | i + 1 => hv c x k i * x + c (k - i)
def eV (N : Nat) (U f : Int → Int) (k x : Int) : Int := hv (eC N U f k) x k (k + 1).toNat
def gs (c f : Int → Int) (s : Int) : Nat → Int
  | 0 => 0
  | i + 1 => gs c f s i + c (s + 1 + i) * f i
def gC (N : Nat) (U f : Int → Int) (k s : Int) : Int := gs (eC N U f k) f s (k - s).toNat
def gV (N : Nat) (U f : Int → Int) (k x : Int) : Int := hv (gC N U f k) x (k - 1) k.toNat
def dh (c : Int → Int) (x k : Int) : Nat → Int
  | 0 => 0
  | i + 1 => dh c x k i * x + (k - i) * c (k - i)
def dV (N : Nat) (U f : Int → Int) (k x : Int) : Int := dh (eC N U f k) x k k.toNat
def dlN (N : Nat) (f : Int → Int) (k : Int) : Int := if k = (N : Int) then 1 else DD f k
def sN (f : Int → Int) (i : Int) : Int := if i = 0 then 0 else mMin f i 0 (i - 1)
def nN (N : Nat) (U f : Int → Int) (i : Int) : Int := if i + 1 = (N : Int) then -(U i) * DD f i - sN f i else sN f (i + 1) * DD f i - sN f i * DD f (i + 1)
def dN (N : Nat) (f : Int → Int) (i : Int) : Int := DD f i * dlN N f (i + 1)
def wN (N : Nat) (U f : Int → Int) (x i : Int) : Int := x * dN N f i - nN N U f i
def iE (a b : Int) : Bool := match a, b with
  | Int.ofNat m, Int.ofNat n => Nat.beq m n
  | Int.negSucc m, Int.negSucc n => Nat.beq m n
  | _, _ => false
theorem iE_is {a b : Int} (h : iE a b = true) : a = b := by
  unfold iE at h
  split at h
  · rw [Nat.eq_of_beq_eq_true h]
  · rw [Nat.eq_of_beq_eq_true h]
  · cases h
def bI (B : Nat) (x : Int) : Bool := Nat.ble (Int.natAbs x) B
theorem bI_is {B : Nat} {x : Int} (h : bI B x = true) : x.natAbs ≤ B := Nat.le_of_ble_eq_true h
def cx1 (N : Nat) (U f : Int → Int) : Bool := fI (eC N U f 1 1) fun e1 => fI (eC N U f 1 0) fun e0 => fI (nN N U f 0) fun n0 => iE e1 1 && iE e0 (Int.neg n0) && iE (gC N U f 1 0) 1 && bI 6 n0
def cx2 (N : Nat) (U f : Int → Int) : Bool := fI (nN N U f 0) fun n0 => fI (nN N U f 1) fun n1 => fI (DD f 2) fun D2 => fI (dlN N f 2) fun d2 => iE (gC N U f 2 1) d2 && iE (gC N U f 2 0) (Int.neg n1) && iE (eC N U f 2 2) d2 && iE (eC N U f 2 1) (Int.neg (Int.add n1 (Int.mul n0 d2))) && iE (eC N U f 2 0) (Int.sub (Int.mul n0 n1) (Int.mul D2 d2)) && bI 72 n1 && bI 36 D2 && bI 36 d2
def cx3 (N : Nat) (U f : Int → Int) : Bool := fI (nN N U f 0) fun n0 => fI (nN N U f 1) fun n1 => fI (nN N U f 2) fun n2 => fI (DD f 2) fun D2 => fI (DD f 3) fun D3 => fI (dlN N f 3) fun d3 => fI (gC N U f 3 2) fun g2 => fI (gC N U f 3 1) fun g1 => fI (gC N U f 3 0) fun g0 => fI (eC N U f 3 3) fun e3 => fI (eC N U f 3 2) fun e2 => fI (eC N U f 3 1) fun e1 => fI (eC N U f 3 0) fun e0 => fI (eC N U f 2 2) fun b2 => fI (eC N U f 2 1) fun b1 => fI (eC N U f 2 0) fun b0 => fI (Int.mul D2 D2) fun DD2 => fI (Int.mul D2 d3) fun Dd => fI (Int.mul D3 d3) fun D3d => iE g2 d3 && iE (Int.mul g1 DD2) (Int.neg (Int.add (Int.mul D2 n2) (Int.mul n1 Dd))) && iE (Int.mul g0 DD2) (Int.sub (Int.mul n1 n2) D3d) && iE e3 g2 && iE e2 (Int.sub g1 (Int.mul n0 g2)) && iE e1 (Int.sub (Int.sub g0 (Int.mul n0 g1)) Dd) && iE e0 (Int.sub n2 (Int.mul n0 g0)) && iE (Int.mul Dd b2) (Int.mul e3 DD2) && iE (Int.sub (Int.mul Dd b1) (Int.mul n2 b2)) (Int.mul e2 DD2) && iE (Int.sub (Int.sub (Int.mul Dd b0) (Int.mul n2 b1)) D3d) (Int.mul e1 DD2) && iE (Int.sub (Int.mul D3d n0) (Int.mul n2 b0)) (Int.mul e0 DD2) && bI 347760 n2 && bI 6561 D3 && bI 6561 d3 && bI 90000 g2 && bI 90000 g1 && bI 90000 g0 && bI 358263 e3 && bI 358263 e2 && bI 358263 e1 && bI 358263 e0
/-- a number of the fourth sum, the sixth of the squares -/
def cF (N : Nat) (U f : Int → Int) (j : Int) : Int := Int.ediv (match j with
  | Int.ofNat 0 => Int.add (Int.mul (DD f 3) (Int.add (DD f 2) (Int.mul (nN N U f 0) (nN N U f 0)))) (Int.mul (eC N U f 2 0) (eC N U f 2 0))
  | Int.ofNat 1 => Int.sub (Int.mul 2 (Int.mul (eC N U f 2 1) (eC N U f 2 0))) (Int.mul 2 (Int.mul (nN N U f 0) (DD f 3)))
  | Int.ofNat 2 => Int.add (DD f 3) (Int.add (Int.mul 2 (Int.mul (eC N U f 2 2) (eC N U f 2 0))) (Int.mul (eC N U f 2 1) (eC N U f 2 1)))
  | Int.ofNat 3 => Int.mul 2 (Int.mul (eC N U f 2 2) (eC N U f 2 1))
  | _ => Int.mul (eC N U f 2 2) (eC N U f 2 2)) (DD f 2)
def cx4 (U f : Int → Int) : Bool := fI (nN 4 U f 0) fun n0 => fI (nN 4 U f 1) fun n1 => fI (nN 4 U f 2) fun n2 => fI (nN 4 U f 3) fun n3 => fI (DD f 2) fun D2 => fI (DD f 3) fun D3 => fI (DD f 4) fun D4 => fI (gC 4 U f 4 3) fun g3 => fI (gC 4 U f 4 2) fun g2 => fI (gC 4 U f 4 1) fun g1 => fI (gC 4 U f 4 0) fun g0 => fI (eC 4 U f 4 4) fun e4 => fI (eC 4 U f 4 3) fun e3 => fI (eC 4 U f 4 2) fun e2 => fI (eC 4 U f 4 1) fun e1 => fI (eC 4 U f 4 0) fun e0 => fI (eC 4 U f 2 2) fun b2 => fI (eC 4 U f 2 1) fun b1 => fI (eC 4 U f 2 0) fun b0 => fI (eC 4 U f 3 3) fun c3 => fI (eC 4 U f 3 2) fun c2 => fI (eC 4 U f 3 1) fun c1 => fI (eC 4 U f 3 0) fun c0 => fI (Int.mul D2 D2) fun DD2 => fI (Int.mul D3 D3) fun DD3 => fI (Int.sub (Int.sub g1 (Int.mul n0 g2)) e2) fun r2 => fI (Int.sub (Int.sub g0 (Int.mul n0 g1)) e1) fun r1 => fI (Int.sub (Int.neg (Int.mul n0 g0)) e0) fun r0 => iE g3 e4 && iE (Int.sub g2 (Int.mul n0 g3)) e3 && iE r2 D2 && iE (Int.mul r1 DD3) (Int.neg (Int.add (Int.mul (Int.mul D2 D3) n3) (Int.mul n2 D3))) && iE (Int.mul r0 DD3) (Int.sub (Int.mul n2 n3) (Int.mul D4 DD2)) && iE (Int.mul g3 DD2) (Int.mul D2 r2) && iE (Int.mul g2 DD2) (Int.sub (Int.mul D2 r1) (Int.mul n1 r2)) && iE (Int.mul g1 DD2) (Int.sub (Int.sub (Int.mul D2 r0) (Int.mul n1 r1)) D3) && iE (Int.mul g0 DD2) (Int.sub n3 (Int.mul n1 r0)) && iE (Int.mul D3 c3) (Int.mul e4 DD3) && iE (Int.sub (Int.mul D3 c2) (Int.mul n3 c3)) (Int.mul e3 DD3) && iE (Int.sub (Int.sub (Int.mul D3 c1) (Int.mul n3 c2)) (Int.mul D4 b2)) (Int.mul e2 DD3) && iE (Int.sub (Int.sub (Int.mul D3 c0) (Int.mul n3 c1)) (Int.mul D4 b1)) (Int.mul e1 DD3) && iE (Int.sub (Int.neg (Int.mul n3 c0)) (Int.mul D4 b0)) (Int.mul e0 DD3) && iE (Int.mul D2 (cF 4 U f 4)) (Int.mul b2 b2) && iE (Int.mul D2 (cF 4 U f 3)) (Int.mul 2 (Int.mul b2 b1)) && iE (Int.mul D2 (cF 4 U f 2)) (Int.add D3 (Int.add (Int.mul 2 (Int.mul b2 b0)) (Int.mul b1 b1))) && iE (Int.mul D2 (cF 4 U f 1)) (Int.sub (Int.mul 2 (Int.mul b1 b0)) (Int.mul 2 (Int.mul n0 D3))) && iE (Int.mul D2 (cF 4 U f 0)) (Int.add (Int.mul D3 (Int.add D2 (Int.mul n0 n0))) (Int.mul b0 b0)) && bI 21870 n3 && bI 10036224 D4 && bI 75 g3 && bI 75 g2 && bI 75 g1 && bI 75 g0 && bI 576 e4 && bI 576 e3 && bI 576 e2 && bI 576 e1 && bI 576 e0
def cxK (N : Nat) (U f : Int → Int) : Bool := cx1 N U f && cond (Nat.ble 2 N) (cx2 N U f && cond (Nat.ble 3 N) (cx3 N U f && cond (Nat.ble 4 N) (cx4 U f) true) true) true
def posI (x : Int) : Bool := match x with
  | Int.ofNat (Nat.succ _) => true
  | _ => false
theorem posI_is {x : Int} (h : posI x = true) : 0 < x := by
  unfold posI at h
  split at h
  · rename_i n
    show (0 : Int) < ((n + 1 : Nat) : Int)
    omega
  · cases h
def redB (p : Int × Int) : Bool := posI p.2 && Nat.beq (Nat.gcd (Int.natAbs p.1) (Int.natAbs p.2)) 1
def semB (N : Nat) (U f : Int → Int) (as cs : List (Int × Int)) : Bool := (List.range N).all (fun i => redB (gz as i) && iE ((gz as i).1 * dN N f i) (nN N U f i * (gz as i).2)) && (List.range (N - 1)).all (fun i => redB (gz cs i) && iE ((gz cs i).1 * (DD f (i + 1 : Nat) * DD f (i + 1 : Nat))) (DD f (i + 2 : Nat) * DD f i * (gz cs i).2)) && (List.range (N + 1)).all (fun i => posI (DD f i)) && iE (f 0) 1
def tabB (N : Nat) (U W f : Int → Int) (K : List (Int × Int) → List (Int × Int) → Bool) : Bool := (List.range 5).all (fun j => okB (U j)) && (List.range 5).all (fun j => okB (W j)) && (match tbL N (wholes U (N + 1)) (wholes W N) with
  | none => false
  | some q => K q.1 q.2)
def tabK (N : Nat) (U W f : Int → Int) : Bool := tabB N U W f fun as cs => semB N U f as cs && cxK N U f
def tabP (n : Nat) (l m : Int → Int) : Bool := withN n l m (tabK n)
set_option maxRecDepth 100000 in
theorem tab_1 : all1 tabP = true := by decide +kernel
set_option maxRecDepth 100000 in
theorem tab_2 : all2 tabP = true := by decide +kernel
