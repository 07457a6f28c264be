/-! TEXTS: class and reference take the same -/
theorem jit_inr {σ ρ : Type} {f : σ → Option (σ ⊕ ρ)} {F : Nat} {s : σ} {r : ρ} (hF : 0 < F) (e : f s = some (.inr r)) : jit F f s = some r := by
  obtain ⟨G, rfl⟩ : ∃ G, F = G + 1 := ⟨F - 1, by omega⟩
  rw [jit, e]
theorem jit_inl {σ ρ : Type} {f : σ → Option (σ ⊕ ρ)} {F : Nat} {s s2 : σ} (hF : 0 < F) (e : f s = some (.inl s2)) : jit F f s = jit (F - 1) f s2 := by
  obtain ⟨G, rfl⟩ : ∃ G, F = G + 1 := ⟨F - 1, by omega⟩
  rw [jit, e]
  rfl
theorem jit_bnd {σ ρ α : Type} {f : σ → Option (σ ⊕ ρ)} {F : Nat} {s : σ} {t : Option α} {k : α → σ} (hF : 0 < F) (e : f s = t.bind (fun r => some (.inl (k r)))) : jit F f s = t.bind (fun r => jit (F - 1) f (k r)) := by
  obtain ⟨G, rfl⟩ : ∃ G, F = G + 1 := ⟨F - 1, by omega⟩
  rw [jit, e]
  cases t <;> rfl
def lpX (Y : jY) (L : Int) (F : Nat) (s : Int32 × Int32 × jM) : Option (Int32 × jM) := jit F (fun (s : Int32 × Int32 × jM) => b_X6_scan_31 Y 4 2 (ki L) s.1 s.2.1 s.2.2) s
def lpT (Y : jY) (F : Nat) (s : jM) : Option (Int32 × jM) := jit F (fun (s : jM) => b_X12_token_0 Y 95 s) s
def lpR (Y : jY) (z : Int) (F : Nat) (s : Int32 × Int32 × jM) : Option (Int32 × jM) := jit F (fun (s : Int32 × Int32 × jM) => b_X12_reads_17 Y 95 (ki z) s.1 s.2.1 s.2.2) s
theorem lpX_inr {Y : jY} {L : Int} {F : Nat} {a t : Int32} {ν : jM} {r : Int32 × jM} (hF : 0 < F) (e : b_X6_scan_31 Y 4 2 (ki L) a t ν = some (.inr r)) : lpX Y L F (a, t, ν) = some r :=
  jit_inr (f := fun (s : Int32 × Int32 × jM) => b_X6_scan_31 Y 4 2 (ki L) s.1 s.2.1 s.2.2) (s := (a, t, ν)) hF e
theorem lpX_inl {Y : jY} {L : Int} {F : Nat} {a t : Int32} {ν : jM} {s2 : Int32 × Int32 × jM} (hF : 0 < F) (e : b_X6_scan_31 Y 4 2 (ki L) a t ν = some (.inl s2)) : lpX Y L F (a, t, ν) = lpX Y L (F - 1) s2 :=
  jit_inl (f := fun (s : Int32 × Int32 × jM) => b_X6_scan_31 Y 4 2 (ki L) s.1 s.2.1 s.2.2) (s := (a, t, ν)) hF e
theorem lpT_inr {Y : jY} {F : Nat} {ω : jM} {r : Int32 × jM} (hF : 0 < F) (e : b_X12_token_0 Y 95 ω = some (.inr r)) : lpT Y F ω = some r :=
  jit_inr (f := fun (s : jM) => b_X12_token_0 Y 95 s) (s := ω) hF e
theorem lpT_inl {Y : jY} {F : Nat} {ω ω2 : jM} (hF : 0 < F) (e : b_X12_token_0 Y 95 ω = some (.inl ω2)) : lpT Y F ω = lpT Y (F - 1) ω2 :=
  jit_inl (f := fun (s : jM) => b_X12_token_0 Y 95 s) (s := ω) hF e
theorem lpR_inr {Y : jY} {z : Int} {F : Nat} {p t : Int32} {ν : jM} {r : Int32 × jM} (hF : 0 < F) (e : b_X12_reads_17 Y 95 (ki z) p t ν = some (.inr r)) : lpR Y z F (p, t, ν) = some r :=
  jit_inr (f := fun (s : Int32 × Int32 × jM) => b_X12_reads_17 Y 95 (ki z) s.1 s.2.1 s.2.2) (s := (p, t, ν)) hF e
theorem ref_end {Y : jY} {z p k r : Int} {F2 F3 : Nat} {ω ω1 ω2 : jM} (h2 : 0 < F2) (h3 : 0 < F3) (ht : b_X12_token_0 Y 95 ω = some (.inr (ki k, ω1))) (hr : b_X12_reads_17 Y 95 (ki z) (ki p) (ki k) ω1 = some (.inr (ki r, ω2))) : (lpT Y F3 ω).bind (fun q => lpR Y z F2 (ki p, q.1, q.2)) = some (ki r, ω2) := by
  rw [lpT_inr h3 ht, Option.bind_some]
  exact lpR_inr h2 hr
theorem ref_go {Y : jY} {z p p' k : Int} {F2 F3 : Nat} {ω ω1 ω2 : jM} (hY : (Y 95).1 = 12) (h2 : 0 < F2) (h3 : 0 < F3) (ht : b_X12_token_0 Y 95 ω = some (.inr (ki k, ω1))) (hr : b_X12_reads_17 Y 95 (ki z) (ki p) (ki k) ω1 = b_X12_reads_323 Y 95 (ki z) (ki p') ω2) : (lpT Y F3 ω).bind (fun q => lpR Y z F2 (ki p, q.1, q.2)) = (lpT Y jF ω2).bind (fun q => lpR Y z (F2 - 1) (ki p', q.1, q.2)) := by
  rw [lpT_inr h3 ht, Option.bind_some]
  have hr2 : b_X12_reads_17 Y 95 (ki z) (ki p) (ki k) ω1 = (lpT Y jF ω2).bind (fun q => some (.inl (ki p', q.1, q.2))) := by
    rw [hr]
    unfold b_X12_reads_323
    rw [krcv hY]
    rfl
  exact jit_bnd (f := fun (s : Int32 × Int32 × jM) => b_X12_reads_17 Y 95 (ki z) s.1 s.2.1 s.2.2) (s := (ki p, ki k, ω1)) (k := fun (q : Int32 × jM) => (ki p', q.1, q.2)) h2 hr2
def neW (T : Int → Int) (L a q : Int) : Prop := (-1 ≤ q ∧ q ≤ a) ∧ (q = a ↔ 0 < a ∧ 48 ≤ T (a - 1) ∧ T (a - 1) ≤ 57) ∧ (q = a → a < L → ¬ (48 ≤ T a ∧ T a ≤ 57))
def scE (ν : jM) (z c d : Int) (f g : Int → Int) : Prop := scW z 1 c d f g ∧ d = c - 1 ∧ gi ν 4 2 = c ∧ gi ν 4 3 = d ∧ (∀ x : Int, 0 ≤ x → x < c → gi ν 5 x = f x) ∧ ∀ x : Int, 0 ≤ x → x < d → gi ν 6 x = g x
def scG (ω : jM) (c d : Int) (f g : Int → Int) : Prop := gi ω 95 8 = c ∧ gi ω 95 9 = d ∧ (∀ x : Int, 0 ≤ x → x < c → gi ω 97 x = f x) ∧ ∀ x : Int, 0 ≤ x → x < d → gi ω 98 x = g x
def scR (Y : jY) (T : Int → Int) (L z : Int) (μ : jM) (m F1 : Nat) (a t p c d : Int) (f g : Int → Int) (ν : jM) : Prop := ∃ (r c' d' : Int) (f' g' : Int → Int) (ν' : jM), lpX Y L F1 (ki a, ki t, ν) = some (ki r, ν') ∧ kF 4 7 μ ν' ∧ (r = 0 ∨ (-6000 ≤ r ∧ r ≤ -1000)) ∧ (r = 0 → scE ν' z c' d' f' g') ∧ ∀ (ω : jM) (F2 F3 : Nat), m < F2 → m < F3 → rdy Y T L ω → scM ω a c d f g → ∃ ω', (lpT Y F3 ω).bind (fun q => lpR Y z F2 (ki p, q.1, q.2)) = some (ki r, ω') ∧ frR ω ω' ∧ (r = 0 → scG ω' c' d' f' g')
theorem scan_end {Y : jY} {T : Int → Int} {L z : Int} {μ : jM} (hX : kX Y μ) (L0 : 0 ≤ L) (L6 : L ≤ 60) {m F1 : Nat} {t p c d q : Int} {f g : Int → Int} {ν : jM} (t0 : 0 ≤ t) (tL : t ≤ L) (hF : 0 < F1) (w : scW z p c d f g) (k : kF 4 7 μ ν) (s : scX ν z p c d q f g) : scR Y T L z μ m F1 L t p c d f g ν := by
  refine ⟨if p = 1 ∧ d = c - 1 then 0 else -1000 - L, c, d, f, g, ν, lpX_inr hF (X6_stop (hX.to k) s w L0 L6 t0 tL), k, ?_, fun e => ?_, fun ω F2 F3 h2 h3 hr hm => ?_⟩
  · by_cases e : p = 1 ∧ d = c - 1
    · rw [if_pos e]; exact Or.inl rfl
    · rw [if_neg e]; exact Or.inr (by omega)
  · by_cases e2 : p = 1 ∧ d = c - 1
    · obtain ⟨rfl, e3⟩ := e2
      exact ⟨w, e3, s.1.1, s.1.2.1, s.2.1, s.2.2⟩
    · rw [if_neg e2] at e
      omega
  · obtain ⟨ω1, t1, t2, t3⟩ := X12_tokEnd hr hm.1
    have hm1 : scM ω1 (gi ω1 95 2) c d f g := hm.k t2 rfl
    refine ⟨ω1, ref_end (by omega) (by omega) t1 (X12_rd0 (hr.to t2.r).1 hm1 w t3 L0 L6), t2.r, fun _ => ⟨hm1.2.1, hm1.2.2.1, hm1.2.2.2.1, hm1.2.2.2.2⟩⟩
/-- a fault: both end -/
theorem scan_flt {Y : jY} {T : Int → Int} {L z : Int} {μ : jM} {m F1 : Nat} {a t p c d r : Int} {f g : Int → Int} {ν ν' : jM} (hF : 0 < F1) (e : b_X6_scan_31 Y 4 2 (ki L) (ki a) (ki t) ν = some (.inr (ki r, ν'))) (k : kF 4 7 μ ν') (b : -6000 ≤ r ∧ r ≤ -1000) (H : ∀ ω : jM, rdy Y T L ω → scM ω a c d f g → ∃ (k : Int) (ω1 ω2 : jM), b_X12_token_0 Y 95 ω = some (.inr (ki k, ω1)) ∧ b_X12_reads_17 Y 95 (ki z) (ki p) (ki k) ω1 = some (.inr (ki r, ω2)) ∧ frR ω ω2) : scR Y T L z μ m F1 a t p c d f g ν := by
  refine ⟨r, c, d, f, g, ν', lpX_inr hF e, k, Or.inr b, fun e => by omega, fun ω F2 F3 h2 h3 hr hm => ?_⟩
  obtain ⟨k, ω1, ω2, i1, i2, i3⟩ := H ω hr hm
  exact ⟨ω2, ref_end (by omega) (by omega) i1 i2, i3, fun e => by omega⟩
/-- a token taken: both go on -/
theorem scan_on {Y : jY} {T : Int → Int} {L z : Int} {μ : jM} {m F1 : Nat} {a t p c d a' t' p' c' d' : Int} {f g f' g' : Int → Int} {ν ν' : jM} (hm : m ≤ 60) (hF : 0 < F1) (e : b_X6_scan_31 Y 4 2 (ki L) (ki a) (ki t) ν = some (.inl (ki a', ki t', ν'))) (H : ∀ ω : jM, rdy Y T L ω → scM ω a c d f g → ∃ (k : Int) (ω1 ω2 : jM), b_X12_token_0 Y 95 ω = some (.inr (ki k, ω1)) ∧ b_X12_reads_17 Y 95 (ki z) (ki p) (ki k) ω1 = b_X12_reads_323 Y 95 (ki z) (ki p') ω2 ∧ frR ω ω2 ∧ scM ω2 a' c' d' f' g') (ih : scR Y T L z μ m (F1 - 1) a' t' p' c' d' f' g' ν') : scR Y T L z μ (m + 1) F1 a t p c d f g ν := by
  obtain ⟨r, c2, d2, f2, g2, ν2, j1, j2, j3, j4, j5⟩ := ih
  refine ⟨r, c2, d2, f2, g2, ν2, (lpX_inl hF e).trans j1, j2, j3, j4, fun ω F2 F3 h2 h3 hr hm => ?_⟩
  obtain ⟨k, ω1, ω2, i1, i2, i3, i4⟩ := H ω hr hm
  obtain ⟨ω', y1, y2, y3⟩ := j5 ω2 (F2 - 1) jF (by omega) (by show m < 1000000; omega) (hr.to i3) i4
  exact ⟨ω', (ref_go hr.1.y (by omega) (by omega) i1 i2).trans y1, i3.trans y2, y3⟩
theorem nm_eq {T : Int → Int} {a s e : Int} (hs : s = if T a = 45 then a + 1 else a) (se : s ≤ e) (hd : ∀ x, s ≤ x → x < e → 48 ≤ T x ∧ T x ≤ 57) : (-1000 ≤ nmM T a e ∧ nmM T a e ≤ 1000) ∧ (nmX T a e = nmM T a e ∨ (100 ≤ nmX T a e ∧ 100 ≤ nmM T a e) ∨ (nmX T a e ≤ -100 ∧ nmM T a e ≤ -100)) := by
  unfold nmX nmM
  by_cases c : T a = 45
  · rw [if_pos c] at hs
    rw [if_pos c, if_pos c]
    have := nv_rv (T := T) (s := a + 1) (e - (a + 1)).toNat (fun x p q => hd x (by omega) (by omega))
    omega
  · rw [if_neg c] at hs
    rw [if_neg c, if_neg c]
    have := nv_rv (T := T) (s := a) (e - a).toNat (fun x p q => hd x (by omega) (by omega))
    omega
theorem rF_eq {z c u v : Int} {f : Int → Int} (h : u = v ∨ (100 ≤ u ∧ 100 ≤ v) ∨ (u ≤ -100 ∧ v ≤ -100)) : rF z c f u = rF z c f v ∧ (rF z c f u = 0 → u = v) := by
  rcases h with rfl | h | h
  · exact ⟨rfl, fun _ => rfl⟩
  · have e1 : rF z c f u = 2 := if_pos (by omega)
    have e2 : rF z c f v = 2 := if_pos (by omega)
    exact ⟨by rw [e1, e2], fun q => by omega⟩
  · have e1 : rF z c f u = 2 := if_pos (by omega)
    have e2 : rF z c f v = 2 := if_pos (by omega)
    exact ⟨by rw [e1, e2], fun q => by omega⟩
theorem rS_eq {z c d u v : Int} {f g : Int → Int} (hz : z = 0 ∨ z = 1) (h : u = v ∨ (100 ≤ u ∧ 100 ≤ v) ∨ (u ≤ -100 ∧ v ≤ -100)) : rS z c d f g u = rS z c d f g v ∧ (rS z c d f g u = 0 → u = v) := by
  rcases h with rfl | h | h
  · exact ⟨rfl, fun _ => rfl⟩
  · have e1 : rS z c d f g u = 2 := if_pos (by omega)
    have e2 : rS z c d f g v = 2 := if_pos (by omega)
    exact ⟨by rw [e1, e2], fun q => by omega⟩
  · have e1 : rS z c d f g u = 2 := if_pos (by omega)
    have e2 : rS z c d f g v = 2 := if_pos (by omega)
    exact ⟨by rw [e1, e2], fun q => by omega⟩
theorem rF_rng {z c v : Int} {f : Int → Int} : rF z c f v = 0 ∨ rF z c f v = 2 ∨ rF z c f v = 3 ∨ rF z c f v = 4 := by
  unfold rF
  split
  · omega
  · split
    · omega
    · split <;> omega
theorem rS_rng {z c d v : Int} {f g : Int → Int} : rS z c d f g v = 0 ∨ rS z c d f g v = 2 ∨ rS z c d f g v = 3 ∨ rS z c d f g v = 4 ∨ rS z c d f g v = 5 := by
  unfold rS
  split
  · omega
  · split
    · omega
    · split
      · omega
      · split <;> omega
theorem rF_ok {z c v : Int} {f : Int → Int} (h : rF z c f v = 0) : (-6 ≤ v ∧ v ≤ 6) ∧ c < 5 - z := by
  unfold rF at h
  by_cases a : v < -6 ∨ 6 < v
  · rw [if_pos a] at h; omega
  · rw [if_neg a] at h
    by_cases b : 5 - z ≤ c
    · rw [if_pos b] at h; omega
    · omega
theorem rS_ok {z c d v : Int} {f g : Int → Int} (hz : z = 0 ∨ z = 1) (h : rS z c d f g v = 0) : (-6 ≤ v ∧ v ≤ 36) ∧ (z = 0 → 1 ≤ v) ∧ (z = 1 → f d < v ∧ v < f (d + 1)) ∧ d < c - 1 := by
  unfold rS at h
  by_cases a : (z = 0 ∧ (v < 1 ∨ 36 < v)) ∨ (z = 1 ∧ (v < -6 ∨ 6 < v))
  · rw [if_pos a] at h; omega
  · rw [if_neg a] at h
    by_cases b : c - 1 ≤ d
    · rw [if_pos b] at h; omega
    · rw [if_neg b] at h
      by_cases e : z = 1 ∧ 0 < d ∧ v ≤ g (d - 1)
      · rw [if_pos e] at h; omega
      · rw [if_neg e] at h
        by_cases k : z = 1 ∧ (v ≤ f d ∨ f (d + 1) ≤ v)
        · rw [if_pos k] at h; omega
        · exact ⟨by omega, fun _ => by omega, fun _ => by omega, by omega⟩
theorem scW.first {z c d v : Int} {f g : Int → Int} (w : scW z 0 c d f g) (h : rF z c f v = 0) : scW z 0 (c + 1) d (stf f c v) g := by
  obtain ⟨⟨hz, hp, c0, c1, d0, w1, w2⟩, w3, w4⟩ := w
  have r := rF_ok h
  have d0' := w1 rfl
  refine ⟨⟨hz, hp, by omega, by omega, d0, w1, fun e => by omega⟩, fun x x1 x2 => ?_, fun x x1 x2 => by omega⟩
  unfold stf
  by_cases e : x = c
  · rw [if_pos e]; exact r.1
  · rw [if_neg e]; exact w3 x x1 (by omega)
theorem scW.second {z c d v : Int} {f g : Int → Int} (w : scW z 1 c d f g) (h : rS z c d f g v = 0) : scW z 1 c (d + 1) f (stf g d v) := by
  obtain ⟨⟨hz, hp, c0, c1, d0, w1, w2⟩, w3, w4⟩ := w
  have r := rS_ok hz h
  have w2' := w2 rfl
  refine ⟨⟨hz, hp, c0, c1, by omega, fun e => by omega, fun _ => ⟨w2'.1, by omega⟩⟩, w3, fun x x1 x2 => ?_⟩
  unfold stf
  by_cases e : x = d
  · rw [if_pos e, e]; exact ⟨r.1, r.2.1, r.2.2.1⟩
  · rw [if_neg e]; exact w4 x x1 (by omega)
set_option maxHeartbeats 2000000 in
theorem scan_num {Y : jY} {T : Int → Int} {L z l : Int} {μ : jM} (hX : kX Y μ) (hx : txX μ l T) (L6 : L ≤ 60) (Ll : L ≤ l) {m F1 : Nat} (m6 : m ≤ 60) {a t p c d q s e : Int} {f g : Int → Int} {ν : jM} (a0 : 0 ≤ a) (aL : a < L) (t0 : 0 ≤ t) (ta : t ≤ a) (hF : 0 < F1) (w : scW z p c d f g) (nw : neW T L a q) (k : kF 4 7 μ ν) (sc : scX ν z p c d q f g) (hs : s = if T a = 45 then a + 1 else a) (se : s < e) (eL : e ≤ L) (hd : ∀ x, s ≤ x → x < e → 48 ≤ T x ∧ T x ≤ 57) (hn : e < L → ¬ (48 ≤ T e ∧ T e ≤ 57)) (aq : a ≠ q) (c1 : T a ≠ 32) (c2 : T a ≠ 47) (ih : ∀ (c d : Int) (f g : Int → Int) (ν : jM), scW z p c d f g → neW T L e e → kF 4 7 μ ν → scX ν z p c d e f g → scR Y T L z μ m (F1 - 1) e (t + 1) p c d f g ν) : scR Y T L z μ (m + 1) F1 a t p c d f g ν := by
  have hXn := hX.to k
  have hxn := hx.to k
  have nq := nw.1
  have as : a ≤ s := by
    rw [hs]
    split <;> omega
  have ae : a < e := by omega
  have te := X6_tokenEnd hXn hxn a0 aL hs (by omega) eL Ll L6 hd hn
  rw [if_neg (by omega)] at te
  have F := X6_ftNum hXn hxn a0 hs se ae (by omega) (by omega) c1 c2 hd sc w nw.1.1 (by omega) aq
  have nm := nm_eq hs (by omega) hd
  have hb : T a = 45 → 0 < a → ¬ (48 ≤ T (a - 1) ∧ T (a - 1) ≤ 57) := fun _ q1 q2 => aq ((nw.2.1.2 ⟨q1, q2.1, q2.2⟩).symm)
  have ne : neW T L e e := ⟨by omega, ⟨fun _ => ⟨by omega, hd (e - 1) (by omega) (by omega)⟩, fun _ => rfl⟩, fun _ => hn⟩
  have hz := w.1.1
  have tk := fun (ω : jM) (hr : rdy Y T L ω) (hm : scM ω a c d f g) => X12_tokNum hr a0 aL hm.1 hs se eL hd hn hb
  clear hd hn hs
  rcases w.1.2.1 with rfl | rfl
  · obtain ⟨ω, f1, f2, f3⟩ := F.1 rfl
    have R := rF_eq (z := z) (c := c) (f := f) nm.2
    have rng := rF_rng (z := z) (c := c) (f := f) (v := nmX T a e)
    have st := X6_step hXn a0 aL t0 ta L6 te f1 (by omega) (by omega)
    by_cases r0 : rF z c f (nmX T a e) = 0
    · have ev := R.2 r0
      refine scan_on m6 hF (st.1 r0) (fun ω hr hm => ?_) (ih _ _ _ _ _ (w.first r0) ne (k.trans f2) (f3 r0))
      obtain ⟨ω1, t1, t2, t3, t4, t5⟩ := tk ω hr hm
      obtain ⟨ω2, y1, y2, y3⟩ := X12_num0 (hr.to t2.r).1 (hm.k t2 t3) w t4 a0 (by omega) t5 nm.1.1 nm.1.2
      rw [← ev] at y2
      exact ⟨1, ω1, ω2, t1, X12_rd1.trans (y2 r0).1, t2.r.trans y1, (y2 r0).2⟩
    · refine scan_flt hF (st.2 r0) (k.trans f2) (by omega) (fun ω hr hm => ?_)
      obtain ⟨ω1, t1, t2, t3, t4, t5⟩ := tk ω hr hm
      obtain ⟨ω2, y1, y2, y3⟩ := X12_num0 (hr.to t2.r).1 (hm.k t2 t3) w t4 a0 (by omega) t5 nm.1.1 nm.1.2
      rw [← R.1] at y3
      exact ⟨1, ω1, ω2, t1, X12_rd1.trans (y3 r0), t2.r.trans y1⟩
  · obtain ⟨ω, f1, f2, f3⟩ := F.2 rfl
    have R := rS_eq (z := z) (c := c) (d := d) (f := f) (g := g) hz nm.2
    have rng := rS_rng (z := z) (c := c) (d := d) (f := f) (g := g) (v := nmX T a e)
    have st := X6_step hXn a0 aL t0 ta L6 te f1 (by omega) (by omega)
    by_cases r0 : rS z c d f g (nmX T a e) = 0
    · have ev := R.2 r0
      refine scan_on m6 hF (st.1 r0) (fun ω hr hm => ?_) (ih _ _ _ _ _ (w.second r0) ne (k.trans f2) (f3 r0))
      obtain ⟨ω1, t1, t2, t3, t4, t5⟩ := tk ω hr hm
      obtain ⟨ω2, y1, y2, y3⟩ := X12_num1 (hr.to t2.r).1 (hm.k t2 t3) w t4 a0 (by omega) t5 nm.1.1 nm.1.2
      rw [← ev] at y2
      exact ⟨1, ω1, ω2, t1, X12_rd1.trans (y2 r0).1, t2.r.trans y1, (y2 r0).2⟩
    · refine scan_flt hF (st.2 r0) (k.trans f2) (by omega) (fun ω hr hm => ?_)
      obtain ⟨ω1, t1, t2, t3, t4, t5⟩ := tk ω hr hm
      obtain ⟨ω2, y1, y2, y3⟩ := X12_num1 (hr.to t2.r).1 (hm.k t2 t3) w t4 a0 (by omega) t5 nm.1.1 nm.1.2
      rw [← R.1] at y3
      exact ⟨1, ω1, ω2, t1, X12_rd1.trans (y3 r0), t2.r.trans y1⟩
theorem scan_junk {Y : jY} {T : Int → Int} {L z l : Int} {μ : jM} (hX : kX Y μ) (hx : txX μ l T) (L6 : L ≤ 60) (Ll : L ≤ l) {m F1 : Nat} {a t p c d q s e : Int} {f g : Int → Int} {ν : jM} (a0 : 0 ≤ a) (aL : a < L) (t0 : 0 ≤ t) (ta : t ≤ a) (hF : 0 < F1) (nw : neW T L a q) (k : kF 4 7 μ ν) (sc : scX ν z p c d q f g) (hs : s = if T a = 45 then a + 1 else a) (se : s ≤ e) (eL : e ≤ L) (hd : ∀ x, s ≤ x → x < e → 48 ≤ T x ∧ T x ≤ 57) (hn : e < L → ¬ (48 ≤ T e ∧ T e ≤ 57)) (c1 : T a ≠ 32) (c2 : T a ≠ 47) (j : s = e ∨ a = q) : scR Y T L z μ m F1 a t p c d f g ν := by
  have hXn := hX.to k
  have hxn := hx.to k
  have nq := nw.1
  have nd : ¬ (48 ≤ T a ∧ T a ≤ 57) := by
    rcases j with j | j
    · by_cases c : T a = 45
      · omega
      · rw [if_neg c] at hs
        have ea : e = a := by omega
        rw [ea] at hn
        exact hn aL
    · exact nw.2.2 j.symm aL
  have te := X6_tokenEnd hXn hxn a0 aL hs se eL Ll L6 hd hn
  have as : a ≤ s := by
    rw [hs]
    split <;> omega
  have ft : f_X6_faultOfToken Y 4 2 (ki a) (ki (if e ≤ a then a + 1 else e)) ν = some (ki 1, ν) := by
    refine X6_ftJunk hXn hxn a0 (by split <;> omega) (by split <;> omega) c1 c2 sc.1.2.2.2.2 nw.1.1 (by omega) ?_
    rcases j with j | j
    · left
      have : (if e ≤ a then a + 1 else e) - 1 = a := by
        by_cases c : T a = 45
        · rw [if_pos c] at hs
          rw [if_neg (by omega)]
          omega
        · rw [if_neg c] at hs
          rw [if_pos (by omega)]
          omega
      rw [this]
      exact nd
    · exact Or.inr j
  refine scan_flt hF ((X6_step hXn a0 aL t0 ta L6 te ft (by omega) (by omega)).2 (by omega)) k (by omega) (fun ω hr hm => ?_)
  obtain ⟨ω1, t1, t2, t3⟩ := X12_tokJunk hr a0 aL hm.1 c1 c2 nd (fun c => by
    rw [if_pos c] at hs
    rcases j with j | j
    · right
      intro q
      have ea : e = a + 1 := by omega
      rw [ea] at hn
      exact hn q
    · left
      exact nw.2.1.1 j.symm)
  exact ⟨3, ω1, ω1, t1, X12_rd3 (hr.to t2.r).1 t3 a0 (by omega), t2.r⟩
set_option maxHeartbeats 2000000 in
theorem scan_both {Y : jY} {T : Int → Int} {L z l : Int} {μ : jM} (hX : kX Y μ) (hx : txX μ l T) (L0 : 0 ≤ L) (L6 : L ≤ 60) (Ll : L ≤ l) : ∀ (m : Nat), m ≤ 60 → ∀ (a t p c d q : Int) (f g : Int → Int) (ν : jM) (F1 : Nat), L - a ≤ m → 0 ≤ a → a ≤ L → 0 ≤ t → t ≤ a → m < F1 → scW z p c d f g → neW T L a q → kF 4 7 μ ν → scX ν z p c d q f g → scR Y T L z μ m F1 a t p c d f g ν := by
  intro m
  induction m with
  | zero =>
    intro _ a t p c d q f g ν F1 m1 a0 aL t0 ta hF w nw k sc
    have : a = L := by omega
    subst this
    exact scan_end hX L0 L6 t0 ta (by omega) w k sc
  | succ m ih =>
    intro m6 a t p c d q f g ν F1 m1 a0 aL t0 ta hF w nw k sc
    by_cases eL : a = L
    · subst eL
      exact scan_end hX L0 L6 t0 ta (by omega) w k sc
    · have aL : a < L := by omega
      have hXn := hX.to k
      have hxn := hx.to k
      have hc := w.1.2.2.1
      have hc5 : c ≤ 5 := by
        have := w.1.1
        have := w.1.2.2.2.1
        omega
      have hp := w.1.2.1
      by_cases bl : T a = 32
      · have te := X6_tokenEnd hXn hxn (s := a) (e := a) a0 aL (by rw [if_neg (by omega)]) (Int.le_refl a) (by omega) Ll L6 (fun x x1 x2 => by omega) (fun _ => by omega)
        rw [if_pos (Int.le_refl a)] at te
        have ft := X6_ftBlank hXn hxn (e := a + 1) a0 (by omega) bl
        have st := (X6_step hXn a0 aL t0 ta L6 te ft (by omega) (by omega)).1 rfl
        obtain ⟨r, c2, d2, f2, g2, ν2, j1, j2, j3, j4, j5⟩ := ih (by omega) (a + 1) (t + 1) p c d q f g ν (F1 - 1) (by omega) (by omega) (by omega) (by omega) (by omega) (by omega) w ⟨by have := nw.1; omega, ⟨fun e => by have := nw.1; omega, fun e => by rw [Int.add_sub_cancel] at e; omega⟩, fun e => by have := nw.1; omega⟩ k sc
        refine ⟨r, c2, d2, f2, g2, ν2, (lpX_inl (by omega) st).trans j1, j2, j3, j4, fun ω F2 F3 h2 h3 hr hm => ?_⟩
        obtain ⟨ω1, t1, t2, t3⟩ := X12_tokBlank hr a0 aL hm.1 bl
        obtain ⟨ω', y1, y2, y3⟩ := j5 ω1 F2 (F3 - 1) (by omega) (by omega) (hr.to t2.r) (hm.k t2 t3)
        refine ⟨ω', ?_, t2.r.trans y2, y3⟩
        rw [lpT_inl (by omega) t1]
        exact y1
      · by_cases sl : T a = 47
        · have te := X6_tokenEnd hXn hxn (s := a) (e := a) a0 aL (by rw [if_neg (by omega)]) (Int.le_refl a) (by omega) Ll L6 (fun x x1 x2 => by omega) (fun _ => by omega)
          rw [if_pos (Int.le_refl a)] at te
          obtain ⟨ν', f1, f2, f3⟩ := X6_ftSlash hXn hxn (e := a + 1) a0 (by omega) sl sc hc hc5 hp
          have st := X6_step hXn a0 aL t0 ta L6 te f1 (by split <;> omega) (by split <;> omega)
          by_cases y : p = 0 ∧ 0 < c
          · rw [if_pos y] at st
            have dz := w.1.2.2.2.2.2.1 y.1
            have w' : scW z 1 c d f g := ⟨⟨w.1.1, Or.inr rfl, hc, w.1.2.2.2.1, by omega, fun e => by omega, fun _ => by omega⟩, w.2.1, w.2.2⟩
            refine scan_on (by omega) (by omega) (st.1 rfl) (fun ω hr hm => ?_) (ih (by omega) (a + 1) (t + 1) 1 c d q f g ν' (F1 - 1) (by omega) (by omega) (by omega) (by omega) (by omega) (by omega) w' ⟨by have := nw.1; omega, ⟨fun e => by have := nw.1; omega, fun e => by rw [Int.add_sub_cancel] at e; omega⟩, fun e => by have := nw.1; omega⟩ (k.trans f2) f3)
            obtain ⟨ω1, t1, t2, t3, t4, _⟩ := X12_tokHead hr a0 aL hm.1 bl
            have hm1 := hm.k t1 t2
            exact ⟨2, ω1, ω1, t4 sl, (X12_rd2 (hr.to t1.r).1 hm1 hp hc hc5 t3 a0 (by omega)).1 y, t1.r, hm1⟩
          · rw [if_neg y] at st
            refine scan_flt (by omega) (st.2 (by omega)) (k.trans f2) (by omega) (fun ω hr hm => ?_)
            obtain ⟨ω1, t1, t2, t3, t4, _⟩ := X12_tokHead hr a0 aL hm.1 bl
            have hm1 := hm.k t1 t2
            exact ⟨2, ω1, ω1, t4 sl, (X12_rd2 (hr.to t1.r).1 hm1 hp hc hc5 t3 a0 (by omega)).2 y, t1.r⟩
        · obtain ⟨s, hs⟩ : ∃ s, s = if T a = 45 then a + 1 else a := ⟨_, rfl⟩
          have sL : a ≤ s ∧ s ≤ L := by
            rw [hs]
            split <;> omega
          obtain ⟨e, se, eL2, hd, hn⟩ := run_ex T L 60 s (by omega) sL.2
          by_cases y : s < e ∧ a ≠ q
          · exact scan_num hX hx L6 Ll (by omega) a0 aL t0 ta (by omega) w nw k sc hs y.1 eL2 hd hn y.2 bl sl (fun c d f g ν w' ne k' sc' => ih (by omega) e (t + 1) p c d e f g ν (F1 - 1) (by omega) (by omega) eL2 (by omega) (by omega) (by omega) w' ne k' sc')
          · exact scan_junk hX hx L6 Ll a0 aL t0 ta (by omega) nw k sc hs se eL2 hd hn bl sl (by omega)
