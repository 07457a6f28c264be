/-! PURE: the parts of the printed functions, and the rows that take them apart -/
def jI (v : Value) : Option Int32 := match v with
  | .int x => some x
  | _ => none
def jL (v : Value) : Option Int64 := match v with
  | .long x => some x
  | _ => none
def jO (v : Value) : Option Nat := match v with
  | .ref x => some x
  | _ => none
def jN (v : Value) : Option Bool := match v with
  | .null => some true
  | .ref _ => some false
  | _ => none
theorem jI_some {v : Value} {x : Int32} (h : jI v = some x) : v = .int x := by
  cases v <;> simp_all [jI]
theorem jL_some {v : Value} {x : Int64} (h : jL v = some x) : v = .long x := by
  cases v <;> simp_all [jL]
theorem jO_some {v : Value} {x : Nat} (h : jO v = some x) : v = .ref x := by
  cases v <;> simp_all [jO]
/-- a field of cell o, of class ci -/
def jgI (Y : jY) (μ : jM) (o ci k : Nat) : Option Int32 := if (Y o).1 = ci then jI (μ o k) else none
def jgL (Y : jY) (μ : jM) (o ci k : Nat) : Option Int64 := if (Y o).1 = ci then jL (μ o k) else none
def jgO (Y : jY) (μ : jM) (o ci k : Nat) : Option Nat := if (Y o).1 = ci then jO (μ o k) else none
def jput (Y : jY) (μ : jM) (o ci k : Nat) (v : Value) : Option jM := if (Y o).1 = ci ∧ o ≠ 0 then some (jw μ o k v) else none
def jputZ (Y : jY) (μ : jM) (o ci k : Nat) (x : Int32) : Option jM := if ((Y o).1 = ci ∧ o ≠ 0) ∧ (x = 0 ∨ x = 1) then some (jw μ o k (.int x)) else none
/-- a place of array o, of kind t -/
def jaI (Y : jY) (μ : jM) (o t : Nat) (i : Int32) : Option Int32 := if (Y o).1 = t then (jix i (Y o).2).bind fun k => jI (μ o k) else none
def jaL (Y : jY) (μ : jM) (o t : Nat) (i : Int32) : Option Int64 := if (Y o).1 = t then (jix i (Y o).2).bind fun k => jL (μ o k) else none
def jaO (Y : jY) (μ : jM) (o t : Nat) (i : Int32) : Option Nat := if (Y o).1 = t then (jix i (Y o).2).bind fun k => jO (μ o k) else none
def jaN (Y : jY) (μ : jM) (o t : Nat) (i : Int32) : Option Bool := if (Y o).1 = t then (jix i (Y o).2).bind fun k => jN (μ o k) else none
def jas (Y : jY) (μ : jM) (o t : Nat) (i : Int32) (v : Value) : Option jM := if (Y o).1 = t ∧ o ≠ 0 then (jix i (Y o).2).bind fun k => some (jw μ o k v) else none
def jlen (Y : jY) (o t : Nat) : Option Int32 := if (Y o).1 = t then some (nI (Y o).2) else none
def jdivI (x y : Int32) : Option Int32 := if y = 0 then none else some (x / y)
def jremI (x y : Int32) : Option Int32 := if y = 0 then none else some (x - x / y * y)
def jdivL (x y : Int64) : Option Int64 := if y = 0 then none else some (x / y)
def jremL (x y : Int64) : Option Int64 := if y = 0 then none else some (x - x / y * y)
def jrcv {α : Type} (Y : jY) (o ci : Nat) (r : Option α) : Option α := if (Y o).1 = ci then r else none
def jbool (x : Int32) : Option Int32 := if x = 0 ∨ x = 1 then some x else none
def jmaxI (x y : Int32) : Int32 := if x < y then y else x
def jminI (x y : Int32) : Int32 := if y < x then y else x
def jabsI (x : Int32) : Int32 := if 0 ≤ x then x else 0 - x
def jmaxL (x y : Int64) : Int64 := if y < x then x else y
def jabsL (x : Int64) : Int64 := if 0 < x then x else -x
/-- a loop: the body goes on with another state, or out with a result -/
def jit {σ ρ : Type} : Nat → (σ → Option (σ ⊕ ρ)) → σ → Option ρ
  | 0, _, _ => none
  | n + 1, f, s => match f s with
    | none => none
    | some (.inl s') => jit n f s'
    | some (.inr r) => some r
def jF : Nat := 1000000
theorem jbind {α β : Type} {o : Option α} {f : α → Option β} {z : β} (H : o.bind f = some z) : ∃ x, o = some x ∧ f x = some z := Option.bind_eq_some_iff.mp H
theorem jmap {α β : Type} {o : Option α} {f : α → β} {z : β} (H : o.map f = some z) : ∃ x, o = some x ∧ f x = z := Option.map_eq_some_iff.mp H
theorem jfin2 {α β : Type} {a c : α} {b d : β} (h : (a, b) = (c, d)) : a = c ∧ b = d := Prod.mk.inj h
theorem jit_ind {σ ρ : Type} {f : σ → Option (σ ⊕ ρ)} {P : σ → Prop} {D : ρ → Prop} (step : ∀ s z, f s = some z → Sum.elim P D z → P s) : ∀ (n : Nat) (s : σ) (r : ρ), jit n f s = some r → D r → P s := by
  intro n
  induction n with
  | zero => intro s r h; cases h
  | succ n ih =>
    intro s r h hD
    rw [jit] at h
    cases e : f s with
    | none => rw [e] at h; cases h
    | some z =>
      rw [e] at h
      cases z with
      | inl s' => exact step s _ e (ih s' r h hD)
      | inr r' => cases h; exact step s _ e hD
section JPURE
variable {X : jX} {Q : State → Prop} {nc ns n : Nat} {Y : jY} {own : String} {cc : ByteArray} {nL : Nat} {ret : Option FieldType} {d pc : Nat} {L : List (Nat × Value)} {st : List Value} {μ : jM} {α : Type} {z : α}
theorem w_getI (K : jOK X own cc nL ret d) {ci : Nat} {C : String} {T : u_T} {N : Nat} (hc : vwCl[ci]? = some (C, T, N)) (hin : ∀ w ∈ u_ws C T N, w ∈ jWT) (k : Nat) (hk : k < N) {index o : Nat} (hw : Cond.fieldLink own index (T k).1 (T k).2.1 (T k).2.2.1 ∈ jWT)
    (hdg : decode cc pc = .ok (.getfield index, 3)) {f : Int32 → Option α} (H : (jgI Y μ o ci k).bind f = some z) (kk : ∀ x, f x = some z → JW X Q nc ns n Y (pc + 3) L (.int x :: st) μ) : JW X Q nc ns n Y pc L (.ref o :: st) μ := by
  obtain ⟨x, h, H⟩ := jbind H
  unfold jgI at h
  split at h
  · rename_i ho
    exact r_get K hc hin k hk hw ho (jI_some h) hdg (kk x H)
  · cases h
theorem w_getL (K : jOK X own cc nL ret d) {ci : Nat} {C : String} {T : u_T} {N : Nat} (hc : vwCl[ci]? = some (C, T, N)) (hin : ∀ w ∈ u_ws C T N, w ∈ jWT) (k : Nat) (hk : k < N) {index o : Nat} (hw : Cond.fieldLink own index (T k).1 (T k).2.1 (T k).2.2.1 ∈ jWT)
    (hdg : decode cc pc = .ok (.getfield index, 3)) {f : Int64 → Option α} (H : (jgL Y μ o ci k).bind f = some z) (kk : ∀ x, f x = some z → JW X Q nc ns n Y (pc + 3) L (.long x :: st) μ) : JW X Q nc ns n Y pc L (.ref o :: st) μ := by
  obtain ⟨x, h, H⟩ := jbind H
  unfold jgL at h
  split at h
  · rename_i ho
    exact r_get K hc hin k hk hw ho (jL_some h) hdg (kk x H)
  · cases h
theorem w_getO (K : jOK X own cc nL ret d) {ci : Nat} {C : String} {T : u_T} {N : Nat} (hc : vwCl[ci]? = some (C, T, N)) (hin : ∀ w ∈ u_ws C T N, w ∈ jWT) (k : Nat) (hk : k < N) {index o : Nat} (hw : Cond.fieldLink own index (T k).1 (T k).2.1 (T k).2.2.1 ∈ jWT)
    (hdg : decode cc pc = .ok (.getfield index, 3)) {f : Nat → Option α} (H : (jgO Y μ o ci k).bind f = some z) (kk : ∀ x, f x = some z → JW X Q nc ns n Y (pc + 3) L (.ref x :: st) μ) : JW X Q nc ns n Y pc L (.ref o :: st) μ := by
  obtain ⟨x, h, H⟩ := jbind H
  unfold jgO at h
  split at h
  · rename_i ho
    exact r_get K hc hin k hk hw ho (jO_some h) hdg (kk x H)
  · cases h
theorem w_put (K : jOK X own cc nL ret d) {ci : Nat} {C : String} {T : u_T} {N : Nat} (hc : vwCl[ci]? = some (C, T, N)) (hin : ∀ w ∈ u_ws C T N, w ∈ jWT) {tyf : Nat → FieldType} (hty : ∀ k, k < N → parseFieldDescriptor (T k).2.2.1 = some (tyf k)) (hnm : ∀ a, a < N → ∀ b, b < N → a ≠ b → (T a).2.1 ≠ (T b).2.1) (k : Nat) (hk : k < N) {index o : Nat} {v : Value} (hw : Cond.fieldLink own index (T k).1 (T k).2.1 (T k).2.2.1 ∈ jWT)
    (hfin : (T k).2.2.2 = false) (hn : ∀ G, narrow (tyf k) (jv G v) = jv G v) (hfit : ∀ G, fits (tyf k) (jv G v) = true) (hdg : decode cc pc = .ok (.putfield index, 3)) {f : jM → Option α} (H : (jput Y μ o ci k v).bind f = some z) (kk : ∀ μ2, f μ2 = some z → JW X Q nc ns n Y (pc + 3) L st μ2) : JW X Q nc ns n Y pc L (v :: .ref o :: st) μ := by
  obtain ⟨x, h, H⟩ := jbind H
  unfold jput at h
  split at h
  · rename_i ho
    cases h
    exact r_put K hc hin hty hnm k hk hw hfin hn hfit ho.2 ho.1 hdg (kk _ H)
  · cases h
theorem w_putZ (K : jOK X own cc nL ret d) {ci : Nat} {C : String} {T : u_T} {N : Nat} (hc : vwCl[ci]? = some (C, T, N)) (hin : ∀ w ∈ u_ws C T N, w ∈ jWT) {tyf : Nat → FieldType} (hty : ∀ k, k < N → parseFieldDescriptor (T k).2.2.1 = some (tyf k)) (hnm : ∀ a, a < N → ∀ b, b < N → a ≠ b → (T a).2.1 ≠ (T b).2.1) (k : Nat) (hk : k < N) {index o : Nat} {x : Int32} (hw : Cond.fieldLink own index (T k).1 (T k).2.1 (T k).2.2.1 ∈ jWT)
    (hfin : (T k).2.2.2 = false) (hz : tyf k = .boolean) (hdg : decode cc pc = .ok (.putfield index, 3)) {f : jM → Option α} (H : (jputZ Y μ o ci k x).bind f = some z) (kk : ∀ μ2, f μ2 = some z → JW X Q nc ns n Y (pc + 3) L st μ2) : JW X Q nc ns n Y pc L (.int x :: .ref o :: st) μ := by
  obtain ⟨y, h, H⟩ := jbind H
  unfold jputZ at h
  split at h
  · rename_i ho
    cases h
    refine r_put K hc hin hty hnm k hk hw hfin ?_ ?_ ho.1.2 ho.1.1 hdg (kk _ H)
    · intro G; rw [hz]; rcases ho.2 with rfl | rfl <;> rfl
    · intro G; rw [hz]; rcases ho.2 with rfl | rfl <;> rfl
  · cases h
theorem w_iald (K : jOK X own cc nL ret d) {o : Nat} {i : Int32} (hdg : decode cc pc = .ok (.iaload, 1)) {f : Int32 → Option α} (H : (jaI Y μ o 20 i).bind f = some z) (kk : ∀ x, f x = some z → JW X Q nc ns n Y (pc + 1) L (.int x :: st) μ) : JW X Q nc ns n Y pc L (.int i :: .ref o :: st) μ := by
  obtain ⟨x, h, H⟩ := jbind H
  unfold jaI at h
  split at h
  · rename_i ho
    obtain ⟨k, hi, h⟩ := jbind h
    exact r_iald K ho hi (jI_some h) hdg (kk x H)
  · cases h
theorem w_bald (K : jOK X own cc nL ret d) {o : Nat} {i : Int32} (hdg : decode cc pc = .ok (.baload, 1)) {f : Int32 → Option α} (H : (jaI Y μ o 22 i).bind f = some z) (kk : ∀ x, f x = some z → JW X Q nc ns n Y (pc + 1) L (.int x :: st) μ) : JW X Q nc ns n Y pc L (.int i :: .ref o :: st) μ := by
  obtain ⟨x, h, H⟩ := jbind H
  unfold jaI at h
  split at h
  · rename_i ho
    obtain ⟨k, hi, h⟩ := jbind h
    exact r_bald K ho hi (jI_some h) hdg (kk x H)
  · cases h
theorem w_lald (K : jOK X own cc nL ret d) {o : Nat} {i : Int32} (hdg : decode cc pc = .ok (.laload, 1)) {f : Int64 → Option α} (H : (jaL Y μ o 21 i).bind f = some z) (kk : ∀ x, f x = some z → JW X Q nc ns n Y (pc + 1) L (.long x :: st) μ) : JW X Q nc ns n Y pc L (.int i :: .ref o :: st) μ := by
  obtain ⟨x, h, H⟩ := jbind H
  unfold jaL at h
  split at h
  · rename_i ho
    obtain ⟨k, hi, h⟩ := jbind h
    exact r_lald K ho hi (jL_some h) hdg (kk x H)
  · cases h
theorem w_aald (K : jOK X own cc nL ret d) (t : Nat) {ty : FieldType} (ht : jAT t = some ty) (href : ty.isReference = true) {o : Nat} {i : Int32} (hdg : decode cc pc = .ok (.aaload, 1)) {f : Nat → Option α} (H : (jaO Y μ o t i).bind f = some z) (kk : ∀ x, f x = some z → JW X Q nc ns n Y (pc + 1) L (.ref x :: st) μ) : JW X Q nc ns n Y pc L (.int i :: .ref o :: st) μ := by
  obtain ⟨x, h, H⟩ := jbind H
  unfold jaO at h
  split at h
  · rename_i ho
    obtain ⟨k, hi, h⟩ := jbind h
    exact r_aald K ht href ho hi (jO_some h) hdg (kk x H)
  · cases h
/-- a place is read and asked whether it is null -/
theorem w_aaldN (K : jOK X own cc nL ret d) (t tgt : Nat) {ty : FieldType} (ht : jAT t = some ty) (href : ty.isReference = true) {o : Nat} {i : Int32} {off : Int} (hdg : decode cc pc = .ok (.aaload, 1)) (hd2 : decode cc (pc + 1) = .ok (.ifnonnull off, 3)) (htg : ((pc + 1 : Nat) : Int) + off = (tgt : Int)) {f : Bool → Option α} (H : (jaN Y μ o t i).bind f = some z)
    (kt : f false = some z → JW X Q nc ns n Y tgt L st μ) (kf : f true = some z → JW X Q nc ns n Y (pc + 4) L st μ) : JW X Q nc ns n Y pc L (.int i :: .ref o :: st) μ := by
  obtain ⟨x, h, H⟩ := jbind H
  unfold jaN at h
  split at h
  · rename_i ho
    obtain ⟨k, hi, h⟩ := jbind h
    cases hv : μ o k with
    | null =>
      rw [hv] at h
      cases h
      exact r_aald K ht href ho hi hv hdg (r_ifnonnullN K hd2 (kf H))
    | ref a =>
      rw [hv] at h
      cases h
      exact r_aald K ht href ho hi hv hdg (r_ifnonnull K tgt hd2 htg (kt H))
    | _ =>
      rw [hv] at h
      cases h
  · cases h
theorem w_iast (K : jOK X own cc nL ret d) {o : Nat} {i x : Int32} (hdg : decode cc pc = .ok (.iastore, 1)) {f : jM → Option α} (H : (jas Y μ o 20 i (.int x)).bind f = some z) (kk : ∀ μ2, f μ2 = some z → JW X Q nc ns n Y (pc + 1) L st μ2) : JW X Q nc ns n Y pc L (.int x :: .int i :: .ref o :: st) μ := by
  obtain ⟨y, h, H⟩ := jbind H
  unfold jas at h
  split at h
  · rename_i ho
    obtain ⟨k, hi, h⟩ := jbind h
    cases h
    exact r_iast K ho.2 ho.1 hi hdg (kk _ H)
  · cases h
theorem w_last (K : jOK X own cc nL ret d) {o : Nat} {i : Int32} {x : Int64} (hdg : decode cc pc = .ok (.lastore, 1)) {f : jM → Option α} (H : (jas Y μ o 21 i (.long x)).bind f = some z) (kk : ∀ μ2, f μ2 = some z → JW X Q nc ns n Y (pc + 1) L st μ2) : JW X Q nc ns n Y pc L (.long x :: .int i :: .ref o :: st) μ := by
  obtain ⟨y, h, H⟩ := jbind H
  unfold jas at h
  split at h
  · rename_i ho
    obtain ⟨k, hi, h⟩ := jbind h
    cases h
    exact r_last K ho.2 ho.1 hi hdg (kk _ H)
  · cases h
theorem w_bast (K : jOK X own cc nL ret d) {o : Nat} {i x : Int32} (hdg : decode cc pc = .ok (.bastore, 1)) {f : jM → Option α} (H : (jas Y μ o 22 i (.int x.toInt8.toInt32)).bind f = some z) (kk : ∀ μ2, f μ2 = some z → JW X Q nc ns n Y (pc + 1) L st μ2) : JW X Q nc ns n Y pc L (.int x :: .int i :: .ref o :: st) μ := by
  obtain ⟨y, h, H⟩ := jbind H
  unfold jas at h
  split at h
  · rename_i ho
    obtain ⟨k, hi, h⟩ := jbind h
    cases h
    exact r_bast K ho.2 ho.1 hi hdg (kk _ H)
  · cases h
theorem w_alen (K : jOK X own cc nL ret d) (t : Nat) {ty : FieldType} (ht : jAT t = some ty) {o : Nat} (hdg : decode cc pc = .ok (.arraylength, 1)) {f : Int32 → Option α} (H : (jlen Y o t).bind f = some z) (kk : ∀ x, f x = some z → JW X Q nc ns n Y (pc + 1) L (.int x :: st) μ) : JW X Q nc ns n Y pc L (.ref o :: st) μ := by
  obtain ⟨y, h, H⟩ := jbind H
  unfold jlen at h
  split at h
  · rename_i ho
    cases h
    exact r_alen K ht ho hdg (kk _ H)
  · cases h
theorem w_idiv (K : jOK X own cc nL ret d) {x y : Int32} (hdg : decode cc pc = .ok (.idiv, 1)) {f : Int32 → Option α} (H : (jdivI x y).bind f = some z) (kk : ∀ w, f w = some z → JW X Q nc ns n Y (pc + 1) L (.int w :: st) μ) : JW X Q nc ns n Y pc L (.int y :: .int x :: st) μ := by
  obtain ⟨w, h, H⟩ := jbind H
  unfold jdivI at h
  split at h
  · cases h
  · rename_i hne
    cases h
    exact r_idiv K hdg hne (kk _ H)
theorem w_irem (K : jOK X own cc nL ret d) {x y : Int32} (hdg : decode cc pc = .ok (.irem, 1)) {f : Int32 → Option α} (H : (jremI x y).bind f = some z) (kk : ∀ w, f w = some z → JW X Q nc ns n Y (pc + 1) L (.int w :: st) μ) : JW X Q nc ns n Y pc L (.int y :: .int x :: st) μ := by
  obtain ⟨w, h, H⟩ := jbind H
  unfold jremI at h
  split at h
  · cases h
  · rename_i hne
    cases h
    exact r_irem K hdg hne (kk _ H)
theorem w_ldiv (K : jOK X own cc nL ret d) {x y : Int64} (hdg : decode cc pc = .ok (.ldiv, 1)) {f : Int64 → Option α} (H : (jdivL x y).bind f = some z) (kk : ∀ w, f w = some z → JW X Q nc ns n Y (pc + 1) L (.long w :: st) μ) : JW X Q nc ns n Y pc L (.long y :: .long x :: st) μ := by
  obtain ⟨w, h, H⟩ := jbind H
  unfold jdivL at h
  split at h
  · cases h
  · rename_i hne
    cases h
    exact r_ldiv K hdg hne (kk _ H)
theorem w_lrem (K : jOK X own cc nL ret d) {x y : Int64} (hdg : decode cc pc = .ok (.lrem, 1)) {f : Int64 → Option α} (H : (jremL x y).bind f = some z) (kk : ∀ w, f w = some z → JW X Q nc ns n Y (pc + 1) L (.long w :: st) μ) : JW X Q nc ns n Y pc L (.long y :: .long x :: st) μ := by
  obtain ⟨w, h, H⟩ := jbind H
  unfold jremL at h
  split at h
  · cases h
  · rename_i hne
    cases h
    exact r_lrem K hdg hne (kk _ H)
theorem w_zret (K : jOK X own cc nL (some .boolean) d) {v : Int32} (hdg : decode cc pc = .ok (.ireturn, 1)) {f : Int32 → Option α} (H : (jbool v).bind f = some z) (kk : (v = 0 ∨ v = 1) → f v = some z → JW X Q nc ns n Y pc L [.int v] μ) : JW X Q nc ns n Y pc L [.int v] μ := by
  obtain ⟨w, h, H⟩ := jbind H
  unfold jbool at h
  split at h
  · rename_i hv
    cases h
    exact kk hv H
  · cases h
theorem w_icmp_eq (K : jOK X own cc nL ret d) (tgt : Nat) {x y : Int32} {off : Int} {A B : Option α} (hdg : decode cc pc = .ok (.if_icmp .eq off, 3)) (ht : (pc : Int) + off = (tgt : Int)) (H : (if x = y then A else B) = some z) (kt : x = y → A = some z → JW X Q nc ns n Y tgt L st μ) (kf : ¬ x = y → B = some z → JW X Q nc ns n Y (pc + 3) L st μ) : JW X Q nc ns n Y pc L (.int y :: .int x :: st) μ :=
  r_icmp_eq K tgt hdg ht (fun h => kt h (by rw [if_pos h] at H; exact H)) (fun h => kf h (by rw [if_neg h] at H; exact H))
theorem w_if_eq (K : jOK X own cc nL ret d) (tgt : Nat) {x : Int32} {off : Int} {A B : Option α} (hdg : decode cc pc = .ok (.ifCond .eq off, 3)) (ht : (pc : Int) + off = (tgt : Int)) (H : (if x = 0 then A else B) = some z) (kt : x = 0 → A = some z → JW X Q nc ns n Y tgt L st μ) (kf : ¬ x = 0 → B = some z → JW X Q nc ns n Y (pc + 3) L st μ) : JW X Q nc ns n Y pc L (.int x :: st) μ :=
  r_if_eq K tgt hdg ht (fun h => kt h (by rw [if_pos h] at H; exact H)) (fun h => kf h (by rw [if_neg h] at H; exact H))
theorem w_icmp_ne (K : jOK X own cc nL ret d) (tgt : Nat) {x y : Int32} {off : Int} {A B : Option α} (hdg : decode cc pc = .ok (.if_icmp .ne off, 3)) (ht : (pc : Int) + off = (tgt : Int)) (H : (if x = y then B else A) = some z) (kt : ¬ x = y → A = some z → JW X Q nc ns n Y tgt L st μ) (kf : x = y → B = some z → JW X Q nc ns n Y (pc + 3) L st μ) : JW X Q nc ns n Y pc L (.int y :: .int x :: st) μ :=
  r_icmp_ne K tgt hdg ht (fun h => kt h (by rw [if_neg h] at H; exact H)) (fun h => kf h (by rw [if_pos h] at H; exact H))
theorem w_if_ne (K : jOK X own cc nL ret d) (tgt : Nat) {x : Int32} {off : Int} {A B : Option α} (hdg : decode cc pc = .ok (.ifCond .ne off, 3)) (ht : (pc : Int) + off = (tgt : Int)) (H : (if x = 0 then B else A) = some z) (kt : ¬ x = 0 → A = some z → JW X Q nc ns n Y tgt L st μ) (kf : x = 0 → B = some z → JW X Q nc ns n Y (pc + 3) L st μ) : JW X Q nc ns n Y pc L (.int x :: st) μ :=
  r_if_ne K tgt hdg ht (fun h => kt h (by rw [if_neg h] at H; exact H)) (fun h => kf h (by rw [if_pos h] at H; exact H))
theorem w_icmp_lt (K : jOK X own cc nL ret d) (tgt : Nat) {x y : Int32} {off : Int} {A B : Option α} (hdg : decode cc pc = .ok (.if_icmp .lt off, 3)) (ht : (pc : Int) + off = (tgt : Int)) (H : (if x < y then A else B) = some z) (kt : x < y → A = some z → JW X Q nc ns n Y tgt L st μ) (kf : ¬ x < y → B = some z → JW X Q nc ns n Y (pc + 3) L st μ) : JW X Q nc ns n Y pc L (.int y :: .int x :: st) μ :=
  r_icmp_lt K tgt hdg ht (fun h => kt h (by rw [if_pos h] at H; exact H)) (fun h => kf h (by rw [if_neg h] at H; exact H))
theorem w_if_lt (K : jOK X own cc nL ret d) (tgt : Nat) {x : Int32} {off : Int} {A B : Option α} (hdg : decode cc pc = .ok (.ifCond .lt off, 3)) (ht : (pc : Int) + off = (tgt : Int)) (H : (if x < 0 then A else B) = some z) (kt : x < 0 → A = some z → JW X Q nc ns n Y tgt L st μ) (kf : ¬ x < 0 → B = some z → JW X Q nc ns n Y (pc + 3) L st μ) : JW X Q nc ns n Y pc L (.int x :: st) μ :=
  r_if_lt K tgt hdg ht (fun h => kt h (by rw [if_pos h] at H; exact H)) (fun h => kf h (by rw [if_neg h] at H; exact H))
theorem w_icmp_ge (K : jOK X own cc nL ret d) (tgt : Nat) {x y : Int32} {off : Int} {A B : Option α} (hdg : decode cc pc = .ok (.if_icmp .ge off, 3)) (ht : (pc : Int) + off = (tgt : Int)) (H : (if y ≤ x then A else B) = some z) (kt : y ≤ x → A = some z → JW X Q nc ns n Y tgt L st μ) (kf : ¬ y ≤ x → B = some z → JW X Q nc ns n Y (pc + 3) L st μ) : JW X Q nc ns n Y pc L (.int y :: .int x :: st) μ :=
  r_icmp_ge K tgt hdg ht (fun h => kt h (by rw [if_pos h] at H; exact H)) (fun h => kf h (by rw [if_neg h] at H; exact H))
theorem w_if_ge (K : jOK X own cc nL ret d) (tgt : Nat) {x : Int32} {off : Int} {A B : Option α} (hdg : decode cc pc = .ok (.ifCond .ge off, 3)) (ht : (pc : Int) + off = (tgt : Int)) (H : (if 0 ≤ x then A else B) = some z) (kt : 0 ≤ x → A = some z → JW X Q nc ns n Y tgt L st μ) (kf : ¬ 0 ≤ x → B = some z → JW X Q nc ns n Y (pc + 3) L st μ) : JW X Q nc ns n Y pc L (.int x :: st) μ :=
  r_if_ge K tgt hdg ht (fun h => kt h (by rw [if_pos h] at H; exact H)) (fun h => kf h (by rw [if_neg h] at H; exact H))
theorem w_icmp_gt (K : jOK X own cc nL ret d) (tgt : Nat) {x y : Int32} {off : Int} {A B : Option α} (hdg : decode cc pc = .ok (.if_icmp .gt off, 3)) (ht : (pc : Int) + off = (tgt : Int)) (H : (if y < x then A else B) = some z) (kt : y < x → A = some z → JW X Q nc ns n Y tgt L st μ) (kf : ¬ y < x → B = some z → JW X Q nc ns n Y (pc + 3) L st μ) : JW X Q nc ns n Y pc L (.int y :: .int x :: st) μ :=
  r_icmp_gt K tgt hdg ht (fun h => kt h (by rw [if_pos h] at H; exact H)) (fun h => kf h (by rw [if_neg h] at H; exact H))
theorem w_if_gt (K : jOK X own cc nL ret d) (tgt : Nat) {x : Int32} {off : Int} {A B : Option α} (hdg : decode cc pc = .ok (.ifCond .gt off, 3)) (ht : (pc : Int) + off = (tgt : Int)) (H : (if 0 < x then A else B) = some z) (kt : 0 < x → A = some z → JW X Q nc ns n Y tgt L st μ) (kf : ¬ 0 < x → B = some z → JW X Q nc ns n Y (pc + 3) L st μ) : JW X Q nc ns n Y pc L (.int x :: st) μ :=
  r_if_gt K tgt hdg ht (fun h => kt h (by rw [if_pos h] at H; exact H)) (fun h => kf h (by rw [if_neg h] at H; exact H))
theorem w_icmp_le (K : jOK X own cc nL ret d) (tgt : Nat) {x y : Int32} {off : Int} {A B : Option α} (hdg : decode cc pc = .ok (.if_icmp .le off, 3)) (ht : (pc : Int) + off = (tgt : Int)) (H : (if x ≤ y then A else B) = some z) (kt : x ≤ y → A = some z → JW X Q nc ns n Y tgt L st μ) (kf : ¬ x ≤ y → B = some z → JW X Q nc ns n Y (pc + 3) L st μ) : JW X Q nc ns n Y pc L (.int y :: .int x :: st) μ :=
  r_icmp_le K tgt hdg ht (fun h => kt h (by rw [if_pos h] at H; exact H)) (fun h => kf h (by rw [if_neg h] at H; exact H))
theorem w_if_le (K : jOK X own cc nL ret d) (tgt : Nat) {x : Int32} {off : Int} {A B : Option α} (hdg : decode cc pc = .ok (.ifCond .le off, 3)) (ht : (pc : Int) + off = (tgt : Int)) (H : (if x ≤ 0 then A else B) = some z) (kt : x ≤ 0 → A = some z → JW X Q nc ns n Y tgt L st μ) (kf : ¬ x ≤ 0 → B = some z → JW X Q nc ns n Y (pc + 3) L st μ) : JW X Q nc ns n Y pc L (.int x :: st) μ :=
  r_if_le K tgt hdg ht (fun h => kt h (by rw [if_pos h] at H; exact H)) (fun h => kf h (by rw [if_neg h] at H; exact H))
theorem w_callV (K : jOK X own cc nL ret d) {l : Launch} (hl0 : X.2.1 = l) {ci o : Nat} {β : Type} {F : Option β} {f : β → Option α} (H : (jrcv Y o ci F).bind f = some z) {y : MethodName} {cc2 : ByteArray} {nL2 : Nat} {ret2 : Option FieldType} {d2 : Nat} {As : List Value} {v : β → Option Value} {m2 : β → jM} (hC : ∀ r, F = some r → jC l y cc2 nL2 ret2 d2 0 0 (.ref o :: As) n Y μ n Y (v r) (m2 r))
    (hcode : Cond.code y cc2 nL2 ret2 ∈ jWT) {index : Nat} (hlk : Cond.methodLink own index y ∈ jWT) (hin : Cond.instanceMethod y ∈ jWT) (hsel : Cond.selects y.cls y y ∈ jWT) (hini : Cond.initialized y.cls ∈ jWT)
    {N : Nat} {T : u_T} (hc : vwCl[ci]? = some (y.cls, T, N)) (hd : d2 + 1 ≤ d) (hnl : nL2 ≤ 45)
    (hnp : y.cls ≠ "java/lang/invoke/MethodHandle" ∧ y.cls ≠ "java/lang/invoke/VarHandle" ∧ (parseMethodDescriptor y.desc).map (fun q => q.parameters.length) = some As.length)
    {stk : List Value} (hs : stk = As.reverse ++ .ref o :: st) (hst : (st.map fun v => v.category).sum ≤ 8) (hdg : decode cc pc = .ok (.invokevirtual index, 3))
    (kk : ∀ r, f r = some z → JW X Q nc ns n Y (pc + 3) L ((v r).toList ++ st) (m2 r)) (hrm : nc ≤ X.2.2.2.1.cells ∧ ns ≤ X.2.2.2.1.slots) : JW X Q nc ns n Y pc L stk μ := by
  obtain ⟨r, h, H⟩ := jbind H
  unfold jrcv at h
  split at h
  · rename_i ho
    exact r_callV K hl0 (hC r h) hcode hlk hin hsel hini hc ho hd hnl hnp hs hst hdg hrm (kk r H)
  · cases h
theorem w_callS (K : jOK X own cc nL ret d) {l : Launch} (hl0 : X.2.1 = l) {β : Type} {F : Option β} {f : β → Option α} (H : F.bind f = some z) {y : MethodName} {cc2 : ByteArray} {nL2 : Nat} {ret2 : Option FieldType} {d2 : Nat} {As : List Value} {v : β → Option Value} {m2 : β → jM} (hC : ∀ r, F = some r → jC l y cc2 nL2 ret2 d2 0 0 As n Y μ n Y (v r) (m2 r))
    (hcode : Cond.code y cc2 nL2 ret2 ∈ jWT) {index : Nat} (hlk : Cond.methodLink own index y ∈ jWT) (hstat : Cond.static y ∈ jWT) (hini : Cond.initialized y.cls ∈ jWT) (hd : d2 + 1 ≤ d) (hnl : nL2 ≤ 45)
    (hnp : y.cls ≠ "java/lang/invoke/MethodHandle" ∧ y.cls ≠ "java/lang/invoke/VarHandle" ∧ (parseMethodDescriptor y.desc).map (fun q => q.parameters.length) = some As.length)
    {stk : List Value} (hs : stk = As.reverse ++ st) (hst : (st.map fun v => v.category).sum ≤ 8) (hdg : decode cc pc = .ok (.invokestatic index, 3))
    (kk : ∀ r, f r = some z → JW X Q nc ns n Y (pc + 3) L ((v r).toList ++ st) (m2 r)) (hrm : nc ≤ X.2.2.2.1.cells ∧ ns ≤ X.2.2.2.1.slots) : JW X Q nc ns n Y pc L stk μ := by
  obtain ⟨r, h, H⟩ := jbind H
  exact r_callS K hl0 (hC r h) hcode hlk hstat hini hd hnl hnp hs hst hdg hrm (kk r H)
theorem w_callSN (K : jOK X own cc nL ret d) {l : Launch} (hl0 : X.2.1 = l) {β : Type} {F : Option β} {f : β → Option α} (H : F.bind f = some z) {y : MethodName} {cc2 : ByteArray} {nL2 : Nat} {ret2 : Option FieldType} {d2 : Nat} {As : List Value} {v : β → Option Value} {m2 : β → jM} (hC : ∀ r, F = some r → jC l y cc2 nL2 ret2 d2 0 0 As n Y μ n Y (v r) (m2 r))
    (hcode : Cond.code y cc2 nL2 ret2 ∈ jWT) {index : Nat} {host : String} (hlk : (own, index, y, host) ∈ jNest) (hstat : Cond.static y ∈ jWT) (hini : Cond.initialized y.cls ∈ jWT) (hd : d2 + 1 ≤ d) (hnl : nL2 ≤ 45)
    (hnp : y.cls ≠ "java/lang/invoke/MethodHandle" ∧ y.cls ≠ "java/lang/invoke/VarHandle" ∧ (parseMethodDescriptor y.desc).map (fun q => q.parameters.length) = some As.length)
    {stk : List Value} (hs : stk = As.reverse ++ st) (hst : (st.map fun v => v.category).sum ≤ 8) (hdg : decode cc pc = .ok (.invokestatic index, 3))
    (kk : ∀ r, f r = some z → JW X Q nc ns n Y (pc + 3) L ((v r).toList ++ st) (m2 r)) (hrm : nc ≤ X.2.2.2.1.cells ∧ ns ≤ X.2.2.2.1.slots) : JW X Q nc ns n Y pc L stk μ := by
  obtain ⟨r, h, H⟩ := jbind H
  exact r_callSN K hl0 (hC r h) hcode hlk hstat hini hd hnl hnp hs hst hdg hrm (kk r H)
theorem r_mmax (K : jOK X own cc nL ret d) {index : Nat} {x y : Int32} (hlk : Cond.methodLink own index Lib.Math.max.name ∈ jWT) (hstat : Cond.static Lib.Math.max.name ∈ jWT) (hini : Cond.initialized "java/lang/Math" ∈ jWT) (hcode : Cond.code Lib.Math.max.name Lib.Math.max.code 2 (some .int) ∈ jWT) (hd : 1 ≤ d) (hst : (st.map fun v => v.category).sum ≤ 8) (hrm : nc ≤ X.2.2.2.1.cells ∧ ns ≤ X.2.2.2.1.slots) (hdg : decode cc pc = .ok (.invokestatic index, 3)) (kk : JW X Q nc ns n Y (pc + 3) L (.int (jmaxI x y) :: st) μ) : JW X Q nc ns n Y pc L (.int y :: .int x :: st) μ := by
  intro H locs ls hR hf hL
  obtain ⟨p, l, e, R, s, m, args, below, meth, c, G⟩ := X
  obtain ⟨k1, k2, k3, k4, k5, k6, k7, k8, k9, k10⟩ := K
  exact va_mmax k1 k2 hL.1.symm k4 (k5 _ hlk) (k5 _ hstat) (k5 _ hini) (k5 _ hcode) (Nat.le_trans hd k9) (Nat.le_trans (by rw [jcats]; omega) k10) hrm.1 hrm.2 hdg (kk H locs ls hR hf hL)
theorem r_mmin (K : jOK X own cc nL ret d) {index : Nat} {x y : Int32} (hlk : Cond.methodLink own index Lib.Math.min.name ∈ jWT) (hstat : Cond.static Lib.Math.min.name ∈ jWT) (hini : Cond.initialized "java/lang/Math" ∈ jWT) (hcode : Cond.code Lib.Math.min.name Lib.Math.min.code 2 (some .int) ∈ jWT) (hd : 1 ≤ d) (hst : (st.map fun v => v.category).sum ≤ 8) (hrm : nc ≤ X.2.2.2.1.cells ∧ ns ≤ X.2.2.2.1.slots) (hdg : decode cc pc = .ok (.invokestatic index, 3)) (kk : JW X Q nc ns n Y (pc + 3) L (.int (jminI x y) :: st) μ) : JW X Q nc ns n Y pc L (.int y :: .int x :: st) μ := by
  intro H locs ls hR hf hL
  obtain ⟨p, l, e, R, s, m, args, below, meth, c, G⟩ := X
  obtain ⟨k1, k2, k3, k4, k5, k6, k7, k8, k9, k10⟩ := K
  exact va_mmin k1 k2 hL.1.symm k4 (k5 _ hlk) (k5 _ hstat) (k5 _ hini) (k5 _ hcode) (Nat.le_trans hd k9) (Nat.le_trans (by rw [jcats]; omega) k10) hrm.1 hrm.2 hdg (kk H locs ls hR hf hL)
theorem r_mabs (K : jOK X own cc nL ret d) {index : Nat} {x : Int32} (hlk : Cond.methodLink own index Lib.Math.abs.name ∈ jWT) (hstat : Cond.static Lib.Math.abs.name ∈ jWT) (hini : Cond.initialized "java/lang/Math" ∈ jWT) (hcode : Cond.code Lib.Math.abs.name Lib.Math.abs.code 1 (some .int) ∈ jWT) (hd : 1 ≤ d) (hst : (st.map fun v => v.category).sum ≤ 8) (hrm : nc ≤ X.2.2.2.1.cells ∧ ns ≤ X.2.2.2.1.slots) (hdg : decode cc pc = .ok (.invokestatic index, 3)) (kk : JW X Q nc ns n Y (pc + 3) L (.int (jabsI x) :: st) μ) : JW X Q nc ns n Y pc L (.int x :: st) μ := by
  intro H locs ls hR hf hL
  obtain ⟨p, l, e, R, s, m, args, below, meth, c, G⟩ := X
  obtain ⟨k1, k2, k3, k4, k5, k6, k7, k8, k9, k10⟩ := K
  exact va_mabs k1 k2 hL.1.symm k4 (k5 _ hlk) (k5 _ hstat) (k5 _ hini) (k5 _ hcode) (Nat.le_trans hd k9) (Nat.le_trans (by rw [jcats]; omega) k10) hrm.1 hrm.2 hdg (kk H locs ls hR hf hL)
theorem r_mmaxL (K : jOK X own cc nL ret d) {index : Nat} {x y : Int64} (hlk : Cond.methodLink own index Lib.MathLoose.max_long.x ∈ jWT) (hstat : Cond.static Lib.MathLoose.max_long.x ∈ jWT) (hini : Cond.initialized "java/lang/Math" ∈ jWT) (hcode : Cond.code Lib.MathLoose.max_long.x Lib.MathLoose.max_long.code 4 (some .long) ∈ jWT) (hd : 1 ≤ d) (hst : (st.map fun v => v.category).sum ≤ 8) (hrm : nc ≤ X.2.2.2.1.cells ∧ ns ≤ X.2.2.2.1.slots) (hdg : decode cc pc = .ok (.invokestatic index, 3)) (kk : JW X Q nc ns n Y (pc + 3) L (.long (jmaxL x y) :: st) μ) : JW X Q nc ns n Y pc L (.long y :: .long x :: st) μ := by
  intro H locs ls hR hf hL
  obtain ⟨p, l, e, R, s, m, args, below, meth, c, G⟩ := X
  obtain ⟨k1, k2, k3, k4, k5, k6, k7, k8, k9, k10⟩ := K
  exact va_mmax_long k1 k2 hL.1.symm k4 (k5 _ hlk) (k5 _ hstat) (k5 _ hini) (k5 _ hcode) (Nat.le_trans hd k9) (Nat.le_trans (by rw [jcats]; omega) k10) hrm.1 hrm.2 hdg (kk H locs ls hR hf hL)
theorem r_mabsL (K : jOK X own cc nL ret d) {index : Nat} {x : Int64} (hlk : Cond.methodLink own index Lib.MathLoose.abs_long.x ∈ jWT) (hstat : Cond.static Lib.MathLoose.abs_long.x ∈ jWT) (hini : Cond.initialized "java/lang/Math" ∈ jWT) (hcode : Cond.code Lib.MathLoose.abs_long.x Lib.MathLoose.abs_long.code 2 (some .long) ∈ jWT) (hd : 1 ≤ d) (hst : (st.map fun v => v.category).sum ≤ 8) (hrm : nc ≤ X.2.2.2.1.cells ∧ ns ≤ X.2.2.2.1.slots) (hdg : decode cc pc = .ok (.invokestatic index, 3)) (kk : JW X Q nc ns n Y (pc + 3) L (.long (jabsL x) :: st) μ) : JW X Q nc ns n Y pc L (.long x :: st) μ := by
  intro H locs ls hR hf hL
  obtain ⟨p, l, e, R, s, m, args, below, meth, c, G⟩ := X
  obtain ⟨k1, k2, k3, k4, k5, k6, k7, k8, k9, k10⟩ := K
  exact va_mabs_long k1 k2 hL.1.symm k4 (k5 _ hlk) (k5 _ hstat) (k5 _ hini) (k5 _ hcode) (Nat.le_trans hd k9) (Nat.le_trans (by rw [jcats]; omega) k10) hrm.1 hrm.2 hdg (kk H locs ls hR hf hL)
end JPURE
