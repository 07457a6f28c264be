/-! CORE: the heap of the run by numbers: cell i lies at jad G i (0: the script; i + 1: base + i); a cell has a tag (class, or kind of array), a length, and a value in each place -/
abbrev jM : Type := Nat → Nat → Value
abbrev jY : Type := Nat → Nat × Nat
abbrev jG : Type := Nat × Nat × (Nat → ClassId) × (Nat → Nat → Nat)
def jad (G : jG) (i : Nat) : Nat := match i with
  | 0 => G.1
  | i + 1 => G.2.1 + i
def jv (G : jG) (v : Value) : Value := match v with
  | .ref i => .ref (jad G i)
  | v => v
theorem jv_cat (G : jG) (v : Value) : (jv G v).category = v.category := by cases v <;> rfl
def jAT (t : Nat) : Option FieldType := match t with
  | 20 => some .int
  | 21 => some .long
  | 22 => some .byte
  | 23 => some (.object RX1)
  | 24 => some (.object RX10)
  | 25 => some (.object RX3)
  | 26 => some (.array .long)
  | _ => none
def jcell (G : jG) (U : State) (a : Nat) (y : Nat × Nat) (f : Nat → Value) (H : Heap) : Prop :=
  (∃ r : vw_C, vwCl[y.1]? = some r ∧ y.2 = r.2.2 ∧ t_OB a (G.2.2.1 y.1) r.2.2 (G.2.2.2 y.1) H (fun k => jv G (f k))) ∨
  (∃ (ty : FieldType) (cell : Cell), jAT y.1 = some ty ∧ H[a]? = some cell ∧ cell.vm ≠ .unknown ∧ U.isArrayOf cell ty ∧ (∀ C, ty = .object C → va_RA U cell.cls ty) ∧ cell.slots.size = y.2 ∧ y.2 < 2 ^ 31 ∧ ∀ j, j < y.2 → cell.slots[j]? = some (jv G (f j)))
theorem jcell.kept {G : jG} {U : State} {a : Nat} {y : Nat × Nat} {f : Nat → Value} {H H1 : Heap} (h : jcell G U a y f H) (hq : H1[a]? = H[a]?) : jcell G U a y f H1 := by
  rcases h with ⟨r, h1, h2, h3⟩ | ⟨ty, cell, h1, h2, h3⟩
  · exact Or.inl ⟨r, h1, h2, h3.kept hq⟩
  · exact Or.inr ⟨ty, cell, h1, hq.trans h2, h3⟩
theorem jcell.moved {G : jG} {u U : State} {a : Nat} {y : Nat × Nat} {f : Nat → Value} {H : Heap} (hvm : u.vm.Alike U.vm) (h : jcell G u a y f H) : jcell G U a y f H := by
  rcases h with h | ⟨ty, cell, h1, h2, h3, h4, h5, h6⟩
  · exact Or.inl h
  · exact Or.inr ⟨ty, cell, h1, h2, h3, State.isArrayOf_alike hvm h4, fun C hC => (h5 C hC).moved hvm, h6⟩
theorem jcell.lt {G : jG} {U : State} {a : Nat} {y : Nat × Nat} {f : Nat → Value} {H : Heap} (h : jcell G U a y f H) : a < H.size := by
  rcases h with ⟨r, h1, h2, cell, h3, -⟩ | ⟨ty, cell, h1, h2, h3⟩
  · exact (Array.getElem?_eq_some_iff.mp h3).1
  · exact (Array.getElem?_eq_some_iff.mp h2).1
def jR (G : jG) (U : State) (n : Nat) (Y : jY) (μ : jM) (H : Heap) : Prop := H.size + 1 = G.2.1 + n ∧ G.1 < G.2.1 ∧ ∀ i, (Y i).1 ≠ 1000 → i < n ∧ jcell G U (jad G i) (Y i) (μ i) H
theorem jR.moved {G : jG} {u U : State} {n : Nat} {Y : jY} {μ : jM} {H : Heap} (hvm : u.vm.Alike U.vm) (h : jR G u n Y μ H) : jR G U n Y μ H := ⟨h.1, h.2.1, fun i hi => ⟨(h.2.2 i hi).1, (h.2.2 i hi).2.moved hvm⟩⟩
def jNest : List (String × Nat × MethodName × String) := [(RX11, 11, yX5_init, "ChainTables"), (RX11, 20, yX6_init, "ChainTables"), (RX11, 27, yX2_init, "ChainTables"), (RX3, 11, yX9_init, "ChainTables"), (RX3, 24, yX10_init, "ChainTables"), (RX11, 49, yX7_init, "ChainTables"), (RX8, 43, yX1_init, "ChainTables"), (RX11, 65, yX0_init, "ChainTables"), (RX0, 11, yX10_init, "ChainTables"), (RX11, 72, yX4_init, "ChainTables"), (RX11, 79, yX10_init, "ChainTables"), (RX11, 86, yX9_init, "ChainTables"), (RX11, 93, yX1_init, "ChainTables"), (RX5, 17, yX11_within, "ChainTables"), (RX6, 67, yX11_within, "ChainTables"), (RX8, 126, yX11_within, "ChainTables"), (RX2, 29, yX11_within, "ChainTables"), (RX9, 39, yX11_within, "ChainTables"), (RX10, 33, yX11_within, "ChainTables")]
/-- what the tables say of arrays of long[] -/
def jAOL (U : State) : Prop := (Cond.arrayOver (.array .long)).before #[] U = true
theorem jAOL_spec {U : State} (h : jAOL U) : ∃ comp c k, U.vm.findClass (FieldType.array .long).toString = some comp ∧ (U.vm.classes.findIdx? fun (x : Class) => match x.kind with | .array component _ => component == comp | _ => false) = some c ∧ U.vm.classes[c]? = some k ∧ k.kind = .array comp (.array .long) ∧ U.vm.findClass ("[" ++ (FieldType.array .long).toString) = some c := by
  simp only [jAOL, Cond.before, Cond.holds, Cond.value, beq_iff_eq] at h
  cases hc : U.vm.findClass (FieldType.array .long).toString with
  | none => simp [hc] at h
  | some comp =>
    simp only [hc, Option.bind_some, Option.bind_eq_some_iff, Option.map_eq_some_iff] at h
    obtain ⟨c, hi, k, hk, hb⟩ := h
    obtain ⟨hlt, hp, -⟩ := Array.findIdx?_eq_some_iff_getElem.mp hi
    have hkk : U.vm.classes[c] = k := (Array.getElem?_eq_some_iff.mp hk).2
    rw [hkk] at hp
    cases hkind : k.kind with
    | array component ty =>
      rw [hkind] at hb hp
      simp at hb hp
      exact ⟨comp, c, k, rfl, hi, hk, by rw [hkind, hp, hb.1], hb.2⟩
    | _ => rw [hkind] at hb; simp at hb
theorem jAOL.moved {u U : State} (hvm : u.vm.Alike U.vm) (h : jAOL u) : jAOL U := by
  obtain ⟨comp, c, k, h1, h2, h3, h4, h5⟩ := jAOL_spec h
  obtain ⟨k', hk', he⟩ := hvm.2.2 _ _ h3
  have hi : (U.vm.classes.findIdx? fun (x : Class) => match x.kind with | .array component _ => component == comp | _ => false) = some c := by
    have e1 := va_idx_bare U.vm comp
    have e2 := va_idx_bare u.vm comp
    first | rw [hvm.bare_eq] at e2 | rw [← hvm.bare_eq] at e2
    exact e1.symm.trans (e2.trans h2)
  have hkind : k'.kind = .array comp (.array .long) := by rw [he]; exact h4
  have f1 : U.vm.findClass (FieldType.array .long).toString = some comp := by rw [hvm.findClass]; exact h1
  have f2 : U.vm.findClass ("[" ++ (FieldType.array .long).toString) = some c := by rw [hvm.findClass]; exact h5
  unfold jAOL Cond.before Cond.holds
  simp only [Cond.value]
  rw [f1, Option.bind_some]
  refine (congrArg (fun o : Option Nat => (o.bind (fun c => (U.vm.classes[c]?).map fun (k : Class) => match k.kind with | .array _ ty => decide (ty = FieldType.array .long) && decide (U.vm.findClass ("[" ++ (FieldType.array .long).toString) = some c) | _ => false) == some true)) hi).trans ?_
  simp [hk', hkind, f2]
def jKn (U : State) : Prop := (∀ q ∈ jNest, va_Nw (.methodLinkNest q.1 q.2.1 q.2.2.1 q.2.2.2) U) ∧ va_AO RX1 U ∧ va_AO RX10 U ∧ va_AO RX3 U ∧ jAOL U
def jK (G : jG) (U : State) : Prop := (∀ (c : Nat) (q : vw_C), vwCl[c]? = some q → u_Kn U q.1 q.2.1 q.2.2 (G.2.2.1 c) (G.2.2.2 c)) ∧ jKn U
theorem jK.moved {G : jG} {u U : State} (hW : u.WarmedH U.vm) (h : jK G u) : jK G U := ⟨fun c q hq => u_Kn_moved hW.alike (h.1 c q hq), fun q hq => (h.2.1 q hq).warmM hW, h.2.2.1.moved hW.alike, h.2.2.2.1.moved hW.alike, h.2.2.2.2.1.moved hW.alike, h.2.2.2.2.2.moved hW.alike⟩
theorem jK.same {G : jG} {u U : State} (e : u.vm = U.vm) (h : jK G u) : jK G U := ⟨fun c q hq => u_Kn_moved (by rw [← e]; exact Vm.Alike.refl u.vm) (h.1 c q hq), fun q hq => (h.2.1 q hq).same rfl e, h.2.2.1.moved (by rw [← e]; exact Vm.Alike.refl u.vm), h.2.2.2.1.moved (by rw [← e]; exact Vm.Alike.refl u.vm), h.2.2.2.2.1.moved (by rw [← e]; exact Vm.Alike.refl u.vm), h.2.2.2.2.2.moved (by rw [← e]; exact Vm.Alike.refl u.vm)⟩
theorem jad_inj {G : jG} (hb : G.1 < G.2.1) {i j : Nat} (h : jad G i = jad G j) : i = j := by
  cases i with
  | zero =>
    cases j with
    | zero => rfl
    | succ j => simp only [jad] at h; omega
  | succ i =>
    cases j with
    | zero => simp only [jad] at h; omega
    | succ j => simp only [jad] at h; omega
theorem jad_pos {G : jG} {o : Nat} (ho : o ≠ 0) : G.2.1 ≤ jad G o := by
  cases o with
  | zero => exact absurd rfl ho
  | succ o => simp only [jad]; omega
/-- one place of one cell is another -/
def jw (μ : jM) (o k : Nat) (v : Value) : jM := fun i j => if i = o ∧ j = k then v else μ i j
theorem jw_same (μ : jM) (o k : Nat) (v : Value) : jw μ o k v o k = v := by simp [jw]
theorem jw_ne (μ : jM) {o k i j : Nat} (v : Value) (h : ¬ (i = o ∧ j = k)) : jw μ o k v i j = μ i j := by simp [jw, h]
theorem jR.write {G : jG} {U : State} {n : Nat} {Y : jY} {μ : jM} {H H' : Heap} {o k : Nat} {v : Value} (hR : jR G U n Y μ H) (z : H'.size = H.size) (oq : ∀ q : Nat, q ≠ jad G o → H'[q]? = H[q]?)
    (hc : jcell G U (jad G o) (Y o) (jw μ o k v o) H') : jR G U n Y (jw μ o k v) H' := by
  refine ⟨by rw [z]; exact hR.1, hR.2.1, fun i hi => ⟨(hR.2.2 i hi).1, ?_⟩⟩
  by_cases e : i = o
  · subst e; exact hc
  · have e2 : jw μ o k v i = μ i := by funext j; exact jw_ne μ v (fun q => e q.1)
    rw [e2]
    exact (hR.2.2 i hi).2.kept (oq _ (fun q => e (jad_inj hR.2.1 q)))
/-! the standing of a method's body, and the judgement -/
abbrev jX : Type := Program × Launch × Env × Room × State × MethodId × Array Value × List Frame × Method × Code × jG
def jLm (G : jG) (L : List (Nat × Value)) : List (Nat × Value) := L.map (fun q => (q.1, jv G q.2))
def JW (X : jX) (Q : State → Prop) (nc ns n : Nat) (Y : jY) (pc : Nat) (L : List (Nat × Value)) (st : List Value) (μ : jM) : Prop :=
  ∀ (H : Heap) (locs : List Loc) (ls : Array Slot), jR X.2.2.2.2.2.2.2.2.2.2 X.2.2.2.2.1 n Y μ H → (∀ z ∈ locs, X.2.2.2.2.2.2.2.2.2.2.2.1 ≤ z.base) → lv_has ls X.2.2.2.2.2.2.2.2.2.1.maxLocals (jLm X.2.2.2.2.2.2.2.2.2.2 L) →
    W X.1 X.2.1 X.2.2.1 X.2.2.2.1 X.2.2.2.2.1 X.2.2.2.2.2.1 X.2.2.2.2.2.2.1 X.2.2.2.2.2.2.2.1 X.2.2.2.2.2.2.2.2.1 X.2.2.2.2.2.2.2.2.2.1 H locs nc ns Q (F0 X.2.2.2.2.2.1 pc ls (st.map (jv X.2.2.2.2.2.2.2.2.2.2)))
def jOK (X : jX) (own : String) (cc : ByteArray) (nL : Nat) (ret : Option FieldType) (d : Nat) : Prop :=
  X.1.tables.exec = Jvm.exec ∧ X.2.2.2.2.2.2.2.2.2.1.code = cc ∧ X.2.2.2.2.2.2.2.2.2.1.maxLocals = nL ∧ X.2.2.2.2.1.vm.findClass own = some X.2.2.2.2.2.1.cls ∧ (∀ w ∈ jWT, w.before X.2.2.2.2.2.2.1 X.2.2.2.2.1 = true) ∧
  jK X.2.2.2.2.2.2.2.2.2.2 X.2.2.2.2.1 ∧ X.2.2.2.2.2.2.2.2.1.locks = false ∧ X.2.2.2.2.2.2.2.2.1.sig.returnType = ret ∧ d ≤ X.2.2.2.1.frames ∧ 64 * d ≤ X.2.2.2.1.locals
def jQ (G : jG) (n : Nat) (Y : jY) (v : Option Value) (μ : jM) : Array Value → State → Outcome → State → Prop := fun _ _ o t => o = .returned (v.map (jv G)) ∧ jR G t n Y μ t.heap
def jEnd (X : jX) (n : Nat) (Y : jY) (v : Option Value) (μ : jM) (mc ms : Nat) : State → Prop :=
  MQ X.2.2.2.2.2.2.2.1 (jQ X.2.2.2.2.2.2.2.2.2.2 n Y v μ) X.2.2.2.2.2.2.1 X.2.2.2.2.1 mc ms (fun q => X.2.2.2.2.2.2.2.2.2.2.2.1 ≤ q)
/-- A METHOD'S CONTRACT: from n cells Y, μ with arguments av it comes to n', Y', μ' with answer v, making mc cells of ms places -/
def jC (l : Launch) (y : MethodName) (cc : ByteArray) (nL : Nat) (ret : Option FieldType) (d mc ms : Nat) (av : List Value) (n : Nat) (Y : jY) (μ : jM) (n' : Nat) (Y' : jY) (v : Option Value) (μ' : jM) : Prop :=
  ∀ G : jG, Met l y (Cond.code y cc nL ret :: jWT) { frames := d, cells := mc, slots := ms, locals := 64 * d } (va_Pc (av.map (jv G)) (fun U => jK G U ∧ jR G U n Y μ U.heap)) (jQ G n' Y' v μ') mc ms (fun q => G.2.1 ≤ q)
theorem jargs_map (G : jG) : ∀ (i : Nat) (vs : List Value), lv_args i (vs.map (jv G)) = jLm G (lv_args i vs)
  | _, [] => rfl
  | i, v :: vs => by
    have h := jargs_map G (if v.category = 2 then i + 2 else i + 1) vs
    simp only [List.map_cons, lv_args, jv_cat, jLm] at h ⊢
    rw [h]
theorem jlg_len (G : jG) (vs : List Value) : (lg_sl (vs.map (jv G))).length = (lg_sl vs).length := by
  induction vs with
  | nil => rfl
  | cons v vs ih => cases v <;> simp_all [lg_sl, jv, Value.category]
theorem jC_of {l : Launch} {y : MethodName} {cc : ByteArray} {nL : Nat} {ret : Option FieldType} {d mc ms : Nat} {av : List Value} {n : Nat} {Y : jY} {μ : jM} {n' : Nat} {Y' : jY} {v : Option Value} {μ' : jM} (hy : plainName y.cls = true) (hlen : (lg_sl av).length ≤ nL)
    (body : ∀ X : jX, X.2.1 = l → jOK X y.cls cc nL ret d → X.2.2.2.1.cells = mc → X.2.2.2.1.slots = ms → (y.name = "<init>" → X.2.2.2.2.2.2.2.2.1.name = "<init>") → JW X (jEnd X n' Y' v μ' mc ms) 0 0 n Y 0 (lv_args 0 av) [] μ) : jC l y cc nL ret d mc ms av n Y μ n' Y' v μ' := by
  intro G
  refine Met.ofW (cc := cc) (maxL := nL) (ret := ret) (ws' := jWT) hy rfl ?_
  intro p e s m args below meth c s₁ B hml hv
  obtain ⟨rfl, hK, hR⟩ := hv
  have hts := atoms_spec (ws := Cond.code y cc nL ret :: jWT) B.pre
  have hown : s.vm.findClass y.cls = some m.cls := findClass_of_methodNamed B.named
  have hl := lv_entry (av.map (jv G)) (n := nL) (by rw [jlg_len]; exact hlen)
  rw [lg_entry_eq]
  generalize (lg_sl (av.map (jv G)) ++ List.replicate (nL - (lg_sl (av.map (jv G))).length) Slot.unset).toArray = ls at hl ⊢
  rw [jargs_map] at hl
  refine body (p, l, e, _, s, m, _, below, meth, c, G) rfl ⟨B.exec, B.bytes, hml, hown, fun w hw => hts w (List.mem_cons_of_mem _ hw), hK, B.notSynchronized, B.returns, Nat.le_refl _, Nat.le_refl _⟩ rfl rfl ?_ s.heap [] ls hR (fun _ h => by cases h) (by rw [hml]; exact hl)
  intro h
  have h2 := (name_of_methodNamed B.named B.method).1
  rw [← h]; exact h2
