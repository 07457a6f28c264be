/-! MULTI: the one array of arrays, six by six longs -/
def jY6 (Y : jY) (n : Nat) : jY := fun i => if i = n then (26, 6) else if n < i ∧ i < n + 7 then (21, 6) else Y i
def jM6 (μ : jM) (n : Nat) : jM := fun i => if i = n then (fun j => .ref (n + 1 + j)) else if n < i ∧ i < n + 7 then (fun _ => .long 0) else μ i
theorem jY6_lt {Y : jY} {n i : Nat} (h : i < n) : jY6 Y n i = Y i := by
  unfold jY6; rw [if_neg (by omega), if_neg (by omega)]
theorem jM6_lt {μ : jM} {n i : Nat} (h : i < n) : jM6 μ n i = μ i := by
  unfold jM6; rw [if_neg (by omega), if_neg (by omega)]
theorem jR.push7 {G : jG} {U : State} {n : Nat} {Y : jY} {μ : jM} {H H1 : Heap} (hR : jR G U n Y μ H) (hn : 0 < n) (z : H1.size = jad G n + 7) (old : ∀ q, q < jad G n → H1[q]? = H[q]?) (h0 : jcell G U (jad G n) (26, 6) (fun j => .ref (n + 1 + j)) H1)
    (hj : ∀ j, j < 6 → jcell G U (jad G n + 1 + j) (21, 6) (fun _ => .long 0) H1) : jR G U (n + 7) (jY6 Y n) (jM6 μ n) H1 := by
  have hz := jad_new hR hn
  refine ⟨?_, hR.2.1, fun i hi => ?_⟩
  · have h1 := hR.1
    omega
  · by_cases e : i = n
    · subst e
      have e1 : jY6 Y i i = (26, 6) := if_pos rfl
      have e2 : jM6 μ i i = fun j => .ref (i + 1 + j) := if_pos rfl
      rw [e1, e2]
      exact ⟨by omega, h0⟩
    · by_cases e3 : n < i ∧ i < n + 7
      · have e1 : jY6 Y n i = (21, 6) := by unfold jY6; rw [if_neg e, if_pos e3]
        have e2 : jM6 μ n i = fun _ => .long 0 := by unfold jM6; rw [if_neg e, if_pos e3]
        rw [e1, e2]
        have h := hj (i - n - 1) (by omega)
        have e4 : jad G n + 1 + (i - n - 1) = jad G i := by
          cases n with
          | zero => omega
          | succ n =>
            cases i with
            | zero => omega
            | succ i => simp only [jad]; omega
        rw [e4] at h
        exact ⟨e3.2, h⟩
      · have e1 : jY6 Y n i = Y i := by unfold jY6; rw [if_neg e, if_neg e3]
        have e2 : jM6 μ n i = μ i := by unfold jM6; rw [if_neg e, if_neg e3]
        rw [e1] at hi
        rw [e1, e2]
        obtain ⟨h1, h2⟩ := hR.2.2 i hi
        exact ⟨by omega, h2.kept (old _ (by rw [← hz]; exact h2.lt))⟩
section JMULTI
variable {E : CtlPost} {e : Env} {dd : Bool} {acts : List Action} {s : State}
/-- one row of the six -/
theorem jwp_inner {cB c2 : ClassId} {kB : Class} (hk : s.vm.classes[cB]? = some kB) (hkind : kB.kind = .array c2 .long) (hl : ¬ (6 : Int32).toNatClampNeg > e.platform.arrayLengthLimit) (hh : ¬ (6 : Int32).toNatClampNeg * componentBytes .long > e.platform.maxHeapBytes)
    (h1 : s.heap.size < e.platform.maxCells) (h2 : s.slotsUsed + (6 : Int32).toNatClampNeg ≤ e.platform.maxSlots) {Q : Addr → Pre} (hq : ∀ acts', Q s.heap.size dd acts' (s.pushCell { cls := cB, slots := Array.replicate (6 : Int32).toNatClampNeg (defaultValue .long) })) : wp (multianewarray.make cB [6]) Q E e dd acts s := by
  rw [multianewarray.make]
  simp only [wp_bind', W.ite, show ¬ ((6 : Int32) < 0) by decide, if_false, wp_pure', W.theClass, hk, hkind, Option.some.injEq, exists_eq_left']
  exact W.newArray_of hk hkind hl hh h1 h2 rfl hq
/-- all of it, by what holds of the state when i rows of the six are there -/
theorem jwp_multi {cA cB c2 : ClassId} {kA kB : Class} (I : Nat → State → Prop) (hk : s.vm.classes[cA]? = some kA) (hkind : kA.kind = .array cB (.array .long)) (hkB : s.vm.classes[cB]? = some kB) (hkindB : kB.kind = .array c2 .long)
    (hl : ¬ (6 : Int32).toNatClampNeg > e.platform.arrayLengthLimit) (hh4 : ¬ (6 : Int32).toNatClampNeg * componentBytes (.array .long) > e.platform.maxHeapBytes) (hh : ¬ (6 : Int32).toNatClampNeg * componentBytes .long > e.platform.maxHeapBytes)
    (h1 : s.heap.size < e.platform.maxCells) (h2 : s.slotsUsed + (6 : Int32).toNatClampNeg ≤ e.platform.maxSlots)
    (I0 : I 0 (s.pushCell { cls := cA, slots := Array.replicate (6 : Int32).toNatClampNeg .null }))
    (IS : ∀ i u, i < 6 → I i u → u.vm = s.vm ∧ u.heap.size < e.platform.maxCells ∧ u.slotsUsed + (6 : Int32).toNatClampNeg ≤ e.platform.maxSlots ∧ ∃ oc : Cell, (u.pushCell { cls := cB, slots := Array.replicate (6 : Int32).toNatClampNeg (defaultValue .long) }).heap[s.heap.size]? = some oc ∧ oc.cls = cA ∧ oc.vm = .none ∧ oc.slots.size = 6 ∧
      I (i + 1) ((u.pushCell { cls := cB, slots := Array.replicate (6 : Int32).toNatClampNeg (defaultValue .long) }).setCell s.heap.size (oc.setSlot i (.ref u.heap.size))))
    {Q : Addr → Pre} (hq : ∀ d' acts' u, I 6 u → Q s.heap.size d' acts' u) : wp (multianewarray.make cA [6, 6]) Q E e dd acts s := by
  have hfind : ([(6 : Int32)].find? (· < 0)) = none := by decide
  rw [multianewarray.make]
  simp only [wp_bind', W.ite, show ¬ ((6 : Int32) < 0) by decide, if_false, wp_pure', W.theClass, hk, hkind, Option.some.injEq, exists_eq_left']
  refine W.newArray_of hk hkind hl hh4 h1 h2 rfl (fun acts1 => ?_)
  simp only [hfind]
  rw [ite_self, wp_bind', Std.Legacy.Range.forIn_eq_forIn_range']
  have hsz : ([:(6 : Int32).toNatClampNeg] : Std.Legacy.Range).size = 6 := by decide
  rw [hsz]
  show wp (forIn (List.range' 0 6 1) PUnit.unit _) _ E e dd acts1 _
  refine wp_forIn_inv (fun rest s' => ∃ i, i ≤ 6 ∧ rest = List.range' i (6 - i) ∧ I i s') _ _ ⟨0, Nat.zero_le _, rfl, I0⟩ ?_ ?_
  · rintro x rest s' d' acts' Q' ⟨i, hi, hl2, hI⟩ hnext
    have hlt : i < 6 := by
      rcases Nat.lt_or_ge i 6 with h | h
      · exact h
      · rw [show 6 - i = 0 from by omega] at hl2; simp at hl2
    obtain ⟨rfl, hrest⟩ : x = i ∧ rest = List.range' (i + 1) (6 - (i + 1)) := by
      rw [show 6 - i = (6 - (i + 1)) + 1 from by omega, List.range'_succ] at hl2
      exact ⟨(List.cons.inj hl2).1, (List.cons.inj hl2).2⟩
    obtain ⟨v1, v2, v3, oc, o1, o2, o3, o4, hI'⟩ := IS x s' hlt hI
    simp only [wp_bind']
    refine jwp_inner (by rw [v1]; exact hkB) hkindB hl hh v2 v3 (fun acts2 => ?_)
    simp only [wp_bind', W.writeLoc, wp_pure']
    refine ⟨oc, o1, by rw [o3]; simp, by rw [o4]; exact hlt, ?_, hnext _ _ _ ⟨x + 1, hlt, hrest, hI'⟩⟩
    rw [o2, o3]
    simp [State.fitsSlot, State.slotType?, v1, hk, hkind, fits]
  · rintro s' d' acts' ⟨i, hi, hl2, hI⟩
    have hiN : i = 6 := by
      rcases Nat.lt_or_ge i 6 with h | h
      · rw [show 6 - i = (6 - (i + 1)) + 1 from by omega, List.range'_succ] at hl2; cases hl2
      · omega
    subst hiN
    simp only [wp_pure']
    exact hq _ _ _ hI
end JMULTI
/-- the states behind: with i of the six rows -/
def jU (T : State) (cA cB : ClassId) : Nat → State
  | 0 => T.pushCell (arrV cA 6 (fun _ => .null))
  | i + 1 => ((jU T cA cB i).pushCell (arrV cB 6 (fun _ => .long 0))).setCell T.heap.size (arrV cA 6 (fun j => if j < i + 1 then .ref (T.heap.size + 1 + j) else .null))
theorem jU_setTop (T : State) (f : JFrame) (cA cB : ClassId) : ∀ i, jU (T.setTop f) cA cB i = (jU T cA cB i).setTop f
  | 0 => rfl
  | i + 1 => by simp only [jU, jU_setTop T f cA cB i, State.heap_setTop, State.pushCell_setTop, State.setCell_setTop]
theorem jU_facts {p : Program} {l : Launch} {e : Env} {R : Room} {s : State} {m : MethodId} {args : Array Value} {below : List Frame} {meth : Method} {c : Code} {T : State} {locs : List Loc} {nc ns b : Nat} (X : Stand p l e R s m args below meth c T locs nc ns) (hf : ∀ z ∈ locs, b ≤ z.base) (hb : b ≤ T.heap.size) (cA cB : ClassId) :
    ∀ i, i ≤ 6 → (∃ locs', Stand p l e R s m args below meth c (jU T cA cB i) locs' (nc + 1 + i) (ns + 6 + 6 * i) ∧ ∀ z ∈ locs', b ≤ z.base) ∧ (jU T cA cB i).vm = T.vm ∧ (jU T cA cB i).heap.size = T.heap.size + 1 + i ∧ (∀ q, q < T.heap.size → (jU T cA cB i).heap[q]? = T.heap[q]?) ∧
      (jU T cA cB i).heap[T.heap.size]? = some (arrV cA 6 (fun j => if j < i then .ref (T.heap.size + 1 + j) else .null)) ∧ ∀ j, j < i → (jU T cA cB i).heap[T.heap.size + 1 + j]? = some (arrV cB 6 (fun _ => .long 0)) := by
  intro i
  induction i with
  | zero =>
    intro _
    refine ⟨⟨locs, ?_, hf⟩, rfl, by simp [jU], fun q hq => State.heap_pushCell_of_lt _ _ hq, ?_, fun j hj => absurd hj (Nat.not_lt_zero _)⟩
    · have h := X.pushed (arrV cA 6 (fun _ => .null))
      rw [arrV_size] at h
      exact h
    · show (T.pushCell _).heap[_]? = _
      rw [State.heap_pushCell_size]
      simp
  | succ i ih =>
    intro hi
    obtain ⟨⟨locs', X1, hf1⟩, v1, z1, o1, a1, n1⟩ := ih (by omega)
    have hlt : T.heap.size < (jU T cA cB i).heap.size := by rw [z1]; omega
    have X2 := X1.pushed (arrV cB 6 (fun _ => .long 0))
    rw [arrV_size] at X2
    have hc : ((jU T cA cB i).pushCell (arrV cB 6 (fun _ => .long 0))).heap[T.heap.size]? = some (arrV cA 6 (fun j => if j < i then .ref (T.heap.size + 1 + j) else .null)) := by rw [State.heap_pushCell_of_lt (h := hlt)]; exact a1
    have X3 := X2.stored hc i (.ref (T.heap.size + 1 + i))
    have e1 : (arrV cA 6 (fun j => if j < i then .ref (T.heap.size + 1 + j) else .null)).setSlot i (.ref (T.heap.size + 1 + i)) = arrV cA 6 (fun j => if j < i + 1 then .ref (T.heap.size + 1 + j) else .null) := by
      rw [arrV_store]
      congr 1
      funext j
      unfold updV
      by_cases h : j = i
      · subst h
        rw [if_pos rfl, if_pos (Nat.lt_succ_self _)]
      · rw [if_neg h]
        show (if j < i then Value.ref (T.heap.size + 1 + j) else Value.null) = _
        by_cases h2 : j < i
        · rw [if_pos h2, if_pos (by omega)]
        · rw [if_neg h2, if_neg (by omega)]
    rw [e1] at X3
    have X4 : Stand p l e R s m args below meth c (jU T cA cB (i + 1)) (locs' ++ [⟨T.heap.size, i⟩]) (nc + 1 + (i + 1)) (ns + 6 + 6 * (i + 1)) := by
      have e3 : nc + 1 + i + 1 = nc + 1 + (i + 1) := by omega
      have e4 : ns + 6 + 6 * i + 6 = ns + 6 + 6 * (i + 1) := by omega
      rw [e3, e4] at X3
      exact X3
    refine ⟨⟨_, X4, ?_⟩, v1, ?_, ?_, ?_, ?_⟩
    · intro z hz
      rcases List.mem_append.mp hz with h | h
      · exact hf1 z h
      · rw [List.mem_singleton.mp h]; exact hb
    · show (((jU T cA cB i).pushCell _).setCell _ _).heap.size = _
      rw [size_setCell]
      simp [z1]; omega
    · intro q hq
      show (((jU T cA cB i).pushCell _).setCell _ _).heap[q]? = _
      have hq2 : q < (jU T cA cB i).heap.size := by rw [z1]; omega
      rw [State.heap_setCell_other (Nat.ne_of_gt hq), State.heap_pushCell_of_lt (h := hq2)]
      exact o1 q hq
    · show (((jU T cA cB i).pushCell _).setCell _ _).heap[_]? = _
      exact State.heap_setCell_self hc
    · intro j hj
      show (((jU T cA cB i).pushCell _).setCell _ _).heap[_]? = _
      rw [State.heap_setCell_other (show T.heap.size ≠ T.heap.size + 1 + j by omega)]
      by_cases h : j = i
      · subst h
        rw [← z1]
        exact State.heap_pushCell_size _ _
      · have hq2 : T.heap.size + 1 + j < (jU T cA cB i).heap.size := by rw [z1]; omega
        rw [State.heap_pushCell_of_lt (h := hq2)]
        exact n1 j (by omega)
theorem jOC_step (cA : ClassId) (h0 i : Nat) : (arrV cA 6 (fun j => if j < i then .ref (h0 + 1 + j) else .null)).setSlot i (.ref (h0 + 1 + i)) = arrV cA 6 (fun j => if j < i + 1 then .ref (h0 + 1 + j) else .null) := by
  rw [arrV_store]
  congr 1
  funext j
  unfold updV
  by_cases h : j = i
  · subst h
    rw [if_pos rfl, if_pos (Nat.lt_succ_self _)]
  · rw [if_neg h]
    show (if j < i then Value.ref (h0 + 1 + j) else Value.null) = _
    by_cases h2 : j < i
    · rw [if_pos h2, if_pos (by omega)]
    · rw [if_neg h2, if_neg (by omega)]
theorem jU_step (T : State) (cA cB : ClassId) (i : Nat) (hz : (jU T cA cB i).heap.size = T.heap.size + 1 + i) : ((jU T cA cB i).pushCell (arrV cB 6 (fun _ => .long 0))).setCell T.heap.size ((arrV cA 6 (fun j => if j < i then .ref (T.heap.size + 1 + j) else .null)).setSlot i (.ref (jU T cA cB i).heap.size)) = jU T cA cB (i + 1) := by
  rw [hz, jOC_step]
  rfl
section JMULTI2
variable {X : jX} {Q : State → Prop} {nc ns n : Nat} {Y : jY} {own : String} {cc : ByteArray} {nL : Nat} {ret : Option FieldType} {d pc : Nat} {L : List (Nat × Value)} {st : List Value} {μ : jM}
set_option maxHeartbeats 2000000 in
theorem r_multi (K : jOK X own cc nL ret d) {index : Nat} (hlk : Cond.classLink own index "[[J" ∈ jWT) (hA : Cond.arrayClass .long ∈ jWT) (hn : 0 < n) (hdg : decode cc pc = .ok (.multianewarray index 2, 4)) (hrm : nc + 7 ≤ X.2.2.2.1.cells ∧ ns + 42 ≤ X.2.2.2.1.slots)
    (kk : JW X Q (nc + 7) (ns + 42) (n + 7) (jY6 Y n) (pc + 4) L (.ref n :: st) (jM6 μ n)) : JW X Q nc ns n Y pc L (.int 6 :: .int 6 :: st) μ := by
  intro H locs ls hR hf hL
  obtain ⟨p, l, e, R, s, m, args, below, meth, c, G⟩ := X
  obtain ⟨k1, k2, k3, k4, k5, k6, k7, k8, k9, k10⟩ := K
  dsimp only at k1 k2 k3 k4 k5 k6 k7 k8 k9 k10 hR hf hL hrm
  intro T hT X0
  replace X0 : Stand p l e R s m args below meth c T locs nc ns := X0
  have hz := jad_new hR hn
  have hpl : e.platform.magicAccessors = ({} : Platform).magicAccessors := by rw [X0.admits.platform]
  obtain ⟨comp, cA, kA, hcomp, hidx, hkA, hkindA, hnameA⟩ := jAOL_spec k6.2.2.2.2.2
  obtain ⟨comp', kC, c2, hcomp', hkC, hkindC⟩ := Cond.arrayClass_spec (k5 _ hA)
  have ecomp : comp' = comp := Option.some.inj (hcomp'.symm.trans hcomp)
  subst ecomp
  obtain ⟨c0, hfc0, hcl⟩ := Cond.classLink_spec k4 (k5 _ hlk) e.platform hpl
  cases (show s.vm.findClass "[[J" = some cA from hnameA).symm.trans hfc0
  obtain ⟨hg₁, hwarm₁, hready₁⟩ := State.classEntry (e := e) X0.warmed hcl
  generalize T.vm.noted m.cls index (.cls cA) = vm₁ at hg₁ hwarm₁ hready₁
  have hal : s.vm.Alike vm₁ := hwarm₁.alike
  obtain ⟨kA₁, hkA₁, heA⟩ := hal.2.2 _ _ hkA
  obtain ⟨kC₁, hkC₁, heC⟩ := hal.2.2 _ _ hkC
  have hkindA₁ : kA₁.kind = .array comp' (.array .long) := by rw [heA]; exact hkindA
  have hkindC₁ : kC₁.kind = .array c2 .long := by rw [heC]; exact hkindC
  have X₁ := X0.noted hwarm₁
  have e6 : (6 : Int32).toNatClampNeg = 6 := by decide
  have hl1 : ¬ (6 : Int32).toNatClampNeg > e.platform.arrayLengthLimit := by rw [Launch.admits_arrayLengthLimit X0.admits, e6]; omega
  have hh1 : ¬ (6 : Int32).toNatClampNeg * componentBytes (.array .long) > e.platform.maxHeapBytes := by
    rw [Launch.admits_maxHeapBytes X0.admits, e6]; show ¬ 6 * 4 > 536870912; omega
  have hh2 : ¬ (6 : Int32).toNatClampNeg * componentBytes .long > e.platform.maxHeapBytes := by
    rw [Launch.admits_maxHeapBytes X0.admits, e6]; show ¬ 6 * 8 > 536870912; omega
  obtain ⟨hr1, hr2⟩ := X0.roomAbove (a := 7) (b := 42) hrm.1 hrm.2
  have hb : decode c.code pc = .ok (.multianewarray index 2, 4) := by rw [k2]; exact hdg
  have hTz : (T.setVm vm₁).heap.size = H.size := by show T.heap.size = _; rw [hT]
  have hbz : G.2.1 ≤ (T.setVm vm₁).heap.size := by rw [hTz, hz]; exact jad_pos (by omega)
  have F := jU_facts (b := G.2.1) X₁ hf hbz cA comp'
  obtain ⟨⟨locs6, X6, hf6⟩, w1, w2, w3, w4, w5⟩ := F 6 (Nat.le_refl _)
  have hR' : jR G s (n + 7) (jY6 Y n) (jM6 μ n) (jU (T.setVm vm₁) cA comp' 6).heap := by
    refine hR.push7 hn (by rw [w2, hTz, hz]) (fun q hq => ?_) (Or.inr ⟨.array .long, _, rfl, by rw [← hz, ← hTz]; exact w4, fun h => (by cases h), ⟨fun x h => (by cases h), kA, hkA, comp', hkindA⟩, fun C hC => (by cases hC), arrV_size _ _ _, Nat.le_of_ble_eq_true rfl, fun j hj => ?_⟩) (fun j hj => ?_)
    · rw [w3 q (by rw [hTz, hz]; exact hq)]
      show T.heap[q]? = _
      rw [hT]
    · rw [arrV_read _ _ hj, if_pos hj]
      show some (Value.ref (T.heap.size + 1 + j)) = some (.ref (jad G (n + 1 + j)))
      have : T.heap.size + 1 + j = jad G (n + 1 + j) := by
        rw [hT, hz]
        cases n with
        | zero => omega
        | succ n => rw [show n + 1 + 1 + j = (n + 1 + j) + 1 from by omega]; simp only [jad]; omega
      rw [this]
    · refine Or.inr ⟨.long, _, rfl, by rw [← hz, ← hTz]; exact w5 j hj, fun h => (by cases h), ⟨fun x h => (by cases h), kC, hkC, c2, hkindC⟩, fun C hC => (by cases hC), arrV_size _ _ _, Nat.le_of_ble_eq_true rfl, fun i hi => ?_⟩
      rw [arrV_read _ _ hi]
      rfl
  obtain ⟨t, hst, hQ⟩ := kk _ locs6 ls hR' hf6 hL _ rfl X6
  refine ⟨t, ?_, hQ⟩
  have hst2 : Steps p.tables e below ((jU (T.setVm vm₁) cA comp' 6).setTop (F0 m (pc + 4) ls (.ref T.heap.size :: st.map (jv G)))) t := by
    have h := hst
    have e7 : (List.map (jv G) (.ref n :: st)) = .ref T.heap.size :: st.map (jv G) := by
      have e8 : jv G (.ref n) = Value.ref T.heap.size := by
        show Value.ref (jad G n) = Value.ref T.heap.size
        rw [hT, hz]
      rw [List.map_cons, e8]
    rw [e7] at h
    exact h
  show Steps p.tables e below (T.setTop (F0 m pc ls (.int 6 :: .int 6 :: st.map (jv G)))) t
  generalize hg0 : F0 m pc ls (.int 6 :: .int 6 :: st.map (jv G)) = g0
  have hgm : g0.method = m := by rw [← hg0]
  have hgs : g0.stack = .int 6 :: .int 6 :: st.map (jv G) := by rw [← hg0]
  have hgp : g0.pc = pc := by rw [← hg0]
  have hst3 : Steps p.tables e below ((jU (T.setVm vm₁) cA comp' 6).setTop { g0 with pc := g0.pc + 4, stack := .ref T.heap.size :: st.map (jv G) }) t := by
    rw [← hg0]
    exact hst2
  clear hst hst2 kk
  have hdg0 : decode c.code g0.pc = .ok (.multianewarray index 2, 4) := by rw [hgp]; exact hb
  subst hgm
  jvm_step X0.here [k1, hdg0]
  simp only [multianewarray.sem, wp_bind', W.resolveClassAt_links (State.method?_setTop g0 X0.here.top) hg₁]
  rw [W.popN, if_neg (by decide)]
  refine ⟨g0, State.topJava?_setTop' (s := T.setVm vm₁) g0 X0.here.top, [.int 6, .int 6], st.map (jv G), rfl, hgs, ?_⟩
  simp only [List.mapM_cons, List.mapM_nil, wp_bind', wp_pure']
  have eS : ((T.setTop g0).setVm vm₁).setTop { g0 with stack := st.map (jv G) } = (T.setVm vm₁).setTop { g0 with stack := st.map (jv G) } := by
    show ((T.setVm vm₁).setTop g0).setTop _ = _
    rw [State.setTop_setTop]
  rw [eS]
  refine jwp_multi (kA := kA₁) (kB := kC₁) (cB := comp') (c2 := c2) (I := fun i u => i ≤ 6 ∧ u = (jU (T.setVm vm₁) cA comp' i).setTop { g0 with stack := st.map (jv G) }) hkA₁ hkindA₁ hkC₁ hkindC₁ hl1 hh1 hh2 (by show T.heap.size < e.platform.maxCells; omega) (by show T.slotsUsed + (6 : Int32).toNatClampNeg ≤ e.platform.maxSlots; rw [e6]; omega) ⟨Nat.zero_le _, ?_⟩ (fun i u hi hu => ?_) (fun d' acts' u hu => ?_)
  · rw [← jU_setTop, e6, arrV_new]
    rfl
  · obtain ⟨-, rfl⟩ := hu
    obtain ⟨⟨locs', Xi, -⟩, y1, y2, y3, y4, y5⟩ := F i (by omega)
    obtain ⟨q1, q2⟩ := Xi.roomAbove (a := 1) (b := 6) (by show nc + 1 + i + 1 ≤ R.cells; have := hrm.1; omega) (by show ns + 6 + 6 * i + 6 ≤ R.slots; have := hrm.2; omega)
    have hlt3 : (T.setVm vm₁).heap.size < (jU (T.setVm vm₁) cA comp' i).heap.size := by rw [y2]; omega
    refine ⟨y1, by show (jU (T.setVm vm₁) cA comp' i).heap.size < e.platform.maxCells; omega, by show (jU (T.setVm vm₁) cA comp' i).slotsUsed + (6 : Int32).toNatClampNeg ≤ e.platform.maxSlots; rw [e6]; exact q2, arrV cA 6 (fun j => if j < i then .ref ((T.setVm vm₁).heap.size + 1 + j) else .null), ?_, rfl, rfl, arrV_size _ _ _, by omega, ?_⟩
    · show ((jU (T.setVm vm₁) cA comp' i).pushCell _).heap[(T.setVm vm₁).heap.size]? = _
      rw [State.heap_pushCell_of_lt (h := hlt3)]
      exact y4
    · rw [e6, arrV_new]
      simp only [State.pushCell_setTop, State.setCell_setTop, State.heap_setTop]
      have e10 : (fun _ : Nat => defaultValue FieldType.long) = fun _ => Value.long 0 := rfl
      rw [e10, jU_step _ _ _ _ y2]
  · obtain ⟨-, rfl⟩ := hu
    simp only [wp_bind', W.mark, W.pushRef, State.topJava?_setTop' _ X6.here.top, Option.some.injEq, exists_eq_left', State.setTop_setTop, State.heap_setTop]
    intro acts
    simp [jvm, X6.here.top]
    exact hst3
end JMULTI2
