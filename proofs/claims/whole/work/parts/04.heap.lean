/-! ROWS of the heap: fields, arrays, calls -/
/-- an index that is in range, as a number -/
def jix (i : Int32) (n : Nat) : Option Nat := if 0 ≤ i.toInt ∧ i.toInt < n then some i.toInt.toNat else none
theorem jix_some {i : Int32} {n k : Nat} (h : jix i n = some k) : ¬ (i < 0 ∨ n ≤ i.toNatClampNeg) ∧ i.toNatClampNeg = k ∧ k < n := by
  unfold jix at h
  split at h
  · rename_i hc
    have hk := Option.some.inj h
    have e : i.toNatClampNeg = i.toInt.toNat := rfl
    refine ⟨?_, by rw [e]; exact hk, by omega⟩
    rintro (h1 | h1)
    · rw [Int32.lt_iff_toInt_lt, Int32.toInt_zero] at h1
      omega
    · rw [e] at h1
      omega
  · cases h
theorem jAT_lt : ∀ t, t < 13 → jAT t = none := by decide
theorem jobj {G : jG} {U : State} {n : Nat} {Y : jY} {μ : jM} {H : Heap} (hR : jR G U n Y μ H) {ci o N : Nat} {C : String} {T : u_T} (hc : vwCl[ci]? = some (C, T, N)) (ho : (Y o).1 = ci) : t_OB (jad G o) (G.2.2.1 ci) N (G.2.2.2 ci) H (fun k => jv G (μ o k)) := by
  have hl : ci < 13 := (List.getElem?_eq_some_iff.mp hc).1
  obtain ⟨-, hcell⟩ := hR.2.2 o (by omega)
  rcases hcell with ⟨r, h1, h2, h3⟩ | ⟨ty, cell, h1, -⟩
  · rw [ho, hc] at h1
    cases h1
    rw [ho] at h3
    exact h3
  · rw [jAT_lt _ (by omega)] at h1
    cases h1
theorem jarr {G : jG} {U : State} {n : Nat} {Y : jY} {μ : jM} {H : Heap} (hR : jR G U n Y μ H) {o t : Nat} {ty : FieldType} (ht : jAT t = some ty) (ho : (Y o).1 = t) :
    ∃ cell : Cell, H[jad G o]? = some cell ∧ cell.vm ≠ .unknown ∧ U.isArrayOf cell ty ∧ (∀ C, ty = .object C → va_RA U cell.cls ty) ∧ cell.slots.size = (Y o).2 ∧ (Y o).2 < 2 ^ 31 ∧ ∀ j, j < (Y o).2 → cell.slots[j]? = some (jv G (μ o j)) := by
  have hne : (Y o).1 ≠ 1000 := by
    intro q
    rw [ho] at q
    rw [q] at ht
    cases ht
  obtain ⟨-, hcell⟩ := hR.2.2 o hne
  rcases hcell with ⟨r, h1, h2, h3⟩ | ⟨ty', cell, h1, h2⟩
  · have hl : (Y o).1 < 13 := (List.getElem?_eq_some_iff.mp h1).1
    rw [← ho, jAT_lt _ hl] at ht
    cases ht
  · rw [ho, ht] at h1
    cases h1
    exact ⟨cell, h2⟩
theorem jslot (cell : Cell) (k : Nat) (v : Value) (hk : k < cell.slots.size) (j : Nat) : (cell.setSlot k v).slots[j]? = if j = k then some v else cell.slots[j]? := by
  show (cell.slots.setIfInBounds k v)[j]? = _
  by_cases h : j = k
  · subst h
    rw [if_pos rfl, Array.getElem?_setIfInBounds_self_of_lt hk]
  · rw [if_neg h, Array.getElem?_setIfInBounds_ne (Ne.symm h)]
theorem jstore {G : jG} {U : State} {n : Nat} {Y : jY} {μ : jM} {H H1 : Heap} (hR : jR G U n Y μ H) {o t k : Nat} {ty : FieldType} {cell : Cell} {v : Value} (ht : jAT t = some ty) (ho : (Y o).1 = t) (h1 : H[jad G o]? = some cell) (h2 : cell.vm ≠ .unknown) (h3 : U.isArrayOf cell ty) (h4 : ∀ C, ty = .object C → va_RA U cell.cls ty) (h5 : cell.slots.size = (Y o).2)
    (h6 : (Y o).2 < 2 ^ 31) (h7 : ∀ j, j < (Y o).2 → cell.slots[j]? = some (jv G (μ o j))) (hk : k < (Y o).2) (e : H1[jad G o]? = some (cell.setSlot k (jv G v))) (z : H1.size = H.size) (oq : ∀ q, q ≠ jad G o → H1[q]? = H[q]?) : jR G U n Y (jw μ o k v) H1 := by
  refine hR.write z oq (Or.inr ⟨ty, _, by rw [ho]; exact ht, e, h2, h3, h4, ?_, h6, fun j hj => ?_⟩)
  · show (cell.slots.setIfInBounds k _).size = _
    rw [Array.size_setIfInBounds]; exact h5
  · rw [jslot cell k _ (by rw [h5]; exact hk)]
    by_cases h : j = k
    · subst h
      rw [if_pos rfl, jw_same]
    · rw [if_neg h, jw_ne μ v (fun q => h q.2)]
      exact h7 j hj
section JHEAP
variable {X : jX} {Q : State → Prop} {nc ns n : Nat} {Y : jY} {own : String} {cc : ByteArray} {nL : Nat} {ret : Option FieldType} {d pc : Nat} {L : List (Nat × Value)} {st : List Value} {μ : jM}
theorem r_get (K : jOK X own cc nL ret d) {ci : Nat} {C : String} {T : u_T} {N : Nat} (hc : vwCl[ci]? = some (C, T, N)) (hin : ∀ w ∈ u_ws C T N, w ∈ jWT) (k : Nat) (hk : k < N) {index o : Nat} {v : Value} (hw : Cond.fieldLink own index (T k).1 (T k).2.1 (T k).2.2.1 ∈ jWT)
    (ho : (Y o).1 = ci) (hv : μ o k = v) (hdg : decode cc pc = .ok (.getfield index, 3)) (kk : JW X Q nc ns n Y (pc + 3) L (v :: st) μ) : JW X Q nc ns n Y pc L (.ref o :: st) μ := by
  intro H locs ls hR hf hL
  obtain ⟨cell, q1, q2, q3, q4⟩ := jobj hR hc ho
  obtain ⟨hS, hfc, kC, hkC, hkind⟩ := K.2.2.2.2.2.1.1 ci _ hc
  obtain ⟨cf, kf, fi, f, hi, hsl⟩ := hS k hk
  refine W.getf K.1 K.2.1 K.2.2.2.1 (K.2.2.2.2.1 _ hw) hi (u_facts hfc hkC (u_lays K.2.2.2.2.1 hin hk) hi).1 q1 (by rw [q3]; exact fun h => by cases h) (v := jv X.2.2.2.2.2.2.2.2.2.2 v) ?_ rfl rfl hdg (kk H locs ls hR hf hL)
  rw [hsl, q4 k hk, ← hv]
theorem r_put (K : jOK X own cc nL ret d) {ci : Nat} {C : String} {T : u_T} {N : Nat} (hc : vwCl[ci]? = some (C, T, N)) (hin : ∀ w ∈ u_ws C T N, w ∈ jWT) {tyf : Nat → FieldType} (hty : ∀ k, k < N → parseFieldDescriptor (T k).2.2.1 = some (tyf k)) (hnm : ∀ a, a < N → ∀ b, b < N → a ≠ b → (T a).2.1 ≠ (T b).2.1) (k : Nat) (hk : k < N) {index o : Nat} {v : Value} (hw : Cond.fieldLink own index (T k).1 (T k).2.1 (T k).2.2.1 ∈ jWT)
    (hfin : (T k).2.2.2 = false) (hn : ∀ G, narrow (tyf k) (jv G v) = jv G v) (hfit : ∀ G, fits (tyf k) (jv G v) = true) (ho0 : o ≠ 0) (ho : (Y o).1 = ci) (hdg : decode cc pc = .ok (.putfield index, 3)) (kk : JW X Q nc ns n Y (pc + 3) L st (jw μ o k v)) : JW X Q nc ns n Y pc L (v :: .ref o :: st) μ := by
  intro H locs ls hR hf hL
  have hap := va_apart (D := X.2.2.2.2.2.2.2.2.2.2.2.2) (cl := vwCl) (tys := []) (own := own) K.2.2.2.2.1 hin tyf hty hnm ⟨K.2.2.2.2.2.1.1, fun k q h => by simp at h⟩ hc
  obtain ⟨cell, q1, q2, q3, q4⟩ := jobj hR hc ho
  obtain ⟨hS, hfc, kC, hkC, hkind⟩ := K.2.2.2.2.2.1.1 ci _ hc
  obtain ⟨cf, kf, fi, f, hi, hsl⟩ := hS k hk
  have hlay := K.2.2.2.2.1 _ (hin _ (u_in_lay hk))
  unfold u_lay at hlay
  rw [if_neg (by rw [hfin]; decide)] at hlay
  have hst := (u_facts hfc hkC (u_lays K.2.2.2.2.1 hin hk) hi).1
  have h6 := u_store hfc hkC hkind hlay hi (hty k hk) (hn X.2.2.2.2.2.2.2.2.2.2) (hfit X.2.2.2.2.2.2.2.2.2.2)
  refine W.putK K.1 K.2.1 (f := f) ⟨K.2.2.2.1, K.2.2.2.2.1 _ hw, ⟨_, _, _, hi⟩, hst⟩ (by rw [q2]; exact h6) q1 q3 (by rw [hsl]; exact k2_hasslot (q4 k hk)) rfl rfl hdg fun H' e1 e2 e3 => ?_
  rw [hsl] at e1 ⊢
  refine kk H' _ ls (hR.write e2 e3 (Or.inl ⟨(C, T, N), by rw [ho]; exact hc, ?_, ?_⟩)) ?_ hL
  · have hl : ci < 13 := (List.getElem?_eq_some_iff.mp hc).1
    obtain ⟨-, hcell⟩ := hR.2.2 o (by omega)
    rcases hcell with ⟨r, h1, h2, h3⟩ | ⟨ty, cell, h1, -⟩
    · rw [ho, hc] at h1
      cases h1
      exact h2
    · rw [jAT_lt _ (by omega)] at h1
      cases h1
  · rw [ho]
    refine t_OB.to (V := updV (fun j => jv X.2.2.2.2.2.2.2.2.2.2 (μ o j)) k (jv X.2.2.2.2.2.2.2.2.2.2 v)) ⟨_, e1, q2, q3, t_set q4 hap hk _⟩ (fun j hj => ?_)
    unfold updV
    by_cases h : j = k
    · subst h
      rw [if_pos rfl, jw_same]
    · rw [if_neg h, jw_ne μ v (fun q => h q.2)]
  · intro z hz
    rcases List.mem_append.mp hz with h | h
    · exact hf z h
    · rw [List.mem_singleton.mp h]
      exact jad_pos ho0
theorem jlocs {base a k : Nat} {locs : List Loc} (hf : ∀ z ∈ locs, base ≤ z.base) (ha : base ≤ a) : ∀ z ∈ locs ++ [⟨a, k⟩], base ≤ z.base := by
  intro z hz
  rcases List.mem_append.mp hz with h | h
  · exact hf z h
  · rw [List.mem_singleton.mp h]
    exact ha
theorem r_iald (K : jOK X own cc nL ret d) {o k : Nat} {i : Int32} {v : Value} (ho : (Y o).1 = 20) (hi : jix i (Y o).2 = some k) (hv : μ o k = v) (hdg : decode cc pc = .ok (.iaload, 1)) (kk : JW X Q nc ns n Y (pc + 1) L (v :: st) μ) : JW X Q nc ns n Y pc L (.int i :: .ref o :: st) μ := by
  intro H locs ls hR hf hL
  obtain ⟨cell, h1, h2, h3, h4, h5, h6, h7⟩ := jarr hR (t := 20) rfl ho
  obtain ⟨i1, i2, i3⟩ := jix_some hi
  exact W.iald K.1 K.2.1 h1 h3 h2 (by rw [h5]; exact i1) (by rw [i2, h7 k i3, hv]) rfl rfl hdg (kk H locs ls hR hf hL)
theorem r_lald (K : jOK X own cc nL ret d) {o k : Nat} {i : Int32} {v : Value} (ho : (Y o).1 = 21) (hi : jix i (Y o).2 = some k) (hv : μ o k = v) (hdg : decode cc pc = .ok (.laload, 1)) (kk : JW X Q nc ns n Y (pc + 1) L (v :: st) μ) : JW X Q nc ns n Y pc L (.int i :: .ref o :: st) μ := by
  intro H locs ls hR hf hL
  obtain ⟨cell, h1, h2, h3, h4, h5, h6, h7⟩ := jarr hR (t := 21) rfl ho
  obtain ⟨i1, i2, i3⟩ := jix_some hi
  exact W.lald K.1 K.2.1 h1 h3 h2 (by rw [h5]; exact i1) (by rw [i2, h7 k i3, hv]) rfl rfl hdg (kk H locs ls hR hf hL)
theorem r_bald (K : jOK X own cc nL ret d) {o k : Nat} {i : Int32} {v : Value} (ho : (Y o).1 = 22) (hi : jix i (Y o).2 = some k) (hv : μ o k = v) (hdg : decode cc pc = .ok (.baload, 1)) (kk : JW X Q nc ns n Y (pc + 1) L (v :: st) μ) : JW X Q nc ns n Y pc L (.int i :: .ref o :: st) μ := by
  intro H locs ls hR hf hL
  obtain ⟨cell, h1, h2, h3, h4, h5, h6, h7⟩ := jarr hR (t := 22) rfl ho
  obtain ⟨i1, i2, i3⟩ := jix_some hi
  exact W.bald K.1 K.2.1 h1 h3 h2 (by rw [h5]; exact i1) (by rw [i2, h7 k i3, hv]) rfl rfl hdg (kk H locs ls hR hf hL)
theorem r_aald (K : jOK X own cc nL ret d) {t : Nat} {ty : FieldType} (ht : jAT t = some ty) (href : ty.isReference = true) {o k : Nat} {i : Int32} {v : Value} (ho : (Y o).1 = t) (hi : jix i (Y o).2 = some k) (hv : μ o k = v) (hdg : decode cc pc = .ok (.aaload, 1)) (kk : JW X Q nc ns n Y (pc + 1) L (v :: st) μ) : JW X Q nc ns n Y pc L (.int i :: .ref o :: st) μ := by
  intro H locs ls hR hf hL
  obtain ⟨cell, h1, h2, h3, h4, h5, h6, h7⟩ := jarr hR ht ho
  obtain ⟨i1, i2, i3⟩ := jix_some hi
  exact W.aald K.1 K.2.1 h1 h3 href h2 (by rw [h5]; exact i1) (by rw [i2, h7 k i3, hv]) rfl rfl hdg (kk H locs ls hR hf hL)
theorem r_iast (K : jOK X own cc nL ret d) {o k : Nat} {i x : Int32} (ho0 : o ≠ 0) (ho : (Y o).1 = 20) (hi : jix i (Y o).2 = some k) (hdg : decode cc pc = .ok (.iastore, 1)) (kk : JW X Q nc ns n Y (pc + 1) L st (jw μ o k (.int x))) : JW X Q nc ns n Y pc L (.int x :: .int i :: .ref o :: st) μ := by
  intro H locs ls hR hf hL
  obtain ⟨cell, h1, h2, h3, h4, h5, h6, h7⟩ := jarr hR (t := 20) rfl ho
  obtain ⟨i1, i2, i3⟩ := jix_some hi
  exact W.iast K.1 K.2.1 h1 h3 h2 (by rw [h5]; exact i1) rfl rfl hdg fun H1 e z oq => kk H1 _ ls (jstore hR (t := 20) rfl ho h1 h2 h3 h4 h5 h6 h7 i3 (by rw [i2] at e; exact e) z oq) (jlocs hf (jad_pos ho0)) hL
theorem r_last (K : jOK X own cc nL ret d) {o k : Nat} {i : Int32} {x : Int64} (ho0 : o ≠ 0) (ho : (Y o).1 = 21) (hi : jix i (Y o).2 = some k) (hdg : decode cc pc = .ok (.lastore, 1)) (kk : JW X Q nc ns n Y (pc + 1) L st (jw μ o k (.long x))) : JW X Q nc ns n Y pc L (.long x :: .int i :: .ref o :: st) μ := by
  intro H locs ls hR hf hL
  obtain ⟨cell, h1, h2, h3, h4, h5, h6, h7⟩ := jarr hR (t := 21) rfl ho
  obtain ⟨i1, i2, i3⟩ := jix_some hi
  exact W.last K.1 K.2.1 h1 h3 h2 (by rw [h5]; exact i1) rfl rfl hdg fun H1 e z oq => kk H1 _ ls (jstore hR (t := 21) rfl ho h1 h2 h3 h4 h5 h6 h7 i3 (by rw [i2] at e; exact e) z oq) (jlocs hf (jad_pos ho0)) hL
theorem r_bast (K : jOK X own cc nL ret d) {o k : Nat} {i x : Int32} (ho0 : o ≠ 0) (ho : (Y o).1 = 22) (hi : jix i (Y o).2 = some k) (hdg : decode cc pc = .ok (.bastore, 1)) (kk : JW X Q nc ns n Y (pc + 1) L st (jw μ o k (.int x.toInt8.toInt32))) : JW X Q nc ns n Y pc L (.int x :: .int i :: .ref o :: st) μ := by
  intro H locs ls hR hf hL
  obtain ⟨cell, h1, h2, h3, h4, h5, h6, h7⟩ := jarr hR (t := 22) rfl ho
  obtain ⟨i1, i2, i3⟩ := jix_some hi
  exact W.bast K.1 K.2.1 h1 h3 h2 (by rw [h5]; exact i1) rfl rfl hdg fun H1 e z oq => kk H1 _ ls (jstore hR (t := 22) rfl ho h1 h2 h3 h4 h5 h6 h7 i3 (by rw [i2] at e; exact e) z oq) (jlocs hf (jad_pos ho0)) hL
theorem r_alen (K : jOK X own cc nL ret d) {t : Nat} {ty : FieldType} (ht : jAT t = some ty) {o : Nat} (ho : (Y o).1 = t) (hdg : decode cc pc = .ok (.arraylength, 1)) (kk : JW X Q nc ns n Y (pc + 1) L (.int (nI (Y o).2) :: st) μ) : JW X Q nc ns n Y pc L (.ref o :: st) μ := by
  intro H locs ls hR hf hL
  obtain ⟨cell, h1, h2, h3, h4, h5, h6, h7⟩ := jarr hR ht ho
  exact W.alen (n := nI (Y o).2) K.1 K.2.1 h1 h3 (by rw [h5]; rfl) rfl rfl hdg (kk H locs ls hR hf hL)
/-! calls -/
theorem jgo {p : Program} {l : Launch} {e : Env} {R : Room} {s : State} {m : MethodId} {args : Array Value} {below : List Frame} {meth : Method} {c : Code} {H : Heap} {locs : List Loc} {mc ms : Nat} {G : jG} {ls : Array Slot} {st0 rest : List Value} {n2 : Nat} {Y2 : jY} {v : Option Value} {μ2 : jM} {a : Array Value}
    (hr : va_Run p l e R s m args below meth c H locs nc ns mc ms (F0 m pc ls st0) rest (jQ G n2 Y2 v μ2 a) (fun q => G.2.1 ≤ q)) (hf : ∀ z ∈ locs, G.2.1 ≤ z.base)
    (kk : ∀ (H1 : Heap) (locs1 : List Loc), jR G s n2 Y2 μ2 H1 → (∀ z ∈ locs1, G.2.1 ≤ z.base) → W p l e R s m args below meth c H1 locs1 (nc + mc) (ns + ms) Q (F0 m (pc + 3) ls ((v.map (jv G)).toList ++ rest))) : W p l e R s m args below meth c H locs nc ns Q (F0 m pc ls st0) := by
  intro T hT X
  obtain ⟨v', st₀, t, T', L', h0, X', hL, e1, e2, ⟨hv, hR⟩, stp⟩ := hr T hT X
  cases hv
  have hal : s.vm.Alike T'.vm := X'.warmed.alike
  rw [e2] at hal
  obtain ⟨t2, a1, b1⟩ := kk T'.heap (locs ++ L') (by rw [e1]; exact hR.moved hal.symm) (fun z hz => (List.mem_append.mp hz).elim (hf z) (hL z)) T' rfl X'
  exact ⟨t2, stp t2 a1, b1⟩
theorem jgood {y : MethodName} {cc2 : ByteArray} {nL2 : Nat} {ret2 : Option FieldType} (h : Cond.code y cc2 nL2 ret2 ∈ jWT) : GoodIn jWT (Cond.code y cc2 nL2 ret2 :: jWT) := fun w hw => (List.mem_cons.mp hw).elim (fun e => by subst e; exact ⟨h, jWT_good _ h⟩) (fun h => ⟨h, jWT_good _ h⟩)
theorem jblind (G : jG) (av : List Value) (n : Nat) (Y : jY) (μ : jM) : FrameBlind (va_Pc av (fun U => jK G U ∧ jR G U n Y μ U.heap)) := by
  intro a U g mk h
  obtain ⟨h1, h2, h3⟩ := h
  exact ⟨h1, h2.same (u := U) (U := U.calling g mk a) rfl, h3.moved (u := U) (U := U.calling g mk a) (Vm.Alike.refl U.vm)⟩
theorem jcats (G : jG) (st : List Value) : ((st.map (jv G)).map fun v => v.category) = st.map fun v => v.category := by
  rw [List.map_map]
  exact List.map_congr_left (fun v _ => jv_cat G v)
theorem r_callV (K : jOK X own cc nL ret d) {l : Launch} (hl0 : X.2.1 = l) {y : MethodName} {cc2 : ByteArray} {nL2 : Nat} {ret2 : Option FieldType} {d2 mc ms o : Nat} {As : List Value} {n2 : Nat} {Y2 : jY} {v : Option Value} {μ2 : jM} (hC : jC l y cc2 nL2 ret2 d2 mc ms (.ref o :: As) n Y μ n2 Y2 v μ2)
    (hcode : Cond.code y cc2 nL2 ret2 ∈ jWT) {index : Nat} (hlk : Cond.methodLink own index y ∈ jWT) (hin : Cond.instanceMethod y ∈ jWT) (hsel : Cond.selects y.cls y y ∈ jWT) (hini : Cond.initialized y.cls ∈ jWT)
    {ci N : Nat} {T : u_T} (hc : vwCl[ci]? = some (y.cls, T, N)) (ho : (Y o).1 = ci) (hd : d2 + 1 ≤ d) (hnl : nL2 ≤ 45)
    (hnp : y.cls ≠ "java/lang/invoke/MethodHandle" ∧ y.cls ≠ "java/lang/invoke/VarHandle" ∧ (parseMethodDescriptor y.desc).map (fun q => q.parameters.length) = some As.length)
    {stk : List Value} (hs : stk = As.reverse ++ .ref o :: st) (hst : (st.map fun v => v.category).sum ≤ 8) (hdg : decode cc pc = .ok (.invokevirtual index, 3)) (hrm : nc + mc ≤ X.2.2.2.1.cells ∧ ns + ms ≤ X.2.2.2.1.slots)
    (kk : JW X Q (nc + mc) (ns + ms) n2 Y2 (pc + 3) L (v.toList ++ st) μ2) : JW X Q nc ns n Y pc L stk μ := by
  subst hs; subst hl0
  intro H locs ls hR hf hL
  obtain ⟨p, l, e, R, s, m, args, below, meth, c, G⟩ := X
  have hM := hC G
  obtain ⟨k1, k2, k3, k4, k5, k6, k7, k8, k9, k10⟩ := K
  have hcls := (k6.1 ci _ hc).2
  obtain ⟨cell, q1, q2, q3, q4⟩ := jobj hR hc ho
  have cw : CallW R s args own y.cls index y cc2 nL2 ret2 (Cond.code y cc2 nL2 ret2 :: jWT) { frames := d2, cells := mc, slots := ms, locals := 64 * d2 } mc ms As.length :=
    ⟨callB_of As.length k5 (jgood hcode) rfl rfl rfl (k5 _ hini) (k5 _ hlk) hnp ⟨Nat.le_trans hd k9, Nat.le_trans (by show 8 + (nL2 + 11) + 64 * d2 ≤ 64 * d; omega) k10⟩, k5 _ hin, k5 _ hsel⟩
  have hst' : (((st.map (jv G))).map fun v => v.category).sum ≤ 8 := by rw [jcats]; exact hst
  refine jgo (va_runV (C := y.cls) (b := jad G o) (As := As.map (jv G)) (rest := st.map (jv G)) (n := As.length) ⟨k1, k2, k3, k4, k5⟩ hM cw ⟨jblind G _ n Y μ, ⟨cell, q1, by rw [q3]; rfl, by rw [q2]; exact hcls.1⟩, fun U hU hW => ⟨rfl, k6.moved hW, by rw [hU]; exact hR.moved hW.alike⟩⟩ rfl (by rw [List.length_map]) (hL.1.trans k3) ?_ (lv_room hst') hdg hrm) hf (fun H1 locs1 hR1 hf1 => ?_)
  · show List.map (jv G) (As.reverse ++ .ref o :: st) = _
    rw [List.map_append, List.map_reverse]; rfl
  · have h := kk H1 locs1 ls hR1 hf1 hL
    rw [List.map_append] at h
    rw [show ((v.map (jv G)).toList : List Value) = v.toList.map (jv G) by cases v <;> rfl]
    exact h
theorem r_callS (K : jOK X own cc nL ret d) {l : Launch} (hl0 : X.2.1 = l) {y : MethodName} {cc2 : ByteArray} {nL2 : Nat} {ret2 : Option FieldType} {d2 mc ms : Nat} {As : List Value} {n2 : Nat} {Y2 : jY} {v : Option Value} {μ2 : jM} (hC : jC l y cc2 nL2 ret2 d2 mc ms As n Y μ n2 Y2 v μ2)
    (hcode : Cond.code y cc2 nL2 ret2 ∈ jWT) {index : Nat} (hlk : Cond.methodLink own index y ∈ jWT) (hstat : Cond.static y ∈ jWT) (hini : Cond.initialized y.cls ∈ jWT)
    (hd : d2 + 1 ≤ d) (hnl : nL2 ≤ 45)
    (hnp : y.cls ≠ "java/lang/invoke/MethodHandle" ∧ y.cls ≠ "java/lang/invoke/VarHandle" ∧ (parseMethodDescriptor y.desc).map (fun q => q.parameters.length) = some As.length)
    {stk : List Value} (hs : stk = As.reverse ++ st) (hst : (st.map fun v => v.category).sum ≤ 8) (hdg : decode cc pc = .ok (.invokestatic index, 3)) (hrm : nc + mc ≤ X.2.2.2.1.cells ∧ ns + ms ≤ X.2.2.2.1.slots)
    (kk : JW X Q (nc + mc) (ns + ms) n2 Y2 (pc + 3) L (v.toList ++ st) μ2) : JW X Q nc ns n Y pc L stk μ := by
  subst hs; subst hl0
  intro H locs ls hR hf hL
  obtain ⟨p, l, e, R, s, m, args, below, meth, c, G⟩ := X
  have hM := hC G
  obtain ⟨k1, k2, k3, k4, k5, k6, k7, k8, k9, k10⟩ := K
  have cw : CallB R s args own index y cc2 nL2 ret2 (Cond.code y cc2 nL2 ret2 :: jWT) { frames := d2, cells := mc, slots := ms, locals := 64 * d2 } mc ms As.length ∧ (Cond.static y).before args s = true :=
    ⟨callB_of As.length k5 (jgood hcode) rfl rfl rfl (k5 _ hini) (k5 _ hlk) hnp ⟨Nat.le_trans hd k9, Nat.le_trans (by show 8 + (nL2 + 11) + 64 * d2 ≤ 64 * d; omega) k10⟩, k5 _ hstat⟩
  have hst' : (((st.map (jv G))).map fun v => v.category).sum ≤ 8 := by rw [jcats]; exact hst
  refine jgo (va_runS (As := As.map (jv G)) (rest := st.map (jv G)) (n := As.length) ⟨k1, k2, k3, k4, k5⟩ hM cw ⟨jblind G _ n Y μ, fun U hU hW => ⟨rfl, k6.moved hW, by rw [hU]; exact hR.moved hW.alike⟩⟩ rfl (by rw [List.length_map]) (hL.1.trans k3) ?_ (lv_room hst') hdg hrm) hf (fun H1 locs1 hR1 hf1 => ?_)
  · show List.map (jv G) (As.reverse ++ st) = _
    rw [List.map_append, List.map_reverse]
  · have h := kk H1 locs1 ls hR1 hf1 hL
    rw [List.map_append] at h
    rw [show ((v.map (jv G)).toList : List Value) = v.toList.map (jv G) by cases v <;> rfl]
    exact h
theorem r_callSN (K : jOK X own cc nL ret d) {l : Launch} (hl0 : X.2.1 = l) {y : MethodName} {cc2 : ByteArray} {nL2 : Nat} {ret2 : Option FieldType} {d2 mc ms : Nat} {As : List Value} {n2 : Nat} {Y2 : jY} {v : Option Value} {μ2 : jM} (hC : jC l y cc2 nL2 ret2 d2 mc ms As n Y μ n2 Y2 v μ2)
    (hcode : Cond.code y cc2 nL2 ret2 ∈ jWT) {index : Nat} {host : String} (hlk : (own, index, y, host) ∈ jNest) (hstat : Cond.static y ∈ jWT) (hini : Cond.initialized y.cls ∈ jWT)
    (hd : d2 + 1 ≤ d) (hnl : nL2 ≤ 45)
    (hnp : y.cls ≠ "java/lang/invoke/MethodHandle" ∧ y.cls ≠ "java/lang/invoke/VarHandle" ∧ (parseMethodDescriptor y.desc).map (fun q => q.parameters.length) = some As.length)
    {stk : List Value} (hs : stk = As.reverse ++ st) (hst : (st.map fun v => v.category).sum ≤ 8) (hdg : decode cc pc = .ok (.invokestatic index, 3)) (hrm : nc + mc ≤ X.2.2.2.1.cells ∧ ns + ms ≤ X.2.2.2.1.slots)
    (kk : JW X Q (nc + mc) (ns + ms) n2 Y2 (pc + 3) L (v.toList ++ st) μ2) : JW X Q nc ns n Y pc L stk μ := by
  subst hs; subst hl0
  intro H locs ls hR hf hL
  obtain ⟨p, l, e, R, s, m, args, below, meth, c, G⟩ := X
  have hM := hC G
  obtain ⟨k1, k2, k3, k4, k5, k6, k7, k8, k9, k10⟩ := K
  have cw : va_CN R s args own index y host cc2 nL2 ret2 (Cond.code y cc2 nL2 ret2 :: jWT) { frames := d2, cells := mc, slots := ms, locals := 64 * d2 } mc ms As.length ∧ (Cond.static y).before args s = true ∧ True :=
    ⟨va_cnB As.length k5 (jgood hcode) rfl rfl rfl (k6.2.1 _ hlk) (k5 _ hini) hnp ⟨Nat.le_trans hd k9, Nat.le_trans (by show 8 + (nL2 + 11) + 64 * d2 ≤ 64 * d; omega) k10⟩, k5 _ hstat, trivial⟩
  have hst' : (((st.map (jv G))).map fun v => v.category).sum ≤ 8 := by rw [jcats]; exact hst
  refine jgo (va_runSN (As := As.map (jv G)) (rest := st.map (jv G)) (n := As.length) ⟨k1, k2, k3, k4, k5⟩ hM cw ⟨jblind G _ n Y μ, fun U hU hW => ⟨rfl, k6.moved hW, by rw [hU]; exact hR.moved hW.alike⟩⟩ rfl (by rw [List.length_map]) (hL.1.trans k3) ?_ (lv_room hst') hdg hrm) hf (fun H1 locs1 hR1 hf1 => ?_)
  · show List.map (jv G) (As.reverse ++ st) = _
    rw [List.map_append, List.map_reverse]
  · have h := kk H1 locs1 ls hR1 hf1 hL
    rw [List.map_append] at h
    rw [show ((v.map (jv G)).toList : List Value) = v.toList.map (jv G) by cases v <;> rfl]
    exact h
end JHEAP
