/-! MAKE: rows of the instructions that make cells, of final fields, of constructors' calls -/
def jYn (Y : jY) (n t len : Nat) : jY := fun i => if i = n then (t, len) else Y i
def jMn (μ : jM) (n : Nat) (f : Nat → Value) : jM := fun i => if i = n then f else μ i
def jdef (f : Nat → FieldType) : Nat → Value := fun k => defaultValue (f k)
theorem jv_default (G : jG) (ty : FieldType) : jv G (defaultValue ty) = defaultValue ty := by cases ty <;> rfl
theorem jad_new {G : jG} {U : State} {n : Nat} {Y : jY} {μ : jM} {H : Heap} (hR : jR G U n Y μ H) (hn : 0 < n) : H.size = jad G n := by
  have h1 := hR.1
  cases n with
  | zero => omega
  | succ n => simp only [jad]; omega
theorem jR.push {G : jG} {U : State} {n : Nat} {Y : jY} {μ : jM} {H H1 : Heap} (hR : jR G U n Y μ H) (hn : 0 < n) {t len : Nat} {f : Nat → Value} (z : H1.size = jad G n + 1) (old : ∀ q, q < jad G n → H1[q]? = H[q]?) (hc : jcell G U (jad G n) (t, len) f H1) : jR G U (n + 1) (jYn Y n t len) (jMn μ n f) H1 := by
  have hz := jad_new hR hn
  refine ⟨?_, hR.2.1, fun i hi => ?_⟩
  · have h1 := hR.1
    omega
  · by_cases e : i = n
    · subst e
      have e1 : jYn Y i t len i = (t, len) := if_pos rfl
      have e2 : jMn μ i f i = f := if_pos rfl
      rw [e1, e2]
      exact ⟨Nat.lt_succ_self _, hc⟩
    · have e1 : jYn Y n t len i = Y i := if_neg e
      have e2 : jMn μ n f i = μ i := if_neg e
      rw [e1] at hi
      rw [e1, e2]
      obtain ⟨h1, h2⟩ := hR.2.2 i hi
      exact ⟨Nat.lt_succ_of_lt h1, h2.kept (old _ (by rw [← hz]; exact h2.lt))⟩
section JMAKE
variable {X : jX} {Q : State → Prop} {nc ns n : Nat} {Y : jY} {own : String} {cc : ByteArray} {nL : Nat} {ret : Option FieldType} {d pc : Nat} {L : List (Nat × Value)} {st : List Value} {μ : jM}
theorem r_new (K : jOK X own cc nL ret d) {ci : Nat} {C : String} {T : u_T} {N : Nat} (hc : vwCl[ci]? = some (C, T, N)) (hin : ∀ w ∈ u_ws C T N, w ∈ jWT) (tyf : Nat → FieldType) (hty : ∀ k, k < N → parseFieldDescriptor (T k).2.2.1 = some (tyf k)) {index : Nat} (hlk : Cond.classLink own index C ∈ jWT) (hni : Cond.instantiable C N ∈ jWT) (hini : Cond.initialized C ∈ jWT)
    (hn : 0 < n) (hdg : decode cc pc = .ok (.new index, 3)) (hrm : nc + 1 ≤ X.2.2.2.1.cells ∧ ns + N ≤ X.2.2.2.1.slots) (kk : JW X Q (nc + 1) (ns + N) (n + 1) (jYn Y n ci N) (pc + 3) L (.ref n :: st) (jMn μ n (jdef tyf))) : JW X Q nc ns n Y pc L st μ := by
  intro H locs ls hR hf hL
  have hKn := K.2.2.2.2.2.1.1 ci _ hc
  refine W.newcK K.1 K.2.1 K.2.2.2.1 (K.2.2.2.2.1 _ hlk) (K.2.2.2.2.1 _ hni) (K.2.2.2.2.1 _ hini) rfl hdg hrm.1 hrm.2 hKn.2.1 (jad_new hR hn) fun H1 kC hkC e1 z1 o1 => ?_
  refine kk H1 locs ls (hR.push hn z1 o1 (Or.inl ⟨(C, T, N), hc, rfl, ?_⟩)) hf hL
  refine (u_born tyf K.2.2.2.2.1 hin hKn hkC e1 hty).to (fun j _ => ?_)
  exact (jv_default _ _).symm
theorem r_newa (K : jOK X own cc nL ret d) {atype : ArrayType} (t N : Nat) {x : Int32} (ht : jAT t = some (newarray.typeOf atype)) (hx : ¬ x < 0) (hN : x.toNatClampNeg = N) (hb : N * componentBytes (newarray.typeOf atype) ≤ 536870912) (hN2 : N < 2 ^ 31) (hA : Cond.arrayClass (newarray.typeOf atype) ∈ jWT)
    (hn : 0 < n) (hdg : decode cc pc = .ok (.newarray atype, 2)) (hrm : nc + 1 ≤ X.2.2.2.1.cells ∧ ns + N ≤ X.2.2.2.1.slots) (kk : JW X Q (nc + 1) (ns + N) (n + 1) (jYn Y n t N) (pc + 2) L (.ref n :: st) (jMn μ n (fun _ => defaultValue (newarray.typeOf atype)))) : JW X Q nc ns n Y pc L (.int x :: st) μ := by
  intro H locs ls hR hf hL
  refine va_newaK K.1 K.2.1 (K.2.2.2.2.1 _ hA) rfl hdg rfl hx hN hb hrm.1 hrm.2 (jad_new hR hn) fun H1 cA e1 z1 o1 hAr hNm => ?_
  refine kk H1 locs ls (hR.push hn z1 o1 (Or.inr ⟨_, _, ht, e1, fun h => (by cases h), hAr _ _, fun C hC => ?_, arrV_size _ _ _, hN2, fun j hj => ?_⟩)) hf hL
  · cases atype <;> cases hC
  · rw [arrV_read _ _ hj, jv_default]
theorem r_anew (K : jOK X own cc nL ret d) {C : String} (t N : Nat) {x : Int32} {index : Nat} (ht : jAT t = some (.object C)) (hAO : ∀ U, jK X.2.2.2.2.2.2.2.2.2.2 U → va_AO C U) (hlk : Cond.classLink own index C ∈ jWT) (hx : ¬ x < 0) (hN : x.toNatClampNeg = N) (hb : N * 4 ≤ 536870912) (hN2 : N < 2 ^ 31)
    (hn : 0 < n) (hdg : decode cc pc = .ok (.anewarray index, 3)) (hrm : nc + 1 ≤ X.2.2.2.1.cells ∧ ns + N ≤ X.2.2.2.1.slots) (kk : JW X Q (nc + 1) (ns + N) (n + 1) (jYn Y n t N) (pc + 3) L (.ref n :: st) (jMn μ n (fun _ => .null))) : JW X Q nc ns n Y pc L (.int x :: st) μ := by
  intro H locs ls hR hf hL
  subst hN
  have hz := jad_new hR hn
  refine W.anew K.1 K.2.1 K.2.2.2.1 (K.2.2.2.2.1 _ hlk) (va_AO.use (hAO _ K.2.2.2.2.2.1)) rfl hdg rfl hx hb hrm.1 hrm.2 fun cA kA comp f1 f2 f3 f4 => ?_
  have h := kk (H.push ({ cls := cA, slots := Array.replicate x.toNatClampNeg .null, vm := .none } : Cell)) locs ls (hR.push hn (by rw [Array.size_push, hz]) (fun q hq => by rw [Array.getElem?_push, if_neg (by omega)]) (Or.inr ⟨_, _, ht, (by rw [← hz, Array.getElem?_push_size, arrV_new]), fun h => (by cases h), ⟨fun k h => (by cases h), kA, f2, comp, f3⟩, fun C2 hC => ?_, arrV_size _ _ _, hN2, fun j hj => ?_⟩)) hf hL
  · rw [show (Value.ref H.size) = .ref (jad X.2.2.2.2.2.2.2.2.2.2 n) from by rw [hz]]
    exact h
  · cases hC
    exact ⟨kA, comp, f2, f3, f4, f1⟩
  · rw [arrV_read _ _ hj]; rfl
theorem r_aast (K : jOK X own cc nL ret d) {C : String} {T : u_T} {N ci : Nat} (t : Nat) {o k v : Nat} {i : Int32} (ht : jAT t = some (.object C)) (hc : vwCl[ci]? = some (C, T, N)) (ho0 : o ≠ 0) (ho : (Y o).1 = t) (hi : jix i (Y o).2 = some k) (hv : (Y v).1 = ci) (hdg : decode cc pc = .ok (.aastore, 1)) (kk : JW X Q nc ns n Y (pc + 1) L st (jw μ o k (.ref v))) : JW X Q nc ns n Y pc L (.ref v :: .int i :: .ref o :: st) μ := by
  intro H locs ls hR hf hL
  obtain ⟨cell, h1, h2, h3, h4, h5, h6, h7⟩ := jarr hR ht ho
  obtain ⟨i1, i2, i3⟩ := jix_some hi
  obtain ⟨kA, comp, k1, k2, k3, -⟩ := h4 C rfl
  obtain ⟨cv, q1, q2, q3, q4⟩ := jobj hR hc hv
  have hcls := (K.2.2.2.2.2.1.1 ci _ hc).2
  have hcomp : comp = X.2.2.2.2.2.2.2.2.2.2.2.2.1 ci := Option.some.inj (k3.symm.trans hcls.1)
  subst hcomp
  obtain ⟨kC, hkC, -⟩ := hcls.2
  refine W.aast K.1 K.2.1 h1 h3.1 h2 k1 k2 rfl hkC (by rw [h5]; exact ⟨fun h => i1 (Or.inl h), by rw [i2]; exact i3⟩) q1 (fun q h => by rw [q3] at h; cases h) (by rw [q2]; exact hkC) (by rw [q2]; exact va_assign hcls) rfl rfl hdg fun H1 e z oq => ?_
  exact kk H1 _ ls (jstore hR (v := .ref v) ht ho h1 h2 h3 h4 h5 h6 h7 i3 (by rw [i2] at e; exact e) z oq) (jlocs hf (jad_pos ho0)) hL
theorem r_putF (K : jOK X own cc nL ret d) {ci : Nat} {C : String} {T : u_T} {N : Nat} (hc : vwCl[ci]? = some (C, T, N)) (hin : ∀ w ∈ u_ws C T N, w ∈ jWT) {tyf : Nat → FieldType} (hty : ∀ k, k < N → parseFieldDescriptor (T k).2.2.1 = some (tyf k)) (hnm : ∀ a, a < N → ∀ b, b < N → a ≠ b → (T a).2.1 ≠ (T b).2.1) (k : Nat) (hk : k < N) {index o : Nat} {v : Value} (hw : Cond.fieldLink own index (T k).1 (T k).2.1 (T k).2.2.1 ∈ jWT)
    (hfin : (T k).2.2.2 = true) (hdecl : (T k).1 = own) (hnit : X.2.2.2.2.2.2.2.2.1.name = "<init>") (hn : ∀ G, narrow (tyf k) (jv G v) = jv G v) (hfit : ∀ G, fits (tyf k) (jv G v) = true) (ho0 : o ≠ 0) (ho : (Y o).1 = ci) (hdg : decode cc pc = .ok (.putfield index, 3)) (kk : JW X Q nc ns n Y (pc + 3) L st (jw μ o k v)) : JW X Q nc ns n Y pc L (v :: .ref o :: st) μ := by
  intro H locs ls hR hf hL
  have hap := va_apart (D := X.2.2.2.2.2.2.2.2.2.2.2.2) (cl := vwCl) (tys := []) (own := own) K.2.2.2.2.1 hin tyf hty hnm ⟨K.2.2.2.2.2.1.1, fun k q h => by simp at h⟩ hc
  obtain ⟨cell, q1, q2, q3, q4⟩ := jobj hR hc ho
  obtain ⟨hS, hfc, kC, hkC, hkind⟩ := K.2.2.2.2.2.1.1 ci _ hc
  obtain ⟨cf, kf, fi, f, hi, hsl⟩ := hS k hk
  have hlay := K.2.2.2.2.1 _ (hin _ (u_in_lay hk))
  unfold u_lay at hlay
  rw [if_pos hfin] at hlay
  have hst := (u_facts hfc hkC (u_lays K.2.2.2.2.1 hin hk) hi).1
  have hcf : X.2.2.2.2.2.1.cls = cf := by
    obtain ⟨_, _, c', _, _, _, -, -, hf', -, -, -, hown2, -⟩ := Cond.laysFinal_spec hlay
    have e1 : c' = cf := by have := hi.symm.trans hf'; simp at this; exact this.1.symm
    rw [hdecl] at hown2
    rw [← e1]; exact Option.some.inj (K.2.2.2.1.symm.trans hown2)
  have h6 := u_fits hfc hkC hkind (Or.inr hlay) hi (hty k hk) (hn X.2.2.2.2.2.2.2.2.2.2) (hfit X.2.2.2.2.2.2.2.2.2.2)
  refine W.putFinK K.1 K.2.1 K.2.2.2.1 (K.2.2.2.2.1 _ hw) hi hst hcf hnit (by rw [q2]; exact h6) q1 q3 (by rw [hsl]; exact k2_hasslot (q4 k hk)) rfl rfl hdg fun H' e1 e2 e3 => ?_
  rw [hsl] at e1 ⊢
  refine kk H' _ ls (hR.write e2 e3 (Or.inl ⟨(C, T, N), by rw [ho]; exact hc, ?_, ?_⟩)) ?_ hL
  · have hl : ci < 13 := (List.getElem?_eq_some_iff.mp hc).1
    obtain ⟨-, hcell⟩ := hR.2.2 o (by omega)
    rcases hcell with ⟨r, h1, h2, h3⟩ | ⟨ty, cell, h1, -⟩
    · rw [ho, hc] at h1
      cases h1
      exact h2
    · rw [jAT_lt _ (by omega)] at h1
      cases h1
  · rw [ho]
    refine t_OB.to (V := updV (fun j => jv X.2.2.2.2.2.2.2.2.2.2 (μ o j)) k (jv X.2.2.2.2.2.2.2.2.2.2 v)) ⟨_, e1, q2, q3, t_set q4 hap hk _⟩ (fun j hj => ?_)
    unfold updV
    by_cases h : j = k
    · subst h
      rw [if_pos rfl, jw_same]
    · rw [if_neg h, jw_ne μ v (fun q => h q.2)]
  · exact jlocs hf (jad_pos ho0)
theorem r_objInit (K : jOK X own cc nL ret d) {index o : Nat} (hlk : Cond.methodLink own index Lib.objectInit ∈ jWT) (hin : Cond.instanceMethod Lib.objectInit ∈ jWT) (hcode : Cond.code Lib.objectInit ⟨#[0xb1]⟩ 1 none ∈ jWT) (hd : 1 ≤ d) (hst : (st.map fun v => v.category).sum ≤ 8) (hdg : decode cc pc = .ok (.invokespecial index, 3)) (kk : JW X Q nc ns n Y (pc + 3) L st μ) : JW X Q nc ns n Y pc L (.ref o :: st) μ := by
  intro H locs ls hR hf hL
  have hst' : (((st.map (jv X.2.2.2.2.2.2.2.2.2.2))).map fun v => v.category).sum ≤ 8 := by rw [jcats]; exact hst
  obtain ⟨k1, k2, k3, k4, k5, k6, k7, k8, k9, k10⟩ := K
  refine W.objInit (a := jad X.2.2.2.2.2.2.2.2.2.2 o) (rest := st.map (jv X.2.2.2.2.2.2.2.2.2.2)) k1 k2 k4 (k5 _ hlk) (k5 _ hin) (k5 _ hcode) rfl hL.1 rfl hdg (Nat.le_trans hd k9) ?_ (kk H locs ls hR hf hL)
  have h := lv_room (m := X.2.2.2.2.2.1) (pc := pc) (ls := ls) (rest := []) hst'
  refine Nat.le_trans ?_ k10
  show 2 * (F0 X.2.2.2.2.2.1 pc ls []).monitorRoom + _ + 12 ≤ _
  omega
theorem r_callI (K : jOK X own cc nL ret d) {l : Launch} (hl0 : X.2.1 = l) {y : MethodName} {cc2 : ByteArray} {nL2 : Nat} {d2 mc ms o : Nat} {As : List Value} {n2 : Nat} {Y2 : jY} {μ2 : jM} (hC : jC l y cc2 nL2 none d2 mc ms (.ref o :: As) n Y μ n2 Y2 none μ2)
    (hcode : Cond.code y cc2 nL2 none ∈ jWT) {index : Nat} (hlk : Cond.methodLink own index y ∈ jWT) (hin : Cond.instanceMethod y ∈ jWT) (hini : Cond.initialized y.cls ∈ jWT) (hy1 : y.name = "<init>") (hd : d2 + 1 ≤ d) (hnl : nL2 ≤ 45)
    (hnp : y.cls ≠ "java/lang/invoke/MethodHandle" ∧ y.cls ≠ "java/lang/invoke/VarHandle" ∧ (parseMethodDescriptor y.desc).map (fun q => q.parameters.length) = some As.length)
    {stk : List Value} (hs : stk = As.reverse ++ .ref o :: st) (hst : (st.map fun v => v.category).sum ≤ 8) (hdg : decode cc pc = .ok (.invokespecial index, 3)) (hrm : nc + mc ≤ X.2.2.2.1.cells ∧ ns + ms ≤ X.2.2.2.1.slots)
    (kk : JW X Q (nc + mc) (ns + ms) n2 Y2 (pc + 3) L st μ2) : JW X Q nc ns n Y pc L stk μ := by
  subst hs; subst hl0
  intro H locs ls hR hf hL
  obtain ⟨p, l, e, R, s, m, args, below, meth, c, G⟩ := X
  have hM := hC G
  obtain ⟨k1, k2, k3, k4, k5, k6, k7, k8, k9, k10⟩ := K
  have cw : CallB R s args own index y cc2 nL2 none (Cond.code y cc2 nL2 none :: jWT) { frames := d2, cells := mc, slots := ms, locals := 64 * d2 } mc ms As.length ∧ y.name = "<init>" ∧ (Cond.instanceMethod y).before args s = true :=
    ⟨callB_of As.length k5 (jgood hcode) rfl rfl rfl (k5 _ hini) (k5 _ hlk) hnp ⟨Nat.le_trans hd k9, Nat.le_trans (by show 8 + (nL2 + 11) + 64 * d2 ≤ 64 * d; omega) k10⟩, hy1, k5 _ hin⟩
  have hst' : (((st.map (jv G))).map fun v => v.category).sum ≤ 8 := by rw [jcats]; exact hst
  refine jgo (va_runI (b := jad G o) (As := As.map (jv G)) (rest := st.map (jv G)) (n := As.length) ⟨k1, k2, k3, k4, k5⟩ hM cw ⟨jblind G _ n Y μ, fun U hU hW => ⟨rfl, k6.moved hW, by rw [hU]; exact hR.moved hW.alike⟩⟩ rfl (by rw [List.length_map]) (hL.1.trans k3) ?_ (lv_room hst') hdg hrm) hf (fun H1 locs1 hR1 hf1 => ?_)
  · show List.map (jv G) (As.reverse ++ .ref o :: st) = _
    rw [List.map_append, List.map_reverse]; rfl
  · exact kk H1 locs1 ls hR1 hf1 hL
theorem r_callIN (K : jOK X own cc nL ret d) {l : Launch} (hl0 : X.2.1 = l) {y : MethodName} {cc2 : ByteArray} {nL2 : Nat} {d2 mc ms o : Nat} {As : List Value} {n2 : Nat} {Y2 : jY} {μ2 : jM} (hC : jC l y cc2 nL2 none d2 mc ms (.ref o :: As) n Y μ n2 Y2 none μ2)
    (hcode : Cond.code y cc2 nL2 none ∈ jWT) {index : Nat} {host : String} (hlk : (own, index, y, host) ∈ jNest) (hin : Cond.instanceMethod y ∈ jWT) (hini : Cond.initialized y.cls ∈ jWT) (hy1 : y.name = "<init>") (hd : d2 + 1 ≤ d) (hnl : nL2 ≤ 45)
    (hnp : y.cls ≠ "java/lang/invoke/MethodHandle" ∧ y.cls ≠ "java/lang/invoke/VarHandle" ∧ (parseMethodDescriptor y.desc).map (fun q => q.parameters.length) = some As.length)
    {stk : List Value} (hs : stk = As.reverse ++ .ref o :: st) (hst : (st.map fun v => v.category).sum ≤ 8) (hdg : decode cc pc = .ok (.invokespecial index, 3)) (hrm : nc + mc ≤ X.2.2.2.1.cells ∧ ns + ms ≤ X.2.2.2.1.slots)
    (kk : JW X Q (nc + mc) (ns + ms) n2 Y2 (pc + 3) L st μ2) : JW X Q nc ns n Y pc L stk μ := by
  subst hs; subst hl0
  intro H locs ls hR hf hL
  obtain ⟨p, l, e, R, s, m, args, below, meth, c, G⟩ := X
  have hM := hC G
  obtain ⟨k1, k2, k3, k4, k5, k6, k7, k8, k9, k10⟩ := K
  have cw : va_CN R s args own index y host cc2 nL2 none (Cond.code y cc2 nL2 none :: jWT) { frames := d2, cells := mc, slots := ms, locals := 64 * d2 } mc ms As.length ∧ y.name = "<init>" ∧ (Cond.instanceMethod y).before args s = true :=
    ⟨va_cnB As.length k5 (jgood hcode) rfl rfl rfl (k6.2.1 _ hlk) (k5 _ hini) hnp ⟨Nat.le_trans hd k9, Nat.le_trans (by show 8 + (nL2 + 11) + 64 * d2 ≤ 64 * d; omega) k10⟩, hy1, k5 _ hin⟩
  have hst' : (((st.map (jv G))).map fun v => v.category).sum ≤ 8 := by rw [jcats]; exact hst
  refine jgo (va_runIN (b := jad G o) (As := As.map (jv G)) (rest := st.map (jv G)) (n := As.length) ⟨k1, k2, k3, k4, k5⟩ hM cw ⟨jblind G _ n Y μ, fun U hU hW => ⟨rfl, k6.moved hW, by rw [hU]; exact hR.moved hW.alike⟩⟩ rfl (by rw [List.length_map]) (hL.1.trans k3) ?_ (lv_room hst') hdg hrm) hf (fun H1 locs1 hR1 hf1 => ?_)
  · show List.map (jv G) (As.reverse ++ .ref o :: st) = _
    rw [List.map_append, List.map_reverse]; rfl
  · exact kk H1 locs1 ls hR1 hf1 hL
end JMAKE
