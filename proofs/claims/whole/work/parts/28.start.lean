/-! THE CLAIM OUT OF ONE WALK OF THE LAW'S BODY. Your part is whole_start (and what it stands on); all else here is the same for every law, but numbers. -/
def R_law : String := "ChainTablesLaw"
def lw_P (b : Addr) (xs : List Int32) (args : Array Value) (s : State) : Prop := args = #[.ref b] ∧ s.IntsAt b xs ∧ xs.length ≤ 3072 ∧ (Jvm.Cond.and given_1 narrow_1).before args s = true
def lw_Q (_ : Array Value) (s : State) (o : Outcome) (t : State) : Prop := o = .returned (some (.int 1)) ∧ Framed s o t [] 809023 6675178
def lw_Z (below : List Frame) (a : Array Value) (s : State) : State → Prop := fun t => ∃ o, t.status = .running ∧ Ended t below o ∧ lw_Q a s o t
/-- the law's own end, with 1 on the stack, nothing written that was there before, its room as the claim has it -/
theorem lw_ret {p : Program} {l : Launch} {e : Env} {s : State} {m : MethodId} {below : List Frame} {meth : Method} {c : Code} {b : Nat} (hx : p.tables.exec = Jvm.exec) (hb : c.code = code) (hr : meth.sig.returnType = ret) (hlocks : meth.locks = false) {pc : Nat} {H : Heap} {ls : Array Slot} (hdg : decode code pc = .ok (.ireturn, 1)) : W p l e room_1 s m #[Value.ref b] below meth c H [] 809023 6675178 (lw_Z below #[Value.ref b] s) (F0 m pc ls [.int 1]) := by
  intro T hT X
  obtain ⟨fs, hret, hrun, hended, hW, hframe⟩ := X.leave (v := some (.int 1)) (hlocks := hlocks) (fun h => by rw [hr] at h; cases h)
  have hmeth' : T.vm.method? m = some meth := X.method'
  refine ⟨T.setFrames fs, ?_, .returned (some (.int 1)), hrun, hended, rfl, ⟨_, rfl⟩, hW, hframe⟩
  jvm_step X.here [X.here.top, hx, hb, hdg, hmeth', hr, ret, narrow_b1]
  (try refine ⟨rfl, ?_⟩); (try refine ⟨rfl, ?_⟩)
  first | (intro acts; rw [hret _ acts rfl rfl rfl]) | rw [hret _ _ rfl rfl rfl]
  exact Steps.refl _
/-- what holds at the law's entry: the machine, the code, the tables' words (any of lw_tbl by 'hts w (by decide +kernel)'), the script of L ints xs at the cell b, what the Statement gives of the start (any of its parts by flat_of_before) -/
def lw_At (p : Program) (s : State) (m : MethodId) (meth : Method) (c : Code) (b L : Nat) (xs : Nat → Int32) : Prop :=
  p.tables.exec = Jvm.exec ∧ c.code = code ∧ meth.sig.returnType = ret ∧ c.maxLocals = 4 ∧ s.vm.findClass R_law = some m.cls ∧ (∀ w ∈ lw_tbl, w.before #[Value.ref b] s = true) ∧ va_X b L xs s s.heap ∧ b < s.heap.size ∧ meth.locks = false ∧ (Jvm.Cond.and given_1 narrow_1).before #[Value.ref b] s = true

/-! THE START: the law's walk from its entry, over an invariant -/
def jYs (L : Nat) : jY := fun i => if i = 0 then (20, L) else (1000, 0)
def jMs (xs : Nat → Int32) : jM := fun i j => if i = 0 then .int (xs j) else .null
def jY0 (L : Nat) : jY := mY_X12_init 96 (jYn (mY_X11_init 2 (jYn (jYs L) 1 11 13)) 95 12 47)
def jM0 (xs : Nat → Int32) : jM := mM_X12_init 96 95 (jMn (mM_X11_init 2 1 (jMn (jMs xs) 1 (jdef tyX11))) 95 (jdef tyX12))
theorem jNest_in : ∀ q ∈ jNest, Cond.methodLinkNest q.1 q.2.1 q.2.2.1 q.2.2.2 ∈ lw_tbl := by decide +kernel
theorem jAO_in : Cond.arrayOver (.object RX1) ∈ lw_tbl ∧ Cond.arrayOver (.object RX10) ∈ lw_tbl ∧ Cond.arrayOver (.object RX3) ∈ lw_tbl ∧ Cond.arrayOver (.array .long) ∈ lw_tbl := by decide +kernel
theorem jK_start {args : Array Value} {s : State} (hts : ∀ w ∈ lw_tbl, w.before args s = true) : ∃ (dC : Nat → ClassId) (dI : Nat → Nat → Nat), ∀ b z : Nat, jK (b, z, dC, dI) s := by
  have hw : ∀ w ∈ jWT, w.before args s = true := fun w h => hts w (jWT_in w h)
  have hK : ∀ c : Nat, ∃ q : ClassId × (Nat → Nat), ∀ r : vw_C, vwCl[c]? = some r → u_Kn s r.1 r.2.1 r.2.2 q.1 q.2 := by
    intro c
    match c with
    | 0 => obtain ⟨cC, iS, h⟩ := u_known hw inX0 (hw _ mN_RX0); exact ⟨(cC, iS), fun r hr => by cases hr; exact h⟩
    | 1 => obtain ⟨cC, iS, h⟩ := u_known hw inX1 (hw _ mN_RX1); exact ⟨(cC, iS), fun r hr => by cases hr; exact h⟩
    | 2 => obtain ⟨cC, iS, h⟩ := u_known hw inX2 (hw _ mN_RX2); exact ⟨(cC, iS), fun r hr => by cases hr; exact h⟩
    | 3 => obtain ⟨cC, iS, h⟩ := u_known hw inX3 (hw _ mN_RX3); exact ⟨(cC, iS), fun r hr => by cases hr; exact h⟩
    | 4 => obtain ⟨cC, iS, h⟩ := u_known hw inX4 (hw _ mN_RX4); exact ⟨(cC, iS), fun r hr => by cases hr; exact h⟩
    | 5 => obtain ⟨cC, iS, h⟩ := u_known hw inX5 (hw _ mN_RX5); exact ⟨(cC, iS), fun r hr => by cases hr; exact h⟩
    | 6 => obtain ⟨cC, iS, h⟩ := u_known hw inX6 (hw _ mN_RX6); exact ⟨(cC, iS), fun r hr => by cases hr; exact h⟩
    | 7 => obtain ⟨cC, iS, h⟩ := u_known hw inX7 (hw _ mN_RX7); exact ⟨(cC, iS), fun r hr => by cases hr; exact h⟩
    | 8 => obtain ⟨cC, iS, h⟩ := u_known hw inX8 (hw _ mN_RX8); exact ⟨(cC, iS), fun r hr => by cases hr; exact h⟩
    | 9 => obtain ⟨cC, iS, h⟩ := u_known hw inX9 (hw _ mN_RX9); exact ⟨(cC, iS), fun r hr => by cases hr; exact h⟩
    | 10 => obtain ⟨cC, iS, h⟩ := u_known hw inX10 (hw _ mN_RX10); exact ⟨(cC, iS), fun r hr => by cases hr; exact h⟩
    | 11 => obtain ⟨cC, iS, h⟩ := u_known hw inX11 (hw _ mN_RX11); exact ⟨(cC, iS), fun r hr => by cases hr; exact h⟩
    | 12 => obtain ⟨cC, iS, h⟩ := u_known hw inX12 (hw _ mN_RX12); exact ⟨(cC, iS), fun r hr => by cases hr; exact h⟩
    | c + 13 => obtain ⟨cC, iS, h⟩ := u_known hw inX0 (hw _ mN_RX0); exact ⟨(cC, iS), fun r hr => by simp [vwCl] at hr⟩
  obtain ⟨f, hf⟩ := Classical.axiomOfChoice hK
  refine ⟨fun c => (f c).1, fun c => (f c).2, fun b z => ⟨fun c q hq => hf c q hq, fun q hq => va_Nw.of rfl (hts _ (jNest_in q hq)), va_AO.of (hts _ jAO_in.1), va_AO.of (hts _ jAO_in.2.1), va_AO.of (hts _ jAO_in.2.2.1), hts _ jAO_in.2.2.2⟩⟩
set_option maxRecDepth 10000 in
theorem lx_whole {p : Program} {e : Env} {s : State} {m : MethodId} {below : List Frame} {meth : Method} {c : Code} (l : Launch) {b L : Nat} {xs : Nat → Int32} (hL : L ≤ 3072) (C0 : lw_At p s m meth c b L xs) {Inv : Nat → jY → jM → Prop}
    (hS : ∀ n Y μ, Inv n Y μ → Y 0 = (20, L) ∧ (∀ j, j < L → μ 0 j = .int (xs j)) ∧ (Y 1).1 = 11 ∧ (Y 95).1 = 12 ∧ n ≤ 400) (steps : ∀ n Y μ, Inv n Y μ → so_every Inv n Y μ) (hinit : Inv 123 (jY0 L) (jM0 xs)) :
    W p l e room_1 s m #[Value.ref b] below meth c s.heap [] 0 0 (lw_Z below #[Value.ref b] s) (entryFrame m ([Value.ref b] : List Value).toArray 4) := by
  obtain ⟨hx, hb, hr, hml, hown, hts, hX, hbl, hlocks, hgv⟩ := id C0
  obtain ⟨dC, dI, hjK⟩ := jK_start hts
  have hl := lv_entry ([.ref b]) (n := 4) (Nat.le_of_ble_eq_true rfl)
  rw [lg_entry_eq]
  generalize (lg_sl ([.ref b]) ++ List.replicate (4 - (lg_sl ([.ref b])).length) Slot.unset).toArray = ls at hl ⊢
  have hR : jR (b, s.heap.size, dC, dI) s 1 (jYs L) (jMs xs) s.heap := by
    obtain ⟨scr, h1, h2, h3, h4, h5⟩ := hX
    refine ⟨rfl, hbl, fun i hi => ?_⟩
    cases i with
    | zero => exact ⟨Nat.zero_lt_one, Or.inr ⟨.int, scr, rfl, h1, h3, h2, fun C h => (by cases h), h4, by show L < 2 ^ 31; omega, fun j hj => h5 j hj⟩⟩
    | succ i => exact absurd rfl hi
  have K : jOK (p, l, e, room_1, s, m, #[Value.ref b], below, meth, c, (b, s.heap.size, dC, dI)) RL cL_law 4 (some .boolean) 1000 :=
    ⟨hx, hb, hml, hown, fun w hw => hts w (jWT_in w hw), hjK _ _, hlocks, hr, Nat.le_of_ble_eq_true rfl, Nat.le_of_ble_eq_true rfl⟩
  have key : JW (p, l, e, room_1, s, m, #[Value.ref b], below, meth, c, (b, s.heap.size, dC, dI)) (lw_Z below #[Value.ref b] s) 0 0 1 (jYs L) 0 [(0, .ref 0)] [] (jMs xs) := by
    have hl1 : (p, l, e, room_1, s, m, #[Value.ref b], below, meth, c, ((b, s.heap.size, dC, dI) : jG)).2.1 = l := rfl
    have rm : ∀ a q : Nat, a ≤ 1000 → q ≤ 100000 → a ≤ room_1.cells ∧ q ≤ room_1.slots := fun a q h1 h2 => ⟨Nat.le_trans h1 (Nat.le_of_ble_eq_true rfl), Nat.le_trans h2 (Nat.le_of_ble_eq_true rfl)⟩
    refine r_new K vc11 inX11 tyX11 tyX11_ok mK_RL_7 mN_RX11 mZ_RX11 (Nat.le_refl _) dL_law_0 (rm _ _ (Nat.le_of_ble_eq_true rfl) (Nat.le_of_ble_eq_true rfl)) ?_
    refine r_dup K dL_law_3 rfl ?_
    refine r_callI K hl1 (c_X11_init l (n := 2) (Nat.le_of_ble_eq_true rfl) (Nat.le_of_ble_eq_true rfl) (by decide) rfl) mC_yX11_init mM_RL_9 mI_yX11_init mZ_RX11 rfl (Nat.le_of_ble_eq_true rfl) (Nat.le_of_ble_eq_true rfl) np_yX11_init rfl (Nat.le_of_ble_eq_true rfl) dL_law_4 (rm _ _ (Nat.le_of_ble_eq_true rfl) (Nat.le_of_ble_eq_true rfl)) ?_
    refine r_astore_n K [(1, .ref _), (0, .ref _)] dL_law_7 rfl (by decide) rfl ?_
    refine r_new K vc12 inX12 tyX12 tyX12_ok mK_RL_10 mN_RX12 mZ_RX12 (Nat.le_of_ble_eq_true rfl) dL_law_8 (rm _ _ (Nat.le_of_ble_eq_true rfl) (Nat.le_of_ble_eq_true rfl)) ?_
    refine r_dup K dL_law_11 rfl ?_
    refine r_callI K hl1 (c_X12_init l (n := 96) (v0 := 95) (Nat.le_of_ble_eq_true rfl) (Nat.le_of_ble_eq_true rfl) (by decide) rfl) mC_yX12_init mM_RL_12 mI_yX12_init mZ_RX12 rfl (Nat.le_of_ble_eq_true rfl) (Nat.le_of_ble_eq_true rfl) np_yX12_init rfl (Nat.le_of_ble_eq_true rfl) dL_law_12 (rm _ _ (Nat.le_of_ble_eq_true rfl) (Nat.le_of_ble_eq_true rfl)) ?_
    refine r_astore_n K [(2, .ref _), (1, .ref _), (0, .ref _)] dL_law_15 rfl (by decide) rfl ?_
    refine r_iconst (v := 0) K dL_law_16 (by decide) ?_
    refine r_istore_n K [(3, .int _), (2, .ref _), (1, .ref _), (0, .ref _)] dL_law_17 rfl (by decide) rfl ?_
    refine r_sub [3, 2, 1, 0] rfl (lc_loop K hl1 hL (rm _ _ (Nat.le_refl _) (Nat.le_refl _)) hS steps (fun nc ns n Y μ i h1 h2 => ?_) L 0 0 _ _ 123 (jY0 L) (jM0 xs) (Nat.le_refl _) (Nat.zero_le _) rfl hinit rfl (Nat.le_of_ble_eq_true rfl))
    refine r_iconst (v := 1) K dL_law_2118 (by decide) ?_
    intro H locs ls hR hf hL
    refine va_forget hf (W.widen (k := 809023) (n := 6675178) (Nat.le_trans h1 (Nat.le_of_ble_eq_true rfl)) (Nat.le_trans h2 (Nat.le_of_ble_eq_true rfl)) ?_)
    exact lw_ret hx hb hr hlocks dL_law_2119
  exact key s.heap [] ls hR (fun _ h => by cases h) (by rw [hml]; exact hl)
