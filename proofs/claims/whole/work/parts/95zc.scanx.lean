/-! TEXTS: digits, and what the class makes of a text -/
theorem run_ex (T : Int → Int) (L : Int) : ∀ (d : Nat) (s : Int), L - s ≤ d → s ≤ L → ∃ e, s ≤ e ∧ e ≤ L ∧ (∀ x, s ≤ x → x < e → 48 ≤ T x ∧ T x ≤ 57) ∧ (e < L → ¬ (48 ≤ T e ∧ T e ≤ 57)) := by
  intro d
  induction d with
  | zero =>
    intro s h1 h2
    exact ⟨s, Int.le_refl s, h2, fun x a b => by omega, fun a => by omega⟩
  | succ d ih =>
    intro s h1 h2
    by_cases c : s < L ∧ 48 ≤ T s ∧ T s ≤ 57
    · obtain ⟨e, a, b, g, q⟩ := ih (s + 1) (by omega) (by omega)
      refine ⟨e, by omega, b, fun x x1 x2 => ?_, q⟩
      by_cases y : x = s
      · rw [y]; exact c.2
      · exact g x (by omega) x2
    · exact ⟨s, Int.le_refl s, h2, fun x a b => by omega, fun a q => c ⟨a, q⟩⟩
def nv (T : Int → Int) (s : Int) : Nat → Int
  | 0 => 0
  | n + 1 => if 10 * nv T s n + T (s + n) - 48 < 1000 then 10 * nv T s n + T (s + n) - 48 else 1000
def rv (T : Int → Int) (s : Int) : Nat → Int
  | 0 => 0
  | n + 1 => if 99 < rv T s n then rv T s n else 10 * rv T s n + T (s + n) - 48
theorem nv_rv {T : Int → Int} {s : Int} : ∀ n : Nat, (∀ x : Int, s ≤ x → x < s + n → 48 ≤ T x ∧ T x ≤ 57) → (0 ≤ nv T s n ∧ nv T s n ≤ 1000 ∧ 0 ≤ rv T s n ∧ rv T s n ≤ 1000) ∧ (nv T s n = rv T s n ∨ (100 ≤ nv T s n ∧ 100 ≤ rv T s n)) := by
  intro n
  induction n with
  | zero => intro _; exact ⟨⟨Int.le_refl 0, by show (0 : Int) ≤ 1000; omega, Int.le_refl 0, by show (0 : Int) ≤ 1000; omega⟩, Or.inl rfl⟩
  | succ n ih =>
    intro h
    have i := ih (fun x a b => h x a (by omega))
    have hd := h (s + n) (by omega) (by omega)
    have e1 : nv T s (n + 1) = if 10 * nv T s n + T (s + n) - 48 < 1000 then 10 * nv T s n + T (s + n) - 48 else 1000 := rfl
    have e2 : rv T s (n + 1) = if 99 < rv T s n then rv T s n else 10 * rv T s n + T (s + n) - 48 := rfl
    generalize nv T s (n + 1) = a at *
    generalize rv T s (n + 1) = b at *
    generalize nv T s n = c at *
    generalize rv T s n = d at *
    split at e1 <;> split at e2 <;> omega
/-- the tape, as a row of numbers 0 to 255 -/
def txX (ν : jM) (l : Int) (T : Int → Int) : Prop := gi ν 2 1 = l ∧ l ≤ 120 ∧ (∀ x, 0 ≤ T x ∧ T x ≤ 255) ∧ ∀ x : Int, 0 ≤ x → x < l → gi ν 3 x = T x
theorem txX.to {ν ω : jM} {l : Int} {T : Int → Int} (h : txX ν l T) (k : kF 4 7 ν ω) : txX ω l T := ⟨by rw [k.gi (by omega)]; exact h.1, h.2.1, h.2.2.1, fun x a b => by rw [k.gi (by omega)]; exact h.2.2.2 x a b⟩
theorem X5_byteAt {Y : jY} {ν : jM} (hX : kX Y ν) {l : Int} {T : Int → Int} (h : txX ν l T) {x : Int} (h0 : 0 ≤ x) (h1 : x < l) : f_X5_byteAt Y 2 (ki x) ν = some (ki (T x), ν) := by
  have g := kX.g2_1 hX
  rw [h.1] at g
  have hl := h.2.1
  have a := kaI (kX.a3 hX) (x := x) h0 (by omega)
  rw [h.2.2.2 x h0 h1] at a
  simp (disch := omega) only [f_X5_byteAt, b_X5_byteAt_24, g, X11_within, kX.o2_0 hX, a, ki_0, ki_1, ki_2, ki_3, ki_4, ki_5, ki_6, ki_7, ki_8, ki_9, ki_10, ki_11, ki_12, ki_13, ki_18, ki_20, ki_24, ki_32, ki_36, ki_45, ki_47, ki_48, ki_50, ki_57, ki_60, ki_63, ki_99, ki_100, ki_101, ki_120, ki_255, ki_468, ki_1000, ki_1024, ki_13849, ki_25173, ki_65535, ki_65536, ki_100000, ki_100001, ki_2147483647, ki_2147483648, kl_0, kl_1, kl_2, kl_9223372036854775808, ki_add, ki_sub, ki_mul, ki_neg, kl_add, kl_sub, kl_mul, kl_neg, ki_i2l, kl_l2i, ki_lt, ki_le, ki_eq, kcmp_eq, kcmp_lt, kcmp_le, kcmp_gt, kcmp_ge, Option.bind_some, Option.map_some, kbool0, kbool1, if_pos, if_neg, if_true, if_false, Int.neg_neg, Int.sub_zero, Int.add_zero, Int.zero_add, true_and, and_true, false_and, and_false, false_or, or_false, true_or, or_true, ne_eq, not_false_eq_true, not_true_eq_false]
theorem X5_isDigit {Y : jY} {ν : jM} (hX : kX Y ν) {l : Int} {T : Int → Int} (h : txX ν l T) {x : Int} (h0 : 0 ≤ x) (h1 : x < l) : f_X5_isDigit Y 2 (ki x) ν = some (ki (if 48 ≤ T x ∧ T x ≤ 57 then 1 else 0), ν) := by
  have e := X5_byteAt hX h h0 h1
  have b := h.2.2.1 x
  generalize T x = v at *
  by_cases c : 48 ≤ v ∧ v ≤ 57
  · rw [if_pos c]
    simp (disch := omega) only [f_X5_isDigit, krcv hX.y2, e, X11_within, ki_0, ki_1, ki_2, ki_3, ki_4, ki_5, ki_6, ki_7, ki_8, ki_9, ki_10, ki_11, ki_12, ki_13, ki_18, ki_20, ki_24, ki_32, ki_36, ki_45, ki_47, ki_48, ki_50, ki_57, ki_60, ki_63, ki_99, ki_100, ki_101, ki_120, ki_255, ki_468, ki_1000, ki_1024, ki_13849, ki_25173, ki_65535, ki_65536, ki_100000, ki_100001, ki_2147483647, ki_2147483648, kl_0, kl_1, kl_2, kl_9223372036854775808, ki_add, ki_sub, ki_mul, ki_neg, kl_add, kl_sub, kl_mul, kl_neg, ki_i2l, kl_l2i, ki_lt, ki_le, ki_eq, kcmp_eq, kcmp_lt, kcmp_le, kcmp_gt, kcmp_ge, Option.bind_some, Option.map_some, kbool0, kbool1, if_pos, if_neg, if_true, if_false, Int.neg_neg, Int.sub_zero, Int.add_zero, Int.zero_add, true_and, and_true, false_and, and_false, false_or, or_false, true_or, or_true, ne_eq, not_false_eq_true, not_true_eq_false]
  · rw [if_neg c]
    simp (disch := omega) only [f_X5_isDigit, krcv hX.y2, e, X11_within, ki_0, ki_1, ki_2, ki_3, ki_4, ki_5, ki_6, ki_7, ki_8, ki_9, ki_10, ki_11, ki_12, ki_13, ki_18, ki_20, ki_24, ki_32, ki_36, ki_45, ki_47, ki_48, ki_50, ki_57, ki_60, ki_63, ki_99, ki_100, ki_101, ki_120, ki_255, ki_468, ki_1000, ki_1024, ki_13849, ki_25173, ki_65535, ki_65536, ki_100000, ki_100001, ki_2147483647, ki_2147483648, kl_0, kl_1, kl_2, kl_9223372036854775808, ki_add, ki_sub, ki_mul, ki_neg, kl_add, kl_sub, kl_mul, kl_neg, ki_i2l, kl_l2i, ki_lt, ki_le, ki_eq, kcmp_eq, kcmp_lt, kcmp_le, kcmp_gt, kcmp_ge, Option.bind_some, Option.map_some, kbool0, kbool1, if_pos, if_neg, if_true, if_false, Int.neg_neg, Int.sub_zero, Int.add_zero, Int.zero_add, true_and, and_true, false_and, and_false, false_or, or_false, true_or, or_true, ne_eq, not_false_eq_true, not_true_eq_false]
theorem X6_endLoop {Y : jY} {ν : jM} (hX : kX Y ν) {l : Int} {T : Int → Int} (h : txX ν l T) {a s e L : Int} (a0 : 0 ≤ a) (as : a ≤ s) (se : s ≤ e) (eL : e ≤ L) (Ll : L ≤ l) (L6 : L ≤ 60) (hd : ∀ x, s ≤ x → x < e → 48 ≤ T x ∧ T x ≤ 57) (hn : e < L → ¬ (48 ≤ T e ∧ T e ≤ 57)) : jit jF (fun (q : Int32 × jM) => b_X6_tokenEnd_16 Y 2 (ki a) (ki L) q.1 q.2) (ki s, ν) = some (ki (if e ≤ a then a + 1 else e), ν) := by
  refine jit_run (fun i => (ki (s + i), ν)) _ (e - s).toNat (by show (ki s, ν) = (ki (s + ((0 : Nat) : Int)), ν); rw [show s + ((0 : Nat) : Int) = s by omega]) (by omega) (fun i hi => ?_) ?_
  · show b_X6_tokenEnd_16 Y 2 (ki a) (ki L) (ki (s + i)) ν = some (.inl (ki (s + ((i + 1 : Nat) : Int)), ν))
    rw [show s + ((i + 1 : Nat) : Int) = s + i + 1 by omega]
    obtain ⟨y, hy⟩ : ∃ y, y = s + (i : Int) := ⟨_, rfl⟩
    rw [← hy]
    have d := X5_isDigit hX h (x := y) (by omega) (by omega)
    rw [if_pos (hd y (by omega) (by omega))] at d
    simp (disch := omega) only [b_X6_tokenEnd_16, krcv hX.y2, d, ki_0, ki_1, ki_2, ki_3, ki_4, ki_5, ki_6, ki_7, ki_8, ki_9, ki_10, ki_11, ki_12, ki_13, ki_18, ki_20, ki_24, ki_32, ki_36, ki_45, ki_47, ki_48, ki_50, ki_57, ki_60, ki_63, ki_99, ki_100, ki_101, ki_120, ki_255, ki_468, ki_1000, ki_1024, ki_13849, ki_25173, ki_65535, ki_65536, ki_100000, ki_100001, ki_2147483647, ki_2147483648, kl_0, kl_1, kl_2, kl_9223372036854775808, ki_add, ki_sub, ki_mul, ki_neg, kl_add, kl_sub, kl_mul, kl_neg, ki_i2l, kl_l2i, ki_lt, ki_le, ki_eq, kcmp_eq, kcmp_lt, kcmp_le, kcmp_gt, kcmp_ge, Option.bind_some, Option.map_some, kbool0, kbool1, if_pos, if_neg, if_true, if_false, Int.neg_neg, Int.sub_zero, Int.add_zero, Int.zero_add, true_and, and_true, false_and, and_false, false_or, or_false, true_or, or_true, ne_eq, not_false_eq_true, not_true_eq_false]
  · show b_X6_tokenEnd_16 Y 2 (ki a) (ki L) (ki (s + ((e - s).toNat : Int))) ν = _
    rw [show s + ((e - s).toNat : Int) = e by omega]
    by_cases c : e < L
    · have d := X5_isDigit hX h (x := e) (by omega) (by omega)
      rw [if_neg (hn c)] at d
      by_cases q : e ≤ a
      · rw [if_pos q]
        simp (disch := omega) only [b_X6_tokenEnd_16, b_X6_tokenEnd_37, b_X6_tokenEnd_51, krcv hX.y2, d, ki_0, ki_1, ki_2, ki_3, ki_4, ki_5, ki_6, ki_7, ki_8, ki_9, ki_10, ki_11, ki_12, ki_13, ki_18, ki_20, ki_24, ki_32, ki_36, ki_45, ki_47, ki_48, ki_50, ki_57, ki_60, ki_63, ki_99, ki_100, ki_101, ki_120, ki_255, ki_468, ki_1000, ki_1024, ki_13849, ki_25173, ki_65535, ki_65536, ki_100000, ki_100001, ki_2147483647, ki_2147483648, kl_0, kl_1, kl_2, kl_9223372036854775808, ki_add, ki_sub, ki_mul, ki_neg, kl_add, kl_sub, kl_mul, kl_neg, ki_i2l, kl_l2i, ki_lt, ki_le, ki_eq, kcmp_eq, kcmp_lt, kcmp_le, kcmp_gt, kcmp_ge, Option.bind_some, Option.map_some, kbool0, kbool1, if_pos, if_neg, if_true, if_false, Int.neg_neg, Int.sub_zero, Int.add_zero, Int.zero_add, true_and, and_true, false_and, and_false, false_or, or_false, true_or, or_true, ne_eq, not_false_eq_true, not_true_eq_false]
      · rw [if_neg q]
        simp (disch := omega) only [b_X6_tokenEnd_16, b_X6_tokenEnd_37, b_X6_tokenEnd_51, krcv hX.y2, d, ki_0, ki_1, ki_2, ki_3, ki_4, ki_5, ki_6, ki_7, ki_8, ki_9, ki_10, ki_11, ki_12, ki_13, ki_18, ki_20, ki_24, ki_32, ki_36, ki_45, ki_47, ki_48, ki_50, ki_57, ki_60, ki_63, ki_99, ki_100, ki_101, ki_120, ki_255, ki_468, ki_1000, ki_1024, ki_13849, ki_25173, ki_65535, ki_65536, ki_100000, ki_100001, ki_2147483647, ki_2147483648, kl_0, kl_1, kl_2, kl_9223372036854775808, ki_add, ki_sub, ki_mul, ki_neg, kl_add, kl_sub, kl_mul, kl_neg, ki_i2l, kl_l2i, ki_lt, ki_le, ki_eq, kcmp_eq, kcmp_lt, kcmp_le, kcmp_gt, kcmp_ge, Option.bind_some, Option.map_some, kbool0, kbool1, if_pos, if_neg, if_true, if_false, Int.neg_neg, Int.sub_zero, Int.add_zero, Int.zero_add, true_and, and_true, false_and, and_false, false_or, or_false, true_or, or_true, ne_eq, not_false_eq_true, not_true_eq_false]
    · by_cases q : e ≤ a
      · rw [if_pos q]
        simp (disch := omega) only [b_X6_tokenEnd_16, b_X6_tokenEnd_37, b_X6_tokenEnd_51, ki_0, ki_1, ki_2, ki_3, ki_4, ki_5, ki_6, ki_7, ki_8, ki_9, ki_10, ki_11, ki_12, ki_13, ki_18, ki_20, ki_24, ki_32, ki_36, ki_45, ki_47, ki_48, ki_50, ki_57, ki_60, ki_63, ki_99, ki_100, ki_101, ki_120, ki_255, ki_468, ki_1000, ki_1024, ki_13849, ki_25173, ki_65535, ki_65536, ki_100000, ki_100001, ki_2147483647, ki_2147483648, kl_0, kl_1, kl_2, kl_9223372036854775808, ki_add, ki_sub, ki_mul, ki_neg, kl_add, kl_sub, kl_mul, kl_neg, ki_i2l, kl_l2i, ki_lt, ki_le, ki_eq, kcmp_eq, kcmp_lt, kcmp_le, kcmp_gt, kcmp_ge, Option.bind_some, Option.map_some, kbool0, kbool1, if_pos, if_neg, if_true, if_false, Int.neg_neg, Int.sub_zero, Int.add_zero, Int.zero_add, true_and, and_true, false_and, and_false, false_or, or_false, true_or, or_true, ne_eq, not_false_eq_true, not_true_eq_false]
      · rw [if_neg q]
        simp (disch := omega) only [b_X6_tokenEnd_16, b_X6_tokenEnd_37, b_X6_tokenEnd_51, ki_0, ki_1, ki_2, ki_3, ki_4, ki_5, ki_6, ki_7, ki_8, ki_9, ki_10, ki_11, ki_12, ki_13, ki_18, ki_20, ki_24, ki_32, ki_36, ki_45, ki_47, ki_48, ki_50, ki_57, ki_60, ki_63, ki_99, ki_100, ki_101, ki_120, ki_255, ki_468, ki_1000, ki_1024, ki_13849, ki_25173, ki_65535, ki_65536, ki_100000, ki_100001, ki_2147483647, ki_2147483648, kl_0, kl_1, kl_2, kl_9223372036854775808, ki_add, ki_sub, ki_mul, ki_neg, kl_add, kl_sub, kl_mul, kl_neg, ki_i2l, kl_l2i, ki_lt, ki_le, ki_eq, kcmp_eq, kcmp_lt, kcmp_le, kcmp_gt, kcmp_ge, Option.bind_some, Option.map_some, kbool0, kbool1, if_pos, if_neg, if_true, if_false, Int.neg_neg, Int.sub_zero, Int.add_zero, Int.zero_add, true_and, and_true, false_and, and_false, false_or, or_false, true_or, or_true, ne_eq, not_false_eq_true, not_true_eq_false]
theorem X6_tokenEnd {Y : jY} {ν : jM} (hX : kX Y ν) {l : Int} {T : Int → Int} (h : txX ν l T) {a s e L : Int} (a0 : 0 ≤ a) (aL : a < L) (hs : s = if T a = 45 then a + 1 else a) (se : s ≤ e) (eL : e ≤ L) (Ll : L ≤ l) (L6 : L ≤ 60) (hd : ∀ x, s ≤ x → x < e → 48 ≤ T x ∧ T x ≤ 57) (hn : e < L → ¬ (48 ≤ T e ∧ T e ≤ 57)) : f_X6_tokenEnd Y 4 2 (ki a) (ki L) ν = some (ki (if e ≤ a then a + 1 else e), ν) := by
  have b := X5_byteAt hX h (x := a) a0 (by omega)
  have bv := h.2.2.1 a
  have as : a ≤ s := by
    rw [hs]
    split <;> omega
  have lp := X6_endLoop hX h a0 as se eL Ll L6 hd hn
  generalize (if e ≤ a then a + 1 else e) = r at *
  clear hd hn
  generalize T a = v at *
  by_cases c : v = 45
  · rw [if_pos c] at hs
    subst c
    subst hs
    simp (disch := omega) only [f_X6_tokenEnd, krcv hX.y2, b, ki_0, ki_1, ki_2, ki_3, ki_4, ki_5, ki_6, ki_7, ki_8, ki_9, ki_10, ki_11, ki_12, ki_13, ki_18, ki_20, ki_24, ki_32, ki_36, ki_45, ki_47, ki_48, ki_50, ki_57, ki_60, ki_63, ki_99, ki_100, ki_101, ki_120, ki_255, ki_468, ki_1000, ki_1024, ki_13849, ki_25173, ki_65535, ki_65536, ki_100000, ki_100001, ki_2147483647, ki_2147483648, kl_0, kl_1, kl_2, kl_9223372036854775808, ki_add, ki_sub, ki_mul, ki_neg, kl_add, kl_sub, kl_mul, kl_neg, ki_i2l, kl_l2i, ki_lt, ki_le, ki_eq, kcmp_eq, kcmp_lt, kcmp_le, kcmp_gt, kcmp_ge, Option.bind_some, Option.map_some, kbool0, kbool1, if_pos, if_neg, if_true, if_false, Int.neg_neg, Int.sub_zero, Int.add_zero, Int.zero_add, true_and, and_true, false_and, and_false, false_or, or_false, true_or, or_true, ne_eq, not_false_eq_true, not_true_eq_false]
    exact lp
  · rw [if_neg c] at hs
    subst hs
    simp (disch := omega) only [f_X6_tokenEnd, krcv hX.y2, b, ki_0, ki_1, ki_2, ki_3, ki_4, ki_5, ki_6, ki_7, ki_8, ki_9, ki_10, ki_11, ki_12, ki_13, ki_18, ki_20, ki_24, ki_32, ki_36, ki_45, ki_47, ki_48, ki_50, ki_57, ki_60, ki_63, ki_99, ki_100, ki_101, ki_120, ki_255, ki_468, ki_1000, ki_1024, ki_13849, ki_25173, ki_65535, ki_65536, ki_100000, ki_100001, ki_2147483647, ki_2147483648, kl_0, kl_1, kl_2, kl_9223372036854775808, ki_add, ki_sub, ki_mul, ki_neg, kl_add, kl_sub, kl_mul, kl_neg, ki_i2l, kl_l2i, ki_lt, ki_le, ki_eq, kcmp_eq, kcmp_lt, kcmp_le, kcmp_gt, kcmp_ge, Option.bind_some, Option.map_some, kbool0, kbool1, if_pos, if_neg, if_true, if_false, Int.neg_neg, Int.sub_zero, Int.add_zero, Int.zero_add, true_and, and_true, false_and, and_false, false_or, or_false, true_or, or_true, ne_eq, not_false_eq_true, not_true_eq_false]
    exact lp
theorem X6_numLoop {Y : jY} {ν : jM} (hX : kX Y ν) {l : Int} {T : Int → Int} (h : txX ν l T) {s e b : Int} (s0 : 0 ≤ s) (se : s ≤ e) (eL : e ≤ l) (e6 : e ≤ 60) (hd : ∀ x, s ≤ x → x < e → 48 ≤ T x ∧ T x ≤ 57) (hb : b = 0 ∨ b = 1) : jit jF (fun (q : Int32 × Int32 × jM) => b_X6_numberOf_34 Y 2 (ki e) (ki b) q.1 q.2.1 q.2.2) (ki 0, ki s, ν) = some (ki (if b = 1 then -(nv T s (e - s).toNat) else nv T s (e - s).toNat), ν) := by
  refine jit_run (fun i => (ki (nv T s i), ki (s + i), ν)) _ (e - s).toNat (by show (ki 0, ki s, ν) = (ki 0, ki (s + ((0 : Nat) : Int)), ν); rw [show s + ((0 : Nat) : Int) = s by omega]) (by omega) (fun i hi => ?_) ?_
  · show b_X6_numberOf_34 Y 2 (ki e) (ki b) (ki (nv T s i)) (ki (s + i)) ν = some (.inl (ki (nv T s (i + 1)), ki (s + ((i + 1 : Nat) : Int)), ν))
    rw [show s + ((i + 1 : Nat) : Int) = s + i + 1 by omega]
    have bn := (nv_rv (T := T) (s := s) i (fun x a b => hd x a (by omega))).1
    have e1 : nv T s (i + 1) = if 10 * nv T s i + T (s + i) - 48 < 1000 then 10 * nv T s i + T (s + i) - 48 else 1000 := rfl
    rw [e1]
    clear e1
    generalize nv T s i = c at *
    obtain ⟨y, hy⟩ : ∃ y, y = s + (i : Int) := ⟨_, rfl⟩
    rw [← hy]
    have d := X5_byteAt hX h (x := y) (by omega) (by omega)
    have dv := hd y (by omega) (by omega)
    clear hd
    generalize T y = v at *
    simp (disch := omega) only [b_X6_numberOf_34, krcv hX.y2, d, kmin, ki_0, ki_1, ki_2, ki_3, ki_4, ki_5, ki_6, ki_7, ki_8, ki_9, ki_10, ki_11, ki_12, ki_13, ki_18, ki_20, ki_24, ki_32, ki_36, ki_45, ki_47, ki_48, ki_50, ki_57, ki_60, ki_63, ki_99, ki_100, ki_101, ki_120, ki_255, ki_468, ki_1000, ki_1024, ki_13849, ki_25173, ki_65535, ki_65536, ki_100000, ki_100001, ki_2147483647, ki_2147483648, kl_0, kl_1, kl_2, kl_9223372036854775808, ki_add, ki_sub, ki_mul, ki_neg, kl_add, kl_sub, kl_mul, kl_neg, ki_i2l, kl_l2i, ki_lt, ki_le, ki_eq, kcmp_eq, kcmp_lt, kcmp_le, kcmp_gt, kcmp_ge, Option.bind_some, Option.map_some, kbool0, kbool1, if_pos, if_neg, if_true, if_false, Int.neg_neg, Int.sub_zero, Int.add_zero, Int.zero_add, true_and, and_true, false_and, and_false, false_or, or_false, true_or, or_true, ne_eq, not_false_eq_true, not_true_eq_false]
  · show b_X6_numberOf_34 Y 2 (ki e) (ki b) (ki (nv T s (e - s).toNat)) (ki (s + ((e - s).toNat : Int))) ν = _
    rw [show s + ((e - s).toNat : Int) = e by omega]
    generalize nv T s (e - s).toNat = c at *
    rcases hb with rfl | rfl
    · simp (disch := omega) only [b_X6_numberOf_34, b_X6_numberOf_82, ki_0, ki_1, ki_2, ki_3, ki_4, ki_5, ki_6, ki_7, ki_8, ki_9, ki_10, ki_11, ki_12, ki_13, ki_18, ki_20, ki_24, ki_32, ki_36, ki_45, ki_47, ki_48, ki_50, ki_57, ki_60, ki_63, ki_99, ki_100, ki_101, ki_120, ki_255, ki_468, ki_1000, ki_1024, ki_13849, ki_25173, ki_65535, ki_65536, ki_100000, ki_100001, ki_2147483647, ki_2147483648, kl_0, kl_1, kl_2, kl_9223372036854775808, ki_add, ki_sub, ki_mul, ki_neg, kl_add, kl_sub, kl_mul, kl_neg, ki_i2l, kl_l2i, ki_lt, ki_le, ki_eq, kcmp_eq, kcmp_lt, kcmp_le, kcmp_gt, kcmp_ge, Option.bind_some, Option.map_some, kbool0, kbool1, if_pos, if_neg, if_true, if_false, Int.neg_neg, Int.sub_zero, Int.add_zero, Int.zero_add, true_and, and_true, false_and, and_false, false_or, or_false, true_or, or_true, ne_eq, not_false_eq_true, not_true_eq_false]
    · simp (disch := omega) only [b_X6_numberOf_34, b_X6_numberOf_82, ki_0, ki_1, ki_2, ki_3, ki_4, ki_5, ki_6, ki_7, ki_8, ki_9, ki_10, ki_11, ki_12, ki_13, ki_18, ki_20, ki_24, ki_32, ki_36, ki_45, ki_47, ki_48, ki_50, ki_57, ki_60, ki_63, ki_99, ki_100, ki_101, ki_120, ki_255, ki_468, ki_1000, ki_1024, ki_13849, ki_25173, ki_65535, ki_65536, ki_100000, ki_100001, ki_2147483647, ki_2147483648, kl_0, kl_1, kl_2, kl_9223372036854775808, ki_add, ki_sub, ki_mul, ki_neg, kl_add, kl_sub, kl_mul, kl_neg, ki_i2l, kl_l2i, ki_lt, ki_le, ki_eq, kcmp_eq, kcmp_lt, kcmp_le, kcmp_gt, kcmp_ge, Option.bind_some, Option.map_some, kbool0, kbool1, if_pos, if_neg, if_true, if_false, Int.neg_neg, Int.sub_zero, Int.add_zero, Int.zero_add, true_and, and_true, false_and, and_false, false_or, or_false, true_or, or_true, ne_eq, not_false_eq_true, not_true_eq_false]
def nmX (T : Int → Int) (a e : Int) : Int := if T a = 45 then -(nv T (a + 1) (e - (a + 1)).toNat) else nv T a (e - a).toNat
theorem X6_numberOf {Y : jY} {ν : jM} (hX : kX Y ν) {l : Int} {T : Int → Int} (h : txX ν l T) {a s e : Int} (a0 : 0 ≤ a) (hs : s = if T a = 45 then a + 1 else a) (se : s ≤ e) (ae : a < e) (eL : e ≤ l) (e6 : e ≤ 60) (hd : ∀ x, s ≤ x → x < e → 48 ≤ T x ∧ T x ≤ 57) : f_X6_numberOf Y 4 2 (ki a) (ki e) ν = some (ki (nmX T a e), ν) := by
  have b := X5_byteAt hX h (x := a) a0 (by omega)
  have bv := h.2.2.1 a
  unfold nmX
  by_cases c : T a = 45
  · rw [if_pos c] at hs ⊢
    subst hs
    have lp := X6_numLoop hX h (b := 1) (by omega) se eL e6 hd (Or.inr rfl)
    rw [if_pos rfl] at lp
    clear hd
    rw [c] at b
    simp (disch := omega) only [f_X6_numberOf, b_X6_numberOf_15, b_X6_numberOf_32, krcv hX.y2, b, ki_0, ki_1, ki_2, ki_3, ki_4, ki_5, ki_6, ki_7, ki_8, ki_9, ki_10, ki_11, ki_12, ki_13, ki_18, ki_20, ki_24, ki_32, ki_36, ki_45, ki_47, ki_48, ki_50, ki_57, ki_60, ki_63, ki_99, ki_100, ki_101, ki_120, ki_255, ki_468, ki_1000, ki_1024, ki_13849, ki_25173, ki_65535, ki_65536, ki_100000, ki_100001, ki_2147483647, ki_2147483648, kl_0, kl_1, kl_2, kl_9223372036854775808, ki_add, ki_sub, ki_mul, ki_neg, kl_add, kl_sub, kl_mul, kl_neg, ki_i2l, kl_l2i, ki_lt, ki_le, ki_eq, kcmp_eq, kcmp_lt, kcmp_le, kcmp_gt, kcmp_ge, Option.bind_some, Option.map_some, kbool0, kbool1, if_pos, if_neg, if_true, if_false, Int.neg_neg, Int.sub_zero, Int.add_zero, Int.zero_add, true_and, and_true, false_and, and_false, false_or, or_false, true_or, or_true, ne_eq, not_false_eq_true, not_true_eq_false]
    exact lp
  · rw [if_neg c] at hs ⊢
    subst hs
    have lp := X6_numLoop hX h (b := 0) (by omega) se eL e6 hd (Or.inl rfl)
    rw [if_neg (by omega)] at lp
    clear hd
    generalize T s = v at *
    simp (disch := omega) only [f_X6_numberOf, b_X6_numberOf_15, b_X6_numberOf_32, krcv hX.y2, b, ki_0, ki_1, ki_2, ki_3, ki_4, ki_5, ki_6, ki_7, ki_8, ki_9, ki_10, ki_11, ki_12, ki_13, ki_18, ki_20, ki_24, ki_32, ki_36, ki_45, ki_47, ki_48, ki_50, ki_57, ki_60, ki_63, ki_99, ki_100, ki_101, ki_120, ki_255, ki_468, ki_1000, ki_1024, ki_13849, ki_25173, ki_65535, ki_65536, ki_100000, ki_100001, ki_2147483647, ki_2147483648, kl_0, kl_1, kl_2, kl_9223372036854775808, ki_add, ki_sub, ki_mul, ki_neg, kl_add, kl_sub, kl_mul, kl_neg, ki_i2l, kl_l2i, ki_lt, ki_le, ki_eq, kcmp_eq, kcmp_lt, kcmp_le, kcmp_gt, kcmp_ge, Option.bind_some, Option.map_some, kbool0, kbool1, if_pos, if_neg, if_true, if_false, Int.neg_neg, Int.sub_zero, Int.add_zero, Int.zero_add, true_and, and_true, false_and, and_false, false_or, or_false, true_or, or_true, ne_eq, not_false_eq_true, not_true_eq_false]
    exact lp
/-- the reader's state, and what is so of it -/
def scX (ν : jM) (z p c d q : Int) (f g : Int → Int) : Prop := (gi ν 4 2 = c ∧ gi ν 4 3 = d ∧ gi ν 4 4 = z ∧ gi ν 4 5 = p ∧ gi ν 4 6 = q) ∧ (∀ x : Int, 0 ≤ x → x < c → gi ν 5 x = f x) ∧ ∀ x : Int, 0 ≤ x → x < d → gi ν 6 x = g x
def scW (z p c d : Int) (f g : Int → Int) : Prop := ((z = 0 ∨ z = 1) ∧ (p = 0 ∨ p = 1) ∧ 0 ≤ c ∧ c ≤ 5 - z ∧ 0 ≤ d ∧ (p = 0 → d = 0) ∧ (p = 1 → 1 ≤ c ∧ d ≤ c - 1)) ∧ (∀ x : Int, 0 ≤ x → x < c → -6 ≤ f x ∧ f x ≤ 6) ∧ ∀ x : Int, 0 ≤ x → x < d → (-6 ≤ g x ∧ g x ≤ 36) ∧ (z = 0 → 1 ≤ g x) ∧ (z = 1 → f x < g x ∧ g x < f (x + 1))
def stf (f : Int → Int) (i v : Int) : Int → Int := fun x => if x = i then v else f x
def rF (z c : Int) (f : Int → Int) (v : Int) : Int := if v < -6 ∨ 6 < v then 2 else if 5 - z ≤ c then 3 else if z = 1 ∧ 0 < c ∧ v ≤ f (c - 1) then 4 else 0
def rS (z c d : Int) (f g : Int → Int) (v : Int) : Int := if (z = 0 ∧ (v < 1 ∨ 36 < v)) ∨ (z = 1 ∧ (v < -6 ∨ 6 < v)) then 2 else if c - 1 ≤ d then 3 else if z = 1 ∧ 0 < d ∧ v ≤ g (d - 1) then 4 else if z = 1 ∧ (v ≤ f d ∨ f (d + 1) ≤ v) then 5 else 0
theorem X6_put5 {Y : jY} {ν : jM} (hX : kX Y ν) {z p c d q : Int} {f g : Int → Int} (h : scX ν z p c d q f g) (c0 : 0 ≤ c) (c5 : c < 5) {v : Int} (v1 : -1000 ≤ v) (v2 : v ≤ 1000) : ∃ ω, b_X6_faultOfFirst_65 Y 4 (ki v) ν = some (ki 0, ω) ∧ kF 4 7 ν ω ∧ scX ω z p (c + 1) d q (stf f c v) g := by
  obtain ⟨⟨h1, h2, h3, h4, h5⟩, h6, h7⟩ := h
  have g2 := kX.g4_2 hX
  rw [h1] at g2
  have F1 : kF 4 7 ν (jw ν 5 c.toNat (.int (ki v))) := kF_I ((kX.a5 hX).2.2.2 _ (by omega)) (by omega) (by omega)
  have w1 := fun a x => gi_jw (μ := ν) (o := 5) (k := c.toNat) (v := v) a x (by omega) (by omega)
  have hX1 := hX.to F1
  generalize hν1 : jw ν 5 c.toNat (.int (ki v)) = ν1 at *
  have g2' := kX.g4_2 hX1
  rw [w1, if_neg (by omega), h1] at g2'
  have F2 : kF 4 7 ν1 (jw ν1 4 2 (.int (ki (c + 1)))) := kF_I (kX.i4_2 hX1) (by omega) (by omega)
  have w2 := fun a x => gi_jw (μ := ν1) (o := 4) (k := 2) (v := c + 1) a x (by omega) (by omega)
  generalize hν2 : jw ν1 4 2 (.int (ki (c + 1))) = ν2 at *
  refine ⟨ν2, ?_, F1.trans F2, ⟨?_, ?_, ?_, ?_, ?_⟩, fun x x1 x2 => ?_, fun x x1 x2 => ?_⟩
  · clear w1 w2
    simp (disch := omega) only [b_X6_faultOfFirst_65, kX.o4_0 hX, g2, kasI (kX.a5 hX), hν1, g2', kX.p4 hX, hν2, ki_0, ki_1, ki_2, ki_3, ki_4, ki_5, ki_6, ki_7, ki_8, ki_9, ki_10, ki_11, ki_12, ki_13, ki_18, ki_20, ki_24, ki_32, ki_36, ki_45, ki_47, ki_48, ki_50, ki_57, ki_60, ki_63, ki_99, ki_100, ki_101, ki_120, ki_255, ki_468, ki_1000, ki_1024, ki_13849, ki_25173, ki_65535, ki_65536, ki_100000, ki_100001, ki_2147483647, ki_2147483648, kl_0, kl_1, kl_2, kl_9223372036854775808, ki_add, ki_sub, ki_mul, ki_neg, kl_add, kl_sub, kl_mul, kl_neg, ki_i2l, kl_l2i, ki_lt, ki_le, ki_eq, kcmp_eq, kcmp_lt, kcmp_le, kcmp_gt, kcmp_ge, Option.bind_some, Option.map_some, kbool0, kbool1, if_pos, if_neg, if_true, if_false, Int.neg_neg, Int.sub_zero, Int.add_zero, Int.zero_add, true_and, and_true, false_and, and_false, false_or, or_false, true_or, or_true, ne_eq, not_false_eq_true, not_true_eq_false]
  · rw [w2, if_pos ⟨rfl, rfl⟩]
  · rw [w2, if_neg (by omega), w1, if_neg (by omega)]; exact h2
  · rw [w2, if_neg (by omega), w1, if_neg (by omega)]; exact h3
  · rw [w2, if_neg (by omega), w1, if_neg (by omega)]; exact h4
  · rw [w2, if_neg (by omega), w1, if_neg (by omega)]; exact h5
  · rw [w2, if_neg (by omega), w1]
    unfold stf
    by_cases e : x = c
    · rw [if_pos e, if_pos ⟨rfl, by omega⟩]
    · rw [if_neg e, if_neg (by omega)]
      exact h6 x x1 (by omega)
  · rw [w2, if_neg (by omega), w1, if_neg (by omega)]
    exact h7 x x1 x2
theorem X6_put6 {Y : jY} {ν : jM} (hX : kX Y ν) {z p c d q : Int} {f g : Int → Int} (h : scX ν z p c d q f g) (d0 : 0 ≤ d) (d4 : d < 4) {v : Int} (v1 : -1000 ≤ v) (v2 : v ≤ 1000) : ∃ ω, b_X6_faultOfSecond_115 Y 4 (ki v) ν = some (ki 0, ω) ∧ kF 4 7 ν ω ∧ scX ω z p c (d + 1) q f (stf g d v) := by
  obtain ⟨⟨h1, h2, h3, h4, h5⟩, h6, h7⟩ := h
  have g2 := kX.g4_3 hX
  rw [h2] at g2
  have F1 : kF 4 7 ν (jw ν 6 d.toNat (.int (ki v))) := kF_I ((kX.a6 hX).2.2.2 _ (by omega)) (by omega) (by omega)
  have w1 := fun a x => gi_jw (μ := ν) (o := 6) (k := d.toNat) (v := v) a x (by omega) (by omega)
  have hX1 := hX.to F1
  generalize hν1 : jw ν 6 d.toNat (.int (ki v)) = ν1 at *
  have g2' := kX.g4_3 hX1
  rw [w1, if_neg (by omega), h2] at g2'
  have F2 : kF 4 7 ν1 (jw ν1 4 3 (.int (ki (d + 1)))) := kF_I (kX.i4_3 hX1) (by omega) (by omega)
  have w2 := fun a x => gi_jw (μ := ν1) (o := 4) (k := 3) (v := d + 1) a x (by omega) (by omega)
  generalize hν2 : jw ν1 4 3 (.int (ki (d + 1))) = ν2 at *
  refine ⟨ν2, ?_, F1.trans F2, ⟨?_, ?_, ?_, ?_, ?_⟩, fun x x1 x2 => ?_, fun x x1 x2 => ?_⟩
  · clear w1 w2
    simp (disch := omega) only [b_X6_faultOfSecond_115, kX.o4_1 hX, g2, kasI (kX.a6 hX), hν1, g2', kX.p4 hX, hν2, ki_0, ki_1, ki_2, ki_3, ki_4, ki_5, ki_6, ki_7, ki_8, ki_9, ki_10, ki_11, ki_12, ki_13, ki_18, ki_20, ki_24, ki_32, ki_36, ki_45, ki_47, ki_48, ki_50, ki_57, ki_60, ki_63, ki_99, ki_100, ki_101, ki_120, ki_255, ki_468, ki_1000, ki_1024, ki_13849, ki_25173, ki_65535, ki_65536, ki_100000, ki_100001, ki_2147483647, ki_2147483648, kl_0, kl_1, kl_2, kl_9223372036854775808, ki_add, ki_sub, ki_mul, ki_neg, kl_add, kl_sub, kl_mul, kl_neg, ki_i2l, kl_l2i, ki_lt, ki_le, ki_eq, kcmp_eq, kcmp_lt, kcmp_le, kcmp_gt, kcmp_ge, Option.bind_some, Option.map_some, kbool0, kbool1, if_pos, if_neg, if_true, if_false, Int.neg_neg, Int.sub_zero, Int.add_zero, Int.zero_add, true_and, and_true, false_and, and_false, false_or, or_false, true_or, or_true, ne_eq, not_false_eq_true, not_true_eq_false]
  · rw [w2, if_neg (by decide), w1, if_neg (by omega)]; exact h1
  · rw [w2, if_pos ⟨rfl, rfl⟩]
  · rw [w2, if_neg (by decide), w1, if_neg (by omega)]; exact h3
  · rw [w2, if_neg (by decide), w1, if_neg (by omega)]; exact h4
  · rw [w2, if_neg (by decide), w1, if_neg (by omega)]; exact h5
  · rw [w2, if_neg (by omega), w1, if_neg (by omega)]
    exact h6 x x1 x2
  · rw [w2, if_neg (by omega), w1]
    unfold stf
    by_cases e : x = d
    · rw [if_pos e, if_pos ⟨rfl, by omega⟩]
    · rw [if_neg e, if_neg (by omega)]
      exact h7 x x1 (by omega)
set_option maxHeartbeats 1000000 in
theorem X6_first {Y : jY} {ν : jM} (hX : kX Y ν) {z p c d q : Int} {f g : Int → Int} (h : scX ν z p c d q f g) (w : scW z p c d f g) {v : Int} (v1 : -1000 ≤ v) (v2 : v ≤ 1000) : ∃ ω, f_X6_faultOfFirst Y 4 (ki v) ν = some (ki (rF z c f v), ω) ∧ kF 4 7 ν ω ∧ (rF z c f v = 0 → scX ω z p (c + 1) d q (stf f c v) g) := by
  obtain ⟨⟨hz, hp, c0, c1, d0, w1, w2⟩, w3, w4⟩ := w
  have g2 := kX.g4_2 hX
  rw [h.1.1] at g2
  have g4 := kX.g4_4 hX
  rw [h.1.2.2.1] at g4
  by_cases b : v < -6 ∨ 6 < v
  · have r : rF z c f v = 2 := if_pos b
    rw [r]
    refine ⟨ν, ?_, kF.refl, fun e => by omega⟩
    simp (disch := omega) only [f_X6_faultOfFirst, X11_within, ki_0, ki_1, ki_2, ki_3, ki_4, ki_5, ki_6, ki_7, ki_8, ki_9, ki_10, ki_11, ki_12, ki_13, ki_18, ki_20, ki_24, ki_32, ki_36, ki_45, ki_47, ki_48, ki_50, ki_57, ki_60, ki_63, ki_99, ki_100, ki_101, ki_120, ki_255, ki_468, ki_1000, ki_1024, ki_13849, ki_25173, ki_65535, ki_65536, ki_100000, ki_100001, ki_2147483647, ki_2147483648, kl_0, kl_1, kl_2, kl_9223372036854775808, ki_add, ki_sub, ki_mul, ki_neg, kl_add, kl_sub, kl_mul, kl_neg, ki_i2l, kl_l2i, ki_lt, ki_le, ki_eq, kcmp_eq, kcmp_lt, kcmp_le, kcmp_gt, kcmp_ge, Option.bind_some, Option.map_some, kbool0, kbool1, if_pos, if_neg, if_true, if_false, Int.neg_neg, Int.sub_zero, Int.add_zero, Int.zero_add, true_and, and_true, false_and, and_false, false_or, or_false, true_or, or_true, ne_eq, not_false_eq_true, not_true_eq_false]
  · by_cases s : 5 - z ≤ c
    · have r : rF z c f v = 3 := by
        unfold rF
        rw [if_neg b, if_pos s]
      rw [r]
      refine ⟨ν, ?_, kF.refl, fun e => by omega⟩
      rcases hz with rfl | rfl
      · simp (disch := omega) only [f_X6_faultOfFirst, b_X6_faultOfFirst_29, X11_within, g2, g4, ki_0, ki_1, ki_2, ki_3, ki_4, ki_5, ki_6, ki_7, ki_8, ki_9, ki_10, ki_11, ki_12, ki_13, ki_18, ki_20, ki_24, ki_32, ki_36, ki_45, ki_47, ki_48, ki_50, ki_57, ki_60, ki_63, ki_99, ki_100, ki_101, ki_120, ki_255, ki_468, ki_1000, ki_1024, ki_13849, ki_25173, ki_65535, ki_65536, ki_100000, ki_100001, ki_2147483647, ki_2147483648, kl_0, kl_1, kl_2, kl_9223372036854775808, ki_add, ki_sub, ki_mul, ki_neg, kl_add, kl_sub, kl_mul, kl_neg, ki_i2l, kl_l2i, ki_lt, ki_le, ki_eq, kcmp_eq, kcmp_lt, kcmp_le, kcmp_gt, kcmp_ge, Option.bind_some, Option.map_some, kbool0, kbool1, if_pos, if_neg, if_true, if_false, Int.neg_neg, Int.sub_zero, Int.add_zero, Int.zero_add, true_and, and_true, false_and, and_false, false_or, or_false, true_or, or_true, ne_eq, not_false_eq_true, not_true_eq_false]
      · simp (disch := omega) only [f_X6_faultOfFirst, b_X6_faultOfFirst_29, X11_within, g2, g4, ki_0, ki_1, ki_2, ki_3, ki_4, ki_5, ki_6, ki_7, ki_8, ki_9, ki_10, ki_11, ki_12, ki_13, ki_18, ki_20, ki_24, ki_32, ki_36, ki_45, ki_47, ki_48, ki_50, ki_57, ki_60, ki_63, ki_99, ki_100, ki_101, ki_120, ki_255, ki_468, ki_1000, ki_1024, ki_13849, ki_25173, ki_65535, ki_65536, ki_100000, ki_100001, ki_2147483647, ki_2147483648, kl_0, kl_1, kl_2, kl_9223372036854775808, ki_add, ki_sub, ki_mul, ki_neg, kl_add, kl_sub, kl_mul, kl_neg, ki_i2l, kl_l2i, ki_lt, ki_le, ki_eq, kcmp_eq, kcmp_lt, kcmp_le, kcmp_gt, kcmp_ge, Option.bind_some, Option.map_some, kbool0, kbool1, if_pos, if_neg, if_true, if_false, Int.neg_neg, Int.sub_zero, Int.add_zero, Int.zero_add, true_and, and_true, false_and, and_false, false_or, or_false, true_or, or_true, ne_eq, not_false_eq_true, not_true_eq_false]
    · by_cases t : z = 1 ∧ 0 < c ∧ v ≤ f (c - 1)
      · have r : rF z c f v = 4 := by
          unfold rF
          rw [if_neg b, if_neg s, if_pos t]
        rw [r]
        refine ⟨ν, ?_, kF.refl, fun e => by omega⟩
        obtain ⟨rfl, t2, t3⟩ := t
        have a := kaI (kX.a5 hX) (x := c - 1) (by omega) (by omega)
        rw [h.2.1 (c - 1) (by omega) (by omega)] at a
        have bf := w3 (c - 1) (by omega) (by omega)
        clear r w3 w4 h
        generalize f (c - 1) = y at *
        simp (disch := omega) only [f_X6_faultOfFirst, b_X6_faultOfFirst_29, X11_within, g2, g4, kX.o4_0 hX, a, ki_0, ki_1, ki_2, ki_3, ki_4, ki_5, ki_6, ki_7, ki_8, ki_9, ki_10, ki_11, ki_12, ki_13, ki_18, ki_20, ki_24, ki_32, ki_36, ki_45, ki_47, ki_48, ki_50, ki_57, ki_60, ki_63, ki_99, ki_100, ki_101, ki_120, ki_255, ki_468, ki_1000, ki_1024, ki_13849, ki_25173, ki_65535, ki_65536, ki_100000, ki_100001, ki_2147483647, ki_2147483648, kl_0, kl_1, kl_2, kl_9223372036854775808, ki_add, ki_sub, ki_mul, ki_neg, kl_add, kl_sub, kl_mul, kl_neg, ki_i2l, kl_l2i, ki_lt, ki_le, ki_eq, kcmp_eq, kcmp_lt, kcmp_le, kcmp_gt, kcmp_ge, Option.bind_some, Option.map_some, kbool0, kbool1, if_pos, if_neg, if_true, if_false, Int.neg_neg, Int.sub_zero, Int.add_zero, Int.zero_add, true_and, and_true, false_and, and_false, false_or, or_false, true_or, or_true, ne_eq, not_false_eq_true, not_true_eq_false]
      · have r : rF z c f v = 0 := by
          unfold rF
          rw [if_neg b, if_neg s, if_neg t]
        rw [r]
        obtain ⟨ω, e1, e2, e3⟩ := X6_put5 hX h c0 (by omega) v1 v2
        refine ⟨ω, ?_, e2, fun _ => e3⟩
        rcases hz with rfl | rfl
        · clear r w3 w4 h e3
          simp (disch := omega) only [f_X6_faultOfFirst, b_X6_faultOfFirst_29, X11_within, g2, g4, e1, ki_0, ki_1, ki_2, ki_3, ki_4, ki_5, ki_6, ki_7, ki_8, ki_9, ki_10, ki_11, ki_12, ki_13, ki_18, ki_20, ki_24, ki_32, ki_36, ki_45, ki_47, ki_48, ki_50, ki_57, ki_60, ki_63, ki_99, ki_100, ki_101, ki_120, ki_255, ki_468, ki_1000, ki_1024, ki_13849, ki_25173, ki_65535, ki_65536, ki_100000, ki_100001, ki_2147483647, ki_2147483648, kl_0, kl_1, kl_2, kl_9223372036854775808, ki_add, ki_sub, ki_mul, ki_neg, kl_add, kl_sub, kl_mul, kl_neg, ki_i2l, kl_l2i, ki_lt, ki_le, ki_eq, kcmp_eq, kcmp_lt, kcmp_le, kcmp_gt, kcmp_ge, Option.bind_some, Option.map_some, kbool0, kbool1, if_pos, if_neg, if_true, if_false, Int.neg_neg, Int.sub_zero, Int.add_zero, Int.zero_add, true_and, and_true, false_and, and_false, false_or, or_false, true_or, or_true, ne_eq, not_false_eq_true, not_true_eq_false]
        · by_cases t2 : 0 < c
          · have a := kaI (kX.a5 hX) (x := c - 1) (by omega) (by omega)
            rw [h.2.1 (c - 1) (by omega) (by omega)] at a
            have bf := w3 (c - 1) (by omega) (by omega)
            clear r w3 w4 h e3
            generalize f (c - 1) = y at *
            simp (disch := omega) only [f_X6_faultOfFirst, b_X6_faultOfFirst_29, X11_within, g2, g4, kX.o4_0 hX, a, e1, ki_0, ki_1, ki_2, ki_3, ki_4, ki_5, ki_6, ki_7, ki_8, ki_9, ki_10, ki_11, ki_12, ki_13, ki_18, ki_20, ki_24, ki_32, ki_36, ki_45, ki_47, ki_48, ki_50, ki_57, ki_60, ki_63, ki_99, ki_100, ki_101, ki_120, ki_255, ki_468, ki_1000, ki_1024, ki_13849, ki_25173, ki_65535, ki_65536, ki_100000, ki_100001, ki_2147483647, ki_2147483648, kl_0, kl_1, kl_2, kl_9223372036854775808, ki_add, ki_sub, ki_mul, ki_neg, kl_add, kl_sub, kl_mul, kl_neg, ki_i2l, kl_l2i, ki_lt, ki_le, ki_eq, kcmp_eq, kcmp_lt, kcmp_le, kcmp_gt, kcmp_ge, Option.bind_some, Option.map_some, kbool0, kbool1, if_pos, if_neg, if_true, if_false, Int.neg_neg, Int.sub_zero, Int.add_zero, Int.zero_add, true_and, and_true, false_and, and_false, false_or, or_false, true_or, or_true, ne_eq, not_false_eq_true, not_true_eq_false]
          · clear r w3 w4 h e3 t
            simp (disch := omega) only [f_X6_faultOfFirst, b_X6_faultOfFirst_29, X11_within, g2, g4, e1, ki_0, ki_1, ki_2, ki_3, ki_4, ki_5, ki_6, ki_7, ki_8, ki_9, ki_10, ki_11, ki_12, ki_13, ki_18, ki_20, ki_24, ki_32, ki_36, ki_45, ki_47, ki_48, ki_50, ki_57, ki_60, ki_63, ki_99, ki_100, ki_101, ki_120, ki_255, ki_468, ki_1000, ki_1024, ki_13849, ki_25173, ki_65535, ki_65536, ki_100000, ki_100001, ki_2147483647, ki_2147483648, kl_0, kl_1, kl_2, kl_9223372036854775808, ki_add, ki_sub, ki_mul, ki_neg, kl_add, kl_sub, kl_mul, kl_neg, ki_i2l, kl_l2i, ki_lt, ki_le, ki_eq, kcmp_eq, kcmp_lt, kcmp_le, kcmp_gt, kcmp_ge, Option.bind_some, Option.map_some, kbool0, kbool1, if_pos, if_neg, if_true, if_false, Int.neg_neg, Int.sub_zero, Int.add_zero, Int.zero_add, true_and, and_true, false_and, and_false, false_or, or_false, true_or, or_true, ne_eq, not_false_eq_true, not_true_eq_false]
set_option maxHeartbeats 2000000 in
theorem X6_second {Y : jY} {ν : jM} (hX : kX Y ν) {z p c d q : Int} {f g : Int → Int} (h : scX ν z p c d q f g) (w : scW z p c d f g) {v : Int} (v1 : -1000 ≤ v) (v2 : v ≤ 1000) : ∃ ω, f_X6_faultOfSecond Y 4 (ki v) ν = some (ki (rS z c d f g v), ω) ∧ kF 4 7 ν ω ∧ (rS z c d f g v = 0 → scX ω z p c (d + 1) q f (stf g d v)) := by
  obtain ⟨⟨hz, hp, c0, c1, d0, w1, w2⟩, w3, w4⟩ := w
  have g2 := kX.g4_2 hX
  rw [h.1.1] at g2
  have g3 := kX.g4_3 hX
  rw [h.1.2.1] at g3
  have g4 := kX.g4_4 hX
  rw [h.1.2.2.1] at g4
  have dc : d ≤ 36 := by omega
  by_cases b : (z = 0 ∧ (v < 1 ∨ 36 < v)) ∨ (z = 1 ∧ (v < -6 ∨ 6 < v))
  · have r : rS z c d f g v = 2 := if_pos b
    rw [r]
    refine ⟨ν, ?_, kF.refl, fun e => by omega⟩
    clear r w3 w4 h
    rcases hz with rfl | rfl
    · simp (disch := omega) only [f_X6_faultOfSecond, b_X6_faultOfSecond_25, b_X6_faultOfSecond_78, b_X6_faultOfSecond_113, X11_within, g2, g3, g4, ki_0, ki_1, ki_2, ki_3, ki_4, ki_5, ki_6, ki_7, ki_8, ki_9, ki_10, ki_11, ki_12, ki_13, ki_18, ki_20, ki_24, ki_32, ki_36, ki_45, ki_47, ki_48, ki_50, ki_57, ki_60, ki_63, ki_99, ki_100, ki_101, ki_120, ki_255, ki_468, ki_1000, ki_1024, ki_13849, ki_25173, ki_65535, ki_65536, ki_100000, ki_100001, ki_2147483647, ki_2147483648, kl_0, kl_1, kl_2, kl_9223372036854775808, ki_add, ki_sub, ki_mul, ki_neg, kl_add, kl_sub, kl_mul, kl_neg, ki_i2l, kl_l2i, ki_lt, ki_le, ki_eq, kcmp_eq, kcmp_lt, kcmp_le, kcmp_gt, kcmp_ge, Option.bind_some, Option.map_some, kbool0, kbool1, if_pos, if_neg, if_true, if_false, Int.neg_neg, Int.sub_zero, Int.add_zero, Int.zero_add, true_and, and_true, false_and, and_false, false_or, or_false, true_or, or_true, ne_eq, not_false_eq_true, not_true_eq_false]
    · simp (disch := omega) only [f_X6_faultOfSecond, b_X6_faultOfSecond_25, b_X6_faultOfSecond_78, b_X6_faultOfSecond_113, X11_within, g2, g3, g4, ki_0, ki_1, ki_2, ki_3, ki_4, ki_5, ki_6, ki_7, ki_8, ki_9, ki_10, ki_11, ki_12, ki_13, ki_18, ki_20, ki_24, ki_32, ki_36, ki_45, ki_47, ki_48, ki_50, ki_57, ki_60, ki_63, ki_99, ki_100, ki_101, ki_120, ki_255, ki_468, ki_1000, ki_1024, ki_13849, ki_25173, ki_65535, ki_65536, ki_100000, ki_100001, ki_2147483647, ki_2147483648, kl_0, kl_1, kl_2, kl_9223372036854775808, ki_add, ki_sub, ki_mul, ki_neg, kl_add, kl_sub, kl_mul, kl_neg, ki_i2l, kl_l2i, ki_lt, ki_le, ki_eq, kcmp_eq, kcmp_lt, kcmp_le, kcmp_gt, kcmp_ge, Option.bind_some, Option.map_some, kbool0, kbool1, if_pos, if_neg, if_true, if_false, Int.neg_neg, Int.sub_zero, Int.add_zero, Int.zero_add, true_and, and_true, false_and, and_false, false_or, or_false, true_or, or_true, ne_eq, not_false_eq_true, not_true_eq_false]
  · by_cases s : c - 1 ≤ d
    · have r : rS z c d f g v = 3 := by
        unfold rS
        rw [if_neg b, if_pos s]
      rw [r]
      refine ⟨ν, ?_, kF.refl, fun e => by omega⟩
      clear r w3 w4 h
      rcases hz with rfl | rfl
      · simp (disch := omega) only [f_X6_faultOfSecond, b_X6_faultOfSecond_25, b_X6_faultOfSecond_78, b_X6_faultOfSecond_113, X11_within, g2, g3, g4, ki_0, ki_1, ki_2, ki_3, ki_4, ki_5, ki_6, ki_7, ki_8, ki_9, ki_10, ki_11, ki_12, ki_13, ki_18, ki_20, ki_24, ki_32, ki_36, ki_45, ki_47, ki_48, ki_50, ki_57, ki_60, ki_63, ki_99, ki_100, ki_101, ki_120, ki_255, ki_468, ki_1000, ki_1024, ki_13849, ki_25173, ki_65535, ki_65536, ki_100000, ki_100001, ki_2147483647, ki_2147483648, kl_0, kl_1, kl_2, kl_9223372036854775808, ki_add, ki_sub, ki_mul, ki_neg, kl_add, kl_sub, kl_mul, kl_neg, ki_i2l, kl_l2i, ki_lt, ki_le, ki_eq, kcmp_eq, kcmp_lt, kcmp_le, kcmp_gt, kcmp_ge, Option.bind_some, Option.map_some, kbool0, kbool1, if_pos, if_neg, if_true, if_false, Int.neg_neg, Int.sub_zero, Int.add_zero, Int.zero_add, true_and, and_true, false_and, and_false, false_or, or_false, true_or, or_true, ne_eq, not_false_eq_true, not_true_eq_false]
      · simp (disch := omega) only [f_X6_faultOfSecond, b_X6_faultOfSecond_25, b_X6_faultOfSecond_78, b_X6_faultOfSecond_113, X11_within, g2, g3, g4, ki_0, ki_1, ki_2, ki_3, ki_4, ki_5, ki_6, ki_7, ki_8, ki_9, ki_10, ki_11, ki_12, ki_13, ki_18, ki_20, ki_24, ki_32, ki_36, ki_45, ki_47, ki_48, ki_50, ki_57, ki_60, ki_63, ki_99, ki_100, ki_101, ki_120, ki_255, ki_468, ki_1000, ki_1024, ki_13849, ki_25173, ki_65535, ki_65536, ki_100000, ki_100001, ki_2147483647, ki_2147483648, kl_0, kl_1, kl_2, kl_9223372036854775808, ki_add, ki_sub, ki_mul, ki_neg, kl_add, kl_sub, kl_mul, kl_neg, ki_i2l, kl_l2i, ki_lt, ki_le, ki_eq, kcmp_eq, kcmp_lt, kcmp_le, kcmp_gt, kcmp_ge, Option.bind_some, Option.map_some, kbool0, kbool1, if_pos, if_neg, if_true, if_false, Int.neg_neg, Int.sub_zero, Int.add_zero, Int.zero_add, true_and, and_true, false_and, and_false, false_or, or_false, true_or, or_true, ne_eq, not_false_eq_true, not_true_eq_false]
    · have a0 := kaI (kX.a5 hX) (x := d) (by omega) (by omega)
      rw [h.2.1 d (by omega) (by omega)] at a0
      have a1 := kaI (kX.a5 hX) (x := d + 1) (by omega) (by omega)
      rw [h.2.1 (d + 1) (by omega) (by omega)] at a1
      have b0 := w3 d (by omega) (by omega)
      have b1 := w3 (d + 1) (by omega) (by omega)
      by_cases t : z = 1 ∧ 0 < d ∧ v ≤ g (d - 1)
      · have r : rS z c d f g v = 4 := by
          unfold rS
          rw [if_neg b, if_neg s, if_pos t]
        rw [r]
        refine ⟨ν, ?_, kF.refl, fun e => by omega⟩
        obtain ⟨rfl, t2, t3⟩ := t
        have a := kaI (kX.a6 hX) (x := d - 1) (by omega) (by omega)
        rw [h.2.2 (d - 1) (by omega) (by omega)] at a
        have bf := (w4 (d - 1) (by omega) (by omega)).1
        clear r w3 w4 h
        generalize g (d - 1) = y at *
        simp (disch := omega) only [f_X6_faultOfSecond, b_X6_faultOfSecond_25, b_X6_faultOfSecond_78, b_X6_faultOfSecond_113, X11_within, g2, g3, g4, kX.o4_1 hX, a, ki_0, ki_1, ki_2, ki_3, ki_4, ki_5, ki_6, ki_7, ki_8, ki_9, ki_10, ki_11, ki_12, ki_13, ki_18, ki_20, ki_24, ki_32, ki_36, ki_45, ki_47, ki_48, ki_50, ki_57, ki_60, ki_63, ki_99, ki_100, ki_101, ki_120, ki_255, ki_468, ki_1000, ki_1024, ki_13849, ki_25173, ki_65535, ki_65536, ki_100000, ki_100001, ki_2147483647, ki_2147483648, kl_0, kl_1, kl_2, kl_9223372036854775808, ki_add, ki_sub, ki_mul, ki_neg, kl_add, kl_sub, kl_mul, kl_neg, ki_i2l, kl_l2i, ki_lt, ki_le, ki_eq, kcmp_eq, kcmp_lt, kcmp_le, kcmp_gt, kcmp_ge, Option.bind_some, Option.map_some, kbool0, kbool1, if_pos, if_neg, if_true, if_false, Int.neg_neg, Int.sub_zero, Int.add_zero, Int.zero_add, true_and, and_true, false_and, and_false, false_or, or_false, true_or, or_true, ne_eq, not_false_eq_true, not_true_eq_false]
      · by_cases u : z = 1 ∧ (v ≤ f d ∨ f (d + 1) ≤ v)
        · have r : rS z c d f g v = 5 := by
            unfold rS
            rw [if_neg b, if_neg s, if_neg t, if_pos u]
          rw [r]
          refine ⟨ν, ?_, kF.refl, fun e => by omega⟩
          obtain ⟨rfl, u2⟩ := u
          by_cases t2 : 0 < d
          · have a := kaI (kX.a6 hX) (x := d - 1) (by omega) (by omega)
            rw [h.2.2 (d - 1) (by omega) (by omega)] at a
            have bf := (w4 (d - 1) (by omega) (by omega)).1
            clear r w3 w4 h
            generalize g (d - 1) = y at *
            generalize f d = y0 at *
            generalize f (d + 1) = y1 at *
            by_cases u3 : v ≤ y0
            · simp (disch := omega) only [f_X6_faultOfSecond, b_X6_faultOfSecond_25, b_X6_faultOfSecond_78, b_X6_faultOfSecond_113, X11_within, g2, g3, g4, kX.o4_0 hX, kX.o4_1 hX, a, a0, ki_0, ki_1, ki_2, ki_3, ki_4, ki_5, ki_6, ki_7, ki_8, ki_9, ki_10, ki_11, ki_12, ki_13, ki_18, ki_20, ki_24, ki_32, ki_36, ki_45, ki_47, ki_48, ki_50, ki_57, ki_60, ki_63, ki_99, ki_100, ki_101, ki_120, ki_255, ki_468, ki_1000, ki_1024, ki_13849, ki_25173, ki_65535, ki_65536, ki_100000, ki_100001, ki_2147483647, ki_2147483648, kl_0, kl_1, kl_2, kl_9223372036854775808, ki_add, ki_sub, ki_mul, ki_neg, kl_add, kl_sub, kl_mul, kl_neg, ki_i2l, kl_l2i, ki_lt, ki_le, ki_eq, kcmp_eq, kcmp_lt, kcmp_le, kcmp_gt, kcmp_ge, Option.bind_some, Option.map_some, kbool0, kbool1, if_pos, if_neg, if_true, if_false, Int.neg_neg, Int.sub_zero, Int.add_zero, Int.zero_add, true_and, and_true, false_and, and_false, false_or, or_false, true_or, or_true, ne_eq, not_false_eq_true, not_true_eq_false]
            · simp (disch := omega) only [f_X6_faultOfSecond, b_X6_faultOfSecond_25, b_X6_faultOfSecond_78, b_X6_faultOfSecond_113, X11_within, g2, g3, g4, kX.o4_0 hX, kX.o4_1 hX, a, a0, a1, ki_0, ki_1, ki_2, ki_3, ki_4, ki_5, ki_6, ki_7, ki_8, ki_9, ki_10, ki_11, ki_12, ki_13, ki_18, ki_20, ki_24, ki_32, ki_36, ki_45, ki_47, ki_48, ki_50, ki_57, ki_60, ki_63, ki_99, ki_100, ki_101, ki_120, ki_255, ki_468, ki_1000, ki_1024, ki_13849, ki_25173, ki_65535, ki_65536, ki_100000, ki_100001, ki_2147483647, ki_2147483648, kl_0, kl_1, kl_2, kl_9223372036854775808, ki_add, ki_sub, ki_mul, ki_neg, kl_add, kl_sub, kl_mul, kl_neg, ki_i2l, kl_l2i, ki_lt, ki_le, ki_eq, kcmp_eq, kcmp_lt, kcmp_le, kcmp_gt, kcmp_ge, Option.bind_some, Option.map_some, kbool0, kbool1, if_pos, if_neg, if_true, if_false, Int.neg_neg, Int.sub_zero, Int.add_zero, Int.zero_add, true_and, and_true, false_and, and_false, false_or, or_false, true_or, or_true, ne_eq, not_false_eq_true, not_true_eq_false]
          · clear r w3 w4 h t
            generalize f d = y0 at *
            generalize f (d + 1) = y1 at *
            by_cases u3 : v ≤ y0
            · simp (disch := omega) only [f_X6_faultOfSecond, b_X6_faultOfSecond_25, b_X6_faultOfSecond_78, b_X6_faultOfSecond_113, X11_within, g2, g3, g4, kX.o4_0 hX, a0, ki_0, ki_1, ki_2, ki_3, ki_4, ki_5, ki_6, ki_7, ki_8, ki_9, ki_10, ki_11, ki_12, ki_13, ki_18, ki_20, ki_24, ki_32, ki_36, ki_45, ki_47, ki_48, ki_50, ki_57, ki_60, ki_63, ki_99, ki_100, ki_101, ki_120, ki_255, ki_468, ki_1000, ki_1024, ki_13849, ki_25173, ki_65535, ki_65536, ki_100000, ki_100001, ki_2147483647, ki_2147483648, kl_0, kl_1, kl_2, kl_9223372036854775808, ki_add, ki_sub, ki_mul, ki_neg, kl_add, kl_sub, kl_mul, kl_neg, ki_i2l, kl_l2i, ki_lt, ki_le, ki_eq, kcmp_eq, kcmp_lt, kcmp_le, kcmp_gt, kcmp_ge, Option.bind_some, Option.map_some, kbool0, kbool1, if_pos, if_neg, if_true, if_false, Int.neg_neg, Int.sub_zero, Int.add_zero, Int.zero_add, true_and, and_true, false_and, and_false, false_or, or_false, true_or, or_true, ne_eq, not_false_eq_true, not_true_eq_false]
            · simp (disch := omega) only [f_X6_faultOfSecond, b_X6_faultOfSecond_25, b_X6_faultOfSecond_78, b_X6_faultOfSecond_113, X11_within, g2, g3, g4, kX.o4_0 hX, a0, a1, ki_0, ki_1, ki_2, ki_3, ki_4, ki_5, ki_6, ki_7, ki_8, ki_9, ki_10, ki_11, ki_12, ki_13, ki_18, ki_20, ki_24, ki_32, ki_36, ki_45, ki_47, ki_48, ki_50, ki_57, ki_60, ki_63, ki_99, ki_100, ki_101, ki_120, ki_255, ki_468, ki_1000, ki_1024, ki_13849, ki_25173, ki_65535, ki_65536, ki_100000, ki_100001, ki_2147483647, ki_2147483648, kl_0, kl_1, kl_2, kl_9223372036854775808, ki_add, ki_sub, ki_mul, ki_neg, kl_add, kl_sub, kl_mul, kl_neg, ki_i2l, kl_l2i, ki_lt, ki_le, ki_eq, kcmp_eq, kcmp_lt, kcmp_le, kcmp_gt, kcmp_ge, Option.bind_some, Option.map_some, kbool0, kbool1, if_pos, if_neg, if_true, if_false, Int.neg_neg, Int.sub_zero, Int.add_zero, Int.zero_add, true_and, and_true, false_and, and_false, false_or, or_false, true_or, or_true, ne_eq, not_false_eq_true, not_true_eq_false]
        · have r : rS z c d f g v = 0 := by
            unfold rS
            rw [if_neg b, if_neg s, if_neg t, if_neg u]
          rw [r]
          obtain ⟨ω, e1, e2, e3⟩ := X6_put6 hX h d0 (by omega) v1 v2
          refine ⟨ω, ?_, e2, fun _ => e3⟩
          rcases hz with rfl | rfl
          · clear r w3 w4 h e3 t u a0 a1 b0 b1
            simp (disch := omega) only [f_X6_faultOfSecond, b_X6_faultOfSecond_25, b_X6_faultOfSecond_78, b_X6_faultOfSecond_113, X11_within, g2, g3, g4, e1, ki_0, ki_1, ki_2, ki_3, ki_4, ki_5, ki_6, ki_7, ki_8, ki_9, ki_10, ki_11, ki_12, ki_13, ki_18, ki_20, ki_24, ki_32, ki_36, ki_45, ki_47, ki_48, ki_50, ki_57, ki_60, ki_63, ki_99, ki_100, ki_101, ki_120, ki_255, ki_468, ki_1000, ki_1024, ki_13849, ki_25173, ki_65535, ki_65536, ki_100000, ki_100001, ki_2147483647, ki_2147483648, kl_0, kl_1, kl_2, kl_9223372036854775808, ki_add, ki_sub, ki_mul, ki_neg, kl_add, kl_sub, kl_mul, kl_neg, ki_i2l, kl_l2i, ki_lt, ki_le, ki_eq, kcmp_eq, kcmp_lt, kcmp_le, kcmp_gt, kcmp_ge, Option.bind_some, Option.map_some, kbool0, kbool1, if_pos, if_neg, if_true, if_false, Int.neg_neg, Int.sub_zero, Int.add_zero, Int.zero_add, true_and, and_true, false_and, and_false, false_or, or_false, true_or, or_true, ne_eq, not_false_eq_true, not_true_eq_false]
          · by_cases t2 : 0 < d
            · have a := kaI (kX.a6 hX) (x := d - 1) (by omega) (by omega)
              rw [h.2.2 (d - 1) (by omega) (by omega)] at a
              have bf := (w4 (d - 1) (by omega) (by omega)).1
              clear r w3 w4 h e3
              generalize g (d - 1) = y at *
              generalize f d = y0 at *
              generalize f (d + 1) = y1 at *
              simp (disch := omega) only [f_X6_faultOfSecond, b_X6_faultOfSecond_25, b_X6_faultOfSecond_78, b_X6_faultOfSecond_113, X11_within, g2, g3, g4, kX.o4_0 hX, kX.o4_1 hX, a, a0, a1, e1, ki_0, ki_1, ki_2, ki_3, ki_4, ki_5, ki_6, ki_7, ki_8, ki_9, ki_10, ki_11, ki_12, ki_13, ki_18, ki_20, ki_24, ki_32, ki_36, ki_45, ki_47, ki_48, ki_50, ki_57, ki_60, ki_63, ki_99, ki_100, ki_101, ki_120, ki_255, ki_468, ki_1000, ki_1024, ki_13849, ki_25173, ki_65535, ki_65536, ki_100000, ki_100001, ki_2147483647, ki_2147483648, kl_0, kl_1, kl_2, kl_9223372036854775808, ki_add, ki_sub, ki_mul, ki_neg, kl_add, kl_sub, kl_mul, kl_neg, ki_i2l, kl_l2i, ki_lt, ki_le, ki_eq, kcmp_eq, kcmp_lt, kcmp_le, kcmp_gt, kcmp_ge, Option.bind_some, Option.map_some, kbool0, kbool1, if_pos, if_neg, if_true, if_false, Int.neg_neg, Int.sub_zero, Int.add_zero, Int.zero_add, true_and, and_true, false_and, and_false, false_or, or_false, true_or, or_true, ne_eq, not_false_eq_true, not_true_eq_false]
            · clear r w3 w4 h e3 t
              generalize f d = y0 at *
              generalize f (d + 1) = y1 at *
              simp (disch := omega) only [f_X6_faultOfSecond, b_X6_faultOfSecond_25, b_X6_faultOfSecond_78, b_X6_faultOfSecond_113, X11_within, g2, g3, g4, kX.o4_0 hX, a0, a1, e1, ki_0, ki_1, ki_2, ki_3, ki_4, ki_5, ki_6, ki_7, ki_8, ki_9, ki_10, ki_11, ki_12, ki_13, ki_18, ki_20, ki_24, ki_32, ki_36, ki_45, ki_47, ki_48, ki_50, ki_57, ki_60, ki_63, ki_99, ki_100, ki_101, ki_120, ki_255, ki_468, ki_1000, ki_1024, ki_13849, ki_25173, ki_65535, ki_65536, ki_100000, ki_100001, ki_2147483647, ki_2147483648, kl_0, kl_1, kl_2, kl_9223372036854775808, ki_add, ki_sub, ki_mul, ki_neg, kl_add, kl_sub, kl_mul, kl_neg, ki_i2l, kl_l2i, ki_lt, ki_le, ki_eq, kcmp_eq, kcmp_lt, kcmp_le, kcmp_gt, kcmp_ge, Option.bind_some, Option.map_some, kbool0, kbool1, if_pos, if_neg, if_true, if_false, Int.neg_neg, Int.sub_zero, Int.add_zero, Int.zero_add, true_and, and_true, false_and, and_false, false_or, or_false, true_or, or_true, ne_eq, not_false_eq_true, not_true_eq_false]
theorem kputZ {Y : jY} {μ : jM} {o ci k : Nat} {v : Int} (hY : (Y o).1 = ci) (h0 : o ≠ 0) (hv : v = 0 ∨ v = 1) : jputZ Y μ o ci k (ki v) = some (jw μ o k (.int (ki v))) := by
  unfold jputZ
  rw [if_pos]
  exact ⟨⟨hY, h0⟩, by rcases hv with rfl | rfl; exact Or.inl rfl; exact Or.inr rfl⟩
theorem scX.putp {Y : jY} {ν : jM} (hX : kX Y ν) {z p c d q : Int} {f g : Int → Int} (h : scX ν z p c d q f g) {k : Nat} (hk : k = 5 ∨ k = 6) {v : Int} (v1 : -1000 ≤ v) (v2 : v ≤ 1000) : kF 4 7 ν (jw ν 4 k (.int (ki v))) ∧ scX (jw ν 4 k (.int (ki v))) z (if k = 5 then v else p) c d (if k = 6 then v else q) f g := by
  obtain ⟨⟨h1, h2, h3, h4, h5⟩, h6, h7⟩ := h
  have w1 := fun a x => gi_jw (μ := ν) (o := 4) (k := k) (v := v) a x (by omega) (by omega)
  refine ⟨?_, ⟨?_, ?_, ?_, ?_, ?_⟩, fun x x1 x2 => ?_, fun x x1 x2 => ?_⟩
  · rcases hk with rfl | rfl
    · exact kF_I (kX.i4_5 hX) (by omega) (by omega)
    · exact kF_I (kX.i4_6 hX) (by omega) (by omega)
  · rw [w1, if_neg (by rcases hk with rfl | rfl <;> decide)]; exact h1
  · rw [w1, if_neg (by rcases hk with rfl | rfl <;> decide)]; exact h2
  · rw [w1, if_neg (by rcases hk with rfl | rfl <;> decide)]; exact h3
  · rw [w1]
    rcases hk with rfl | rfl
    · rw [if_pos (by decide), if_pos rfl]
    · rw [if_neg (by decide), if_neg (by decide)]; exact h4
  · rw [w1]
    rcases hk with rfl | rfl
    · rw [if_neg (by decide), if_neg (by decide)]; exact h5
    · rw [if_pos (by decide), if_pos rfl]
  · rw [w1, if_neg (by omega)]; exact h6 x x1 x2
  · rw [w1, if_neg (by omega)]; exact h7 x x1 x2
theorem nmX_bd {T : Int → Int} {a s e : Int} (hs : s = if T a = 45 then a + 1 else a) (se : s ≤ e) (hd : ∀ x, s ≤ x → x < e → 48 ≤ T x ∧ T x ≤ 57) : -1000 ≤ nmX T a e ∧ nmX T a e ≤ 1000 := by
  unfold nmX
  by_cases c : T a = 45
  · rw [if_pos c] at hs ⊢
    have := (nv_rv (T := T) (s := a + 1) (e - (a + 1)).toNat (fun x p q => hd x (by omega) (by omega))).1
    omega
  · rw [if_neg c] at hs ⊢
    have := (nv_rv (T := T) (s := a) (e - a).toNat (fun x p q => hd x (by omega) (by omega))).1
    omega
theorem X6_ftBlank {Y : jY} {ν : jM} (hX : kX Y ν) {l : Int} {T : Int → Int} (h : txX ν l T) {a e : Int} (a0 : 0 ≤ a) (al : a < l) (c : T a = 32) : f_X6_faultOfToken Y 4 2 (ki a) (ki e) ν = some (ki 0, ν) := by
  have b := X5_byteAt hX h (x := a) a0 al
  rw [c] at b
  simp (disch := omega) only [f_X6_faultOfToken, krcv hX.y2, b, ki_0, ki_1, ki_2, ki_3, ki_4, ki_5, ki_6, ki_7, ki_8, ki_9, ki_10, ki_11, ki_12, ki_13, ki_18, ki_20, ki_24, ki_32, ki_36, ki_45, ki_47, ki_48, ki_50, ki_57, ki_60, ki_63, ki_99, ki_100, ki_101, ki_120, ki_255, ki_468, ki_1000, ki_1024, ki_13849, ki_25173, ki_65535, ki_65536, ki_100000, ki_100001, ki_2147483647, ki_2147483648, kl_0, kl_1, kl_2, kl_9223372036854775808, ki_add, ki_sub, ki_mul, ki_neg, kl_add, kl_sub, kl_mul, kl_neg, ki_i2l, kl_l2i, ki_lt, ki_le, ki_eq, kcmp_eq, kcmp_lt, kcmp_le, kcmp_gt, kcmp_ge, Option.bind_some, Option.map_some, kbool0, kbool1, if_pos, if_neg, if_true, if_false, Int.neg_neg, Int.sub_zero, Int.add_zero, Int.zero_add, true_and, and_true, false_and, and_false, false_or, or_false, true_or, or_true, ne_eq, not_false_eq_true, not_true_eq_false]
theorem X6_ftSlash {Y : jY} {ν : jM} (hX : kX Y ν) {l : Int} {T : Int → Int} (h : txX ν l T) {a e : Int} (a0 : 0 ≤ a) (al : a < l) (c' : T a = 47) {z p c d q : Int} {f g : Int → Int} (s : scX ν z p c d q f g) (c0 : 0 ≤ c) (c5 : c ≤ 5) (hp : p = 0 ∨ p = 1) : ∃ ω, f_X6_faultOfToken Y 4 2 (ki a) (ki e) ν = some (ki (if p = 0 ∧ 0 < c then 0 else 1), ω) ∧ kF 4 7 ν ω ∧ scX ω z 1 c d q f g := by
  have b := X5_byteAt hX h (x := a) a0 al
  rw [c'] at b
  have g2 := kX.g4_2 hX
  rw [s.1.1] at g2
  have g5 := kX.g4_5 hX
  rw [s.1.2.2.2.1] at g5
  obtain ⟨w1, w2⟩ := s.putp hX (k := 5) (Or.inl rfl) (v := 1) (by omega) (by omega)
  rw [if_pos rfl, if_neg (by decide)] at w2
  have pz := kputZ (Y := Y) (μ := ν) (o := 4) (ci := 6) (k := 5) (v := 1) hX.y4 (by decide) (Or.inr rfl)
  generalize jw ν 4 5 (.int (ki 1)) = ω at *
  refine ⟨ω, ?_, w1, w2⟩
  clear s w2
  rcases hp with rfl | rfl
  · by_cases k : 0 < c
    · rw [if_pos ⟨rfl, k⟩]
      simp (disch := omega) only [f_X6_faultOfToken, b_X6_faultOfToken_42, b_X6_faultOfToken_59, krcv hX.y2, b, g2, g5, pz, ki_0, ki_1, ki_2, ki_3, ki_4, ki_5, ki_6, ki_7, ki_8, ki_9, ki_10, ki_11, ki_12, ki_13, ki_18, ki_20, ki_24, ki_32, ki_36, ki_45, ki_47, ki_48, ki_50, ki_57, ki_60, ki_63, ki_99, ki_100, ki_101, ki_120, ki_255, ki_468, ki_1000, ki_1024, ki_13849, ki_25173, ki_65535, ki_65536, ki_100000, ki_100001, ki_2147483647, ki_2147483648, kl_0, kl_1, kl_2, kl_9223372036854775808, ki_add, ki_sub, ki_mul, ki_neg, kl_add, kl_sub, kl_mul, kl_neg, ki_i2l, kl_l2i, ki_lt, ki_le, ki_eq, kcmp_eq, kcmp_lt, kcmp_le, kcmp_gt, kcmp_ge, Option.bind_some, Option.map_some, kbool0, kbool1, if_pos, if_neg, if_true, if_false, Int.neg_neg, Int.sub_zero, Int.add_zero, Int.zero_add, true_and, and_true, false_and, and_false, false_or, or_false, true_or, or_true, ne_eq, not_false_eq_true, not_true_eq_false]
    · rw [if_neg (fun q => k q.2)]
      simp (disch := omega) only [f_X6_faultOfToken, b_X6_faultOfToken_41, b_X6_faultOfToken_42, b_X6_faultOfToken_59, krcv hX.y2, b, g2, g5, pz, ki_0, ki_1, ki_2, ki_3, ki_4, ki_5, ki_6, ki_7, ki_8, ki_9, ki_10, ki_11, ki_12, ki_13, ki_18, ki_20, ki_24, ki_32, ki_36, ki_45, ki_47, ki_48, ki_50, ki_57, ki_60, ki_63, ki_99, ki_100, ki_101, ki_120, ki_255, ki_468, ki_1000, ki_1024, ki_13849, ki_25173, ki_65535, ki_65536, ki_100000, ki_100001, ki_2147483647, ki_2147483648, kl_0, kl_1, kl_2, kl_9223372036854775808, ki_add, ki_sub, ki_mul, ki_neg, kl_add, kl_sub, kl_mul, kl_neg, ki_i2l, kl_l2i, ki_lt, ki_le, ki_eq, kcmp_eq, kcmp_lt, kcmp_le, kcmp_gt, kcmp_ge, Option.bind_some, Option.map_some, kbool0, kbool1, if_pos, if_neg, if_true, if_false, Int.neg_neg, Int.sub_zero, Int.add_zero, Int.zero_add, true_and, and_true, false_and, and_false, false_or, or_false, true_or, or_true, ne_eq, not_false_eq_true, not_true_eq_false]
  · rw [if_neg (by omega)]
    simp (disch := omega) only [f_X6_faultOfToken, b_X6_faultOfToken_41, b_X6_faultOfToken_42, b_X6_faultOfToken_59, krcv hX.y2, b, g5, pz, ki_0, ki_1, ki_2, ki_3, ki_4, ki_5, ki_6, ki_7, ki_8, ki_9, ki_10, ki_11, ki_12, ki_13, ki_18, ki_20, ki_24, ki_32, ki_36, ki_45, ki_47, ki_48, ki_50, ki_57, ki_60, ki_63, ki_99, ki_100, ki_101, ki_120, ki_255, ki_468, ki_1000, ki_1024, ki_13849, ki_25173, ki_65535, ki_65536, ki_100000, ki_100001, ki_2147483647, ki_2147483648, kl_0, kl_1, kl_2, kl_9223372036854775808, ki_add, ki_sub, ki_mul, ki_neg, kl_add, kl_sub, kl_mul, kl_neg, ki_i2l, kl_l2i, ki_lt, ki_le, ki_eq, kcmp_eq, kcmp_lt, kcmp_le, kcmp_gt, kcmp_ge, Option.bind_some, Option.map_some, kbool0, kbool1, if_pos, if_neg, if_true, if_false, Int.neg_neg, Int.sub_zero, Int.add_zero, Int.zero_add, true_and, and_true, false_and, and_false, false_or, or_false, true_or, or_true, ne_eq, not_false_eq_true, not_true_eq_false]
theorem X6_ftJunk {Y : jY} {ν : jM} (hX : kX Y ν) {l : Int} {T : Int → Int} (h : txX ν l T) {a e : Int} (a0 : 0 ≤ a) (ae : a < e) (el : e ≤ l) (c1 : T a ≠ 32) (c2 : T a ≠ 47) {q : Int} (hq : gi ν 4 6 = q) (q1 : -1 ≤ q) (q2 : q ≤ 1000) (j : ¬ (48 ≤ T (e - 1) ∧ T (e - 1) ≤ 57) ∨ a = q) : f_X6_faultOfToken Y 4 2 (ki a) (ki e) ν = some (ki 1, ν) := by
  have b := X5_byteAt hX h (x := a) a0 (by omega)
  have bv := h.2.2.1 a
  have d := X5_isDigit hX h (x := e - 1) (by omega) (by omega)
  have g6 := kX.g4_6 hX
  rw [hq] at g6
  have l6 := h.2.1
  generalize T a = v at *
  by_cases k : 48 ≤ T (e - 1) ∧ T (e - 1) ≤ 57
  · rw [if_pos k] at d
    rcases j with j | j
    · exact absurd k j
    · clear k
      simp (disch := omega) only [f_X6_faultOfToken, b_X6_faultOfToken_78, krcv hX.y2, b, d, g6, ki_0, ki_1, ki_2, ki_3, ki_4, ki_5, ki_6, ki_7, ki_8, ki_9, ki_10, ki_11, ki_12, ki_13, ki_18, ki_20, ki_24, ki_32, ki_36, ki_45, ki_47, ki_48, ki_50, ki_57, ki_60, ki_63, ki_99, ki_100, ki_101, ki_120, ki_255, ki_468, ki_1000, ki_1024, ki_13849, ki_25173, ki_65535, ki_65536, ki_100000, ki_100001, ki_2147483647, ki_2147483648, kl_0, kl_1, kl_2, kl_9223372036854775808, ki_add, ki_sub, ki_mul, ki_neg, kl_add, kl_sub, kl_mul, kl_neg, ki_i2l, kl_l2i, ki_lt, ki_le, ki_eq, kcmp_eq, kcmp_lt, kcmp_le, kcmp_gt, kcmp_ge, Option.bind_some, Option.map_some, kbool0, kbool1, if_pos, if_neg, if_true, if_false, Int.neg_neg, Int.sub_zero, Int.add_zero, Int.zero_add, true_and, and_true, false_and, and_false, false_or, or_false, true_or, or_true, ne_eq, not_false_eq_true, not_true_eq_false]
  · rw [if_neg k] at d
    clear k j
    simp (disch := omega) only [f_X6_faultOfToken, b_X6_faultOfToken_78, krcv hX.y2, b, d, ki_0, ki_1, ki_2, ki_3, ki_4, ki_5, ki_6, ki_7, ki_8, ki_9, ki_10, ki_11, ki_12, ki_13, ki_18, ki_20, ki_24, ki_32, ki_36, ki_45, ki_47, ki_48, ki_50, ki_57, ki_60, ki_63, ki_99, ki_100, ki_101, ki_120, ki_255, ki_468, ki_1000, ki_1024, ki_13849, ki_25173, ki_65535, ki_65536, ki_100000, ki_100001, ki_2147483647, ki_2147483648, kl_0, kl_1, kl_2, kl_9223372036854775808, ki_add, ki_sub, ki_mul, ki_neg, kl_add, kl_sub, kl_mul, kl_neg, ki_i2l, kl_l2i, ki_lt, ki_le, ki_eq, kcmp_eq, kcmp_lt, kcmp_le, kcmp_gt, kcmp_ge, Option.bind_some, Option.map_some, kbool0, kbool1, if_pos, if_neg, if_true, if_false, Int.neg_neg, Int.sub_zero, Int.add_zero, Int.zero_add, true_and, and_true, false_and, and_false, false_or, or_false, true_or, or_true, ne_eq, not_false_eq_true, not_true_eq_false]
theorem X6_ftNum {Y : jY} {ν : jM} (hX : kX Y ν) {l : Int} {T : Int → Int} (h : txX ν l T) {a s e : Int} (a0 : 0 ≤ a) (hs : s = if T a = 45 then a + 1 else a) (se : s < e) (ae : a < e) (el : e ≤ l) (e6 : e ≤ 60) (c1 : T a ≠ 32) (c2 : T a ≠ 47) (hd : ∀ x, s ≤ x → x < e → 48 ≤ T x ∧ T x ≤ 57) {z p c d q : Int} {f g : Int → Int} (sc : scX ν z p c d q f g) (w : scW z p c d f g) (q1 : -1 ≤ q) (q2 : q ≤ 1000) (aq : a ≠ q) : (p = 0 → ∃ ω, f_X6_faultOfToken Y 4 2 (ki a) (ki e) ν = some (ki (rF z c f (nmX T a e)), ω) ∧ kF 4 7 ν ω ∧ (rF z c f (nmX T a e) = 0 → scX ω z p (c + 1) d e (stf f c (nmX T a e)) g)) ∧ (p = 1 → ∃ ω, f_X6_faultOfToken Y 4 2 (ki a) (ki e) ν = some (ki (rS z c d f g (nmX T a e)), ω) ∧ kF 4 7 ν ω ∧ (rS z c d f g (nmX T a e) = 0 → scX ω z p c (d + 1) e f (stf g d (nmX T a e)))) := by
  have b := X5_byteAt hX h (x := a) a0 (by omega)
  have bv := h.2.2.1 a
  have di := X5_isDigit hX h (x := e - 1) (by omega) (by omega)
  rw [if_pos (hd (e - 1) (by omega) (by omega))] at di
  have g6 := kX.g4_6 hX
  rw [sc.1.2.2.2.2] at g6
  obtain ⟨w1, w2⟩ := sc.putp hX (k := 6) (Or.inr rfl) (v := e) (by omega) (by omega)
  rw [if_neg (by decide), if_pos rfl] at w2
  have hX1 := hX.to w1
  have nb := nmX_bd hs (by omega) hd
  have N := X6_numberOf hX1 (h.to w1) a0 hs (by omega) ae el e6 hd
  have g5 := kX.g4_5 hX1
  rw [w2.1.2.2.2.1] at g5
  generalize nmX T a e = v at *
  generalize hν1 : jw ν 4 6 (.int (ki e)) = ν1 at *
  constructor
  · rintro rfl
    obtain ⟨ω, e1, e2, e3⟩ := X6_first hX1 w2 w nb.1 nb.2
    refine ⟨ω, ?_, w1.trans e2, e3⟩
    clear e3 w2 w sc hd hs
    generalize T a = v0 at *
    generalize rF z c f v = r at *
    simp (disch := omega) only [f_X6_faultOfToken, b_X6_faultOfToken_116, krcv hX.y2, krcv hX.y4, kX.p4 hX, b, di, g6, hν1, N, g5, e1, ki_0, ki_1, ki_2, ki_3, ki_4, ki_5, ki_6, ki_7, ki_8, ki_9, ki_10, ki_11, ki_12, ki_13, ki_18, ki_20, ki_24, ki_32, ki_36, ki_45, ki_47, ki_48, ki_50, ki_57, ki_60, ki_63, ki_99, ki_100, ki_101, ki_120, ki_255, ki_468, ki_1000, ki_1024, ki_13849, ki_25173, ki_65535, ki_65536, ki_100000, ki_100001, ki_2147483647, ki_2147483648, kl_0, kl_1, kl_2, kl_9223372036854775808, ki_add, ki_sub, ki_mul, ki_neg, kl_add, kl_sub, kl_mul, kl_neg, ki_i2l, kl_l2i, ki_lt, ki_le, ki_eq, kcmp_eq, kcmp_lt, kcmp_le, kcmp_gt, kcmp_ge, Option.bind_some, Option.map_some, kbool0, kbool1, if_pos, if_neg, if_true, if_false, Int.neg_neg, Int.sub_zero, Int.add_zero, Int.zero_add, true_and, and_true, false_and, and_false, false_or, or_false, true_or, or_true, ne_eq, not_false_eq_true, not_true_eq_false]
  · rintro rfl
    obtain ⟨ω, e1, e2, e3⟩ := X6_second hX1 w2 w nb.1 nb.2
    refine ⟨ω, ?_, w1.trans e2, e3⟩
    clear e3 w2 w sc hd hs
    generalize T a = v0 at *
    generalize rS z c d f g v = r at *
    simp (disch := omega) only [f_X6_faultOfToken, b_X6_faultOfToken_116, krcv hX.y2, krcv hX.y4, kX.p4 hX, b, di, g6, hν1, N, g5, e1, ki_0, ki_1, ki_2, ki_3, ki_4, ki_5, ki_6, ki_7, ki_8, ki_9, ki_10, ki_11, ki_12, ki_13, ki_18, ki_20, ki_24, ki_32, ki_36, ki_45, ki_47, ki_48, ki_50, ki_57, ki_60, ki_63, ki_99, ki_100, ki_101, ki_120, ki_255, ki_468, ki_1000, ki_1024, ki_13849, ki_25173, ki_65535, ki_65536, ki_100000, ki_100001, ki_2147483647, ki_2147483648, kl_0, kl_1, kl_2, kl_9223372036854775808, ki_add, ki_sub, ki_mul, ki_neg, kl_add, kl_sub, kl_mul, kl_neg, ki_i2l, kl_l2i, ki_lt, ki_le, ki_eq, kcmp_eq, kcmp_lt, kcmp_le, kcmp_gt, kcmp_ge, Option.bind_some, Option.map_some, kbool0, kbool1, if_pos, if_neg, if_true, if_false, Int.neg_neg, Int.sub_zero, Int.add_zero, Int.zero_add, true_and, and_true, false_and, and_false, false_or, or_false, true_or, or_true, ne_eq, not_false_eq_true, not_true_eq_false]
theorem X6_step {Y : jY} {ν ω : jM} (hX : kX Y ν) {a e t L k : Int} (a0 : 0 ≤ a) (aL : a < L) (t0 : 0 ≤ t) (ta : t ≤ a) (L6 : L ≤ 60) (e1 : f_X6_tokenEnd Y 4 2 (ki a) (ki L) ν = some (ki e, ν)) (e2 : f_X6_faultOfToken Y 4 2 (ki a) (ki e) ν = some (ki k, ω)) (k0 : 0 ≤ k) (k5 : k ≤ 5) : (k = 0 → b_X6_scan_31 Y 4 2 (ki L) (ki a) (ki t) ν = some (.inl (ki e, ki (t + 1), ω))) ∧ (k ≠ 0 → b_X6_scan_31 Y 4 2 (ki L) (ki a) (ki t) ν = some (.inr (ki (-1000 * k - a), ω))) := by
  constructor
  · rintro rfl
    simp (disch := omega) only [b_X6_scan_31, krcv hX.y4, e1, e2, ki_0, ki_1, ki_2, ki_3, ki_4, ki_5, ki_6, ki_7, ki_8, ki_9, ki_10, ki_11, ki_12, ki_13, ki_18, ki_20, ki_24, ki_32, ki_36, ki_45, ki_47, ki_48, ki_50, ki_57, ki_60, ki_63, ki_99, ki_100, ki_101, ki_120, ki_255, ki_468, ki_1000, ki_1024, ki_13849, ki_25173, ki_65535, ki_65536, ki_100000, ki_100001, ki_2147483647, ki_2147483648, kl_0, kl_1, kl_2, kl_9223372036854775808, ki_add, ki_sub, ki_mul, ki_neg, kl_add, kl_sub, kl_mul, kl_neg, ki_i2l, kl_l2i, ki_lt, ki_le, ki_eq, kcmp_eq, kcmp_lt, kcmp_le, kcmp_gt, kcmp_ge, Option.bind_some, Option.map_some, kbool0, kbool1, if_pos, if_neg, if_true, if_false, Int.neg_neg, Int.sub_zero, Int.add_zero, Int.zero_add, true_and, and_true, false_and, and_false, false_or, or_false, true_or, or_true, ne_eq, not_false_eq_true, not_true_eq_false]
  · intro h
    simp (disch := omega) only [b_X6_scan_31, krcv hX.y4, e1, e2, ki_0, ki_1, ki_2, ki_3, ki_4, ki_5, ki_6, ki_7, ki_8, ki_9, ki_10, ki_11, ki_12, ki_13, ki_18, ki_20, ki_24, ki_32, ki_36, ki_45, ki_47, ki_48, ki_50, ki_57, ki_60, ki_63, ki_99, ki_100, ki_101, ki_120, ki_255, ki_468, ki_1000, ki_1024, ki_13849, ki_25173, ki_65535, ki_65536, ki_100000, ki_100001, ki_2147483647, ki_2147483648, kl_0, kl_1, kl_2, kl_9223372036854775808, ki_add, ki_sub, ki_mul, ki_neg, kl_add, kl_sub, kl_mul, kl_neg, ki_i2l, kl_l2i, ki_lt, ki_le, ki_eq, kcmp_eq, kcmp_lt, kcmp_le, kcmp_gt, kcmp_ge, Option.bind_some, Option.map_some, kbool0, kbool1, if_pos, if_neg, if_true, if_false, Int.neg_neg, Int.sub_zero, Int.add_zero, Int.zero_add, true_and, and_true, false_and, and_false, false_or, or_false, true_or, or_true, ne_eq, not_false_eq_true, not_true_eq_false]
theorem X6_stop {Y : jY} {ν : jM} (hX : kX Y ν) {z p c d q L t : Int} {f g : Int → Int} (s : scX ν z p c d q f g) (w : scW z p c d f g) (L0 : 0 ≤ L) (L6 : L ≤ 60) (t0 : 0 ≤ t) (tL : t ≤ L) : b_X6_scan_31 Y 4 2 (ki L) (ki L) (ki t) ν = some (.inr (ki (if p = 1 ∧ d = c - 1 then 0 else -1000 - L), ν)) := by
  obtain ⟨⟨hz, hp, c0, c1, d0, w1, w2⟩, w3, w4⟩ := w
  have g2 := kX.g4_2 hX
  rw [s.1.1] at g2
  have g3 := kX.g4_3 hX
  rw [s.1.2.1] at g3
  have g5 := kX.g4_5 hX
  rw [s.1.2.2.2.1] at g5
  have dc : d ≤ 36 := by omega
  clear s w3 w4
  have E : b_X6_scan_31 Y 4 2 (ki L) (ki L) (ki t) ν = (b_X6_scan_89 Y 4 (ki L) ν).map (fun r => (.inr r)) := by
    by_cases k : L ≤ t
    · simp (disch := omega) only [b_X6_scan_31, ki_0, ki_1, ki_2, ki_3, ki_4, ki_5, ki_6, ki_7, ki_8, ki_9, ki_10, ki_11, ki_12, ki_13, ki_18, ki_20, ki_24, ki_32, ki_36, ki_45, ki_47, ki_48, ki_50, ki_57, ki_60, ki_63, ki_99, ki_100, ki_101, ki_120, ki_255, ki_468, ki_1000, ki_1024, ki_13849, ki_25173, ki_65535, ki_65536, ki_100000, ki_100001, ki_2147483647, ki_2147483648, kl_0, kl_1, kl_2, kl_9223372036854775808, ki_add, ki_sub, ki_mul, ki_neg, kl_add, kl_sub, kl_mul, kl_neg, ki_i2l, kl_l2i, ki_lt, ki_le, ki_eq, kcmp_eq, kcmp_lt, kcmp_le, kcmp_gt, kcmp_ge, Option.bind_some, Option.map_some, kbool0, kbool1, if_pos, if_neg, if_true, if_false, Int.neg_neg, Int.sub_zero, Int.add_zero, Int.zero_add, true_and, and_true, false_and, and_false, false_or, or_false, true_or, or_true, ne_eq, not_false_eq_true, not_true_eq_false]
    · simp (disch := omega) only [b_X6_scan_31, ki_0, ki_1, ki_2, ki_3, ki_4, ki_5, ki_6, ki_7, ki_8, ki_9, ki_10, ki_11, ki_12, ki_13, ki_18, ki_20, ki_24, ki_32, ki_36, ki_45, ki_47, ki_48, ki_50, ki_57, ki_60, ki_63, ki_99, ki_100, ki_101, ki_120, ki_255, ki_468, ki_1000, ki_1024, ki_13849, ki_25173, ki_65535, ki_65536, ki_100000, ki_100001, ki_2147483647, ki_2147483648, kl_0, kl_1, kl_2, kl_9223372036854775808, ki_add, ki_sub, ki_mul, ki_neg, kl_add, kl_sub, kl_mul, kl_neg, ki_i2l, kl_l2i, ki_lt, ki_le, ki_eq, kcmp_eq, kcmp_lt, kcmp_le, kcmp_gt, kcmp_ge, Option.bind_some, Option.map_some, kbool0, kbool1, if_pos, if_neg, if_true, if_false, Int.neg_neg, Int.sub_zero, Int.add_zero, Int.zero_add, true_and, and_true, false_and, and_false, false_or, or_false, true_or, or_true, ne_eq, not_false_eq_true, not_true_eq_false]
  rw [E]
  rcases hp with rfl | rfl
  · rw [if_neg (by omega)]
    simp (disch := omega) only [b_X6_scan_89, b_X6_scan_113, b_X6_scan_114, b_X6_scan_130, g5, ki_0, ki_1, ki_2, ki_3, ki_4, ki_5, ki_6, ki_7, ki_8, ki_9, ki_10, ki_11, ki_12, ki_13, ki_18, ki_20, ki_24, ki_32, ki_36, ki_45, ki_47, ki_48, ki_50, ki_57, ki_60, ki_63, ki_99, ki_100, ki_101, ki_120, ki_255, ki_468, ki_1000, ki_1024, ki_13849, ki_25173, ki_65535, ki_65536, ki_100000, ki_100001, ki_2147483647, ki_2147483648, kl_0, kl_1, kl_2, kl_9223372036854775808, ki_add, ki_sub, ki_mul, ki_neg, kl_add, kl_sub, kl_mul, kl_neg, ki_i2l, kl_l2i, ki_lt, ki_le, ki_eq, kcmp_eq, kcmp_lt, kcmp_le, kcmp_gt, kcmp_ge, Option.bind_some, Option.map_some, kbool0, kbool1, if_pos, if_neg, if_true, if_false, Int.neg_neg, Int.sub_zero, Int.add_zero, Int.zero_add, true_and, and_true, false_and, and_false, false_or, or_false, true_or, or_true, ne_eq, not_false_eq_true, not_true_eq_false]
  · by_cases k : d = c - 1
    · rw [if_pos ⟨rfl, k⟩]
      simp (disch := omega) only [b_X6_scan_89, b_X6_scan_114, b_X6_scan_130, g2, g3, g5, ki_0, ki_1, ki_2, ki_3, ki_4, ki_5, ki_6, ki_7, ki_8, ki_9, ki_10, ki_11, ki_12, ki_13, ki_18, ki_20, ki_24, ki_32, ki_36, ki_45, ki_47, ki_48, ki_50, ki_57, ki_60, ki_63, ki_99, ki_100, ki_101, ki_120, ki_255, ki_468, ki_1000, ki_1024, ki_13849, ki_25173, ki_65535, ki_65536, ki_100000, ki_100001, ki_2147483647, ki_2147483648, kl_0, kl_1, kl_2, kl_9223372036854775808, ki_add, ki_sub, ki_mul, ki_neg, kl_add, kl_sub, kl_mul, kl_neg, ki_i2l, kl_l2i, ki_lt, ki_le, ki_eq, kcmp_eq, kcmp_lt, kcmp_le, kcmp_gt, kcmp_ge, Option.bind_some, Option.map_some, kbool0, kbool1, if_pos, if_neg, if_true, if_false, Int.neg_neg, Int.sub_zero, Int.add_zero, Int.zero_add, true_and, and_true, false_and, and_false, false_or, or_false, true_or, or_true, ne_eq, not_false_eq_true, not_true_eq_false]
    · rw [if_neg (fun q => k q.2)]
      simp (disch := omega) only [b_X6_scan_89, b_X6_scan_113, b_X6_scan_114, b_X6_scan_130, g2, g3, g5, ki_0, ki_1, ki_2, ki_3, ki_4, ki_5, ki_6, ki_7, ki_8, ki_9, ki_10, ki_11, ki_12, ki_13, ki_18, ki_20, ki_24, ki_32, ki_36, ki_45, ki_47, ki_48, ki_50, ki_57, ki_60, ki_63, ki_99, ki_100, ki_101, ki_120, ki_255, ki_468, ki_1000, ki_1024, ki_13849, ki_25173, ki_65535, ki_65536, ki_100000, ki_100001, ki_2147483647, ki_2147483648, kl_0, kl_1, kl_2, kl_9223372036854775808, ki_add, ki_sub, ki_mul, ki_neg, kl_add, kl_sub, kl_mul, kl_neg, ki_i2l, kl_l2i, ki_lt, ki_le, ki_eq, kcmp_eq, kcmp_lt, kcmp_le, kcmp_gt, kcmp_ge, Option.bind_some, Option.map_some, kbool0, kbool1, if_pos, if_neg, if_true, if_false, Int.neg_neg, Int.sub_zero, Int.add_zero, Int.zero_add, true_and, and_true, false_and, and_false, false_or, or_false, true_or, or_true, ne_eq, not_false_eq_true, not_true_eq_false]
