/-! ROWS: one instruction each, over JW -/
theorem jat {ls : Array Slot} {nL : Nat} {G : jG} {L : List (Nat × Value)} (h : lv_has ls nL (jLm G L)) {q i : Nat} {v : Value} (hl : L[q]? = some (i, v)) : ls[i]? = some (.val (jv G v)) :=
  lv_at h q (by rw [jLm, List.getElem?_map, hl]; rfl)
theorem jfil1 (G : jG) (i : Nat) (v : Value) {L L' : List (Nat × Value)} (hl : (i, v) :: L.filter (fun q => !(q.1 == i) && !(q.1 + 1 == i && q.2.category == 2)) = L') :
    (i, jv G v) :: (jLm G L).filter (fun q => !(q.1 == i) && !(q.1 + 1 == i && q.2.category == 2)) = jLm G L' := by
  rw [← hl]
  simp only [jLm, List.map_cons, List.filter_map, Function.comp_def, jv_cat]
theorem jfil2 (G : jG) (i : Nat) (v : Value) {L L' : List (Nat × Value)} (hl : (i, v) :: L.filter (fun q => !(q.1 == i) && (!(q.1 == i + 1) && !(q.1 + 1 == i && q.2.category == 2))) = L') :
    (i, jv G v) :: (jLm G L).filter (fun q => !(q.1 == i) && (!(q.1 == i + 1) && !(q.1 + 1 == i && q.2.category == 2))) = jLm G L' := by
  rw [← hl]
  simp only [jLm, List.map_cons, List.filter_map, Function.comp_def, jv_cat]
theorem jpick (G : jG) {ls : Array Slot} {nL : Nat} {L L' : List (Nat × Value)} (h : lv_has ls nL (jLm G L)) (ks : List Nat) (hl : lv_pick L ks = L') : lv_has ls nL (jLm G L') := by
  refine lv_sub h ks ?_
  rw [← hl]
  simp only [lv_pick, jLm, List.getElem?_map, List.map_filterMap]
section JROWS
variable {X : jX} {Q : State → Prop} {nc ns n : Nat} {Y : jY} {own : String} {cc : ByteArray} {nL : Nat} {ret : Option FieldType} {d pc : Nat} {L : List (Nat × Value)} {st : List Value} {μ : jM}
/-- fewer locals, in another order -/
theorem r_sub {L' : List (Nat × Value)} (ks : List Nat) (hl : lv_pick L ks = L') (k : JW X Q nc ns n Y pc L' st μ) : JW X Q nc ns n Y pc L st μ :=
  fun H locs ls hR hf hL => k H locs ls hR hf (jpick _ hL ks hl)
theorem r_wide {nc2 ns2 : Nat} (h1 : nc ≤ nc2) (h2 : ns ≤ ns2) (k : JW X Q nc2 ns2 n Y pc L st μ) : JW X Q nc ns n Y pc L st μ :=
  fun H locs ls hR hf hL => W.widen h1 h2 (k H locs ls hR hf hL)
theorem r_iconst (K : jOK X own cc nL ret d) {n0 : Int} {v : Int32} (hdg : decode cc pc = .ok (.iconst n0, 1)) (hv : Int32.ofInt n0 = v) (k : JW X Q nc ns n Y (pc + 1) L (.int v :: st) μ) : JW X Q nc ns n Y pc L st μ :=
  fun H locs ls hR hf hL => lv_iconst K.1 K.2.1 hdg hv (k H locs ls hR hf hL)
theorem r_bipush (K : jOK X own cc nL ret d) {n0 : Int} {v : Int32} (hdg : decode cc pc = .ok (.bipush n0, 2)) (hv : (Int8.ofInt n0).toInt32 = v) (k : JW X Q nc ns n Y (pc + 2) L (.int v :: st) μ) : JW X Q nc ns n Y pc L st μ :=
  fun H locs ls hR hf hL => lv_bipush K.1 K.2.1 hdg hv (k H locs ls hR hf hL)
theorem r_sipush (K : jOK X own cc nL ret d) {n0 : Int} {v : Int32} (hdg : decode cc pc = .ok (.sipush n0, 3)) (hv : (Int16.ofInt n0).toInt32 = v) (k : JW X Q nc ns n Y (pc + 3) L (.int v :: st) μ) : JW X Q nc ns n Y pc L st μ :=
  fun H locs ls hR hf hL => lv_sipush K.1 K.2.1 hdg hv (k H locs ls hR hf hL)
theorem r_lconst (K : jOK X own cc nL ret d) {n0 : Fin 2} {v : Int64} (hdg : decode cc pc = .ok (.lconst n0, 1)) (hv : Int64.ofNat (n0 : Nat) = v) (k : JW X Q nc ns n Y (pc + 1) L (.long v :: st) μ) : JW X Q nc ns n Y pc L st μ :=
  fun H locs ls hR hf hL => lv_lconst K.1 K.2.1 hdg hv (k H locs ls hR hf hL)
theorem r_ldc (K : jOK X own cc nL ret d) {index : Nat} (v : Int32) (hw : Cond.constant own index v ∈ jWT) (hdg : decode cc pc = .ok (.ldc index, 2)) (k : JW X Q nc ns n Y (pc + 2) L (.int v :: st) μ) : JW X Q nc ns n Y pc L st μ :=
  fun H locs ls hR hf hL => lv_ldc K.1 K.2.1 K.2.2.2.1 (K.2.2.2.2.1 _ hw) hdg (k H locs ls hR hf hL)
theorem r_ldc_w (K : jOK X own cc nL ret d) {index : Nat} (v : Int32) (hw : Cond.constant own index v ∈ jWT) (hdg : decode cc pc = .ok (.ldc_w index, 3)) (k : JW X Q nc ns n Y (pc + 3) L (.int v :: st) μ) : JW X Q nc ns n Y pc L st μ :=
  fun H locs ls hR hf hL => lv_ldcw K.1 K.2.1 K.2.2.2.1 (K.2.2.2.2.1 _ hw) hdg (k H locs ls hR hf hL)
theorem r_ldc2 (K : jOK X own cc nL ret d) {index : Nat} (v : Int64) (hw : Cond.constantLong own index v ∈ jWT) (hdg : decode cc pc = .ok (.ldc2_w index, 3)) (k : JW X Q nc ns n Y (pc + 3) L (.long v :: st) μ) : JW X Q nc ns n Y pc L st μ :=
  fun H locs ls hR hf hL => lv_ldc2 K.1 K.2.1 K.2.2.2.1 (K.2.2.2.2.1 _ hw) hdg (k H locs ls hR hf hL)
theorem r_iload (K : jOK X own cc nL ret d) (q : Nat) {i : Nat} {x : Int32} (hdg : decode cc pc = .ok (.iload i, 2)) (hl : L[q]? = some (i, .int x)) (k : JW X Q nc ns n Y (pc + 2) L (.int x :: st) μ) : JW X Q nc ns n Y pc L st μ :=
  fun H locs ls hR hf hL => lv_iload K.1 K.2.1 hdg (jat hL hl) (k H locs ls hR hf hL)
theorem r_iload_n (K : jOK X own cc nL ret d) (q : Nat) {j : Fin 4} {i : Nat} {x : Int32} (hdg : decode cc pc = .ok (.iload_n j, 1)) (hl : L[q]? = some (i, .int x)) (hi : (j : Nat) = i) (k : JW X Q nc ns n Y (pc + 1) L (.int x :: st) μ) : JW X Q nc ns n Y pc L st μ :=
  fun H locs ls hR hf hL => lv_iload_n K.1 K.2.1 hdg hi (jat hL hl) (k H locs ls hR hf hL)
theorem r_istore (K : jOK X own cc nL ret d) (L' : List (Nat × Value)) {i : Nat} {x : Int32} (hdg : decode cc pc = .ok (.istore i, 2)) (hn : i < nL) (hl : (i, Value.int x) :: L.filter (fun q => !(q.1 == i) && !(q.1 + 1 == i && q.2.category == 2)) = L') (k : JW X Q nc ns n Y (pc + 2) L' st μ) : JW X Q nc ns n Y pc L (.int x :: st) μ :=
  fun H locs ls hR hf hL => lv_istore K.1 K.2.1 hdg hL (by rw [K.2.2.1]; exact hn) (jfil1 _ i (.int x) hl) (fun ls2 hL2 => k H locs ls2 hR hf hL2)
theorem r_istore_n (K : jOK X own cc nL ret d) (L' : List (Nat × Value)) {j : Fin 4} {i : Nat} {x : Int32} (hdg : decode cc pc = .ok (.istore_n j, 1)) (hi : (j : Nat) = i) (hn : i < nL) (hl : (i, Value.int x) :: L.filter (fun q => !(q.1 == i) && !(q.1 + 1 == i && q.2.category == 2)) = L') (k : JW X Q nc ns n Y (pc + 1) L' st μ) : JW X Q nc ns n Y pc L (.int x :: st) μ :=
  fun H locs ls hR hf hL => lv_istore_n K.1 K.2.1 hdg hi hL (by rw [K.2.2.1]; exact hn) (jfil1 _ i (.int x) hl) (fun ls2 hL2 => k H locs ls2 hR hf hL2)
theorem r_lload (K : jOK X own cc nL ret d) (q : Nat) {i : Nat} {x : Int64} (hdg : decode cc pc = .ok (.lload i, 2)) (hl : L[q]? = some (i, .long x)) (k : JW X Q nc ns n Y (pc + 2) L (.long x :: st) μ) : JW X Q nc ns n Y pc L st μ :=
  fun H locs ls hR hf hL => lv_lload K.1 K.2.1 hdg (jat hL hl) (k H locs ls hR hf hL)
theorem r_lload_n (K : jOK X own cc nL ret d) (q : Nat) {j : Fin 4} {i : Nat} {x : Int64} (hdg : decode cc pc = .ok (.lload_n j, 1)) (hl : L[q]? = some (i, .long x)) (hi : (j : Nat) = i) (k : JW X Q nc ns n Y (pc + 1) L (.long x :: st) μ) : JW X Q nc ns n Y pc L st μ :=
  fun H locs ls hR hf hL => lv_lload_n K.1 K.2.1 hdg hi (jat hL hl) (k H locs ls hR hf hL)
theorem r_lstore (K : jOK X own cc nL ret d) (L' : List (Nat × Value)) {i : Nat} {x : Int64} (hdg : decode cc pc = .ok (.lstore i, 2)) (hn : i + 1 < nL) (hl : (i, Value.long x) :: L.filter (fun q => !(q.1 == i) && (!(q.1 == i + 1) && !(q.1 + 1 == i && q.2.category == 2))) = L') (k : JW X Q nc ns n Y (pc + 2) L' st μ) : JW X Q nc ns n Y pc L (.long x :: st) μ :=
  fun H locs ls hR hf hL => lv_lstore K.1 K.2.1 hdg hL (by rw [K.2.2.1]; exact hn) (jfil2 _ i (.long x) hl) (fun ls2 hL2 => k H locs ls2 hR hf hL2)
theorem r_lstore_n (K : jOK X own cc nL ret d) (L' : List (Nat × Value)) {j : Fin 4} {i : Nat} {x : Int64} (hdg : decode cc pc = .ok (.lstore_n j, 1)) (hi : (j : Nat) = i) (hn : i + 1 < nL) (hl : (i, Value.long x) :: L.filter (fun q => !(q.1 == i) && (!(q.1 == i + 1) && !(q.1 + 1 == i && q.2.category == 2))) = L') (k : JW X Q nc ns n Y (pc + 1) L' st μ) : JW X Q nc ns n Y pc L (.long x :: st) μ :=
  fun H locs ls hR hf hL => lv_lstore_n K.1 K.2.1 hdg hi hL (by rw [K.2.2.1]; exact hn) (jfil2 _ i (.long x) hl) (fun ls2 hL2 => k H locs ls2 hR hf hL2)
theorem r_aload (K : jOK X own cc nL ret d) (q : Nat) {i : Nat} {x : Nat} (hdg : decode cc pc = .ok (.aload i, 2)) (hl : L[q]? = some (i, .ref x)) (k : JW X Q nc ns n Y (pc + 2) L (.ref x :: st) μ) : JW X Q nc ns n Y pc L st μ :=
  fun H locs ls hR hf hL => lv_aload K.1 K.2.1 hdg (jat hL hl) (k H locs ls hR hf hL)
theorem r_aload_n (K : jOK X own cc nL ret d) (q : Nat) {j : Fin 4} {i : Nat} {x : Nat} (hdg : decode cc pc = .ok (.aload_n j, 1)) (hl : L[q]? = some (i, .ref x)) (hi : (j : Nat) = i) (k : JW X Q nc ns n Y (pc + 1) L (.ref x :: st) μ) : JW X Q nc ns n Y pc L st μ :=
  fun H locs ls hR hf hL => lv_aload_n K.1 K.2.1 hdg hi (jat hL hl) (k H locs ls hR hf hL)
theorem r_astore (K : jOK X own cc nL ret d) (L' : List (Nat × Value)) {i : Nat} {x : Nat} (hdg : decode cc pc = .ok (.astore i, 2)) (hn : i < nL) (hl : (i, Value.ref x) :: L.filter (fun q => !(q.1 == i) && !(q.1 + 1 == i && q.2.category == 2)) = L') (k : JW X Q nc ns n Y (pc + 2) L' st μ) : JW X Q nc ns n Y pc L (.ref x :: st) μ :=
  fun H locs ls hR hf hL => lv_astore K.1 K.2.1 hdg hL (by rw [K.2.2.1]; exact hn) (jfil1 _ i (.ref x) hl) (fun ls2 hL2 => k H locs ls2 hR hf hL2)
theorem r_astore_n (K : jOK X own cc nL ret d) (L' : List (Nat × Value)) {j : Fin 4} {i : Nat} {x : Nat} (hdg : decode cc pc = .ok (.astore_n j, 1)) (hi : (j : Nat) = i) (hn : i < nL) (hl : (i, Value.ref x) :: L.filter (fun q => !(q.1 == i) && !(q.1 + 1 == i && q.2.category == 2)) = L') (k : JW X Q nc ns n Y (pc + 1) L' st μ) : JW X Q nc ns n Y pc L (.ref x :: st) μ :=
  fun H locs ls hR hf hL => lv_astore_n K.1 K.2.1 hdg hi hL (by rw [K.2.2.1]; exact hn) (jfil1 _ i (.ref x) hl) (fun ls2 hL2 => k H locs ls2 hR hf hL2)
theorem r_iinc (K : jOK X own cc nL ret d) (q : Nat) (L' : List (Nat × Value)) {i : Nat} {n0 : Int} {x v : Int32} (hdg : decode cc pc = .ok (.iinc i n0, 3)) (hq : L[q]? = some (i, .int x)) (hv : x + Int32.ofInt n0 = v) (hn : i < nL) (hl : (i, Value.int v) :: L.filter (fun q => !(q.1 == i) && !(q.1 + 1 == i && q.2.category == 2)) = L') (k : JW X Q nc ns n Y (pc + 3) L' st μ) : JW X Q nc ns n Y pc L st μ :=
  fun H locs ls hR hf hL => lv_iinc K.1 K.2.1 hdg hL (k := q) (by rw [jLm, List.getElem?_map, hq]; rfl) hv (by rw [K.2.2.1]; exact hn) (jfil1 _ i (.int v) hl) (fun ls2 hL2 => k H locs ls2 hR hf hL2)
theorem r_iadd (K : jOK X own cc nL ret d) {x y : Int32} (hdg : decode cc pc = .ok (.iadd, 1))  (k : JW X Q nc ns n Y (pc + 1) L (.int (x + y) :: st) μ) : JW X Q nc ns n Y pc L (.int y :: .int x :: st) μ :=
  fun H locs ls hR hf hL => lv_iadd K.1 K.2.1 hdg  (k H locs ls hR hf hL)
theorem r_isub (K : jOK X own cc nL ret d) {x y : Int32} (hdg : decode cc pc = .ok (.isub, 1))  (k : JW X Q nc ns n Y (pc + 1) L (.int (x - y) :: st) μ) : JW X Q nc ns n Y pc L (.int y :: .int x :: st) μ :=
  fun H locs ls hR hf hL => lv_isub K.1 K.2.1 hdg  (k H locs ls hR hf hL)
theorem r_imul (K : jOK X own cc nL ret d) {x y : Int32} (hdg : decode cc pc = .ok (.imul, 1))  (k : JW X Q nc ns n Y (pc + 1) L (.int (x * y) :: st) μ) : JW X Q nc ns n Y pc L (.int y :: .int x :: st) μ :=
  fun H locs ls hR hf hL => lv_imul K.1 K.2.1 hdg  (k H locs ls hR hf hL)
theorem r_iand (K : jOK X own cc nL ret d) {x y : Int32} (hdg : decode cc pc = .ok (.iand, 1))  (k : JW X Q nc ns n Y (pc + 1) L (.int (x &&& y) :: st) μ) : JW X Q nc ns n Y pc L (.int y :: .int x :: st) μ :=
  fun H locs ls hR hf hL => lv_iand K.1 K.2.1 hdg  (k H locs ls hR hf hL)
theorem r_ior (K : jOK X own cc nL ret d) {x y : Int32} (hdg : decode cc pc = .ok (.ior, 1))  (k : JW X Q nc ns n Y (pc + 1) L (.int (x ||| y) :: st) μ) : JW X Q nc ns n Y pc L (.int y :: .int x :: st) μ :=
  fun H locs ls hR hf hL => lv_ior K.1 K.2.1 hdg  (k H locs ls hR hf hL)
theorem r_ishl (K : jOK X own cc nL ret d) {x y : Int32} (hdg : decode cc pc = .ok (.ishl, 1))  (k : JW X Q nc ns n Y (pc + 1) L (.int (x <<< (y &&& 31)) :: st) μ) : JW X Q nc ns n Y pc L (.int y :: .int x :: st) μ :=
  fun H locs ls hR hf hL => lv_ishl K.1 K.2.1 hdg  (k H locs ls hR hf hL)
theorem r_ishr (K : jOK X own cc nL ret d) {x y : Int32} (hdg : decode cc pc = .ok (.ishr, 1))  (k : JW X Q nc ns n Y (pc + 1) L (.int (x >>> (y &&& 31)) :: st) μ) : JW X Q nc ns n Y pc L (.int y :: .int x :: st) μ :=
  fun H locs ls hR hf hL => lv_ishr K.1 K.2.1 hdg  (k H locs ls hR hf hL)
theorem r_iushr (K : jOK X own cc nL ret d) {x y : Int32} (hdg : decode cc pc = .ok (.iushr, 1))  (k : JW X Q nc ns n Y (pc + 1) L (.int ((x.toUInt32 >>> (y.toUInt32 &&& Int32.toUInt32 31)).toInt32) :: st) μ) : JW X Q nc ns n Y pc L (.int y :: .int x :: st) μ :=
  fun H locs ls hR hf hL => lv_iushr K.1 K.2.1 hdg rfl (k H locs ls hR hf hL)
theorem r_ladd (K : jOK X own cc nL ret d) {x y : Int64} (hdg : decode cc pc = .ok (.ladd, 1))  (k : JW X Q nc ns n Y (pc + 1) L (.long (x + y) :: st) μ) : JW X Q nc ns n Y pc L (.long y :: .long x :: st) μ :=
  fun H locs ls hR hf hL => lv_ladd K.1 K.2.1 hdg  (k H locs ls hR hf hL)
theorem r_lsub (K : jOK X own cc nL ret d) {x y : Int64} (hdg : decode cc pc = .ok (.lsub, 1))  (k : JW X Q nc ns n Y (pc + 1) L (.long (x - y) :: st) μ) : JW X Q nc ns n Y pc L (.long y :: .long x :: st) μ :=
  fun H locs ls hR hf hL => lv_lsub K.1 K.2.1 hdg  (k H locs ls hR hf hL)
theorem r_lmul (K : jOK X own cc nL ret d) {x y : Int64} (hdg : decode cc pc = .ok (.lmul, 1))  (k : JW X Q nc ns n Y (pc + 1) L (.long (x * y) :: st) μ) : JW X Q nc ns n Y pc L (.long y :: .long x :: st) μ :=
  fun H locs ls hR hf hL => lv_lmul K.1 K.2.1 hdg  (k H locs ls hR hf hL)
theorem r_idiv (K : jOK X own cc nL ret d) {x y : Int32} (hdg : decode cc pc = .ok (.idiv, 1)) (hne : ¬ y = 0) (k : JW X Q nc ns n Y (pc + 1) L (.int (x / y) :: st) μ) : JW X Q nc ns n Y pc L (.int y :: .int x :: st) μ :=
  fun H locs ls hR hf hL => lv_idiv K.1 K.2.1 hdg hne (k H locs ls hR hf hL)
theorem r_irem (K : jOK X own cc nL ret d) {x y : Int32} (hdg : decode cc pc = .ok (.irem, 1)) (hne : ¬ y = 0) (k : JW X Q nc ns n Y (pc + 1) L (.int (x - x / y * y) :: st) μ) : JW X Q nc ns n Y pc L (.int y :: .int x :: st) μ :=
  fun H locs ls hR hf hL => lv_irem K.1 K.2.1 hdg hne (k H locs ls hR hf hL)
theorem r_ldiv (K : jOK X own cc nL ret d) {x y : Int64} (hdg : decode cc pc = .ok (.ldiv, 1)) (hne : ¬ y = 0) (k : JW X Q nc ns n Y (pc + 1) L (.long (x / y) :: st) μ) : JW X Q nc ns n Y pc L (.long y :: .long x :: st) μ :=
  fun H locs ls hR hf hL => lv_ldiv K.1 K.2.1 hdg hne (k H locs ls hR hf hL)
theorem r_lrem (K : jOK X own cc nL ret d) {x y : Int64} (hdg : decode cc pc = .ok (.lrem, 1)) (hne : ¬ y = 0) (k : JW X Q nc ns n Y (pc + 1) L (.long (x - x / y * y) :: st) μ) : JW X Q nc ns n Y pc L (.long y :: .long x :: st) μ :=
  fun H locs ls hR hf hL => lv_lrem K.1 K.2.1 hdg hne (k H locs ls hR hf hL)
theorem r_ineg (K : jOK X own cc nL ret d) {x : Int32} (hdg : decode cc pc = .ok (.ineg, 1))  (k : JW X Q nc ns n Y (pc + 1) L (.int (-x) :: st) μ) : JW X Q nc ns n Y pc L (.int x :: st) μ :=
  fun H locs ls hR hf hL => lv_ineg K.1 K.2.1 hdg  (k H locs ls hR hf hL)
theorem r_lneg (K : jOK X own cc nL ret d) {x : Int64} (hdg : decode cc pc = .ok (.lneg, 1))  (k : JW X Q nc ns n Y (pc + 1) L (.long (-x) :: st) μ) : JW X Q nc ns n Y pc L (.long x :: st) μ :=
  fun H locs ls hR hf hL => lv_lneg K.1 K.2.1 hdg  (k H locs ls hR hf hL)
theorem r_i2l (K : jOK X own cc nL ret d) {x : Int32} (hdg : decode cc pc = .ok (.i2l, 1))  (k : JW X Q nc ns n Y (pc + 1) L (.long x.toInt64 :: st) μ) : JW X Q nc ns n Y pc L (.int x :: st) μ :=
  fun H locs ls hR hf hL => lv_i2l K.1 K.2.1 hdg rfl (k H locs ls hR hf hL)
theorem r_l2i (K : jOK X own cc nL ret d) {x : Int64} (hdg : decode cc pc = .ok (.l2i, 1))  (k : JW X Q nc ns n Y (pc + 1) L (.int x.toInt32 :: st) μ) : JW X Q nc ns n Y pc L (.long x :: st) μ :=
  fun H locs ls hR hf hL => lv_l2i K.1 K.2.1 hdg rfl (k H locs ls hR hf hL)
theorem r_i2b (K : jOK X own cc nL ret d) {x : Int32} (hdg : decode cc pc = .ok (.i2b, 1))  (k : JW X Q nc ns n Y (pc + 1) L (.int x.toInt8.toInt32 :: st) μ) : JW X Q nc ns n Y pc L (.int x :: st) μ :=
  fun H locs ls hR hf hL => lv_i2b K.1 K.2.1 hdg rfl (k H locs ls hR hf hL)
theorem r_lcmp (K : jOK X own cc nL ret d) {x y : Int64} (hdg : decode cc pc = .ok (.lcmp, 1))  (k : JW X Q nc ns n Y (pc + 1) L (.int (lg_cmp x y) :: st) μ) : JW X Q nc ns n Y pc L (.long y :: .long x :: st) μ :=
  fun H locs ls hR hf hL => W.lcmp K.1 K.2.1 hdg  (k H locs ls hR hf hL)
theorem r_dup (K : jOK X own cc nL ret d) {x : Value} (hdg : decode cc pc = .ok (.dup, 1)) (hx : x.category = 1) (k : JW X Q nc ns n Y (pc + 1) L (x :: x :: st) μ) : JW X Q nc ns n Y pc L (x :: st) μ :=
  fun H locs ls hR hf hL => lv_dup K.1 K.2.1 hdg ((jv_cat _ x).trans hx) (k H locs ls hR hf hL)
theorem r_pop (K : jOK X own cc nL ret d) {x : Value} (hdg : decode cc pc = .ok (.pop, 1)) (hx : x.category = 1) (k : JW X Q nc ns n Y (pc + 1) L st μ) : JW X Q nc ns n Y pc L (x :: st) μ :=
  fun H locs ls hR hf hL => lv_pop K.1 K.2.1 hdg ((jv_cat _ x).trans hx) (k H locs ls hR hf hL)
theorem r_dup2_11 (K : jOK X own cc nL ret d) {x y : Value} (hdg : decode cc pc = .ok (.dup2, 1)) (hx : x.category = 1) (hy : y.category = 1) (k : JW X Q nc ns n Y (pc + 1) L (x :: y :: x :: y :: st) μ) : JW X Q nc ns n Y pc L (x :: y :: st) μ :=
  fun H locs ls hR hf hL => lv_dup2_11 K.1 K.2.1 hdg ((jv_cat _ x).trans hx) ((jv_cat _ y).trans hy) (k H locs ls hR hf hL)
theorem r_dup2_2 (K : jOK X own cc nL ret d) {x : Value} (hdg : decode cc pc = .ok (.dup2, 1)) (hx : x.category = 2) (k : JW X Q nc ns n Y (pc + 1) L (x :: x :: st) μ) : JW X Q nc ns n Y pc L (x :: st) μ :=
  fun H locs ls hR hf hL => lv_dup2_2 K.1 K.2.1 hdg ((jv_cat _ x).trans hx) (k H locs ls hR hf hL)
theorem r_goto (K : jOK X own cc nL ret d) (tgt : Nat) {off : Int} (hdg : decode cc pc = .ok (.goto off, 3)) (ht : (pc : Int) + off = (tgt : Int)) (k : JW X Q nc ns n Y (tgt) L st μ) : JW X Q nc ns n Y pc L st μ :=
  fun H locs ls hR hf hL => lv_goto K.1 K.2.1 hdg ht (k H locs ls hR hf hL)
theorem r_null (K : jOK X own cc nL ret d)  (hdg : decode cc pc = .ok (.aconst_null, 1))  (k : JW X Q nc ns n Y (pc + 1) L (.null :: st) μ) : JW X Q nc ns n Y pc L st μ :=
  fun H locs ls hR hf hL => lv_null K.1 K.2.1 hdg  (k H locs ls hR hf hL)
theorem r_icmp_eq (K : jOK X own cc nL ret d) (tgt : Nat) {x y : Int32} {off : Int} (hdg : decode cc pc = .ok (.if_icmp .eq off, 3)) (ht : (pc : Int) + off = (tgt : Int)) (kt : x = y → JW X Q nc ns n Y tgt L st μ) (kf : ¬ x = y → JW X Q nc ns n Y (pc + 3) L st μ) : JW X Q nc ns n Y pc L (.int y :: .int x :: st) μ :=
  fun H locs ls hR hf hL => lv_icmp_eq K.1 K.2.1 hdg ht (fun h => kt h H locs ls hR hf hL) (fun h => kf h H locs ls hR hf hL)
theorem r_if_eq (K : jOK X own cc nL ret d) (tgt : Nat) {x : Int32} {off : Int} (hdg : decode cc pc = .ok (.ifCond .eq off, 3)) (ht : (pc : Int) + off = (tgt : Int)) (kt : x = 0 → JW X Q nc ns n Y tgt L st μ) (kf : ¬ x = 0 → JW X Q nc ns n Y (pc + 3) L st μ) : JW X Q nc ns n Y pc L (.int x :: st) μ :=
  fun H locs ls hR hf hL => lv_if_eq K.1 K.2.1 hdg ht (fun h => kt h H locs ls hR hf hL) (fun h => kf h H locs ls hR hf hL)
theorem r_icmp_ne (K : jOK X own cc nL ret d) (tgt : Nat) {x y : Int32} {off : Int} (hdg : decode cc pc = .ok (.if_icmp .ne off, 3)) (ht : (pc : Int) + off = (tgt : Int)) (kt : ¬ x = y → JW X Q nc ns n Y tgt L st μ) (kf : x = y → JW X Q nc ns n Y (pc + 3) L st μ) : JW X Q nc ns n Y pc L (.int y :: .int x :: st) μ :=
  fun H locs ls hR hf hL => lv_icmp_ne K.1 K.2.1 hdg ht (fun h => kt h H locs ls hR hf hL) (fun h => kf h H locs ls hR hf hL)
theorem r_if_ne (K : jOK X own cc nL ret d) (tgt : Nat) {x : Int32} {off : Int} (hdg : decode cc pc = .ok (.ifCond .ne off, 3)) (ht : (pc : Int) + off = (tgt : Int)) (kt : ¬ x = 0 → JW X Q nc ns n Y tgt L st μ) (kf : x = 0 → JW X Q nc ns n Y (pc + 3) L st μ) : JW X Q nc ns n Y pc L (.int x :: st) μ :=
  fun H locs ls hR hf hL => lv_if_ne K.1 K.2.1 hdg ht (fun h => kt h H locs ls hR hf hL) (fun h => kf h H locs ls hR hf hL)
theorem r_icmp_lt (K : jOK X own cc nL ret d) (tgt : Nat) {x y : Int32} {off : Int} (hdg : decode cc pc = .ok (.if_icmp .lt off, 3)) (ht : (pc : Int) + off = (tgt : Int)) (kt : x < y → JW X Q nc ns n Y tgt L st μ) (kf : ¬ x < y → JW X Q nc ns n Y (pc + 3) L st μ) : JW X Q nc ns n Y pc L (.int y :: .int x :: st) μ :=
  fun H locs ls hR hf hL => lv_icmp_lt K.1 K.2.1 hdg ht (fun h => kt h H locs ls hR hf hL) (fun h => kf h H locs ls hR hf hL)
theorem r_if_lt (K : jOK X own cc nL ret d) (tgt : Nat) {x : Int32} {off : Int} (hdg : decode cc pc = .ok (.ifCond .lt off, 3)) (ht : (pc : Int) + off = (tgt : Int)) (kt : x < 0 → JW X Q nc ns n Y tgt L st μ) (kf : ¬ x < 0 → JW X Q nc ns n Y (pc + 3) L st μ) : JW X Q nc ns n Y pc L (.int x :: st) μ :=
  fun H locs ls hR hf hL => lv_if_lt K.1 K.2.1 hdg ht (fun h => kt h H locs ls hR hf hL) (fun h => kf h H locs ls hR hf hL)
theorem r_icmp_ge (K : jOK X own cc nL ret d) (tgt : Nat) {x y : Int32} {off : Int} (hdg : decode cc pc = .ok (.if_icmp .ge off, 3)) (ht : (pc : Int) + off = (tgt : Int)) (kt : y ≤ x → JW X Q nc ns n Y tgt L st μ) (kf : ¬ y ≤ x → JW X Q nc ns n Y (pc + 3) L st μ) : JW X Q nc ns n Y pc L (.int y :: .int x :: st) μ :=
  fun H locs ls hR hf hL => lv_icmp_ge K.1 K.2.1 hdg ht (fun h => kt h H locs ls hR hf hL) (fun h => kf h H locs ls hR hf hL)
theorem r_if_ge (K : jOK X own cc nL ret d) (tgt : Nat) {x : Int32} {off : Int} (hdg : decode cc pc = .ok (.ifCond .ge off, 3)) (ht : (pc : Int) + off = (tgt : Int)) (kt : 0 ≤ x → JW X Q nc ns n Y tgt L st μ) (kf : ¬ 0 ≤ x → JW X Q nc ns n Y (pc + 3) L st μ) : JW X Q nc ns n Y pc L (.int x :: st) μ :=
  fun H locs ls hR hf hL => lv_if_ge K.1 K.2.1 hdg ht (fun h => kt h H locs ls hR hf hL) (fun h => kf h H locs ls hR hf hL)
theorem r_icmp_gt (K : jOK X own cc nL ret d) (tgt : Nat) {x y : Int32} {off : Int} (hdg : decode cc pc = .ok (.if_icmp .gt off, 3)) (ht : (pc : Int) + off = (tgt : Int)) (kt : y < x → JW X Q nc ns n Y tgt L st μ) (kf : ¬ y < x → JW X Q nc ns n Y (pc + 3) L st μ) : JW X Q nc ns n Y pc L (.int y :: .int x :: st) μ :=
  fun H locs ls hR hf hL => lv_icmp_gt K.1 K.2.1 hdg ht (fun h => kt h H locs ls hR hf hL) (fun h => kf h H locs ls hR hf hL)
theorem r_if_gt (K : jOK X own cc nL ret d) (tgt : Nat) {x : Int32} {off : Int} (hdg : decode cc pc = .ok (.ifCond .gt off, 3)) (ht : (pc : Int) + off = (tgt : Int)) (kt : 0 < x → JW X Q nc ns n Y tgt L st μ) (kf : ¬ 0 < x → JW X Q nc ns n Y (pc + 3) L st μ) : JW X Q nc ns n Y pc L (.int x :: st) μ :=
  fun H locs ls hR hf hL => lv_if_gt K.1 K.2.1 hdg ht (fun h => kt h H locs ls hR hf hL) (fun h => kf h H locs ls hR hf hL)
theorem r_icmp_le (K : jOK X own cc nL ret d) (tgt : Nat) {x y : Int32} {off : Int} (hdg : decode cc pc = .ok (.if_icmp .le off, 3)) (ht : (pc : Int) + off = (tgt : Int)) (kt : x ≤ y → JW X Q nc ns n Y tgt L st μ) (kf : ¬ x ≤ y → JW X Q nc ns n Y (pc + 3) L st μ) : JW X Q nc ns n Y pc L (.int y :: .int x :: st) μ :=
  fun H locs ls hR hf hL => lv_icmp_le K.1 K.2.1 hdg ht (fun h => kt h H locs ls hR hf hL) (fun h => kf h H locs ls hR hf hL)
theorem r_if_le (K : jOK X own cc nL ret d) (tgt : Nat) {x : Int32} {off : Int} (hdg : decode cc pc = .ok (.ifCond .le off, 3)) (ht : (pc : Int) + off = (tgt : Int)) (kt : x ≤ 0 → JW X Q nc ns n Y tgt L st μ) (kf : ¬ x ≤ 0 → JW X Q nc ns n Y (pc + 3) L st μ) : JW X Q nc ns n Y pc L (.int x :: st) μ :=
  fun H locs ls hR hf hL => lv_if_le K.1 K.2.1 hdg ht (fun h => kt h H locs ls hR hf hL) (fun h => kf h H locs ls hR hf hL)
theorem r_ifnonnull (K : jOK X own cc nL ret d) (tgt : Nat) {x : Nat} {off : Int} (hdg : decode cc pc = .ok (.ifnonnull off, 3)) (ht : (pc : Int) + off = (tgt : Int)) (k : JW X Q nc ns n Y tgt L st μ) : JW X Q nc ns n Y pc L (.ref x :: st) μ :=
  fun H locs ls hR hf hL => lv_ifnonnull K.1 K.2.1 hdg ht (k H locs ls hR hf hL)
theorem r_ifnonnullN (K : jOK X own cc nL ret d) {off : Int} (hdg : decode cc pc = .ok (.ifnonnull off, 3)) (k : JW X Q nc ns n Y (pc + 3) L st μ) : JW X Q nc ns n Y pc L (.null :: st) μ :=
  fun H locs ls hR hf hL => lv_ifnonnullN K.1 K.2.1 hdg (k H locs ls hR hf hL)
theorem r_tableIn (K : jOK X own cc nL ret d) (tgt : Nat) {dflt lo hi : Int} {offs : Array Int} {len : Nat} {x : Int32} {off : Int} (hdg : decode cc pc = .ok (.tableswitch dflt lo hi offs, len)) (h1 : ¬ x.toInt < lo) (h2 : ¬ hi < x.toInt) (ho : offs[(x.toInt - lo).toNat]? = some off) (ht : (pc : Int) + off = (tgt : Int)) (k : JW X Q nc ns n Y tgt L st μ) : JW X Q nc ns n Y pc L (.int x :: st) μ :=
  fun H locs ls hR hf hL => lv_tableIn K.1 K.2.1 hdg h1 h2 ho ht (k H locs ls hR hf hL)
theorem r_tableOut (K : jOK X own cc nL ret d) (tgt : Nat) {dflt lo hi : Int} {offs : Array Int} {len : Nat} {x : Int32} (hdg : decode cc pc = .ok (.tableswitch dflt lo hi offs, len)) (h : x.toInt < lo ∨ hi < x.toInt) (ht : (pc : Int) + dflt = (tgt : Int)) (k : JW X Q nc ns n Y tgt L st μ) : JW X Q nc ns n Y pc L (.int x :: st) μ :=
  fun H locs ls hR hf hL => lv_tableOut K.1 K.2.1 hdg h ht (k H locs ls hR hf hL)
/-! returns -/
theorem r_iret (K : jOK X own cc nL (some .int) d) {v : Int32} (hdg : decode cc pc = .ok (.ireturn, 1)) : JW X (jEnd X n Y (some (.int v)) μ nc ns) nc ns n Y pc L [.int v] μ :=
  fun H locs ls hR hf hL => W.iret K.1 K.2.1 K.2.2.2.2.2.2.2.1 (fun t ht hW => ⟨rfl, by rw [ht]; exact hR.moved hW.alike⟩) hf hdg K.2.2.2.2.2.2.1
theorem r_zret (K : jOK X own cc nL (some .boolean) d) {v : Int32} (hv : v = 0 ∨ v = 1) (hdg : decode cc pc = .ok (.ireturn, 1)) : JW X (jEnd X n Y (some (.int v)) μ nc ns) nc ns n Y pc L [.int v] μ :=
  fun H locs ls hR hf hL => W.zret K.1 K.2.1 K.2.2.2.2.2.2.2.1 (by rcases hv with rfl | rfl <;> rfl) (fun t ht hW => ⟨rfl, by rw [ht]; exact hR.moved hW.alike⟩) hf hdg K.2.2.2.2.2.2.1
theorem r_lret (K : jOK X own cc nL (some .long) d) {v : Int64} (hdg : decode cc pc = .ok (.lreturn, 1)) : JW X (jEnd X n Y (some (.long v)) μ nc ns) nc ns n Y pc L [.long v] μ :=
  fun H locs ls hR hf hL => W.lret K.1 K.2.1 K.2.2.2.2.2.2.2.1 (fun t ht hW => ⟨rfl, by rw [ht]; exact hR.moved hW.alike⟩) hf hdg K.2.2.2.2.2.2.1
theorem r_vret (K : jOK X own cc nL none d) (hdg : decode cc pc = .ok (.return_, 1)) : JW X (jEnd X n Y none μ nc ns) nc ns n Y pc L [] μ :=
  fun H locs ls hR hf hL => W.vret K.1 K.2.1 K.2.2.2.2.2.2.2.1 (fun t ht hW => ⟨rfl, by rw [ht]; exact hR.moved hW.alike⟩) hf hdg K.2.2.2.2.2.2.1
theorem r_aret {rt : FieldType} (K : jOK X own cc nL (some rt) d) {v : Nat} (hrt : (∃ n, rt = .object n) ∨ ∃ t, rt = .array t) (hdg : decode cc pc = .ok (.areturn, 1)) : JW X (jEnd X n Y (some (.ref v)) μ nc ns) nc ns n Y pc L [.ref v] μ :=
  fun H locs ls hR hf hL => W.aret K.1 K.2.1 K.2.2.2.2.2.2.2.1 hrt (Or.inr ⟨_, rfl⟩) (fun t ht hW => ⟨rfl, by rw [ht]; exact hR.moved hW.alike⟩) hf hdg K.2.2.2.2.2.2.1
end JROWS
