/-- unsigned shifts, as the machine has them -/
def iush (x y : Int32) : Int32 := (x.toUInt32 >>> (y.toUInt32 &&& Int32.toUInt32 31)).toInt32
def lush (x : Int64) (y : Int32) : Int64 := (x.toUInt64 >>> (y.toInt64.toUInt64 &&& Int64.toUInt64 63)).toInt64
def lsh (x : Int64) (y : Int32) : Int64 := x <<< (y.toInt64 &&& 63)
def lsr (x : Int64) (y : Int32) : Int64 := x >>> (y.toInt64 &&& 63)
section Rows
variable {Z : Cx} {pc q : Nat} {lv : List (Nat × Value)} {st : List Value} {y : Ly} {I : WI} {L : WL} {R : WR} {kc ks : Nat}
theorem V_iconst {n : Int} {v : Int32} (h : At Z.1.2.1 pc (.iconst n) 1 q) (hv : Int32.ofInt n = v) (k : V Z q lv (.int v :: st) y I L R kc ks) : V Z pc lv (st) y I L R kc ks := by
  obtain ⟨h, rfl⟩ := h
  intro E p l e s m args below meth c H locs ls F D N S hl
  exact lv_iconst F.1 F.2.1 h hv (k E p l e s m args below meth c H locs ls F D N S hl)
theorem V_bipush {n : Int} {v : Int32} (h : At Z.1.2.1 pc (.bipush n) 2 q) (hv : (Int8.ofInt n).toInt32 = v) (k : V Z q lv (.int v :: st) y I L R kc ks) : V Z pc lv (st) y I L R kc ks := by
  obtain ⟨h, rfl⟩ := h
  intro E p l e s m args below meth c H locs ls F D N S hl
  exact lv_bipush F.1 F.2.1 h hv (k E p l e s m args below meth c H locs ls F D N S hl)
theorem V_sipush {n : Int} {v : Int32} (h : At Z.1.2.1 pc (.sipush n) 3 q) (hv : (Int16.ofInt n).toInt32 = v) (k : V Z q lv (.int v :: st) y I L R kc ks) : V Z pc lv (st) y I L R kc ks := by
  obtain ⟨h, rfl⟩ := h
  intro E p l e s m args below meth c H locs ls F D N S hl
  exact lv_sipush F.1 F.2.1 h hv (k E p l e s m args below meth c H locs ls F D N S hl)
theorem V_lconst {n : Fin 2} {v : Int64} (h : At Z.1.2.1 pc (.lconst n) 1 q) (hv : Int64.ofNat (n : Nat) = v) (k : V Z q lv (.long v :: st) y I L R kc ks) : V Z pc lv (st) y I L R kc ks := by
  obtain ⟨h, rfl⟩ := h
  intro E p l e s m args below meth c H locs ls F D N S hl
  exact lv_lconst F.1 F.2.1 h hv (k E p l e s m args below meth c H locs ls F D N S hl)
theorem V_null (h : At Z.1.2.1 pc (.aconst_null) 1 q) (k : V Z q lv (.null :: st) y I L R kc ks) : V Z pc lv (st) y I L R kc ks := by
  obtain ⟨h, rfl⟩ := h
  intro E p l e s m args below meth c H locs ls F D N S hl
  exact lv_null F.1 F.2.1 h (k E p l e s m args below meth c H locs ls F D N S hl)
theorem V_ldc {i : Nat} {v : Int32} (h : At Z.1.2.1 pc (.ldc i) 2 q) (hc : Cond.constant Z.1.1.cls i v ∈ gw) (k : V Z q lv (.int v :: st) y I L R kc ks) : V Z pc lv (st) y I L R kc ks := by
  obtain ⟨h, rfl⟩ := h
  intro E p l e s m args below meth c H locs ls F D N S hl
  exact lv_ldc F.1 F.2.1 F.2.2.2.1 (F.2.2.2.2.1 _ hc) h (k E p l e s m args below meth c H locs ls F D N S hl)
theorem V_ldcw {i : Nat} {v : Int32} (h : At Z.1.2.1 pc (.ldc_w i) 3 q) (hc : Cond.constant Z.1.1.cls i v ∈ gw) (k : V Z q lv (.int v :: st) y I L R kc ks) : V Z pc lv (st) y I L R kc ks := by
  obtain ⟨h, rfl⟩ := h
  intro E p l e s m args below meth c H locs ls F D N S hl
  exact lv_ldcw F.1 F.2.1 F.2.2.2.1 (F.2.2.2.2.1 _ hc) h (k E p l e s m args below meth c H locs ls F D N S hl)
theorem V_ldc2 {i : Nat} {v : Int64} (h : At Z.1.2.1 pc (.ldc2_w i) 3 q) (hc : Cond.constantLong Z.1.1.cls i v ∈ gw) (k : V Z q lv (.long v :: st) y I L R kc ks) : V Z pc lv (st) y I L R kc ks := by
  obtain ⟨h, rfl⟩ := h
  intro E p l e s m args below meth c H locs ls F D N S hl
  exact lv_ldc2 F.1 F.2.1 F.2.2.2.1 (F.2.2.2.2.1 _ hc) h (k E p l e s m args below meth c H locs ls F D N S hl)
theorem V_iload_n {n : Fin 4} {i : Nat} {x : Int32} (h : At Z.1.2.1 pc (.iload_n n) 1 q) (j : Nat) (hi : (n : Nat) = i) (hj : lv[j]? = some (i, .int x)) (k : V Z q lv (.int x :: st) y I L R kc ks) : V Z pc lv (st) y I L R kc ks := by
  obtain ⟨h, rfl⟩ := h
  intro E p l e s m args below meth c H locs ls F D N S hl
  exact lv_iload_n F.1 F.2.1 h hi (lv_at hl j (gl_at hj)) (k E p l e s m args below meth c H locs ls F D N S hl)
theorem V_iload {i : Nat} {x : Int32} (h : At Z.1.2.1 pc (.iload i) 2 q) (j : Nat) (hj : lv[j]? = some (i, .int x)) (k : V Z q lv (.int x :: st) y I L R kc ks) : V Z pc lv (st) y I L R kc ks := by
  obtain ⟨h, rfl⟩ := h
  intro E p l e s m args below meth c H locs ls F D N S hl
  exact lv_iload F.1 F.2.1 h (lv_at hl j (gl_at hj)) (k E p l e s m args below meth c H locs ls F D N S hl)
theorem V_lload_n {n : Fin 4} {i : Nat} {x : Int64} (h : At Z.1.2.1 pc (.lload_n n) 1 q) (j : Nat) (hi : (n : Nat) = i) (hj : lv[j]? = some (i, .long x)) (k : V Z q lv (.long x :: st) y I L R kc ks) : V Z pc lv (st) y I L R kc ks := by
  obtain ⟨h, rfl⟩ := h
  intro E p l e s m args below meth c H locs ls F D N S hl
  exact lv_lload_n F.1 F.2.1 h hi (lv_at hl j (gl_at hj)) (k E p l e s m args below meth c H locs ls F D N S hl)
theorem V_lload {i : Nat} {x : Int64} (h : At Z.1.2.1 pc (.lload i) 2 q) (j : Nat) (hj : lv[j]? = some (i, .long x)) (k : V Z q lv (.long x :: st) y I L R kc ks) : V Z pc lv (st) y I L R kc ks := by
  obtain ⟨h, rfl⟩ := h
  intro E p l e s m args below meth c H locs ls F D N S hl
  exact lv_lload F.1 F.2.1 h (lv_at hl j (gl_at hj)) (k E p l e s m args below meth c H locs ls F D N S hl)
theorem V_aload_n {n : Fin 4} {i : Nat} {a : Nat} (h : At Z.1.2.1 pc (.aload_n n) 1 q) (j : Nat) (hi : (n : Nat) = i) (hj : lv[j]? = some (i, .ref a)) (k : V Z q lv (.ref a :: st) y I L R kc ks) : V Z pc lv st y I L R kc ks := by
  obtain ⟨h, rfl⟩ := h
  intro E p l e s m args below meth c H locs ls F D N S hl
  have h1 := lv_at hl j (gl_at (E := E) hj)
  have k1 := (k E p l e s m args below meth c H locs ls F D N S hl)
  simp only [List.map_cons] at k1
  change ls[i]? = some (.val (va_rf (gr E a))) at h1
  change W p l e _ s m args below meth c H locs kc ks _ (F0 m _ ls (va_rf (gr E a) :: _)) at k1
  cases ho : gr E a with
  | none => rw [ho] at h1 k1; exact lv_aload_nN F.1 F.2.1 h hi h1 k1
  | some x => rw [ho] at h1 k1; exact lv_aload_n F.1 F.2.1 h hi h1 k1
theorem V_aloadN_n {n : Fin 4} {i : Nat} (h : At Z.1.2.1 pc (.aload_n n) 1 q) (j : Nat) (hi : (n : Nat) = i) (hj : lv[j]? = some (i, .null)) (k : V Z q lv (.null :: st) y I L R kc ks) : V Z pc lv st y I L R kc ks := by
  obtain ⟨h, rfl⟩ := h
  intro E p l e s m args below meth c H locs ls F D N S hl
  exact lv_aload_nN F.1 F.2.1 h hi (lv_at hl j (gl_at hj)) (k E p l e s m args below meth c H locs ls F D N S hl)
theorem V_aload {i : Nat} {a : Nat} (h : At Z.1.2.1 pc (.aload i) 2 q) (j : Nat) (hj : lv[j]? = some (i, .ref a)) (k : V Z q lv (.ref a :: st) y I L R kc ks) : V Z pc lv st y I L R kc ks := by
  obtain ⟨h, rfl⟩ := h
  intro E p l e s m args below meth c H locs ls F D N S hl
  have h1 := lv_at hl j (gl_at (E := E) hj)
  have k1 := (k E p l e s m args below meth c H locs ls F D N S hl)
  simp only [List.map_cons] at k1
  change ls[i]? = some (.val (va_rf (gr E a))) at h1
  change W p l e _ s m args below meth c H locs kc ks _ (F0 m _ ls (va_rf (gr E a) :: _)) at k1
  cases ho : gr E a with
  | none => rw [ho] at h1 k1; exact lv_aloadN F.1 F.2.1 h h1 k1
  | some x => rw [ho] at h1 k1; exact lv_aload F.1 F.2.1 h h1 k1
theorem V_aloadN {i : Nat} (h : At Z.1.2.1 pc (.aload i) 2 q) (j : Nat) (hj : lv[j]? = some (i, .null)) (k : V Z q lv (.null :: st) y I L R kc ks) : V Z pc lv st y I L R kc ks := by
  obtain ⟨h, rfl⟩ := h
  intro E p l e s m args below meth c H locs ls F D N S hl
  exact lv_aloadN F.1 F.2.1 h (lv_at hl j (gl_at hj)) (k E p l e s m args below meth c H locs ls F D N S hl)
theorem V_istore_n {n : Fin 4} {i : Nat} {x : Int32} {lv' : List (Nat × Value)} (h : At Z.1.2.1 pc (.istore_n n) 1 q) (hi : (n : Nat) = i) (hn : i < Z.1.2.2.1) (hl' : (i, .int x) :: lv.filter (fun q => !(q.1 == i) && !(q.1 + 1 == i && q.2.category == 2)) = lv') (k : V Z q lv' st y I L R kc ks) : V Z pc lv (.int x :: st) y I L R kc ks := by
  obtain ⟨h, rfl⟩ := h
  intro E p l e s m args below meth c H locs ls F D N S hl
  exact lv_istore_n F.1 F.2.1 h hi hl hn (gl_filter1 E lv i (.int x)) (fun ls hl => k E p l e s m args below meth c H locs ls F D N S (by rw [← hl']; exact hl))
theorem V_istore {i : Nat} {x : Int32} {lv' : List (Nat × Value)} (h : At Z.1.2.1 pc (.istore i) 2 q) (hn : i < Z.1.2.2.1) (hl' : (i, .int x) :: lv.filter (fun q => !(q.1 == i) && !(q.1 + 1 == i && q.2.category == 2)) = lv') (k : V Z q lv' st y I L R kc ks) : V Z pc lv (.int x :: st) y I L R kc ks := by
  obtain ⟨h, rfl⟩ := h
  intro E p l e s m args below meth c H locs ls F D N S hl
  exact lv_istore F.1 F.2.1 h hl hn (gl_filter1 E lv i (.int x)) (fun ls hl => k E p l e s m args below meth c H locs ls F D N S (by rw [← hl']; exact hl))
theorem V_lstore_n {n : Fin 4} {i : Nat} {x : Int64} {lv' : List (Nat × Value)} (h : At Z.1.2.1 pc (.lstore_n n) 1 q) (hi : (n : Nat) = i) (hn : i + 1 < Z.1.2.2.1) (hl' : (i, .long x) :: lv.filter (fun q => !(q.1 == i) && (!(q.1 == i + 1) && !(q.1 + 1 == i && q.2.category == 2))) = lv') (k : V Z q lv' st y I L R kc ks) : V Z pc lv (.long x :: st) y I L R kc ks := by
  obtain ⟨h, rfl⟩ := h
  intro E p l e s m args below meth c H locs ls F D N S hl
  exact lv_lstore_n F.1 F.2.1 h hi hl hn (gl_filter2 E lv i (.long x)) (fun ls hl => k E p l e s m args below meth c H locs ls F D N S (by rw [← hl']; exact hl))
theorem V_lstore {i : Nat} {x : Int64} {lv' : List (Nat × Value)} (h : At Z.1.2.1 pc (.lstore i) 2 q) (hn : i + 1 < Z.1.2.2.1) (hl' : (i, .long x) :: lv.filter (fun q => !(q.1 == i) && (!(q.1 == i + 1) && !(q.1 + 1 == i && q.2.category == 2))) = lv') (k : V Z q lv' st y I L R kc ks) : V Z pc lv (.long x :: st) y I L R kc ks := by
  obtain ⟨h, rfl⟩ := h
  intro E p l e s m args below meth c H locs ls F D N S hl
  exact lv_lstore F.1 F.2.1 h hl hn (gl_filter2 E lv i (.long x)) (fun ls hl => k E p l e s m args below meth c H locs ls F D N S (by rw [← hl']; exact hl))
theorem V_astore_n {n : Fin 4} {i : Nat} {a : Nat} {lv' : List (Nat × Value)} (h : At Z.1.2.1 pc (.astore_n n) 1 q) (hi : (n : Nat) = i) (ha : a < 1000) (hn : i < Z.1.2.2.1) (hl' : (i, .ref a) :: lv.filter (fun q => !(q.1 == i) && !(q.1 + 1 == i && q.2.category == 2)) = lv') (k : V Z q lv' st y I L R kc ks) : V Z pc lv (.ref a :: st) y I L R kc ks := by
  obtain ⟨h, rfl⟩ := h
  intro E p l e s m args below meth c H locs ls F D N S hl
  have e1 := gl_filter1 E lv i (.ref a)
  simp only [List.map_cons]
  rw [gv_w ha] at e1 ⊢
  exact lv_astore_n F.1 F.2.1 h hi hl hn e1 (fun ls hl => k E p l e s m args below meth c H locs ls F D N S (by rw [← hl']; exact hl))
theorem V_astoreN_n {n : Fin 4} {i : Nat} {lv' : List (Nat × Value)} (h : At Z.1.2.1 pc (.astore_n n) 1 q) (hi : (n : Nat) = i) (hn : i < Z.1.2.2.1) (hl' : (i, .null) :: lv.filter (fun q => !(q.1 == i) && !(q.1 + 1 == i && q.2.category == 2)) = lv') (k : V Z q lv' st y I L R kc ks) : V Z pc lv (.null :: st) y I L R kc ks := by
  obtain ⟨h, rfl⟩ := h
  intro E p l e s m args below meth c H locs ls F D N S hl
  exact lv_astore_nN F.1 F.2.1 h hi hl hn (gl_filter1 E lv i .null) (fun ls hl => k E p l e s m args below meth c H locs ls F D N S (by rw [← hl']; exact hl))
theorem V_astore {i : Nat} {a : Nat} {lv' : List (Nat × Value)} (h : At Z.1.2.1 pc (.astore i) 2 q) (ha : a < 1000) (hn : i < Z.1.2.2.1) (hl' : (i, .ref a) :: lv.filter (fun q => !(q.1 == i) && !(q.1 + 1 == i && q.2.category == 2)) = lv') (k : V Z q lv' st y I L R kc ks) : V Z pc lv (.ref a :: st) y I L R kc ks := by
  obtain ⟨h, rfl⟩ := h
  intro E p l e s m args below meth c H locs ls F D N S hl
  have e1 := gl_filter1 E lv i (.ref a)
  simp only [List.map_cons]
  rw [gv_w ha] at e1 ⊢
  exact lv_astore F.1 F.2.1 h hl hn e1 (fun ls hl => k E p l e s m args below meth c H locs ls F D N S (by rw [← hl']; exact hl))
theorem V_astoreN {i : Nat} {lv' : List (Nat × Value)} (h : At Z.1.2.1 pc (.astore i) 2 q) (hn : i < Z.1.2.2.1) (hl' : (i, .null) :: lv.filter (fun q => !(q.1 == i) && !(q.1 + 1 == i && q.2.category == 2)) = lv') (k : V Z q lv' st y I L R kc ks) : V Z pc lv (.null :: st) y I L R kc ks := by
  obtain ⟨h, rfl⟩ := h
  intro E p l e s m args below meth c H locs ls F D N S hl
  exact lv_astoreN F.1 F.2.1 h hl hn (gl_filter1 E lv i .null) (fun ls hl => k E p l e s m args below meth c H locs ls F D N S (by rw [← hl']; exact hl))
theorem V_iinc {i : Nat} {n : Int} {x v : Int32} {lv' : List (Nat × Value)} (h : At Z.1.2.1 pc (.iinc i n) 3 q) (j : Nat) (hj : lv[j]? = some (i, .int x)) (hv : x + Int32.ofInt n = v) (hn : i < Z.1.2.2.1) (hl' : (i, .int v) :: lv.filter (fun q => !(q.1 == i) && !(q.1 + 1 == i && q.2.category == 2)) = lv') (k : V Z q lv' st y I L R kc ks) : V Z pc lv st y I L R kc ks := by
  obtain ⟨h, rfl⟩ := h
  intro E p l e s m args below meth c H locs ls F D N S hl
  exact lv_iinc F.1 F.2.1 h hl (gl_at hj) hv hn (gl_filter1 E lv i (.int v)) (fun ls hl => k E p l e s m args below meth c H locs ls F D N S (by rw [← hl']; exact hl))
theorem V_iadd {x y1 : Int32} (h : At Z.1.2.1 pc (.iadd) 1 q) (k : V Z q lv (.int (x + y1) :: st) y I L R kc ks) : V Z pc lv (.int y1 :: .int x :: st) y I L R kc ks := by
  obtain ⟨h, rfl⟩ := h
  intro E p l e s m args below meth c H locs ls F D N S hl
  exact lv_iadd F.1 F.2.1 h (k E p l e s m args below meth c H locs ls F D N S hl)
theorem V_isub {x y1 : Int32} (h : At Z.1.2.1 pc (.isub) 1 q) (k : V Z q lv (.int (x - y1) :: st) y I L R kc ks) : V Z pc lv (.int y1 :: .int x :: st) y I L R kc ks := by
  obtain ⟨h, rfl⟩ := h
  intro E p l e s m args below meth c H locs ls F D N S hl
  exact lv_isub F.1 F.2.1 h (k E p l e s m args below meth c H locs ls F D N S hl)
theorem V_imul {x y1 : Int32} (h : At Z.1.2.1 pc (.imul) 1 q) (k : V Z q lv (.int (x * y1) :: st) y I L R kc ks) : V Z pc lv (.int y1 :: .int x :: st) y I L R kc ks := by
  obtain ⟨h, rfl⟩ := h
  intro E p l e s m args below meth c H locs ls F D N S hl
  exact lv_imul F.1 F.2.1 h (k E p l e s m args below meth c H locs ls F D N S hl)
theorem V_iand {x y1 : Int32} (h : At Z.1.2.1 pc (.iand) 1 q) (k : V Z q lv (.int (x &&& y1) :: st) y I L R kc ks) : V Z pc lv (.int y1 :: .int x :: st) y I L R kc ks := by
  obtain ⟨h, rfl⟩ := h
  intro E p l e s m args below meth c H locs ls F D N S hl
  exact lv_iand F.1 F.2.1 h (k E p l e s m args below meth c H locs ls F D N S hl)
theorem V_ior {x y1 : Int32} (h : At Z.1.2.1 pc (.ior) 1 q) (k : V Z q lv (.int (x ||| y1) :: st) y I L R kc ks) : V Z pc lv (.int y1 :: .int x :: st) y I L R kc ks := by
  obtain ⟨h, rfl⟩ := h
  intro E p l e s m args below meth c H locs ls F D N S hl
  exact lv_ior F.1 F.2.1 h (k E p l e s m args below meth c H locs ls F D N S hl)
theorem V_ixor {x y1 : Int32} (h : At Z.1.2.1 pc (.ixor) 1 q) (k : V Z q lv (.int (x ^^^ y1) :: st) y I L R kc ks) : V Z pc lv (.int y1 :: .int x :: st) y I L R kc ks := by
  obtain ⟨h, rfl⟩ := h
  intro E p l e s m args below meth c H locs ls F D N S hl
  exact lv_ixor F.1 F.2.1 h (k E p l e s m args below meth c H locs ls F D N S hl)
theorem V_ladd {x y1 : Int64} (h : At Z.1.2.1 pc (.ladd) 1 q) (k : V Z q lv (.long (x + y1) :: st) y I L R kc ks) : V Z pc lv (.long y1 :: .long x :: st) y I L R kc ks := by
  obtain ⟨h, rfl⟩ := h
  intro E p l e s m args below meth c H locs ls F D N S hl
  exact lv_ladd F.1 F.2.1 h (k E p l e s m args below meth c H locs ls F D N S hl)
theorem V_lsub {x y1 : Int64} (h : At Z.1.2.1 pc (.lsub) 1 q) (k : V Z q lv (.long (x - y1) :: st) y I L R kc ks) : V Z pc lv (.long y1 :: .long x :: st) y I L R kc ks := by
  obtain ⟨h, rfl⟩ := h
  intro E p l e s m args below meth c H locs ls F D N S hl
  exact lv_lsub F.1 F.2.1 h (k E p l e s m args below meth c H locs ls F D N S hl)
theorem V_lmul {x y1 : Int64} (h : At Z.1.2.1 pc (.lmul) 1 q) (k : V Z q lv (.long (x * y1) :: st) y I L R kc ks) : V Z pc lv (.long y1 :: .long x :: st) y I L R kc ks := by
  obtain ⟨h, rfl⟩ := h
  intro E p l e s m args below meth c H locs ls F D N S hl
  exact lv_lmul F.1 F.2.1 h (k E p l e s m args below meth c H locs ls F D N S hl)
theorem V_land {x y1 : Int64} (h : At Z.1.2.1 pc (.land) 1 q) (k : V Z q lv (.long (x &&& y1) :: st) y I L R kc ks) : V Z pc lv (.long y1 :: .long x :: st) y I L R kc ks := by
  obtain ⟨h, rfl⟩ := h
  intro E p l e s m args below meth c H locs ls F D N S hl
  exact lv_land F.1 F.2.1 h (k E p l e s m args below meth c H locs ls F D N S hl)
theorem V_lor {x y1 : Int64} (h : At Z.1.2.1 pc (.lor) 1 q) (k : V Z q lv (.long (x ||| y1) :: st) y I L R kc ks) : V Z pc lv (.long y1 :: .long x :: st) y I L R kc ks := by
  obtain ⟨h, rfl⟩ := h
  intro E p l e s m args below meth c H locs ls F D N S hl
  exact lv_lor F.1 F.2.1 h (k E p l e s m args below meth c H locs ls F D N S hl)
theorem V_lxor {x y1 : Int64} (h : At Z.1.2.1 pc (.lxor) 1 q) (k : V Z q lv (.long (x ^^^ y1) :: st) y I L R kc ks) : V Z pc lv (.long y1 :: .long x :: st) y I L R kc ks := by
  obtain ⟨h, rfl⟩ := h
  intro E p l e s m args below meth c H locs ls F D N S hl
  exact lv_lxor F.1 F.2.1 h (k E p l e s m args below meth c H locs ls F D N S hl)
theorem V_ineg {x : Int32} (h : At Z.1.2.1 pc (.ineg) 1 q) (k : V Z q lv (.int (-x) :: st) y I L R kc ks) : V Z pc lv (.int x :: st) y I L R kc ks := by
  obtain ⟨h, rfl⟩ := h
  intro E p l e s m args below meth c H locs ls F D N S hl
  exact lv_ineg F.1 F.2.1 h (k E p l e s m args below meth c H locs ls F D N S hl)
theorem V_lneg {x : Int64} (h : At Z.1.2.1 pc (.lneg) 1 q) (k : V Z q lv (.long (-x) :: st) y I L R kc ks) : V Z pc lv (.long x :: st) y I L R kc ks := by
  obtain ⟨h, rfl⟩ := h
  intro E p l e s m args below meth c H locs ls F D N S hl
  exact lv_lneg F.1 F.2.1 h (k E p l e s m args below meth c H locs ls F D N S hl)
theorem V_idiv {x y1 : Int32} (h : At Z.1.2.1 pc (.idiv) 1 q) (hne : ¬ y1 = 0) (k : V Z q lv (.int (x / y1) :: st) y I L R kc ks) : V Z pc lv (.int y1 :: .int x :: st) y I L R kc ks := by
  obtain ⟨h, rfl⟩ := h
  intro E p l e s m args below meth c H locs ls F D N S hl
  exact lv_idiv F.1 F.2.1 h hne (k E p l e s m args below meth c H locs ls F D N S hl)
theorem V_irem {x y1 : Int32} (h : At Z.1.2.1 pc (.irem) 1 q) (hne : ¬ y1 = 0) (k : V Z q lv (.int (x - x / y1 * y1) :: st) y I L R kc ks) : V Z pc lv (.int y1 :: .int x :: st) y I L R kc ks := by
  obtain ⟨h, rfl⟩ := h
  intro E p l e s m args below meth c H locs ls F D N S hl
  exact lv_irem F.1 F.2.1 h hne (k E p l e s m args below meth c H locs ls F D N S hl)
theorem V_ishl {x y1 : Int32} (h : At Z.1.2.1 pc (.ishl) 1 q) (k : V Z q lv (.int (x <<< (y1 &&& 31)) :: st) y I L R kc ks) : V Z pc lv (.int y1 :: .int x :: st) y I L R kc ks := by
  obtain ⟨h, rfl⟩ := h
  intro E p l e s m args below meth c H locs ls F D N S hl
  exact lv_ishl F.1 F.2.1 h (k E p l e s m args below meth c H locs ls F D N S hl)
theorem V_ishr {x y1 : Int32} (h : At Z.1.2.1 pc (.ishr) 1 q) (k : V Z q lv (.int (x >>> (y1 &&& 31)) :: st) y I L R kc ks) : V Z pc lv (.int y1 :: .int x :: st) y I L R kc ks := by
  obtain ⟨h, rfl⟩ := h
  intro E p l e s m args below meth c H locs ls F D N S hl
  exact lv_ishr F.1 F.2.1 h (k E p l e s m args below meth c H locs ls F D N S hl)
theorem V_iushr {x y1 : Int32} (h : At Z.1.2.1 pc (.iushr) 1 q) (k : V Z q lv (.int (iush x y1) :: st) y I L R kc ks) : V Z pc lv (.int y1 :: .int x :: st) y I L R kc ks := by
  obtain ⟨h, rfl⟩ := h
  intro E p l e s m args below meth c H locs ls F D N S hl
  exact lv_iushr F.1 F.2.1 h rfl (k E p l e s m args below meth c H locs ls F D N S hl)
theorem V_lushr {x : Int64} {y1 : Int32} (h : At Z.1.2.1 pc (.lushr) 1 q) (k : V Z q lv (.long (lush x y1) :: st) y I L R kc ks) : V Z pc lv (.int y1 :: .long x :: st) y I L R kc ks := by
  obtain ⟨h, rfl⟩ := h
  intro E p l e s m args below meth c H locs ls F D N S hl
  exact lv_lushr F.1 F.2.1 h rfl (k E p l e s m args below meth c H locs ls F D N S hl)
theorem V_lshl {x : Int64} {y1 : Int32} (h : At Z.1.2.1 pc (.lshl) 1 q) (k : V Z q lv (.long (lsh x y1) :: st) y I L R kc ks) : V Z pc lv (.int y1 :: .long x :: st) y I L R kc ks := by
  obtain ⟨h, rfl⟩ := h
  intro E p l e s m args below meth c H locs ls F D N S hl
  exact lv_lshl F.1 F.2.1 h rfl (k E p l e s m args below meth c H locs ls F D N S hl)
theorem V_lshr {x : Int64} {y1 : Int32} (h : At Z.1.2.1 pc (.lshr) 1 q) (k : V Z q lv (.long (lsr x y1) :: st) y I L R kc ks) : V Z pc lv (.int y1 :: .long x :: st) y I L R kc ks := by
  obtain ⟨h, rfl⟩ := h
  intro E p l e s m args below meth c H locs ls F D N S hl
  exact lv_lshr F.1 F.2.1 h rfl (k E p l e s m args below meth c H locs ls F D N S hl)
theorem V_i2l {x : Int32} (h : At Z.1.2.1 pc (.i2l) 1 q) (k : V Z q lv (.long x.toInt64 :: st) y I L R kc ks) : V Z pc lv (.int x :: st) y I L R kc ks := by
  obtain ⟨h, rfl⟩ := h
  intro E p l e s m args below meth c H locs ls F D N S hl
  exact lv_i2l F.1 F.2.1 h rfl (k E p l e s m args below meth c H locs ls F D N S hl)
theorem V_l2i {x : Int64} (h : At Z.1.2.1 pc (.l2i) 1 q) (k : V Z q lv (.int x.toInt32 :: st) y I L R kc ks) : V Z pc lv (.long x :: st) y I L R kc ks := by
  obtain ⟨h, rfl⟩ := h
  intro E p l e s m args below meth c H locs ls F D N S hl
  exact lv_l2i F.1 F.2.1 h rfl (k E p l e s m args below meth c H locs ls F D N S hl)
theorem V_i2b {x : Int32} (h : At Z.1.2.1 pc (.i2b) 1 q) (k : V Z q lv (.int x.toInt8.toInt32 :: st) y I L R kc ks) : V Z pc lv (.int x :: st) y I L R kc ks := by
  obtain ⟨h, rfl⟩ := h
  intro E p l e s m args below meth c H locs ls F D N S hl
  exact lv_i2b F.1 F.2.1 h rfl (k E p l e s m args below meth c H locs ls F D N S hl)
theorem V_i2s {x : Int32} (h : At Z.1.2.1 pc (.i2s) 1 q) (k : V Z q lv (.int x.toInt16.toInt32 :: st) y I L R kc ks) : V Z pc lv (.int x :: st) y I L R kc ks := by
  obtain ⟨h, rfl⟩ := h
  intro E p l e s m args below meth c H locs ls F D N S hl
  exact lv_i2s F.1 F.2.1 h rfl (k E p l e s m args below meth c H locs ls F D N S hl)
theorem V_i2c {x : Int32} (h : At Z.1.2.1 pc (.i2c) 1 q) (k : V Z q lv (.int (x.toUInt32 % 65536).toInt32 :: st) y I L R kc ks) : V Z pc lv (.int x :: st) y I L R kc ks := by
  obtain ⟨h, rfl⟩ := h
  intro E p l e s m args below meth c H locs ls F D N S hl
  exact lv_i2c F.1 F.2.1 h rfl (k E p l e s m args below meth c H locs ls F D N S hl)
theorem V_lcmp {x y1 : Int64} (h : At Z.1.2.1 pc (.lcmp) 1 q) (k : V Z q lv (.int (lg_cmp x y1) :: st) y I L R kc ks) : V Z pc lv (.long y1 :: .long x :: st) y I L R kc ks := by
  obtain ⟨h, rfl⟩ := h
  intro E p l e s m args below meth c H locs ls F D N S hl
  exact W.lcmp F.1 F.2.1 h (k E p l e s m args below meth c H locs ls F D N S hl)
theorem V_dup {v : Value} (h : At Z.1.2.1 pc (.dup) 1 q) (hv : v.category = 1) (k : V Z q lv (v :: v :: st) y I L R kc ks) : V Z pc lv (v :: st) y I L R kc ks := by
  obtain ⟨h, rfl⟩ := h
  intro E p l e s m args below meth c H locs ls F D N S hl
  exact lv_dup F.1 F.2.1 h ((gv_cat E v).trans hv) (k E p l e s m args below meth c H locs ls F D N S hl)
theorem V_pop {v : Value} (h : At Z.1.2.1 pc (.pop) 1 q) (hv : v.category = 1) (k : V Z q lv (st) y I L R kc ks) : V Z pc lv (v :: st) y I L R kc ks := by
  obtain ⟨h, rfl⟩ := h
  intro E p l e s m args below meth c H locs ls F D N S hl
  exact lv_pop F.1 F.2.1 h ((gv_cat E v).trans hv) (k E p l e s m args below meth c H locs ls F D N S hl)
theorem V_dup2 {v w : Value} (h : At Z.1.2.1 pc (.dup2) 1 q) (hv : v.category = 1) (hw : w.category = 1) (k : V Z q lv (v :: w :: v :: w :: st) y I L R kc ks) : V Z pc lv (v :: w :: st) y I L R kc ks := by
  obtain ⟨h, rfl⟩ := h
  intro E p l e s m args below meth c H locs ls F D N S hl
  exact lv_dup2_11 F.1 F.2.1 h ((gv_cat E v).trans hv) ((gv_cat E w).trans hw) (k E p l e s m args below meth c H locs ls F D N S hl)
theorem V_dup_x1 {v w : Value} (h : At Z.1.2.1 pc (.dup_x1) 1 q) (hv : v.category = 1) (hw : w.category = 1) (k : V Z q lv (v :: w :: v :: st) y I L R kc ks) : V Z pc lv (v :: w :: st) y I L R kc ks := by
  obtain ⟨h, rfl⟩ := h
  intro E p l e s m args below meth c H locs ls F D N S hl
  exact lv_dup_x1 F.1 F.2.1 h ((gv_cat E v).trans hv) ((gv_cat E w).trans hw) (k E p l e s m args below meth c H locs ls F D N S hl)
theorem V_if_eq {x : Int32} {off : Int} {tgt : Nat} (h : At Z.1.2.1 pc (.ifCond .eq off) 3 q) (ht : (pc : Int) + off = (tgt : Int)) (kt : x = 0 → V Z tgt lv st y I L R kc ks) (kf : ¬ x = 0 → V Z q lv st y I L R kc ks) : V Z pc lv (.int x :: st) y I L R kc ks := by
  obtain ⟨h, rfl⟩ := h
  intro E p l e s m args below meth c H locs ls F D N S hl
  exact lv_if_eq F.1 F.2.1 h ht (fun hc => kt hc E p l e s m args below meth c H locs ls F D N S hl) (fun hc => kf hc E p l e s m args below meth c H locs ls F D N S hl)
theorem V_icmp_eq {x y1 : Int32} {off : Int} {tgt : Nat} (h : At Z.1.2.1 pc (.if_icmp .eq off) 3 q) (ht : (pc : Int) + off = (tgt : Int)) (kt : x = y1 → V Z tgt lv st y I L R kc ks) (kf : ¬ x = y1 → V Z q lv st y I L R kc ks) : V Z pc lv (.int y1 :: .int x :: st) y I L R kc ks := by
  obtain ⟨h, rfl⟩ := h
  intro E p l e s m args below meth c H locs ls F D N S hl
  exact lv_icmp_eq F.1 F.2.1 h ht (fun hc => kt hc E p l e s m args below meth c H locs ls F D N S hl) (fun hc => kf hc E p l e s m args below meth c H locs ls F D N S hl)
theorem V_if_ne {x : Int32} {off : Int} {tgt : Nat} (h : At Z.1.2.1 pc (.ifCond .ne off) 3 q) (ht : (pc : Int) + off = (tgt : Int)) (kt : ¬ x = 0 → V Z tgt lv st y I L R kc ks) (kf : x = 0 → V Z q lv st y I L R kc ks) : V Z pc lv (.int x :: st) y I L R kc ks := by
  obtain ⟨h, rfl⟩ := h
  intro E p l e s m args below meth c H locs ls F D N S hl
  exact lv_if_ne F.1 F.2.1 h ht (fun hc => kt hc E p l e s m args below meth c H locs ls F D N S hl) (fun hc => kf hc E p l e s m args below meth c H locs ls F D N S hl)
theorem V_icmp_ne {x y1 : Int32} {off : Int} {tgt : Nat} (h : At Z.1.2.1 pc (.if_icmp .ne off) 3 q) (ht : (pc : Int) + off = (tgt : Int)) (kt : ¬ x = y1 → V Z tgt lv st y I L R kc ks) (kf : x = y1 → V Z q lv st y I L R kc ks) : V Z pc lv (.int y1 :: .int x :: st) y I L R kc ks := by
  obtain ⟨h, rfl⟩ := h
  intro E p l e s m args below meth c H locs ls F D N S hl
  exact lv_icmp_ne F.1 F.2.1 h ht (fun hc => kt hc E p l e s m args below meth c H locs ls F D N S hl) (fun hc => kf hc E p l e s m args below meth c H locs ls F D N S hl)
theorem V_if_lt {x : Int32} {off : Int} {tgt : Nat} (h : At Z.1.2.1 pc (.ifCond .lt off) 3 q) (ht : (pc : Int) + off = (tgt : Int)) (kt : x < 0 → V Z tgt lv st y I L R kc ks) (kf : ¬ x < 0 → V Z q lv st y I L R kc ks) : V Z pc lv (.int x :: st) y I L R kc ks := by
  obtain ⟨h, rfl⟩ := h
  intro E p l e s m args below meth c H locs ls F D N S hl
  exact lv_if_lt F.1 F.2.1 h ht (fun hc => kt hc E p l e s m args below meth c H locs ls F D N S hl) (fun hc => kf hc E p l e s m args below meth c H locs ls F D N S hl)
theorem V_icmp_lt {x y1 : Int32} {off : Int} {tgt : Nat} (h : At Z.1.2.1 pc (.if_icmp .lt off) 3 q) (ht : (pc : Int) + off = (tgt : Int)) (kt : x < y1 → V Z tgt lv st y I L R kc ks) (kf : ¬ x < y1 → V Z q lv st y I L R kc ks) : V Z pc lv (.int y1 :: .int x :: st) y I L R kc ks := by
  obtain ⟨h, rfl⟩ := h
  intro E p l e s m args below meth c H locs ls F D N S hl
  exact lv_icmp_lt F.1 F.2.1 h ht (fun hc => kt hc E p l e s m args below meth c H locs ls F D N S hl) (fun hc => kf hc E p l e s m args below meth c H locs ls F D N S hl)
theorem V_if_ge {x : Int32} {off : Int} {tgt : Nat} (h : At Z.1.2.1 pc (.ifCond .ge off) 3 q) (ht : (pc : Int) + off = (tgt : Int)) (kt : 0 ≤ x → V Z tgt lv st y I L R kc ks) (kf : ¬ 0 ≤ x → V Z q lv st y I L R kc ks) : V Z pc lv (.int x :: st) y I L R kc ks := by
  obtain ⟨h, rfl⟩ := h
  intro E p l e s m args below meth c H locs ls F D N S hl
  exact lv_if_ge F.1 F.2.1 h ht (fun hc => kt hc E p l e s m args below meth c H locs ls F D N S hl) (fun hc => kf hc E p l e s m args below meth c H locs ls F D N S hl)
theorem V_icmp_ge {x y1 : Int32} {off : Int} {tgt : Nat} (h : At Z.1.2.1 pc (.if_icmp .ge off) 3 q) (ht : (pc : Int) + off = (tgt : Int)) (kt : y1 ≤ x → V Z tgt lv st y I L R kc ks) (kf : ¬ y1 ≤ x → V Z q lv st y I L R kc ks) : V Z pc lv (.int y1 :: .int x :: st) y I L R kc ks := by
  obtain ⟨h, rfl⟩ := h
  intro E p l e s m args below meth c H locs ls F D N S hl
  exact lv_icmp_ge F.1 F.2.1 h ht (fun hc => kt hc E p l e s m args below meth c H locs ls F D N S hl) (fun hc => kf hc E p l e s m args below meth c H locs ls F D N S hl)
theorem V_if_gt {x : Int32} {off : Int} {tgt : Nat} (h : At Z.1.2.1 pc (.ifCond .gt off) 3 q) (ht : (pc : Int) + off = (tgt : Int)) (kt : 0 < x → V Z tgt lv st y I L R kc ks) (kf : ¬ 0 < x → V Z q lv st y I L R kc ks) : V Z pc lv (.int x :: st) y I L R kc ks := by
  obtain ⟨h, rfl⟩ := h
  intro E p l e s m args below meth c H locs ls F D N S hl
  exact lv_if_gt F.1 F.2.1 h ht (fun hc => kt hc E p l e s m args below meth c H locs ls F D N S hl) (fun hc => kf hc E p l e s m args below meth c H locs ls F D N S hl)
theorem V_icmp_gt {x y1 : Int32} {off : Int} {tgt : Nat} (h : At Z.1.2.1 pc (.if_icmp .gt off) 3 q) (ht : (pc : Int) + off = (tgt : Int)) (kt : y1 < x → V Z tgt lv st y I L R kc ks) (kf : ¬ y1 < x → V Z q lv st y I L R kc ks) : V Z pc lv (.int y1 :: .int x :: st) y I L R kc ks := by
  obtain ⟨h, rfl⟩ := h
  intro E p l e s m args below meth c H locs ls F D N S hl
  exact lv_icmp_gt F.1 F.2.1 h ht (fun hc => kt hc E p l e s m args below meth c H locs ls F D N S hl) (fun hc => kf hc E p l e s m args below meth c H locs ls F D N S hl)
theorem V_if_le {x : Int32} {off : Int} {tgt : Nat} (h : At Z.1.2.1 pc (.ifCond .le off) 3 q) (ht : (pc : Int) + off = (tgt : Int)) (kt : x ≤ 0 → V Z tgt lv st y I L R kc ks) (kf : ¬ x ≤ 0 → V Z q lv st y I L R kc ks) : V Z pc lv (.int x :: st) y I L R kc ks := by
  obtain ⟨h, rfl⟩ := h
  intro E p l e s m args below meth c H locs ls F D N S hl
  exact lv_if_le F.1 F.2.1 h ht (fun hc => kt hc E p l e s m args below meth c H locs ls F D N S hl) (fun hc => kf hc E p l e s m args below meth c H locs ls F D N S hl)
theorem V_icmp_le {x y1 : Int32} {off : Int} {tgt : Nat} (h : At Z.1.2.1 pc (.if_icmp .le off) 3 q) (ht : (pc : Int) + off = (tgt : Int)) (kt : x ≤ y1 → V Z tgt lv st y I L R kc ks) (kf : ¬ x ≤ y1 → V Z q lv st y I L R kc ks) : V Z pc lv (.int y1 :: .int x :: st) y I L R kc ks := by
  obtain ⟨h, rfl⟩ := h
  intro E p l e s m args below meth c H locs ls F D N S hl
  exact lv_icmp_le F.1 F.2.1 h ht (fun hc => kt hc E p l e s m args below meth c H locs ls F D N S hl) (fun hc => kf hc E p l e s m args below meth c H locs ls F D N S hl)
theorem V_goto {off : Int} {tgt : Nat} (h : At Z.1.2.1 pc (.goto off) 3 q) (ht : (pc : Int) + off = (tgt : Int)) (k : V Z tgt lv st y I L R kc ks) : V Z pc lv st y I L R kc ks := by
  obtain ⟨h, rfl⟩ := h
  intro E p l e s m args below meth c H locs ls F D N S hl
  exact lv_goto F.1 F.2.1 h ht (k E p l e s m args below meth c H locs ls F D N S hl)
theorem V_ifnonnull {a : Nat} {off : Int} {tgt : Nat} (h : At Z.1.2.1 pc (.ifnonnull off) 3 q) (ha : a < 1000) (ht : (pc : Int) + off = (tgt : Int)) (k : V Z tgt lv st y I L R kc ks) : V Z pc lv (.ref a :: st) y I L R kc ks := by
  obtain ⟨h, rfl⟩ := h
  intro E p l e s m args below meth c H locs ls F D N S hl
  simp only [List.map_cons]
  rw [gv_w ha]
  exact lv_ifnonnull F.1 F.2.1 h ht (k E p l e s m args below meth c H locs ls F D N S hl)
theorem V_ifnonnullN {off : Int} (h : At Z.1.2.1 pc (.ifnonnull off) 3 q) (k : V Z q lv st y I L R kc ks) : V Z pc lv (.null :: st) y I L R kc ks := by
  obtain ⟨h, rfl⟩ := h
  intro E p l e s m args below meth c H locs ls F D N S hl
  exact lv_ifnonnullN F.1 F.2.1 h (k E p l e s m args below meth c H locs ls F D N S hl)
theorem V_ifnull {a : Nat} {off : Int} (h : At Z.1.2.1 pc (.ifnull off) 3 q) (ha : a < 1000) (k : V Z q lv st y I L R kc ks) : V Z pc lv (.ref a :: st) y I L R kc ks := by
  obtain ⟨h, rfl⟩ := h
  intro E p l e s m args below meth c H locs ls F D N S hl
  simp only [List.map_cons]
  rw [gv_w ha]
  exact lv_ifnull F.1 F.2.1 h (k E p l e s m args below meth c H locs ls F D N S hl)
theorem V_ifnullN {off : Int} {tgt : Nat} (h : At Z.1.2.1 pc (.ifnull off) 3 q) (ht : (pc : Int) + off = (tgt : Int)) (k : V Z tgt lv st y I L R kc ks) : V Z pc lv (.null :: st) y I L R kc ks := by
  obtain ⟨h, rfl⟩ := h
  intro E p l e s m args below meth c H locs ls F D N S hl
  exact lv_ifnullN F.1 F.2.1 h ht (k E p l e s m args below meth c H locs ls F D N S hl)
theorem V_tsw {x : Int32} {dflt lo hi : Int} {offs : Array Int} {n : Nat} (tg : Nat → Nat) (td : Nat) (h : At Z.1.2.1 pc (.tableswitch dflt lo hi offs) n q) (hd : (pc : Int) + dflt = (td : Int)) (ht : ∀ j : Nat, lo ≤ (j : Int) + lo → (j : Int) + lo ≤ hi → ∃ off, offs[j]? = some off ∧ (pc : Int) + off = (tg j : Int))
    (kd : (x.toInt < lo ∨ hi < x.toInt) → V Z td lv st y I L R kc ks) (ki : ∀ j : Nat, x.toInt = (j : Int) + lo → (j : Int) + lo ≤ hi → V Z (tg j) lv st y I L R kc ks) : V Z pc lv (.int x :: st) y I L R kc ks := by
  obtain ⟨h, rfl⟩ := h
  intro E p l e s m args below meth c H locs ls F D N S hl
  by_cases hx : x.toInt < lo ∨ hi < x.toInt
  · exact lv_tableOut F.1 F.2.1 h hx hd (kd hx E p l e s m args below meth c H locs ls F D N S hl)
  · have h1 : ¬ x.toInt < lo := fun z => hx (Or.inl z)
    have h2 : ¬ hi < x.toInt := fun z => hx (Or.inr z)
    obtain ⟨off, g1, g2⟩ := ht (x.toInt - lo).toNat (by omega) (by omega)
    exact lv_tableIn F.1 F.2.1 h h1 h2 g1 g2 (ki _ (by omega) (by omega) E p l e s m args below meth c H locs ls F D N S hl)
end Rows
