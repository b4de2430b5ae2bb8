/-! the machine of fixed worlds: a state is two functions, I (int fields and cells), L (long fields and cells), by object number -/
abbrev WI : Type := Nat → Nat → Int32
abbrev WL : Type := Nat → Nat → Int64
abbrev WR : Type := Nat → Nat → Option Nat
abbrev Ly : Type := List (Nat × Nat)
/-- the classes' numbers and slots, where the world begins, the array types' numbers, the constants' cells, their bytes, the formatter -/
abbrev Ev : Type := va_G × Nat × (Nat → ClassId) × (Nat → Nat) × (Nat → Nat) × Option Nat
abbrev Tg : Type := Option Value × Ly × WI × WL × WR
def u2 {α : Type} (f : Nat → Nat → α) (k j : Nat) (x : α) : Nat → Nat → α := fun a b => if a = k ∧ b = j then x else f a b
def bz (x : Int32) : Int32 := x &&& 1
def kd (t : FieldType) : Nat := match t with
  | .long => 1
  | .object _ => 2
  | .array _ => 2
  | .boolean => 3
  | _ => 0
def ga (E : Ev) (a : Nat) : Nat := if a < 1000 then E.2.1 + a else if a < 2000 then E.2.2.2.1 (a - 1000) else E.2.2.2.2.1 (a - 2000)
def gr (E : Ev) (a : Nat) : Option Nat := if a = 3000 then E.2.2.2.2.2 else some (ga E a)
def gv (E : Ev) (v : Value) : Value := match v with
  | .ref a => va_rf (gr E a)
  | v => v
def gl (E : Ev) (lv : List (Nat × Value)) : List (Nat × Value) := lv.map (fun q => (q.1, gv E q.2))
def fv (I : WI) (L : WL) (R : WR) (k c j : Nat) : Value := match kd (tyC c j) with
  | 0 => .int (I k j)
  | 1 => .long (L k j)
  | 2 => va_rf (R k j)
  | _ => .int (bz (I k j))
def ce (E : Ev) (I : WI) (L : WL) (R : WR) (k : Nat) (c : Nat × Nat) : va_E :=
  if c.1 < 100 then .inr (c.1, (List.range c.2).map (fun j => gv E (fv I L R k c.1 j)))
  else if c.1 = 100 then .inl (E.2.2.1 0, c.2, .inl (I k))
  else if c.1 = 101 then .inl (E.2.2.1 1, c.2, .inr (.inl (L k)))
  else if c.1 = 102 then .inl (E.2.2.1 2, c.2, .inl (I k))
  else .inl (E.2.2.1 3, c.2, .inr (.inr (.inr (.inr (fun i => (R k i).map (ga E))))))
def wl (E : Ev) (y : Ly) (I : WI) (L : WL) (R : WR) : va_W := y.mapIdx (fun k c => (E.2.1 + k, ce E I L R k c))
def tys (E : Ev) : List (ClassId × FieldType) := [(E.2.2.1 0, .int), (E.2.2.1 1, .long), (E.2.2.1 2, .byte), (E.2.2.1 3, .object RX3)]
def eA (E : Ev) : Nat → Prop := fun q => E.2.1 ≤ q
def strs : List (Nat × String) := [(68, "cloth"), (78, "pattern"), (80, "day"), (150, "row"), (152, "column"), (154, "slant")]
def s_len : List Nat := [5, 7, 3, 3, 6, 5]
def s_byt : List (List Int32) := [[99, 108, 111, 116, 104], [112, 97, 116, 116, 101, 114, 110], [100, 97, 121], [114, 111, 119], [99, 111, 108, 117, 109, 110], [115, 108, 97, 110, 116]]
/-- the links of constructors that nest mates alone may call -/
def nests : List (String × Nat × MethodName × String) := [(RX8, 32, yX1_init, RX8), (RX8, 39, yX5_init, RX8), (RX6, 25, yX1_init, RX8), (RX4, 17, yX3_init, RX8), (RX8, 62, yX7_init, RX8), (RX8, 69, yX2_init, RX8)]
def ST (E : Ev) (s : State) : Prop := va_K E.1 classes (tys E) s ∧ vk_S 6 s_len s_byt E.2.2.2.1 E.2.2.2.2.1 (eA E) s s.heap ∧ (∀ (i : Nat) (q : Nat × String), strs[i]? = some q → vk_R RX6 q.1 q.2 (E.2.2.2.1 i) s) ∧
  va_Z "java/lang/String" "COMPACT_STRINGS" "Z" (.int 1) (eA E) s s.heap ∧ va_Z "jdk/internal/util/Preconditions" "SIOOBE_FORMATTER" "Ljava/util/function/BiFunction;" (va_rf E.2.2.2.2.2) (eA E) s s.heap ∧ (va_AO RX3 s ∧ ∀ q ∈ nests, va_Nw (.methodLinkNest q.1 q.2.1 q.2.2.1 q.2.2.2) s) ∧ E.2.1 ≤ s.heap.size
def DY (E : Ev) (y : Ly) (I : WI) (L : WL) (R : WR) (H : Heap) : Prop := va_P E.1 classes (wl E y I L R) H ∧ y.length ≤ 1000
abbrev Cx : Type := Mx × Room × (Ev → List Frame → Array Value → State → State → Prop) × Option (Nat × (Nat → Int32))
def FX (E : Ev) (Z : Cx) (p : Program) (s : State) (m : MethodId) (args : Array Value) (meth : Method) (c : Code) : Prop :=
  p.tables.exec = Jvm.exec ∧ c.code = Z.1.2.1 ∧ c.maxLocals = Z.1.2.2.1 ∧ s.vm.findClass Z.1.1.cls = some m.cls ∧ (∀ w ∈ gw, w.before args s = true) ∧ meth.sig.returnType = Z.1.2.2.2 ∧ meth.locks = false ∧ ((Z.1.1.name = "<init>" → meth.name = "<init>") ∧ (∀ q, Z.2.2.2 = some q → va_X (E.2.2.2.2.1 999) q.1 q.2 s s.heap ∧ E.2.2.2.2.1 999 < s.heap.size ∧ E.2.2.2.2.1 999 < E.2.1)) ∧ ST E s
/-- from this place of the method, with these locals, this stack, this world, it comes to what Z says -/
def V (Z : Cx) (pc : Nat) (lv : List (Nat × Value)) (st : List Value) (y : Ly) (I : WI) (L : WL) (R : WR) (kc ks : Nat) : Prop :=
  ∀ (E : Ev) (p : Program) (l : Launch) (e : Env) (s : State) (m : MethodId) (args : Array Value) (below : List Frame) (meth : Method) (c : Code) (H : Heap) (locs : List Loc) (ls : Array Slot),
    FX E Z p s m args meth c → DY E y I L R H → s.heap.size + kc = E.2.1 + y.length → va_S (eA E) s.heap H locs → lv_has ls Z.1.2.2.1 (gl E lv) →
    W p l e Z.2.1 s m args below meth c H locs kc ks (Z.2.2.1 E below args s) (F0 m pc ls (st.map (gv E)))
def Qm (E : Ev) (t : Tg) : Array Value → State → Outcome → State → Prop := fun _ st oc u => oc = .returned (t.1.map (gv E)) ∧ DY E t.2.1 t.2.2.1 t.2.2.2.1 t.2.2.2.2 u.heap ∧ va_F (eA E) st u
def mw (X : Mx) : List Cond := .code X.1 X.2.1 X.2.2.1 X.2.2.2 :: gw
def rmd (d mc ms : Nat) : Room := { frames := d, cells := mc, slots := ms, locals := 60 * d }
def zM (X : Mx) (d mc ms : Nat) (t : Tg) : Cx := (X, rmd d mc ms, (fun E below args s => MQ below (Qm E t) args s mc ms (eA E)), none)
/-- the contract: called so in this world, the method answers t.1 and leaves the world t.2 -/
def Ct (X : Mx) (d : Nat) (av : List Value) (y : Ly) (I : WI) (L : WL) (R : WR) (mc ms : Nat) (t : Tg) : Prop :=
  ∀ (E : Ev) (l : Launch), Met l X.1 (mw X) (rmd d mc ms) (va_Pc (av.map (gv E)) (fun U => ST E U ∧ DY E y I L R U.heap ∧ U.heap.size = E.2.1 + y.length)) (Qm E t) mc ms (eA E)
theorem va_rf_cat (o : Option Nat) : (va_rf o).category = 1 := by cases o <;> rfl
theorem gv_cat (E : Ev) (v : Value) : (gv E v).category = v.category := by
  cases v <;> first | rfl | exact va_rf_cat _
theorem gv_w {E : Ev} {a : Nat} (h : a < 1000) : gv E (.ref a) = .ref (E.2.1 + a) := by
  have h1 : a ≠ 3000 := by omega
  simp [gv, gr, ga, h, h1, va_rf]
theorem gl_at {E : Ev} {lv : List (Nat × Value)} {j i : Nat} {v : Value} (h : lv[j]? = some (i, v)) : (gl E lv)[j]? = some (i, gv E v) := by
  simp [gl, h]
theorem gl_filter1 (E : Ev) (lv : List (Nat × Value)) (i : Nat) (x : Value) : (i, gv E x) :: (gl E lv).filter (fun q => !(q.1 == i) && !(q.1 + 1 == i && q.2.category == 2)) = gl E ((i, x) :: lv.filter (fun q => !(q.1 == i) && !(q.1 + 1 == i && q.2.category == 2))) := by
  simp only [gl, List.map_cons, List.filter_map]
  congr 3
  funext q
  simp [gv_cat]
theorem gl_filter2 (E : Ev) (lv : List (Nat × Value)) (i : Nat) (x : Value) : (i, gv E x) :: (gl E lv).filter (fun q => !(q.1 == i) && (!(q.1 == i + 1) && !(q.1 + 1 == i && q.2.category == 2))) = gl E ((i, x) :: lv.filter (fun q => !(q.1 == i) && (!(q.1 == i + 1) && !(q.1 + 1 == i && q.2.category == 2)))) := by
  simp only [gl, List.map_cons, List.filter_map]
  congr 3
  funext q
  simp [gv_cat]
theorem gl_args (E : Ev) : ∀ (vs : List Value) (i : Nat), lv_args i (vs.map (gv E)) = gl E (lv_args i vs)
  | [], _ => rfl
  | v :: vs, i => by
    simp only [List.map_cons, lv_args, gl, gv_cat]
    congr 1
    exact gl_args E vs _
/-- unsigned shifts, as the machine has them -/
def iush (x y : Int32) : Int32 := (x.toUInt32 >>> (y.toUInt32 &&& Int32.toUInt32 31)).toInt32
def lush (x : Int64) (y : Int32) : Int64 := (x.toUInt64 >>> (y.toInt64.toUInt64 &&& Int64.toUInt64 63)).toInt64
def lsh (x : Int64) (y : Int32) : Int64 := x <<< (y.toInt64 &&& 63)
def lsr (x : Int64) (y : Int32) : Int64 := x >>> (y.toInt64 &&& 63)
section Rows
variable {Z : Cx} {pc q : Nat} {lv : List (Nat × Value)} {st : List Value} {y : Ly} {I : WI} {L : WL} {R : WR} {kc ks : Nat}
theorem V_iconst {n : Int} {v : Int32} (h : At Z.1.2.1 pc (.iconst n) 1 q) (hv : Int32.ofInt n = v) (k : V Z q lv (.int v :: st) y I L R kc ks) : V Z pc lv (st) y I L R kc ks := by
  obtain ⟨h, rfl⟩ := h
  intro E p l e s m args below meth c H locs ls F D N S hl
  exact lv_iconst F.1 F.2.1 h hv (k E p l e s m args below meth c H locs ls F D N S hl)
theorem V_bipush {n : Int} {v : Int32} (h : At Z.1.2.1 pc (.bipush n) 2 q) (hv : (Int8.ofInt n).toInt32 = v) (k : V Z q lv (.int v :: st) y I L R kc ks) : V Z pc lv (st) y I L R kc ks := by
  obtain ⟨h, rfl⟩ := h
  intro E p l e s m args below meth c H locs ls F D N S hl
  exact lv_bipush F.1 F.2.1 h hv (k E p l e s m args below meth c H locs ls F D N S hl)
theorem V_sipush {n : Int} {v : Int32} (h : At Z.1.2.1 pc (.sipush n) 3 q) (hv : (Int16.ofInt n).toInt32 = v) (k : V Z q lv (.int v :: st) y I L R kc ks) : V Z pc lv (st) y I L R kc ks := by
  obtain ⟨h, rfl⟩ := h
  intro E p l e s m args below meth c H locs ls F D N S hl
  exact lv_sipush F.1 F.2.1 h hv (k E p l e s m args below meth c H locs ls F D N S hl)
theorem V_lconst {n : Fin 2} {v : Int64} (h : At Z.1.2.1 pc (.lconst n) 1 q) (hv : Int64.ofNat (n : Nat) = v) (k : V Z q lv (.long v :: st) y I L R kc ks) : V Z pc lv (st) y I L R kc ks := by
  obtain ⟨h, rfl⟩ := h
  intro E p l e s m args below meth c H locs ls F D N S hl
  exact lv_lconst F.1 F.2.1 h hv (k E p l e s m args below meth c H locs ls F D N S hl)
theorem V_null (h : At Z.1.2.1 pc (.aconst_null) 1 q) (k : V Z q lv (.null :: st) y I L R kc ks) : V Z pc lv (st) y I L R kc ks := by
  obtain ⟨h, rfl⟩ := h
  intro E p l e s m args below meth c H locs ls F D N S hl
  exact lv_null F.1 F.2.1 h (k E p l e s m args below meth c H locs ls F D N S hl)
theorem V_ldc {i : Nat} {v : Int32} (h : At Z.1.2.1 pc (.ldc i) 2 q) (hc : Cond.constant Z.1.1.cls i v ∈ gw) (k : V Z q lv (.int v :: st) y I L R kc ks) : V Z pc lv (st) y I L R kc ks := by
  obtain ⟨h, rfl⟩ := h
  intro E p l e s m args below meth c H locs ls F D N S hl
  exact lv_ldc F.1 F.2.1 F.2.2.2.1 (F.2.2.2.2.1 _ hc) h (k E p l e s m args below meth c H locs ls F D N S hl)
theorem V_ldcw {i : Nat} {v : Int32} (h : At Z.1.2.1 pc (.ldc_w i) 3 q) (hc : Cond.constant Z.1.1.cls i v ∈ gw) (k : V Z q lv (.int v :: st) y I L R kc ks) : V Z pc lv (st) y I L R kc ks := by
  obtain ⟨h, rfl⟩ := h
  intro E p l e s m args below meth c H locs ls F D N S hl
  exact lv_ldcw F.1 F.2.1 F.2.2.2.1 (F.2.2.2.2.1 _ hc) h (k E p l e s m args below meth c H locs ls F D N S hl)
theorem V_ldc2 {i : Nat} {v : Int64} (h : At Z.1.2.1 pc (.ldc2_w i) 3 q) (hc : Cond.constantLong Z.1.1.cls i v ∈ gw) (k : V Z q lv (.long v :: st) y I L R kc ks) : V Z pc lv (st) y I L R kc ks := by
  obtain ⟨h, rfl⟩ := h
  intro E p l e s m args below meth c H locs ls F D N S hl
  exact lv_ldc2 F.1 F.2.1 F.2.2.2.1 (F.2.2.2.2.1 _ hc) h (k E p l e s m args below meth c H locs ls F D N S hl)
theorem V_iload_n {n : Fin 4} {i : Nat} {x : Int32} (h : At Z.1.2.1 pc (.iload_n n) 1 q) (j : Nat) (hi : (n : Nat) = i) (hj : lv[j]? = some (i, .int x)) (k : V Z q lv (.int x :: st) y I L R kc ks) : V Z pc lv (st) y I L R kc ks := by
  obtain ⟨h, rfl⟩ := h
  intro E p l e s m args below meth c H locs ls F D N S hl
  exact lv_iload_n F.1 F.2.1 h hi (lv_at hl j (gl_at hj)) (k E p l e s m args below meth c H locs ls F D N S hl)
theorem V_iload {i : Nat} {x : Int32} (h : At Z.1.2.1 pc (.iload i) 2 q) (j : Nat) (hj : lv[j]? = some (i, .int x)) (k : V Z q lv (.int x :: st) y I L R kc ks) : V Z pc lv (st) y I L R kc ks := by
  obtain ⟨h, rfl⟩ := h
  intro E p l e s m args below meth c H locs ls F D N S hl
  exact lv_iload F.1 F.2.1 h (lv_at hl j (gl_at hj)) (k E p l e s m args below meth c H locs ls F D N S hl)
theorem V_lload_n {n : Fin 4} {i : Nat} {x : Int64} (h : At Z.1.2.1 pc (.lload_n n) 1 q) (j : Nat) (hi : (n : Nat) = i) (hj : lv[j]? = some (i, .long x)) (k : V Z q lv (.long x :: st) y I L R kc ks) : V Z pc lv (st) y I L R kc ks := by
  obtain ⟨h, rfl⟩ := h
  intro E p l e s m args below meth c H locs ls F D N S hl
  exact lv_lload_n F.1 F.2.1 h hi (lv_at hl j (gl_at hj)) (k E p l e s m args below meth c H locs ls F D N S hl)
theorem V_lload {i : Nat} {x : Int64} (h : At Z.1.2.1 pc (.lload i) 2 q) (j : Nat) (hj : lv[j]? = some (i, .long x)) (k : V Z q lv (.long x :: st) y I L R kc ks) : V Z pc lv (st) y I L R kc ks := by
  obtain ⟨h, rfl⟩ := h
  intro E p l e s m args below meth c H locs ls F D N S hl
  exact lv_lload F.1 F.2.1 h (lv_at hl j (gl_at hj)) (k E p l e s m args below meth c H locs ls F D N S hl)
theorem V_aload_n {n : Fin 4} {i : Nat} {a : Nat} (h : At Z.1.2.1 pc (.aload_n n) 1 q) (j : Nat) (hi : (n : Nat) = i) (hj : lv[j]? = some (i, .ref a)) (k : V Z q lv (.ref a :: st) y I L R kc ks) : V Z pc lv st y I L R kc ks := by
  obtain ⟨h, rfl⟩ := h
  intro E p l e s m args below meth c H locs ls F D N S hl
  have h1 := lv_at hl j (gl_at (E := E) hj)
  have k1 := (k E p l e s m args below meth c H locs ls F D N S hl)
  simp only [List.map_cons] at k1
  change ls[i]? = some (.val (va_rf (gr E a))) at h1
  change W p l e _ s m args below meth c H locs kc ks _ (F0 m _ ls (va_rf (gr E a) :: _)) at k1
  cases ho : gr E a with
  | none => rw [ho] at h1 k1; exact lv_aload_nN F.1 F.2.1 h hi h1 k1
  | some x => rw [ho] at h1 k1; exact lv_aload_n F.1 F.2.1 h hi h1 k1
theorem V_aloadN_n {n : Fin 4} {i : Nat} (h : At Z.1.2.1 pc (.aload_n n) 1 q) (j : Nat) (hi : (n : Nat) = i) (hj : lv[j]? = some (i, .null)) (k : V Z q lv (.null :: st) y I L R kc ks) : V Z pc lv st y I L R kc ks := by
  obtain ⟨h, rfl⟩ := h
  intro E p l e s m args below meth c H locs ls F D N S hl
  exact lv_aload_nN F.1 F.2.1 h hi (lv_at hl j (gl_at hj)) (k E p l e s m args below meth c H locs ls F D N S hl)
theorem V_aload {i : Nat} {a : Nat} (h : At Z.1.2.1 pc (.aload i) 2 q) (j : Nat) (hj : lv[j]? = some (i, .ref a)) (k : V Z q lv (.ref a :: st) y I L R kc ks) : V Z pc lv st y I L R kc ks := by
  obtain ⟨h, rfl⟩ := h
  intro E p l e s m args below meth c H locs ls F D N S hl
  have h1 := lv_at hl j (gl_at (E := E) hj)
  have k1 := (k E p l e s m args below meth c H locs ls F D N S hl)
  simp only [List.map_cons] at k1
  change ls[i]? = some (.val (va_rf (gr E a))) at h1
  change W p l e _ s m args below meth c H locs kc ks _ (F0 m _ ls (va_rf (gr E a) :: _)) at k1
  cases ho : gr E a with
  | none => rw [ho] at h1 k1; exact lv_aloadN F.1 F.2.1 h h1 k1
  | some x => rw [ho] at h1 k1; exact lv_aload F.1 F.2.1 h h1 k1
theorem V_aloadN {i : Nat} (h : At Z.1.2.1 pc (.aload i) 2 q) (j : Nat) (hj : lv[j]? = some (i, .null)) (k : V Z q lv (.null :: st) y I L R kc ks) : V Z pc lv st y I L R kc ks := by
  obtain ⟨h, rfl⟩ := h
  intro E p l e s m args below meth c H locs ls F D N S hl
  exact lv_aloadN F.1 F.2.1 h (lv_at hl j (gl_at hj)) (k E p l e s m args below meth c H locs ls F D N S hl)
theorem V_istore_n {n : Fin 4} {i : Nat} {x : Int32} {lv' : List (Nat × Value)} (h : At Z.1.2.1 pc (.istore_n n) 1 q) (hi : (n : Nat) = i) (hn : i < Z.1.2.2.1) (hl' : (i, .int x) :: lv.filter (fun q => !(q.1 == i) && !(q.1 + 1 == i && q.2.category == 2)) = lv') (k : V Z q lv' st y I L R kc ks) : V Z pc lv (.int x :: st) y I L R kc ks := by
  obtain ⟨h, rfl⟩ := h
  intro E p l e s m args below meth c H locs ls F D N S hl
  exact lv_istore_n F.1 F.2.1 h hi hl hn (gl_filter1 E lv i (.int x)) (fun ls hl => k E p l e s m args below meth c H locs ls F D N S (by rw [← hl']; exact hl))
theorem V_istore {i : Nat} {x : Int32} {lv' : List (Nat × Value)} (h : At Z.1.2.1 pc (.istore i) 2 q) (hn : i < Z.1.2.2.1) (hl' : (i, .int x) :: lv.filter (fun q => !(q.1 == i) && !(q.1 + 1 == i && q.2.category == 2)) = lv') (k : V Z q lv' st y I L R kc ks) : V Z pc lv (.int x :: st) y I L R kc ks := by
  obtain ⟨h, rfl⟩ := h
  intro E p l e s m args below meth c H locs ls F D N S hl
  exact lv_istore F.1 F.2.1 h hl hn (gl_filter1 E lv i (.int x)) (fun ls hl => k E p l e s m args below meth c H locs ls F D N S (by rw [← hl']; exact hl))
theorem V_lstore_n {n : Fin 4} {i : Nat} {x : Int64} {lv' : List (Nat × Value)} (h : At Z.1.2.1 pc (.lstore_n n) 1 q) (hi : (n : Nat) = i) (hn : i + 1 < Z.1.2.2.1) (hl' : (i, .long x) :: lv.filter (fun q => !(q.1 == i) && (!(q.1 == i + 1) && !(q.1 + 1 == i && q.2.category == 2))) = lv') (k : V Z q lv' st y I L R kc ks) : V Z pc lv (.long x :: st) y I L R kc ks := by
  obtain ⟨h, rfl⟩ := h
  intro E p l e s m args below meth c H locs ls F D N S hl
  exact lv_lstore_n F.1 F.2.1 h hi hl hn (gl_filter2 E lv i (.long x)) (fun ls hl => k E p l e s m args below meth c H locs ls F D N S (by rw [← hl']; exact hl))
theorem V_lstore {i : Nat} {x : Int64} {lv' : List (Nat × Value)} (h : At Z.1.2.1 pc (.lstore i) 2 q) (hn : i + 1 < Z.1.2.2.1) (hl' : (i, .long x) :: lv.filter (fun q => !(q.1 == i) && (!(q.1 == i + 1) && !(q.1 + 1 == i && q.2.category == 2))) = lv') (k : V Z q lv' st y I L R kc ks) : V Z pc lv (.long x :: st) y I L R kc ks := by
  obtain ⟨h, rfl⟩ := h
  intro E p l e s m args below meth c H locs ls F D N S hl
  exact lv_lstore F.1 F.2.1 h hl hn (gl_filter2 E lv i (.long x)) (fun ls hl => k E p l e s m args below meth c H locs ls F D N S (by rw [← hl']; exact hl))
theorem V_astore_n {n : Fin 4} {i : Nat} {a : Nat} {lv' : List (Nat × Value)} (h : At Z.1.2.1 pc (.astore_n n) 1 q) (hi : (n : Nat) = i) (ha : a < 1000) (hn : i < Z.1.2.2.1) (hl' : (i, .ref a) :: lv.filter (fun q => !(q.1 == i) && !(q.1 + 1 == i && q.2.category == 2)) = lv') (k : V Z q lv' st y I L R kc ks) : V Z pc lv (.ref a :: st) y I L R kc ks := by
  obtain ⟨h, rfl⟩ := h
  intro E p l e s m args below meth c H locs ls F D N S hl
  have e1 := gl_filter1 E lv i (.ref a)
  simp only [List.map_cons]
  rw [gv_w ha] at e1 ⊢
  exact lv_astore_n F.1 F.2.1 h hi hl hn e1 (fun ls hl => k E p l e s m args below meth c H locs ls F D N S (by rw [← hl']; exact hl))
theorem V_astoreN_n {n : Fin 4} {i : Nat} {lv' : List (Nat × Value)} (h : At Z.1.2.1 pc (.astore_n n) 1 q) (hi : (n : Nat) = i) (hn : i < Z.1.2.2.1) (hl' : (i, .null) :: lv.filter (fun q => !(q.1 == i) && !(q.1 + 1 == i && q.2.category == 2)) = lv') (k : V Z q lv' st y I L R kc ks) : V Z pc lv (.null :: st) y I L R kc ks := by
  obtain ⟨h, rfl⟩ := h
  intro E p l e s m args below meth c H locs ls F D N S hl
  exact lv_astore_nN F.1 F.2.1 h hi hl hn (gl_filter1 E lv i .null) (fun ls hl => k E p l e s m args below meth c H locs ls F D N S (by rw [← hl']; exact hl))
theorem V_astore {i : Nat} {a : Nat} {lv' : List (Nat × Value)} (h : At Z.1.2.1 pc (.astore i) 2 q) (ha : a < 1000) (hn : i < Z.1.2.2.1) (hl' : (i, .ref a) :: lv.filter (fun q => !(q.1 == i) && !(q.1 + 1 == i && q.2.category == 2)) = lv') (k : V Z q lv' st y I L R kc ks) : V Z pc lv (.ref a :: st) y I L R kc ks := by
  obtain ⟨h, rfl⟩ := h
  intro E p l e s m args below meth c H locs ls F D N S hl
  have e1 := gl_filter1 E lv i (.ref a)
  simp only [List.map_cons]
  rw [gv_w ha] at e1 ⊢
  exact lv_astore F.1 F.2.1 h hl hn e1 (fun ls hl => k E p l e s m args below meth c H locs ls F D N S (by rw [← hl']; exact hl))
theorem V_astoreN {i : Nat} {lv' : List (Nat × Value)} (h : At Z.1.2.1 pc (.astore i) 2 q) (hn : i < Z.1.2.2.1) (hl' : (i, .null) :: lv.filter (fun q => !(q.1 == i) && !(q.1 + 1 == i && q.2.category == 2)) = lv') (k : V Z q lv' st y I L R kc ks) : V Z pc lv (.null :: st) y I L R kc ks := by
  obtain ⟨h, rfl⟩ := h
  intro E p l e s m args below meth c H locs ls F D N S hl
  exact lv_astoreN F.1 F.2.1 h hl hn (gl_filter1 E lv i .null) (fun ls hl => k E p l e s m args below meth c H locs ls F D N S (by rw [← hl']; exact hl))
theorem V_iinc {i : Nat} {n : Int} {x v : Int32} {lv' : List (Nat × Value)} (h : At Z.1.2.1 pc (.iinc i n) 3 q) (j : Nat) (hj : lv[j]? = some (i, .int x)) (hv : x + Int32.ofInt n = v) (hn : i < Z.1.2.2.1) (hl' : (i, .int v) :: lv.filter (fun q => !(q.1 == i) && !(q.1 + 1 == i && q.2.category == 2)) = lv') (k : V Z q lv' st y I L R kc ks) : V Z pc lv st y I L R kc ks := by
  obtain ⟨h, rfl⟩ := h
  intro E p l e s m args below meth c H locs ls F D N S hl
  exact lv_iinc F.1 F.2.1 h hl (gl_at hj) hv hn (gl_filter1 E lv i (.int v)) (fun ls hl => k E p l e s m args below meth c H locs ls F D N S (by rw [← hl']; exact hl))
theorem V_iadd {x y1 : Int32} (h : At Z.1.2.1 pc (.iadd) 1 q) (k : V Z q lv (.int (x + y1) :: st) y I L R kc ks) : V Z pc lv (.int y1 :: .int x :: st) y I L R kc ks := by
  obtain ⟨h, rfl⟩ := h
  intro E p l e s m args below meth c H locs ls F D N S hl
  exact lv_iadd F.1 F.2.1 h (k E p l e s m args below meth c H locs ls F D N S hl)
theorem V_isub {x y1 : Int32} (h : At Z.1.2.1 pc (.isub) 1 q) (k : V Z q lv (.int (x - y1) :: st) y I L R kc ks) : V Z pc lv (.int y1 :: .int x :: st) y I L R kc ks := by
  obtain ⟨h, rfl⟩ := h
  intro E p l e s m args below meth c H locs ls F D N S hl
  exact lv_isub F.1 F.2.1 h (k E p l e s m args below meth c H locs ls F D N S hl)
theorem V_imul {x y1 : Int32} (h : At Z.1.2.1 pc (.imul) 1 q) (k : V Z q lv (.int (x * y1) :: st) y I L R kc ks) : V Z pc lv (.int y1 :: .int x :: st) y I L R kc ks := by
  obtain ⟨h, rfl⟩ := h
  intro E p l e s m args below meth c H locs ls F D N S hl
  exact lv_imul F.1 F.2.1 h (k E p l e s m args below meth c H locs ls F D N S hl)
theorem V_iand {x y1 : Int32} (h : At Z.1.2.1 pc (.iand) 1 q) (k : V Z q lv (.int (x &&& y1) :: st) y I L R kc ks) : V Z pc lv (.int y1 :: .int x :: st) y I L R kc ks := by
  obtain ⟨h, rfl⟩ := h
  intro E p l e s m args below meth c H locs ls F D N S hl
  exact lv_iand F.1 F.2.1 h (k E p l e s m args below meth c H locs ls F D N S hl)
theorem V_ior {x y1 : Int32} (h : At Z.1.2.1 pc (.ior) 1 q) (k : V Z q lv (.int (x ||| y1) :: st) y I L R kc ks) : V Z pc lv (.int y1 :: .int x :: st) y I L R kc ks := by
  obtain ⟨h, rfl⟩ := h
  intro E p l e s m args below meth c H locs ls F D N S hl
  exact lv_ior F.1 F.2.1 h (k E p l e s m args below meth c H locs ls F D N S hl)
theorem V_ixor {x y1 : Int32} (h : At Z.1.2.1 pc (.ixor) 1 q) (k : V Z q lv (.int (x ^^^ y1) :: st) y I L R kc ks) : V Z pc lv (.int y1 :: .int x :: st) y I L R kc ks := by
  obtain ⟨h, rfl⟩ := h
  intro E p l e s m args below meth c H locs ls F D N S hl
  exact lv_ixor F.1 F.2.1 h (k E p l e s m args below meth c H locs ls F D N S hl)
theorem V_ladd {x y1 : Int64} (h : At Z.1.2.1 pc (.ladd) 1 q) (k : V Z q lv (.long (x + y1) :: st) y I L R kc ks) : V Z pc lv (.long y1 :: .long x :: st) y I L R kc ks := by
  obtain ⟨h, rfl⟩ := h
  intro E p l e s m args below meth c H locs ls F D N S hl
  exact lv_ladd F.1 F.2.1 h (k E p l e s m args below meth c H locs ls F D N S hl)
theorem V_lsub {x y1 : Int64} (h : At Z.1.2.1 pc (.lsub) 1 q) (k : V Z q lv (.long (x - y1) :: st) y I L R kc ks) : V Z pc lv (.long y1 :: .long x :: st) y I L R kc ks := by
  obtain ⟨h, rfl⟩ := h
  intro E p l e s m args below meth c H locs ls F D N S hl
  exact lv_lsub F.1 F.2.1 h (k E p l e s m args below meth c H locs ls F D N S hl)
theorem V_lmul {x y1 : Int64} (h : At Z.1.2.1 pc (.lmul) 1 q) (k : V Z q lv (.long (x * y1) :: st) y I L R kc ks) : V Z pc lv (.long y1 :: .long x :: st) y I L R kc ks := by
  obtain ⟨h, rfl⟩ := h
  intro E p l e s m args below meth c H locs ls F D N S hl
  exact lv_lmul F.1 F.2.1 h (k E p l e s m args below meth c H locs ls F D N S hl)
theorem V_land {x y1 : Int64} (h : At Z.1.2.1 pc (.land) 1 q) (k : V Z q lv (.long (x &&& y1) :: st) y I L R kc ks) : V Z pc lv (.long y1 :: .long x :: st) y I L R kc ks := by
  obtain ⟨h, rfl⟩ := h
  intro E p l e s m args below meth c H locs ls F D N S hl
  exact lv_land F.1 F.2.1 h (k E p l e s m args below meth c H locs ls F D N S hl)
theorem V_lor {x y1 : Int64} (h : At Z.1.2.1 pc (.lor) 1 q) (k : V Z q lv (.long (x ||| y1) :: st) y I L R kc ks) : V Z pc lv (.long y1 :: .long x :: st) y I L R kc ks := by
  obtain ⟨h, rfl⟩ := h
  intro E p l e s m args below meth c H locs ls F D N S hl
  exact lv_lor F.1 F.2.1 h (k E p l e s m args below meth c H locs ls F D N S hl)
theorem V_lxor {x y1 : Int64} (h : At Z.1.2.1 pc (.lxor) 1 q) (k : V Z q lv (.long (x ^^^ y1) :: st) y I L R kc ks) : V Z pc lv (.long y1 :: .long x :: st) y I L R kc ks := by
  obtain ⟨h, rfl⟩ := h
  intro E p l e s m args below meth c H locs ls F D N S hl
  exact lv_lxor F.1 F.2.1 h (k E p l e s m args below meth c H locs ls F D N S hl)
theorem V_ineg {x : Int32} (h : At Z.1.2.1 pc (.ineg) 1 q) (k : V Z q lv (.int (-x) :: st) y I L R kc ks) : V Z pc lv (.int x :: st) y I L R kc ks := by
  obtain ⟨h, rfl⟩ := h
  intro E p l e s m args below meth c H locs ls F D N S hl
  exact lv_ineg F.1 F.2.1 h (k E p l e s m args below meth c H locs ls F D N S hl)
theorem V_lneg {x : Int64} (h : At Z.1.2.1 pc (.lneg) 1 q) (k : V Z q lv (.long (-x) :: st) y I L R kc ks) : V Z pc lv (.long x :: st) y I L R kc ks := by
  obtain ⟨h, rfl⟩ := h
  intro E p l e s m args below meth c H locs ls F D N S hl
  exact lv_lneg F.1 F.2.1 h (k E p l e s m args below meth c H locs ls F D N S hl)
theorem V_idiv {x y1 : Int32} (h : At Z.1.2.1 pc (.idiv) 1 q) (hne : ¬ y1 = 0) (k : V Z q lv (.int (x / y1) :: st) y I L R kc ks) : V Z pc lv (.int y1 :: .int x :: st) y I L R kc ks := by
  obtain ⟨h, rfl⟩ := h
  intro E p l e s m args below meth c H locs ls F D N S hl
  exact lv_idiv F.1 F.2.1 h hne (k E p l e s m args below meth c H locs ls F D N S hl)
theorem V_irem {x y1 : Int32} (h : At Z.1.2.1 pc (.irem) 1 q) (hne : ¬ y1 = 0) (k : V Z q lv (.int (x - x / y1 * y1) :: st) y I L R kc ks) : V Z pc lv (.int y1 :: .int x :: st) y I L R kc ks := by
  obtain ⟨h, rfl⟩ := h
  intro E p l e s m args below meth c H locs ls F D N S hl
  exact lv_irem F.1 F.2.1 h hne (k E p l e s m args below meth c H locs ls F D N S hl)
theorem V_ishl {x y1 : Int32} (h : At Z.1.2.1 pc (.ishl) 1 q) (k : V Z q lv (.int (x <<< (y1 &&& 31)) :: st) y I L R kc ks) : V Z pc lv (.int y1 :: .int x :: st) y I L R kc ks := by
  obtain ⟨h, rfl⟩ := h
  intro E p l e s m args below meth c H locs ls F D N S hl
  exact lv_ishl F.1 F.2.1 h (k E p l e s m args below meth c H locs ls F D N S hl)
theorem V_ishr {x y1 : Int32} (h : At Z.1.2.1 pc (.ishr) 1 q) (k : V Z q lv (.int (x >>> (y1 &&& 31)) :: st) y I L R kc ks) : V Z pc lv (.int y1 :: .int x :: st) y I L R kc ks := by
  obtain ⟨h, rfl⟩ := h
  intro E p l e s m args below meth c H locs ls F D N S hl
  exact lv_ishr F.1 F.2.1 h (k E p l e s m args below meth c H locs ls F D N S hl)
theorem V_iushr {x y1 : Int32} (h : At Z.1.2.1 pc (.iushr) 1 q) (k : V Z q lv (.int (iush x y1) :: st) y I L R kc ks) : V Z pc lv (.int y1 :: .int x :: st) y I L R kc ks := by
  obtain ⟨h, rfl⟩ := h
  intro E p l e s m args below meth c H locs ls F D N S hl
  exact lv_iushr F.1 F.2.1 h rfl (k E p l e s m args below meth c H locs ls F D N S hl)
theorem V_lushr {x : Int64} {y1 : Int32} (h : At Z.1.2.1 pc (.lushr) 1 q) (k : V Z q lv (.long (lush x y1) :: st) y I L R kc ks) : V Z pc lv (.int y1 :: .long x :: st) y I L R kc ks := by
  obtain ⟨h, rfl⟩ := h
  intro E p l e s m args below meth c H locs ls F D N S hl
  exact lv_lushr F.1 F.2.1 h rfl (k E p l e s m args below meth c H locs ls F D N S hl)
theorem V_lshl {x : Int64} {y1 : Int32} (h : At Z.1.2.1 pc (.lshl) 1 q) (k : V Z q lv (.long (lsh x y1) :: st) y I L R kc ks) : V Z pc lv (.int y1 :: .long x :: st) y I L R kc ks := by
  obtain ⟨h, rfl⟩ := h
  intro E p l e s m args below meth c H locs ls F D N S hl
  exact lv_lshl F.1 F.2.1 h rfl (k E p l e s m args below meth c H locs ls F D N S hl)
theorem V_lshr {x : Int64} {y1 : Int32} (h : At Z.1.2.1 pc (.lshr) 1 q) (k : V Z q lv (.long (lsr x y1) :: st) y I L R kc ks) : V Z pc lv (.int y1 :: .long x :: st) y I L R kc ks := by
  obtain ⟨h, rfl⟩ := h
  intro E p l e s m args below meth c H locs ls F D N S hl
  exact lv_lshr F.1 F.2.1 h rfl (k E p l e s m args below meth c H locs ls F D N S hl)
theorem V_i2l {x : Int32} (h : At Z.1.2.1 pc (.i2l) 1 q) (k : V Z q lv (.long x.toInt64 :: st) y I L R kc ks) : V Z pc lv (.int x :: st) y I L R kc ks := by
  obtain ⟨h, rfl⟩ := h
  intro E p l e s m args below meth c H locs ls F D N S hl
  exact lv_i2l F.1 F.2.1 h rfl (k E p l e s m args below meth c H locs ls F D N S hl)
theorem V_l2i {x : Int64} (h : At Z.1.2.1 pc (.l2i) 1 q) (k : V Z q lv (.int x.toInt32 :: st) y I L R kc ks) : V Z pc lv (.long x :: st) y I L R kc ks := by
  obtain ⟨h, rfl⟩ := h
  intro E p l e s m args below meth c H locs ls F D N S hl
  exact lv_l2i F.1 F.2.1 h rfl (k E p l e s m args below meth c H locs ls F D N S hl)
theorem V_i2b {x : Int32} (h : At Z.1.2.1 pc (.i2b) 1 q) (k : V Z q lv (.int x.toInt8.toInt32 :: st) y I L R kc ks) : V Z pc lv (.int x :: st) y I L R kc ks := by
  obtain ⟨h, rfl⟩ := h
  intro E p l e s m args below meth c H locs ls F D N S hl
  exact lv_i2b F.1 F.2.1 h rfl (k E p l e s m args below meth c H locs ls F D N S hl)
theorem V_i2s {x : Int32} (h : At Z.1.2.1 pc (.i2s) 1 q) (k : V Z q lv (.int x.toInt16.toInt32 :: st) y I L R kc ks) : V Z pc lv (.int x :: st) y I L R kc ks := by
  obtain ⟨h, rfl⟩ := h
  intro E p l e s m args below meth c H locs ls F D N S hl
  exact lv_i2s F.1 F.2.1 h rfl (k E p l e s m args below meth c H locs ls F D N S hl)
theorem V_i2c {x : Int32} (h : At Z.1.2.1 pc (.i2c) 1 q) (k : V Z q lv (.int (x.toUInt32 % 65536).toInt32 :: st) y I L R kc ks) : V Z pc lv (.int x :: st) y I L R kc ks := by
  obtain ⟨h, rfl⟩ := h
  intro E p l e s m args below meth c H locs ls F D N S hl
  exact lv_i2c F.1 F.2.1 h rfl (k E p l e s m args below meth c H locs ls F D N S hl)
theorem V_lcmp {x y1 : Int64} (h : At Z.1.2.1 pc (.lcmp) 1 q) (k : V Z q lv (.int (lg_cmp x y1) :: st) y I L R kc ks) : V Z pc lv (.long y1 :: .long x :: st) y I L R kc ks := by
  obtain ⟨h, rfl⟩ := h
  intro E p l e s m args below meth c H locs ls F D N S hl
  exact W.lcmp F.1 F.2.1 h (k E p l e s m args below meth c H locs ls F D N S hl)
theorem V_dup {v : Value} (h : At Z.1.2.1 pc (.dup) 1 q) (hv : v.category = 1) (k : V Z q lv (v :: v :: st) y I L R kc ks) : V Z pc lv (v :: st) y I L R kc ks := by
  obtain ⟨h, rfl⟩ := h
  intro E p l e s m args below meth c H locs ls F D N S hl
  exact lv_dup F.1 F.2.1 h ((gv_cat E v).trans hv) (k E p l e s m args below meth c H locs ls F D N S hl)
theorem V_pop {v : Value} (h : At Z.1.2.1 pc (.pop) 1 q) (hv : v.category = 1) (k : V Z q lv (st) y I L R kc ks) : V Z pc lv (v :: st) y I L R kc ks := by
  obtain ⟨h, rfl⟩ := h
  intro E p l e s m args below meth c H locs ls F D N S hl
  exact lv_pop F.1 F.2.1 h ((gv_cat E v).trans hv) (k E p l e s m args below meth c H locs ls F D N S hl)
theorem V_dup2 {v w : Value} (h : At Z.1.2.1 pc (.dup2) 1 q) (hv : v.category = 1) (hw : w.category = 1) (k : V Z q lv (v :: w :: v :: w :: st) y I L R kc ks) : V Z pc lv (v :: w :: st) y I L R kc ks := by
  obtain ⟨h, rfl⟩ := h
  intro E p l e s m args below meth c H locs ls F D N S hl
  exact lv_dup2_11 F.1 F.2.1 h ((gv_cat E v).trans hv) ((gv_cat E w).trans hw) (k E p l e s m args below meth c H locs ls F D N S hl)
theorem V_dup_x1 {v w : Value} (h : At Z.1.2.1 pc (.dup_x1) 1 q) (hv : v.category = 1) (hw : w.category = 1) (k : V Z q lv (v :: w :: v :: st) y I L R kc ks) : V Z pc lv (v :: w :: st) y I L R kc ks := by
  obtain ⟨h, rfl⟩ := h
  intro E p l e s m args below meth c H locs ls F D N S hl
  exact lv_dup_x1 F.1 F.2.1 h ((gv_cat E v).trans hv) ((gv_cat E w).trans hw) (k E p l e s m args below meth c H locs ls F D N S hl)
theorem V_if_eq {x : Int32} {off : Int} {tgt : Nat} (h : At Z.1.2.1 pc (.ifCond .eq off) 3 q) (ht : (pc : Int) + off = (tgt : Int)) (kt : x = 0 → V Z tgt lv st y I L R kc ks) (kf : ¬ x = 0 → V Z q lv st y I L R kc ks) : V Z pc lv (.int x :: st) y I L R kc ks := by
  obtain ⟨h, rfl⟩ := h
  intro E p l e s m args below meth c H locs ls F D N S hl
  exact lv_if_eq F.1 F.2.1 h ht (fun hc => kt hc E p l e s m args below meth c H locs ls F D N S hl) (fun hc => kf hc E p l e s m args below meth c H locs ls F D N S hl)
theorem V_icmp_eq {x y1 : Int32} {off : Int} {tgt : Nat} (h : At Z.1.2.1 pc (.if_icmp .eq off) 3 q) (ht : (pc : Int) + off = (tgt : Int)) (kt : x = y1 → V Z tgt lv st y I L R kc ks) (kf : ¬ x = y1 → V Z q lv st y I L R kc ks) : V Z pc lv (.int y1 :: .int x :: st) y I L R kc ks := by
  obtain ⟨h, rfl⟩ := h
  intro E p l e s m args below meth c H locs ls F D N S hl
  exact lv_icmp_eq F.1 F.2.1 h ht (fun hc => kt hc E p l e s m args below meth c H locs ls F D N S hl) (fun hc => kf hc E p l e s m args below meth c H locs ls F D N S hl)
theorem V_if_ne {x : Int32} {off : Int} {tgt : Nat} (h : At Z.1.2.1 pc (.ifCond .ne off) 3 q) (ht : (pc : Int) + off = (tgt : Int)) (kt : ¬ x = 0 → V Z tgt lv st y I L R kc ks) (kf : x = 0 → V Z q lv st y I L R kc ks) : V Z pc lv (.int x :: st) y I L R kc ks := by
  obtain ⟨h, rfl⟩ := h
  intro E p l e s m args below meth c H locs ls F D N S hl
  exact lv_if_ne F.1 F.2.1 h ht (fun hc => kt hc E p l e s m args below meth c H locs ls F D N S hl) (fun hc => kf hc E p l e s m args below meth c H locs ls F D N S hl)
theorem V_icmp_ne {x y1 : Int32} {off : Int} {tgt : Nat} (h : At Z.1.2.1 pc (.if_icmp .ne off) 3 q) (ht : (pc : Int) + off = (tgt : Int)) (kt : ¬ x = y1 → V Z tgt lv st y I L R kc ks) (kf : x = y1 → V Z q lv st y I L R kc ks) : V Z pc lv (.int y1 :: .int x :: st) y I L R kc ks := by
  obtain ⟨h, rfl⟩ := h
  intro E p l e s m args below meth c H locs ls F D N S hl
  exact lv_icmp_ne F.1 F.2.1 h ht (fun hc => kt hc E p l e s m args below meth c H locs ls F D N S hl) (fun hc => kf hc E p l e s m args below meth c H locs ls F D N S hl)
theorem V_if_lt {x : Int32} {off : Int} {tgt : Nat} (h : At Z.1.2.1 pc (.ifCond .lt off) 3 q) (ht : (pc : Int) + off = (tgt : Int)) (kt : x < 0 → V Z tgt lv st y I L R kc ks) (kf : ¬ x < 0 → V Z q lv st y I L R kc ks) : V Z pc lv (.int x :: st) y I L R kc ks := by
  obtain ⟨h, rfl⟩ := h
  intro E p l e s m args below meth c H locs ls F D N S hl
  exact lv_if_lt F.1 F.2.1 h ht (fun hc => kt hc E p l e s m args below meth c H locs ls F D N S hl) (fun hc => kf hc E p l e s m args below meth c H locs ls F D N S hl)
theorem V_icmp_lt {x y1 : Int32} {off : Int} {tgt : Nat} (h : At Z.1.2.1 pc (.if_icmp .lt off) 3 q) (ht : (pc : Int) + off = (tgt : Int)) (kt : x < y1 → V Z tgt lv st y I L R kc ks) (kf : ¬ x < y1 → V Z q lv st y I L R kc ks) : V Z pc lv (.int y1 :: .int x :: st) y I L R kc ks := by
  obtain ⟨h, rfl⟩ := h
  intro E p l e s m args below meth c H locs ls F D N S hl
  exact lv_icmp_lt F.1 F.2.1 h ht (fun hc => kt hc E p l e s m args below meth c H locs ls F D N S hl) (fun hc => kf hc E p l e s m args below meth c H locs ls F D N S hl)
theorem V_if_ge {x : Int32} {off : Int} {tgt : Nat} (h : At Z.1.2.1 pc (.ifCond .ge off) 3 q) (ht : (pc : Int) + off = (tgt : Int)) (kt : 0 ≤ x → V Z tgt lv st y I L R kc ks) (kf : ¬ 0 ≤ x → V Z q lv st y I L R kc ks) : V Z pc lv (.int x :: st) y I L R kc ks := by
  obtain ⟨h, rfl⟩ := h
  intro E p l e s m args below meth c H locs ls F D N S hl
  exact lv_if_ge F.1 F.2.1 h ht (fun hc => kt hc E p l e s m args below meth c H locs ls F D N S hl) (fun hc => kf hc E p l e s m args below meth c H locs ls F D N S hl)
theorem V_icmp_ge {x y1 : Int32} {off : Int} {tgt : Nat} (h : At Z.1.2.1 pc (.if_icmp .ge off) 3 q) (ht : (pc : Int) + off = (tgt : Int)) (kt : y1 ≤ x → V Z tgt lv st y I L R kc ks) (kf : ¬ y1 ≤ x → V Z q lv st y I L R kc ks) : V Z pc lv (.int y1 :: .int x :: st) y I L R kc ks := by
  obtain ⟨h, rfl⟩ := h
  intro E p l e s m args below meth c H locs ls F D N S hl
  exact lv_icmp_ge F.1 F.2.1 h ht (fun hc => kt hc E p l e s m args below meth c H locs ls F D N S hl) (fun hc => kf hc E p l e s m args below meth c H locs ls F D N S hl)
theorem V_if_gt {x : Int32} {off : Int} {tgt : Nat} (h : At Z.1.2.1 pc (.ifCond .gt off) 3 q) (ht : (pc : Int) + off = (tgt : Int)) (kt : 0 < x → V Z tgt lv st y I L R kc ks) (kf : ¬ 0 < x → V Z q lv st y I L R kc ks) : V Z pc lv (.int x :: st) y I L R kc ks := by
  obtain ⟨h, rfl⟩ := h
  intro E p l e s m args below meth c H locs ls F D N S hl
  exact lv_if_gt F.1 F.2.1 h ht (fun hc => kt hc E p l e s m args below meth c H locs ls F D N S hl) (fun hc => kf hc E p l e s m args below meth c H locs ls F D N S hl)
theorem V_icmp_gt {x y1 : Int32} {off : Int} {tgt : Nat} (h : At Z.1.2.1 pc (.if_icmp .gt off) 3 q) (ht : (pc : Int) + off = (tgt : Int)) (kt : y1 < x → V Z tgt lv st y I L R kc ks) (kf : ¬ y1 < x → V Z q lv st y I L R kc ks) : V Z pc lv (.int y1 :: .int x :: st) y I L R kc ks := by
  obtain ⟨h, rfl⟩ := h
  intro E p l e s m args below meth c H locs ls F D N S hl
  exact lv_icmp_gt F.1 F.2.1 h ht (fun hc => kt hc E p l e s m args below meth c H locs ls F D N S hl) (fun hc => kf hc E p l e s m args below meth c H locs ls F D N S hl)
theorem V_if_le {x : Int32} {off : Int} {tgt : Nat} (h : At Z.1.2.1 pc (.ifCond .le off) 3 q) (ht : (pc : Int) + off = (tgt : Int)) (kt : x ≤ 0 → V Z tgt lv st y I L R kc ks) (kf : ¬ x ≤ 0 → V Z q lv st y I L R kc ks) : V Z pc lv (.int x :: st) y I L R kc ks := by
  obtain ⟨h, rfl⟩ := h
  intro E p l e s m args below meth c H locs ls F D N S hl
  exact lv_if_le F.1 F.2.1 h ht (fun hc => kt hc E p l e s m args below meth c H locs ls F D N S hl) (fun hc => kf hc E p l e s m args below meth c H locs ls F D N S hl)
theorem V_icmp_le {x y1 : Int32} {off : Int} {tgt : Nat} (h : At Z.1.2.1 pc (.if_icmp .le off) 3 q) (ht : (pc : Int) + off = (tgt : Int)) (kt : x ≤ y1 → V Z tgt lv st y I L R kc ks) (kf : ¬ x ≤ y1 → V Z q lv st y I L R kc ks) : V Z pc lv (.int y1 :: .int x :: st) y I L R kc ks := by
  obtain ⟨h, rfl⟩ := h
  intro E p l e s m args below meth c H locs ls F D N S hl
  exact lv_icmp_le F.1 F.2.1 h ht (fun hc => kt hc E p l e s m args below meth c H locs ls F D N S hl) (fun hc => kf hc E p l e s m args below meth c H locs ls F D N S hl)
theorem V_goto {off : Int} {tgt : Nat} (h : At Z.1.2.1 pc (.goto off) 3 q) (ht : (pc : Int) + off = (tgt : Int)) (k : V Z tgt lv st y I L R kc ks) : V Z pc lv st y I L R kc ks := by
  obtain ⟨h, rfl⟩ := h
  intro E p l e s m args below meth c H locs ls F D N S hl
  exact lv_goto F.1 F.2.1 h ht (k E p l e s m args below meth c H locs ls F D N S hl)
theorem V_ifnonnull {a : Nat} {off : Int} {tgt : Nat} (h : At Z.1.2.1 pc (.ifnonnull off) 3 q) (ha : a < 1000) (ht : (pc : Int) + off = (tgt : Int)) (k : V Z tgt lv st y I L R kc ks) : V Z pc lv (.ref a :: st) y I L R kc ks := by
  obtain ⟨h, rfl⟩ := h
  intro E p l e s m args below meth c H locs ls F D N S hl
  simp only [List.map_cons]
  rw [gv_w ha]
  exact lv_ifnonnull F.1 F.2.1 h ht (k E p l e s m args below meth c H locs ls F D N S hl)
theorem V_ifnonnullN {off : Int} (h : At Z.1.2.1 pc (.ifnonnull off) 3 q) (k : V Z q lv st y I L R kc ks) : V Z pc lv (.null :: st) y I L R kc ks := by
  obtain ⟨h, rfl⟩ := h
  intro E p l e s m args below meth c H locs ls F D N S hl
  exact lv_ifnonnullN F.1 F.2.1 h (k E p l e s m args below meth c H locs ls F D N S hl)
theorem V_ifnull {a : Nat} {off : Int} (h : At Z.1.2.1 pc (.ifnull off) 3 q) (ha : a < 1000) (k : V Z q lv st y I L R kc ks) : V Z pc lv (.ref a :: st) y I L R kc ks := by
  obtain ⟨h, rfl⟩ := h
  intro E p l e s m args below meth c H locs ls F D N S hl
  simp only [List.map_cons]
  rw [gv_w ha]
  exact lv_ifnull F.1 F.2.1 h (k E p l e s m args below meth c H locs ls F D N S hl)
theorem V_ifnullN {off : Int} {tgt : Nat} (h : At Z.1.2.1 pc (.ifnull off) 3 q) (ht : (pc : Int) + off = (tgt : Int)) (k : V Z tgt lv st y I L R kc ks) : V Z pc lv (.null :: st) y I L R kc ks := by
  obtain ⟨h, rfl⟩ := h
  intro E p l e s m args below meth c H locs ls F D N S hl
  exact lv_ifnullN F.1 F.2.1 h ht (k E p l e s m args below meth c H locs ls F D N S hl)
theorem V_tsw {x : Int32} {dflt lo hi : Int} {offs : Array Int} {n : Nat} (tg : Nat → Nat) (td : Nat) (h : At Z.1.2.1 pc (.tableswitch dflt lo hi offs) n q) (hd : (pc : Int) + dflt = (td : Int)) (ht : ∀ j : Nat, lo ≤ (j : Int) + lo → (j : Int) + lo ≤ hi → ∃ off, offs[j]? = some off ∧ (pc : Int) + off = (tg j : Int))
    (kd : (x.toInt < lo ∨ hi < x.toInt) → V Z td lv st y I L R kc ks) (ki : ∀ j : Nat, x.toInt = (j : Int) + lo → (j : Int) + lo ≤ hi → V Z (tg j) lv st y I L R kc ks) : V Z pc lv (.int x :: st) y I L R kc ks := by
  obtain ⟨h, rfl⟩ := h
  intro E p l e s m args below meth c H locs ls F D N S hl
  by_cases hx : x.toInt < lo ∨ hi < x.toInt
  · exact lv_tableOut F.1 F.2.1 h hx hd (kd hx E p l e s m args below meth c H locs ls F D N S hl)
  · have h1 : ¬ x.toInt < lo := fun z => hx (Or.inl z)
    have h2 : ¬ hi < x.toInt := fun z => hx (Or.inr z)
    obtain ⟨off, g1, g2⟩ := ht (x.toInt - lo).toNat (by omega) (by omega)
    exact lv_tableIn F.1 F.2.1 h h1 h2 g1 g2 (ki _ (by omega) (by omega) E p l e s m args below meth c H locs ls F D N S hl)
end Rows
/-- a class of the tables -/
def CF (ci : Nat) (C : String) (T : u_T) (n : Nat) (ty : Nat → FieldType) : Prop :=
  classes[ci]? = some (C, T, n) ∧ ci < 100 ∧ (∀ w ∈ u_ws C T n, w ∈ gw) ∧ (∀ k, k < n → parseFieldDescriptor (T k).2.2.1 = some (ty k)) ∧ (∀ a, a < n → ∀ b, b < n → a ≠ b → (T a).2.1 ≠ (T b).2.1) ∧ (∀ j, tyC ci j = ty j) ∧ (∀ j, j < n → (T j).1 = C)
theorem CF_ws {C : String} {T : u_T} {n : Nat} (h : ∀ j, j < n → u_lay C T j ∈ lw_tbl) : ∀ w ∈ u_ws C T n, w ∈ gw := by
  intro w hw
  obtain ⟨j, hj, rfl⟩ := List.mem_map.mp hw
  refine gw_in (h j (List.mem_range.mp hj)) ?_
  unfold u_lay
  split <;> rfl
/-- a field's link: of the class 'own' at idx, field j of class ci (of n fields), its kind -/
def FK (own : String) (idx ci n j kind : Nat) (fin : Bool) : Prop :=
  ∃ (C : String) (T : u_T) (ty : Nat → FieldType), CF ci C T n ty ∧ j < n ∧ Cond.fieldLink own idx C (T j).2.1 (T j).2.2.1 ∈ gw ∧ kd (ty j) = kind ∧ (T j).2.2.2 = fin
theorem wl_at {E : Ev} {y : Ly} {I : WI} {L : WL} {R : WR} {k : Nat} {c : Nat × Nat} (h : y[k]? = some c) : (wl E y I L R)[k]? = some (E.2.1 + k, ce E I L R k c) := by
  simp [wl, h]
theorem wl_len (E : Ev) (y : Ly) (I : WI) (L : WL) (R : WR) : (wl E y I L R).length = y.length := by simp [wl]
theorem wl_D (E : Ev) (y : Ly) (I : WI) (L : WL) (R : WR) : va_D (eA E) (wl E y I L R) := by
  refine ⟨fun i j p q hi hj hpq => ?_, fun k q hk => ?_⟩
  · simp only [wl, List.getElem?_mapIdx, Option.map_eq_some_iff] at hi hj
    obtain ⟨a, -, rfl⟩ := hi
    obtain ⟨b, -, rfl⟩ := hj
    simp only at hpq
    omega
  · simp only [wl, List.getElem?_mapIdx, Option.map_eq_some_iff] at hk
    obtain ⟨a, -, rfl⟩ := hk
    exact Nat.le_add_right _ _
theorem ce_congr {E : Ev} {I I' : WI} {L L' : WL} {R R' : WR} {k : Nat} (c : Nat × Nat) (h1 : I' k = I k) (h2 : L' k = L k) (h3 : R' k = R k) : ce E I' L' R' k c = ce E I L R k c := by
  unfold ce fv
  rw [h1, h2, h3]
theorem wl_set {E : Ev} {y : Ly} {I I' : WI} {L L' : WL} {R R' : WR} {k : Nat} {c : Nat × Nat} {e : va_E} (hk : y[k]? = some c) (h : ∀ a, a ≠ k → I' a = I a ∧ L' a = L a ∧ R' a = R a) (he : ce E I' L' R' k c = e) : wl E y I' L' R' = (wl E y I L R).set k (E.2.1 + k, e) := by
  apply List.ext_getElem?
  intro a
  by_cases ha : a = k
  · subst ha
    have hl : a < (wl E y I L R).length := by rw [wl_len]; exact (List.getElem?_eq_some_iff.mp hk).1
    rw [List.getElem?_set_self hl, wl_at hk, he]
  · rw [List.getElem?_set_ne (Ne.symm ha)]
    obtain ⟨h1, h2, h3⟩ := h a ha
    simp only [wl, List.getElem?_mapIdx]
    cases y[a]? with
    | none => rfl
    | some c => simp only [Option.map_some]; rw [ce_congr c h1 h2 h3]
theorem u2_ne {α : Type} {f : Nat → Nat → α} {k j a : Nat} {x : α} (h : a ≠ k) : u2 f k j x a = f a := by
  funext b
  simp [u2, h]
theorem ce_obj {E : Ev} {I : WI} {L : WL} {R : WR} {k ci n : Nat} (h : ci < 100) : ce E I L R k (ci, n) = .inr (ci, (List.range n).map (fun j => gv E (fv I L R k ci j))) := by
  simp [ce, h]
theorem fs_at {E : Ev} {I : WI} {L : WL} {R : WR} {k ci n j : Nat} (h : j < n) : ((List.range n).map (fun j => gv E (fv I L R k ci j)))[j]? = some (gv E (fv I L R k ci j)) := by
  simp [h]
theorem fs_set {f g : Nat → Value} {n j : Nat} {v : Value} (hj : g j = v) (h : ∀ i, i ≠ j → g i = f i) : (List.range n).map g = ((List.range n).map f).set j v := by
  apply List.ext_getElem?
  intro a
  by_cases ha : a = j
  · subst ha
    by_cases hl : a < n
    · rw [List.getElem?_set_self (by simpa using hl)]
      simp [hl, hj]
    · simp [hl]
  · rw [List.getElem?_set_ne (Ne.symm ha)]
    by_cases hl : a < n
    · simp [hl, h a ha]
    · simp [hl]
theorem y_lt {E : Ev} {y : Ly} {I : WI} {L : WL} {R : WR} {H : Heap} {k : Nat} {c : Nat × Nat} (D : DY E y I L R H) (h : y[k]? = some c) : k < 1000 := Nat.lt_of_lt_of_le (List.getElem?_eq_some_iff.mp h).1 D.2
section Heap
variable {Z : Cx} {pc q : Nat} {lv : List (Nat × Value)} {st : List Value} {y : Ly} {I : WI} {L : WL} {R : WR} {kc ks : Nat}
theorem V_getG {k ci n j idx kind : Nat} {fin : Bool} {v : Value} (h : At Z.1.2.1 pc (.getfield idx) 3 q) (f : FK Z.1.1.cls idx ci n j kind fin) (hk : y[k]? = some (ci, n)) (hv : kd (tyC ci j) = kind → fv I L R k ci j = v) (kk : V Z q lv (v :: st) y I L R kc ks) : V Z pc lv (.ref k :: st) y I L R kc ks := by
  obtain ⟨h, rfl⟩ := h
  obtain ⟨C, T, ty, cf, hj, hf, h0, -⟩ := f
  intro E p l e s m args below meth c H locs ls F D N S hl
  obtain ⟨c1, c2, c3, c4, c5, c6, c7⟩ := cf
  have e1 := wl_at (E := E) (I := I) (L := L) (R := R) hk
  rw [ce_obj c2] at e1
  simp only [List.map_cons]
  rw [gv_w (y_lt D hk)]
  refine va_get (D := E.1) (cl := classes) (tys := tys E) (ci := ci) (C := C) (T := T) (N := n) (ref := C) (v := gv E v) F.1 F.2.1 F.2.2.2.2.1 c3 F.2.2.2.1 F.2.2.2.2.2.2.2.2.1 D.1 k e1 c1 j hj (F.2.2.2.2.1 _ hf) (by rw [c7 j hj]; exact fun _ h => h) ?_ h (kk E p l e s m args below meth c H locs ls F D N S hl)
  rw [fs_at hj, hv (by rw [c6]; exact h0)]
theorem V_getI {k ci n j idx : Nat} {fin : Bool} (h : At Z.1.2.1 pc (.getfield idx) 3 q) (f : FK Z.1.1.cls idx ci n j 0 fin) (hk : y[k]? = some (ci, n)) (kk : V Z q lv (.int (I k j) :: st) y I L R kc ks) : V Z pc lv (.ref k :: st) y I L R kc ks :=
  V_getG h f hk (fun e => by unfold fv; rw [e]; rfl) kk
theorem V_getL {k ci n j idx : Nat} {fin : Bool} (h : At Z.1.2.1 pc (.getfield idx) 3 q) (f : FK Z.1.1.cls idx ci n j 1 fin) (hk : y[k]? = some (ci, n)) (kk : V Z q lv (.long (L k j) :: st) y I L R kc ks) : V Z pc lv (.ref k :: st) y I L R kc ks :=
  V_getG h f hk (fun e => by unfold fv; rw [e]; rfl) kk
theorem V_getZ {k ci n j idx : Nat} {fin : Bool} (h : At Z.1.2.1 pc (.getfield idx) 3 q) (f : FK Z.1.1.cls idx ci n j 3 fin) (hk : y[k]? = some (ci, n)) (kk : V Z q lv (.int (bz (I k j)) :: st) y I L R kc ks) : V Z pc lv (.ref k :: st) y I L R kc ks :=
  V_getG h f hk (fun e => by unfold fv; rw [e]; rfl) kk
theorem V_getR {k ci n j idx a : Nat} {fin : Bool} (h : At Z.1.2.1 pc (.getfield idx) 3 q) (f : FK Z.1.1.cls idx ci n j 2 fin) (hk : y[k]? = some (ci, n)) (hr : R k j = some a) (kk : V Z q lv (.ref a :: st) y I L R kc ks) : V Z pc lv (.ref k :: st) y I L R kc ks :=
  V_getG h f hk (fun e => by unfold fv; rw [e]; simp only; rw [hr]; rfl) kk
theorem V_putG {k ci n j idx kind : Nat} {v : Value} {I' : WI} {L' : WL} {R' : WR} (h : At Z.1.2.1 pc (.putfield idx) 3 q) (f : FK Z.1.1.cls idx ci n j kind false) (hk : y[k]? = some (ci, n)) (hn : ∀ (ty : FieldType) (E : Ev), kd ty = kind → ty ≠ .char ∧ ty ≠ .byte ∧ ty ≠ .short ∧ ty ≠ .float ∧ ty ≠ .double → narrow ty (gv E v) = gv E v ∧ fits ty (gv E v) = true) (hc : ∀ t, tyC ci j = t → t ≠ .char ∧ t ≠ .byte ∧ t ≠ .short ∧ t ≠ .float ∧ t ≠ .double)
    (ho : ∀ a, a ≠ k → I' a = I a ∧ L' a = L a ∧ R' a = R a) (hs : kd (tyC ci j) = kind → fv I' L' R' k ci j = v) (hi : ∀ i, i ≠ j → fv I' L' R' k ci i = fv I L R k ci i) (kk : V Z q lv st y I' L' R' kc ks) : V Z pc lv (v :: .ref k :: st) y I L R kc ks := by
  obtain ⟨h, rfl⟩ := h
  obtain ⟨C, T, ty, cf, hj, hf, h0, hfin⟩ := f
  intro E p l e s m args below meth c H locs ls F D N S hl
  obtain ⟨c1, c2, c3, c4, c5, c6, c7⟩ := cf
  have e1 := wl_at (E := E) (I := I) (L := L) (R := R) hk
  rw [ce_obj c2] at e1
  simp only [List.map_cons]
  rw [gv_w (y_lt D hk)]
  obtain ⟨n1, n2⟩ := hn (ty j) E h0 (hc _ (c6 j))
  refine va_put (D := E.1) (cl := classes) (tys := tys E) (A := eA E) (H0 := s.heap) (ci := ci) (C := C) (T := T) (N := n) (ref := C) F.1 F.2.1 F.2.2.2.2.1 c3 ty c4 c5 F.2.2.2.1 F.2.2.2.2.2.2.2.2.1 D.1 (wl_D E y I L R) S k e1 c1 j hj (F.2.2.2.2.1 _ hf) (by rw [c7 j hj]; exact fun _ h => h) hfin (c4 j hj) n1 n2 (by simpa using hj) h fun H1 locs1 P1 D1 S1 => ?_
  refine kk E p l e s m args below meth c H1 locs1 ls F ⟨?_, D.2⟩ N S1 hl
  rw [wl_set (I := I) (L := L) (R := R) hk ho (e := .inr (ci, ((List.range n).map (fun j => gv E (fv I L R k ci j))).set j (gv E v))) ?_]
  · exact P1
  · rw [ce_obj c2]
    congr 2
    exact fs_set (by rw [hs (by rw [c6]; exact h0)]) (fun i hi' => by rw [hi i hi'])
theorem fv_I {I : WI} {L : WL} {R : WR} {k ci j i : Nat} {x : Int32} (h : i ≠ j) : fv (u2 I k j x) L R k ci i = fv I L R k ci i := by
  unfold fv
  split <;> simp [u2, h]
theorem fv_L {I : WI} {L : WL} {R : WR} {k ci j i : Nat} {x : Int64} (h : i ≠ j) : fv I (u2 L k j x) R k ci i = fv I L R k ci i := by
  unfold fv
  split <;> simp [u2, h]
theorem fv_R {I : WI} {L : WL} {R : WR} {k ci j i : Nat} {x : Option Nat} (h : i ≠ j) : fv I L (u2 R k j x) k ci i = fv I L R k ci i := by
  unfold fv
  split <;> simp [u2, h]
theorem V_putI {k ci n j idx : Nat} {x : Int32} (h : At Z.1.2.1 pc (.putfield idx) 3 q) (f : FK Z.1.1.cls idx ci n j 0 false) (hk : y[k]? = some (ci, n)) (ht : tyC ci j = .int) (kk : V Z q lv st y (u2 I k j x) L R kc ks) : V Z pc lv (.int x :: .ref k :: st) y I L R kc ks :=
  V_putG h f hk (fun ty E e t => by
    cases ty <;> first | exact ⟨rfl, rfl⟩ | exact absurd rfl t.1 | exact absurd rfl t.2.1 | exact absurd rfl t.2.2.1 | exact absurd rfl t.2.2.2.1 | exact absurd rfl t.2.2.2.2 | (simp [kd] at e)) (fun t e => by rw [← e, ht]; decide) (fun a ha => ⟨u2_ne ha, rfl, rfl⟩) (fun e => by unfold fv; rw [e]; simp [u2]) (fun i hi => fv_I hi) kk
theorem V_putL {k ci n j idx : Nat} {x : Int64} (h : At Z.1.2.1 pc (.putfield idx) 3 q) (f : FK Z.1.1.cls idx ci n j 1 false) (hk : y[k]? = some (ci, n)) (ht : tyC ci j = .long) (kk : V Z q lv st y I (u2 L k j x) R kc ks) : V Z pc lv (.long x :: .ref k :: st) y I L R kc ks :=
  V_putG h f hk (fun ty E e t => by
    cases ty <;> first | exact ⟨rfl, rfl⟩ | (simp [kd] at e)) (fun t e => by rw [← e, ht]; decide) (fun a ha => ⟨rfl, u2_ne ha, rfl⟩) (fun e => by unfold fv; rw [e]; simp [u2]) (fun i hi => fv_L hi) kk
theorem bz_01 {x : Int32} (h : bz x = x) : x = 0 ∨ x = 1 := by
  unfold bz at h
  obtain ⟨j, hj, e⟩ := pk_andE x (m := 1) 1 rfl
  rw [← h, e]
  rcases (show j = 0 ∨ j = 1 by omega) with rfl | rfl
  · exact Or.inl rfl
  · exact Or.inr rfl
theorem bz_nf {x : Int32} (h : bz x = x) : narrow .boolean (.int x) = .int x ∧ fits .boolean (.int x) = true := by
  rcases bz_01 h with rfl | rfl <;> exact ⟨rfl, rfl⟩
theorem V_putZ {k ci n j idx : Nat} {x : Int32} (h : At Z.1.2.1 pc (.putfield idx) 3 q) (f : FK Z.1.1.cls idx ci n j 3 false) (hk : y[k]? = some (ci, n)) (ht : tyC ci j = .boolean) (hb : bz x = x) (kk : V Z q lv st y (u2 I k j x) L R kc ks) : V Z pc lv (.int x :: .ref k :: st) y I L R kc ks :=
  V_putG h f hk (fun ty E e t => by
    cases ty <;> first | exact bz_nf hb | (simp [kd] at e)) (fun t e => by rw [← e, ht]; decide) (fun a ha => ⟨u2_ne ha, rfl, rfl⟩) (fun e => by unfold fv; rw [e]; simp [u2, hb]) (fun i hi => fv_I hi) kk
-- arrays
theorem V_iald {k n : Nat} {i : Int32} (h : At Z.1.2.1 pc .iaload 1 q) (hk : y[k]? = some (100, n)) (hin : vp_in i n) (kk : V Z q lv (.int (I k i.toNatClampNeg) :: st) y I L R kc ks) : V Z pc lv (.int i :: .ref k :: st) y I L R kc ks := by
  obtain ⟨h, rfl⟩ := h
  intro E p l e s m args below meth c H locs ls F D N S hl
  simp only [List.map_cons]
  rw [gv_w (y_lt D hk)]
  exact va_iald (tys := tys E) F.1 F.2.1 F.2.2.2.2.2.2.2.2.1 D.1 k 0 (wl_at hk) rfl hin h (kk E p l e s m args below meth c H locs ls F D N S hl)
theorem V_bald {k n : Nat} {i : Int32} (h : At Z.1.2.1 pc .baload 1 q) (hk : y[k]? = some (102, n)) (hin : vp_in i n) (kk : V Z q lv (.int (I k i.toNatClampNeg) :: st) y I L R kc ks) : V Z pc lv (.int i :: .ref k :: st) y I L R kc ks := by
  obtain ⟨h, rfl⟩ := h
  intro E p l e s m args below meth c H locs ls F D N S hl
  simp only [List.map_cons]
  rw [gv_w (y_lt D hk)]
  exact va_bald (tys := tys E) F.1 F.2.1 F.2.2.2.2.2.2.2.2.1 D.1 k 2 (wl_at hk) rfl hin h (kk E p l e s m args below meth c H locs ls F D N S hl)
theorem V_lald {k n : Nat} {i : Int32} (h : At Z.1.2.1 pc .laload 1 q) (hk : y[k]? = some (101, n)) (hin : vp_in i n) (kk : V Z q lv (.long (L k i.toNatClampNeg) :: st) y I L R kc ks) : V Z pc lv (.int i :: .ref k :: st) y I L R kc ks := by
  obtain ⟨h, rfl⟩ := h
  intro E p l e s m args below meth c H locs ls F D N S hl
  simp only [List.map_cons]
  rw [gv_w (y_lt D hk)]
  exact va_lald (tys := tys E) F.1 F.2.1 F.2.2.2.2.2.2.2.2.1 D.1 k 1 (wl_at hk) rfl hin h (kk E p l e s m args below meth c H locs ls F D N S hl)
theorem V_aald {k n a : Nat} {i : Int32} (h : At Z.1.2.1 pc .aaload 1 q) (hk : y[k]? = some (103, n)) (hin : vp_in i n) (hr : R k i.toNatClampNeg = some a) (ha : a < 1000) (kk : V Z q lv (.ref a :: st) y I L R kc ks) : V Z pc lv (.int i :: .ref k :: st) y I L R kc ks := by
  obtain ⟨h, rfl⟩ := h
  intro E p l e s m args below meth c H locs ls F D N S hl
  simp only [List.map_cons]
  rw [gv_w (y_lt D hk)]
  refine va_aldq (tys := tys E) (C := RX3) F.1 F.2.1 F.2.2.2.2.2.2.2.2.1 D.1 k 3 (wl_at hk) rfl hin h ?_
  have k1 := kk E p l e s m args below meth c H locs ls F D N S hl
  simp only [List.map_cons] at k1
  rw [gv_w ha] at k1
  rw [hr]
  have : ga E a = E.2.1 + a := by simp [ga, ha]
  simp only [Option.map_some, this]
  exact k1
theorem V_alen {k cc n : Nat} {v : Int32} (h : At Z.1.2.1 pc .arraylength 1 q) (hk : y[k]? = some (cc, n)) (hc : 100 ≤ cc ∧ cc ≤ 103) (hv : Int32.ofNat n = v) (kk : V Z q lv (.int v :: st) y I L R kc ks) : V Z pc lv (.ref k :: st) y I L R kc ks := by
  obtain ⟨h, rfl⟩ := h
  intro E p l e s m args below meth c H locs ls F D N S hl
  simp only [List.map_cons]
  rw [gv_w (y_lt D hk)]
  have e1 := wl_at (E := E) (I := I) (L := L) (R := R) hk
  have k1 := kk E p l e s m args below meth c H locs ls F D N S hl
  rcases (show cc = 100 ∨ cc = 101 ∨ cc = 102 ∨ cc = 103 by omega) with rfl | rfl | rfl | rfl
  · exact va_alen (tys := tys E) F.1 F.2.1 F.2.2.2.2.2.2.2.2.1 D.1 k 0 e1 rfl hv h k1
  · exact va_alen (tys := tys E) F.1 F.2.1 F.2.2.2.2.2.2.2.2.1 D.1 k 1 e1 rfl hv h k1
  · exact va_alen (tys := tys E) F.1 F.2.1 F.2.2.2.2.2.2.2.2.1 D.1 k 2 e1 rfl hv h k1
  · exact va_alen (tys := tys E) F.1 F.2.1 F.2.2.2.2.2.2.2.2.1 D.1 k 3 e1 rfl hv h k1
theorem u2_self {α : Type} {f : Nat → Nat → α} {k j : Nat} {x : α} : u2 f k j x k = fun b => if b = j then x else f k b := by
  funext b
  simp [u2]
theorem V_iast {k n : Nat} {i x : Int32} (h : At Z.1.2.1 pc .iastore 1 q) (hk : y[k]? = some (100, n)) (hin : vp_in i n) (kk : V Z q lv st y (u2 I k i.toNatClampNeg x) L R kc ks) : V Z pc lv (.int x :: .int i :: .ref k :: st) y I L R kc ks := by
  obtain ⟨h, rfl⟩ := h
  intro E p l e s m args below meth c H locs ls F D N S hl
  simp only [List.map_cons]
  rw [gv_w (y_lt D hk)]
  refine va_iast (tys := tys E) (A := eA E) F.1 F.2.1 F.2.2.2.2.2.2.2.2.1 D.1 (wl_D E y I L R) S k 0 (wl_at hk) rfl hin h fun H1 locs1 P1 D1 S1 => ?_
  refine kk E p l e s m args below meth c H1 locs1 ls F ⟨?_, D.2⟩ N S1 hl
  rw [wl_set (I := I) (L := L) (R := R) hk (fun a ha => ⟨u2_ne ha, rfl, rfl⟩) (e := .inl (E.2.2.1 0, n, .inl (upd (I k) i.toNatClampNeg x))) ?_]
  · exact P1
  · simp only [ce, u2_self]
    rfl
theorem V_bast {k n : Nat} {i x : Int32} (h : At Z.1.2.1 pc .bastore 1 q) (hk : y[k]? = some (102, n)) (hin : vp_in i n) (kk : V Z q lv st y (u2 I k i.toNatClampNeg x.toInt8.toInt32) L R kc ks) : V Z pc lv (.int x :: .int i :: .ref k :: st) y I L R kc ks := by
  obtain ⟨h, rfl⟩ := h
  intro E p l e s m args below meth c H locs ls F D N S hl
  simp only [List.map_cons]
  rw [gv_w (y_lt D hk)]
  refine va_bast (tys := tys E) (A := eA E) F.1 F.2.1 F.2.2.2.2.2.2.2.2.1 D.1 (wl_D E y I L R) S k 2 (wl_at hk) rfl hin h fun H1 locs1 P1 D1 S1 => ?_
  rw [vp_nar_byte] at P1 D1
  refine kk E p l e s m args below meth c H1 locs1 ls F ⟨?_, D.2⟩ N S1 hl
  rw [wl_set (I := I) (L := L) (R := R) hk (fun a ha => ⟨u2_ne ha, rfl, rfl⟩) (e := .inl (E.2.2.1 2, n, .inl (upd (I k) i.toNatClampNeg x.toInt8.toInt32))) ?_]
  · exact P1
  · simp only [ce, u2_self]
    rfl
theorem V_last {k n : Nat} {i : Int32} {x : Int64} (h : At Z.1.2.1 pc .lastore 1 q) (hk : y[k]? = some (101, n)) (hin : vp_in i n) (kk : V Z q lv st y I (u2 L k i.toNatClampNeg x) R kc ks) : V Z pc lv (.long x :: .int i :: .ref k :: st) y I L R kc ks := by
  obtain ⟨h, rfl⟩ := h
  intro E p l e s m args below meth c H locs ls F D N S hl
  simp only [List.map_cons]
  rw [gv_w (y_lt D hk)]
  refine va_last (tys := tys E) (A := eA E) F.1 F.2.1 F.2.2.2.2.2.2.2.2.1 D.1 (wl_D E y I L R) S k 1 (wl_at hk) rfl hin h fun H1 locs1 P1 D1 S1 => ?_
  refine kk E p l e s m args below meth c H1 locs1 ls F ⟨?_, D.2⟩ N S1 hl
  rw [wl_set (I := I) (L := L) (R := R) hk (fun a ha => ⟨rfl, u2_ne ha, rfl⟩) (e := .inl (E.2.2.1 1, n, .inr (.inl (vp_updL (L k) i.toNatClampNeg x)))) ?_]
  · exact P1
  · simp only [ce, u2_self]
    rfl
end Heap
theorem ST_moved {E : Ev} {s U : State} {H : Heap} {locs : List Loc} (h : ST E s) (S : va_S (eA E) s.heap H locs) (hU : U.heap = H) (hW : s.WarmedH U.vm) : ST E U := by
  obtain ⟨h1, h2, h3, h4, h5, h6, h7⟩ := h
  subst hU
  refine ⟨va_K.moved hW.alike h1, (h2.kept S.2.1).moved hW.alike, fun i q hi => (h3 i q hi).warm hW, (h4.kept S.2.1).moved hW.alike, (h5.kept S.2.1).moved hW.alike, ⟨h6.1.moved hW.alike, fun w hw => va_Nw.warmM hW (h6.2 w hw)⟩, Nat.le_trans h7 S.1⟩
theorem ST_calling {E : Ev} {U : State} (g : JFrame) (mk : MethodId) (a : Array Value) (h : ST E U) : ST E (U.calling g mk a) := by
  obtain ⟨h1, h2, h3, h4, h5, h6, h7⟩ := h
  have hv : U.vm.Alike (U.calling g mk a).vm := Vm.Alike.refl U.vm
  exact ⟨va_K.moved hv h1, h2.moved hv, fun i q hi => (h3 i q hi).same rfl, h4.moved hv, h5.moved hv, ⟨h6.1.moved hv, fun w hw => va_Nw.same rfl rfl (h6.2 w hw)⟩, h7⟩
/-- the world's size, by what the machine's room says -/
theorem DY_size {E : Ev} {y : Ly} {I : WI} {L : WL} {R : WR} {H H0 : Heap} {locs : List Loc} {kc : Nat} (D : DY E y I L R H) (S : va_S (eA E) H0 H locs) (hb : E.2.1 ≤ H0.size) (N : H0.size + kc = E.2.1 + y.length) (h : H.size ≤ H0.size + kc) : H.size = E.2.1 + y.length := by
  rcases Nat.eq_zero_or_pos y.length with h0 | h0
  · have := S.1
    omega
  · obtain ⟨c, hc⟩ : ∃ c, y[y.length - 1]? = some c := ⟨_, List.getElem?_eq_getElem (by omega)⟩
    have := (D.1 _ _ (wl_at hc)).lt
    simp only at this
    omega
theorem mw_good (X : Mx) (h : Cond.code X.1 X.2.1 X.2.2.1 X.2.2.2 ∈ lw_tbl) : ∀ w ∈ mw X, w ∈ lw_tbl ∧ goodWord w = true := by
  intro w hw
  rcases List.mem_cons.mp hw with rfl | hw
  · exact ⟨h, rfl⟩
  · exact ⟨gw_lw hw, gw_good hw⟩
theorem gi_mw (X : Mx) (h : Cond.code X.1 X.2.1 X.2.2.1 X.2.2.2 ∈ lw_tbl) : GoodIn gw (mw X) := by
  intro w hw
  obtain ⟨h1, h2⟩ := mw_good X h w hw
  exact ⟨gw_in h1 h2, good_of_word h2⟩
theorem gv_map_cat (E : Ev) (st : List Value) : ((st.map (gv E)).map fun v => v.category).sum = (st.map fun v => v.category).sum := by
  induction st with
  | nil => rfl
  | cons v st ih => simp only [List.map_cons, List.sum_cons, gv_cat, ih]
theorem Ct_of_V {X : Mx} {n : Nat} {d mc ms : Nat} {av : List Value} {y : Ly} {I : WI} {L : WL} {R : WR} {t : Tg} (hm : MOb X n) (hl : (lg_sl av).length ≤ X.2.2.1) (v : V (zM X d mc ms t) 0 (lv_args 0 av) [] y I L R 0 0) : Ct X d av y I L R mc ms t := by
  intro E l
  refine Met.ofW (cc := X.2.1) (maxL := X.2.2.1) (ret := X.2.2.2) hm.2.2.2 rfl ?_
  intro p e s m args below meth c s₁ B hml hv
  obtain ⟨rfl, hst, hD, hsz⟩ := hv
  have hts := atoms_spec (ws := mw X) B.pre
  have hF : FX E (zM X d mc ms t) p s m (av.map (gv E)).toArray meth c := ⟨B.exec, B.bytes, hml, findClass_of_methodNamed B.named, fun w hw => hts w (List.mem_cons_of_mem _ hw), B.returns, B.notSynchronized, ⟨fun h => by rw [(name_of_methodNamed B.named B.method).1]; exact h, fun _ h => by cases h⟩, hst⟩
  rw [lg_entry_eq]
  have hlen : (lg_sl (av.map (gv E))).length ≤ X.2.2.1 := by
    have : (lg_sl (av.map (gv E))).length = (lg_sl av).length := by
      clear v hl hts hF hsz hD hst B
      induction av with
      | nil => rfl
      | cons a av ih =>
        simp only [lg_sl, List.map_cons, List.flatMap_cons, List.length_append, gv_cat] at ih ⊢
        rw [ih]
        split <;> rfl
    rw [this]
    exact hl
  have h1 := lv_entry (av.map (gv E)) hlen
  rw [gl_args] at h1
  exact v E p l e s m _ below meth c s.heap [] _ hF hD (by omega) va_S.rf h1
section Calls
variable {Z : Cx} {pc q : Nat} {lv : List (Nat × Value)} {st : List Value} {y : Ly} {I : WI} {L : WL} {R : WR} {kc ks : Nat}
theorem V_back {av : List Value} {mc ms : Nat} {t : Tg} (E : Ev) {p : Program} {l : Launch} {e : Env} {s : State} {m : MethodId} {args : Array Value} {below : List Frame} {meth : Method} {c : Code} {H : Heap} {locs : List Loc} {ls : Array Slot} {st0 : List Value}
    (F : FX E Z p s m args meth c) (D : DY E y I L R H) (N : s.heap.size + kc = E.2.1 + y.length) (S : va_S (eA E) s.heap H locs) (hl : lv_has ls Z.1.2.2.1 (gl E lv))
    (hr : va_Run p l e Z.2.1 s m args below meth c H locs kc ks mc ms (F0 m pc ls st0) (st.map (gv E)) (Qm E t (av.map (gv E)).toArray) (eA E)) (hz : t.2.1.length = y.length + mc)
    (k : V Z (pc + 3) lv (t.1.toList ++ st) t.2.1 t.2.2.1 t.2.2.2.1 t.2.2.2.2 (kc + mc) (ks + ms)) : W p l e Z.2.1 s m args below meth c H locs kc ks (Z.2.2.1 E below args s) (F0 m pc ls st0) := by
  intro T hT X
  obtain ⟨v, st₀, tt, T', L1, h0, X', hL, e1, e2, ⟨hv, hd, hzs, hk⟩, stp⟩ := hr T hT X
  cases hv
  rw [h0] at hzs hk
  have S' : va_S (eA E) s.heap T'.heap (locs ++ L1) := ⟨Nat.le_trans S.1 (by rw [e1]; exact hzs), fun q h1 h2 => by rw [e1, hk q (Nat.lt_of_lt_of_le h1 S.1) h2]; exact S.2.1 q h1 h2, fun q hq => by
    rcases List.mem_append.mp hq with h | h
    · exact S.2.2 q h
    · exact hL q h⟩
  obtain ⟨t2, a1, b1⟩ := (k E p l e s m args below meth c T'.heap (locs ++ L1) ls F (by rw [e1]; exact hd) (by omega) S' hl) T' rfl X'
  refine ⟨t2, stp t2 ?_, b1⟩
  have e3 : (t.1.toList ++ st).map (gv E) = (t.1.map (gv E)).toList ++ st.map (gv E) := by
    cases t.1 <;> simp
  rw [e3] at a1
  exact a1
theorem FB_Pc {E : Ev} {av : List Value} {y : Ly} {I : WI} {L : WL} {R : WR} : FrameBlind (va_Pc (av.map (gv E)) (fun U => ST E U ∧ DY E y I L R U.heap ∧ U.heap.size = E.2.1 + y.length)) :=
  fun a U g mk h => ⟨h.1, ST_calling g mk a h.2.1, h.2.2.1, h.2.2.2⟩
/-- a virtual method of a cell k of the world -/
theorem V_callV {X : Mx} {As : List Value} {k ci nf n idx d mc ms : Nat} {t : Tg} (hC : Ct X d (.ref k :: As) y I L R mc ms t) (hm : MOv X n) (h : At Z.1.2.1 pc (.invokevirtual idx) 3 q) (hli : Cond.methodLink Z.1.1.cls idx X.1 ∈ lw_tbl) (hn : As.length = n) (hk : y[k]? = some (ci, nf)) (hci : ci < 100 ∧ ∃ r, classes[ci]? = some r ∧ r.1 = X.1.cls) (hd : d + 1 ≤ Z.2.1.frames ∧ 8 + (X.2.2.1 + 11) + 60 * d ≤ Z.2.1.locals) (hmc : kc + mc ≤ Z.2.1.cells ∧ ks + ms ≤ Z.2.1.slots) (hw : (st.map fun v => v.category).sum ≤ 8) (hz : t.2.1.length = y.length + mc)
    (kk : V Z q lv (t.1.toList ++ st) t.2.1 t.2.2.1 t.2.2.2.1 t.2.2.2.2 (kc + mc) (ks + ms)) : V Z pc lv (As.reverse ++ .ref k :: st) y I L R kc ks := by
  obtain ⟨h, rfl⟩ := h
  intro E p l e s m args below meth c H locs ls F D N S hl T hT XX
  have hsz : H.size = E.2.1 + y.length := DY_size D S F.2.2.2.2.2.2.2.2.2.2.2.2.2.2 N (by rw [← hT]; exact XX.heapSize)
  obtain ⟨r, hr1, hr2⟩ := hci.2
  have e1 := wl_at (E := E) (I := I) (L := L) (R := R) hk
  rw [ce_obj hci.1] at e1
  have hrec := va_recv F.2.2.2.2.2.2.2.2.1 D.1 hr1 e1
  have hts := F.2.2.2.2.1
  have hG : GoodIn gw (wsV Z.1.1.cls idx X.1.cls X.1 (mw X)) := by
    intro w hw
    rcases List.mem_append.mp hw with hw | hw
    · simp only [List.mem_cons, List.not_mem_nil, or_false] at hw
      rcases hw with rfl | rfl | rfl | rfl
      · exact ⟨gw_in hli rfl, good_of_word rfl⟩
      · exact ⟨gw_in hm.2.1 rfl, good_of_word rfl⟩
      · exact ⟨gw_in hm.2.2 rfl, good_of_word rfl⟩
      · exact ⟨gw_in hm.1.2.1 rfl, good_of_word rfl⟩
    · exact gi_mw X hm.1.1 w hw
  have hrun := va_runV (H := H) (locs := locs) (cells := kc) (slots := ks) (As := As.map (gv E)) (rest := st.map (gv E)) (b := E.2.1 + k) (g := F0 m pc ls ((As.reverse ++ .ref k :: st).map (gv E))) ⟨F.1, F.2.1, F.2.2.1, F.2.2.2.1, hts⟩ (hC E l) (cwV (own := Z.1.1.cls) (index := idx) (C := X.1.cls) n hts hG rfl rfl rfl ⟨rfl, hm.1.2.2.1⟩ hd)
    (below := below) (meth := meth) (e := e) ⟨FB_Pc, by rw [hr2] at hrec; exact hrec, fun U hU hW => ⟨by rw [List.map_cons, gv_w (y_lt D hk)], ST_moved F.2.2.2.2.2.2.2.2 S hU hW, by rw [hU]; exact D, by rw [hU]; exact hsz⟩⟩ rfl (by rw [List.length_map]; exact hn) hl.1 (by simp only [List.map_append, List.map_cons, List.map_reverse, gv_w (y_lt D hk)]) (lv_room (by rw [gv_map_cat]; exact hw)) h hmc
  have hrun2 : va_Run p l e Z.2.1 s m args below meth c H locs kc ks mc ms (F0 m pc ls ((As.reverse ++ .ref k :: st).map (gv E))) (st.map (gv E)) (Qm E t ((Value.ref k :: As).map (gv E)).toArray) (eA E) := by
    rw [List.map_cons, gv_w (y_lt D hk)]
    exact hrun
  exact V_back (av := .ref k :: As) E F D N S hl hrun2 hz kk T hT XX
theorem V_callS {X : Mx} {As : List Value} {n idx d mc ms : Nat} {t : Tg} (hC : Ct X d As y I L R mc ms t) (hm : MOs X n) (h : At Z.1.2.1 pc (.invokestatic idx) 3 q) (hli : Cond.methodLink Z.1.1.cls idx X.1 ∈ lw_tbl) (hn : As.length = n) (hd : d + 1 ≤ Z.2.1.frames ∧ 8 + (X.2.2.1 + 11) + 60 * d ≤ Z.2.1.locals) (hmc : kc + mc ≤ Z.2.1.cells ∧ ks + ms ≤ Z.2.1.slots) (hw : (st.map fun v => v.category).sum ≤ 8) (hz : t.2.1.length = y.length + mc)
    (kk : V Z q lv (t.1.toList ++ st) t.2.1 t.2.2.1 t.2.2.2.1 t.2.2.2.2 (kc + mc) (ks + ms)) : V Z pc lv (As.reverse ++ st) y I L R kc ks := by
  obtain ⟨h, rfl⟩ := h
  intro E p l e s m args below meth c H locs ls F D N S hl T hT XX
  have hsz : H.size = E.2.1 + y.length := DY_size D S F.2.2.2.2.2.2.2.2.2.2.2.2.2.2 N (by rw [← hT]; exact XX.heapSize)
  have hts := F.2.2.2.2.1
  have hin := hts _ (gw_in hm.1.2.1 rfl)
  have hrun := va_runS (H := H) (locs := locs) (cells := kc) (slots := ks) (As := As.map (gv E)) (rest := st.map (gv E)) (g := F0 m pc ls ((As.reverse ++ st).map (gv E))) ⟨F.1, F.2.1, F.2.2.1, F.2.2.2.1, hts⟩ (hC E l) ⟨callB_of (own := Z.1.1.cls) (index := idx) n hts (gi_mw X hm.1.1) rfl rfl rfl hin (hts _ (gw_in hli rfl)) hm.1.2.2.1 hd, hts _ (gw_in hm.2 rfl)⟩
    (below := below) (meth := meth) (e := e) ⟨FB_Pc, fun U hU hW => ⟨rfl, ST_moved F.2.2.2.2.2.2.2.2 S hU hW, by rw [hU]; exact D, by rw [hU]; exact hsz⟩⟩ rfl (by rw [List.length_map]; exact hn) hl.1 (by simp only [List.map_append, List.map_reverse]) (lv_room (by rw [gv_map_cat]; exact hw)) h hmc
  exact V_back (av := As) E F D N S hl hrun hz kk T hT XX
-- ends
variable {X : Mx} {d mc ms : Nat} {t : Tg}
theorem V_iret {v : Int32} (h : At X.2.1 pc .ireturn 1 q) (ty : FieldType) (hr : X.2.2.2 = some ty) (hn : narrow ty (.int v) = .int v) (ht : t = (some (.int v), y, I, L, R)) (hc : kc ≤ mc ∧ ks ≤ ms) : V (zM X d mc ms t) pc lv [.int v] y I L R kc ks := by
  intro E p l e s m args below meth c H locs ls F D N S hl
  refine W.widen hc.1 hc.2 ?_
  subst ht
  exact W.zret (v := v) F.1 F.2.1 (F.2.2.2.2.2.1.trans hr) hn (fun t ht hW => ⟨rfl, by rw [ht]; exact D, S.F ht⟩) S.2.2 h.1 F.2.2.2.2.2.2.1
theorem V_lret {v : Int64} (h : At X.2.1 pc .lreturn 1 q) (hr : X.2.2.2 = some .long) (ht : t = (some (.long v), y, I, L, R)) (hc : kc ≤ mc ∧ ks ≤ ms) : V (zM X d mc ms t) pc lv [.long v] y I L R kc ks := by
  intro E p l e s m args below meth c H locs ls F D N S hl
  refine W.widen hc.1 hc.2 ?_
  subst ht
  exact W.lret (v := v) F.1 F.2.1 (F.2.2.2.2.2.1.trans hr) (fun t ht hW => ⟨rfl, by rw [ht]; exact D, S.F ht⟩) S.2.2 h.1 F.2.2.2.2.2.2.1
theorem V_vret (h : At X.2.1 pc .return_ 1 q) (hr : X.2.2.2 = none) (ht : t = (none, y, I, L, R)) (hc : kc ≤ mc ∧ ks ≤ ms) : V (zM X d mc ms t) pc lv [] y I L R kc ks := by
  intro E p l e s m args below meth c H locs ls F D N S hl
  refine W.widen hc.1 hc.2 ?_
  subst ht
  exact W.vret F.1 F.2.1 (F.2.2.2.2.2.1.trans hr) (fun t ht hW => ⟨rfl, by rw [ht]; exact D, S.F ht⟩) S.2.2 h.1 F.2.2.2.2.2.2.1
theorem V_aret {a : Nat} {C : String} (h : At X.2.1 pc .areturn 1 q) (hr : X.2.2.2 = some (.object C)) (ht : t = (some (.ref a), y, I, L, R)) (hc : kc ≤ mc ∧ ks ≤ ms) : V (zM X d mc ms t) pc lv [.ref a] y I L R kc ks := by
  intro E p l e s m args below meth c H locs ls F D N S hl
  refine W.widen hc.1 hc.2 ?_
  subst ht
  exact W.aret (v := gv E (.ref a)) F.1 F.2.1 (F.2.2.2.2.2.1.trans hr) (Or.inl ⟨_, rfl⟩) (by cases h : gr E a with
    | none => exact Or.inl (by simp [gv, h, va_rf])
    | some b => exact Or.inr ⟨b, by simp [gv, h, va_rf]⟩) (fun t ht hW => ⟨rfl, by rw [ht]; exact D, S.F ht⟩) S.2.2 h.1 F.2.2.2.2.2.2.1
theorem V_aretN {C : String} (h : At X.2.1 pc .areturn 1 q) (hr : X.2.2.2 = some (.object C)) (ht : t = (some .null, y, I, L, R)) (hc : kc ≤ mc ∧ ks ≤ ms) : V (zM X d mc ms t) pc lv [.null] y I L R kc ks := by
  intro E p l e s m args below meth c H locs ls F D N S hl
  refine W.widen hc.1 hc.2 ?_
  subst ht
  exact W.aret (v := .null) F.1 F.2.1 (F.2.2.2.2.2.1.trans hr) (Or.inl ⟨_, rfl⟩) (Or.inl rfl) (fun t ht hW => ⟨rfl, by rw [ht]; exact D, S.F ht⟩) S.2.2 h.1 F.2.2.2.2.2.2.1
end Calls
section More
variable {Z : Cx} {pc q : Nat} {lv : List (Nat × Value)} {st : List Value} {y : Ly} {I : WI} {L : WL} {R : WR} {kc ks : Nat}
theorem gv_hi {E : Ev} {a : Nat} (h1 : 2000 ≤ a) (h2 : a < 3000) : gv E (.ref a) = .ref (E.2.2.2.2.1 (a - 2000)) := by
  have h3 : a ≠ 3000 := by omega
  have h4 : ¬ a < 1000 := by omega
  have h5 : ¬ a < 2000 := by omega
  simp [gv, gr, ga, h3, h4, h5, va_rf]
theorem gv_str {E : Ev} {i : Nat} (h : i < 1000) : gv E (.ref (1000 + i)) = .ref (E.2.2.2.1 i) := by
  have h3 : 1000 + i ≠ 3000 := by omega
  have h4 : ¬ 1000 + i < 1000 := by omega
  have h5 : 1000 + i < 2000 := by omega
  simp [gv, gr, ga, h3, h5, va_rf]
  intro z
  omega
-- the script
theorem V_xlen {n : Nat} {xs : Nat → Int32} (h : At Z.1.2.1 pc .arraylength 1 q) (hz : Z.2.2.2 = some (n, xs)) (k : V Z q lv (.int (Int32.ofNat n) :: st) y I L R kc ks) : V Z pc lv (.ref 2999 :: st) y I L R kc ks := by
  obtain ⟨h, rfl⟩ := h
  intro E p l e s m args below meth c H locs ls F D N S hl
  obtain ⟨h1, h2, h3⟩ := F.2.2.2.2.2.2.2.1.2 _ hz
  simp only [List.map_cons]
  rw [gv_hi (a := 2999) (by omega) (by omega)]
  exact va_slen (A := eA E) F.1 F.2.1 h1 h2 (Nat.not_le.mpr h3) S h (k E p l e s m args below meth c H locs ls F D N S hl)
theorem V_xald {n : Nat} {xs : Nat → Int32} {i : Int32} (h : At Z.1.2.1 pc .iaload 1 q) (hz : Z.2.2.2 = some (n, xs)) (hin : vp_in i n) (k : V Z q lv (.int (xs i.toNatClampNeg) :: st) y I L R kc ks) : V Z pc lv (.int i :: .ref 2999 :: st) y I L R kc ks := by
  obtain ⟨h, rfl⟩ := h
  intro E p l e s m args below meth c H locs ls F D N S hl
  obtain ⟨h1, h2, h3⟩ := F.2.2.2.2.2.2.2.1.2 _ hz
  simp only [List.map_cons]
  rw [gv_hi (a := 2999) (by omega) (by omega)]
  exact va_sld (A := eA E) F.1 F.2.1 h1 h2 (Nat.not_le.mpr h3) S hin h (k E p l e s m args below meth c H locs ls F D N S hl)
-- Math
theorem V_max {x y1 : Int32} {idx : Nat} (h : At Z.1.2.1 pc (.invokestatic idx) 3 q) (hli : Cond.methodLink Z.1.1.cls idx Lib.Math.max.name ∈ gw) (hst : Cond.static Lib.Math.max.name ∈ gw) (hco : Cond.code Lib.Math.max.name Lib.Math.max.code 2 (some .int) ∈ gw) (hini : Cond.initialized "java/lang/Math" ∈ gw) (hd : 1 ≤ Z.2.1.frames ∧ (st.map fun v => v.category).sum + 13 ≤ Z.2.1.locals) (hc : kc ≤ Z.2.1.cells ∧ ks ≤ Z.2.1.slots) (k : V Z q lv (.int (if x < y1 then y1 else x) :: st) y I L R kc ks) : V Z pc lv (.int y1 :: .int x :: st) y I L R kc ks := by
  obtain ⟨h, rfl⟩ := h
  intro E p l e s m args below meth c H locs ls F D N S hl
  have hts := F.2.2.2.2.1
  exact va_mmax F.1 F.2.1 (F.2.2.1.trans hl.1.symm) F.2.2.2.1 (hts _ hli) (hts _ hst) (hts _ hini) (hts _ hco) hd.1 (by rw [gv_map_cat]; exact hd.2) hc.1 hc.2 h (k E p l e s m args below meth c H locs ls F D N S hl)
theorem V_min {x y1 : Int32} {idx : Nat} (h : At Z.1.2.1 pc (.invokestatic idx) 3 q) (hli : Cond.methodLink Z.1.1.cls idx Lib.Math.min.name ∈ gw) (hst : Cond.static Lib.Math.min.name ∈ gw) (hco : Cond.code Lib.Math.min.name Lib.Math.min.code 2 (some .int) ∈ gw) (hini : Cond.initialized "java/lang/Math" ∈ gw) (hd : 1 ≤ Z.2.1.frames ∧ (st.map fun v => v.category).sum + 13 ≤ Z.2.1.locals) (hc : kc ≤ Z.2.1.cells ∧ ks ≤ Z.2.1.slots) (k : V Z q lv (.int (if y1 < x then y1 else x) :: st) y I L R kc ks) : V Z pc lv (.int y1 :: .int x :: st) y I L R kc ks := by
  obtain ⟨h, rfl⟩ := h
  intro E p l e s m args below meth c H locs ls F D N S hl
  have hts := F.2.2.2.2.1
  exact va_mmin F.1 F.2.1 (F.2.2.1.trans hl.1.symm) F.2.2.2.1 (hts _ hli) (hts _ hst) (hts _ hini) (hts _ hco) hd.1 (by rw [gv_map_cat]; exact hd.2) hc.1 hc.2 h (k E p l e s m args below meth c H locs ls F D N S hl)
-- constants
theorem V_ldcS {i idx : Nat} {tx : String} (h : At Z.1.2.1 pc (.ldc idx) 2 q) (ho : Z.1.1.cls = RX6) (hi : strs[i]? = some (idx, tx)) (k : V Z q lv (.ref (1000 + i) :: st) y I L R kc ks) : V Z pc lv st y I L R kc ks := by
  obtain ⟨h, rfl⟩ := h
  intro E p l e s m args below meth c H locs ls F D N S hl
  have k1 := k E p l e s m args below meth c H locs ls F D N S hl
  simp only [List.map_cons] at k1
  have hl6 : i < 6 := (List.getElem?_eq_some_iff.mp hi).1
  rw [gv_str (by omega)] at k1
  exact va_ldcS F.1 F.2.1 (by have := F.2.2.2.1; rw [ho] at this; exact this) (F.2.2.2.2.2.2.2.2.2.2.1 i _ hi) h k1
theorem V_sgetV {i idx : Nat} (h : At Z.1.2.1 pc (.getfield idx) 3 q) (hi : i < 6) (hf : Cond.fieldLink Z.1.1.cls idx "java/lang/String" "value" "[B" ∈ gw) (k : V Z q lv (.ref (2000 + i) :: st) y I L R kc ks) : V Z pc lv (.ref (1000 + i) :: st) y I L R kc ks := by
  obtain ⟨h, rfl⟩ := h
  intro E p l e s m args below meth c H locs ls F D N S hl
  have k1 := k E p l e s m args below meth c H locs ls F D N S hl
  simp only [List.map_cons] at k1 ⊢
  rw [gv_hi (by omega) (by omega), show 2000 + i - 2000 = i by omega] at k1
  rw [gv_str (by omega)]
  exact vk_getf (A := eA E) (ref := "java/lang/String") F.1 F.2.1 (F.2.2.2.2.2.2.2.2.2.1.1 i hi).2.2.1 S F.2.2.2.1 (F.2.2.2.2.1 _ hf) (fun _ h => h) h k1
theorem V_sgetC {i idx : Nat} (h : At Z.1.2.1 pc (.getfield idx) 3 q) (hi : i < 6) (hf : Cond.fieldLink Z.1.1.cls idx "java/lang/String" "coder" "B" ∈ gw) (k : V Z q lv (.int 0 :: st) y I L R kc ks) : V Z pc lv (.ref (1000 + i) :: st) y I L R kc ks := by
  obtain ⟨h, rfl⟩ := h
  intro E p l e s m args below meth c H locs ls F D N S hl
  have k1 := k E p l e s m args below meth c H locs ls F D N S hl
  simp only [List.map_cons] at k1 ⊢
  rw [gv_str (by omega)]
  exact vk_getf (A := eA E) (ref := "java/lang/String") F.1 F.2.1 (F.2.2.2.2.2.2.2.2.2.1.1 i hi).2.1 S F.2.2.2.1 (F.2.2.2.2.1 _ hf) (fun _ h => h) h k1
theorem va_T.keptS {ty : FieldType} {t N : Nat} {f : Nat → Value} {A : Nat → Prop} {s : State} {H : Heap} {locs : List Loc} (h : va_T ty t N f A s s.heap) (S : va_S A s.heap H locs) : ∃ cell : Cell, H[t]? = some cell ∧ s.isArrayOf cell ty ∧ cell.vm ≠ .unknown ∧ N ≤ cell.slots.size ∧ cell.slots.size.toInt32 = Int32.ofNat N ∧ ∀ j : Nat, j < N → cell.slots[j]? = some (f j) := by
  obtain ⟨cell, h1, h2, h3, h4, h5, h6, h7⟩ := h
  exact ⟨cell, by rw [S.2.1 t (Array.getElem?_eq_some_iff.mp h1).1 h7]; exact h1, h2, h3, h4, h5, h6⟩
theorem V_salen {i : Nat} {v : Int32} (h : At Z.1.2.1 pc .arraylength 1 q) (hi : i < 6) (hv : Int32.ofNat (s_len.getD i 0) = v) (k : V Z q lv (.int v :: st) y I L R kc ks) : V Z pc lv (.ref (2000 + i) :: st) y I L R kc ks := by
  obtain ⟨h, rfl⟩ := h
  intro E p l e s m args below meth c H locs ls F D N S hl
  have k1 := k E p l e s m args below meth c H locs ls F D N S hl
  simp only [List.map_cons] at k1 ⊢
  rw [gv_hi (by omega) (by omega), show 2000 + i - 2000 = i by omega]
  obtain ⟨cell, h1, h2, h3, h4, h5, h6⟩ := (F.2.2.2.2.2.2.2.2.2.1.1 i hi).2.2.2.keptS S
  exact W.alen (n := v) F.1 F.2.1 h1 h2 (by rw [h5, hv]) rfl rfl h k1
theorem V_sbald {i : Nat} {j : Int32} {v : Int32} (h : At Z.1.2.1 pc .baload 1 q) (hi : i < 6) (hin : vp_in j (s_len.getD i 0)) (hv : (s_byt.getD i []).getD j.toNatClampNeg 0 = v) (k : V Z q lv (.int v :: st) y I L R kc ks) : V Z pc lv (.int j :: .ref (2000 + i) :: st) y I L R kc ks := by
  obtain ⟨h, rfl⟩ := h
  intro E p l e s m args below meth c H locs ls F D N S hl
  have k1 := k E p l e s m args below meth c H locs ls F D N S hl
  simp only [List.map_cons] at k1 ⊢
  rw [gv_hi (by omega) (by omega), show 2000 + i - 2000 = i by omega]
  obtain ⟨cell, h1, h2, h3, h4, h5, h6⟩ := (F.2.2.2.2.2.2.2.2.2.1.1 i hi).2.2.2.keptS S
  have hlt : j.toNatClampNeg < s_len.getD i 0 := Nat.not_le.mp fun z => hin (Or.inr z)
  refine W.bald (v := .int v) F.1 F.2.1 h1 h2 h3 (fun z => hin (z.imp_right (fun z => Nat.le_trans h4 z))) ?_ rfl rfl h k1
  rw [h6 _ hlt, hv]
theorem V_getstC {idx : Nat} (h : At Z.1.2.1 pc (.getstatic idx) 3 q) (hf : Cond.fieldLink Z.1.1.cls idx "java/lang/String" "COMPACT_STRINGS" "Z" ∈ gw) (k : V Z q lv (.int 1 :: st) y I L R kc ks) : V Z pc lv st y I L R kc ks := by
  obtain ⟨h, rfl⟩ := h
  intro E p l e s m args below meth c H locs ls F D N S hl
  exact va_gets (A := eA E) (ref := "java/lang/String") F.1 F.2.1 F.2.2.2.2.2.2.2.2.2.2.2.1 S F.2.2.2.1 (F.2.2.2.2.1 _ hf) (fun _ h => h) h (k E p l e s m args below meth c H locs ls F D N S hl)
theorem V_getstF {idx : Nat} (h : At Z.1.2.1 pc (.getstatic idx) 3 q) (hf : Cond.fieldLink Z.1.1.cls idx "jdk/internal/util/Preconditions" "SIOOBE_FORMATTER" "Ljava/util/function/BiFunction;" ∈ gw) (k : V Z q lv (.ref 3000 :: st) y I L R kc ks) : V Z pc lv st y I L R kc ks := by
  obtain ⟨h, rfl⟩ := h
  intro E p l e s m args below meth c H locs ls F D N S hl
  exact va_gets (A := eA E) (ref := "jdk/internal/util/Preconditions") F.1 F.2.1 F.2.2.2.2.2.2.2.2.2.2.2.2.1 S F.2.2.2.1 (F.2.2.2.2.1 _ hf) (fun _ h => h) h (k E p l e s m args below meth c H locs ls F D N S hl)
/-- a virtual method of a constant text -/
theorem V_callT {X : Mx} {As : List Value} {i n idx d mc ms : Nat} {t : Tg} (hC : Ct X d (.ref (1000 + i) :: As) y I L R mc ms t) (hm : MOv X n) (h : At Z.1.2.1 pc (.invokevirtual idx) 3 q) (hli : Cond.methodLink Z.1.1.cls idx X.1 ∈ lw_tbl) (hn : As.length = n) (hi : i < 6) (hcl : X.1.cls = "java/lang/String") (hd : d + 1 ≤ Z.2.1.frames ∧ 8 + (X.2.2.1 + 11) + 60 * d ≤ Z.2.1.locals) (hmc : kc + mc ≤ Z.2.1.cells ∧ ks + ms ≤ Z.2.1.slots) (hw : (st.map fun v => v.category).sum ≤ 8) (hz : t.2.1.length = y.length + mc)
    (kk : V Z q lv (t.1.toList ++ st) t.2.1 t.2.2.1 t.2.2.2.1 t.2.2.2.2 (kc + mc) (ks + ms)) : V Z pc lv (As.reverse ++ .ref (1000 + i) :: st) y I L R kc ks := by
  obtain ⟨h, rfl⟩ := h
  intro E p l e s m args below meth c H locs ls F D N S hl T hT XX
  have hsz : H.size = E.2.1 + y.length := DY_size D S F.2.2.2.2.2.2.2.2.2.2.2.2.2.2 N (by rw [← hT]; exact XX.heapSize)
  have hrec := vk_recv F.2.2.2.2.2.2.2.2.2.1 hi S
  have hts := F.2.2.2.2.1
  have hG : GoodIn gw (wsV Z.1.1.cls idx X.1.cls X.1 (mw X)) := by
    intro w hw
    rcases List.mem_append.mp hw with hw | hw
    · simp only [List.mem_cons, List.not_mem_nil, or_false] at hw
      rcases hw with rfl | rfl | rfl | rfl
      · exact ⟨gw_in hli rfl, good_of_word rfl⟩
      · exact ⟨gw_in hm.2.1 rfl, good_of_word rfl⟩
      · exact ⟨gw_in hm.2.2 rfl, good_of_word rfl⟩
      · exact ⟨gw_in hm.1.2.1 rfl, good_of_word rfl⟩
    · exact gi_mw X hm.1.1 w hw
  have hrun := va_runV (H := H) (locs := locs) (cells := kc) (slots := ks) (As := As.map (gv E)) (rest := st.map (gv E)) (b := E.2.2.2.1 i) (g := F0 m pc ls ((As.reverse ++ .ref (1000 + i) :: st).map (gv E))) ⟨F.1, F.2.1, F.2.2.1, F.2.2.2.1, hts⟩ (hC E l) (cwV (own := Z.1.1.cls) (index := idx) (C := X.1.cls) n hts hG rfl rfl rfl ⟨rfl, hm.1.2.2.1⟩ hd)
    (below := below) (meth := meth) (e := e) ⟨FB_Pc, by rw [hcl]; exact hrec, fun U hU hW => ⟨by rw [List.map_cons, gv_str (by omega)], ST_moved F.2.2.2.2.2.2.2.2 S hU hW, by rw [hU]; exact D, by rw [hU]; exact hsz⟩⟩ rfl (by rw [List.length_map]; exact hn) hl.1 (by simp only [List.map_append, List.map_cons, List.map_reverse, gv_str (show i < 1000 by omega)]) (lv_room (by rw [gv_map_cat]; exact hw)) h hmc
  have hrun2 : va_Run p l e Z.2.1 s m args below meth c H locs kc ks mc ms (F0 m pc ls ((As.reverse ++ .ref (1000 + i) :: st).map (gv E))) (st.map (gv E)) (Qm E t ((Value.ref (1000 + i) :: As).map (gv E)).toArray) (eA E) := by
    rw [List.map_cons, gv_str (by omega)]
    exact hrun
  exact V_back (av := .ref (1000 + i) :: As) E F D N S hl hrun2 hz kk T hT XX
end More
