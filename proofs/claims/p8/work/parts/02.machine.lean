/-! the machine of fixed worlds: a state is two functions, I (int fields and cells), L (long fields and cells), by object number -/
abbrev WI : Type := Nat → Nat → Int32
abbrev WL : Type := Nat → Nat → Int64
abbrev WR : Type := Nat → Nat → Option Nat
abbrev Ly : Type := List (Nat × Nat)
/-- the classes' numbers and slots, where the world begins, the array types' numbers, the constants' cells, their bytes, the formatter -/
abbrev Ev : Type := va_G × Nat × (Nat → ClassId) × (Nat → Nat) × (Nat → Nat) × Option Nat
abbrev Tg : Type := Option Value × Ly × WI × WL × WR
def u2 {α : Type} (f : Nat → Nat → α) (k j : Nat) (x : α) : Nat → Nat → α := fun a b => if a = k ∧ b = j then x else f a b
def bz (x : Int32) : Int32 := x &&& 1
def kd (t : FieldType) : Nat := match t with
  | .long => 1
  | .object _ => 2
  | .array _ => 2
  | .boolean => 3
  | _ => 0
def ga (E : Ev) (a : Nat) : Nat := if a < 1000 then E.2.1 + a else if a < 2000 then E.2.2.2.1 (a - 1000) else E.2.2.2.2.1 (a - 2000)
def gr (E : Ev) (a : Nat) : Option Nat := if a = 3000 then E.2.2.2.2.2 else some (ga E a)
def gv (E : Ev) (v : Value) : Value := match v with
  | .ref a => va_rf (gr E a)
  | v => v
def gl (E : Ev) (lv : List (Nat × Value)) : List (Nat × Value) := lv.map (fun q => (q.1, gv E q.2))
def fv (I : WI) (L : WL) (R : WR) (k c j : Nat) : Value := match kd (tyC c j) with
  | 0 => .int (I k j)
  | 1 => .long (L k j)
  | 2 => va_rf (R k j)
  | _ => .int (bz (I k j))
def ce (E : Ev) (I : WI) (L : WL) (R : WR) (k : Nat) (c : Nat × Nat) : va_E :=
  if c.1 < 100 then .inr (c.1, (List.range c.2).map (fun j => gv E (fv I L R k c.1 j)))
  else if c.1 = 100 then .inl (E.2.2.1 0, c.2, .inl (I k))
  else if c.1 = 101 then .inl (E.2.2.1 1, c.2, .inr (.inl (L k)))
  else if c.1 = 102 then .inl (E.2.2.1 2, c.2, .inl (I k))
  else .inl (E.2.2.1 3, c.2, .inr (.inr (.inr (.inr (fun i => (R k i).map (ga E))))))
def wl (E : Ev) (y : Ly) (I : WI) (L : WL) (R : WR) : va_W := y.mapIdx (fun k c => (E.2.1 + k, ce E I L R k c))
def tys (E : Ev) : List (ClassId × FieldType) := [(E.2.2.1 0, .int), (E.2.2.1 1, .long), (E.2.2.1 2, .byte), (E.2.2.1 3, .object RX3)]
def eA (E : Ev) : Nat → Prop := fun q => E.2.1 ≤ q
def strs : List (Nat × String) := [(68, "cloth"), (78, "pattern"), (80, "day"), (150, "row"), (152, "column"), (154, "slant")]
def s_len : List Nat := [5, 7, 3, 3, 6, 5]
def s_byt : List (List Int32) := [[99, 108, 111, 116, 104], [112, 97, 116, 116, 101, 114, 110], [100, 97, 121], [114, 111, 119], [99, 111, 108, 117, 109, 110], [115, 108, 97, 110, 116]]
/-- the links of constructors that nest mates alone may call -/
def nests : List (String × Nat × MethodName × String) := [(RX8, 32, yX1_init, RX8), (RX8, 39, yX5_init, RX8), (RX6, 25, yX1_init, RX8), (RX4, 17, yX3_init, RX8), (RX8, 62, yX7_init, RX8), (RX8, 69, yX2_init, RX8)]
def ST (E : Ev) (s : State) : Prop := va_K E.1 classes (tys E) s ∧ vk_S 6 s_len s_byt E.2.2.2.1 E.2.2.2.2.1 (eA E) s s.heap ∧ (∀ (i : Nat) (q : Nat × String), strs[i]? = some q → vk_R RX6 q.1 q.2 (E.2.2.2.1 i) s) ∧
  va_Z "java/lang/String" "COMPACT_STRINGS" "Z" (.int 1) (eA E) s s.heap ∧ va_Z "jdk/internal/util/Preconditions" "SIOOBE_FORMATTER" "Ljava/util/function/BiFunction;" (va_rf E.2.2.2.2.2) (eA E) s s.heap ∧ (va_AO RX3 s ∧ ∀ q ∈ nests, va_Nw (.methodLinkNest q.1 q.2.1 q.2.2.1 q.2.2.2) s) ∧ E.2.1 ≤ s.heap.size
def DY (E : Ev) (y : Ly) (I : WI) (L : WL) (R : WR) (H : Heap) : Prop := va_P E.1 classes (wl E y I L R) H ∧ y.length ≤ 1000
abbrev Cx : Type := Mx × Room × (Ev → List Frame → Array Value → State → State → Prop) × Option (Nat × (Nat → Int32))
def FX (E : Ev) (Z : Cx) (p : Program) (s : State) (m : MethodId) (args : Array Value) (meth : Method) (c : Code) : Prop :=
  p.tables.exec = Jvm.exec ∧ c.code = Z.1.2.1 ∧ c.maxLocals = Z.1.2.2.1 ∧ s.vm.findClass Z.1.1.cls = some m.cls ∧ (∀ w ∈ gw, w.before args s = true) ∧ meth.sig.returnType = Z.1.2.2.2 ∧ meth.locks = false ∧ ((Z.1.1.name = "<init>" → meth.name = "<init>") ∧ (∀ q, Z.2.2.2 = some q → va_X (E.2.2.2.2.1 999) q.1 q.2 s s.heap ∧ E.2.2.2.2.1 999 < s.heap.size ∧ E.2.2.2.2.1 999 < E.2.1)) ∧ ST E s
/-- from this place of the method, with these locals, this stack, this world, it comes to what Z says -/
def V (Z : Cx) (pc : Nat) (lv : List (Nat × Value)) (st : List Value) (y : Ly) (I : WI) (L : WL) (R : WR) (kc ks : Nat) : Prop :=
  ∀ (E : Ev) (p : Program) (l : Launch) (e : Env) (s : State) (m : MethodId) (args : Array Value) (below : List Frame) (meth : Method) (c : Code) (H : Heap) (locs : List Loc) (ls : Array Slot),
    FX E Z p s m args meth c → DY E y I L R H → s.heap.size + kc = E.2.1 + y.length → va_S (eA E) s.heap H locs → lv_has ls Z.1.2.2.1 (gl E lv) →
    W p l e Z.2.1 s m args below meth c H locs kc ks (Z.2.2.1 E below args s) (F0 m pc ls (st.map (gv E)))
def Qm (E : Ev) (t : Tg) : Array Value → State → Outcome → State → Prop := fun _ st oc u => oc = .returned (t.1.map (gv E)) ∧ DY E t.2.1 t.2.2.1 t.2.2.2.1 t.2.2.2.2 u.heap ∧ va_F (eA E) st u
def mw (X : Mx) : List Cond := .code X.1 X.2.1 X.2.2.1 X.2.2.2 :: gw
def rmd (d mc ms : Nat) : Room := { frames := d, cells := mc, slots := ms, locals := 60 * d }
def zM (X : Mx) (d mc ms : Nat) (t : Tg) : Cx := (X, rmd d mc ms, (fun E below args s => MQ below (Qm E t) args s mc ms (eA E)), none)
/-- the contract: called so in this world, the method answers t.1 and leaves the world t.2 -/
def Ct (X : Mx) (d : Nat) (av : List Value) (y : Ly) (I : WI) (L : WL) (R : WR) (mc ms : Nat) (t : Tg) : Prop :=
  ∀ (E : Ev) (l : Launch), Met l X.1 (mw X) (rmd d mc ms) (va_Pc (av.map (gv E)) (fun U => ST E U ∧ DY E y I L R U.heap ∧ U.heap.size = E.2.1 + y.length)) (Qm E t) mc ms (eA E)
theorem va_rf_cat (o : Option Nat) : (va_rf o).category = 1 := by cases o <;> rfl
theorem gv_cat (E : Ev) (v : Value) : (gv E v).category = v.category := by
  cases v <;> first | rfl | exact va_rf_cat _
theorem gv_w {E : Ev} {a : Nat} (h : a < 1000) : gv E (.ref a) = .ref (E.2.1 + a) := by
  have h1 : a ≠ 3000 := by omega
  simp [gv, gr, ga, h, h1, va_rf]
theorem gl_at {E : Ev} {lv : List (Nat × Value)} {j i : Nat} {v : Value} (h : lv[j]? = some (i, v)) : (gl E lv)[j]? = some (i, gv E v) := by
  simp [gl, h]
theorem gl_filter1 (E : Ev) (lv : List (Nat × Value)) (i : Nat) (x : Value) : (i, gv E x) :: (gl E lv).filter (fun q => !(q.1 == i) && !(q.1 + 1 == i && q.2.category == 2)) = gl E ((i, x) :: lv.filter (fun q => !(q.1 == i) && !(q.1 + 1 == i && q.2.category == 2))) := by
  simp only [gl, List.map_cons, List.filter_map]
  congr 3
  funext q
  simp [gv_cat]
theorem gl_filter2 (E : Ev) (lv : List (Nat × Value)) (i : Nat) (x : Value) : (i, gv E x) :: (gl E lv).filter (fun q => !(q.1 == i) && (!(q.1 == i + 1) && !(q.1 + 1 == i && q.2.category == 2))) = gl E ((i, x) :: lv.filter (fun q => !(q.1 == i) && (!(q.1 == i + 1) && !(q.1 + 1 == i && q.2.category == 2)))) := by
  simp only [gl, List.map_cons, List.filter_map]
  congr 3
  funext q
  simp [gv_cat]
theorem gl_args (E : Ev) : ∀ (vs : List Value) (i : Nat), lv_args i (vs.map (gv E)) = gl E (lv_args i vs)
  | [], _ => rfl
  | v :: vs, i => by
    simp only [List.map_cons, lv_args, gl, gv_cat]
    congr 1
    exact gl_args E vs _
