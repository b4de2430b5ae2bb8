/-- a class of the tables -/
def CF (ci : Nat) (C : String) (T : u_T) (n : Nat) (ty : Nat → FieldType) : Prop :=
  classes[ci]? = some (C, T, n) ∧ ci < 100 ∧ (∀ w ∈ u_ws C T n, w ∈ gw) ∧ (∀ k, k < n → parseFieldDescriptor (T k).2.2.1 = some (ty k)) ∧ (∀ a, a < n → ∀ b, b < n → a ≠ b → (T a).2.1 ≠ (T b).2.1) ∧ (∀ j, tyC ci j = ty j) ∧ (∀ j, j < n → (T j).1 = C)
theorem CF_ws {C : String} {T : u_T} {n : Nat} (h : ∀ j, j < n → u_lay C T j ∈ lw_tbl) : ∀ w ∈ u_ws C T n, w ∈ gw := by
  intro w hw
  obtain ⟨j, hj, rfl⟩ := List.mem_map.mp hw
  refine gw_in (h j (List.mem_range.mp hj)) ?_
  unfold u_lay
  split <;> rfl
/-- a field's link: of the class 'own' at idx, field j of class ci (of n fields), its kind -/
def FK (own : String) (idx ci n j kind : Nat) (fin : Bool) : Prop :=
  ∃ (C : String) (T : u_T) (ty : Nat → FieldType), CF ci C T n ty ∧ j < n ∧ Cond.fieldLink own idx C (T j).2.1 (T j).2.2.1 ∈ gw ∧ kd (ty j) = kind ∧ (T j).2.2.2 = fin
theorem wl_at {E : Ev} {y : Ly} {I : WI} {L : WL} {R : WR} {k : Nat} {c : Nat × Nat} (h : y[k]? = some c) : (wl E y I L R)[k]? = some (E.2.1 + k, ce E I L R k c) := by
  simp [wl, h]
theorem wl_len (E : Ev) (y : Ly) (I : WI) (L : WL) (R : WR) : (wl E y I L R).length = y.length := by simp [wl]
theorem wl_D (E : Ev) (y : Ly) (I : WI) (L : WL) (R : WR) : va_D (eA E) (wl E y I L R) := by
  refine ⟨fun i j p q hi hj hpq => ?_, fun k q hk => ?_⟩
  · simp only [wl, List.getElem?_mapIdx, Option.map_eq_some_iff] at hi hj
    obtain ⟨a, -, rfl⟩ := hi
    obtain ⟨b, -, rfl⟩ := hj
    simp only at hpq
    omega
  · simp only [wl, List.getElem?_mapIdx, Option.map_eq_some_iff] at hk
    obtain ⟨a, -, rfl⟩ := hk
    exact Nat.le_add_right _ _
theorem ce_congr {E : Ev} {I I' : WI} {L L' : WL} {R R' : WR} {k : Nat} (c : Nat × Nat) (h1 : I' k = I k) (h2 : L' k = L k) (h3 : R' k = R k) : ce E I' L' R' k c = ce E I L R k c := by
  unfold ce fv
  rw [h1, h2, h3]
theorem wl_set {E : Ev} {y : Ly} {I I' : WI} {L L' : WL} {R R' : WR} {k : Nat} {c : Nat × Nat} {e : va_E} (hk : y[k]? = some c) (h : ∀ a, a ≠ k → I' a = I a ∧ L' a = L a ∧ R' a = R a) (he : ce E I' L' R' k c = e) : wl E y I' L' R' = (wl E y I L R).set k (E.2.1 + k, e) := by
  apply List.ext_getElem?
  intro a
  by_cases ha : a = k
  · subst ha
    have hl : a < (wl E y I L R).length := by rw [wl_len]; exact (List.getElem?_eq_some_iff.mp hk).1
    rw [List.getElem?_set_self hl, wl_at hk, he]
  · rw [List.getElem?_set_ne (Ne.symm ha)]
    obtain ⟨h1, h2, h3⟩ := h a ha
    simp only [wl, List.getElem?_mapIdx]
    cases y[a]? with
    | none => rfl
    | some c => simp only [Option.map_some]; rw [ce_congr c h1 h2 h3]
theorem u2_ne {α : Type} {f : Nat → Nat → α} {k j a : Nat} {x : α} (h : a ≠ k) : u2 f k j x a = f a := by
  funext b
  simp [u2, h]
theorem ce_obj {E : Ev} {I : WI} {L : WL} {R : WR} {k ci n : Nat} (h : ci < 100) : ce E I L R k (ci, n) = .inr (ci, (List.range n).map (fun j => gv E (fv I L R k ci j))) := by
  simp [ce, h]
theorem fs_at {E : Ev} {I : WI} {L : WL} {R : WR} {k ci n j : Nat} (h : j < n) : ((List.range n).map (fun j => gv E (fv I L R k ci j)))[j]? = some (gv E (fv I L R k ci j)) := by
  simp [h]
theorem fs_set {f g : Nat → Value} {n j : Nat} {v : Value} (hj : g j = v) (h : ∀ i, i ≠ j → g i = f i) : (List.range n).map g = ((List.range n).map f).set j v := by
  apply List.ext_getElem?
  intro a
  by_cases ha : a = j
  · subst ha
    by_cases hl : a < n
    · rw [List.getElem?_set_self (by simpa using hl)]
      simp [hl, hj]
    · simp [hl]
  · rw [List.getElem?_set_ne (Ne.symm ha)]
    by_cases hl : a < n
    · simp [hl, h a ha]
    · simp [hl]
theorem y_lt {E : Ev} {y : Ly} {I : WI} {L : WL} {R : WR} {H : Heap} {k : Nat} {c : Nat × Nat} (D : DY E y I L R H) (h : y[k]? = some c) : k < 1000 := Nat.lt_of_lt_of_le (List.getElem?_eq_some_iff.mp h).1 D.2
section Heap
variable {Z : Cx} {pc q : Nat} {lv : List (Nat × Value)} {st : List Value} {y : Ly} {I : WI} {L : WL} {R : WR} {kc ks : Nat}
theorem V_getG {k ci n j idx kind : Nat} {fin : Bool} {v : Value} (h : At Z.1.2.1 pc (.getfield idx) 3 q) (f : FK Z.1.1.cls idx ci n j kind fin) (hk : y[k]? = some (ci, n)) (hv : kd (tyC ci j) = kind → fv I L R k ci j = v) (kk : V Z q lv (v :: st) y I L R kc ks) : V Z pc lv (.ref k :: st) y I L R kc ks := by
  obtain ⟨h, rfl⟩ := h
  obtain ⟨C, T, ty, cf, hj, hf, h0, -⟩ := f
  intro E p l e s m args below meth c H locs ls F D N S hl
  obtain ⟨c1, c2, c3, c4, c5, c6, c7⟩ := cf
  have e1 := wl_at (E := E) (I := I) (L := L) (R := R) hk
  rw [ce_obj c2] at e1
  simp only [List.map_cons]
  rw [gv_w (y_lt D hk)]
  refine va_get (D := E.1) (cl := classes) (tys := tys E) (ci := ci) (C := C) (T := T) (N := n) (ref := C) (v := gv E v) F.1 F.2.1 F.2.2.2.2.1 c3 F.2.2.2.1 F.2.2.2.2.2.2.2.2.1 D.1 k e1 c1 j hj (F.2.2.2.2.1 _ hf) (by rw [c7 j hj]; exact fun _ h => h) ?_ h (kk E p l e s m args below meth c H locs ls F D N S hl)
  rw [fs_at hj, hv (by rw [c6]; exact h0)]
theorem V_getI {k ci n j idx : Nat} {fin : Bool} (h : At Z.1.2.1 pc (.getfield idx) 3 q) (f : FK Z.1.1.cls idx ci n j 0 fin) (hk : y[k]? = some (ci, n)) (kk : V Z q lv (.int (I k j) :: st) y I L R kc ks) : V Z pc lv (.ref k :: st) y I L R kc ks :=
  V_getG h f hk (fun e => by unfold fv; rw [e]; rfl) kk
theorem V_getL {k ci n j idx : Nat} {fin : Bool} (h : At Z.1.2.1 pc (.getfield idx) 3 q) (f : FK Z.1.1.cls idx ci n j 1 fin) (hk : y[k]? = some (ci, n)) (kk : V Z q lv (.long (L k j) :: st) y I L R kc ks) : V Z pc lv (.ref k :: st) y I L R kc ks :=
  V_getG h f hk (fun e => by unfold fv; rw [e]; rfl) kk
theorem V_getZ {k ci n j idx : Nat} {fin : Bool} (h : At Z.1.2.1 pc (.getfield idx) 3 q) (f : FK Z.1.1.cls idx ci n j 3 fin) (hk : y[k]? = some (ci, n)) (kk : V Z q lv (.int (bz (I k j)) :: st) y I L R kc ks) : V Z pc lv (.ref k :: st) y I L R kc ks :=
  V_getG h f hk (fun e => by unfold fv; rw [e]; rfl) kk
theorem V_getR {k ci n j idx a : Nat} {fin : Bool} (h : At Z.1.2.1 pc (.getfield idx) 3 q) (f : FK Z.1.1.cls idx ci n j 2 fin) (hk : y[k]? = some (ci, n)) (hr : R k j = some a) (kk : V Z q lv (.ref a :: st) y I L R kc ks) : V Z pc lv (.ref k :: st) y I L R kc ks :=
  V_getG h f hk (fun e => by unfold fv; rw [e]; simp only; rw [hr]; rfl) kk
theorem V_putG {k ci n j idx kind : Nat} {v : Value} {I' : WI} {L' : WL} {R' : WR} (h : At Z.1.2.1 pc (.putfield idx) 3 q) (f : FK Z.1.1.cls idx ci n j kind false) (hk : y[k]? = some (ci, n)) (hn : ∀ (ty : FieldType) (E : Ev), kd ty = kind → ty ≠ .char ∧ ty ≠ .byte ∧ ty ≠ .short ∧ ty ≠ .float ∧ ty ≠ .double → narrow ty (gv E v) = gv E v ∧ fits ty (gv E v) = true) (hc : ∀ t, tyC ci j = t → t ≠ .char ∧ t ≠ .byte ∧ t ≠ .short ∧ t ≠ .float ∧ t ≠ .double)
    (ho : ∀ a, a ≠ k → I' a = I a ∧ L' a = L a ∧ R' a = R a) (hs : kd (tyC ci j) = kind → fv I' L' R' k ci j = v) (hi : ∀ i, i ≠ j → fv I' L' R' k ci i = fv I L R k ci i) (kk : V Z q lv st y I' L' R' kc ks) : V Z pc lv (v :: .ref k :: st) y I L R kc ks := by
  obtain ⟨h, rfl⟩ := h
  obtain ⟨C, T, ty, cf, hj, hf, h0, hfin⟩ := f
  intro E p l e s m args below meth c H locs ls F D N S hl
  obtain ⟨c1, c2, c3, c4, c5, c6, c7⟩ := cf
  have e1 := wl_at (E := E) (I := I) (L := L) (R := R) hk
  rw [ce_obj c2] at e1
  simp only [List.map_cons]
  rw [gv_w (y_lt D hk)]
  obtain ⟨n1, n2⟩ := hn (ty j) E h0 (hc _ (c6 j))
  refine va_put (D := E.1) (cl := classes) (tys := tys E) (A := eA E) (H0 := s.heap) (ci := ci) (C := C) (T := T) (N := n) (ref := C) F.1 F.2.1 F.2.2.2.2.1 c3 ty c4 c5 F.2.2.2.1 F.2.2.2.2.2.2.2.2.1 D.1 (wl_D E y I L R) S k e1 c1 j hj (F.2.2.2.2.1 _ hf) (by rw [c7 j hj]; exact fun _ h => h) hfin (c4 j hj) n1 n2 (by simpa using hj) h fun H1 locs1 P1 D1 S1 => ?_
  refine kk E p l e s m args below meth c H1 locs1 ls F ⟨?_, D.2⟩ N S1 hl
  rw [wl_set (I := I) (L := L) (R := R) hk ho (e := .inr (ci, ((List.range n).map (fun j => gv E (fv I L R k ci j))).set j (gv E v))) ?_]
  · exact P1
  · rw [ce_obj c2]
    congr 2
    exact fs_set (by rw [hs (by rw [c6]; exact h0)]) (fun i hi' => by rw [hi i hi'])
theorem fv_I {I : WI} {L : WL} {R : WR} {k ci j i : Nat} {x : Int32} (h : i ≠ j) : fv (u2 I k j x) L R k ci i = fv I L R k ci i := by
  unfold fv
  split <;> simp [u2, h]
theorem fv_L {I : WI} {L : WL} {R : WR} {k ci j i : Nat} {x : Int64} (h : i ≠ j) : fv I (u2 L k j x) R k ci i = fv I L R k ci i := by
  unfold fv
  split <;> simp [u2, h]
theorem fv_R {I : WI} {L : WL} {R : WR} {k ci j i : Nat} {x : Option Nat} (h : i ≠ j) : fv I L (u2 R k j x) k ci i = fv I L R k ci i := by
  unfold fv
  split <;> simp [u2, h]
theorem V_putI {k ci n j idx : Nat} {x : Int32} (h : At Z.1.2.1 pc (.putfield idx) 3 q) (f : FK Z.1.1.cls idx ci n j 0 false) (hk : y[k]? = some (ci, n)) (ht : tyC ci j = .int) (kk : V Z q lv st y (u2 I k j x) L R kc ks) : V Z pc lv (.int x :: .ref k :: st) y I L R kc ks :=
  V_putG h f hk (fun ty E e t => by
    cases ty <;> first | exact ⟨rfl, rfl⟩ | exact absurd rfl t.1 | exact absurd rfl t.2.1 | exact absurd rfl t.2.2.1 | exact absurd rfl t.2.2.2.1 | exact absurd rfl t.2.2.2.2 | (simp [kd] at e)) (fun t e => by rw [← e, ht]; decide) (fun a ha => ⟨u2_ne ha, rfl, rfl⟩) (fun e => by unfold fv; rw [e]; simp [u2]) (fun i hi => fv_I hi) kk
theorem V_putL {k ci n j idx : Nat} {x : Int64} (h : At Z.1.2.1 pc (.putfield idx) 3 q) (f : FK Z.1.1.cls idx ci n j 1 false) (hk : y[k]? = some (ci, n)) (ht : tyC ci j = .long) (kk : V Z q lv st y I (u2 L k j x) R kc ks) : V Z pc lv (.long x :: .ref k :: st) y I L R kc ks :=
  V_putG h f hk (fun ty E e t => by
    cases ty <;> first | exact ⟨rfl, rfl⟩ | (simp [kd] at e)) (fun t e => by rw [← e, ht]; decide) (fun a ha => ⟨rfl, u2_ne ha, rfl⟩) (fun e => by unfold fv; rw [e]; simp [u2]) (fun i hi => fv_L hi) kk
theorem bz_01 {x : Int32} (h : bz x = x) : x = 0 ∨ x = 1 := by
  unfold bz at h
  obtain ⟨j, hj, e⟩ := pk_andE x (m := 1) 1 rfl
  rw [← h, e]
  rcases (show j = 0 ∨ j = 1 by omega) with rfl | rfl
  · exact Or.inl rfl
  · exact Or.inr rfl
theorem bz_nf {x : Int32} (h : bz x = x) : narrow .boolean (.int x) = .int x ∧ fits .boolean (.int x) = true := by
  rcases bz_01 h with rfl | rfl <;> exact ⟨rfl, rfl⟩
theorem V_putZ {k ci n j idx : Nat} {x : Int32} (h : At Z.1.2.1 pc (.putfield idx) 3 q) (f : FK Z.1.1.cls idx ci n j 3 false) (hk : y[k]? = some (ci, n)) (ht : tyC ci j = .boolean) (hb : bz x = x) (kk : V Z q lv st y (u2 I k j x) L R kc ks) : V Z pc lv (.int x :: .ref k :: st) y I L R kc ks :=
  V_putG h f hk (fun ty E e t => by
    cases ty <;> first | exact bz_nf hb | (simp [kd] at e)) (fun t e => by rw [← e, ht]; decide) (fun a ha => ⟨u2_ne ha, rfl, rfl⟩) (fun e => by unfold fv; rw [e]; simp [u2, hb]) (fun i hi => fv_I hi) kk
-- arrays
theorem V_iald {k n : Nat} {i : Int32} (h : At Z.1.2.1 pc .iaload 1 q) (hk : y[k]? = some (100, n)) (hin : vp_in i n) (kk : V Z q lv (.int (I k i.toNatClampNeg) :: st) y I L R kc ks) : V Z pc lv (.int i :: .ref k :: st) y I L R kc ks := by
  obtain ⟨h, rfl⟩ := h
  intro E p l e s m args below meth c H locs ls F D N S hl
  simp only [List.map_cons]
  rw [gv_w (y_lt D hk)]
  exact va_iald (tys := tys E) F.1 F.2.1 F.2.2.2.2.2.2.2.2.1 D.1 k 0 (wl_at hk) rfl hin h (kk E p l e s m args below meth c H locs ls F D N S hl)
theorem V_bald {k n : Nat} {i : Int32} (h : At Z.1.2.1 pc .baload 1 q) (hk : y[k]? = some (102, n)) (hin : vp_in i n) (kk : V Z q lv (.int (I k i.toNatClampNeg) :: st) y I L R kc ks) : V Z pc lv (.int i :: .ref k :: st) y I L R kc ks := by
  obtain ⟨h, rfl⟩ := h
  intro E p l e s m args below meth c H locs ls F D N S hl
  simp only [List.map_cons]
  rw [gv_w (y_lt D hk)]
  exact va_bald (tys := tys E) F.1 F.2.1 F.2.2.2.2.2.2.2.2.1 D.1 k 2 (wl_at hk) rfl hin h (kk E p l e s m args below meth c H locs ls F D N S hl)
theorem V_lald {k n : Nat} {i : Int32} (h : At Z.1.2.1 pc .laload 1 q) (hk : y[k]? = some (101, n)) (hin : vp_in i n) (kk : V Z q lv (.long (L k i.toNatClampNeg) :: st) y I L R kc ks) : V Z pc lv (.int i :: .ref k :: st) y I L R kc ks := by
  obtain ⟨h, rfl⟩ := h
  intro E p l e s m args below meth c H locs ls F D N S hl
  simp only [List.map_cons]
  rw [gv_w (y_lt D hk)]
  exact va_lald (tys := tys E) F.1 F.2.1 F.2.2.2.2.2.2.2.2.1 D.1 k 1 (wl_at hk) rfl hin h (kk E p l e s m args below meth c H locs ls F D N S hl)
theorem V_aald {k n a : Nat} {i : Int32} (h : At Z.1.2.1 pc .aaload 1 q) (hk : y[k]? = some (103, n)) (hin : vp_in i n) (hr : R k i.toNatClampNeg = some a) (ha : a < 1000) (kk : V Z q lv (.ref a :: st) y I L R kc ks) : V Z pc lv (.int i :: .ref k :: st) y I L R kc ks := by
  obtain ⟨h, rfl⟩ := h
  intro E p l e s m args below meth c H locs ls F D N S hl
  simp only [List.map_cons]
  rw [gv_w (y_lt D hk)]
  refine va_aldq (tys := tys E) (C := RX3) F.1 F.2.1 F.2.2.2.2.2.2.2.2.1 D.1 k 3 (wl_at hk) rfl hin h ?_
  have k1 := kk E p l e s m args below meth c H locs ls F D N S hl
  simp only [List.map_cons] at k1
  rw [gv_w ha] at k1
  rw [hr]
  have : ga E a = E.2.1 + a := by simp [ga, ha]
  simp only [Option.map_some, this]
  exact k1
theorem V_alen {k cc n : Nat} {v : Int32} (h : At Z.1.2.1 pc .arraylength 1 q) (hk : y[k]? = some (cc, n)) (hc : 100 ≤ cc ∧ cc ≤ 103) (hv : Int32.ofNat n = v) (kk : V Z q lv (.int v :: st) y I L R kc ks) : V Z pc lv (.ref k :: st) y I L R kc ks := by
  obtain ⟨h, rfl⟩ := h
  intro E p l e s m args below meth c H locs ls F D N S hl
  simp only [List.map_cons]
  rw [gv_w (y_lt D hk)]
  have e1 := wl_at (E := E) (I := I) (L := L) (R := R) hk
  have k1 := kk E p l e s m args below meth c H locs ls F D N S hl
  rcases (show cc = 100 ∨ cc = 101 ∨ cc = 102 ∨ cc = 103 by omega) with rfl | rfl | rfl | rfl
  · exact va_alen (tys := tys E) F.1 F.2.1 F.2.2.2.2.2.2.2.2.1 D.1 k 0 e1 rfl hv h k1
  · exact va_alen (tys := tys E) F.1 F.2.1 F.2.2.2.2.2.2.2.2.1 D.1 k 1 e1 rfl hv h k1
  · exact va_alen (tys := tys E) F.1 F.2.1 F.2.2.2.2.2.2.2.2.1 D.1 k 2 e1 rfl hv h k1
  · exact va_alen (tys := tys E) F.1 F.2.1 F.2.2.2.2.2.2.2.2.1 D.1 k 3 e1 rfl hv h k1
theorem u2_self {α : Type} {f : Nat → Nat → α} {k j : Nat} {x : α} : u2 f k j x k = fun b => if b = j then x else f k b := by
  funext b
  simp [u2]
theorem V_iast {k n : Nat} {i x : Int32} (h : At Z.1.2.1 pc .iastore 1 q) (hk : y[k]? = some (100, n)) (hin : vp_in i n) (kk : V Z q lv st y (u2 I k i.toNatClampNeg x) L R kc ks) : V Z pc lv (.int x :: .int i :: .ref k :: st) y I L R kc ks := by
  obtain ⟨h, rfl⟩ := h
  intro E p l e s m args below meth c H locs ls F D N S hl
  simp only [List.map_cons]
  rw [gv_w (y_lt D hk)]
  refine va_iast (tys := tys E) (A := eA E) F.1 F.2.1 F.2.2.2.2.2.2.2.2.1 D.1 (wl_D E y I L R) S k 0 (wl_at hk) rfl hin h fun H1 locs1 P1 D1 S1 => ?_
  refine kk E p l e s m args below meth c H1 locs1 ls F ⟨?_, D.2⟩ N S1 hl
  rw [wl_set (I := I) (L := L) (R := R) hk (fun a ha => ⟨u2_ne ha, rfl, rfl⟩) (e := .inl (E.2.2.1 0, n, .inl (upd (I k) i.toNatClampNeg x))) ?_]
  · exact P1
  · simp only [ce, u2_self]
    rfl
theorem V_bast {k n : Nat} {i x : Int32} (h : At Z.1.2.1 pc .bastore 1 q) (hk : y[k]? = some (102, n)) (hin : vp_in i n) (kk : V Z q lv st y (u2 I k i.toNatClampNeg x.toInt8.toInt32) L R kc ks) : V Z pc lv (.int x :: .int i :: .ref k :: st) y I L R kc ks := by
  obtain ⟨h, rfl⟩ := h
  intro E p l e s m args below meth c H locs ls F D N S hl
  simp only [List.map_cons]
  rw [gv_w (y_lt D hk)]
  refine va_bast (tys := tys E) (A := eA E) F.1 F.2.1 F.2.2.2.2.2.2.2.2.1 D.1 (wl_D E y I L R) S k 2 (wl_at hk) rfl hin h fun H1 locs1 P1 D1 S1 => ?_
  rw [vp_nar_byte] at P1 D1
  refine kk E p l e s m args below meth c H1 locs1 ls F ⟨?_, D.2⟩ N S1 hl
  rw [wl_set (I := I) (L := L) (R := R) hk (fun a ha => ⟨u2_ne ha, rfl, rfl⟩) (e := .inl (E.2.2.1 2, n, .inl (upd (I k) i.toNatClampNeg x.toInt8.toInt32))) ?_]
  · exact P1
  · simp only [ce, u2_self]
    rfl
theorem V_last {k n : Nat} {i : Int32} {x : Int64} (h : At Z.1.2.1 pc .lastore 1 q) (hk : y[k]? = some (101, n)) (hin : vp_in i n) (kk : V Z q lv st y I (u2 L k i.toNatClampNeg x) R kc ks) : V Z pc lv (.long x :: .int i :: .ref k :: st) y I L R kc ks := by
  obtain ⟨h, rfl⟩ := h
  intro E p l e s m args below meth c H locs ls F D N S hl
  simp only [List.map_cons]
  rw [gv_w (y_lt D hk)]
  refine va_last (tys := tys E) (A := eA E) F.1 F.2.1 F.2.2.2.2.2.2.2.2.1 D.1 (wl_D E y I L R) S k 1 (wl_at hk) rfl hin h fun H1 locs1 P1 D1 S1 => ?_
  refine kk E p l e s m args below meth c H1 locs1 ls F ⟨?_, D.2⟩ N S1 hl
  rw [wl_set (I := I) (L := L) (R := R) hk (fun a ha => ⟨rfl, u2_ne ha, rfl⟩) (e := .inl (E.2.2.1 1, n, .inr (.inl (vp_updL (L k) i.toNatClampNeg x)))) ?_]
  · exact P1
  · simp only [ce, u2_self]
    rfl
end Heap
