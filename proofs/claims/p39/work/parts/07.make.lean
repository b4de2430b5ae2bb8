/-! the rows of the constructors -/
theorem wl_push {E : Ev} {y : Ly} {I : WI} {L : WL} {R : WR} {c : Nat × Nat} : wl E (y ++ [c]) I L R = wl E y I L R ++ [(E.2.1 + y.length, ce E I L R y.length c)] := by
  simp [wl, List.mapIdx_append]
theorem new_at {E : Ev} {y : Ly} {I : WI} {L : WL} {R : WR} {H1 : Heap} {a : Nat} {x : va_E} (P1 : va_P E.1 classes (wl E y I L R ++ [(a, x)]) H1) (D1 : va_D (eA E) (wl E y I L R ++ [(a, x)])) (h : H1.size ≤ E.2.1 + (y.length + 1)) : a = E.2.1 + y.length := by
  have hl : (wl E y I L R ++ [(a, x)])[y.length]? = some (a, x) := by
    rw [List.getElem?_append_right (by rw [wl_len]; exact Nat.le_refl _), wl_len]
    simp
  have h1 := (P1 _ _ hl).lt
  have h2 : eA E a := D1.2 _ _ hl
  simp only at h1
  unfold eA at h2
  rcases Nat.lt_or_ge a (E.2.1 + y.length) with h3 | h3
  · exfalso
    have h4 : a - E.2.1 < y.length := by omega
    have h5 : (wl E y I L R ++ [(a, x)])[a - E.2.1]? = some (E.2.1 + (a - E.2.1), ce E I L R (a - E.2.1) y[a - E.2.1]) := by
      rw [List.getElem?_append_left (by rw [wl_len]; exact h4)]
      exact wl_at (List.getElem?_eq_getElem h4)
    have := D1.1 _ _ _ _ h5 hl (by simp only; omega)
    omega
  · omega
section Make
variable {Z : Cx} {pc q : Nat} {lv : List (Nat × Value)} {st : List Value} {y : Ly} {I : WI} {L : WL} {R : WR} {kc ks : Nat}
theorem V_new {ci n idx : Nat} {C : String} {T : u_T} {ty : Nat → FieldType} (cf : CF ci C T n ty) (h : At Z.1.2.1 pc (.new idx) 3 q) (hcl : Cond.classLink Z.1.1.cls idx C ∈ gw) (hin : Cond.instantiable C n ∈ gw) (hini : Cond.initialized C ∈ gw) (hc : kc + 1 ≤ Z.2.1.cells ∧ ks + n ≤ Z.2.1.slots) (hy : y.length < 1000) (h0 : ∀ j, I y.length j = 0 ∧ L y.length j = 0 ∧ R y.length j = none)
    (hty : ∀ j, j < n → ty j ≠ .char ∧ ty j ≠ .byte ∧ ty j ≠ .short ∧ ty j ≠ .float ∧ ty j ≠ .double)
    (k : V Z q lv (.ref y.length :: st) (y ++ [(ci, n)]) I L R (kc + 1) (ks + n)) : V Z pc lv st y I L R kc ks := by
  obtain ⟨h, rfl⟩ := h
  obtain ⟨c1, c2, c3, c4, c5, c6, c7⟩ := cf
  intro E p l e s m args below meth c H locs ls F D N S hl
  have hts := F.2.2.2.2.1
  refine va_new (D := E.1) (cl := classes) (tys := tys E) (A := eA E) (C := C) (T := T) (N := n) (ci := ci) (fs := (List.range n).map (fun j => gv E (fv I L R y.length ci j))) F.1 F.2.1 hts c3 ty c4 F.2.2.2.1 (hts _ hcl) (hts _ hin) (hts _ hini) F.2.2.2.2.2.2.2.2.1 D.1 (wl_D E y I L R) S (fun q hq => Nat.le_trans F.2.2.2.2.2.2.2.2.2.2.2.2.2.2 hq) c1 (fun j hj => ?_) hc.1 hc.2 h fun a H1 P1 D1 S1 => ?_
  · unfold vp_V
    rw [List.getD_eq_getElem?_getD, fs_at hj]
    obtain ⟨g1, g2, g3⟩ := h0 j
    obtain ⟨t1, t2, t3, t4, t5⟩ := hty j hj
    unfold fv
    rw [g1, g2, g3, c6 j]
    cases he : ty j <;> first | rfl | (rw [he] at t1 t2 t3 t4 t5; first | exact absurd rfl t1 | exact absurd rfl t2 | exact absurd rfl t3 | exact absurd rfl t4 | exact absurd rfl t5)
  · intro T' hT X
    have hsz : H1.size ≤ E.2.1 + (y.length + 1) := by
      have := X.heapSize
      rw [hT] at this
      omega
    have ha := new_at P1 D1 hsz
    subst ha
    have k1 := k E p l e s m args below meth c H1 locs ls F ⟨by rw [wl_push, ce_obj c2]; exact P1, by simp; omega⟩ (by simp; omega) S1 hl
    simp only [List.map_cons] at k1
    rw [gv_w hy] at k1
    exact k1 T' hT X
theorem V_newa {idx : Nat} {N' cc tn : Nat} {n : Int32} {atype : ArrayType} {ty : FieldType} (hty : newarray.typeOf atype = ty) (h : At Z.1.2.1 pc (.newarray atype) 2 q) (harr : Cond.arrayClass ty ∈ gw) (hn : ¬ n < 0) (hN : n.toNatClampNeg = N') (hb : N' * componentBytes ty ≤ 536870912) (hc : kc + 1 ≤ Z.2.1.cells ∧ ks + N' ≤ Z.2.1.slots) (hy : y.length < 1000)
    (hcc : (cc = 100 ∧ ty = .int) ∨ (cc = 101 ∧ ty = .long) ∨ (cc = 102 ∧ ty = .byte)) (h0 : ∀ j, I y.length j = 0 ∧ L y.length j = 0)
    (k : V Z q lv (.ref y.length :: st) (y ++ [(cc, N')]) I L R (kc + 1) (ks + N')) : V Z pc lv (.int n :: st) y I L R kc ks := by
  obtain ⟨h, rfl⟩ := h
  intro E p l e s m args below meth c H locs ls F D N S hl
  have hts := F.2.2.2.2.1
  have hI : I y.length = fun _ => 0 := funext fun j => (h0 j).1
  have hL : L y.length = fun _ => 0 := funext fun j => (h0 j).2
  have hK := F.2.2.2.2.2.2.2.2.1
  have key : ∀ (t0 : Nat) (x : vp_A) (hx : ∀ cA : ClassId, vp_cell cA x = arrV cA N' (fun _ => defaultValue ty)) (ht0 : (tys E)[t0]? = some (E.2.2.1 t0, ty)) (hce : ce E I L R y.length (cc, N') = .inl (E.2.2.1 t0, x)) (hnb : ∀ C, ty ≠ .object C), W p l e Z.2.1 s m args below meth c H locs kc ks (Z.2.2.1 E below args s) (F0 m pc ls (Value.int n :: st.map (gv E))) := by
    intro t0 x hx ht0 hce hnb
    refine va_newa (D := E.1) (cl := classes) (tys := tys E) (A := eA E) (a0 := x) F.1 F.2.1 (atype := atype) (by rw [hty]; exact hts _ harr) hty hK D.1 (wl_D E y I L R) S (fun q hq => Nat.le_trans F.2.2.2.2.2.2.2.2.2.2.2.2.2.2 hq) hx hn hN hb hc.1 hc.2 h fun a cA H1 K1 P1 D1 S1 => ?_
    intro T' hT X
    have hsz : H1.size ≤ E.2.1 + (y.length + 1) := by
      have := X.heapSize
      rw [hT] at this
      omega
    have ha := new_at P1 D1 hsz
    subst ha
    have e1 := (K1.2 4 (cA, ty) rfl).2
    have e2 := (hK.2 t0 _ ht0).2
    have hcA : cA = E.2.2.1 t0 := by
      unfold va_RA at e1 e2
      cases ty <;> first | exact Option.some.inj (e1.symm.trans e2) | exact absurd rfl (hnb _)
    subst hcA
    have k1 := k E p l e s m args below meth c H1 locs ls F ⟨by rw [wl_push, hce]; exact P1, by simp; omega⟩ (by simp; omega) S1 hl
    simp only [List.map_cons] at k1
    rw [gv_w hy] at k1
    exact k1 T' hT X
  simp only [List.map_cons]
  rcases hcc with ⟨rfl, rfl⟩ | ⟨rfl, rfl⟩ | ⟨rfl, rfl⟩
  · exact key 0 (N', .inl (fun _ => 0)) (fun _ => rfl) rfl (by simp [ce, hI]) (fun _ h => by cases h)
  · exact key 1 (N', .inr (.inl (fun _ => 0))) (fun _ => rfl) rfl (by simp [ce, hL]) (fun _ h => by cases h)
  · exact key 2 (N', .inl (fun _ => 0)) (fun _ => rfl) rfl (by simp [ce, hI]) (fun _ h => by cases h)
theorem V_anew {idx : Nat} {N' : Nat} {n : Int32} (h : At Z.1.2.1 pc (.anewarray idx) 3 q) (hcl : Cond.classLink Z.1.1.cls idx RX3 ∈ gw) (hn : ¬ n < 0) (hN : n.toNatClampNeg = N') (hb : N' * 4 ≤ 536870912) (hc : kc + 1 ≤ Z.2.1.cells ∧ ks + N' ≤ Z.2.1.slots) (hy : y.length < 1000) (h0 : ∀ j, R y.length j = none)
    (k : V Z q lv (.ref y.length :: st) (y ++ [(103, N')]) I L R (kc + 1) (ks + N')) : V Z pc lv (.int n :: st) y I L R kc ks := by
  obtain ⟨h, rfl⟩ := h
  intro E p l e s m args below meth c H locs ls F D N S hl
  have hts := F.2.2.2.2.1
  have hK := F.2.2.2.2.2.2.2.2.1
  simp only [List.map_cons]
  refine va_newq (D := E.1) (cl := classes) (tys := tys E) (A := eA E) (C := RX3) F.1 F.2.1 F.2.2.2.1 (hts _ hcl) F.2.2.2.2.2.2.2.2.2.2.2.2.2.1.1 hK D.1 (wl_D E y I L R) S (fun q hq => Nat.le_trans F.2.2.2.2.2.2.2.2.2.2.2.2.2.2 hq) hn hN hb hc.1 hc.2 h fun a cA H1 K1 P1 D1 S1 => ?_
  intro T' hT X
  have hsz : H1.size ≤ E.2.1 + (y.length + 1) := by
    have := X.heapSize
    rw [hT] at this
    omega
  have ha := new_at P1 D1 hsz
  subst ha
  have hcA : cA = E.2.2.1 3 := by
    obtain ⟨_, _, _, _, _, e1⟩ := (K1.2 4 (cA, .object RX3) rfl).2
    obtain ⟨_, _, _, _, _, e2⟩ := (hK.2 3 _ rfl).2
    exact Option.some.inj (e1.symm.trans e2)
  subst hcA
  have hce : ce E I L R y.length (103, N') = .inl (E.2.2.1 3, N', .inr (.inr (.inr (.inr (fun _ => none))))) := by
    simp [ce, h0]
  have k1 := k E p l e s m args below meth c H1 locs ls F ⟨by rw [wl_push, hce]; exact P1, by simp; omega⟩ (by simp; omega) S1 hl
  simp only [List.map_cons] at k1
  rw [gv_w hy] at k1
  exact k1 T' hT X
theorem V_aast {k n v nf : Nat} {i : Int32} (h : At Z.1.2.1 pc .aastore 1 q) (hk : y[k]? = some (103, n)) (hv : y[v]? = some (3, nf)) (hin : vp_in i n) (kk : V Z q lv st y I L (u2 R k i.toNatClampNeg (some v)) kc ks) : V Z pc lv (.ref v :: .int i :: .ref k :: st) y I L R kc ks := by
  obtain ⟨h, rfl⟩ := h
  intro E p l e s m args below meth c H locs ls F D N S hl
  have e2 := wl_at (E := E) (I := I) (L := L) (R := R) hv
  rw [ce_obj (by omega)] at e2
  simp only [List.map_cons]
  rw [gv_w (y_lt D hk), gv_w (y_lt D hv)]
  refine va_astq (cl := classes) (tys := tys E) (A := eA E) F.1 F.2.1 F.2.2.2.2.2.2.2.2.1 D.1 (wl_D E y I L R) S k 3 v 3 (r := (RX3, TX3, 3)) (wl_at hk) rfl e2 rfl hin h fun H1 locs1 P1 D1 S1 => ?_
  refine kk E p l e s m args below meth c H1 locs1 ls F ⟨?_, D.2⟩ N S1 hl
  rw [wl_set (I := I) (L := L) (R := R) hk (fun a ha => ⟨rfl, rfl, u2_ne ha⟩) (e := .inl (E.2.2.1 3, n, .inr (.inr (.inr (.inr (va_up (fun i => (R k i).map (ga E)) i.toNatClampNeg (some (E.2.1 + v)))))))) ?_]
  · exact P1
  · simp only [ce, u2_self]
    simp only [Nat.reduceLT, Nat.reduceEqDiff, if_false]
    congr 7
    funext b
    unfold va_up
    have : ga E v = E.2.1 + v := by simp [ga, y_lt D hv]
    split <;> simp [this]
theorem V_putR {k ci n j idx a : Nat} {C : String} {T : u_T} {ty : Nat → FieldType} (cf : CF ci C T n ty) (hj : j < n) (h : At Z.1.2.1 pc (.putfield idx) 3 q) (hf : Cond.fieldLink Z.1.1.cls idx C (T j).2.1 (T j).2.2.1 ∈ gw) (h2 : kd (ty j) = 2) (hfin : (T j).2.2.2 = true) (hinit : Z.1.1.name = "<init>") (hown : Z.1.1.cls = C) (hk : y[k]? = some (ci, n)) (ha : a < 1000)
    (kk : V Z q lv st y I L (u2 R k j (some a)) kc ks) : V Z pc lv (.ref a :: .ref k :: st) y I L R kc ks := by
  obtain ⟨h, rfl⟩ := h
  obtain ⟨c1, c2, c3, c4, c5, c6, c7⟩ := cf
  intro E p l e s m args below meth c H locs ls F D N S hl
  have hts := F.2.2.2.2.1
  have e1 := wl_at (E := E) (I := I) (L := L) (R := R) hk
  rw [ce_obj c2] at e1
  simp only [List.map_cons]
  rw [gv_w (y_lt D hk), gv_w ha]
  have hnf : narrow (ty j) (.ref (E.2.1 + a)) = .ref (E.2.1 + a) ∧ fits (ty j) (.ref (E.2.1 + a)) = true := by
    cases he : ty j <;> first | exact ⟨rfl, rfl⟩ | (rw [he] at h2; simp [kd] at h2)
  refine va_putF (D := E.1) (cl := classes) (tys := tys E) (A := eA E) (H0 := s.heap) (ci := ci) (C := C) (T := T) (N := n) (ref := C) F.1 F.2.1 hts c3 ty c4 c5 F.2.2.2.1 F.2.2.2.2.2.2.2.2.1 D.1 (wl_D E y I L R) S k e1 c1 j hj (hts _ hf) (by rw [c7 j hj]; exact fun _ h => h) hfin (F.2.2.2.2.2.2.2.1.1 hinit) ((c7 j hj).trans hown.symm) (c4 j hj) hnf.1 hnf.2 (by simpa using hj) h fun H1 locs1 P1 D1 S1 => ?_
  refine kk E p l e s m args below meth c H1 locs1 ls F ⟨?_, D.2⟩ N S1 hl
  rw [wl_set (I := I) (L := L) (R := R) hk (fun a ha => ⟨rfl, rfl, u2_ne ha⟩) (e := .inr (ci, ((List.range n).map (fun j => gv E (fv I L R k ci j))).set j (.ref (E.2.1 + a)))) ?_]
  · exact P1
  · rw [ce_obj c2]
    congr 2
    refine fs_set ?_ (fun i hi' => by rw [fv_R hi'])
    unfold fv
    rw [c6, h2]
    simp only [u2]
    exact gv_w ha
theorem V_obj {k idx ci n : Nat} (h : At Z.1.2.1 pc (.invokespecial idx) 3 q) (hli : Cond.methodLink Z.1.1.cls idx Lib.objectInit ∈ lw_tbl) (hk : y[k]? = some (ci, n)) (hd : 1 ≤ Z.2.1.frames ∧ (st.map fun v => v.category).sum + 12 ≤ Z.2.1.locals) (kk : V Z q lv st y I L R kc ks) : V Z pc lv (.ref k :: st) y I L R kc ks := by
  obtain ⟨h, rfl⟩ := h
  intro E p l e s m args below meth c H locs ls F D N S hl
  have hts := F.2.2.2.2.1
  simp only [List.map_cons]
  rw [gv_w (y_lt D hk)]
  refine W.objInit F.1 F.2.1 F.2.2.2.1 (hts _ (gw_in hli rfl)) (hts _ (gw_in oc_inst rfl)) (hts _ (gw_in oc_code rfl)) rfl (hl.1.trans F.2.2.1.symm) rfl h hd.1 ?_ (kk E p l e s m args below meth c H locs ls F D N S hl)
  rw [gv_map_cat]
  show 2 * 0 + _ + 12 ≤ _
  omega
theorem V_callI {X : Mx} {As : List Value} {k ci nf n idx d mc ms : Nat} {t : Tg} (hC : Ct X d (.ref k :: As) y I L R mc ms t) (hm : MOi X n) (hret : X.2.2.2 = none) (h : At Z.1.2.1 pc (.invokespecial idx) 3 q) (hli : Cond.methodLink Z.1.1.cls idx X.1 ∈ lw_tbl ∨ ∃ host, (Z.1.1.cls, idx, X.1, host) ∈ nests) (hn : As.length = n) (hk : y[k]? = some (ci, nf)) (hd : d + 1 ≤ Z.2.1.frames ∧ 8 + (X.2.2.1 + 11) + 60 * d ≤ Z.2.1.locals) (hmc : kc + mc ≤ Z.2.1.cells ∧ ks + ms ≤ Z.2.1.slots) (hw : (st.map fun v => v.category).sum ≤ 8) (hz : t.2.1.length = y.length + mc)
    (kk : V Z q lv (t.1.toList ++ st) t.2.1 t.2.2.1 t.2.2.2.1 t.2.2.2.2 (kc + mc) (ks + ms)) : V Z pc lv (As.reverse ++ .ref k :: st) y I L R kc ks := by
  obtain ⟨h, rfl⟩ := h
  intro E p l e s m args below meth c H locs ls F D N S hl T hT XX
  have hsz : H.size = E.2.1 + y.length := DY_size D S F.2.2.2.2.2.2.2.2.2.2.2.2.2.2 N (by rw [← hT]; exact XX.heapSize)
  have hts := F.2.2.2.2.1
  have hini := hts _ (gw_in hm.1.2.1 rfl)
  have hin := hts _ (gw_in hm.2.1 rfl)
  have hrun : va_Run p l e Z.2.1 s m args below meth c H locs kc ks mc ms (F0 m pc ls ((As.reverse ++ .ref k :: st).map (gv E))) (st.map (gv E)) (Qm E t ((Value.ref k :: As).map (gv E)).toArray) (eA E) := by
    rw [List.map_cons, gv_w (y_lt D hk)]
    obtain ⟨y1, c1, m1, r1⟩ := X
    simp only at hret
    subst hret
    rcases hli with hli | ⟨host, hli⟩
    · exact va_runI (H := H) (locs := locs) (cells := kc) (slots := ks) (As := As.map (gv E)) (rest := st.map (gv E)) (b := E.2.1 + k) (g := F0 m pc ls ((As.reverse ++ .ref k :: st).map (gv E))) ⟨F.1, F.2.1, F.2.2.1, F.2.2.2.1, hts⟩ (hC E l) (cwI (own := Z.1.1.cls) (index := idx) n hts (gi_mw _ hm.1.1) rfl rfl rfl hini (hts _ (gw_in hli rfl)) hin hm.2.2 hm.1.2.2.1 hd)
        (below := below) (meth := meth) (e := e) ⟨FB_Pc, fun U hU hW => ⟨by rw [List.map_cons, gv_w (y_lt D hk)], ST_moved F.2.2.2.2.2.2.2.2 S hU hW, by rw [hU]; exact D, by rw [hU]; exact hsz⟩⟩ rfl (by rw [List.length_map]; exact hn) hl.1 (by simp only [List.map_append, List.map_cons, List.map_reverse, gv_w (y_lt D hk)]) (lv_room (by rw [gv_map_cat]; exact hw)) h hmc
    · have hq := F.2.2.2.2.2.2.2.2.2.2.2.2.2.1.2 _ hli
      exact va_runIN (H := H) (locs := locs) (cells := kc) (slots := ks) (As := As.map (gv E)) (rest := st.map (gv E)) (b := E.2.1 + k) (g := F0 m pc ls ((As.reverse ++ .ref k :: st).map (gv E))) ⟨F.1, F.2.1, F.2.2.1, F.2.2.2.1, hts⟩ (hC E l) ⟨va_cnB (own := Z.1.1.cls) (index := idx) (host := host) n hts (gi_mw _ hm.1.1) rfl rfl rfl hq hini hm.1.2.2.1 hd, hm.2.2, hin⟩
        (below := below) (meth := meth) (e := e) ⟨FB_Pc, fun U hU hW => ⟨by rw [List.map_cons, gv_w (y_lt D hk)], ST_moved F.2.2.2.2.2.2.2.2 S hU hW, by rw [hU]; exact D, by rw [hU]; exact hsz⟩⟩ rfl (by rw [List.length_map]; exact hn) hl.1 (by simp only [List.map_append, List.map_cons, List.map_reverse, gv_w (y_lt D hk)]) (lv_room (by rw [gv_map_cat]; exact hw)) h hmc
  exact V_back (av := .ref k :: As) E F D N S hl hrun hz kk T hT XX
end Make
