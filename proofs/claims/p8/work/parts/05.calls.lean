theorem ST_moved {E : Ev} {s U : State} {H : Heap} {locs : List Loc} (h : ST E s) (S : va_S (eA E) s.heap H locs) (hU : U.heap = H) (hW : s.WarmedH U.vm) : ST E U := by
  obtain ⟨h1, h2, h3, h4, h5, h6, h7⟩ := h
  subst hU
  refine ⟨va_K.moved hW.alike h1, (h2.kept S.2.1).moved hW.alike, fun i q hi => (h3 i q hi).warm hW, (h4.kept S.2.1).moved hW.alike, (h5.kept S.2.1).moved hW.alike, ⟨h6.1.moved hW.alike, fun w hw => va_Nw.warmM hW (h6.2 w hw)⟩, Nat.le_trans h7 S.1⟩
theorem ST_calling {E : Ev} {U : State} (g : JFrame) (mk : MethodId) (a : Array Value) (h : ST E U) : ST E (U.calling g mk a) := by
  obtain ⟨h1, h2, h3, h4, h5, h6, h7⟩ := h
  have hv : U.vm.Alike (U.calling g mk a).vm := Vm.Alike.refl U.vm
  exact ⟨va_K.moved hv h1, h2.moved hv, fun i q hi => (h3 i q hi).same rfl, h4.moved hv, h5.moved hv, ⟨h6.1.moved hv, fun w hw => va_Nw.same rfl rfl (h6.2 w hw)⟩, h7⟩
/-- the world's size, by what the machine's room says -/
theorem DY_size {E : Ev} {y : Ly} {I : WI} {L : WL} {R : WR} {H H0 : Heap} {locs : List Loc} {kc : Nat} (D : DY E y I L R H) (S : va_S (eA E) H0 H locs) (hb : E.2.1 ≤ H0.size) (N : H0.size + kc = E.2.1 + y.length) (h : H.size ≤ H0.size + kc) : H.size = E.2.1 + y.length := by
  rcases Nat.eq_zero_or_pos y.length with h0 | h0
  · have := S.1
    omega
  · obtain ⟨c, hc⟩ : ∃ c, y[y.length - 1]? = some c := ⟨_, List.getElem?_eq_getElem (by omega)⟩
    have := (D.1 _ _ (wl_at hc)).lt
    simp only at this
    omega
theorem mw_good (X : Mx) (h : Cond.code X.1 X.2.1 X.2.2.1 X.2.2.2 ∈ lw_tbl) : ∀ w ∈ mw X, w ∈ lw_tbl ∧ goodWord w = true := by
  intro w hw
  rcases List.mem_cons.mp hw with rfl | hw
  · exact ⟨h, rfl⟩
  · exact ⟨gw_lw hw, gw_good hw⟩
theorem gi_mw (X : Mx) (h : Cond.code X.1 X.2.1 X.2.2.1 X.2.2.2 ∈ lw_tbl) : GoodIn gw (mw X) := by
  intro w hw
  obtain ⟨h1, h2⟩ := mw_good X h w hw
  exact ⟨gw_in h1 h2, good_of_word h2⟩
theorem gv_map_cat (E : Ev) (st : List Value) : ((st.map (gv E)).map fun v => v.category).sum = (st.map fun v => v.category).sum := by
  induction st with
  | nil => rfl
  | cons v st ih => simp only [List.map_cons, List.sum_cons, gv_cat, ih]
theorem Ct_of_V {X : Mx} {n : Nat} {d mc ms : Nat} {av : List Value} {y : Ly} {I : WI} {L : WL} {R : WR} {t : Tg} (hm : MOb X n) (hl : (lg_sl av).length ≤ X.2.2.1) (v : V (zM X d mc ms t) 0 (lv_args 0 av) [] y I L R 0 0) : Ct X d av y I L R mc ms t := by
  intro E l
  refine Met.ofW (cc := X.2.1) (maxL := X.2.2.1) (ret := X.2.2.2) hm.2.2.2 rfl ?_
  intro p e s m args below meth c s₁ B hml hv
  obtain ⟨rfl, hst, hD, hsz⟩ := hv
  have hts := atoms_spec (ws := mw X) B.pre
  have hF : FX E (zM X d mc ms t) p s m (av.map (gv E)).toArray meth c := ⟨B.exec, B.bytes, hml, findClass_of_methodNamed B.named, fun w hw => hts w (List.mem_cons_of_mem _ hw), B.returns, B.notSynchronized, ⟨fun h => by rw [(name_of_methodNamed B.named B.method).1]; exact h, fun _ h => by cases h⟩, hst⟩
  rw [lg_entry_eq]
  have hlen : (lg_sl (av.map (gv E))).length ≤ X.2.2.1 := by
    have : (lg_sl (av.map (gv E))).length = (lg_sl av).length := by
      clear v hl hts hF hsz hD hst B
      induction av with
      | nil => rfl
      | cons a av ih =>
        simp only [lg_sl, List.map_cons, List.flatMap_cons, List.length_append, gv_cat] at ih ⊢
        rw [ih]
        split <;> rfl
    rw [this]
    exact hl
  have h1 := lv_entry (av.map (gv E)) hlen
  rw [gl_args] at h1
  exact v E p l e s m _ below meth c s.heap [] _ hF hD (by omega) va_S.rf h1
section Calls
variable {Z : Cx} {pc q : Nat} {lv : List (Nat × Value)} {st : List Value} {y : Ly} {I : WI} {L : WL} {R : WR} {kc ks : Nat}
theorem V_back {av : List Value} {mc ms : Nat} {t : Tg} (E : Ev) {p : Program} {l : Launch} {e : Env} {s : State} {m : MethodId} {args : Array Value} {below : List Frame} {meth : Method} {c : Code} {H : Heap} {locs : List Loc} {ls : Array Slot} {st0 : List Value}
    (F : FX E Z p s m args meth c) (D : DY E y I L R H) (N : s.heap.size + kc = E.2.1 + y.length) (S : va_S (eA E) s.heap H locs) (hl : lv_has ls Z.1.2.2.1 (gl E lv))
    (hr : va_Run p l e Z.2.1 s m args below meth c H locs kc ks mc ms (F0 m pc ls st0) (st.map (gv E)) (Qm E t (av.map (gv E)).toArray) (eA E)) (hz : t.2.1.length = y.length + mc)
    (k : V Z (pc + 3) lv (t.1.toList ++ st) t.2.1 t.2.2.1 t.2.2.2.1 t.2.2.2.2 (kc + mc) (ks + ms)) : W p l e Z.2.1 s m args below meth c H locs kc ks (Z.2.2.1 E below args s) (F0 m pc ls st0) := by
  intro T hT X
  obtain ⟨v, st₀, tt, T', L1, h0, X', hL, e1, e2, ⟨hv, hd, hzs, hk⟩, stp⟩ := hr T hT X
  cases hv
  rw [h0] at hzs hk
  have S' : va_S (eA E) s.heap T'.heap (locs ++ L1) := ⟨Nat.le_trans S.1 (by rw [e1]; exact hzs), fun q h1 h2 => by rw [e1, hk q (Nat.lt_of_lt_of_le h1 S.1) h2]; exact S.2.1 q h1 h2, fun q hq => by
    rcases List.mem_append.mp hq with h | h
    · exact S.2.2 q h
    · exact hL q h⟩
  obtain ⟨t2, a1, b1⟩ := (k E p l e s m args below meth c T'.heap (locs ++ L1) ls F (by rw [e1]; exact hd) (by omega) S' hl) T' rfl X'
  refine ⟨t2, stp t2 ?_, b1⟩
  have e3 : (t.1.toList ++ st).map (gv E) = (t.1.map (gv E)).toList ++ st.map (gv E) := by
    cases t.1 <;> simp
  rw [e3] at a1
  exact a1
theorem FB_Pc {E : Ev} {av : List Value} {y : Ly} {I : WI} {L : WL} {R : WR} : FrameBlind (va_Pc (av.map (gv E)) (fun U => ST E U ∧ DY E y I L R U.heap ∧ U.heap.size = E.2.1 + y.length)) :=
  fun a U g mk h => ⟨h.1, ST_calling g mk a h.2.1, h.2.2.1, h.2.2.2⟩
/-- a virtual method of a cell k of the world -/
theorem V_callV {X : Mx} {As : List Value} {k ci nf n idx d mc ms : Nat} {t : Tg} (hC : Ct X d (.ref k :: As) y I L R mc ms t) (hm : MOv X n) (h : At Z.1.2.1 pc (.invokevirtual idx) 3 q) (hli : Cond.methodLink Z.1.1.cls idx X.1 ∈ lw_tbl) (hn : As.length = n) (hk : y[k]? = some (ci, nf)) (hci : ci < 100 ∧ ∃ r, classes[ci]? = some r ∧ r.1 = X.1.cls) (hd : d + 1 ≤ Z.2.1.frames ∧ 8 + (X.2.2.1 + 11) + 60 * d ≤ Z.2.1.locals) (hmc : kc + mc ≤ Z.2.1.cells ∧ ks + ms ≤ Z.2.1.slots) (hw : (st.map fun v => v.category).sum ≤ 8) (hz : t.2.1.length = y.length + mc)
    (kk : V Z q lv (t.1.toList ++ st) t.2.1 t.2.2.1 t.2.2.2.1 t.2.2.2.2 (kc + mc) (ks + ms)) : V Z pc lv (As.reverse ++ .ref k :: st) y I L R kc ks := by
  obtain ⟨h, rfl⟩ := h
  intro E p l e s m args below meth c H locs ls F D N S hl T hT XX
  have hsz : H.size = E.2.1 + y.length := DY_size D S F.2.2.2.2.2.2.2.2.2.2.2.2.2.2 N (by rw [← hT]; exact XX.heapSize)
  obtain ⟨r, hr1, hr2⟩ := hci.2
  have e1 := wl_at (E := E) (I := I) (L := L) (R := R) hk
  rw [ce_obj hci.1] at e1
  have hrec := va_recv F.2.2.2.2.2.2.2.2.1 D.1 hr1 e1
  have hts := F.2.2.2.2.1
  have hG : GoodIn gw (wsV Z.1.1.cls idx X.1.cls X.1 (mw X)) := by
    intro w hw
    rcases List.mem_append.mp hw with hw | hw
    · simp only [List.mem_cons, List.not_mem_nil, or_false] at hw
      rcases hw with rfl | rfl | rfl | rfl
      · exact ⟨gw_in hli rfl, good_of_word rfl⟩
      · exact ⟨gw_in hm.2.1 rfl, good_of_word rfl⟩
      · exact ⟨gw_in hm.2.2 rfl, good_of_word rfl⟩
      · exact ⟨gw_in hm.1.2.1 rfl, good_of_word rfl⟩
    · exact gi_mw X hm.1.1 w hw
  have hrun := va_runV (H := H) (locs := locs) (cells := kc) (slots := ks) (As := As.map (gv E)) (rest := st.map (gv E)) (b := E.2.1 + k) (g := F0 m pc ls ((As.reverse ++ .ref k :: st).map (gv E))) ⟨F.1, F.2.1, F.2.2.1, F.2.2.2.1, hts⟩ (hC E l) (cwV (own := Z.1.1.cls) (index := idx) (C := X.1.cls) n hts hG rfl rfl rfl ⟨rfl, hm.1.2.2.1⟩ hd)
    (below := below) (meth := meth) (e := e) ⟨FB_Pc, by rw [hr2] at hrec; exact hrec, fun U hU hW => ⟨by rw [List.map_cons, gv_w (y_lt D hk)], ST_moved F.2.2.2.2.2.2.2.2 S hU hW, by rw [hU]; exact D, by rw [hU]; exact hsz⟩⟩ rfl (by rw [List.length_map]; exact hn) hl.1 (by simp only [List.map_append, List.map_cons, List.map_reverse, gv_w (y_lt D hk)]) (lv_room (by rw [gv_map_cat]; exact hw)) h hmc
  have hrun2 : va_Run p l e Z.2.1 s m args below meth c H locs kc ks mc ms (F0 m pc ls ((As.reverse ++ .ref k :: st).map (gv E))) (st.map (gv E)) (Qm E t ((Value.ref k :: As).map (gv E)).toArray) (eA E) := by
    rw [List.map_cons, gv_w (y_lt D hk)]
    exact hrun
  exact V_back (av := .ref k :: As) E F D N S hl hrun2 hz kk T hT XX
theorem V_callS {X : Mx} {As : List Value} {n idx d mc ms : Nat} {t : Tg} (hC : Ct X d As y I L R mc ms t) (hm : MOs X n) (h : At Z.1.2.1 pc (.invokestatic idx) 3 q) (hli : Cond.methodLink Z.1.1.cls idx X.1 ∈ lw_tbl) (hn : As.length = n) (hd : d + 1 ≤ Z.2.1.frames ∧ 8 + (X.2.2.1 + 11) + 60 * d ≤ Z.2.1.locals) (hmc : kc + mc ≤ Z.2.1.cells ∧ ks + ms ≤ Z.2.1.slots) (hw : (st.map fun v => v.category).sum ≤ 8) (hz : t.2.1.length = y.length + mc)
    (kk : V Z q lv (t.1.toList ++ st) t.2.1 t.2.2.1 t.2.2.2.1 t.2.2.2.2 (kc + mc) (ks + ms)) : V Z pc lv (As.reverse ++ st) y I L R kc ks := by
  obtain ⟨h, rfl⟩ := h
  intro E p l e s m args below meth c H locs ls F D N S hl T hT XX
  have hsz : H.size = E.2.1 + y.length := DY_size D S F.2.2.2.2.2.2.2.2.2.2.2.2.2.2 N (by rw [← hT]; exact XX.heapSize)
  have hts := F.2.2.2.2.1
  have hin := hts _ (gw_in hm.1.2.1 rfl)
  have hrun := va_runS (H := H) (locs := locs) (cells := kc) (slots := ks) (As := As.map (gv E)) (rest := st.map (gv E)) (g := F0 m pc ls ((As.reverse ++ st).map (gv E))) ⟨F.1, F.2.1, F.2.2.1, F.2.2.2.1, hts⟩ (hC E l) ⟨callB_of (own := Z.1.1.cls) (index := idx) n hts (gi_mw X hm.1.1) rfl rfl rfl hin (hts _ (gw_in hli rfl)) hm.1.2.2.1 hd, hts _ (gw_in hm.2 rfl)⟩
    (below := below) (meth := meth) (e := e) ⟨FB_Pc, fun U hU hW => ⟨rfl, ST_moved F.2.2.2.2.2.2.2.2 S hU hW, by rw [hU]; exact D, by rw [hU]; exact hsz⟩⟩ rfl (by rw [List.length_map]; exact hn) hl.1 (by simp only [List.map_append, List.map_reverse]) (lv_room (by rw [gv_map_cat]; exact hw)) h hmc
  exact V_back (av := As) E F D N S hl hrun hz kk T hT XX
-- ends
variable {X : Mx} {d mc ms : Nat} {t : Tg}
theorem V_iret {v : Int32} (h : At X.2.1 pc .ireturn 1 q) (ty : FieldType) (hr : X.2.2.2 = some ty) (hn : narrow ty (.int v) = .int v) (ht : t = (some (.int v), y, I, L, R)) (hc : kc ≤ mc ∧ ks ≤ ms) : V (zM X d mc ms t) pc lv [.int v] y I L R kc ks := by
  intro E p l e s m args below meth c H locs ls F D N S hl
  refine W.widen hc.1 hc.2 ?_
  subst ht
  exact W.zret (v := v) F.1 F.2.1 (F.2.2.2.2.2.1.trans hr) hn (fun t ht hW => ⟨rfl, by rw [ht]; exact D, S.F ht⟩) S.2.2 h.1 F.2.2.2.2.2.2.1
theorem V_lret {v : Int64} (h : At X.2.1 pc .lreturn 1 q) (hr : X.2.2.2 = some .long) (ht : t = (some (.long v), y, I, L, R)) (hc : kc ≤ mc ∧ ks ≤ ms) : V (zM X d mc ms t) pc lv [.long v] y I L R kc ks := by
  intro E p l e s m args below meth c H locs ls F D N S hl
  refine W.widen hc.1 hc.2 ?_
  subst ht
  exact W.lret (v := v) F.1 F.2.1 (F.2.2.2.2.2.1.trans hr) (fun t ht hW => ⟨rfl, by rw [ht]; exact D, S.F ht⟩) S.2.2 h.1 F.2.2.2.2.2.2.1
theorem V_vret (h : At X.2.1 pc .return_ 1 q) (hr : X.2.2.2 = none) (ht : t = (none, y, I, L, R)) (hc : kc ≤ mc ∧ ks ≤ ms) : V (zM X d mc ms t) pc lv [] y I L R kc ks := by
  intro E p l e s m args below meth c H locs ls F D N S hl
  refine W.widen hc.1 hc.2 ?_
  subst ht
  exact W.vret F.1 F.2.1 (F.2.2.2.2.2.1.trans hr) (fun t ht hW => ⟨rfl, by rw [ht]; exact D, S.F ht⟩) S.2.2 h.1 F.2.2.2.2.2.2.1
theorem V_aret {a : Nat} {C : String} (h : At X.2.1 pc .areturn 1 q) (hr : X.2.2.2 = some (.object C)) (ht : t = (some (.ref a), y, I, L, R)) (hc : kc ≤ mc ∧ ks ≤ ms) : V (zM X d mc ms t) pc lv [.ref a] y I L R kc ks := by
  intro E p l e s m args below meth c H locs ls F D N S hl
  refine W.widen hc.1 hc.2 ?_
  subst ht
  exact W.aret (v := gv E (.ref a)) F.1 F.2.1 (F.2.2.2.2.2.1.trans hr) (Or.inl ⟨_, rfl⟩) (by cases h : gr E a with
    | none => exact Or.inl (by simp [gv, h, va_rf])
    | some b => exact Or.inr ⟨b, by simp [gv, h, va_rf]⟩) (fun t ht hW => ⟨rfl, by rw [ht]; exact D, S.F ht⟩) S.2.2 h.1 F.2.2.2.2.2.2.1
theorem V_aretN {C : String} (h : At X.2.1 pc .areturn 1 q) (hr : X.2.2.2 = some (.object C)) (ht : t = (some .null, y, I, L, R)) (hc : kc ≤ mc ∧ ks ≤ ms) : V (zM X d mc ms t) pc lv [.null] y I L R kc ks := by
  intro E p l e s m args below meth c H locs ls F D N S hl
  refine W.widen hc.1 hc.2 ?_
  subst ht
  exact W.aret (v := .null) F.1 F.2.1 (F.2.2.2.2.2.1.trans hr) (Or.inl ⟨_, rfl⟩) (Or.inl rfl) (fun t ht hW => ⟨rfl, by rw [ht]; exact D, S.F ht⟩) S.2.2 h.1 F.2.2.2.2.2.2.1
end Calls
