section More
variable {Z : Cx} {pc q : Nat} {lv : List (Nat × Value)} {st : List Value} {y : Ly} {I : WI} {L : WL} {R : WR} {kc ks : Nat}
theorem gv_hi {E : Ev} {a : Nat} (h1 : 2000 ≤ a) (h2 : a < 3000) : gv E (.ref a) = .ref (E.2.2.2.2.1 (a - 2000)) := by
  have h3 : a ≠ 3000 := by omega
  have h4 : ¬ a < 1000 := by omega
  have h5 : ¬ a < 2000 := by omega
  simp [gv, gr, ga, h3, h4, h5, va_rf]
theorem gv_str {E : Ev} {i : Nat} (h : i < 1000) : gv E (.ref (1000 + i)) = .ref (E.2.2.2.1 i) := by
  have h3 : 1000 + i ≠ 3000 := by omega
  have h4 : ¬ 1000 + i < 1000 := by omega
  have h5 : 1000 + i < 2000 := by omega
  simp [gv, gr, ga, h3, h5, va_rf]
  intro z
  omega
-- the script
theorem V_xlen {n : Nat} {xs : Nat → Int32} (h : At Z.1.2.1 pc .arraylength 1 q) (hz : Z.2.2.2 = some (n, xs)) (k : V Z q lv (.int (Int32.ofNat n) :: st) y I L R kc ks) : V Z pc lv (.ref 2999 :: st) y I L R kc ks := by
  obtain ⟨h, rfl⟩ := h
  intro E p l e s m args below meth c H locs ls F D N S hl
  obtain ⟨h1, h2, h3⟩ := F.2.2.2.2.2.2.2.1.2 _ hz
  simp only [List.map_cons]
  rw [gv_hi (a := 2999) (by omega) (by omega)]
  exact va_slen (A := eA E) F.1 F.2.1 h1 h2 (Nat.not_le.mpr h3) S h (k E p l e s m args below meth c H locs ls F D N S hl)
theorem V_xald {n : Nat} {xs : Nat → Int32} {i : Int32} (h : At Z.1.2.1 pc .iaload 1 q) (hz : Z.2.2.2 = some (n, xs)) (hin : vp_in i n) (k : V Z q lv (.int (xs i.toNatClampNeg) :: st) y I L R kc ks) : V Z pc lv (.int i :: .ref 2999 :: st) y I L R kc ks := by
  obtain ⟨h, rfl⟩ := h
  intro E p l e s m args below meth c H locs ls F D N S hl
  obtain ⟨h1, h2, h3⟩ := F.2.2.2.2.2.2.2.1.2 _ hz
  simp only [List.map_cons]
  rw [gv_hi (a := 2999) (by omega) (by omega)]
  exact va_sld (A := eA E) F.1 F.2.1 h1 h2 (Nat.not_le.mpr h3) S hin h (k E p l e s m args below meth c H locs ls F D N S hl)
-- Math
theorem V_max {x y1 : Int32} {idx : Nat} (h : At Z.1.2.1 pc (.invokestatic idx) 3 q) (hli : Cond.methodLink Z.1.1.cls idx Lib.Math.max.name ∈ gw) (hst : Cond.static Lib.Math.max.name ∈ gw) (hco : Cond.code Lib.Math.max.name Lib.Math.max.code 2 (some .int) ∈ gw) (hini : Cond.initialized "java/lang/Math" ∈ gw) (hd : 1 ≤ Z.2.1.frames ∧ (st.map fun v => v.category).sum + 13 ≤ Z.2.1.locals) (hc : kc ≤ Z.2.1.cells ∧ ks ≤ Z.2.1.slots) (k : V Z q lv (.int (if x < y1 then y1 else x) :: st) y I L R kc ks) : V Z pc lv (.int y1 :: .int x :: st) y I L R kc ks := by
  obtain ⟨h, rfl⟩ := h
  intro E p l e s m args below meth c H locs ls F D N S hl
  have hts := F.2.2.2.2.1
  exact va_mmax F.1 F.2.1 (F.2.2.1.trans hl.1.symm) F.2.2.2.1 (hts _ hli) (hts _ hst) (hts _ hini) (hts _ hco) hd.1 (by rw [gv_map_cat]; exact hd.2) hc.1 hc.2 h (k E p l e s m args below meth c H locs ls F D N S hl)
theorem V_min {x y1 : Int32} {idx : Nat} (h : At Z.1.2.1 pc (.invokestatic idx) 3 q) (hli : Cond.methodLink Z.1.1.cls idx Lib.Math.min.name ∈ gw) (hst : Cond.static Lib.Math.min.name ∈ gw) (hco : Cond.code Lib.Math.min.name Lib.Math.min.code 2 (some .int) ∈ gw) (hini : Cond.initialized "java/lang/Math" ∈ gw) (hd : 1 ≤ Z.2.1.frames ∧ (st.map fun v => v.category).sum + 13 ≤ Z.2.1.locals) (hc : kc ≤ Z.2.1.cells ∧ ks ≤ Z.2.1.slots) (k : V Z q lv (.int (if y1 < x then y1 else x) :: st) y I L R kc ks) : V Z pc lv (.int y1 :: .int x :: st) y I L R kc ks := by
  obtain ⟨h, rfl⟩ := h
  intro E p l e s m args below meth c H locs ls F D N S hl
  have hts := F.2.2.2.2.1
  exact va_mmin F.1 F.2.1 (F.2.2.1.trans hl.1.symm) F.2.2.2.1 (hts _ hli) (hts _ hst) (hts _ hini) (hts _ hco) hd.1 (by rw [gv_map_cat]; exact hd.2) hc.1 hc.2 h (k E p l e s m args below meth c H locs ls F D N S hl)
-- constants
theorem V_ldcS {i idx : Nat} {tx : String} (h : At Z.1.2.1 pc (.ldc idx) 2 q) (ho : Z.1.1.cls = RX6) (hi : strs[i]? = some (idx, tx)) (k : V Z q lv (.ref (1000 + i) :: st) y I L R kc ks) : V Z pc lv st y I L R kc ks := by
  obtain ⟨h, rfl⟩ := h
  intro E p l e s m args below meth c H locs ls F D N S hl
  have k1 := k E p l e s m args below meth c H locs ls F D N S hl
  simp only [List.map_cons] at k1
  have hl6 : i < 6 := (List.getElem?_eq_some_iff.mp hi).1
  rw [gv_str (by omega)] at k1
  exact va_ldcS F.1 F.2.1 (by have := F.2.2.2.1; rw [ho] at this; exact this) (F.2.2.2.2.2.2.2.2.2.2.1 i _ hi) h k1
theorem V_sgetV {i idx : Nat} (h : At Z.1.2.1 pc (.getfield idx) 3 q) (hi : i < 6) (hf : Cond.fieldLink Z.1.1.cls idx "java/lang/String" "value" "[B" ∈ gw) (k : V Z q lv (.ref (2000 + i) :: st) y I L R kc ks) : V Z pc lv (.ref (1000 + i) :: st) y I L R kc ks := by
  obtain ⟨h, rfl⟩ := h
  intro E p l e s m args below meth c H locs ls F D N S hl
  have k1 := k E p l e s m args below meth c H locs ls F D N S hl
  simp only [List.map_cons] at k1 ⊢
  rw [gv_hi (by omega) (by omega), show 2000 + i - 2000 = i by omega] at k1
  rw [gv_str (by omega)]
  exact vk_getf (A := eA E) (ref := "java/lang/String") F.1 F.2.1 (F.2.2.2.2.2.2.2.2.2.1.1 i hi).2.2.1 S F.2.2.2.1 (F.2.2.2.2.1 _ hf) (fun _ h => h) h k1
theorem V_sgetC {i idx : Nat} (h : At Z.1.2.1 pc (.getfield idx) 3 q) (hi : i < 6) (hf : Cond.fieldLink Z.1.1.cls idx "java/lang/String" "coder" "B" ∈ gw) (k : V Z q lv (.int 0 :: st) y I L R kc ks) : V Z pc lv (.ref (1000 + i) :: st) y I L R kc ks := by
  obtain ⟨h, rfl⟩ := h
  intro E p l e s m args below meth c H locs ls F D N S hl
  have k1 := k E p l e s m args below meth c H locs ls F D N S hl
  simp only [List.map_cons] at k1 ⊢
  rw [gv_str (by omega)]
  exact vk_getf (A := eA E) (ref := "java/lang/String") F.1 F.2.1 (F.2.2.2.2.2.2.2.2.2.1.1 i hi).2.1 S F.2.2.2.1 (F.2.2.2.2.1 _ hf) (fun _ h => h) h k1
theorem va_T.keptS {ty : FieldType} {t N : Nat} {f : Nat → Value} {A : Nat → Prop} {s : State} {H : Heap} {locs : List Loc} (h : va_T ty t N f A s s.heap) (S : va_S A s.heap H locs) : ∃ cell : Cell, H[t]? = some cell ∧ s.isArrayOf cell ty ∧ cell.vm ≠ .unknown ∧ N ≤ cell.slots.size ∧ cell.slots.size.toInt32 = Int32.ofNat N ∧ ∀ j : Nat, j < N → cell.slots[j]? = some (f j) := by
  obtain ⟨cell, h1, h2, h3, h4, h5, h6, h7⟩ := h
  exact ⟨cell, by rw [S.2.1 t (Array.getElem?_eq_some_iff.mp h1).1 h7]; exact h1, h2, h3, h4, h5, h6⟩
theorem V_salen {i : Nat} {v : Int32} (h : At Z.1.2.1 pc .arraylength 1 q) (hi : i < 6) (hv : Int32.ofNat (s_len.getD i 0) = v) (k : V Z q lv (.int v :: st) y I L R kc ks) : V Z pc lv (.ref (2000 + i) :: st) y I L R kc ks := by
  obtain ⟨h, rfl⟩ := h
  intro E p l e s m args below meth c H locs ls F D N S hl
  have k1 := k E p l e s m args below meth c H locs ls F D N S hl
  simp only [List.map_cons] at k1 ⊢
  rw [gv_hi (by omega) (by omega), show 2000 + i - 2000 = i by omega]
  obtain ⟨cell, h1, h2, h3, h4, h5, h6⟩ := (F.2.2.2.2.2.2.2.2.2.1.1 i hi).2.2.2.keptS S
  exact W.alen (n := v) F.1 F.2.1 h1 h2 (by rw [h5, hv]) rfl rfl h k1
theorem V_sbald {i : Nat} {j : Int32} {v : Int32} (h : At Z.1.2.1 pc .baload 1 q) (hi : i < 6) (hin : vp_in j (s_len.getD i 0)) (hv : (s_byt.getD i []).getD j.toNatClampNeg 0 = v) (k : V Z q lv (.int v :: st) y I L R kc ks) : V Z pc lv (.int j :: .ref (2000 + i) :: st) y I L R kc ks := by
  obtain ⟨h, rfl⟩ := h
  intro E p l e s m args below meth c H locs ls F D N S hl
  have k1 := k E p l e s m args below meth c H locs ls F D N S hl
  simp only [List.map_cons] at k1 ⊢
  rw [gv_hi (by omega) (by omega), show 2000 + i - 2000 = i by omega]
  obtain ⟨cell, h1, h2, h3, h4, h5, h6⟩ := (F.2.2.2.2.2.2.2.2.2.1.1 i hi).2.2.2.keptS S
  have hlt : j.toNatClampNeg < s_len.getD i 0 := Nat.not_le.mp fun z => hin (Or.inr z)
  refine W.bald (v := .int v) F.1 F.2.1 h1 h2 h3 (fun z => hin (z.imp_right (fun z => Nat.le_trans h4 z))) ?_ rfl rfl h k1
  rw [h6 _ hlt, hv]
theorem V_getstC {idx : Nat} (h : At Z.1.2.1 pc (.getstatic idx) 3 q) (hf : Cond.fieldLink Z.1.1.cls idx "java/lang/String" "COMPACT_STRINGS" "Z" ∈ gw) (k : V Z q lv (.int 1 :: st) y I L R kc ks) : V Z pc lv st y I L R kc ks := by
  obtain ⟨h, rfl⟩ := h
  intro E p l e s m args below meth c H locs ls F D N S hl
  exact va_gets (A := eA E) (ref := "java/lang/String") F.1 F.2.1 F.2.2.2.2.2.2.2.2.2.2.2.1 S F.2.2.2.1 (F.2.2.2.2.1 _ hf) (fun _ h => h) h (k E p l e s m args below meth c H locs ls F D N S hl)
theorem V_getstF {idx : Nat} (h : At Z.1.2.1 pc (.getstatic idx) 3 q) (hf : Cond.fieldLink Z.1.1.cls idx "jdk/internal/util/Preconditions" "SIOOBE_FORMATTER" "Ljava/util/function/BiFunction;" ∈ gw) (k : V Z q lv (.ref 3000 :: st) y I L R kc ks) : V Z pc lv st y I L R kc ks := by
  obtain ⟨h, rfl⟩ := h
  intro E p l e s m args below meth c H locs ls F D N S hl
  exact va_gets (A := eA E) (ref := "jdk/internal/util/Preconditions") F.1 F.2.1 F.2.2.2.2.2.2.2.2.2.2.2.2.1 S F.2.2.2.1 (F.2.2.2.2.1 _ hf) (fun _ h => h) h (k E p l e s m args below meth c H locs ls F D N S hl)
/-- a virtual method of a constant text -/
theorem V_callT {X : Mx} {As : List Value} {i n idx d mc ms : Nat} {t : Tg} (hC : Ct X d (.ref (1000 + i) :: As) y I L R mc ms t) (hm : MOv X n) (h : At Z.1.2.1 pc (.invokevirtual idx) 3 q) (hli : Cond.methodLink Z.1.1.cls idx X.1 ∈ lw_tbl) (hn : As.length = n) (hi : i < 6) (hcl : X.1.cls = "java/lang/String") (hd : d + 1 ≤ Z.2.1.frames ∧ 8 + (X.2.2.1 + 11) + 60 * d ≤ Z.2.1.locals) (hmc : kc + mc ≤ Z.2.1.cells ∧ ks + ms ≤ Z.2.1.slots) (hw : (st.map fun v => v.category).sum ≤ 8) (hz : t.2.1.length = y.length + mc)
    (kk : V Z q lv (t.1.toList ++ st) t.2.1 t.2.2.1 t.2.2.2.1 t.2.2.2.2 (kc + mc) (ks + ms)) : V Z pc lv (As.reverse ++ .ref (1000 + i) :: st) y I L R kc ks := by
  obtain ⟨h, rfl⟩ := h
  intro E p l e s m args below meth c H locs ls F D N S hl T hT XX
  have hsz : H.size = E.2.1 + y.length := DY_size D S F.2.2.2.2.2.2.2.2.2.2.2.2.2.2 N (by rw [← hT]; exact XX.heapSize)
  have hrec := vk_recv F.2.2.2.2.2.2.2.2.2.1 hi S
  have hts := F.2.2.2.2.1
  have hG : GoodIn gw (wsV Z.1.1.cls idx X.1.cls X.1 (mw X)) := by
    intro w hw
    rcases List.mem_append.mp hw with hw | hw
    · simp only [List.mem_cons, List.not_mem_nil, or_false] at hw
      rcases hw with rfl | rfl | rfl | rfl
      · exact ⟨gw_in hli rfl, good_of_word rfl⟩
      · exact ⟨gw_in hm.2.1 rfl, good_of_word rfl⟩
      · exact ⟨gw_in hm.2.2 rfl, good_of_word rfl⟩
      · exact ⟨gw_in hm.1.2.1 rfl, good_of_word rfl⟩
    · exact gi_mw X hm.1.1 w hw
  have hrun := va_runV (H := H) (locs := locs) (cells := kc) (slots := ks) (As := As.map (gv E)) (rest := st.map (gv E)) (b := E.2.2.2.1 i) (g := F0 m pc ls ((As.reverse ++ .ref (1000 + i) :: st).map (gv E))) ⟨F.1, F.2.1, F.2.2.1, F.2.2.2.1, hts⟩ (hC E l) (cwV (own := Z.1.1.cls) (index := idx) (C := X.1.cls) n hts hG rfl rfl rfl ⟨rfl, hm.1.2.2.1⟩ hd)
    (below := below) (meth := meth) (e := e) ⟨FB_Pc, by rw [hcl]; exact hrec, fun U hU hW => ⟨by rw [List.map_cons, gv_str (by omega)], ST_moved F.2.2.2.2.2.2.2.2 S hU hW, by rw [hU]; exact D, by rw [hU]; exact hsz⟩⟩ rfl (by rw [List.length_map]; exact hn) hl.1 (by simp only [List.map_append, List.map_cons, List.map_reverse, gv_str (show i < 1000 by omega)]) (lv_room (by rw [gv_map_cat]; exact hw)) h hmc
  have hrun2 : va_Run p l e Z.2.1 s m args below meth c H locs kc ks mc ms (F0 m pc ls ((As.reverse ++ .ref (1000 + i) :: st).map (gv E))) (st.map (gv E)) (Qm E t ((Value.ref (1000 + i) :: As).map (gv E)).toArray) (eA E) := by
    rw [List.map_cons, gv_str (by omega)]
    exact hrun
  exact V_back (av := .ref (1000 + i) :: As) E F D N S hl hrun2 hz kk T hT XX
end More
