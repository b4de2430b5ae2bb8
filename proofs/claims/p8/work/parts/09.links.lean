def ly0 : Ly := [(8, 15), (0, 4), (0, 4), (0, 4), (0, 4), (0, 4), (1, 3), (100, 12), (100, 36), (5, 2), (102, 320), (6, 10), (0, 4), (0, 4), (1, 3), (100, 12), (100, 36), (4, 1), (103, 4), (3, 3), (100, 40), (3, 3), (100, 40), (3, 3), (100, 40), (3, 3), (100, 40), (7, 10), (101, 15), (101, 64), (2, 4), (2, 4), (101, 31), (9, 47), (100, 48), (101, 2), (100, 2), (100, 2), (100, 48), (100, 320), (101, 64), (100, 6561), (100, 4), (100, 4), (100, 160)]
def R0 : WR := fun k j => match k, j with
  | 0, 0 => some 1
  | 0, 1 => some 2
  | 0, 2 => some 3
  | 0, 3 => some 4
  | 0, 4 => some 5
  | 0, 5 => some 6
  | 0, 6 => some 9
  | 0, 7 => some 11
  | 0, 8 => some 17
  | 0, 9 => some 27
  | 0, 10 => some 30
  | 0, 11 => some 31
  | 0, 12 => some 32
  | 6, 1 => some 7
  | 6, 2 => some 8
  | 9, 1 => some 10
  | 11, 0 => some 12
  | 11, 1 => some 13
  | 11, 2 => some 14
  | 11, 4 => some 9
  | 14, 1 => some 15
  | 14, 2 => some 16
  | 17, 0 => some 18
  | 18, 0 => some 19
  | 18, 1 => some 21
  | 18, 2 => some 23
  | 18, 3 => some 25
  | 19, 2 => some 20
  | 21, 2 => some 22
  | 23, 2 => some 24
  | 25, 2 => some 26
  | 27, 8 => some 28
  | 27, 9 => some 29
  | 33, 6 => some 34
  | 33, 7 => some 35
  | 33, 8 => some 36
  | 33, 9 => some 37
  | 33, 19 => some 38
  | 33, 20 => some 39
  | 33, 36 => some 40
  | 33, 37 => some 41
  | 33, 43 => some 42
  | 33, 44 => some 43
  | 33, 45 => some 44
  | _, _ => none
theorem cf_X0 : CF 0 RX0 TX0 4 tyX0 := ⟨rfl, by decide, CF_ws uw_X0, tyX0_ok, nmX0, fun _ => rfl, by decide +kernel⟩
theorem cf_X1 : CF 1 RX1 TX1 3 tyX1 := ⟨rfl, by decide, CF_ws uw_X1, tyX1_ok, nmX1, fun _ => rfl, by decide +kernel⟩
theorem cf_X2 : CF 2 RX2 TX2 4 tyX2 := ⟨rfl, by decide, CF_ws uw_X2, tyX2_ok, nmX2, fun _ => rfl, by decide +kernel⟩
theorem cf_X3 : CF 3 RX3 TX3 3 tyX3 := ⟨rfl, by decide, CF_ws uw_X3, tyX3_ok, nmX3, fun _ => rfl, by decide +kernel⟩
theorem cf_X4 : CF 4 RX4 TX4 1 tyX4 := ⟨rfl, by decide, CF_ws uw_X4, tyX4_ok, nmX4, fun _ => rfl, by decide +kernel⟩
theorem cf_X5 : CF 5 RX5 TX5 2 tyX5 := ⟨rfl, by decide, CF_ws uw_X5, tyX5_ok, nmX5, fun _ => rfl, by decide +kernel⟩
theorem cf_X6 : CF 6 RX6 TX6 10 tyX6 := ⟨rfl, by decide, CF_ws uw_X6, tyX6_ok, nmX6, fun _ => rfl, by decide +kernel⟩
theorem cf_X7 : CF 7 RX7 TX7 10 tyX7 := ⟨rfl, by decide, CF_ws uw_X7, tyX7_ok, nmX7, fun _ => rfl, by decide +kernel⟩
theorem cf_X8 : CF 8 RX8 TX8 15 tyX8 := ⟨rfl, by decide, CF_ws uw_X8, tyX8_ok, nmX8, fun _ => rfl, by decide +kernel⟩
theorem cf_X9 : CF 9 RX9 TX9 47 tyX9 := ⟨rfl, by decide, CF_ws uw_X9, tyX9_ok, nmX9, fun _ => rfl, by decide +kernel⟩
def isX0 (k : Nat) : Prop := ly0[k]? = some (0, 4)
def isX2 (k : Nat) : Prop := ly0[k]? = some (2, 4)
def isX1 (k : Nat) : Prop := ly0[k]? = some (1, 3) ∧ R0 k 1 = some (k + 1) ∧ R0 k 2 = some (k + 2) ∧ ly0[k + 1]? = some (100, 12) ∧ ly0[k + 2]? = some (100, 36)
def isX3 (k : Nat) : Prop := ly0[k]? = some (3, 3) ∧ R0 k 2 = some (k + 1) ∧ ly0[k + 1]? = some (100, 40)
theorem ly_lt {k : Nat} {c : Nat × Nat} (h : ly0[k]? = some c) : k < 1000 := Nat.lt_trans (List.getElem?_eq_some_iff.mp h).1 (by decide)
theorem isX0_lt {k : Nat} (h : isX0 k) : k < 1000 := ly_lt h
theorem isX2_lt {k : Nat} (h : isX2 k) : k < 1000 := ly_lt h
theorem isX1_lt {k : Nat} (h : isX1 k) : k < 1000 := ly_lt h.1
theorem isX3_lt {k : Nat} (h : isX3 k) : k < 1000 := ly_lt h.1
theorem bz_bz (x : Int32) : bz (bz x) = bz x := by
  unfold bz
  rw [Int32.and_assoc]
  rfl
theorem nar_int (v : Int32) : narrow .int (.int v) = .int v := rfl
theorem oP_sum {A B T : Type} {P : T → Prop} {f : A → T} {g : B → Option T} {x : Option (A ⊕ B)} (h : oP P (x.bind (Sum.elim (fun r => some (f r)) g))) : oP (Sum.elim (fun r => P (f r)) (fun e => oP P (g e))) x := by
  cases x with
  | none => exact h
  | some r => cases r <;> exact h
theorem mm_max_st : Cond.static Lib.Math.max.name ∈ gw := gw_in (mt3 _ (List.mem_of_getElem? (i := 143) rfl)) rfl
theorem mm_max_co : Cond.code Lib.Math.max.name Lib.Math.max.code 2 (some .int) ∈ gw := gw_in (mt3 _ (List.mem_of_getElem? (i := 144) rfl)) rfl
theorem mm_min_st : Cond.static Lib.Math.min.name ∈ gw := gw_in (mt3 _ (List.mem_of_getElem? (i := 166) rfl)) rfl
theorem mm_min_co : Cond.code Lib.Math.min.name Lib.Math.min.code 2 (some .int) ∈ gw := gw_in (mt3 _ (List.mem_of_getElem? (i := 167) rfl)) rfl
theorem mm_ini : Cond.initialized "java/lang/Math" ∈ gw := gw_in ii_J9 rfl
theorem mm_li_X8_209 : Cond.methodLink RX8 209 Lib.Math.max.name ∈ gw := gw_in (mt3 _ (List.mem_of_getElem? (i := 142) rfl)) rfl
theorem mm_li_X7_86 : Cond.methodLink RX7 86 Lib.Math.min.name ∈ gw := gw_in (mt3 _ (List.mem_of_getElem? (i := 165) rfl)) rfl
theorem mm_li_X8_313 : Cond.methodLink RX8 313 Lib.Math.min.name ∈ gw := gw_in (mt4 _ (List.mem_of_getElem? (i := 115) rfl)) rfl
section CallN
variable {Z : Cx} {X : Mx} {pc q d idx : Nat} {lv : List (Nat × Value)} {st : List Value} {y : Ly} {I I1 : WI} {L L1 : WL} {R : WR} {kc ks : Nat} {v : Value}
theorem V_cv0 {k ci nf : Nat} (hC : Ct X d (.ref k :: []) y I L R 0 0 (some v, y, I1, L1, R)) (hm : MOv X 0) (h : At Z.1.2.1 pc (.invokevirtual idx) 3 q) (hli : Cond.methodLink Z.1.1.cls idx X.1 ∈ lw_tbl) (hk : y[k]? = some (ci, nf)) (hci : ci < 100 ∧ ∃ r, classes[ci]? = some r ∧ r.1 = X.1.cls) (hd : d + 1 ≤ Z.2.1.frames ∧ 8 + (X.2.2.1 + 11) + 60 * d ≤ Z.2.1.locals) (hmc : kc + 0 ≤ Z.2.1.cells ∧ ks + 0 ≤ Z.2.1.slots) (hw : (st.map fun v => v.category).sum ≤ 8) (kk : V Z q lv (v :: st) y I1 L1 R kc ks) : V Z pc lv (.ref k :: st) y I L R kc ks :=
  V_callV (As := []) (mc := 0) (ms := 0) hC hm h hli rfl hk hci hd hmc hw rfl kk
theorem V_cs0 (hC : Ct X d [] y I L R 0 0 (some v, y, I1, L1, R)) (hm : MOs X 0) (h : At Z.1.2.1 pc (.invokestatic idx) 3 q) (hli : Cond.methodLink Z.1.1.cls idx X.1 ∈ lw_tbl) (hd : d + 1 ≤ Z.2.1.frames ∧ 8 + (X.2.2.1 + 11) + 60 * d ≤ Z.2.1.locals) (hmc : kc + 0 ≤ Z.2.1.cells ∧ ks + 0 ≤ Z.2.1.slots) (hw : (st.map fun v => v.category).sum ≤ 8) (kk : V Z q lv (v :: st) y I1 L1 R kc ks) : V Z pc lv (st) y I L R kc ks :=
  V_callS (As := []) (mc := 0) (ms := 0) hC hm h hli rfl hd hmc hw rfl kk
theorem V_cv0v {k ci nf : Nat} (hC : Ct X d (.ref k :: []) y I L R 0 0 (none, y, I1, L1, R)) (hm : MOv X 0) (h : At Z.1.2.1 pc (.invokevirtual idx) 3 q) (hli : Cond.methodLink Z.1.1.cls idx X.1 ∈ lw_tbl) (hk : y[k]? = some (ci, nf)) (hci : ci < 100 ∧ ∃ r, classes[ci]? = some r ∧ r.1 = X.1.cls) (hd : d + 1 ≤ Z.2.1.frames ∧ 8 + (X.2.2.1 + 11) + 60 * d ≤ Z.2.1.locals) (hmc : kc + 0 ≤ Z.2.1.cells ∧ ks + 0 ≤ Z.2.1.slots) (hw : (st.map fun v => v.category).sum ≤ 8) (kk : V Z q lv st y I1 L1 R kc ks) : V Z pc lv (.ref k :: st) y I L R kc ks :=
  V_callV (As := []) (mc := 0) (ms := 0) hC hm h hli rfl hk hci hd hmc hw rfl kk
theorem V_cs0v (hC : Ct X d [] y I L R 0 0 (none, y, I1, L1, R)) (hm : MOs X 0) (h : At Z.1.2.1 pc (.invokestatic idx) 3 q) (hli : Cond.methodLink Z.1.1.cls idx X.1 ∈ lw_tbl) (hd : d + 1 ≤ Z.2.1.frames ∧ 8 + (X.2.2.1 + 11) + 60 * d ≤ Z.2.1.locals) (hmc : kc + 0 ≤ Z.2.1.cells ∧ ks + 0 ≤ Z.2.1.slots) (hw : (st.map fun v => v.category).sum ≤ 8) (kk : V Z q lv st y I1 L1 R kc ks) : V Z pc lv (st) y I L R kc ks :=
  V_callS (As := []) (mc := 0) (ms := 0) hC hm h hli rfl hd hmc hw rfl kk
theorem V_cv1 {w1 : Value} {k ci nf : Nat} (hC : Ct X d (.ref k :: [w1]) y I L R 0 0 (some v, y, I1, L1, R)) (hm : MOv X 1) (h : At Z.1.2.1 pc (.invokevirtual idx) 3 q) (hli : Cond.methodLink Z.1.1.cls idx X.1 ∈ lw_tbl) (hk : y[k]? = some (ci, nf)) (hci : ci < 100 ∧ ∃ r, classes[ci]? = some r ∧ r.1 = X.1.cls) (hd : d + 1 ≤ Z.2.1.frames ∧ 8 + (X.2.2.1 + 11) + 60 * d ≤ Z.2.1.locals) (hmc : kc + 0 ≤ Z.2.1.cells ∧ ks + 0 ≤ Z.2.1.slots) (hw : (st.map fun v => v.category).sum ≤ 8) (kk : V Z q lv (v :: st) y I1 L1 R kc ks) : V Z pc lv (w1 :: .ref k :: st) y I L R kc ks :=
  V_callV (As := [w1]) (mc := 0) (ms := 0) hC hm h hli rfl hk hci hd hmc hw rfl kk
theorem V_cs1 {w1 : Value} (hC : Ct X d [w1] y I L R 0 0 (some v, y, I1, L1, R)) (hm : MOs X 1) (h : At Z.1.2.1 pc (.invokestatic idx) 3 q) (hli : Cond.methodLink Z.1.1.cls idx X.1 ∈ lw_tbl) (hd : d + 1 ≤ Z.2.1.frames ∧ 8 + (X.2.2.1 + 11) + 60 * d ≤ Z.2.1.locals) (hmc : kc + 0 ≤ Z.2.1.cells ∧ ks + 0 ≤ Z.2.1.slots) (hw : (st.map fun v => v.category).sum ≤ 8) (kk : V Z q lv (v :: st) y I1 L1 R kc ks) : V Z pc lv (w1 :: st) y I L R kc ks :=
  V_callS (As := [w1]) (mc := 0) (ms := 0) hC hm h hli rfl hd hmc hw rfl kk
theorem V_cv1v {w1 : Value} {k ci nf : Nat} (hC : Ct X d (.ref k :: [w1]) y I L R 0 0 (none, y, I1, L1, R)) (hm : MOv X 1) (h : At Z.1.2.1 pc (.invokevirtual idx) 3 q) (hli : Cond.methodLink Z.1.1.cls idx X.1 ∈ lw_tbl) (hk : y[k]? = some (ci, nf)) (hci : ci < 100 ∧ ∃ r, classes[ci]? = some r ∧ r.1 = X.1.cls) (hd : d + 1 ≤ Z.2.1.frames ∧ 8 + (X.2.2.1 + 11) + 60 * d ≤ Z.2.1.locals) (hmc : kc + 0 ≤ Z.2.1.cells ∧ ks + 0 ≤ Z.2.1.slots) (hw : (st.map fun v => v.category).sum ≤ 8) (kk : V Z q lv st y I1 L1 R kc ks) : V Z pc lv (w1 :: .ref k :: st) y I L R kc ks :=
  V_callV (As := [w1]) (mc := 0) (ms := 0) hC hm h hli rfl hk hci hd hmc hw rfl kk
theorem V_cs1v {w1 : Value} (hC : Ct X d [w1] y I L R 0 0 (none, y, I1, L1, R)) (hm : MOs X 1) (h : At Z.1.2.1 pc (.invokestatic idx) 3 q) (hli : Cond.methodLink Z.1.1.cls idx X.1 ∈ lw_tbl) (hd : d + 1 ≤ Z.2.1.frames ∧ 8 + (X.2.2.1 + 11) + 60 * d ≤ Z.2.1.locals) (hmc : kc + 0 ≤ Z.2.1.cells ∧ ks + 0 ≤ Z.2.1.slots) (hw : (st.map fun v => v.category).sum ≤ 8) (kk : V Z q lv st y I1 L1 R kc ks) : V Z pc lv (w1 :: st) y I L R kc ks :=
  V_callS (As := [w1]) (mc := 0) (ms := 0) hC hm h hli rfl hd hmc hw rfl kk
theorem V_cv2 {w1 w2 : Value} {k ci nf : Nat} (hC : Ct X d (.ref k :: [w1, w2]) y I L R 0 0 (some v, y, I1, L1, R)) (hm : MOv X 2) (h : At Z.1.2.1 pc (.invokevirtual idx) 3 q) (hli : Cond.methodLink Z.1.1.cls idx X.1 ∈ lw_tbl) (hk : y[k]? = some (ci, nf)) (hci : ci < 100 ∧ ∃ r, classes[ci]? = some r ∧ r.1 = X.1.cls) (hd : d + 1 ≤ Z.2.1.frames ∧ 8 + (X.2.2.1 + 11) + 60 * d ≤ Z.2.1.locals) (hmc : kc + 0 ≤ Z.2.1.cells ∧ ks + 0 ≤ Z.2.1.slots) (hw : (st.map fun v => v.category).sum ≤ 8) (kk : V Z q lv (v :: st) y I1 L1 R kc ks) : V Z pc lv (w2 :: w1 :: .ref k :: st) y I L R kc ks :=
  V_callV (As := [w1, w2]) (mc := 0) (ms := 0) hC hm h hli rfl hk hci hd hmc hw rfl kk
theorem V_cs2 {w1 w2 : Value} (hC : Ct X d [w1, w2] y I L R 0 0 (some v, y, I1, L1, R)) (hm : MOs X 2) (h : At Z.1.2.1 pc (.invokestatic idx) 3 q) (hli : Cond.methodLink Z.1.1.cls idx X.1 ∈ lw_tbl) (hd : d + 1 ≤ Z.2.1.frames ∧ 8 + (X.2.2.1 + 11) + 60 * d ≤ Z.2.1.locals) (hmc : kc + 0 ≤ Z.2.1.cells ∧ ks + 0 ≤ Z.2.1.slots) (hw : (st.map fun v => v.category).sum ≤ 8) (kk : V Z q lv (v :: st) y I1 L1 R kc ks) : V Z pc lv (w2 :: w1 :: st) y I L R kc ks :=
  V_callS (As := [w1, w2]) (mc := 0) (ms := 0) hC hm h hli rfl hd hmc hw rfl kk
theorem V_cv2v {w1 w2 : Value} {k ci nf : Nat} (hC : Ct X d (.ref k :: [w1, w2]) y I L R 0 0 (none, y, I1, L1, R)) (hm : MOv X 2) (h : At Z.1.2.1 pc (.invokevirtual idx) 3 q) (hli : Cond.methodLink Z.1.1.cls idx X.1 ∈ lw_tbl) (hk : y[k]? = some (ci, nf)) (hci : ci < 100 ∧ ∃ r, classes[ci]? = some r ∧ r.1 = X.1.cls) (hd : d + 1 ≤ Z.2.1.frames ∧ 8 + (X.2.2.1 + 11) + 60 * d ≤ Z.2.1.locals) (hmc : kc + 0 ≤ Z.2.1.cells ∧ ks + 0 ≤ Z.2.1.slots) (hw : (st.map fun v => v.category).sum ≤ 8) (kk : V Z q lv st y I1 L1 R kc ks) : V Z pc lv (w2 :: w1 :: .ref k :: st) y I L R kc ks :=
  V_callV (As := [w1, w2]) (mc := 0) (ms := 0) hC hm h hli rfl hk hci hd hmc hw rfl kk
theorem V_cs2v {w1 w2 : Value} (hC : Ct X d [w1, w2] y I L R 0 0 (none, y, I1, L1, R)) (hm : MOs X 2) (h : At Z.1.2.1 pc (.invokestatic idx) 3 q) (hli : Cond.methodLink Z.1.1.cls idx X.1 ∈ lw_tbl) (hd : d + 1 ≤ Z.2.1.frames ∧ 8 + (X.2.2.1 + 11) + 60 * d ≤ Z.2.1.locals) (hmc : kc + 0 ≤ Z.2.1.cells ∧ ks + 0 ≤ Z.2.1.slots) (hw : (st.map fun v => v.category).sum ≤ 8) (kk : V Z q lv st y I1 L1 R kc ks) : V Z pc lv (w2 :: w1 :: st) y I L R kc ks :=
  V_callS (As := [w1, w2]) (mc := 0) (ms := 0) hC hm h hli rfl hd hmc hw rfl kk
theorem V_cv3 {w1 w2 w3 : Value} {k ci nf : Nat} (hC : Ct X d (.ref k :: [w1, w2, w3]) y I L R 0 0 (some v, y, I1, L1, R)) (hm : MOv X 3) (h : At Z.1.2.1 pc (.invokevirtual idx) 3 q) (hli : Cond.methodLink Z.1.1.cls idx X.1 ∈ lw_tbl) (hk : y[k]? = some (ci, nf)) (hci : ci < 100 ∧ ∃ r, classes[ci]? = some r ∧ r.1 = X.1.cls) (hd : d + 1 ≤ Z.2.1.frames ∧ 8 + (X.2.2.1 + 11) + 60 * d ≤ Z.2.1.locals) (hmc : kc + 0 ≤ Z.2.1.cells ∧ ks + 0 ≤ Z.2.1.slots) (hw : (st.map fun v => v.category).sum ≤ 8) (kk : V Z q lv (v :: st) y I1 L1 R kc ks) : V Z pc lv (w3 :: w2 :: w1 :: .ref k :: st) y I L R kc ks :=
  V_callV (As := [w1, w2, w3]) (mc := 0) (ms := 0) hC hm h hli rfl hk hci hd hmc hw rfl kk
theorem V_cs3 {w1 w2 w3 : Value} (hC : Ct X d [w1, w2, w3] y I L R 0 0 (some v, y, I1, L1, R)) (hm : MOs X 3) (h : At Z.1.2.1 pc (.invokestatic idx) 3 q) (hli : Cond.methodLink Z.1.1.cls idx X.1 ∈ lw_tbl) (hd : d + 1 ≤ Z.2.1.frames ∧ 8 + (X.2.2.1 + 11) + 60 * d ≤ Z.2.1.locals) (hmc : kc + 0 ≤ Z.2.1.cells ∧ ks + 0 ≤ Z.2.1.slots) (hw : (st.map fun v => v.category).sum ≤ 8) (kk : V Z q lv (v :: st) y I1 L1 R kc ks) : V Z pc lv (w3 :: w2 :: w1 :: st) y I L R kc ks :=
  V_callS (As := [w1, w2, w3]) (mc := 0) (ms := 0) hC hm h hli rfl hd hmc hw rfl kk
theorem V_cv3v {w1 w2 w3 : Value} {k ci nf : Nat} (hC : Ct X d (.ref k :: [w1, w2, w3]) y I L R 0 0 (none, y, I1, L1, R)) (hm : MOv X 3) (h : At Z.1.2.1 pc (.invokevirtual idx) 3 q) (hli : Cond.methodLink Z.1.1.cls idx X.1 ∈ lw_tbl) (hk : y[k]? = some (ci, nf)) (hci : ci < 100 ∧ ∃ r, classes[ci]? = some r ∧ r.1 = X.1.cls) (hd : d + 1 ≤ Z.2.1.frames ∧ 8 + (X.2.2.1 + 11) + 60 * d ≤ Z.2.1.locals) (hmc : kc + 0 ≤ Z.2.1.cells ∧ ks + 0 ≤ Z.2.1.slots) (hw : (st.map fun v => v.category).sum ≤ 8) (kk : V Z q lv st y I1 L1 R kc ks) : V Z pc lv (w3 :: w2 :: w1 :: .ref k :: st) y I L R kc ks :=
  V_callV (As := [w1, w2, w3]) (mc := 0) (ms := 0) hC hm h hli rfl hk hci hd hmc hw rfl kk
theorem V_cs3v {w1 w2 w3 : Value} (hC : Ct X d [w1, w2, w3] y I L R 0 0 (none, y, I1, L1, R)) (hm : MOs X 3) (h : At Z.1.2.1 pc (.invokestatic idx) 3 q) (hli : Cond.methodLink Z.1.1.cls idx X.1 ∈ lw_tbl) (hd : d + 1 ≤ Z.2.1.frames ∧ 8 + (X.2.2.1 + 11) + 60 * d ≤ Z.2.1.locals) (hmc : kc + 0 ≤ Z.2.1.cells ∧ ks + 0 ≤ Z.2.1.slots) (hw : (st.map fun v => v.category).sum ≤ 8) (kk : V Z q lv st y I1 L1 R kc ks) : V Z pc lv (w3 :: w2 :: w1 :: st) y I L R kc ks :=
  V_callS (As := [w1, w2, w3]) (mc := 0) (ms := 0) hC hm h hli rfl hd hmc hw rfl kk
theorem V_cv4 {w1 w2 w3 w4 : Value} {k ci nf : Nat} (hC : Ct X d (.ref k :: [w1, w2, w3, w4]) y I L R 0 0 (some v, y, I1, L1, R)) (hm : MOv X 4) (h : At Z.1.2.1 pc (.invokevirtual idx) 3 q) (hli : Cond.methodLink Z.1.1.cls idx X.1 ∈ lw_tbl) (hk : y[k]? = some (ci, nf)) (hci : ci < 100 ∧ ∃ r, classes[ci]? = some r ∧ r.1 = X.1.cls) (hd : d + 1 ≤ Z.2.1.frames ∧ 8 + (X.2.2.1 + 11) + 60 * d ≤ Z.2.1.locals) (hmc : kc + 0 ≤ Z.2.1.cells ∧ ks + 0 ≤ Z.2.1.slots) (hw : (st.map fun v => v.category).sum ≤ 8) (kk : V Z q lv (v :: st) y I1 L1 R kc ks) : V Z pc lv (w4 :: w3 :: w2 :: w1 :: .ref k :: st) y I L R kc ks :=
  V_callV (As := [w1, w2, w3, w4]) (mc := 0) (ms := 0) hC hm h hli rfl hk hci hd hmc hw rfl kk
theorem V_cs4 {w1 w2 w3 w4 : Value} (hC : Ct X d [w1, w2, w3, w4] y I L R 0 0 (some v, y, I1, L1, R)) (hm : MOs X 4) (h : At Z.1.2.1 pc (.invokestatic idx) 3 q) (hli : Cond.methodLink Z.1.1.cls idx X.1 ∈ lw_tbl) (hd : d + 1 ≤ Z.2.1.frames ∧ 8 + (X.2.2.1 + 11) + 60 * d ≤ Z.2.1.locals) (hmc : kc + 0 ≤ Z.2.1.cells ∧ ks + 0 ≤ Z.2.1.slots) (hw : (st.map fun v => v.category).sum ≤ 8) (kk : V Z q lv (v :: st) y I1 L1 R kc ks) : V Z pc lv (w4 :: w3 :: w2 :: w1 :: st) y I L R kc ks :=
  V_callS (As := [w1, w2, w3, w4]) (mc := 0) (ms := 0) hC hm h hli rfl hd hmc hw rfl kk
theorem V_cv4v {w1 w2 w3 w4 : Value} {k ci nf : Nat} (hC : Ct X d (.ref k :: [w1, w2, w3, w4]) y I L R 0 0 (none, y, I1, L1, R)) (hm : MOv X 4) (h : At Z.1.2.1 pc (.invokevirtual idx) 3 q) (hli : Cond.methodLink Z.1.1.cls idx X.1 ∈ lw_tbl) (hk : y[k]? = some (ci, nf)) (hci : ci < 100 ∧ ∃ r, classes[ci]? = some r ∧ r.1 = X.1.cls) (hd : d + 1 ≤ Z.2.1.frames ∧ 8 + (X.2.2.1 + 11) + 60 * d ≤ Z.2.1.locals) (hmc : kc + 0 ≤ Z.2.1.cells ∧ ks + 0 ≤ Z.2.1.slots) (hw : (st.map fun v => v.category).sum ≤ 8) (kk : V Z q lv st y I1 L1 R kc ks) : V Z pc lv (w4 :: w3 :: w2 :: w1 :: .ref k :: st) y I L R kc ks :=
  V_callV (As := [w1, w2, w3, w4]) (mc := 0) (ms := 0) hC hm h hli rfl hk hci hd hmc hw rfl kk
theorem V_cs4v {w1 w2 w3 w4 : Value} (hC : Ct X d [w1, w2, w3, w4] y I L R 0 0 (none, y, I1, L1, R)) (hm : MOs X 4) (h : At Z.1.2.1 pc (.invokestatic idx) 3 q) (hli : Cond.methodLink Z.1.1.cls idx X.1 ∈ lw_tbl) (hd : d + 1 ≤ Z.2.1.frames ∧ 8 + (X.2.2.1 + 11) + 60 * d ≤ Z.2.1.locals) (hmc : kc + 0 ≤ Z.2.1.cells ∧ ks + 0 ≤ Z.2.1.slots) (hw : (st.map fun v => v.category).sum ≤ 8) (kk : V Z q lv st y I1 L1 R kc ks) : V Z pc lv (w4 :: w3 :: w2 :: w1 :: st) y I L R kc ks :=
  V_callS (As := [w1, w2, w3, w4]) (mc := 0) (ms := 0) hC hm h hli rfl hd hmc hw rfl kk
theorem V_cv5 {w1 w2 w3 w4 w5 : Value} {k ci nf : Nat} (hC : Ct X d (.ref k :: [w1, w2, w3, w4, w5]) y I L R 0 0 (some v, y, I1, L1, R)) (hm : MOv X 5) (h : At Z.1.2.1 pc (.invokevirtual idx) 3 q) (hli : Cond.methodLink Z.1.1.cls idx X.1 ∈ lw_tbl) (hk : y[k]? = some (ci, nf)) (hci : ci < 100 ∧ ∃ r, classes[ci]? = some r ∧ r.1 = X.1.cls) (hd : d + 1 ≤ Z.2.1.frames ∧ 8 + (X.2.2.1 + 11) + 60 * d ≤ Z.2.1.locals) (hmc : kc + 0 ≤ Z.2.1.cells ∧ ks + 0 ≤ Z.2.1.slots) (hw : (st.map fun v => v.category).sum ≤ 8) (kk : V Z q lv (v :: st) y I1 L1 R kc ks) : V Z pc lv (w5 :: w4 :: w3 :: w2 :: w1 :: .ref k :: st) y I L R kc ks :=
  V_callV (As := [w1, w2, w3, w4, w5]) (mc := 0) (ms := 0) hC hm h hli rfl hk hci hd hmc hw rfl kk
theorem V_cs5 {w1 w2 w3 w4 w5 : Value} (hC : Ct X d [w1, w2, w3, w4, w5] y I L R 0 0 (some v, y, I1, L1, R)) (hm : MOs X 5) (h : At Z.1.2.1 pc (.invokestatic idx) 3 q) (hli : Cond.methodLink Z.1.1.cls idx X.1 ∈ lw_tbl) (hd : d + 1 ≤ Z.2.1.frames ∧ 8 + (X.2.2.1 + 11) + 60 * d ≤ Z.2.1.locals) (hmc : kc + 0 ≤ Z.2.1.cells ∧ ks + 0 ≤ Z.2.1.slots) (hw : (st.map fun v => v.category).sum ≤ 8) (kk : V Z q lv (v :: st) y I1 L1 R kc ks) : V Z pc lv (w5 :: w4 :: w3 :: w2 :: w1 :: st) y I L R kc ks :=
  V_callS (As := [w1, w2, w3, w4, w5]) (mc := 0) (ms := 0) hC hm h hli rfl hd hmc hw rfl kk
theorem V_cv5v {w1 w2 w3 w4 w5 : Value} {k ci nf : Nat} (hC : Ct X d (.ref k :: [w1, w2, w3, w4, w5]) y I L R 0 0 (none, y, I1, L1, R)) (hm : MOv X 5) (h : At Z.1.2.1 pc (.invokevirtual idx) 3 q) (hli : Cond.methodLink Z.1.1.cls idx X.1 ∈ lw_tbl) (hk : y[k]? = some (ci, nf)) (hci : ci < 100 ∧ ∃ r, classes[ci]? = some r ∧ r.1 = X.1.cls) (hd : d + 1 ≤ Z.2.1.frames ∧ 8 + (X.2.2.1 + 11) + 60 * d ≤ Z.2.1.locals) (hmc : kc + 0 ≤ Z.2.1.cells ∧ ks + 0 ≤ Z.2.1.slots) (hw : (st.map fun v => v.category).sum ≤ 8) (kk : V Z q lv st y I1 L1 R kc ks) : V Z pc lv (w5 :: w4 :: w3 :: w2 :: w1 :: .ref k :: st) y I L R kc ks :=
  V_callV (As := [w1, w2, w3, w4, w5]) (mc := 0) (ms := 0) hC hm h hli rfl hk hci hd hmc hw rfl kk
theorem V_cs5v {w1 w2 w3 w4 w5 : Value} (hC : Ct X d [w1, w2, w3, w4, w5] y I L R 0 0 (none, y, I1, L1, R)) (hm : MOs X 5) (h : At Z.1.2.1 pc (.invokestatic idx) 3 q) (hli : Cond.methodLink Z.1.1.cls idx X.1 ∈ lw_tbl) (hd : d + 1 ≤ Z.2.1.frames ∧ 8 + (X.2.2.1 + 11) + 60 * d ≤ Z.2.1.locals) (hmc : kc + 0 ≤ Z.2.1.cells ∧ ks + 0 ≤ Z.2.1.slots) (hw : (st.map fun v => v.category).sum ≤ 8) (kk : V Z q lv st y I1 L1 R kc ks) : V Z pc lv (w5 :: w4 :: w3 :: w2 :: w1 :: st) y I L R kc ks :=
  V_callS (As := [w1, w2, w3, w4, w5]) (mc := 0) (ms := 0) hC hm h hli rfl hd hmc hw rfl kk
theorem V_cv6 {w1 w2 w3 w4 w5 w6 : Value} {k ci nf : Nat} (hC : Ct X d (.ref k :: [w1, w2, w3, w4, w5, w6]) y I L R 0 0 (some v, y, I1, L1, R)) (hm : MOv X 6) (h : At Z.1.2.1 pc (.invokevirtual idx) 3 q) (hli : Cond.methodLink Z.1.1.cls idx X.1 ∈ lw_tbl) (hk : y[k]? = some (ci, nf)) (hci : ci < 100 ∧ ∃ r, classes[ci]? = some r ∧ r.1 = X.1.cls) (hd : d + 1 ≤ Z.2.1.frames ∧ 8 + (X.2.2.1 + 11) + 60 * d ≤ Z.2.1.locals) (hmc : kc + 0 ≤ Z.2.1.cells ∧ ks + 0 ≤ Z.2.1.slots) (hw : (st.map fun v => v.category).sum ≤ 8) (kk : V Z q lv (v :: st) y I1 L1 R kc ks) : V Z pc lv (w6 :: w5 :: w4 :: w3 :: w2 :: w1 :: .ref k :: st) y I L R kc ks :=
  V_callV (As := [w1, w2, w3, w4, w5, w6]) (mc := 0) (ms := 0) hC hm h hli rfl hk hci hd hmc hw rfl kk
theorem V_cs6 {w1 w2 w3 w4 w5 w6 : Value} (hC : Ct X d [w1, w2, w3, w4, w5, w6] y I L R 0 0 (some v, y, I1, L1, R)) (hm : MOs X 6) (h : At Z.1.2.1 pc (.invokestatic idx) 3 q) (hli : Cond.methodLink Z.1.1.cls idx X.1 ∈ lw_tbl) (hd : d + 1 ≤ Z.2.1.frames ∧ 8 + (X.2.2.1 + 11) + 60 * d ≤ Z.2.1.locals) (hmc : kc + 0 ≤ Z.2.1.cells ∧ ks + 0 ≤ Z.2.1.slots) (hw : (st.map fun v => v.category).sum ≤ 8) (kk : V Z q lv (v :: st) y I1 L1 R kc ks) : V Z pc lv (w6 :: w5 :: w4 :: w3 :: w2 :: w1 :: st) y I L R kc ks :=
  V_callS (As := [w1, w2, w3, w4, w5, w6]) (mc := 0) (ms := 0) hC hm h hli rfl hd hmc hw rfl kk
theorem V_cv6v {w1 w2 w3 w4 w5 w6 : Value} {k ci nf : Nat} (hC : Ct X d (.ref k :: [w1, w2, w3, w4, w5, w6]) y I L R 0 0 (none, y, I1, L1, R)) (hm : MOv X 6) (h : At Z.1.2.1 pc (.invokevirtual idx) 3 q) (hli : Cond.methodLink Z.1.1.cls idx X.1 ∈ lw_tbl) (hk : y[k]? = some (ci, nf)) (hci : ci < 100 ∧ ∃ r, classes[ci]? = some r ∧ r.1 = X.1.cls) (hd : d + 1 ≤ Z.2.1.frames ∧ 8 + (X.2.2.1 + 11) + 60 * d ≤ Z.2.1.locals) (hmc : kc + 0 ≤ Z.2.1.cells ∧ ks + 0 ≤ Z.2.1.slots) (hw : (st.map fun v => v.category).sum ≤ 8) (kk : V Z q lv st y I1 L1 R kc ks) : V Z pc lv (w6 :: w5 :: w4 :: w3 :: w2 :: w1 :: .ref k :: st) y I L R kc ks :=
  V_callV (As := [w1, w2, w3, w4, w5, w6]) (mc := 0) (ms := 0) hC hm h hli rfl hk hci hd hmc hw rfl kk
theorem V_cs6v {w1 w2 w3 w4 w5 w6 : Value} (hC : Ct X d [w1, w2, w3, w4, w5, w6] y I L R 0 0 (none, y, I1, L1, R)) (hm : MOs X 6) (h : At Z.1.2.1 pc (.invokestatic idx) 3 q) (hli : Cond.methodLink Z.1.1.cls idx X.1 ∈ lw_tbl) (hd : d + 1 ≤ Z.2.1.frames ∧ 8 + (X.2.2.1 + 11) + 60 * d ≤ Z.2.1.locals) (hmc : kc + 0 ≤ Z.2.1.cells ∧ ks + 0 ≤ Z.2.1.slots) (hw : (st.map fun v => v.category).sum ≤ 8) (kk : V Z q lv st y I1 L1 R kc ks) : V Z pc lv (w6 :: w5 :: w4 :: w3 :: w2 :: w1 :: st) y I L R kc ks :=
  V_callS (As := [w1, w2, w3, w4, w5, w6]) (mc := 0) (ms := 0) hC hm h hli rfl hd hmc hw rfl kk
theorem V_cv7 {w1 w2 w3 w4 w5 w6 w7 : Value} {k ci nf : Nat} (hC : Ct X d (.ref k :: [w1, w2, w3, w4, w5, w6, w7]) y I L R 0 0 (some v, y, I1, L1, R)) (hm : MOv X 7) (h : At Z.1.2.1 pc (.invokevirtual idx) 3 q) (hli : Cond.methodLink Z.1.1.cls idx X.1 ∈ lw_tbl) (hk : y[k]? = some (ci, nf)) (hci : ci < 100 ∧ ∃ r, classes[ci]? = some r ∧ r.1 = X.1.cls) (hd : d + 1 ≤ Z.2.1.frames ∧ 8 + (X.2.2.1 + 11) + 60 * d ≤ Z.2.1.locals) (hmc : kc + 0 ≤ Z.2.1.cells ∧ ks + 0 ≤ Z.2.1.slots) (hw : (st.map fun v => v.category).sum ≤ 8) (kk : V Z q lv (v :: st) y I1 L1 R kc ks) : V Z pc lv (w7 :: w6 :: w5 :: w4 :: w3 :: w2 :: w1 :: .ref k :: st) y I L R kc ks :=
  V_callV (As := [w1, w2, w3, w4, w5, w6, w7]) (mc := 0) (ms := 0) hC hm h hli rfl hk hci hd hmc hw rfl kk
theorem V_cs7 {w1 w2 w3 w4 w5 w6 w7 : Value} (hC : Ct X d [w1, w2, w3, w4, w5, w6, w7] y I L R 0 0 (some v, y, I1, L1, R)) (hm : MOs X 7) (h : At Z.1.2.1 pc (.invokestatic idx) 3 q) (hli : Cond.methodLink Z.1.1.cls idx X.1 ∈ lw_tbl) (hd : d + 1 ≤ Z.2.1.frames ∧ 8 + (X.2.2.1 + 11) + 60 * d ≤ Z.2.1.locals) (hmc : kc + 0 ≤ Z.2.1.cells ∧ ks + 0 ≤ Z.2.1.slots) (hw : (st.map fun v => v.category).sum ≤ 8) (kk : V Z q lv (v :: st) y I1 L1 R kc ks) : V Z pc lv (w7 :: w6 :: w5 :: w4 :: w3 :: w2 :: w1 :: st) y I L R kc ks :=
  V_callS (As := [w1, w2, w3, w4, w5, w6, w7]) (mc := 0) (ms := 0) hC hm h hli rfl hd hmc hw rfl kk
theorem V_cv7v {w1 w2 w3 w4 w5 w6 w7 : Value} {k ci nf : Nat} (hC : Ct X d (.ref k :: [w1, w2, w3, w4, w5, w6, w7]) y I L R 0 0 (none, y, I1, L1, R)) (hm : MOv X 7) (h : At Z.1.2.1 pc (.invokevirtual idx) 3 q) (hli : Cond.methodLink Z.1.1.cls idx X.1 ∈ lw_tbl) (hk : y[k]? = some (ci, nf)) (hci : ci < 100 ∧ ∃ r, classes[ci]? = some r ∧ r.1 = X.1.cls) (hd : d + 1 ≤ Z.2.1.frames ∧ 8 + (X.2.2.1 + 11) + 60 * d ≤ Z.2.1.locals) (hmc : kc + 0 ≤ Z.2.1.cells ∧ ks + 0 ≤ Z.2.1.slots) (hw : (st.map fun v => v.category).sum ≤ 8) (kk : V Z q lv st y I1 L1 R kc ks) : V Z pc lv (w7 :: w6 :: w5 :: w4 :: w3 :: w2 :: w1 :: .ref k :: st) y I L R kc ks :=
  V_callV (As := [w1, w2, w3, w4, w5, w6, w7]) (mc := 0) (ms := 0) hC hm h hli rfl hk hci hd hmc hw rfl kk
theorem V_cs7v {w1 w2 w3 w4 w5 w6 w7 : Value} (hC : Ct X d [w1, w2, w3, w4, w5, w6, w7] y I L R 0 0 (none, y, I1, L1, R)) (hm : MOs X 7) (h : At Z.1.2.1 pc (.invokestatic idx) 3 q) (hli : Cond.methodLink Z.1.1.cls idx X.1 ∈ lw_tbl) (hd : d + 1 ≤ Z.2.1.frames ∧ 8 + (X.2.2.1 + 11) + 60 * d ≤ Z.2.1.locals) (hmc : kc + 0 ≤ Z.2.1.cells ∧ ks + 0 ≤ Z.2.1.slots) (hw : (st.map fun v => v.category).sum ≤ 8) (kk : V Z q lv st y I1 L1 R kc ks) : V Z pc lv (w7 :: w6 :: w5 :: w4 :: w3 :: w2 :: w1 :: st) y I L R kc ks :=
  V_callS (As := [w1, w2, w3, w4, w5, w6, w7]) (mc := 0) (ms := 0) hC hm h hli rfl hd hmc hw rfl kk
theorem V_cv8 {w1 w2 w3 w4 w5 w6 w7 w8 : Value} {k ci nf : Nat} (hC : Ct X d (.ref k :: [w1, w2, w3, w4, w5, w6, w7, w8]) y I L R 0 0 (some v, y, I1, L1, R)) (hm : MOv X 8) (h : At Z.1.2.1 pc (.invokevirtual idx) 3 q) (hli : Cond.methodLink Z.1.1.cls idx X.1 ∈ lw_tbl) (hk : y[k]? = some (ci, nf)) (hci : ci < 100 ∧ ∃ r, classes[ci]? = some r ∧ r.1 = X.1.cls) (hd : d + 1 ≤ Z.2.1.frames ∧ 8 + (X.2.2.1 + 11) + 60 * d ≤ Z.2.1.locals) (hmc : kc + 0 ≤ Z.2.1.cells ∧ ks + 0 ≤ Z.2.1.slots) (hw : (st.map fun v => v.category).sum ≤ 8) (kk : V Z q lv (v :: st) y I1 L1 R kc ks) : V Z pc lv (w8 :: w7 :: w6 :: w5 :: w4 :: w3 :: w2 :: w1 :: .ref k :: st) y I L R kc ks :=
  V_callV (As := [w1, w2, w3, w4, w5, w6, w7, w8]) (mc := 0) (ms := 0) hC hm h hli rfl hk hci hd hmc hw rfl kk
theorem V_cs8 {w1 w2 w3 w4 w5 w6 w7 w8 : Value} (hC : Ct X d [w1, w2, w3, w4, w5, w6, w7, w8] y I L R 0 0 (some v, y, I1, L1, R)) (hm : MOs X 8) (h : At Z.1.2.1 pc (.invokestatic idx) 3 q) (hli : Cond.methodLink Z.1.1.cls idx X.1 ∈ lw_tbl) (hd : d + 1 ≤ Z.2.1.frames ∧ 8 + (X.2.2.1 + 11) + 60 * d ≤ Z.2.1.locals) (hmc : kc + 0 ≤ Z.2.1.cells ∧ ks + 0 ≤ Z.2.1.slots) (hw : (st.map fun v => v.category).sum ≤ 8) (kk : V Z q lv (v :: st) y I1 L1 R kc ks) : V Z pc lv (w8 :: w7 :: w6 :: w5 :: w4 :: w3 :: w2 :: w1 :: st) y I L R kc ks :=
  V_callS (As := [w1, w2, w3, w4, w5, w6, w7, w8]) (mc := 0) (ms := 0) hC hm h hli rfl hd hmc hw rfl kk
theorem V_cv8v {w1 w2 w3 w4 w5 w6 w7 w8 : Value} {k ci nf : Nat} (hC : Ct X d (.ref k :: [w1, w2, w3, w4, w5, w6, w7, w8]) y I L R 0 0 (none, y, I1, L1, R)) (hm : MOv X 8) (h : At Z.1.2.1 pc (.invokevirtual idx) 3 q) (hli : Cond.methodLink Z.1.1.cls idx X.1 ∈ lw_tbl) (hk : y[k]? = some (ci, nf)) (hci : ci < 100 ∧ ∃ r, classes[ci]? = some r ∧ r.1 = X.1.cls) (hd : d + 1 ≤ Z.2.1.frames ∧ 8 + (X.2.2.1 + 11) + 60 * d ≤ Z.2.1.locals) (hmc : kc + 0 ≤ Z.2.1.cells ∧ ks + 0 ≤ Z.2.1.slots) (hw : (st.map fun v => v.category).sum ≤ 8) (kk : V Z q lv st y I1 L1 R kc ks) : V Z pc lv (w8 :: w7 :: w6 :: w5 :: w4 :: w3 :: w2 :: w1 :: .ref k :: st) y I L R kc ks :=
  V_callV (As := [w1, w2, w3, w4, w5, w6, w7, w8]) (mc := 0) (ms := 0) hC hm h hli rfl hk hci hd hmc hw rfl kk
theorem V_cs8v {w1 w2 w3 w4 w5 w6 w7 w8 : Value} (hC : Ct X d [w1, w2, w3, w4, w5, w6, w7, w8] y I L R 0 0 (none, y, I1, L1, R)) (hm : MOs X 8) (h : At Z.1.2.1 pc (.invokestatic idx) 3 q) (hli : Cond.methodLink Z.1.1.cls idx X.1 ∈ lw_tbl) (hd : d + 1 ≤ Z.2.1.frames ∧ 8 + (X.2.2.1 + 11) + 60 * d ≤ Z.2.1.locals) (hmc : kc + 0 ≤ Z.2.1.cells ∧ ks + 0 ≤ Z.2.1.slots) (hw : (st.map fun v => v.category).sum ≤ 8) (kk : V Z q lv st y I1 L1 R kc ks) : V Z pc lv (w8 :: w7 :: w6 :: w5 :: w4 :: w3 :: w2 :: w1 :: st) y I L R kc ks :=
  V_callS (As := [w1, w2, w3, w4, w5, w6, w7, w8]) (mc := 0) (ms := 0) hC hm h hli rfl hd hmc hw rfl kk
end CallN
theorem swj {x : Int32} {n : Nat} (h : x = Int32.ofNat n) (hn : n < 2 ^ 31 := by decide) : x.toInt = (n : Int) + 0 := by
  rw [h]
  have := nI_toInt (n := n) hn
  unfold nI at this
  omega
theorem V_tswJ {Z : Cx} {pc q : Nat} {lv : List (Nat × Value)} {st : List Value} {y : Ly} {I : WI} {L : WL} {R : WR} {kc ks : Nat} {x : Int32} {dflt hi : Int} {offs : Array Int} {n tgt : Nat} {off : Int} (j : Nat) (h : At Z.1.2.1 pc (.tableswitch dflt 0 hi offs) n q) (hx : x.toInt = (j : Int) + 0) (ho : offs[j]? = some off ∧ (j : Int) ≤ hi) (ht : (pc : Int) + off = (tgt : Int)) (k : V Z tgt lv st y I L R kc ks) : V Z pc lv (.int x :: st) y I L R kc ks := by
  obtain ⟨h, rfl⟩ := h
  intro E p l e s m args below meth c H locs ls F D N S hl
  exact lv_tableIn F.1 F.2.1 h (by omega) (by omega) (by rw [show (x.toInt - 0).toNat = j by omega]; exact ho.1) ht (k E p l e s m args below meth c H locs ls F D N S hl)
theorem V_tswD {Z : Cx} {pc q : Nat} {lv : List (Nat × Value)} {st : List Value} {y : Ly} {I : WI} {L : WL} {R : WR} {kc ks : Nat} {x : Int32} {dflt hi : Int} {offs : Array Int} {n tgt : Nat} (h : At Z.1.2.1 pc (.tableswitch dflt 0 hi offs) n q) (hx : ∀ m : Int, hi = m → x.toInt < 0 ∨ m < x.toInt) (ht : (pc : Int) + dflt = (tgt : Int)) (k : V Z tgt lv st y I L R kc ks) : V Z pc lv (.int x :: st) y I L R kc ks := by
  obtain ⟨h, rfl⟩ := h
  intro E p l e s m args below meth c H locs ls F D N S hl
  exact lv_tableOut F.1 F.2.1 h (hx _ rfl) ht (k E p l e s m args below meth c H locs ls F D N S hl)
theorem neT {x y : Int32} (h : ¬ x = y) : ¬ x.toInt = y.toInt := fun e => h (Int32.toInt_inj.mp e)
theorem sw3 {x : Int32} (h0 : ¬ x = 0) (h1 : ¬ x = 1) (h2 : ¬ x = 2) : ∀ m : Int, (2 : Int) = m → x.toInt < 0 ∨ m < x.toInt := by
  intro m hm
  have e0 := neT h0
  rw [show (0 : Int32).toInt = 0 from rfl] at e0
  have e1 := neT h1
  rw [show (1 : Int32).toInt = 1 from rfl] at e1
  have e2 := neT h2
  rw [show (2 : Int32).toInt = 2 from rfl] at e2
  omega
theorem sw5 {x : Int32} (h0 : ¬ x = 0) (h1 : ¬ x = 1) (h2 : ¬ x = 2) (h3 : ¬ x = 3) (h4 : ¬ x = 4) : ∀ m : Int, (4 : Int) = m → x.toInt < 0 ∨ m < x.toInt := by
  intro m hm
  have e0 := neT h0
  rw [show (0 : Int32).toInt = 0 from rfl] at e0
  have e1 := neT h1
  rw [show (1 : Int32).toInt = 1 from rfl] at e1
  have e2 := neT h2
  rw [show (2 : Int32).toInt = 2 from rfl] at e2
  have e3 := neT h3
  rw [show (3 : Int32).toInt = 3 from rfl] at e3
  have e4 := neT h4
  rw [show (4 : Int32).toInt = 4 from rfl] at e4
  omega
theorem sw6 {x : Int32} (h0 : ¬ x = 0) (h1 : ¬ x = 1) (h2 : ¬ x = 2) (h3 : ¬ x = 3) (h4 : ¬ x = 4) (h5 : ¬ x = 5) : ∀ m : Int, (5 : Int) = m → x.toInt < 0 ∨ m < x.toInt := by
  intro m hm
  have e0 := neT h0
  rw [show (0 : Int32).toInt = 0 from rfl] at e0
  have e1 := neT h1
  rw [show (1 : Int32).toInt = 1 from rfl] at e1
  have e2 := neT h2
  rw [show (2 : Int32).toInt = 2 from rfl] at e2
  have e3 := neT h3
  rw [show (3 : Int32).toInt = 3 from rfl] at e3
  have e4 := neT h4
  rw [show (4 : Int32).toInt = 4 from rfl] at e4
  have e5 := neT h5
  rw [show (5 : Int32).toInt = 5 from rfl] at e5
  omega
theorem ic_0 : Int32.ofInt 0 = (0 : Int32) := by decide +kernel
theorem ic_4 : Int32.ofInt 4 = (4 : Int32) := by decide +kernel
theorem ic_1 : Int32.ofInt 1 = (1 : Int32) := by decide +kernel
theorem bp_64 : (Int8.ofInt 64).toInt32 = (64 : Int32) := by decide +kernel
theorem bp_8 : (Int8.ofInt 8).toInt32 = (8 : Int32) := by decide +kernel
theorem ic_2 : Int32.ofInt 2 = (2 : Int32) := by decide +kernel
theorem bp_16 : (Int8.ofInt 16).toInt32 = (16 : Int32) := by decide +kernel
theorem bp_32 : (Int8.ofInt 32).toInt32 = (32 : Int32) := by decide +kernel
theorem bp_127 : (Int8.ofInt 127).toInt32 = (127 : Int32) := by decide +kernel
theorem ic_3 : Int32.ofInt 3 = (3 : Int32) := by decide +kernel
theorem nl_12 : Int32.ofNat 12 = (12 : Int32) := by decide +kernel
theorem nl_36 : Int32.ofNat 36 = (36 : Int32) := by decide +kernel
theorem ti_12 : (12 : Int32).toInt = ((12 : Nat) : Int) := by decide +kernel
theorem bp_20 : (Int8.ofInt 20).toInt32 = (20 : Int32) := by decide +kernel
theorem ti_36 : (36 : Int32).toInt = ((36 : Nat) : Int) := by decide +kernel
theorem nl_40 : Int32.ofNat 40 = (40 : Int32) := by decide +kernel
theorem ti_40 : (40 : Int32).toInt = ((40 : Nat) : Int) := by decide +kernel
theorem bp_m4 : (Int8.ofInt (-4)).toInt32 = ((-4) : Int32) := by decide +kernel
theorem sp_312 : (Int16.ofInt 312).toInt32 = (312 : Int32) := by decide +kernel
theorem nl_320 : Int32.ofNat 320 = (320 : Int32) := by decide +kernel
theorem bp_56 : (Int8.ofInt 56).toInt32 = (56 : Int32) := by decide +kernel
theorem ti_320 : (320 : Int32).toInt = ((320 : Nat) : Int) := by decide +kernel
theorem bp_97 : (Int8.ofInt 97).toInt32 = (97 : Int32) := by decide +kernel
theorem bp_122 : (Int8.ofInt 122).toInt32 = (122 : Int32) := by decide +kernel
theorem bp_48 : (Int8.ofInt 48).toInt32 = (48 : Int32) := by decide +kernel
theorem bp_57 : (Int8.ofInt 57).toInt32 = (57 : Int32) := by decide +kernel
theorem bp_10 : (Int8.ofInt 10).toInt32 = (10 : Int32) := by decide +kernel
theorem bp_59 : (Int8.ofInt 59).toInt32 = (59 : Int32) := by decide +kernel
theorem bp_100 : (Int8.ofInt 100).toInt32 = (100 : Int32) := by decide +kernel
theorem bp_108 : (Int8.ofInt 108).toInt32 = (108 : Int32) := by decide +kernel
theorem ic_5 : Int32.ofInt 5 = (5 : Int32) := by decide +kernel
theorem ic_m1 : Int32.ofInt (-1) = ((-1) : Int32) := by decide +kernel
theorem bp_14 : (Int8.ofInt 14).toInt32 = (14 : Int32) := by decide +kernel
theorem bp_7 : (Int8.ofInt 7).toInt32 = (7 : Int32) := by decide +kernel
theorem bp_12 : (Int8.ofInt 12).toInt32 = (12 : Int32) := by decide +kernel
theorem bp_6 : (Int8.ofInt 6).toInt32 = (6 : Int32) := by decide +kernel
theorem sp_320 : (Int16.ofInt 320).toInt32 = (320 : Int32) := by decide +kernel
theorem bp_m10 : (Int8.ofInt (-10)).toInt32 = ((-10) : Int32) := by decide +kernel
theorem bp_63 : (Int8.ofInt 63).toInt32 = (63 : Int32) := by decide +kernel
theorem bp_60 : (Int8.ofInt 60).toInt32 = (60 : Int32) := by decide +kernel
theorem nl_15 : Int32.ofNat 15 = (15 : Int32) := by decide +kernel
theorem nl_64 : Int32.ofNat 64 = (64 : Int32) := by decide +kernel
theorem bp_m3 : (Int8.ofInt (-3)).toInt32 = ((-3) : Int32) := by decide +kernel
theorem bp_m2 : (Int8.ofInt (-2)).toInt32 = ((-2) : Int32) := by decide +kernel
theorem nl_31 : Int32.ofNat 31 = (31 : Int32) := by decide +kernel
theorem bp_40 : (Int8.ofInt 40).toInt32 = (40 : Int32) := by decide +kernel
theorem bp_m14 : (Int8.ofInt (-14)).toInt32 = ((-14) : Int32) := by decide +kernel
theorem bp_m12 : (Int8.ofInt (-12)).toInt32 = ((-12) : Int32) := by decide +kernel
theorem bp_m11 : (Int8.ofInt (-11)).toInt32 = ((-11) : Int32) := by decide +kernel
theorem bp_m20 : (Int8.ofInt (-20)).toInt32 = ((-20) : Int32) := by decide +kernel
theorem ic_m8 : Int32.ofInt (-8) = ((-8) : Int32) := by decide +kernel
theorem bp_99 : (Int8.ofInt 99).toInt32 = (99 : Int32) := by decide +kernel
theorem bp_111 : (Int8.ofInt 111).toInt32 = (111 : Int32) := by decide +kernel
theorem bp_112 : (Int8.ofInt 112).toInt32 = (112 : Int32) := by decide +kernel
theorem bp_116 : (Int8.ofInt 116).toInt32 = (116 : Int32) := by decide +kernel
theorem bp_121 : (Int8.ofInt 121).toInt32 = (121 : Int32) := by decide +kernel
theorem bp_101 : (Int8.ofInt 101).toInt32 = (101 : Int32) := by decide +kernel
theorem bp_114 : (Int8.ofInt 114).toInt32 = (114 : Int32) := by decide +kernel
theorem bp_110 : (Int8.ofInt 110).toInt32 = (110 : Int32) := by decide +kernel
theorem bp_11 : (Int8.ofInt 11).toInt32 = (11 : Int32) := by decide +kernel
theorem bp_104 : (Int8.ofInt 104).toInt32 = (104 : Int32) := by decide +kernel
theorem bp_119 : (Int8.ofInt 119).toInt32 = (119 : Int32) := by decide +kernel
theorem bp_115 : (Int8.ofInt 115).toInt32 = (115 : Int32) := by decide +kernel
theorem bp_117 : (Int8.ofInt 117).toInt32 = (117 : Int32) := by decide +kernel
theorem bp_109 : (Int8.ofInt 109).toInt32 = (109 : Int32) := by decide +kernel
theorem bp_65 : (Int8.ofInt 65).toInt32 = (65 : Int32) := by decide +kernel
theorem bp_9 : (Int8.ofInt 9).toInt32 = (9 : Int32) := by decide +kernel
theorem nl_4 : Int32.ofNat 4 = (4 : Int32) := by decide +kernel
theorem ti_4 : (4 : Int32).toInt = ((4 : Nat) : Int) := by decide +kernel
theorem bp_36 : (Int8.ofInt 36).toInt32 = (36 : Int32) := by decide +kernel
theorem bp_15 : (Int8.ofInt 15).toInt32 = (15 : Int32) := by decide +kernel
theorem bp_31 : (Int8.ofInt 31).toInt32 = (31 : Int32) := by decide +kernel
theorem fk_X0_18 : FK RX0 18 0 4 0 3 false := ⟨RX0, TX0, tyX0, cf_X0, by decide, gw_in fl_X0_18 rfl, rfl, rfl⟩
theorem fk_X0_11 : FK RX0 11 0 4 1 0 false := ⟨RX0, TX0, tyX0, cf_X0, by decide, gw_in fl_X0_11 rfl, rfl, rfl⟩
theorem fk_X0_15 : FK RX0 15 0 4 2 0 false := ⟨RX0, TX0, tyX0, cf_X0, by decide, gw_in fl_X0_15 rfl, rfl, rfl⟩
theorem fk_X0_22 : FK RX0 22 0 4 3 1 false := ⟨RX0, TX0, tyX0, cf_X0, by decide, gw_in fl_X0_22 rfl, rfl, rfl⟩
theorem fk_X1_16 : FK RX1 16 1 3 0 0 false := ⟨RX1, TX1, tyX1, cf_X1, by decide, gw_in fl_X1_16 rfl, rfl, rfl⟩
theorem fk_X1_9 : FK RX1 9 1 3 1 2 true := ⟨RX1, TX1, tyX1, cf_X1, by decide, gw_in fl_X1_9 rfl, rfl, rfl⟩
theorem fk_X1_13 : FK RX1 13 1 3 2 2 true := ⟨RX1, TX1, tyX1, cf_X1, by decide, gw_in fl_X1_13 rfl, rfl, rfl⟩
theorem fk_X2_19 : FK RX2 19 0 4 3 1 false := ⟨RX0, TX0, tyX0, cf_X0, by decide, gw_in fl_X2_19 rfl, rfl, rfl⟩
theorem fk_X2_27 : FK RX2 27 0 4 1 0 false := ⟨RX0, TX0, tyX0, cf_X0, by decide, gw_in fl_X2_27 rfl, rfl, rfl⟩
theorem fk_X2_31 : FK RX2 31 0 4 2 0 false := ⟨RX0, TX0, tyX0, cf_X0, by decide, gw_in fl_X2_31 rfl, rfl, rfl⟩
theorem fk_X2_34 : FK RX2 34 2 4 2 1 false := ⟨RX2, TX2, tyX2, cf_X2, by decide, gw_in fl_X2_34 rfl, rfl, rfl⟩
theorem fk_X2_39 : FK RX2 39 2 4 3 0 false := ⟨RX2, TX2, tyX2, cf_X2, by decide, gw_in fl_X2_39 rfl, rfl, rfl⟩
theorem fk_X2_42 : FK RX2 42 2 4 0 0 false := ⟨RX2, TX2, tyX2, cf_X2, by decide, gw_in fl_X2_42 rfl, rfl, rfl⟩
theorem fk_X2_43 : FK RX2 43 2 4 1 0 false := ⟨RX2, TX2, tyX2, cf_X2, by decide, gw_in fl_X2_43 rfl, rfl, rfl⟩
theorem fk_X3_9 : FK RX3 9 3 3 0 0 false := ⟨RX3, TX3, tyX3, cf_X3, by decide, gw_in fl_X3_9 rfl, rfl, rfl⟩
theorem fk_X3_19 : FK RX3 19 3 3 1 0 false := ⟨RX3, TX3, tyX3, cf_X3, by decide, gw_in fl_X3_19 rfl, rfl, rfl⟩
theorem fk_X3_15 : FK RX3 15 3 3 2 2 true := ⟨RX3, TX3, tyX3, cf_X3, by decide, gw_in fl_X3_15 rfl, rfl, rfl⟩
theorem fk_X4_26 : FK RX4 26 3 3 0 0 false := ⟨RX3, TX3, tyX3, cf_X3, by decide, gw_in fl_X4_26 rfl, rfl, rfl⟩
theorem fk_X5_13 : FK RX5 13 5 2 0 0 false := ⟨RX5, TX5, tyX5, cf_X5, by decide, gw_in fl_X5_13 rfl, rfl, rfl⟩
theorem fk_X5_9 : FK RX5 9 5 2 1 2 true := ⟨RX5, TX5, tyX5, cf_X5, by decide, gw_in fl_X5_9 rfl, rfl, rfl⟩
theorem fk_X6_40 : FK RX6 40 6 10 3 0 false := ⟨RX6, TX6, tyX6, cf_X6, by decide, gw_in fl_X6_40 rfl, rfl, rfl⟩
theorem fk_X6_59 : FK RX6 59 6 10 7 0 false := ⟨RX6, TX6, tyX6, cf_X6, by decide, gw_in fl_X6_59 rfl, rfl, rfl⟩
theorem fk_X6_44 : FK RX6 44 6 10 5 0 false := ⟨RX6, TX6, tyX6, cf_X6, by decide, gw_in fl_X6_44 rfl, rfl, rfl⟩
theorem fk_X6_65 : FK RX6 65 6 10 6 0 false := ⟨RX6, TX6, tyX6, cf_X6, by decide, gw_in fl_X6_65 rfl, rfl, rfl⟩
theorem fk_X6_126 : FK RX6 126 6 10 9 0 false := ⟨RX6, TX6, tyX6, cf_X6, by decide, gw_in fl_X6_126 rfl, rfl, rfl⟩
theorem fk_X6_47 : FK RX6 47 6 10 8 0 false := ⟨RX6, TX6, tyX6, cf_X6, by decide, gw_in fl_X6_47 rfl, rfl, rfl⟩
theorem fk_X6_30 : FK RX6 30 6 10 4 2 true := ⟨RX6, TX6, tyX6, cf_X6, by decide, gw_in fl_X6_30 rfl, rfl, rfl⟩
theorem fk_X6_165 : FK RX6 165 5 2 0 0 false := ⟨RX5, TX5, tyX5, cf_X5, by decide, gw_in fl_X6_165 rfl, rfl, rfl⟩
theorem fk_X6_93 : FK RX6 93 0 4 1 0 false := ⟨RX0, TX0, tyX0, cf_X0, by decide, gw_in fl_X6_93 rfl, rfl, rfl⟩
theorem fk_X6_102 : FK RX6 102 0 4 2 0 false := ⟨RX0, TX0, tyX0, cf_X0, by decide, gw_in fl_X6_102 rfl, rfl, rfl⟩
theorem fk_X6_109 : FK RX6 109 0 4 3 1 false := ⟨RX0, TX0, tyX0, cf_X0, by decide, gw_in fl_X6_109 rfl, rfl, rfl⟩
theorem fk_X6_89 : FK RX6 89 0 4 0 3 false := ⟨RX0, TX0, tyX0, cf_X0, by decide, gw_in fl_X6_89 rfl, rfl, rfl⟩
theorem fk_X6_26 : FK RX6 26 6 10 2 2 true := ⟨RX6, TX6, tyX6, cf_X6, by decide, gw_in fl_X6_26 rfl, rfl, rfl⟩
theorem fk_X6_113 : FK RX6 113 1 3 0 0 false := ⟨RX1, TX1, tyX1, cf_X1, by decide, gw_in fl_X6_113 rfl, rfl, rfl⟩
theorem fk_X6_20 : FK RX6 20 6 10 1 2 true := ⟨RX6, TX6, tyX6, cf_X6, by decide, gw_in fl_X6_20 rfl, rfl, rfl⟩
theorem fk_X6_14 : FK RX6 14 6 10 0 2 true := ⟨RX6, TX6, tyX6, cf_X6, by decide, gw_in fl_X6_14 rfl, rfl, rfl⟩
theorem fk_X7_18 : FK RX7 18 7 10 1 0 false := ⟨RX7, TX7, tyX7, cf_X7, by decide, gw_in fl_X7_18 rfl, rfl, rfl⟩
theorem fk_X7_28 : FK RX7 28 7 10 2 0 false := ⟨RX7, TX7, tyX7, cf_X7, by decide, gw_in fl_X7_28 rfl, rfl, rfl⟩
theorem fk_X7_31 : FK RX7 31 7 10 3 0 false := ⟨RX7, TX7, tyX7, cf_X7, by decide, gw_in fl_X7_31 rfl, rfl, rfl⟩
theorem fk_X7_40 : FK RX7 40 7 10 0 3 false := ⟨RX7, TX7, tyX7, cf_X7, by decide, gw_in fl_X7_40 rfl, rfl, rfl⟩
theorem fk_X7_62 : FK RX7 62 0 4 1 0 false := ⟨RX0, TX0, tyX0, cf_X0, by decide, gw_in fl_X7_62 rfl, rfl, rfl⟩
theorem fk_X7_65 : FK RX7 65 0 4 2 0 false := ⟨RX0, TX0, tyX0, cf_X0, by decide, gw_in fl_X7_65 rfl, rfl, rfl⟩
theorem fk_X7_92 : FK RX7 92 7 10 4 0 false := ⟨RX7, TX7, tyX7, cf_X7, by decide, gw_in fl_X7_92 rfl, rfl, rfl⟩
theorem fk_X7_95 : FK RX7 95 7 10 5 0 false := ⟨RX7, TX7, tyX7, cf_X7, by decide, gw_in fl_X7_95 rfl, rfl, rfl⟩
theorem fk_X7_9 : FK RX7 9 7 10 8 2 true := ⟨RX7, TX7, tyX7, cf_X7, by decide, gw_in fl_X7_9 rfl, rfl, rfl⟩
theorem fk_X7_112 : FK RX7 112 7 10 6 0 false := ⟨RX7, TX7, tyX7, cf_X7, by decide, gw_in fl_X7_112 rfl, rfl, rfl⟩
theorem fk_X7_115 : FK RX7 115 7 10 7 0 false := ⟨RX7, TX7, tyX7, cf_X7, by decide, gw_in fl_X7_115 rfl, rfl, rfl⟩
theorem fk_X7_15 : FK RX7 15 7 10 9 2 true := ⟨RX7, TX7, tyX7, cf_X7, by decide, gw_in fl_X7_15 rfl, rfl, rfl⟩
theorem fk_X8_40 : FK RX8 40 8 15 6 2 true := ⟨RX8, TX8, tyX8, cf_X8, by decide, gw_in fl_X8_40 rfl, rfl, rfl⟩
theorem fk_X8_85 : FK RX8 85 5 2 0 0 false := ⟨RX5, TX5, tyX5, cf_X5, by decide, gw_in fl_X8_85 rfl, rfl, rfl⟩
theorem fk_X8_49 : FK RX8 49 8 15 7 2 true := ⟨RX8, TX8, tyX8, cf_X8, by decide, gw_in fl_X8_49 rfl, rfl, rfl⟩
theorem fk_X8_93 : FK RX8 93 6 10 3 0 false := ⟨RX6, TX6, tyX6, cf_X6, by decide, gw_in fl_X8_93 rfl, rfl, rfl⟩
theorem fk_X8_96 : FK RX8 96 8 15 13 0 false := ⟨RX8, TX8, tyX8, cf_X8, by decide, gw_in fl_X8_96 rfl, rfl, rfl⟩
theorem fk_X8_14 : FK RX8 14 8 15 0 2 true := ⟨RX8, TX8, tyX8, cf_X8, by decide, gw_in fl_X8_14 rfl, rfl, rfl⟩
theorem fk_X8_99 : FK RX8 99 6 10 0 2 true := ⟨RX6, TX6, tyX6, cf_X6, by decide, gw_in fl_X8_99 rfl, rfl, rfl⟩
theorem fk_X8_106 : FK RX8 106 0 4 0 3 false := ⟨RX0, TX0, tyX0, cf_X0, by decide, gw_in fl_X8_106 rfl, rfl, rfl⟩
theorem fk_X8_18 : FK RX8 18 8 15 1 2 true := ⟨RX8, TX8, tyX8, cf_X8, by decide, gw_in fl_X8_18 rfl, rfl, rfl⟩
theorem fk_X8_110 : FK RX8 110 6 10 1 2 true := ⟨RX6, TX6, tyX6, cf_X6, by decide, gw_in fl_X8_110 rfl, rfl, rfl⟩
theorem fk_X8_33 : FK RX8 33 8 15 5 2 true := ⟨RX8, TX8, tyX8, cf_X8, by decide, gw_in fl_X8_33 rfl, rfl, rfl⟩
theorem fk_X8_113 : FK RX8 113 6 10 2 2 true := ⟨RX6, TX6, tyX6, cf_X6, by decide, gw_in fl_X8_113 rfl, rfl, rfl⟩
theorem fk_X8_21 : FK RX8 21 8 15 2 2 true := ⟨RX8, TX8, tyX8, cf_X8, by decide, gw_in fl_X8_21 rfl, rfl, rfl⟩
theorem fk_X8_24 : FK RX8 24 8 15 3 2 true := ⟨RX8, TX8, tyX8, cf_X8, by decide, gw_in fl_X8_24 rfl, rfl, rfl⟩
theorem fk_X8_117 : FK RX8 117 0 4 1 0 false := ⟨RX0, TX0, tyX0, cf_X0, by decide, gw_in fl_X8_117 rfl, rfl, rfl⟩
theorem fk_X8_120 : FK RX8 120 0 4 2 0 false := ⟨RX0, TX0, tyX0, cf_X0, by decide, gw_in fl_X8_120 rfl, rfl, rfl⟩
theorem fk_X8_123 : FK RX8 123 1 3 0 0 false := ⟨RX1, TX1, tyX1, cf_X1, by decide, gw_in fl_X8_123 rfl, rfl, rfl⟩
theorem fk_X8_137 : FK RX8 137 0 4 3 1 false := ⟨RX0, TX0, tyX0, cf_X0, by decide, gw_in fl_X8_137 rfl, rfl, rfl⟩
theorem fk_X8_63 : FK RX8 63 8 15 9 2 true := ⟨RX8, TX8, tyX8, cf_X8, by decide, gw_in fl_X8_63 rfl, rfl, rfl⟩
theorem fk_X8_198 : FK RX8 198 7 10 1 0 false := ⟨RX7, TX7, tyX7, cf_X7, by decide, gw_in fl_X8_198 rfl, rfl, rfl⟩
theorem fk_X8_206 : FK RX8 206 7 10 2 0 false := ⟨RX7, TX7, tyX7, cf_X7, by decide, gw_in fl_X8_206 rfl, rfl, rfl⟩
theorem fk_X8_330 : FK RX8 330 7 10 3 0 false := ⟨RX7, TX7, tyX7, cf_X7, by decide, gw_in fl_X8_330 rfl, rfl, rfl⟩
theorem fk_X8_195 : FK RX8 195 7 10 0 3 false := ⟨RX7, TX7, tyX7, cf_X7, by decide, gw_in fl_X8_195 rfl, rfl, rfl⟩
theorem fk_X8_223 : FK RX8 223 7 10 4 0 false := ⟨RX7, TX7, tyX7, cf_X7, by decide, gw_in fl_X8_223 rfl, rfl, rfl⟩
theorem fk_X8_229 : FK RX8 229 7 10 5 0 false := ⟨RX7, TX7, tyX7, cf_X7, by decide, gw_in fl_X8_229 rfl, rfl, rfl⟩
theorem fk_X8_77 : FK RX8 77 8 15 12 2 true := ⟨RX8, TX8, tyX8, cf_X8, by decide, gw_in fl_X8_77 rfl, rfl, rfl⟩
theorem fk_X8_333 : FK RX8 333 7 10 6 0 false := ⟨RX7, TX7, tyX7, cf_X7, by decide, gw_in fl_X8_333 rfl, rfl, rfl⟩
theorem fk_X8_334 : FK RX8 334 7 10 7 0 false := ⟨RX7, TX7, tyX7, cf_X7, by decide, gw_in fl_X8_334 rfl, rfl, rfl⟩
theorem fk_X8_70 : FK RX8 70 8 15 10 2 true := ⟨RX8, TX8, tyX8, cf_X8, by decide, gw_in fl_X8_70 rfl, rfl, rfl⟩
theorem fk_X8_27 : FK RX8 27 8 15 4 2 true := ⟨RX8, TX8, tyX8, cf_X8, by decide, gw_in fl_X8_27 rfl, rfl, rfl⟩
theorem fk_X8_276 : FK RX8 276 2 4 2 1 false := ⟨RX2, TX2, tyX2, cf_X2, by decide, gw_in fl_X8_276 rfl, rfl, rfl⟩
theorem fk_X8_279 : FK RX8 279 2 4 3 0 false := ⟨RX2, TX2, tyX2, cf_X2, by decide, gw_in fl_X8_279 rfl, rfl, rfl⟩
theorem fk_X8_74 : FK RX8 74 8 15 11 2 true := ⟨RX8, TX8, tyX8, cf_X8, by decide, gw_in fl_X8_74 rfl, rfl, rfl⟩
theorem fk_X8_56 : FK RX8 56 8 15 8 2 true := ⟨RX8, TX8, tyX8, cf_X8, by decide, gw_in fl_X8_56 rfl, rfl, rfl⟩
theorem fk_X8_319 : FK RX8 319 8 15 14 0 false := ⟨RX8, TX8, tyX8, cf_X8, by decide, gw_in fl_X8_319 rfl, rfl, rfl⟩
theorem fk_X9_50 : FK RX9 50 9 47 10 0 false := ⟨RX9, TX9, tyX9, cf_X9, by decide, gw_in fl_X9_50 rfl, rfl, rfl⟩
theorem fk_X9_54 : FK RX9 54 9 47 11 0 false := ⟨RX9, TX9, tyX9, cf_X9, by decide, gw_in fl_X9_54 rfl, rfl, rfl⟩
theorem fk_X9_57 : FK RX9 57 9 47 12 1 false := ⟨RX9, TX9, tyX9, cf_X9, by decide, gw_in fl_X9_57 rfl, rfl, rfl⟩
theorem fk_X9_61 : FK RX9 61 9 47 15 1 false := ⟨RX9, TX9, tyX9, cf_X9, by decide, gw_in fl_X9_61 rfl, rfl, rfl⟩
theorem fk_X9_64 : FK RX9 64 9 47 16 3 false := ⟨RX9, TX9, tyX9, cf_X9, by decide, gw_in fl_X9_64 rfl, rfl, rfl⟩
theorem fk_X9_68 : FK RX9 68 9 47 17 3 false := ⟨RX9, TX9, tyX9, cf_X9, by decide, gw_in fl_X9_68 rfl, rfl, rfl⟩
theorem fk_X9_71 : FK RX9 71 9 47 18 0 false := ⟨RX9, TX9, tyX9, cf_X9, by decide, gw_in fl_X9_71 rfl, rfl, rfl⟩
theorem fk_X9_74 : FK RX9 74 9 47 0 0 false := ⟨RX9, TX9, tyX9, cf_X9, by decide, gw_in fl_X9_74 rfl, rfl, rfl⟩
theorem fk_X9_77 : FK RX9 77 9 47 1 0 false := ⟨RX9, TX9, tyX9, cf_X9, by decide, gw_in fl_X9_77 rfl, rfl, rfl⟩
theorem fk_X9_80 : FK RX9 80 9 47 2 1 false := ⟨RX9, TX9, tyX9, cf_X9, by decide, gw_in fl_X9_80 rfl, rfl, rfl⟩
theorem fk_X9_83 : FK RX9 83 9 47 3 1 false := ⟨RX9, TX9, tyX9, cf_X9, by decide, gw_in fl_X9_83 rfl, rfl, rfl⟩
theorem fk_X9_86 : FK RX9 86 9 47 4 3 false := ⟨RX9, TX9, tyX9, cf_X9, by decide, gw_in fl_X9_86 rfl, rfl, rfl⟩
theorem fk_X9_89 : FK RX9 89 9 47 5 0 false := ⟨RX9, TX9, tyX9, cf_X9, by decide, gw_in fl_X9_89 rfl, rfl, rfl⟩
theorem fk_X9_7 : FK RX9 7 9 47 6 2 true := ⟨RX9, TX9, tyX9, cf_X9, by decide, gw_in fl_X9_7 rfl, rfl, rfl⟩
theorem fk_X9_23 : FK RX9 23 9 47 19 2 true := ⟨RX9, TX9, tyX9, cf_X9, by decide, gw_in fl_X9_23 rfl, rfl, rfl⟩
theorem fk_X9_17 : FK RX9 17 9 47 8 2 true := ⟨RX9, TX9, tyX9, cf_X9, by decide, gw_in fl_X9_17 rfl, rfl, rfl⟩
theorem fk_X9_92 : FK RX9 92 9 47 21 0 false := ⟨RX9, TX9, tyX9, cf_X9, by decide, gw_in fl_X9_92 rfl, rfl, rfl⟩
theorem fk_X9_26 : FK RX9 26 9 47 20 2 true := ⟨RX9, TX9, tyX9, cf_X9, by decide, gw_in fl_X9_26 rfl, rfl, rfl⟩
theorem fk_X9_101 : FK RX9 101 9 47 26 0 false := ⟨RX9, TX9, tyX9, cf_X9, by decide, gw_in fl_X9_101 rfl, rfl, rfl⟩
theorem fk_X9_104 : FK RX9 104 9 47 23 0 false := ⟨RX9, TX9, tyX9, cf_X9, by decide, gw_in fl_X9_104 rfl, rfl, rfl⟩
theorem fk_X9_107 : FK RX9 107 9 47 27 0 false := ⟨RX9, TX9, tyX9, cf_X9, by decide, gw_in fl_X9_107 rfl, rfl, rfl⟩
theorem fk_X9_110 : FK RX9 110 9 47 22 0 false := ⟨RX9, TX9, tyX9, cf_X9, by decide, gw_in fl_X9_110 rfl, rfl, rfl⟩
theorem fk_X9_124 : FK RX9 124 9 47 24 0 false := ⟨RX9, TX9, tyX9, cf_X9, by decide, gw_in fl_X9_124 rfl, rfl, rfl⟩
theorem fk_X9_135 : FK RX9 135 9 47 25 0 false := ⟨RX9, TX9, tyX9, cf_X9, by decide, gw_in fl_X9_135 rfl, rfl, rfl⟩
theorem fk_X9_142 : FK RX9 142 9 47 28 0 false := ⟨RX9, TX9, tyX9, cf_X9, by decide, gw_in fl_X9_142 rfl, rfl, rfl⟩
theorem fk_X9_145 : FK RX9 145 9 47 29 0 false := ⟨RX9, TX9, tyX9, cf_X9, by decide, gw_in fl_X9_145 rfl, rfl, rfl⟩
theorem fk_X9_148 : FK RX9 148 9 47 30 1 false := ⟨RX9, TX9, tyX9, cf_X9, by decide, gw_in fl_X9_148 rfl, rfl, rfl⟩
theorem fk_X9_183 : FK RX9 183 9 47 13 0 false := ⟨RX9, TX9, tyX9, cf_X9, by decide, gw_in fl_X9_183 rfl, rfl, rfl⟩
theorem fk_X9_186 : FK RX9 186 9 47 14 0 false := ⟨RX9, TX9, tyX9, cf_X9, by decide, gw_in fl_X9_186 rfl, rfl, rfl⟩
theorem fk_X9_20 : FK RX9 20 9 47 9 2 true := ⟨RX9, TX9, tyX9, cf_X9, by decide, gw_in fl_X9_20 rfl, rfl, rfl⟩
theorem fk_X9_13 : FK RX9 13 9 47 7 2 true := ⟨RX9, TX9, tyX9, cf_X9, by decide, gw_in fl_X9_13 rfl, rfl, rfl⟩
theorem fk_X9_245 : FK RX9 245 9 47 31 0 false := ⟨RX9, TX9, tyX9, cf_X9, by decide, gw_in fl_X9_245 rfl, rfl, rfl⟩
theorem fk_X9_248 : FK RX9 248 9 47 32 0 false := ⟨RX9, TX9, tyX9, cf_X9, by decide, gw_in fl_X9_248 rfl, rfl, rfl⟩
theorem fk_X9_260 : FK RX9 260 9 47 33 0 false := ⟨RX9, TX9, tyX9, cf_X9, by decide, gw_in fl_X9_260 rfl, rfl, rfl⟩
theorem fk_X9_263 : FK RX9 263 9 47 34 0 false := ⟨RX9, TX9, tyX9, cf_X9, by decide, gw_in fl_X9_263 rfl, rfl, rfl⟩
theorem fk_X9_266 : FK RX9 266 9 47 35 0 false := ⟨RX9, TX9, tyX9, cf_X9, by decide, gw_in fl_X9_266 rfl, rfl, rfl⟩
theorem fk_X9_29 : FK RX9 29 9 47 36 2 true := ⟨RX9, TX9, tyX9, cf_X9, by decide, gw_in fl_X9_29 rfl, rfl, rfl⟩
theorem fk_X9_32 : FK RX9 32 9 47 37 2 true := ⟨RX9, TX9, tyX9, cf_X9, by decide, gw_in fl_X9_32 rfl, rfl, rfl⟩
theorem fk_X9_301 : FK RX9 301 9 47 38 0 false := ⟨RX9, TX9, tyX9, cf_X9, by decide, gw_in fl_X9_301 rfl, rfl, rfl⟩
theorem fk_X9_317 : FK RX9 317 9 47 40 0 false := ⟨RX9, TX9, tyX9, cf_X9, by decide, gw_in fl_X9_317 rfl, rfl, rfl⟩
theorem fk_X9_320 : FK RX9 320 9 47 39 1 false := ⟨RX9, TX9, tyX9, cf_X9, by decide, gw_in fl_X9_320 rfl, rfl, rfl⟩
theorem fk_X9_323 : FK RX9 323 9 47 41 0 false := ⟨RX9, TX9, tyX9, cf_X9, by decide, gw_in fl_X9_323 rfl, rfl, rfl⟩
theorem fk_X9_326 : FK RX9 326 9 47 42 0 false := ⟨RX9, TX9, tyX9, cf_X9, by decide, gw_in fl_X9_326 rfl, rfl, rfl⟩
theorem fk_X9_35 : FK RX9 35 9 47 43 2 true := ⟨RX9, TX9, tyX9, cf_X9, by decide, gw_in fl_X9_35 rfl, rfl, rfl⟩
theorem fk_X9_38 : FK RX9 38 9 47 44 2 true := ⟨RX9, TX9, tyX9, cf_X9, by decide, gw_in fl_X9_38 rfl, rfl, rfl⟩
theorem fk_X9_41 : FK RX9 41 9 47 45 2 true := ⟨RX9, TX9, tyX9, cf_X9, by decide, gw_in fl_X9_41 rfl, rfl, rfl⟩
theorem fk_X9_338 : FK RX9 338 9 47 46 0 false := ⟨RX9, TX9, tyX9, cf_X9, by decide, gw_in fl_X9_338 rfl, rfl, rfl⟩
theorem fk_X4_11 : FK RX4 11 4 1 0 2 true := ⟨RX4, TX4, tyX4, cf_X4, by decide, gw_in fl_X4_11 rfl, rfl, rfl⟩
