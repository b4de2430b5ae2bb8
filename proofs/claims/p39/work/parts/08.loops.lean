/-! loops: counted ones (the counter goes up by 1 to a bound that stays), others -/
def p1 {A B : Type} (x : A × B) : A := x.1
def p2 {A B : Type} (x : A × B) : B := x.2
def oP {T : Type} (P : T → Prop) : Option T → Prop
  | none => False
  | some x => P x
theorem jx {T : Type} {P : T → Prop} {a b : T} (k : P a) (h : a = b) : P b := h ▸ k
theorem jq {T : Type} {P : T → Prop} {a b : T} (k : P a ∧ True) (h : a = b) : P b := h ▸ k.1
theorem ob {A B : Type} {x : Option A} {r : A} {g : A → Option B} (h : x = some r) : x.bind g = g r := by rw [h]; rfl
theorem oP_bind {A B : Type} {P : B → Prop} {x : Option A} {f : A → Option B} (h : oP P (x.bind f)) : oP (fun r => oP P (f r)) x := by
  cases x <;> exact h
theorem oP_case {A B : Type} {P : B → Prop} {x : Option A} {f : A → Option B} {G : Prop} (h : oP P (x.bind f)) (k : ∀ r, x = some r → oP P (f r) → G) : G := by
  cases x with
  | none => exact absurd h id
  | some r => exact k r rfl h
theorem sE {A B T : Type} {P : T → Prop} {f : A → T} {g : B → T} {x : A ⊕ B} (h : P (Sum.elim f g x)) : Sum.elim (fun a => P (f a)) (fun b => P (g b)) x := by
  cases x <;> exact h
/-- how often: from c to B -/
def fu (c B : Int32) : Nat := (B.toInt - c.toInt).toNat
def fr0 {S : Type} (g : Int32 → S → S) (B : Int32) : Nat → Int32 → S → Int32 × S
  | 0, i, s => (i, s)
  | n + 1, i, s => if B ≤ i then (i, s) else fr0 g B n (i + 1) (g i s)
termination_by n => n
def fr1 {R S : Type} (g : Int32 → S → R ⊕ S) (B : Int32) : Nat → Int32 → S → R ⊕ (Int32 × S)
  | 0, i, s => .inr (i, s)
  | n + 1, i, s => if B ≤ i then .inr (i, s) else match g i s with
    | .inl r => .inl r
    | .inr s' => fr1 g B n (i + 1) s'
termination_by n => n
def frp0 {S : Type} (g : Int32 → S → Option S) (B : Int32) : Nat → Int32 → S → Option (Int32 × S)
  | 0, i, s => some (i, s)
  | n + 1, i, s => if B ≤ i then some (i, s) else match g i s with
    | none => none
    | some s' => frp0 g B n (i + 1) s'
termination_by n => n
def frp1 {R S : Type} (g : Int32 → S → Option (R ⊕ S)) (B : Int32) : Nat → Int32 → S → Option (R ⊕ (Int32 × S))
  | 0, i, s => some (.inr (i, s))
  | n + 1, i, s => if B ≤ i then some (.inr (i, s)) else match g i s with
    | none => none
    | some (.inl r) => some (.inl r)
    | some (.inr s') => frp1 g B n (i + 1) s'
termination_by n => n
def lpp {R S : Type} (f : S → Option (R ⊕ S)) : Nat → S → Option R
  | 0, _ => none
  | n + 1, s => match f s with
    | none => none
    | some (.inl r) => some r
    | some (.inr s') => lpp f n s'
termination_by n => n
theorem up_lt {i B : Int32} (h : ¬ B ≤ i) : (i + 1).toInt = i.toInt + 1 := by
  have h1 : i.toInt < B.toInt := by
    have := Int32.not_le.mp h
    exact Int32.lt_iff_toInt_lt.mp this
  have h2 := B.toInt_lt
  have h3 := i.le_toInt
  rw [Int32.toInt_add]
  have : (1 : Int32).toInt = 1 := rfl
  rw [this, Int.bmod_def]
  split <;> omega
theorem fu_0 {c B : Int32} (h : fu c B ≤ 0) : B ≤ c := by
  unfold fu at h
  rw [Int32.le_iff_toInt_le]
  omega
theorem fu_s {c B : Int32} {n : Nat} (h : fu c B ≤ n + 1) (hb : ¬ B ≤ c) : fu (c + 1) B ≤ n := by
  unfold fu at h ⊢
  rw [up_lt hb]
  omega
theorem V_fr0 {S : Type} (g : Int32 → S → S) (B : Int32) (Vh : Int32 → S → Prop) (X : Int32 → S → Prop) (hh : ∀ i s, (B ≤ i → X i s) → (¬ B ≤ i → Vh (i + 1) (g i s)) → Vh i s) {c : Int32} {s : S} (k : X (p1 (fr0 g B (fu c B) c s)) (p2 (fr0 g B (fu c B) c s))) : Vh c s := by
  have key : ∀ (n : Nat) (i : Int32) (s : S), fu i B ≤ n → X (p1 (fr0 g B n i s)) (p2 (fr0 g B n i s)) → Vh i s := by
    intro n
    induction n with
    | zero => intro i s h k; rw [fr0] at k; exact hh i s (fun _ => k) (fun hb => absurd (fu_0 h) hb)
    | succ n ih =>
      intro i s h k
      rw [fr0] at k
      refine hh i s (fun hb => by rw [if_pos hb] at k; exact k) (fun hb => ?_)
      rw [if_neg hb] at k
      exact ih _ _ (fu_s h hb) k
  exact key _ _ _ (Nat.le_refl _) k
theorem V_fr1 {R S : Type} (g : Int32 → S → R ⊕ S) (B : Int32) (Vh : Int32 → S → Prop) (X : Int32 → S → Prop) (Y : R → Prop) (hh : ∀ i s, (B ≤ i → X i s) → (¬ B ≤ i → Sum.elim Y (fun s' => Vh (i + 1) s') (g i s)) → Vh i s) {c : Int32} {s : S} (k : Sum.elim Y (fun e => X (p1 e) (p2 e)) (fr1 g B (fu c B) c s)) : Vh c s := by
  have key : ∀ (n : Nat) (i : Int32) (s : S), fu i B ≤ n → Sum.elim Y (fun e => X (p1 e) (p2 e)) (fr1 g B n i s) → Vh i s := by
    intro n
    induction n with
    | zero => intro i s h k; rw [fr1] at k; exact hh i s (fun _ => k) (fun hb => absurd (fu_0 h) hb)
    | succ n ih =>
      intro i s h k
      rw [fr1] at k
      refine hh i s (fun hb => by rw [if_pos hb] at k; exact k) (fun hb => ?_)
      rw [if_neg hb] at k
      cases hg : g i s with
      | inl r => rw [hg] at k; exact k
      | inr s' => rw [hg] at k; exact ih _ _ (fu_s h hb) k
  exact key _ _ _ (Nat.le_refl _) k
theorem V_frp0 {S : Type} (g : Int32 → S → Option S) (B : Int32) (Vh : Int32 → S → Prop) (X : Int32 → S → Prop) (hh : ∀ i s, (B ≤ i → X i s) → (¬ B ≤ i → oP (fun s' => Vh (i + 1) s') (g i s)) → Vh i s) {c : Int32} {s : S} (k : oP (fun e => X (p1 e) (p2 e)) (frp0 g B (fu c B) c s)) : Vh c s := by
  have key : ∀ (n : Nat) (i : Int32) (s : S), fu i B ≤ n → oP (fun e => X (p1 e) (p2 e)) (frp0 g B n i s) → Vh i s := by
    intro n
    induction n with
    | zero => intro i s h k; rw [frp0] at k; exact hh i s (fun _ => k) (fun hb => absurd (fu_0 h) hb)
    | succ n ih =>
      intro i s h k
      rw [frp0] at k
      refine hh i s (fun hb => by rw [if_pos hb] at k; exact k) (fun hb => ?_)
      rw [if_neg hb] at k
      cases hg : g i s with
      | none => rw [hg] at k; exact k
      | some s' => rw [hg] at k; exact ih _ _ (fu_s h hb) k
  exact key _ _ _ (Nat.le_refl _) k
theorem V_frp1 {R S : Type} (g : Int32 → S → Option (R ⊕ S)) (B : Int32) (Vh : Int32 → S → Prop) (X : Int32 → S → Prop) (Y : R → Prop) (hh : ∀ i s, (B ≤ i → X i s) → (¬ B ≤ i → oP (Sum.elim Y (fun s' => Vh (i + 1) s')) (g i s)) → Vh i s) {c : Int32} {s : S} (k : oP (Sum.elim Y (fun e => X (p1 e) (p2 e))) (frp1 g B (fu c B) c s)) : Vh c s := by
  have key : ∀ (n : Nat) (i : Int32) (s : S), fu i B ≤ n → oP (Sum.elim Y (fun e => X (p1 e) (p2 e))) (frp1 g B n i s) → Vh i s := by
    intro n
    induction n with
    | zero => intro i s h k; rw [frp1] at k; exact hh i s (fun _ => k) (fun hb => absurd (fu_0 h) hb)
    | succ n ih =>
      intro i s h k
      rw [frp1] at k
      refine hh i s (fun hb => by rw [if_pos hb] at k; exact k) (fun hb => ?_)
      rw [if_neg hb] at k
      cases hg : g i s with
      | none => rw [hg] at k; exact k
      | some r =>
        rw [hg] at k
        cases r with
        | inl r => exact k
        | inr s' => exact ih _ _ (fu_s h hb) k
  exact key _ _ _ (Nat.le_refl _) k
theorem V_lpp {R S : Type} (f : S → Option (R ⊕ S)) (Vh : S → Prop) (X : R → Prop) (hh : ∀ s, oP (Sum.elim X Vh) (f s) → Vh s) {n : Nat} {s : S} (k : oP X (lpp f n s)) : Vh s := by
  induction n generalizing s with
  | zero => rw [lpp] at k; exact absurd k id
  | succ n ih =>
    refine hh s ?_
    rw [lpp] at k
    cases hg : f s with
    | none => rw [hg] at k; exact k
    | some r =>
      rw [hg] at k
      cases r with
      | inl r => exact k
      | inr s' => exact ih k
/-- an index, by the two comparisons ahead of it -/
theorem vpin {i N : Int32} {n : Nat} (hN : N.toInt = n) (h1 : ¬ i < 0) (h2 : ¬ N ≤ i) : vp_in i n := by
  rw [vp_in_iff]
  rw [Int32.lt_iff_toInt_lt] at h1
  rw [Int32.le_iff_toInt_le] at h2
  have : (0 : Int32).toInt = 0 := rfl
  omega
theorem V_pick {Z : Cx} {pc : Nat} {lv lv' : List (Nat × Value)} {st : List Value} {y : Ly} {I : WI} {L : WL} {R : WR} {kc ks : Nat} (is : List Nat) (h : lv_pick lv is = lv') (k : V Z pc lv' st y I L R kc ks) : V Z pc lv st y I L R kc ks := by
  intro E p l e s m args below meth c H locs ls F D N S hl
  refine k E p l e s m args below meth c H locs ls F D N S (lv_sub hl is ?_)
  subst h
  unfold lv_pick gl
  rw [List.map_filterMap]
  congr 1
  funext j
  simp
theorem ia {x n m : Int32} (h : n = m) : x + n = x + m := by rw [h]
def ly0 : Ly := [(8, 15), (0, 4), (0, 4), (0, 4), (0, 4), (0, 4), (1, 3), (100, 12), (100, 36), (5, 2), (102, 320), (6, 10), (0, 4), (0, 4), (1, 3), (100, 12), (100, 36), (4, 1), (103, 4), (3, 3), (100, 40), (3, 3), (100, 40), (3, 3), (100, 40), (3, 3), (100, 40), (7, 10), (101, 15), (101, 64), (2, 4), (2, 4), (101, 31), (9, 47), (100, 48), (101, 2), (100, 2), (100, 2), (100, 48), (100, 320), (101, 64), (100, 6561), (100, 4), (100, 4), (100, 160)]
def R0 : WR := fun k j => match k, j with
  | 0, 0 => some 1
  | 0, 1 => some 2
  | 0, 2 => some 3
  | 0, 3 => some 4
  | 0, 4 => some 5
  | 0, 5 => some 6
  | 0, 6 => some 9
  | 0, 7 => some 11
  | 0, 8 => some 17
  | 0, 9 => some 27
  | 0, 10 => some 30
  | 0, 11 => some 31
  | 0, 12 => some 32
  | 6, 1 => some 7
  | 6, 2 => some 8
  | 9, 1 => some 10
  | 11, 0 => some 12
  | 11, 1 => some 13
  | 11, 2 => some 14
  | 11, 4 => some 9
  | 14, 1 => some 15
  | 14, 2 => some 16
  | 17, 0 => some 18
  | 18, 0 => some 19
  | 18, 1 => some 21
  | 18, 2 => some 23
  | 18, 3 => some 25
  | 19, 2 => some 20
  | 21, 2 => some 22
  | 23, 2 => some 24
  | 25, 2 => some 26
  | 27, 8 => some 28
  | 27, 9 => some 29
  | 33, 6 => some 34
  | 33, 7 => some 35
  | 33, 8 => some 36
  | 33, 9 => some 37
  | 33, 19 => some 38
  | 33, 20 => some 39
  | 33, 36 => some 40
  | 33, 37 => some 41
  | 33, 43 => some 42
  | 33, 44 => some 43
  | 33, 45 => some 44
  | _, _ => none
theorem cf_X0 : CF 0 RX0 TX0 4 tyX0 := ⟨rfl, by decide, CF_ws uw_X0, tyX0_ok, nmX0, fun _ => rfl, by decide +kernel⟩
theorem cf_X1 : CF 1 RX1 TX1 3 tyX1 := ⟨rfl, by decide, CF_ws uw_X1, tyX1_ok, nmX1, fun _ => rfl, by decide +kernel⟩
theorem cf_X2 : CF 2 RX2 TX2 4 tyX2 := ⟨rfl, by decide, CF_ws uw_X2, tyX2_ok, nmX2, fun _ => rfl, by decide +kernel⟩
theorem cf_X3 : CF 3 RX3 TX3 3 tyX3 := ⟨rfl, by decide, CF_ws uw_X3, tyX3_ok, nmX3, fun _ => rfl, by decide +kernel⟩
theorem cf_X4 : CF 4 RX4 TX4 1 tyX4 := ⟨rfl, by decide, CF_ws uw_X4, tyX4_ok, nmX4, fun _ => rfl, by decide +kernel⟩
theorem cf_X5 : CF 5 RX5 TX5 2 tyX5 := ⟨rfl, by decide, CF_ws uw_X5, tyX5_ok, nmX5, fun _ => rfl, by decide +kernel⟩
theorem cf_X6 : CF 6 RX6 TX6 10 tyX6 := ⟨rfl, by decide, CF_ws uw_X6, tyX6_ok, nmX6, fun _ => rfl, by decide +kernel⟩
theorem cf_X7 : CF 7 RX7 TX7 10 tyX7 := ⟨rfl, by decide, CF_ws uw_X7, tyX7_ok, nmX7, fun _ => rfl, by decide +kernel⟩
theorem cf_X8 : CF 8 RX8 TX8 15 tyX8 := ⟨rfl, by decide, CF_ws uw_X8, tyX8_ok, nmX8, fun _ => rfl, by decide +kernel⟩
theorem cf_X9 : CF 9 RX9 TX9 47 tyX9 := ⟨rfl, by decide, CF_ws uw_X9, tyX9_ok, nmX9, fun _ => rfl, by decide +kernel⟩
def isX0 (k : Nat) : Prop := ly0[k]? = some (0, 4)
def isX2 (k : Nat) : Prop := ly0[k]? = some (2, 4)
def isX1 (k : Nat) : Prop := ly0[k]? = some (1, 3) ∧ R0 k 1 = some (k + 1) ∧ R0 k 2 = some (k + 2) ∧ ly0[k + 1]? = some (100, 12) ∧ ly0[k + 2]? = some (100, 36)
def isX3 (k : Nat) : Prop := ly0[k]? = some (3, 3) ∧ R0 k 2 = some (k + 1) ∧ ly0[k + 1]? = some (100, 40)
theorem ly_lt {k : Nat} {c : Nat × Nat} (h : ly0[k]? = some c) : k < 1000 := Nat.lt_trans (List.getElem?_eq_some_iff.mp h).1 (by decide)
theorem isX0_lt {k : Nat} (h : isX0 k) : k < 1000 := ly_lt h
theorem isX2_lt {k : Nat} (h : isX2 k) : k < 1000 := ly_lt h
theorem isX1_lt {k : Nat} (h : isX1 k) : k < 1000 := ly_lt h.1
theorem isX3_lt {k : Nat} (h : isX3 k) : k < 1000 := ly_lt h.1
theorem bz_bz (x : Int32) : bz (bz x) = bz x := by
  unfold bz
  rw [Int32.and_assoc]
  rfl
theorem nar_int (v : Int32) : narrow .int (.int v) = .int v := rfl
theorem oP_sum {A B T : Type} {P : T → Prop} {f : A → T} {g : B → Option T} {x : Option (A ⊕ B)} (h : oP P (x.bind (Sum.elim (fun r => some (f r)) g))) : oP (Sum.elim (fun r => P (f r)) (fun e => oP P (g e))) x := by
  cases x with
  | none => exact h
  | some r => cases r <;> exact h
theorem mm_max_st : Cond.static Lib.Math.max.name ∈ gw := gw_in (mt3 _ (List.mem_of_getElem? (i := 143) rfl)) rfl
theorem mm_max_co : Cond.code Lib.Math.max.name Lib.Math.max.code 2 (some .int) ∈ gw := gw_in (mt3 _ (List.mem_of_getElem? (i := 144) rfl)) rfl
theorem mm_min_st : Cond.static Lib.Math.min.name ∈ gw := gw_in (mt3 _ (List.mem_of_getElem? (i := 166) rfl)) rfl
theorem mm_min_co : Cond.code Lib.Math.min.name Lib.Math.min.code 2 (some .int) ∈ gw := gw_in (mt3 _ (List.mem_of_getElem? (i := 167) rfl)) rfl
theorem mm_ini : Cond.initialized "java/lang/Math" ∈ gw := gw_in ii_J9 rfl
theorem mm_li_X8_209 : Cond.methodLink RX8 209 Lib.Math.max.name ∈ gw := gw_in (mt3 _ (List.mem_of_getElem? (i := 142) rfl)) rfl
theorem mm_li_X7_86 : Cond.methodLink RX7 86 Lib.Math.min.name ∈ gw := gw_in (mt3 _ (List.mem_of_getElem? (i := 165) rfl)) rfl
theorem mm_li_X8_313 : Cond.methodLink RX8 313 Lib.Math.min.name ∈ gw := gw_in (mt4 _ (List.mem_of_getElem? (i := 115) rfl)) rfl
section CallN
variable {Z : Cx} {X : Mx} {pc q d idx : Nat} {lv : List (Nat × Value)} {st : List Value} {y : Ly} {I I1 : WI} {L L1 : WL} {R : WR} {kc ks : Nat} {v : Value}
theorem V_cv0 {k ci nf : Nat} (hC : Ct X d (.ref k :: []) y I L R 0 0 (some v, y, I1, L1, R)) (hm : MOv X 0) (h : At Z.1.2.1 pc (.invokevirtual idx) 3 q) (hli : Cond.methodLink Z.1.1.cls idx X.1 ∈ lw_tbl) (hk : y[k]? = some (ci, nf)) (hci : ci < 100 ∧ ∃ r, classes[ci]? = some r ∧ r.1 = X.1.cls) (hd : d + 1 ≤ Z.2.1.frames ∧ 8 + (X.2.2.1 + 11) + 60 * d ≤ Z.2.1.locals) (hmc : kc + 0 ≤ Z.2.1.cells ∧ ks + 0 ≤ Z.2.1.slots) (hw : (st.map fun v => v.category).sum ≤ 8) (kk : V Z q lv (v :: st) y I1 L1 R kc ks) : V Z pc lv (.ref k :: st) y I L R kc ks :=
  V_callV (As := []) (mc := 0) (ms := 0) hC hm h hli rfl hk hci hd hmc hw rfl kk
theorem V_cs0 (hC : Ct X d [] y I L R 0 0 (some v, y, I1, L1, R)) (hm : MOs X 0) (h : At Z.1.2.1 pc (.invokestatic idx) 3 q) (hli : Cond.methodLink Z.1.1.cls idx X.1 ∈ lw_tbl) (hd : d + 1 ≤ Z.2.1.frames ∧ 8 + (X.2.2.1 + 11) + 60 * d ≤ Z.2.1.locals) (hmc : kc + 0 ≤ Z.2.1.cells ∧ ks + 0 ≤ Z.2.1.slots) (hw : (st.map fun v => v.category).sum ≤ 8) (kk : V Z q lv (v :: st) y I1 L1 R kc ks) : V Z pc lv (st) y I L R kc ks :=
  V_callS (As := []) (mc := 0) (ms := 0) hC hm h hli rfl hd hmc hw rfl kk
theorem V_cv0v {k ci nf : Nat} (hC : Ct X d (.ref k :: []) y I L R 0 0 (none, y, I1, L1, R)) (hm : MOv X 0) (h : At Z.1.2.1 pc (.invokevirtual idx) 3 q) (hli : Cond.methodLink Z.1.1.cls idx X.1 ∈ lw_tbl) (hk : y[k]? = some (ci, nf)) (hci : ci < 100 ∧ ∃ r, classes[ci]? = some r ∧ r.1 = X.1.cls) (hd : d + 1 ≤ Z.2.1.frames ∧ 8 + (X.2.2.1 + 11) + 60 * d ≤ Z.2.1.locals) (hmc : kc + 0 ≤ Z.2.1.cells ∧ ks + 0 ≤ Z.2.1.slots) (hw : (st.map fun v => v.category).sum ≤ 8) (kk : V Z q lv st y I1 L1 R kc ks) : V Z pc lv (.ref k :: st) y I L R kc ks :=
  V_callV (As := []) (mc := 0) (ms := 0) hC hm h hli rfl hk hci hd hmc hw rfl kk
theorem V_cs0v (hC : Ct X d [] y I L R 0 0 (none, y, I1, L1, R)) (hm : MOs X 0) (h : At Z.1.2.1 pc (.invokestatic idx) 3 q) (hli : Cond.methodLink Z.1.1.cls idx X.1 ∈ lw_tbl) (hd : d + 1 ≤ Z.2.1.frames ∧ 8 + (X.2.2.1 + 11) + 60 * d ≤ Z.2.1.locals) (hmc : kc + 0 ≤ Z.2.1.cells ∧ ks + 0 ≤ Z.2.1.slots) (hw : (st.map fun v => v.category).sum ≤ 8) (kk : V Z q lv st y I1 L1 R kc ks) : V Z pc lv (st) y I L R kc ks :=
  V_callS (As := []) (mc := 0) (ms := 0) hC hm h hli rfl hd hmc hw rfl kk
theorem V_cv1 {w1 : Value} {k ci nf : Nat} (hC : Ct X d (.ref k :: [w1]) y I L R 0 0 (some v, y, I1, L1, R)) (hm : MOv X 1) (h : At Z.1.2.1 pc (.invokevirtual idx) 3 q) (hli : Cond.methodLink Z.1.1.cls idx X.1 ∈ lw_tbl) (hk : y[k]? = some (ci, nf)) (hci : ci < 100 ∧ ∃ r, classes[ci]? = some r ∧ r.1 = X.1.cls) (hd : d + 1 ≤ Z.2.1.frames ∧ 8 + (X.2.2.1 + 11) + 60 * d ≤ Z.2.1.locals) (hmc : kc + 0 ≤ Z.2.1.cells ∧ ks + 0 ≤ Z.2.1.slots) (hw : (st.map fun v => v.category).sum ≤ 8) (kk : V Z q lv (v :: st) y I1 L1 R kc ks) : V Z pc lv (w1 :: .ref k :: st) y I L R kc ks :=
  V_callV (As := [w1]) (mc := 0) (ms := 0) hC hm h hli rfl hk hci hd hmc hw rfl kk
theorem V_cs1 {w1 : Value} (hC : Ct X d [w1] y I L R 0 0 (some v, y, I1, L1, R)) (hm : MOs X 1) (h : At Z.1.2.1 pc (.invokestatic idx) 3 q) (hli : Cond.methodLink Z.1.1.cls idx X.1 ∈ lw_tbl) (hd : d + 1 ≤ Z.2.1.frames ∧ 8 + (X.2.2.1 + 11) + 60 * d ≤ Z.2.1.locals) (hmc : kc + 0 ≤ Z.2.1.cells ∧ ks + 0 ≤ Z.2.1.slots) (hw : (st.map fun v => v.category).sum ≤ 8) (kk : V Z q lv (v :: st) y I1 L1 R kc ks) : V Z pc lv (w1 :: st) y I L R kc ks :=
  V_callS (As := [w1]) (mc := 0) (ms := 0) hC hm h hli rfl hd hmc hw rfl kk
theorem V_cv1v {w1 : Value} {k ci nf : Nat} (hC : Ct X d (.ref k :: [w1]) y I L R 0 0 (none, y, I1, L1, R)) (hm : MOv X 1) (h : At Z.1.2.1 pc (.invokevirtual idx) 3 q) (hli : Cond.methodLink Z.1.1.cls idx X.1 ∈ lw_tbl) (hk : y[k]? = some (ci, nf)) (hci : ci < 100 ∧ ∃ r, classes[ci]? = some r ∧ r.1 = X.1.cls) (hd : d + 1 ≤ Z.2.1.frames ∧ 8 + (X.2.2.1 + 11) + 60 * d ≤ Z.2.1.locals) (hmc : kc + 0 ≤ Z.2.1.cells ∧ ks + 0 ≤ Z.2.1.slots) (hw : (st.map fun v => v.category).sum ≤ 8) (kk : V Z q lv st y I1 L1 R kc ks) : V Z pc lv (w1 :: .ref k :: st) y I L R kc ks :=
  V_callV (As := [w1]) (mc := 0) (ms := 0) hC hm h hli rfl hk hci hd hmc hw rfl kk
theorem V_cs1v {w1 : Value} (hC : Ct X d [w1] y I L R 0 0 (none, y, I1, L1, R)) (hm : MOs X 1) (h : At Z.1.2.1 pc (.invokestatic idx) 3 q) (hli : Cond.methodLink Z.1.1.cls idx X.1 ∈ lw_tbl) (hd : d + 1 ≤ Z.2.1.frames ∧ 8 + (X.2.2.1 + 11) + 60 * d ≤ Z.2.1.locals) (hmc : kc + 0 ≤ Z.2.1.cells ∧ ks + 0 ≤ Z.2.1.slots) (hw : (st.map fun v => v.category).sum ≤ 8) (kk : V Z q lv st y I1 L1 R kc ks) : V Z pc lv (w1 :: st) y I L R kc ks :=
  V_callS (As := [w1]) (mc := 0) (ms := 0) hC hm h hli rfl hd hmc hw rfl kk
theorem V_cv2 {w1 w2 : Value} {k ci nf : Nat} (hC : Ct X d (.ref k :: [w1, w2]) y I L R 0 0 (some v, y, I1, L1, R)) (hm : MOv X 2) (h : At Z.1.2.1 pc (.invokevirtual idx) 3 q) (hli : Cond.methodLink Z.1.1.cls idx X.1 ∈ lw_tbl) (hk : y[k]? = some (ci, nf)) (hci : ci < 100 ∧ ∃ r, classes[ci]? = some r ∧ r.1 = X.1.cls) (hd : d + 1 ≤ Z.2.1.frames ∧ 8 + (X.2.2.1 + 11) + 60 * d ≤ Z.2.1.locals) (hmc : kc + 0 ≤ Z.2.1.cells ∧ ks + 0 ≤ Z.2.1.slots) (hw : (st.map fun v => v.category).sum ≤ 8) (kk : V Z q lv (v :: st) y I1 L1 R kc ks) : V Z pc lv (w2 :: w1 :: .ref k :: st) y I L R kc ks :=
  V_callV (As := [w1, w2]) (mc := 0) (ms := 0) hC hm h hli rfl hk hci hd hmc hw rfl kk
theorem V_cs2 {w1 w2 : Value} (hC : Ct X d [w1, w2] y I L R 0 0 (some v, y, I1, L1, R)) (hm : MOs X 2) (h : At Z.1.2.1 pc (.invokestatic idx) 3 q) (hli : Cond.methodLink Z.1.1.cls idx X.1 ∈ lw_tbl) (hd : d + 1 ≤ Z.2.1.frames ∧ 8 + (X.2.2.1 + 11) + 60 * d ≤ Z.2.1.locals) (hmc : kc + 0 ≤ Z.2.1.cells ∧ ks + 0 ≤ Z.2.1.slots) (hw : (st.map fun v => v.category).sum ≤ 8) (kk : V Z q lv (v :: st) y I1 L1 R kc ks) : V Z pc lv (w2 :: w1 :: st) y I L R kc ks :=
  V_callS (As := [w1, w2]) (mc := 0) (ms := 0) hC hm h hli rfl hd hmc hw rfl kk
theorem V_cv2v {w1 w2 : Value} {k ci nf : Nat} (hC : Ct X d (.ref k :: [w1, w2]) y I L R 0 0 (none, y, I1, L1, R)) (hm : MOv X 2) (h : At Z.1.2.1 pc (.invokevirtual idx) 3 q) (hli : Cond.methodLink Z.1.1.cls idx X.1 ∈ lw_tbl) (hk : y[k]? = some (ci, nf)) (hci : ci < 100 ∧ ∃ r, classes[ci]? = some r ∧ r.1 = X.1.cls) (hd : d + 1 ≤ Z.2.1.frames ∧ 8 + (X.2.2.1 + 11) + 60 * d ≤ Z.2.1.locals) (hmc : kc + 0 ≤ Z.2.1.cells ∧ ks + 0 ≤ Z.2.1.slots) (hw : (st.map fun v => v.category).sum ≤ 8) (kk : V Z q lv st y I1 L1 R kc ks) : V Z pc lv (w2 :: w1 :: .ref k :: st) y I L R kc ks :=
  V_callV (As := [w1, w2]) (mc := 0) (ms := 0) hC hm h hli rfl hk hci hd hmc hw rfl kk
theorem V_cs2v {w1 w2 : Value} (hC : Ct X d [w1, w2] y I L R 0 0 (none, y, I1, L1, R)) (hm : MOs X 2) (h : At Z.1.2.1 pc (.invokestatic idx) 3 q) (hli : Cond.methodLink Z.1.1.cls idx X.1 ∈ lw_tbl) (hd : d + 1 ≤ Z.2.1.frames ∧ 8 + (X.2.2.1 + 11) + 60 * d ≤ Z.2.1.locals) (hmc : kc + 0 ≤ Z.2.1.cells ∧ ks + 0 ≤ Z.2.1.slots) (hw : (st.map fun v => v.category).sum ≤ 8) (kk : V Z q lv st y I1 L1 R kc ks) : V Z pc lv (w2 :: w1 :: st) y I L R kc ks :=
  V_callS (As := [w1, w2]) (mc := 0) (ms := 0) hC hm h hli rfl hd hmc hw rfl kk
theorem V_cv3 {w1 w2 w3 : Value} {k ci nf : Nat} (hC : Ct X d (.ref k :: [w1, w2, w3]) y I L R 0 0 (some v, y, I1, L1, R)) (hm : MOv X 3) (h : At Z.1.2.1 pc (.invokevirtual idx) 3 q) (hli : Cond.methodLink Z.1.1.cls idx X.1 ∈ lw_tbl) (hk : y[k]? = some (ci, nf)) (hci : ci < 100 ∧ ∃ r, classes[ci]? = some r ∧ r.1 = X.1.cls) (hd : d + 1 ≤ Z.2.1.frames ∧ 8 + (X.2.2.1 + 11) + 60 * d ≤ Z.2.1.locals) (hmc : kc + 0 ≤ Z.2.1.cells ∧ ks + 0 ≤ Z.2.1.slots) (hw : (st.map fun v => v.category).sum ≤ 8) (kk : V Z q lv (v :: st) y I1 L1 R kc ks) : V Z pc lv (w3 :: w2 :: w1 :: .ref k :: st) y I L R kc ks :=
  V_callV (As := [w1, w2, w3]) (mc := 0) (ms := 0) hC hm h hli rfl hk hci hd hmc hw rfl kk
theorem V_cs3 {w1 w2 w3 : Value} (hC : Ct X d [w1, w2, w3] y I L R 0 0 (some v, y, I1, L1, R)) (hm : MOs X 3) (h : At Z.1.2.1 pc (.invokestatic idx) 3 q) (hli : Cond.methodLink Z.1.1.cls idx X.1 ∈ lw_tbl) (hd : d + 1 ≤ Z.2.1.frames ∧ 8 + (X.2.2.1 + 11) + 60 * d ≤ Z.2.1.locals) (hmc : kc + 0 ≤ Z.2.1.cells ∧ ks + 0 ≤ Z.2.1.slots) (hw : (st.map fun v => v.category).sum ≤ 8) (kk : V Z q lv (v :: st) y I1 L1 R kc ks) : V Z pc lv (w3 :: w2 :: w1 :: st) y I L R kc ks :=
  V_callS (As := [w1, w2, w3]) (mc := 0) (ms := 0) hC hm h hli rfl hd hmc hw rfl kk
theorem V_cv3v {w1 w2 w3 : Value} {k ci nf : Nat} (hC : Ct X d (.ref k :: [w1, w2, w3]) y I L R 0 0 (none, y, I1, L1, R)) (hm : MOv X 3) (h : At Z.1.2.1 pc (.invokevirtual idx) 3 q) (hli : Cond.methodLink Z.1.1.cls idx X.1 ∈ lw_tbl) (hk : y[k]? = some (ci, nf)) (hci : ci < 100 ∧ ∃ r, classes[ci]? = some r ∧ r.1 = X.1.cls) (hd : d + 1 ≤ Z.2.1.frames ∧ 8 + (X.2.2.1 + 11) + 60 * d ≤ Z.2.1.locals) (hmc : kc + 0 ≤ Z.2.1.cells ∧ ks + 0 ≤ Z.2.1.slots) (hw : (st.map fun v => v.category).sum ≤ 8) (kk : V Z q lv st y I1 L1 R kc ks) : V Z pc lv (w3 :: w2 :: w1 :: .ref k :: st) y I L R kc ks :=
  V_callV (As := [w1, w2, w3]) (mc := 0) (ms := 0) hC hm h hli rfl hk hci hd hmc hw rfl kk
theorem V_cs3v {w1 w2 w3 : Value} (hC : Ct X d [w1, w2, w3] y I L R 0 0 (none, y, I1, L1, R)) (hm : MOs X 3) (h : At Z.1.2.1 pc (.invokestatic idx) 3 q) (hli : Cond.methodLink Z.1.1.cls idx X.1 ∈ lw_tbl) (hd : d + 1 ≤ Z.2.1.frames ∧ 8 + (X.2.2.1 + 11) + 60 * d ≤ Z.2.1.locals) (hmc : kc + 0 ≤ Z.2.1.cells ∧ ks + 0 ≤ Z.2.1.slots) (hw : (st.map fun v => v.category).sum ≤ 8) (kk : V Z q lv st y I1 L1 R kc ks) : V Z pc lv (w3 :: w2 :: w1 :: st) y I L R kc ks :=
  V_callS (As := [w1, w2, w3]) (mc := 0) (ms := 0) hC hm h hli rfl hd hmc hw rfl kk
theorem V_cv4 {w1 w2 w3 w4 : Value} {k ci nf : Nat} (hC : Ct X d (.ref k :: [w1, w2, w3, w4]) y I L R 0 0 (some v, y, I1, L1, R)) (hm : MOv X 4) (h : At Z.1.2.1 pc (.invokevirtual idx) 3 q) (hli : Cond.methodLink Z.1.1.cls idx X.1 ∈ lw_tbl) (hk : y[k]? = some (ci, nf)) (hci : ci < 100 ∧ ∃ r, classes[ci]? = some r ∧ r.1 = X.1.cls) (hd : d + 1 ≤ Z.2.1.frames ∧ 8 + (X.2.2.1 + 11) + 60 * d ≤ Z.2.1.locals) (hmc : kc + 0 ≤ Z.2.1.cells ∧ ks + 0 ≤ Z.2.1.slots) (hw : (st.map fun v => v.category).sum ≤ 8) (kk : V Z q lv (v :: st) y I1 L1 R kc ks) : V Z pc lv (w4 :: w3 :: w2 :: w1 :: .ref k :: st) y I L R kc ks :=
  V_callV (As := [w1, w2, w3, w4]) (mc := 0) (ms := 0) hC hm h hli rfl hk hci hd hmc hw rfl kk
theorem V_cs4 {w1 w2 w3 w4 : Value} (hC : Ct X d [w1, w2, w3, w4] y I L R 0 0 (some v, y, I1, L1, R)) (hm : MOs X 4) (h : At Z.1.2.1 pc (.invokestatic idx) 3 q) (hli : Cond.methodLink Z.1.1.cls idx X.1 ∈ lw_tbl) (hd : d + 1 ≤ Z.2.1.frames ∧ 8 + (X.2.2.1 + 11) + 60 * d ≤ Z.2.1.locals) (hmc : kc + 0 ≤ Z.2.1.cells ∧ ks + 0 ≤ Z.2.1.slots) (hw : (st.map fun v => v.category).sum ≤ 8) (kk : V Z q lv (v :: st) y I1 L1 R kc ks) : V Z pc lv (w4 :: w3 :: w2 :: w1 :: st) y I L R kc ks :=
  V_callS (As := [w1, w2, w3, w4]) (mc := 0) (ms := 0) hC hm h hli rfl hd hmc hw rfl kk
theorem V_cv4v {w1 w2 w3 w4 : Value} {k ci nf : Nat} (hC : Ct X d (.ref k :: [w1, w2, w3, w4]) y I L R 0 0 (none, y, I1, L1, R)) (hm : MOv X 4) (h : At Z.1.2.1 pc (.invokevirtual idx) 3 q) (hli : Cond.methodLink Z.1.1.cls idx X.1 ∈ lw_tbl) (hk : y[k]? = some (ci, nf)) (hci : ci < 100 ∧ ∃ r, classes[ci]? = some r ∧ r.1 = X.1.cls) (hd : d + 1 ≤ Z.2.1.frames ∧ 8 + (X.2.2.1 + 11) + 60 * d ≤ Z.2.1.locals) (hmc : kc + 0 ≤ Z.2.1.cells ∧ ks + 0 ≤ Z.2.1.slots) (hw : (st.map fun v => v.category).sum ≤ 8) (kk : V Z q lv st y I1 L1 R kc ks) : V Z pc lv (w4 :: w3 :: w2 :: w1 :: .ref k :: st) y I L R kc ks :=
  V_callV (As := [w1, w2, w3, w4]) (mc := 0) (ms := 0) hC hm h hli rfl hk hci hd hmc hw rfl kk
theorem V_cs4v {w1 w2 w3 w4 : Value} (hC : Ct X d [w1, w2, w3, w4] y I L R 0 0 (none, y, I1, L1, R)) (hm : MOs X 4) (h : At Z.1.2.1 pc (.invokestatic idx) 3 q) (hli : Cond.methodLink Z.1.1.cls idx X.1 ∈ lw_tbl) (hd : d + 1 ≤ Z.2.1.frames ∧ 8 + (X.2.2.1 + 11) + 60 * d ≤ Z.2.1.locals) (hmc : kc + 0 ≤ Z.2.1.cells ∧ ks + 0 ≤ Z.2.1.slots) (hw : (st.map fun v => v.category).sum ≤ 8) (kk : V Z q lv st y I1 L1 R kc ks) : V Z pc lv (w4 :: w3 :: w2 :: w1 :: st) y I L R kc ks :=
  V_callS (As := [w1, w2, w3, w4]) (mc := 0) (ms := 0) hC hm h hli rfl hd hmc hw rfl kk
theorem V_cv5 {w1 w2 w3 w4 w5 : Value} {k ci nf : Nat} (hC : Ct X d (.ref k :: [w1, w2, w3, w4, w5]) y I L R 0 0 (some v, y, I1, L1, R)) (hm : MOv X 5) (h : At Z.1.2.1 pc (.invokevirtual idx) 3 q) (hli : Cond.methodLink Z.1.1.cls idx X.1 ∈ lw_tbl) (hk : y[k]? = some (ci, nf)) (hci : ci < 100 ∧ ∃ r, classes[ci]? = some r ∧ r.1 = X.1.cls) (hd : d + 1 ≤ Z.2.1.frames ∧ 8 + (X.2.2.1 + 11) + 60 * d ≤ Z.2.1.locals) (hmc : kc + 0 ≤ Z.2.1.cells ∧ ks + 0 ≤ Z.2.1.slots) (hw : (st.map fun v => v.category).sum ≤ 8) (kk : V Z q lv (v :: st) y I1 L1 R kc ks) : V Z pc lv (w5 :: w4 :: w3 :: w2 :: w1 :: .ref k :: st) y I L R kc ks :=
  V_callV (As := [w1, w2, w3, w4, w5]) (mc := 0) (ms := 0) hC hm h hli rfl hk hci hd hmc hw rfl kk
theorem V_cs5 {w1 w2 w3 w4 w5 : Value} (hC : Ct X d [w1, w2, w3, w4, w5] y I L R 0 0 (some v, y, I1, L1, R)) (hm : MOs X 5) (h : At Z.1.2.1 pc (.invokestatic idx) 3 q) (hli : Cond.methodLink Z.1.1.cls idx X.1 ∈ lw_tbl) (hd : d + 1 ≤ Z.2.1.frames ∧ 8 + (X.2.2.1 + 11) + 60 * d ≤ Z.2.1.locals) (hmc : kc + 0 ≤ Z.2.1.cells ∧ ks + 0 ≤ Z.2.1.slots) (hw : (st.map fun v => v.category).sum ≤ 8) (kk : V Z q lv (v :: st) y I1 L1 R kc ks) : V Z pc lv (w5 :: w4 :: w3 :: w2 :: w1 :: st) y I L R kc ks :=
  V_callS (As := [w1, w2, w3, w4, w5]) (mc := 0) (ms := 0) hC hm h hli rfl hd hmc hw rfl kk
theorem V_cv5v {w1 w2 w3 w4 w5 : Value} {k ci nf : Nat} (hC : Ct X d (.ref k :: [w1, w2, w3, w4, w5]) y I L R 0 0 (none, y, I1, L1, R)) (hm : MOv X 5) (h : At Z.1.2.1 pc (.invokevirtual idx) 3 q) (hli : Cond.methodLink Z.1.1.cls idx X.1 ∈ lw_tbl) (hk : y[k]? = some (ci, nf)) (hci : ci < 100 ∧ ∃ r, classes[ci]? = some r ∧ r.1 = X.1.cls) (hd : d + 1 ≤ Z.2.1.frames ∧ 8 + (X.2.2.1 + 11) + 60 * d ≤ Z.2.1.locals) (hmc : kc + 0 ≤ Z.2.1.cells ∧ ks + 0 ≤ Z.2.1.slots) (hw : (st.map fun v => v.category).sum ≤ 8) (kk : V Z q lv st y I1 L1 R kc ks) : V Z pc lv (w5 :: w4 :: w3 :: w2 :: w1 :: .ref k :: st) y I L R kc ks :=
  V_callV (As := [w1, w2, w3, w4, w5]) (mc := 0) (ms := 0) hC hm h hli rfl hk hci hd hmc hw rfl kk
theorem V_cs5v {w1 w2 w3 w4 w5 : Value} (hC : Ct X d [w1, w2, w3, w4, w5] y I L R 0 0 (none, y, I1, L1, R)) (hm : MOs X 5) (h : At Z.1.2.1 pc (.invokestatic idx) 3 q) (hli : Cond.methodLink Z.1.1.cls idx X.1 ∈ lw_tbl) (hd : d + 1 ≤ Z.2.1.frames ∧ 8 + (X.2.2.1 + 11) + 60 * d ≤ Z.2.1.locals) (hmc : kc + 0 ≤ Z.2.1.cells ∧ ks + 0 ≤ Z.2.1.slots) (hw : (st.map fun v => v.category).sum ≤ 8) (kk : V Z q lv st y I1 L1 R kc ks) : V Z pc lv (w5 :: w4 :: w3 :: w2 :: w1 :: st) y I L R kc ks :=
  V_callS (As := [w1, w2, w3, w4, w5]) (mc := 0) (ms := 0) hC hm h hli rfl hd hmc hw rfl kk
theorem V_cv6 {w1 w2 w3 w4 w5 w6 : Value} {k ci nf : Nat} (hC : Ct X d (.ref k :: [w1, w2, w3, w4, w5, w6]) y I L R 0 0 (some v, y, I1, L1, R)) (hm : MOv X 6) (h : At Z.1.2.1 pc (.invokevirtual idx) 3 q) (hli : Cond.methodLink Z.1.1.cls idx X.1 ∈ lw_tbl) (hk : y[k]? = some (ci, nf)) (hci : ci < 100 ∧ ∃ r, classes[ci]? = some r ∧ r.1 = X.1.cls) (hd : d + 1 ≤ Z.2.1.frames ∧ 8 + (X.2.2.1 + 11) + 60 * d ≤ Z.2.1.locals) (hmc : kc + 0 ≤ Z.2.1.cells ∧ ks + 0 ≤ Z.2.1.slots) (hw : (st.map fun v => v.category).sum ≤ 8) (kk : V Z q lv (v :: st) y I1 L1 R kc ks) : V Z pc lv (w6 :: w5 :: w4 :: w3 :: w2 :: w1 :: .ref k :: st) y I L R kc ks :=
  V_callV (As := [w1, w2, w3, w4, w5, w6]) (mc := 0) (ms := 0) hC hm h hli rfl hk hci hd hmc hw rfl kk
theorem V_cs6 {w1 w2 w3 w4 w5 w6 : Value} (hC : Ct X d [w1, w2, w3, w4, w5, w6] y I L R 0 0 (some v, y, I1, L1, R)) (hm : MOs X 6) (h : At Z.1.2.1 pc (.invokestatic idx) 3 q) (hli : Cond.methodLink Z.1.1.cls idx X.1 ∈ lw_tbl) (hd : d + 1 ≤ Z.2.1.frames ∧ 8 + (X.2.2.1 + 11) + 60 * d ≤ Z.2.1.locals) (hmc : kc + 0 ≤ Z.2.1.cells ∧ ks + 0 ≤ Z.2.1.slots) (hw : (st.map fun v => v.category).sum ≤ 8) (kk : V Z q lv (v :: st) y I1 L1 R kc ks) : V Z pc lv (w6 :: w5 :: w4 :: w3 :: w2 :: w1 :: st) y I L R kc ks :=
  V_callS (As := [w1, w2, w3, w4, w5, w6]) (mc := 0) (ms := 0) hC hm h hli rfl hd hmc hw rfl kk
theorem V_cv6v {w1 w2 w3 w4 w5 w6 : Value} {k ci nf : Nat} (hC : Ct X d (.ref k :: [w1, w2, w3, w4, w5, w6]) y I L R 0 0 (none, y, I1, L1, R)) (hm : MOv X 6) (h : At Z.1.2.1 pc (.invokevirtual idx) 3 q) (hli : Cond.methodLink Z.1.1.cls idx X.1 ∈ lw_tbl) (hk : y[k]? = some (ci, nf)) (hci : ci < 100 ∧ ∃ r, classes[ci]? = some r ∧ r.1 = X.1.cls) (hd : d + 1 ≤ Z.2.1.frames ∧ 8 + (X.2.2.1 + 11) + 60 * d ≤ Z.2.1.locals) (hmc : kc + 0 ≤ Z.2.1.cells ∧ ks + 0 ≤ Z.2.1.slots) (hw : (st.map fun v => v.category).sum ≤ 8) (kk : V Z q lv st y I1 L1 R kc ks) : V Z pc lv (w6 :: w5 :: w4 :: w3 :: w2 :: w1 :: .ref k :: st) y I L R kc ks :=
  V_callV (As := [w1, w2, w3, w4, w5, w6]) (mc := 0) (ms := 0) hC hm h hli rfl hk hci hd hmc hw rfl kk
theorem V_cs6v {w1 w2 w3 w4 w5 w6 : Value} (hC : Ct X d [w1, w2, w3, w4, w5, w6] y I L R 0 0 (none, y, I1, L1, R)) (hm : MOs X 6) (h : At Z.1.2.1 pc (.invokestatic idx) 3 q) (hli : Cond.methodLink Z.1.1.cls idx X.1 ∈ lw_tbl) (hd : d + 1 ≤ Z.2.1.frames ∧ 8 + (X.2.2.1 + 11) + 60 * d ≤ Z.2.1.locals) (hmc : kc + 0 ≤ Z.2.1.cells ∧ ks + 0 ≤ Z.2.1.slots) (hw : (st.map fun v => v.category).sum ≤ 8) (kk : V Z q lv st y I1 L1 R kc ks) : V Z pc lv (w6 :: w5 :: w4 :: w3 :: w2 :: w1 :: st) y I L R kc ks :=
  V_callS (As := [w1, w2, w3, w4, w5, w6]) (mc := 0) (ms := 0) hC hm h hli rfl hd hmc hw rfl kk
theorem V_cv7 {w1 w2 w3 w4 w5 w6 w7 : Value} {k ci nf : Nat} (hC : Ct X d (.ref k :: [w1, w2, w3, w4, w5, w6, w7]) y I L R 0 0 (some v, y, I1, L1, R)) (hm : MOv X 7) (h : At Z.1.2.1 pc (.invokevirtual idx) 3 q) (hli : Cond.methodLink Z.1.1.cls idx X.1 ∈ lw_tbl) (hk : y[k]? = some (ci, nf)) (hci : ci < 100 ∧ ∃ r, classes[ci]? = some r ∧ r.1 = X.1.cls) (hd : d + 1 ≤ Z.2.1.frames ∧ 8 + (X.2.2.1 + 11) + 60 * d ≤ Z.2.1.locals) (hmc : kc + 0 ≤ Z.2.1.cells ∧ ks + 0 ≤ Z.2.1.slots) (hw : (st.map fun v => v.category).sum ≤ 8) (kk : V Z q lv (v :: st) y I1 L1 R kc ks) : V Z pc lv (w7 :: w6 :: w5 :: w4 :: w3 :: w2 :: w1 :: .ref k :: st) y I L R kc ks :=
  V_callV (As := [w1, w2, w3, w4, w5, w6, w7]) (mc := 0) (ms := 0) hC hm h hli rfl hk hci hd hmc hw rfl kk
theorem V_cs7 {w1 w2 w3 w4 w5 w6 w7 : Value} (hC : Ct X d [w1, w2, w3, w4, w5, w6, w7] y I L R 0 0 (some v, y, I1, L1, R)) (hm : MOs X 7) (h : At Z.1.2.1 pc (.invokestatic idx) 3 q) (hli : Cond.methodLink Z.1.1.cls idx X.1 ∈ lw_tbl) (hd : d + 1 ≤ Z.2.1.frames ∧ 8 + (X.2.2.1 + 11) + 60 * d ≤ Z.2.1.locals) (hmc : kc + 0 ≤ Z.2.1.cells ∧ ks + 0 ≤ Z.2.1.slots) (hw : (st.map fun v => v.category).sum ≤ 8) (kk : V Z q lv (v :: st) y I1 L1 R kc ks) : V Z pc lv (w7 :: w6 :: w5 :: w4 :: w3 :: w2 :: w1 :: st) y I L R kc ks :=
  V_callS (As := [w1, w2, w3, w4, w5, w6, w7]) (mc := 0) (ms := 0) hC hm h hli rfl hd hmc hw rfl kk
theorem V_cv7v {w1 w2 w3 w4 w5 w6 w7 : Value} {k ci nf : Nat} (hC : Ct X d (.ref k :: [w1, w2, w3, w4, w5, w6, w7]) y I L R 0 0 (none, y, I1, L1, R)) (hm : MOv X 7) (h : At Z.1.2.1 pc (.invokevirtual idx) 3 q) (hli : Cond.methodLink Z.1.1.cls idx X.1 ∈ lw_tbl) (hk : y[k]? = some (ci, nf)) (hci : ci < 100 ∧ ∃ r, classes[ci]? = some r ∧ r.1 = X.1.cls) (hd : d + 1 ≤ Z.2.1.frames ∧ 8 + (X.2.2.1 + 11) + 60 * d ≤ Z.2.1.locals) (hmc : kc + 0 ≤ Z.2.1.cells ∧ ks + 0 ≤ Z.2.1.slots) (hw : (st.map fun v => v.category).sum ≤ 8) (kk : V Z q lv st y I1 L1 R kc ks) : V Z pc lv (w7 :: w6 :: w5 :: w4 :: w3 :: w2 :: w1 :: .ref k :: st) y I L R kc ks :=
  V_callV (As := [w1, w2, w3, w4, w5, w6, w7]) (mc := 0) (ms := 0) hC hm h hli rfl hk hci hd hmc hw rfl kk
theorem V_cs7v {w1 w2 w3 w4 w5 w6 w7 : Value} (hC : Ct X d [w1, w2, w3, w4, w5, w6, w7] y I L R 0 0 (none, y, I1, L1, R)) (hm : MOs X 7) (h : At Z.1.2.1 pc (.invokestatic idx) 3 q) (hli : Cond.methodLink Z.1.1.cls idx X.1 ∈ lw_tbl) (hd : d + 1 ≤ Z.2.1.frames ∧ 8 + (X.2.2.1 + 11) + 60 * d ≤ Z.2.1.locals) (hmc : kc + 0 ≤ Z.2.1.cells ∧ ks + 0 ≤ Z.2.1.slots) (hw : (st.map fun v => v.category).sum ≤ 8) (kk : V Z q lv st y I1 L1 R kc ks) : V Z pc lv (w7 :: w6 :: w5 :: w4 :: w3 :: w2 :: w1 :: st) y I L R kc ks :=
  V_callS (As := [w1, w2, w3, w4, w5, w6, w7]) (mc := 0) (ms := 0) hC hm h hli rfl hd hmc hw rfl kk
theorem V_cv8 {w1 w2 w3 w4 w5 w6 w7 w8 : Value} {k ci nf : Nat} (hC : Ct X d (.ref k :: [w1, w2, w3, w4, w5, w6, w7, w8]) y I L R 0 0 (some v, y, I1, L1, R)) (hm : MOv X 8) (h : At Z.1.2.1 pc (.invokevirtual idx) 3 q) (hli : Cond.methodLink Z.1.1.cls idx X.1 ∈ lw_tbl) (hk : y[k]? = some (ci, nf)) (hci : ci < 100 ∧ ∃ r, classes[ci]? = some r ∧ r.1 = X.1.cls) (hd : d + 1 ≤ Z.2.1.frames ∧ 8 + (X.2.2.1 + 11) + 60 * d ≤ Z.2.1.locals) (hmc : kc + 0 ≤ Z.2.1.cells ∧ ks + 0 ≤ Z.2.1.slots) (hw : (st.map fun v => v.category).sum ≤ 8) (kk : V Z q lv (v :: st) y I1 L1 R kc ks) : V Z pc lv (w8 :: w7 :: w6 :: w5 :: w4 :: w3 :: w2 :: w1 :: .ref k :: st) y I L R kc ks :=
  V_callV (As := [w1, w2, w3, w4, w5, w6, w7, w8]) (mc := 0) (ms := 0) hC hm h hli rfl hk hci hd hmc hw rfl kk
theorem V_cs8 {w1 w2 w3 w4 w5 w6 w7 w8 : Value} (hC : Ct X d [w1, w2, w3, w4, w5, w6, w7, w8] y I L R 0 0 (some v, y, I1, L1, R)) (hm : MOs X 8) (h : At Z.1.2.1 pc (.invokestatic idx) 3 q) (hli : Cond.methodLink Z.1.1.cls idx X.1 ∈ lw_tbl) (hd : d + 1 ≤ Z.2.1.frames ∧ 8 + (X.2.2.1 + 11) + 60 * d ≤ Z.2.1.locals) (hmc : kc + 0 ≤ Z.2.1.cells ∧ ks + 0 ≤ Z.2.1.slots) (hw : (st.map fun v => v.category).sum ≤ 8) (kk : V Z q lv (v :: st) y I1 L1 R kc ks) : V Z pc lv (w8 :: w7 :: w6 :: w5 :: w4 :: w3 :: w2 :: w1 :: st) y I L R kc ks :=
  V_callS (As := [w1, w2, w3, w4, w5, w6, w7, w8]) (mc := 0) (ms := 0) hC hm h hli rfl hd hmc hw rfl kk
theorem V_cv8v {w1 w2 w3 w4 w5 w6 w7 w8 : Value} {k ci nf : Nat} (hC : Ct X d (.ref k :: [w1, w2, w3, w4, w5, w6, w7, w8]) y I L R 0 0 (none, y, I1, L1, R)) (hm : MOv X 8) (h : At Z.1.2.1 pc (.invokevirtual idx) 3 q) (hli : Cond.methodLink Z.1.1.cls idx X.1 ∈ lw_tbl) (hk : y[k]? = some (ci, nf)) (hci : ci < 100 ∧ ∃ r, classes[ci]? = some r ∧ r.1 = X.1.cls) (hd : d + 1 ≤ Z.2.1.frames ∧ 8 + (X.2.2.1 + 11) + 60 * d ≤ Z.2.1.locals) (hmc : kc + 0 ≤ Z.2.1.cells ∧ ks + 0 ≤ Z.2.1.slots) (hw : (st.map fun v => v.category).sum ≤ 8) (kk : V Z q lv st y I1 L1 R kc ks) : V Z pc lv (w8 :: w7 :: w6 :: w5 :: w4 :: w3 :: w2 :: w1 :: .ref k :: st) y I L R kc ks :=
  V_callV (As := [w1, w2, w3, w4, w5, w6, w7, w8]) (mc := 0) (ms := 0) hC hm h hli rfl hk hci hd hmc hw rfl kk
theorem V_cs8v {w1 w2 w3 w4 w5 w6 w7 w8 : Value} (hC : Ct X d [w1, w2, w3, w4, w5, w6, w7, w8] y I L R 0 0 (none, y, I1, L1, R)) (hm : MOs X 8) (h : At Z.1.2.1 pc (.invokestatic idx) 3 q) (hli : Cond.methodLink Z.1.1.cls idx X.1 ∈ lw_tbl) (hd : d + 1 ≤ Z.2.1.frames ∧ 8 + (X.2.2.1 + 11) + 60 * d ≤ Z.2.1.locals) (hmc : kc + 0 ≤ Z.2.1.cells ∧ ks + 0 ≤ Z.2.1.slots) (hw : (st.map fun v => v.category).sum ≤ 8) (kk : V Z q lv st y I1 L1 R kc ks) : V Z pc lv (w8 :: w7 :: w6 :: w5 :: w4 :: w3 :: w2 :: w1 :: st) y I L R kc ks :=
  V_callS (As := [w1, w2, w3, w4, w5, w6, w7, w8]) (mc := 0) (ms := 0) hC hm h hli rfl hd hmc hw rfl kk
end CallN
theorem swj {x : Int32} {n : Nat} (h : x = Int32.ofNat n) (hn : n < 2 ^ 31 := by decide) : x.toInt = (n : Int) + 0 := by
  rw [h]
  have := nI_toInt (n := n) hn
  unfold nI at this
  omega
theorem V_tswJ {Z : Cx} {pc q : Nat} {lv : List (Nat × Value)} {st : List Value} {y : Ly} {I : WI} {L : WL} {R : WR} {kc ks : Nat} {x : Int32} {dflt hi : Int} {offs : Array Int} {n tgt : Nat} {off : Int} (j : Nat) (h : At Z.1.2.1 pc (.tableswitch dflt 0 hi offs) n q) (hx : x.toInt = (j : Int) + 0) (ho : offs[j]? = some off ∧ (j : Int) ≤ hi) (ht : (pc : Int) + off = (tgt : Int)) (k : V Z tgt lv st y I L R kc ks) : V Z pc lv (.int x :: st) y I L R kc ks := by
  obtain ⟨h, rfl⟩ := h
  intro E p l e s m args below meth c H locs ls F D N S hl
  exact lv_tableIn F.1 F.2.1 h (by omega) (by omega) (by rw [show (x.toInt - 0).toNat = j by omega]; exact ho.1) ht (k E p l e s m args below meth c H locs ls F D N S hl)
theorem V_tswD {Z : Cx} {pc q : Nat} {lv : List (Nat × Value)} {st : List Value} {y : Ly} {I : WI} {L : WL} {R : WR} {kc ks : Nat} {x : Int32} {dflt hi : Int} {offs : Array Int} {n tgt : Nat} (h : At Z.1.2.1 pc (.tableswitch dflt 0 hi offs) n q) (hx : ∀ m : Int, hi = m → x.toInt < 0 ∨ m < x.toInt) (ht : (pc : Int) + dflt = (tgt : Int)) (k : V Z tgt lv st y I L R kc ks) : V Z pc lv (.int x :: st) y I L R kc ks := by
  obtain ⟨h, rfl⟩ := h
  intro E p l e s m args below meth c H locs ls F D N S hl
  exact lv_tableOut F.1 F.2.1 h (hx _ rfl) ht (k E p l e s m args below meth c H locs ls F D N S hl)
theorem neT {x y : Int32} (h : ¬ x = y) : ¬ x.toInt = y.toInt := fun e => h (Int32.toInt_inj.mp e)
theorem sw3 {x : Int32} (h0 : ¬ x = 0) (h1 : ¬ x = 1) (h2 : ¬ x = 2) : ∀ m : Int, (2 : Int) = m → x.toInt < 0 ∨ m < x.toInt := by
  intro m hm
  have e0 := neT h0
  rw [show (0 : Int32).toInt = 0 from rfl] at e0
  have e1 := neT h1
  rw [show (1 : Int32).toInt = 1 from rfl] at e1
  have e2 := neT h2
  rw [show (2 : Int32).toInt = 2 from rfl] at e2
  omega
theorem sw5 {x : Int32} (h0 : ¬ x = 0) (h1 : ¬ x = 1) (h2 : ¬ x = 2) (h3 : ¬ x = 3) (h4 : ¬ x = 4) : ∀ m : Int, (4 : Int) = m → x.toInt < 0 ∨ m < x.toInt := by
  intro m hm
  have e0 := neT h0
  rw [show (0 : Int32).toInt = 0 from rfl] at e0
  have e1 := neT h1
  rw [show (1 : Int32).toInt = 1 from rfl] at e1
  have e2 := neT h2
  rw [show (2 : Int32).toInt = 2 from rfl] at e2
  have e3 := neT h3
  rw [show (3 : Int32).toInt = 3 from rfl] at e3
  have e4 := neT h4
  rw [show (4 : Int32).toInt = 4 from rfl] at e4
  omega
theorem sw6 {x : Int32} (h0 : ¬ x = 0) (h1 : ¬ x = 1) (h2 : ¬ x = 2) (h3 : ¬ x = 3) (h4 : ¬ x = 4) (h5 : ¬ x = 5) : ∀ m : Int, (5 : Int) = m → x.toInt < 0 ∨ m < x.toInt := by
  intro m hm
  have e0 := neT h0
  rw [show (0 : Int32).toInt = 0 from rfl] at e0
  have e1 := neT h1
  rw [show (1 : Int32).toInt = 1 from rfl] at e1
  have e2 := neT h2
  rw [show (2 : Int32).toInt = 2 from rfl] at e2
  have e3 := neT h3
  rw [show (3 : Int32).toInt = 3 from rfl] at e3
  have e4 := neT h4
  rw [show (4 : Int32).toInt = 4 from rfl] at e4
  have e5 := neT h5
  rw [show (5 : Int32).toInt = 5 from rfl] at e5
  omega
theorem ic_0 : Int32.ofInt 0 = (0 : Int32) := by decide +kernel
theorem ic_4 : Int32.ofInt 4 = (4 : Int32) := by decide +kernel
theorem ic_1 : Int32.ofInt 1 = (1 : Int32) := by decide +kernel
theorem bp_64 : (Int8.ofInt 64).toInt32 = (64 : Int32) := by decide +kernel
theorem bp_8 : (Int8.ofInt 8).toInt32 = (8 : Int32) := by decide +kernel
theorem ic_2 : Int32.ofInt 2 = (2 : Int32) := by decide +kernel
theorem bp_16 : (Int8.ofInt 16).toInt32 = (16 : Int32) := by decide +kernel
theorem bp_32 : (Int8.ofInt 32).toInt32 = (32 : Int32) := by decide +kernel
theorem bp_127 : (Int8.ofInt 127).toInt32 = (127 : Int32) := by decide +kernel
theorem ic_3 : Int32.ofInt 3 = (3 : Int32) := by decide +kernel
theorem nl_12 : Int32.ofNat 12 = (12 : Int32) := by decide +kernel
theorem nl_36 : Int32.ofNat 36 = (36 : Int32) := by decide +kernel
theorem ti_12 : (12 : Int32).toInt = ((12 : Nat) : Int) := by decide +kernel
theorem bp_20 : (Int8.ofInt 20).toInt32 = (20 : Int32) := by decide +kernel
theorem ti_36 : (36 : Int32).toInt = ((36 : Nat) : Int) := by decide +kernel
theorem nl_40 : Int32.ofNat 40 = (40 : Int32) := by decide +kernel
theorem ti_40 : (40 : Int32).toInt = ((40 : Nat) : Int) := by decide +kernel
theorem bp_m4 : (Int8.ofInt (-4)).toInt32 = ((-4) : Int32) := by decide +kernel
theorem sp_312 : (Int16.ofInt 312).toInt32 = (312 : Int32) := by decide +kernel
theorem nl_320 : Int32.ofNat 320 = (320 : Int32) := by decide +kernel
theorem bp_56 : (Int8.ofInt 56).toInt32 = (56 : Int32) := by decide +kernel
theorem ti_320 : (320 : Int32).toInt = ((320 : Nat) : Int) := by decide +kernel
theorem bp_97 : (Int8.ofInt 97).toInt32 = (97 : Int32) := by decide +kernel
theorem bp_122 : (Int8.ofInt 122).toInt32 = (122 : Int32) := by decide +kernel
theorem bp_48 : (Int8.ofInt 48).toInt32 = (48 : Int32) := by decide +kernel
theorem bp_57 : (Int8.ofInt 57).toInt32 = (57 : Int32) := by decide +kernel
theorem bp_10 : (Int8.ofInt 10).toInt32 = (10 : Int32) := by decide +kernel
theorem bp_59 : (Int8.ofInt 59).toInt32 = (59 : Int32) := by decide +kernel
theorem bp_100 : (Int8.ofInt 100).toInt32 = (100 : Int32) := by decide +kernel
theorem bp_108 : (Int8.ofInt 108).toInt32 = (108 : Int32) := by decide +kernel
theorem ic_5 : Int32.ofInt 5 = (5 : Int32) := by decide +kernel
theorem ic_m1 : Int32.ofInt (-1) = ((-1) : Int32) := by decide +kernel
theorem bp_14 : (Int8.ofInt 14).toInt32 = (14 : Int32) := by decide +kernel
theorem bp_7 : (Int8.ofInt 7).toInt32 = (7 : Int32) := by decide +kernel
theorem bp_12 : (Int8.ofInt 12).toInt32 = (12 : Int32) := by decide +kernel
theorem bp_6 : (Int8.ofInt 6).toInt32 = (6 : Int32) := by decide +kernel
theorem sp_320 : (Int16.ofInt 320).toInt32 = (320 : Int32) := by decide +kernel
theorem bp_m10 : (Int8.ofInt (-10)).toInt32 = ((-10) : Int32) := by decide +kernel
theorem bp_63 : (Int8.ofInt 63).toInt32 = (63 : Int32) := by decide +kernel
theorem bp_60 : (Int8.ofInt 60).toInt32 = (60 : Int32) := by decide +kernel
theorem nl_15 : Int32.ofNat 15 = (15 : Int32) := by decide +kernel
theorem nl_64 : Int32.ofNat 64 = (64 : Int32) := by decide +kernel
theorem bp_m3 : (Int8.ofInt (-3)).toInt32 = ((-3) : Int32) := by decide +kernel
theorem bp_m2 : (Int8.ofInt (-2)).toInt32 = ((-2) : Int32) := by decide +kernel
theorem nl_31 : Int32.ofNat 31 = (31 : Int32) := by decide +kernel
theorem bp_40 : (Int8.ofInt 40).toInt32 = (40 : Int32) := by decide +kernel
theorem bp_m14 : (Int8.ofInt (-14)).toInt32 = ((-14) : Int32) := by decide +kernel
theorem bp_m12 : (Int8.ofInt (-12)).toInt32 = ((-12) : Int32) := by decide +kernel
theorem bp_m11 : (Int8.ofInt (-11)).toInt32 = ((-11) : Int32) := by decide +kernel
theorem bp_m20 : (Int8.ofInt (-20)).toInt32 = ((-20) : Int32) := by decide +kernel
theorem ic_m8 : Int32.ofInt (-8) = ((-8) : Int32) := by decide +kernel
theorem bp_99 : (Int8.ofInt 99).toInt32 = (99 : Int32) := by decide +kernel
theorem bp_111 : (Int8.ofInt 111).toInt32 = (111 : Int32) := by decide +kernel
theorem bp_112 : (Int8.ofInt 112).toInt32 = (112 : Int32) := by decide +kernel
theorem bp_116 : (Int8.ofInt 116).toInt32 = (116 : Int32) := by decide +kernel
theorem bp_121 : (Int8.ofInt 121).toInt32 = (121 : Int32) := by decide +kernel
theorem bp_101 : (Int8.ofInt 101).toInt32 = (101 : Int32) := by decide +kernel
theorem bp_114 : (Int8.ofInt 114).toInt32 = (114 : Int32) := by decide +kernel
theorem bp_110 : (Int8.ofInt 110).toInt32 = (110 : Int32) := by decide +kernel
theorem bp_11 : (Int8.ofInt 11).toInt32 = (11 : Int32) := by decide +kernel
theorem bp_104 : (Int8.ofInt 104).toInt32 = (104 : Int32) := by decide +kernel
theorem bp_119 : (Int8.ofInt 119).toInt32 = (119 : Int32) := by decide +kernel
theorem bp_115 : (Int8.ofInt 115).toInt32 = (115 : Int32) := by decide +kernel
theorem bp_117 : (Int8.ofInt 117).toInt32 = (117 : Int32) := by decide +kernel
theorem bp_109 : (Int8.ofInt 109).toInt32 = (109 : Int32) := by decide +kernel
theorem bp_65 : (Int8.ofInt 65).toInt32 = (65 : Int32) := by decide +kernel
theorem bp_9 : (Int8.ofInt 9).toInt32 = (9 : Int32) := by decide +kernel
theorem nl_4 : Int32.ofNat 4 = (4 : Int32) := by decide +kernel
theorem ti_4 : (4 : Int32).toInt = ((4 : Nat) : Int) := by decide +kernel
theorem bp_36 : (Int8.ofInt 36).toInt32 = (36 : Int32) := by decide +kernel
theorem bp_15 : (Int8.ofInt 15).toInt32 = (15 : Int32) := by decide +kernel
theorem bp_31 : (Int8.ofInt 31).toInt32 = (31 : Int32) := by decide +kernel
theorem fk_X0_18 : FK RX0 18 0 4 0 3 false := ⟨RX0, TX0, tyX0, cf_X0, by decide, gw_in fl_X0_18 rfl, rfl, rfl⟩
theorem fk_X0_11 : FK RX0 11 0 4 1 0 false := ⟨RX0, TX0, tyX0, cf_X0, by decide, gw_in fl_X0_11 rfl, rfl, rfl⟩
theorem fk_X0_15 : FK RX0 15 0 4 2 0 false := ⟨RX0, TX0, tyX0, cf_X0, by decide, gw_in fl_X0_15 rfl, rfl, rfl⟩
theorem fk_X0_22 : FK RX0 22 0 4 3 1 false := ⟨RX0, TX0, tyX0, cf_X0, by decide, gw_in fl_X0_22 rfl, rfl, rfl⟩
theorem fk_X1_16 : FK RX1 16 1 3 0 0 false := ⟨RX1, TX1, tyX1, cf_X1, by decide, gw_in fl_X1_16 rfl, rfl, rfl⟩
theorem fk_X1_9 : FK RX1 9 1 3 1 2 true := ⟨RX1, TX1, tyX1, cf_X1, by decide, gw_in fl_X1_9 rfl, rfl, rfl⟩
theorem fk_X1_13 : FK RX1 13 1 3 2 2 true := ⟨RX1, TX1, tyX1, cf_X1, by decide, gw_in fl_X1_13 rfl, rfl, rfl⟩
theorem fk_X2_19 : FK RX2 19 0 4 3 1 false := ⟨RX0, TX0, tyX0, cf_X0, by decide, gw_in fl_X2_19 rfl, rfl, rfl⟩
theorem fk_X2_27 : FK RX2 27 0 4 1 0 false := ⟨RX0, TX0, tyX0, cf_X0, by decide, gw_in fl_X2_27 rfl, rfl, rfl⟩
theorem fk_X2_31 : FK RX2 31 0 4 2 0 false := ⟨RX0, TX0, tyX0, cf_X0, by decide, gw_in fl_X2_31 rfl, rfl, rfl⟩
theorem fk_X2_34 : FK RX2 34 2 4 2 1 false := ⟨RX2, TX2, tyX2, cf_X2, by decide, gw_in fl_X2_34 rfl, rfl, rfl⟩
theorem fk_X2_39 : FK RX2 39 2 4 3 0 false := ⟨RX2, TX2, tyX2, cf_X2, by decide, gw_in fl_X2_39 rfl, rfl, rfl⟩
theorem fk_X2_42 : FK RX2 42 2 4 0 0 false := ⟨RX2, TX2, tyX2, cf_X2, by decide, gw_in fl_X2_42 rfl, rfl, rfl⟩
theorem fk_X2_43 : FK RX2 43 2 4 1 0 false := ⟨RX2, TX2, tyX2, cf_X2, by decide, gw_in fl_X2_43 rfl, rfl, rfl⟩
theorem fk_X3_9 : FK RX3 9 3 3 0 0 false := ⟨RX3, TX3, tyX3, cf_X3, by decide, gw_in fl_X3_9 rfl, rfl, rfl⟩
theorem fk_X3_19 : FK RX3 19 3 3 1 0 false := ⟨RX3, TX3, tyX3, cf_X3, by decide, gw_in fl_X3_19 rfl, rfl, rfl⟩
theorem fk_X3_15 : FK RX3 15 3 3 2 2 true := ⟨RX3, TX3, tyX3, cf_X3, by decide, gw_in fl_X3_15 rfl, rfl, rfl⟩
theorem fk_X4_26 : FK RX4 26 3 3 0 0 false := ⟨RX3, TX3, tyX3, cf_X3, by decide, gw_in fl_X4_26 rfl, rfl, rfl⟩
theorem fk_X5_13 : FK RX5 13 5 2 0 0 false := ⟨RX5, TX5, tyX5, cf_X5, by decide, gw_in fl_X5_13 rfl, rfl, rfl⟩
theorem fk_X5_9 : FK RX5 9 5 2 1 2 true := ⟨RX5, TX5, tyX5, cf_X5, by decide, gw_in fl_X5_9 rfl, rfl, rfl⟩
theorem fk_X6_40 : FK RX6 40 6 10 3 0 false := ⟨RX6, TX6, tyX6, cf_X6, by decide, gw_in fl_X6_40 rfl, rfl, rfl⟩
theorem fk_X6_59 : FK RX6 59 6 10 7 0 false := ⟨RX6, TX6, tyX6, cf_X6, by decide, gw_in fl_X6_59 rfl, rfl, rfl⟩
theorem fk_X6_44 : FK RX6 44 6 10 5 0 false := ⟨RX6, TX6, tyX6, cf_X6, by decide, gw_in fl_X6_44 rfl, rfl, rfl⟩
theorem fk_X6_65 : FK RX6 65 6 10 6 0 false := ⟨RX6, TX6, tyX6, cf_X6, by decide, gw_in fl_X6_65 rfl, rfl, rfl⟩
theorem fk_X6_126 : FK RX6 126 6 10 9 0 false := ⟨RX6, TX6, tyX6, cf_X6, by decide, gw_in fl_X6_126 rfl, rfl, rfl⟩
theorem fk_X6_47 : FK RX6 47 6 10 8 0 false := ⟨RX6, TX6, tyX6, cf_X6, by decide, gw_in fl_X6_47 rfl, rfl, rfl⟩
theorem fk_X6_30 : FK RX6 30 6 10 4 2 true := ⟨RX6, TX6, tyX6, cf_X6, by decide, gw_in fl_X6_30 rfl, rfl, rfl⟩
theorem fk_X6_165 : FK RX6 165 5 2 0 0 false := ⟨RX5, TX5, tyX5, cf_X5, by decide, gw_in fl_X6_165 rfl, rfl, rfl⟩
theorem fk_X6_93 : FK RX6 93 0 4 1 0 false := ⟨RX0, TX0, tyX0, cf_X0, by decide, gw_in fl_X6_93 rfl, rfl, rfl⟩
theorem fk_X6_102 : FK RX6 102 0 4 2 0 false := ⟨RX0, TX0, tyX0, cf_X0, by decide, gw_in fl_X6_102 rfl, rfl, rfl⟩
theorem fk_X6_109 : FK RX6 109 0 4 3 1 false := ⟨RX0, TX0, tyX0, cf_X0, by decide, gw_in fl_X6_109 rfl, rfl, rfl⟩
theorem fk_X6_89 : FK RX6 89 0 4 0 3 false := ⟨RX0, TX0, tyX0, cf_X0, by decide, gw_in fl_X6_89 rfl, rfl, rfl⟩
theorem fk_X6_26 : FK RX6 26 6 10 2 2 true := ⟨RX6, TX6, tyX6, cf_X6, by decide, gw_in fl_X6_26 rfl, rfl, rfl⟩
theorem fk_X6_113 : FK RX6 113 1 3 0 0 false := ⟨RX1, TX1, tyX1, cf_X1, by decide, gw_in fl_X6_113 rfl, rfl, rfl⟩
theorem fk_X6_20 : FK RX6 20 6 10 1 2 true := ⟨RX6, TX6, tyX6, cf_X6, by decide, gw_in fl_X6_20 rfl, rfl, rfl⟩
theorem fk_X6_14 : FK RX6 14 6 10 0 2 true := ⟨RX6, TX6, tyX6, cf_X6, by decide, gw_in fl_X6_14 rfl, rfl, rfl⟩
theorem fk_X7_18 : FK RX7 18 7 10 1 0 false := ⟨RX7, TX7, tyX7, cf_X7, by decide, gw_in fl_X7_18 rfl, rfl, rfl⟩
theorem fk_X7_28 : FK RX7 28 7 10 2 0 false := ⟨RX7, TX7, tyX7, cf_X7, by decide, gw_in fl_X7_28 rfl, rfl, rfl⟩
theorem fk_X7_31 : FK RX7 31 7 10 3 0 false := ⟨RX7, TX7, tyX7, cf_X7, by decide, gw_in fl_X7_31 rfl, rfl, rfl⟩
theorem fk_X7_40 : FK RX7 40 7 10 0 3 false := ⟨RX7, TX7, tyX7, cf_X7, by decide, gw_in fl_X7_40 rfl, rfl, rfl⟩
theorem fk_X7_62 : FK RX7 62 0 4 1 0 false := ⟨RX0, TX0, tyX0, cf_X0, by decide, gw_in fl_X7_62 rfl, rfl, rfl⟩
theorem fk_X7_65 : FK RX7 65 0 4 2 0 false := ⟨RX0, TX0, tyX0, cf_X0, by decide, gw_in fl_X7_65 rfl, rfl, rfl⟩
theorem fk_X7_92 : FK RX7 92 7 10 4 0 false := ⟨RX7, TX7, tyX7, cf_X7, by decide, gw_in fl_X7_92 rfl, rfl, rfl⟩
theorem fk_X7_95 : FK RX7 95 7 10 5 0 false := ⟨RX7, TX7, tyX7, cf_X7, by decide, gw_in fl_X7_95 rfl, rfl, rfl⟩
theorem fk_X7_9 : FK RX7 9 7 10 8 2 true := ⟨RX7, TX7, tyX7, cf_X7, by decide, gw_in fl_X7_9 rfl, rfl, rfl⟩
theorem fk_X7_112 : FK RX7 112 7 10 6 0 false := ⟨RX7, TX7, tyX7, cf_X7, by decide, gw_in fl_X7_112 rfl, rfl, rfl⟩
theorem fk_X7_115 : FK RX7 115 7 10 7 0 false := ⟨RX7, TX7, tyX7, cf_X7, by decide, gw_in fl_X7_115 rfl, rfl, rfl⟩
theorem fk_X7_15 : FK RX7 15 7 10 9 2 true := ⟨RX7, TX7, tyX7, cf_X7, by decide, gw_in fl_X7_15 rfl, rfl, rfl⟩
theorem fk_X8_40 : FK RX8 40 8 15 6 2 true := ⟨RX8, TX8, tyX8, cf_X8, by decide, gw_in fl_X8_40 rfl, rfl, rfl⟩
theorem fk_X8_85 : FK RX8 85 5 2 0 0 false := ⟨RX5, TX5, tyX5, cf_X5, by decide, gw_in fl_X8_85 rfl, rfl, rfl⟩
theorem fk_X8_49 : FK RX8 49 8 15 7 2 true := ⟨RX8, TX8, tyX8, cf_X8, by decide, gw_in fl_X8_49 rfl, rfl, rfl⟩
theorem fk_X8_93 : FK RX8 93 6 10 3 0 false := ⟨RX6, TX6, tyX6, cf_X6, by decide, gw_in fl_X8_93 rfl, rfl, rfl⟩
theorem fk_X8_96 : FK RX8 96 8 15 13 0 false := ⟨RX8, TX8, tyX8, cf_X8, by decide, gw_in fl_X8_96 rfl, rfl, rfl⟩
theorem fk_X8_14 : FK RX8 14 8 15 0 2 true := ⟨RX8, TX8, tyX8, cf_X8, by decide, gw_in fl_X8_14 rfl, rfl, rfl⟩
theorem fk_X8_99 : FK RX8 99 6 10 0 2 true := ⟨RX6, TX6, tyX6, cf_X6, by decide, gw_in fl_X8_99 rfl, rfl, rfl⟩
theorem fk_X8_106 : FK RX8 106 0 4 0 3 false := ⟨RX0, TX0, tyX0, cf_X0, by decide, gw_in fl_X8_106 rfl, rfl, rfl⟩
theorem fk_X8_18 : FK RX8 18 8 15 1 2 true := ⟨RX8, TX8, tyX8, cf_X8, by decide, gw_in fl_X8_18 rfl, rfl, rfl⟩
theorem fk_X8_110 : FK RX8 110 6 10 1 2 true := ⟨RX6, TX6, tyX6, cf_X6, by decide, gw_in fl_X8_110 rfl, rfl, rfl⟩
theorem fk_X8_33 : FK RX8 33 8 15 5 2 true := ⟨RX8, TX8, tyX8, cf_X8, by decide, gw_in fl_X8_33 rfl, rfl, rfl⟩
theorem fk_X8_113 : FK RX8 113 6 10 2 2 true := ⟨RX6, TX6, tyX6, cf_X6, by decide, gw_in fl_X8_113 rfl, rfl, rfl⟩
theorem fk_X8_21 : FK RX8 21 8 15 2 2 true := ⟨RX8, TX8, tyX8, cf_X8, by decide, gw_in fl_X8_21 rfl, rfl, rfl⟩
theorem fk_X8_24 : FK RX8 24 8 15 3 2 true := ⟨RX8, TX8, tyX8, cf_X8, by decide, gw_in fl_X8_24 rfl, rfl, rfl⟩
theorem fk_X8_117 : FK RX8 117 0 4 1 0 false := ⟨RX0, TX0, tyX0, cf_X0, by decide, gw_in fl_X8_117 rfl, rfl, rfl⟩
theorem fk_X8_120 : FK RX8 120 0 4 2 0 false := ⟨RX0, TX0, tyX0, cf_X0, by decide, gw_in fl_X8_120 rfl, rfl, rfl⟩
theorem fk_X8_123 : FK RX8 123 1 3 0 0 false := ⟨RX1, TX1, tyX1, cf_X1, by decide, gw_in fl_X8_123 rfl, rfl, rfl⟩
theorem fk_X8_137 : FK RX8 137 0 4 3 1 false := ⟨RX0, TX0, tyX0, cf_X0, by decide, gw_in fl_X8_137 rfl, rfl, rfl⟩
theorem fk_X8_63 : FK RX8 63 8 15 9 2 true := ⟨RX8, TX8, tyX8, cf_X8, by decide, gw_in fl_X8_63 rfl, rfl, rfl⟩
theorem fk_X8_198 : FK RX8 198 7 10 1 0 false := ⟨RX7, TX7, tyX7, cf_X7, by decide, gw_in fl_X8_198 rfl, rfl, rfl⟩
theorem fk_X8_206 : FK RX8 206 7 10 2 0 false := ⟨RX7, TX7, tyX7, cf_X7, by decide, gw_in fl_X8_206 rfl, rfl, rfl⟩
theorem fk_X8_330 : FK RX8 330 7 10 3 0 false := ⟨RX7, TX7, tyX7, cf_X7, by decide, gw_in fl_X8_330 rfl, rfl, rfl⟩
theorem fk_X8_195 : FK RX8 195 7 10 0 3 false := ⟨RX7, TX7, tyX7, cf_X7, by decide, gw_in fl_X8_195 rfl, rfl, rfl⟩
theorem fk_X8_223 : FK RX8 223 7 10 4 0 false := ⟨RX7, TX7, tyX7, cf_X7, by decide, gw_in fl_X8_223 rfl, rfl, rfl⟩
theorem fk_X8_229 : FK RX8 229 7 10 5 0 false := ⟨RX7, TX7, tyX7, cf_X7, by decide, gw_in fl_X8_229 rfl, rfl, rfl⟩
theorem fk_X8_77 : FK RX8 77 8 15 12 2 true := ⟨RX8, TX8, tyX8, cf_X8, by decide, gw_in fl_X8_77 rfl, rfl, rfl⟩
theorem fk_X8_333 : FK RX8 333 7 10 6 0 false := ⟨RX7, TX7, tyX7, cf_X7, by decide, gw_in fl_X8_333 rfl, rfl, rfl⟩
theorem fk_X8_334 : FK RX8 334 7 10 7 0 false := ⟨RX7, TX7, tyX7, cf_X7, by decide, gw_in fl_X8_334 rfl, rfl, rfl⟩
theorem fk_X8_70 : FK RX8 70 8 15 10 2 true := ⟨RX8, TX8, tyX8, cf_X8, by decide, gw_in fl_X8_70 rfl, rfl, rfl⟩
theorem fk_X8_27 : FK RX8 27 8 15 4 2 true := ⟨RX8, TX8, tyX8, cf_X8, by decide, gw_in fl_X8_27 rfl, rfl, rfl⟩
theorem fk_X8_276 : FK RX8 276 2 4 2 1 false := ⟨RX2, TX2, tyX2, cf_X2, by decide, gw_in fl_X8_276 rfl, rfl, rfl⟩
theorem fk_X8_279 : FK RX8 279 2 4 3 0 false := ⟨RX2, TX2, tyX2, cf_X2, by decide, gw_in fl_X8_279 rfl, rfl, rfl⟩
theorem fk_X8_74 : FK RX8 74 8 15 11 2 true := ⟨RX8, TX8, tyX8, cf_X8, by decide, gw_in fl_X8_74 rfl, rfl, rfl⟩
theorem fk_X8_56 : FK RX8 56 8 15 8 2 true := ⟨RX8, TX8, tyX8, cf_X8, by decide, gw_in fl_X8_56 rfl, rfl, rfl⟩
theorem fk_X8_319 : FK RX8 319 8 15 14 0 false := ⟨RX8, TX8, tyX8, cf_X8, by decide, gw_in fl_X8_319 rfl, rfl, rfl⟩
theorem fk_X9_50 : FK RX9 50 9 47 10 0 false := ⟨RX9, TX9, tyX9, cf_X9, by decide, gw_in fl_X9_50 rfl, rfl, rfl⟩
theorem fk_X9_54 : FK RX9 54 9 47 11 0 false := ⟨RX9, TX9, tyX9, cf_X9, by decide, gw_in fl_X9_54 rfl, rfl, rfl⟩
theorem fk_X9_57 : FK RX9 57 9 47 12 1 false := ⟨RX9, TX9, tyX9, cf_X9, by decide, gw_in fl_X9_57 rfl, rfl, rfl⟩
theorem fk_X9_61 : FK RX9 61 9 47 15 1 false := ⟨RX9, TX9, tyX9, cf_X9, by decide, gw_in fl_X9_61 rfl, rfl, rfl⟩
theorem fk_X9_64 : FK RX9 64 9 47 16 3 false := ⟨RX9, TX9, tyX9, cf_X9, by decide, gw_in fl_X9_64 rfl, rfl, rfl⟩
theorem fk_X9_68 : FK RX9 68 9 47 17 3 false := ⟨RX9, TX9, tyX9, cf_X9, by decide, gw_in fl_X9_68 rfl, rfl, rfl⟩
theorem fk_X9_71 : FK RX9 71 9 47 18 0 false := ⟨RX9, TX9, tyX9, cf_X9, by decide, gw_in fl_X9_71 rfl, rfl, rfl⟩
theorem fk_X9_74 : FK RX9 74 9 47 0 0 false := ⟨RX9, TX9, tyX9, cf_X9, by decide, gw_in fl_X9_74 rfl, rfl, rfl⟩
theorem fk_X9_77 : FK RX9 77 9 47 1 0 false := ⟨RX9, TX9, tyX9, cf_X9, by decide, gw_in fl_X9_77 rfl, rfl, rfl⟩
theorem fk_X9_80 : FK RX9 80 9 47 2 1 false := ⟨RX9, TX9, tyX9, cf_X9, by decide, gw_in fl_X9_80 rfl, rfl, rfl⟩
theorem fk_X9_83 : FK RX9 83 9 47 3 1 false := ⟨RX9, TX9, tyX9, cf_X9, by decide, gw_in fl_X9_83 rfl, rfl, rfl⟩
theorem fk_X9_86 : FK RX9 86 9 47 4 3 false := ⟨RX9, TX9, tyX9, cf_X9, by decide, gw_in fl_X9_86 rfl, rfl, rfl⟩
theorem fk_X9_89 : FK RX9 89 9 47 5 0 false := ⟨RX9, TX9, tyX9, cf_X9, by decide, gw_in fl_X9_89 rfl, rfl, rfl⟩
theorem fk_X9_7 : FK RX9 7 9 47 6 2 true := ⟨RX9, TX9, tyX9, cf_X9, by decide, gw_in fl_X9_7 rfl, rfl, rfl⟩
theorem fk_X9_23 : FK RX9 23 9 47 19 2 true := ⟨RX9, TX9, tyX9, cf_X9, by decide, gw_in fl_X9_23 rfl, rfl, rfl⟩
theorem fk_X9_17 : FK RX9 17 9 47 8 2 true := ⟨RX9, TX9, tyX9, cf_X9, by decide, gw_in fl_X9_17 rfl, rfl, rfl⟩
theorem fk_X9_92 : FK RX9 92 9 47 21 0 false := ⟨RX9, TX9, tyX9, cf_X9, by decide, gw_in fl_X9_92 rfl, rfl, rfl⟩
theorem fk_X9_26 : FK RX9 26 9 47 20 2 true := ⟨RX9, TX9, tyX9, cf_X9, by decide, gw_in fl_X9_26 rfl, rfl, rfl⟩
theorem fk_X9_101 : FK RX9 101 9 47 26 0 false := ⟨RX9, TX9, tyX9, cf_X9, by decide, gw_in fl_X9_101 rfl, rfl, rfl⟩
theorem fk_X9_104 : FK RX9 104 9 47 23 0 false := ⟨RX9, TX9, tyX9, cf_X9, by decide, gw_in fl_X9_104 rfl, rfl, rfl⟩
theorem fk_X9_107 : FK RX9 107 9 47 27 0 false := ⟨RX9, TX9, tyX9, cf_X9, by decide, gw_in fl_X9_107 rfl, rfl, rfl⟩
theorem fk_X9_110 : FK RX9 110 9 47 22 0 false := ⟨RX9, TX9, tyX9, cf_X9, by decide, gw_in fl_X9_110 rfl, rfl, rfl⟩
theorem fk_X9_124 : FK RX9 124 9 47 24 0 false := ⟨RX9, TX9, tyX9, cf_X9, by decide, gw_in fl_X9_124 rfl, rfl, rfl⟩
theorem fk_X9_135 : FK RX9 135 9 47 25 0 false := ⟨RX9, TX9, tyX9, cf_X9, by decide, gw_in fl_X9_135 rfl, rfl, rfl⟩
theorem fk_X9_142 : FK RX9 142 9 47 28 0 false := ⟨RX9, TX9, tyX9, cf_X9, by decide, gw_in fl_X9_142 rfl, rfl, rfl⟩
theorem fk_X9_145 : FK RX9 145 9 47 29 0 false := ⟨RX9, TX9, tyX9, cf_X9, by decide, gw_in fl_X9_145 rfl, rfl, rfl⟩
theorem fk_X9_148 : FK RX9 148 9 47 30 1 false := ⟨RX9, TX9, tyX9, cf_X9, by decide, gw_in fl_X9_148 rfl, rfl, rfl⟩
theorem fk_X9_183 : FK RX9 183 9 47 13 0 false := ⟨RX9, TX9, tyX9, cf_X9, by decide, gw_in fl_X9_183 rfl, rfl, rfl⟩
theorem fk_X9_186 : FK RX9 186 9 47 14 0 false := ⟨RX9, TX9, tyX9, cf_X9, by decide, gw_in fl_X9_186 rfl, rfl, rfl⟩
theorem fk_X9_20 : FK RX9 20 9 47 9 2 true := ⟨RX9, TX9, tyX9, cf_X9, by decide, gw_in fl_X9_20 rfl, rfl, rfl⟩
theorem fk_X9_13 : FK RX9 13 9 47 7 2 true := ⟨RX9, TX9, tyX9, cf_X9, by decide, gw_in fl_X9_13 rfl, rfl, rfl⟩
theorem fk_X9_245 : FK RX9 245 9 47 31 0 false := ⟨RX9, TX9, tyX9, cf_X9, by decide, gw_in fl_X9_245 rfl, rfl, rfl⟩
theorem fk_X9_248 : FK RX9 248 9 47 32 0 false := ⟨RX9, TX9, tyX9, cf_X9, by decide, gw_in fl_X9_248 rfl, rfl, rfl⟩
theorem fk_X9_260 : FK RX9 260 9 47 33 0 false := ⟨RX9, TX9, tyX9, cf_X9, by decide, gw_in fl_X9_260 rfl, rfl, rfl⟩
theorem fk_X9_263 : FK RX9 263 9 47 34 0 false := ⟨RX9, TX9, tyX9, cf_X9, by decide, gw_in fl_X9_263 rfl, rfl, rfl⟩
theorem fk_X9_266 : FK RX9 266 9 47 35 0 false := ⟨RX9, TX9, tyX9, cf_X9, by decide, gw_in fl_X9_266 rfl, rfl, rfl⟩
theorem fk_X9_29 : FK RX9 29 9 47 36 2 true := ⟨RX9, TX9, tyX9, cf_X9, by decide, gw_in fl_X9_29 rfl, rfl, rfl⟩
theorem fk_X9_32 : FK RX9 32 9 47 37 2 true := ⟨RX9, TX9, tyX9, cf_X9, by decide, gw_in fl_X9_32 rfl, rfl, rfl⟩
theorem fk_X9_301 : FK RX9 301 9 47 38 0 false := ⟨RX9, TX9, tyX9, cf_X9, by decide, gw_in fl_X9_301 rfl, rfl, rfl⟩
theorem fk_X9_317 : FK RX9 317 9 47 40 0 false := ⟨RX9, TX9, tyX9, cf_X9, by decide, gw_in fl_X9_317 rfl, rfl, rfl⟩
theorem fk_X9_320 : FK RX9 320 9 47 39 1 false := ⟨RX9, TX9, tyX9, cf_X9, by decide, gw_in fl_X9_320 rfl, rfl, rfl⟩
theorem fk_X9_323 : FK RX9 323 9 47 41 0 false := ⟨RX9, TX9, tyX9, cf_X9, by decide, gw_in fl_X9_323 rfl, rfl, rfl⟩
theorem fk_X9_326 : FK RX9 326 9 47 42 0 false := ⟨RX9, TX9, tyX9, cf_X9, by decide, gw_in fl_X9_326 rfl, rfl, rfl⟩
theorem fk_X9_35 : FK RX9 35 9 47 43 2 true := ⟨RX9, TX9, tyX9, cf_X9, by decide, gw_in fl_X9_35 rfl, rfl, rfl⟩
theorem fk_X9_38 : FK RX9 38 9 47 44 2 true := ⟨RX9, TX9, tyX9, cf_X9, by decide, gw_in fl_X9_38 rfl, rfl, rfl⟩
theorem fk_X9_41 : FK RX9 41 9 47 45 2 true := ⟨RX9, TX9, tyX9, cf_X9, by decide, gw_in fl_X9_41 rfl, rfl, rfl⟩
theorem fk_X9_338 : FK RX9 338 9 47 46 0 false := ⟨RX9, TX9, tyX9, cf_X9, by decide, gw_in fl_X9_338 rfl, rfl, rfl⟩
theorem fk_X4_11 : FK RX4 11 4 1 0 2 true := ⟨RX4, TX4, tyX4, cf_X4, by decide, gw_in fl_X4_11 rfl, rfl, rfl⟩
def F_X0_forget (I : WI) (L : WL) (o : Nat) : (WI × WL) :=
  ((u2 (u2 (u2 I o 0 0) o 1 4) o 2 4), (u2 L o 3 0))
theorem V_X0_forget  {I : WI} {L : WL} {o : Nat}  {P : (WI × WL) → Prop} {t : Tg} (ho : isX0 o) (hr : ∀ v, P v → t = (none, ly0, (p1 v), (p2 v), R0)) (kk : P (F_X0_forget I L o)) : V (zM x_X0_forget 1 0 0 t) 0 [(0, .ref o)] [] ly0 I L R0 0 0 :=
  V_aload_n (tat ok_X0_forget_0 (i := 0) (q := 1) rfl rfl) 0 rfl rfl <|
    V_iconst (tat ok_X0_forget_0 (i := 1) (q := 2) rfl rfl) ic_0 <|
    V_putZ (tat ok_X0_forget_0 (i := 2) (q := 5) rfl rfl) fk_X0_18 ho rfl rfl <|
    V_aload_n (tat ok_X0_forget_0 (i := 3) (q := 6) rfl rfl) 0 rfl rfl <|
    V_iconst (tat ok_X0_forget_0 (i := 4) (q := 7) rfl rfl) ic_4 <|
    V_putI (tat ok_X0_forget_0 (i := 5) (q := 10) rfl rfl) fk_X0_11 ho rfl <|
    V_aload_n (tat ok_X0_forget_0 (i := 6) (q := 11) rfl rfl) 0 rfl rfl <|
    V_iconst (tat ok_X0_forget_0 (i := 7) (q := 12) rfl rfl) ic_4 <|
    V_putI (tat ok_X0_forget_0 (i := 8) (q := 15) rfl rfl) fk_X0_15 ho rfl <|
    V_aload_n (tat ok_X0_forget_0 (i := 9) (q := 16) rfl rfl) 0 rfl rfl <|
    V_lconst (v := 0) (tat ok_X0_forget_0 (i := 10) (q := 17) rfl rfl) rfl <|
    V_putL (tat ok_X0_forget_0 (i := 11) (q := 20) rfl rfl) fk_X0_22 ho rfl <|
    V_vret (tat ok_X0_forget_0 (i := 12) (q := 21) rfl rfl) rfl (hr ((u2 (u2 (u2 I o 0 0) o 1 4) o 2 4), (u2 L o 3 0)) (jx (P := P) kk rfl)) ⟨(Nat.le_of_ble_eq_true rfl), (Nat.le_of_ble_eq_true rfl)⟩
theorem ct_X0_forget  (I : WI) (L : WL) (o : Nat) (ho : isX0 o) : Ct x_X0_forget 1 [.ref o] ly0 I L R0 0 0 (none, ly0, (p1 (F_X0_forget I L o)), (p2 (F_X0_forget I L o)), R0) :=
  Ct_of_V mo_X0_forget.1 (Nat.le_of_ble_eq_true rfl) (V_X0_forget (P := fun x => x = (F_X0_forget I L o)) ho (fun _ e => by rw [e]) rfl)
def F_X0_become (I : WI) (L : WL) (o : Nat) (r1 : Nat) : (WI × WL) :=
  ((u2 (u2 (u2 I o 0 (bz (I r1 0))) o 1 ((u2 I o 0 (bz (I r1 0))) r1 1)) o 2 ((u2 (u2 I o 0 (bz (I r1 0))) o 1 ((u2 I o 0 (bz (I r1 0))) r1 1)) r1 2)), (u2 L o 3 (L r1 3)))
theorem V_X0_become  {I : WI} {L : WL} {o : Nat} {r1 : Nat}  {P : (WI × WL) → Prop} {t : Tg} (ho : isX0 o) (hr1 : isX0 r1) (hr : ∀ v, P v → t = (none, ly0, (p1 v), (p2 v), R0)) (kk : P (F_X0_become I L o r1)) : V (zM x_X0_become 1 0 0 t) 0 [(0, .ref o), (1, .ref r1)] [] ly0 I L R0 0 0 :=
  V_aload_n (tat ok_X0_become_0 (i := 0) (q := 1) rfl rfl) 0 rfl rfl <|
    V_aload_n (tat ok_X0_become_0 (i := 1) (q := 2) rfl rfl) 1 rfl rfl <|
    V_getZ (tat ok_X0_become_0 (i := 2) (q := 5) rfl rfl) fk_X0_18 hr1 <|
    V_putZ (tat ok_X0_become_0 (i := 3) (q := 8) rfl rfl) fk_X0_18 ho rfl (bz_bz _) <|
    V_aload_n (tat ok_X0_become_0 (i := 4) (q := 9) rfl rfl) 0 rfl rfl <|
    V_aload_n (tat ok_X0_become_0 (i := 5) (q := 10) rfl rfl) 1 rfl rfl <|
    V_getI (tat ok_X0_become_0 (i := 6) (q := 13) rfl rfl) fk_X0_11 hr1 <|
    V_putI (tat ok_X0_become_0 (i := 7) (q := 16) rfl rfl) fk_X0_11 ho rfl <|
    V_aload_n (tat ok_X0_become_0 (i := 8) (q := 17) rfl rfl) 0 rfl rfl <|
    V_aload_n (tat ok_X0_become_0 (i := 9) (q := 18) rfl rfl) 1 rfl rfl <|
    V_getI (tat ok_X0_become_0 (i := 10) (q := 21) rfl rfl) fk_X0_15 hr1 <|
    V_putI (tat ok_X0_become_0 (i := 11) (q := 24) rfl rfl) fk_X0_15 ho rfl <|
    V_aload_n (tat ok_X0_become_0 (i := 12) (q := 25) rfl rfl) 0 rfl rfl <|
    V_aload_n (tat ok_X0_become_0 (i := 13) (q := 26) rfl rfl) 1 rfl rfl <|
    V_getL (tat ok_X0_become_0 (i := 14) (q := 29) rfl rfl) fk_X0_22 hr1 <|
    V_putL (tat ok_X0_become_0 (i := 15) (q := 32) rfl rfl) fk_X0_22 ho rfl <|
    V_vret (tat ok_X0_become_0 (i := 16) (q := 33) rfl rfl) rfl (hr ((u2 (u2 (u2 I o 0 (bz (I r1 0))) o 1 ((u2 I o 0 (bz (I r1 0))) r1 1)) o 2 ((u2 (u2 I o 0 (bz (I r1 0))) o 1 ((u2 I o 0 (bz (I r1 0))) r1 1)) r1 2)), (u2 L o 3 (L r1 3))) (jx (P := P) kk rfl)) ⟨(Nat.le_of_ble_eq_true rfl), (Nat.le_of_ble_eq_true rfl)⟩
theorem ct_X0_become  (I : WI) (L : WL) (o : Nat) (r1 : Nat) (ho : isX0 o) (hr1 : isX0 r1) : Ct x_X0_become 1 [.ref o, .ref r1] ly0 I L R0 0 0 (none, ly0, (p1 (F_X0_become I L o r1)), (p2 (F_X0_become I L o r1)), R0) :=
  Ct_of_V mo_X0_become.1 (Nat.le_of_ble_eq_true rfl) (V_X0_become (P := fun x => x = (F_X0_become I L o r1)) ho hr1 (fun _ e => by rw [e]) rfl)
def F_X0_everyColumn (I : WI) (o : Nat) : Int32 :=
  ((1 <<< ((I o 2) &&& 31)) - 1)
theorem V_X0_everyColumn  {I : WI} {L : WL} {o : Nat}  {P : Int32 → Prop} {t : Tg} (ho : isX0 o) (hr : ∀ v, P v → t = (some (.int v), ly0, I, L, R0)) (kk : P (F_X0_everyColumn I o)) : V (zM x_X0_everyColumn 1 0 0 t) 0 [(0, .ref o)] [] ly0 I L R0 0 0 :=
  V_iconst (tat ok_X0_everyColumn_0 (i := 0) (q := 1) rfl rfl) ic_1 <|
    V_aload_n (tat ok_X0_everyColumn_0 (i := 1) (q := 2) rfl rfl) 0 rfl rfl <|
    V_getI (tat ok_X0_everyColumn_0 (i := 2) (q := 5) rfl rfl) fk_X0_15 ho <|
    V_ishl (tat ok_X0_everyColumn_0 (i := 3) (q := 6) rfl rfl) <|
    V_iconst (tat ok_X0_everyColumn_0 (i := 4) (q := 7) rfl rfl) ic_1 <|
    V_isub (tat ok_X0_everyColumn_0 (i := 5) (q := 8) rfl rfl) <|
    V_iret (tat ok_X0_everyColumn_0 (i := 6) (q := 9) rfl rfl) _ rfl (nar_int _) (hr ((1 <<< ((I o 2) &&& 31)) - 1) (jx (P := P) kk rfl)) ⟨(Nat.le_of_ble_eq_true rfl), (Nat.le_of_ble_eq_true rfl)⟩
theorem ct_X0_everyColumn  (I : WI) (L : WL) (o : Nat) (ho : isX0 o) : Ct x_X0_everyColumn 1 [.ref o] ly0 I L R0 0 0 (some (.int (F_X0_everyColumn I o)), ly0, I, L, R0) :=
  Ct_of_V mo_X0_everyColumn.1 (Nat.le_of_ble_eq_true rfl) (V_X0_everyColumn (P := fun x => x = (F_X0_everyColumn I o)) ho (fun _ e => by rw [e]) rfl)
def F_X0_columnSquares (I : WI) (o : Nat) (a1 : Int32) : Int64 :=
  (lsh (lush 72340172838076673 (64 - (8 * (I o 1)))) a1)
theorem V_X0_columnSquares  {I : WI} {L : WL} {o : Nat} {a1 : Int32}  {P : Int64 → Prop} {t : Tg} (ho : isX0 o) (hr : ∀ v, P v → t = (some (.long v), ly0, I, L, R0)) (kk : P (F_X0_columnSquares I o a1)) : V (zM x_X0_columnSquares 1 0 0 t) 0 [(0, .ref o), (1, .int a1)] [] ly0 I L R0 0 0 :=
  V_ldc2 (tat ok_X0_columnSquares_0 (i := 0) (q := 3) rfl rfl) (gw_in kl_X0_61 rfl) <|
    V_bipush (tat ok_X0_columnSquares_0 (i := 1) (q := 5) rfl rfl) bp_64 <|
    V_bipush (tat ok_X0_columnSquares_0 (i := 2) (q := 7) rfl rfl) bp_8 <|
    V_aload_n (tat ok_X0_columnSquares_0 (i := 3) (q := 8) rfl rfl) 0 rfl rfl <|
    V_getI (tat ok_X0_columnSquares_0 (i := 4) (q := 11) rfl rfl) fk_X0_11 ho <|
    V_imul (tat ok_X0_columnSquares_0 (i := 5) (q := 12) rfl rfl) <|
    V_isub (tat ok_X0_columnSquares_0 (i := 6) (q := 13) rfl rfl) <|
    V_lushr (tat ok_X0_columnSquares_0 (i := 7) (q := 14) rfl rfl) <|
    V_iload_n (tat ok_X0_columnSquares_0 (i := 8) (q := 15) rfl rfl) 1 rfl rfl <|
    V_lshl (tat ok_X0_columnSquares_0 (i := 9) (q := 16) rfl rfl) <|
    V_lret (tat ok_X0_columnSquares_0 (i := 10) (q := 17) rfl rfl) rfl (hr (lsh (lush 72340172838076673 (64 - (8 * (I o 1)))) a1) (jx (P := P) kk rfl)) ⟨(Nat.le_of_ble_eq_true rfl), (Nat.le_of_ble_eq_true rfl)⟩
theorem ct_X0_columnSquares  (I : WI) (L : WL) (o : Nat) (a1 : Int32) (ho : isX0 o) : Ct x_X0_columnSquares 1 [.ref o, .int a1] ly0 I L R0 0 0 (some (.long (F_X0_columnSquares I o a1)), ly0, I, L, R0) :=
  Ct_of_V mo_X0_columnSquares.1 (Nat.le_of_ble_eq_true rfl) (V_X0_columnSquares (P := fun x => x = (F_X0_columnSquares I o a1)) ho (fun _ e => by rw [e]) rfl)
def F_X0_allSquares (I : WI) (o : Nat) : Int64 :=
  ((Int32.toInt64 (F_X0_everyColumn I o)) * (F_X0_columnSquares I o 0))
theorem V_X0_allSquares  {I : WI} {L : WL} {o : Nat}  {P : Int64 → Prop} {t : Tg} (ho : isX0 o) (hr : ∀ v, P v → t = (some (.long v), ly0, I, L, R0)) (kk : P (F_X0_allSquares I o)) : V (zM x_X0_allSquares 2 0 0 t) 0 [(0, .ref o)] [] ly0 I L R0 0 0 :=
  V_aload_n (tat ok_X0_allSquares_0 (i := 0) (q := 1) rfl rfl) 0 rfl rfl <|
    V_cv0 (ct_X0_everyColumn I L o ho) mo_X0_everyColumn (tat ok_X0_allSquares_0 (i := 1) (q := 4) rfl rfl) ml_X0_36 ho ⟨by decide, _, rfl, rfl⟩ ⟨(Nat.le_of_ble_eq_true rfl), (Nat.le_of_ble_eq_true rfl)⟩ ⟨(Nat.le_of_ble_eq_true rfl), (Nat.le_of_ble_eq_true rfl)⟩ (Nat.le_of_ble_eq_true rfl) <|
    V_i2l (tat ok_X0_allSquares_0 (i := 2) (q := 5) rfl rfl) <|
    V_aload_n (tat ok_X0_allSquares_0 (i := 3) (q := 6) rfl rfl) 0 rfl rfl <|
    V_iconst (tat ok_X0_allSquares_0 (i := 4) (q := 7) rfl rfl) ic_0 <|
    V_cv1 (ct_X0_columnSquares I L o 0 ho) mo_X0_columnSquares (tat ok_X0_allSquares_0 (i := 5) (q := 10) rfl rfl) ml_X0_40 ho ⟨by decide, _, rfl, rfl⟩ ⟨(Nat.le_of_ble_eq_true rfl), (Nat.le_of_ble_eq_true rfl)⟩ ⟨(Nat.le_of_ble_eq_true rfl), (Nat.le_of_ble_eq_true rfl)⟩ (Nat.le_of_ble_eq_true rfl) <|
    V_lmul (tat ok_X0_allSquares_0 (i := 6) (q := 11) rfl rfl) <|
    V_lret (tat ok_X0_allSquares_0 (i := 7) (q := 12) rfl rfl) rfl (hr ((Int32.toInt64 (F_X0_everyColumn I o)) * (F_X0_columnSquares I o 0)) (jx (P := P) kk rfl)) ⟨(Nat.le_of_ble_eq_true rfl), (Nat.le_of_ble_eq_true rfl)⟩
theorem ct_X0_allSquares  (I : WI) (L : WL) (o : Nat) (ho : isX0 o) : Ct x_X0_allSquares 2 [.ref o] ly0 I L R0 0 0 (some (.long (F_X0_allSquares I o)), ly0, I, L, R0) :=
  Ct_of_V mo_X0_allSquares.1 (Nat.le_of_ble_eq_true rfl) (V_X0_allSquares (P := fun x => x = (F_X0_allSquares I o)) ho (fun _ e => by rw [e]) rfl)
def F_X0_resize (I : WI) (L : WL) (o : Nat) (a1 : Int32) (a2 : Int32) (a3 : Int64) : (WI × WL) :=
  ((u2 (u2 I o 1 a1) o 2 a2), (u2 L o 3 (a3 &&& (F_X0_allSquares (u2 (u2 I o 1 a1) o 2 a2) o))))
theorem V_X0_resize  {I : WI} {L : WL} {o : Nat} {a1 : Int32} {a2 : Int32} {a3 : Int64}  {P : (WI × WL) → Prop} {t : Tg} (ho : isX0 o) (hr : ∀ v, P v → t = (none, ly0, (p1 v), (p2 v), R0)) (kk : P (F_X0_resize I L o a1 a2 a3)) : V (zM x_X0_resize 3 0 0 t) 0 [(0, .ref o), (1, .int a1), (2, .int a2), (3, .long a3)] [] ly0 I L R0 0 0 :=
  V_aload_n (tat ok_X0_resize_0 (i := 0) (q := 1) rfl rfl) 0 rfl rfl <|
    V_iload_n (tat ok_X0_resize_0 (i := 1) (q := 2) rfl rfl) 1 rfl rfl <|
    V_putI (tat ok_X0_resize_0 (i := 2) (q := 5) rfl rfl) fk_X0_11 ho rfl <|
    V_aload_n (tat ok_X0_resize_0 (i := 3) (q := 6) rfl rfl) 0 rfl rfl <|
    V_iload_n (tat ok_X0_resize_0 (i := 4) (q := 7) rfl rfl) 2 rfl rfl <|
    V_putI (tat ok_X0_resize_0 (i := 5) (q := 10) rfl rfl) fk_X0_15 ho rfl <|
    V_aload_n (tat ok_X0_resize_0 (i := 6) (q := 11) rfl rfl) 0 rfl rfl <|
    V_lload_n (tat ok_X0_resize_0 (i := 7) (q := 12) rfl rfl) 3 rfl rfl <|
    V_aload_n (tat ok_X0_resize_0 (i := 8) (q := 13) rfl rfl) 0 rfl rfl <|
    V_cv0 (ct_X0_allSquares (u2 (u2 I o 1 a1) o 2 a2) L o ho) mo_X0_allSquares (tat ok_X0_resize_0 (i := 9) (q := 16) rfl rfl) ml_X0_26 ho ⟨by decide, _, rfl, rfl⟩ ⟨(Nat.le_of_ble_eq_true rfl), (Nat.le_of_ble_eq_true rfl)⟩ ⟨(Nat.le_of_ble_eq_true rfl), (Nat.le_of_ble_eq_true rfl)⟩ (Nat.le_of_ble_eq_true rfl) <|
    V_land (tat ok_X0_resize_0 (i := 10) (q := 17) rfl rfl) <|
    V_putL (tat ok_X0_resize_0 (i := 11) (q := 20) rfl rfl) fk_X0_22 ho rfl <|
    V_vret (tat ok_X0_resize_0 (i := 12) (q := 21) rfl rfl) rfl (hr ((u2 (u2 I o 1 a1) o 2 a2), (u2 L o 3 (a3 &&& (F_X0_allSquares (u2 (u2 I o 1 a1) o 2 a2) o)))) (jx (P := P) kk rfl)) ⟨(Nat.le_of_ble_eq_true rfl), (Nat.le_of_ble_eq_true rfl)⟩
theorem ct_X0_resize  (I : WI) (L : WL) (o : Nat) (a1 : Int32) (a2 : Int32) (a3 : Int64) (ho : isX0 o) : Ct x_X0_resize 3 [.ref o, .int a1, .int a2, .long a3] ly0 I L R0 0 0 (none, ly0, (p1 (F_X0_resize I L o a1 a2 a3)), (p2 (F_X0_resize I L o a1 a2 a3)), R0) :=
  Ct_of_V mo_X0_resize.1 (Nat.le_of_ble_eq_true rfl) (V_X0_resize (P := fun x => x = (F_X0_resize I L o a1 a2 a3)) ho (fun _ e => by rw [e]) rfl)
def F_X0_sameSize_27 (I : WI) (o : Nat) (r1 : Nat) (s0 : Int32) : Int32 :=
  s0
theorem V_X0_sameSize_27  {I : WI} {L : WL} {o : Nat} {r1 : Nat} {s0 : Int32} {P : Int32 → Prop} {t : Tg} (ho : isX0 o) (hr1 : isX0 r1) (hs0 : bz s0 = s0) (hr : ∀ v, P v → t = (some (.int v), ly0, I, L, R0)) (kk : P (F_X0_sameSize_27 I o r1 s0)) : V (zM x_X0_sameSize 1 0 0 t) 27 [(0, .ref o), (1, .ref r1)] [.int s0] ly0 I L R0 0 0 :=
  V_iret (tat ok_X0_sameSize_0 (i := 13) (q := 28) rfl rfl) _ rfl (bz_nf hs0).1 (hr s0 (jx (P := P) kk rfl)) ⟨(Nat.le_of_ble_eq_true rfl), (Nat.le_of_ble_eq_true rfl)⟩
def F_X0_sameSize_26 (I : WI) (o : Nat) (r1 : Nat) : Int32 :=
  (F_X0_sameSize_27 I o r1 0)
theorem V_X0_sameSize_26  {I : WI} {L : WL} {o : Nat} {r1 : Nat}  {P : Int32 → Prop} {t : Tg} (ho : isX0 o) (hr1 : isX0 r1) (hr : ∀ v, P v → t = (some (.int v), ly0, I, L, R0)) (kk : P (F_X0_sameSize_26 I o r1)) : V (zM x_X0_sameSize 1 0 0 t) 26 [(0, .ref o), (1, .ref r1)] [] ly0 I L R0 0 0 :=
  V_iconst (tat ok_X0_sameSize_0 (i := 12) (q := 27) rfl rfl) ic_0 <|
    V_X0_sameSize_27 ho hr1 rfl hr (jx (P := P) kk rfl)
def F_X0_sameSize (I : WI) (o : Nat) (r1 : Nat) : Int32 :=
  (if (I o 1) = (I r1 1) then (if (I o 2) = (I r1 2) then (F_X0_sameSize_27 I o r1 1) else (F_X0_sameSize_26 I o r1)) else (F_X0_sameSize_26 I o r1))
theorem V_X0_sameSize  {I : WI} {L : WL} {o : Nat} {r1 : Nat}  {P : Int32 → Prop} {t : Tg} (ho : isX0 o) (hr1 : isX0 r1) (hr : ∀ v, P v → t = (some (.int v), ly0, I, L, R0)) (kk : P (F_X0_sameSize I o r1)) : V (zM x_X0_sameSize 1 0 0 t) 0 [(0, .ref o), (1, .ref r1)] [] ly0 I L R0 0 0 :=
  V_aload_n (tat ok_X0_sameSize_0 (i := 0) (q := 1) rfl rfl) 0 rfl rfl <|
    V_getI (tat ok_X0_sameSize_0 (i := 1) (q := 4) rfl rfl) fk_X0_11 ho <|
    V_aload_n (tat ok_X0_sameSize_0 (i := 2) (q := 5) rfl rfl) 1 rfl rfl <|
    V_getI (tat ok_X0_sameSize_0 (i := 3) (q := 8) rfl rfl) fk_X0_11 hr1 <|
    V_icmp_ne (tat ok_X0_sameSize_0 (i := 4) (q := 11) rfl rfl) rfl (fun c1 => V_X0_sameSize_26 ho hr1 hr (jx (P := P) kk (if_neg c1))) (fun c1 => V_aload_n (tat ok_X0_sameSize_0 (i := 5) (q := 12) rfl rfl) 0 rfl rfl <|
    V_getI (tat ok_X0_sameSize_0 (i := 6) (q := 15) rfl rfl) fk_X0_15 ho <|
    V_aload_n (tat ok_X0_sameSize_0 (i := 7) (q := 16) rfl rfl) 1 rfl rfl <|
    V_getI (tat ok_X0_sameSize_0 (i := 8) (q := 19) rfl rfl) fk_X0_15 hr1 <|
    V_icmp_ne (tat ok_X0_sameSize_0 (i := 9) (q := 22) rfl rfl) rfl (fun c2 => V_X0_sameSize_26 ho hr1 hr (jx (P := P) kk (Eq.trans (if_pos c1) (if_neg c2)))) (fun c2 => V_iconst (tat ok_X0_sameSize_0 (i := 10) (q := 23) rfl rfl) ic_1 <|
    V_goto (tat ok_X0_sameSize_0 (i := 11) (q := 26) rfl rfl) rfl <|
    V_X0_sameSize_27 ho hr1 rfl hr (jx (P := P) kk (Eq.trans (if_pos c1) (if_pos c2)))))
theorem ct_X0_sameSize  (I : WI) (L : WL) (o : Nat) (r1 : Nat) (ho : isX0 o) (hr1 : isX0 r1) : Ct x_X0_sameSize 1 [.ref o, .ref r1] ly0 I L R0 0 0 (some (.int (F_X0_sameSize I o r1)), ly0, I, L, R0) :=
  Ct_of_V mo_X0_sameSize.1 (Nat.le_of_ble_eq_true rfl) (V_X0_sameSize (P := fun x => x = (F_X0_sameSize I o r1)) ho hr1 (fun _ e => by rw [e]) rfl)
def F_J13_bitCount_95d88_55 (a0 : Int64) : Int32 :=
  ((Int64.toInt32 a0) &&& 127)
theorem V_J13_bitCount_95d88_55  {I : WI} {L : WL}  {a0 : Int64} {P : Int32 → Prop} {t : Tg} (hr : ∀ v, P v → t = (some (.int v), ly0, I, L, R0)) (kk : P (F_J13_bitCount_95d88_55 a0)) : V (zM x_J13_bitCount_95d88 1 0 0 t) 55 [(0, .long a0)] [] ly0 I L R0 0 0 :=
  V_lload_n (tat ok_J13_bitCount_95d88_1 (i := 4) (q := 56) rfl rfl) 0 rfl rfl <|
    V_l2i (tat ok_J13_bitCount_95d88_1 (i := 5) (q := 57) rfl rfl) <|
    V_bipush (tat ok_J13_bitCount_95d88_1 (i := 6) (q := 59) rfl rfl) bp_127 <|
    V_iand (tat ok_J13_bitCount_95d88_1 (i := 7) (q := 60) rfl rfl) <|
    V_iret (tat ok_J13_bitCount_95d88_1 (i := 8) (q := 61) rfl rfl) _ rfl (nar_int _) (hr ((Int64.toInt32 a0) &&& 127) (jx (P := P) kk rfl)) ⟨(Nat.le_of_ble_eq_true rfl), (Nat.le_of_ble_eq_true rfl)⟩
def F_J13_bitCount_95d88_48 (a0 : Int64) : Int32 :=
  (F_J13_bitCount_95d88_55 (a0 + (lush a0 32)))
theorem V_J13_bitCount_95d88_48  {I : WI} {L : WL}  {a0 : Int64} {P : Int32 → Prop} {t : Tg} (hr : ∀ v, P v → t = (some (.int v), ly0, I, L, R0)) (kk : P (F_J13_bitCount_95d88_48 a0)) : V (zM x_J13_bitCount_95d88 1 0 0 t) 48 [(0, .long a0)] [] ly0 I L R0 0 0 :=
  V_lload_n (tat ok_J13_bitCount_95d88_0 (i := 38) (q := 49) rfl rfl) 0 rfl rfl <|
    V_lload_n (tat ok_J13_bitCount_95d88_0 (i := 39) (q := 50) rfl rfl) 0 rfl rfl <|
    V_bipush (tat ok_J13_bitCount_95d88_1 (i := 0) (q := 52) rfl rfl) bp_32 <|
    V_lushr (tat ok_J13_bitCount_95d88_1 (i := 1) (q := 53) rfl rfl) <|
    V_ladd (tat ok_J13_bitCount_95d88_1 (i := 2) (q := 54) rfl rfl) <|
    V_lstore_n (lv' := [(0, .long (a0 + (lush a0 32)))]) (tat ok_J13_bitCount_95d88_1 (i := 3) (q := 55) rfl rfl) rfl (Nat.le_of_ble_eq_true rfl) rfl <|
    V_J13_bitCount_95d88_55  hr (jx (P := P) kk rfl)
def F_J13_bitCount_95d88_41 (a0 : Int64) : Int32 :=
  (F_J13_bitCount_95d88_48 (a0 + (lush a0 16)))
theorem V_J13_bitCount_95d88_41  {I : WI} {L : WL}  {a0 : Int64} {P : Int32 → Prop} {t : Tg} (hr : ∀ v, P v → t = (some (.int v), ly0, I, L, R0)) (kk : P (F_J13_bitCount_95d88_41 a0)) : V (zM x_J13_bitCount_95d88 1 0 0 t) 41 [(0, .long a0)] [] ly0 I L R0 0 0 :=
  V_lload_n (tat ok_J13_bitCount_95d88_0 (i := 32) (q := 42) rfl rfl) 0 rfl rfl <|
    V_lload_n (tat ok_J13_bitCount_95d88_0 (i := 33) (q := 43) rfl rfl) 0 rfl rfl <|
    V_bipush (tat ok_J13_bitCount_95d88_0 (i := 34) (q := 45) rfl rfl) bp_16 <|
    V_lushr (tat ok_J13_bitCount_95d88_0 (i := 35) (q := 46) rfl rfl) <|
    V_ladd (tat ok_J13_bitCount_95d88_0 (i := 36) (q := 47) rfl rfl) <|
    V_lstore_n (lv' := [(0, .long (a0 + (lush a0 16)))]) (tat ok_J13_bitCount_95d88_0 (i := 37) (q := 48) rfl rfl) rfl (Nat.le_of_ble_eq_true rfl) rfl <|
    V_J13_bitCount_95d88_48  hr (jx (P := P) kk rfl)
def F_J13_bitCount_95d88_34 (a0 : Int64) : Int32 :=
  (F_J13_bitCount_95d88_41 (a0 + (lush a0 8)))
theorem V_J13_bitCount_95d88_34  {I : WI} {L : WL}  {a0 : Int64} {P : Int32 → Prop} {t : Tg} (hr : ∀ v, P v → t = (some (.int v), ly0, I, L, R0)) (kk : P (F_J13_bitCount_95d88_34 a0)) : V (zM x_J13_bitCount_95d88 1 0 0 t) 34 [(0, .long a0)] [] ly0 I L R0 0 0 :=
  V_lload_n (tat ok_J13_bitCount_95d88_0 (i := 26) (q := 35) rfl rfl) 0 rfl rfl <|
    V_lload_n (tat ok_J13_bitCount_95d88_0 (i := 27) (q := 36) rfl rfl) 0 rfl rfl <|
    V_bipush (tat ok_J13_bitCount_95d88_0 (i := 28) (q := 38) rfl rfl) bp_8 <|
    V_lushr (tat ok_J13_bitCount_95d88_0 (i := 29) (q := 39) rfl rfl) <|
    V_ladd (tat ok_J13_bitCount_95d88_0 (i := 30) (q := 40) rfl rfl) <|
    V_lstore_n (lv' := [(0, .long (a0 + (lush a0 8)))]) (tat ok_J13_bitCount_95d88_0 (i := 31) (q := 41) rfl rfl) rfl (Nat.le_of_ble_eq_true rfl) rfl <|
    V_J13_bitCount_95d88_41  hr (jx (P := P) kk rfl)
def F_J13_bitCount_95d88_24 (a0 : Int64) : Int32 :=
  (F_J13_bitCount_95d88_34 ((a0 + (lush a0 4)) &&& 1085102592571150095))
theorem V_J13_bitCount_95d88_24  {I : WI} {L : WL}  {a0 : Int64} {P : Int32 → Prop} {t : Tg} (hr : ∀ v, P v → t = (some (.int v), ly0, I, L, R0)) (kk : P (F_J13_bitCount_95d88_24 a0)) : V (zM x_J13_bitCount_95d88 1 0 0 t) 24 [(0, .long a0)] [] ly0 I L R0 0 0 :=
  V_lload_n (tat ok_J13_bitCount_95d88_0 (i := 18) (q := 25) rfl rfl) 0 rfl rfl <|
    V_lload_n (tat ok_J13_bitCount_95d88_0 (i := 19) (q := 26) rfl rfl) 0 rfl rfl <|
    V_iconst (tat ok_J13_bitCount_95d88_0 (i := 20) (q := 27) rfl rfl) ic_4 <|
    V_lushr (tat ok_J13_bitCount_95d88_0 (i := 21) (q := 28) rfl rfl) <|
    V_ladd (tat ok_J13_bitCount_95d88_0 (i := 22) (q := 29) rfl rfl) <|
    V_ldc2 (tat ok_J13_bitCount_95d88_0 (i := 23) (q := 32) rfl rfl) (gw_in kl_J13_318 rfl) <|
    V_land (tat ok_J13_bitCount_95d88_0 (i := 24) (q := 33) rfl rfl) <|
    V_lstore_n (lv' := [(0, .long ((a0 + (lush a0 4)) &&& 1085102592571150095))]) (tat ok_J13_bitCount_95d88_0 (i := 25) (q := 34) rfl rfl) rfl (Nat.le_of_ble_eq_true rfl) rfl <|
    V_J13_bitCount_95d88_34  hr (jx (P := P) kk rfl)
def F_J13_bitCount_95d88_10 (a0 : Int64) : Int32 :=
  (F_J13_bitCount_95d88_24 ((a0 &&& 3689348814741910323) + ((lush a0 2) &&& 3689348814741910323)))
theorem V_J13_bitCount_95d88_10  {I : WI} {L : WL}  {a0 : Int64} {P : Int32 → Prop} {t : Tg} (hr : ∀ v, P v → t = (some (.int v), ly0, I, L, R0)) (kk : P (F_J13_bitCount_95d88_10 a0)) : V (zM x_J13_bitCount_95d88 1 0 0 t) 10 [(0, .long a0)] [] ly0 I L R0 0 0 :=
  V_lload_n (tat ok_J13_bitCount_95d88_0 (i := 8) (q := 11) rfl rfl) 0 rfl rfl <|
    V_ldc2 (tat ok_J13_bitCount_95d88_0 (i := 9) (q := 14) rfl rfl) (gw_in kl_J13_316 rfl) <|
    V_land (tat ok_J13_bitCount_95d88_0 (i := 10) (q := 15) rfl rfl) <|
    V_lload_n (tat ok_J13_bitCount_95d88_0 (i := 11) (q := 16) rfl rfl) 0 rfl rfl <|
    V_iconst (tat ok_J13_bitCount_95d88_0 (i := 12) (q := 17) rfl rfl) ic_2 <|
    V_lushr (tat ok_J13_bitCount_95d88_0 (i := 13) (q := 18) rfl rfl) <|
    V_ldc2 (tat ok_J13_bitCount_95d88_0 (i := 14) (q := 21) rfl rfl) (gw_in kl_J13_316 rfl) <|
    V_land (tat ok_J13_bitCount_95d88_0 (i := 15) (q := 22) rfl rfl) <|
    V_ladd (tat ok_J13_bitCount_95d88_0 (i := 16) (q := 23) rfl rfl) <|
    V_lstore_n (lv' := [(0, .long ((a0 &&& 3689348814741910323) + ((lush a0 2) &&& 3689348814741910323)))]) (tat ok_J13_bitCount_95d88_0 (i := 17) (q := 24) rfl rfl) rfl (Nat.le_of_ble_eq_true rfl) rfl <|
    V_J13_bitCount_95d88_24  hr (jx (P := P) kk rfl)
def F_J13_bitCount_95d88 (a0 : Int64) : Int32 :=
  (F_J13_bitCount_95d88_10 (a0 - ((lush a0 1) &&& 6148914691236517205)))
theorem V_J13_bitCount_95d88  {I : WI} {L : WL}  {a0 : Int64} {P : Int32 → Prop} {t : Tg} (hr : ∀ v, P v → t = (some (.int v), ly0, I, L, R0)) (kk : P (F_J13_bitCount_95d88 a0)) : V (zM x_J13_bitCount_95d88 1 0 0 t) 0 [(0, .long a0)] [] ly0 I L R0 0 0 :=
  V_lload_n (tat ok_J13_bitCount_95d88_0 (i := 0) (q := 1) rfl rfl) 0 rfl rfl <|
    V_lload_n (tat ok_J13_bitCount_95d88_0 (i := 1) (q := 2) rfl rfl) 0 rfl rfl <|
    V_iconst (tat ok_J13_bitCount_95d88_0 (i := 2) (q := 3) rfl rfl) ic_1 <|
    V_lushr (tat ok_J13_bitCount_95d88_0 (i := 3) (q := 4) rfl rfl) <|
    V_ldc2 (tat ok_J13_bitCount_95d88_0 (i := 4) (q := 7) rfl rfl) (gw_in kl_J13_314 rfl) <|
    V_land (tat ok_J13_bitCount_95d88_0 (i := 5) (q := 8) rfl rfl) <|
    V_lsub (tat ok_J13_bitCount_95d88_0 (i := 6) (q := 9) rfl rfl) <|
    V_lstore_n (lv' := [(0, .long (a0 - ((lush a0 1) &&& 6148914691236517205)))]) (tat ok_J13_bitCount_95d88_0 (i := 7) (q := 10) rfl rfl) rfl (Nat.le_of_ble_eq_true rfl) rfl <|
    V_J13_bitCount_95d88_10  hr (jx (P := P) kk rfl)
theorem ct_J13_bitCount_95d88  (I : WI) (L : WL)  (a0 : Int64)  : Ct x_J13_bitCount_95d88 1 [.long a0] ly0 I L R0 0 0 (some (.int (F_J13_bitCount_95d88 a0)), ly0, I, L, R0) :=
  Ct_of_V mo_J13_bitCount_95d88.1 (Nat.le_of_ble_eq_true rfl) (V_J13_bitCount_95d88 (P := fun x => x = (F_J13_bitCount_95d88 a0))  (fun _ e => by rw [e]) rfl)
def F_X0_darkSquares (L : WL) (o : Nat) : Int32 :=
  (F_J13_bitCount_95d88 (L o 3))
theorem V_X0_darkSquares  {I : WI} {L : WL} {o : Nat}  {P : Int32 → Prop} {t : Tg} (ho : isX0 o) (hr : ∀ v, P v → t = (some (.int v), ly0, I, L, R0)) (kk : P (F_X0_darkSquares L o)) : V (zM x_X0_darkSquares 2 0 0 t) 0 [(0, .ref o)] [] ly0 I L R0 0 0 :=
  V_aload_n (tat ok_X0_darkSquares_0 (i := 0) (q := 1) rfl rfl) 0 rfl rfl <|
    V_getL (tat ok_X0_darkSquares_0 (i := 1) (q := 4) rfl rfl) fk_X0_22 ho <|
    V_cs1 (ct_J13_bitCount_95d88 I L (L o 3) ) mo_J13_bitCount_95d88 (tat ok_X0_darkSquares_0 (i := 2) (q := 7) rfl rfl) ml_X0_30 ⟨(Nat.le_of_ble_eq_true rfl), (Nat.le_of_ble_eq_true rfl)⟩ ⟨(Nat.le_of_ble_eq_true rfl), (Nat.le_of_ble_eq_true rfl)⟩ (Nat.le_of_ble_eq_true rfl) <|
    V_iret (tat ok_X0_darkSquares_0 (i := 3) (q := 8) rfl rfl) _ rfl (nar_int _) (hr (F_J13_bitCount_95d88 (L o 3)) (jx (P := P) kk rfl)) ⟨(Nat.le_of_ble_eq_true rfl), (Nat.le_of_ble_eq_true rfl)⟩
theorem ct_X0_darkSquares  (I : WI) (L : WL) (o : Nat) (ho : isX0 o) : Ct x_X0_darkSquares 2 [.ref o] ly0 I L R0 0 0 (some (.int (F_X0_darkSquares L o)), ly0, I, L, R0) :=
  Ct_of_V mo_X0_darkSquares.1 (Nat.le_of_ble_eq_true rfl) (V_X0_darkSquares (P := fun x => x = (F_X0_darkSquares L o)) ho (fun _ e => by rw [e]) rfl)
def F_X0_everyRow (I : WI) (o : Nat) : Int32 :=
  ((1 <<< ((I o 1) &&& 31)) - 1)
theorem V_X0_everyRow  {I : WI} {L : WL} {o : Nat}  {P : Int32 → Prop} {t : Tg} (ho : isX0 o) (hr : ∀ v, P v → t = (some (.int v), ly0, I, L, R0)) (kk : P (F_X0_everyRow I o)) : V (zM x_X0_everyRow 1 0 0 t) 0 [(0, .ref o)] [] ly0 I L R0 0 0 :=
  V_iconst (tat ok_X0_everyRow_0 (i := 0) (q := 1) rfl rfl) ic_1 <|
    V_aload_n (tat ok_X0_everyRow_0 (i := 1) (q := 2) rfl rfl) 0 rfl rfl <|
    V_getI (tat ok_X0_everyRow_0 (i := 2) (q := 5) rfl rfl) fk_X0_11 ho <|
    V_ishl (tat ok_X0_everyRow_0 (i := 3) (q := 6) rfl rfl) <|
    V_iconst (tat ok_X0_everyRow_0 (i := 4) (q := 7) rfl rfl) ic_1 <|
    V_isub (tat ok_X0_everyRow_0 (i := 5) (q := 8) rfl rfl) <|
    V_iret (tat ok_X0_everyRow_0 (i := 6) (q := 9) rfl rfl) _ rfl (nar_int _) (hr ((1 <<< ((I o 1) &&& 31)) - 1) (jx (P := P) kk rfl)) ⟨(Nat.le_of_ble_eq_true rfl), (Nat.le_of_ble_eq_true rfl)⟩
theorem ct_X0_everyRow  (I : WI) (L : WL) (o : Nat) (ho : isX0 o) : Ct x_X0_everyRow 1 [.ref o] ly0 I L R0 0 0 (some (.int (F_X0_everyRow I o)), ly0, I, L, R0) :=
  Ct_of_V mo_X0_everyRow.1 (Nat.le_of_ble_eq_true rfl) (V_X0_everyRow (P := fun x => x = (F_X0_everyRow I o)) ho (fun _ e => by rw [e]) rfl)
def F_X0_hasSquare_29 (I : WI) (o : Nat) (a1 : Int32) (a2 : Int32) (s0 : Int32) : Int32 :=
  s0
theorem V_X0_hasSquare_29  {I : WI} {L : WL} {o : Nat} {a1 : Int32} {a2 : Int32} {s0 : Int32} {P : Int32 → Prop} {t : Tg} (ho : isX0 o) (hs0 : bz s0 = s0) (hr : ∀ v, P v → t = (some (.int v), ly0, I, L, R0)) (kk : P (F_X0_hasSquare_29 I o a1 a2 s0)) : V (zM x_X0_hasSquare 1 0 0 t) 29 [(0, .ref o), (1, .int a1), (2, .int a2)] [.int s0] ly0 I L R0 0 0 :=
  V_iret (tat ok_X0_hasSquare_0 (i := 15) (q := 30) rfl rfl) _ rfl (bz_nf hs0).1 (hr s0 (jx (P := P) kk rfl)) ⟨(Nat.le_of_ble_eq_true rfl), (Nat.le_of_ble_eq_true rfl)⟩
def F_X0_hasSquare_28 (I : WI) (o : Nat) (a1 : Int32) (a2 : Int32) : Int32 :=
  (F_X0_hasSquare_29 I o a1 a2 0)
theorem V_X0_hasSquare_28  {I : WI} {L : WL} {o : Nat} {a1 : Int32} {a2 : Int32}  {P : Int32 → Prop} {t : Tg} (ho : isX0 o) (hr : ∀ v, P v → t = (some (.int v), ly0, I, L, R0)) (kk : P (F_X0_hasSquare_28 I o a1 a2)) : V (zM x_X0_hasSquare 1 0 0 t) 28 [(0, .ref o), (1, .int a1), (2, .int a2)] [] ly0 I L R0 0 0 :=
  V_iconst (tat ok_X0_hasSquare_0 (i := 14) (q := 29) rfl rfl) ic_0 <|
    V_X0_hasSquare_29 ho rfl hr (jx (P := P) kk rfl)
def F_X0_hasSquare (I : WI) (o : Nat) (a1 : Int32) (a2 : Int32) : Int32 :=
  (if a1 < 0 then (F_X0_hasSquare_28 I o a1 a2) else (if (I o 1) ≤ a1 then (F_X0_hasSquare_28 I o a1 a2) else (if a2 < 0 then (F_X0_hasSquare_28 I o a1 a2) else (if (I o 2) ≤ a2 then (F_X0_hasSquare_28 I o a1 a2) else (F_X0_hasSquare_29 I o a1 a2 1)))))
theorem V_X0_hasSquare  {I : WI} {L : WL} {o : Nat} {a1 : Int32} {a2 : Int32}  {P : Int32 → Prop} {t : Tg} (ho : isX0 o) (hr : ∀ v, P v → t = (some (.int v), ly0, I, L, R0)) (kk : P (F_X0_hasSquare I o a1 a2)) : V (zM x_X0_hasSquare 1 0 0 t) 0 [(0, .ref o), (1, .int a1), (2, .int a2)] [] ly0 I L R0 0 0 :=
  V_iload_n (tat ok_X0_hasSquare_0 (i := 0) (q := 1) rfl rfl) 1 rfl rfl <|
    V_if_lt (tat ok_X0_hasSquare_0 (i := 1) (q := 4) rfl rfl) rfl (fun c1 => V_X0_hasSquare_28 ho hr (jx (P := P) kk (if_pos c1))) (fun c1 => V_iload_n (tat ok_X0_hasSquare_0 (i := 2) (q := 5) rfl rfl) 1 rfl rfl <|
    V_aload_n (tat ok_X0_hasSquare_0 (i := 3) (q := 6) rfl rfl) 0 rfl rfl <|
    V_getI (tat ok_X0_hasSquare_0 (i := 4) (q := 9) rfl rfl) fk_X0_11 ho <|
    V_icmp_ge (tat ok_X0_hasSquare_0 (i := 5) (q := 12) rfl rfl) rfl (fun c2 => V_X0_hasSquare_28 ho hr (jx (P := P) kk (Eq.trans (if_neg c1) (if_pos c2)))) (fun c2 => V_iload_n (tat ok_X0_hasSquare_0 (i := 6) (q := 13) rfl rfl) 2 rfl rfl <|
    V_if_lt (tat ok_X0_hasSquare_0 (i := 7) (q := 16) rfl rfl) rfl (fun c3 => V_X0_hasSquare_28 ho hr (jx (P := P) kk (Eq.trans (if_neg c1) (Eq.trans (if_neg c2) (if_pos c3))))) (fun c3 => V_iload_n (tat ok_X0_hasSquare_0 (i := 8) (q := 17) rfl rfl) 2 rfl rfl <|
    V_aload_n (tat ok_X0_hasSquare_0 (i := 9) (q := 18) rfl rfl) 0 rfl rfl <|
    V_getI (tat ok_X0_hasSquare_0 (i := 10) (q := 21) rfl rfl) fk_X0_15 ho <|
    V_icmp_ge (tat ok_X0_hasSquare_0 (i := 11) (q := 24) rfl rfl) rfl (fun c4 => V_X0_hasSquare_28 ho hr (jx (P := P) kk (Eq.trans (if_neg c1) (Eq.trans (if_neg c2) (Eq.trans (if_neg c3) (if_pos c4)))))) (fun c4 => V_iconst (tat ok_X0_hasSquare_0 (i := 12) (q := 25) rfl rfl) ic_1 <|
    V_goto (tat ok_X0_hasSquare_0 (i := 13) (q := 28) rfl rfl) rfl <|
    V_X0_hasSquare_29 ho rfl hr (jx (P := P) kk (Eq.trans (if_neg c1) (Eq.trans (if_neg c2) (Eq.trans (if_neg c3) (if_neg c4)))))))))
theorem ct_X0_hasSquare  (I : WI) (L : WL) (o : Nat) (a1 : Int32) (a2 : Int32) (ho : isX0 o) : Ct x_X0_hasSquare 1 [.ref o, .int a1, .int a2] ly0 I L R0 0 0 (some (.int (F_X0_hasSquare I o a1 a2)), ly0, I, L, R0) :=
  Ct_of_V mo_X0_hasSquare.1 (Nat.le_of_ble_eq_true rfl) (V_X0_hasSquare (P := fun x => x = (F_X0_hasSquare I o a1 a2)) ho (fun _ e => by rw [e]) rfl)
def F_X0_squareAt (L : WL) (o : Nat) (a1 : Int32) (a2 : Int32) : Int32 :=
  ((Int64.toInt32 (lush (L o 3) ((8 * a1) + a2))) &&& 1)
theorem V_X0_squareAt  {I : WI} {L : WL} {o : Nat} {a1 : Int32} {a2 : Int32}  {P : Int32 → Prop} {t : Tg} (ho : isX0 o) (hr : ∀ v, P v → t = (some (.int v), ly0, I, L, R0)) (kk : P (F_X0_squareAt L o a1 a2)) : V (zM x_X0_squareAt 1 0 0 t) 0 [(0, .ref o), (1, .int a1), (2, .int a2)] [] ly0 I L R0 0 0 :=
  V_aload_n (tat ok_X0_squareAt_0 (i := 0) (q := 1) rfl rfl) 0 rfl rfl <|
    V_getL (tat ok_X0_squareAt_0 (i := 1) (q := 4) rfl rfl) fk_X0_22 ho <|
    V_bipush (tat ok_X0_squareAt_0 (i := 2) (q := 6) rfl rfl) bp_8 <|
    V_iload_n (tat ok_X0_squareAt_0 (i := 3) (q := 7) rfl rfl) 1 rfl rfl <|
    V_imul (tat ok_X0_squareAt_0 (i := 4) (q := 8) rfl rfl) <|
    V_iload_n (tat ok_X0_squareAt_0 (i := 5) (q := 9) rfl rfl) 2 rfl rfl <|
    V_iadd (tat ok_X0_squareAt_0 (i := 6) (q := 10) rfl rfl) <|
    V_lushr (tat ok_X0_squareAt_0 (i := 7) (q := 11) rfl rfl) <|
    V_l2i (tat ok_X0_squareAt_0 (i := 8) (q := 12) rfl rfl) <|
    V_iconst (tat ok_X0_squareAt_0 (i := 9) (q := 13) rfl rfl) ic_1 <|
    V_iand (tat ok_X0_squareAt_0 (i := 10) (q := 14) rfl rfl) <|
    V_iret (tat ok_X0_squareAt_0 (i := 11) (q := 15) rfl rfl) _ rfl (nar_int _) (hr ((Int64.toInt32 (lush (L o 3) ((8 * a1) + a2))) &&& 1) (jx (P := P) kk rfl)) ⟨(Nat.le_of_ble_eq_true rfl), (Nat.le_of_ble_eq_true rfl)⟩
theorem ct_X0_squareAt  (I : WI) (L : WL) (o : Nat) (a1 : Int32) (a2 : Int32) (ho : isX0 o) : Ct x_X0_squareAt 1 [.ref o, .int a1, .int a2] ly0 I L R0 0 0 (some (.int (F_X0_squareAt L o a1 a2)), ly0, I, L, R0) :=
  Ct_of_V mo_X0_squareAt.1 (Nat.le_of_ble_eq_true rfl) (V_X0_squareAt (P := fun x => x = (F_X0_squareAt L o a1 a2)) ho (fun _ e => by rw [e]) rfl)
def F_X0_colour_44 (L : WL) (o : Nat) (a1 : Int32) (a2 : Int32) (a3 : Int32) (a4 : Int32) (s0 : Int64) : (Int32 × WL) :=
  (a4, (u2 L o 3 s0))
theorem V_X0_colour_44  {I : WI} {L : WL} {o : Nat} {a1 : Int32} {a2 : Int32} {a3 : Int32} {a4 : Int32} {s0 : Int64} {P : (Int32 × WL) → Prop} {t : Tg} (ho : isX0 o) (hr : ∀ v, P v → t = (some (.int (p1 v)), ly0, I, (p2 v), R0)) (kk : P (F_X0_colour_44 L o a1 a2 a3 a4 s0)) : V (zM x_X0_colour 2 0 0 t) 44 [(0, .ref o), (1, .int a1), (2, .int a2), (3, .int a3), (4, .int a4)] [.long s0, .ref o] ly0 I L R0 0 0 :=
  V_putL (tat ok_X0_colour_0 (i := 27) (q := 47) rfl rfl) fk_X0_22 ho rfl <|
    V_iload (tat ok_X0_colour_0 (i := 28) (q := 49) rfl rfl) 4 rfl <|
    V_iret (tat ok_X0_colour_0 (i := 29) (q := 50) rfl rfl) _ rfl (nar_int _) (hr (a4, (u2 L o 3 s0)) (jx (P := P) kk rfl)) ⟨(Nat.le_of_ble_eq_true rfl), (Nat.le_of_ble_eq_true rfl)⟩
def F_X0_colour (L : WL) (o : Nat) (a1 : Int32) (a2 : Int32) (a3 : Int32) : (Int32 × WL) :=
  (if a3 = 0 then (F_X0_colour_44 L o a1 a2 a3 (F_X0_squareAt L o a1 a2) ((L o 3) &&& ((lsh 1 ((8 * a1) + a2)) ^^^ (-1)))) else (F_X0_colour_44 L o a1 a2 a3 (F_X0_squareAt L o a1 a2) ((L o 3) ||| (lsh 1 ((8 * a1) + a2)))))
theorem V_X0_colour  {I : WI} {L : WL} {o : Nat} {a1 : Int32} {a2 : Int32} {a3 : Int32}  {P : (Int32 × WL) → Prop} {t : Tg} (ho : isX0 o) (hr : ∀ v, P v → t = (some (.int (p1 v)), ly0, I, (p2 v), R0)) (kk : P (F_X0_colour L o a1 a2 a3)) : V (zM x_X0_colour 2 0 0 t) 0 [(0, .ref o), (1, .int a1), (2, .int a2), (3, .int a3)] [] ly0 I L R0 0 0 :=
  V_aload_n (tat ok_X0_colour_0 (i := 0) (q := 1) rfl rfl) 0 rfl rfl <|
    V_iload_n (tat ok_X0_colour_0 (i := 1) (q := 2) rfl rfl) 1 rfl rfl <|
    V_iload_n (tat ok_X0_colour_0 (i := 2) (q := 3) rfl rfl) 2 rfl rfl <|
    V_cv2 (ct_X0_squareAt I L o a1 a2 ho) mo_X0_squareAt (tat ok_X0_colour_0 (i := 3) (q := 6) rfl rfl) ml_X0_44 ho ⟨by decide, _, rfl, rfl⟩ ⟨(Nat.le_of_ble_eq_true rfl), (Nat.le_of_ble_eq_true rfl)⟩ ⟨(Nat.le_of_ble_eq_true rfl), (Nat.le_of_ble_eq_true rfl)⟩ (Nat.le_of_ble_eq_true rfl) <|
    V_istore (lv' := [(4, .int (F_X0_squareAt L o a1 a2)), (0, .ref o), (1, .int a1), (2, .int a2), (3, .int a3)]) (tat ok_X0_colour_0 (i := 4) (q := 8) rfl rfl) (Nat.le_of_ble_eq_true rfl) rfl <|
    V_lconst (v := 1) (tat ok_X0_colour_0 (i := 5) (q := 9) rfl rfl) rfl <|
    V_bipush (tat ok_X0_colour_0 (i := 6) (q := 11) rfl rfl) bp_8 <|
    V_iload_n (tat ok_X0_colour_0 (i := 7) (q := 12) rfl rfl) 2 rfl rfl <|
    V_imul (tat ok_X0_colour_0 (i := 8) (q := 13) rfl rfl) <|
    V_iload_n (tat ok_X0_colour_0 (i := 9) (q := 14) rfl rfl) 3 rfl rfl <|
    V_iadd (tat ok_X0_colour_0 (i := 10) (q := 15) rfl rfl) <|
    V_lshl (tat ok_X0_colour_0 (i := 11) (q := 16) rfl rfl) <|
    V_lstore (lv' := [(5, .long (lsh 1 ((8 * a1) + a2))), (4, .int (F_X0_squareAt L o a1 a2)), (0, .ref o), (1, .int a1), (2, .int a2), (3, .int a3)]) (tat ok_X0_colour_0 (i := 12) (q := 18) rfl rfl) (Nat.le_of_ble_eq_true rfl) rfl <|
    V_aload_n (tat ok_X0_colour_0 (i := 13) (q := 19) rfl rfl) 2 rfl rfl <|
    V_iload_n (tat ok_X0_colour_0 (i := 14) (q := 20) rfl rfl) 5 rfl rfl <|
    V_if_eq (tat ok_X0_colour_0 (i := 15) (q := 23) rfl rfl) rfl (fun c1 => V_aload_n (tat ok_X0_colour_0 (i := 21) (q := 34) rfl rfl) 2 rfl rfl <|
    V_getL (tat ok_X0_colour_0 (i := 22) (q := 37) rfl rfl) fk_X0_22 ho <|
    V_lload (tat ok_X0_colour_0 (i := 23) (q := 39) rfl rfl) 0 rfl <|
    V_ldc2 (tat ok_X0_colour_0 (i := 24) (q := 42) rfl rfl) (gw_in kl_X0_48 rfl) <|
    V_lxor (tat ok_X0_colour_0 (i := 25) (q := 43) rfl rfl) <|
    V_land (tat ok_X0_colour_0 (i := 26) (q := 44) rfl rfl) <|
    V_pick [2, 3, 4, 5, 1] rfl (V_X0_colour_44 ho hr (jx (P := P) kk (if_pos c1)))) (fun c1 => V_aload_n (tat ok_X0_colour_0 (i := 16) (q := 24) rfl rfl) 2 rfl rfl <|
    V_getL (tat ok_X0_colour_0 (i := 17) (q := 27) rfl rfl) fk_X0_22 ho <|
    V_lload (tat ok_X0_colour_0 (i := 18) (q := 29) rfl rfl) 0 rfl <|
    V_lor (tat ok_X0_colour_0 (i := 19) (q := 30) rfl rfl) <|
    V_goto (tat ok_X0_colour_0 (i := 20) (q := 33) rfl rfl) rfl <|
    V_pick [2, 3, 4, 5, 1] rfl (V_X0_colour_44 ho hr (jx (P := P) kk (if_neg c1))))
theorem ct_X0_colour  (I : WI) (L : WL) (o : Nat) (a1 : Int32) (a2 : Int32) (a3 : Int32) (ho : isX0 o) : Ct x_X0_colour 2 [.ref o, .int a1, .int a2, .int a3] ly0 I L R0 0 0 (some (.int (p1 (F_X0_colour L o a1 a2 a3))), ly0, I, (p2 (F_X0_colour L o a1 a2 a3)), R0) :=
  Ct_of_V mo_X0_colour.1 (Nat.le_of_ble_eq_true rfl) (V_X0_colour (P := fun x => x = (F_X0_colour L o a1 a2 a3)) ho (fun _ e => by rw [e]) rfl)
def F_X0_linesOf (I : WI) (o : Nat) (a1 : Int32) : Int32 :=
  (if a1 = 0 then (I o 1) else (if a1 = 1 then (I o 2) else (if a1 = 2 then (((I o 1) + (I o 2)) - 1) else 0)))
theorem V_X0_linesOf  {I : WI} {L : WL} {o : Nat} {a1 : Int32}  {P : Int32 → Prop} {t : Tg} (ho : isX0 o) (hr : ∀ v, P v → t = (some (.int v), ly0, I, L, R0)) (kk : P (F_X0_linesOf I o a1)) : V (zM x_X0_linesOf 1 0 0 t) 0 [(0, .ref o), (1, .int a1)] [] ly0 I L R0 0 0 :=
  V_iload_n (tat ok_X0_linesOf_0 (i := 0) (q := 1) rfl rfl) 1 rfl rfl <|
    (if c1 : a1 = 0 then V_tswJ (tgt := 28) (off := 27) 0 (tat ok_X0_linesOf_0 (i := 1) (q := 28) rfl rfl) (swj c1) ⟨rfl, by decide⟩ rfl (V_aload_n (tat ok_X0_linesOf_0 (i := 2) (q := 29) rfl rfl) 0 rfl rfl <|
    V_getI (tat ok_X0_linesOf_0 (i := 3) (q := 32) rfl rfl) fk_X0_11 ho <|
    V_iret (tat ok_X0_linesOf_0 (i := 4) (q := 33) rfl rfl) _ rfl (nar_int _) (hr (I o 1) (jx (P := P) kk (if_pos c1))) ⟨(Nat.le_of_ble_eq_true rfl), (Nat.le_of_ble_eq_true rfl)⟩) else (if c2 : a1 = 1 then V_tswJ (tgt := 33) (off := 32) 1 (tat ok_X0_linesOf_0 (i := 1) (q := 28) rfl rfl) (swj c2) ⟨rfl, by decide⟩ rfl (V_aload_n (tat ok_X0_linesOf_0 (i := 5) (q := 34) rfl rfl) 0 rfl rfl <|
    V_getI (tat ok_X0_linesOf_0 (i := 6) (q := 37) rfl rfl) fk_X0_15 ho <|
    V_iret (tat ok_X0_linesOf_0 (i := 7) (q := 38) rfl rfl) _ rfl (nar_int _) (hr (I o 2) (jx (P := P) kk (Eq.trans (if_neg c1) (if_pos c2)))) ⟨(Nat.le_of_ble_eq_true rfl), (Nat.le_of_ble_eq_true rfl)⟩) else (if c3 : a1 = 2 then V_tswJ (tgt := 38) (off := 37) 2 (tat ok_X0_linesOf_0 (i := 1) (q := 28) rfl rfl) (swj c3) ⟨rfl, by decide⟩ rfl (V_aload_n (tat ok_X0_linesOf_0 (i := 8) (q := 39) rfl rfl) 0 rfl rfl <|
    V_getI (tat ok_X0_linesOf_0 (i := 9) (q := 42) rfl rfl) fk_X0_11 ho <|
    V_aload_n (tat ok_X0_linesOf_0 (i := 10) (q := 43) rfl rfl) 0 rfl rfl <|
    V_getI (tat ok_X0_linesOf_0 (i := 11) (q := 46) rfl rfl) fk_X0_15 ho <|
    V_iadd (tat ok_X0_linesOf_0 (i := 12) (q := 47) rfl rfl) <|
    V_iconst (tat ok_X0_linesOf_0 (i := 13) (q := 48) rfl rfl) ic_1 <|
    V_isub (tat ok_X0_linesOf_0 (i := 14) (q := 49) rfl rfl) <|
    V_iret (tat ok_X0_linesOf_0 (i := 15) (q := 50) rfl rfl) _ rfl (nar_int _) (hr (((I o 1) + (I o 2)) - 1) (jx (P := P) kk (Eq.trans (if_neg c1) (Eq.trans (if_neg c2) (if_pos c3))))) ⟨(Nat.le_of_ble_eq_true rfl), (Nat.le_of_ble_eq_true rfl)⟩) else V_tswD (tgt := 50) (tat ok_X0_linesOf_0 (i := 1) (q := 28) rfl rfl) (sw3 c1 c2 c3) rfl (V_iconst (tat ok_X0_linesOf_0 (i := 16) (q := 51) rfl rfl) ic_0 <|
    V_iret (tat ok_X0_linesOf_0 (i := 17) (q := 52) rfl rfl) _ rfl (nar_int _) (hr 0 (jx (P := P) kk (Eq.trans (if_neg c1) (Eq.trans (if_neg c2) (if_neg c3))))) ⟨(Nat.le_of_ble_eq_true rfl), (Nat.le_of_ble_eq_true rfl)⟩))))
theorem ct_X0_linesOf  (I : WI) (L : WL) (o : Nat) (a1 : Int32) (ho : isX0 o) : Ct x_X0_linesOf 1 [.ref o, .int a1] ly0 I L R0 0 0 (some (.int (F_X0_linesOf I o a1)), ly0, I, L, R0) :=
  Ct_of_V mo_X0_linesOf.1 (Nat.le_of_ble_eq_true rfl) (V_X0_linesOf (P := fun x => x = (F_X0_linesOf I o a1)) ho (fun _ e => by rw [e]) rfl)
def F_X0_hasLine_18 (I : WI) (o : Nat) (a1 : Int32) (a2 : Int32) (s0 : Int32) : Int32 :=
  s0
theorem V_X0_hasLine_18  {I : WI} {L : WL} {o : Nat} {a1 : Int32} {a2 : Int32} {s0 : Int32} {P : Int32 → Prop} {t : Tg} (ho : isX0 o) (hs0 : bz s0 = s0) (hr : ∀ v, P v → t = (some (.int v), ly0, I, L, R0)) (kk : P (F_X0_hasLine_18 I o a1 a2 s0)) : V (zM x_X0_hasLine 2 0 0 t) 18 [(0, .ref o), (1, .int a1), (2, .int a2)] [.int s0] ly0 I L R0 0 0 :=
  V_iret (tat ok_X0_hasLine_0 (i := 10) (q := 19) rfl rfl) _ rfl (bz_nf hs0).1 (hr s0 (jx (P := P) kk rfl)) ⟨(Nat.le_of_ble_eq_true rfl), (Nat.le_of_ble_eq_true rfl)⟩
def F_X0_hasLine_17 (I : WI) (o : Nat) (a1 : Int32) (a2 : Int32) : Int32 :=
  (F_X0_hasLine_18 I o a1 a2 0)
theorem V_X0_hasLine_17  {I : WI} {L : WL} {o : Nat} {a1 : Int32} {a2 : Int32}  {P : Int32 → Prop} {t : Tg} (ho : isX0 o) (hr : ∀ v, P v → t = (some (.int v), ly0, I, L, R0)) (kk : P (F_X0_hasLine_17 I o a1 a2)) : V (zM x_X0_hasLine 2 0 0 t) 17 [(0, .ref o), (1, .int a1), (2, .int a2)] [] ly0 I L R0 0 0 :=
  V_iconst (tat ok_X0_hasLine_0 (i := 9) (q := 18) rfl rfl) ic_0 <|
    V_X0_hasLine_18 ho rfl hr (jx (P := P) kk rfl)
def F_X0_hasLine (I : WI) (o : Nat) (a1 : Int32) (a2 : Int32) : Int32 :=
  (if a2 < 0 then (F_X0_hasLine_17 I o a1 a2) else (if (F_X0_linesOf I o a1) ≤ a2 then (F_X0_hasLine_17 I o a1 a2) else (F_X0_hasLine_18 I o a1 a2 1)))
theorem V_X0_hasLine  {I : WI} {L : WL} {o : Nat} {a1 : Int32} {a2 : Int32}  {P : Int32 → Prop} {t : Tg} (ho : isX0 o) (hr : ∀ v, P v → t = (some (.int v), ly0, I, L, R0)) (kk : P (F_X0_hasLine I o a1 a2)) : V (zM x_X0_hasLine 2 0 0 t) 0 [(0, .ref o), (1, .int a1), (2, .int a2)] [] ly0 I L R0 0 0 :=
  V_iload_n (tat ok_X0_hasLine_0 (i := 0) (q := 1) rfl rfl) 2 rfl rfl <|
    V_if_lt (tat ok_X0_hasLine_0 (i := 1) (q := 4) rfl rfl) rfl (fun c1 => V_X0_hasLine_17 ho hr (jx (P := P) kk (if_pos c1))) (fun c1 => V_iload_n (tat ok_X0_hasLine_0 (i := 2) (q := 5) rfl rfl) 2 rfl rfl <|
    V_aload_n (tat ok_X0_hasLine_0 (i := 3) (q := 6) rfl rfl) 0 rfl rfl <|
    V_iload_n (tat ok_X0_hasLine_0 (i := 4) (q := 7) rfl rfl) 1 rfl rfl <|
    V_cv1 (ct_X0_linesOf I L o a1 ho) mo_X0_linesOf (tat ok_X0_hasLine_0 (i := 5) (q := 10) rfl rfl) ml_X0_50 ho ⟨by decide, _, rfl, rfl⟩ ⟨(Nat.le_of_ble_eq_true rfl), (Nat.le_of_ble_eq_true rfl)⟩ ⟨(Nat.le_of_ble_eq_true rfl), (Nat.le_of_ble_eq_true rfl)⟩ (Nat.le_of_ble_eq_true rfl) <|
    V_icmp_ge (tat ok_X0_hasLine_0 (i := 6) (q := 13) rfl rfl) rfl (fun c2 => V_X0_hasLine_17 ho hr (jx (P := P) kk (Eq.trans (if_neg c1) (if_pos c2)))) (fun c2 => V_iconst (tat ok_X0_hasLine_0 (i := 7) (q := 14) rfl rfl) ic_1 <|
    V_goto (tat ok_X0_hasLine_0 (i := 8) (q := 17) rfl rfl) rfl <|
    V_X0_hasLine_18 ho rfl hr (jx (P := P) kk (Eq.trans (if_neg c1) (if_neg c2)))))
theorem ct_X0_hasLine  (I : WI) (L : WL) (o : Nat) (a1 : Int32) (a2 : Int32) (ho : isX0 o) : Ct x_X0_hasLine 2 [.ref o, .int a1, .int a2] ly0 I L R0 0 0 (some (.int (F_X0_hasLine I o a1 a2)), ly0, I, L, R0) :=
  Ct_of_V mo_X0_hasLine.1 (Nat.le_of_ble_eq_true rfl) (V_X0_hasLine (P := fun x => x = (F_X0_hasLine I o a1 a2)) ho (fun _ e => by rw [e]) rfl)
def F_X0_slantSquares_42_1 (I : WI) (o : Nat) (a1 : Int32) (a4 : Int32) (a2 : Int64) : Int64 :=
  a2
theorem V_X0_slantSquares_42_1  {I : WI} {L : WL} {o : Nat} {a1 : Int32} {a4 : Int32} {a2 : Int64} {P : Int64 → Prop} {t : Tg} (ho : isX0 o) (hk : ∀ x : Int64, P x → V (zM x_X0_slantSquares 2 0 0 t) 5 [(0, .ref o), (1, .int a1), (2, .long x), (4, .int (a4 + 1))] [] ly0 I L R0 0 0) (kk : P (F_X0_slantSquares_42_1 I o a1 a4 a2)) : V (zM x_X0_slantSquares 2 0 0 t) 42 [(0, .ref o), (1, .int a1), (2, .long a2), (4, .int a4)] [] ly0 I L R0 0 0 :=
  V_iinc (v := (a4 + 1)) (lv' := [(4, .int (a4 + 1)), (0, .ref o), (1, .int a1), (2, .long a2)]) (tat ok_X0_slantSquares_0 (i := 27) (q := 45) rfl rfl) 3 rfl (ia ic_1) (Nat.le_of_ble_eq_true rfl) rfl <|
    V_goto (tat ok_X0_slantSquares_0 (i := 28) (q := 48) rfl rfl) rfl <|
    V_pick [1, 2, 3, 0] rfl (hk a2 (jx (P := P) kk rfl))
def F_X0_slantSquares_14_1 (I : WI) (o : Nat) (a1 : Int32) (a4 : Int32) (a2 : Int64) : Int64 :=
  (if (F_X0_hasSquare I o a4 (a1 - a4)) = 0 then (F_X0_slantSquares_42_1 I o a1 a4 a2) else (F_X0_slantSquares_42_1 I o a1 a4 (a2 ||| (lsh 1 (((8 * a4) + a1) - a4)))))
theorem V_X0_slantSquares_14_1  {I : WI} {L : WL} {o : Nat} {a1 : Int32} {a4 : Int32} {a2 : Int64} {P : Int64 → Prop} {t : Tg} (ho : isX0 o) (hk : ∀ x : Int64, P x → V (zM x_X0_slantSquares 2 0 0 t) 5 [(0, .ref o), (1, .int a1), (2, .long x), (4, .int (a4 + 1))] [] ly0 I L R0 0 0) (kk : P (F_X0_slantSquares_14_1 I o a1 a4 a2)) : V (zM x_X0_slantSquares 2 0 0 t) 14 [(0, .ref o), (1, .int a1), (2, .long a2), (4, .int a4)] [] ly0 I L R0 0 0 :=
  V_aload_n (tat ok_X0_slantSquares_0 (i := 8) (q := 15) rfl rfl) 0 rfl rfl <|
    V_iload (tat ok_X0_slantSquares_0 (i := 9) (q := 17) rfl rfl) 3 rfl <|
    V_iload_n (tat ok_X0_slantSquares_0 (i := 10) (q := 18) rfl rfl) 1 rfl rfl <|
    V_iload (tat ok_X0_slantSquares_0 (i := 11) (q := 20) rfl rfl) 3 rfl <|
    V_isub (tat ok_X0_slantSquares_0 (i := 12) (q := 21) rfl rfl) <|
    V_cv2 (ct_X0_hasSquare I L o a4 (a1 - a4) ho) mo_X0_hasSquare (tat ok_X0_slantSquares_0 (i := 13) (q := 24) rfl rfl) ml_X0_63 ho ⟨by decide, _, rfl, rfl⟩ ⟨(Nat.le_of_ble_eq_true rfl), (Nat.le_of_ble_eq_true rfl)⟩ ⟨(Nat.le_of_ble_eq_true rfl), (Nat.le_of_ble_eq_true rfl)⟩ (Nat.le_of_ble_eq_true rfl) <|
    V_if_eq (tat ok_X0_slantSquares_0 (i := 14) (q := 27) rfl rfl) rfl (fun c1 => V_X0_slantSquares_42_1 ho hk (jx (P := P) kk (if_pos c1))) (fun c1 => V_lload_n (tat ok_X0_slantSquares_0 (i := 15) (q := 28) rfl rfl) 2 rfl rfl <|
    V_lconst (v := 1) (tat ok_X0_slantSquares_0 (i := 16) (q := 29) rfl rfl) rfl <|
    V_bipush (tat ok_X0_slantSquares_0 (i := 17) (q := 31) rfl rfl) bp_8 <|
    V_iload (tat ok_X0_slantSquares_0 (i := 18) (q := 33) rfl rfl) 3 rfl <|
    V_imul (tat ok_X0_slantSquares_0 (i := 19) (q := 34) rfl rfl) <|
    V_iload_n (tat ok_X0_slantSquares_0 (i := 20) (q := 35) rfl rfl) 1 rfl rfl <|
    V_iadd (tat ok_X0_slantSquares_0 (i := 21) (q := 36) rfl rfl) <|
    V_iload (tat ok_X0_slantSquares_0 (i := 22) (q := 38) rfl rfl) 3 rfl <|
    V_isub (tat ok_X0_slantSquares_0 (i := 23) (q := 39) rfl rfl) <|
    V_lshl (tat ok_X0_slantSquares_0 (i := 24) (q := 40) rfl rfl) <|
    V_lor (tat ok_X0_slantSquares_0 (i := 25) (q := 41) rfl rfl) <|
    V_lstore_n (lv' := [(2, .long (a2 ||| (lsh 1 (((8 * a4) + a1) - a4)))), (0, .ref o), (1, .int a1), (4, .int a4)]) (tat ok_X0_slantSquares_0 (i := 26) (q := 42) rfl rfl) rfl (Nat.le_of_ble_eq_true rfl) rfl <|
    V_pick [1, 2, 0, 3] rfl (V_X0_slantSquares_42_1 ho hk (jx (P := P) kk (if_neg c1))))
def F_X0_slantSquares_48 (I : WI) (o : Nat) (a1 : Int32) (a2 : Int64) : Int64 :=
  a2
theorem V_X0_slantSquares_48  {I : WI} {L : WL} {o : Nat} {a1 : Int32} {a2 : Int64} {P : Int64 → Prop} {t : Tg} (ho : isX0 o) (hr : ∀ v, P v → t = (some (.long v), ly0, I, L, R0)) (kk : P (F_X0_slantSquares_48 I o a1 a2)) : V (zM x_X0_slantSquares 2 0 0 t) 48 [(0, .ref o), (1, .int a1), (2, .long a2)] [] ly0 I L R0 0 0 :=
  V_lload_n (tat ok_X0_slantSquares_0 (i := 29) (q := 49) rfl rfl) 2 rfl rfl <|
    V_lret (tat ok_X0_slantSquares_0 (i := 30) (q := 50) rfl rfl) rfl (hr a2 (jx (P := P) kk rfl)) ⟨(Nat.le_of_ble_eq_true rfl), (Nat.le_of_ble_eq_true rfl)⟩
def F_X0_slantSquares_5 (I : WI) (o : Nat) (a1 : Int32) (a2 : Int64) (a4 : Int32) : Int64 :=
  (fun q : Int32 × Int64 => (F_X0_slantSquares_48 I o a1 (p2 q))) (fr0 (fun i x => (F_X0_slantSquares_14_1 I o a1 i x)) (I o 1) (fu a4 (I o 1)) a4 a2)
theorem V_X0_slantSquares_5  {I : WI} {L : WL} {o : Nat} {a1 : Int32} {a2 : Int64} {a4 : Int32} {P : Int64 → Prop} {t : Tg} (ho : isX0 o) (hb4 : bz a4 = a4) (hr : ∀ v, P v → t = (some (.long v), ly0, I, L, R0)) (kk : P (F_X0_slantSquares_5 I o a1 a2 a4)) : V (zM x_X0_slantSquares 2 0 0 t) 5 [(0, .ref o), (1, .int a1), (2, .long a2), (4, .int a4)] [] ly0 I L R0 0 0 :=
  V_fr0 (fun i x => (F_X0_slantSquares_14_1 I o a1 i x)) (I o 1) (fun i x => V (zM x_X0_slantSquares 2 0 0 t) 5 [(0, .ref o), (1, .int a1), (2, .long x), (4, .int i)] [] ly0 I L R0 0 0) (fun i x => P ((F_X0_slantSquares_48 I o a1 x))) (c := a4) (s := a2) (fun i x kx kb => V_iload (tat ok_X0_slantSquares_0 (i := 4) (q := 7) rfl rfl) 3 rfl <|
    V_aload_n (tat ok_X0_slantSquares_0 (i := 5) (q := 8) rfl rfl) 0 rfl rfl <|
    V_getI (tat ok_X0_slantSquares_0 (i := 6) (q := 11) rfl rfl) fk_X0_11 ho <|
    V_icmp_ge (tat ok_X0_slantSquares_0 (i := 7) (q := 14) rfl rfl) rfl (fun c0 => V_pick [0, 1, 2] rfl (V_X0_slantSquares_48 ho hr (kx c0))) (fun c0 => V_X0_slantSquares_14_1 (P := (fun x => (fun i x => V (zM x_X0_slantSquares 2 0 0 t) 5 [(0, .ref o), (1, .int a1), (2, .long x), (4, .int i)] [] ly0 I L R0 0 0) (i + 1) x)) ho (fun _ e => e) (kb c0))) kk
def F_X0_slantSquares (I : WI) (o : Nat) (a1 : Int32) : Int64 :=
  (F_X0_slantSquares_5 I o a1 0 0)
theorem V_X0_slantSquares  {I : WI} {L : WL} {o : Nat} {a1 : Int32}  {P : Int64 → Prop} {t : Tg} (ho : isX0 o) (hr : ∀ v, P v → t = (some (.long v), ly0, I, L, R0)) (kk : P (F_X0_slantSquares I o a1)) : V (zM x_X0_slantSquares 2 0 0 t) 0 [(0, .ref o), (1, .int a1)] [] ly0 I L R0 0 0 :=
  V_lconst (v := 0) (tat ok_X0_slantSquares_0 (i := 0) (q := 1) rfl rfl) rfl <|
    V_lstore_n (lv' := [(2, .long 0), (0, .ref o), (1, .int a1)]) (tat ok_X0_slantSquares_0 (i := 1) (q := 2) rfl rfl) rfl (Nat.le_of_ble_eq_true rfl) rfl <|
    V_iconst (tat ok_X0_slantSquares_0 (i := 2) (q := 3) rfl rfl) ic_0 <|
    V_istore (lv' := [(4, .int 0), (2, .long 0), (0, .ref o), (1, .int a1)]) (tat ok_X0_slantSquares_0 (i := 3) (q := 5) rfl rfl) (Nat.le_of_ble_eq_true rfl) rfl <|
    V_pick [2, 3, 1, 0] rfl (V_X0_slantSquares_5 ho rfl hr (jx (P := P) kk rfl))
theorem ct_X0_slantSquares  (I : WI) (L : WL) (o : Nat) (a1 : Int32) (ho : isX0 o) : Ct x_X0_slantSquares 2 [.ref o, .int a1] ly0 I L R0 0 0 (some (.long (F_X0_slantSquares I o a1)), ly0, I, L, R0) :=
  Ct_of_V mo_X0_slantSquares.1 (Nat.le_of_ble_eq_true rfl) (V_X0_slantSquares (P := fun x => x = (F_X0_slantSquares I o a1)) ho (fun _ e => by rw [e]) rfl)
def F_X0_squaresOf_44 (I : WI) (o : Nat) (a1 : Int32) (a2 : Int32) (s0 : Int64) : Int64 :=
  s0
theorem V_X0_squaresOf_44  {I : WI} {L : WL} {o : Nat} {a1 : Int32} {a2 : Int32} {s0 : Int64} {P : Int64 → Prop} {t : Tg} (ho : isX0 o) (hr : ∀ v, P v → t = (some (.long v), ly0, I, L, R0)) (kk : P (F_X0_squaresOf_44 I o a1 a2 s0)) : V (zM x_X0_squaresOf 3 0 0 t) 44 [(0, .ref o), (1, .int a1), (2, .int a2)] [.long s0] ly0 I L R0 0 0 :=
  V_lret (tat ok_X0_squaresOf_0 (i := 27) (q := 45) rfl rfl) rfl (hr s0 (jx (P := P) kk rfl)) ⟨(Nat.le_of_ble_eq_true rfl), (Nat.le_of_ble_eq_true rfl)⟩
def F_X0_squaresOf (I : WI) (o : Nat) (a1 : Int32) (a2 : Int32) : Int64 :=
  (if (F_X0_hasLine I o a1 a2) = 0 then 0 else (if a1 = 0 then (lsh (Int32.toInt64 (F_X0_everyColumn I o)) (8 * a2)) else (if a1 = 1 then (F_X0_squaresOf_44 I o a1 a2 (F_X0_columnSquares I o a2)) else (F_X0_squaresOf_44 I o a1 a2 (F_X0_slantSquares I o a2)))))
theorem V_X0_squaresOf  {I : WI} {L : WL} {o : Nat} {a1 : Int32} {a2 : Int32}  {P : Int64 → Prop} {t : Tg} (ho : isX0 o) (hr : ∀ v, P v → t = (some (.long v), ly0, I, L, R0)) (kk : P (F_X0_squaresOf I o a1 a2)) : V (zM x_X0_squaresOf 3 0 0 t) 0 [(0, .ref o), (1, .int a1), (2, .int a2)] [] ly0 I L R0 0 0 :=
  V_aload_n (tat ok_X0_squaresOf_0 (i := 0) (q := 1) rfl rfl) 0 rfl rfl <|
    V_iload_n (tat ok_X0_squaresOf_0 (i := 1) (q := 2) rfl rfl) 1 rfl rfl <|
    V_iload_n (tat ok_X0_squaresOf_0 (i := 2) (q := 3) rfl rfl) 2 rfl rfl <|
    V_cv2 (ct_X0_hasLine I L o a1 a2 ho) mo_X0_hasLine (tat ok_X0_squaresOf_0 (i := 3) (q := 6) rfl rfl) ml_X0_54 ho ⟨by decide, _, rfl, rfl⟩ ⟨(Nat.le_of_ble_eq_true rfl), (Nat.le_of_ble_eq_true rfl)⟩ ⟨(Nat.le_of_ble_eq_true rfl), (Nat.le_of_ble_eq_true rfl)⟩ (Nat.le_of_ble_eq_true rfl) <|
    V_if_ne (tat ok_X0_squaresOf_0 (i := 4) (q := 9) rfl rfl) rfl (fun c1 => V_iload_n (tat ok_X0_squaresOf_0 (i := 7) (q := 12) rfl rfl) 1 rfl rfl <|
    V_if_ne (tat ok_X0_squaresOf_0 (i := 8) (q := 15) rfl rfl) rfl (fun c2 => V_iload_n (tat ok_X0_squaresOf_0 (i := 17) (q := 27) rfl rfl) 1 rfl rfl <|
    V_iconst (tat ok_X0_squaresOf_0 (i := 18) (q := 28) rfl rfl) ic_1 <|
    V_icmp_ne (tat ok_X0_squaresOf_0 (i := 19) (q := 31) rfl rfl) rfl (fun c3 => V_aload_n (tat ok_X0_squaresOf_0 (i := 24) (q := 40) rfl rfl) 0 rfl rfl <|
    V_iload_n (tat ok_X0_squaresOf_0 (i := 25) (q := 41) rfl rfl) 2 rfl rfl <|
    V_cv1 (ct_X0_slantSquares I L o a2 ho) mo_X0_slantSquares (tat ok_X0_squaresOf_0 (i := 26) (q := 44) rfl rfl) ml_X0_58 ho ⟨by decide, _, rfl, rfl⟩ ⟨(Nat.le_of_ble_eq_true rfl), (Nat.le_of_ble_eq_true rfl)⟩ ⟨(Nat.le_of_ble_eq_true rfl), (Nat.le_of_ble_eq_true rfl)⟩ (Nat.le_of_ble_eq_true rfl) <|
    V_X0_squaresOf_44 ho hr (jx (P := P) kk (Eq.trans (if_neg c1) (Eq.trans (if_neg c2) (if_neg c3))))) (fun c3 => V_aload_n (tat ok_X0_squaresOf_0 (i := 20) (q := 32) rfl rfl) 0 rfl rfl <|
    V_iload_n (tat ok_X0_squaresOf_0 (i := 21) (q := 33) rfl rfl) 2 rfl rfl <|
    V_cv1 (ct_X0_columnSquares I L o a2 ho) mo_X0_columnSquares (tat ok_X0_squaresOf_0 (i := 22) (q := 36) rfl rfl) ml_X0_40 ho ⟨by decide, _, rfl, rfl⟩ ⟨(Nat.le_of_ble_eq_true rfl), (Nat.le_of_ble_eq_true rfl)⟩ ⟨(Nat.le_of_ble_eq_true rfl), (Nat.le_of_ble_eq_true rfl)⟩ (Nat.le_of_ble_eq_true rfl) <|
    V_goto (tat ok_X0_squaresOf_0 (i := 23) (q := 39) rfl rfl) rfl <|
    V_X0_squaresOf_44 ho hr (jx (P := P) kk (Eq.trans (if_neg c1) (Eq.trans (if_neg c2) (if_pos c3)))))) (fun c2 => V_aload_n (tat ok_X0_squaresOf_0 (i := 9) (q := 16) rfl rfl) 0 rfl rfl <|
    V_cv0 (ct_X0_everyColumn I L o ho) mo_X0_everyColumn (tat ok_X0_squaresOf_0 (i := 10) (q := 19) rfl rfl) ml_X0_36 ho ⟨by decide, _, rfl, rfl⟩ ⟨(Nat.le_of_ble_eq_true rfl), (Nat.le_of_ble_eq_true rfl)⟩ ⟨(Nat.le_of_ble_eq_true rfl), (Nat.le_of_ble_eq_true rfl)⟩ (Nat.le_of_ble_eq_true rfl) <|
    V_i2l (tat ok_X0_squaresOf_0 (i := 11) (q := 20) rfl rfl) <|
    V_bipush (tat ok_X0_squaresOf_0 (i := 12) (q := 22) rfl rfl) bp_8 <|
    V_iload_n (tat ok_X0_squaresOf_0 (i := 13) (q := 23) rfl rfl) 2 rfl rfl <|
    V_imul (tat ok_X0_squaresOf_0 (i := 14) (q := 24) rfl rfl) <|
    V_lshl (tat ok_X0_squaresOf_0 (i := 15) (q := 25) rfl rfl) <|
    V_lret (tat ok_X0_squaresOf_0 (i := 16) (q := 26) rfl rfl) rfl (hr (lsh (Int32.toInt64 (F_X0_everyColumn I o)) (8 * a2)) (jx (P := P) kk (Eq.trans (if_neg c1) (if_pos c2)))) ⟨(Nat.le_of_ble_eq_true rfl), (Nat.le_of_ble_eq_true rfl)⟩)) (fun c1 => V_lconst (v := 0) (tat ok_X0_squaresOf_0 (i := 5) (q := 10) rfl rfl) rfl <|
    V_lret (tat ok_X0_squaresOf_0 (i := 6) (q := 11) rfl rfl) rfl (hr 0 (jx (P := P) kk (if_pos c1))) ⟨(Nat.le_of_ble_eq_true rfl), (Nat.le_of_ble_eq_true rfl)⟩)
theorem ct_X0_squaresOf  (I : WI) (L : WL) (o : Nat) (a1 : Int32) (a2 : Int32) (ho : isX0 o) : Ct x_X0_squaresOf 3 [.ref o, .int a1, .int a2] ly0 I L R0 0 0 (some (.long (F_X0_squaresOf I o a1 a2)), ly0, I, L, R0) :=
  Ct_of_V mo_X0_squaresOf.1 (Nat.le_of_ble_eq_true rfl) (V_X0_squaresOf (P := fun x => x = (F_X0_squaresOf I o a1 a2)) ho (fun _ e => by rw [e]) rfl)
def F_X0_squaresTurned_40_1 (I : WI) (o : Nat) (a1 : Int32) (a2 : Int32) (a5 : Int32) (a3 : Int64) : Int64 :=
  a3
theorem V_X0_squaresTurned_40_1  {I : WI} {L : WL} {o : Nat} {a1 : Int32} {a2 : Int32} {a5 : Int32} {a3 : Int64} {P : Int64 → Prop} {t : Tg} (ho : isX0 o) (hk : ∀ x : Int64, P x → V (zM x_X0_squaresTurned 4 0 0 t) 12 [(0, .ref o), (1, .int a1), (2, .int a2), (3, .long x), (5, .int (a5 + 1))] [] ly0 I L R0 0 0) (kk : P (F_X0_squaresTurned_40_1 I o a1 a2 a5 a3)) : V (zM x_X0_squaresTurned 4 0 0 t) 40 [(0, .ref o), (1, .int a1), (2, .int a2), (3, .long a3), (5, .int a5)] [] ly0 I L R0 0 0 :=
  V_iinc (v := (a5 + 1)) (lv' := [(5, .int (a5 + 1)), (0, .ref o), (1, .int a1), (2, .int a2), (3, .long a3)]) (tat ok_X0_squaresTurned_0 (i := 26) (q := 43) rfl rfl) 4 rfl (ia ic_1) (Nat.le_of_ble_eq_true rfl) rfl <|
    V_goto (tat ok_X0_squaresTurned_0 (i := 27) (q := 46) rfl rfl) rfl <|
    V_pick [1, 2, 3, 4, 0] rfl (hk a3 (jx (P := P) kk rfl))
def F_X0_squaresTurned_21_1 (I : WI) (o : Nat) (a1 : Int32) (a2 : Int32) (a5 : Int32) (a3 : Int64) : Int64 :=
  (if ((a1 >>> (a5 &&& 31)) &&& 1) = 0 then (F_X0_squaresTurned_40_1 I o a1 a2 a5 a3) else (F_X0_squaresTurned_40_1 I o a1 a2 a5 (a3 ^^^ (F_X0_squaresOf I o 0 a5))))
theorem V_X0_squaresTurned_21_1  {I : WI} {L : WL} {o : Nat} {a1 : Int32} {a2 : Int32} {a5 : Int32} {a3 : Int64} {P : Int64 → Prop} {t : Tg} (ho : isX0 o) (hk : ∀ x : Int64, P x → V (zM x_X0_squaresTurned 4 0 0 t) 12 [(0, .ref o), (1, .int a1), (2, .int a2), (3, .long x), (5, .int (a5 + 1))] [] ly0 I L R0 0 0) (kk : P (F_X0_squaresTurned_21_1 I o a1 a2 a5 a3)) : V (zM x_X0_squaresTurned 4 0 0 t) 21 [(0, .ref o), (1, .int a1), (2, .int a2), (3, .long a3), (5, .int a5)] [] ly0 I L R0 0 0 :=
  V_iload_n (tat ok_X0_squaresTurned_0 (i := 13) (q := 22) rfl rfl) 1 rfl rfl <|
    V_iload (tat ok_X0_squaresTurned_0 (i := 14) (q := 24) rfl rfl) 4 rfl <|
    V_ishr (tat ok_X0_squaresTurned_0 (i := 15) (q := 25) rfl rfl) <|
    V_iconst (tat ok_X0_squaresTurned_0 (i := 16) (q := 26) rfl rfl) ic_1 <|
    V_iand (tat ok_X0_squaresTurned_0 (i := 17) (q := 27) rfl rfl) <|
    V_if_eq (tat ok_X0_squaresTurned_0 (i := 18) (q := 30) rfl rfl) rfl (fun c1 => V_X0_squaresTurned_40_1 ho hk (jx (P := P) kk (if_pos c1))) (fun c1 => V_lload_n (tat ok_X0_squaresTurned_0 (i := 19) (q := 31) rfl rfl) 3 rfl rfl <|
    V_aload_n (tat ok_X0_squaresTurned_0 (i := 20) (q := 32) rfl rfl) 0 rfl rfl <|
    V_iconst (tat ok_X0_squaresTurned_0 (i := 21) (q := 33) rfl rfl) ic_0 <|
    V_iload (tat ok_X0_squaresTurned_0 (i := 22) (q := 35) rfl rfl) 4 rfl <|
    V_cv2 (ct_X0_squaresOf I L o 0 a5 ho) mo_X0_squaresOf (tat ok_X0_squaresTurned_0 (i := 23) (q := 38) rfl rfl) ml_X0_66 ho ⟨by decide, _, rfl, rfl⟩ ⟨(Nat.le_of_ble_eq_true rfl), (Nat.le_of_ble_eq_true rfl)⟩ ⟨(Nat.le_of_ble_eq_true rfl), (Nat.le_of_ble_eq_true rfl)⟩ (Nat.le_of_ble_eq_true rfl) <|
    V_lxor (tat ok_X0_squaresTurned_0 (i := 24) (q := 39) rfl rfl) <|
    V_lstore_n (lv' := [(3, .long (a3 ^^^ (F_X0_squaresOf I o 0 a5))), (0, .ref o), (1, .int a1), (2, .int a2), (5, .int a5)]) (tat ok_X0_squaresTurned_0 (i := 25) (q := 40) rfl rfl) rfl (Nat.le_of_ble_eq_true rfl) rfl <|
    V_pick [1, 2, 3, 0, 4] rfl (V_X0_squaresTurned_40_1 ho hk (jx (P := P) kk (if_neg c1))))
def F_X0_squaresTurned_46 (I : WI) (o : Nat) (a1 : Int32) (a2 : Int32) (a3 : Int64) : Int64 :=
  a3
theorem V_X0_squaresTurned_46  {I : WI} {L : WL} {o : Nat} {a1 : Int32} {a2 : Int32} {a3 : Int64} {P : Int64 → Prop} {t : Tg} (ho : isX0 o) (hr : ∀ v, P v → t = (some (.long v), ly0, I, L, R0)) (kk : P (F_X0_squaresTurned_46 I o a1 a2 a3)) : V (zM x_X0_squaresTurned 4 0 0 t) 46 [(0, .ref o), (1, .int a1), (2, .int a2), (3, .long a3)] [] ly0 I L R0 0 0 :=
  V_lload_n (tat ok_X0_squaresTurned_0 (i := 28) (q := 47) rfl rfl) 3 rfl rfl <|
    V_lret (tat ok_X0_squaresTurned_0 (i := 29) (q := 48) rfl rfl) rfl (hr a3 (jx (P := P) kk rfl)) ⟨(Nat.le_of_ble_eq_true rfl), (Nat.le_of_ble_eq_true rfl)⟩
def F_X0_squaresTurned_12 (I : WI) (o : Nat) (a1 : Int32) (a2 : Int32) (a3 : Int64) (a5 : Int32) : Int64 :=
  (fun q : Int32 × Int64 => (F_X0_squaresTurned_46 I o a1 a2 (p2 q))) (fr0 (fun i x => (F_X0_squaresTurned_21_1 I o a1 a2 i x)) (I o 1) (fu a5 (I o 1)) a5 a3)
theorem V_X0_squaresTurned_12  {I : WI} {L : WL} {o : Nat} {a1 : Int32} {a2 : Int32} {a3 : Int64} {a5 : Int32} {P : Int64 → Prop} {t : Tg} (ho : isX0 o) (hb5 : bz a5 = a5) (hr : ∀ v, P v → t = (some (.long v), ly0, I, L, R0)) (kk : P (F_X0_squaresTurned_12 I o a1 a2 a3 a5)) : V (zM x_X0_squaresTurned 4 0 0 t) 12 [(0, .ref o), (1, .int a1), (2, .int a2), (3, .long a3), (5, .int a5)] [] ly0 I L R0 0 0 :=
  V_fr0 (fun i x => (F_X0_squaresTurned_21_1 I o a1 a2 i x)) (I o 1) (fun i x => V (zM x_X0_squaresTurned 4 0 0 t) 12 [(0, .ref o), (1, .int a1), (2, .int a2), (3, .long x), (5, .int i)] [] ly0 I L R0 0 0) (fun i x => P ((F_X0_squaresTurned_46 I o a1 a2 x))) (c := a5) (s := a3) (fun i x kx kb => V_iload (tat ok_X0_squaresTurned_0 (i := 9) (q := 14) rfl rfl) 4 rfl <|
    V_aload_n (tat ok_X0_squaresTurned_0 (i := 10) (q := 15) rfl rfl) 0 rfl rfl <|
    V_getI (tat ok_X0_squaresTurned_0 (i := 11) (q := 18) rfl rfl) fk_X0_11 ho <|
    V_icmp_ge (tat ok_X0_squaresTurned_0 (i := 12) (q := 21) rfl rfl) rfl (fun c0 => V_pick [0, 1, 2, 3] rfl (V_X0_squaresTurned_46 ho hr (kx c0))) (fun c0 => V_X0_squaresTurned_21_1 (P := (fun x => (fun i x => V (zM x_X0_squaresTurned 4 0 0 t) 12 [(0, .ref o), (1, .int a1), (2, .int a2), (3, .long x), (5, .int i)] [] ly0 I L R0 0 0) (i + 1) x)) ho (fun _ e => e) (kb c0))) kk
def F_X0_squaresTurned (I : WI) (o : Nat) (a1 : Int32) (a2 : Int32) : Int64 :=
  (F_X0_squaresTurned_12 I o a1 a2 ((Int32.toInt64 a2) * (F_X0_columnSquares I o 0)) 0)
theorem V_X0_squaresTurned  {I : WI} {L : WL} {o : Nat} {a1 : Int32} {a2 : Int32}  {P : Int64 → Prop} {t : Tg} (ho : isX0 o) (hr : ∀ v, P v → t = (some (.long v), ly0, I, L, R0)) (kk : P (F_X0_squaresTurned I o a1 a2)) : V (zM x_X0_squaresTurned 4 0 0 t) 0 [(0, .ref o), (1, .int a1), (2, .int a2)] [] ly0 I L R0 0 0 :=
  V_iload_n (tat ok_X0_squaresTurned_0 (i := 0) (q := 1) rfl rfl) 2 rfl rfl <|
    V_i2l (tat ok_X0_squaresTurned_0 (i := 1) (q := 2) rfl rfl) <|
    V_aload_n (tat ok_X0_squaresTurned_0 (i := 2) (q := 3) rfl rfl) 0 rfl rfl <|
    V_iconst (tat ok_X0_squaresTurned_0 (i := 3) (q := 4) rfl rfl) ic_0 <|
    V_cv1 (ct_X0_columnSquares I L o 0 ho) mo_X0_columnSquares (tat ok_X0_squaresTurned_0 (i := 4) (q := 7) rfl rfl) ml_X0_40 ho ⟨by decide, _, rfl, rfl⟩ ⟨(Nat.le_of_ble_eq_true rfl), (Nat.le_of_ble_eq_true rfl)⟩ ⟨(Nat.le_of_ble_eq_true rfl), (Nat.le_of_ble_eq_true rfl)⟩ (Nat.le_of_ble_eq_true rfl) <|
    V_lmul (tat ok_X0_squaresTurned_0 (i := 5) (q := 8) rfl rfl) <|
    V_lstore_n (lv' := [(3, .long ((Int32.toInt64 a2) * (F_X0_columnSquares I o 0))), (0, .ref o), (1, .int a1), (2, .int a2)]) (tat ok_X0_squaresTurned_0 (i := 6) (q := 9) rfl rfl) rfl (Nat.le_of_ble_eq_true rfl) rfl <|
    V_iconst (tat ok_X0_squaresTurned_0 (i := 7) (q := 10) rfl rfl) ic_0 <|
    V_istore (lv' := [(5, .int 0), (3, .long ((Int32.toInt64 a2) * (F_X0_columnSquares I o 0))), (0, .ref o), (1, .int a1), (2, .int a2)]) (tat ok_X0_squaresTurned_0 (i := 8) (q := 12) rfl rfl) (Nat.le_of_ble_eq_true rfl) rfl <|
    V_pick [2, 3, 4, 1, 0] rfl (V_X0_squaresTurned_12 ho rfl hr (jx (P := P) kk rfl))
theorem ct_X0_squaresTurned  (I : WI) (L : WL) (o : Nat) (a1 : Int32) (a2 : Int32) (ho : isX0 o) : Ct x_X0_squaresTurned 4 [.ref o, .int a1, .int a2] ly0 I L R0 0 0 (some (.long (F_X0_squaresTurned I o a1 a2)), ly0, I, L, R0) :=
  Ct_of_V mo_X0_squaresTurned.1 (Nat.le_of_ble_eq_true rfl) (V_X0_squaresTurned (P := fun x => x = (F_X0_squaresTurned I o a1 a2)) ho (fun _ e => by rw [e]) rfl)
def F_X0_columnsOfFirstRow (I : WI) (o : Nat) (a1 : Int64) : Int32 :=
  ((Int64.toInt32 a1) &&& (F_X0_everyColumn I o))
theorem V_X0_columnsOfFirstRow  {I : WI} {L : WL} {o : Nat} {a1 : Int64}  {P : Int32 → Prop} {t : Tg} (ho : isX0 o) (hr : ∀ v, P v → t = (some (.int v), ly0, I, L, R0)) (kk : P (F_X0_columnsOfFirstRow I o a1)) : V (zM x_X0_columnsOfFirstRow 2 0 0 t) 0 [(0, .ref o), (1, .long a1)] [] ly0 I L R0 0 0 :=
  V_lload_n (tat ok_X0_columnsOfFirstRow_0 (i := 0) (q := 1) rfl rfl) 1 rfl rfl <|
    V_l2i (tat ok_X0_columnsOfFirstRow_0 (i := 1) (q := 2) rfl rfl) <|
    V_aload_n (tat ok_X0_columnsOfFirstRow_0 (i := 2) (q := 3) rfl rfl) 0 rfl rfl <|
    V_cv0 (ct_X0_everyColumn I L o ho) mo_X0_everyColumn (tat ok_X0_columnsOfFirstRow_0 (i := 3) (q := 6) rfl rfl) ml_X0_36 ho ⟨by decide, _, rfl, rfl⟩ ⟨(Nat.le_of_ble_eq_true rfl), (Nat.le_of_ble_eq_true rfl)⟩ ⟨(Nat.le_of_ble_eq_true rfl), (Nat.le_of_ble_eq_true rfl)⟩ (Nat.le_of_ble_eq_true rfl) <|
    V_iand (tat ok_X0_columnsOfFirstRow_0 (i := 4) (q := 7) rfl rfl) <|
    V_iret (tat ok_X0_columnsOfFirstRow_0 (i := 5) (q := 8) rfl rfl) _ rfl (nar_int _) (hr ((Int64.toInt32 a1) &&& (F_X0_everyColumn I o)) (jx (P := P) kk rfl)) ⟨(Nat.le_of_ble_eq_true rfl), (Nat.le_of_ble_eq_true rfl)⟩
theorem ct_X0_columnsOfFirstRow  (I : WI) (L : WL) (o : Nat) (a1 : Int64) (ho : isX0 o) : Ct x_X0_columnsOfFirstRow 2 [.ref o, .long a1] ly0 I L R0 0 0 (some (.int (F_X0_columnsOfFirstRow I o a1)), ly0, I, L, R0) :=
  Ct_of_V mo_X0_columnsOfFirstRow.1 (Nat.le_of_ble_eq_true rfl) (V_X0_columnsOfFirstRow (P := fun x => x = (F_X0_columnsOfFirstRow I o a1)) ho (fun _ e => by rw [e]) rfl)
def F_X0_rowsUnlikeFirst_14_1 (I : WI) (o : Nat) (a1 : Int64) (a4 : Int32) (a3 : Int32) : Int32 :=
  (a3 ||| ((Int64.toInt32 (((lush a1 (8 * a4)) ^^^ a1) &&& 1)) <<< (a4 &&& 31)))
theorem V_X0_rowsUnlikeFirst_14_1  {I : WI} {L : WL} {o : Nat} {a1 : Int64} {a4 : Int32} {a3 : Int32} {P : Int32 → Prop} {t : Tg} (ho : isX0 o) (hk : ∀ x : Int32, P x → V (zM x_X0_rowsUnlikeFirst 1 0 0 t) 5 [(0, .ref o), (1, .long a1), (3, .int x), (4, .int (a4 + 1))] [] ly0 I L R0 0 0) (kk : P (F_X0_rowsUnlikeFirst_14_1 I o a1 a4 a3)) : V (zM x_X0_rowsUnlikeFirst 1 0 0 t) 14 [(0, .ref o), (1, .long a1), (3, .int a3), (4, .int a4)] [] ly0 I L R0 0 0 :=
  V_iload_n (tat ok_X0_rowsUnlikeFirst_0 (i := 8) (q := 15) rfl rfl) 2 rfl rfl <|
    V_lload_n (tat ok_X0_rowsUnlikeFirst_0 (i := 9) (q := 16) rfl rfl) 1 rfl rfl <|
    V_bipush (tat ok_X0_rowsUnlikeFirst_0 (i := 10) (q := 18) rfl rfl) bp_8 <|
    V_iload (tat ok_X0_rowsUnlikeFirst_0 (i := 11) (q := 20) rfl rfl) 3 rfl <|
    V_imul (tat ok_X0_rowsUnlikeFirst_0 (i := 12) (q := 21) rfl rfl) <|
    V_lushr (tat ok_X0_rowsUnlikeFirst_0 (i := 13) (q := 22) rfl rfl) <|
    V_lload_n (tat ok_X0_rowsUnlikeFirst_0 (i := 14) (q := 23) rfl rfl) 1 rfl rfl <|
    V_lxor (tat ok_X0_rowsUnlikeFirst_0 (i := 15) (q := 24) rfl rfl) <|
    V_lconst (v := 1) (tat ok_X0_rowsUnlikeFirst_0 (i := 16) (q := 25) rfl rfl) rfl <|
    V_land (tat ok_X0_rowsUnlikeFirst_0 (i := 17) (q := 26) rfl rfl) <|
    V_l2i (tat ok_X0_rowsUnlikeFirst_0 (i := 18) (q := 27) rfl rfl) <|
    V_iload (tat ok_X0_rowsUnlikeFirst_0 (i := 19) (q := 29) rfl rfl) 3 rfl <|
    V_ishl (tat ok_X0_rowsUnlikeFirst_0 (i := 20) (q := 30) rfl rfl) <|
    V_ior (tat ok_X0_rowsUnlikeFirst_0 (i := 21) (q := 31) rfl rfl) <|
    V_istore_n (lv' := [(3, .int (a3 ||| ((Int64.toInt32 (((lush a1 (8 * a4)) ^^^ a1) &&& 1)) <<< (a4 &&& 31)))), (0, .ref o), (1, .long a1), (4, .int a4)]) (tat ok_X0_rowsUnlikeFirst_0 (i := 22) (q := 32) rfl rfl) rfl (Nat.le_of_ble_eq_true rfl) rfl <|
    V_iinc (v := (a4 + 1)) (lv' := [(4, .int (a4 + 1)), (3, .int (a3 ||| ((Int64.toInt32 (((lush a1 (8 * a4)) ^^^ a1) &&& 1)) <<< (a4 &&& 31)))), (0, .ref o), (1, .long a1)]) (tat ok_X0_rowsUnlikeFirst_0 (i := 23) (q := 35) rfl rfl) 3 rfl (ia ic_1) (Nat.le_of_ble_eq_true rfl) rfl <|
    V_goto (tat ok_X0_rowsUnlikeFirst_0 (i := 24) (q := 38) rfl rfl) rfl <|
    V_pick [2, 3, 1, 0] rfl (hk (a3 ||| ((Int64.toInt32 (((lush a1 (8 * a4)) ^^^ a1) &&& 1)) <<< (a4 &&& 31))) (jx (P := P) kk rfl))
def F_X0_rowsUnlikeFirst_38 (I : WI) (o : Nat) (a1 : Int64) (a3 : Int32) : Int32 :=
  a3
theorem V_X0_rowsUnlikeFirst_38  {I : WI} {L : WL} {o : Nat} {a1 : Int64} {a3 : Int32} {P : Int32 → Prop} {t : Tg} (ho : isX0 o) (hr : ∀ v, P v → t = (some (.int v), ly0, I, L, R0)) (kk : P (F_X0_rowsUnlikeFirst_38 I o a1 a3)) : V (zM x_X0_rowsUnlikeFirst 1 0 0 t) 38 [(0, .ref o), (1, .long a1), (3, .int a3)] [] ly0 I L R0 0 0 :=
  V_iload_n (tat ok_X0_rowsUnlikeFirst_0 (i := 25) (q := 39) rfl rfl) 2 rfl rfl <|
    V_iret (tat ok_X0_rowsUnlikeFirst_0 (i := 26) (q := 40) rfl rfl) _ rfl (nar_int _) (hr a3 (jx (P := P) kk rfl)) ⟨(Nat.le_of_ble_eq_true rfl), (Nat.le_of_ble_eq_true rfl)⟩
def F_X0_rowsUnlikeFirst_5 (I : WI) (o : Nat) (a1 : Int64) (a3 : Int32) (a4 : Int32) : Int32 :=
  (fun q : Int32 × Int32 => (F_X0_rowsUnlikeFirst_38 I o a1 (p2 q))) (fr0 (fun i x => (F_X0_rowsUnlikeFirst_14_1 I o a1 i x)) (I o 1) (fu a4 (I o 1)) a4 a3)
theorem V_X0_rowsUnlikeFirst_5  {I : WI} {L : WL} {o : Nat} {a1 : Int64} {a3 : Int32} {a4 : Int32} {P : Int32 → Prop} {t : Tg} (ho : isX0 o) (hb3 : bz a3 = a3) (hb4 : bz a4 = a4) (hr : ∀ v, P v → t = (some (.int v), ly0, I, L, R0)) (kk : P (F_X0_rowsUnlikeFirst_5 I o a1 a3 a4)) : V (zM x_X0_rowsUnlikeFirst 1 0 0 t) 5 [(0, .ref o), (1, .long a1), (3, .int a3), (4, .int a4)] [] ly0 I L R0 0 0 :=
  V_fr0 (fun i x => (F_X0_rowsUnlikeFirst_14_1 I o a1 i x)) (I o 1) (fun i x => V (zM x_X0_rowsUnlikeFirst 1 0 0 t) 5 [(0, .ref o), (1, .long a1), (3, .int x), (4, .int i)] [] ly0 I L R0 0 0) (fun i x => P ((F_X0_rowsUnlikeFirst_38 I o a1 x))) (c := a4) (s := a3) (fun i x kx kb => V_iload (tat ok_X0_rowsUnlikeFirst_0 (i := 4) (q := 7) rfl rfl) 3 rfl <|
    V_aload_n (tat ok_X0_rowsUnlikeFirst_0 (i := 5) (q := 8) rfl rfl) 0 rfl rfl <|
    V_getI (tat ok_X0_rowsUnlikeFirst_0 (i := 6) (q := 11) rfl rfl) fk_X0_11 ho <|
    V_icmp_ge (tat ok_X0_rowsUnlikeFirst_0 (i := 7) (q := 14) rfl rfl) rfl (fun c0 => V_pick [0, 1, 2] rfl (V_X0_rowsUnlikeFirst_38 ho hr (kx c0))) (fun c0 => V_X0_rowsUnlikeFirst_14_1 (P := (fun x => (fun i x => V (zM x_X0_rowsUnlikeFirst 1 0 0 t) 5 [(0, .ref o), (1, .long a1), (3, .int x), (4, .int i)] [] ly0 I L R0 0 0) (i + 1) x)) ho (fun _ e => e) (kb c0))) kk
def F_X0_rowsUnlikeFirst (I : WI) (o : Nat) (a1 : Int64) : Int32 :=
  (F_X0_rowsUnlikeFirst_5 I o a1 0 1)
theorem V_X0_rowsUnlikeFirst  {I : WI} {L : WL} {o : Nat} {a1 : Int64}  {P : Int32 → Prop} {t : Tg} (ho : isX0 o) (hr : ∀ v, P v → t = (some (.int v), ly0, I, L, R0)) (kk : P (F_X0_rowsUnlikeFirst I o a1)) : V (zM x_X0_rowsUnlikeFirst 1 0 0 t) 0 [(0, .ref o), (1, .long a1)] [] ly0 I L R0 0 0 :=
  V_iconst (tat ok_X0_rowsUnlikeFirst_0 (i := 0) (q := 1) rfl rfl) ic_0 <|
    V_istore_n (lv' := [(3, .int 0), (0, .ref o), (1, .long a1)]) (tat ok_X0_rowsUnlikeFirst_0 (i := 1) (q := 2) rfl rfl) rfl (Nat.le_of_ble_eq_true rfl) rfl <|
    V_iconst (tat ok_X0_rowsUnlikeFirst_0 (i := 2) (q := 3) rfl rfl) ic_1 <|
    V_istore (lv' := [(4, .int 1), (3, .int 0), (0, .ref o), (1, .long a1)]) (tat ok_X0_rowsUnlikeFirst_0 (i := 3) (q := 5) rfl rfl) (Nat.le_of_ble_eq_true rfl) rfl <|
    V_pick [2, 3, 1, 0] rfl (V_X0_rowsUnlikeFirst_5 ho rfl rfl hr (jx (P := P) kk rfl))
theorem ct_X0_rowsUnlikeFirst  (I : WI) (L : WL) (o : Nat) (a1 : Int64) (ho : isX0 o) : Ct x_X0_rowsUnlikeFirst 1 [.ref o, .long a1] ly0 I L R0 0 0 (some (.int (F_X0_rowsUnlikeFirst I o a1)), ly0, I, L, R0) :=
  Ct_of_V mo_X0_rowsUnlikeFirst.1 (Nat.le_of_ble_eq_true rfl) (V_X0_rowsUnlikeFirst (P := fun x => x = (F_X0_rowsUnlikeFirst I o a1)) ho (fun _ e => by rw [e]) rfl)
def F_X0_formOf (I : WI) (o : Nat) (a1 : Int64) : Int64 :=
  (a1 ^^^ (F_X0_squaresTurned I o (F_X0_rowsUnlikeFirst I o a1) (F_X0_columnsOfFirstRow I o a1)))
theorem V_X0_formOf  {I : WI} {L : WL} {o : Nat} {a1 : Int64}  {P : Int64 → Prop} {t : Tg} (ho : isX0 o) (hr : ∀ v, P v → t = (some (.long v), ly0, I, L, R0)) (kk : P (F_X0_formOf I o a1)) : V (zM x_X0_formOf 5 0 0 t) 0 [(0, .ref o), (1, .long a1)] [] ly0 I L R0 0 0 :=
  V_lload_n (tat ok_X0_formOf_0 (i := 0) (q := 1) rfl rfl) 1 rfl rfl <|
    V_aload_n (tat ok_X0_formOf_0 (i := 1) (q := 2) rfl rfl) 0 rfl rfl <|
    V_aload_n (tat ok_X0_formOf_0 (i := 2) (q := 3) rfl rfl) 0 rfl rfl <|
    V_lload_n (tat ok_X0_formOf_0 (i := 3) (q := 4) rfl rfl) 1 rfl rfl <|
    V_cv1 (ct_X0_rowsUnlikeFirst I L o a1 ho) mo_X0_rowsUnlikeFirst (tat ok_X0_formOf_0 (i := 4) (q := 7) rfl rfl) ml_X0_70 ho ⟨by decide, _, rfl, rfl⟩ ⟨(Nat.le_of_ble_eq_true rfl), (Nat.le_of_ble_eq_true rfl)⟩ ⟨(Nat.le_of_ble_eq_true rfl), (Nat.le_of_ble_eq_true rfl)⟩ (Nat.le_of_ble_eq_true rfl) <|
    V_aload_n (tat ok_X0_formOf_0 (i := 5) (q := 8) rfl rfl) 0 rfl rfl <|
    V_lload_n (tat ok_X0_formOf_0 (i := 6) (q := 9) rfl rfl) 1 rfl rfl <|
    V_cv1 (ct_X0_columnsOfFirstRow I L o a1 ho) mo_X0_columnsOfFirstRow (tat ok_X0_formOf_0 (i := 7) (q := 12) rfl rfl) ml_X0_73 ho ⟨by decide, _, rfl, rfl⟩ ⟨(Nat.le_of_ble_eq_true rfl), (Nat.le_of_ble_eq_true rfl)⟩ ⟨(Nat.le_of_ble_eq_true rfl), (Nat.le_of_ble_eq_true rfl)⟩ (Nat.le_of_ble_eq_true rfl) <|
    V_cv2 (ct_X0_squaresTurned I L o (F_X0_rowsUnlikeFirst I o a1) (F_X0_columnsOfFirstRow I o a1) ho) mo_X0_squaresTurned (tat ok_X0_formOf_0 (i := 8) (q := 15) rfl rfl) ml_X0_76 ho ⟨by decide, _, rfl, rfl⟩ ⟨(Nat.le_of_ble_eq_true rfl), (Nat.le_of_ble_eq_true rfl)⟩ ⟨(Nat.le_of_ble_eq_true rfl), (Nat.le_of_ble_eq_true rfl)⟩ (Nat.le_of_ble_eq_true rfl) <|
    V_lxor (tat ok_X0_formOf_0 (i := 9) (q := 16) rfl rfl) <|
    V_lret (tat ok_X0_formOf_0 (i := 10) (q := 17) rfl rfl) rfl (hr (a1 ^^^ (F_X0_squaresTurned I o (F_X0_rowsUnlikeFirst I o a1) (F_X0_columnsOfFirstRow I o a1))) (jx (P := P) kk rfl)) ⟨(Nat.le_of_ble_eq_true rfl), (Nat.le_of_ble_eq_true rfl)⟩
theorem ct_X0_formOf  (I : WI) (L : WL) (o : Nat) (a1 : Int64) (ho : isX0 o) : Ct x_X0_formOf 5 [.ref o, .long a1] ly0 I L R0 0 0 (some (.long (F_X0_formOf I o a1)), ly0, I, L, R0) :=
  Ct_of_V mo_X0_formOf.1 (Nat.le_of_ble_eq_true rfl) (V_X0_formOf (P := fun x => x = (F_X0_formOf I o a1)) ho (fun _ e => by rw [e]) rfl)
def F_X0_mirror_24_2 (I : WI) (L : WL) (o : Nat) (a3 : Int32) (a4 : Int32) (a1 : Int64) : Int64 :=
  (a1 ||| (lsh (Int32.toInt64 (F_X0_squareAt L o a3 a4)) ((((8 * a3) + (I o 2)) - 1) - a4)))
theorem V_X0_mirror_24_2  {I : WI} {L : WL} {o : Nat} {a3 : Int32} {a4 : Int32} {a1 : Int64} {P : Int64 → Prop} {t : Tg} (ho : isX0 o) (hk : ∀ x : Int64, P x → V (zM x_X0_mirror 2 0 0 t) 15 [(0, .ref o), (1, .long x), (3, .int a3), (4, .int (a4 + 1))] [] ly0 I L R0 0 0) (kk : P (F_X0_mirror_24_2 I L o a3 a4 a1)) : V (zM x_X0_mirror 2 0 0 t) 24 [(0, .ref o), (1, .long a1), (3, .int a3), (4, .int a4)] [] ly0 I L R0 0 0 :=
  V_lload_n (tat ok_X0_mirror_0 (i := 14) (q := 25) rfl rfl) 1 rfl rfl <|
    V_aload_n (tat ok_X0_mirror_0 (i := 15) (q := 26) rfl rfl) 0 rfl rfl <|
    V_iload_n (tat ok_X0_mirror_0 (i := 16) (q := 27) rfl rfl) 2 rfl rfl <|
    V_iload (tat ok_X0_mirror_0 (i := 17) (q := 29) rfl rfl) 3 rfl <|
    V_cv2 (ct_X0_squareAt I L o a3 a4 ho) mo_X0_squareAt (tat ok_X0_mirror_0 (i := 18) (q := 32) rfl rfl) ml_X0_44 ho ⟨by decide, _, rfl, rfl⟩ ⟨(Nat.le_of_ble_eq_true rfl), (Nat.le_of_ble_eq_true rfl)⟩ ⟨(Nat.le_of_ble_eq_true rfl), (Nat.le_of_ble_eq_true rfl)⟩ (Nat.le_of_ble_eq_true rfl) <|
    V_i2l (tat ok_X0_mirror_0 (i := 19) (q := 33) rfl rfl) <|
    V_bipush (tat ok_X0_mirror_0 (i := 20) (q := 35) rfl rfl) bp_8 <|
    V_iload_n (tat ok_X0_mirror_0 (i := 21) (q := 36) rfl rfl) 2 rfl rfl <|
    V_imul (tat ok_X0_mirror_0 (i := 22) (q := 37) rfl rfl) <|
    V_aload_n (tat ok_X0_mirror_0 (i := 23) (q := 38) rfl rfl) 0 rfl rfl <|
    V_getI (tat ok_X0_mirror_0 (i := 24) (q := 41) rfl rfl) fk_X0_15 ho <|
    V_iadd (tat ok_X0_mirror_0 (i := 25) (q := 42) rfl rfl) <|
    V_iconst (tat ok_X0_mirror_0 (i := 26) (q := 43) rfl rfl) ic_1 <|
    V_isub (tat ok_X0_mirror_0 (i := 27) (q := 44) rfl rfl) <|
    V_iload (tat ok_X0_mirror_0 (i := 28) (q := 46) rfl rfl) 3 rfl <|
    V_isub (tat ok_X0_mirror_0 (i := 29) (q := 47) rfl rfl) <|
    V_lshl (tat ok_X0_mirror_0 (i := 30) (q := 48) rfl rfl) <|
    V_lor (tat ok_X0_mirror_0 (i := 31) (q := 49) rfl rfl) <|
    V_lstore_n (lv' := [(1, .long (a1 ||| (lsh (Int32.toInt64 (F_X0_squareAt L o a3 a4)) ((((8 * a3) + (I o 2)) - 1) - a4)))), (0, .ref o), (3, .int a3), (4, .int a4)]) (tat ok_X0_mirror_0 (i := 32) (q := 50) rfl rfl) rfl (Nat.le_of_ble_eq_true rfl) rfl <|
    V_iinc (v := (a4 + 1)) (lv' := [(4, .int (a4 + 1)), (1, .long (a1 ||| (lsh (Int32.toInt64 (F_X0_squareAt L o a3 a4)) ((((8 * a3) + (I o 2)) - 1) - a4)))), (0, .ref o), (3, .int a3)]) (tat ok_X0_mirror_0 (i := 33) (q := 53) rfl rfl) 3 rfl (ia ic_1) (Nat.le_of_ble_eq_true rfl) rfl <|
    V_goto (tat ok_X0_mirror_0 (i := 34) (q := 56) rfl rfl) rfl <|
    V_pick [2, 1, 3, 0] rfl (hk (a1 ||| (lsh (Int32.toInt64 (F_X0_squareAt L o a3 a4)) ((((8 * a3) + (I o 2)) - 1) - a4))) (jx (P := P) kk rfl))
def F_X0_mirror_56_1 (I : WI) (L : WL) (o : Nat) (a3 : Int32) (a1 : Int64) : Int64 :=
  a1
theorem V_X0_mirror_56_1  {I : WI} {L : WL} {o : Nat} {a3 : Int32} {a1 : Int64} {P : Int64 → Prop} {t : Tg} (ho : isX0 o) (hk : ∀ x : Int64, P x → V (zM x_X0_mirror 2 0 0 t) 4 [(0, .ref o), (1, .long x), (3, .int (a3 + 1))] [] ly0 I L R0 0 0) (kk : P (F_X0_mirror_56_1 I L o a3 a1)) : V (zM x_X0_mirror 2 0 0 t) 56 [(0, .ref o), (1, .long a1), (3, .int a3)] [] ly0 I L R0 0 0 :=
  V_iinc (v := (a3 + 1)) (lv' := [(3, .int (a3 + 1)), (0, .ref o), (1, .long a1)]) (tat ok_X0_mirror_0 (i := 35) (q := 59) rfl rfl) 2 rfl (ia ic_1) (Nat.le_of_ble_eq_true rfl) rfl <|
    V_goto (tat ok_X0_mirror_0 (i := 36) (q := 62) rfl rfl) rfl <|
    V_pick [1, 2, 0] rfl (hk a1 (jx (P := P) kk rfl))
def F_X0_mirror_15_1 (I : WI) (L : WL) (o : Nat) (a3 : Int32) (a1 : Int64) (a4 : Int32) : Int64 :=
  (fun q : Int32 × Int64 => (F_X0_mirror_56_1 I L o a3 (p2 q))) (fr0 (fun i x => (F_X0_mirror_24_2 I L o a3 i x)) (I o 2) (fu a4 (I o 2)) a4 a1)
theorem V_X0_mirror_15_1  {I : WI} {L : WL} {o : Nat} {a3 : Int32} {a1 : Int64} {a4 : Int32} {P : Int64 → Prop} {t : Tg} (ho : isX0 o) (hb4 : bz a4 = a4) (hk : ∀ x : Int64, P x → V (zM x_X0_mirror 2 0 0 t) 4 [(0, .ref o), (1, .long x), (3, .int (a3 + 1))] [] ly0 I L R0 0 0) (kk : P (F_X0_mirror_15_1 I L o a3 a1 a4)) : V (zM x_X0_mirror 2 0 0 t) 15 [(0, .ref o), (1, .long a1), (3, .int a3), (4, .int a4)] [] ly0 I L R0 0 0 :=
  V_fr0 (fun i x => (F_X0_mirror_24_2 I L o a3 i x)) (I o 2) (fun i x => V (zM x_X0_mirror 2 0 0 t) 15 [(0, .ref o), (1, .long x), (3, .int a3), (4, .int i)] [] ly0 I L R0 0 0) (fun i x => P ((F_X0_mirror_56_1 I L o a3 x))) (c := a4) (s := a1) (fun i x kx kb => V_iload (tat ok_X0_mirror_0 (i := 10) (q := 17) rfl rfl) 3 rfl <|
    V_aload_n (tat ok_X0_mirror_0 (i := 11) (q := 18) rfl rfl) 0 rfl rfl <|
    V_getI (tat ok_X0_mirror_0 (i := 12) (q := 21) rfl rfl) fk_X0_15 ho <|
    V_icmp_ge (tat ok_X0_mirror_0 (i := 13) (q := 24) rfl rfl) rfl (fun c0 => V_pick [0, 1, 2] rfl (V_X0_mirror_56_1 ho hk (kx c0))) (fun c0 => V_X0_mirror_24_2 (P := (fun x => (fun i x => V (zM x_X0_mirror 2 0 0 t) 15 [(0, .ref o), (1, .long x), (3, .int a3), (4, .int i)] [] ly0 I L R0 0 0) (i + 1) x)) ho (fun _ e => e) (kb c0))) kk
def F_X0_mirror_12_1 (I : WI) (L : WL) (o : Nat) (a3 : Int32) (a1 : Int64) : Int64 :=
  (F_X0_mirror_15_1 I L o a3 a1 0)
theorem V_X0_mirror_12_1  {I : WI} {L : WL} {o : Nat} {a3 : Int32} {a1 : Int64} {P : Int64 → Prop} {t : Tg} (ho : isX0 o) (hk : ∀ x : Int64, P x → V (zM x_X0_mirror 2 0 0 t) 4 [(0, .ref o), (1, .long x), (3, .int (a3 + 1))] [] ly0 I L R0 0 0) (kk : P (F_X0_mirror_12_1 I L o a3 a1)) : V (zM x_X0_mirror 2 0 0 t) 12 [(0, .ref o), (1, .long a1), (3, .int a3)] [] ly0 I L R0 0 0 :=
  V_iconst (tat ok_X0_mirror_0 (i := 8) (q := 13) rfl rfl) ic_0 <|
    V_istore (lv' := [(4, .int 0), (0, .ref o), (1, .long a1), (3, .int a3)]) (tat ok_X0_mirror_0 (i := 9) (q := 15) rfl rfl) (Nat.le_of_ble_eq_true rfl) rfl <|
    V_pick [1, 2, 3, 0] rfl (V_X0_mirror_15_1 ho rfl hk (jx (P := P) kk rfl))
def F_X0_mirror_62 (I : WI) (L : WL) (o : Nat) (a1 : Int64) : WL :=
  (u2 L o 3 a1)
theorem V_X0_mirror_62  {I : WI} {L : WL} {o : Nat} {a1 : Int64} {P : WL → Prop} {t : Tg} (ho : isX0 o) (hr : ∀ v, P v → t = (none, ly0, I, v, R0)) (kk : P (F_X0_mirror_62 I L o a1)) : V (zM x_X0_mirror 2 0 0 t) 62 [(0, .ref o), (1, .long a1)] [] ly0 I L R0 0 0 :=
  V_aload_n (tat ok_X0_mirror_0 (i := 37) (q := 63) rfl rfl) 0 rfl rfl <|
    V_lload_n (tat ok_X0_mirror_0 (i := 38) (q := 64) rfl rfl) 1 rfl rfl <|
    V_putL (tat ok_X0_mirror_0 (i := 39) (q := 67) rfl rfl) fk_X0_22 ho rfl <|
    V_vret (tat ok_X0_mirror_1 (i := 0) (q := 68) rfl rfl) rfl (hr (u2 L o 3 a1) (jx (P := P) kk rfl)) ⟨(Nat.le_of_ble_eq_true rfl), (Nat.le_of_ble_eq_true rfl)⟩
def F_X0_mirror_4 (I : WI) (L : WL) (o : Nat) (a1 : Int64) (a3 : Int32) : WL :=
  (fun q : Int32 × Int64 => (F_X0_mirror_62 I L o (p2 q))) (fr0 (fun i x => (F_X0_mirror_12_1 I L o i x)) (I o 1) (fu a3 (I o 1)) a3 a1)
theorem V_X0_mirror_4  {I : WI} {L : WL} {o : Nat} {a1 : Int64} {a3 : Int32} {P : WL → Prop} {t : Tg} (ho : isX0 o) (hb3 : bz a3 = a3) (hr : ∀ v, P v → t = (none, ly0, I, v, R0)) (kk : P (F_X0_mirror_4 I L o a1 a3)) : V (zM x_X0_mirror 2 0 0 t) 4 [(0, .ref o), (1, .long a1), (3, .int a3)] [] ly0 I L R0 0 0 :=
  V_fr0 (fun i x => (F_X0_mirror_12_1 I L o i x)) (I o 1) (fun i x => V (zM x_X0_mirror 2 0 0 t) 4 [(0, .ref o), (1, .long x), (3, .int i)] [] ly0 I L R0 0 0) (fun i x => P ((F_X0_mirror_62 I L o x))) (c := a3) (s := a1) (fun i x kx kb => V_iload_n (tat ok_X0_mirror_0 (i := 4) (q := 5) rfl rfl) 2 rfl rfl <|
    V_aload_n (tat ok_X0_mirror_0 (i := 5) (q := 6) rfl rfl) 0 rfl rfl <|
    V_getI (tat ok_X0_mirror_0 (i := 6) (q := 9) rfl rfl) fk_X0_11 ho <|
    V_icmp_ge (tat ok_X0_mirror_0 (i := 7) (q := 12) rfl rfl) rfl (fun c0 => V_pick [0, 1] rfl (V_X0_mirror_62 ho hr (kx c0))) (fun c0 => V_X0_mirror_12_1 (P := (fun x => (fun i x => V (zM x_X0_mirror 2 0 0 t) 4 [(0, .ref o), (1, .long x), (3, .int i)] [] ly0 I L R0 0 0) (i + 1) x)) ho (fun _ e => e) (kb c0))) kk
def F_X0_mirror (I : WI) (L : WL) (o : Nat) : WL :=
  (F_X0_mirror_4 I L o 0 0)
theorem V_X0_mirror  {I : WI} {L : WL} {o : Nat}  {P : WL → Prop} {t : Tg} (ho : isX0 o) (hr : ∀ v, P v → t = (none, ly0, I, v, R0)) (kk : P (F_X0_mirror I L o)) : V (zM x_X0_mirror 2 0 0 t) 0 [(0, .ref o)] [] ly0 I L R0 0 0 :=
  V_lconst (v := 0) (tat ok_X0_mirror_0 (i := 0) (q := 1) rfl rfl) rfl <|
    V_lstore_n (lv' := [(1, .long 0), (0, .ref o)]) (tat ok_X0_mirror_0 (i := 1) (q := 2) rfl rfl) rfl (Nat.le_of_ble_eq_true rfl) rfl <|
    V_iconst (tat ok_X0_mirror_0 (i := 2) (q := 3) rfl rfl) ic_0 <|
    V_istore_n (lv' := [(3, .int 0), (1, .long 0), (0, .ref o)]) (tat ok_X0_mirror_0 (i := 3) (q := 4) rfl rfl) rfl (Nat.le_of_ble_eq_true rfl) rfl <|
    V_pick [2, 1, 0] rfl (V_X0_mirror_4 ho rfl hr (jx (P := P) kk rfl))
theorem ct_X0_mirror  (I : WI) (L : WL) (o : Nat) (ho : isX0 o) : Ct x_X0_mirror 2 [.ref o] ly0 I L R0 0 0 (none, ly0, I, (F_X0_mirror I L o), R0) :=
  Ct_of_V mo_X0_mirror.1 (Nat.le_of_ble_eq_true rfl) (V_X0_mirror (P := fun x => x = (F_X0_mirror I L o)) ho (fun _ e => by rw [e]) rfl)
def F_X0_quarterRight_24_2 (I : WI) (L : WL) (o : Nat) (a3 : Int32) (a4 : Int32) (a1 : Int64) : Int64 :=
  (a1 ||| (lsh (Int32.toInt64 (F_X0_squareAt L o a3 a4)) ((((8 * a4) + (I o 1)) - 1) - a3)))
theorem V_X0_quarterRight_24_2  {I : WI} {L : WL} {o : Nat} {a3 : Int32} {a4 : Int32} {a1 : Int64} {P : Int64 → Prop} {t : Tg} (ho : isX0 o) (hk : ∀ x : Int64, P x → V (zM x_X0_quarterRight 2 0 0 t) 15 [(0, .ref o), (1, .long x), (3, .int a3), (4, .int (a4 + 1))] [] ly0 I L R0 0 0) (kk : P (F_X0_quarterRight_24_2 I L o a3 a4 a1)) : V (zM x_X0_quarterRight 2 0 0 t) 24 [(0, .ref o), (1, .long a1), (3, .int a3), (4, .int a4)] [] ly0 I L R0 0 0 :=
  V_lload_n (tat ok_X0_quarterRight_0 (i := 14) (q := 25) rfl rfl) 1 rfl rfl <|
    V_aload_n (tat ok_X0_quarterRight_0 (i := 15) (q := 26) rfl rfl) 0 rfl rfl <|
    V_iload_n (tat ok_X0_quarterRight_0 (i := 16) (q := 27) rfl rfl) 2 rfl rfl <|
    V_iload (tat ok_X0_quarterRight_0 (i := 17) (q := 29) rfl rfl) 3 rfl <|
    V_cv2 (ct_X0_squareAt I L o a3 a4 ho) mo_X0_squareAt (tat ok_X0_quarterRight_0 (i := 18) (q := 32) rfl rfl) ml_X0_44 ho ⟨by decide, _, rfl, rfl⟩ ⟨(Nat.le_of_ble_eq_true rfl), (Nat.le_of_ble_eq_true rfl)⟩ ⟨(Nat.le_of_ble_eq_true rfl), (Nat.le_of_ble_eq_true rfl)⟩ (Nat.le_of_ble_eq_true rfl) <|
    V_i2l (tat ok_X0_quarterRight_0 (i := 19) (q := 33) rfl rfl) <|
    V_bipush (tat ok_X0_quarterRight_0 (i := 20) (q := 35) rfl rfl) bp_8 <|
    V_iload (tat ok_X0_quarterRight_0 (i := 21) (q := 37) rfl rfl) 3 rfl <|
    V_imul (tat ok_X0_quarterRight_0 (i := 22) (q := 38) rfl rfl) <|
    V_aload_n (tat ok_X0_quarterRight_0 (i := 23) (q := 39) rfl rfl) 0 rfl rfl <|
    V_getI (tat ok_X0_quarterRight_0 (i := 24) (q := 42) rfl rfl) fk_X0_11 ho <|
    V_iadd (tat ok_X0_quarterRight_0 (i := 25) (q := 43) rfl rfl) <|
    V_iconst (tat ok_X0_quarterRight_0 (i := 26) (q := 44) rfl rfl) ic_1 <|
    V_isub (tat ok_X0_quarterRight_0 (i := 27) (q := 45) rfl rfl) <|
    V_iload_n (tat ok_X0_quarterRight_0 (i := 28) (q := 46) rfl rfl) 2 rfl rfl <|
    V_isub (tat ok_X0_quarterRight_0 (i := 29) (q := 47) rfl rfl) <|
    V_lshl (tat ok_X0_quarterRight_0 (i := 30) (q := 48) rfl rfl) <|
    V_lor (tat ok_X0_quarterRight_0 (i := 31) (q := 49) rfl rfl) <|
    V_lstore_n (lv' := [(1, .long (a1 ||| (lsh (Int32.toInt64 (F_X0_squareAt L o a3 a4)) ((((8 * a4) + (I o 1)) - 1) - a3)))), (0, .ref o), (3, .int a3), (4, .int a4)]) (tat ok_X0_quarterRight_0 (i := 32) (q := 50) rfl rfl) rfl (Nat.le_of_ble_eq_true rfl) rfl <|
    V_iinc (v := (a4 + 1)) (lv' := [(4, .int (a4 + 1)), (1, .long (a1 ||| (lsh (Int32.toInt64 (F_X0_squareAt L o a3 a4)) ((((8 * a4) + (I o 1)) - 1) - a3)))), (0, .ref o), (3, .int a3)]) (tat ok_X0_quarterRight_0 (i := 33) (q := 53) rfl rfl) 3 rfl (ia ic_1) (Nat.le_of_ble_eq_true rfl) rfl <|
    V_goto (tat ok_X0_quarterRight_0 (i := 34) (q := 56) rfl rfl) rfl <|
    V_pick [2, 1, 3, 0] rfl (hk (a1 ||| (lsh (Int32.toInt64 (F_X0_squareAt L o a3 a4)) ((((8 * a4) + (I o 1)) - 1) - a3))) (jx (P := P) kk rfl))
def F_X0_quarterRight_56_1 (I : WI) (L : WL) (o : Nat) (a3 : Int32) (a1 : Int64) : Int64 :=
  a1
theorem V_X0_quarterRight_56_1  {I : WI} {L : WL} {o : Nat} {a3 : Int32} {a1 : Int64} {P : Int64 → Prop} {t : Tg} (ho : isX0 o) (hk : ∀ x : Int64, P x → V (zM x_X0_quarterRight 2 0 0 t) 4 [(0, .ref o), (1, .long x), (3, .int (a3 + 1))] [] ly0 I L R0 0 0) (kk : P (F_X0_quarterRight_56_1 I L o a3 a1)) : V (zM x_X0_quarterRight 2 0 0 t) 56 [(0, .ref o), (1, .long a1), (3, .int a3)] [] ly0 I L R0 0 0 :=
  V_iinc (v := (a3 + 1)) (lv' := [(3, .int (a3 + 1)), (0, .ref o), (1, .long a1)]) (tat ok_X0_quarterRight_0 (i := 35) (q := 59) rfl rfl) 2 rfl (ia ic_1) (Nat.le_of_ble_eq_true rfl) rfl <|
    V_goto (tat ok_X0_quarterRight_0 (i := 36) (q := 62) rfl rfl) rfl <|
    V_pick [1, 2, 0] rfl (hk a1 (jx (P := P) kk rfl))
def F_X0_quarterRight_15_1 (I : WI) (L : WL) (o : Nat) (a3 : Int32) (a1 : Int64) (a4 : Int32) : Int64 :=
  (fun q : Int32 × Int64 => (F_X0_quarterRight_56_1 I L o a3 (p2 q))) (fr0 (fun i x => (F_X0_quarterRight_24_2 I L o a3 i x)) (I o 2) (fu a4 (I o 2)) a4 a1)
theorem V_X0_quarterRight_15_1  {I : WI} {L : WL} {o : Nat} {a3 : Int32} {a1 : Int64} {a4 : Int32} {P : Int64 → Prop} {t : Tg} (ho : isX0 o) (hb4 : bz a4 = a4) (hk : ∀ x : Int64, P x → V (zM x_X0_quarterRight 2 0 0 t) 4 [(0, .ref o), (1, .long x), (3, .int (a3 + 1))] [] ly0 I L R0 0 0) (kk : P (F_X0_quarterRight_15_1 I L o a3 a1 a4)) : V (zM x_X0_quarterRight 2 0 0 t) 15 [(0, .ref o), (1, .long a1), (3, .int a3), (4, .int a4)] [] ly0 I L R0 0 0 :=
  V_fr0 (fun i x => (F_X0_quarterRight_24_2 I L o a3 i x)) (I o 2) (fun i x => V (zM x_X0_quarterRight 2 0 0 t) 15 [(0, .ref o), (1, .long x), (3, .int a3), (4, .int i)] [] ly0 I L R0 0 0) (fun i x => P ((F_X0_quarterRight_56_1 I L o a3 x))) (c := a4) (s := a1) (fun i x kx kb => V_iload (tat ok_X0_quarterRight_0 (i := 10) (q := 17) rfl rfl) 3 rfl <|
    V_aload_n (tat ok_X0_quarterRight_0 (i := 11) (q := 18) rfl rfl) 0 rfl rfl <|
    V_getI (tat ok_X0_quarterRight_0 (i := 12) (q := 21) rfl rfl) fk_X0_15 ho <|
    V_icmp_ge (tat ok_X0_quarterRight_0 (i := 13) (q := 24) rfl rfl) rfl (fun c0 => V_pick [0, 1, 2] rfl (V_X0_quarterRight_56_1 ho hk (kx c0))) (fun c0 => V_X0_quarterRight_24_2 (P := (fun x => (fun i x => V (zM x_X0_quarterRight 2 0 0 t) 15 [(0, .ref o), (1, .long x), (3, .int a3), (4, .int i)] [] ly0 I L R0 0 0) (i + 1) x)) ho (fun _ e => e) (kb c0))) kk
def F_X0_quarterRight_12_1 (I : WI) (L : WL) (o : Nat) (a3 : Int32) (a1 : Int64) : Int64 :=
  (F_X0_quarterRight_15_1 I L o a3 a1 0)
theorem V_X0_quarterRight_12_1  {I : WI} {L : WL} {o : Nat} {a3 : Int32} {a1 : Int64} {P : Int64 → Prop} {t : Tg} (ho : isX0 o) (hk : ∀ x : Int64, P x → V (zM x_X0_quarterRight 2 0 0 t) 4 [(0, .ref o), (1, .long x), (3, .int (a3 + 1))] [] ly0 I L R0 0 0) (kk : P (F_X0_quarterRight_12_1 I L o a3 a1)) : V (zM x_X0_quarterRight 2 0 0 t) 12 [(0, .ref o), (1, .long a1), (3, .int a3)] [] ly0 I L R0 0 0 :=
  V_iconst (tat ok_X0_quarterRight_0 (i := 8) (q := 13) rfl rfl) ic_0 <|
    V_istore (lv' := [(4, .int 0), (0, .ref o), (1, .long a1), (3, .int a3)]) (tat ok_X0_quarterRight_0 (i := 9) (q := 15) rfl rfl) (Nat.le_of_ble_eq_true rfl) rfl <|
    V_pick [1, 2, 3, 0] rfl (V_X0_quarterRight_15_1 ho rfl hk (jx (P := P) kk rfl))
def F_X0_quarterRight_62 (I : WI) (L : WL) (o : Nat) (a1 : Int64) : (WI × WL) :=
  ((u2 (u2 I o 1 (I o 2)) o 2 (I o 1)), (u2 L o 3 a1))
theorem V_X0_quarterRight_62  {I : WI} {L : WL} {o : Nat} {a1 : Int64} {P : (WI × WL) → Prop} {t : Tg} (ho : isX0 o) (hr : ∀ v, P v → t = (none, ly0, (p1 v), (p2 v), R0)) (kk : P (F_X0_quarterRight_62 I L o a1)) : V (zM x_X0_quarterRight 2 0 0 t) 62 [(0, .ref o), (1, .long a1)] [] ly0 I L R0 0 0 :=
  V_aload_n (tat ok_X0_quarterRight_0 (i := 37) (q := 63) rfl rfl) 0 rfl rfl <|
    V_getI (tat ok_X0_quarterRight_0 (i := 38) (q := 66) rfl rfl) fk_X0_11 ho <|
    V_istore_n (lv' := [(3, .int (I o 1)), (0, .ref o), (1, .long a1)]) (tat ok_X0_quarterRight_0 (i := 39) (q := 67) rfl rfl) rfl (Nat.le_of_ble_eq_true rfl) rfl <|
    V_aload_n (tat ok_X0_quarterRight_1 (i := 0) (q := 68) rfl rfl) 1 rfl rfl <|
    V_aload_n (tat ok_X0_quarterRight_1 (i := 1) (q := 69) rfl rfl) 1 rfl rfl <|
    V_getI (tat ok_X0_quarterRight_1 (i := 2) (q := 72) rfl rfl) fk_X0_15 ho <|
    V_putI (tat ok_X0_quarterRight_1 (i := 3) (q := 75) rfl rfl) fk_X0_11 ho rfl <|
    V_aload_n (tat ok_X0_quarterRight_1 (i := 4) (q := 76) rfl rfl) 1 rfl rfl <|
    V_iload_n (tat ok_X0_quarterRight_1 (i := 5) (q := 77) rfl rfl) 0 rfl rfl <|
    V_putI (tat ok_X0_quarterRight_1 (i := 6) (q := 80) rfl rfl) fk_X0_15 ho rfl <|
    V_aload_n (tat ok_X0_quarterRight_1 (i := 7) (q := 81) rfl rfl) 1 rfl rfl <|
    V_lload_n (tat ok_X0_quarterRight_1 (i := 8) (q := 82) rfl rfl) 2 rfl rfl <|
    V_putL (tat ok_X0_quarterRight_1 (i := 9) (q := 85) rfl rfl) fk_X0_22 ho rfl <|
    V_vret (tat ok_X0_quarterRight_1 (i := 10) (q := 86) rfl rfl) rfl (hr ((u2 (u2 I o 1 (I o 2)) o 2 (I o 1)), (u2 L o 3 a1)) (jx (P := P) kk rfl)) ⟨(Nat.le_of_ble_eq_true rfl), (Nat.le_of_ble_eq_true rfl)⟩
def F_X0_quarterRight_4 (I : WI) (L : WL) (o : Nat) (a1 : Int64) (a3 : Int32) : (WI × WL) :=
  (fun q : Int32 × Int64 => (F_X0_quarterRight_62 I L o (p2 q))) (fr0 (fun i x => (F_X0_quarterRight_12_1 I L o i x)) (I o 1) (fu a3 (I o 1)) a3 a1)
theorem V_X0_quarterRight_4  {I : WI} {L : WL} {o : Nat} {a1 : Int64} {a3 : Int32} {P : (WI × WL) → Prop} {t : Tg} (ho : isX0 o) (hb3 : bz a3 = a3) (hr : ∀ v, P v → t = (none, ly0, (p1 v), (p2 v), R0)) (kk : P (F_X0_quarterRight_4 I L o a1 a3)) : V (zM x_X0_quarterRight 2 0 0 t) 4 [(0, .ref o), (1, .long a1), (3, .int a3)] [] ly0 I L R0 0 0 :=
  V_fr0 (fun i x => (F_X0_quarterRight_12_1 I L o i x)) (I o 1) (fun i x => V (zM x_X0_quarterRight 2 0 0 t) 4 [(0, .ref o), (1, .long x), (3, .int i)] [] ly0 I L R0 0 0) (fun i x => P ((F_X0_quarterRight_62 I L o x))) (c := a3) (s := a1) (fun i x kx kb => V_iload_n (tat ok_X0_quarterRight_0 (i := 4) (q := 5) rfl rfl) 2 rfl rfl <|
    V_aload_n (tat ok_X0_quarterRight_0 (i := 5) (q := 6) rfl rfl) 0 rfl rfl <|
    V_getI (tat ok_X0_quarterRight_0 (i := 6) (q := 9) rfl rfl) fk_X0_11 ho <|
    V_icmp_ge (tat ok_X0_quarterRight_0 (i := 7) (q := 12) rfl rfl) rfl (fun c0 => V_pick [0, 1] rfl (V_X0_quarterRight_62 ho hr (kx c0))) (fun c0 => V_X0_quarterRight_12_1 (P := (fun x => (fun i x => V (zM x_X0_quarterRight 2 0 0 t) 4 [(0, .ref o), (1, .long x), (3, .int i)] [] ly0 I L R0 0 0) (i + 1) x)) ho (fun _ e => e) (kb c0))) kk
def F_X0_quarterRight (I : WI) (L : WL) (o : Nat) : (WI × WL) :=
  (F_X0_quarterRight_4 I L o 0 0)
theorem V_X0_quarterRight  {I : WI} {L : WL} {o : Nat}  {P : (WI × WL) → Prop} {t : Tg} (ho : isX0 o) (hr : ∀ v, P v → t = (none, ly0, (p1 v), (p2 v), R0)) (kk : P (F_X0_quarterRight I L o)) : V (zM x_X0_quarterRight 2 0 0 t) 0 [(0, .ref o)] [] ly0 I L R0 0 0 :=
  V_lconst (v := 0) (tat ok_X0_quarterRight_0 (i := 0) (q := 1) rfl rfl) rfl <|
    V_lstore_n (lv' := [(1, .long 0), (0, .ref o)]) (tat ok_X0_quarterRight_0 (i := 1) (q := 2) rfl rfl) rfl (Nat.le_of_ble_eq_true rfl) rfl <|
    V_iconst (tat ok_X0_quarterRight_0 (i := 2) (q := 3) rfl rfl) ic_0 <|
    V_istore_n (lv' := [(3, .int 0), (1, .long 0), (0, .ref o)]) (tat ok_X0_quarterRight_0 (i := 3) (q := 4) rfl rfl) rfl (Nat.le_of_ble_eq_true rfl) rfl <|
    V_pick [2, 1, 0] rfl (V_X0_quarterRight_4 ho rfl hr (jx (P := P) kk rfl))
theorem ct_X0_quarterRight  (I : WI) (L : WL) (o : Nat) (ho : isX0 o) : Ct x_X0_quarterRight 2 [.ref o] ly0 I L R0 0 0 (none, ly0, (p1 (F_X0_quarterRight I L o)), (p2 (F_X0_quarterRight I L o)), R0) :=
  Ct_of_V mo_X0_quarterRight.1 (Nat.le_of_ble_eq_true rfl) (V_X0_quarterRight (P := fun x => x = (F_X0_quarterRight I L o)) ho (fun _ e => by rw [e]) rfl)
def F_X0_rotateBy_18_1 (I : WI) (L : WL) (o : Nat) (a1 : Int32) (a2 : Int32) : (WI × WL) :=
  ((p1 (F_X0_quarterRight I L o)), (p2 (F_X0_quarterRight I L o)))
theorem V_X0_rotateBy_18_1  {I : WI} {L : WL} {o : Nat} {a1 : Int32} {a2 : Int32}  {P : (WI × WL) → Prop} {t : Tg} (ho : isX0 o) (hk : ∀ x : (WI × WL), P x → V (zM x_X0_rotateBy 3 0 0 t) 11 [(0, .ref o), (1, .int a1), (2, .int (a2 + 1))] [] ly0 (p1 x) (p2 x) R0 0 0) (kk : P (F_X0_rotateBy_18_1 I L o a1 a2)) : V (zM x_X0_rotateBy 3 0 0 t) 18 [(0, .ref o), (1, .int a1), (2, .int a2)] [] ly0 I L R0 0 0 :=
  V_aload_n (tat ok_X0_rotateBy_0 (i := 12) (q := 19) rfl rfl) 0 rfl rfl <|
    V_cv0v (ct_X0_quarterRight I L o ho) mo_X0_quarterRight (tat ok_X0_rotateBy_0 (i := 13) (q := 22) rfl rfl) ml_X0_82 ho ⟨by decide, _, rfl, rfl⟩ ⟨(Nat.le_of_ble_eq_true rfl), (Nat.le_of_ble_eq_true rfl)⟩ ⟨(Nat.le_of_ble_eq_true rfl), (Nat.le_of_ble_eq_true rfl)⟩ (Nat.le_of_ble_eq_true rfl) <|
    V_iinc (v := (a2 + 1)) (lv' := [(2, .int (a2 + 1)), (0, .ref o), (1, .int a1)]) (tat ok_X0_rotateBy_0 (i := 14) (q := 25) rfl rfl) 2 rfl (ia ic_1) (Nat.le_of_ble_eq_true rfl) rfl <|
    V_goto (tat ok_X0_rotateBy_0 (i := 15) (q := 28) rfl rfl) rfl <|
    V_pick [1, 2, 0] rfl (hk ((p1 (F_X0_quarterRight I L o)), (p2 (F_X0_quarterRight I L o))) (jx (P := P) kk rfl))
def F_X0_rotateBy_28 (I : WI) (L : WL) (o : Nat) (a1 : Int32) : (WI × WL) :=
  (I, L)
theorem V_X0_rotateBy_28  {I : WI} {L : WL} {o : Nat} {a1 : Int32}  {P : (WI × WL) → Prop} {t : Tg} (ho : isX0 o) (hr : ∀ v, P v → t = (none, ly0, (p1 v), (p2 v), R0)) (kk : P (F_X0_rotateBy_28 I L o a1)) : V (zM x_X0_rotateBy 3 0 0 t) 28 [(0, .ref o), (1, .int a1)] [] ly0 I L R0 0 0 :=
  V_vret (tat ok_X0_rotateBy_0 (i := 16) (q := 29) rfl rfl) rfl (hr (I, L) (jx (P := P) kk rfl)) ⟨(Nat.le_of_ble_eq_true rfl), (Nat.le_of_ble_eq_true rfl)⟩
def F_X0_rotateBy_11 (I : WI) (L : WL) (o : Nat) (a1 : Int32) (a2 : Int32) : (WI × WL) :=
  (fun q : Int32 × (WI × WL) => (F_X0_rotateBy_28 (p1 (p2 q)) (p2 (p2 q)) o a1)) (fr0 (fun i x => (F_X0_rotateBy_18_1 (p1 x) (p2 x) o a1 i)) (a1 &&& 3) (fu a2 (a1 &&& 3)) a2 (I, L))
theorem V_X0_rotateBy_11  {I : WI} {L : WL} {o : Nat} {a1 : Int32} {a2 : Int32} {P : (WI × WL) → Prop} {t : Tg} (ho : isX0 o) (hb2 : bz a2 = a2) (hr : ∀ v, P v → t = (none, ly0, (p1 v), (p2 v), R0)) (kk : P (F_X0_rotateBy_11 I L o a1 a2)) : V (zM x_X0_rotateBy 3 0 0 t) 11 [(0, .ref o), (1, .int a1), (2, .int a2)] [] ly0 I L R0 0 0 :=
  V_fr0 (fun i x => (F_X0_rotateBy_18_1 (p1 x) (p2 x) o a1 i)) (a1 &&& 3) (fun i x => V (zM x_X0_rotateBy 3 0 0 t) 11 [(0, .ref o), (1, .int a1), (2, .int i)] [] ly0 (p1 x) (p2 x) R0 0 0) (fun i x => P ((F_X0_rotateBy_28 (p1 x) (p2 x) o a1))) (c := a2) (s := (I, L)) (fun i x kx kb => V_iload_n (tat ok_X0_rotateBy_0 (i := 7) (q := 12) rfl rfl) 2 rfl rfl <|
    V_iload_n (tat ok_X0_rotateBy_0 (i := 8) (q := 13) rfl rfl) 1 rfl rfl <|
    V_iconst (tat ok_X0_rotateBy_0 (i := 9) (q := 14) rfl rfl) ic_3 <|
    V_iand (tat ok_X0_rotateBy_0 (i := 10) (q := 15) rfl rfl) <|
    V_icmp_ge (tat ok_X0_rotateBy_0 (i := 11) (q := 18) rfl rfl) rfl (fun c0 => V_pick [0, 1] rfl (V_X0_rotateBy_28 ho hr (kx c0))) (fun c0 => V_X0_rotateBy_18_1 (P := (fun x => (fun i x => V (zM x_X0_rotateBy 3 0 0 t) 11 [(0, .ref o), (1, .int a1), (2, .int i)] [] ly0 (p1 x) (p2 x) R0 0 0) (i + 1) x)) ho (fun _ e => e) (kb c0))) kk
def F_X0_rotateBy_9 (I : WI) (L : WL) (o : Nat) (a1 : Int32) : (WI × WL) :=
  (F_X0_rotateBy_11 I L o a1 0)
theorem V_X0_rotateBy_9  {I : WI} {L : WL} {o : Nat} {a1 : Int32}  {P : (WI × WL) → Prop} {t : Tg} (ho : isX0 o) (hr : ∀ v, P v → t = (none, ly0, (p1 v), (p2 v), R0)) (kk : P (F_X0_rotateBy_9 I L o a1)) : V (zM x_X0_rotateBy 3 0 0 t) 9 [(0, .ref o), (1, .int a1)] [] ly0 I L R0 0 0 :=
  V_iconst (tat ok_X0_rotateBy_0 (i := 5) (q := 10) rfl rfl) ic_0 <|
    V_istore_n (lv' := [(2, .int 0), (0, .ref o), (1, .int a1)]) (tat ok_X0_rotateBy_0 (i := 6) (q := 11) rfl rfl) rfl (Nat.le_of_ble_eq_true rfl) rfl <|
    V_pick [1, 2, 0] rfl (V_X0_rotateBy_11 ho rfl hr (jx (P := P) kk rfl))
def F_X0_rotateBy (I : WI) (L : WL) (o : Nat) (a1 : Int32) : (WI × WL) :=
  (if a1 < 4 then (F_X0_rotateBy_9 I L o a1) else (F_X0_rotateBy_9 I (F_X0_mirror I L o) o a1))
theorem V_X0_rotateBy  {I : WI} {L : WL} {o : Nat} {a1 : Int32}  {P : (WI × WL) → Prop} {t : Tg} (ho : isX0 o) (hr : ∀ v, P v → t = (none, ly0, (p1 v), (p2 v), R0)) (kk : P (F_X0_rotateBy I L o a1)) : V (zM x_X0_rotateBy 3 0 0 t) 0 [(0, .ref o), (1, .int a1)] [] ly0 I L R0 0 0 :=
  V_iload_n (tat ok_X0_rotateBy_0 (i := 0) (q := 1) rfl rfl) 1 rfl rfl <|
    V_iconst (tat ok_X0_rotateBy_0 (i := 1) (q := 2) rfl rfl) ic_4 <|
    V_icmp_lt (tat ok_X0_rotateBy_0 (i := 2) (q := 5) rfl rfl) rfl (fun c1 => V_X0_rotateBy_9 ho hr (jx (P := P) kk (if_pos c1))) (fun c1 => V_aload_n (tat ok_X0_rotateBy_0 (i := 3) (q := 6) rfl rfl) 0 rfl rfl <|
    V_cv0v (ct_X0_mirror I L o ho) mo_X0_mirror (tat ok_X0_rotateBy_0 (i := 4) (q := 9) rfl rfl) ml_X0_79 ho ⟨by decide, _, rfl, rfl⟩ ⟨(Nat.le_of_ble_eq_true rfl), (Nat.le_of_ble_eq_true rfl)⟩ ⟨(Nat.le_of_ble_eq_true rfl), (Nat.le_of_ble_eq_true rfl)⟩ (Nat.le_of_ble_eq_true rfl) <|
    V_X0_rotateBy_9 ho hr (jx (P := P) kk (if_neg c1)))
theorem ct_X0_rotateBy  (I : WI) (L : WL) (o : Nat) (a1 : Int32) (ho : isX0 o) : Ct x_X0_rotateBy 3 [.ref o, .int a1] ly0 I L R0 0 0 (none, ly0, (p1 (F_X0_rotateBy I L o a1)), (p2 (F_X0_rotateBy I L o a1)), R0) :=
  Ct_of_V mo_X0_rotateBy.1 (Nat.le_of_ble_eq_true rfl) (V_X0_rotateBy (P := fun x => x = (F_X0_rotateBy I L o a1)) ho (fun _ e => by rw [e]) rfl)
def F_J6_bitCount_0f7a4_48 (a0 : Int32) : Int32 :=
  (a0 &&& 63)
theorem V_J6_bitCount_0f7a4_48  {I : WI} {L : WL}  {a0 : Int32} {P : Int32 → Prop} {t : Tg} (hr : ∀ v, P v → t = (some (.int v), ly0, I, L, R0)) (kk : P (F_J6_bitCount_0f7a4_48 a0)) : V (zM x_J6_bitCount_0f7a4 1 0 0 t) 48 [(0, .int a0)] [] ly0 I L R0 0 0 :=
  V_iload_n (tat ok_J6_bitCount_0f7a4_0 (i := 38) (q := 49) rfl rfl) 0 rfl rfl <|
    V_bipush (tat ok_J6_bitCount_0f7a4_0 (i := 39) (q := 51) rfl rfl) bp_63 <|
    V_iand (tat ok_J6_bitCount_0f7a4_1 (i := 0) (q := 52) rfl rfl) <|
    V_iret (tat ok_J6_bitCount_0f7a4_1 (i := 1) (q := 53) rfl rfl) _ rfl (nar_int _) (hr (a0 &&& 63) (jx (P := P) kk rfl)) ⟨(Nat.le_of_ble_eq_true rfl), (Nat.le_of_ble_eq_true rfl)⟩
def F_J6_bitCount_0f7a4_41 (a0 : Int32) : Int32 :=
  (F_J6_bitCount_0f7a4_48 (a0 + (iush a0 16)))
theorem V_J6_bitCount_0f7a4_41  {I : WI} {L : WL}  {a0 : Int32} {P : Int32 → Prop} {t : Tg} (hr : ∀ v, P v → t = (some (.int v), ly0, I, L, R0)) (kk : P (F_J6_bitCount_0f7a4_41 a0)) : V (zM x_J6_bitCount_0f7a4 1 0 0 t) 41 [(0, .int a0)] [] ly0 I L R0 0 0 :=
  V_iload_n (tat ok_J6_bitCount_0f7a4_0 (i := 32) (q := 42) rfl rfl) 0 rfl rfl <|
    V_iload_n (tat ok_J6_bitCount_0f7a4_0 (i := 33) (q := 43) rfl rfl) 0 rfl rfl <|
    V_bipush (tat ok_J6_bitCount_0f7a4_0 (i := 34) (q := 45) rfl rfl) bp_16 <|
    V_iushr (tat ok_J6_bitCount_0f7a4_0 (i := 35) (q := 46) rfl rfl) <|
    V_iadd (tat ok_J6_bitCount_0f7a4_0 (i := 36) (q := 47) rfl rfl) <|
    V_istore_n (lv' := [(0, .int (a0 + (iush a0 16)))]) (tat ok_J6_bitCount_0f7a4_0 (i := 37) (q := 48) rfl rfl) rfl (Nat.le_of_ble_eq_true rfl) rfl <|
    V_J6_bitCount_0f7a4_48  hr (jx (P := P) kk rfl)
def F_J6_bitCount_0f7a4_34 (a0 : Int32) : Int32 :=
  (F_J6_bitCount_0f7a4_41 (a0 + (iush a0 8)))
theorem V_J6_bitCount_0f7a4_34  {I : WI} {L : WL}  {a0 : Int32} {P : Int32 → Prop} {t : Tg} (hr : ∀ v, P v → t = (some (.int v), ly0, I, L, R0)) (kk : P (F_J6_bitCount_0f7a4_34 a0)) : V (zM x_J6_bitCount_0f7a4 1 0 0 t) 34 [(0, .int a0)] [] ly0 I L R0 0 0 :=
  V_iload_n (tat ok_J6_bitCount_0f7a4_0 (i := 26) (q := 35) rfl rfl) 0 rfl rfl <|
    V_iload_n (tat ok_J6_bitCount_0f7a4_0 (i := 27) (q := 36) rfl rfl) 0 rfl rfl <|
    V_bipush (tat ok_J6_bitCount_0f7a4_0 (i := 28) (q := 38) rfl rfl) bp_8 <|
    V_iushr (tat ok_J6_bitCount_0f7a4_0 (i := 29) (q := 39) rfl rfl) <|
    V_iadd (tat ok_J6_bitCount_0f7a4_0 (i := 30) (q := 40) rfl rfl) <|
    V_istore_n (lv' := [(0, .int (a0 + (iush a0 8)))]) (tat ok_J6_bitCount_0f7a4_0 (i := 31) (q := 41) rfl rfl) rfl (Nat.le_of_ble_eq_true rfl) rfl <|
    V_J6_bitCount_0f7a4_41  hr (jx (P := P) kk rfl)
def F_J6_bitCount_0f7a4_24 (a0 : Int32) : Int32 :=
  (F_J6_bitCount_0f7a4_34 ((a0 + (iush a0 4)) &&& 252645135))
theorem V_J6_bitCount_0f7a4_24  {I : WI} {L : WL}  {a0 : Int32} {P : Int32 → Prop} {t : Tg} (hr : ∀ v, P v → t = (some (.int v), ly0, I, L, R0)) (kk : P (F_J6_bitCount_0f7a4_24 a0)) : V (zM x_J6_bitCount_0f7a4 1 0 0 t) 24 [(0, .int a0)] [] ly0 I L R0 0 0 :=
  V_iload_n (tat ok_J6_bitCount_0f7a4_0 (i := 18) (q := 25) rfl rfl) 0 rfl rfl <|
    V_iload_n (tat ok_J6_bitCount_0f7a4_0 (i := 19) (q := 26) rfl rfl) 0 rfl rfl <|
    V_iconst (tat ok_J6_bitCount_0f7a4_0 (i := 20) (q := 27) rfl rfl) ic_4 <|
    V_iushr (tat ok_J6_bitCount_0f7a4_0 (i := 21) (q := 28) rfl rfl) <|
    V_iadd (tat ok_J6_bitCount_0f7a4_0 (i := 22) (q := 29) rfl rfl) <|
    V_ldcw (tat ok_J6_bitCount_0f7a4_0 (i := 23) (q := 32) rfl rfl) (gw_in kl_J6_267 rfl) <|
    V_iand (tat ok_J6_bitCount_0f7a4_0 (i := 24) (q := 33) rfl rfl) <|
    V_istore_n (lv' := [(0, .int ((a0 + (iush a0 4)) &&& 252645135))]) (tat ok_J6_bitCount_0f7a4_0 (i := 25) (q := 34) rfl rfl) rfl (Nat.le_of_ble_eq_true rfl) rfl <|
    V_J6_bitCount_0f7a4_34  hr (jx (P := P) kk rfl)
def F_J6_bitCount_0f7a4_10 (a0 : Int32) : Int32 :=
  (F_J6_bitCount_0f7a4_24 ((a0 &&& 858993459) + ((iush a0 2) &&& 858993459)))
theorem V_J6_bitCount_0f7a4_10  {I : WI} {L : WL}  {a0 : Int32} {P : Int32 → Prop} {t : Tg} (hr : ∀ v, P v → t = (some (.int v), ly0, I, L, R0)) (kk : P (F_J6_bitCount_0f7a4_10 a0)) : V (zM x_J6_bitCount_0f7a4 1 0 0 t) 10 [(0, .int a0)] [] ly0 I L R0 0 0 :=
  V_iload_n (tat ok_J6_bitCount_0f7a4_0 (i := 8) (q := 11) rfl rfl) 0 rfl rfl <|
    V_ldcw (tat ok_J6_bitCount_0f7a4_0 (i := 9) (q := 14) rfl rfl) (gw_in kl_J6_266 rfl) <|
    V_iand (tat ok_J6_bitCount_0f7a4_0 (i := 10) (q := 15) rfl rfl) <|
    V_iload_n (tat ok_J6_bitCount_0f7a4_0 (i := 11) (q := 16) rfl rfl) 0 rfl rfl <|
    V_iconst (tat ok_J6_bitCount_0f7a4_0 (i := 12) (q := 17) rfl rfl) ic_2 <|
    V_iushr (tat ok_J6_bitCount_0f7a4_0 (i := 13) (q := 18) rfl rfl) <|
    V_ldcw (tat ok_J6_bitCount_0f7a4_0 (i := 14) (q := 21) rfl rfl) (gw_in kl_J6_266 rfl) <|
    V_iand (tat ok_J6_bitCount_0f7a4_0 (i := 15) (q := 22) rfl rfl) <|
    V_iadd (tat ok_J6_bitCount_0f7a4_0 (i := 16) (q := 23) rfl rfl) <|
    V_istore_n (lv' := [(0, .int ((a0 &&& 858993459) + ((iush a0 2) &&& 858993459)))]) (tat ok_J6_bitCount_0f7a4_0 (i := 17) (q := 24) rfl rfl) rfl (Nat.le_of_ble_eq_true rfl) rfl <|
    V_J6_bitCount_0f7a4_24  hr (jx (P := P) kk rfl)
def F_J6_bitCount_0f7a4 (a0 : Int32) : Int32 :=
  (F_J6_bitCount_0f7a4_10 (a0 - ((iush a0 1) &&& 1431655765)))
theorem V_J6_bitCount_0f7a4  {I : WI} {L : WL}  {a0 : Int32} {P : Int32 → Prop} {t : Tg} (hr : ∀ v, P v → t = (some (.int v), ly0, I, L, R0)) (kk : P (F_J6_bitCount_0f7a4 a0)) : V (zM x_J6_bitCount_0f7a4 1 0 0 t) 0 [(0, .int a0)] [] ly0 I L R0 0 0 :=
  V_iload_n (tat ok_J6_bitCount_0f7a4_0 (i := 0) (q := 1) rfl rfl) 0 rfl rfl <|
    V_iload_n (tat ok_J6_bitCount_0f7a4_0 (i := 1) (q := 2) rfl rfl) 0 rfl rfl <|
    V_iconst (tat ok_J6_bitCount_0f7a4_0 (i := 2) (q := 3) rfl rfl) ic_1 <|
    V_iushr (tat ok_J6_bitCount_0f7a4_0 (i := 3) (q := 4) rfl rfl) <|
    V_ldcw (tat ok_J6_bitCount_0f7a4_0 (i := 4) (q := 7) rfl rfl) (gw_in kl_J6_265 rfl) <|
    V_iand (tat ok_J6_bitCount_0f7a4_0 (i := 5) (q := 8) rfl rfl) <|
    V_isub (tat ok_J6_bitCount_0f7a4_0 (i := 6) (q := 9) rfl rfl) <|
    V_istore_n (lv' := [(0, .int (a0 - ((iush a0 1) &&& 1431655765)))]) (tat ok_J6_bitCount_0f7a4_0 (i := 7) (q := 10) rfl rfl) rfl (Nat.le_of_ble_eq_true rfl) rfl <|
    V_J6_bitCount_0f7a4_10  hr (jx (P := P) kk rfl)
theorem ct_J6_bitCount_0f7a4  (I : WI) (L : WL)  (a0 : Int32)  : Ct x_J6_bitCount_0f7a4 1 [.int a0] ly0 I L R0 0 0 (some (.int (F_J6_bitCount_0f7a4 a0)), ly0, I, L, R0) :=
  Ct_of_V mo_J6_bitCount_0f7a4.1 (Nat.le_of_ble_eq_true rfl) (V_J6_bitCount_0f7a4 (P := fun x => x = (F_J6_bitCount_0f7a4 a0))  (fun _ e => by rw [e]) rfl)
/-! the two methods that answer a cell or null -/
def sid (a : Int32) : Nat := 19 + 2 * Int32.toNatClampNeg a
theorem clamp_lt {a : Int32} {n : Nat} (c : vp_in a n) : Int32.toNatClampNeg a < n := Nat.not_le.mp fun q => c (Or.inr q)
theorem isX3_sid {a : Int32} (c : vp_in a 4) : isX3 (sid a) := by
  have h := clamp_lt c
  unfold sid
  generalize Int32.toNatClampNeg a = j at h
  rcases (show j = 0 ∨ j = 1 ∨ j = 2 ∨ j = 3 by omega) with rfl | rfl | rfl | rfl <;> exact ⟨rfl, rfl, rfl⟩
theorem R0_sid {a : Int32} (c : vp_in a 4) : R0 18 (Int32.toNatClampNeg a) = some (sid a) := by
  have h := clamp_lt c
  unfold sid
  generalize Int32.toNatClampNeg a = j at h ⊢
  rcases (show j = 0 ∨ j = 1 ∨ j = 2 ∨ j = 3 by omega) with rfl | rfl | rfl | rfl <;> rfl
theorem ct_at1 (I : WI) (L : WL) (a1 : Int32) (c : vp_in a1 4) : Ct x_X4_at 1 [.ref 17, .int a1] ly0 I L R0 0 0 (some (.ref (sid a1)), ly0, I, L, R0) :=
  Ct_of_V mo_X4_at.1 (Nat.le_of_ble_eq_true rfl) (V_iload_n (tat ok_X4_at_0 (i := 0) (q := 1) rfl rfl) 1 rfl rfl <|
    V_if_lt (tat ok_X4_at_0 (i := 1) (q := 4) rfl rfl) rfl (fun c1 => absurd (Or.inl c1) c) (fun c1 => V_iload_n (tat ok_X4_at_0 (i := 2) (q := 5) rfl rfl) 1 rfl rfl <|
    V_aload_n (tat ok_X4_at_0 (i := 3) (q := 6) rfl rfl) 0 rfl rfl <|
    V_getR (tat ok_X4_at_0 (i := 4) (q := 9) rfl rfl) fk_X4_11 rfl rfl <|
    V_alen (tat ok_X4_at_0 (i := 5) (q := 10) rfl rfl) rfl ⟨by decide, by decide⟩ nl_4 <|
    V_icmp_ge (tat ok_X4_at_0 (i := 6) (q := 13) rfl rfl) rfl (fun c2 => absurd (by
      have h := (vp_in_iff.mp c).2
      have h2 := Int32.le_iff_toInt_le.mp c2
      have h4 : (4 : Int32).toInt = 4 := rfl
      omega : False) id) (fun c2 => V_aload_n (tat ok_X4_at_0 (i := 7) (q := 14) rfl rfl) 0 rfl rfl <|
    V_getR (tat ok_X4_at_0 (i := 8) (q := 17) rfl rfl) fk_X4_11 rfl rfl <|
    V_iload_n (tat ok_X4_at_0 (i := 9) (q := 18) rfl rfl) 1 rfl rfl <|
    V_aald (tat ok_X4_at_0 (i := 10) (q := 19) rfl rfl) rfl c (R0_sid c) (isX3_lt (isX3_sid c)) <|
    V_goto (tat ok_X4_at_0 (i := 11) (q := 22) rfl rfl) rfl <|
    V_aret (C := "RowsColumns$Sheet") (tat ok_X4_at_0 (i := 13) (q := 24) rfl rfl) rfl rfl ⟨Nat.le_refl _, Nat.le_refl _⟩)))
theorem ct_atN (I : WI) (L : WL) (a1 : Int32) (c : ¬ vp_in a1 4) : Ct x_X4_at 1 [.ref 17, .int a1] ly0 I L R0 0 0 (some .null, ly0, I, L, R0) :=
  Ct_of_V mo_X4_at.1 (Nat.le_of_ble_eq_true rfl) (V_iload_n (tat ok_X4_at_0 (i := 0) (q := 1) rfl rfl) 1 rfl rfl <|
    V_if_lt (tat ok_X4_at_0 (i := 1) (q := 4) rfl rfl) rfl (fun c1 => V_null (tat ok_X4_at_0 (i := 12) (q := 23) rfl rfl) <|
      V_aretN (C := "RowsColumns$Sheet") (tat ok_X4_at_0 (i := 13) (q := 24) rfl rfl) rfl rfl ⟨Nat.le_refl _, Nat.le_refl _⟩) (fun c1 => V_iload_n (tat ok_X4_at_0 (i := 2) (q := 5) rfl rfl) 1 rfl rfl <|
    V_aload_n (tat ok_X4_at_0 (i := 3) (q := 6) rfl rfl) 0 rfl rfl <|
    V_getR (tat ok_X4_at_0 (i := 4) (q := 9) rfl rfl) fk_X4_11 rfl rfl <|
    V_alen (tat ok_X4_at_0 (i := 5) (q := 10) rfl rfl) rfl ⟨by decide, by decide⟩ nl_4 <|
    V_icmp_ge (tat ok_X4_at_0 (i := 6) (q := 13) rfl rfl) rfl (fun c2 => V_null (tat ok_X4_at_0 (i := 12) (q := 23) rfl rfl) <|
      V_aretN (C := "RowsColumns$Sheet") (tat ok_X4_at_0 (i := 13) (q := 24) rfl rfl) rfl rfl ⟨Nat.le_refl _, Nat.le_refl _⟩) (fun c2 => absurd (vpin ti_4 c1 c2) c)))
theorem ct_img0 (I : WI) (L : WL) (a1 : Int32) (c : a1 = 0) : Ct x_X8_imageOf 1 [.ref 0, .int a1] ly0 I L R0 0 0 (some (.ref 3), ly0, I, L, R0) :=
  Ct_of_V mo_X8_imageOf.1 (Nat.le_of_ble_eq_true rfl) (V_iload_n (tat ok_X8_imageOf_0 (i := 0) (q := 1) rfl rfl) 1 rfl rfl <|
    V_if_ne (tat ok_X8_imageOf_0 (i := 1) (q := 4) rfl rfl) rfl (fun c1 => absurd c c1) (fun c1 => V_aload_n (tat ok_X8_imageOf_0 (i := 2) (q := 5) rfl rfl) 0 rfl rfl <|
    V_getR (tat ok_X8_imageOf_0 (i := 3) (q := 8) rfl rfl) fk_X8_21 rfl rfl <|
    V_aret (C := "RowsColumns$Cloth") (tat ok_X8_imageOf_0 (i := 4) (q := 9) rfl rfl) rfl rfl ⟨Nat.le_refl _, Nat.le_refl _⟩))
theorem ct_img1 (I : WI) (L : WL) (a1 : Int32) (c : a1 = 1) : Ct x_X8_imageOf 1 [.ref 0, .int a1] ly0 I L R0 0 0 (some (.ref 4), ly0, I, L, R0) :=
  Ct_of_V mo_X8_imageOf.1 (Nat.le_of_ble_eq_true rfl) (V_iload_n (tat ok_X8_imageOf_0 (i := 0) (q := 1) rfl rfl) 1 rfl rfl <|
    V_if_ne (tat ok_X8_imageOf_0 (i := 1) (q := 4) rfl rfl) rfl (fun c1 => V_iload_n (tat ok_X8_imageOf_0 (i := 5) (q := 10) rfl rfl) 1 rfl rfl <|
    V_iconst (tat ok_X8_imageOf_0 (i := 6) (q := 11) rfl rfl) ic_1 <|
    V_icmp_ne (tat ok_X8_imageOf_0 (i := 7) (q := 14) rfl rfl) rfl (fun c2 => absurd c c2) (fun c2 => V_aload_n (tat ok_X8_imageOf_0 (i := 8) (q := 15) rfl rfl) 0 rfl rfl <|
    V_getR (tat ok_X8_imageOf_0 (i := 9) (q := 18) rfl rfl) fk_X8_24 rfl rfl <|
    V_goto (tat ok_X8_imageOf_0 (i := 10) (q := 21) rfl rfl) rfl <|
    V_aret (C := "RowsColumns$Cloth") (tat ok_X8_imageOf_0 (i := 12) (q := 23) rfl rfl) rfl rfl ⟨Nat.le_refl _, Nat.le_refl _⟩)) (fun c1 => absurd (c1.symm.trans c) (by decide)))
theorem ct_imgN (I : WI) (L : WL) (a1 : Int32) (c : ¬ a1 = 0) (d : ¬ a1 = 1) : Ct x_X8_imageOf 1 [.ref 0, .int a1] ly0 I L R0 0 0 (some .null, ly0, I, L, R0) :=
  Ct_of_V mo_X8_imageOf.1 (Nat.le_of_ble_eq_true rfl) (V_iload_n (tat ok_X8_imageOf_0 (i := 0) (q := 1) rfl rfl) 1 rfl rfl <|
    V_if_ne (tat ok_X8_imageOf_0 (i := 1) (q := 4) rfl rfl) rfl (fun c1 => V_iload_n (tat ok_X8_imageOf_0 (i := 5) (q := 10) rfl rfl) 1 rfl rfl <|
    V_iconst (tat ok_X8_imageOf_0 (i := 6) (q := 11) rfl rfl) ic_1 <|
    V_icmp_ne (tat ok_X8_imageOf_0 (i := 7) (q := 14) rfl rfl) rfl (fun c2 => V_null (tat ok_X8_imageOf_0 (i := 11) (q := 22) rfl rfl) <|
    V_aretN (C := "RowsColumns$Cloth") (tat ok_X8_imageOf_0 (i := 12) (q := 23) rfl rfl) rfl rfl ⟨Nat.le_refl _, Nat.le_refl _⟩) (fun c2 => absurd c2 d)) (fun c1 => absurd c1 c))
def F_X1_clear (I : WI) (o : Nat) : WI :=
  (u2 I o 0 0)
theorem V_X1_clear  {I : WI} {L : WL} {o : Nat}  {P : WI → Prop} {t : Tg} (ho : isX1 o) (hr : ∀ v, P v → t = (none, ly0, v, L, R0)) (kk : P (F_X1_clear I o)) : V (zM x_X1_clear 1 0 0 t) 0 [(0, .ref o)] [] ly0 I L R0 0 0 :=
  V_aload_n (tat ok_X1_clear_0 (i := 0) (q := 1) rfl rfl) 0 rfl rfl <|
    V_iconst (tat ok_X1_clear_0 (i := 1) (q := 2) rfl rfl) ic_0 <|
    V_putI (tat ok_X1_clear_0 (i := 2) (q := 5) rfl rfl) fk_X1_16 ho.1 rfl <|
    V_vret (tat ok_X1_clear_0 (i := 3) (q := 6) rfl rfl) rfl (hr (u2 I o 0 0) (jx (P := P) kk rfl)) ⟨(Nat.le_of_ble_eq_true rfl), (Nat.le_of_ble_eq_true rfl)⟩
theorem ct_X1_clear  (I : WI) (L : WL) (o : Nat) (ho : isX1 o) : Ct x_X1_clear 1 [.ref o] ly0 I L R0 0 0 (none, ly0, (F_X1_clear I o), L, R0) :=
  Ct_of_V mo_X1_clear.1 (Nat.le_of_ble_eq_true rfl) (V_X1_clear (P := fun x => x = (F_X1_clear I o)) ho (fun _ e => by rw [e]) rfl)
def F_X1_become_10_1 (I : WI) (o : Nat) (r1 : Nat) (a2 : Int32) : Option (WI ⊕ (Int32 × WI)) :=
  (if 12 ≤ a2 then some (.inl I) else (if 12 ≤ a2 then some (.inl I) else (if a2 < 0 ∨ 12 ≤ Int32.toNatClampNeg a2 then none else (if a2 < 0 ∨ 12 ≤ Int32.toNatClampNeg a2 then none else some (.inr ((a2 + 1), (u2 I (o + 1) (Int32.toNatClampNeg a2) (I (r1 + 1) (Int32.toNatClampNeg a2)))))))))
theorem V_X1_become_10_1  {I : WI} {L : WL} {o : Nat} {r1 : Nat} {a2 : Int32} {P : (WI ⊕ (Int32 × WI)) → Prop} {t : Tg} (ho : isX1 o) (hr1 : isX1 r1) (he : ∀ x : WI, P (.inl x) → V (zM x_X1_become 1 0 0 t) 46 [(0, .ref o), (1, .ref r1)] [] ly0 x L R0 0 0) (hk : ∀ x : (Int32 × WI), P (.inr x) → V (zM x_X1_become 1 0 0 t) 10 [(0, .ref o), (1, .ref r1), (2, .int (p1 x))] [] ly0 (p2 x) L R0 0 0) : oP P (F_X1_become_10_1 I o r1 a2) → V (zM x_X1_become 1 0 0 t) 10 [(0, .ref o), (1, .ref r1), (2, .int a2)] [] ly0 I L R0 0 0 :=
  fun _ =>
  have kq : (oP P (F_X1_become_10_1 I o r1 a2)) ∧ True := ⟨by assumption, trivial⟩
  V_iload_n (tat ok_X1_become_0 (i := 6) (q := 11) rfl rfl) 2 rfl rfl <|
    V_aload_n (tat ok_X1_become_0 (i := 7) (q := 12) rfl rfl) 0 rfl rfl <|
    V_getR (tat ok_X1_become_0 (i := 8) (q := 15) rfl rfl) fk_X1_9 ho.1 ho.2.1 <|
    V_alen (tat ok_X1_become_0 (i := 9) (q := 16) rfl rfl) ho.2.2.2.1 ⟨by decide, by decide⟩ nl_12 <|
    V_icmp_ge (tat ok_X1_become_0 (i := 10) (q := 19) rfl rfl) rfl (fun c1 => V_pick [0, 1] rfl (he I (jq (P := oP P) kq (if_pos c1)))) (fun c1 => V_iload_n (tat ok_X1_become_0 (i := 11) (q := 20) rfl rfl) 2 rfl rfl <|
    V_aload_n (tat ok_X1_become_0 (i := 12) (q := 21) rfl rfl) 1 rfl rfl <|
    V_getR (tat ok_X1_become_0 (i := 13) (q := 24) rfl rfl) fk_X1_9 hr1.1 hr1.2.1 <|
    V_alen (tat ok_X1_become_0 (i := 14) (q := 25) rfl rfl) hr1.2.2.2.1 ⟨by decide, by decide⟩ nl_12 <|
    V_icmp_ge (tat ok_X1_become_0 (i := 15) (q := 28) rfl rfl) rfl (fun c2 => V_pick [0, 1] rfl (he I (jq (P := oP P) kq (Eq.trans (if_neg c1) (if_pos c2))))) (fun c2 => V_aload_n (tat ok_X1_become_0 (i := 16) (q := 29) rfl rfl) 0 rfl rfl <|
    V_getR (tat ok_X1_become_0 (i := 17) (q := 32) rfl rfl) fk_X1_9 ho.1 ho.2.1 <|
    V_iload_n (tat ok_X1_become_0 (i := 18) (q := 33) rfl rfl) 2 rfl rfl <|
    V_aload_n (tat ok_X1_become_0 (i := 19) (q := 34) rfl rfl) 1 rfl rfl <|
    V_getR (tat ok_X1_become_0 (i := 20) (q := 37) rfl rfl) fk_X1_9 hr1.1 hr1.2.1 <|
    V_iload_n (tat ok_X1_become_0 (i := 21) (q := 38) rfl rfl) 2 rfl rfl <|
    (if c3 : a2 < 0 ∨ 12 ≤ Int32.toNatClampNeg a2 then ((jq (P := oP P) kq (Eq.trans (if_neg c1) (Eq.trans (if_neg c2) (if_pos c3))))).elim else V_iald (tat ok_X1_become_0 (i := 22) (q := 39) rfl rfl) hr1.2.2.2.1 c3 <|
    (if c4 : a2 < 0 ∨ 12 ≤ Int32.toNatClampNeg a2 then ((jq (P := oP P) kq (Eq.trans (if_neg c1) (Eq.trans (if_neg c2) (Eq.trans (if_neg c3) (if_pos c4)))))).elim else V_iast (tat ok_X1_become_0 (i := 23) (q := 40) rfl rfl) ho.2.2.2.1 c4 <|
    V_iinc (v := (a2 + 1)) (lv' := [(2, .int (a2 + 1)), (0, .ref o), (1, .ref r1)]) (tat ok_X1_become_0 (i := 24) (q := 43) rfl rfl) 2 rfl (ia ic_1) (Nat.le_of_ble_eq_true rfl) rfl <|
    V_goto (tat ok_X1_become_0 (i := 25) (q := 46) rfl rfl) rfl <|
    V_pick [1, 2, 0] rfl (hk ((a2 + 1), (u2 I (o + 1) (Int32.toNatClampNeg a2) (I (r1 + 1) (Int32.toNatClampNeg a2)))) (jq (P := oP P) kq (Eq.trans (if_neg c1) (Eq.trans (if_neg c2) (Eq.trans (if_neg c3) (if_neg c4))))))))))
def F_X1_become_48_2 (I : WI) (o : Nat) (r1 : Nat) (a2 : Int32) : Option (WI ⊕ (Int32 × WI)) :=
  (if 36 ≤ a2 then some (.inl I) else (if 36 ≤ a2 then some (.inl I) else (if a2 < 0 ∨ 36 ≤ Int32.toNatClampNeg a2 then none else (if a2 < 0 ∨ 36 ≤ Int32.toNatClampNeg a2 then none else some (.inr ((a2 + 1), (u2 I (o + 2) (Int32.toNatClampNeg a2) (I (r1 + 2) (Int32.toNatClampNeg a2)))))))))
theorem V_X1_become_48_2  {I : WI} {L : WL} {o : Nat} {r1 : Nat} {a2 : Int32} {P : (WI ⊕ (Int32 × WI)) → Prop} {t : Tg} (ho : isX1 o) (hr1 : isX1 r1) (he : ∀ x : WI, P (.inl x) → V (zM x_X1_become 1 0 0 t) 84 [(0, .ref o), (1, .ref r1)] [] ly0 x L R0 0 0) (hk : ∀ x : (Int32 × WI), P (.inr x) → V (zM x_X1_become 1 0 0 t) 48 [(0, .ref o), (1, .ref r1), (2, .int (p1 x))] [] ly0 (p2 x) L R0 0 0) : oP P (F_X1_become_48_2 I o r1 a2) → V (zM x_X1_become 1 0 0 t) 48 [(0, .ref o), (1, .ref r1), (2, .int a2)] [] ly0 I L R0 0 0 :=
  fun _ =>
  have kq : (oP P (F_X1_become_48_2 I o r1 a2)) ∧ True := ⟨by assumption, trivial⟩
  V_iload_n (tat ok_X1_become_0 (i := 28) (q := 49) rfl rfl) 2 rfl rfl <|
    V_aload_n (tat ok_X1_become_0 (i := 29) (q := 50) rfl rfl) 0 rfl rfl <|
    V_getR (tat ok_X1_become_0 (i := 30) (q := 53) rfl rfl) fk_X1_13 ho.1 ho.2.2.1 <|
    V_alen (tat ok_X1_become_0 (i := 31) (q := 54) rfl rfl) ho.2.2.2.2 ⟨by decide, by decide⟩ nl_36 <|
    V_icmp_ge (tat ok_X1_become_0 (i := 32) (q := 57) rfl rfl) rfl (fun c5 => V_pick [0, 1] rfl (he I (jq (P := oP P) kq (if_pos c5)))) (fun c5 => V_iload_n (tat ok_X1_become_0 (i := 33) (q := 58) rfl rfl) 2 rfl rfl <|
    V_aload_n (tat ok_X1_become_0 (i := 34) (q := 59) rfl rfl) 1 rfl rfl <|
    V_getR (tat ok_X1_become_0 (i := 35) (q := 62) rfl rfl) fk_X1_13 hr1.1 hr1.2.2.1 <|
    V_alen (tat ok_X1_become_0 (i := 36) (q := 63) rfl rfl) hr1.2.2.2.2 ⟨by decide, by decide⟩ nl_36 <|
    V_icmp_ge (tat ok_X1_become_0 (i := 37) (q := 66) rfl rfl) rfl (fun c6 => V_pick [0, 1] rfl (he I (jq (P := oP P) kq (Eq.trans (if_neg c5) (if_pos c6))))) (fun c6 => V_aload_n (tat ok_X1_become_0 (i := 38) (q := 67) rfl rfl) 0 rfl rfl <|
    V_getR (tat ok_X1_become_0 (i := 39) (q := 70) rfl rfl) fk_X1_13 ho.1 ho.2.2.1 <|
    V_iload_n (tat ok_X1_become_1 (i := 0) (q := 71) rfl rfl) 2 rfl rfl <|
    V_aload_n (tat ok_X1_become_1 (i := 1) (q := 72) rfl rfl) 1 rfl rfl <|
    V_getR (tat ok_X1_become_1 (i := 2) (q := 75) rfl rfl) fk_X1_13 hr1.1 hr1.2.2.1 <|
    V_iload_n (tat ok_X1_become_1 (i := 3) (q := 76) rfl rfl) 2 rfl rfl <|
    (if c7 : a2 < 0 ∨ 36 ≤ Int32.toNatClampNeg a2 then ((jq (P := oP P) kq (Eq.trans (if_neg c5) (Eq.trans (if_neg c6) (if_pos c7))))).elim else V_iald (tat ok_X1_become_1 (i := 4) (q := 77) rfl rfl) hr1.2.2.2.2 c7 <|
    (if c8 : a2 < 0 ∨ 36 ≤ Int32.toNatClampNeg a2 then ((jq (P := oP P) kq (Eq.trans (if_neg c5) (Eq.trans (if_neg c6) (Eq.trans (if_neg c7) (if_pos c8)))))).elim else V_iast (tat ok_X1_become_1 (i := 5) (q := 78) rfl rfl) ho.2.2.2.2 c8 <|
    V_iinc (v := (a2 + 1)) (lv' := [(2, .int (a2 + 1)), (0, .ref o), (1, .ref r1)]) (tat ok_X1_become_1 (i := 6) (q := 81) rfl rfl) 2 rfl (ia ic_1) (Nat.le_of_ble_eq_true rfl) rfl <|
    V_goto (tat ok_X1_become_1 (i := 7) (q := 84) rfl rfl) rfl <|
    V_pick [1, 2, 0] rfl (hk ((a2 + 1), (u2 I (o + 2) (Int32.toNatClampNeg a2) (I (r1 + 2) (Int32.toNatClampNeg a2)))) (jq (P := oP P) kq (Eq.trans (if_neg c5) (Eq.trans (if_neg c6) (Eq.trans (if_neg c7) (if_neg c8))))))))))
def F_X1_become_84 (I : WI) (o : Nat) (r1 : Nat) : Option WI :=
  some I
theorem V_X1_become_84  {I : WI} {L : WL} {o : Nat} {r1 : Nat}  {P : WI → Prop} {t : Tg} (ho : isX1 o) (hr1 : isX1 r1) (hr : ∀ v, P v → t = (none, ly0, v, L, R0)) : oP P (F_X1_become_84 I o r1) → V (zM x_X1_become 1 0 0 t) 84 [(0, .ref o), (1, .ref r1)] [] ly0 I L R0 0 0 :=
  fun _ =>
  have kq : (oP P (F_X1_become_84 I o r1)) ∧ True := ⟨by assumption, trivial⟩
  V_vret (tat ok_X1_become_1 (i := 8) (q := 85) rfl rfl) rfl (hr I (jq (P := oP P) kq rfl)) ⟨(Nat.le_of_ble_eq_true rfl), (Nat.le_of_ble_eq_true rfl)⟩
def F_X1_become_48 (I : WI) (o : Nat) (r1 : Nat) (a2 : Int32) : Option WI :=
  (lpp (fun x => (F_X1_become_48_2 (p2 x) o r1 (p1 x))) 4294967296 (a2, I)).bind (fun q => (F_X1_become_84 q o r1))
theorem V_X1_become_48  {I : WI} {L : WL} {o : Nat} {r1 : Nat} {a2 : Int32} {P : WI → Prop} {t : Tg} (ho : isX1 o) (hr1 : isX1 r1) (hb2 : bz a2 = a2) (hr : ∀ v, P v → t = (none, ly0, v, L, R0)) (kk : oP P (F_X1_become_48 I o r1 a2)) : V (zM x_X1_become 1 0 0 t) 48 [(0, .ref o), (1, .ref r1), (2, .int a2)] [] ly0 I L R0 0 0 :=
  V_lpp (fun x => (F_X1_become_48_2 (p2 x) o r1 (p1 x))) (fun x => V (zM x_X1_become 1 0 0 t) 48 [(0, .ref o), (1, .ref r1), (2, .int (p1 x))] [] ly0 (p2 x) L R0 0 0) (fun x => oP P ((F_X1_become_84 x o r1))) (s := (a2, I)) (fun x e0 => V_X1_become_48_2 (P := Sum.elim (fun x => oP P ((F_X1_become_84 x o r1))) (fun x => V (zM x_X1_become 1 0 0 t) 48 [(0, .ref o), (1, .ref r1), (2, .int (p1 x))] [] ly0 (p2 x) L R0 0 0)) ho hr1 (fun x e => V_X1_become_84 ho hr1 hr e) (fun _ e => e) e0) (oP_bind (f := fun q => _) kk)
def F_X1_become_46 (I : WI) (o : Nat) (r1 : Nat) : Option WI :=
  (F_X1_become_48 I o r1 0)
theorem V_X1_become_46  {I : WI} {L : WL} {o : Nat} {r1 : Nat}  {P : WI → Prop} {t : Tg} (ho : isX1 o) (hr1 : isX1 r1) (hr : ∀ v, P v → t = (none, ly0, v, L, R0)) : oP P (F_X1_become_46 I o r1) → V (zM x_X1_become 1 0 0 t) 46 [(0, .ref o), (1, .ref r1)] [] ly0 I L R0 0 0 :=
  fun _ =>
  have kq : (oP P (F_X1_become_46 I o r1)) ∧ True := ⟨by assumption, trivial⟩
  V_iconst (tat ok_X1_become_0 (i := 26) (q := 47) rfl rfl) ic_0 <|
    V_istore_n (lv' := [(2, .int 0), (0, .ref o), (1, .ref r1)]) (tat ok_X1_become_0 (i := 27) (q := 48) rfl rfl) rfl (Nat.le_of_ble_eq_true rfl) rfl <|
    V_pick [1, 2, 0] rfl (V_X1_become_48 ho hr1 rfl hr (jq (P := oP P) kq rfl))
def F_X1_become_10 (I : WI) (o : Nat) (r1 : Nat) (a2 : Int32) : Option WI :=
  (lpp (fun x => (F_X1_become_10_1 (p2 x) o r1 (p1 x))) 4294967296 (a2, I)).bind (fun q => (F_X1_become_46 q o r1))
theorem V_X1_become_10  {I : WI} {L : WL} {o : Nat} {r1 : Nat} {a2 : Int32} {P : WI → Prop} {t : Tg} (ho : isX1 o) (hr1 : isX1 r1) (hb2 : bz a2 = a2) (hr : ∀ v, P v → t = (none, ly0, v, L, R0)) (kk : oP P (F_X1_become_10 I o r1 a2)) : V (zM x_X1_become 1 0 0 t) 10 [(0, .ref o), (1, .ref r1), (2, .int a2)] [] ly0 I L R0 0 0 :=
  V_lpp (fun x => (F_X1_become_10_1 (p2 x) o r1 (p1 x))) (fun x => V (zM x_X1_become 1 0 0 t) 10 [(0, .ref o), (1, .ref r1), (2, .int (p1 x))] [] ly0 (p2 x) L R0 0 0) (fun x => oP P ((F_X1_become_46 x o r1))) (s := (a2, I)) (fun x e0 => V_X1_become_10_1 (P := Sum.elim (fun x => oP P ((F_X1_become_46 x o r1))) (fun x => V (zM x_X1_become 1 0 0 t) 10 [(0, .ref o), (1, .ref r1), (2, .int (p1 x))] [] ly0 (p2 x) L R0 0 0)) ho hr1 (fun x e => V_X1_become_46 ho hr1 hr e) (fun _ e => e) e0) (oP_bind (f := fun q => _) kk)
def F_X1_become (I : WI) (o : Nat) (r1 : Nat) : Option WI :=
  (F_X1_become_10 (u2 I o 0 (I r1 0)) o r1 0)
theorem V_X1_become  {I : WI} {L : WL} {o : Nat} {r1 : Nat}  {P : WI → Prop} {t : Tg} (ho : isX1 o) (hr1 : isX1 r1) (hr : ∀ v, P v → t = (none, ly0, v, L, R0)) : oP P (F_X1_become I o r1) → V (zM x_X1_become 1 0 0 t) 0 [(0, .ref o), (1, .ref r1)] [] ly0 I L R0 0 0 :=
  fun _ =>
  have kq : (oP P (F_X1_become I o r1)) ∧ True := ⟨by assumption, trivial⟩
  V_aload_n (tat ok_X1_become_0 (i := 0) (q := 1) rfl rfl) 0 rfl rfl <|
    V_aload_n (tat ok_X1_become_0 (i := 1) (q := 2) rfl rfl) 1 rfl rfl <|
    V_getI (tat ok_X1_become_0 (i := 2) (q := 5) rfl rfl) fk_X1_16 hr1.1 <|
    V_putI (tat ok_X1_become_0 (i := 3) (q := 8) rfl rfl) fk_X1_16 ho.1 rfl <|
    V_iconst (tat ok_X1_become_0 (i := 4) (q := 9) rfl rfl) ic_0 <|
    V_istore_n (lv' := [(2, .int 0), (0, .ref o), (1, .ref r1)]) (tat ok_X1_become_0 (i := 5) (q := 10) rfl rfl) rfl (Nat.le_of_ble_eq_true rfl) rfl <|
    V_pick [1, 2, 0] rfl (V_X1_become_10 ho hr1 rfl hr (jq (P := oP P) kq rfl))
theorem ct_X1_become  (I : WI) (L : WL) (o : Nat) (r1 : Nat) (ho : isX1 o) (hr1 : isX1 r1) {v : WI} (h : (F_X1_become I o r1) = some v) : Ct x_X1_become 1 [.ref o, .ref r1] ly0 I L R0 0 0 (none, ly0, v, L, R0) :=
  Ct_of_V mo_X1_become.1 (Nat.le_of_ble_eq_true rfl) (V_X1_become (P := fun x => x = v) ho hr1 (fun _ e => by rw [e]) (by rw [h]; exact rfl))
def F_X1_begin_39 (I : WI) (o : Nat) : WI :=
  I
theorem V_X1_begin_39  {I : WI} {L : WL} {o : Nat}  {P : WI → Prop} {t : Tg} (ho : isX1 o) (hr : ∀ v, P v → t = (none, ly0, v, L, R0)) (kk : P (F_X1_begin_39 I o)) : V (zM x_X1_begin 1 0 0 t) 39 [(0, .ref o)] [] ly0 I L R0 0 0 :=
  V_vret (tat ok_X1_begin_0 (i := 21) (q := 40) rfl rfl) rfl (hr I (jx (P := P) kk rfl)) ⟨(Nat.le_of_ble_eq_true rfl), (Nat.le_of_ble_eq_true rfl)⟩
def F_X1_begin (I : WI) (o : Nat) : WI :=
  (if (I o 0) < 0 then (F_X1_begin_39 I o) else (if 12 ≤ (I o 0) then (F_X1_begin_39 I o) else (F_X1_begin_39 (u2 (u2 I (o + 1) (Int32.toNatClampNeg (I o 0)) 0) o 0 (((u2 I (o + 1) (Int32.toNatClampNeg (I o 0)) 0) o 0) + 1)) o)))
theorem V_X1_begin  {I : WI} {L : WL} {o : Nat}  {P : WI → Prop} {t : Tg} (ho : isX1 o) (hr : ∀ v, P v → t = (none, ly0, v, L, R0)) (kk : P (F_X1_begin I o)) : V (zM x_X1_begin 1 0 0 t) 0 [(0, .ref o)] [] ly0 I L R0 0 0 :=
  V_aload_n (tat ok_X1_begin_0 (i := 0) (q := 1) rfl rfl) 0 rfl rfl <|
    V_getI (tat ok_X1_begin_0 (i := 1) (q := 4) rfl rfl) fk_X1_16 ho.1 <|
    V_if_lt (tat ok_X1_begin_0 (i := 2) (q := 7) rfl rfl) rfl (fun c1 => V_X1_begin_39 ho hr (jx (P := P) kk (if_pos c1))) (fun c1 => V_aload_n (tat ok_X1_begin_0 (i := 3) (q := 8) rfl rfl) 0 rfl rfl <|
    V_getI (tat ok_X1_begin_0 (i := 4) (q := 11) rfl rfl) fk_X1_16 ho.1 <|
    V_aload_n (tat ok_X1_begin_0 (i := 5) (q := 12) rfl rfl) 0 rfl rfl <|
    V_getR (tat ok_X1_begin_0 (i := 6) (q := 15) rfl rfl) fk_X1_9 ho.1 ho.2.1 <|
    V_alen (tat ok_X1_begin_0 (i := 7) (q := 16) rfl rfl) ho.2.2.2.1 ⟨by decide, by decide⟩ nl_12 <|
    V_icmp_ge (tat ok_X1_begin_0 (i := 8) (q := 19) rfl rfl) rfl (fun c2 => V_X1_begin_39 ho hr (jx (P := P) kk (Eq.trans (if_neg c1) (if_pos c2)))) (fun c2 => V_aload_n (tat ok_X1_begin_0 (i := 9) (q := 20) rfl rfl) 0 rfl rfl <|
    V_getR (tat ok_X1_begin_0 (i := 10) (q := 23) rfl rfl) fk_X1_9 ho.1 ho.2.1 <|
    V_aload_n (tat ok_X1_begin_0 (i := 11) (q := 24) rfl rfl) 0 rfl rfl <|
    V_getI (tat ok_X1_begin_0 (i := 12) (q := 27) rfl rfl) fk_X1_16 ho.1 <|
    V_iconst (tat ok_X1_begin_0 (i := 13) (q := 28) rfl rfl) ic_0 <|
    V_iast (tat ok_X1_begin_0 (i := 14) (q := 29) rfl rfl) ho.2.2.2.1 (vpin ti_12 c1 c2) <|
    V_aload_n (tat ok_X1_begin_0 (i := 15) (q := 30) rfl rfl) 0 rfl rfl <|
    V_dup (tat ok_X1_begin_0 (i := 16) (q := 31) rfl rfl) rfl <|
    V_getI (tat ok_X1_begin_0 (i := 17) (q := 34) rfl rfl) fk_X1_16 ho.1 <|
    V_iconst (tat ok_X1_begin_0 (i := 18) (q := 35) rfl rfl) ic_1 <|
    V_iadd (tat ok_X1_begin_0 (i := 19) (q := 36) rfl rfl) <|
    V_putI (tat ok_X1_begin_0 (i := 20) (q := 39) rfl rfl) fk_X1_16 ho.1 rfl <|
    V_X1_begin_39 ho hr (jx (P := P) kk (Eq.trans (if_neg c1) (if_neg c2)))))
theorem ct_X1_begin  (I : WI) (L : WL) (o : Nat) (ho : isX1 o) : Ct x_X1_begin 1 [.ref o] ly0 I L R0 0 0 (none, ly0, (F_X1_begin I o), L, R0) :=
  Ct_of_V mo_X1_begin.1 (Nat.le_of_ble_eq_true rfl) (V_X1_begin (P := fun x => x = (F_X1_begin I o)) ho (fun _ e => by rw [e]) rfl)
def F_X1_actsOf_31 (I : WI) (o : Nat) (a1 : Int32) (s0 : Int32) : Int32 :=
  s0
theorem V_X1_actsOf_31  {I : WI} {L : WL} {o : Nat} {a1 : Int32} {s0 : Int32} {P : Int32 → Prop} {t : Tg} (ho : isX1 o) (hr : ∀ v, P v → t = (some (.int v), ly0, I, L, R0)) (kk : P (F_X1_actsOf_31 I o a1 s0)) : V (zM x_X1_actsOf 1 0 0 t) 31 [(0, .ref o), (1, .int a1)] [.int s0] ly0 I L R0 0 0 :=
  V_iret (tat ok_X1_actsOf_0 (i := 17) (q := 32) rfl rfl) _ rfl (nar_int _) (hr s0 (jx (P := P) kk rfl)) ⟨(Nat.le_of_ble_eq_true rfl), (Nat.le_of_ble_eq_true rfl)⟩
def F_X1_actsOf_30 (I : WI) (o : Nat) (a1 : Int32) : Int32 :=
  (F_X1_actsOf_31 I o a1 0)
theorem V_X1_actsOf_30  {I : WI} {L : WL} {o : Nat} {a1 : Int32}  {P : Int32 → Prop} {t : Tg} (ho : isX1 o) (hr : ∀ v, P v → t = (some (.int v), ly0, I, L, R0)) (kk : P (F_X1_actsOf_30 I o a1)) : V (zM x_X1_actsOf 1 0 0 t) 30 [(0, .ref o), (1, .int a1)] [] ly0 I L R0 0 0 :=
  V_iconst (tat ok_X1_actsOf_0 (i := 16) (q := 31) rfl rfl) ic_0 <|
    V_X1_actsOf_31 ho hr (jx (P := P) kk rfl)
def F_X1_actsOf (I : WI) (o : Nat) (a1 : Int32) : Int32 :=
  (if a1 < 0 then (F_X1_actsOf_30 I o a1) else (if (I o 0) ≤ a1 then (F_X1_actsOf_30 I o a1) else (if 12 ≤ a1 then (F_X1_actsOf_30 I o a1) else (F_X1_actsOf_31 I o a1 (I (o + 1) (Int32.toNatClampNeg a1))))))
theorem V_X1_actsOf  {I : WI} {L : WL} {o : Nat} {a1 : Int32}  {P : Int32 → Prop} {t : Tg} (ho : isX1 o) (hr : ∀ v, P v → t = (some (.int v), ly0, I, L, R0)) (kk : P (F_X1_actsOf I o a1)) : V (zM x_X1_actsOf 1 0 0 t) 0 [(0, .ref o), (1, .int a1)] [] ly0 I L R0 0 0 :=
  V_iload_n (tat ok_X1_actsOf_0 (i := 0) (q := 1) rfl rfl) 1 rfl rfl <|
    V_if_lt (tat ok_X1_actsOf_0 (i := 1) (q := 4) rfl rfl) rfl (fun c1 => V_X1_actsOf_30 ho hr (jx (P := P) kk (if_pos c1))) (fun c1 => V_iload_n (tat ok_X1_actsOf_0 (i := 2) (q := 5) rfl rfl) 1 rfl rfl <|
    V_aload_n (tat ok_X1_actsOf_0 (i := 3) (q := 6) rfl rfl) 0 rfl rfl <|
    V_getI (tat ok_X1_actsOf_0 (i := 4) (q := 9) rfl rfl) fk_X1_16 ho.1 <|
    V_icmp_ge (tat ok_X1_actsOf_0 (i := 5) (q := 12) rfl rfl) rfl (fun c2 => V_X1_actsOf_30 ho hr (jx (P := P) kk (Eq.trans (if_neg c1) (if_pos c2)))) (fun c2 => V_iload_n (tat ok_X1_actsOf_0 (i := 6) (q := 13) rfl rfl) 1 rfl rfl <|
    V_aload_n (tat ok_X1_actsOf_0 (i := 7) (q := 14) rfl rfl) 0 rfl rfl <|
    V_getR (tat ok_X1_actsOf_0 (i := 8) (q := 17) rfl rfl) fk_X1_9 ho.1 ho.2.1 <|
    V_alen (tat ok_X1_actsOf_0 (i := 9) (q := 18) rfl rfl) ho.2.2.2.1 ⟨by decide, by decide⟩ nl_12 <|
    V_icmp_ge (tat ok_X1_actsOf_0 (i := 10) (q := 21) rfl rfl) rfl (fun c3 => V_X1_actsOf_30 ho hr (jx (P := P) kk (Eq.trans (if_neg c1) (Eq.trans (if_neg c2) (if_pos c3))))) (fun c3 => V_aload_n (tat ok_X1_actsOf_0 (i := 11) (q := 22) rfl rfl) 0 rfl rfl <|
    V_getR (tat ok_X1_actsOf_0 (i := 12) (q := 25) rfl rfl) fk_X1_9 ho.1 ho.2.1 <|
    V_iload_n (tat ok_X1_actsOf_0 (i := 13) (q := 26) rfl rfl) 1 rfl rfl <|
    V_iald (tat ok_X1_actsOf_0 (i := 14) (q := 27) rfl rfl) ho.2.2.2.1 (vpin ti_12 c1 c3) <|
    V_goto (tat ok_X1_actsOf_0 (i := 15) (q := 30) rfl rfl) rfl <|
    V_X1_actsOf_31 ho hr (jx (P := P) kk (Eq.trans (if_neg c1) (Eq.trans (if_neg c2) (if_neg c3)))))))
theorem ct_X1_actsOf  (I : WI) (L : WL) (o : Nat) (a1 : Int32) (ho : isX1 o) : Ct x_X1_actsOf 1 [.ref o, .int a1] ly0 I L R0 0 0 (some (.int (F_X1_actsOf I o a1)), ly0, I, L, R0) :=
  Ct_of_V mo_X1_actsOf.1 (Nat.le_of_ble_eq_true rfl) (V_X1_actsOf (P := fun x => x = (F_X1_actsOf I o a1)) ho (fun _ e => by rw [e]) rfl)
def F_X1_add_69 (I : WI) (o : Nat) (a1 : Int32) (a2 : Int32) : WI :=
  I
theorem V_X1_add_69  {I : WI} {L : WL} {o : Nat} {a1 : Int32} {a2 : Int32}  {P : WI → Prop} {t : Tg} (ho : isX1 o) (hr : ∀ v, P v → t = (none, ly0, v, L, R0)) (kk : P (F_X1_add_69 I o a1 a2)) : V (zM x_X1_add 2 0 0 t) 69 [(0, .ref o), (1, .int a1), (2, .int a2)] [] ly0 I L R0 0 0 :=
  V_vret (tat ok_X1_add_1 (i := 4) (q := 70) rfl rfl) rfl (hr I (jx (P := P) kk rfl)) ⟨(Nat.le_of_ble_eq_true rfl), (Nat.le_of_ble_eq_true rfl)⟩
def F_X1_add (I : WI) (o : Nat) (a1 : Int32) (a2 : Int32) : WI :=
  (if ((I o 0) - 1) < 0 then (F_X1_add_69 I o a1 a2) else (if 12 ≤ ((I o 0) - 1) then (F_X1_add_69 I o a1 a2) else (if ((3 * ((I o 0) - 1)) + (F_X1_actsOf I o ((I o 0) - 1))) < 0 then (F_X1_add_69 I o a1 a2) else (if 36 ≤ ((3 * ((I o 0) - 1)) + (F_X1_actsOf I o ((I o 0) - 1))) then (F_X1_add_69 I o a1 a2) else (F_X1_add_69 (u2 (u2 I (o + 2) (Int32.toNatClampNeg ((3 * ((I o 0) - 1)) + (F_X1_actsOf I o ((I o 0) - 1)))) ((20 * a1) + a2)) (o + 1) (Int32.toNatClampNeg ((I o 0) - 1)) (((u2 I (o + 2) (Int32.toNatClampNeg ((3 * ((I o 0) - 1)) + (F_X1_actsOf I o ((I o 0) - 1)))) ((20 * a1) + a2)) (o + 1) (Int32.toNatClampNeg ((I o 0) - 1))) + 1)) o a1 a2)))))
theorem V_X1_add  {I : WI} {L : WL} {o : Nat} {a1 : Int32} {a2 : Int32}  {P : WI → Prop} {t : Tg} (ho : isX1 o) (hr : ∀ v, P v → t = (none, ly0, v, L, R0)) (kk : P (F_X1_add I o a1 a2)) : V (zM x_X1_add 2 0 0 t) 0 [(0, .ref o), (1, .int a1), (2, .int a2)] [] ly0 I L R0 0 0 :=
  V_aload_n (tat ok_X1_add_0 (i := 0) (q := 1) rfl rfl) 0 rfl rfl <|
    V_getI (tat ok_X1_add_0 (i := 1) (q := 4) rfl rfl) fk_X1_16 ho.1 <|
    V_iconst (tat ok_X1_add_0 (i := 2) (q := 5) rfl rfl) ic_1 <|
    V_isub (tat ok_X1_add_0 (i := 3) (q := 6) rfl rfl) <|
    V_istore_n (lv' := [(3, .int ((I o 0) - 1)), (0, .ref o), (1, .int a1), (2, .int a2)]) (tat ok_X1_add_0 (i := 4) (q := 7) rfl rfl) rfl (Nat.le_of_ble_eq_true rfl) rfl <|
    V_iconst (tat ok_X1_add_0 (i := 5) (q := 8) rfl rfl) ic_3 <|
    V_iload_n (tat ok_X1_add_0 (i := 6) (q := 9) rfl rfl) 0 rfl rfl <|
    V_imul (tat ok_X1_add_0 (i := 7) (q := 10) rfl rfl) <|
    V_aload_n (tat ok_X1_add_0 (i := 8) (q := 11) rfl rfl) 1 rfl rfl <|
    V_iload_n (tat ok_X1_add_0 (i := 9) (q := 12) rfl rfl) 0 rfl rfl <|
    V_cv1 (ct_X1_actsOf I L o ((I o 0) - 1) ho) mo_X1_actsOf (tat ok_X1_add_0 (i := 10) (q := 15) rfl rfl) ml_X1_20 ho.1 ⟨by decide, _, rfl, rfl⟩ ⟨(Nat.le_of_ble_eq_true rfl), (Nat.le_of_ble_eq_true rfl)⟩ ⟨(Nat.le_of_ble_eq_true rfl), (Nat.le_of_ble_eq_true rfl)⟩ (Nat.le_of_ble_eq_true rfl) <|
    V_iadd (tat ok_X1_add_0 (i := 11) (q := 16) rfl rfl) <|
    V_istore (lv' := [(4, .int ((3 * ((I o 0) - 1)) + (F_X1_actsOf I o ((I o 0) - 1)))), (3, .int ((I o 0) - 1)), (0, .ref o), (1, .int a1), (2, .int a2)]) (tat ok_X1_add_0 (i := 12) (q := 18) rfl rfl) (Nat.le_of_ble_eq_true rfl) rfl <|
    V_iload_n (tat ok_X1_add_0 (i := 13) (q := 19) rfl rfl) 1 rfl rfl <|
    V_if_lt (tat ok_X1_add_0 (i := 14) (q := 22) rfl rfl) rfl (fun c1 => V_pick [2, 3, 4] rfl (V_X1_add_69 ho hr (jx (P := P) kk (if_pos c1)))) (fun c1 => V_iload_n (tat ok_X1_add_0 (i := 15) (q := 23) rfl rfl) 1 rfl rfl <|
    V_aload_n (tat ok_X1_add_0 (i := 16) (q := 24) rfl rfl) 2 rfl rfl <|
    V_getR (tat ok_X1_add_0 (i := 17) (q := 27) rfl rfl) fk_X1_9 ho.1 ho.2.1 <|
    V_alen (tat ok_X1_add_0 (i := 18) (q := 28) rfl rfl) ho.2.2.2.1 ⟨by decide, by decide⟩ nl_12 <|
    V_icmp_ge (tat ok_X1_add_0 (i := 19) (q := 31) rfl rfl) rfl (fun c2 => V_pick [2, 3, 4] rfl (V_X1_add_69 ho hr (jx (P := P) kk (Eq.trans (if_neg c1) (if_pos c2))))) (fun c2 => V_iload (tat ok_X1_add_0 (i := 20) (q := 33) rfl rfl) 0 rfl <|
    V_if_lt (tat ok_X1_add_0 (i := 21) (q := 36) rfl rfl) rfl (fun c3 => V_pick [2, 3, 4] rfl (V_X1_add_69 ho hr (jx (P := P) kk (Eq.trans (if_neg c1) (Eq.trans (if_neg c2) (if_pos c3)))))) (fun c3 => V_iload (tat ok_X1_add_0 (i := 22) (q := 38) rfl rfl) 0 rfl <|
    V_aload_n (tat ok_X1_add_0 (i := 23) (q := 39) rfl rfl) 2 rfl rfl <|
    V_getR (tat ok_X1_add_0 (i := 24) (q := 42) rfl rfl) fk_X1_13 ho.1 ho.2.2.1 <|
    V_alen (tat ok_X1_add_0 (i := 25) (q := 43) rfl rfl) ho.2.2.2.2 ⟨by decide, by decide⟩ nl_36 <|
    V_icmp_ge (tat ok_X1_add_0 (i := 26) (q := 46) rfl rfl) rfl (fun c4 => V_pick [2, 3, 4] rfl (V_X1_add_69 ho hr (jx (P := P) kk (Eq.trans (if_neg c1) (Eq.trans (if_neg c2) (Eq.trans (if_neg c3) (if_pos c4))))))) (fun c4 => V_aload_n (tat ok_X1_add_0 (i := 27) (q := 47) rfl rfl) 2 rfl rfl <|
    V_getR (tat ok_X1_add_0 (i := 28) (q := 50) rfl rfl) fk_X1_13 ho.1 ho.2.2.1 <|
    V_iload (tat ok_X1_add_0 (i := 29) (q := 52) rfl rfl) 0 rfl <|
    V_bipush (tat ok_X1_add_0 (i := 30) (q := 54) rfl rfl) bp_20 <|
    V_iload_n (tat ok_X1_add_0 (i := 31) (q := 55) rfl rfl) 3 rfl rfl <|
    V_imul (tat ok_X1_add_0 (i := 32) (q := 56) rfl rfl) <|
    V_iload_n (tat ok_X1_add_0 (i := 33) (q := 57) rfl rfl) 4 rfl rfl <|
    V_iadd (tat ok_X1_add_0 (i := 34) (q := 58) rfl rfl) <|
    V_iast (tat ok_X1_add_0 (i := 35) (q := 59) rfl rfl) ho.2.2.2.2 (vpin ti_36 c3 c4) <|
    V_aload_n (tat ok_X1_add_0 (i := 36) (q := 60) rfl rfl) 2 rfl rfl <|
    V_getR (tat ok_X1_add_0 (i := 37) (q := 63) rfl rfl) fk_X1_9 ho.1 ho.2.1 <|
    V_iload_n (tat ok_X1_add_0 (i := 38) (q := 64) rfl rfl) 1 rfl rfl <|
    V_dup2 (tat ok_X1_add_0 (i := 39) (q := 65) rfl rfl) rfl rfl <|
    V_iald (tat ok_X1_add_1 (i := 0) (q := 66) rfl rfl) ho.2.2.2.1 (vpin ti_12 c1 c2) <|
    V_iconst (tat ok_X1_add_1 (i := 1) (q := 67) rfl rfl) ic_1 <|
    V_iadd (tat ok_X1_add_1 (i := 2) (q := 68) rfl rfl) <|
    V_iast (tat ok_X1_add_1 (i := 3) (q := 69) rfl rfl) ho.2.2.2.1 (vpin ti_12 c1 c2) <|
    V_pick [2, 3, 4] rfl (V_X1_add_69 ho hr (jx (P := P) kk (Eq.trans (if_neg c1) (Eq.trans (if_neg c2) (Eq.trans (if_neg c3) (if_neg c4))))))))))
theorem ct_X1_add  (I : WI) (L : WL) (o : Nat) (a1 : Int32) (a2 : Int32) (ho : isX1 o) : Ct x_X1_add 2 [.ref o, .int a1, .int a2] ly0 I L R0 0 0 (none, ly0, (F_X1_add I o a1 a2), L, R0) :=
  Ct_of_V mo_X1_add.1 (Nat.le_of_ble_eq_true rfl) (V_X1_add (P := fun x => x = (F_X1_add I o a1 a2)) ho (fun _ e => by rw [e]) rfl)
def F_X1_codeOf_42 (I : WI) (o : Nat) (a1 : Int32) (a2 : Int32) (s0 : Int32) : Int32 :=
  s0
theorem V_X1_codeOf_42  {I : WI} {L : WL} {o : Nat} {a1 : Int32} {a2 : Int32} {s0 : Int32} {P : Int32 → Prop} {t : Tg} (ho : isX1 o) (hr : ∀ v, P v → t = (some (.int v), ly0, I, L, R0)) (kk : P (F_X1_codeOf_42 I o a1 a2 s0)) : V (zM x_X1_codeOf 2 0 0 t) 42 [(0, .ref o), (1, .int a1), (2, .int a2)] [.int s0] ly0 I L R0 0 0 :=
  V_iret (tat ok_X1_codeOf_0 (i := 26) (q := 43) rfl rfl) _ rfl (nar_int _) (hr s0 (jx (P := P) kk rfl)) ⟨(Nat.le_of_ble_eq_true rfl), (Nat.le_of_ble_eq_true rfl)⟩
def F_X1_codeOf_41 (I : WI) (o : Nat) (a1 : Int32) (a2 : Int32) : Int32 :=
  (F_X1_codeOf_42 I o a1 a2 0)
theorem V_X1_codeOf_41  {I : WI} {L : WL} {o : Nat} {a1 : Int32} {a2 : Int32}  {P : Int32 → Prop} {t : Tg} (ho : isX1 o) (hr : ∀ v, P v → t = (some (.int v), ly0, I, L, R0)) (kk : P (F_X1_codeOf_41 I o a1 a2)) : V (zM x_X1_codeOf 2 0 0 t) 41 [(0, .ref o), (1, .int a1), (2, .int a2)] [] ly0 I L R0 0 0 :=
  V_iconst (tat ok_X1_codeOf_0 (i := 25) (q := 42) rfl rfl) ic_0 <|
    V_X1_codeOf_42 ho hr (jx (P := P) kk rfl)
def F_X1_codeOf (I : WI) (o : Nat) (a1 : Int32) (a2 : Int32) : Int32 :=
  (if a2 < 0 then (F_X1_codeOf_41 I o a1 a2) else (if (F_X1_actsOf I o a1) ≤ a2 then (F_X1_codeOf_41 I o a1 a2) else (if ((3 * a1) + a2) < 0 then (F_X1_codeOf_41 I o a1 a2) else (if 36 ≤ ((3 * a1) + a2) then (F_X1_codeOf_41 I o a1 a2) else (F_X1_codeOf_42 I o a1 a2 (I (o + 2) (Int32.toNatClampNeg ((3 * a1) + a2))))))))
theorem V_X1_codeOf  {I : WI} {L : WL} {o : Nat} {a1 : Int32} {a2 : Int32}  {P : Int32 → Prop} {t : Tg} (ho : isX1 o) (hr : ∀ v, P v → t = (some (.int v), ly0, I, L, R0)) (kk : P (F_X1_codeOf I o a1 a2)) : V (zM x_X1_codeOf 2 0 0 t) 0 [(0, .ref o), (1, .int a1), (2, .int a2)] [] ly0 I L R0 0 0 :=
  V_iconst (tat ok_X1_codeOf_0 (i := 0) (q := 1) rfl rfl) ic_3 <|
    V_iload_n (tat ok_X1_codeOf_0 (i := 1) (q := 2) rfl rfl) 1 rfl rfl <|
    V_imul (tat ok_X1_codeOf_0 (i := 2) (q := 3) rfl rfl) <|
    V_iload_n (tat ok_X1_codeOf_0 (i := 3) (q := 4) rfl rfl) 2 rfl rfl <|
    V_iadd (tat ok_X1_codeOf_0 (i := 4) (q := 5) rfl rfl) <|
    V_istore_n (lv' := [(3, .int ((3 * a1) + a2)), (0, .ref o), (1, .int a1), (2, .int a2)]) (tat ok_X1_codeOf_0 (i := 5) (q := 6) rfl rfl) rfl (Nat.le_of_ble_eq_true rfl) rfl <|
    V_iload_n (tat ok_X1_codeOf_0 (i := 6) (q := 7) rfl rfl) 3 rfl rfl <|
    V_if_lt (tat ok_X1_codeOf_0 (i := 7) (q := 10) rfl rfl) rfl (fun c1 => V_pick [1, 2, 3] rfl (V_X1_codeOf_41 ho hr (jx (P := P) kk (if_pos c1)))) (fun c1 => V_iload_n (tat ok_X1_codeOf_0 (i := 8) (q := 11) rfl rfl) 3 rfl rfl <|
    V_aload_n (tat ok_X1_codeOf_0 (i := 9) (q := 12) rfl rfl) 1 rfl rfl <|
    V_iload_n (tat ok_X1_codeOf_0 (i := 10) (q := 13) rfl rfl) 2 rfl rfl <|
    V_cv1 (ct_X1_actsOf I L o a1 ho) mo_X1_actsOf (tat ok_X1_codeOf_0 (i := 11) (q := 16) rfl rfl) ml_X1_20 ho.1 ⟨by decide, _, rfl, rfl⟩ ⟨(Nat.le_of_ble_eq_true rfl), (Nat.le_of_ble_eq_true rfl)⟩ ⟨(Nat.le_of_ble_eq_true rfl), (Nat.le_of_ble_eq_true rfl)⟩ (Nat.le_of_ble_eq_true rfl) <|
    V_icmp_ge (tat ok_X1_codeOf_0 (i := 12) (q := 19) rfl rfl) rfl (fun c2 => V_pick [1, 2, 3] rfl (V_X1_codeOf_41 ho hr (jx (P := P) kk (Eq.trans (if_neg c1) (if_pos c2))))) (fun c2 => V_iload_n (tat ok_X1_codeOf_0 (i := 13) (q := 20) rfl rfl) 0 rfl rfl <|
    V_if_lt (tat ok_X1_codeOf_0 (i := 14) (q := 23) rfl rfl) rfl (fun c3 => V_pick [1, 2, 3] rfl (V_X1_codeOf_41 ho hr (jx (P := P) kk (Eq.trans (if_neg c1) (Eq.trans (if_neg c2) (if_pos c3)))))) (fun c3 => V_iload_n (tat ok_X1_codeOf_0 (i := 15) (q := 24) rfl rfl) 0 rfl rfl <|
    V_aload_n (tat ok_X1_codeOf_0 (i := 16) (q := 25) rfl rfl) 1 rfl rfl <|
    V_getR (tat ok_X1_codeOf_0 (i := 17) (q := 28) rfl rfl) fk_X1_13 ho.1 ho.2.2.1 <|
    V_alen (tat ok_X1_codeOf_0 (i := 18) (q := 29) rfl rfl) ho.2.2.2.2 ⟨by decide, by decide⟩ nl_36 <|
    V_icmp_ge (tat ok_X1_codeOf_0 (i := 19) (q := 32) rfl rfl) rfl (fun c4 => V_pick [1, 2, 3] rfl (V_X1_codeOf_41 ho hr (jx (P := P) kk (Eq.trans (if_neg c1) (Eq.trans (if_neg c2) (Eq.trans (if_neg c3) (if_pos c4))))))) (fun c4 => V_aload_n (tat ok_X1_codeOf_0 (i := 20) (q := 33) rfl rfl) 1 rfl rfl <|
    V_getR (tat ok_X1_codeOf_0 (i := 21) (q := 36) rfl rfl) fk_X1_13 ho.1 ho.2.2.1 <|
    V_iload_n (tat ok_X1_codeOf_0 (i := 22) (q := 37) rfl rfl) 0 rfl rfl <|
    V_iald (tat ok_X1_codeOf_0 (i := 23) (q := 38) rfl rfl) ho.2.2.2.2 (vpin ti_36 c3 c4) <|
    V_goto (tat ok_X1_codeOf_0 (i := 24) (q := 41) rfl rfl) rfl <|
    V_pick [1, 2, 3] rfl (V_X1_codeOf_42 ho hr (jx (P := P) kk (Eq.trans (if_neg c1) (Eq.trans (if_neg c2) (Eq.trans (if_neg c3) (if_neg c4))))))))))
theorem ct_X1_codeOf  (I : WI) (L : WL) (o : Nat) (a1 : Int32) (a2 : Int32) (ho : isX1 o) : Ct x_X1_codeOf 2 [.ref o, .int a1, .int a2] ly0 I L R0 0 0 (some (.int (F_X1_codeOf I o a1 a2)), ly0, I, L, R0) :=
  Ct_of_V mo_X1_codeOf.1 (Nat.le_of_ble_eq_true rfl) (V_X1_codeOf (P := fun x => x = (F_X1_codeOf I o a1 a2)) ho (fun _ e => by rw [e]) rfl)
def F_X1_kindOf (I : WI) (o : Nat) (a1 : Int32) (a2 : Int32) : Int32 :=
  ((F_X1_codeOf I o a1 a2) / 20)
theorem V_X1_kindOf  {I : WI} {L : WL} {o : Nat} {a1 : Int32} {a2 : Int32}  {P : Int32 → Prop} {t : Tg} (ho : isX1 o) (hr : ∀ v, P v → t = (some (.int v), ly0, I, L, R0)) (kk : P (F_X1_kindOf I o a1 a2)) : V (zM x_X1_kindOf 3 0 0 t) 0 [(0, .ref o), (1, .int a1), (2, .int a2)] [] ly0 I L R0 0 0 :=
  V_aload_n (tat ok_X1_kindOf_0 (i := 0) (q := 1) rfl rfl) 0 rfl rfl <|
    V_iload_n (tat ok_X1_kindOf_0 (i := 1) (q := 2) rfl rfl) 1 rfl rfl <|
    V_iload_n (tat ok_X1_kindOf_0 (i := 2) (q := 3) rfl rfl) 2 rfl rfl <|
    V_cv2 (ct_X1_codeOf I L o a1 a2 ho) mo_X1_codeOf (tat ok_X1_kindOf_0 (i := 3) (q := 6) rfl rfl) ml_X1_24 ho.1 ⟨by decide, _, rfl, rfl⟩ ⟨(Nat.le_of_ble_eq_true rfl), (Nat.le_of_ble_eq_true rfl)⟩ ⟨(Nat.le_of_ble_eq_true rfl), (Nat.le_of_ble_eq_true rfl)⟩ (Nat.le_of_ble_eq_true rfl) <|
    V_bipush (tat ok_X1_kindOf_0 (i := 4) (q := 8) rfl rfl) bp_20 <|
    V_idiv (tat ok_X1_kindOf_0 (i := 5) (q := 9) rfl rfl) (by decide) <|
    V_iret (tat ok_X1_kindOf_0 (i := 6) (q := 10) rfl rfl) _ rfl (nar_int _) (hr ((F_X1_codeOf I o a1 a2) / 20) (jx (P := P) kk rfl)) ⟨(Nat.le_of_ble_eq_true rfl), (Nat.le_of_ble_eq_true rfl)⟩
theorem ct_X1_kindOf  (I : WI) (L : WL) (o : Nat) (a1 : Int32) (a2 : Int32) (ho : isX1 o) : Ct x_X1_kindOf 3 [.ref o, .int a1, .int a2] ly0 I L R0 0 0 (some (.int (F_X1_kindOf I o a1 a2)), ly0, I, L, R0) :=
  Ct_of_V mo_X1_kindOf.1 (Nat.le_of_ble_eq_true rfl) (V_X1_kindOf (P := fun x => x = (F_X1_kindOf I o a1 a2)) ho (fun _ e => by rw [e]) rfl)
def F_X1_numberOf (I : WI) (o : Nat) (a1 : Int32) (a2 : Int32) : Int32 :=
  ((F_X1_codeOf I o a1 a2) - (F_X1_codeOf I o a1 a2) / 20 * 20)
theorem V_X1_numberOf  {I : WI} {L : WL} {o : Nat} {a1 : Int32} {a2 : Int32}  {P : Int32 → Prop} {t : Tg} (ho : isX1 o) (hr : ∀ v, P v → t = (some (.int v), ly0, I, L, R0)) (kk : P (F_X1_numberOf I o a1 a2)) : V (zM x_X1_numberOf 3 0 0 t) 0 [(0, .ref o), (1, .int a1), (2, .int a2)] [] ly0 I L R0 0 0 :=
  V_aload_n (tat ok_X1_numberOf_0 (i := 0) (q := 1) rfl rfl) 0 rfl rfl <|
    V_iload_n (tat ok_X1_numberOf_0 (i := 1) (q := 2) rfl rfl) 1 rfl rfl <|
    V_iload_n (tat ok_X1_numberOf_0 (i := 2) (q := 3) rfl rfl) 2 rfl rfl <|
    V_cv2 (ct_X1_codeOf I L o a1 a2 ho) mo_X1_codeOf (tat ok_X1_numberOf_0 (i := 3) (q := 6) rfl rfl) ml_X1_24 ho.1 ⟨by decide, _, rfl, rfl⟩ ⟨(Nat.le_of_ble_eq_true rfl), (Nat.le_of_ble_eq_true rfl)⟩ ⟨(Nat.le_of_ble_eq_true rfl), (Nat.le_of_ble_eq_true rfl)⟩ (Nat.le_of_ble_eq_true rfl) <|
    V_bipush (tat ok_X1_numberOf_0 (i := 4) (q := 8) rfl rfl) bp_20 <|
    V_irem (tat ok_X1_numberOf_0 (i := 5) (q := 9) rfl rfl) (by decide) <|
    V_iret (tat ok_X1_numberOf_0 (i := 6) (q := 10) rfl rfl) _ rfl (nar_int _) (hr ((F_X1_codeOf I o a1 a2) - (F_X1_codeOf I o a1 a2) / 20 * 20) (jx (P := P) kk rfl)) ⟨(Nat.le_of_ble_eq_true rfl), (Nat.le_of_ble_eq_true rfl)⟩
theorem ct_X1_numberOf  (I : WI) (L : WL) (o : Nat) (a1 : Int32) (a2 : Int32) (ho : isX1 o) : Ct x_X1_numberOf 3 [.ref o, .int a1, .int a2] ly0 I L R0 0 0 (some (.int (F_X1_numberOf I o a1 a2)), ly0, I, L, R0) :=
  Ct_of_V mo_X1_numberOf.1 (Nat.le_of_ble_eq_true rfl) (V_X1_numberOf (P := fun x => x = (F_X1_numberOf I o a1 a2)) ho (fun _ e => by rw [e]) rfl)
def F_X2_find_88_1 (I : WI) (L : WL) (o : Nat) (r1 : Nat) (r2 : Nat) (a4 : Int32) (a3 : Int32) : (Int32 × WI × WL) :=
  (a3, I, L)
theorem V_X2_find_88_1  {I : WI} {L : WL} {o : Nat} {r1 : Nat} {r2 : Nat} {a4 : Int32} {a3 : Int32} {P : (Int32 × WI × WL) → Prop} {t : Tg} (ho : isX2 o) (hr1 : isX0 r1) (hr2 : isX0 r2) (hk : ∀ x : (Int32 × WI × WL), P x → V (zM x_X2_find 6 0 0 t) 5 [(0, .ref o), (1, .ref r1), (2, .ref r2), (3, .int (p1 x)), (4, .int (a4 + 1))] [] ly0 (p1 (p2 x)) (p2 (p2 x)) R0 0 0) (kk : P (F_X2_find_88_1 I L o r1 r2 a4 a3)) : V (zM x_X2_find 6 0 0 t) 88 [(0, .ref o), (1, .ref r1), (2, .ref r2), (3, .int a3), (4, .int a4)] [] ly0 I L R0 0 0 :=
  V_iinc (v := (a4 + 1)) (lv' := [(4, .int (a4 + 1)), (0, .ref o), (1, .ref r1), (2, .ref r2), (3, .int a3)]) (tat ok_X2_find_1 (i := 6) (q := 91) rfl rfl) 4 rfl (ia ic_1) (Nat.le_of_ble_eq_true rfl) rfl <|
    V_goto (tat ok_X2_find_1 (i := 7) (q := 94) rfl rfl) rfl <|
    V_pick [1, 2, 3, 4, 0] rfl (hk (a3, I, L) (jx (P := P) kk rfl))
def F_X2_find_58_1 (I : WI) (L : WL) (o : Nat) (r1 : Nat) (r2 : Nat) (a4 : Int32) (a5 : Int64) : (Int32 × WI × WL) :=
  (F_X2_find_88_1 (u2 (u2 (u2 I o 3 a4) o 0 ((u2 I o 3 a4) r2 1)) o 1 ((u2 (u2 I o 3 a4) o 0 ((u2 I o 3 a4) r2 1)) r2 2)) (u2 L o 2 a5) o r1 r2 a4 1)
theorem V_X2_find_58_1  {I : WI} {L : WL} {o : Nat} {r1 : Nat} {r2 : Nat} {a4 : Int32} {a5 : Int64} {P : (Int32 × WI × WL) → Prop} {t : Tg} (ho : isX2 o) (hr1 : isX0 r1) (hr2 : isX0 r2) (hk : ∀ x : (Int32 × WI × WL), P x → V (zM x_X2_find 6 0 0 t) 5 [(0, .ref o), (1, .ref r1), (2, .ref r2), (3, .int (p1 x)), (4, .int (a4 + 1))] [] ly0 (p1 (p2 x)) (p2 (p2 x)) R0 0 0) (kk : P (F_X2_find_58_1 I L o r1 r2 a4 a5)) : V (zM x_X2_find 6 0 0 t) 58 [(0, .ref o), (1, .ref r1), (2, .ref r2), (4, .int a4), (5, .long a5)] [] ly0 I L R0 0 0 :=
  V_iconst (tat ok_X2_find_0 (i := 30) (q := 59) rfl rfl) ic_1 <|
    V_istore_n (lv' := [(3, .int 1), (0, .ref o), (1, .ref r1), (2, .ref r2), (4, .int a4), (5, .long a5)]) (tat ok_X2_find_0 (i := 31) (q := 60) rfl rfl) rfl (Nat.le_of_ble_eq_true rfl) rfl <|
    V_aload_n (tat ok_X2_find_0 (i := 32) (q := 61) rfl rfl) 1 rfl rfl <|
    V_lload (tat ok_X2_find_0 (i := 33) (q := 63) rfl rfl) 5 rfl <|
    V_putL (tat ok_X2_find_0 (i := 34) (q := 66) rfl rfl) fk_X2_34 ho rfl <|
    V_aload_n (tat ok_X2_find_0 (i := 35) (q := 67) rfl rfl) 1 rfl rfl <|
    V_iload (tat ok_X2_find_0 (i := 36) (q := 69) rfl rfl) 4 rfl <|
    V_putI (tat ok_X2_find_0 (i := 37) (q := 72) rfl rfl) fk_X2_39 ho rfl <|
    V_aload_n (tat ok_X2_find_0 (i := 38) (q := 73) rfl rfl) 1 rfl rfl <|
    V_aload_n (tat ok_X2_find_0 (i := 39) (q := 74) rfl rfl) 3 rfl rfl <|
    V_getI (tat ok_X2_find_1 (i := 0) (q := 77) rfl rfl) fk_X2_27 hr2 <|
    V_putI (tat ok_X2_find_1 (i := 1) (q := 80) rfl rfl) fk_X2_42 ho rfl <|
    V_aload_n (tat ok_X2_find_1 (i := 2) (q := 81) rfl rfl) 1 rfl rfl <|
    V_aload_n (tat ok_X2_find_1 (i := 3) (q := 82) rfl rfl) 3 rfl rfl <|
    V_getI (tat ok_X2_find_1 (i := 4) (q := 85) rfl rfl) fk_X2_31 hr2 <|
    V_putI (tat ok_X2_find_1 (i := 5) (q := 88) rfl rfl) fk_X2_43 ho rfl <|
    V_pick [1, 2, 3, 0, 4] rfl (V_X2_find_88_1 ho hr1 hr2 hk (jx (P := P) kk rfl))
def F_X2_find_12_1 (I : WI) (L : WL) (o : Nat) (r1 : Nat) (r2 : Nat) (a4 : Int32) (a3 : Int32) : (Int32 × WI × WL) :=
  (if ((p1 (F_X0_rotateBy (p1 (F_X0_become I L r2 r1)) (p2 (F_X0_become I L r2 r1)) r2 a4)) r2 2) < ((p1 (F_X0_rotateBy (p1 (F_X0_become I L r2 r1)) (p2 (F_X0_become I L r2 r1)) r2 a4)) r2 1) then (F_X2_find_88_1 (p1 (F_X0_rotateBy (p1 (F_X0_become I L r2 r1)) (p2 (F_X0_become I L r2 r1)) r2 a4)) (p2 (F_X0_rotateBy (p1 (F_X0_become I L r2 r1)) (p2 (F_X0_become I L r2 r1)) r2 a4)) o r1 r2 a4 a3) else (if a3 = 0 then (F_X2_find_58_1 (p1 (F_X0_rotateBy (p1 (F_X0_become I L r2 r1)) (p2 (F_X0_become I L r2 r1)) r2 a4)) (p2 (F_X0_rotateBy (p1 (F_X0_become I L r2 r1)) (p2 (F_X0_become I L r2 r1)) r2 a4)) o r1 r2 a4 (F_X0_formOf (p1 (F_X0_rotateBy (p1 (F_X0_become I L r2 r1)) (p2 (F_X0_become I L r2 r1)) r2 a4)) r2 ((p2 (F_X0_rotateBy (p1 (F_X0_become I L r2 r1)) (p2 (F_X0_become I L r2 r1)) r2 a4)) r2 3))) else (if 0 ≤ (lg_cmp (F_X0_formOf (p1 (F_X0_rotateBy (p1 (F_X0_become I L r2 r1)) (p2 (F_X0_become I L r2 r1)) r2 a4)) r2 ((p2 (F_X0_rotateBy (p1 (F_X0_become I L r2 r1)) (p2 (F_X0_become I L r2 r1)) r2 a4)) r2 3)) ((p2 (F_X0_rotateBy (p1 (F_X0_become I L r2 r1)) (p2 (F_X0_become I L r2 r1)) r2 a4)) o 2)) then (F_X2_find_88_1 (p1 (F_X0_rotateBy (p1 (F_X0_become I L r2 r1)) (p2 (F_X0_become I L r2 r1)) r2 a4)) (p2 (F_X0_rotateBy (p1 (F_X0_become I L r2 r1)) (p2 (F_X0_become I L r2 r1)) r2 a4)) o r1 r2 a4 a3) else (F_X2_find_58_1 (p1 (F_X0_rotateBy (p1 (F_X0_become I L r2 r1)) (p2 (F_X0_become I L r2 r1)) r2 a4)) (p2 (F_X0_rotateBy (p1 (F_X0_become I L r2 r1)) (p2 (F_X0_become I L r2 r1)) r2 a4)) o r1 r2 a4 (F_X0_formOf (p1 (F_X0_rotateBy (p1 (F_X0_become I L r2 r1)) (p2 (F_X0_become I L r2 r1)) r2 a4)) r2 ((p2 (F_X0_rotateBy (p1 (F_X0_become I L r2 r1)) (p2 (F_X0_become I L r2 r1)) r2 a4)) r2 3))))))
theorem V_X2_find_12_1  {I : WI} {L : WL} {o : Nat} {r1 : Nat} {r2 : Nat} {a4 : Int32} {a3 : Int32} {P : (Int32 × WI × WL) → Prop} {t : Tg} (ho : isX2 o) (hr1 : isX0 r1) (hr2 : isX0 r2) (hk : ∀ x : (Int32 × WI × WL), P x → V (zM x_X2_find 6 0 0 t) 5 [(0, .ref o), (1, .ref r1), (2, .ref r2), (3, .int (p1 x)), (4, .int (a4 + 1))] [] ly0 (p1 (p2 x)) (p2 (p2 x)) R0 0 0) (kk : P (F_X2_find_12_1 I L o r1 r2 a4 a3)) : V (zM x_X2_find 6 0 0 t) 12 [(0, .ref o), (1, .ref r1), (2, .ref r2), (3, .int a3), (4, .int a4)] [] ly0 I L R0 0 0 :=
  V_aload_n (tat ok_X2_find_0 (i := 7) (q := 13) rfl rfl) 2 rfl rfl <|
    V_aload_n (tat ok_X2_find_0 (i := 8) (q := 14) rfl rfl) 1 rfl rfl <|
    V_cv1v (ct_X0_become I L r2 r1 hr2 hr1) mo_X0_become (tat ok_X2_find_0 (i := 9) (q := 17) rfl rfl) ml_X2_9 hr2 ⟨by decide, _, rfl, rfl⟩ ⟨(Nat.le_of_ble_eq_true rfl), (Nat.le_of_ble_eq_true rfl)⟩ ⟨(Nat.le_of_ble_eq_true rfl), (Nat.le_of_ble_eq_true rfl)⟩ (Nat.le_of_ble_eq_true rfl) <|
    V_aload_n (tat ok_X2_find_0 (i := 10) (q := 18) rfl rfl) 2 rfl rfl <|
    V_iload (tat ok_X2_find_0 (i := 11) (q := 20) rfl rfl) 4 rfl <|
    V_cv1v (ct_X0_rotateBy (p1 (F_X0_become I L r2 r1)) (p2 (F_X0_become I L r2 r1)) r2 a4 hr2) mo_X0_rotateBy (tat ok_X2_find_0 (i := 12) (q := 23) rfl rfl) ml_X2_15 hr2 ⟨by decide, _, rfl, rfl⟩ ⟨(Nat.le_of_ble_eq_true rfl), (Nat.le_of_ble_eq_true rfl)⟩ ⟨(Nat.le_of_ble_eq_true rfl), (Nat.le_of_ble_eq_true rfl)⟩ (Nat.le_of_ble_eq_true rfl) <|
    V_aload_n (tat ok_X2_find_0 (i := 13) (q := 24) rfl rfl) 2 rfl rfl <|
    V_aload_n (tat ok_X2_find_0 (i := 14) (q := 25) rfl rfl) 2 rfl rfl <|
    V_getL (tat ok_X2_find_0 (i := 15) (q := 28) rfl rfl) fk_X2_19 hr2 <|
    V_cv1 (ct_X0_formOf (p1 (F_X0_rotateBy (p1 (F_X0_become I L r2 r1)) (p2 (F_X0_become I L r2 r1)) r2 a4)) (p2 (F_X0_rotateBy (p1 (F_X0_become I L r2 r1)) (p2 (F_X0_become I L r2 r1)) r2 a4)) r2 ((p2 (F_X0_rotateBy (p1 (F_X0_become I L r2 r1)) (p2 (F_X0_become I L r2 r1)) r2 a4)) r2 3) hr2) mo_X0_formOf (tat ok_X2_find_0 (i := 16) (q := 31) rfl rfl) ml_X2_23 hr2 ⟨by decide, _, rfl, rfl⟩ ⟨(Nat.le_of_ble_eq_true rfl), (Nat.le_of_ble_eq_true rfl)⟩ ⟨(Nat.le_of_ble_eq_true rfl), (Nat.le_of_ble_eq_true rfl)⟩ (Nat.le_of_ble_eq_true rfl) <|
    V_lstore (lv' := [(5, .long (F_X0_formOf (p1 (F_X0_rotateBy (p1 (F_X0_become I L r2 r1)) (p2 (F_X0_become I L r2 r1)) r2 a4)) r2 ((p2 (F_X0_rotateBy (p1 (F_X0_become I L r2 r1)) (p2 (F_X0_become I L r2 r1)) r2 a4)) r2 3))), (0, .ref o), (1, .ref r1), (2, .ref r2), (3, .int a3), (4, .int a4)]) (tat ok_X2_find_0 (i := 17) (q := 33) rfl rfl) (Nat.le_of_ble_eq_true rfl) rfl <|
    V_aload_n (tat ok_X2_find_0 (i := 18) (q := 34) rfl rfl) 3 rfl rfl <|
    V_getI (tat ok_X2_find_0 (i := 19) (q := 37) rfl rfl) fk_X2_27 hr2 <|
    V_aload_n (tat ok_X2_find_0 (i := 20) (q := 38) rfl rfl) 3 rfl rfl <|
    V_getI (tat ok_X2_find_0 (i := 21) (q := 41) rfl rfl) fk_X2_31 hr2 <|
    V_icmp_gt (tat ok_X2_find_0 (i := 22) (q := 44) rfl rfl) rfl (fun c1 => V_pick [1, 2, 3, 4, 5] rfl (V_X2_find_88_1 ho hr1 hr2 hk (jx (P := P) kk (if_pos c1)))) (fun c1 => V_iload_n (tat ok_X2_find_0 (i := 23) (q := 45) rfl rfl) 4 rfl rfl <|
    V_if_eq (tat ok_X2_find_0 (i := 24) (q := 48) rfl rfl) rfl (fun c2 => V_pick [1, 2, 3, 5, 0] rfl (V_X2_find_58_1 ho hr1 hr2 hk (jx (P := P) kk (Eq.trans (if_neg c1) (if_pos c2))))) (fun c2 => V_lload (tat ok_X2_find_0 (i := 25) (q := 50) rfl rfl) 0 rfl <|
    V_aload_n (tat ok_X2_find_0 (i := 26) (q := 51) rfl rfl) 1 rfl rfl <|
    V_getL (tat ok_X2_find_0 (i := 27) (q := 54) rfl rfl) fk_X2_34 ho <|
    V_lcmp (tat ok_X2_find_0 (i := 28) (q := 55) rfl rfl) <|
    V_if_ge (tat ok_X2_find_0 (i := 29) (q := 58) rfl rfl) rfl (fun c3 => V_pick [1, 2, 3, 4, 5] rfl (V_X2_find_88_1 ho hr1 hr2 hk (jx (P := P) kk (Eq.trans (if_neg c1) (Eq.trans (if_neg c2) (if_pos c3)))))) (fun c3 => V_pick [1, 2, 3, 5, 0] rfl (V_X2_find_58_1 ho hr1 hr2 hk (jx (P := P) kk (Eq.trans (if_neg c1) (Eq.trans (if_neg c2) (if_neg c3))))))))
def F_X2_find_94 (I : WI) (L : WL) (o : Nat) (r1 : Nat) (r2 : Nat) : (WI × WL) :=
  (I, L)
theorem V_X2_find_94  {I : WI} {L : WL} {o : Nat} {r1 : Nat} {r2 : Nat}  {P : (WI × WL) → Prop} {t : Tg} (ho : isX2 o) (hr1 : isX0 r1) (hr2 : isX0 r2) (hr : ∀ v, P v → t = (none, ly0, (p1 v), (p2 v), R0)) (kk : P (F_X2_find_94 I L o r1 r2)) : V (zM x_X2_find 6 0 0 t) 94 [(0, .ref o), (1, .ref r1), (2, .ref r2)] [] ly0 I L R0 0 0 :=
  V_vret (tat ok_X2_find_1 (i := 8) (q := 95) rfl rfl) rfl (hr (I, L) (jx (P := P) kk rfl)) ⟨(Nat.le_of_ble_eq_true rfl), (Nat.le_of_ble_eq_true rfl)⟩
def F_X2_find_5 (I : WI) (L : WL) (o : Nat) (r1 : Nat) (r2 : Nat) (a3 : Int32) (a4 : Int32) : (WI × WL) :=
  (fun q : Int32 × (Int32 × WI × WL) => (F_X2_find_94 (p1 (p2 (p2 q))) (p2 (p2 (p2 q))) o r1 r2)) (fr0 (fun i x => (F_X2_find_12_1 (p1 (p2 x)) (p2 (p2 x)) o r1 r2 i (p1 x))) 8 (fu a4 8) a4 (a3, I, L))
theorem V_X2_find_5  {I : WI} {L : WL} {o : Nat} {r1 : Nat} {r2 : Nat} {a3 : Int32} {a4 : Int32} {P : (WI × WL) → Prop} {t : Tg} (ho : isX2 o) (hr1 : isX0 r1) (hr2 : isX0 r2) (hb3 : bz a3 = a3) (hb4 : bz a4 = a4) (hr : ∀ v, P v → t = (none, ly0, (p1 v), (p2 v), R0)) (kk : P (F_X2_find_5 I L o r1 r2 a3 a4)) : V (zM x_X2_find 6 0 0 t) 5 [(0, .ref o), (1, .ref r1), (2, .ref r2), (3, .int a3), (4, .int a4)] [] ly0 I L R0 0 0 :=
  V_fr0 (fun i x => (F_X2_find_12_1 (p1 (p2 x)) (p2 (p2 x)) o r1 r2 i (p1 x))) 8 (fun i x => V (zM x_X2_find 6 0 0 t) 5 [(0, .ref o), (1, .ref r1), (2, .ref r2), (3, .int (p1 x)), (4, .int i)] [] ly0 (p1 (p2 x)) (p2 (p2 x)) R0 0 0) (fun i x => P ((F_X2_find_94 (p1 (p2 x)) (p2 (p2 x)) o r1 r2))) (c := a4) (s := (a3, I, L)) (fun i x kx kb => V_iload (tat ok_X2_find_0 (i := 4) (q := 7) rfl rfl) 4 rfl <|
    V_bipush (tat ok_X2_find_0 (i := 5) (q := 9) rfl rfl) bp_8 <|
    V_icmp_ge (tat ok_X2_find_0 (i := 6) (q := 12) rfl rfl) rfl (fun c0 => V_pick [0, 1, 2] rfl (V_X2_find_94 ho hr1 hr2 hr (kx c0))) (fun c0 => V_X2_find_12_1 (P := (fun x => (fun i x => V (zM x_X2_find 6 0 0 t) 5 [(0, .ref o), (1, .ref r1), (2, .ref r2), (3, .int (p1 x)), (4, .int i)] [] ly0 (p1 (p2 x)) (p2 (p2 x)) R0 0 0) (i + 1) x)) ho hr1 hr2 (fun _ e => e) (kb c0))) kk
def F_X2_find (I : WI) (L : WL) (o : Nat) (r1 : Nat) (r2 : Nat) : (WI × WL) :=
  (F_X2_find_5 I L o r1 r2 0 0)
theorem V_X2_find  {I : WI} {L : WL} {o : Nat} {r1 : Nat} {r2 : Nat}  {P : (WI × WL) → Prop} {t : Tg} (ho : isX2 o) (hr1 : isX0 r1) (hr2 : isX0 r2) (hr : ∀ v, P v → t = (none, ly0, (p1 v), (p2 v), R0)) (kk : P (F_X2_find I L o r1 r2)) : V (zM x_X2_find 6 0 0 t) 0 [(0, .ref o), (1, .ref r1), (2, .ref r2)] [] ly0 I L R0 0 0 :=
  V_iconst (tat ok_X2_find_0 (i := 0) (q := 1) rfl rfl) ic_0 <|
    V_istore_n (lv' := [(3, .int 0), (0, .ref o), (1, .ref r1), (2, .ref r2)]) (tat ok_X2_find_0 (i := 1) (q := 2) rfl rfl) rfl (Nat.le_of_ble_eq_true rfl) rfl <|
    V_iconst (tat ok_X2_find_0 (i := 2) (q := 3) rfl rfl) ic_0 <|
    V_istore (lv' := [(4, .int 0), (3, .int 0), (0, .ref o), (1, .ref r1), (2, .ref r2)]) (tat ok_X2_find_0 (i := 3) (q := 5) rfl rfl) (Nat.le_of_ble_eq_true rfl) rfl <|
    V_pick [2, 3, 4, 1, 0] rfl (V_X2_find_5 ho hr1 hr2 rfl rfl hr (jx (P := P) kk rfl))
theorem ct_X2_find  (I : WI) (L : WL) (o : Nat) (r1 : Nat) (r2 : Nat) (ho : isX2 o) (hr1 : isX0 r1) (hr2 : isX0 r2) : Ct x_X2_find 6 [.ref o, .ref r1, .ref r2] ly0 I L R0 0 0 (none, ly0, (p1 (F_X2_find I L o r1 r2)), (p2 (F_X2_find I L o r1 r2)), R0) :=
  Ct_of_V mo_X2_find.1 (Nat.le_of_ble_eq_true rfl) (V_X2_find (P := fun x => x = (F_X2_find I L o r1 r2)) ho hr1 hr2 (fun _ e => by rw [e]) rfl)
def F_X2_sameAs_39 (I : WI) (L : WL) (o : Nat) (r1 : Nat) (s0 : Int32) : Int32 :=
  s0
theorem V_X2_sameAs_39  {I : WI} {L : WL} {o : Nat} {r1 : Nat} {s0 : Int32} {P : Int32 → Prop} {t : Tg} (ho : isX2 o) (hr1 : isX2 r1) (hs0 : bz s0 = s0) (hr : ∀ v, P v → t = (some (.int v), ly0, I, L, R0)) (kk : P (F_X2_sameAs_39 I L o r1 s0)) : V (zM x_X2_sameAs 1 0 0 t) 39 [(0, .ref o), (1, .ref r1)] [.int s0] ly0 I L R0 0 0 :=
  V_iret (tat ok_X2_sameAs_0 (i := 19) (q := 40) rfl rfl) _ rfl (bz_nf hs0).1 (hr s0 (jx (P := P) kk rfl)) ⟨(Nat.le_of_ble_eq_true rfl), (Nat.le_of_ble_eq_true rfl)⟩
def F_X2_sameAs_38 (I : WI) (L : WL) (o : Nat) (r1 : Nat) : Int32 :=
  (F_X2_sameAs_39 I L o r1 0)
theorem V_X2_sameAs_38  {I : WI} {L : WL} {o : Nat} {r1 : Nat}  {P : Int32 → Prop} {t : Tg} (ho : isX2 o) (hr1 : isX2 r1) (hr : ∀ v, P v → t = (some (.int v), ly0, I, L, R0)) (kk : P (F_X2_sameAs_38 I L o r1)) : V (zM x_X2_sameAs 1 0 0 t) 38 [(0, .ref o), (1, .ref r1)] [] ly0 I L R0 0 0 :=
  V_iconst (tat ok_X2_sameAs_0 (i := 18) (q := 39) rfl rfl) ic_0 <|
    V_X2_sameAs_39 ho hr1 rfl hr (jx (P := P) kk rfl)
def F_X2_sameAs (I : WI) (L : WL) (o : Nat) (r1 : Nat) : Int32 :=
  (if (I o 0) = (I r1 0) then (if (I o 1) = (I r1 1) then (if (lg_cmp (L o 2) (L r1 2)) = 0 then (F_X2_sameAs_39 I L o r1 1) else (F_X2_sameAs_38 I L o r1)) else (F_X2_sameAs_38 I L o r1)) else (F_X2_sameAs_38 I L o r1))
theorem V_X2_sameAs  {I : WI} {L : WL} {o : Nat} {r1 : Nat}  {P : Int32 → Prop} {t : Tg} (ho : isX2 o) (hr1 : isX2 r1) (hr : ∀ v, P v → t = (some (.int v), ly0, I, L, R0)) (kk : P (F_X2_sameAs I L o r1)) : V (zM x_X2_sameAs 1 0 0 t) 0 [(0, .ref o), (1, .ref r1)] [] ly0 I L R0 0 0 :=
  V_aload_n (tat ok_X2_sameAs_0 (i := 0) (q := 1) rfl rfl) 0 rfl rfl <|
    V_getI (tat ok_X2_sameAs_0 (i := 1) (q := 4) rfl rfl) fk_X2_42 ho <|
    V_aload_n (tat ok_X2_sameAs_0 (i := 2) (q := 5) rfl rfl) 1 rfl rfl <|
    V_getI (tat ok_X2_sameAs_0 (i := 3) (q := 8) rfl rfl) fk_X2_42 hr1 <|
    V_icmp_ne (tat ok_X2_sameAs_0 (i := 4) (q := 11) rfl rfl) rfl (fun c1 => V_X2_sameAs_38 ho hr1 hr (jx (P := P) kk (if_neg c1))) (fun c1 => V_aload_n (tat ok_X2_sameAs_0 (i := 5) (q := 12) rfl rfl) 0 rfl rfl <|
    V_getI (tat ok_X2_sameAs_0 (i := 6) (q := 15) rfl rfl) fk_X2_43 ho <|
    V_aload_n (tat ok_X2_sameAs_0 (i := 7) (q := 16) rfl rfl) 1 rfl rfl <|
    V_getI (tat ok_X2_sameAs_0 (i := 8) (q := 19) rfl rfl) fk_X2_43 hr1 <|
    V_icmp_ne (tat ok_X2_sameAs_0 (i := 9) (q := 22) rfl rfl) rfl (fun c2 => V_X2_sameAs_38 ho hr1 hr (jx (P := P) kk (Eq.trans (if_pos c1) (if_neg c2)))) (fun c2 => V_aload_n (tat ok_X2_sameAs_0 (i := 10) (q := 23) rfl rfl) 0 rfl rfl <|
    V_getL (tat ok_X2_sameAs_0 (i := 11) (q := 26) rfl rfl) fk_X2_34 ho <|
    V_aload_n (tat ok_X2_sameAs_0 (i := 12) (q := 27) rfl rfl) 1 rfl rfl <|
    V_getL (tat ok_X2_sameAs_0 (i := 13) (q := 30) rfl rfl) fk_X2_34 hr1 <|
    V_lcmp (tat ok_X2_sameAs_0 (i := 14) (q := 31) rfl rfl) <|
    V_if_ne (tat ok_X2_sameAs_0 (i := 15) (q := 34) rfl rfl) rfl (fun c3 => V_X2_sameAs_38 ho hr1 hr (jx (P := P) kk (Eq.trans (if_pos c1) (Eq.trans (if_pos c2) (if_neg c3))))) (fun c3 => V_iconst (tat ok_X2_sameAs_0 (i := 16) (q := 35) rfl rfl) ic_1 <|
    V_goto (tat ok_X2_sameAs_0 (i := 17) (q := 38) rfl rfl) rfl <|
    V_X2_sameAs_39 ho hr1 rfl hr (jx (P := P) kk (Eq.trans (if_pos c1) (Eq.trans (if_pos c2) (if_pos c3)))))))
theorem ct_X2_sameAs  (I : WI) (L : WL) (o : Nat) (r1 : Nat) (ho : isX2 o) (hr1 : isX2 r1) : Ct x_X2_sameAs 1 [.ref o, .ref r1] ly0 I L R0 0 0 (some (.int (F_X2_sameAs I L o r1)), ly0, I, L, R0) :=
  Ct_of_V mo_X2_sameAs.1 (Nat.le_of_ble_eq_true rfl) (V_X2_sameAs (P := fun x => x = (F_X2_sameAs I L o r1)) ho hr1 (fun _ e => by rw [e]) rfl)
def F_X3_isNothing_12 (I : WI) (o : Nat) (s0 : Int32) : Int32 :=
  s0
theorem V_X3_isNothing_12  {I : WI} {L : WL} {o : Nat} {s0 : Int32} {P : Int32 → Prop} {t : Tg} (ho : isX3 o) (hs0 : bz s0 = s0) (hr : ∀ v, P v → t = (some (.int v), ly0, I, L, R0)) (kk : P (F_X3_isNothing_12 I o s0)) : V (zM x_X3_isNothing 1 0 0 t) 12 [(0, .ref o)] [.int s0] ly0 I L R0 0 0 :=
  V_iret (tat ok_X3_isNothing_0 (i := 6) (q := 13) rfl rfl) _ rfl (bz_nf hs0).1 (hr s0 (jx (P := P) kk rfl)) ⟨(Nat.le_of_ble_eq_true rfl), (Nat.le_of_ble_eq_true rfl)⟩
def F_X3_isNothing (I : WI) (o : Nat) : Int32 :=
  (if 0 ≤ (I o 0) then (F_X3_isNothing_12 I o 0) else (F_X3_isNothing_12 I o 1))
theorem V_X3_isNothing  {I : WI} {L : WL} {o : Nat}  {P : Int32 → Prop} {t : Tg} (ho : isX3 o) (hr : ∀ v, P v → t = (some (.int v), ly0, I, L, R0)) (kk : P (F_X3_isNothing I o)) : V (zM x_X3_isNothing 1 0 0 t) 0 [(0, .ref o)] [] ly0 I L R0 0 0 :=
  V_aload_n (tat ok_X3_isNothing_0 (i := 0) (q := 1) rfl rfl) 0 rfl rfl <|
    V_getI (tat ok_X3_isNothing_0 (i := 1) (q := 4) rfl rfl) fk_X3_9 ho.1 <|
    V_if_ge (tat ok_X3_isNothing_0 (i := 2) (q := 7) rfl rfl) rfl (fun c1 => V_iconst (tat ok_X3_isNothing_0 (i := 5) (q := 12) rfl rfl) ic_0 <|
    V_X3_isNothing_12 ho rfl hr (jx (P := P) kk (if_pos c1))) (fun c1 => V_iconst (tat ok_X3_isNothing_0 (i := 3) (q := 8) rfl rfl) ic_1 <|
    V_goto (tat ok_X3_isNothing_0 (i := 4) (q := 11) rfl rfl) rfl <|
    V_X3_isNothing_12 ho rfl hr (jx (P := P) kk (if_neg c1)))
theorem ct_X3_isNothing  (I : WI) (L : WL) (o : Nat) (ho : isX3 o) : Ct x_X3_isNothing 1 [.ref o] ly0 I L R0 0 0 (some (.int (F_X3_isNothing I o)), ly0, I, L, R0) :=
  Ct_of_V mo_X3_isNothing.1 (Nat.le_of_ble_eq_true rfl) (V_X3_isNothing (P := fun x => x = (F_X3_isNothing I o)) ho (fun _ e => by rw [e]) rfl)
def F_X3_renew_21_1 (I : WI) (o : Nat) (a1 : Int32) (a2 : Int32) (a3 : Int32) : Option WI :=
  (if a3 < 0 ∨ 40 ≤ Int32.toNatClampNeg a3 then none else some (u2 I (o + 1) (Int32.toNatClampNeg a3) 0))
theorem V_X3_renew_21_1  {I : WI} {L : WL} {o : Nat} {a1 : Int32} {a2 : Int32} {a3 : Int32}  {P : WI → Prop} {t : Tg} (ho : isX3 o) (hk : ∀ x : WI, P x → V (zM x_X3_renew 1 0 0 t) 12 [(0, .ref o), (1, .int a1), (2, .int a2), (3, .int (a3 + 1))] [] ly0 x L R0 0 0) : oP P (F_X3_renew_21_1 I o a1 a2 a3) → V (zM x_X3_renew 1 0 0 t) 21 [(0, .ref o), (1, .int a1), (2, .int a2), (3, .int a3)] [] ly0 I L R0 0 0 :=
  fun _ =>
  have kq : (oP P (F_X3_renew_21_1 I o a1 a2 a3)) ∧ True := ⟨by assumption, trivial⟩
  V_aload_n (tat ok_X3_renew_0 (i := 13) (q := 22) rfl rfl) 0 rfl rfl <|
    V_getR (tat ok_X3_renew_0 (i := 14) (q := 25) rfl rfl) fk_X3_15 ho.1 ho.2.1 <|
    V_iload_n (tat ok_X3_renew_0 (i := 15) (q := 26) rfl rfl) 3 rfl rfl <|
    V_iconst (tat ok_X3_renew_0 (i := 16) (q := 27) rfl rfl) ic_0 <|
    (if c1 : a3 < 0 ∨ 40 ≤ Int32.toNatClampNeg a3 then ((jq (P := oP P) kq (if_pos c1))).elim else V_iast (tat ok_X3_renew_0 (i := 17) (q := 28) rfl rfl) ho.2.2 c1 <|
    V_iinc (v := (a3 + 1)) (lv' := [(3, .int (a3 + 1)), (0, .ref o), (1, .int a1), (2, .int a2)]) (tat ok_X3_renew_0 (i := 18) (q := 31) rfl rfl) 3 rfl (ia ic_1) (Nat.le_of_ble_eq_true rfl) rfl <|
    V_goto (tat ok_X3_renew_0 (i := 19) (q := 34) rfl rfl) rfl <|
    V_pick [1, 2, 3, 0] rfl (hk (u2 I (o + 1) (Int32.toNatClampNeg a3) 0) (jq (P := oP P) kq (if_neg c1))))
def F_X3_renew_34 (I : WI) (o : Nat) (a1 : Int32) (a2 : Int32) : Option WI :=
  some I
theorem V_X3_renew_34  {I : WI} {L : WL} {o : Nat} {a1 : Int32} {a2 : Int32}  {P : WI → Prop} {t : Tg} (ho : isX3 o) (hr : ∀ v, P v → t = (none, ly0, v, L, R0)) : oP P (F_X3_renew_34 I o a1 a2) → V (zM x_X3_renew 1 0 0 t) 34 [(0, .ref o), (1, .int a1), (2, .int a2)] [] ly0 I L R0 0 0 :=
  fun _ =>
  have kq : (oP P (F_X3_renew_34 I o a1 a2)) ∧ True := ⟨by assumption, trivial⟩
  V_vret (tat ok_X3_renew_0 (i := 20) (q := 35) rfl rfl) rfl (hr I (jq (P := oP P) kq rfl)) ⟨(Nat.le_of_ble_eq_true rfl), (Nat.le_of_ble_eq_true rfl)⟩
def F_X3_renew_12 (I : WI) (o : Nat) (a1 : Int32) (a2 : Int32) (a3 : Int32) : Option WI :=
  (frp0 (fun i x => (F_X3_renew_21_1 x o a1 a2 i)) 40 (fu a3 40) a3 I).bind (fun q => (F_X3_renew_34 (p2 q) o a1 a2))
theorem V_X3_renew_12  {I : WI} {L : WL} {o : Nat} {a1 : Int32} {a2 : Int32} {a3 : Int32} {P : WI → Prop} {t : Tg} (ho : isX3 o) (hb3 : bz a3 = a3) (hr : ∀ v, P v → t = (none, ly0, v, L, R0)) (kk : oP P (F_X3_renew_12 I o a1 a2 a3)) : V (zM x_X3_renew 1 0 0 t) 12 [(0, .ref o), (1, .int a1), (2, .int a2), (3, .int a3)] [] ly0 I L R0 0 0 :=
  V_frp0 (fun i x => (F_X3_renew_21_1 x o a1 a2 i)) 40 (fun i x => V (zM x_X3_renew 1 0 0 t) 12 [(0, .ref o), (1, .int a1), (2, .int a2), (3, .int i)] [] ly0 x L R0 0 0) (fun i x => oP P ((F_X3_renew_34 x o a1 a2))) (c := a3) (s := I) (fun i x kx kb => V_iload_n (tat ok_X3_renew_0 (i := 8) (q := 13) rfl rfl) 3 rfl rfl <|
    V_aload_n (tat ok_X3_renew_0 (i := 9) (q := 14) rfl rfl) 0 rfl rfl <|
    V_getR (tat ok_X3_renew_0 (i := 10) (q := 17) rfl rfl) fk_X3_15 ho.1 ho.2.1 <|
    V_alen (tat ok_X3_renew_0 (i := 11) (q := 18) rfl rfl) ho.2.2 ⟨by decide, by decide⟩ nl_40 <|
    V_icmp_ge (tat ok_X3_renew_0 (i := 12) (q := 21) rfl rfl) rfl (fun c0 => V_pick [0, 1, 2] rfl (V_X3_renew_34 ho hr (kx c0))) (fun c0 => V_X3_renew_21_1 (P := (fun x => (fun i x => V (zM x_X3_renew 1 0 0 t) 12 [(0, .ref o), (1, .int a1), (2, .int a2), (3, .int i)] [] ly0 x L R0 0 0) (i + 1) x)) ho (fun _ e => e) (kb c0))) (oP_bind (f := fun q => _) kk)
def F_X3_renew (I : WI) (o : Nat) (a1 : Int32) (a2 : Int32) : Option WI :=
  (F_X3_renew_12 (u2 (u2 I o 1 a1) o 0 a2) o a1 a2 0)
theorem V_X3_renew  {I : WI} {L : WL} {o : Nat} {a1 : Int32} {a2 : Int32}  {P : WI → Prop} {t : Tg} (ho : isX3 o) (hr : ∀ v, P v → t = (none, ly0, v, L, R0)) : oP P (F_X3_renew I o a1 a2) → V (zM x_X3_renew 1 0 0 t) 0 [(0, .ref o), (1, .int a1), (2, .int a2)] [] ly0 I L R0 0 0 :=
  fun _ =>
  have kq : (oP P (F_X3_renew I o a1 a2)) ∧ True := ⟨by assumption, trivial⟩
  V_aload_n (tat ok_X3_renew_0 (i := 0) (q := 1) rfl rfl) 0 rfl rfl <|
    V_iload_n (tat ok_X3_renew_0 (i := 1) (q := 2) rfl rfl) 1 rfl rfl <|
    V_putI (tat ok_X3_renew_0 (i := 2) (q := 5) rfl rfl) fk_X3_19 ho.1 rfl <|
    V_aload_n (tat ok_X3_renew_0 (i := 3) (q := 6) rfl rfl) 0 rfl rfl <|
    V_iload_n (tat ok_X3_renew_0 (i := 4) (q := 7) rfl rfl) 2 rfl rfl <|
    V_putI (tat ok_X3_renew_0 (i := 5) (q := 10) rfl rfl) fk_X3_9 ho.1 rfl <|
    V_iconst (tat ok_X3_renew_0 (i := 6) (q := 11) rfl rfl) ic_0 <|
    V_istore_n (lv' := [(3, .int 0), (0, .ref o), (1, .int a1), (2, .int a2)]) (tat ok_X3_renew_0 (i := 7) (q := 12) rfl rfl) rfl (Nat.le_of_ble_eq_true rfl) rfl <|
    V_pick [1, 2, 3, 0] rfl (V_X3_renew_12 ho rfl hr (jq (P := oP P) kq rfl))
theorem ct_X3_renew  (I : WI) (L : WL) (o : Nat) (a1 : Int32) (a2 : Int32) (ho : isX3 o) {v : WI} (h : (F_X3_renew I o a1 a2) = some v) : Ct x_X3_renew 1 [.ref o, .int a1, .int a2] ly0 I L R0 0 0 (none, ly0, v, L, R0) :=
  Ct_of_V mo_X3_renew.1 (Nat.le_of_ble_eq_true rfl) (V_X3_renew (P := fun x => x = v) ho (fun _ e => by rw [e]) (by rw [h]; exact rfl))
def F_X3_put_21 (I : WI) (o : Nat) (a1 : Int32) (a2 : Int32) : Option (Int32 × WI) :=
  some (0, I)
theorem V_X3_put_21  {I : WI} {L : WL} {o : Nat} {a1 : Int32} {a2 : Int32}  {P : (Int32 × WI) → Prop} {t : Tg} (ho : isX3 o) (hr : ∀ v, P v → t = (some (.int (p1 v)), ly0, (p2 v), L, R0)) : oP P (F_X3_put_21 I o a1 a2) → V (zM x_X3_put 1 0 0 t) 21 [(0, .ref o), (1, .int a1), (2, .int a2)] [] ly0 I L R0 0 0 :=
  fun _ =>
  have kq : (oP P (F_X3_put_21 I o a1 a2)) ∧ True := ⟨by assumption, trivial⟩
  V_iconst (tat ok_X3_put_0 (i := 11) (q := 22) rfl rfl) ic_0 <|
    V_iret (tat ok_X3_put_0 (i := 12) (q := 23) rfl rfl) _ rfl rfl (hr (0, I) (jq (P := oP P) kq rfl)) ⟨(Nat.le_of_ble_eq_true rfl), (Nat.le_of_ble_eq_true rfl)⟩
def F_X3_put_61 (I : WI) (o : Nat) (a1 : Int32) (a2 : Int32) : Option (Int32 × WI) :=
  some (1, I)
theorem V_X3_put_61  {I : WI} {L : WL} {o : Nat} {a1 : Int32} {a2 : Int32}  {P : (Int32 × WI) → Prop} {t : Tg} (ho : isX3 o) (hr : ∀ v, P v → t = (some (.int (p1 v)), ly0, (p2 v), L, R0)) : oP P (F_X3_put_61 I o a1 a2) → V (zM x_X3_put 1 0 0 t) 61 [(0, .ref o), (1, .int a1), (2, .int a2)] [] ly0 I L R0 0 0 :=
  fun _ =>
  have kq : (oP P (F_X3_put_61 I o a1 a2)) ∧ True := ⟨by assumption, trivial⟩
  V_iconst (tat ok_X3_put_0 (i := 35) (q := 62) rfl rfl) ic_1 <|
    V_iret (tat ok_X3_put_0 (i := 36) (q := 63) rfl rfl) _ rfl rfl (hr (1, I) (jq (P := oP P) kq rfl)) ⟨(Nat.le_of_ble_eq_true rfl), (Nat.le_of_ble_eq_true rfl)⟩
def F_X3_put_60 (I : WI) (o : Nat) (a1 : Int32) (a2 : Int32) (s0 : Int32) (s1 : Int32) : Option (Int32 × WI) :=
  (if s1 < 0 ∨ 40 ≤ Int32.toNatClampNeg s1 then none else (F_X3_put_61 (u2 I (o + 1) (Int32.toNatClampNeg s1) s0) o a1 a2))
theorem V_X3_put_60  {I : WI} {L : WL} {o : Nat} {a1 : Int32} {a2 : Int32} {s0 : Int32} {s1 : Int32} {P : (Int32 × WI) → Prop} {t : Tg} (ho : isX3 o) (hr : ∀ v, P v → t = (some (.int (p1 v)), ly0, (p2 v), L, R0)) : oP P (F_X3_put_60 I o a1 a2 s0 s1) → V (zM x_X3_put 1 0 0 t) 60 [(0, .ref o), (1, .int a1), (2, .int a2)] [.int s0, .int s1, .ref (o + 1)] ly0 I L R0 0 0 :=
  fun _ =>
  have kq : (oP P (F_X3_put_60 I o a1 a2 s0 s1)) ∧ True := ⟨by assumption, trivial⟩
  (if c7 : s1 < 0 ∨ 40 ≤ Int32.toNatClampNeg s1 then ((jq (P := oP P) kq (if_pos c7))).elim else V_iast (tat ok_X3_put_0 (i := 34) (q := 61) rfl rfl) ho.2.2 c7 <|
    V_X3_put_61 ho hr (jq (P := oP P) kq (if_neg c7)))
def F_X3_put (I : WI) (o : Nat) (a1 : Int32) (a2 : Int32) : Option (Int32 × WI) :=
  (if a1 < 0 then (F_X3_put_21 I o a1 a2) else (if (I o 0) ≤ a1 then (F_X3_put_21 I o a1 a2) else (if a1 < 40 then (if (I o 1) = 0 then (if a1 < 0 ∨ 40 ≤ Int32.toNatClampNeg a1 then none else (F_X3_put_61 (u2 I (o + 1) (Int32.toNatClampNeg a1) (Int8.toInt32 (Int32.toInt8 a2))) o a1 a2)) else (if (I o 1) = 1 then (F_X3_put_60 I o a1 a2 (Int16.toInt32 (Int32.toInt16 a2)) a1) else (F_X3_put_60 I o a1 a2 a2 a1))) else (F_X3_put_21 I o a1 a2))))
theorem V_X3_put  {I : WI} {L : WL} {o : Nat} {a1 : Int32} {a2 : Int32}  {P : (Int32 × WI) → Prop} {t : Tg} (ho : isX3 o) (hr : ∀ v, P v → t = (some (.int (p1 v)), ly0, (p2 v), L, R0)) : oP P (F_X3_put I o a1 a2) → V (zM x_X3_put 1 0 0 t) 0 [(0, .ref o), (1, .int a1), (2, .int a2)] [] ly0 I L R0 0 0 :=
  fun _ =>
  have kq : (oP P (F_X3_put I o a1 a2)) ∧ True := ⟨by assumption, trivial⟩
  V_iload_n (tat ok_X3_put_0 (i := 0) (q := 1) rfl rfl) 1 rfl rfl <|
    V_if_lt (tat ok_X3_put_0 (i := 1) (q := 4) rfl rfl) rfl (fun c1 => V_X3_put_21 ho hr (jq (P := oP P) kq (if_pos c1))) (fun c1 => V_iload_n (tat ok_X3_put_0 (i := 2) (q := 5) rfl rfl) 1 rfl rfl <|
    V_aload_n (tat ok_X3_put_0 (i := 3) (q := 6) rfl rfl) 0 rfl rfl <|
    V_getI (tat ok_X3_put_0 (i := 4) (q := 9) rfl rfl) fk_X3_9 ho.1 <|
    V_icmp_ge (tat ok_X3_put_0 (i := 5) (q := 12) rfl rfl) rfl (fun c2 => V_X3_put_21 ho hr (jq (P := oP P) kq (Eq.trans (if_neg c1) (if_pos c2)))) (fun c2 => V_iload_n (tat ok_X3_put_0 (i := 6) (q := 13) rfl rfl) 1 rfl rfl <|
    V_aload_n (tat ok_X3_put_0 (i := 7) (q := 14) rfl rfl) 0 rfl rfl <|
    V_getR (tat ok_X3_put_0 (i := 8) (q := 17) rfl rfl) fk_X3_15 ho.1 ho.2.1 <|
    V_alen (tat ok_X3_put_0 (i := 9) (q := 18) rfl rfl) ho.2.2 ⟨by decide, by decide⟩ nl_40 <|
    V_icmp_lt (tat ok_X3_put_0 (i := 10) (q := 21) rfl rfl) rfl (fun c3 => V_aload_n (tat ok_X3_put_0 (i := 13) (q := 24) rfl rfl) 0 rfl rfl <|
    V_getI (tat ok_X3_put_0 (i := 14) (q := 27) rfl rfl) fk_X3_19 ho.1 <|
    V_if_ne (tat ok_X3_put_0 (i := 15) (q := 30) rfl rfl) rfl (fun c4 => V_aload_n (tat ok_X3_put_0 (i := 23) (q := 42) rfl rfl) 0 rfl rfl <|
    V_getR (tat ok_X3_put_0 (i := 24) (q := 45) rfl rfl) fk_X3_15 ho.1 ho.2.1 <|
    V_iload_n (tat ok_X3_put_0 (i := 25) (q := 46) rfl rfl) 1 rfl rfl <|
    V_aload_n (tat ok_X3_put_0 (i := 26) (q := 47) rfl rfl) 0 rfl rfl <|
    V_getI (tat ok_X3_put_0 (i := 27) (q := 50) rfl rfl) fk_X3_19 ho.1 <|
    V_iconst (tat ok_X3_put_0 (i := 28) (q := 51) rfl rfl) ic_1 <|
    V_icmp_ne (tat ok_X3_put_0 (i := 29) (q := 54) rfl rfl) rfl (fun c6 => V_iload_n (tat ok_X3_put_0 (i := 33) (q := 60) rfl rfl) 2 rfl rfl <|
    V_X3_put_60 ho hr (jq (P := oP P) kq (Eq.trans (if_neg c1) (Eq.trans (if_neg c2) (Eq.trans (if_pos c3) (Eq.trans (if_neg c4) (if_neg c6))))))) (fun c6 => V_iload_n (tat ok_X3_put_0 (i := 30) (q := 55) rfl rfl) 2 rfl rfl <|
    V_i2s (tat ok_X3_put_0 (i := 31) (q := 56) rfl rfl) <|
    V_goto (tat ok_X3_put_0 (i := 32) (q := 59) rfl rfl) rfl <|
    V_X3_put_60 ho hr (jq (P := oP P) kq (Eq.trans (if_neg c1) (Eq.trans (if_neg c2) (Eq.trans (if_pos c3) (Eq.trans (if_neg c4) (if_pos c6)))))))) (fun c4 => V_aload_n (tat ok_X3_put_0 (i := 16) (q := 31) rfl rfl) 0 rfl rfl <|
    V_getR (tat ok_X3_put_0 (i := 17) (q := 34) rfl rfl) fk_X3_15 ho.1 ho.2.1 <|
    V_iload_n (tat ok_X3_put_0 (i := 18) (q := 35) rfl rfl) 1 rfl rfl <|
    V_iload_n (tat ok_X3_put_0 (i := 19) (q := 36) rfl rfl) 2 rfl rfl <|
    V_i2b (tat ok_X3_put_0 (i := 20) (q := 37) rfl rfl) <|
    (if c5 : a1 < 0 ∨ 40 ≤ Int32.toNatClampNeg a1 then ((jq (P := oP P) kq (Eq.trans (if_neg c1) (Eq.trans (if_neg c2) (Eq.trans (if_pos c3) (Eq.trans (if_pos c4) (if_pos c5))))))).elim else V_iast (tat ok_X3_put_0 (i := 21) (q := 38) rfl rfl) ho.2.2 c5 <|
    V_goto (tat ok_X3_put_0 (i := 22) (q := 41) rfl rfl) rfl <|
    V_X3_put_61 ho hr (jq (P := oP P) kq (Eq.trans (if_neg c1) (Eq.trans (if_neg c2) (Eq.trans (if_pos c3) (Eq.trans (if_pos c4) (if_neg c5))))))))) (fun c3 => V_X3_put_21 ho hr (jq (P := oP P) kq (Eq.trans (if_neg c1) (Eq.trans (if_neg c2) (if_neg c3)))))))
theorem ct_X3_put  (I : WI) (L : WL) (o : Nat) (a1 : Int32) (a2 : Int32) (ho : isX3 o) {v : (Int32 × WI)} (h : (F_X3_put I o a1 a2) = some v) : Ct x_X3_put 1 [.ref o, .int a1, .int a2] ly0 I L R0 0 0 (some (.int (p1 v)), ly0, (p2 v), L, R0) :=
  Ct_of_V mo_X3_put.1 (Nat.le_of_ble_eq_true rfl) (V_X3_put (P := fun x => x = v) ho (fun _ e => by rw [e]) (by rw [h]; exact rfl))
def F_X3_cell_31 (I : WI) (o : Nat) (a1 : Int32) (s0 : Int32) : Int32 :=
  s0
theorem V_X3_cell_31  {I : WI} {L : WL} {o : Nat} {a1 : Int32} {s0 : Int32} {P : Int32 → Prop} {t : Tg} (ho : isX3 o) (hr : ∀ v, P v → t = (some (.int v), ly0, I, L, R0)) (kk : P (F_X3_cell_31 I o a1 s0)) : V (zM x_X3_cell 1 0 0 t) 31 [(0, .ref o), (1, .int a1)] [.int s0] ly0 I L R0 0 0 :=
  V_iret (tat ok_X3_cell_0 (i := 17) (q := 32) rfl rfl) _ rfl (nar_int _) (hr s0 (jx (P := P) kk rfl)) ⟨(Nat.le_of_ble_eq_true rfl), (Nat.le_of_ble_eq_true rfl)⟩
def F_X3_cell_30 (I : WI) (o : Nat) (a1 : Int32) : Int32 :=
  (F_X3_cell_31 I o a1 0)
theorem V_X3_cell_30  {I : WI} {L : WL} {o : Nat} {a1 : Int32}  {P : Int32 → Prop} {t : Tg} (ho : isX3 o) (hr : ∀ v, P v → t = (some (.int v), ly0, I, L, R0)) (kk : P (F_X3_cell_30 I o a1)) : V (zM x_X3_cell 1 0 0 t) 30 [(0, .ref o), (1, .int a1)] [] ly0 I L R0 0 0 :=
  V_iconst (tat ok_X3_cell_0 (i := 16) (q := 31) rfl rfl) ic_0 <|
    V_X3_cell_31 ho hr (jx (P := P) kk rfl)
def F_X3_cell (I : WI) (o : Nat) (a1 : Int32) : Int32 :=
  (if a1 < 0 then (F_X3_cell_30 I o a1) else (if (I o 0) ≤ a1 then (F_X3_cell_30 I o a1) else (if 40 ≤ a1 then (F_X3_cell_30 I o a1) else (F_X3_cell_31 I o a1 (I (o + 1) (Int32.toNatClampNeg a1))))))
theorem V_X3_cell  {I : WI} {L : WL} {o : Nat} {a1 : Int32}  {P : Int32 → Prop} {t : Tg} (ho : isX3 o) (hr : ∀ v, P v → t = (some (.int v), ly0, I, L, R0)) (kk : P (F_X3_cell I o a1)) : V (zM x_X3_cell 1 0 0 t) 0 [(0, .ref o), (1, .int a1)] [] ly0 I L R0 0 0 :=
  V_iload_n (tat ok_X3_cell_0 (i := 0) (q := 1) rfl rfl) 1 rfl rfl <|
    V_if_lt (tat ok_X3_cell_0 (i := 1) (q := 4) rfl rfl) rfl (fun c1 => V_X3_cell_30 ho hr (jx (P := P) kk (if_pos c1))) (fun c1 => V_iload_n (tat ok_X3_cell_0 (i := 2) (q := 5) rfl rfl) 1 rfl rfl <|
    V_aload_n (tat ok_X3_cell_0 (i := 3) (q := 6) rfl rfl) 0 rfl rfl <|
    V_getI (tat ok_X3_cell_0 (i := 4) (q := 9) rfl rfl) fk_X3_9 ho.1 <|
    V_icmp_ge (tat ok_X3_cell_0 (i := 5) (q := 12) rfl rfl) rfl (fun c2 => V_X3_cell_30 ho hr (jx (P := P) kk (Eq.trans (if_neg c1) (if_pos c2)))) (fun c2 => V_iload_n (tat ok_X3_cell_0 (i := 6) (q := 13) rfl rfl) 1 rfl rfl <|
    V_aload_n (tat ok_X3_cell_0 (i := 7) (q := 14) rfl rfl) 0 rfl rfl <|
    V_getR (tat ok_X3_cell_0 (i := 8) (q := 17) rfl rfl) fk_X3_15 ho.1 ho.2.1 <|
    V_alen (tat ok_X3_cell_0 (i := 9) (q := 18) rfl rfl) ho.2.2 ⟨by decide, by decide⟩ nl_40 <|
    V_icmp_ge (tat ok_X3_cell_0 (i := 10) (q := 21) rfl rfl) rfl (fun c3 => V_X3_cell_30 ho hr (jx (P := P) kk (Eq.trans (if_neg c1) (Eq.trans (if_neg c2) (if_pos c3))))) (fun c3 => V_aload_n (tat ok_X3_cell_0 (i := 11) (q := 22) rfl rfl) 0 rfl rfl <|
    V_getR (tat ok_X3_cell_0 (i := 12) (q := 25) rfl rfl) fk_X3_15 ho.1 ho.2.1 <|
    V_iload_n (tat ok_X3_cell_0 (i := 13) (q := 26) rfl rfl) 1 rfl rfl <|
    V_iald (tat ok_X3_cell_0 (i := 14) (q := 27) rfl rfl) ho.2.2 (vpin ti_40 c1 c3) <|
    V_goto (tat ok_X3_cell_0 (i := 15) (q := 30) rfl rfl) rfl <|
    V_X3_cell_31 ho hr (jx (P := P) kk (Eq.trans (if_neg c1) (Eq.trans (if_neg c2) (if_neg c3)))))))
theorem ct_X3_cell  (I : WI) (L : WL) (o : Nat) (a1 : Int32) (ho : isX3 o) : Ct x_X3_cell 1 [.ref o, .int a1] ly0 I L R0 0 0 (some (.int (F_X3_cell I o a1)), ly0, I, L, R0) :=
  Ct_of_V mo_X3_cell.1 (Nat.le_of_ble_eq_true rfl) (V_X3_cell (P := fun x => x = (F_X3_cell I o a1)) ho (fun _ e => by rw [e]) rfl)
def F_X3_faultOfLane_22 (I : WI) (o : Nat) (a1 : Int32) (s0 : Int32) : Int32 :=
  s0
theorem V_X3_faultOfLane_22  {I : WI} {L : WL} {o : Nat} {a1 : Int32} {s0 : Int32} {P : Int32 → Prop} {t : Tg} (ho : isX3 o) (hr : ∀ v, P v → t = (some (.int v), ly0, I, L, R0)) (kk : P (F_X3_faultOfLane_22 I o a1 s0)) : V (zM x_X3_faultOfLane 2 0 0 t) 22 [(0, .ref o), (1, .int a1)] [.int s0] ly0 I L R0 0 0 :=
  V_iret (tat ok_X3_faultOfLane_0 (i := 12) (q := 23) rfl rfl) _ rfl (nar_int _) (hr s0 (jx (P := P) kk rfl)) ⟨(Nat.le_of_ble_eq_true rfl), (Nat.le_of_ble_eq_true rfl)⟩
def F_X3_faultOfLane (I : WI) (o : Nat) (a1 : Int32) : Int32 :=
  (if (F_X3_isNothing I o) = 0 then (if (I o 1) = a1 then (F_X3_faultOfLane_22 I o a1 0) else (F_X3_faultOfLane_22 I o a1 3)) else 1)
theorem V_X3_faultOfLane  {I : WI} {L : WL} {o : Nat} {a1 : Int32}  {P : Int32 → Prop} {t : Tg} (ho : isX3 o) (hr : ∀ v, P v → t = (some (.int v), ly0, I, L, R0)) (kk : P (F_X3_faultOfLane I o a1)) : V (zM x_X3_faultOfLane 2 0 0 t) 0 [(0, .ref o), (1, .int a1)] [] ly0 I L R0 0 0 :=
  V_aload_n (tat ok_X3_faultOfLane_0 (i := 0) (q := 1) rfl rfl) 0 rfl rfl <|
    V_cv0 (ct_X3_isNothing I L o ho) mo_X3_isNothing (tat ok_X3_faultOfLane_0 (i := 1) (q := 4) rfl rfl) ml_X3_22 ho.1 ⟨by decide, _, rfl, rfl⟩ ⟨(Nat.le_of_ble_eq_true rfl), (Nat.le_of_ble_eq_true rfl)⟩ ⟨(Nat.le_of_ble_eq_true rfl), (Nat.le_of_ble_eq_true rfl)⟩ (Nat.le_of_ble_eq_true rfl) <|
    V_if_eq (tat ok_X3_faultOfLane_0 (i := 2) (q := 7) rfl rfl) rfl (fun c1 => V_aload_n (tat ok_X3_faultOfLane_0 (i := 5) (q := 10) rfl rfl) 0 rfl rfl <|
    V_getI (tat ok_X3_faultOfLane_0 (i := 6) (q := 13) rfl rfl) fk_X3_19 ho.1 <|
    V_iload_n (tat ok_X3_faultOfLane_0 (i := 7) (q := 14) rfl rfl) 1 rfl rfl <|
    V_icmp_ne (tat ok_X3_faultOfLane_0 (i := 8) (q := 17) rfl rfl) rfl (fun c2 => V_iconst (tat ok_X3_faultOfLane_0 (i := 11) (q := 22) rfl rfl) ic_3 <|
    V_X3_faultOfLane_22 ho hr (jx (P := P) kk (Eq.trans (if_pos c1) (if_neg c2)))) (fun c2 => V_iconst (tat ok_X3_faultOfLane_0 (i := 9) (q := 18) rfl rfl) ic_0 <|
    V_goto (tat ok_X3_faultOfLane_0 (i := 10) (q := 21) rfl rfl) rfl <|
    V_X3_faultOfLane_22 ho hr (jx (P := P) kk (Eq.trans (if_pos c1) (if_pos c2))))) (fun c1 => V_iconst (tat ok_X3_faultOfLane_0 (i := 3) (q := 8) rfl rfl) ic_1 <|
    V_iret (tat ok_X3_faultOfLane_0 (i := 4) (q := 9) rfl rfl) _ rfl (nar_int _) (hr 1 (jx (P := P) kk (if_neg c1))) ⟨(Nat.le_of_ble_eq_true rfl), (Nat.le_of_ble_eq_true rfl)⟩)
theorem ct_X3_faultOfLane  (I : WI) (L : WL) (o : Nat) (a1 : Int32) (ho : isX3 o) : Ct x_X3_faultOfLane 2 [.ref o, .int a1] ly0 I L R0 0 0 (some (.int (F_X3_faultOfLane I o a1)), ly0, I, L, R0) :=
  Ct_of_V mo_X3_faultOfLane.1 (Nat.le_of_ble_eq_true rfl) (V_X3_faultOfLane (P := fun x => x = (F_X3_faultOfLane I o a1)) ho (fun _ e => by rw [e]) rfl)
def F_X3_pairsFrom_24 (I : WI) (o : Nat) (a1 : Int32) (s0 : Int32) : Int32 :=
  s0
theorem V_X3_pairsFrom_24  {I : WI} {L : WL} {o : Nat} {a1 : Int32} {s0 : Int32} {P : Int32 → Prop} {t : Tg} (ho : isX3 o) (hr : ∀ v, P v → t = (some (.int v), ly0, I, L, R0)) (kk : P (F_X3_pairsFrom_24 I o a1 s0)) : V (zM x_X3_pairsFrom 1 0 0 t) 24 [(0, .ref o), (1, .int a1)] [.int s0] ly0 I L R0 0 0 :=
  V_iret (tat ok_X3_pairsFrom_0 (i := 14) (q := 25) rfl rfl) _ rfl (nar_int _) (hr s0 (jx (P := P) kk rfl)) ⟨(Nat.le_of_ble_eq_true rfl), (Nat.le_of_ble_eq_true rfl)⟩
def F_X3_pairsFrom_23 (I : WI) (o : Nat) (a1 : Int32) : Int32 :=
  (F_X3_pairsFrom_24 I o a1 0)
theorem V_X3_pairsFrom_23  {I : WI} {L : WL} {o : Nat} {a1 : Int32}  {P : Int32 → Prop} {t : Tg} (ho : isX3 o) (hr : ∀ v, P v → t = (some (.int v), ly0, I, L, R0)) (kk : P (F_X3_pairsFrom_23 I o a1)) : V (zM x_X3_pairsFrom 1 0 0 t) 23 [(0, .ref o), (1, .int a1)] [] ly0 I L R0 0 0 :=
  V_iconst (tat ok_X3_pairsFrom_0 (i := 13) (q := 24) rfl rfl) ic_0 <|
    V_X3_pairsFrom_24 ho hr (jx (P := P) kk rfl)
def F_X3_pairsFrom (I : WI) (o : Nat) (a1 : Int32) : Int32 :=
  (if a1 < 0 then (F_X3_pairsFrom_23 I o a1) else (if (I o 0) ≤ a1 then (F_X3_pairsFrom_23 I o a1) else (F_X3_pairsFrom_24 I o a1 (((I o 0) - a1) / 2))))
theorem V_X3_pairsFrom  {I : WI} {L : WL} {o : Nat} {a1 : Int32}  {P : Int32 → Prop} {t : Tg} (ho : isX3 o) (hr : ∀ v, P v → t = (some (.int v), ly0, I, L, R0)) (kk : P (F_X3_pairsFrom I o a1)) : V (zM x_X3_pairsFrom 1 0 0 t) 0 [(0, .ref o), (1, .int a1)] [] ly0 I L R0 0 0 :=
  V_iload_n (tat ok_X3_pairsFrom_0 (i := 0) (q := 1) rfl rfl) 1 rfl rfl <|
    V_if_lt (tat ok_X3_pairsFrom_0 (i := 1) (q := 4) rfl rfl) rfl (fun c1 => V_X3_pairsFrom_23 ho hr (jx (P := P) kk (if_pos c1))) (fun c1 => V_iload_n (tat ok_X3_pairsFrom_0 (i := 2) (q := 5) rfl rfl) 1 rfl rfl <|
    V_aload_n (tat ok_X3_pairsFrom_0 (i := 3) (q := 6) rfl rfl) 0 rfl rfl <|
    V_getI (tat ok_X3_pairsFrom_0 (i := 4) (q := 9) rfl rfl) fk_X3_9 ho.1 <|
    V_icmp_ge (tat ok_X3_pairsFrom_0 (i := 5) (q := 12) rfl rfl) rfl (fun c2 => V_X3_pairsFrom_23 ho hr (jx (P := P) kk (Eq.trans (if_neg c1) (if_pos c2)))) (fun c2 => V_aload_n (tat ok_X3_pairsFrom_0 (i := 6) (q := 13) rfl rfl) 0 rfl rfl <|
    V_getI (tat ok_X3_pairsFrom_0 (i := 7) (q := 16) rfl rfl) fk_X3_9 ho.1 <|
    V_iload_n (tat ok_X3_pairsFrom_0 (i := 8) (q := 17) rfl rfl) 1 rfl rfl <|
    V_isub (tat ok_X3_pairsFrom_0 (i := 9) (q := 18) rfl rfl) <|
    V_iconst (tat ok_X3_pairsFrom_0 (i := 10) (q := 19) rfl rfl) ic_2 <|
    V_idiv (tat ok_X3_pairsFrom_0 (i := 11) (q := 20) rfl rfl) (by decide) <|
    V_goto (tat ok_X3_pairsFrom_0 (i := 12) (q := 23) rfl rfl) rfl <|
    V_X3_pairsFrom_24 ho hr (jx (P := P) kk (Eq.trans (if_neg c1) (if_neg c2)))))
theorem ct_X3_pairsFrom  (I : WI) (L : WL) (o : Nat) (a1 : Int32) (ho : isX3 o) : Ct x_X3_pairsFrom 1 [.ref o, .int a1] ly0 I L R0 0 0 (some (.int (F_X3_pairsFrom I o a1)), ly0, I, L, R0) :=
  Ct_of_V mo_X3_pairsFrom.1 (Nat.le_of_ble_eq_true rfl) (V_X3_pairsFrom (P := fun x => x = (F_X3_pairsFrom I o a1)) ho (fun _ e => by rw [e]) rfl)
def F_X4_cellsOf_26 (I : WI) (a1 : Int32) (s0 : Int32) : Int32 :=
  s0
theorem V_X4_cellsOf_26  {I : WI} {L : WL} {a1 : Int32} {s0 : Int32} {P : Int32 → Prop} {t : Tg} (hr : ∀ v, P v → t = (some (.int v), ly0, I, L, R0)) (kk : P (F_X4_cellsOf_26 I a1 s0)) : V (zM x_X4_cellsOf 2 0 0 t) 26 [(0, .ref 17), (1, .int a1)] [.int s0] ly0 I L R0 0 0 :=
  V_iret (tat ok_X4_cellsOf_0 (i := 13) (q := 27) rfl rfl) _ rfl (nar_int _) (hr s0 (jx (P := P) kk rfl)) ⟨(Nat.le_of_ble_eq_true rfl), (Nat.le_of_ble_eq_true rfl)⟩
def F_X4_cellsOf_17 (I : WI) (a1 : Int32) : Int32 :=
  (F_X4_cellsOf_26 I a1 (-4))
theorem V_X4_cellsOf_17  {I : WI} {L : WL} {a1 : Int32}  {P : Int32 → Prop} {t : Tg} (hr : ∀ v, P v → t = (some (.int v), ly0, I, L, R0)) (kk : P (F_X4_cellsOf_17 I a1)) : V (zM x_X4_cellsOf 2 0 0 t) 17 [(0, .ref 17), (1, .int a1)] [] ly0 I L R0 0 0 :=
  V_bipush (tat ok_X4_cellsOf_0 (i := 9) (q := 19) rfl rfl) bp_m4 <|
    V_goto (tat ok_X4_cellsOf_0 (i := 10) (q := 22) rfl rfl) rfl <|
    V_X4_cellsOf_26  hr (jx (P := P) kk rfl)
def F_X4_cellsOf (I : WI) (a1 : Int32) : Int32 :=
  (if ¬ (a1 < 0 ∨ 4 ≤ Int32.toNatClampNeg a1) then (if (F_X3_isNothing I (sid a1)) = 0 then (F_X4_cellsOf_26 I a1 (I (sid a1) 0)) else (F_X4_cellsOf_17 I a1)) else (F_X4_cellsOf_17 I a1))
theorem V_X4_cellsOf  {I : WI} {L : WL} {a1 : Int32}  {P : Int32 → Prop} {t : Tg} (hr : ∀ v, P v → t = (some (.int v), ly0, I, L, R0)) (kk : P (F_X4_cellsOf I a1)) : V (zM x_X4_cellsOf 2 0 0 t) 0 [(0, .ref 17), (1, .int a1)] [] ly0 I L R0 0 0 :=
  V_aload_n (tat ok_X4_cellsOf_0 (i := 0) (q := 1) rfl rfl) 0 rfl rfl <|
    V_iload_n (tat ok_X4_cellsOf_0 (i := 1) (q := 2) rfl rfl) 1 rfl rfl <|
    (if c1 : ¬ (a1 < 0 ∨ 4 ≤ Int32.toNatClampNeg a1) then V_cv1 (ct_at1 I L a1 c1) mo_X4_at (tat ok_X4_cellsOf_0 (i := 2) (q := 5) rfl rfl) ml_X4_18 rfl ⟨by decide, _, rfl, rfl⟩ ⟨(Nat.le_of_ble_eq_true rfl), (Nat.le_of_ble_eq_true rfl)⟩ ⟨(Nat.le_of_ble_eq_true rfl), (Nat.le_of_ble_eq_true rfl)⟩ (Nat.le_of_ble_eq_true rfl) <|
    V_astore_n (lv' := [(2, .ref (sid a1)), (0, .ref 17), (1, .int a1)]) (tat ok_X4_cellsOf_0 (i := 3) (q := 6) rfl rfl) rfl (isX3_lt (isX3_sid c1)) (Nat.le_of_ble_eq_true rfl) rfl <|
    V_aload_n (tat ok_X4_cellsOf_0 (i := 4) (q := 7) rfl rfl) 0 rfl rfl <|
    V_ifnull (tat ok_X4_cellsOf_0 (i := 5) (q := 10) rfl rfl) (isX3_lt (isX3_sid c1)) <|
    V_aload_n (tat ok_X4_cellsOf_0 (i := 6) (q := 11) rfl rfl) 0 rfl rfl <|
    V_cv0 (ct_X3_isNothing I L (sid a1) (isX3_sid c1)) mo_X3_isNothing (tat ok_X4_cellsOf_0 (i := 7) (q := 14) rfl rfl) ml_X4_22 (isX3_sid c1).1 ⟨by decide, _, rfl, rfl⟩ ⟨(Nat.le_of_ble_eq_true rfl), (Nat.le_of_ble_eq_true rfl)⟩ ⟨(Nat.le_of_ble_eq_true rfl), (Nat.le_of_ble_eq_true rfl)⟩ (Nat.le_of_ble_eq_true rfl) <|
    V_if_eq (tat ok_X4_cellsOf_0 (i := 8) (q := 17) rfl rfl) rfl (fun c2 => V_aload_n (tat ok_X4_cellsOf_0 (i := 11) (q := 23) rfl rfl) 0 rfl rfl <|
    V_getI (tat ok_X4_cellsOf_0 (i := 12) (q := 26) rfl rfl) fk_X4_26 (isX3_sid c1).1 <|
    V_pick [1, 2] rfl (V_X4_cellsOf_26  hr (jx (P := P) kk (Eq.trans (if_pos c1) (if_pos c2))))) (fun c2 => V_pick [1, 2] rfl (V_X4_cellsOf_17  hr (jx (P := P) kk (Eq.trans (if_pos c1) (if_neg c2))))) else V_cv1 (ct_atN I L a1 c1) mo_X4_at (tat ok_X4_cellsOf_0 (i := 2) (q := 5) rfl rfl) ml_X4_18 rfl ⟨by decide, _, rfl, rfl⟩ ⟨(Nat.le_of_ble_eq_true rfl), (Nat.le_of_ble_eq_true rfl)⟩ ⟨(Nat.le_of_ble_eq_true rfl), (Nat.le_of_ble_eq_true rfl)⟩ (Nat.le_of_ble_eq_true rfl) <|
    V_astoreN_n (lv' := [(2, .null), (0, .ref 17), (1, .int a1)]) (tat ok_X4_cellsOf_0 (i := 3) (q := 6) rfl rfl) rfl (Nat.le_of_ble_eq_true rfl) rfl <|
    V_aloadN_n (tat ok_X4_cellsOf_0 (i := 4) (q := 7) rfl rfl) 0 rfl rfl <|
    V_ifnullN (tat ok_X4_cellsOf_0 (i := 5) (q := 10) rfl rfl) rfl <|
    V_pick [1, 2] rfl (V_X4_cellsOf_17  hr (jx (P := P) kk (if_neg c1))))
theorem ct_X4_cellsOf  (I : WI) (L : WL) (a1 : Int32)  : Ct x_X4_cellsOf 2 [.ref 17, .int a1] ly0 I L R0 0 0 (some (.int (F_X4_cellsOf I a1)), ly0, I, L, R0) :=
  Ct_of_V mo_X4_cellsOf.1 (Nat.le_of_ble_eq_true rfl) (V_X4_cellsOf (P := fun x => x = (F_X4_cellsOf I a1))  (fun _ e => by rw [e]) rfl)
def F_X5_add_17 (I : WI) (a1 : Int64) : (Int32 × WI) :=
  (0, I)
theorem V_X5_add_17  {I : WI} {L : WL} {a1 : Int64}  {P : (Int32 × WI) → Prop} {t : Tg} (hr : ∀ v, P v → t = (some (.int (p1 v)), ly0, (p2 v), L, R0)) (kk : P (F_X5_add_17 I a1)) : V (zM x_X5_add 1 0 0 t) 17 [(0, .ref 9), (1, .long a1)] [] ly0 I L R0 0 0 :=
  V_iconst (tat ok_X5_add_0 (i := 7) (q := 18) rfl rfl) ic_0 <|
    V_iret (tat ok_X5_add_0 (i := 8) (q := 19) rfl rfl) _ rfl rfl (hr (0, I) (jx (P := P) kk rfl)) ⟨(Nat.le_of_ble_eq_true rfl), (Nat.le_of_ble_eq_true rfl)⟩
def F_X5_add_68_1 (I : WI) (a1 : Int64) (a3 : Int32) : WI :=
  I
theorem V_X5_add_68_1  {I : WI} {L : WL} {a1 : Int64} {a3 : Int32}  {P : WI → Prop} {t : Tg} (hk : ∀ x : WI, P x → V (zM x_X5_add 1 0 0 t) 21 [(0, .ref 9), (1, .long a1), (3, .int (a3 + 1))] [] ly0 x L R0 0 0) (kk : P (F_X5_add_68_1 I a1 a3)) : V (zM x_X5_add 1 0 0 t) 68 [(0, .ref 9), (1, .long a1), (3, .int a3)] [] ly0 I L R0 0 0 :=
  V_iinc (v := (a3 + 1)) (lv' := [(3, .int (a3 + 1)), (0, .ref 9), (1, .long a1)]) (tat ok_X5_add_0 (i := 39) (q := 71) rfl rfl) 2 rfl (ia ic_1) (Nat.le_of_ble_eq_true rfl) rfl <|
    V_goto (tat ok_X5_add_1 (i := 0) (q := 74) rfl rfl) rfl <|
    V_pick [1, 2, 0] rfl (hk I (jx (P := P) kk rfl))
def F_X5_add_27_1 (I : WI) (a1 : Int64) (a3 : Int32) : WI :=
  (if ((I 9 0) + a3) < 0 then (F_X5_add_68_1 I a1 a3) else (if 320 ≤ ((I 9 0) + a3) then (F_X5_add_68_1 I a1 a3) else (F_X5_add_68_1 (u2 I 10 (Int32.toNatClampNeg ((I 9 0) + a3)) (Int8.toInt32 (Int32.toInt8 (Int8.toInt32 (Int32.toInt8 (Int64.toInt32 (lsr a1 (56 - (8 * a3))))))))) a1 a3)))
theorem V_X5_add_27_1  {I : WI} {L : WL} {a1 : Int64} {a3 : Int32}  {P : WI → Prop} {t : Tg} (hk : ∀ x : WI, P x → V (zM x_X5_add 1 0 0 t) 21 [(0, .ref 9), (1, .long a1), (3, .int (a3 + 1))] [] ly0 x L R0 0 0) (kk : P (F_X5_add_27_1 I a1 a3)) : V (zM x_X5_add 1 0 0 t) 27 [(0, .ref 9), (1, .long a1), (3, .int a3)] [] ly0 I L R0 0 0 :=
  V_aload_n (tat ok_X5_add_0 (i := 14) (q := 28) rfl rfl) 0 rfl rfl <|
    V_getI (tat ok_X5_add_0 (i := 15) (q := 31) rfl rfl) fk_X5_13 rfl <|
    V_iload_n (tat ok_X5_add_0 (i := 16) (q := 32) rfl rfl) 2 rfl rfl <|
    V_iadd (tat ok_X5_add_0 (i := 17) (q := 33) rfl rfl) <|
    V_istore (lv' := [(4, .int ((I 9 0) + a3)), (0, .ref 9), (1, .long a1), (3, .int a3)]) (tat ok_X5_add_0 (i := 18) (q := 35) rfl rfl) (Nat.le_of_ble_eq_true rfl) rfl <|
    V_iload (tat ok_X5_add_0 (i := 19) (q := 37) rfl rfl) 0 rfl <|
    V_if_lt (tat ok_X5_add_0 (i := 20) (q := 40) rfl rfl) rfl (fun c3 => V_pick [1, 2, 3] rfl (V_X5_add_68_1  hk (jx (P := P) kk (if_pos c3)))) (fun c3 => V_iload (tat ok_X5_add_0 (i := 21) (q := 42) rfl rfl) 0 rfl <|
    V_aload_n (tat ok_X5_add_0 (i := 22) (q := 43) rfl rfl) 1 rfl rfl <|
    V_getR (tat ok_X5_add_0 (i := 23) (q := 46) rfl rfl) fk_X5_9 rfl rfl <|
    V_alen (tat ok_X5_add_0 (i := 24) (q := 47) rfl rfl) rfl ⟨by decide, by decide⟩ nl_320 <|
    V_icmp_ge (tat ok_X5_add_0 (i := 25) (q := 50) rfl rfl) rfl (fun c4 => V_pick [1, 2, 3] rfl (V_X5_add_68_1  hk (jx (P := P) kk (Eq.trans (if_neg c3) (if_pos c4))))) (fun c4 => V_aload_n (tat ok_X5_add_0 (i := 26) (q := 51) rfl rfl) 1 rfl rfl <|
    V_getR (tat ok_X5_add_0 (i := 27) (q := 54) rfl rfl) fk_X5_9 rfl rfl <|
    V_iload (tat ok_X5_add_0 (i := 28) (q := 56) rfl rfl) 0 rfl <|
    V_lload_n (tat ok_X5_add_0 (i := 29) (q := 57) rfl rfl) 2 rfl rfl <|
    V_bipush (tat ok_X5_add_0 (i := 30) (q := 59) rfl rfl) bp_56 <|
    V_bipush (tat ok_X5_add_0 (i := 31) (q := 61) rfl rfl) bp_8 <|
    V_iload_n (tat ok_X5_add_0 (i := 32) (q := 62) rfl rfl) 3 rfl rfl <|
    V_imul (tat ok_X5_add_0 (i := 33) (q := 63) rfl rfl) <|
    V_isub (tat ok_X5_add_0 (i := 34) (q := 64) rfl rfl) <|
    V_lshr (tat ok_X5_add_0 (i := 35) (q := 65) rfl rfl) <|
    V_l2i (tat ok_X5_add_0 (i := 36) (q := 66) rfl rfl) <|
    V_i2b (tat ok_X5_add_0 (i := 37) (q := 67) rfl rfl) <|
    V_bast (tat ok_X5_add_0 (i := 38) (q := 68) rfl rfl) rfl (vpin ti_320 c3 c4) <|
    V_pick [1, 2, 3] rfl (V_X5_add_68_1  hk (jx (P := P) kk (Eq.trans (if_neg c3) (if_neg c4))))))
def F_X5_add_74 (I : WI) (a1 : Int64) : (Int32 × WI) :=
  (1, (u2 I 9 0 ((I 9 0) + 8)))
theorem V_X5_add_74  {I : WI} {L : WL} {a1 : Int64}  {P : (Int32 × WI) → Prop} {t : Tg} (hr : ∀ v, P v → t = (some (.int (p1 v)), ly0, (p2 v), L, R0)) (kk : P (F_X5_add_74 I a1)) : V (zM x_X5_add 1 0 0 t) 74 [(0, .ref 9), (1, .long a1)] [] ly0 I L R0 0 0 :=
  V_aload_n (tat ok_X5_add_1 (i := 1) (q := 75) rfl rfl) 0 rfl rfl <|
    V_dup (tat ok_X5_add_1 (i := 2) (q := 76) rfl rfl) rfl <|
    V_getI (tat ok_X5_add_1 (i := 3) (q := 79) rfl rfl) fk_X5_13 rfl <|
    V_bipush (tat ok_X5_add_1 (i := 4) (q := 81) rfl rfl) bp_8 <|
    V_iadd (tat ok_X5_add_1 (i := 5) (q := 82) rfl rfl) <|
    V_putI (tat ok_X5_add_1 (i := 6) (q := 85) rfl rfl) fk_X5_13 rfl rfl <|
    V_iconst (tat ok_X5_add_1 (i := 7) (q := 86) rfl rfl) ic_1 <|
    V_iret (tat ok_X5_add_1 (i := 8) (q := 87) rfl rfl) _ rfl rfl (hr (1, (u2 I 9 0 ((I 9 0) + 8))) (jx (P := P) kk rfl)) ⟨(Nat.le_of_ble_eq_true rfl), (Nat.le_of_ble_eq_true rfl)⟩
def F_X5_add_21 (I : WI) (a1 : Int64) (a3 : Int32) : (Int32 × WI) :=
  (fun q : Int32 × WI => (F_X5_add_74 (p2 q) a1)) (fr0 (fun i x => (F_X5_add_27_1 x a1 i)) 8 (fu a3 8) a3 I)
theorem V_X5_add_21  {I : WI} {L : WL} {a1 : Int64} {a3 : Int32} {P : (Int32 × WI) → Prop} {t : Tg} (hb3 : bz a3 = a3) (hr : ∀ v, P v → t = (some (.int (p1 v)), ly0, (p2 v), L, R0)) (kk : P (F_X5_add_21 I a1 a3)) : V (zM x_X5_add 1 0 0 t) 21 [(0, .ref 9), (1, .long a1), (3, .int a3)] [] ly0 I L R0 0 0 :=
  V_fr0 (fun i x => (F_X5_add_27_1 x a1 i)) 8 (fun i x => V (zM x_X5_add 1 0 0 t) 21 [(0, .ref 9), (1, .long a1), (3, .int i)] [] ly0 x L R0 0 0) (fun i x => P ((F_X5_add_74 x a1))) (c := a3) (s := I) (fun i x kx kb => V_iload_n (tat ok_X5_add_0 (i := 11) (q := 22) rfl rfl) 2 rfl rfl <|
    V_bipush (tat ok_X5_add_0 (i := 12) (q := 24) rfl rfl) bp_8 <|
    V_icmp_ge (tat ok_X5_add_0 (i := 13) (q := 27) rfl rfl) rfl (fun c0 => V_pick [0, 1] rfl (V_X5_add_74  hr (kx c0))) (fun c0 => V_X5_add_27_1 (P := (fun x => (fun i x => V (zM x_X5_add 1 0 0 t) 21 [(0, .ref 9), (1, .long a1), (3, .int i)] [] ly0 x L R0 0 0) (i + 1) x))  (fun _ e => e) (kb c0))) kk
def F_X5_add (I : WI) (a1 : Int64) : (Int32 × WI) :=
  (if (I 9 0) < 0 then (F_X5_add_17 I a1) else (if (I 9 0) ≤ 312 then (F_X5_add_21 I a1 0) else (F_X5_add_17 I a1)))
theorem V_X5_add  {I : WI} {L : WL} {a1 : Int64}  {P : (Int32 × WI) → Prop} {t : Tg} (hr : ∀ v, P v → t = (some (.int (p1 v)), ly0, (p2 v), L, R0)) (kk : P (F_X5_add I a1)) : V (zM x_X5_add 1 0 0 t) 0 [(0, .ref 9), (1, .long a1)] [] ly0 I L R0 0 0 :=
  V_aload_n (tat ok_X5_add_0 (i := 0) (q := 1) rfl rfl) 0 rfl rfl <|
    V_getI (tat ok_X5_add_0 (i := 1) (q := 4) rfl rfl) fk_X5_13 rfl <|
    V_if_lt (tat ok_X5_add_0 (i := 2) (q := 7) rfl rfl) rfl (fun c1 => V_X5_add_17  hr (jx (P := P) kk (if_pos c1))) (fun c1 => V_aload_n (tat ok_X5_add_0 (i := 3) (q := 8) rfl rfl) 0 rfl rfl <|
    V_getI (tat ok_X5_add_0 (i := 4) (q := 11) rfl rfl) fk_X5_13 rfl <|
    V_sipush (tat ok_X5_add_0 (i := 5) (q := 14) rfl rfl) sp_312 <|
    V_icmp_le (tat ok_X5_add_0 (i := 6) (q := 17) rfl rfl) rfl (fun c2 => V_iconst (tat ok_X5_add_0 (i := 9) (q := 20) rfl rfl) ic_0 <|
    V_istore_n (lv' := [(3, .int 0), (0, .ref 9), (1, .long a1)]) (tat ok_X5_add_0 (i := 10) (q := 21) rfl rfl) rfl (Nat.le_of_ble_eq_true rfl) rfl <|
    V_pick [1, 2, 0] rfl (V_X5_add_21 rfl hr (jx (P := P) kk (Eq.trans (if_neg c1) (if_pos c2))))) (fun c2 => V_X5_add_17  hr (jx (P := P) kk (Eq.trans (if_neg c1) (if_neg c2)))))
theorem ct_X5_add  (I : WI) (L : WL) (a1 : Int64)  : Ct x_X5_add 1 [.ref 9, .long a1] ly0 I L R0 0 0 (some (.int (p1 (F_X5_add I a1))), ly0, (p2 (F_X5_add I a1)), L, R0) :=
  Ct_of_V mo_X5_add.1 (Nat.le_of_ble_eq_true rfl) (V_X5_add (P := fun x => x = (F_X5_add I a1))  (fun _ e => by rw [e]) rfl)
def F_X5_byteAt_31 (I : WI) (a1 : Int32) (s0 : Int32) : Int32 :=
  s0
theorem V_X5_byteAt_31  {I : WI} {L : WL} {a1 : Int32} {s0 : Int32} {P : Int32 → Prop} {t : Tg} (hr : ∀ v, P v → t = (some (.int v), ly0, I, L, R0)) (kk : P (F_X5_byteAt_31 I a1 s0)) : V (zM x_X5_byteAt 1 0 0 t) 31 [(0, .ref 9), (1, .int a1)] [.int s0] ly0 I L R0 0 0 :=
  V_iret (tat ok_X5_byteAt_0 (i := 17) (q := 32) rfl rfl) _ rfl (nar_int _) (hr s0 (jx (P := P) kk rfl)) ⟨(Nat.le_of_ble_eq_true rfl), (Nat.le_of_ble_eq_true rfl)⟩
def F_X5_byteAt_30 (I : WI) (a1 : Int32) : Int32 :=
  (F_X5_byteAt_31 I a1 0)
theorem V_X5_byteAt_30  {I : WI} {L : WL} {a1 : Int32}  {P : Int32 → Prop} {t : Tg} (hr : ∀ v, P v → t = (some (.int v), ly0, I, L, R0)) (kk : P (F_X5_byteAt_30 I a1)) : V (zM x_X5_byteAt 1 0 0 t) 30 [(0, .ref 9), (1, .int a1)] [] ly0 I L R0 0 0 :=
  V_iconst (tat ok_X5_byteAt_0 (i := 16) (q := 31) rfl rfl) ic_0 <|
    V_X5_byteAt_31  hr (jx (P := P) kk rfl)
def F_X5_byteAt (I : WI) (a1 : Int32) : Int32 :=
  (if a1 < 0 then (F_X5_byteAt_30 I a1) else (if (I 9 0) ≤ a1 then (F_X5_byteAt_30 I a1) else (if 320 ≤ a1 then (F_X5_byteAt_30 I a1) else (F_X5_byteAt_31 I a1 (I 10 (Int32.toNatClampNeg a1))))))
theorem V_X5_byteAt  {I : WI} {L : WL} {a1 : Int32}  {P : Int32 → Prop} {t : Tg} (hr : ∀ v, P v → t = (some (.int v), ly0, I, L, R0)) (kk : P (F_X5_byteAt I a1)) : V (zM x_X5_byteAt 1 0 0 t) 0 [(0, .ref 9), (1, .int a1)] [] ly0 I L R0 0 0 :=
  V_iload_n (tat ok_X5_byteAt_0 (i := 0) (q := 1) rfl rfl) 1 rfl rfl <|
    V_if_lt (tat ok_X5_byteAt_0 (i := 1) (q := 4) rfl rfl) rfl (fun c1 => V_X5_byteAt_30  hr (jx (P := P) kk (if_pos c1))) (fun c1 => V_iload_n (tat ok_X5_byteAt_0 (i := 2) (q := 5) rfl rfl) 1 rfl rfl <|
    V_aload_n (tat ok_X5_byteAt_0 (i := 3) (q := 6) rfl rfl) 0 rfl rfl <|
    V_getI (tat ok_X5_byteAt_0 (i := 4) (q := 9) rfl rfl) fk_X5_13 rfl <|
    V_icmp_ge (tat ok_X5_byteAt_0 (i := 5) (q := 12) rfl rfl) rfl (fun c2 => V_X5_byteAt_30  hr (jx (P := P) kk (Eq.trans (if_neg c1) (if_pos c2)))) (fun c2 => V_iload_n (tat ok_X5_byteAt_0 (i := 6) (q := 13) rfl rfl) 1 rfl rfl <|
    V_aload_n (tat ok_X5_byteAt_0 (i := 7) (q := 14) rfl rfl) 0 rfl rfl <|
    V_getR (tat ok_X5_byteAt_0 (i := 8) (q := 17) rfl rfl) fk_X5_9 rfl rfl <|
    V_alen (tat ok_X5_byteAt_0 (i := 9) (q := 18) rfl rfl) rfl ⟨by decide, by decide⟩ nl_320 <|
    V_icmp_ge (tat ok_X5_byteAt_0 (i := 10) (q := 21) rfl rfl) rfl (fun c3 => V_X5_byteAt_30  hr (jx (P := P) kk (Eq.trans (if_neg c1) (Eq.trans (if_neg c2) (if_pos c3))))) (fun c3 => V_aload_n (tat ok_X5_byteAt_0 (i := 11) (q := 22) rfl rfl) 0 rfl rfl <|
    V_getR (tat ok_X5_byteAt_0 (i := 12) (q := 25) rfl rfl) fk_X5_9 rfl rfl <|
    V_iload_n (tat ok_X5_byteAt_0 (i := 13) (q := 26) rfl rfl) 1 rfl rfl <|
    V_bald (tat ok_X5_byteAt_0 (i := 14) (q := 27) rfl rfl) rfl (vpin ti_320 c1 c3) <|
    V_goto (tat ok_X5_byteAt_0 (i := 15) (q := 30) rfl rfl) rfl <|
    V_X5_byteAt_31  hr (jx (P := P) kk (Eq.trans (if_neg c1) (Eq.trans (if_neg c2) (if_neg c3)))))))
theorem ct_X5_byteAt  (I : WI) (L : WL) (a1 : Int32)  : Ct x_X5_byteAt 1 [.ref 9, .int a1] ly0 I L R0 0 0 (some (.int (F_X5_byteAt I a1)), ly0, I, L, R0) :=
  Ct_of_V mo_X5_byteAt.1 (Nat.le_of_ble_eq_true rfl) (V_X5_byteAt (P := fun x => x = (F_X5_byteAt I a1))  (fun _ e => by rw [e]) rfl)
def F_X7_acts (I : WI) : Int32 :=
  (((F_J6_bitCount_0f7a4 (I 27 1)) + (F_J6_bitCount_0f7a4 (I 27 2))) + (F_J6_bitCount_0f7a4 (I 27 3)))
theorem V_X7_acts  {I : WI} {L : WL}   {P : Int32 → Prop} {t : Tg} (hr : ∀ v, P v → t = (some (.int v), ly0, I, L, R0)) (kk : P (F_X7_acts I)) : V (zM x_X7_acts 2 0 0 t) 0 [(0, .ref 27)] [] ly0 I L R0 0 0 :=
  V_aload_n (tat ok_X7_acts_0 (i := 0) (q := 1) rfl rfl) 0 rfl rfl <|
    V_getI (tat ok_X7_acts_0 (i := 1) (q := 4) rfl rfl) fk_X7_18 rfl <|
    V_cs1 (ct_J6_bitCount_0f7a4 I L (I 27 1) ) mo_J6_bitCount_0f7a4 (tat ok_X7_acts_0 (i := 2) (q := 7) rfl rfl) ml_X7_22 ⟨(Nat.le_of_ble_eq_true rfl), (Nat.le_of_ble_eq_true rfl)⟩ ⟨(Nat.le_of_ble_eq_true rfl), (Nat.le_of_ble_eq_true rfl)⟩ (Nat.le_of_ble_eq_true rfl) <|
    V_aload_n (tat ok_X7_acts_0 (i := 3) (q := 8) rfl rfl) 0 rfl rfl <|
    V_getI (tat ok_X7_acts_0 (i := 4) (q := 11) rfl rfl) fk_X7_28 rfl <|
    V_cs1 (ct_J6_bitCount_0f7a4 I L (I 27 2) ) mo_J6_bitCount_0f7a4 (tat ok_X7_acts_0 (i := 5) (q := 14) rfl rfl) ml_X7_22 ⟨(Nat.le_of_ble_eq_true rfl), (Nat.le_of_ble_eq_true rfl)⟩ ⟨(Nat.le_of_ble_eq_true rfl), (Nat.le_of_ble_eq_true rfl)⟩ (Nat.le_of_ble_eq_true rfl) <|
    V_iadd (tat ok_X7_acts_0 (i := 6) (q := 15) rfl rfl) <|
    V_aload_n (tat ok_X7_acts_0 (i := 7) (q := 16) rfl rfl) 0 rfl rfl <|
    V_getI (tat ok_X7_acts_0 (i := 8) (q := 19) rfl rfl) fk_X7_31 rfl <|
    V_cs1 (ct_J6_bitCount_0f7a4 I L (I 27 3) ) mo_J6_bitCount_0f7a4 (tat ok_X7_acts_0 (i := 9) (q := 22) rfl rfl) ml_X7_22 ⟨(Nat.le_of_ble_eq_true rfl), (Nat.le_of_ble_eq_true rfl)⟩ ⟨(Nat.le_of_ble_eq_true rfl), (Nat.le_of_ble_eq_true rfl)⟩ (Nat.le_of_ble_eq_true rfl) <|
    V_iadd (tat ok_X7_acts_0 (i := 10) (q := 23) rfl rfl) <|
    V_iret (tat ok_X7_acts_0 (i := 11) (q := 24) rfl rfl) _ rfl (nar_int _) (hr (((F_J6_bitCount_0f7a4 (I 27 1)) + (F_J6_bitCount_0f7a4 (I 27 2))) + (F_J6_bitCount_0f7a4 (I 27 3))) (jx (P := P) kk rfl)) ⟨(Nat.le_of_ble_eq_true rfl), (Nat.le_of_ble_eq_true rfl)⟩
theorem ct_X7_acts  (I : WI) (L : WL)  : Ct x_X7_acts 2 [.ref 27] ly0 I L R0 0 0 (some (.int (F_X7_acts I)), ly0, I, L, R0) :=
  Ct_of_V mo_X7_acts.1 (Nat.le_of_ble_eq_true rfl) (V_X7_acts (P := fun x => x = (F_X7_acts I))  (fun _ e => by rw [e]) rfl)
def F_X7_take (I : WI) (a1 : Int32) (a2 : Int32) (a3 : Int32) : WI :=
  (u2 (u2 (u2 I 27 1 a1) 27 2 a2) 27 3 a3)
theorem V_X7_take  {I : WI} {L : WL} {a1 : Int32} {a2 : Int32} {a3 : Int32}  {P : WI → Prop} {t : Tg} (hr : ∀ v, P v → t = (none, ly0, v, L, R0)) (kk : P (F_X7_take I a1 a2 a3)) : V (zM x_X7_take 1 0 0 t) 0 [(0, .ref 27), (1, .int a1), (2, .int a2), (3, .int a3)] [] ly0 I L R0 0 0 :=
  V_aload_n (tat ok_X7_take_0 (i := 0) (q := 1) rfl rfl) 0 rfl rfl <|
    V_iload_n (tat ok_X7_take_0 (i := 1) (q := 2) rfl rfl) 1 rfl rfl <|
    V_putI (tat ok_X7_take_0 (i := 2) (q := 5) rfl rfl) fk_X7_18 rfl rfl <|
    V_aload_n (tat ok_X7_take_0 (i := 3) (q := 6) rfl rfl) 0 rfl rfl <|
    V_iload_n (tat ok_X7_take_0 (i := 4) (q := 7) rfl rfl) 2 rfl rfl <|
    V_putI (tat ok_X7_take_0 (i := 5) (q := 10) rfl rfl) fk_X7_28 rfl rfl <|
    V_aload_n (tat ok_X7_take_0 (i := 6) (q := 11) rfl rfl) 0 rfl rfl <|
    V_iload_n (tat ok_X7_take_0 (i := 7) (q := 12) rfl rfl) 3 rfl rfl <|
    V_putI (tat ok_X7_take_0 (i := 8) (q := 15) rfl rfl) fk_X7_31 rfl rfl <|
    V_vret (tat ok_X7_take_0 (i := 9) (q := 16) rfl rfl) rfl (hr (u2 (u2 (u2 I 27 1 a1) 27 2 a2) 27 3 a3) (jx (P := P) kk rfl)) ⟨(Nat.le_of_ble_eq_true rfl), (Nat.le_of_ble_eq_true rfl)⟩
theorem ct_X7_take  (I : WI) (L : WL) (a1 : Int32) (a2 : Int32) (a3 : Int32)  : Ct x_X7_take 1 [.ref 27, .int a1, .int a2, .int a3] ly0 I L R0 0 0 (none, ly0, (F_X7_take I a1 a2 a3), L, R0) :=
  Ct_of_V mo_X7_take.1 (Nat.le_of_ble_eq_true rfl) (V_X7_take (P := fun x => x = (F_X7_take I a1 a2 a3))  (fun _ e => by rw [e]) rfl)
def F_X7_findPlan_104 (I : WI) (r1 : Nat) (a2 : Int64) : WI :=
  I
theorem V_X7_findPlan_104  {I : WI} {L : WL} {r1 : Nat} {a2 : Int64}  {P : WI → Prop} {t : Tg} (hr1 : isX0 r1) (hr : ∀ v, P v → t = (none, ly0, v, L, R0)) (kk : P (F_X7_findPlan_104 I r1 a2)) : V (zM x_X7_findPlan 6 0 0 t) 104 [(0, .ref 27), (1, .ref r1), (2, .long a2)] [] ly0 I L R0 0 0 :=
  V_vret (tat ok_X7_findPlan_1 (i := 16) (q := 105) rfl rfl) rfl (hr I (jx (P := P) kk rfl)) ⟨(Nat.le_of_ble_eq_true rfl), (Nat.le_of_ble_eq_true rfl)⟩
def F_X7_findPlan_88 (I : WI) (r1 : Nat) (a2 : Int64) (a4 : Int32) : WI :=
  (F_X7_findPlan_104 (F_X7_take I a4 ((I 27 2) ^^^ (F_X0_everyColumn I r1)) 0) r1 a2)
theorem V_X7_findPlan_88  {I : WI} {L : WL} {r1 : Nat} {a2 : Int64} {a4 : Int32} {P : WI → Prop} {t : Tg} (hr1 : isX0 r1) (hr : ∀ v, P v → t = (none, ly0, v, L, R0)) (kk : P (F_X7_findPlan_88 I r1 a2 a4)) : V (zM x_X7_findPlan 6 0 0 t) 88 [(0, .ref 27), (1, .ref r1), (2, .long a2), (4, .int a4)] [] ly0 I L R0 0 0 :=
  V_aload_n (tat ok_X7_findPlan_1 (i := 7) (q := 89) rfl rfl) 0 rfl rfl <|
    V_iload (tat ok_X7_findPlan_1 (i := 8) (q := 91) rfl rfl) 3 rfl <|
    V_aload_n (tat ok_X7_findPlan_1 (i := 9) (q := 92) rfl rfl) 0 rfl rfl <|
    V_getI (tat ok_X7_findPlan_1 (i := 10) (q := 95) rfl rfl) fk_X7_28 rfl <|
    V_aload_n (tat ok_X7_findPlan_1 (i := 11) (q := 96) rfl rfl) 1 rfl rfl <|
    V_cv0 (ct_X0_everyColumn I L r1 hr1) mo_X0_everyColumn (tat ok_X7_findPlan_1 (i := 12) (q := 99) rfl rfl) ml_X7_68 hr1 ⟨by decide, _, rfl, rfl⟩ ⟨(Nat.le_of_ble_eq_true rfl), (Nat.le_of_ble_eq_true rfl)⟩ ⟨(Nat.le_of_ble_eq_true rfl), (Nat.le_of_ble_eq_true rfl)⟩ (Nat.le_of_ble_eq_true rfl) <|
    V_ixor (tat ok_X7_findPlan_1 (i := 13) (q := 100) rfl rfl) <|
    V_iconst (tat ok_X7_findPlan_1 (i := 14) (q := 101) rfl rfl) ic_0 <|
    V_cv3v (ct_X7_take I L a4 ((I 27 2) ^^^ (F_X0_everyColumn I r1)) 0 ) mo_X7_take (tat ok_X7_findPlan_1 (i := 15) (q := 104) rfl rfl) ml_X7_51 rfl ⟨by decide, _, rfl, rfl⟩ ⟨(Nat.le_of_ble_eq_true rfl), (Nat.le_of_ble_eq_true rfl)⟩ ⟨(Nat.le_of_ble_eq_true rfl), (Nat.le_of_ble_eq_true rfl)⟩ (Nat.le_of_ble_eq_true rfl) <|
    V_pick [0, 1, 2] rfl (V_X7_findPlan_104 hr1 hr (jx (P := P) kk rfl))
def F_X7_findPlan_16 (I : WI) (r1 : Nat) (a2 : Int64) (s0 : Int32) : WI :=
  (if ((((F_X7_take (u2 I 27 0 s0) (F_X0_rowsUnlikeFirst (u2 I 27 0 s0) r1 a2) (F_X0_columnsOfFirstRow (u2 I 27 0 s0) r1 a2) 0) r1 1) + ((F_X7_take (u2 I 27 0 s0) (F_X0_rowsUnlikeFirst (u2 I 27 0 s0) r1 a2) (F_X0_columnsOfFirstRow (u2 I 27 0 s0) r1 a2) 0) r1 2)) - (F_X7_acts (F_X7_take (u2 I 27 0 s0) (F_X0_rowsUnlikeFirst (u2 I 27 0 s0) r1 a2) (F_X0_columnsOfFirstRow (u2 I 27 0 s0) r1 a2) 0))) < (F_X7_acts (F_X7_take (u2 I 27 0 s0) (F_X0_rowsUnlikeFirst (u2 I 27 0 s0) r1 a2) (F_X0_columnsOfFirstRow (u2 I 27 0 s0) r1 a2) 0)) then (F_X7_findPlan_88 (F_X7_take (u2 I 27 0 s0) (F_X0_rowsUnlikeFirst (u2 I 27 0 s0) r1 a2) (F_X0_columnsOfFirstRow (u2 I 27 0 s0) r1 a2) 0) r1 a2 (((F_X7_take (u2 I 27 0 s0) (F_X0_rowsUnlikeFirst (u2 I 27 0 s0) r1 a2) (F_X0_columnsOfFirstRow (u2 I 27 0 s0) r1 a2) 0) 27 1) ^^^ (F_X0_everyRow (F_X7_take (u2 I 27 0 s0) (F_X0_rowsUnlikeFirst (u2 I 27 0 s0) r1 a2) (F_X0_columnsOfFirstRow (u2 I 27 0 s0) r1 a2) 0) r1))) else (if ((((F_X7_take (u2 I 27 0 s0) (F_X0_rowsUnlikeFirst (u2 I 27 0 s0) r1 a2) (F_X0_columnsOfFirstRow (u2 I 27 0 s0) r1 a2) 0) r1 1) + ((F_X7_take (u2 I 27 0 s0) (F_X0_rowsUnlikeFirst (u2 I 27 0 s0) r1 a2) (F_X0_columnsOfFirstRow (u2 I 27 0 s0) r1 a2) 0) r1 2)) - (F_X7_acts (F_X7_take (u2 I 27 0 s0) (F_X0_rowsUnlikeFirst (u2 I 27 0 s0) r1 a2) (F_X0_columnsOfFirstRow (u2 I 27 0 s0) r1 a2) 0))) = (F_X7_acts (F_X7_take (u2 I 27 0 s0) (F_X0_rowsUnlikeFirst (u2 I 27 0 s0) r1 a2) (F_X0_columnsOfFirstRow (u2 I 27 0 s0) r1 a2) 0)) then (if ((F_X7_take (u2 I 27 0 s0) (F_X0_rowsUnlikeFirst (u2 I 27 0 s0) r1 a2) (F_X0_columnsOfFirstRow (u2 I 27 0 s0) r1 a2) 0) 27 1) ≤ (((F_X7_take (u2 I 27 0 s0) (F_X0_rowsUnlikeFirst (u2 I 27 0 s0) r1 a2) (F_X0_columnsOfFirstRow (u2 I 27 0 s0) r1 a2) 0) 27 1) ^^^ (F_X0_everyRow (F_X7_take (u2 I 27 0 s0) (F_X0_rowsUnlikeFirst (u2 I 27 0 s0) r1 a2) (F_X0_columnsOfFirstRow (u2 I 27 0 s0) r1 a2) 0) r1)) then (F_X7_findPlan_104 (F_X7_take (u2 I 27 0 s0) (F_X0_rowsUnlikeFirst (u2 I 27 0 s0) r1 a2) (F_X0_columnsOfFirstRow (u2 I 27 0 s0) r1 a2) 0) r1 a2) else (F_X7_findPlan_88 (F_X7_take (u2 I 27 0 s0) (F_X0_rowsUnlikeFirst (u2 I 27 0 s0) r1 a2) (F_X0_columnsOfFirstRow (u2 I 27 0 s0) r1 a2) 0) r1 a2 (((F_X7_take (u2 I 27 0 s0) (F_X0_rowsUnlikeFirst (u2 I 27 0 s0) r1 a2) (F_X0_columnsOfFirstRow (u2 I 27 0 s0) r1 a2) 0) 27 1) ^^^ (F_X0_everyRow (F_X7_take (u2 I 27 0 s0) (F_X0_rowsUnlikeFirst (u2 I 27 0 s0) r1 a2) (F_X0_columnsOfFirstRow (u2 I 27 0 s0) r1 a2) 0) r1)))) else (F_X7_findPlan_104 (F_X7_take (u2 I 27 0 s0) (F_X0_rowsUnlikeFirst (u2 I 27 0 s0) r1 a2) (F_X0_columnsOfFirstRow (u2 I 27 0 s0) r1 a2) 0) r1 a2)))
theorem V_X7_findPlan_16  {I : WI} {L : WL} {r1 : Nat} {a2 : Int64} {s0 : Int32} {P : WI → Prop} {t : Tg} (hr1 : isX0 r1) (hs0 : bz s0 = s0) (hr : ∀ v, P v → t = (none, ly0, v, L, R0)) (kk : P (F_X7_findPlan_16 I r1 a2 s0)) : V (zM x_X7_findPlan 6 0 0 t) 16 [(0, .ref 27), (1, .ref r1), (2, .long a2)] [.int s0, .ref 27] ly0 I L R0 0 0 :=
  V_putZ (tat ok_X7_findPlan_0 (i := 10) (q := 19) rfl rfl) fk_X7_40 rfl rfl hs0 <|
    V_aload_n (tat ok_X7_findPlan_0 (i := 11) (q := 20) rfl rfl) 0 rfl rfl <|
    V_aload_n (tat ok_X7_findPlan_0 (i := 12) (q := 21) rfl rfl) 1 rfl rfl <|
    V_lload_n (tat ok_X7_findPlan_0 (i := 13) (q := 22) rfl rfl) 2 rfl rfl <|
    V_cv1 (ct_X0_rowsUnlikeFirst (u2 I 27 0 s0) L r1 a2 hr1) mo_X0_rowsUnlikeFirst (tat ok_X7_findPlan_0 (i := 14) (q := 25) rfl rfl) ml_X7_44 hr1 ⟨by decide, _, rfl, rfl⟩ ⟨(Nat.le_of_ble_eq_true rfl), (Nat.le_of_ble_eq_true rfl)⟩ ⟨(Nat.le_of_ble_eq_true rfl), (Nat.le_of_ble_eq_true rfl)⟩ (Nat.le_of_ble_eq_true rfl) <|
    V_aload_n (tat ok_X7_findPlan_0 (i := 15) (q := 26) rfl rfl) 1 rfl rfl <|
    V_lload_n (tat ok_X7_findPlan_0 (i := 16) (q := 27) rfl rfl) 2 rfl rfl <|
    V_cv1 (ct_X0_columnsOfFirstRow (u2 I 27 0 s0) L r1 a2 hr1) mo_X0_columnsOfFirstRow (tat ok_X7_findPlan_0 (i := 17) (q := 30) rfl rfl) ml_X7_48 hr1 ⟨by decide, _, rfl, rfl⟩ ⟨(Nat.le_of_ble_eq_true rfl), (Nat.le_of_ble_eq_true rfl)⟩ ⟨(Nat.le_of_ble_eq_true rfl), (Nat.le_of_ble_eq_true rfl)⟩ (Nat.le_of_ble_eq_true rfl) <|
    V_iconst (tat ok_X7_findPlan_0 (i := 18) (q := 31) rfl rfl) ic_0 <|
    V_cv3v (ct_X7_take (u2 I 27 0 s0) L (F_X0_rowsUnlikeFirst (u2 I 27 0 s0) r1 a2) (F_X0_columnsOfFirstRow (u2 I 27 0 s0) r1 a2) 0 ) mo_X7_take (tat ok_X7_findPlan_0 (i := 19) (q := 34) rfl rfl) ml_X7_51 rfl ⟨by decide, _, rfl, rfl⟩ ⟨(Nat.le_of_ble_eq_true rfl), (Nat.le_of_ble_eq_true rfl)⟩ ⟨(Nat.le_of_ble_eq_true rfl), (Nat.le_of_ble_eq_true rfl)⟩ (Nat.le_of_ble_eq_true rfl) <|
    V_aload_n (tat ok_X7_findPlan_0 (i := 20) (q := 35) rfl rfl) 0 rfl rfl <|
    V_getI (tat ok_X7_findPlan_0 (i := 21) (q := 38) rfl rfl) fk_X7_18 rfl <|
    V_aload_n (tat ok_X7_findPlan_0 (i := 22) (q := 39) rfl rfl) 1 rfl rfl <|
    V_cv0 (ct_X0_everyRow (F_X7_take (u2 I 27 0 s0) (F_X0_rowsUnlikeFirst (u2 I 27 0 s0) r1 a2) (F_X0_columnsOfFirstRow (u2 I 27 0 s0) r1 a2) 0) L r1 hr1) mo_X0_everyRow (tat ok_X7_findPlan_0 (i := 23) (q := 42) rfl rfl) ml_X7_55 hr1 ⟨by decide, _, rfl, rfl⟩ ⟨(Nat.le_of_ble_eq_true rfl), (Nat.le_of_ble_eq_true rfl)⟩ ⟨(Nat.le_of_ble_eq_true rfl), (Nat.le_of_ble_eq_true rfl)⟩ (Nat.le_of_ble_eq_true rfl) <|
    V_ixor (tat ok_X7_findPlan_0 (i := 24) (q := 43) rfl rfl) <|
    V_istore (lv' := [(4, .int (((F_X7_take (u2 I 27 0 s0) (F_X0_rowsUnlikeFirst (u2 I 27 0 s0) r1 a2) (F_X0_columnsOfFirstRow (u2 I 27 0 s0) r1 a2) 0) 27 1) ^^^ (F_X0_everyRow (F_X7_take (u2 I 27 0 s0) (F_X0_rowsUnlikeFirst (u2 I 27 0 s0) r1 a2) (F_X0_columnsOfFirstRow (u2 I 27 0 s0) r1 a2) 0) r1))), (0, .ref 27), (1, .ref r1), (2, .long a2)]) (tat ok_X7_findPlan_0 (i := 25) (q := 45) rfl rfl) (Nat.le_of_ble_eq_true rfl) rfl <|
    V_aload_n (tat ok_X7_findPlan_0 (i := 26) (q := 46) rfl rfl) 1 rfl rfl <|
    V_cv0 (ct_X7_acts (F_X7_take (u2 I 27 0 s0) (F_X0_rowsUnlikeFirst (u2 I 27 0 s0) r1 a2) (F_X0_columnsOfFirstRow (u2 I 27 0 s0) r1 a2) 0) L  ) mo_X7_acts (tat ok_X7_findPlan_0 (i := 27) (q := 49) rfl rfl) ml_X7_59 rfl ⟨by decide, _, rfl, rfl⟩ ⟨(Nat.le_of_ble_eq_true rfl), (Nat.le_of_ble_eq_true rfl)⟩ ⟨(Nat.le_of_ble_eq_true rfl), (Nat.le_of_ble_eq_true rfl)⟩ (Nat.le_of_ble_eq_true rfl) <|
    V_istore (lv' := [(5, .int (F_X7_acts (F_X7_take (u2 I 27 0 s0) (F_X0_rowsUnlikeFirst (u2 I 27 0 s0) r1 a2) (F_X0_columnsOfFirstRow (u2 I 27 0 s0) r1 a2) 0))), (4, .int (((F_X7_take (u2 I 27 0 s0) (F_X0_rowsUnlikeFirst (u2 I 27 0 s0) r1 a2) (F_X0_columnsOfFirstRow (u2 I 27 0 s0) r1 a2) 0) 27 1) ^^^ (F_X0_everyRow (F_X7_take (u2 I 27 0 s0) (F_X0_rowsUnlikeFirst (u2 I 27 0 s0) r1 a2) (F_X0_columnsOfFirstRow (u2 I 27 0 s0) r1 a2) 0) r1))), (0, .ref 27), (1, .ref r1), (2, .long a2)]) (tat ok_X7_findPlan_0 (i := 28) (q := 51) rfl rfl) (Nat.le_of_ble_eq_true rfl) rfl <|
    V_aload_n (tat ok_X7_findPlan_0 (i := 29) (q := 52) rfl rfl) 3 rfl rfl <|
    V_getI (tat ok_X7_findPlan_0 (i := 30) (q := 55) rfl rfl) fk_X7_62 hr1 <|
    V_aload_n (tat ok_X7_findPlan_0 (i := 31) (q := 56) rfl rfl) 3 rfl rfl <|
    V_getI (tat ok_X7_findPlan_0 (i := 32) (q := 59) rfl rfl) fk_X7_65 hr1 <|
    V_iadd (tat ok_X7_findPlan_0 (i := 33) (q := 60) rfl rfl) <|
    V_iload (tat ok_X7_findPlan_0 (i := 34) (q := 62) rfl rfl) 0 rfl <|
    V_isub (tat ok_X7_findPlan_0 (i := 35) (q := 63) rfl rfl) <|
    V_istore (lv' := [(6, .int ((((F_X7_take (u2 I 27 0 s0) (F_X0_rowsUnlikeFirst (u2 I 27 0 s0) r1 a2) (F_X0_columnsOfFirstRow (u2 I 27 0 s0) r1 a2) 0) r1 1) + ((F_X7_take (u2 I 27 0 s0) (F_X0_rowsUnlikeFirst (u2 I 27 0 s0) r1 a2) (F_X0_columnsOfFirstRow (u2 I 27 0 s0) r1 a2) 0) r1 2)) - (F_X7_acts (F_X7_take (u2 I 27 0 s0) (F_X0_rowsUnlikeFirst (u2 I 27 0 s0) r1 a2) (F_X0_columnsOfFirstRow (u2 I 27 0 s0) r1 a2) 0)))), (5, .int (F_X7_acts (F_X7_take (u2 I 27 0 s0) (F_X0_rowsUnlikeFirst (u2 I 27 0 s0) r1 a2) (F_X0_columnsOfFirstRow (u2 I 27 0 s0) r1 a2) 0))), (4, .int (((F_X7_take (u2 I 27 0 s0) (F_X0_rowsUnlikeFirst (u2 I 27 0 s0) r1 a2) (F_X0_columnsOfFirstRow (u2 I 27 0 s0) r1 a2) 0) 27 1) ^^^ (F_X0_everyRow (F_X7_take (u2 I 27 0 s0) (F_X0_rowsUnlikeFirst (u2 I 27 0 s0) r1 a2) (F_X0_columnsOfFirstRow (u2 I 27 0 s0) r1 a2) 0) r1))), (0, .ref 27), (1, .ref r1), (2, .long a2)]) (tat ok_X7_findPlan_0 (i := 36) (q := 65) rfl rfl) (Nat.le_of_ble_eq_true rfl) rfl <|
    V_iload (tat ok_X7_findPlan_0 (i := 37) (q := 67) rfl rfl) 0 rfl <|
    V_iload (tat ok_X7_findPlan_0 (i := 38) (q := 69) rfl rfl) 1 rfl <|
    V_icmp_lt (tat ok_X7_findPlan_0 (i := 39) (q := 72) rfl rfl) rfl (fun c2 => V_pick [3, 4, 5, 2] rfl (V_X7_findPlan_88 hr1 hr (jx (P := P) kk (if_pos c2)))) (fun c2 => V_iload (tat ok_X7_findPlan_1 (i := 0) (q := 74) rfl rfl) 0 rfl <|
    V_iload (tat ok_X7_findPlan_1 (i := 1) (q := 76) rfl rfl) 1 rfl <|
    V_icmp_ne (tat ok_X7_findPlan_1 (i := 2) (q := 79) rfl rfl) rfl (fun c3 => V_pick [3, 4, 5] rfl (V_X7_findPlan_104 hr1 hr (jx (P := P) kk (Eq.trans (if_neg c2) (if_neg c3))))) (fun c3 => V_iload (tat ok_X7_findPlan_1 (i := 3) (q := 81) rfl rfl) 2 rfl <|
    V_aload_n (tat ok_X7_findPlan_1 (i := 4) (q := 82) rfl rfl) 3 rfl rfl <|
    V_getI (tat ok_X7_findPlan_1 (i := 5) (q := 85) rfl rfl) fk_X7_18 rfl <|
    V_icmp_ge (tat ok_X7_findPlan_1 (i := 6) (q := 88) rfl rfl) rfl (fun c4 => V_pick [3, 4, 5] rfl (V_X7_findPlan_104 hr1 hr (jx (P := P) kk (Eq.trans (if_neg c2) (Eq.trans (if_pos c3) (if_pos c4)))))) (fun c4 => V_pick [3, 4, 5, 2] rfl (V_X7_findPlan_88 hr1 hr (jx (P := P) kk (Eq.trans (if_neg c2) (Eq.trans (if_pos c3) (if_neg c4))))))))
def F_X7_findPlan (I : WI) (r1 : Nat) (a2 : Int64) : WI :=
  (if (lg_cmp (F_X0_formOf I r1 a2) 0) = 0 then (F_X7_findPlan_16 I r1 a2 1) else (F_X7_findPlan_16 I r1 a2 0))
theorem V_X7_findPlan  {I : WI} {L : WL} {r1 : Nat} {a2 : Int64}  {P : WI → Prop} {t : Tg} (hr1 : isX0 r1) (hr : ∀ v, P v → t = (none, ly0, v, L, R0)) (kk : P (F_X7_findPlan I r1 a2)) : V (zM x_X7_findPlan 6 0 0 t) 0 [(0, .ref 27), (1, .ref r1), (2, .long a2)] [] ly0 I L R0 0 0 :=
  V_aload_n (tat ok_X7_findPlan_0 (i := 0) (q := 1) rfl rfl) 0 rfl rfl <|
    V_aload_n (tat ok_X7_findPlan_0 (i := 1) (q := 2) rfl rfl) 1 rfl rfl <|
    V_lload_n (tat ok_X7_findPlan_0 (i := 2) (q := 3) rfl rfl) 2 rfl rfl <|
    V_cv1 (ct_X0_formOf I L r1 a2 hr1) mo_X0_formOf (tat ok_X7_findPlan_0 (i := 3) (q := 6) rfl rfl) ml_X7_34 hr1 ⟨by decide, _, rfl, rfl⟩ ⟨(Nat.le_of_ble_eq_true rfl), (Nat.le_of_ble_eq_true rfl)⟩ ⟨(Nat.le_of_ble_eq_true rfl), (Nat.le_of_ble_eq_true rfl)⟩ (Nat.le_of_ble_eq_true rfl) <|
    V_lconst (v := 0) (tat ok_X7_findPlan_0 (i := 4) (q := 7) rfl rfl) rfl <|
    V_lcmp (tat ok_X7_findPlan_0 (i := 5) (q := 8) rfl rfl) <|
    V_if_ne (tat ok_X7_findPlan_0 (i := 6) (q := 11) rfl rfl) rfl (fun c1 => V_iconst (tat ok_X7_findPlan_0 (i := 9) (q := 16) rfl rfl) ic_0 <|
    V_X7_findPlan_16 hr1 rfl hr (jx (P := P) kk (if_neg c1))) (fun c1 => V_iconst (tat ok_X7_findPlan_0 (i := 7) (q := 12) rfl rfl) ic_1 <|
    V_goto (tat ok_X7_findPlan_0 (i := 8) (q := 15) rfl rfl) rfl <|
    V_X7_findPlan_16 hr1 rfl hr (jx (P := P) kk (if_pos c1)))
theorem ct_X7_findPlan  (I : WI) (L : WL) (r1 : Nat) (a2 : Int64) (hr1 : isX0 r1) : Ct x_X7_findPlan 6 [.ref 27, .ref r1, .long a2] ly0 I L R0 0 0 (none, ly0, (F_X7_findPlan I r1 a2), L, R0) :=
  Ct_of_V mo_X7_findPlan.1 (Nat.le_of_ble_eq_true rfl) (V_X7_findPlan (P := fun x => x = (F_X7_findPlan I r1 a2)) hr1 (fun _ e => by rw [e]) rfl)
def F_X7_tryRows_52_1 (I : WI) (r1 : Nat) (a2 : Int32) (a3 : Int64) (a7 : Int32) (a5 : Int32) (a6 : Int32) (a8 : Int32) : (Int32 × Int32) :=
  (a5, (a6 + (if ((I r1 1) - a8) < a8 then ((I r1 1) - a8) else a8)))
theorem V_X7_tryRows_52_1  {I : WI} {L : WL} {r1 : Nat} {a2 : Int32} {a3 : Int64} {a7 : Int32} {a5 : Int32} {a6 : Int32} {a8 : Int32} {P : (Int32 × Int32) → Prop} {t : Tg} (hr1 : isX0 r1) (hk : ∀ x : (Int32 × Int32), P x → V (zM x_X7_tryRows 4 0 0 t) 9 [(0, .ref 27), (1, .ref r1), (2, .int a2), (3, .long a3), (5, .int (p1 x)), (6, .int (p2 x)), (7, .int (a7 + 1))] [] ly0 I L R0 0 0) (kk : P (F_X7_tryRows_52_1 I r1 a2 a3 a7 a5 a6 a8)) : V (zM x_X7_tryRows 4 0 0 t) 52 [(0, .ref 27), (1, .ref r1), (2, .int a2), (3, .long a3), (5, .int a5), (6, .int a6), (7, .int a7), (8, .int a8)] [] ly0 I L R0 0 0 :=
  V_iload (tat ok_X7_tryRows_0 (i := 30) (q := 54) rfl rfl) 5 rfl <|
    V_iload (tat ok_X7_tryRows_0 (i := 31) (q := 56) rfl rfl) 7 rfl <|
    V_aload_n (tat ok_X7_tryRows_0 (i := 32) (q := 57) rfl rfl) 1 rfl rfl <|
    V_getI (tat ok_X7_tryRows_0 (i := 33) (q := 60) rfl rfl) fk_X7_62 hr1 <|
    V_iload (tat ok_X7_tryRows_0 (i := 34) (q := 62) rfl rfl) 7 rfl <|
    V_isub (tat ok_X7_tryRows_0 (i := 35) (q := 63) rfl rfl) <|
    V_min (tat ok_X7_tryRows_0 (i := 36) (q := 66) rfl rfl) mm_li_X7_86 mm_min_st mm_min_co mm_ini ⟨(Nat.le_of_ble_eq_true rfl), (Nat.le_of_ble_eq_true rfl)⟩ ⟨(Nat.le_of_ble_eq_true rfl), (Nat.le_of_ble_eq_true rfl)⟩ <|
    V_iadd (tat ok_X7_tryRows_0 (i := 37) (q := 67) rfl rfl) <|
    V_istore (lv' := [(6, .int (a6 + (if ((I r1 1) - a8) < a8 then ((I r1 1) - a8) else a8))), (0, .ref 27), (1, .ref r1), (2, .int a2), (3, .long a3), (5, .int a5), (7, .int a7), (8, .int a8)]) (tat ok_X7_tryRows_0 (i := 38) (q := 69) rfl rfl) (Nat.le_of_ble_eq_true rfl) rfl <|
    V_iinc (v := (a7 + 1)) (lv' := [(7, .int (a7 + 1)), (6, .int (a6 + (if ((I r1 1) - a8) < a8 then ((I r1 1) - a8) else a8))), (0, .ref 27), (1, .ref r1), (2, .int a2), (3, .long a3), (5, .int a5), (8, .int a8)]) (tat ok_X7_tryRows_0 (i := 39) (q := 72) rfl rfl) 6 rfl (ia ic_1) (Nat.le_of_ble_eq_true rfl) rfl <|
    V_goto (tat ok_X7_tryRows_1 (i := 0) (q := 75) rfl rfl) rfl <|
    V_pick [2, 3, 4, 5, 6, 1, 0] rfl (hk (a5, (a6 + (if ((I r1 1) - a8) < a8 then ((I r1 1) - a8) else a8))) (jx (P := P) kk rfl))
def F_X7_tryRows_18_1 (I : WI) (r1 : Nat) (a2 : Int32) (a3 : Int64) (a7 : Int32) (a5 : Int32) (a6 : Int32) : (Int32 × Int32) :=
  (if (2 * (F_J13_bitCount_95d88 (a3 &&& (F_X0_squaresOf I r1 1 a7)))) ≤ (I r1 1) then (F_X7_tryRows_52_1 I r1 a2 a3 a7 a5 a6 (F_J13_bitCount_95d88 (a3 &&& (F_X0_squaresOf I r1 1 a7)))) else (F_X7_tryRows_52_1 I r1 a2 a3 a7 (a5 ||| (1 <<< (a7 &&& 31))) a6 (F_J13_bitCount_95d88 (a3 &&& (F_X0_squaresOf I r1 1 a7)))))
theorem V_X7_tryRows_18_1  {I : WI} {L : WL} {r1 : Nat} {a2 : Int32} {a3 : Int64} {a7 : Int32} {a5 : Int32} {a6 : Int32} {P : (Int32 × Int32) → Prop} {t : Tg} (hr1 : isX0 r1) (hk : ∀ x : (Int32 × Int32), P x → V (zM x_X7_tryRows 4 0 0 t) 9 [(0, .ref 27), (1, .ref r1), (2, .int a2), (3, .long a3), (5, .int (p1 x)), (6, .int (p2 x)), (7, .int (a7 + 1))] [] ly0 I L R0 0 0) (kk : P (F_X7_tryRows_18_1 I r1 a2 a3 a7 a5 a6)) : V (zM x_X7_tryRows 4 0 0 t) 18 [(0, .ref 27), (1, .ref r1), (2, .int a2), (3, .long a3), (5, .int a5), (6, .int a6), (7, .int a7)] [] ly0 I L R0 0 0 :=
  V_lload_n (tat ok_X7_tryRows_0 (i := 10) (q := 19) rfl rfl) 3 rfl rfl <|
    V_aload_n (tat ok_X7_tryRows_0 (i := 11) (q := 20) rfl rfl) 1 rfl rfl <|
    V_iconst (tat ok_X7_tryRows_0 (i := 12) (q := 21) rfl rfl) ic_1 <|
    V_iload (tat ok_X7_tryRows_0 (i := 13) (q := 23) rfl rfl) 6 rfl <|
    V_cv2 (ct_X0_squaresOf I L r1 1 a7 hr1) mo_X0_squaresOf (tat ok_X7_tryRows_0 (i := 14) (q := 26) rfl rfl) ml_X7_79 hr1 ⟨by decide, _, rfl, rfl⟩ ⟨(Nat.le_of_ble_eq_true rfl), (Nat.le_of_ble_eq_true rfl)⟩ ⟨(Nat.le_of_ble_eq_true rfl), (Nat.le_of_ble_eq_true rfl)⟩ (Nat.le_of_ble_eq_true rfl) <|
    V_land (tat ok_X7_tryRows_0 (i := 15) (q := 27) rfl rfl) <|
    V_cs1 (ct_J13_bitCount_95d88 I L (a3 &&& (F_X0_squaresOf I r1 1 a7)) ) mo_J13_bitCount_95d88 (tat ok_X7_tryRows_0 (i := 16) (q := 30) rfl rfl) ml_X7_82 ⟨(Nat.le_of_ble_eq_true rfl), (Nat.le_of_ble_eq_true rfl)⟩ ⟨(Nat.le_of_ble_eq_true rfl), (Nat.le_of_ble_eq_true rfl)⟩ (Nat.le_of_ble_eq_true rfl) <|
    V_istore (lv' := [(8, .int (F_J13_bitCount_95d88 (a3 &&& (F_X0_squaresOf I r1 1 a7)))), (0, .ref 27), (1, .ref r1), (2, .int a2), (3, .long a3), (5, .int a5), (6, .int a6), (7, .int a7)]) (tat ok_X7_tryRows_0 (i := 17) (q := 32) rfl rfl) (Nat.le_of_ble_eq_true rfl) rfl <|
    V_iconst (tat ok_X7_tryRows_0 (i := 18) (q := 33) rfl rfl) ic_2 <|
    V_iload (tat ok_X7_tryRows_0 (i := 19) (q := 35) rfl rfl) 0 rfl <|
    V_imul (tat ok_X7_tryRows_0 (i := 20) (q := 36) rfl rfl) <|
    V_aload_n (tat ok_X7_tryRows_0 (i := 21) (q := 37) rfl rfl) 2 rfl rfl <|
    V_getI (tat ok_X7_tryRows_0 (i := 22) (q := 40) rfl rfl) fk_X7_62 hr1 <|
    V_icmp_le (tat ok_X7_tryRows_0 (i := 23) (q := 43) rfl rfl) rfl (fun c1 => V_pick [1, 2, 3, 4, 5, 6, 7, 0] rfl (V_X7_tryRows_52_1 hr1 hk (jx (P := P) kk (if_pos c1)))) (fun c1 => V_iload (tat ok_X7_tryRows_0 (i := 24) (q := 45) rfl rfl) 5 rfl <|
    V_iconst (tat ok_X7_tryRows_0 (i := 25) (q := 46) rfl rfl) ic_1 <|
    V_iload (tat ok_X7_tryRows_0 (i := 26) (q := 48) rfl rfl) 7 rfl <|
    V_ishl (tat ok_X7_tryRows_0 (i := 27) (q := 49) rfl rfl) <|
    V_ior (tat ok_X7_tryRows_0 (i := 28) (q := 50) rfl rfl) <|
    V_istore (lv' := [(5, .int (a5 ||| (1 <<< (a7 &&& 31)))), (8, .int (F_J13_bitCount_95d88 (a3 &&& (F_X0_squaresOf I r1 1 a7)))), (0, .ref 27), (1, .ref r1), (2, .int a2), (3, .long a3), (6, .int a6), (7, .int a7)]) (tat ok_X7_tryRows_0 (i := 29) (q := 52) rfl rfl) (Nat.le_of_ble_eq_true rfl) rfl <|
    V_pick [2, 3, 4, 5, 0, 6, 7, 1] rfl (V_X7_tryRows_52_1 hr1 hk (jx (P := P) kk (if_neg c1))))
def F_X7_tryRows_110 (I : WI) (r1 : Nat) (a2 : Int32) (a3 : Int64) : WI :=
  I
theorem V_X7_tryRows_110  {I : WI} {L : WL} {r1 : Nat} {a2 : Int32} {a3 : Int64}  {P : WI → Prop} {t : Tg} (hr1 : isX0 r1) (hr : ∀ v, P v → t = (none, ly0, v, L, R0)) (kk : P (F_X7_tryRows_110 I r1 a2 a3)) : V (zM x_X7_tryRows 4 0 0 t) 110 [(0, .ref 27), (1, .ref r1), (2, .int a2), (3, .long a3)] [] ly0 I L R0 0 0 :=
  V_vret (tat ok_X7_tryRows_1 (i := 19) (q := 111) rfl rfl) rfl (hr I (jx (P := P) kk rfl)) ⟨(Nat.le_of_ble_eq_true rfl), (Nat.le_of_ble_eq_true rfl)⟩
def F_X7_tryRows_91 (I : WI) (r1 : Nat) (a2 : Int32) (a3 : Int64) (a5 : Int32) (a6 : Int32) : WI :=
  (F_X7_tryRows_110 (u2 (F_X7_take (u2 I 27 0 1) a2 a5 0) 27 4 a6) r1 a2 a3)
theorem V_X7_tryRows_91  {I : WI} {L : WL} {r1 : Nat} {a2 : Int32} {a3 : Int64} {a5 : Int32} {a6 : Int32} {P : WI → Prop} {t : Tg} (hr1 : isX0 r1) (hr : ∀ v, P v → t = (none, ly0, v, L, R0)) (kk : P (F_X7_tryRows_91 I r1 a2 a3 a5 a6)) : V (zM x_X7_tryRows 4 0 0 t) 91 [(0, .ref 27), (1, .ref r1), (2, .int a2), (3, .long a3), (5, .int a5), (6, .int a6)] [] ly0 I L R0 0 0 :=
  V_aload_n (tat ok_X7_tryRows_1 (i := 8) (q := 92) rfl rfl) 0 rfl rfl <|
    V_iconst (tat ok_X7_tryRows_1 (i := 9) (q := 93) rfl rfl) ic_1 <|
    V_putZ (tat ok_X7_tryRows_1 (i := 10) (q := 96) rfl rfl) fk_X7_40 rfl rfl rfl <|
    V_aload_n (tat ok_X7_tryRows_1 (i := 11) (q := 97) rfl rfl) 0 rfl rfl <|
    V_iload_n (tat ok_X7_tryRows_1 (i := 12) (q := 98) rfl rfl) 2 rfl rfl <|
    V_iload (tat ok_X7_tryRows_1 (i := 13) (q := 100) rfl rfl) 4 rfl <|
    V_iconst (tat ok_X7_tryRows_1 (i := 14) (q := 101) rfl rfl) ic_0 <|
    V_cv3v (ct_X7_take (u2 I 27 0 1) L a2 a5 0 ) mo_X7_take (tat ok_X7_tryRows_1 (i := 15) (q := 104) rfl rfl) ml_X7_51 rfl ⟨by decide, _, rfl, rfl⟩ ⟨(Nat.le_of_ble_eq_true rfl), (Nat.le_of_ble_eq_true rfl)⟩ ⟨(Nat.le_of_ble_eq_true rfl), (Nat.le_of_ble_eq_true rfl)⟩ (Nat.le_of_ble_eq_true rfl) <|
    V_aload_n (tat ok_X7_tryRows_1 (i := 16) (q := 105) rfl rfl) 0 rfl rfl <|
    V_iload (tat ok_X7_tryRows_1 (i := 17) (q := 107) rfl rfl) 5 rfl <|
    V_putI (tat ok_X7_tryRows_1 (i := 18) (q := 110) rfl rfl) fk_X7_92 rfl rfl <|
    V_pick [0, 1, 2, 3] rfl (V_X7_tryRows_110 hr1 hr (jx (P := P) kk rfl))
def F_X7_tryRows_75 (I : WI) (r1 : Nat) (a2 : Int32) (a3 : Int64) (a5 : Int32) (a6 : Int32) : WI :=
  (if (bz (I 27 0)) = 0 then (F_X7_tryRows_91 I r1 a2 a3 a5 a6) else (if (I 27 4) ≤ a6 then (F_X7_tryRows_110 I r1 a2 a3) else (F_X7_tryRows_91 I r1 a2 a3 a5 a6)))
theorem V_X7_tryRows_75  {I : WI} {L : WL} {r1 : Nat} {a2 : Int32} {a3 : Int64} {a5 : Int32} {a6 : Int32} {P : WI → Prop} {t : Tg} (hr1 : isX0 r1) (hr : ∀ v, P v → t = (none, ly0, v, L, R0)) (kk : P (F_X7_tryRows_75 I r1 a2 a3 a5 a6)) : V (zM x_X7_tryRows 4 0 0 t) 75 [(0, .ref 27), (1, .ref r1), (2, .int a2), (3, .long a3), (5, .int a5), (6, .int a6)] [] ly0 I L R0 0 0 :=
  V_aload_n (tat ok_X7_tryRows_1 (i := 1) (q := 76) rfl rfl) 0 rfl rfl <|
    V_getZ (tat ok_X7_tryRows_1 (i := 2) (q := 79) rfl rfl) fk_X7_40 rfl <|
    V_if_eq (tat ok_X7_tryRows_1 (i := 3) (q := 82) rfl rfl) rfl (fun c2 => V_X7_tryRows_91 hr1 hr (jx (P := P) kk (if_pos c2))) (fun c2 => V_iload (tat ok_X7_tryRows_1 (i := 4) (q := 84) rfl rfl) 5 rfl <|
    V_aload_n (tat ok_X7_tryRows_1 (i := 5) (q := 85) rfl rfl) 0 rfl rfl <|
    V_getI (tat ok_X7_tryRows_1 (i := 6) (q := 88) rfl rfl) fk_X7_92 rfl <|
    V_icmp_ge (tat ok_X7_tryRows_1 (i := 7) (q := 91) rfl rfl) rfl (fun c3 => V_pick [0, 1, 2, 3] rfl (V_X7_tryRows_110 hr1 hr (jx (P := P) kk (Eq.trans (if_neg c2) (if_pos c3))))) (fun c3 => V_X7_tryRows_91 hr1 hr (jx (P := P) kk (Eq.trans (if_neg c2) (if_neg c3)))))
def F_X7_tryRows_9 (I : WI) (r1 : Nat) (a2 : Int32) (a3 : Int64) (a5 : Int32) (a6 : Int32) (a7 : Int32) : WI :=
  (fun q : Int32 × (Int32 × Int32) => (F_X7_tryRows_75 I r1 a2 a3 (p1 (p2 q)) (p2 (p2 q)))) (fr0 (fun i x => (F_X7_tryRows_18_1 I r1 a2 a3 i (p1 x) (p2 x))) (I r1 2) (fu a7 (I r1 2)) a7 (a5, a6))
theorem V_X7_tryRows_9  {I : WI} {L : WL} {r1 : Nat} {a2 : Int32} {a3 : Int64} {a5 : Int32} {a6 : Int32} {a7 : Int32} {P : WI → Prop} {t : Tg} (hr1 : isX0 r1) (hb5 : bz a5 = a5) (hb6 : bz a6 = a6) (hb7 : bz a7 = a7) (hr : ∀ v, P v → t = (none, ly0, v, L, R0)) (kk : P (F_X7_tryRows_9 I r1 a2 a3 a5 a6 a7)) : V (zM x_X7_tryRows 4 0 0 t) 9 [(0, .ref 27), (1, .ref r1), (2, .int a2), (3, .long a3), (5, .int a5), (6, .int a6), (7, .int a7)] [] ly0 I L R0 0 0 :=
  V_fr0 (fun i x => (F_X7_tryRows_18_1 I r1 a2 a3 i (p1 x) (p2 x))) (I r1 2) (fun i x => V (zM x_X7_tryRows 4 0 0 t) 9 [(0, .ref 27), (1, .ref r1), (2, .int a2), (3, .long a3), (5, .int (p1 x)), (6, .int (p2 x)), (7, .int i)] [] ly0 I L R0 0 0) (fun i x => P ((F_X7_tryRows_75 I r1 a2 a3 (p1 x) (p2 x)))) (c := a7) (s := (a5, a6)) (fun i x kx kb => V_iload (tat ok_X7_tryRows_0 (i := 6) (q := 11) rfl rfl) 6 rfl <|
    V_aload_n (tat ok_X7_tryRows_0 (i := 7) (q := 12) rfl rfl) 1 rfl rfl <|
    V_getI (tat ok_X7_tryRows_0 (i := 8) (q := 15) rfl rfl) fk_X7_65 hr1 <|
    V_icmp_ge (tat ok_X7_tryRows_0 (i := 9) (q := 18) rfl rfl) rfl (fun c0 => V_pick [0, 1, 2, 3, 4, 5] rfl (V_X7_tryRows_75 hr1 hr (kx c0))) (fun c0 => V_X7_tryRows_18_1 (P := (fun x => (fun i x => V (zM x_X7_tryRows 4 0 0 t) 9 [(0, .ref 27), (1, .ref r1), (2, .int a2), (3, .long a3), (5, .int (p1 x)), (6, .int (p2 x)), (7, .int i)] [] ly0 I L R0 0 0) (i + 1) x)) hr1 (fun _ e => e) (kb c0))) kk
def F_X7_tryRows (I : WI) (r1 : Nat) (a2 : Int32) (a3 : Int64) : WI :=
  (F_X7_tryRows_9 I r1 a2 a3 0 0 0)
theorem V_X7_tryRows  {I : WI} {L : WL} {r1 : Nat} {a2 : Int32} {a3 : Int64}  {P : WI → Prop} {t : Tg} (hr1 : isX0 r1) (hr : ∀ v, P v → t = (none, ly0, v, L, R0)) (kk : P (F_X7_tryRows I r1 a2 a3)) : V (zM x_X7_tryRows 4 0 0 t) 0 [(0, .ref 27), (1, .ref r1), (2, .int a2), (3, .long a3)] [] ly0 I L R0 0 0 :=
  V_iconst (tat ok_X7_tryRows_0 (i := 0) (q := 1) rfl rfl) ic_0 <|
    V_istore (lv' := [(5, .int 0), (0, .ref 27), (1, .ref r1), (2, .int a2), (3, .long a3)]) (tat ok_X7_tryRows_0 (i := 1) (q := 3) rfl rfl) (Nat.le_of_ble_eq_true rfl) rfl <|
    V_iconst (tat ok_X7_tryRows_0 (i := 2) (q := 4) rfl rfl) ic_0 <|
    V_istore (lv' := [(6, .int 0), (5, .int 0), (0, .ref 27), (1, .ref r1), (2, .int a2), (3, .long a3)]) (tat ok_X7_tryRows_0 (i := 3) (q := 6) rfl rfl) (Nat.le_of_ble_eq_true rfl) rfl <|
    V_iconst (tat ok_X7_tryRows_0 (i := 4) (q := 7) rfl rfl) ic_0 <|
    V_istore (lv' := [(7, .int 0), (6, .int 0), (5, .int 0), (0, .ref 27), (1, .ref r1), (2, .int a2), (3, .long a3)]) (tat ok_X7_tryRows_0 (i := 5) (q := 9) rfl rfl) (Nat.le_of_ble_eq_true rfl) rfl <|
    V_pick [3, 4, 5, 6, 2, 1, 0] rfl (V_X7_tryRows_9 hr1 rfl rfl rfl hr (jx (P := P) kk rfl))
theorem ct_X7_tryRows  (I : WI) (L : WL) (r1 : Nat) (a2 : Int32) (a3 : Int64) (hr1 : isX0 r1) : Ct x_X7_tryRows 4 [.ref 27, .ref r1, .int a2, .long a3] ly0 I L R0 0 0 (none, ly0, (F_X7_tryRows I r1 a2 a3), L, R0) :=
  Ct_of_V mo_X7_tryRows.1 (Nat.le_of_ble_eq_true rfl) (V_X7_tryRows (P := fun x => x = (F_X7_tryRows I r1 a2 a3)) hr1 (fun _ e => by rw [e]) rfl)
def F_X7_findNearest_8_1 (I : WI) (r1 : Nat) (a2 : Int64) (a4 : Int32) : Option (WI ⊕ (Int32 × WI)) :=
  (if (F_X0_everyRow I r1) < a4 then some (.inl I) else some (.inr ((a4 + 1), (F_X7_tryRows I r1 a4 (a2 ^^^ (F_X0_squaresTurned I r1 a4 0))))))
theorem V_X7_findNearest_8_1  {I : WI} {L : WL} {r1 : Nat} {a2 : Int64} {a4 : Int32} {P : (WI ⊕ (Int32 × WI)) → Prop} {t : Tg} (hr1 : isX0 r1) (he : ∀ x : WI, P (.inl x) → V (zM x_X7_findNearest 5 0 0 t) 39 [(0, .ref 27), (1, .ref r1), (2, .long a2)] [] ly0 x L R0 0 0) (hk : ∀ x : (Int32 × WI), P (.inr x) → V (zM x_X7_findNearest 5 0 0 t) 8 [(0, .ref 27), (1, .ref r1), (2, .long a2), (4, .int (p1 x))] [] ly0 (p2 x) L R0 0 0) : oP P (F_X7_findNearest_8_1 I r1 a2 a4) → V (zM x_X7_findNearest 5 0 0 t) 8 [(0, .ref 27), (1, .ref r1), (2, .long a2), (4, .int a4)] [] ly0 I L R0 0 0 :=
  fun _ =>
  have kq : (oP P (F_X7_findNearest_8_1 I r1 a2 a4)) ∧ True := ⟨by assumption, trivial⟩
  V_iload (tat ok_X7_findNearest_0 (i := 5) (q := 10) rfl rfl) 3 rfl <|
    V_aload_n (tat ok_X7_findNearest_0 (i := 6) (q := 11) rfl rfl) 1 rfl rfl <|
    V_cv0 (ct_X0_everyRow I L r1 hr1) mo_X0_everyRow (tat ok_X7_findNearest_0 (i := 7) (q := 14) rfl rfl) ml_X7_55 hr1 ⟨by decide, _, rfl, rfl⟩ ⟨(Nat.le_of_ble_eq_true rfl), (Nat.le_of_ble_eq_true rfl)⟩ ⟨(Nat.le_of_ble_eq_true rfl), (Nat.le_of_ble_eq_true rfl)⟩ (Nat.le_of_ble_eq_true rfl) <|
    V_icmp_gt (tat ok_X7_findNearest_0 (i := 8) (q := 17) rfl rfl) rfl (fun c1 => V_pick [0, 1, 2] rfl (he I (jq (P := oP P) kq (if_pos c1)))) (fun c1 => V_aload_n (tat ok_X7_findNearest_0 (i := 9) (q := 18) rfl rfl) 0 rfl rfl <|
    V_aload_n (tat ok_X7_findNearest_0 (i := 10) (q := 19) rfl rfl) 1 rfl rfl <|
    V_iload (tat ok_X7_findNearest_0 (i := 11) (q := 21) rfl rfl) 3 rfl <|
    V_lload_n (tat ok_X7_findNearest_0 (i := 12) (q := 22) rfl rfl) 2 rfl rfl <|
    V_aload_n (tat ok_X7_findNearest_0 (i := 13) (q := 23) rfl rfl) 1 rfl rfl <|
    V_iload (tat ok_X7_findNearest_0 (i := 14) (q := 25) rfl rfl) 3 rfl <|
    V_iconst (tat ok_X7_findNearest_0 (i := 15) (q := 26) rfl rfl) ic_0 <|
    V_cv2 (ct_X0_squaresTurned I L r1 a4 0 hr1) mo_X0_squaresTurned (tat ok_X7_findNearest_0 (i := 16) (q := 29) rfl rfl) ml_X7_71 hr1 ⟨by decide, _, rfl, rfl⟩ ⟨(Nat.le_of_ble_eq_true rfl), (Nat.le_of_ble_eq_true rfl)⟩ ⟨(Nat.le_of_ble_eq_true rfl), (Nat.le_of_ble_eq_true rfl)⟩ (Nat.le_of_ble_eq_true rfl) <|
    V_lxor (tat ok_X7_findNearest_0 (i := 17) (q := 30) rfl rfl) <|
    V_cv3v (ct_X7_tryRows I L r1 a4 (a2 ^^^ (F_X0_squaresTurned I r1 a4 0)) hr1) mo_X7_tryRows (tat ok_X7_findNearest_0 (i := 18) (q := 33) rfl rfl) ml_X7_75 rfl ⟨by decide, _, rfl, rfl⟩ ⟨(Nat.le_of_ble_eq_true rfl), (Nat.le_of_ble_eq_true rfl)⟩ ⟨(Nat.le_of_ble_eq_true rfl), (Nat.le_of_ble_eq_true rfl)⟩ (Nat.le_of_ble_eq_true rfl) <|
    V_iinc (v := (a4 + 1)) (lv' := [(4, .int (a4 + 1)), (0, .ref 27), (1, .ref r1), (2, .long a2)]) (tat ok_X7_findNearest_0 (i := 19) (q := 36) rfl rfl) 3 rfl (ia ic_1) (Nat.le_of_ble_eq_true rfl) rfl <|
    V_goto (tat ok_X7_findNearest_0 (i := 20) (q := 39) rfl rfl) rfl <|
    V_pick [1, 2, 3, 0] rfl (hk ((a4 + 1), (F_X7_tryRows I r1 a4 (a2 ^^^ (F_X0_squaresTurned I r1 a4 0)))) (jq (P := oP P) kq (if_neg c1))))
def F_X7_findNearest_39 (I : WI) (r1 : Nat) (a2 : Int64) : Option WI :=
  some I
theorem V_X7_findNearest_39  {I : WI} {L : WL} {r1 : Nat} {a2 : Int64}  {P : WI → Prop} {t : Tg} (hr1 : isX0 r1) (hr : ∀ v, P v → t = (none, ly0, v, L, R0)) : oP P (F_X7_findNearest_39 I r1 a2) → V (zM x_X7_findNearest 5 0 0 t) 39 [(0, .ref 27), (1, .ref r1), (2, .long a2)] [] ly0 I L R0 0 0 :=
  fun _ =>
  have kq : (oP P (F_X7_findNearest_39 I r1 a2)) ∧ True := ⟨by assumption, trivial⟩
  V_vret (tat ok_X7_findNearest_0 (i := 21) (q := 40) rfl rfl) rfl (hr I (jq (P := oP P) kq rfl)) ⟨(Nat.le_of_ble_eq_true rfl), (Nat.le_of_ble_eq_true rfl)⟩
def F_X7_findNearest_8 (I : WI) (r1 : Nat) (a2 : Int64) (a4 : Int32) : Option WI :=
  (lpp (fun x => (F_X7_findNearest_8_1 (p2 x) r1 a2 (p1 x))) 4294967296 (a4, I)).bind (fun q => (F_X7_findNearest_39 q r1 a2))
theorem V_X7_findNearest_8  {I : WI} {L : WL} {r1 : Nat} {a2 : Int64} {a4 : Int32} {P : WI → Prop} {t : Tg} (hr1 : isX0 r1) (hb4 : bz a4 = a4) (hr : ∀ v, P v → t = (none, ly0, v, L, R0)) (kk : oP P (F_X7_findNearest_8 I r1 a2 a4)) : V (zM x_X7_findNearest 5 0 0 t) 8 [(0, .ref 27), (1, .ref r1), (2, .long a2), (4, .int a4)] [] ly0 I L R0 0 0 :=
  V_lpp (fun x => (F_X7_findNearest_8_1 (p2 x) r1 a2 (p1 x))) (fun x => V (zM x_X7_findNearest 5 0 0 t) 8 [(0, .ref 27), (1, .ref r1), (2, .long a2), (4, .int (p1 x))] [] ly0 (p2 x) L R0 0 0) (fun x => oP P ((F_X7_findNearest_39 x r1 a2))) (s := (a4, I)) (fun x e0 => V_X7_findNearest_8_1 (P := Sum.elim (fun x => oP P ((F_X7_findNearest_39 x r1 a2))) (fun x => V (zM x_X7_findNearest 5 0 0 t) 8 [(0, .ref 27), (1, .ref r1), (2, .long a2), (4, .int (p1 x))] [] ly0 (p2 x) L R0 0 0)) hr1 (fun x e => V_X7_findNearest_39 hr1 hr e) (fun _ e => e) e0) (oP_bind (f := fun q => _) kk)
def F_X7_findNearest (I : WI) (r1 : Nat) (a2 : Int64) : Option WI :=
  (F_X7_findNearest_8 (u2 I 27 0 0) r1 a2 0)
theorem V_X7_findNearest  {I : WI} {L : WL} {r1 : Nat} {a2 : Int64}  {P : WI → Prop} {t : Tg} (hr1 : isX0 r1) (hr : ∀ v, P v → t = (none, ly0, v, L, R0)) : oP P (F_X7_findNearest I r1 a2) → V (zM x_X7_findNearest 5 0 0 t) 0 [(0, .ref 27), (1, .ref r1), (2, .long a2)] [] ly0 I L R0 0 0 :=
  fun _ =>
  have kq : (oP P (F_X7_findNearest I r1 a2)) ∧ True := ⟨by assumption, trivial⟩
  V_aload_n (tat ok_X7_findNearest_0 (i := 0) (q := 1) rfl rfl) 0 rfl rfl <|
    V_iconst (tat ok_X7_findNearest_0 (i := 1) (q := 2) rfl rfl) ic_0 <|
    V_putZ (tat ok_X7_findNearest_0 (i := 2) (q := 5) rfl rfl) fk_X7_40 rfl rfl rfl <|
    V_iconst (tat ok_X7_findNearest_0 (i := 3) (q := 6) rfl rfl) ic_0 <|
    V_istore (lv' := [(4, .int 0), (0, .ref 27), (1, .ref r1), (2, .long a2)]) (tat ok_X7_findNearest_0 (i := 4) (q := 8) rfl rfl) (Nat.le_of_ble_eq_true rfl) rfl <|
    V_pick [1, 2, 3, 0] rfl (V_X7_findNearest_8 hr1 rfl hr (jq (P := oP P) kq rfl))
theorem ct_X7_findNearest  (I : WI) (L : WL) (r1 : Nat) (a2 : Int64) (hr1 : isX0 r1) {v : WI} (h : (F_X7_findNearest I r1 a2) = some v) : Ct x_X7_findNearest 5 [.ref 27, .ref r1, .long a2] ly0 I L R0 0 0 (none, ly0, v, L, R0) :=
  Ct_of_V mo_X7_findNearest.1 (Nat.le_of_ble_eq_true rfl) (V_X7_findNearest (P := fun x => x = v) hr1 (fun _ e => by rw [e]) (by rw [h]; exact rfl))
def F_X7_mostUnlike_64_1 (I : WI) (r0 : Nat) (a1 : Int32) (a2 : Int64) (a6 : Int32) (a4 : Int32) (a5 : Int32) : (Int32 × Int32) :=
  (a4, a5)
theorem V_X7_mostUnlike_64_1  {I : WI} {L : WL} {r0 : Nat} {a1 : Int32} {a2 : Int64} {a6 : Int32} {a4 : Int32} {a5 : Int32} {P : (Int32 × Int32) → Prop} {t : Tg} (hr0 : isX0 r0) (hk : ∀ x : (Int32 × Int32), P x → V (zM x_X7_mostUnlike 4 0 0 t) 9 [(0, .ref r0), (1, .int a1), (2, .long a2), (4, .int (p1 x)), (5, .int (p2 x)), (6, .int (a6 + 1))] [] ly0 I L R0 0 0) (kk : P (F_X7_mostUnlike_64_1 I r0 a1 a2 a6 a4 a5)) : V (zM x_X7_mostUnlike 4 0 0 t) 64 [(0, .ref r0), (1, .int a1), (2, .long a2), (4, .int a4), (5, .int a5), (6, .int a6)] [] ly0 I L R0 0 0 :=
  V_iinc (v := (a6 + 1)) (lv' := [(6, .int (a6 + 1)), (0, .ref r0), (1, .int a1), (2, .long a2), (4, .int a4), (5, .int a5)]) (tat ok_X7_mostUnlike_0 (i := 34) (q := 67) rfl rfl) 5 rfl (ia ic_1) (Nat.le_of_ble_eq_true rfl) rfl <|
    V_goto (tat ok_X7_mostUnlike_0 (i := 35) (q := 70) rfl rfl) rfl <|
    V_pick [1, 2, 3, 4, 5, 0] rfl (hk (a4, a5) (jx (P := P) kk rfl))
def F_X7_mostUnlike_19_1 (I : WI) (r0 : Nat) (a1 : Int32) (a2 : Int64) (a6 : Int32) (a4 : Int32) (a5 : Int32) : (Int32 × Int32) :=
  (if (2 * (F_J13_bitCount_95d88 (a2 &&& (F_X0_squaresOf I r0 a1 a6)))) ≤ (F_J13_bitCount_95d88 (F_X0_squaresOf I r0 a1 a6)) then (F_X7_mostUnlike_64_1 I r0 a1 a2 a6 a4 a5) else (if (F_J13_bitCount_95d88 (a2 &&& (F_X0_squaresOf I r0 a1 a6))) ≤ a5 then (F_X7_mostUnlike_64_1 I r0 a1 a2 a6 a4 a5) else (F_X7_mostUnlike_64_1 I r0 a1 a2 a6 a6 (F_J13_bitCount_95d88 (a2 &&& (F_X0_squaresOf I r0 a1 a6))))))
theorem V_X7_mostUnlike_19_1  {I : WI} {L : WL} {r0 : Nat} {a1 : Int32} {a2 : Int64} {a6 : Int32} {a4 : Int32} {a5 : Int32} {P : (Int32 × Int32) → Prop} {t : Tg} (hr0 : isX0 r0) (hk : ∀ x : (Int32 × Int32), P x → V (zM x_X7_mostUnlike 4 0 0 t) 9 [(0, .ref r0), (1, .int a1), (2, .long a2), (4, .int (p1 x)), (5, .int (p2 x)), (6, .int (a6 + 1))] [] ly0 I L R0 0 0) (kk : P (F_X7_mostUnlike_19_1 I r0 a1 a2 a6 a4 a5)) : V (zM x_X7_mostUnlike 4 0 0 t) 19 [(0, .ref r0), (1, .int a1), (2, .long a2), (4, .int a4), (5, .int a5), (6, .int a6)] [] ly0 I L R0 0 0 :=
  V_aload_n (tat ok_X7_mostUnlike_0 (i := 11) (q := 20) rfl rfl) 0 rfl rfl <|
    V_iload_n (tat ok_X7_mostUnlike_0 (i := 12) (q := 21) rfl rfl) 1 rfl rfl <|
    V_iload (tat ok_X7_mostUnlike_0 (i := 13) (q := 23) rfl rfl) 5 rfl <|
    V_cv2 (ct_X0_squaresOf I L r0 a1 a6 hr0) mo_X0_squaresOf (tat ok_X7_mostUnlike_0 (i := 14) (q := 26) rfl rfl) ml_X7_79 hr0 ⟨by decide, _, rfl, rfl⟩ ⟨(Nat.le_of_ble_eq_true rfl), (Nat.le_of_ble_eq_true rfl)⟩ ⟨(Nat.le_of_ble_eq_true rfl), (Nat.le_of_ble_eq_true rfl)⟩ (Nat.le_of_ble_eq_true rfl) <|
    V_lstore (lv' := [(7, .long (F_X0_squaresOf I r0 a1 a6)), (0, .ref r0), (1, .int a1), (2, .long a2), (4, .int a4), (5, .int a5), (6, .int a6)]) (tat ok_X7_mostUnlike_0 (i := 15) (q := 28) rfl rfl) (Nat.le_of_ble_eq_true rfl) rfl <|
    V_lload_n (tat ok_X7_mostUnlike_0 (i := 16) (q := 29) rfl rfl) 3 rfl rfl <|
    V_lload (tat ok_X7_mostUnlike_0 (i := 17) (q := 31) rfl rfl) 0 rfl <|
    V_land (tat ok_X7_mostUnlike_0 (i := 18) (q := 32) rfl rfl) <|
    V_cs1 (ct_J13_bitCount_95d88 I L (a2 &&& (F_X0_squaresOf I r0 a1 a6)) ) mo_J13_bitCount_95d88 (tat ok_X7_mostUnlike_0 (i := 19) (q := 35) rfl rfl) ml_X7_82 ⟨(Nat.le_of_ble_eq_true rfl), (Nat.le_of_ble_eq_true rfl)⟩ ⟨(Nat.le_of_ble_eq_true rfl), (Nat.le_of_ble_eq_true rfl)⟩ (Nat.le_of_ble_eq_true rfl) <|
    V_istore (lv' := [(9, .int (F_J13_bitCount_95d88 (a2 &&& (F_X0_squaresOf I r0 a1 a6)))), (7, .long (F_X0_squaresOf I r0 a1 a6)), (0, .ref r0), (1, .int a1), (2, .long a2), (4, .int a4), (5, .int a5), (6, .int a6)]) (tat ok_X7_mostUnlike_0 (i := 20) (q := 37) rfl rfl) (Nat.le_of_ble_eq_true rfl) rfl <|
    V_iconst (tat ok_X7_mostUnlike_0 (i := 21) (q := 38) rfl rfl) ic_2 <|
    V_iload (tat ok_X7_mostUnlike_0 (i := 22) (q := 40) rfl rfl) 0 rfl <|
    V_imul (tat ok_X7_mostUnlike_0 (i := 23) (q := 41) rfl rfl) <|
    V_lload (tat ok_X7_mostUnlike_0 (i := 24) (q := 43) rfl rfl) 1 rfl <|
    V_cs1 (ct_J13_bitCount_95d88 I L (F_X0_squaresOf I r0 a1 a6) ) mo_J13_bitCount_95d88 (tat ok_X7_mostUnlike_0 (i := 25) (q := 46) rfl rfl) ml_X7_82 ⟨(Nat.le_of_ble_eq_true rfl), (Nat.le_of_ble_eq_true rfl)⟩ ⟨(Nat.le_of_ble_eq_true rfl), (Nat.le_of_ble_eq_true rfl)⟩ (Nat.le_of_ble_eq_true rfl) <|
    V_icmp_le (tat ok_X7_mostUnlike_0 (i := 26) (q := 49) rfl rfl) rfl (fun c1 => V_pick [2, 3, 4, 5, 6, 7] rfl (V_X7_mostUnlike_64_1 hr0 hk (jx (P := P) kk (if_pos c1)))) (fun c1 => V_iload (tat ok_X7_mostUnlike_0 (i := 27) (q := 51) rfl rfl) 0 rfl <|
    V_iload (tat ok_X7_mostUnlike_0 (i := 28) (q := 53) rfl rfl) 6 rfl <|
    V_icmp_le (tat ok_X7_mostUnlike_0 (i := 29) (q := 56) rfl rfl) rfl (fun c2 => V_pick [2, 3, 4, 5, 6, 7] rfl (V_X7_mostUnlike_64_1 hr0 hk (jx (P := P) kk (Eq.trans (if_neg c1) (if_pos c2))))) (fun c2 => V_iload (tat ok_X7_mostUnlike_0 (i := 30) (q := 58) rfl rfl) 7 rfl <|
    V_istore (lv' := [(4, .int a6), (9, .int (F_J13_bitCount_95d88 (a2 &&& (F_X0_squaresOf I r0 a1 a6)))), (7, .long (F_X0_squaresOf I r0 a1 a6)), (0, .ref r0), (1, .int a1), (2, .long a2), (5, .int a5), (6, .int a6)]) (tat ok_X7_mostUnlike_0 (i := 31) (q := 60) rfl rfl) (Nat.le_of_ble_eq_true rfl) rfl <|
    V_iload (tat ok_X7_mostUnlike_0 (i := 32) (q := 62) rfl rfl) 1 rfl <|
    V_istore (lv' := [(5, .int (F_J13_bitCount_95d88 (a2 &&& (F_X0_squaresOf I r0 a1 a6)))), (4, .int a6), (9, .int (F_J13_bitCount_95d88 (a2 &&& (F_X0_squaresOf I r0 a1 a6)))), (7, .long (F_X0_squaresOf I r0 a1 a6)), (0, .ref r0), (1, .int a1), (2, .long a2), (6, .int a6)]) (tat ok_X7_mostUnlike_0 (i := 33) (q := 64) rfl rfl) (Nat.le_of_ble_eq_true rfl) rfl <|
    V_pick [4, 5, 6, 1, 0, 7] rfl (V_X7_mostUnlike_64_1 hr0 hk (jx (P := P) kk (Eq.trans (if_neg c1) (if_neg c2))))))
def F_X7_mostUnlike_70 (I : WI) (r0 : Nat) (a1 : Int32) (a2 : Int64) (a4 : Int32) : Int32 :=
  a4
theorem V_X7_mostUnlike_70  {I : WI} {L : WL} {r0 : Nat} {a1 : Int32} {a2 : Int64} {a4 : Int32} {P : Int32 → Prop} {t : Tg} (hr0 : isX0 r0) (hr : ∀ v, P v → t = (some (.int v), ly0, I, L, R0)) (kk : P (F_X7_mostUnlike_70 I r0 a1 a2 a4)) : V (zM x_X7_mostUnlike 4 0 0 t) 70 [(0, .ref r0), (1, .int a1), (2, .long a2), (4, .int a4)] [] ly0 I L R0 0 0 :=
  V_iload (tat ok_X7_mostUnlike_0 (i := 36) (q := 72) rfl rfl) 3 rfl <|
    V_iret (tat ok_X7_mostUnlike_0 (i := 37) (q := 73) rfl rfl) _ rfl (nar_int _) (hr a4 (jx (P := P) kk rfl)) ⟨(Nat.le_of_ble_eq_true rfl), (Nat.le_of_ble_eq_true rfl)⟩
def F_X7_mostUnlike_9 (I : WI) (r0 : Nat) (a1 : Int32) (a2 : Int64) (a4 : Int32) (a5 : Int32) (a6 : Int32) : Int32 :=
  (fun q : Int32 × (Int32 × Int32) => (F_X7_mostUnlike_70 I r0 a1 a2 (p1 (p2 q)))) (fr0 (fun i x => (F_X7_mostUnlike_19_1 I r0 a1 a2 i (p1 x) (p2 x))) (F_X0_linesOf I r0 a1) (fu a6 (F_X0_linesOf I r0 a1)) a6 (a4, a5))
theorem V_X7_mostUnlike_9  {I : WI} {L : WL} {r0 : Nat} {a1 : Int32} {a2 : Int64} {a4 : Int32} {a5 : Int32} {a6 : Int32} {P : Int32 → Prop} {t : Tg} (hr0 : isX0 r0) (hb5 : bz a5 = a5) (hb6 : bz a6 = a6) (hr : ∀ v, P v → t = (some (.int v), ly0, I, L, R0)) (kk : P (F_X7_mostUnlike_9 I r0 a1 a2 a4 a5 a6)) : V (zM x_X7_mostUnlike 4 0 0 t) 9 [(0, .ref r0), (1, .int a1), (2, .long a2), (4, .int a4), (5, .int a5), (6, .int a6)] [] ly0 I L R0 0 0 :=
  V_fr0 (fun i x => (F_X7_mostUnlike_19_1 I r0 a1 a2 i (p1 x) (p2 x))) (F_X0_linesOf I r0 a1) (fun i x => V (zM x_X7_mostUnlike 4 0 0 t) 9 [(0, .ref r0), (1, .int a1), (2, .long a2), (4, .int (p1 x)), (5, .int (p2 x)), (6, .int i)] [] ly0 I L R0 0 0) (fun i x => P ((F_X7_mostUnlike_70 I r0 a1 a2 (p1 x)))) (c := a6) (s := (a4, a5)) (fun i x kx kb => V_iload (tat ok_X7_mostUnlike_0 (i := 6) (q := 11) rfl rfl) 5 rfl <|
    V_aload_n (tat ok_X7_mostUnlike_0 (i := 7) (q := 12) rfl rfl) 0 rfl rfl <|
    V_iload_n (tat ok_X7_mostUnlike_0 (i := 8) (q := 13) rfl rfl) 1 rfl rfl <|
    V_cv1 (ct_X0_linesOf I L r0 a1 hr0) mo_X0_linesOf (tat ok_X7_mostUnlike_0 (i := 9) (q := 16) rfl rfl) ml_X7_102 hr0 ⟨by decide, _, rfl, rfl⟩ ⟨(Nat.le_of_ble_eq_true rfl), (Nat.le_of_ble_eq_true rfl)⟩ ⟨(Nat.le_of_ble_eq_true rfl), (Nat.le_of_ble_eq_true rfl)⟩ (Nat.le_of_ble_eq_true rfl) <|
    V_icmp_ge (tat ok_X7_mostUnlike_0 (i := 10) (q := 19) rfl rfl) rfl (fun c0 => V_pick [0, 1, 2, 3] rfl (V_X7_mostUnlike_70 hr0 hr (kx c0))) (fun c0 => V_X7_mostUnlike_19_1 (P := (fun x => (fun i x => V (zM x_X7_mostUnlike 4 0 0 t) 9 [(0, .ref r0), (1, .int a1), (2, .long a2), (4, .int (p1 x)), (5, .int (p2 x)), (6, .int i)] [] ly0 I L R0 0 0) (i + 1) x)) hr0 (fun _ e => e) (kb c0))) kk
def F_X7_mostUnlike (I : WI) (r0 : Nat) (a1 : Int32) (a2 : Int64) : Int32 :=
  (F_X7_mostUnlike_9 I r0 a1 a2 (-1) 0 0)
theorem V_X7_mostUnlike  {I : WI} {L : WL} {r0 : Nat} {a1 : Int32} {a2 : Int64}  {P : Int32 → Prop} {t : Tg} (hr0 : isX0 r0) (hr : ∀ v, P v → t = (some (.int v), ly0, I, L, R0)) (kk : P (F_X7_mostUnlike I r0 a1 a2)) : V (zM x_X7_mostUnlike 4 0 0 t) 0 [(0, .ref r0), (1, .int a1), (2, .long a2)] [] ly0 I L R0 0 0 :=
  V_iconst (tat ok_X7_mostUnlike_0 (i := 0) (q := 1) rfl rfl) ic_m1 <|
    V_istore (lv' := [(4, .int (-1)), (0, .ref r0), (1, .int a1), (2, .long a2)]) (tat ok_X7_mostUnlike_0 (i := 1) (q := 3) rfl rfl) (Nat.le_of_ble_eq_true rfl) rfl <|
    V_iconst (tat ok_X7_mostUnlike_0 (i := 2) (q := 4) rfl rfl) ic_0 <|
    V_istore (lv' := [(5, .int 0), (4, .int (-1)), (0, .ref r0), (1, .int a1), (2, .long a2)]) (tat ok_X7_mostUnlike_0 (i := 3) (q := 6) rfl rfl) (Nat.le_of_ble_eq_true rfl) rfl <|
    V_iconst (tat ok_X7_mostUnlike_0 (i := 4) (q := 7) rfl rfl) ic_0 <|
    V_istore (lv' := [(6, .int 0), (5, .int 0), (4, .int (-1)), (0, .ref r0), (1, .int a1), (2, .long a2)]) (tat ok_X7_mostUnlike_0 (i := 5) (q := 9) rfl rfl) (Nat.le_of_ble_eq_true rfl) rfl <|
    V_pick [3, 4, 5, 2, 1, 0] rfl (V_X7_mostUnlike_9 hr0 rfl rfl hr (jx (P := P) kk rfl))
theorem ct_X7_mostUnlike  (I : WI) (L : WL) (r0 : Nat) (a1 : Int32) (a2 : Int64) (hr0 : isX0 r0) : Ct x_X7_mostUnlike 4 [.ref r0, .int a1, .long a2] ly0 I L R0 0 0 (some (.int (F_X7_mostUnlike I r0 a1 a2)), ly0, I, L, R0) :=
  Ct_of_V mo_X7_mostUnlike.1 (Nat.le_of_ble_eq_true rfl) (V_X7_mostUnlike (P := fun x => x = (F_X7_mostUnlike I r0 a1 a2)) hr0 (fun _ e => by rw [e]) rfl)
def F_X7_goBlind_8_1 (I : WI) (r1 : Nat) (a2 : Int64) (a4 : Int64) : Option ((Int64 × WI) ⊕ (Int64 × WI)) :=
  (if (lg_cmp a4 0) = 0 then some (.inl (a4, I)) else (if 60 ≤ (I 27 5) then some (.inl (a4, I)) else some (.inr ((a4 ^^^ ((F_X0_squaresOf I r1 0 (F_X7_mostUnlike I r1 0 a4)) ^^^ (F_X0_squaresOf I r1 1 (F_X7_mostUnlike I r1 1 a4)))), (u2 I 27 5 ((I 27 5) + 1))))))
theorem V_X7_goBlind_8_1  {I : WI} {L : WL} {r1 : Nat} {a2 : Int64} {a4 : Int64} {P : ((Int64 × WI) ⊕ (Int64 × WI)) → Prop} {t : Tg} (hr1 : isX0 r1) (he : ∀ x : (Int64 × WI), P (.inl x) → V (zM x_X7_goBlind 5 0 0 t) 75 [(0, .ref 27), (1, .ref r1), (2, .long a2), (4, .long (p1 x))] [] ly0 (p2 x) L R0 0 0) (hk : ∀ x : (Int64 × WI), P (.inr x) → V (zM x_X7_goBlind 5 0 0 t) 8 [(0, .ref 27), (1, .ref r1), (2, .long a2), (4, .long (p1 x))] [] ly0 (p2 x) L R0 0 0) : oP P (F_X7_goBlind_8_1 I r1 a2 a4) → V (zM x_X7_goBlind 5 0 0 t) 8 [(0, .ref 27), (1, .ref r1), (2, .long a2), (4, .long a4)] [] ly0 I L R0 0 0 :=
  fun _ =>
  have kq : (oP P (F_X7_goBlind_8_1 I r1 a2 a4)) ∧ True := ⟨by assumption, trivial⟩
  V_lload (tat ok_X7_goBlind_0 (i := 5) (q := 10) rfl rfl) 3 rfl <|
    V_lconst (v := 0) (tat ok_X7_goBlind_0 (i := 6) (q := 11) rfl rfl) rfl <|
    V_lcmp (tat ok_X7_goBlind_0 (i := 7) (q := 12) rfl rfl) <|
    V_if_eq (tat ok_X7_goBlind_0 (i := 8) (q := 15) rfl rfl) rfl (fun c1 => he (a4, I) (jq (P := oP P) kq (if_pos c1))) (fun c1 => V_aload_n (tat ok_X7_goBlind_0 (i := 9) (q := 16) rfl rfl) 0 rfl rfl <|
    V_getI (tat ok_X7_goBlind_0 (i := 10) (q := 19) rfl rfl) fk_X7_95 rfl <|
    V_bipush (tat ok_X7_goBlind_0 (i := 11) (q := 21) rfl rfl) bp_60 <|
    V_icmp_ge (tat ok_X7_goBlind_0 (i := 12) (q := 24) rfl rfl) rfl (fun c2 => he (a4, I) (jq (P := oP P) kq (Eq.trans (if_neg c1) (if_pos c2)))) (fun c2 => V_aload_n (tat ok_X7_goBlind_0 (i := 13) (q := 25) rfl rfl) 1 rfl rfl <|
    V_iconst (tat ok_X7_goBlind_0 (i := 14) (q := 26) rfl rfl) ic_0 <|
    V_aload_n (tat ok_X7_goBlind_0 (i := 15) (q := 27) rfl rfl) 1 rfl rfl <|
    V_iconst (tat ok_X7_goBlind_0 (i := 16) (q := 28) rfl rfl) ic_0 <|
    V_lload (tat ok_X7_goBlind_0 (i := 17) (q := 30) rfl rfl) 3 rfl <|
    V_cs3 (ct_X7_mostUnlike I L r1 0 a4 hr1) mo_X7_mostUnlike (tat ok_X7_goBlind_0 (i := 18) (q := 33) rfl rfl) ml_X7_98 ⟨(Nat.le_of_ble_eq_true rfl), (Nat.le_of_ble_eq_true rfl)⟩ ⟨(Nat.le_of_ble_eq_true rfl), (Nat.le_of_ble_eq_true rfl)⟩ (Nat.le_of_ble_eq_true rfl) <|
    V_cv2 (ct_X0_squaresOf I L r1 0 (F_X7_mostUnlike I r1 0 a4) hr1) mo_X0_squaresOf (tat ok_X7_goBlind_0 (i := 19) (q := 36) rfl rfl) ml_X7_79 hr1 ⟨by decide, _, rfl, rfl⟩ ⟨(Nat.le_of_ble_eq_true rfl), (Nat.le_of_ble_eq_true rfl)⟩ ⟨(Nat.le_of_ble_eq_true rfl), (Nat.le_of_ble_eq_true rfl)⟩ (Nat.le_of_ble_eq_true rfl) <|
    V_lstore (lv' := [(6, .long (F_X0_squaresOf I r1 0 (F_X7_mostUnlike I r1 0 a4))), (0, .ref 27), (1, .ref r1), (2, .long a2), (4, .long a4)]) (tat ok_X7_goBlind_0 (i := 20) (q := 38) rfl rfl) (Nat.le_of_ble_eq_true rfl) rfl <|
    V_aload_n (tat ok_X7_goBlind_0 (i := 21) (q := 39) rfl rfl) 2 rfl rfl <|
    V_iconst (tat ok_X7_goBlind_0 (i := 22) (q := 40) rfl rfl) ic_1 <|
    V_aload_n (tat ok_X7_goBlind_0 (i := 23) (q := 41) rfl rfl) 2 rfl rfl <|
    V_iconst (tat ok_X7_goBlind_0 (i := 24) (q := 42) rfl rfl) ic_1 <|
    V_lload (tat ok_X7_goBlind_0 (i := 25) (q := 44) rfl rfl) 4 rfl <|
    V_cs3 (ct_X7_mostUnlike I L r1 1 a4 hr1) mo_X7_mostUnlike (tat ok_X7_goBlind_0 (i := 26) (q := 47) rfl rfl) ml_X7_98 ⟨(Nat.le_of_ble_eq_true rfl), (Nat.le_of_ble_eq_true rfl)⟩ ⟨(Nat.le_of_ble_eq_true rfl), (Nat.le_of_ble_eq_true rfl)⟩ (Nat.le_of_ble_eq_true rfl) <|
    V_cv2 (ct_X0_squaresOf I L r1 1 (F_X7_mostUnlike I r1 1 a4) hr1) mo_X0_squaresOf (tat ok_X7_goBlind_0 (i := 27) (q := 50) rfl rfl) ml_X7_79 hr1 ⟨by decide, _, rfl, rfl⟩ ⟨(Nat.le_of_ble_eq_true rfl), (Nat.le_of_ble_eq_true rfl)⟩ ⟨(Nat.le_of_ble_eq_true rfl), (Nat.le_of_ble_eq_true rfl)⟩ (Nat.le_of_ble_eq_true rfl) <|
    V_lstore (lv' := [(8, .long (F_X0_squaresOf I r1 1 (F_X7_mostUnlike I r1 1 a4))), (6, .long (F_X0_squaresOf I r1 0 (F_X7_mostUnlike I r1 0 a4))), (0, .ref 27), (1, .ref r1), (2, .long a2), (4, .long a4)]) (tat ok_X7_goBlind_0 (i := 28) (q := 52) rfl rfl) (Nat.le_of_ble_eq_true rfl) rfl <|
    V_lload (tat ok_X7_goBlind_0 (i := 29) (q := 54) rfl rfl) 5 rfl <|
    V_lload (tat ok_X7_goBlind_0 (i := 30) (q := 56) rfl rfl) 1 rfl <|
    V_lload (tat ok_X7_goBlind_0 (i := 31) (q := 58) rfl rfl) 0 rfl <|
    V_lxor (tat ok_X7_goBlind_0 (i := 32) (q := 59) rfl rfl) <|
    V_lxor (tat ok_X7_goBlind_0 (i := 33) (q := 60) rfl rfl) <|
    V_lstore (lv' := [(4, .long (a4 ^^^ ((F_X0_squaresOf I r1 0 (F_X7_mostUnlike I r1 0 a4)) ^^^ (F_X0_squaresOf I r1 1 (F_X7_mostUnlike I r1 1 a4))))), (8, .long (F_X0_squaresOf I r1 1 (F_X7_mostUnlike I r1 1 a4))), (6, .long (F_X0_squaresOf I r1 0 (F_X7_mostUnlike I r1 0 a4))), (0, .ref 27), (1, .ref r1), (2, .long a2)]) (tat ok_X7_goBlind_0 (i := 34) (q := 62) rfl rfl) (Nat.le_of_ble_eq_true rfl) rfl <|
    V_aload_n (tat ok_X7_goBlind_0 (i := 35) (q := 63) rfl rfl) 3 rfl rfl <|
    V_dup (tat ok_X7_goBlind_0 (i := 36) (q := 64) rfl rfl) rfl <|
    V_getI (tat ok_X7_goBlind_0 (i := 37) (q := 67) rfl rfl) fk_X7_95 rfl <|
    V_iconst (tat ok_X7_goBlind_0 (i := 38) (q := 68) rfl rfl) ic_1 <|
    V_iadd (tat ok_X7_goBlind_0 (i := 39) (q := 69) rfl rfl) <|
    V_putI (tat ok_X7_goBlind_1 (i := 0) (q := 72) rfl rfl) fk_X7_95 rfl rfl <|
    V_goto (tat ok_X7_goBlind_1 (i := 1) (q := 75) rfl rfl) rfl <|
    V_pick [3, 4, 5, 0] rfl (hk ((a4 ^^^ ((F_X0_squaresOf I r1 0 (F_X7_mostUnlike I r1 0 a4)) ^^^ (F_X0_squaresOf I r1 1 (F_X7_mostUnlike I r1 1 a4)))), (u2 I 27 5 ((I 27 5) + 1))) (jq (P := oP P) kq (Eq.trans (if_neg c1) (if_neg c2))))))
def F_X7_goBlind_88 (I : WI) (r1 : Nat) (a2 : Int64) (a4 : Int64) (s0 : Int32) : Option WI :=
  some (u2 (u2 I 27 0 s0) 27 4 (F_J13_bitCount_95d88 a4))
theorem V_X7_goBlind_88  {I : WI} {L : WL} {r1 : Nat} {a2 : Int64} {a4 : Int64} {s0 : Int32} {P : WI → Prop} {t : Tg} (hr1 : isX0 r1) (hs0 : bz s0 = s0) (hr : ∀ v, P v → t = (none, ly0, v, L, R0)) : oP P (F_X7_goBlind_88 I r1 a2 a4 s0) → V (zM x_X7_goBlind 5 0 0 t) 88 [(0, .ref 27), (1, .ref r1), (2, .long a2), (4, .long a4)] [.int s0, .ref 27] ly0 I L R0 0 0 :=
  fun _ =>
  have kq : (oP P (F_X7_goBlind_88 I r1 a2 a4 s0)) ∧ True := ⟨by assumption, trivial⟩
  V_putZ (tat ok_X7_goBlind_1 (i := 10) (q := 91) rfl rfl) fk_X7_40 rfl rfl hs0 <|
    V_aload_n (tat ok_X7_goBlind_1 (i := 11) (q := 92) rfl rfl) 0 rfl rfl <|
    V_lload (tat ok_X7_goBlind_1 (i := 12) (q := 94) rfl rfl) 3 rfl <|
    V_cs1 (ct_J13_bitCount_95d88 (u2 I 27 0 s0) L a4 ) mo_J13_bitCount_95d88 (tat ok_X7_goBlind_1 (i := 13) (q := 97) rfl rfl) ml_X7_82 ⟨(Nat.le_of_ble_eq_true rfl), (Nat.le_of_ble_eq_true rfl)⟩ ⟨(Nat.le_of_ble_eq_true rfl), (Nat.le_of_ble_eq_true rfl)⟩ (Nat.le_of_ble_eq_true rfl) <|
    V_putI (tat ok_X7_goBlind_1 (i := 14) (q := 100) rfl rfl) fk_X7_92 rfl rfl <|
    V_vret (tat ok_X7_goBlind_1 (i := 15) (q := 101) rfl rfl) rfl (hr (u2 (u2 I 27 0 s0) 27 4 (F_J13_bitCount_95d88 a4)) (jq (P := oP P) kq rfl)) ⟨(Nat.le_of_ble_eq_true rfl), (Nat.le_of_ble_eq_true rfl)⟩
def F_X7_goBlind_75 (I : WI) (r1 : Nat) (a2 : Int64) (a4 : Int64) : Option WI :=
  (if (lg_cmp a4 0) = 0 then (F_X7_goBlind_88 I r1 a2 a4 1) else (F_X7_goBlind_88 I r1 a2 a4 0))
theorem V_X7_goBlind_75  {I : WI} {L : WL} {r1 : Nat} {a2 : Int64} {a4 : Int64} {P : WI → Prop} {t : Tg} (hr1 : isX0 r1) (hr : ∀ v, P v → t = (none, ly0, v, L, R0)) : oP P (F_X7_goBlind_75 I r1 a2 a4) → V (zM x_X7_goBlind 5 0 0 t) 75 [(0, .ref 27), (1, .ref r1), (2, .long a2), (4, .long a4)] [] ly0 I L R0 0 0 :=
  fun _ =>
  have kq : (oP P (F_X7_goBlind_75 I r1 a2 a4)) ∧ True := ⟨by assumption, trivial⟩
  V_aload_n (tat ok_X7_goBlind_1 (i := 2) (q := 76) rfl rfl) 0 rfl rfl <|
    V_lload (tat ok_X7_goBlind_1 (i := 3) (q := 78) rfl rfl) 3 rfl <|
    V_lconst (v := 0) (tat ok_X7_goBlind_1 (i := 4) (q := 79) rfl rfl) rfl <|
    V_lcmp (tat ok_X7_goBlind_1 (i := 5) (q := 80) rfl rfl) <|
    V_if_ne (tat ok_X7_goBlind_1 (i := 6) (q := 83) rfl rfl) rfl (fun c3 => V_iconst (tat ok_X7_goBlind_1 (i := 9) (q := 88) rfl rfl) ic_0 <|
    V_X7_goBlind_88 hr1 rfl hr (jq (P := oP P) kq (if_neg c3))) (fun c3 => V_iconst (tat ok_X7_goBlind_1 (i := 7) (q := 84) rfl rfl) ic_1 <|
    V_goto (tat ok_X7_goBlind_1 (i := 8) (q := 87) rfl rfl) rfl <|
    V_X7_goBlind_88 hr1 rfl hr (jq (P := oP P) kq (if_pos c3)))
def F_X7_goBlind_8 (I : WI) (r1 : Nat) (a2 : Int64) (a4 : Int64) : Option WI :=
  (lpp (fun x => (F_X7_goBlind_8_1 (p2 x) r1 a2 (p1 x))) 4294967296 (a4, I)).bind (fun q => (F_X7_goBlind_75 (p2 q) r1 a2 (p1 q)))
theorem V_X7_goBlind_8  {I : WI} {L : WL} {r1 : Nat} {a2 : Int64} {a4 : Int64} {P : WI → Prop} {t : Tg} (hr1 : isX0 r1) (hr : ∀ v, P v → t = (none, ly0, v, L, R0)) (kk : oP P (F_X7_goBlind_8 I r1 a2 a4)) : V (zM x_X7_goBlind 5 0 0 t) 8 [(0, .ref 27), (1, .ref r1), (2, .long a2), (4, .long a4)] [] ly0 I L R0 0 0 :=
  V_lpp (fun x => (F_X7_goBlind_8_1 (p2 x) r1 a2 (p1 x))) (fun x => V (zM x_X7_goBlind 5 0 0 t) 8 [(0, .ref 27), (1, .ref r1), (2, .long a2), (4, .long (p1 x))] [] ly0 (p2 x) L R0 0 0) (fun x => oP P ((F_X7_goBlind_75 (p2 x) r1 a2 (p1 x)))) (s := (a4, I)) (fun x e0 => V_X7_goBlind_8_1 (P := Sum.elim (fun x => oP P ((F_X7_goBlind_75 (p2 x) r1 a2 (p1 x)))) (fun x => V (zM x_X7_goBlind 5 0 0 t) 8 [(0, .ref 27), (1, .ref r1), (2, .long a2), (4, .long (p1 x))] [] ly0 (p2 x) L R0 0 0)) hr1 (fun x e => V_X7_goBlind_75 hr1 hr e) (fun _ e => e) e0) (oP_bind (f := fun q => _) kk)
def F_X7_goBlind (I : WI) (r1 : Nat) (a2 : Int64) : Option WI :=
  (F_X7_goBlind_8 (u2 I 27 5 0) r1 a2 a2)
theorem V_X7_goBlind  {I : WI} {L : WL} {r1 : Nat} {a2 : Int64}  {P : WI → Prop} {t : Tg} (hr1 : isX0 r1) (hr : ∀ v, P v → t = (none, ly0, v, L, R0)) : oP P (F_X7_goBlind I r1 a2) → V (zM x_X7_goBlind 5 0 0 t) 0 [(0, .ref 27), (1, .ref r1), (2, .long a2)] [] ly0 I L R0 0 0 :=
  fun _ =>
  have kq : (oP P (F_X7_goBlind I r1 a2)) ∧ True := ⟨by assumption, trivial⟩
  V_lload_n (tat ok_X7_goBlind_0 (i := 0) (q := 1) rfl rfl) 2 rfl rfl <|
    V_lstore (lv' := [(4, .long a2), (0, .ref 27), (1, .ref r1), (2, .long a2)]) (tat ok_X7_goBlind_0 (i := 1) (q := 3) rfl rfl) (Nat.le_of_ble_eq_true rfl) rfl <|
    V_aload_n (tat ok_X7_goBlind_0 (i := 2) (q := 4) rfl rfl) 1 rfl rfl <|
    V_iconst (tat ok_X7_goBlind_0 (i := 3) (q := 5) rfl rfl) ic_0 <|
    V_putI (tat ok_X7_goBlind_0 (i := 4) (q := 8) rfl rfl) fk_X7_95 rfl rfl <|
    V_pick [1, 2, 3, 0] rfl (V_X7_goBlind_8 hr1 hr (jq (P := oP P) kq rfl))
theorem ct_X7_goBlind  (I : WI) (L : WL) (r1 : Nat) (a2 : Int64) (hr1 : isX0 r1) {v : WI} (h : (F_X7_goBlind I r1 a2) = some v) : Ct x_X7_goBlind 5 [.ref 27, .ref r1, .long a2] ly0 I L R0 0 0 (none, ly0, v, L, R0) :=
  Ct_of_V mo_X7_goBlind.1 (Nat.le_of_ble_eq_true rfl) (V_X7_goBlind (P := fun x => x = v) hr1 (fun _ e => by rw [e]) (by rw [h]; exact rfl))
def F_X7_slantsThatMake_62_1 (L : WL) (a1 : Int64) (a4 : Int32) (a3 : Int32) : Option (Int32 ⊕ Int32) :=
  some (.inr a3)
theorem V_X7_slantsThatMake_62_1  {I : WI} {L : WL} {a1 : Int64} {a4 : Int32} {a3 : Int32} {P : (Int32 ⊕ Int32) → Prop} {t : Tg} (hr : ∀ v, P (.inl v) → t = (some (.int v), ly0, I, L, R0)) (hk : ∀ x : Int32, P (.inr x) → V (zM x_X7_slantsThatMake 1 0 0 t) 5 [(0, .ref 27), (1, .long a1), (3, .int x), (4, .int (a4 + 1))] [] ly0 I L R0 0 0) : oP P (F_X7_slantsThatMake_62_1 L a1 a4 a3) → V (zM x_X7_slantsThatMake 1 0 0 t) 62 [(0, .ref 27), (1, .long a1), (3, .int a3), (4, .int a4)] [] ly0 I L R0 0 0 :=
  fun _ =>
  have kq : (oP P (F_X7_slantsThatMake_62_1 L a1 a4 a3)) ∧ True := ⟨by assumption, trivial⟩
  V_iinc (v := (a4 + 1)) (lv' := [(4, .int (a4 + 1)), (0, .ref 27), (1, .long a1), (3, .int a3)]) (tat ok_X7_slantsThatMake_0 (i := 39) (q := 65) rfl rfl) 3 rfl (ia ic_1) (Nat.le_of_ble_eq_true rfl) rfl <|
    V_goto (tat ok_X7_slantsThatMake_1 (i := 0) (q := 68) rfl rfl) rfl <|
    V_pick [1, 2, 3, 0] rfl (hk a3 (jq (P := oP P) kq rfl))
def F_X7_slantsThatMake_48_1 (L : WL) (a1 : Int64) (a4 : Int32) (a3 : Int32) (a5 : Int64) : Option (Int32 ⊕ Int32) :=
  (if (lg_cmp a5 0) = 0 then (F_X7_slantsThatMake_62_1 L a1 a4 a3) else (F_X7_slantsThatMake_62_1 L a1 a4 (a3 ||| (1 <<< (a4 &&& 31)))))
theorem V_X7_slantsThatMake_48_1  {I : WI} {L : WL} {a1 : Int64} {a4 : Int32} {a3 : Int32} {a5 : Int64} {P : (Int32 ⊕ Int32) → Prop} {t : Tg} (hr : ∀ v, P (.inl v) → t = (some (.int v), ly0, I, L, R0)) (hk : ∀ x : Int32, P (.inr x) → V (zM x_X7_slantsThatMake 1 0 0 t) 5 [(0, .ref 27), (1, .long a1), (3, .int x), (4, .int (a4 + 1))] [] ly0 I L R0 0 0) : oP P (F_X7_slantsThatMake_48_1 L a1 a4 a3 a5) → V (zM x_X7_slantsThatMake 1 0 0 t) 48 [(0, .ref 27), (1, .long a1), (3, .int a3), (4, .int a4), (5, .long a5)] [] ly0 I L R0 0 0 :=
  fun _ =>
  have kq : (oP P (F_X7_slantsThatMake_48_1 L a1 a4 a3 a5)) ∧ True := ⟨by assumption, trivial⟩
  V_lload (tat ok_X7_slantsThatMake_0 (i := 29) (q := 50) rfl rfl) 4 rfl <|
    V_lconst (v := 0) (tat ok_X7_slantsThatMake_0 (i := 30) (q := 51) rfl rfl) rfl <|
    V_lcmp (tat ok_X7_slantsThatMake_0 (i := 31) (q := 52) rfl rfl) <|
    V_if_eq (tat ok_X7_slantsThatMake_0 (i := 32) (q := 55) rfl rfl) rfl (fun c3 => V_pick [0, 1, 2, 3] rfl (V_X7_slantsThatMake_62_1  hr hk (jq (P := oP P) kq (if_pos c3)))) (fun c3 => V_iload_n (tat ok_X7_slantsThatMake_0 (i := 33) (q := 56) rfl rfl) 2 rfl rfl <|
    V_iconst (tat ok_X7_slantsThatMake_0 (i := 34) (q := 57) rfl rfl) ic_1 <|
    V_iload (tat ok_X7_slantsThatMake_0 (i := 35) (q := 59) rfl rfl) 3 rfl <|
    V_ishl (tat ok_X7_slantsThatMake_0 (i := 36) (q := 60) rfl rfl) <|
    V_ior (tat ok_X7_slantsThatMake_0 (i := 37) (q := 61) rfl rfl) <|
    V_istore_n (lv' := [(3, .int (a3 ||| (1 <<< (a4 &&& 31)))), (0, .ref 27), (1, .long a1), (4, .int a4), (5, .long a5)]) (tat ok_X7_slantsThatMake_0 (i := 38) (q := 62) rfl rfl) rfl (Nat.le_of_ble_eq_true rfl) rfl <|
    V_pick [1, 2, 0, 3] rfl (V_X7_slantsThatMake_62_1  hr hk (jq (P := oP P) kq (if_neg c3))))
def F_X7_slantsThatMake_15_1 (L : WL) (a1 : Int64) (a4 : Int32) (a3 : Int32) : Option (Int32 ⊕ Int32) :=
  (if a4 < 0 ∨ 15 ≤ Int32.toNatClampNeg a4 then none else (if (lg_cmp (a1 &&& (L 28 (Int32.toNatClampNeg a4))) 0) = 0 then (F_X7_slantsThatMake_48_1 L a1 a4 a3 (a1 &&& (L 28 (Int32.toNatClampNeg a4)))) else (if a4 < 0 ∨ 15 ≤ Int32.toNatClampNeg a4 then none else (if (lg_cmp (a1 &&& (L 28 (Int32.toNatClampNeg a4))) (L 28 (Int32.toNatClampNeg a4))) = 0 then (F_X7_slantsThatMake_48_1 L a1 a4 a3 (a1 &&& (L 28 (Int32.toNatClampNeg a4)))) else some (.inl (-1))))))
theorem V_X7_slantsThatMake_15_1  {I : WI} {L : WL} {a1 : Int64} {a4 : Int32} {a3 : Int32} {P : (Int32 ⊕ Int32) → Prop} {t : Tg} (hr : ∀ v, P (.inl v) → t = (some (.int v), ly0, I, L, R0)) (hk : ∀ x : Int32, P (.inr x) → V (zM x_X7_slantsThatMake 1 0 0 t) 5 [(0, .ref 27), (1, .long a1), (3, .int x), (4, .int (a4 + 1))] [] ly0 I L R0 0 0) : oP P (F_X7_slantsThatMake_15_1 L a1 a4 a3) → V (zM x_X7_slantsThatMake 1 0 0 t) 15 [(0, .ref 27), (1, .long a1), (3, .int a3), (4, .int a4)] [] ly0 I L R0 0 0 :=
  fun _ =>
  have kq : (oP P (F_X7_slantsThatMake_15_1 L a1 a4 a3)) ∧ True := ⟨by assumption, trivial⟩
  V_lload_n (tat ok_X7_slantsThatMake_0 (i := 9) (q := 16) rfl rfl) 1 rfl rfl <|
    V_aload_n (tat ok_X7_slantsThatMake_0 (i := 10) (q := 17) rfl rfl) 0 rfl rfl <|
    V_getR (tat ok_X7_slantsThatMake_0 (i := 11) (q := 20) rfl rfl) fk_X7_9 rfl rfl <|
    V_iload (tat ok_X7_slantsThatMake_0 (i := 12) (q := 22) rfl rfl) 3 rfl <|
    (if c1 : a4 < 0 ∨ 15 ≤ Int32.toNatClampNeg a4 then ((jq (P := oP P) kq (if_pos c1))).elim else V_lald (tat ok_X7_slantsThatMake_0 (i := 13) (q := 23) rfl rfl) rfl c1 <|
    V_land (tat ok_X7_slantsThatMake_0 (i := 14) (q := 24) rfl rfl) <|
    V_lstore (lv' := [(5, .long (a1 &&& (L 28 (Int32.toNatClampNeg a4)))), (0, .ref 27), (1, .long a1), (3, .int a3), (4, .int a4)]) (tat ok_X7_slantsThatMake_0 (i := 15) (q := 26) rfl rfl) (Nat.le_of_ble_eq_true rfl) rfl <|
    V_lload (tat ok_X7_slantsThatMake_0 (i := 16) (q := 28) rfl rfl) 0 rfl <|
    V_lconst (v := 0) (tat ok_X7_slantsThatMake_0 (i := 17) (q := 29) rfl rfl) rfl <|
    V_lcmp (tat ok_X7_slantsThatMake_0 (i := 18) (q := 30) rfl rfl) <|
    V_if_eq (tat ok_X7_slantsThatMake_0 (i := 19) (q := 33) rfl rfl) rfl (fun c2 => V_pick [1, 2, 3, 4, 0] rfl (V_X7_slantsThatMake_48_1  hr hk (jq (P := oP P) kq (Eq.trans (if_neg c1) (if_pos c2))))) (fun c2 => V_lload (tat ok_X7_slantsThatMake_0 (i := 20) (q := 35) rfl rfl) 0 rfl <|
    V_aload_n (tat ok_X7_slantsThatMake_0 (i := 21) (q := 36) rfl rfl) 1 rfl rfl <|
    V_getR (tat ok_X7_slantsThatMake_0 (i := 22) (q := 39) rfl rfl) fk_X7_9 rfl rfl <|
    V_iload (tat ok_X7_slantsThatMake_0 (i := 23) (q := 41) rfl rfl) 4 rfl <|
    (if c4 : a4 < 0 ∨ 15 ≤ Int32.toNatClampNeg a4 then ((jq (P := oP P) kq (Eq.trans (if_neg c1) (Eq.trans (if_neg c2) (if_pos c4))))).elim else V_lald (tat ok_X7_slantsThatMake_0 (i := 24) (q := 42) rfl rfl) rfl c4 <|
    V_lcmp (tat ok_X7_slantsThatMake_0 (i := 25) (q := 43) rfl rfl) <|
    V_if_eq (tat ok_X7_slantsThatMake_0 (i := 26) (q := 46) rfl rfl) rfl (fun c5 => V_pick [1, 2, 3, 4, 0] rfl (V_X7_slantsThatMake_48_1  hr hk (jq (P := oP P) kq (Eq.trans (if_neg c1) (Eq.trans (if_neg c2) (Eq.trans (if_neg c4) (if_pos c5))))))) (fun c5 => V_iconst (tat ok_X7_slantsThatMake_0 (i := 27) (q := 47) rfl rfl) ic_m1 <|
    V_iret (tat ok_X7_slantsThatMake_0 (i := 28) (q := 48) rfl rfl) _ rfl (nar_int _) (hr (-1) (jq (P := oP P) kq (Eq.trans (if_neg c1) (Eq.trans (if_neg c2) (Eq.trans (if_neg c4) (if_neg c5)))))) ⟨(Nat.le_of_ble_eq_true rfl), (Nat.le_of_ble_eq_true rfl)⟩))))
def F_X7_slantsThatMake_68 (L : WL) (a1 : Int64) (a3 : Int32) : Option Int32 :=
  some a3
theorem V_X7_slantsThatMake_68  {I : WI} {L : WL} {a1 : Int64} {a3 : Int32} {P : Int32 → Prop} {t : Tg} (hr : ∀ v, P v → t = (some (.int v), ly0, I, L, R0)) : oP P (F_X7_slantsThatMake_68 L a1 a3) → V (zM x_X7_slantsThatMake 1 0 0 t) 68 [(0, .ref 27), (1, .long a1), (3, .int a3)] [] ly0 I L R0 0 0 :=
  fun _ =>
  have kq : (oP P (F_X7_slantsThatMake_68 L a1 a3)) ∧ True := ⟨by assumption, trivial⟩
  V_iload_n (tat ok_X7_slantsThatMake_1 (i := 1) (q := 69) rfl rfl) 2 rfl rfl <|
    V_iret (tat ok_X7_slantsThatMake_1 (i := 2) (q := 70) rfl rfl) _ rfl (nar_int _) (hr a3 (jq (P := oP P) kq rfl)) ⟨(Nat.le_of_ble_eq_true rfl), (Nat.le_of_ble_eq_true rfl)⟩
def F_X7_slantsThatMake_5 (L : WL) (a1 : Int64) (a3 : Int32) (a4 : Int32) : Option Int32 :=
  (frp1 (fun i x => (F_X7_slantsThatMake_15_1 L a1 i x)) 15 (fu a4 15) a4 a3).bind (Sum.elim (fun r => some (r)) (fun q => (F_X7_slantsThatMake_68 L a1 (p2 q))))
theorem V_X7_slantsThatMake_5  {I : WI} {L : WL} {a1 : Int64} {a3 : Int32} {a4 : Int32} {P : Int32 → Prop} {t : Tg} (hb3 : bz a3 = a3) (hb4 : bz a4 = a4) (hr : ∀ v, P v → t = (some (.int v), ly0, I, L, R0)) (kk : oP P (F_X7_slantsThatMake_5 L a1 a3 a4)) : V (zM x_X7_slantsThatMake 1 0 0 t) 5 [(0, .ref 27), (1, .long a1), (3, .int a3), (4, .int a4)] [] ly0 I L R0 0 0 :=
  V_frp1 (fun i x => (F_X7_slantsThatMake_15_1 L a1 i x)) 15 (fun i x => V (zM x_X7_slantsThatMake 1 0 0 t) 5 [(0, .ref 27), (1, .long a1), (3, .int x), (4, .int i)] [] ly0 I L R0 0 0) (fun i x => oP P ((F_X7_slantsThatMake_68 L a1 x))) (fun r => P (r)) (c := a4) (s := a3) (fun i x kx kb => V_iload (tat ok_X7_slantsThatMake_0 (i := 4) (q := 7) rfl rfl) 3 rfl <|
    V_aload_n (tat ok_X7_slantsThatMake_0 (i := 5) (q := 8) rfl rfl) 0 rfl rfl <|
    V_getR (tat ok_X7_slantsThatMake_0 (i := 6) (q := 11) rfl rfl) fk_X7_9 rfl rfl <|
    V_alen (tat ok_X7_slantsThatMake_0 (i := 7) (q := 12) rfl rfl) rfl ⟨by decide, by decide⟩ nl_15 <|
    V_icmp_ge (tat ok_X7_slantsThatMake_0 (i := 8) (q := 15) rfl rfl) rfl (fun c0 => V_pick [0, 1, 2] rfl (V_X7_slantsThatMake_68  hr (kx c0))) (fun c0 => V_X7_slantsThatMake_15_1 (P := (Sum.elim (fun r => P (r)) (fun x => (fun i x => V (zM x_X7_slantsThatMake 1 0 0 t) 5 [(0, .ref 27), (1, .long a1), (3, .int x), (4, .int i)] [] ly0 I L R0 0 0) (i + 1) x)))  (fun v e => hr v e) (fun _ e => e) (kb c0))) (oP_sum kk)
def F_X7_slantsThatMake (L : WL) (a1 : Int64) : Option Int32 :=
  (F_X7_slantsThatMake_5 L a1 0 0)
theorem V_X7_slantsThatMake  {I : WI} {L : WL} {a1 : Int64}  {P : Int32 → Prop} {t : Tg} (hr : ∀ v, P v → t = (some (.int v), ly0, I, L, R0)) : oP P (F_X7_slantsThatMake L a1) → V (zM x_X7_slantsThatMake 1 0 0 t) 0 [(0, .ref 27), (1, .long a1)] [] ly0 I L R0 0 0 :=
  fun _ =>
  have kq : (oP P (F_X7_slantsThatMake L a1)) ∧ True := ⟨by assumption, trivial⟩
  V_iconst (tat ok_X7_slantsThatMake_0 (i := 0) (q := 1) rfl rfl) ic_0 <|
    V_istore_n (lv' := [(3, .int 0), (0, .ref 27), (1, .long a1)]) (tat ok_X7_slantsThatMake_0 (i := 1) (q := 2) rfl rfl) rfl (Nat.le_of_ble_eq_true rfl) rfl <|
    V_iconst (tat ok_X7_slantsThatMake_0 (i := 2) (q := 3) rfl rfl) ic_0 <|
    V_istore (lv' := [(4, .int 0), (3, .int 0), (0, .ref 27), (1, .long a1)]) (tat ok_X7_slantsThatMake_0 (i := 3) (q := 5) rfl rfl) (Nat.le_of_ble_eq_true rfl) rfl <|
    V_pick [2, 3, 1, 0] rfl (V_X7_slantsThatMake_5 rfl rfl hr (jq (P := oP P) kq rfl))
theorem ct_X7_slantsThatMake  (I : WI) (L : WL) (a1 : Int64)  {v : Int32} (h : (F_X7_slantsThatMake L a1) = some v) : Ct x_X7_slantsThatMake 1 [.ref 27, .long a1] ly0 I L R0 0 0 (some (.int v), ly0, I, L, R0) :=
  Ct_of_V mo_X7_slantsThatMake.1 (Nat.le_of_ble_eq_true rfl) (V_X7_slantsThatMake (P := fun x => x = v)  (fun _ e => by rw [e]) (by rw [h]; exact rfl))
def F_X7_trySlants_59 (I : WI) (L : WL) (a1 : Int32) (a2 : Int32) (a3 : Int64) : Option WI :=
  some I
theorem V_X7_trySlants_59  {I : WI} {L : WL} {a1 : Int32} {a2 : Int32} {a3 : Int64}  {P : WI → Prop} {t : Tg} (hr : ∀ v, P v → t = (none, ly0, v, L, R0)) : oP P (F_X7_trySlants_59 I L a1 a2 a3) → V (zM x_X7_trySlants 3 0 0 t) 59 [(0, .ref 27), (1, .int a1), (2, .int a2), (3, .long a3)] [] ly0 I L R0 0 0 :=
  fun _ =>
  have kq : (oP P (F_X7_trySlants_59 I L a1 a2 a3)) ∧ True := ⟨by assumption, trivial⟩
  V_vret (tat ok_X7_trySlants_0 (i := 31) (q := 60) rfl rfl) rfl (hr I (jq (P := oP P) kq rfl)) ⟨(Nat.le_of_ble_eq_true rfl), (Nat.le_of_ble_eq_true rfl)⟩
def F_X7_trySlants_46 (I : WI) (L : WL) (a1 : Int32) (a2 : Int32) (a3 : Int64) (a5 : Int32) : Option WI :=
  (F_X7_trySlants_59 (F_X7_take (u2 I 27 0 1) a1 a2 a5) L a1 a2 a3)
theorem V_X7_trySlants_46  {I : WI} {L : WL} {a1 : Int32} {a2 : Int32} {a3 : Int64} {a5 : Int32} {P : WI → Prop} {t : Tg} (hr : ∀ v, P v → t = (none, ly0, v, L, R0)) : oP P (F_X7_trySlants_46 I L a1 a2 a3 a5) → V (zM x_X7_trySlants 3 0 0 t) 46 [(0, .ref 27), (1, .int a1), (2, .int a2), (3, .long a3), (5, .int a5)] [] ly0 I L R0 0 0 :=
  fun _ =>
  have kq : (oP P (F_X7_trySlants_46 I L a1 a2 a3 a5)) ∧ True := ⟨by assumption, trivial⟩
  V_aload_n (tat ok_X7_trySlants_0 (i := 23) (q := 47) rfl rfl) 0 rfl rfl <|
    V_iconst (tat ok_X7_trySlants_0 (i := 24) (q := 48) rfl rfl) ic_1 <|
    V_putZ (tat ok_X7_trySlants_0 (i := 25) (q := 51) rfl rfl) fk_X7_40 rfl rfl rfl <|
    V_aload_n (tat ok_X7_trySlants_0 (i := 26) (q := 52) rfl rfl) 0 rfl rfl <|
    V_iload_n (tat ok_X7_trySlants_0 (i := 27) (q := 53) rfl rfl) 1 rfl rfl <|
    V_iload_n (tat ok_X7_trySlants_0 (i := 28) (q := 54) rfl rfl) 2 rfl rfl <|
    V_iload (tat ok_X7_trySlants_0 (i := 29) (q := 56) rfl rfl) 4 rfl <|
    V_cv3v (ct_X7_take (u2 I 27 0 1) L a1 a2 a5 ) mo_X7_take (tat ok_X7_trySlants_0 (i := 30) (q := 59) rfl rfl) ml_X7_51 rfl ⟨by decide, _, rfl, rfl⟩ ⟨(Nat.le_of_ble_eq_true rfl), (Nat.le_of_ble_eq_true rfl)⟩ ⟨(Nat.le_of_ble_eq_true rfl), (Nat.le_of_ble_eq_true rfl)⟩ (Nat.le_of_ble_eq_true rfl) <|
    V_pick [0, 1, 2, 3] rfl (V_X7_trySlants_59  hr (jq (P := oP P) kq rfl))
def F_X7_trySlants (I : WI) (L : WL) (a1 : Int32) (a2 : Int32) (a3 : Int64) : Option WI :=
  (Option.bind (F_X7_slantsThatMake L a3) (fun v1 => (if 0 ≤ v1 then (if (bz (I 27 0)) = 0 then (F_X7_trySlants_46 I L a1 a2 a3 v1) else (if (F_X7_acts I) ≤ (((F_J6_bitCount_0f7a4 a1) + (F_J6_bitCount_0f7a4 a2)) + (F_J6_bitCount_0f7a4 v1)) then (F_X7_trySlants_59 I L a1 a2 a3) else (F_X7_trySlants_46 I L a1 a2 a3 v1))) else some I)))
theorem V_X7_trySlants  {I : WI} {L : WL} {a1 : Int32} {a2 : Int32} {a3 : Int64}  {P : WI → Prop} {t : Tg} (hr : ∀ v, P v → t = (none, ly0, v, L, R0)) : oP P (F_X7_trySlants I L a1 a2 a3) → V (zM x_X7_trySlants 3 0 0 t) 0 [(0, .ref 27), (1, .int a1), (2, .int a2), (3, .long a3)] [] ly0 I L R0 0 0 :=
  fun _ =>
  have kq : (oP P (F_X7_trySlants I L a1 a2 a3)) ∧ True := ⟨by assumption, trivial⟩
  V_aload_n (tat ok_X7_trySlants_0 (i := 0) (q := 1) rfl rfl) 0 rfl rfl <|
    V_lload_n (tat ok_X7_trySlants_0 (i := 1) (q := 2) rfl rfl) 3 rfl rfl <|
    oP_case (jq (P := oP P) kq rfl) (fun v1 e1 _ => V_cv1 (ct_X7_slantsThatMake I L a3  e1) mo_X7_slantsThatMake (tat ok_X7_trySlants_0 (i := 2) (q := 5) rfl rfl) ml_X7_109 rfl ⟨by decide, _, rfl, rfl⟩ ⟨(Nat.le_of_ble_eq_true rfl), (Nat.le_of_ble_eq_true rfl)⟩ ⟨(Nat.le_of_ble_eq_true rfl), (Nat.le_of_ble_eq_true rfl)⟩ (Nat.le_of_ble_eq_true rfl) <|
    V_istore (lv' := [(5, .int v1), (0, .ref 27), (1, .int a1), (2, .int a2), (3, .long a3)]) (tat ok_X7_trySlants_0 (i := 3) (q := 7) rfl rfl) (Nat.le_of_ble_eq_true rfl) rfl <|
    V_iload (tat ok_X7_trySlants_0 (i := 4) (q := 9) rfl rfl) 0 rfl <|
    V_if_ge (tat ok_X7_trySlants_0 (i := 5) (q := 12) rfl rfl) rfl (fun c2 => V_iload_n (tat ok_X7_trySlants_0 (i := 7) (q := 14) rfl rfl) 2 rfl rfl <|
    V_cs1 (ct_J6_bitCount_0f7a4 I L a1 ) mo_J6_bitCount_0f7a4 (tat ok_X7_trySlants_0 (i := 8) (q := 17) rfl rfl) ml_X7_22 ⟨(Nat.le_of_ble_eq_true rfl), (Nat.le_of_ble_eq_true rfl)⟩ ⟨(Nat.le_of_ble_eq_true rfl), (Nat.le_of_ble_eq_true rfl)⟩ (Nat.le_of_ble_eq_true rfl) <|
    V_iload_n (tat ok_X7_trySlants_0 (i := 9) (q := 18) rfl rfl) 3 rfl rfl <|
    V_cs1 (ct_J6_bitCount_0f7a4 I L a2 ) mo_J6_bitCount_0f7a4 (tat ok_X7_trySlants_0 (i := 10) (q := 21) rfl rfl) ml_X7_22 ⟨(Nat.le_of_ble_eq_true rfl), (Nat.le_of_ble_eq_true rfl)⟩ ⟨(Nat.le_of_ble_eq_true rfl), (Nat.le_of_ble_eq_true rfl)⟩ (Nat.le_of_ble_eq_true rfl) <|
    V_iadd (tat ok_X7_trySlants_0 (i := 11) (q := 22) rfl rfl) <|
    V_iload (tat ok_X7_trySlants_0 (i := 12) (q := 24) rfl rfl) 0 rfl <|
    V_cs1 (ct_J6_bitCount_0f7a4 I L v1 ) mo_J6_bitCount_0f7a4 (tat ok_X7_trySlants_0 (i := 13) (q := 27) rfl rfl) ml_X7_22 ⟨(Nat.le_of_ble_eq_true rfl), (Nat.le_of_ble_eq_true rfl)⟩ ⟨(Nat.le_of_ble_eq_true rfl), (Nat.le_of_ble_eq_true rfl)⟩ (Nat.le_of_ble_eq_true rfl) <|
    V_iadd (tat ok_X7_trySlants_0 (i := 14) (q := 28) rfl rfl) <|
    V_istore (lv' := [(6, .int (((F_J6_bitCount_0f7a4 a1) + (F_J6_bitCount_0f7a4 a2)) + (F_J6_bitCount_0f7a4 v1))), (5, .int v1), (0, .ref 27), (1, .int a1), (2, .int a2), (3, .long a3)]) (tat ok_X7_trySlants_0 (i := 15) (q := 30) rfl rfl) (Nat.le_of_ble_eq_true rfl) rfl <|
    V_aload_n (tat ok_X7_trySlants_0 (i := 16) (q := 31) rfl rfl) 2 rfl rfl <|
    V_getZ (tat ok_X7_trySlants_0 (i := 17) (q := 34) rfl rfl) fk_X7_40 rfl <|
    V_if_eq (tat ok_X7_trySlants_0 (i := 18) (q := 37) rfl rfl) rfl (fun c3 => V_pick [2, 3, 4, 5, 1] rfl (V_X7_trySlants_46  hr (jq (P := oP P) kq (Eq.trans (ob e1) (Eq.trans (if_pos c2) (if_pos c3)))))) (fun c3 => V_iload (tat ok_X7_trySlants_0 (i := 19) (q := 39) rfl rfl) 0 rfl <|
    V_aload_n (tat ok_X7_trySlants_0 (i := 20) (q := 40) rfl rfl) 2 rfl rfl <|
    V_cv0 (ct_X7_acts I L  ) mo_X7_acts (tat ok_X7_trySlants_0 (i := 21) (q := 43) rfl rfl) ml_X7_59 rfl ⟨by decide, _, rfl, rfl⟩ ⟨(Nat.le_of_ble_eq_true rfl), (Nat.le_of_ble_eq_true rfl)⟩ ⟨(Nat.le_of_ble_eq_true rfl), (Nat.le_of_ble_eq_true rfl)⟩ (Nat.le_of_ble_eq_true rfl) <|
    V_icmp_ge (tat ok_X7_trySlants_0 (i := 22) (q := 46) rfl rfl) rfl (fun c4 => V_pick [2, 3, 4, 5] rfl (V_X7_trySlants_59  hr (jq (P := oP P) kq (Eq.trans (ob e1) (Eq.trans (if_pos c2) (Eq.trans (if_neg c3) (if_pos c4))))))) (fun c4 => V_pick [2, 3, 4, 5, 1] rfl (V_X7_trySlants_46  hr (jq (P := oP P) kq (Eq.trans (ob e1) (Eq.trans (if_pos c2) (Eq.trans (if_neg c3) (if_neg c4))))))))) (fun c2 => V_vret (tat ok_X7_trySlants_0 (i := 6) (q := 13) rfl rfl) rfl (hr I (jq (P := oP P) kq (Eq.trans (ob e1) (if_neg c2)))) ⟨(Nat.le_of_ble_eq_true rfl), (Nat.le_of_ble_eq_true rfl)⟩))
theorem ct_X7_trySlants  (I : WI) (L : WL) (a1 : Int32) (a2 : Int32) (a3 : Int64)  {v : WI} (h : (F_X7_trySlants I L a1 a2 a3) = some v) : Ct x_X7_trySlants 3 [.ref 27, .int a1, .int a2, .long a3] ly0 I L R0 0 0 (none, ly0, v, L, R0) :=
  Ct_of_V mo_X7_trySlants.1 (Nat.le_of_ble_eq_true rfl) (V_X7_trySlants (P := fun x => x = v)  (fun _ e => by rw [e]) (by rw [h]; exact rfl))
def F_X7_findSlanted_13_1 (I : WI) (L : WL) (r1 : Nat) (a2 : Int64) (a4 : Int32) : Option WL :=
  (if a4 < 0 ∨ 15 ≤ Int32.toNatClampNeg a4 then none else some (u2 L 28 (Int32.toNatClampNeg a4) (F_X0_squaresOf I r1 2 a4)))
theorem V_X7_findSlanted_13_1  {I : WI} {L : WL} {r1 : Nat} {a2 : Int64} {a4 : Int32}  {P : WL → Prop} {t : Tg} (hr1 : isX0 r1) (hk : ∀ x : WL, P x → V (zM x_X7_findSlanted 5 0 0 t) 3 [(0, .ref 27), (1, .ref r1), (2, .long a2), (4, .int (a4 + 1))] [] ly0 I x R0 0 0) : oP P (F_X7_findSlanted_13_1 I L r1 a2 a4) → V (zM x_X7_findSlanted 5 0 0 t) 13 [(0, .ref 27), (1, .ref r1), (2, .long a2), (4, .int a4)] [] ly0 I L R0 0 0 :=
  fun _ =>
  have kq : (oP P (F_X7_findSlanted_13_1 I L r1 a2 a4)) ∧ True := ⟨by assumption, trivial⟩
  V_aload_n (tat ok_X7_findSlanted_0 (i := 7) (q := 14) rfl rfl) 0 rfl rfl <|
    V_getR (tat ok_X7_findSlanted_0 (i := 8) (q := 17) rfl rfl) fk_X7_9 rfl rfl <|
    V_iload (tat ok_X7_findSlanted_0 (i := 9) (q := 19) rfl rfl) 3 rfl <|
    V_aload_n (tat ok_X7_findSlanted_0 (i := 10) (q := 20) rfl rfl) 1 rfl rfl <|
    V_iconst (tat ok_X7_findSlanted_0 (i := 11) (q := 21) rfl rfl) ic_2 <|
    V_iload (tat ok_X7_findSlanted_0 (i := 12) (q := 23) rfl rfl) 3 rfl <|
    V_cv2 (ct_X0_squaresOf I L r1 2 a4 hr1) mo_X0_squaresOf (tat ok_X7_findSlanted_0 (i := 13) (q := 26) rfl rfl) ml_X7_79 hr1 ⟨by decide, _, rfl, rfl⟩ ⟨(Nat.le_of_ble_eq_true rfl), (Nat.le_of_ble_eq_true rfl)⟩ ⟨(Nat.le_of_ble_eq_true rfl), (Nat.le_of_ble_eq_true rfl)⟩ (Nat.le_of_ble_eq_true rfl) <|
    (if c1 : a4 < 0 ∨ 15 ≤ Int32.toNatClampNeg a4 then ((jq (P := oP P) kq (if_pos c1))).elim else V_last (tat ok_X7_findSlanted_0 (i := 14) (q := 27) rfl rfl) rfl c1 <|
    V_iinc (v := (a4 + 1)) (lv' := [(4, .int (a4 + 1)), (0, .ref 27), (1, .ref r1), (2, .long a2)]) (tat ok_X7_findSlanted_0 (i := 15) (q := 30) rfl rfl) 3 rfl (ia ic_1) (Nat.le_of_ble_eq_true rfl) rfl <|
    V_goto (tat ok_X7_findSlanted_0 (i := 16) (q := 33) rfl rfl) rfl <|
    V_pick [1, 2, 3, 0] rfl (hk (u2 L 28 (Int32.toNatClampNeg a4) (F_X0_squaresOf I r1 2 a4)) (jq (P := oP P) kq (if_neg c1))))
def F_X7_findSlanted_53_3 (I : WI) (L : WL) (r1 : Nat) (a2 : Int64) (a4 : Int32) (a5 : Int32) : Option (WI ⊕ (Int32 × WI)) :=
  (if (F_X0_everyColumn I r1) < a5 then some (.inl I) else (Option.bind (F_X7_trySlants I L a4 a5 (a2 ^^^ (F_X0_squaresTurned I r1 a4 a5))) (fun v4 => some (.inr ((a5 + 1), v4)))))
theorem V_X7_findSlanted_53_3  {I : WI} {L : WL} {r1 : Nat} {a2 : Int64} {a4 : Int32} {a5 : Int32} {P : (WI ⊕ (Int32 × WI)) → Prop} {t : Tg} (hr1 : isX0 r1) (he : ∀ x : WI, P (.inl x) → V (zM x_X7_findSlanted 5 0 0 t) 86 [(0, .ref 27), (1, .ref r1), (2, .long a2), (4, .int a4)] [] ly0 x L R0 0 0) (hk : ∀ x : (Int32 × WI), P (.inr x) → V (zM x_X7_findSlanted 5 0 0 t) 53 [(0, .ref 27), (1, .ref r1), (2, .long a2), (4, .int a4), (5, .int (p1 x))] [] ly0 (p2 x) L R0 0 0) : oP P (F_X7_findSlanted_53_3 I L r1 a2 a4 a5) → V (zM x_X7_findSlanted 5 0 0 t) 53 [(0, .ref 27), (1, .ref r1), (2, .long a2), (4, .int a4), (5, .int a5)] [] ly0 I L R0 0 0 :=
  fun _ =>
  have kq : (oP P (F_X7_findSlanted_53_3 I L r1 a2 a4 a5)) ∧ True := ⟨by assumption, trivial⟩
  V_iload (tat ok_X7_findSlanted_0 (i := 28) (q := 55) rfl rfl) 4 rfl <|
    V_aload_n (tat ok_X7_findSlanted_0 (i := 29) (q := 56) rfl rfl) 1 rfl rfl <|
    V_cv0 (ct_X0_everyColumn I L r1 hr1) mo_X0_everyColumn (tat ok_X7_findSlanted_0 (i := 30) (q := 59) rfl rfl) ml_X7_68 hr1 ⟨by decide, _, rfl, rfl⟩ ⟨(Nat.le_of_ble_eq_true rfl), (Nat.le_of_ble_eq_true rfl)⟩ ⟨(Nat.le_of_ble_eq_true rfl), (Nat.le_of_ble_eq_true rfl)⟩ (Nat.le_of_ble_eq_true rfl) <|
    V_icmp_gt (tat ok_X7_findSlanted_0 (i := 31) (q := 62) rfl rfl) rfl (fun c3 => V_pick [0, 1, 2, 3] rfl (he I (jq (P := oP P) kq (if_pos c3)))) (fun c3 => V_aload_n (tat ok_X7_findSlanted_0 (i := 32) (q := 63) rfl rfl) 0 rfl rfl <|
    V_iload (tat ok_X7_findSlanted_0 (i := 33) (q := 65) rfl rfl) 3 rfl <|
    V_iload (tat ok_X7_findSlanted_0 (i := 34) (q := 67) rfl rfl) 4 rfl <|
    V_lload_n (tat ok_X7_findSlanted_0 (i := 35) (q := 68) rfl rfl) 2 rfl rfl <|
    V_aload_n (tat ok_X7_findSlanted_0 (i := 36) (q := 69) rfl rfl) 1 rfl rfl <|
    V_iload (tat ok_X7_findSlanted_0 (i := 37) (q := 71) rfl rfl) 3 rfl <|
    V_iload (tat ok_X7_findSlanted_0 (i := 38) (q := 73) rfl rfl) 4 rfl <|
    V_cv2 (ct_X0_squaresTurned I L r1 a4 a5 hr1) mo_X0_squaresTurned (tat ok_X7_findSlanted_0 (i := 39) (q := 76) rfl rfl) ml_X7_71 hr1 ⟨by decide, _, rfl, rfl⟩ ⟨(Nat.le_of_ble_eq_true rfl), (Nat.le_of_ble_eq_true rfl)⟩ ⟨(Nat.le_of_ble_eq_true rfl), (Nat.le_of_ble_eq_true rfl)⟩ (Nat.le_of_ble_eq_true rfl) <|
    V_lxor (tat ok_X7_findSlanted_1 (i := 0) (q := 77) rfl rfl) <|
    oP_case (jq (P := oP P) kq (if_neg c3)) (fun v4 e4 _ => V_cv3v (ct_X7_trySlants I L a4 a5 (a2 ^^^ (F_X0_squaresTurned I r1 a4 a5))  e4) mo_X7_trySlants (tat ok_X7_findSlanted_1 (i := 1) (q := 80) rfl rfl) ml_X7_105 rfl ⟨by decide, _, rfl, rfl⟩ ⟨(Nat.le_of_ble_eq_true rfl), (Nat.le_of_ble_eq_true rfl)⟩ ⟨(Nat.le_of_ble_eq_true rfl), (Nat.le_of_ble_eq_true rfl)⟩ (Nat.le_of_ble_eq_true rfl) <|
    V_iinc (v := (a5 + 1)) (lv' := [(5, .int (a5 + 1)), (0, .ref 27), (1, .ref r1), (2, .long a2), (4, .int a4)]) (tat ok_X7_findSlanted_1 (i := 2) (q := 83) rfl rfl) 4 rfl (ia ic_1) (Nat.le_of_ble_eq_true rfl) rfl <|
    V_goto (tat ok_X7_findSlanted_1 (i := 3) (q := 86) rfl rfl) rfl <|
    V_pick [1, 2, 3, 4, 0] rfl (hk ((a5 + 1), v4) (jq (P := oP P) kq (Eq.trans (if_neg c3) (ob e4))))))
def F_X7_findSlanted_86_2 (I : WI) (L : WL) (r1 : Nat) (a2 : Int64) (a4 : Int32) : Option (WI ⊕ (Int32 × WI)) :=
  some (.inr ((a4 + 1), I))
theorem V_X7_findSlanted_86_2  {I : WI} {L : WL} {r1 : Nat} {a2 : Int64} {a4 : Int32} {P : (WI ⊕ (Int32 × WI)) → Prop} {t : Tg} (hr1 : isX0 r1) (he : ∀ x : WI, P (.inl x) → V (zM x_X7_findSlanted 5 0 0 t) 92 [(0, .ref 27), (1, .ref r1), (2, .long a2)] [] ly0 x L R0 0 0) (hk : ∀ x : (Int32 × WI), P (.inr x) → V (zM x_X7_findSlanted 5 0 0 t) 41 [(0, .ref 27), (1, .ref r1), (2, .long a2), (4, .int (p1 x))] [] ly0 (p2 x) L R0 0 0) : oP P (F_X7_findSlanted_86_2 I L r1 a2 a4) → V (zM x_X7_findSlanted 5 0 0 t) 86 [(0, .ref 27), (1, .ref r1), (2, .long a2), (4, .int a4)] [] ly0 I L R0 0 0 :=
  fun _ =>
  have kq : (oP P (F_X7_findSlanted_86_2 I L r1 a2 a4)) ∧ True := ⟨by assumption, trivial⟩
  V_iinc (v := (a4 + 1)) (lv' := [(4, .int (a4 + 1)), (0, .ref 27), (1, .ref r1), (2, .long a2)]) (tat ok_X7_findSlanted_1 (i := 4) (q := 89) rfl rfl) 3 rfl (ia ic_1) (Nat.le_of_ble_eq_true rfl) rfl <|
    V_goto (tat ok_X7_findSlanted_1 (i := 5) (q := 92) rfl rfl) rfl <|
    V_pick [1, 2, 3, 0] rfl (hk ((a4 + 1), I) (jq (P := oP P) kq rfl))
def F_X7_findSlanted_53_2 (I : WI) (L : WL) (r1 : Nat) (a2 : Int64) (a4 : Int32) (a5 : Int32) : Option (WI ⊕ (Int32 × WI)) :=
  (lpp (fun x => (F_X7_findSlanted_53_3 (p2 x) L r1 a2 a4 (p1 x))) 4294967296 (a5, I)).bind (fun q => (F_X7_findSlanted_86_2 q L r1 a2 a4))
theorem V_X7_findSlanted_53_2  {I : WI} {L : WL} {r1 : Nat} {a2 : Int64} {a4 : Int32} {a5 : Int32} {P : (WI ⊕ (Int32 × WI)) → Prop} {t : Tg} (hr1 : isX0 r1) (hb5 : bz a5 = a5) (he : ∀ x : WI, P (.inl x) → V (zM x_X7_findSlanted 5 0 0 t) 92 [(0, .ref 27), (1, .ref r1), (2, .long a2)] [] ly0 x L R0 0 0) (hk : ∀ x : (Int32 × WI), P (.inr x) → V (zM x_X7_findSlanted 5 0 0 t) 41 [(0, .ref 27), (1, .ref r1), (2, .long a2), (4, .int (p1 x))] [] ly0 (p2 x) L R0 0 0) (kk : oP P (F_X7_findSlanted_53_2 I L r1 a2 a4 a5)) : V (zM x_X7_findSlanted 5 0 0 t) 53 [(0, .ref 27), (1, .ref r1), (2, .long a2), (4, .int a4), (5, .int a5)] [] ly0 I L R0 0 0 :=
  V_lpp (fun x => (F_X7_findSlanted_53_3 (p2 x) L r1 a2 a4 (p1 x))) (fun x => V (zM x_X7_findSlanted 5 0 0 t) 53 [(0, .ref 27), (1, .ref r1), (2, .long a2), (4, .int a4), (5, .int (p1 x))] [] ly0 (p2 x) L R0 0 0) (fun x => oP P ((F_X7_findSlanted_86_2 x L r1 a2 a4))) (s := (a5, I)) (fun x e0 => V_X7_findSlanted_53_3 (P := Sum.elim (fun x => oP P ((F_X7_findSlanted_86_2 x L r1 a2 a4))) (fun x => V (zM x_X7_findSlanted 5 0 0 t) 53 [(0, .ref 27), (1, .ref r1), (2, .long a2), (4, .int a4), (5, .int (p1 x))] [] ly0 (p2 x) L R0 0 0)) hr1 (fun x e => V_X7_findSlanted_86_2 hr1 he hk e) (fun _ e => e) e0) (oP_bind (f := fun q => _) kk)
def F_X7_findSlanted_41_2 (I : WI) (L : WL) (r1 : Nat) (a2 : Int64) (a4 : Int32) : Option (WI ⊕ (Int32 × WI)) :=
  (if (F_X0_everyRow I r1) < a4 then some (.inl I) else (F_X7_findSlanted_53_2 I L r1 a2 a4 0))
theorem V_X7_findSlanted_41_2  {I : WI} {L : WL} {r1 : Nat} {a2 : Int64} {a4 : Int32} {P : (WI ⊕ (Int32 × WI)) → Prop} {t : Tg} (hr1 : isX0 r1) (he : ∀ x : WI, P (.inl x) → V (zM x_X7_findSlanted 5 0 0 t) 92 [(0, .ref 27), (1, .ref r1), (2, .long a2)] [] ly0 x L R0 0 0) (hk : ∀ x : (Int32 × WI), P (.inr x) → V (zM x_X7_findSlanted 5 0 0 t) 41 [(0, .ref 27), (1, .ref r1), (2, .long a2), (4, .int (p1 x))] [] ly0 (p2 x) L R0 0 0) : oP P (F_X7_findSlanted_41_2 I L r1 a2 a4) → V (zM x_X7_findSlanted 5 0 0 t) 41 [(0, .ref 27), (1, .ref r1), (2, .long a2), (4, .int a4)] [] ly0 I L R0 0 0 :=
  fun _ =>
  have kq : (oP P (F_X7_findSlanted_41_2 I L r1 a2 a4)) ∧ True := ⟨by assumption, trivial⟩
  V_iload (tat ok_X7_findSlanted_0 (i := 22) (q := 43) rfl rfl) 3 rfl <|
    V_aload_n (tat ok_X7_findSlanted_0 (i := 23) (q := 44) rfl rfl) 1 rfl rfl <|
    V_cv0 (ct_X0_everyRow I L r1 hr1) mo_X0_everyRow (tat ok_X7_findSlanted_0 (i := 24) (q := 47) rfl rfl) ml_X7_55 hr1 ⟨by decide, _, rfl, rfl⟩ ⟨(Nat.le_of_ble_eq_true rfl), (Nat.le_of_ble_eq_true rfl)⟩ ⟨(Nat.le_of_ble_eq_true rfl), (Nat.le_of_ble_eq_true rfl)⟩ (Nat.le_of_ble_eq_true rfl) <|
    V_icmp_gt (tat ok_X7_findSlanted_0 (i := 25) (q := 50) rfl rfl) rfl (fun c2 => V_pick [0, 1, 2] rfl (he I (jq (P := oP P) kq (if_pos c2)))) (fun c2 => V_iconst (tat ok_X7_findSlanted_0 (i := 26) (q := 51) rfl rfl) ic_0 <|
    V_istore (lv' := [(5, .int 0), (0, .ref 27), (1, .ref r1), (2, .long a2), (4, .int a4)]) (tat ok_X7_findSlanted_0 (i := 27) (q := 53) rfl rfl) (Nat.le_of_ble_eq_true rfl) rfl <|
    V_pick [1, 2, 3, 4, 0] rfl (V_X7_findSlanted_53_2 hr1 rfl he hk (jq (P := oP P) kq (if_neg c2))))
def F_X7_findSlanted_92 (I : WI) (L : WL) (r1 : Nat) (a2 : Int64) : Option (WI × WL) :=
  some (I, L)
theorem V_X7_findSlanted_92  {I : WI} {L : WL} {r1 : Nat} {a2 : Int64}  {P : (WI × WL) → Prop} {t : Tg} (hr1 : isX0 r1) (hr : ∀ v, P v → t = (none, ly0, (p1 v), (p2 v), R0)) : oP P (F_X7_findSlanted_92 I L r1 a2) → V (zM x_X7_findSlanted 5 0 0 t) 92 [(0, .ref 27), (1, .ref r1), (2, .long a2)] [] ly0 I L R0 0 0 :=
  fun _ =>
  have kq : (oP P (F_X7_findSlanted_92 I L r1 a2)) ∧ True := ⟨by assumption, trivial⟩
  V_vret (tat ok_X7_findSlanted_1 (i := 6) (q := 93) rfl rfl) rfl (hr (I, L) (jq (P := oP P) kq rfl)) ⟨(Nat.le_of_ble_eq_true rfl), (Nat.le_of_ble_eq_true rfl)⟩
def F_X7_findSlanted_41 (I : WI) (L : WL) (r1 : Nat) (a2 : Int64) (a4 : Int32) : Option (WI × WL) :=
  (lpp (fun x => (F_X7_findSlanted_41_2 (p2 x) L r1 a2 (p1 x))) 4294967296 (a4, I)).bind (fun q => (F_X7_findSlanted_92 q L r1 a2))
theorem V_X7_findSlanted_41  {I : WI} {L : WL} {r1 : Nat} {a2 : Int64} {a4 : Int32} {P : (WI × WL) → Prop} {t : Tg} (hr1 : isX0 r1) (hb4 : bz a4 = a4) (hr : ∀ v, P v → t = (none, ly0, (p1 v), (p2 v), R0)) (kk : oP P (F_X7_findSlanted_41 I L r1 a2 a4)) : V (zM x_X7_findSlanted 5 0 0 t) 41 [(0, .ref 27), (1, .ref r1), (2, .long a2), (4, .int a4)] [] ly0 I L R0 0 0 :=
  V_lpp (fun x => (F_X7_findSlanted_41_2 (p2 x) L r1 a2 (p1 x))) (fun x => V (zM x_X7_findSlanted 5 0 0 t) 41 [(0, .ref 27), (1, .ref r1), (2, .long a2), (4, .int (p1 x))] [] ly0 (p2 x) L R0 0 0) (fun x => oP P ((F_X7_findSlanted_92 x L r1 a2))) (s := (a4, I)) (fun x e0 => V_X7_findSlanted_41_2 (P := Sum.elim (fun x => oP P ((F_X7_findSlanted_92 x L r1 a2))) (fun x => V (zM x_X7_findSlanted 5 0 0 t) 41 [(0, .ref 27), (1, .ref r1), (2, .long a2), (4, .int (p1 x))] [] ly0 (p2 x) L R0 0 0)) hr1 (fun x e => V_X7_findSlanted_92 hr1 hr e) (fun _ e => e) e0) (oP_bind (f := fun q => _) kk)
def F_X7_findSlanted_33 (I : WI) (L : WL) (r1 : Nat) (a2 : Int64) : Option (WI × WL) :=
  (F_X7_findSlanted_41 (u2 I 27 0 0) L r1 a2 0)
theorem V_X7_findSlanted_33  {I : WI} {L : WL} {r1 : Nat} {a2 : Int64}  {P : (WI × WL) → Prop} {t : Tg} (hr1 : isX0 r1) (hr : ∀ v, P v → t = (none, ly0, (p1 v), (p2 v), R0)) : oP P (F_X7_findSlanted_33 I L r1 a2) → V (zM x_X7_findSlanted 5 0 0 t) 33 [(0, .ref 27), (1, .ref r1), (2, .long a2)] [] ly0 I L R0 0 0 :=
  fun _ =>
  have kq : (oP P (F_X7_findSlanted_33 I L r1 a2)) ∧ True := ⟨by assumption, trivial⟩
  V_aload_n (tat ok_X7_findSlanted_0 (i := 17) (q := 34) rfl rfl) 0 rfl rfl <|
    V_iconst (tat ok_X7_findSlanted_0 (i := 18) (q := 35) rfl rfl) ic_0 <|
    V_putZ (tat ok_X7_findSlanted_0 (i := 19) (q := 38) rfl rfl) fk_X7_40 rfl rfl rfl <|
    V_iconst (tat ok_X7_findSlanted_0 (i := 20) (q := 39) rfl rfl) ic_0 <|
    V_istore (lv' := [(4, .int 0), (0, .ref 27), (1, .ref r1), (2, .long a2)]) (tat ok_X7_findSlanted_0 (i := 21) (q := 41) rfl rfl) (Nat.le_of_ble_eq_true rfl) rfl <|
    V_pick [1, 2, 3, 0] rfl (V_X7_findSlanted_41 hr1 rfl hr (jq (P := oP P) kq rfl))
def F_X7_findSlanted_3 (I : WI) (L : WL) (r1 : Nat) (a2 : Int64) (a4 : Int32) : Option (WI × WL) :=
  (frp0 (fun i x => (F_X7_findSlanted_13_1 I x r1 a2 i)) 15 (fu a4 15) a4 L).bind (fun q => (F_X7_findSlanted_33 I (p2 q) r1 a2))
theorem V_X7_findSlanted_3  {I : WI} {L : WL} {r1 : Nat} {a2 : Int64} {a4 : Int32} {P : (WI × WL) → Prop} {t : Tg} (hr1 : isX0 r1) (hb4 : bz a4 = a4) (hr : ∀ v, P v → t = (none, ly0, (p1 v), (p2 v), R0)) (kk : oP P (F_X7_findSlanted_3 I L r1 a2 a4)) : V (zM x_X7_findSlanted 5 0 0 t) 3 [(0, .ref 27), (1, .ref r1), (2, .long a2), (4, .int a4)] [] ly0 I L R0 0 0 :=
  V_frp0 (fun i x => (F_X7_findSlanted_13_1 I x r1 a2 i)) 15 (fun i x => V (zM x_X7_findSlanted 5 0 0 t) 3 [(0, .ref 27), (1, .ref r1), (2, .long a2), (4, .int i)] [] ly0 I x R0 0 0) (fun i x => oP P ((F_X7_findSlanted_33 I x r1 a2))) (c := a4) (s := L) (fun i x kx kb => V_iload (tat ok_X7_findSlanted_0 (i := 2) (q := 5) rfl rfl) 3 rfl <|
    V_aload_n (tat ok_X7_findSlanted_0 (i := 3) (q := 6) rfl rfl) 0 rfl rfl <|
    V_getR (tat ok_X7_findSlanted_0 (i := 4) (q := 9) rfl rfl) fk_X7_9 rfl rfl <|
    V_alen (tat ok_X7_findSlanted_0 (i := 5) (q := 10) rfl rfl) rfl ⟨by decide, by decide⟩ nl_15 <|
    V_icmp_ge (tat ok_X7_findSlanted_0 (i := 6) (q := 13) rfl rfl) rfl (fun c0 => V_pick [0, 1, 2] rfl (V_X7_findSlanted_33 hr1 hr (kx c0))) (fun c0 => V_X7_findSlanted_13_1 (P := (fun x => (fun i x => V (zM x_X7_findSlanted 5 0 0 t) 3 [(0, .ref 27), (1, .ref r1), (2, .long a2), (4, .int i)] [] ly0 I x R0 0 0) (i + 1) x)) hr1 (fun _ e => e) (kb c0))) (oP_bind (f := fun q => _) kk)
def F_X7_findSlanted (I : WI) (L : WL) (r1 : Nat) (a2 : Int64) : Option (WI × WL) :=
  (F_X7_findSlanted_3 I L r1 a2 0)
theorem V_X7_findSlanted  {I : WI} {L : WL} {r1 : Nat} {a2 : Int64}  {P : (WI × WL) → Prop} {t : Tg} (hr1 : isX0 r1) (hr : ∀ v, P v → t = (none, ly0, (p1 v), (p2 v), R0)) : oP P (F_X7_findSlanted I L r1 a2) → V (zM x_X7_findSlanted 5 0 0 t) 0 [(0, .ref 27), (1, .ref r1), (2, .long a2)] [] ly0 I L R0 0 0 :=
  fun _ =>
  have kq : (oP P (F_X7_findSlanted I L r1 a2)) ∧ True := ⟨by assumption, trivial⟩
  V_iconst (tat ok_X7_findSlanted_0 (i := 0) (q := 1) rfl rfl) ic_0 <|
    V_istore (lv' := [(4, .int 0), (0, .ref 27), (1, .ref r1), (2, .long a2)]) (tat ok_X7_findSlanted_0 (i := 1) (q := 3) rfl rfl) (Nat.le_of_ble_eq_true rfl) rfl <|
    V_pick [1, 2, 3, 0] rfl (V_X7_findSlanted_3 hr1 rfl hr (jq (P := oP P) kq rfl))
theorem ct_X7_findSlanted  (I : WI) (L : WL) (r1 : Nat) (a2 : Int64) (hr1 : isX0 r1) {v : (WI × WL)} (h : (F_X7_findSlanted I L r1 a2) = some v) : Ct x_X7_findSlanted 5 [.ref 27, .ref r1, .long a2] ly0 I L R0 0 0 (none, ly0, (p1 v), (p2 v), R0) :=
  Ct_of_V mo_X7_findSlanted.1 (Nat.le_of_ble_eq_true rfl) (V_X7_findSlanted (P := fun x => x = v) hr1 (fun _ e => by rw [e]) (by rw [h]; exact rfl))
def F_X7_findSpoilt_90_1 (I : WI) (r1 : Nat) (a2 : Int64) (a4 : Int64) (a6 : Int32) : WI :=
  I
theorem V_X7_findSpoilt_90_1  {I : WI} {L : WL} {r1 : Nat} {a2 : Int64} {a4 : Int64} {a6 : Int32}  {P : WI → Prop} {t : Tg} (hr1 : isX0 r1) (hk : ∀ x : WI, P x → V (zM x_X7_findSpoilt 6 0 0 t) 20 [(0, .ref 27), (1, .ref r1), (2, .long a2), (4, .long a4), (6, .int (a6 + 1))] [] ly0 x L R0 0 0) (kk : P (F_X7_findSpoilt_90_1 I r1 a2 a4 a6)) : V (zM x_X7_findSpoilt 6 0 0 t) 90 [(0, .ref 27), (1, .ref r1), (2, .long a2), (4, .long a4), (6, .int a6)] [] ly0 I L R0 0 0 :=
  V_iinc (v := (a6 + 1)) (lv' := [(6, .int (a6 + 1)), (0, .ref 27), (1, .ref r1), (2, .long a2), (4, .long a4)]) (tat ok_X7_findSpoilt_1 (i := 9) (q := 93) rfl rfl) 4 rfl (ia ic_1) (Nat.le_of_ble_eq_true rfl) rfl <|
    V_goto (tat ok_X7_findSpoilt_1 (i := 10) (q := 96) rfl rfl) rfl <|
    V_pick [1, 2, 3, 4, 0] rfl (hk I (jx (P := P) kk rfl))
def F_X7_findSpoilt_77_1 (I : WI) (r1 : Nat) (a2 : Int64) (a4 : Int64) (a6 : Int32) (s0 : Int32) : WI :=
  (F_X7_findSpoilt_90_1 (u2 (u2 I 27 7 s0) 27 6 (((u2 I 27 7 s0) 27 6) + 1)) r1 a2 a4 a6)
theorem V_X7_findSpoilt_77_1  {I : WI} {L : WL} {r1 : Nat} {a2 : Int64} {a4 : Int64} {a6 : Int32} {s0 : Int32} {P : WI → Prop} {t : Tg} (hr1 : isX0 r1) (hk : ∀ x : WI, P x → V (zM x_X7_findSpoilt 6 0 0 t) 20 [(0, .ref 27), (1, .ref r1), (2, .long a2), (4, .long a4), (6, .int (a6 + 1))] [] ly0 x L R0 0 0) (kk : P (F_X7_findSpoilt_77_1 I r1 a2 a4 a6 s0)) : V (zM x_X7_findSpoilt 6 0 0 t) 77 [(0, .ref 27), (1, .ref r1), (2, .long a2), (4, .long a4), (6, .int a6)] [.int s0, .ref 27] ly0 I L R0 0 0 :=
  V_putI (tat ok_X7_findSpoilt_1 (i := 2) (q := 80) rfl rfl) fk_X7_115 rfl rfl <|
    V_aload_n (tat ok_X7_findSpoilt_1 (i := 3) (q := 81) rfl rfl) 0 rfl rfl <|
    V_dup (tat ok_X7_findSpoilt_1 (i := 4) (q := 82) rfl rfl) rfl <|
    V_getI (tat ok_X7_findSpoilt_1 (i := 5) (q := 85) rfl rfl) fk_X7_112 rfl <|
    V_iconst (tat ok_X7_findSpoilt_1 (i := 6) (q := 86) rfl rfl) ic_1 <|
    V_iadd (tat ok_X7_findSpoilt_1 (i := 7) (q := 87) rfl rfl) <|
    V_putI (tat ok_X7_findSpoilt_1 (i := 8) (q := 90) rfl rfl) fk_X7_112 rfl rfl <|
    V_X7_findSpoilt_90_1 hr1 hk (jx (P := P) kk rfl)
def F_X7_findSpoilt_30_1 (I : WI) (r1 : Nat) (a2 : Int64) (a4 : Int64) (a6 : Int32) : WI :=
  (if (F_X0_hasSquare I r1 (a6 >>> (3 &&& 31)) (a6 &&& 7)) = 0 then (F_X7_findSpoilt_90_1 I r1 a2 a4 a6) else (if (lg_cmp (F_X0_formOf I r1 (lsh 1 a6)) a4) = 0 then (if (I 27 6) = 0 then (F_X7_findSpoilt_77_1 I r1 a2 a4 a6 a6) else (F_X7_findSpoilt_77_1 I r1 a2 a4 a6 (I 27 7))) else (F_X7_findSpoilt_90_1 I r1 a2 a4 a6)))
theorem V_X7_findSpoilt_30_1  {I : WI} {L : WL} {r1 : Nat} {a2 : Int64} {a4 : Int64} {a6 : Int32}  {P : WI → Prop} {t : Tg} (hr1 : isX0 r1) (hk : ∀ x : WI, P x → V (zM x_X7_findSpoilt 6 0 0 t) 20 [(0, .ref 27), (1, .ref r1), (2, .long a2), (4, .long a4), (6, .int (a6 + 1))] [] ly0 x L R0 0 0) (kk : P (F_X7_findSpoilt_30_1 I r1 a2 a4 a6)) : V (zM x_X7_findSpoilt 6 0 0 t) 30 [(0, .ref 27), (1, .ref r1), (2, .long a2), (4, .long a4), (6, .int a6)] [] ly0 I L R0 0 0 :=
  V_aload_n (tat ok_X7_findSpoilt_0 (i := 17) (q := 31) rfl rfl) 1 rfl rfl <|
    V_iload (tat ok_X7_findSpoilt_0 (i := 18) (q := 33) rfl rfl) 4 rfl <|
    V_iconst (tat ok_X7_findSpoilt_0 (i := 19) (q := 34) rfl rfl) ic_3 <|
    V_ishr (tat ok_X7_findSpoilt_0 (i := 20) (q := 35) rfl rfl) <|
    V_iload (tat ok_X7_findSpoilt_0 (i := 21) (q := 37) rfl rfl) 4 rfl <|
    V_bipush (tat ok_X7_findSpoilt_0 (i := 22) (q := 39) rfl rfl) bp_7 <|
    V_iand (tat ok_X7_findSpoilt_0 (i := 23) (q := 40) rfl rfl) <|
    V_cv2 (ct_X0_hasSquare I L r1 (a6 >>> (3 &&& 31)) (a6 &&& 7) hr1) mo_X0_hasSquare (tat ok_X7_findSpoilt_0 (i := 24) (q := 43) rfl rfl) ml_X7_118 hr1 ⟨by decide, _, rfl, rfl⟩ ⟨(Nat.le_of_ble_eq_true rfl), (Nat.le_of_ble_eq_true rfl)⟩ ⟨(Nat.le_of_ble_eq_true rfl), (Nat.le_of_ble_eq_true rfl)⟩ (Nat.le_of_ble_eq_true rfl) <|
    V_if_eq (tat ok_X7_findSpoilt_0 (i := 25) (q := 46) rfl rfl) rfl (fun c1 => V_X7_findSpoilt_90_1 hr1 hk (jx (P := P) kk (if_pos c1))) (fun c1 => V_aload_n (tat ok_X7_findSpoilt_0 (i := 26) (q := 47) rfl rfl) 1 rfl rfl <|
    V_lconst (v := 1) (tat ok_X7_findSpoilt_0 (i := 27) (q := 48) rfl rfl) rfl <|
    V_iload (tat ok_X7_findSpoilt_0 (i := 28) (q := 50) rfl rfl) 4 rfl <|
    V_lshl (tat ok_X7_findSpoilt_0 (i := 29) (q := 51) rfl rfl) <|
    V_cv1 (ct_X0_formOf I L r1 (lsh 1 a6) hr1) mo_X0_formOf (tat ok_X7_findSpoilt_0 (i := 30) (q := 54) rfl rfl) ml_X7_34 hr1 ⟨by decide, _, rfl, rfl⟩ ⟨(Nat.le_of_ble_eq_true rfl), (Nat.le_of_ble_eq_true rfl)⟩ ⟨(Nat.le_of_ble_eq_true rfl), (Nat.le_of_ble_eq_true rfl)⟩ (Nat.le_of_ble_eq_true rfl) <|
    V_lload (tat ok_X7_findSpoilt_0 (i := 31) (q := 56) rfl rfl) 3 rfl <|
    V_lcmp (tat ok_X7_findSpoilt_0 (i := 32) (q := 57) rfl rfl) <|
    V_if_ne (tat ok_X7_findSpoilt_0 (i := 33) (q := 60) rfl rfl) rfl (fun c2 => V_X7_findSpoilt_90_1 hr1 hk (jx (P := P) kk (Eq.trans (if_neg c1) (if_neg c2)))) (fun c2 => V_aload_n (tat ok_X7_findSpoilt_0 (i := 34) (q := 61) rfl rfl) 0 rfl rfl <|
    V_aload_n (tat ok_X7_findSpoilt_0 (i := 35) (q := 62) rfl rfl) 0 rfl rfl <|
    V_getI (tat ok_X7_findSpoilt_0 (i := 36) (q := 65) rfl rfl) fk_X7_112 rfl <|
    V_if_ne (tat ok_X7_findSpoilt_0 (i := 37) (q := 68) rfl rfl) rfl (fun c3 => V_aload_n (tat ok_X7_findSpoilt_1 (i := 0) (q := 74) rfl rfl) 0 rfl rfl <|
    V_getI (tat ok_X7_findSpoilt_1 (i := 1) (q := 77) rfl rfl) fk_X7_115 rfl <|
    V_X7_findSpoilt_77_1 hr1 hk (jx (P := P) kk (Eq.trans (if_neg c1) (Eq.trans (if_pos c2) (if_neg c3))))) (fun c3 => V_iload (tat ok_X7_findSpoilt_0 (i := 38) (q := 70) rfl rfl) 4 rfl <|
    V_goto (tat ok_X7_findSpoilt_0 (i := 39) (q := 73) rfl rfl) rfl <|
    V_X7_findSpoilt_77_1 hr1 hk (jx (P := P) kk (Eq.trans (if_neg c1) (Eq.trans (if_pos c2) (if_pos c3)))))))
def F_X7_findSpoilt_96 (I : WI) (r1 : Nat) (a2 : Int64) : WI :=
  I
theorem V_X7_findSpoilt_96  {I : WI} {L : WL} {r1 : Nat} {a2 : Int64}  {P : WI → Prop} {t : Tg} (hr1 : isX0 r1) (hr : ∀ v, P v → t = (none, ly0, v, L, R0)) (kk : P (F_X7_findSpoilt_96 I r1 a2)) : V (zM x_X7_findSpoilt 6 0 0 t) 96 [(0, .ref 27), (1, .ref r1), (2, .long a2)] [] ly0 I L R0 0 0 :=
  V_vret (tat ok_X7_findSpoilt_1 (i := 11) (q := 97) rfl rfl) rfl (hr I (jx (P := P) kk rfl)) ⟨(Nat.le_of_ble_eq_true rfl), (Nat.le_of_ble_eq_true rfl)⟩
def F_X7_findSpoilt_20 (I : WI) (r1 : Nat) (a2 : Int64) (a4 : Int64) (a6 : Int32) : WI :=
  (fun q : Int32 × WI => (F_X7_findSpoilt_96 (p2 q) r1 a2)) (fr0 (fun i x => (F_X7_findSpoilt_30_1 x r1 a2 a4 i)) 64 (fu a6 64) a6 I)
theorem V_X7_findSpoilt_20  {I : WI} {L : WL} {r1 : Nat} {a2 : Int64} {a4 : Int64} {a6 : Int32} {P : WI → Prop} {t : Tg} (hr1 : isX0 r1) (hb6 : bz a6 = a6) (hr : ∀ v, P v → t = (none, ly0, v, L, R0)) (kk : P (F_X7_findSpoilt_20 I r1 a2 a4 a6)) : V (zM x_X7_findSpoilt 6 0 0 t) 20 [(0, .ref 27), (1, .ref r1), (2, .long a2), (4, .long a4), (6, .int a6)] [] ly0 I L R0 0 0 :=
  V_fr0 (fun i x => (F_X7_findSpoilt_30_1 x r1 a2 a4 i)) 64 (fun i x => V (zM x_X7_findSpoilt 6 0 0 t) 20 [(0, .ref 27), (1, .ref r1), (2, .long a2), (4, .long a4), (6, .int i)] [] ly0 x L R0 0 0) (fun i x => P ((F_X7_findSpoilt_96 x r1 a2))) (c := a6) (s := I) (fun i x kx kb => V_iload (tat ok_X7_findSpoilt_0 (i := 12) (q := 22) rfl rfl) 4 rfl <|
    V_aload_n (tat ok_X7_findSpoilt_0 (i := 13) (q := 23) rfl rfl) 0 rfl rfl <|
    V_getR (tat ok_X7_findSpoilt_0 (i := 14) (q := 26) rfl rfl) fk_X7_15 rfl rfl <|
    V_alen (tat ok_X7_findSpoilt_0 (i := 15) (q := 27) rfl rfl) rfl ⟨by decide, by decide⟩ nl_64 <|
    V_icmp_ge (tat ok_X7_findSpoilt_0 (i := 16) (q := 30) rfl rfl) rfl (fun c0 => V_pick [0, 1, 2] rfl (V_X7_findSpoilt_96 hr1 hr (kx c0))) (fun c0 => V_X7_findSpoilt_30_1 (P := (fun x => (fun i x => V (zM x_X7_findSpoilt 6 0 0 t) 20 [(0, .ref 27), (1, .ref r1), (2, .long a2), (4, .long a4), (6, .int i)] [] ly0 x L R0 0 0) (i + 1) x)) hr1 (fun _ e => e) (kb c0))) kk
def F_X7_findSpoilt (I : WI) (r1 : Nat) (a2 : Int64) : WI :=
  (F_X7_findSpoilt_20 (u2 (u2 I 27 6 0) 27 7 0) r1 a2 (F_X0_formOf I r1 a2) 0)
theorem V_X7_findSpoilt  {I : WI} {L : WL} {r1 : Nat} {a2 : Int64}  {P : WI → Prop} {t : Tg} (hr1 : isX0 r1) (hr : ∀ v, P v → t = (none, ly0, v, L, R0)) (kk : P (F_X7_findSpoilt I r1 a2)) : V (zM x_X7_findSpoilt 6 0 0 t) 0 [(0, .ref 27), (1, .ref r1), (2, .long a2)] [] ly0 I L R0 0 0 :=
  V_aload_n (tat ok_X7_findSpoilt_0 (i := 0) (q := 1) rfl rfl) 1 rfl rfl <|
    V_lload_n (tat ok_X7_findSpoilt_0 (i := 1) (q := 2) rfl rfl) 2 rfl rfl <|
    V_cv1 (ct_X0_formOf I L r1 a2 hr1) mo_X0_formOf (tat ok_X7_findSpoilt_0 (i := 2) (q := 5) rfl rfl) ml_X7_34 hr1 ⟨by decide, _, rfl, rfl⟩ ⟨(Nat.le_of_ble_eq_true rfl), (Nat.le_of_ble_eq_true rfl)⟩ ⟨(Nat.le_of_ble_eq_true rfl), (Nat.le_of_ble_eq_true rfl)⟩ (Nat.le_of_ble_eq_true rfl) <|
    V_lstore (lv' := [(4, .long (F_X0_formOf I r1 a2)), (0, .ref 27), (1, .ref r1), (2, .long a2)]) (tat ok_X7_findSpoilt_0 (i := 3) (q := 7) rfl rfl) (Nat.le_of_ble_eq_true rfl) rfl <|
    V_aload_n (tat ok_X7_findSpoilt_0 (i := 4) (q := 8) rfl rfl) 1 rfl rfl <|
    V_iconst (tat ok_X7_findSpoilt_0 (i := 5) (q := 9) rfl rfl) ic_0 <|
    V_putI (tat ok_X7_findSpoilt_0 (i := 6) (q := 12) rfl rfl) fk_X7_112 rfl rfl <|
    V_aload_n (tat ok_X7_findSpoilt_0 (i := 7) (q := 13) rfl rfl) 1 rfl rfl <|
    V_iconst (tat ok_X7_findSpoilt_0 (i := 8) (q := 14) rfl rfl) ic_0 <|
    V_putI (tat ok_X7_findSpoilt_0 (i := 9) (q := 17) rfl rfl) fk_X7_115 rfl rfl <|
    V_iconst (tat ok_X7_findSpoilt_0 (i := 10) (q := 18) rfl rfl) ic_0 <|
    V_istore (lv' := [(6, .int 0), (4, .long (F_X0_formOf I r1 a2)), (0, .ref 27), (1, .ref r1), (2, .long a2)]) (tat ok_X7_findSpoilt_0 (i := 11) (q := 20) rfl rfl) (Nat.le_of_ble_eq_true rfl) rfl <|
    V_pick [2, 3, 4, 1, 0] rfl (V_X7_findSpoilt_20 hr1 rfl hr (jx (P := P) kk rfl))
theorem ct_X7_findSpoilt  (I : WI) (L : WL) (r1 : Nat) (a2 : Int64) (hr1 : isX0 r1) : Ct x_X7_findSpoilt 6 [.ref 27, .ref r1, .long a2] ly0 I L R0 0 0 (none, ly0, (F_X7_findSpoilt I r1 a2), L, R0) :=
  Ct_of_V mo_X7_findSpoilt.1 (Nat.le_of_ble_eq_true rfl) (V_X7_findSpoilt (P := fun x => x = (F_X7_findSpoilt I r1 a2)) hr1 (fun _ e => by rw [e]) rfl)
def F_X7_pairWith_82_1 (I : WI) (L : WL) (r1 : Nat) (a2 : Int32) (a3 : Int64) (a5 : Int32) : Option WI :=
  some I
theorem V_X7_pairWith_82_1  {I : WI} {L : WL} {r1 : Nat} {a2 : Int32} {a3 : Int64} {a5 : Int32}  {P : WI → Prop} {t : Tg} (hr1 : isX0 r1) (hk : ∀ x : WI, P x → V (zM x_X7_pairWith 2 0 0 t) 3 [(0, .ref 27), (1, .ref r1), (2, .int a2), (3, .long a3), (5, .int (a5 + 1))] [] ly0 x L R0 0 0) : oP P (F_X7_pairWith_82_1 I L r1 a2 a3 a5) → V (zM x_X7_pairWith 2 0 0 t) 82 [(0, .ref 27), (1, .ref r1), (2, .int a2), (3, .long a3), (5, .int a5)] [] ly0 I L R0 0 0 :=
  fun _ =>
  have kq : (oP P (F_X7_pairWith_82_1 I L r1 a2 a3 a5)) ∧ True := ⟨by assumption, trivial⟩
  V_iinc (v := (a5 + 1)) (lv' := [(5, .int (a5 + 1)), (0, .ref 27), (1, .ref r1), (2, .int a2), (3, .long a3)]) (tat ok_X7_pairWith_1 (i := 5) (q := 85) rfl rfl) 4 rfl (ia ic_1) (Nat.le_of_ble_eq_true rfl) rfl <|
    V_goto (tat ok_X7_pairWith_1 (i := 6) (q := 88) rfl rfl) rfl <|
    V_pick [1, 2, 3, 4, 0] rfl (hk I (jq (P := oP P) kq rfl))
def F_X7_pairWith_69_1 (I : WI) (L : WL) (r1 : Nat) (a2 : Int32) (a3 : Int64) (a5 : Int32) (s0 : Int32) : Option WI :=
  (F_X7_pairWith_82_1 (u2 (u2 I 27 7 s0) 27 6 (((u2 I 27 7 s0) 27 6) + 1)) L r1 a2 a3 a5)
theorem V_X7_pairWith_69_1  {I : WI} {L : WL} {r1 : Nat} {a2 : Int32} {a3 : Int64} {a5 : Int32} {s0 : Int32} {P : WI → Prop} {t : Tg} (hr1 : isX0 r1) (hk : ∀ x : WI, P x → V (zM x_X7_pairWith 2 0 0 t) 3 [(0, .ref 27), (1, .ref r1), (2, .int a2), (3, .long a3), (5, .int (a5 + 1))] [] ly0 x L R0 0 0) : oP P (F_X7_pairWith_69_1 I L r1 a2 a3 a5 s0) → V (zM x_X7_pairWith 2 0 0 t) 69 [(0, .ref 27), (1, .ref r1), (2, .int a2), (3, .long a3), (5, .int a5)] [.int s0, .ref 27] ly0 I L R0 0 0 :=
  fun _ =>
  have kq : (oP P (F_X7_pairWith_69_1 I L r1 a2 a3 a5 s0)) ∧ True := ⟨by assumption, trivial⟩
  V_putI (tat ok_X7_pairWith_0 (i := 38) (q := 72) rfl rfl) fk_X7_115 rfl rfl <|
    V_aload_n (tat ok_X7_pairWith_0 (i := 39) (q := 73) rfl rfl) 0 rfl rfl <|
    V_dup (tat ok_X7_pairWith_1 (i := 0) (q := 74) rfl rfl) rfl <|
    V_getI (tat ok_X7_pairWith_1 (i := 1) (q := 77) rfl rfl) fk_X7_112 rfl <|
    V_iconst (tat ok_X7_pairWith_1 (i := 2) (q := 78) rfl rfl) ic_1 <|
    V_iadd (tat ok_X7_pairWith_1 (i := 3) (q := 79) rfl rfl) <|
    V_putI (tat ok_X7_pairWith_1 (i := 4) (q := 82) rfl rfl) fk_X7_112 rfl rfl <|
    V_X7_pairWith_82_1 hr1 hk (jq (P := oP P) kq rfl)
def F_X7_pairWith_13_1 (I : WI) (L : WL) (r1 : Nat) (a2 : Int32) (a3 : Int64) (a5 : Int32) : Option WI :=
  (if a5 ≤ a2 then (F_X7_pairWith_82_1 I L r1 a2 a3 a5) else (if (F_X0_hasSquare I r1 (a5 >>> (3 &&& 31)) (a5 &&& 7)) = 0 then (F_X7_pairWith_82_1 I L r1 a2 a3 a5) else (if a5 < 0 ∨ 64 ≤ Int32.toNatClampNeg a5 then none else (if (lg_cmp (L 29 (Int32.toNatClampNeg a5)) a3) = 0 then (if (I 27 6) = 0 then (F_X7_pairWith_69_1 I L r1 a2 a3 a5 ((64 * a2) + a5)) else (F_X7_pairWith_69_1 I L r1 a2 a3 a5 (I 27 7))) else (F_X7_pairWith_82_1 I L r1 a2 a3 a5)))))
theorem V_X7_pairWith_13_1  {I : WI} {L : WL} {r1 : Nat} {a2 : Int32} {a3 : Int64} {a5 : Int32}  {P : WI → Prop} {t : Tg} (hr1 : isX0 r1) (hk : ∀ x : WI, P x → V (zM x_X7_pairWith 2 0 0 t) 3 [(0, .ref 27), (1, .ref r1), (2, .int a2), (3, .long a3), (5, .int (a5 + 1))] [] ly0 x L R0 0 0) : oP P (F_X7_pairWith_13_1 I L r1 a2 a3 a5) → V (zM x_X7_pairWith 2 0 0 t) 13 [(0, .ref 27), (1, .ref r1), (2, .int a2), (3, .long a3), (5, .int a5)] [] ly0 I L R0 0 0 :=
  fun _ =>
  have kq : (oP P (F_X7_pairWith_13_1 I L r1 a2 a3 a5)) ∧ True := ⟨by assumption, trivial⟩
  V_iload (tat ok_X7_pairWith_0 (i := 7) (q := 15) rfl rfl) 4 rfl <|
    V_iload_n (tat ok_X7_pairWith_0 (i := 8) (q := 16) rfl rfl) 2 rfl rfl <|
    V_icmp_le (tat ok_X7_pairWith_0 (i := 9) (q := 19) rfl rfl) rfl (fun c1 => V_X7_pairWith_82_1 hr1 hk (jq (P := oP P) kq (if_pos c1))) (fun c1 => V_aload_n (tat ok_X7_pairWith_0 (i := 10) (q := 20) rfl rfl) 1 rfl rfl <|
    V_iload (tat ok_X7_pairWith_0 (i := 11) (q := 22) rfl rfl) 4 rfl <|
    V_iconst (tat ok_X7_pairWith_0 (i := 12) (q := 23) rfl rfl) ic_3 <|
    V_ishr (tat ok_X7_pairWith_0 (i := 13) (q := 24) rfl rfl) <|
    V_iload (tat ok_X7_pairWith_0 (i := 14) (q := 26) rfl rfl) 4 rfl <|
    V_bipush (tat ok_X7_pairWith_0 (i := 15) (q := 28) rfl rfl) bp_7 <|
    V_iand (tat ok_X7_pairWith_0 (i := 16) (q := 29) rfl rfl) <|
    V_cv2 (ct_X0_hasSquare I L r1 (a5 >>> (3 &&& 31)) (a5 &&& 7) hr1) mo_X0_hasSquare (tat ok_X7_pairWith_0 (i := 17) (q := 32) rfl rfl) ml_X7_118 hr1 ⟨by decide, _, rfl, rfl⟩ ⟨(Nat.le_of_ble_eq_true rfl), (Nat.le_of_ble_eq_true rfl)⟩ ⟨(Nat.le_of_ble_eq_true rfl), (Nat.le_of_ble_eq_true rfl)⟩ (Nat.le_of_ble_eq_true rfl) <|
    V_if_eq (tat ok_X7_pairWith_0 (i := 18) (q := 35) rfl rfl) rfl (fun c2 => V_X7_pairWith_82_1 hr1 hk (jq (P := oP P) kq (Eq.trans (if_neg c1) (if_pos c2)))) (fun c2 => V_aload_n (tat ok_X7_pairWith_0 (i := 19) (q := 36) rfl rfl) 0 rfl rfl <|
    V_getR (tat ok_X7_pairWith_0 (i := 20) (q := 39) rfl rfl) fk_X7_15 rfl rfl <|
    V_iload (tat ok_X7_pairWith_0 (i := 21) (q := 41) rfl rfl) 4 rfl <|
    (if c3 : a5 < 0 ∨ 64 ≤ Int32.toNatClampNeg a5 then ((jq (P := oP P) kq (Eq.trans (if_neg c1) (Eq.trans (if_neg c2) (if_pos c3))))).elim else V_lald (tat ok_X7_pairWith_0 (i := 22) (q := 42) rfl rfl) rfl c3 <|
    V_lload_n (tat ok_X7_pairWith_0 (i := 23) (q := 43) rfl rfl) 3 rfl rfl <|
    V_lcmp (tat ok_X7_pairWith_0 (i := 24) (q := 44) rfl rfl) <|
    V_if_ne (tat ok_X7_pairWith_0 (i := 25) (q := 47) rfl rfl) rfl (fun c4 => V_X7_pairWith_82_1 hr1 hk (jq (P := oP P) kq (Eq.trans (if_neg c1) (Eq.trans (if_neg c2) (Eq.trans (if_neg c3) (if_neg c4)))))) (fun c4 => V_aload_n (tat ok_X7_pairWith_0 (i := 26) (q := 48) rfl rfl) 0 rfl rfl <|
    V_aload_n (tat ok_X7_pairWith_0 (i := 27) (q := 49) rfl rfl) 0 rfl rfl <|
    V_getI (tat ok_X7_pairWith_0 (i := 28) (q := 52) rfl rfl) fk_X7_112 rfl <|
    V_if_ne (tat ok_X7_pairWith_0 (i := 29) (q := 55) rfl rfl) rfl (fun c5 => V_aload_n (tat ok_X7_pairWith_0 (i := 36) (q := 66) rfl rfl) 0 rfl rfl <|
    V_getI (tat ok_X7_pairWith_0 (i := 37) (q := 69) rfl rfl) fk_X7_115 rfl <|
    V_X7_pairWith_69_1 hr1 hk (jq (P := oP P) kq (Eq.trans (if_neg c1) (Eq.trans (if_neg c2) (Eq.trans (if_neg c3) (Eq.trans (if_pos c4) (if_neg c5))))))) (fun c5 => V_bipush (tat ok_X7_pairWith_0 (i := 30) (q := 57) rfl rfl) bp_64 <|
    V_iload_n (tat ok_X7_pairWith_0 (i := 31) (q := 58) rfl rfl) 2 rfl rfl <|
    V_imul (tat ok_X7_pairWith_0 (i := 32) (q := 59) rfl rfl) <|
    V_iload (tat ok_X7_pairWith_0 (i := 33) (q := 61) rfl rfl) 4 rfl <|
    V_iadd (tat ok_X7_pairWith_0 (i := 34) (q := 62) rfl rfl) <|
    V_goto (tat ok_X7_pairWith_0 (i := 35) (q := 65) rfl rfl) rfl <|
    V_X7_pairWith_69_1 hr1 hk (jq (P := oP P) kq (Eq.trans (if_neg c1) (Eq.trans (if_neg c2) (Eq.trans (if_neg c3) (Eq.trans (if_pos c4) (if_pos c5)))))))))))
def F_X7_pairWith_88 (I : WI) (L : WL) (r1 : Nat) (a2 : Int32) (a3 : Int64) : Option WI :=
  some I
theorem V_X7_pairWith_88  {I : WI} {L : WL} {r1 : Nat} {a2 : Int32} {a3 : Int64}  {P : WI → Prop} {t : Tg} (hr1 : isX0 r1) (hr : ∀ v, P v → t = (none, ly0, v, L, R0)) : oP P (F_X7_pairWith_88 I L r1 a2 a3) → V (zM x_X7_pairWith 2 0 0 t) 88 [(0, .ref 27), (1, .ref r1), (2, .int a2), (3, .long a3)] [] ly0 I L R0 0 0 :=
  fun _ =>
  have kq : (oP P (F_X7_pairWith_88 I L r1 a2 a3)) ∧ True := ⟨by assumption, trivial⟩
  V_vret (tat ok_X7_pairWith_1 (i := 7) (q := 89) rfl rfl) rfl (hr I (jq (P := oP P) kq rfl)) ⟨(Nat.le_of_ble_eq_true rfl), (Nat.le_of_ble_eq_true rfl)⟩
def F_X7_pairWith_3 (I : WI) (L : WL) (r1 : Nat) (a2 : Int32) (a3 : Int64) (a5 : Int32) : Option WI :=
  (frp0 (fun i x => (F_X7_pairWith_13_1 x L r1 a2 a3 i)) 64 (fu a5 64) a5 I).bind (fun q => (F_X7_pairWith_88 (p2 q) L r1 a2 a3))
theorem V_X7_pairWith_3  {I : WI} {L : WL} {r1 : Nat} {a2 : Int32} {a3 : Int64} {a5 : Int32} {P : WI → Prop} {t : Tg} (hr1 : isX0 r1) (hb5 : bz a5 = a5) (hr : ∀ v, P v → t = (none, ly0, v, L, R0)) (kk : oP P (F_X7_pairWith_3 I L r1 a2 a3 a5)) : V (zM x_X7_pairWith 2 0 0 t) 3 [(0, .ref 27), (1, .ref r1), (2, .int a2), (3, .long a3), (5, .int a5)] [] ly0 I L R0 0 0 :=
  V_frp0 (fun i x => (F_X7_pairWith_13_1 x L r1 a2 a3 i)) 64 (fun i x => V (zM x_X7_pairWith 2 0 0 t) 3 [(0, .ref 27), (1, .ref r1), (2, .int a2), (3, .long a3), (5, .int i)] [] ly0 x L R0 0 0) (fun i x => oP P ((F_X7_pairWith_88 x L r1 a2 a3))) (c := a5) (s := I) (fun i x kx kb => V_iload (tat ok_X7_pairWith_0 (i := 2) (q := 5) rfl rfl) 4 rfl <|
    V_aload_n (tat ok_X7_pairWith_0 (i := 3) (q := 6) rfl rfl) 0 rfl rfl <|
    V_getR (tat ok_X7_pairWith_0 (i := 4) (q := 9) rfl rfl) fk_X7_15 rfl rfl <|
    V_alen (tat ok_X7_pairWith_0 (i := 5) (q := 10) rfl rfl) rfl ⟨by decide, by decide⟩ nl_64 <|
    V_icmp_ge (tat ok_X7_pairWith_0 (i := 6) (q := 13) rfl rfl) rfl (fun c0 => V_pick [0, 1, 2, 3] rfl (V_X7_pairWith_88 hr1 hr (kx c0))) (fun c0 => V_X7_pairWith_13_1 (P := (fun x => (fun i x => V (zM x_X7_pairWith 2 0 0 t) 3 [(0, .ref 27), (1, .ref r1), (2, .int a2), (3, .long a3), (5, .int i)] [] ly0 x L R0 0 0) (i + 1) x)) hr1 (fun _ e => e) (kb c0))) (oP_bind (f := fun q => _) kk)
def F_X7_pairWith (I : WI) (L : WL) (r1 : Nat) (a2 : Int32) (a3 : Int64) : Option WI :=
  (F_X7_pairWith_3 I L r1 a2 a3 0)
theorem V_X7_pairWith  {I : WI} {L : WL} {r1 : Nat} {a2 : Int32} {a3 : Int64}  {P : WI → Prop} {t : Tg} (hr1 : isX0 r1) (hr : ∀ v, P v → t = (none, ly0, v, L, R0)) : oP P (F_X7_pairWith I L r1 a2 a3) → V (zM x_X7_pairWith 2 0 0 t) 0 [(0, .ref 27), (1, .ref r1), (2, .int a2), (3, .long a3)] [] ly0 I L R0 0 0 :=
  fun _ =>
  have kq : (oP P (F_X7_pairWith I L r1 a2 a3)) ∧ True := ⟨by assumption, trivial⟩
  V_iconst (tat ok_X7_pairWith_0 (i := 0) (q := 1) rfl rfl) ic_0 <|
    V_istore (lv' := [(5, .int 0), (0, .ref 27), (1, .ref r1), (2, .int a2), (3, .long a3)]) (tat ok_X7_pairWith_0 (i := 1) (q := 3) rfl rfl) (Nat.le_of_ble_eq_true rfl) rfl <|
    V_pick [1, 2, 3, 4, 0] rfl (V_X7_pairWith_3 hr1 rfl hr (jq (P := oP P) kq rfl))
theorem ct_X7_pairWith  (I : WI) (L : WL) (r1 : Nat) (a2 : Int32) (a3 : Int64) (hr1 : isX0 r1) {v : WI} (h : (F_X7_pairWith I L r1 a2 a3) = some v) : Ct x_X7_pairWith 2 [.ref 27, .ref r1, .int a2, .long a3] ly0 I L R0 0 0 (none, ly0, v, L, R0) :=
  Ct_of_V mo_X7_pairWith.1 (Nat.le_of_ble_eq_true rfl) (V_X7_pairWith (P := fun x => x = v) hr1 (fun _ e => by rw [e]) (by rw [h]; exact rfl))
def F_X7_findBothSpoilt_30_1 (I : WI) (L : WL) (r1 : Nat) (a2 : Int64) (a4 : Int64) (a6 : Int32) : Option WL :=
  (if a6 < 0 ∨ 64 ≤ Int32.toNatClampNeg a6 then none else some (u2 L 29 (Int32.toNatClampNeg a6) (F_X0_formOf I r1 (lsh 1 a6))))
theorem V_X7_findBothSpoilt_30_1  {I : WI} {L : WL} {r1 : Nat} {a2 : Int64} {a4 : Int64} {a6 : Int32}  {P : WL → Prop} {t : Tg} (hr1 : isX0 r1) (hk : ∀ x : WL, P x → V (zM x_X7_findBothSpoilt 6 0 0 t) 20 [(0, .ref 27), (1, .ref r1), (2, .long a2), (4, .long a4), (6, .int (a6 + 1))] [] ly0 I x R0 0 0) : oP P (F_X7_findBothSpoilt_30_1 I L r1 a2 a4 a6) → V (zM x_X7_findBothSpoilt 6 0 0 t) 30 [(0, .ref 27), (1, .ref r1), (2, .long a2), (4, .long a4), (6, .int a6)] [] ly0 I L R0 0 0 :=
  fun _ =>
  have kq : (oP P (F_X7_findBothSpoilt_30_1 I L r1 a2 a4 a6)) ∧ True := ⟨by assumption, trivial⟩
  V_aload_n (tat ok_X7_findBothSpoilt_0 (i := 17) (q := 31) rfl rfl) 0 rfl rfl <|
    V_getR (tat ok_X7_findBothSpoilt_0 (i := 18) (q := 34) rfl rfl) fk_X7_15 rfl rfl <|
    V_iload (tat ok_X7_findBothSpoilt_0 (i := 19) (q := 36) rfl rfl) 4 rfl <|
    V_aload_n (tat ok_X7_findBothSpoilt_0 (i := 20) (q := 37) rfl rfl) 1 rfl rfl <|
    V_lconst (v := 1) (tat ok_X7_findBothSpoilt_0 (i := 21) (q := 38) rfl rfl) rfl <|
    V_iload (tat ok_X7_findBothSpoilt_0 (i := 22) (q := 40) rfl rfl) 4 rfl <|
    V_lshl (tat ok_X7_findBothSpoilt_0 (i := 23) (q := 41) rfl rfl) <|
    V_cv1 (ct_X0_formOf I L r1 (lsh 1 a6) hr1) mo_X0_formOf (tat ok_X7_findBothSpoilt_0 (i := 24) (q := 44) rfl rfl) ml_X7_34 hr1 ⟨by decide, _, rfl, rfl⟩ ⟨(Nat.le_of_ble_eq_true rfl), (Nat.le_of_ble_eq_true rfl)⟩ ⟨(Nat.le_of_ble_eq_true rfl), (Nat.le_of_ble_eq_true rfl)⟩ (Nat.le_of_ble_eq_true rfl) <|
    (if c1 : a6 < 0 ∨ 64 ≤ Int32.toNatClampNeg a6 then ((jq (P := oP P) kq (if_pos c1))).elim else V_last (tat ok_X7_findBothSpoilt_0 (i := 25) (q := 45) rfl rfl) rfl c1 <|
    V_iinc (v := (a6 + 1)) (lv' := [(6, .int (a6 + 1)), (0, .ref 27), (1, .ref r1), (2, .long a2), (4, .long a4)]) (tat ok_X7_findBothSpoilt_0 (i := 26) (q := 48) rfl rfl) 4 rfl (ia ic_1) (Nat.le_of_ble_eq_true rfl) rfl <|
    V_goto (tat ok_X7_findBothSpoilt_0 (i := 27) (q := 51) rfl rfl) rfl <|
    V_pick [1, 2, 3, 4, 0] rfl (hk (u2 L 29 (Int32.toNatClampNeg a6) (F_X0_formOf I r1 (lsh 1 a6))) (jq (P := oP P) kq (if_neg c1))))
def F_X7_findBothSpoilt_97_2 (I : WI) (L : WL) (r1 : Nat) (a2 : Int64) (a4 : Int64) (a6 : Int32) : Option WI :=
  some I
theorem V_X7_findBothSpoilt_97_2  {I : WI} {L : WL} {r1 : Nat} {a2 : Int64} {a4 : Int64} {a6 : Int32}  {P : WI → Prop} {t : Tg} (hr1 : isX0 r1) (hk : ∀ x : WI, P x → V (zM x_X7_findBothSpoilt 6 0 0 t) 54 [(0, .ref 27), (1, .ref r1), (2, .long a2), (4, .long a4), (6, .int (a6 + 1))] [] ly0 x L R0 0 0) : oP P (F_X7_findBothSpoilt_97_2 I L r1 a2 a4 a6) → V (zM x_X7_findBothSpoilt 6 0 0 t) 97 [(0, .ref 27), (1, .ref r1), (2, .long a2), (4, .long a4), (6, .int a6)] [] ly0 I L R0 0 0 :=
  fun _ =>
  have kq : (oP P (F_X7_findBothSpoilt_97_2 I L r1 a2 a4 a6)) ∧ True := ⟨by assumption, trivial⟩
  V_iinc (v := (a6 + 1)) (lv' := [(6, .int (a6 + 1)), (0, .ref 27), (1, .ref r1), (2, .long a2), (4, .long a4)]) (tat ok_X7_findBothSpoilt_1 (i := 14) (q := 100) rfl rfl) 4 rfl (ia ic_1) (Nat.le_of_ble_eq_true rfl) rfl <|
    V_goto (tat ok_X7_findBothSpoilt_1 (i := 15) (q := 103) rfl rfl) rfl <|
    V_pick [1, 2, 3, 4, 0] rfl (hk I (jq (P := oP P) kq rfl))
def F_X7_findBothSpoilt_64_2 (I : WI) (L : WL) (r1 : Nat) (a2 : Int64) (a4 : Int64) (a6 : Int32) : Option WI :=
  (if (F_X0_hasSquare I r1 (a6 >>> (3 &&& 31)) (a6 &&& 7)) = 0 then (F_X7_findBothSpoilt_97_2 I L r1 a2 a4 a6) else (if a6 < 0 ∨ 64 ≤ Int32.toNatClampNeg a6 then none else (Option.bind (F_X7_pairWith I L r1 a6 (a4 ^^^ (L 29 (Int32.toNatClampNeg a6)))) (fun v4 => (F_X7_findBothSpoilt_97_2 v4 L r1 a2 a4 a6)))))
theorem V_X7_findBothSpoilt_64_2  {I : WI} {L : WL} {r1 : Nat} {a2 : Int64} {a4 : Int64} {a6 : Int32}  {P : WI → Prop} {t : Tg} (hr1 : isX0 r1) (hk : ∀ x : WI, P x → V (zM x_X7_findBothSpoilt 6 0 0 t) 54 [(0, .ref 27), (1, .ref r1), (2, .long a2), (4, .long a4), (6, .int (a6 + 1))] [] ly0 x L R0 0 0) : oP P (F_X7_findBothSpoilt_64_2 I L r1 a2 a4 a6) → V (zM x_X7_findBothSpoilt 6 0 0 t) 64 [(0, .ref 27), (1, .ref r1), (2, .long a2), (4, .long a4), (6, .int a6)] [] ly0 I L R0 0 0 :=
  fun _ =>
  have kq : (oP P (F_X7_findBothSpoilt_64_2 I L r1 a2 a4 a6)) ∧ True := ⟨by assumption, trivial⟩
  V_aload_n (tat ok_X7_findBothSpoilt_0 (i := 35) (q := 65) rfl rfl) 1 rfl rfl <|
    V_iload (tat ok_X7_findBothSpoilt_0 (i := 36) (q := 67) rfl rfl) 4 rfl <|
    V_iconst (tat ok_X7_findBothSpoilt_0 (i := 37) (q := 68) rfl rfl) ic_3 <|
    V_ishr (tat ok_X7_findBothSpoilt_0 (i := 38) (q := 69) rfl rfl) <|
    V_iload (tat ok_X7_findBothSpoilt_0 (i := 39) (q := 71) rfl rfl) 4 rfl <|
    V_bipush (tat ok_X7_findBothSpoilt_1 (i := 0) (q := 73) rfl rfl) bp_7 <|
    V_iand (tat ok_X7_findBothSpoilt_1 (i := 1) (q := 74) rfl rfl) <|
    V_cv2 (ct_X0_hasSquare I L r1 (a6 >>> (3 &&& 31)) (a6 &&& 7) hr1) mo_X0_hasSquare (tat ok_X7_findBothSpoilt_1 (i := 2) (q := 77) rfl rfl) ml_X7_118 hr1 ⟨by decide, _, rfl, rfl⟩ ⟨(Nat.le_of_ble_eq_true rfl), (Nat.le_of_ble_eq_true rfl)⟩ ⟨(Nat.le_of_ble_eq_true rfl), (Nat.le_of_ble_eq_true rfl)⟩ (Nat.le_of_ble_eq_true rfl) <|
    V_if_eq (tat ok_X7_findBothSpoilt_1 (i := 3) (q := 80) rfl rfl) rfl (fun c2 => V_X7_findBothSpoilt_97_2 hr1 hk (jq (P := oP P) kq (if_pos c2))) (fun c2 => V_aload_n (tat ok_X7_findBothSpoilt_1 (i := 4) (q := 81) rfl rfl) 0 rfl rfl <|
    V_aload_n (tat ok_X7_findBothSpoilt_1 (i := 5) (q := 82) rfl rfl) 1 rfl rfl <|
    V_iload (tat ok_X7_findBothSpoilt_1 (i := 6) (q := 84) rfl rfl) 4 rfl <|
    V_lload (tat ok_X7_findBothSpoilt_1 (i := 7) (q := 86) rfl rfl) 3 rfl <|
    V_aload_n (tat ok_X7_findBothSpoilt_1 (i := 8) (q := 87) rfl rfl) 0 rfl rfl <|
    V_getR (tat ok_X7_findBothSpoilt_1 (i := 9) (q := 90) rfl rfl) fk_X7_15 rfl rfl <|
    V_iload (tat ok_X7_findBothSpoilt_1 (i := 10) (q := 92) rfl rfl) 4 rfl <|
    (if c3 : a6 < 0 ∨ 64 ≤ Int32.toNatClampNeg a6 then ((jq (P := oP P) kq (Eq.trans (if_neg c2) (if_pos c3)))).elim else V_lald (tat ok_X7_findBothSpoilt_1 (i := 11) (q := 93) rfl rfl) rfl c3 <|
    V_lxor (tat ok_X7_findBothSpoilt_1 (i := 12) (q := 94) rfl rfl) <|
    oP_case (jq (P := oP P) kq (Eq.trans (if_neg c2) (if_neg c3))) (fun v4 e4 _ => V_cv3v (ct_X7_pairWith I L r1 a6 (a4 ^^^ (L 29 (Int32.toNatClampNeg a6))) hr1 e4) mo_X7_pairWith (tat ok_X7_findBothSpoilt_1 (i := 13) (q := 97) rfl rfl) ml_X7_122 rfl ⟨by decide, _, rfl, rfl⟩ ⟨(Nat.le_of_ble_eq_true rfl), (Nat.le_of_ble_eq_true rfl)⟩ ⟨(Nat.le_of_ble_eq_true rfl), (Nat.le_of_ble_eq_true rfl)⟩ (Nat.le_of_ble_eq_true rfl) <|
    V_X7_findBothSpoilt_97_2 hr1 hk (jq (P := oP P) kq (Eq.trans (if_neg c2) (Eq.trans (if_neg c3) (ob e4)))))))
def F_X7_findBothSpoilt_103 (I : WI) (L : WL) (r1 : Nat) (a2 : Int64) : Option (WI × WL) :=
  some (I, L)
theorem V_X7_findBothSpoilt_103  {I : WI} {L : WL} {r1 : Nat} {a2 : Int64}  {P : (WI × WL) → Prop} {t : Tg} (hr1 : isX0 r1) (hr : ∀ v, P v → t = (none, ly0, (p1 v), (p2 v), R0)) : oP P (F_X7_findBothSpoilt_103 I L r1 a2) → V (zM x_X7_findBothSpoilt 6 0 0 t) 103 [(0, .ref 27), (1, .ref r1), (2, .long a2)] [] ly0 I L R0 0 0 :=
  fun _ =>
  have kq : (oP P (F_X7_findBothSpoilt_103 I L r1 a2)) ∧ True := ⟨by assumption, trivial⟩
  V_vret (tat ok_X7_findBothSpoilt_1 (i := 16) (q := 104) rfl rfl) rfl (hr (I, L) (jq (P := oP P) kq rfl)) ⟨(Nat.le_of_ble_eq_true rfl), (Nat.le_of_ble_eq_true rfl)⟩
def F_X7_findBothSpoilt_54 (I : WI) (L : WL) (r1 : Nat) (a2 : Int64) (a4 : Int64) (a6 : Int32) : Option (WI × WL) :=
  (frp0 (fun i x => (F_X7_findBothSpoilt_64_2 x L r1 a2 a4 i)) 64 (fu a6 64) a6 I).bind (fun q => (F_X7_findBothSpoilt_103 (p2 q) L r1 a2))
theorem V_X7_findBothSpoilt_54  {I : WI} {L : WL} {r1 : Nat} {a2 : Int64} {a4 : Int64} {a6 : Int32} {P : (WI × WL) → Prop} {t : Tg} (hr1 : isX0 r1) (hb6 : bz a6 = a6) (hr : ∀ v, P v → t = (none, ly0, (p1 v), (p2 v), R0)) (kk : oP P (F_X7_findBothSpoilt_54 I L r1 a2 a4 a6)) : V (zM x_X7_findBothSpoilt 6 0 0 t) 54 [(0, .ref 27), (1, .ref r1), (2, .long a2), (4, .long a4), (6, .int a6)] [] ly0 I L R0 0 0 :=
  V_frp0 (fun i x => (F_X7_findBothSpoilt_64_2 x L r1 a2 a4 i)) 64 (fun i x => V (zM x_X7_findBothSpoilt 6 0 0 t) 54 [(0, .ref 27), (1, .ref r1), (2, .long a2), (4, .long a4), (6, .int i)] [] ly0 x L R0 0 0) (fun i x => oP P ((F_X7_findBothSpoilt_103 x L r1 a2))) (c := a6) (s := I) (fun i x kx kb => V_iload (tat ok_X7_findBothSpoilt_0 (i := 30) (q := 56) rfl rfl) 4 rfl <|
    V_aload_n (tat ok_X7_findBothSpoilt_0 (i := 31) (q := 57) rfl rfl) 0 rfl rfl <|
    V_getR (tat ok_X7_findBothSpoilt_0 (i := 32) (q := 60) rfl rfl) fk_X7_15 rfl rfl <|
    V_alen (tat ok_X7_findBothSpoilt_0 (i := 33) (q := 61) rfl rfl) rfl ⟨by decide, by decide⟩ nl_64 <|
    V_icmp_ge (tat ok_X7_findBothSpoilt_0 (i := 34) (q := 64) rfl rfl) rfl (fun c0 => V_pick [0, 1, 2] rfl (V_X7_findBothSpoilt_103 hr1 hr (kx c0))) (fun c0 => V_X7_findBothSpoilt_64_2 (P := (fun x => (fun i x => V (zM x_X7_findBothSpoilt 6 0 0 t) 54 [(0, .ref 27), (1, .ref r1), (2, .long a2), (4, .long a4), (6, .int i)] [] ly0 x L R0 0 0) (i + 1) x)) hr1 (fun _ e => e) (kb c0))) (oP_bind (f := fun q => _) kk)
def F_X7_findBothSpoilt_51 (I : WI) (L : WL) (r1 : Nat) (a2 : Int64) (a4 : Int64) : Option (WI × WL) :=
  (F_X7_findBothSpoilt_54 I L r1 a2 a4 0)
theorem V_X7_findBothSpoilt_51  {I : WI} {L : WL} {r1 : Nat} {a2 : Int64} {a4 : Int64} {P : (WI × WL) → Prop} {t : Tg} (hr1 : isX0 r1) (hr : ∀ v, P v → t = (none, ly0, (p1 v), (p2 v), R0)) : oP P (F_X7_findBothSpoilt_51 I L r1 a2 a4) → V (zM x_X7_findBothSpoilt 6 0 0 t) 51 [(0, .ref 27), (1, .ref r1), (2, .long a2), (4, .long a4)] [] ly0 I L R0 0 0 :=
  fun _ =>
  have kq : (oP P (F_X7_findBothSpoilt_51 I L r1 a2 a4)) ∧ True := ⟨by assumption, trivial⟩
  V_iconst (tat ok_X7_findBothSpoilt_0 (i := 28) (q := 52) rfl rfl) ic_0 <|
    V_istore (lv' := [(6, .int 0), (0, .ref 27), (1, .ref r1), (2, .long a2), (4, .long a4)]) (tat ok_X7_findBothSpoilt_0 (i := 29) (q := 54) rfl rfl) (Nat.le_of_ble_eq_true rfl) rfl <|
    V_pick [1, 2, 3, 4, 0] rfl (V_X7_findBothSpoilt_54 hr1 rfl hr (jq (P := oP P) kq rfl))
def F_X7_findBothSpoilt_20 (I : WI) (L : WL) (r1 : Nat) (a2 : Int64) (a4 : Int64) (a6 : Int32) : Option (WI × WL) :=
  (frp0 (fun i x => (F_X7_findBothSpoilt_30_1 I x r1 a2 a4 i)) 64 (fu a6 64) a6 L).bind (fun q => (F_X7_findBothSpoilt_51 I (p2 q) r1 a2 a4))
theorem V_X7_findBothSpoilt_20  {I : WI} {L : WL} {r1 : Nat} {a2 : Int64} {a4 : Int64} {a6 : Int32} {P : (WI × WL) → Prop} {t : Tg} (hr1 : isX0 r1) (hb6 : bz a6 = a6) (hr : ∀ v, P v → t = (none, ly0, (p1 v), (p2 v), R0)) (kk : oP P (F_X7_findBothSpoilt_20 I L r1 a2 a4 a6)) : V (zM x_X7_findBothSpoilt 6 0 0 t) 20 [(0, .ref 27), (1, .ref r1), (2, .long a2), (4, .long a4), (6, .int a6)] [] ly0 I L R0 0 0 :=
  V_frp0 (fun i x => (F_X7_findBothSpoilt_30_1 I x r1 a2 a4 i)) 64 (fun i x => V (zM x_X7_findBothSpoilt 6 0 0 t) 20 [(0, .ref 27), (1, .ref r1), (2, .long a2), (4, .long a4), (6, .int i)] [] ly0 I x R0 0 0) (fun i x => oP P ((F_X7_findBothSpoilt_51 I x r1 a2 a4))) (c := a6) (s := L) (fun i x kx kb => V_iload (tat ok_X7_findBothSpoilt_0 (i := 12) (q := 22) rfl rfl) 4 rfl <|
    V_aload_n (tat ok_X7_findBothSpoilt_0 (i := 13) (q := 23) rfl rfl) 0 rfl rfl <|
    V_getR (tat ok_X7_findBothSpoilt_0 (i := 14) (q := 26) rfl rfl) fk_X7_15 rfl rfl <|
    V_alen (tat ok_X7_findBothSpoilt_0 (i := 15) (q := 27) rfl rfl) rfl ⟨by decide, by decide⟩ nl_64 <|
    V_icmp_ge (tat ok_X7_findBothSpoilt_0 (i := 16) (q := 30) rfl rfl) rfl (fun c0 => V_pick [0, 1, 2, 3] rfl (V_X7_findBothSpoilt_51 hr1 hr (kx c0))) (fun c0 => V_X7_findBothSpoilt_30_1 (P := (fun x => (fun i x => V (zM x_X7_findBothSpoilt 6 0 0 t) 20 [(0, .ref 27), (1, .ref r1), (2, .long a2), (4, .long a4), (6, .int i)] [] ly0 I x R0 0 0) (i + 1) x)) hr1 (fun _ e => e) (kb c0))) (oP_bind (f := fun q => _) kk)
def F_X7_findBothSpoilt (I : WI) (L : WL) (r1 : Nat) (a2 : Int64) : Option (WI × WL) :=
  (F_X7_findBothSpoilt_20 (u2 (u2 I 27 6 0) 27 7 0) L r1 a2 (F_X0_formOf I r1 a2) 0)
theorem V_X7_findBothSpoilt  {I : WI} {L : WL} {r1 : Nat} {a2 : Int64}  {P : (WI × WL) → Prop} {t : Tg} (hr1 : isX0 r1) (hr : ∀ v, P v → t = (none, ly0, (p1 v), (p2 v), R0)) : oP P (F_X7_findBothSpoilt I L r1 a2) → V (zM x_X7_findBothSpoilt 6 0 0 t) 0 [(0, .ref 27), (1, .ref r1), (2, .long a2)] [] ly0 I L R0 0 0 :=
  fun _ =>
  have kq : (oP P (F_X7_findBothSpoilt I L r1 a2)) ∧ True := ⟨by assumption, trivial⟩
  V_aload_n (tat ok_X7_findBothSpoilt_0 (i := 0) (q := 1) rfl rfl) 1 rfl rfl <|
    V_lload_n (tat ok_X7_findBothSpoilt_0 (i := 1) (q := 2) rfl rfl) 2 rfl rfl <|
    V_cv1 (ct_X0_formOf I L r1 a2 hr1) mo_X0_formOf (tat ok_X7_findBothSpoilt_0 (i := 2) (q := 5) rfl rfl) ml_X7_34 hr1 ⟨by decide, _, rfl, rfl⟩ ⟨(Nat.le_of_ble_eq_true rfl), (Nat.le_of_ble_eq_true rfl)⟩ ⟨(Nat.le_of_ble_eq_true rfl), (Nat.le_of_ble_eq_true rfl)⟩ (Nat.le_of_ble_eq_true rfl) <|
    V_lstore (lv' := [(4, .long (F_X0_formOf I r1 a2)), (0, .ref 27), (1, .ref r1), (2, .long a2)]) (tat ok_X7_findBothSpoilt_0 (i := 3) (q := 7) rfl rfl) (Nat.le_of_ble_eq_true rfl) rfl <|
    V_aload_n (tat ok_X7_findBothSpoilt_0 (i := 4) (q := 8) rfl rfl) 1 rfl rfl <|
    V_iconst (tat ok_X7_findBothSpoilt_0 (i := 5) (q := 9) rfl rfl) ic_0 <|
    V_putI (tat ok_X7_findBothSpoilt_0 (i := 6) (q := 12) rfl rfl) fk_X7_112 rfl rfl <|
    V_aload_n (tat ok_X7_findBothSpoilt_0 (i := 7) (q := 13) rfl rfl) 1 rfl rfl <|
    V_iconst (tat ok_X7_findBothSpoilt_0 (i := 8) (q := 14) rfl rfl) ic_0 <|
    V_putI (tat ok_X7_findBothSpoilt_0 (i := 9) (q := 17) rfl rfl) fk_X7_115 rfl rfl <|
    V_iconst (tat ok_X7_findBothSpoilt_0 (i := 10) (q := 18) rfl rfl) ic_0 <|
    V_istore (lv' := [(6, .int 0), (4, .long (F_X0_formOf I r1 a2)), (0, .ref 27), (1, .ref r1), (2, .long a2)]) (tat ok_X7_findBothSpoilt_0 (i := 11) (q := 20) rfl rfl) (Nat.le_of_ble_eq_true rfl) rfl <|
    V_pick [2, 3, 4, 1, 0] rfl (V_X7_findBothSpoilt_20 hr1 rfl hr (jq (P := oP P) kq rfl))
theorem ct_X7_findBothSpoilt  (I : WI) (L : WL) (r1 : Nat) (a2 : Int64) (hr1 : isX0 r1) {v : (WI × WL)} (h : (F_X7_findBothSpoilt I L r1 a2) = some v) : Ct x_X7_findBothSpoilt 6 [.ref 27, .ref r1, .long a2] ly0 I L R0 0 0 (none, ly0, (p1 v), (p2 v), R0) :=
  Ct_of_V mo_X7_findBothSpoilt.1 (Nat.le_of_ble_eq_true rfl) (V_X7_findBothSpoilt (P := fun x => x = v) hr1 (fun _ e => by rw [e]) (by rw [h]; exact rfl))
/-! the constant texts: length, charAt -/
def slen (i : Nat) : Int32 := Int32.ofNat (s_len.getD i 0)
def chr (i : Nat) (j : Int32) : Int32 := ((((s_byt.getD i []).getD j.toNatClampNeg 0) &&& 255).toUInt32 % 65536).toInt32
theorem ct_coder (I : WI) (L : WL) (t1 : Nat) (ht : t1 < 6) : Ct x_J0_coder_7d493 1 [.ref (1000 + t1)] ly0 I L R0 0 0 (some (.int 0), ly0, I, L, R0) :=
  Ct_of_V mo_J0_coder_7d493.1 (Nat.le_of_ble_eq_true rfl) (V_getstC (tat ok_J0_coder_7d493_0 (i := 0) (q := 3) rfl rfl) (gw_in fl_J0_38 rfl) <|
    V_if_eq (tat ok_J0_coder_7d493_0 (i := 1) (q := 6) rfl rfl) rfl (fun c => absurd c (by decide)) (fun _ => V_aload_n (tat ok_J0_coder_7d493_0 (i := 2) (q := 7) rfl rfl) 0 rfl rfl <|
    V_sgetC (tat ok_J0_coder_7d493_0 (i := 3) (q := 10) rfl rfl) ht (gw_in fl_J0_15 rfl) <|
    V_goto (tat ok_J0_coder_7d493_0 (i := 4) (q := 13) rfl rfl) rfl <|
    V_iret (tat ok_J0_coder_7d493_0 (i := 6) (q := 15) rfl rfl) _ rfl rfl rfl ⟨Nat.le_refl _, Nat.le_refl _⟩))
theorem ct_latin (I : WI) (L : WL) (t1 : Nat) (ht : t1 < 6) : Ct x_J0_isLatin1_aae02 1 [.ref (1000 + t1)] ly0 I L R0 0 0 (some (.int 1), ly0, I, L, R0) :=
  Ct_of_V mo_J0_isLatin1_aae02.1 (Nat.le_of_ble_eq_true rfl) (V_getstC (tat ok_J0_isLatin1_aae02_0 (i := 0) (q := 3) rfl rfl) (gw_in fl_J0_38 rfl) <|
    V_if_eq (tat ok_J0_isLatin1_aae02_0 (i := 1) (q := 6) rfl rfl) rfl (fun c => absurd c (by decide)) (fun _ => V_aload_n (tat ok_J0_isLatin1_aae02_0 (i := 2) (q := 7) rfl rfl) 0 rfl rfl <|
    V_sgetC (tat ok_J0_isLatin1_aae02_0 (i := 3) (q := 10) rfl rfl) ht (gw_in fl_J0_15 rfl) <|
    V_if_ne (tat ok_J0_isLatin1_aae02_0 (i := 4) (q := 13) rfl rfl) rfl (fun c => absurd rfl c) (fun _ => V_iconst (tat ok_J0_isLatin1_aae02_0 (i := 5) (q := 14) rfl rfl) ic_1 <|
    V_goto (tat ok_J0_isLatin1_aae02_0 (i := 6) (q := 17) rfl rfl) rfl <|
    V_iret (tat ok_J0_isLatin1_aae02_0 (i := 8) (q := 19) rfl rfl) _ rfl rfl rfl ⟨Nat.le_refl _, Nat.le_refl _⟩)))
theorem ct_slen (I : WI) (L : WL) (t1 : Nat) (ht : t1 < 6) : Ct x_J0_length_8abf5 2 [.ref (1000 + t1)] ly0 I L R0 0 0 (some (.int (slen t1)), ly0, I, L, R0) :=
  Ct_of_V mo_J0_length_8abf5.1 (Nat.le_of_ble_eq_true rfl) (V_aload_n (tat ok_J0_length_8abf5_0 (i := 0) (q := 1) rfl rfl) 0 rfl rfl <|
    V_sgetV (tat ok_J0_length_8abf5_0 (i := 1) (q := 4) rfl rfl) ht (gw_in fl_J0_9 rfl) <|
    V_salen (v := slen t1) (tat ok_J0_length_8abf5_0 (i := 2) (q := 5) rfl rfl) ht rfl <|
    V_aload_n (tat ok_J0_length_8abf5_0 (i := 3) (q := 6) rfl rfl) 0 rfl rfl <|
    V_callT (As := []) (ct_coder I L t1 ht) mo_J0_coder_7d493 (tat ok_J0_length_8abf5_0 (i := 4) (q := 9) rfl rfl) ml_J0_335 rfl ht rfl ⟨Nat.le_of_ble_eq_true rfl, Nat.le_of_ble_eq_true rfl⟩ ⟨Nat.le_refl _, Nat.le_refl _⟩ (Nat.le_of_ble_eq_true rfl) rfl <|
    V_ishr (x := slen t1) (y1 := 0) (st := []) (tat ok_J0_length_8abf5_0 (i := 5) (q := 10) rfl rfl) <|
    V_iret (tat ok_J0_length_8abf5_0 (i := 6) (q := 11) rfl rfl) _ rfl (nar_int _) (by rw [sb_shr0]) ⟨Nat.le_refl _, Nat.le_refl _⟩)
theorem ct_pre (I : WI) (L : WL) (j n : Int32) (h0 : ¬ j < 0) (h1 : j < n) : Ct x_J3_checkIndex_8e157 1 [.int j, .int n, .ref 3000] ly0 I L R0 0 0 (some (.int j), ly0, I, L, R0) :=
  Ct_of_V mo_J3_checkIndex_8e157.1 (Nat.le_of_ble_eq_true rfl) (V_iload_n (tat ok_J3_checkIndex_8e157_0 (i := 0) (q := 1) rfl rfl) 0 rfl rfl <|
    V_if_lt (tat ok_J3_checkIndex_8e157_0 (i := 1) (q := 4) rfl rfl) rfl (fun c => absurd c h0) (fun _ => V_iload_n (tat ok_J3_checkIndex_8e157_0 (i := 2) (q := 5) rfl rfl) 0 rfl rfl <|
    V_iload_n (tat ok_J3_checkIndex_8e157_0 (i := 3) (q := 6) rfl rfl) 1 rfl rfl <|
    V_icmp_lt (tat ok_J3_checkIndex_8e157_0 (i := 4) (q := 9) rfl rfl) rfl (fun _ => V_iload_n (tat ok_J3_checkIndex_8e157_0 (i := 10) (q := 17) rfl rfl) 0 rfl rfl <|
    V_iret (tat ok_J3_checkIndex_8e157_0 (i := 11) (q := 18) rfl rfl) _ rfl (nar_int _) rfl ⟨Nat.le_refl _, Nat.le_refl _⟩) (fun c => absurd h1 c)))
theorem ct_chk (I : WI) (L : WL) (j n : Int32) (h0 : ¬ j < 0) (h1 : j < n) : Ct x_J0_checkIndex_df160 2 [.int j, .int n] ly0 I L R0 0 0 (none, ly0, I, L, R0) :=
  Ct_of_V mo_J0_checkIndex_df160.1 (Nat.le_of_ble_eq_true rfl) (V_iload_n (tat ok_J0_checkIndex_df160_0 (i := 0) (q := 1) rfl rfl) 0 rfl rfl <|
    V_iload_n (tat ok_J0_checkIndex_df160_0 (i := 1) (q := 2) rfl rfl) 1 rfl rfl <|
    V_getstF (tat ok_J0_checkIndex_df160_0 (i := 2) (q := 5) rfl rfl) (gw_in fl_J0_1053 rfl) <|
    V_cs3 (ct_pre I L j n h0 h1) mo_J3_checkIndex_8e157 (tat ok_J0_checkIndex_df160_0 (i := 3) (q := 8) rfl rfl) ml_J0_1059 ⟨Nat.le_of_ble_eq_true rfl, Nat.le_of_ble_eq_true rfl⟩ ⟨Nat.le_refl _, Nat.le_refl _⟩ (Nat.le_of_ble_eq_true rfl) <|
    V_pop (tat ok_J0_checkIndex_df160_0 (i := 4) (q := 9) rfl rfl) rfl <|
    V_vret (tat ok_J0_checkIndex_df160_0 (i := 5) (q := 10) rfl rfl) rfl rfl ⟨Nat.le_refl _, Nat.le_refl _⟩)
theorem s_len_small {t1 : Nat} (ht : t1 < 6) : s_len.getD t1 0 < 2 ^ 31 := by
  rcases (show t1 = 0 ∨ t1 = 1 ∨ t1 = 2 ∨ t1 = 3 ∨ t1 = 4 ∨ t1 = 5 by omega) with rfl | rfl | rfl | rfl | rfl | rfl <;> decide
theorem in_slen {t1 : Nat} (ht : t1 < 6) {j : Int32} (c : vp_in j (s_len.getD t1 0)) : ¬ j < 0 ∧ j < slen t1 := by
  refine ⟨fun z => c (Or.inl z), ?_⟩
  rw [Int32.lt_iff_toInt_lt]
  have h := (vp_in_iff.mp c).2
  have h2 := nI_toInt (s_len_small ht)
  unfold nI at h2
  unfold slen
  omega
theorem ct_chr1 (I : WI) (L : WL) (t1 : Nat) (j : Int32) (ht : t1 < 6) (c : vp_in j (s_len.getD t1 0)) : Ct x_J1_charAt_3b067 3 [.ref (2000 + t1), .int j] ly0 I L R0 0 0 (some (.int (chr t1 j)), ly0, I, L, R0) :=
  Ct_of_V mo_J1_charAt_3b067.1 (Nat.le_of_ble_eq_true rfl) (V_iload_n (tat ok_J1_charAt_3b067_0 (i := 0) (q := 1) rfl rfl) 1 rfl rfl <|
    V_aload_n (tat ok_J1_charAt_3b067_0 (i := 1) (q := 2) rfl rfl) 0 rfl rfl <|
    V_salen (v := slen t1) (tat ok_J1_charAt_3b067_0 (i := 2) (q := 3) rfl rfl) ht rfl <|
    V_cs2v (ct_chk I L j (slen t1) (in_slen ht c).1 (in_slen ht c).2) mo_J0_checkIndex_df160 (tat ok_J1_charAt_3b067_0 (i := 3) (q := 6) rfl rfl) ml_J1_9 ⟨Nat.le_of_ble_eq_true rfl, Nat.le_of_ble_eq_true rfl⟩ ⟨Nat.le_refl _, Nat.le_refl _⟩ (Nat.le_of_ble_eq_true rfl) <|
    V_aload_n (tat ok_J1_charAt_3b067_0 (i := 4) (q := 7) rfl rfl) 0 rfl rfl <|
    V_iload_n (tat ok_J1_charAt_3b067_0 (i := 5) (q := 8) rfl rfl) 1 rfl rfl <|
    V_sbald (tat ok_J1_charAt_3b067_0 (i := 6) (q := 9) rfl rfl) ht c rfl <|
    V_sipush (v := 255) (tat ok_J1_charAt_3b067_0 (i := 7) (q := 12) rfl rfl) (by decide) <|
    V_iand (tat ok_J1_charAt_3b067_0 (i := 8) (q := 13) rfl rfl) <|
    V_i2c (tat ok_J1_charAt_3b067_0 (i := 9) (q := 14) rfl rfl) <|
    V_iret (tat ok_J1_charAt_3b067_0 (i := 10) (q := 15) rfl rfl) .char rfl (pk_nc _) rfl ⟨Nat.le_refl _, Nat.le_refl _⟩)
theorem ct_chr (I : WI) (L : WL) (t1 : Nat) (j : Int32) (ht : t1 < 6) (c : vp_in j (s_len.getD t1 0)) : Ct x_J0_charAt_5068e 4 [.ref (1000 + t1), .int j] ly0 I L R0 0 0 (some (.int (chr t1 j)), ly0, I, L, R0) :=
  Ct_of_V mo_J0_charAt_5068e.1 (Nat.le_of_ble_eq_true rfl) (V_aload_n (tat ok_J0_charAt_5068e_0 (i := 0) (q := 1) rfl rfl) 0 rfl rfl <|
    V_callT (As := []) (ct_latin I L t1 ht) mo_J0_isLatin1_aae02 (tat ok_J0_charAt_5068e_0 (i := 1) (q := 4) rfl rfl) ml_J0_492 rfl ht rfl ⟨Nat.le_of_ble_eq_true rfl, Nat.le_of_ble_eq_true rfl⟩ ⟨Nat.le_refl _, Nat.le_refl _⟩ (Nat.le_of_ble_eq_true rfl) rfl <|
    V_if_eq (x := 1) (st := []) (tat ok_J0_charAt_5068e_0 (i := 2) (q := 7) rfl rfl) rfl (fun c => absurd c (by decide)) (fun _ => V_aload_n (tat ok_J0_charAt_5068e_0 (i := 3) (q := 8) rfl rfl) 0 rfl rfl <|
    V_sgetV (tat ok_J0_charAt_5068e_0 (i := 4) (q := 11) rfl rfl) ht (gw_in fl_J0_9 rfl) <|
    V_iload_n (tat ok_J0_charAt_5068e_0 (i := 5) (q := 12) rfl rfl) 1 rfl rfl <|
    V_cs2 (ct_chr1 I L t1 j ht c) mo_J1_charAt_3b067 (tat ok_J0_charAt_5068e_0 (i := 6) (q := 15) rfl rfl) ml_J0_495 ⟨Nat.le_of_ble_eq_true rfl, Nat.le_of_ble_eq_true rfl⟩ ⟨Nat.le_refl _, Nat.le_refl _⟩ (Nat.le_of_ble_eq_true rfl) <|
    V_iret (tat ok_J0_charAt_5068e_0 (i := 7) (q := 16) rfl rfl) .char rfl (pk_nc _) rfl ⟨Nat.le_refl _, Nat.le_refl _⟩))
