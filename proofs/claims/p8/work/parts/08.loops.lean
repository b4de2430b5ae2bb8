/-! loops: counted ones (the counter goes up by 1 to a bound that stays), others -/
def p1 {A B : Type} (x : A × B) : A := x.1
def p2 {A B : Type} (x : A × B) : B := x.2
def oP {T : Type} (P : T → Prop) : Option T → Prop
  | none => False
  | some x => P x
theorem jx {T : Type} {P : T → Prop} {a b : T} (k : P a) (h : a = b) : P b := h ▸ k
theorem ob {A B : Type} {x : Option A} {r : A} {g : A → Option B} (h : x = some r) : x.bind g = g r := by rw [h]; rfl
theorem oP_bind {A B : Type} {P : B → Prop} {x : Option A} {f : A → Option B} (h : oP P (x.bind f)) : oP (fun r => oP P (f r)) x := by
  cases x <;> exact h
theorem oP_case {A B : Type} {P : B → Prop} {x : Option A} {f : A → Option B} {G : Prop} (h : oP P (x.bind f)) (k : ∀ r, x = some r → oP P (f r) → G) : G := by
  cases x with
  | none => exact absurd h id
  | some r => exact k r rfl h
theorem sE {A B T : Type} {P : T → Prop} {f : A → T} {g : B → T} {x : A ⊕ B} (h : P (Sum.elim f g x)) : Sum.elim (fun a => P (f a)) (fun b => P (g b)) x := by
  cases x <;> exact h
/-- how often: from c to B -/
def fu (c B : Int32) : Nat := (B.toInt - c.toInt).toNat
def fr0 {S : Type} (g : Int32 → S → S) (B : Int32) : Nat → Int32 → S → Int32 × S
  | 0, i, s => (i, s)
  | n + 1, i, s => if B ≤ i then (i, s) else fr0 g B n (i + 1) (g i s)
termination_by n => n
def fr1 {R S : Type} (g : Int32 → S → R ⊕ S) (B : Int32) : Nat → Int32 → S → R ⊕ (Int32 × S)
  | 0, i, s => .inr (i, s)
  | n + 1, i, s => if B ≤ i then .inr (i, s) else match g i s with
    | .inl r => .inl r
    | .inr s' => fr1 g B n (i + 1) s'
termination_by n => n
def frp0 {S : Type} (g : Int32 → S → Option S) (B : Int32) : Nat → Int32 → S → Option (Int32 × S)
  | 0, i, s => some (i, s)
  | n + 1, i, s => if B ≤ i then some (i, s) else match g i s with
    | none => none
    | some s' => frp0 g B n (i + 1) s'
termination_by n => n
def frp1 {R S : Type} (g : Int32 → S → Option (R ⊕ S)) (B : Int32) : Nat → Int32 → S → Option (R ⊕ (Int32 × S))
  | 0, i, s => some (.inr (i, s))
  | n + 1, i, s => if B ≤ i then some (.inr (i, s)) else match g i s with
    | none => none
    | some (.inl r) => some (.inl r)
    | some (.inr s') => frp1 g B n (i + 1) s'
termination_by n => n
def lpp {R S : Type} (f : S → Option (R ⊕ S)) : Nat → S → Option R
  | 0, _ => none
  | n + 1, s => match f s with
    | none => none
    | some (.inl r) => some r
    | some (.inr s') => lpp f n s'
termination_by n => n
theorem up_lt {i B : Int32} (h : ¬ B ≤ i) : (i + 1).toInt = i.toInt + 1 := by
  have h1 : i.toInt < B.toInt := by
    have := Int32.not_le.mp h
    exact Int32.lt_iff_toInt_lt.mp this
  have h2 := B.toInt_lt
  have h3 := i.le_toInt
  rw [Int32.toInt_add]
  have : (1 : Int32).toInt = 1 := rfl
  rw [this, Int.bmod_def]
  split <;> omega
theorem fu_0 {c B : Int32} (h : fu c B ≤ 0) : B ≤ c := by
  unfold fu at h
  rw [Int32.le_iff_toInt_le]
  omega
theorem fu_s {c B : Int32} {n : Nat} (h : fu c B ≤ n + 1) (hb : ¬ B ≤ c) : fu (c + 1) B ≤ n := by
  unfold fu at h ⊢
  rw [up_lt hb]
  omega
theorem V_fr0 {S : Type} (g : Int32 → S → S) (B : Int32) (Vh : Int32 → S → Prop) (X : Int32 → S → Prop) (hh : ∀ i s, (B ≤ i → X i s) → (¬ B ≤ i → Vh (i + 1) (g i s)) → Vh i s) {c : Int32} {s : S} (k : X (p1 (fr0 g B (fu c B) c s)) (p2 (fr0 g B (fu c B) c s))) : Vh c s := by
  have key : ∀ (n : Nat) (i : Int32) (s : S), fu i B ≤ n → X (p1 (fr0 g B n i s)) (p2 (fr0 g B n i s)) → Vh i s := by
    intro n
    induction n with
    | zero => intro i s h k; rw [fr0] at k; exact hh i s (fun _ => k) (fun hb => absurd (fu_0 h) hb)
    | succ n ih =>
      intro i s h k
      rw [fr0] at k
      refine hh i s (fun hb => by rw [if_pos hb] at k; exact k) (fun hb => ?_)
      rw [if_neg hb] at k
      exact ih _ _ (fu_s h hb) k
  exact key _ _ _ (Nat.le_refl _) k
theorem V_fr1 {R S : Type} (g : Int32 → S → R ⊕ S) (B : Int32) (Vh : Int32 → S → Prop) (X : Int32 → S → Prop) (Y : R → Prop) (hh : ∀ i s, (B ≤ i → X i s) → (¬ B ≤ i → Sum.elim Y (fun s' => Vh (i + 1) s') (g i s)) → Vh i s) {c : Int32} {s : S} (k : Sum.elim Y (fun e => X (p1 e) (p2 e)) (fr1 g B (fu c B) c s)) : Vh c s := by
  have key : ∀ (n : Nat) (i : Int32) (s : S), fu i B ≤ n → Sum.elim Y (fun e => X (p1 e) (p2 e)) (fr1 g B n i s) → Vh i s := by
    intro n
    induction n with
    | zero => intro i s h k; rw [fr1] at k; exact hh i s (fun _ => k) (fun hb => absurd (fu_0 h) hb)
    | succ n ih =>
      intro i s h k
      rw [fr1] at k
      refine hh i s (fun hb => by rw [if_pos hb] at k; exact k) (fun hb => ?_)
      rw [if_neg hb] at k
      cases hg : g i s with
      | inl r => rw [hg] at k; exact k
      | inr s' => rw [hg] at k; exact ih _ _ (fu_s h hb) k
  exact key _ _ _ (Nat.le_refl _) k
theorem V_frp0 {S : Type} (g : Int32 → S → Option S) (B : Int32) (Vh : Int32 → S → Prop) (X : Int32 → S → Prop) (hh : ∀ i s, (B ≤ i → X i s) → (¬ B ≤ i → oP (fun s' => Vh (i + 1) s') (g i s)) → Vh i s) {c : Int32} {s : S} (k : oP (fun e => X (p1 e) (p2 e)) (frp0 g B (fu c B) c s)) : Vh c s := by
  have key : ∀ (n : Nat) (i : Int32) (s : S), fu i B ≤ n → oP (fun e => X (p1 e) (p2 e)) (frp0 g B n i s) → Vh i s := by
    intro n
    induction n with
    | zero => intro i s h k; rw [frp0] at k; exact hh i s (fun _ => k) (fun hb => absurd (fu_0 h) hb)
    | succ n ih =>
      intro i s h k
      rw [frp0] at k
      refine hh i s (fun hb => by rw [if_pos hb] at k; exact k) (fun hb => ?_)
      rw [if_neg hb] at k
      cases hg : g i s with
      | none => rw [hg] at k; exact k
      | some s' => rw [hg] at k; exact ih _ _ (fu_s h hb) k
  exact key _ _ _ (Nat.le_refl _) k
theorem V_frp1 {R S : Type} (g : Int32 → S → Option (R ⊕ S)) (B : Int32) (Vh : Int32 → S → Prop) (X : Int32 → S → Prop) (Y : R → Prop) (hh : ∀ i s, (B ≤ i → X i s) → (¬ B ≤ i → oP (Sum.elim Y (fun s' => Vh (i + 1) s')) (g i s)) → Vh i s) {c : Int32} {s : S} (k : oP (Sum.elim Y (fun e => X (p1 e) (p2 e))) (frp1 g B (fu c B) c s)) : Vh c s := by
  have key : ∀ (n : Nat) (i : Int32) (s : S), fu i B ≤ n → oP (Sum.elim Y (fun e => X (p1 e) (p2 e))) (frp1 g B n i s) → Vh i s := by
    intro n
    induction n with
    | zero => intro i s h k; rw [frp1] at k; exact hh i s (fun _ => k) (fun hb => absurd (fu_0 h) hb)
    | succ n ih =>
      intro i s h k
      rw [frp1] at k
      refine hh i s (fun hb => by rw [if_pos hb] at k; exact k) (fun hb => ?_)
      rw [if_neg hb] at k
      cases hg : g i s with
      | none => rw [hg] at k; exact k
      | some r =>
        rw [hg] at k
        cases r with
        | inl r => exact k
        | inr s' => exact ih _ _ (fu_s h hb) k
  exact key _ _ _ (Nat.le_refl _) k
theorem V_lpp {R S : Type} (f : S → Option (R ⊕ S)) (Vh : S → Prop) (X : R → Prop) (hh : ∀ s, oP (Sum.elim X Vh) (f s) → Vh s) {n : Nat} {s : S} (k : oP X (lpp f n s)) : Vh s := by
  induction n generalizing s with
  | zero => rw [lpp] at k; exact absurd k id
  | succ n ih =>
    refine hh s ?_
    rw [lpp] at k
    cases hg : f s with
    | none => rw [hg] at k; exact k
    | some r =>
      rw [hg] at k
      cases r with
      | inl r => exact k
      | inr s' => exact ih k
/-- an index, by the two comparisons ahead of it -/
theorem vpin {i N : Int32} {n : Nat} (hN : N.toInt = n) (h1 : ¬ i < 0) (h2 : ¬ N ≤ i) : vp_in i n := by
  rw [vp_in_iff]
  rw [Int32.lt_iff_toInt_lt] at h1
  rw [Int32.le_iff_toInt_le] at h2
  have : (0 : Int32).toInt = 0 := rfl
  omega
theorem V_pick {Z : Cx} {pc : Nat} {lv lv' : List (Nat × Value)} {st : List Value} {y : Ly} {I : WI} {L : WL} {R : WR} {kc ks : Nat} (is : List Nat) (h : lv_pick lv is = lv') (k : V Z pc lv' st y I L R kc ks) : V Z pc lv st y I L R kc ks := by
  intro E p l e s m args below meth c H locs ls F D N S hl
  refine k E p l e s m args below meth c H locs ls F D N S (lv_sub hl is ?_)
  subst h
  unfold lv_pick gl
  rw [List.map_filterMap]
  congr 1
  funext j
  simp
theorem ia {x n m : Int32} (h : n = m) : x + n = x + m := by rw [h]
