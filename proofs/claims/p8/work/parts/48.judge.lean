/-! the whole text, judged -/
def linesC (B : Nat → Nat) (n : Nat) : Nat → Nat → (Nat × Nat × Nat × Int64) → (Nat × Nat × Nat × Int64) → List (List Nat) → Nat → Nat ⊕ (Nat × (Nat × Nat × Nat × Int64) × (Nat × Nat × Nat × Int64) × List (List Nat))
  | 0, _, _, _, _, _ => .inl n
  | u + 1, a, c, q, ds, p => if tk B n (tf B n p) = 0 then .inr (a, c, q, ds) else Sum.elim .inl (fun r => linesC B n u (a + 1) (p1 (p2 r)) (p1 (p2 (p2 r))) (p2 (p2 (p2 r))) (p1 r)) (lineS B n c q ds (tf B n p))
def LinesEnd (n : Nat) (I : WI) (L : WL) (x : Nat ⊕ (Nat × (Nat × Nat × Nat × Int64) × (Nat × Nat × Nat × Int64) × List (List Nat))) (a : Int32) (I' : WI) (L' : WL) : Prop := Fp I I' ∧ FpL L L' ∧ match x with
  | .inl g => Fa g I'
  | .inr r => a = Int32.ofNat (p1 r) ∧ I' 11 3 = 0 ∧ I' 11 7 = Int32.ofNat n ∧ DraftC (p1 (p2 r)) (p1 (p2 (p2 r))) (p2 (p2 (p2 r))) I' L' ∧ ImOk (p1 (p2 r)) ∧ ImOk (p1 (p2 (p2 r))) ∧ DsOk (p2 (p2 (p2 r)))
theorem linesC_C {B : Nat → Nat} {n : Nat} : ∀ (u a : Nat) (c q : Nat × Nat × Nat × Int64) (ds : List (List Nat)) (p : Nat) (I : WI) (L : WL) (fuel : Nat), n < u + p → u < fuel → 2 * a ≤ p → Tap B n I → p ≤ n → I 11 8 = Int32.ofNat p → I 11 3 = 0 → ImOk c → ImOk q → DsOk ds → DraftC c q ds I L → ∃ a' I' L', lpp (fun x => F_X6_takeText_38_1 (p1 (p2 x)) (p2 (p2 x)) (p1 x)) fuel (Int32.ofNat a, I, L) = some (a', I', L') ∧ LinesEnd n I L (linesC B n u a c q ds p) a' I' L' := by
  intro u
  induction u with
  | zero => intro a c q ds p I L fuel h1 _ _ _ h2; omega
  | succ u ih =>
    intro a c q ds p I L fuel hu hf ha T hp e8 e3 hc hq hd D
    obtain ⟨fuel, rfl⟩ : ∃ g, fuel = g + 1 := ⟨fuel - 1, by omega⟩
    have hn : n ≤ 320 := T.1
    have hfp := tf_le (B := B) hp
    obtain ⟨v, J, K, j1, j2⟩ := takeLine_C T hp e8 e3 hc hq hd D
    have hl : ∀ r, F_X6_takeText_38_1 I L (Int32.ofNat a) = some (.inl r) → lpp (fun x : Int32 × WI × WL => F_X6_takeText_38_1 (p1 (p2 x)) (p2 (p2 x)) (p1 x)) (fuel + 1) (Int32.ofNat a, I, L) = some r := fun r h => lpp_l (f := (fun x : Int32 × WI × WL => F_X6_takeText_38_1 (p1 (p2 x)) (p2 (p2 x)) (p1 x))) (s := (Int32.ofNat a, I, L)) h
    have hr : ∀ s, F_X6_takeText_38_1 I L (Int32.ofNat a) = some (.inr s) → lpp (fun x : Int32 × WI × WL => F_X6_takeText_38_1 (p1 (p2 x)) (p2 (p2 x)) (p1 x)) (fuel + 1) (Int32.ofNat a, I, L) = lpp (fun x : Int32 × WI × WL => F_X6_takeText_38_1 (p1 (p2 x)) (p2 (p2 x)) (p1 x)) fuel s := fun s h => lpp_r (f := (fun x : Int32 × WI × WL => F_X6_takeText_38_1 (p1 (p2 x)) (p2 (p2 x)) (p1 x))) (s := (Int32.ofNat a, I, L)) h
    have h38 : F_X6_takeText_38_1 I L (Int32.ofNat a) = if v = 0 then some (.inl (Int32.ofNat a, J, K)) else some (.inr (Int32.ofNat (a + 1), J, K)) := by
      unfold F_X6_takeText_38_1
      rw [if_neg (show ¬ (320 : Int32) ≤ Int32.ofNat a from fun q => absurd ((ge_on (a := 320) (by decide) (by omega)).mp q) (by omega)), j1, ob_some, la1]
      rfl
    unfold linesC
    by_cases c0 : tk B n (tf B n p) = 0
    · rw [if_pos c0] at j2 ⊢
      obtain ⟨v0, rfl, k1, k2, k3⟩ := j2
      rw [v0, if_pos rfl] at h38
      rw [hl _ h38]
      refine ⟨_, J, K, rfl, k1.fp, FpL.rfl, rfl, k2, k3, ?_, hc, hq, hd⟩
      exact ⟨D.1.ag (fun j => k1 12 j (by decide)) rfl, D.2.1.ag (fun j => k1 13 j (by decide)) rfl, (k1 14 0 (by decide)).trans D.2.2.1, fun N hN => (D.2.2.2 N hN).ag (k1 15 N (by decide)) (fun j _ => k1 16 _ (by decide))⟩
    · rw [if_neg c0] at j2 ⊢
      obtain ⟨k1, k2, k3⟩ := j2
      cases hx : lineS B n c q ds (tf B n p) with
      | inl g =>
        rw [hx] at k3
        rw [k3.1, if_pos rfl] at h38
        rw [hl _ h38]
        exact ⟨_, J, K, rfl, k1, k2, k3.2⟩
      | inr r =>
        rw [hx] at k3
        obtain ⟨v1, k4, k5, k6⟩ := k3
        rw [v1, if_neg (show ¬ (1 : Int32) = 0 by decide)] at h38
        rw [hr _ h38]
        obtain ⟨o1, o2, o3, o4, o5⟩ := lineS_ok hfp.2 hc hq hd hx
        obtain ⟨a', I', L', r1, r2, r3, r4⟩ := ih (a + 1) _ _ _ (p1 r) J K fuel (by omega) (by omega) (by omega) (k1.tap T) o2 k5 k4 o3 o4 o5 k6
        exact ⟨a', I', L', r1, k1.trans r2, k2.trans r3, r4⟩
/-- all of some, told on the way -/
def ab (g : Nat → Bool) : Nat → Nat → Bool → Bool
  | 0, _, b => b
  | m + 1, i, b => ab g m (i + 1) (b && g i)
theorem ab_and {g : Nat → Bool} : ∀ m i b, ab g m i b = (b && ab g m i true) := by
  intro m
  induction m with
  | zero => intro i b; simp [ab]
  | succ m ih =>
    intro i b
    unfold ab
    rw [ih (i + 1) (b && g i), ih (i + 1) (true && g i), Bool.true_and, Bool.and_assoc]
theorem ab_iff {g : Nat → Bool} : ∀ m i b, ab g m i b = true ↔ b = true ∧ ∀ j, i ≤ j → j < i + m → g j = true := by
  intro m
  induction m with
  | zero => intro i b; exact ⟨fun h => ⟨h, fun j h1 h2 => by omega⟩, fun h => h.1⟩
  | succ m ih =>
    intro i b
    unfold ab
    rw [ih (i + 1) (b && g i), Bool.and_eq_true]
    constructor
    · rintro ⟨⟨h1, h2⟩, h3⟩
      refine ⟨h1, fun j q1 q2 => ?_⟩
      by_cases c : j = i
      · rw [c]; exact h2
      · exact h3 j (by omega) (by omega)
    · rintro ⟨h1, h2⟩
      exact ⟨⟨h1, h2 i (Nat.le_refl _) (by omega)⟩, fun j q1 q2 => h2 j (by omega) (by omega)⟩
theorem lpp_ab {S : Type} {f : Int32 × S → Option (S ⊕ (Int32 × S))} (P : Bool → S → Prop) (g : Nat → Bool) (N : Nat) (h1 : ∀ i b s, i < N → P b s → ∃ s', f (Int32.ofNat i, s) = some (.inr (Int32.ofNat (i + 1), s')) ∧ P (b && g i) s') (h2 : ∀ b s, P b s → f (Int32.ofNat N, s) = some (.inl s)) : ∀ (m i : Nat) (b : Bool) (s : S) (fuel : Nat), i + m = N → m < fuel → P b s → ∃ s', lpp f fuel (Int32.ofNat i, s) = some s' ∧ P (ab g m i b) s' := by
  intro m
  induction m with
  | zero =>
    intro i b s fuel hi hf hP
    obtain ⟨fuel, rfl⟩ : ∃ g, fuel = g + 1 := ⟨fuel - 1, by omega⟩
    rw [show i = N by omega]
    exact ⟨s, lpp_l (h2 b s hP), hP⟩
  | succ m ih =>
    intro i b s fuel hi hf hP
    obtain ⟨fuel, rfl⟩ : ∃ g, fuel = g + 1 := ⟨fuel - 1, by omega⟩
    obtain ⟨s', e1, e2⟩ := h1 i b s (by omega) hP
    rw [lpp_r e1]
    exact ih (i + 1) (b && g i) s' fuel (by omega) (by omega) e2
/-- an act that a cloth has -/
def legal (m w x : Nat) : Bool := decide (x % 20 < if x / 20 = 0 then m else if x / 20 = 1 then w else if x / 20 = 2 then m + w - 1 else 0)
def sameB (c q : Nat × Nat × Nat × Int64) : Bool := p1 q == 0 || (p1 (p2 q) == p1 (p2 c) && p1 (p2 (p2 q)) == p1 (p2 (p2 c)))
def dayB (c : Nat × Nat × Nat × Int64) (l : List Nat) : Bool := ab (fun j => legal (p1 (p2 c)) (p1 (p2 (p2 c))) (l.getD j 0)) l.length 0 true
def wholeB (c q : Nat × Nat × Nat × Int64) (ds : List (List Nat)) : Bool := ab (fun N => dayB c (ds.getD N [])) ds.length 0 (sameB c q)
theorem code_t : ∀ x, x < 60 → Int32.ofNat x / 20 = Int32.ofNat (x / 20) ∧ Int32.ofNat x - Int32.ofNat x / 20 * 20 = Int32.ofNat (x % 20) := by decide +kernel
theorem acts_of {N : Nat} {l : List Nat} {M : Nat} {I : WI} (h : I 14 0 = Int32.ofNat M) (hN : N < M) (hM : M ≤ 12) (R : DayR N l I) : F_X1_actsOf I 14 (Int32.ofNat N) = Int32.ofNat l.length := by
  unfold F_X1_actsOf F_X1_actsOf_31
  rw [h, if_neg (show ¬ Int32.ofNat N < 0 from fun q => absurd ((lt_onn (b := 0) (by omega) (by decide)).mp q) (by omega)), if_neg (show ¬ Int32.ofNat M ≤ Int32.ofNat N from fun q => absurd ((ge_on (by omega) (by omega)).mp q) (by omega)), if_neg (show ¬ (12 : Int32) ≤ Int32.ofNat N from fun q => absurd ((ge_on (a := 12) (by decide) (by omega)).mp q) (by omega)), on_clamp (by omega), R.1]
theorem code_of {N j : Nat} {l : List Nat} {M : Nat} {I : WI} (h : I 14 0 = Int32.ofNat M) (hN : N < M) (hM : M ≤ 12) (R : DayR N l I) (hl : l.length ≤ 3) (hj : j < l.length) : F_X1_codeOf I 14 (Int32.ofNat N) (Int32.ofNat j) = Int32.ofNat (l.getD j 0) := by
  unfold F_X1_codeOf F_X1_codeOf_42
  rw [acts_of h hN hM R, lm3, oadd, if_neg (show ¬ Int32.ofNat j < 0 from fun q => absurd ((lt_onn (b := 0) (by omega) (by decide)).mp q) (by omega)), if_neg (show ¬ Int32.ofNat l.length ≤ Int32.ofNat j from fun q => absurd ((ge_on (by omega) (by omega)).mp q) (by omega)), if_neg (show ¬ Int32.ofNat (3 * N + j) < 0 from fun q => absurd ((lt_onn (b := 0) (by omega) (by decide)).mp q) (by omega)), if_neg (show ¬ (36 : Int32) ≤ Int32.ofNat (3 * N + j) from fun q => absurd ((ge_on (a := 36) (by decide) (by omega)).mp q) (by omega)), on_clamp (by omega), R.2 j hj]
theorem has_line {m w x : Nat} {I : WI} (h1 : I 12 1 = Int32.ofNat m) (h2 : I 12 2 = Int32.ofNat w) (hm : 1 ≤ m ∧ m ≤ 8) (hw : 1 ≤ w ∧ w ≤ 8) (hx : x < 60) : F_X0_hasLine I 12 (Int32.ofNat (x / 20)) (Int32.ofNat (x % 20)) = if legal m w x = true then 1 else 0 := by
  have hlo : F_X0_linesOf I 12 (Int32.ofNat (x / 20)) = Int32.ofNat (if x / 20 = 0 then m else if x / 20 = 1 then w else if x / 20 = 2 then m + w - 1 else 0) := by
    unfold F_X0_linesOf
    rcases (show x / 20 = 0 ∨ x / 20 = 1 ∨ x / 20 = 2 by omega) with e | e | e <;> rw [e]
    · exact h1
    · exact h2
    · show I 12 1 + I 12 2 - 1 = Int32.ofNat (m + w - 1)
      rw [h1, h2, oadd]
      exact on_sub (b := 1) (by omega)
  unfold F_X0_hasLine F_X0_hasLine_17 F_X0_hasLine_18 legal
  rw [hlo, if_neg (show ¬ Int32.ofNat (x % 20) < 0 from fun q => absurd ((lt_onn (b := 0) (by omega) (by decide)).mp q) (by omega))]
  generalize hv : (if x / 20 = 0 then m else if x / 20 = 1 then w else if x / 20 = 2 then m + w - 1 else 0) = v
  have hv' : v ≤ 15 := by
    rw [← hv]
    split
    · omega
    split
    · omega
    split <;> omega
  by_cases d : x % 20 < v
  · rw [if_neg (show ¬ Int32.ofNat v ≤ Int32.ofNat (x % 20) from fun q => absurd ((ge_on (by omega) (by omega)).mp q) (by omega)), if_pos (decide_eq_true d)]
  · rw [if_pos (show Int32.ofNat v ≤ Int32.ofNat (x % 20) from (ge_on (by omega) (by omega)).mpr (by omega)), if_neg (by rw [decide_eq_true_eq]; exact d)]
def PJ (n : Nat) (I : WI) (b : Bool) (s : WI) : Prop := Ft I s ∧ if b = true then s 11 3 = 0 ∧ s 11 7 = Int32.ofNat n else Fa n s
theorem PJ.refuse {n : Nat} {I : WI} {b : Bool} {s : WI} {c : Int32} (h : PJ n I b s) (hc : c ≠ 0) : PJ n I false (p2 (F_X6_refuse s c)) := by
  have hFS : FS n s := by
    obtain ⟨-, h2⟩ := h
    cases b with
    | true => exact .inl h2
    | false => exact .inr h2
  obtain ⟨J, j1, j2, j3⟩ := refuse_at hFS hc
  rw [j1]
  exact ⟨h.1.trans j2, j3⟩
theorem DraftC.ft {c q : Nat × Nat × Nat × Int64} {ds : List (List Nat)} {I J : WI} {L : WL} (D : DraftC c q ds I L) (k1 : Ft I J) : DraftC c q ds J L := ⟨D.1.ag (fun j => k1 12 j (by decide)) rfl, D.2.1.ag (fun j => k1 13 j (by decide)) rfl, (k1 14 0 (by decide)).trans D.2.2.1, fun N hN => (D.2.2.2 N hN).ag (k1 15 N (by decide)) (fun j _ => k1 16 _ (by decide))⟩
theorem judge_C {n : Nat} {c q : Nat × Nat × Nat × Int64} {ds : List (List Nat)} {I : WI} {L : WL} (D : DraftC c q ds I L) (hc : ImOk c) (hq : ImOk q) (hd : DsOk ds) (e3 : I 11 3 = 0) (e7 : I 11 7 = Int32.ofNat n) : ∃ J, F_X6_judgeWhole I = some J ∧ PJ n I (wholeB c q ds) J := by
  have hcl := hc.2.1
  have hql := hq.2.1
  unfold Cl at hcl hql
  have hday : ∀ N b s, N < ds.length → PJ n I b s → ∃ s', F_X6_judgeWhole_46_1 s (Int32.ofNat N) 0 = some (.inr (Int32.ofNat (N + 1), s')) ∧ PJ n I (b && dayB c (ds.getD N [])) s' := by
    intro N b s hN hP
    obtain ⟨d1, d2, d3⟩ := hd.2 N hN
    have hM := hd.1
    obtain ⟨s', r1, r2⟩ := lpp_ab (f := fun x : Int32 × WI => F_X6_judgeWhole_46_2 (p2 x) (Int32.ofNat N) (p1 x)) (PJ n I) (fun j => legal (p1 (p2 c)) (p1 (p2 (p2 c))) ((ds.getD N []).getD j 0)) (ds.getD N []).length (fun j b s hj hP => by
      have Ds := D.ft hP.1
      have hR := Ds.2.2.2 N hN
      show ∃ s', F_X6_judgeWhole_46_2 s (Int32.ofNat N) (Int32.ofNat j) = some (.inr (Int32.ofNat (j + 1), s')) ∧ _
      unfold F_X6_judgeWhole_46_2 F_X6_judgeWhole_93_2 F_X1_kindOf F_X1_numberOf
      obtain ⟨t1, t2⟩ := code_t _ (d3 j hj)
      rw [acts_of Ds.2.2.1 hN hM hR, if_neg (show ¬ Int32.ofNat (ds.getD N []).length ≤ Int32.ofNat j from fun q => absurd ((ge_on (by omega) (by omega)).mp q) (by omega)), code_of Ds.2.2.1 hN hM hR d2 hj, t1, ← t1, t2, t1, has_line Ds.1.2.1 Ds.1.2.2.1 hcl.1 hcl.2 (d3 j hj), la1]
      by_cases g : legal (p1 (p2 c)) (p1 (p2 (p2 c))) ((ds.getD N []).getD j 0) = true
      · rw [if_pos g, if_neg (show ¬ (1 : Int32) = 0 by decide)]
        refine ⟨s, rfl, ?_⟩
        rw [g, Bool.and_true]
        exact hP
      · rw [if_neg g, if_pos rfl]
        refine ⟨_, rfl, ?_⟩
        rw [Bool.not_eq_true] at g
        rw [g, Bool.and_false]
        exact hP.refuse (by decide)) (fun b s hP => by
      have Ds := D.ft hP.1
      show F_X6_judgeWhole_46_2 s (Int32.ofNat N) (Int32.ofNat (ds.getD N []).length) = _
      unfold F_X6_judgeWhole_46_2
      rw [acts_of Ds.2.2.1 hN hM (Ds.2.2.2 N hN), if_pos ((ge_on (by omega) (by omega)).mpr (Nat.le_refl _))]) (ds.getD N []).length 0 b s 4294967296 (by omega) (by omega) hP
    refine ⟨s', ?_, ?_⟩
    · unfold F_X6_judgeWhole_46_1 F_X6_judgeWhole_99_1
      show (lpp (fun x : Int32 × WI => F_X6_judgeWhole_46_2 (p2 x) (Int32.ofNat N) (p1 x)) 4294967296 (Int32.ofNat 0, s)).bind _ = _
      rw [r1, ob_some, la1]
    · rw [ab_and] at r2
      exact r2
  have hall : ∀ b s, PJ n I b s → ∃ J, F_X6_judgeWhole_31 s = some J ∧ PJ n I (ab (fun N => dayB c (ds.getD N [])) ds.length 0 b) J := by
    intro b s hP
    have hM := hd.1
    obtain ⟨s', r1, r2⟩ := lpp_ab (f := fun x : Int32 × WI => F_X6_judgeWhole_33_1 (p2 x) (p1 x)) (PJ n I) (fun N => dayB c (ds.getD N [])) ds.length (fun N b s hN hP => by
      have Ds := D.ft hP.1
      show ∃ s', F_X6_judgeWhole_33_1 s (Int32.ofNat N) = some (.inr (Int32.ofNat (N + 1), s')) ∧ _
      unfold F_X6_judgeWhole_33_1
      rw [Ds.2.2.1, if_neg (show ¬ Int32.ofNat ds.length ≤ Int32.ofNat N from fun q => absurd ((ge_on (by omega) (by omega)).mp q) (by omega))]
      exact hday N b s hN hP) (fun b s hP => by
      have Ds := D.ft hP.1
      show F_X6_judgeWhole_33_1 s (Int32.ofNat ds.length) = _
      unfold F_X6_judgeWhole_33_1
      rw [Ds.2.2.1, if_pos ((ge_on (by omega) (by omega)).mpr (Nat.le_refl _))]) ds.length 0 b s 4294967296 (by omega) (by omega) hP
    refine ⟨s', ?_, r2⟩
    unfold F_X6_judgeWhole_31 F_X6_judgeWhole_33 F_X6_judgeWhole_105
    show (lpp (fun x : Int32 × WI => F_X6_judgeWhole_33_1 (p2 x) (p1 x)) 4294967296 (Int32.ofNat 0, s)).bind _ = _
    rw [r1, ob_some]
  have hI : PJ n I true I := ⟨Ft.rfl, e3, e7⟩
  unfold F_X6_judgeWhole wholeB sameB
  rw [D.2.1.1]
  by_cases g : p1 q = 0
  · rw [g, if_pos (by decide)]
    exact hall true I hI
  · have g1 : p1 q = 1 := by have := hq.1; omega
    rw [g1, if_neg (by decide)]
    have hss : F_X0_sameSize I 13 12 = if (p1 (p2 q) == p1 (p2 c) && p1 (p2 (p2 q)) == p1 (p2 (p2 c))) = true then 1 else 0 := by
      unfold F_X0_sameSize F_X0_sameSize_27 F_X0_sameSize_26 F_X0_sameSize_27
      have hi : (p1 (p2 q) == p1 (p2 c) && p1 (p2 (p2 q)) == p1 (p2 (p2 c))) = true ↔ p1 (p2 q) = p1 (p2 c) ∧ p1 (p2 (p2 q)) = p1 (p2 (p2 c)) := by rw [Bool.and_eq_true, beq_iff_eq, beq_iff_eq]
      rw [D.1.2.1, D.1.2.2.1, D.2.1.2.1, D.2.1.2.2.1]
      by_cases y1 : p1 (p2 q) = p1 (p2 c)
      · by_cases y2 : p1 (p2 (p2 q)) = p1 (p2 (p2 c))
        · rw [if_pos (by rw [y1]), if_pos (by rw [y2]), if_pos (hi.mpr ⟨y1, y2⟩)]
        · rw [if_pos (by rw [y1]), if_neg fun r => y2 (on_inj (by omega) (by omega) r), if_neg fun r => y2 (hi.mp r).2]
      · rw [if_neg fun r => y1 (on_inj (by omega) (by omega) r), if_neg fun r => y1 (hi.mp r).1]
    rw [hss]
    by_cases y : (p1 (p2 q) == p1 (p2 c) && p1 (p2 (p2 q)) == p1 (p2 (p2 c))) = true
    · rw [if_pos y, if_neg (show ¬ (1 : Int32) = 0 by decide), y]
      exact hall true I hI
    · rw [if_neg y, if_pos rfl]
      rw [Bool.not_eq_true] at y
      rw [y]
      exact hall false _ (hI.refuse (by decide))
