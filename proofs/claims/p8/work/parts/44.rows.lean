/-! rows of the text, as they are read: the class -/
theorem te_le {B : Nat → Nat} {n f : Nat} (h : f ≤ n) : f ≤ te B n f ∧ te B n f ≤ n ∧ (tk B n f = 1 → f < te B n f) ∧ (tk B n f = 3 → te B n f = f + 1) ∧ (tk B n f = 2 → f < te B n f) ∧ tk B n f ≤ 4 ∧ (tk B n f ≠ 0 → f < n) := by
  unfold te tk
  by_cases c : n ≤ f
  · rw [if_pos c, if_pos c]
    exact ⟨by omega, by omega, fun q => by omega, fun q => by omega, fun q => by omega, by omega, fun q => by omega⟩
  rw [if_neg c, if_neg c]
  by_cases d1 : B f = 59
  · rw [if_pos d1, if_pos d1]
    exact ⟨by omega, by omega, fun q => by omega, fun q => rfl, fun q => by omega, by omega, fun q => by omega⟩
  rw [if_neg d1, if_neg d1]
  by_cases d2 : isLt (B f) = true
  · rw [if_pos d2, if_pos d2]
    have h1 := scan_le (P := fun j => isLt (B j)) (n := n) (n - f) f
    have h2 := scan_end (P := fun j => isLt (B j)) (n := n) (n - f) f (by omega)
    have h3 : f < tle B n f := by
      refine Classical.byContradiction fun g => ?_
      have : scan (fun j => isLt (B j)) n (n - f) f = f := by unfold tle at g; omega
      rw [this] at h2
      exact h2 ⟨by omega, d2⟩
    unfold tle at h3 ⊢
    exact ⟨by omega, h1.2 h, fun _ => h3, fun q => by omega, fun q => by omega, by omega, fun q => by omega⟩
  rw [if_neg d2, if_neg d2]
  have h1 := scan_le (P := fun j => isFg (B j)) (n := n) (n - f) f
  unfold tfe
  by_cases d3 : isFg (B f) = true ∧ scan (fun j => isFg (B j)) n (n - f) f - f ≤ 2
  · rw [if_pos d3]
    have h3 := (tv_b (n := n) (q := f) (by omega) d3.1 d3.2).1
    unfold tfe at h3
    exact ⟨h1.1, h1.2 h, fun q => by omega, fun q => by omega, fun q => by omega, by omega, fun q => by omega⟩
  · rw [if_neg d3]
    exact ⟨h1.1, h1.2 h, fun q => by omega, fun q => by omega, fun q => by omega, by omega, fun q => by omega⟩
theorem tf_le {B : Nat → Nat} {n p : Nat} (h : p ≤ n) : p ≤ tf B n p ∧ tf B n p ≤ n := ⟨(scan_le (n - p) p).1, (scan_le (n - p) p).2 h⟩
/-- the squares of a row, joined -/
def rs (B : Nat → Nat) (f m : Nat) : Nat → Int64 → Int64
  | 0, x => x
  | c + 1, x => rs B f m c x ||| (if B (f + c) = 100 then lsh 1 (Int32.ofNat (8 * m + c)) else 0)
def goodRow (B : Nat → Nat) (n m wd f : Nat) : Bool := tk B n f == 1 && rwb B f (te B n f) && decide (te B n f - f ≤ 8) && (m == 0 || te B n f - f == wd) && decide (m < 8)
theorem goodRow_iff {B : Nat → Nat} {n m wd f : Nat} : goodRow B n m wd f = true ↔ tk B n f = 1 ∧ rwb B f (te B n f) = true ∧ te B n f - f ≤ 8 ∧ (m = 0 ∨ te B n f - f = wd) ∧ m < 8 := by
  unfold goodRow
  simp only [Bool.and_eq_true, Bool.or_eq_true, beq_iff_eq, decide_eq_true_eq, and_assoc]
def rowsS (B : Nat → Nat) (n : Nat) : Nat → Nat → Nat → Int64 → Nat → Nat ⊕ (Nat × Nat × Nat × Int64)
  | 0, _, _, _, p => .inl (tf B n p)
  | u + 1, m, wd, X, p => if 0 < m ∧ tk B n (tf B n p) = 3 then .inr (te B n (tf B n p), m, wd, X) else if goodRow B n m wd (tf B n p) = true then rowsS B n u (m + 1) (te B n (tf B n p) - tf B n p) (rs B (tf B n p) m (te B n (tf B n p) - tf B n p) X) (te B n (tf B n p)) else .inl (tf B n p)
theorem rs_ins {B : Nat → Nat} {f m wd : Nat} {X : Int64} (hm : m < 8) (hX : Ins (m + 1) wd X) : ∀ c, c ≤ wd → wd ≤ 8 → Ins (m + 1) wd (rs B f m c X) := by
  intro c
  induction c with
  | zero => intro _ _; exact hX
  | succ c ih =>
    intro hc hw
    unfold rs
    refine (ih (by omega) hw).or ?_
    split
    · intro k hk
      rw [M_bit (by omega)] at hk
      omega
    · exact zero_ins
theorem rowsS_ok {B : Nat → Nat} {n : Nat} : ∀ (u m wd : Nat) (X : Int64) (p : Nat) (r : Nat × Nat × Nat × Int64), p ≤ n → m ≤ 8 → (0 < m → 1 ≤ wd ∧ wd ≤ 8 ∧ Ins m wd X) → (m = 0 → X = 0) → rowsS B n u m wd X p = .inr r → p < p1 r ∧ p1 r ≤ n ∧ Cl (p1 (p2 r)) (p1 (p2 (p2 r))) ∧ Ins (p1 (p2 r)) (p1 (p2 (p2 r))) (p2 (p2 (p2 r))) := by
  intro u
  induction u with
  | zero => intro m wd X p r _ _ _ _ h; exact absurd h (by simp [rowsS])
  | succ u ih =>
    intro m wd X p r hp hm h1 h0 h
    have hf := tf_le (B := B) hp
    obtain ⟨e1, e2, e3, e4, -⟩ := te_le (B := B) (f := tf B n p) hf.2
    unfold rowsS at h
    by_cases c : 0 < m ∧ tk B n (tf B n p) = 3
    · rw [if_pos c] at h
      have hr : r = (te B n (tf B n p), m, wd, X) := (Sum.inr.inj h).symm
      have := e4 c.2
      obtain ⟨w1, w2, w3⟩ := h1 c.1
      rw [hr]
      exact ⟨by show p < te B n (tf B n p); omega, e2, ⟨⟨c.1, hm⟩, w1, w2⟩, w3⟩
    rw [if_neg c] at h
    by_cases d : goodRow B n m wd (tf B n p) = true
    · rw [if_pos d] at h
      obtain ⟨g1, g2, g3, g4, g5⟩ := goodRow_iff.mp d
      have hlt := e3 g1
      have hins : Ins (m + 1) (te B n (tf B n p) - tf B n p) X := by
        by_cases q : m = 0
        · rw [h0 q]; exact zero_ins
        · have hw := g4.resolve_left q
          rw [hw]
          intro k hk
          have := (h1 (by omega)).2.2 k hk
          omega
      have := ih (m + 1) _ _ _ r (by omega) (by omega) (fun _ => ⟨by omega, g3, rs_ins g5 hins _ (Nat.le_refl _) g3⟩) (fun q => absurd q (by omega)) h
      exact ⟨by omega, this.2⟩
    · rw [if_neg d] at h
      exact absurd h (by simp)
/-- a fault is known, or can be told at f -/
def FS (f : Nat) (I : WI) : Prop := (I 11 3 = 0 ∧ I 11 7 = Int32.ofNat f) ∨ (¬ I 11 3 = 0 ∧ I 11 5 = Int32.ofNat f)
/-- a fault at g -/
def Fa (g : Nat) (I : WI) : Prop := ¬ I 11 3 = 0 ∧ I 11 5 = Int32.ofNat g
theorem refuse_at {f : Nat} {I : WI} {c : Int32} (h : FS f I) (hc : c ≠ 0) : ∃ I', F_X6_refuse I c = (0, I') ∧ Ft I I' ∧ Fa f I' := by
  rcases h with ⟨h1, h2⟩ | h
  · refine ⟨_, refuse_0 h1, Ft.rfl.u.u, ?_, ?_⟩
    · rw [u2_nc (by omega), u2_at]
      exact hc
    · rw [u2_at, h2]
  · exact ⟨I, refuse_1 h.1, Ft.rfl, h⟩
theorem step_FS {B : Nat → Nat} {n p : Nat} {I I' : WI} (S : StepC B n p I I') : FS (tf B n p) I' := by
  obtain ⟨s1, s2, s3, s4⟩ := S
  by_cases c : tk B n (tf B n p) = 4
  · obtain ⟨-, a, b⟩ := s4 c
    exact .inr ⟨by rw [a]; decide, b⟩
  · exact .inl ⟨(s3 c).2.2.1, s2⟩
theorem step_At {B : Nat → Nat} {n p : Nat} {I I' : WI} (hp : p ≤ n) (S : StepC B n p I I') (c : tk B n (tf B n p) ≠ 4) : AtC n I' (tk B n (tf B n p)) (tf B n p) (te B n (tf B n p)) := by
  obtain ⟨s1, s2, s3, s4⟩ := S
  have hf := tf_le (B := B) hp
  have he := te_le (B := B) (f := tf B n p) hf.2
  exact ⟨(s3 c).1, s2, (s3 c).2.1, he.1, he.2.1⟩
/-- the class's row -/
theorem takeRow_C {B : Nat → Nat} {n p m wd : Nat} {I0 I : WI} {L : WL} {o : Nat} (ho : o = 12 ∨ o = 13) (T : Tap B n I) (hp : p ≤ n) (S : StepC B n p I0 I) (hm : m ≤ 8) (e1 : I o 1 = Int32.ofNat m) (e2 : 0 < m → I o 2 = Int32.ofNat wd) (hwd : wd ≤ 8) : if goodRow B n m wd (tf B n p) = true then F_X6_takeRow I L o = some (1, u2 (u2 I o 2 (Int32.ofNat (te B n (tf B n p) - tf B n p))) o 1 (Int32.ofNat (m + 1)), u2 L o 3 (rs B (tf B n p) m (te B n (tf B n p) - tf B n p) (L o 3))) else ∃ I', F_X6_takeRow I L o = some (0, I', L) ∧ Ft I I' ∧ Fa (tf B n p) I' := by
  have hn : n ≤ 320 := T.1
  have hf := tf_le (B := B) hp
  have hFS := step_FS S
  have hbad : ∀ c : Int32, c ≠ 0 → ∃ I', (if bz (p1 (F_X6_refuse I c)) = (p1 (F_X6_refuse I c)) then some ((p1 (F_X6_refuse I c)), (p2 (F_X6_refuse I c)), L) else none) = some (0, I', L) ∧ Ft I I' ∧ Fa (tf B n p) I' := by
    intro c hc
    obtain ⟨I', r1, r2, r3⟩ := refuse_at hFS hc
    refine ⟨I', ?_, r2, r3⟩
    rw [r1]
    show (if bz (0 : Int32) = 0 then some ((0 : Int32), I', L) else none) = _
    rw [if_pos (by decide)]
  by_cases c4 : tk B n (tf B n p) = 4
  · have hng : ¬ goodRow B n m wd (tf B n p) = true := fun q => by have := (goodRow_iff.mp q).1; omega
    rw [if_neg hng]
    unfold F_X6_takeRow F_X6_isRow
    rw [(S.2.2.2 c4).1, if_neg (show ¬ (4 : Int32) = 1 by decide), if_pos rfl]
    exact hbad 2 (by decide)
  have hA := step_At hp S c4
  obtain ⟨he1, he2, he3, he4, he5, he6, he7⟩ := te_le (B := B) (f := tf B n p) hf.2
  have hrow := row_C T hA he6
  obtain ⟨a1, a2, a3, -, -⟩ := hA
  generalize tf B n p = f at *
  generalize hE : te B n f = e at *
  unfold F_X6_takeRow
  rw [hrow, a2, a3, on_sub he1]
  by_cases d1 : tk B n f = 1 ∧ rwb B f e = true
  · rw [if_pos d1, if_neg (show ¬ (1 : Int32) = 0 by decide)]
    by_cases d2 : 8 < e - f
    · have hng : ¬ goodRow B n m wd f = true := fun q => by have := (goodRow_iff.mp q).2.2.1; rw [hE] at this; omega
      rw [if_neg hng, if_pos (show (8 : Int32) < Int32.ofNat (e - f) from (lt_onn (a := 8) (by decide) (by omega)).mpr d2)]
      exact hbad 3 (by decide)
    rw [if_neg (show ¬ (8 : Int32) < Int32.ofNat (e - f) from fun q => d2 ((lt_onn (a := 8) (by decide) (by omega)).mp q)), e1]
    have h50 : if m < 8 then F_X6_takeRow_50 I L o (Int32.ofNat (e - f)) = some (1, u2 (u2 I o 2 (Int32.ofNat (e - f))) o 1 (Int32.ofNat (m + 1)), u2 L o 3 (rs B f m (e - f) (L o 3))) else ∃ I', F_X6_takeRow_50 I L o (Int32.ofNat (e - f)) = some (0, I', L) ∧ Ft I I' ∧ Fa f I' := by
      unfold F_X6_takeRow_50
      rw [e1]
      by_cases d3 : m < 8
      · rw [if_pos d3, if_pos (show Int32.ofNat m < (8 : Int32) from (lt_onn (b := 8) (by omega) (by decide)).mpr d3)]
        unfold F_X6_takeRow_72
        have hfr : ∀ k j, ¬ (k = o ∧ j = 2) → (u2 I o 2 (Int32.ofNat (e - f))) k j = I k j := fun k j q => u2_nc q
        have T2 : Tap B n (u2 I o 2 (Int32.ofNat (e - f))) := T.ag fun k j q => hfr k j (by rcases ho with rfl | rfl <;> omega)
        obtain ⟨x, x1, x2⟩ := frp0_nat (g := fun i y => F_X6_takeRow_77_1 (u2 I o 2 (Int32.ofNat (e - f))) y o (Int32.ofNat (e - f)) i) (b := e - f) (by omega) (fun i y => y = u2 L o 3 (rs B f m i (L o 3))) (s := L) (fun i y hi hy => by
          refine ⟨u2 L o 3 (rs B f m (i + 1) (L o 3)), ?_, rfl⟩
          show F_X6_takeRow_77_1 (u2 I o 2 (Int32.ofNat (e - f))) y o (Int32.ofNat (e - f)) (Int32.ofNat i) = _
          have hb := (sb_t (B (f + i)) (T.2.2.2 (f + i) (by omega)).1).2.2.2.2.2.1
          unfold F_X6_takeRow_77_1 F_X6_takeRow_115_1
          rw [hfr 11 7 (by rcases ho with rfl | rfl <;> omega), a2, oadd, byteAt_eq T2 (by omega), hfr o 1 (by omega), e1, lm8, oadd, hy, u2_at]
          show _ = some (u2 L o 3 (rs B f m i (L o 3) ||| (if B (f + i) = 100 then lsh 1 (Int32.ofNat (8 * m + i)) else 0)))
          by_cases q : B (f + i) = 100
          · rw [if_pos (hb.mpr q), if_pos q, u2_u2]
          · rw [if_neg fun r => q (hb.mp r), if_neg q, or_0]) u2_id.symm
        rw [x1, ob_some]
        unfold F_X6_takeRow_121
        rw [x2, hfr o 1 (by omega), e1, la1]
      · rw [if_neg d3, if_neg (show ¬ Int32.ofNat m < (8 : Int32) from fun q => d3 ((lt_onn (b := 8) (by omega) (by decide)).mp q))]
        exact hbad 5 (by decide)
    by_cases d4 : m = 0
    · rw [if_pos (show Int32.ofNat m ≤ 0 by rw [d4]; decide)]
      rw [if_pos (show m < 8 by omega)] at h50
      rw [if_pos (goodRow_iff.mpr ⟨d1.1, by rw [hE]; exact d1.2, by rw [hE]; omega, .inl d4, by omega⟩)]
      exact h50
    rw [if_neg (show ¬ Int32.ofNat m ≤ 0 from fun q => d4 (by have := (ge_on (b := 0) (by omega) (by decide)).mp q; omega)), e2 (by omega)]
    by_cases d5 : e - f = wd
    · by_cases d3 : m < 8
      · rw [if_pos d3] at h50
        rw [if_pos (goodRow_iff.mpr ⟨d1.1, by rw [hE]; exact d1.2, by rw [hE]; omega, .inr (by rw [hE]; exact d5), d3⟩), if_pos (show Int32.ofNat (e - f) = Int32.ofNat wd by rw [d5])]
        exact h50
      · rw [if_neg d3] at h50
        rw [if_neg (show ¬ goodRow B n m wd f = true from fun q => d3 (goodRow_iff.mp q).2.2.2.2), if_pos (show Int32.ofNat (e - f) = Int32.ofNat wd by rw [d5])]
        exact h50
    · have hng : ¬ goodRow B n m wd f = true := fun q => by
        have := (goodRow_iff.mp q).2.2.2.1
        rw [hE] at this
        exact this.elim d4 d5
      rw [if_neg hng, if_neg (show ¬ Int32.ofNat (e - f) = Int32.ofNat wd from fun q => d5 (on_inj (by omega) (by omega) q))]
      exact hbad 3 (by decide)
  · rw [if_neg d1, if_pos rfl]
    have hng : ¬ goodRow B n m wd f = true := fun q => d1 ⟨(goodRow_iff.mp q).1, by have := (goodRow_iff.mp q).2.1; rw [hE] at this; exact this⟩
    rw [if_neg hng]
    exact hbad 2 (by decide)
/-- what may change while rows are read -/
def Fr (o : Nat) (I J : WI) : Prop := ∀ k j, k ≠ 11 → ¬ (k = o ∧ (j = 1 ∨ j = 2)) → J k j = I k j
theorem Ft.fr {o : Nat} {I J : WI} (h : Ft I J) : Fr o I J := fun k j a _ => h k j a
theorem Fr.trans {o : Nat} {I J K : WI} (a : Fr o I J) (b : Fr o J K) : Fr o I K := fun k j p q => (b k j p q).trans (a k j p q)
theorem Fr.u {o j : Nat} {I J : WI} {x : Int32} (a : Fr o I J) (h : j = 1 ∨ j = 2) : Fr o I (u2 J o j x) := fun k j' p q => by
  rw [u2_nc (fun r => q ⟨r.1, by rw [r.2]; exact h⟩)]
  exact a k j' p q
theorem Fr.tap {o : Nat} {I J : WI} {B : Nat → Nat} {n : Nat} (ho : o = 12 ∨ o = 13) (a : Fr o I J) (T : Tap B n I) : Tap B n J := T.ag fun k j h => a k j (by omega) (by rcases ho with rfl | rfl <;> omega)
def FrL (o : Nat) (L K : WL) : Prop := ∀ k j, ¬ (k = o ∧ j = 3) → K k j = L k j
theorem FrL.rfl {o : Nat} {L : WL} : FrL o L L := fun _ _ _ => Eq.refl _
theorem FrL.u {o : Nat} {L K : WL} {x : Int64} (a : FrL o L K) : FrL o L (u2 K o 3 x) := fun k j q => (u2_nc q).trans (a k j q)
theorem FrL.trans {o : Nat} {I J K : WL} (a : FrL o I J) (b : FrL o J K) : FrL o I K := fun k j p => (b k j p).trans (a k j p)
/-- how the class ends with rows -/
def RowsEnd (o : Nat) (I : WI) (L : WL) (x : Nat ⊕ (Nat × Nat × Nat × Int64)) (v : Int32) (I' : WI) (L' : WL) : Prop := Fr o I I' ∧ FrL o L L' ∧ match x with
  | .inl g => v = 0 ∧ Fa g I'
  | .inr r => v = 1 ∧ I' 11 3 = 0 ∧ I' 11 8 = Int32.ofNat (p1 r) ∧ I' o 1 = Int32.ofNat (p1 (p2 r)) ∧ I' o 2 = Int32.ofNat (p1 (p2 (p2 r))) ∧ L' o 3 = p2 (p2 (p2 r))
theorem rows_C {B : Nat → Nat} {n o : Nat} (ho : o = 12 ∨ o = 13) : ∀ (u m wd : Nat) (I : WI) (L : WL) (p fuel : Nat), u + m = 9 → u < fuel → Tap B n I → p ≤ n → I 11 8 = Int32.ofNat p → I 11 3 = 0 → I o 1 = Int32.ofNat m → (0 < m → I o 2 = Int32.ofNat wd) → wd ≤ 8 → 1 ≤ u → ∃ v I' L', lpp (fun x => F_X6_takeRows_25_1 (p1 (p2 x)) (p2 (p2 x)) o (p1 x)) fuel (Int32.ofNat m, I, L) = some (.inl (v, I', L')) ∧ RowsEnd o I L (rowsS B n u m wd (L o 3) p) v I' L' := by
  intro u
  induction u with
  | zero => intro m wd I L p fuel _ _ _ _ _ _ _ _ _ h; omega
  | succ u ih =>
    intro m wd I L p fuel hu hf T hp e8 e3 e1 e2 hwd _
    obtain ⟨fuel, rfl⟩ : ∃ g, fuel = g + 1 := ⟨fuel - 1, by omega⟩
    have hn : n ≤ 320 := T.1
    obtain ⟨J, j1, S⟩ := step_C T hp e8 e3
    have TJ := S.1.tap T
    have hfp := tf_le (B := B) hp
    have jo : ∀ j, J o j = I o j := fun j => S.1 o j (by rcases ho with rfl | rfl <;> omega)
    have hrow := takeRow_C (L := L) (wd := wd) ho TJ hp S (show m ≤ 8 by omega) ((jo 1).trans e1) (fun q => (jo 2).trans (e2 q)) hwd
    have hl : ∀ r, F_X6_takeRows_25_1 I L o (Int32.ofNat m) = some (.inl r) → lpp (fun x : Int32 × WI × WL => F_X6_takeRows_25_1 (p1 (p2 x)) (p2 (p2 x)) o (p1 x)) (fuel + 1) (Int32.ofNat m, I, L) = some r := fun r h => lpp_l (f := (fun x : Int32 × WI × WL => F_X6_takeRows_25_1 (p1 (p2 x)) (p2 (p2 x)) o (p1 x))) (s := (Int32.ofNat m, I, L)) h
    have hr : ∀ s, F_X6_takeRows_25_1 I L o (Int32.ofNat m) = some (.inr s) → lpp (fun x : Int32 × WI × WL => F_X6_takeRows_25_1 (p1 (p2 x)) (p2 (p2 x)) o (p1 x)) (fuel + 1) (Int32.ofNat m, I, L) = lpp (fun x : Int32 × WI × WL => F_X6_takeRows_25_1 (p1 (p2 x)) (p2 (p2 x)) o (p1 x)) fuel s := fun s h => lpp_r (f := (fun x : Int32 × WI × WL => F_X6_takeRows_25_1 (p1 (p2 x)) (p2 (p2 x)) o (p1 x))) (s := (Int32.ofNat m, I, L)) h
    have hm8 : ¬ (8 : Int32) < Int32.ofNat m := fun q => absurd ((lt_onn (a := 8) (by decide) (by omega)).mp q) (by omega)
    have h25 : F_X6_takeRows_25_1 I L o (Int32.ofNat m) = if 0 < m ∧ tk B n (tf B n p) = 3 then some (.inl (.inl (1, J, L))) else F_X6_takeRows_52_1 J L o (Int32.ofNat m) := by
      unfold F_X6_takeRows_25_1
      rw [if_neg hm8, j1, ob_some, jo 1, e1]
      by_cases c : 0 < m
      · rw [if_neg (show ¬ Int32.ofNat m ≤ 0 from fun q => absurd ((ge_on (b := 0) (by omega) (by decide)).mp q) (by omega))]
        have hk6 : J 11 6 = Int32.ofNat (tk B n (tf B n p)) := by
          by_cases d : tk B n (tf B n p) = 4
          · rw [(S.2.2.2 d).1, d]
            rfl
          · exact (S.2.2.1 d).1
        have hk4 := (te_le (B := B) (f := tf B n p) hfp.2).2.2.2.2.2.1
        by_cases d : tk B n (tf B n p) = 3
        · rw [if_pos (by rw [hk6, d]; rfl), if_pos ⟨c, d⟩]
        · rw [if_neg (show ¬ J 11 6 = 3 from fun q => d (on_inj (b := 3) (by omega) (by decide) (hk6.symm.trans q))), if_neg fun q => d q.2]
      · rw [if_pos (show Int32.ofNat m ≤ 0 from (ge_on (b := 0) (by omega) (by decide)).mpr (by omega)), if_neg fun q => c q.1]
    unfold rowsS
    by_cases c : 0 < m ∧ tk B n (tf B n p) = 3
    · rw [if_pos c] at h25
      rw [if_pos c, hl _ h25]
      obtain ⟨s1, s2, s3, -⟩ := S.2.2.1 (by omega)
      exact ⟨1, J, L, rfl, S.1.fr, FrL.rfl, rfl, s3, s2, (jo 1).trans e1, (jo 2).trans (e2 c.1), rfl⟩
    rw [if_neg c] at h25
    rw [if_neg c]
    by_cases d : goodRow B n m wd (tf B n p) = true
    · rw [if_pos d] at hrow
      rw [if_pos d]
      have hk1 := (goodRow_iff.mp d).1
      have hg := goodRow_iff.mp d
      obtain ⟨s1, s2, s3, -⟩ := S.2.2.1 (by omega)
      have hte := te_le (B := B) (f := tf B n p) hfp.2
      unfold F_X6_takeRows_52_1 at h25
      rw [hrow, ob_some] at h25
      have h25' : F_X6_takeRows_25_1 I L o (Int32.ofNat m) = some (.inr (Int32.ofNat m + 1, u2 (u2 J o 2 (Int32.ofNat (te B n (tf B n p) - tf B n p))) o 1 (Int32.ofNat (m + 1)), u2 L o 3 (rs B (tf B n p) m (te B n (tf B n p) - tf B n p) (L o 3)))) := h25
      rw [hr _ h25', la1]
      generalize hJ2 : u2 (u2 J o 2 (Int32.ofNat (te B n (tf B n p) - tf B n p))) o 1 (Int32.ofNat (m + 1)) = J2
      have hfr : Fr o J J2 := by rw [← hJ2]; exact (Ft.rfl.fr.u (.inr rfl)).u (.inl rfl)
      have h11 : ∀ j, J2 11 j = J 11 j := fun j => by rw [← hJ2, u2_nc (by rcases ho with rfl | rfl <;> omega), u2_nc (by rcases ho with rfl | rfl <;> omega)]
      obtain ⟨v, I', L', r1, r2, r3, r4⟩ := ih (m + 1) (te B n (tf B n p) - tf B n p) J2 (u2 L o 3 (rs B (tf B n p) m (te B n (tf B n p) - tf B n p) (L o 3))) (te B n (tf B n p)) fuel (by omega) (by omega) (hfr.tap ho TJ) hte.2.1 ((h11 8).trans s2) ((h11 3).trans s3) (by rw [← hJ2, u2_at]) (fun _ => by rw [← hJ2, u2_nc (by omega), u2_at]) hg.2.2.1 (by omega)
      rw [u2_at] at r4
      exact ⟨v, I', L', r1, (S.1.fr.trans hfr).trans r2, (FrL.rfl.u).trans r3, r4⟩
    · rw [if_neg d] at hrow
      rw [if_neg d]
      obtain ⟨J', q1, q2, q3⟩ := hrow
      unfold F_X6_takeRows_52_1 at h25
      rw [q1, ob_some] at h25
      have h25' : F_X6_takeRows_25_1 I L o (Int32.ofNat m) = some (.inl (.inl (0, J', L))) := h25
      rw [hl _ h25']
      exact ⟨0, J', L, rfl, (S.1.trans q2).fr, FrL.rfl, rfl, q3⟩
