/-! days of the text, as they are read: the class -/
def kdS (B : Nat → Nat) (f e : Nat) : Nat := if nmb B f e 3 = true then 0 else if nmb B f e 4 = true then 1 else if nmb B f e 5 = true then 2 else 3
def okNum (B : Nat → Nat) (n kd f : Nat) : Bool := tk B n f == 2 && decide (tv B n f ≤ if kd = 2 then 14 else 7)
def actsS (B : Nat → Nat) (n : Nat) : Nat → List Nat → Nat → Nat ⊕ (Nat × List Nat)
  | 0, _, p => .inl (tf B n p)
  | u + 1, l, p => if 0 < l.length ∧ tk B n (tf B n p) = 3 then .inr (te B n (tf B n p), l) else if tk B n (tf B n p) = 1 ∧ kdS B (tf B n p) (te B n (tf B n p)) < 3 ∧ l.length < 3 then (if okNum B n (kdS B (tf B n p) (te B n (tf B n p))) (tf B n (te B n (tf B n p))) = true then actsS B n u (l ++ [20 * kdS B (tf B n p) (te B n (tf B n p)) + tv B n (tf B n (te B n (tf B n p)))]) (te B n (tf B n (te B n (tf B n p)))) else .inl (tf B n (te B n (tf B n p)))) else .inl (tf B n p)
theorem kind_C {B : Nat → Nat} {n k f e : Nat} {I : WI} (T : Tap B n I) (A : AtC n I k f e) (hk : k ≤ 4) : F_X6_kindNamed I = some (if k = 1 ∧ kdS B f e < 3 then Int32.ofNat (kdS B f e) else -1) := by
  unfold F_X6_kindNamed F_X6_kindNamed_36 kdS
  rw [named_C T A hk (by decide : 3 < 6), named_C T A hk (by decide : 4 < 6), named_C T A hk (by decide : 5 < 6), ob_some, ob_some, ob_some]
  by_cases c : k = 1
  · by_cases c3 : nmb B f e 3 = true
    · rw [if_pos (show k = 1 ∧ nmb B f e 3 = true from ⟨c, c3⟩), if_neg (show ¬ (1 : Int32) = 0 by decide), if_pos c3, if_pos (show k = 1 ∧ (0 : Nat) < 3 from ⟨c, by decide⟩)]
      rfl
    rw [if_neg (show ¬ (k = 1 ∧ nmb B f e 3 = true) from fun q => c3 q.2), if_pos rfl, if_neg c3]
    by_cases c4 : nmb B f e 4 = true
    · rw [if_pos (show k = 1 ∧ nmb B f e 4 = true from ⟨c, c4⟩), if_neg (show ¬ (1 : Int32) = 0 by decide), if_pos c4, if_pos (show k = 1 ∧ (1 : Nat) < 3 from ⟨c, by decide⟩)]
      rfl
    rw [if_neg (show ¬ (k = 1 ∧ nmb B f e 4 = true) from fun q => c4 q.2), if_pos rfl, if_neg c4]
    by_cases c5 : nmb B f e 5 = true
    · rw [if_pos (show k = 1 ∧ nmb B f e 5 = true from ⟨c, c5⟩), if_neg (show ¬ (1 : Int32) = 0 by decide), if_pos c5, if_pos (show k = 1 ∧ (2 : Nat) < 3 from ⟨c, by decide⟩)]
      rfl
    · rw [if_neg (show ¬ (k = 1 ∧ nmb B f e 5 = true) from fun q => c5 q.2), if_pos rfl, if_neg c5, if_neg (show ¬ (k = 1 ∧ (3 : Nat) < 3) from fun q => absurd q.2 (by decide))]
  · rw [if_neg (show ¬ (k = 1 ∧ nmb B f e 3 = true) from fun q => c q.1), if_pos rfl, if_neg (show ¬ (k = 1 ∧ nmb B f e 4 = true) from fun q => c q.1), if_pos rfl, if_neg (show ¬ (k = 1 ∧ nmb B f e 5 = true) from fun q => c q.1), if_pos rfl, if_neg fun q => c q.1]
/-- what may change while a day N is read -/
def Fdy (N : Nat) (I J : WI) : Prop := ∀ k j, k ≠ 11 → ¬ (k = 15 ∧ j = N) → ¬ (k = 16 ∧ 3 * N ≤ j) → J k j = I k j
theorem Ft.fdy {N : Nat} {I J : WI} (h : Ft I J) : Fdy N I J := fun k j a _ _ => h k j a
theorem Fdy.trans {N : Nat} {I J K : WI} (a : Fdy N I J) (b : Fdy N J K) : Fdy N I K := fun k j p q r => (b k j p q r).trans (a k j p q r)
theorem Fdy.tap {N : Nat} {I J : WI} {B : Nat → Nat} {n : Nat} (a : Fdy N I J) (T : Tap B n I) : Tap B n J := T.ag fun k j h => a k j (by omega) (by omega) (by omega)
/-- the acts of the day that is read -/
def DayC (N : Nat) (l : List Nat) (I : WI) : Prop := I 14 0 = Int32.ofNat (N + 1) ∧ I 15 N = Int32.ofNat l.length ∧ ∀ j, j < l.length → I 16 (3 * N + j) = Int32.ofNat (l.getD j 0)
def DayEnd (N : Nat) (I : WI) (x : Nat ⊕ (Nat × List Nat)) (v : Int32) (I' : WI) : Prop := Fdy N I I' ∧ match x with
  | .inl g => v = 0 ∧ Fa g I'
  | .inr r => v = 1 ∧ I' 11 3 = 0 ∧ I' 11 8 = Int32.ofNat (p1 r) ∧ DayC N (p2 r) I'
theorem kind_4 {I : WI} (h : I 11 6 = 4) : F_X6_kindNamed I = some (-1) := by
  have hn : ∀ t, F_X6_isNamed I t = some 0 := fun t => by
    unfold F_X6_isNamed
    rw [h, if_neg (show ¬ (4 : Int32) = 1 by decide)]
    rfl
  unfold F_X6_kindNamed
  rw [hn, hn, hn]
  rfl
theorem kdS_le {B : Nat → Nat} {f e : Nat} : kdS B f e ≤ 3 := by
  unfold kdS
  split
  · decide
  split
  · decide
  split <;> decide
theorem add_C {N kd v : Nat} {l : List Nat} {I : WI} (hN : N < 12) (hl : l.length < 3) (D : DayC N l I) : Fdy N I (F_X1_add I 14 (Int32.ofNat kd) (Int32.ofNat v)) ∧ (∀ j, F_X1_add I 14 (Int32.ofNat kd) (Int32.ofNat v) 11 j = I 11 j) ∧ DayC N (l ++ [20 * kd + v]) (F_X1_add I 14 (Int32.ofNat kd) (Int32.ofNat v)) := by
  obtain ⟨d1, d2, d3⟩ := D
  have hm : Int32.ofNat (N + 1) - 1 = Int32.ofNat N := by
    have := on_sub (a := N + 1) (b := 1) (by omega)
    rw [Nat.add_sub_cancel] at this
    exact this
  have ha : F_X1_actsOf I 14 (Int32.ofNat N) = Int32.ofNat l.length := by
    unfold F_X1_actsOf F_X1_actsOf_31
    rw [d1, if_neg (show ¬ Int32.ofNat N < 0 from fun q => absurd ((lt_onn (b := 0) (by omega) (by decide)).mp q) (by omega)), if_neg (show ¬ Int32.ofNat (N + 1) ≤ Int32.ofNat N from fun q => absurd ((ge_on (by omega) (by omega)).mp q) (by omega)), if_neg (show ¬ (12 : Int32) ≤ Int32.ofNat N from fun q => absurd ((ge_on (a := 12) (by decide) (by omega)).mp q) (by omega)), on_clamp (by omega), d2]
  have he : F_X1_add I 14 (Int32.ofNat kd) (Int32.ofNat v) = u2 (u2 I 16 (3 * N + l.length) (Int32.ofNat (20 * kd + v))) 15 N (Int32.ofNat (l.length + 1)) := by
    unfold F_X1_add F_X1_add_69
    rw [d1, hm, ha, lm3, oadd, if_neg (show ¬ Int32.ofNat N < 0 from fun q => absurd ((lt_onn (b := 0) (by omega) (by decide)).mp q) (by omega)), if_neg (show ¬ (12 : Int32) ≤ Int32.ofNat N from fun q => absurd ((ge_on (a := 12) (by decide) (by omega)).mp q) (by omega)), if_neg (show ¬ Int32.ofNat (3 * N + l.length) < 0 from fun q => absurd ((lt_onn (b := 0) (by omega) (by decide)).mp q) (by omega)), if_neg (show ¬ (36 : Int32) ≤ Int32.ofNat (3 * N + l.length) from fun q => absurd ((ge_on (a := 36) (by decide) (by omega)).mp q) (by omega)), on_clamp (by omega), on_clamp (by omega)]
    have h20 : (20 : Int32) * Int32.ofNat kd + Int32.ofNat v = Int32.ofNat (20 * kd + v) := by rw [← oadd]; exact congrArg (· + Int32.ofNat v) (Int32.ofNat_mul 20 kd).symm
    rw [h20]
    show u2 (u2 I 16 (3 * N + l.length) (Int32.ofNat (20 * kd + v))) 15 N (u2 I 16 (3 * N + l.length) (Int32.ofNat (20 * kd + v)) 15 N + 1) = _
    rw [u2_nc (by omega), d2, la1]
  rw [he]
  refine ⟨fun k j h1 h2 h3 => ?_, fun j => ?_, ?_, ?_, fun j hj => ?_⟩
  · rw [u2_nc h2, u2_nc (by omega)]
  · rw [u2_nc (by omega), u2_nc (by omega)]
  · rw [u2_nc (by omega), u2_nc (by omega), d1]
  · rw [u2_at, List.length_append]
    rfl
  · rw [List.length_append] at hj
    have hj' : j < l.length + 1 := hj
    rw [u2_nc (by omega)]
    by_cases c : j = l.length
    · rw [c, u2_at, List.getD_eq_getElem?_getD, List.getElem?_append_right (Nat.le_refl _), Nat.sub_self]
      rfl
    · rw [u2_nc (by omega), d3 j (by omega), List.getD_eq_getElem?_getD, List.getD_eq_getElem?_getD, List.getElem?_append_left (by omega)]
theorem DayC.ft {N : Nat} {l : List Nat} {I J : WI} (D : DayC N l I) (h : Ft I J) : DayC N l J := ⟨(h 14 0 (by decide)).trans D.1, (h 15 N (by decide)).trans D.2.1, fun j hj => (h 16 _ (by decide)).trans (D.2.2 j hj)⟩
/-- the class's number of an act -/
theorem number_C {B : Nat → Nat} {n p N kd : Nat} {l : List Nat} {I0 I : WI} (hp : p ≤ n) (S : StepC B n p I0 I) (hkd : kd < 3) (hN : N < 12) (hl : l.length < 3) (D : DayC N l I) : if okNum B n kd (tf B n p) = true then ∃ I', F_X6_takeNumber I (Int32.ofNat kd) = some (1, I') ∧ Fdy N I I' ∧ (∀ j, I' 11 j = I 11 j) ∧ DayC N (l ++ [20 * kd + tv B n (tf B n p)]) I' else ∃ I', F_X6_takeNumber I (Int32.ofNat kd) = some (0, I') ∧ Ft I I' ∧ Fa (tf B n p) I' := by
  have hFS := step_FS S
  have hbad : ∀ c : Int32, c ≠ 0 → ∃ I', (if bz (p1 (F_X6_refuse I c)) = (p1 (F_X6_refuse I c)) then some ((p1 (F_X6_refuse I c)), (p2 (F_X6_refuse I c))) else none) = some (0, I') ∧ Ft I I' ∧ Fa (tf B n p) I' := by
    intro c hc
    obtain ⟨I', r1, r2, r3⟩ := refuse_at hFS hc
    refine ⟨I', ?_, r2, r3⟩
    rw [r1]
    show (if bz (0 : Int32) = 0 then some ((0 : Int32), I') else none) = _
    rw [if_pos (by decide)]
  unfold F_X6_takeNumber F_X6_takeNumber_30
  by_cases c : tk B n (tf B n p) = 2
  · obtain ⟨s1, s2, s3, s4⟩ := S.2.2.1 (by omega)
    have h9 := s4 c
    have hf := tf_le (B := B) hp
    have hv : tv B n (tf B n p) ≤ 99 := by
      have hq := (te_le (B := B) (f := tf B n p) hf.2).2.2.2.2.2.2 (by omega)
      unfold tk at c
      rw [if_neg (show ¬ n ≤ tf B n p by omega)] at c
      by_cases d1 : B (tf B n p) = 59
      · rw [if_pos d1] at c; omega
      rw [if_neg d1] at c
      by_cases d2 : isLt (B (tf B n p)) = true
      · rw [if_pos d2] at c; omega
      rw [if_neg d2] at c
      by_cases d3 : isFg (B (tf B n p)) = true ∧ tfe B n (tf B n p) - tf B n p ≤ 2
      · exact (tv_b hq d3.1 d3.2).2.1
      · rw [if_neg d3] at c; omega
    rw [s1, c, if_pos (show Int32.ofNat 2 = 2 from rfl), h9]
    have key : ∀ lim, lim < 100 → okNum B n kd (tf B n p) = decide (tv B n (tf B n p) ≤ lim) → if okNum B n kd (tf B n p) = true then ∃ I', (if Int32.ofNat (tv B n (tf B n p)) ≤ Int32.ofNat lim then some ((1 : Int32), F_X1_add I 14 (Int32.ofNat kd) (I 11 9)) else (if bz (p1 (F_X6_refuse I 3)) = (p1 (F_X6_refuse I 3)) then some ((p1 (F_X6_refuse I 3)), (p2 (F_X6_refuse I 3))) else none)) = some (1, I') ∧ Fdy N I I' ∧ (∀ j, I' 11 j = I 11 j) ∧ DayC N (l ++ [20 * kd + tv B n (tf B n p)]) I' else ∃ I', (if Int32.ofNat (tv B n (tf B n p)) ≤ Int32.ofNat lim then some ((1 : Int32), F_X1_add I 14 (Int32.ofNat kd) (I 11 9)) else (if bz (p1 (F_X6_refuse I 3)) = (p1 (F_X6_refuse I 3)) then some ((p1 (F_X6_refuse I 3)), (p2 (F_X6_refuse I 3))) else none)) = some (0, I') ∧ Ft I I' ∧ Fa (tf B n p) I' := by
      intro lim hlim hok
      rw [hok]
      by_cases d : tv B n (tf B n p) ≤ lim
      · rw [if_pos (decide_eq_true d), if_pos ((ge_on (by omega) (by omega)).mpr d), h9]
        exact ⟨_, rfl, add_C hN hl D⟩
      · rw [if_neg (show ¬ decide (tv B n (tf B n p) ≤ lim) = true by rw [decide_eq_true_eq]; exact d), if_neg fun q => d ((ge_on (by omega) (by omega)).mp q)]
        exact hbad 3 (by decide)
    rw [← h9]
    by_cases k2 : kd = 2
    · rw [if_pos (show Int32.ofNat kd = 2 by rw [k2]; rfl)]
      have := key 14 (by decide) (by unfold okNum; rw [c, k2]; rfl)
      rw [← h9] at this
      exact this
    · rw [if_neg (show ¬ Int32.ofNat kd = 2 from fun q => k2 (on_inj (b := 2) (by omega) (by decide) q))]
      have := key 7 (by decide) (by unfold okNum; rw [c, if_neg k2]; rfl)
      rw [← h9] at this
      exact this
  · have hng : ¬ okNum B n kd (tf B n p) = true := fun q => by
      unfold okNum at q
      rw [Bool.and_eq_true, beq_iff_eq] at q
      exact c q.1
    have h6 : ¬ I 11 6 = 2 := by
      by_cases c4 : tk B n (tf B n p) = 4
      · rw [(S.2.2.2 c4).1]; decide
      · rw [(S.2.2.1 c4).1]
        have hf := tf_le (B := B) hp
        have := (te_le (B := B) (f := tf B n p) hf.2).2.2.2.2.2.1
        exact fun q => c (on_inj (b := 2) (by omega) (by decide) q)
    rw [if_neg hng, if_neg h6]
    exact hbad 2 (by decide)
theorem acts_C {B : Nat → Nat} {n N : Nat} (hN : N < 12) : ∀ (u : Nat) (l : List Nat) (I : WI) (p fuel : Nat), u + l.length = 4 → u < fuel → Tap B n I → p ≤ n → I 11 8 = Int32.ofNat p → I 11 3 = 0 → DayC N l I → 1 ≤ u → ∃ v I', lpp (fun x => F_X6_takeDay_27_1 (p2 x) (p1 x)) fuel (Int32.ofNat l.length, I) = some (.inl (v, I')) ∧ DayEnd N I (actsS B n u l p) v I' := by
  intro u
  induction u with
  | zero => intro l I p fuel _ _ _ _ _ _ _ h; omega
  | succ u ih =>
    intro l I p fuel hu hf T hp e8 e3 D _
    obtain ⟨fuel, rfl⟩ : ∃ g, fuel = g + 1 := ⟨fuel - 1, by omega⟩
    have hn : n ≤ 320 := T.1
    obtain ⟨J, j1, S⟩ := step_C T hp e8 e3
    have TJ := S.1.tap T
    have hfp := tf_le (B := B) hp
    have hte := te_le (B := B) (f := tf B n p) hfp.2
    have hFS := step_FS S
    have DJ := D.ft S.1
    have hl : ∀ r, F_X6_takeDay_27_1 I (Int32.ofNat l.length) = some (.inl r) → lpp (fun x : Int32 × WI => F_X6_takeDay_27_1 (p2 x) (p1 x)) (fuel + 1) (Int32.ofNat l.length, I) = some r := fun r h => lpp_l (f := (fun x : Int32 × WI => F_X6_takeDay_27_1 (p2 x) (p1 x))) (s := (Int32.ofNat l.length, I)) h
    have hr : ∀ s, F_X6_takeDay_27_1 I (Int32.ofNat l.length) = some (.inr s) → lpp (fun x : Int32 × WI => F_X6_takeDay_27_1 (p2 x) (p1 x)) (fuel + 1) (Int32.ofNat l.length, I) = lpp (fun x : Int32 × WI => F_X6_takeDay_27_1 (p2 x) (p1 x)) fuel s := fun s h => lpp_r (f := (fun x : Int32 × WI => F_X6_takeDay_27_1 (p2 x) (p1 x))) (s := (Int32.ofNat l.length, I)) h
    have hm3 : ¬ (3 : Int32) < Int32.ofNat l.length := fun q => absurd ((lt_onn (a := 3) (by decide) (by omega)).mp q) (by omega)
    have hk6 : J 11 6 = Int32.ofNat (tk B n (tf B n p)) := by
      by_cases d : tk B n (tf B n p) = 4
      · rw [(S.2.2.2 d).1, d]
        rfl
      · exact (S.2.2.1 d).1
    have h27 : F_X6_takeDay_27_1 I (Int32.ofNat l.length) = if 0 < l.length ∧ tk B n (tf B n p) = 3 then some (.inl (.inl (1, J))) else F_X6_takeDay_50_1 J (Int32.ofNat l.length) := by
      unfold F_X6_takeDay_27_1
      rw [if_neg hm3, j1, ob_some]
      by_cases c : 0 < l.length
      · rw [if_neg (show ¬ Int32.ofNat l.length ≤ 0 from fun q => absurd ((ge_on (b := 0) (by omega) (by decide)).mp q) (by omega))]
        have hk4 := hte.2.2.2.2.2.1
        by_cases d : tk B n (tf B n p) = 3
        · rw [if_pos (show J 11 6 = 3 by rw [hk6, d]; rfl), if_pos ⟨c, d⟩]
        · rw [if_neg (show ¬ J 11 6 = 3 from fun q => d (on_inj (b := 3) (by omega) (by decide) (hk6.symm.trans q))), if_neg fun q => d q.2]
      · rw [if_pos (show Int32.ofNat l.length ≤ 0 from (ge_on (b := 0) (by omega) (by decide)).mpr (by omega)), if_neg fun q => c q.1]
    unfold actsS
    by_cases c : 0 < l.length ∧ tk B n (tf B n p) = 3
    · rw [if_pos c] at h27
      rw [if_pos c, hl _ h27]
      obtain ⟨s1, s2, s3, -⟩ := S.2.2.1 (by omega)
      exact ⟨1, J, rfl, S.1.fdy, rfl, s3, s2, DJ⟩
    rw [if_neg c] at h27
    rw [if_neg c]
    have hbad : ∀ c : Int32, c ≠ 0 → ∃ I', (if bz (p1 (F_X6_refuse J c)) = (p1 (F_X6_refuse J c)) then some (Sum.inl (Sum.inl ((p1 (F_X6_refuse J c)), (p2 (F_X6_refuse J c))))) else none) = (some (Sum.inl (Sum.inl ((0 : Int32), I'))) : Option (((Int32 × WI) ⊕ WI) ⊕ (Int32 × WI))) ∧ Ft J I' ∧ Fa (tf B n p) I' := by
      intro c hc
      obtain ⟨I', r1, r2, r3⟩ := refuse_at hFS hc
      refine ⟨I', ?_, r2, r3⟩
      rw [r1]
      show (if bz (0 : Int32) = 0 then some (Sum.inl (Sum.inl ((0 : Int32), I'))) else none) = _
      rw [if_pos (by decide)]
    have hkn : F_X6_kindNamed J = some (if tk B n (tf B n p) = 1 ∧ kdS B (tf B n p) (te B n (tf B n p)) < 3 then Int32.ofNat (kdS B (tf B n p) (te B n (tf B n p))) else -1) := by
      by_cases c4 : tk B n (tf B n p) = 4
      · rw [kind_4 (S.2.2.2 c4).1, if_neg (show ¬ (tk B n (tf B n p) = 1 ∧ kdS B (tf B n p) (te B n (tf B n p)) < 3) from fun q => by have := q.1; omega)]
      · exact kind_C TJ (step_At hp S c4) hte.2.2.2.2.2.1
    by_cases d : tk B n (tf B n p) = 1 ∧ kdS B (tf B n p) (te B n (tf B n p)) < 3
    · rw [if_pos d] at hkn
      have hkd := d.2
      obtain ⟨s1, s2, s3, -⟩ := S.2.2.1 (by have := d.1; omega)
      have hge : (0 : Int32) ≤ Int32.ofNat (kdS B (tf B n p) (te B n (tf B n p))) := (ge_on (a := 0) (by decide) (by omega)).mpr (by omega)
      by_cases d3 : l.length < 3
      · rw [if_pos (show tk B n (tf B n p) = 1 ∧ kdS B (tf B n p) (te B n (tf B n p)) < 3 ∧ l.length < 3 from ⟨d.1, d.2, d3⟩)]
        obtain ⟨K, k1, SK⟩ := step_C TJ hte.2.1 s2 s3
        have TK := SK.1.tap TJ
        have hnum := number_C hte.2.1 SK hkd hN d3 (DJ.ft SK.1)
        unfold F_X6_takeDay_50_1 at h27
        rw [hkn, ob_some, if_pos hge, if_pos (show Int32.ofNat l.length < 3 from (lt_onn (b := 3) (by omega) (by decide)).mpr d3), k1, ob_some] at h27
        have hf2 := tf_le (B := B) hte.2.1
        have hte2 := te_le (B := B) (f := tf B n (te B n (tf B n p))) hf2.2
        by_cases o : okNum B n (kdS B (tf B n p) (te B n (tf B n p))) (tf B n (te B n (tf B n p))) = true
        · rw [if_pos o] at hnum
          rw [if_pos o]
          obtain ⟨M, m1, m2, m3, m4⟩ := hnum
          have hk2 : tk B n (tf B n (te B n (tf B n p))) = 2 := by
            unfold okNum at o
            rw [Bool.and_eq_true, beq_iff_eq] at o
            exact o.1
          obtain ⟨t1, t2, t3, -⟩ := SK.2.2.1 (by omega)
          rw [m1, ob_some] at h27
          have h27' : F_X6_takeDay_27_1 I (Int32.ofNat l.length) = some (.inr (Int32.ofNat l.length + 1, M)) := h27
          rw [hr _ h27', la1]
          have hlen : (l ++ [20 * kdS B (tf B n p) (te B n (tf B n p)) + tv B n (tf B n (te B n (tf B n p)))]).length = l.length + 1 := List.length_append
          obtain ⟨v, I', r1, r2, r3⟩ := ih (l ++ [20 * kdS B (tf B n p) (te B n (tf B n p)) + tv B n (tf B n (te B n (tf B n p)))]) M (te B n (tf B n (te B n (tf B n p)))) fuel (by rw [hlen]; omega) (by omega) (m2.tap TK) hte2.2.1 ((m3 8).trans t2) ((m3 3).trans t3) m4 (by omega)
          rw [hlen] at r1
          exact ⟨v, I', r1, ((S.1.trans SK.1).fdy.trans m2).trans r2, r3⟩
        · rw [if_neg o] at hnum
          rw [if_neg o]
          obtain ⟨M, m1, m2, m3⟩ := hnum
          rw [m1, ob_some] at h27
          have h27' : F_X6_takeDay_27_1 I (Int32.ofNat l.length) = some (.inl (.inl (0, M))) := h27
          rw [hl _ h27']
          exact ⟨0, M, rfl, ((S.1.trans SK.1).trans m2).fdy, rfl, m3⟩
      · rw [if_neg (show ¬ (tk B n (tf B n p) = 1 ∧ kdS B (tf B n p) (te B n (tf B n p)) < 3 ∧ l.length < 3) from fun q => d3 q.2.2)]
        unfold F_X6_takeDay_50_1 at h27
        rw [hkn, ob_some, if_pos hge, if_neg (show ¬ Int32.ofNat l.length < 3 from fun q => d3 ((lt_onn (b := 3) (by omega) (by decide)).mp q))] at h27
        obtain ⟨M, m1, m2, m3⟩ := hbad 5 (by decide)
        rw [m1] at h27
        rw [hl _ h27]
        exact ⟨0, M, rfl, (S.1.trans m2).fdy, rfl, m3⟩
    · rw [if_neg d] at hkn
      rw [if_neg (show ¬ (tk B n (tf B n p) = 1 ∧ kdS B (tf B n p) (te B n (tf B n p)) < 3 ∧ l.length < 3) from fun q => d ⟨q.1, q.2.1⟩)]
      unfold F_X6_takeDay_50_1 at h27
      rw [hkn, ob_some, if_neg (show ¬ (0 : Int32) ≤ -1 by decide)] at h27
      obtain ⟨M, m1, m2, m3⟩ := hbad 2 (by decide)
      rw [m1] at h27
      rw [hl _ h27]
      exact ⟨0, M, rfl, (S.1.trans m2).fdy, rfl, m3⟩
