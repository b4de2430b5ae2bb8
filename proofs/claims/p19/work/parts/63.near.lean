/-! nearest, lightest: class and reference -/
theorem lpp_two {S T : Type} {f : Int32 × S → Option (S ⊕ (Int32 × S))} {g : Int32 × T → Option (T ⊕ (Int32 × T))} (P : Nat → S → T → Prop) (N : Nat) (h1 : ∀ i s t, i < N → P i s t → ∃ s' t', f (Int32.ofNat i, s) = some (.inr (Int32.ofNat (i + 1), s')) ∧ g (Int32.ofNat i, t) = some (.inr (Int32.ofNat (i + 1), t')) ∧ P (i + 1) s' t') (h2 : ∀ s t, P N s t → f (Int32.ofNat N, s) = some (.inl s) ∧ g (Int32.ofNat N, t) = some (.inl t)) : ∀ (m i : Nat) (s : S) (t : T) (fuel : Nat), i + m = N → m < fuel → P i s t → ∃ s' t', lpp f fuel (Int32.ofNat i, s) = some s' ∧ lpp g fuel (Int32.ofNat i, t) = some t' ∧ P N s' t' := by
  intro m
  induction m with
  | zero =>
    intro i s t fuel hi hf hP
    obtain ⟨fuel, rfl⟩ : ∃ g, fuel = g + 1 := ⟨fuel - 1, by omega⟩
    have e : i = N := by omega
    rw [e] at hP ⊢
    obtain ⟨a, b⟩ := h2 s t hP
    exact ⟨s, t, lpp_l a, lpp_l b, hP⟩
  | succ m ih =>
    intro i s t fuel hi hf hP
    obtain ⟨fuel, rfl⟩ : ∃ g, fuel = g + 1 := ⟨fuel - 1, by omega⟩
    obtain ⟨s', t', e1, e2, e3⟩ := h1 i s t (by omega) hP
    rw [lpp_r e1, lpp_r e2]
    exact ih (i + 1) s' t' fuel (by omega) (by omega) e3
/-- a number of squares is at most 64 -/
theorem many_n (x : Int64) : ∃ n, n ≤ 64 ∧ F_X9_many x = Int32.ofNat n := by
  have e : F_X9_many x = it (fun i y => F_X9_many_10_1 x i y) 64 0 := fr0_it (b := 64) (by decide)
  rw [e]
  refine it_ind (P := fun i s => ∃ n, n ≤ i ∧ s = Int32.ofNat n) ⟨0, Nat.le_refl _, rfl⟩ (fun i s hi hs => ?_)
  obtain ⟨n, h1, h2⟩ := hs
  show ∃ n, n ≤ i + 1 ∧ F_X9_many_10_1 x (Int32.ofNat i) s = Int32.ofNat n
  unfold F_X9_many_10_1
  rw [h2, lsr_1 hi]
  by_cases c : x.toBitVec.getLsbD i = true
  · rw [if_pos c]
    exact ⟨n + 1, by omega, la1 n⟩
  · rw [if_neg c]
    refine ⟨n, by omega, ?_⟩
    show Int32.ofNat n + 0 = _
    exact Int32.add_zero _
theorem pow_t : ∀ h, h < 8 → (1 <<< (Int32.ofNat (h + 1) &&& 31)) - 1 = Int32.ofNat (2 ^ (h + 1) - 1) ∧ ((1 : Int32) <<< (Int32.ofNat (h + 1) &&& 31)) = Int32.ofNat (2 ^ (h + 1)) := by decide +kernel
theorem pow_eq {h : Nat} (h1 : 1 ≤ h) (h2 : h ≤ 8) : (1 <<< (Int32.ofNat h &&& 31)) - 1 = Int32.ofNat (2 ^ h - 1) ∧ ((1 : Int32) <<< (Int32.ofNat h &&& 31)) = Int32.ofNat (2 ^ h) := by
  have := pow_t (h - 1) (by omega)
  rw [show h - 1 + 1 = h by omega] at this
  exact this
/-- the columns for given rows: class and reference -/
theorem cols_two {h w : Nat} (hC : Cl h w) {s t : WI} {r a3 : Int32} {x a1 : Int64} (s1 : s 1 1 = Int32.ofNat h) (s2 : s 1 2 = Int32.ofNat w) (t0 : t 33 0 = Int32.ofNat h) (t1 : t 33 1 = Int32.ofNat w) : ∃ c d : Int32, d.toInt < 65 ∧ p2 (fr0 (fun i y => F_X7_tryRows_18_1 s 1 r x i (p1 y) (p2 y)) (s 1 2) (fu 0 (s 1 2)) 0 (0, 0)) = (c, d) ∧ ∃ e, frp0 (fun i y => F_X9_findNearest_46_2 t a1 a3 x i (p1 y) (p2 y)) (t 33 1) (fu 0 (t 33 1)) 0 (0, 0) = some e ∧ p2 e = (d, c) := by
  obtain ⟨⟨h1, h2⟩, h3, h4⟩ := hC
  have hC : Cl h w := ⟨⟨h1, h2⟩, h3, h4⟩
  rw [s2, t1, fr0_it (by omega)]
  obtain ⟨e, r1, r2, r3, r4⟩ := frp0_nat (g := fun i y => F_X9_findNearest_46_2 t a1 a3 x i (p1 y) (p2 y)) (b := w) (by omega) (fun i z => z = (p2 (it (fun i y => F_X7_tryRows_18_1 s 1 r x i (p1 y) (p2 y)) i (0, 0)), p1 (it (fun i y => F_X7_tryRows_18_1 s 1 r x i (p1 y) (p2 y)) i (0, 0))) ∧ (p2 (it (fun i y => F_X7_tryRows_18_1 s 1 r x i (p1 y) (p2 y)) i (0, 0))).toInt ≤ 8 * (i : Int) ∧ -100 * (i : Int) ≤ (p2 (it (fun i y => F_X7_tryRows_18_1 s 1 r x i (p1 y) (p2 y)) i (0, 0))).toInt) (s := (0, 0)) (fun i z hi hz => by
    obtain ⟨hz, b1, b2⟩ := hz
    show ∃ s', F_X9_findNearest_46_2 t a1 a3 x (Int32.ofNat i) (p1 z) (p2 z) = some s' ∧ s' = (p2 (F_X7_tryRows_18_1 s 1 r x (Int32.ofNat i) (p1 (it (fun i y => F_X7_tryRows_18_1 s 1 r x i (p1 y) (p2 y)) i (0, 0))) (p2 (it (fun i y => F_X7_tryRows_18_1 s 1 r x i (p1 y) (p2 y)) i (0, 0)))), p1 (F_X7_tryRows_18_1 s 1 r x (Int32.ofNat i) (p1 (it (fun i y => F_X7_tryRows_18_1 s 1 r x i (p1 y) (p2 y)) i (0, 0))) (p2 (it (fun i y => F_X7_tryRows_18_1 s 1 r x i (p1 y) (p2 y)) i (0, 0))))) ∧ (p2 (F_X7_tryRows_18_1 s 1 r x (Int32.ofNat i) (p1 (it (fun i y => F_X7_tryRows_18_1 s 1 r x i (p1 y) (p2 y)) i (0, 0))) (p2 (it (fun i y => F_X7_tryRows_18_1 s 1 r x i (p1 y) (p2 y)) i (0, 0))))).toInt ≤ 8 * ((i + 1 : Nat) : Int) ∧ -100 * ((i + 1 : Nat) : Int) ≤ (p2 (F_X7_tryRows_18_1 s 1 r x (Int32.ofNat i) (p1 (it (fun i y => F_X7_tryRows_18_1 s 1 r x i (p1 y) (p2 y)) i (0, 0))) (p2 (it (fun i y => F_X7_tryRows_18_1 s 1 r x i (p1 y) (p2 y)) i (0, 0))))).toInt
    rw [hz]
    generalize it (fun i y => F_X7_tryRows_18_1 s 1 r x i (p1 y) (p2 y)) i (0, 0) = y at b1 b2 ⊢
    have hset : F_X0_squaresOf s 1 1 (Int32.ofNat i) = F_X9_actSet t 1 (Int32.ofNat i) := by
      rw [squaresOf_cq, s1, s2, sq_act hC (.inr (.inl rfl)), actSet_cw t, t0, t1]
    obtain ⟨n, n1, n2⟩ := many_n (x &&& F_X9_actSet t 1 (Int32.ofNat i))
    show ∃ s', F_X9_findNearest_46_2 t a1 a3 x (Int32.ofNat i) (p2 y) (p1 y) = some s' ∧ _
    unfold F_X9_findNearest_46_2 F_X9_findNearest_82_2 F_X9_findNearest_110_2 F_X7_tryRows_18_1 F_X7_tryRows_52_1
    rw [hset, ← many_bits, n2, s1, t0]
    have m2 : (2 : Int32) * Int32.ofNat n = Int32.ofNat (2 * n) := (Int32.ofNat_mul 2 n).symm
    have hN : (Int32.ofNat n).toInt = (n : Int) := on_toInt (by omega)
    have hH : (Int32.ofNat h).toInt = (h : Int) := on_toInt (by omega)
    have hS : (Int32.ofNat h - Int32.ofNat n).toInt = (h : Int) - (n : Int) := by rw [ti_sub (by rw [hH, hN]; omega) (by rw [hH, hN]; omega), hH, hN]
    have hlt : Int32.ofNat h - Int32.ofNat n < Int32.ofNat n ↔ ¬ 2 * n ≤ h := by
      rw [Int32.lt_iff_toInt_lt, hS, hN]
      omega
    rw [m2]
    by_cases q : 2 * n ≤ h
    · have q' : Int32.ofNat (2 * n) ≤ Int32.ofNat h := (ge_on (by omega) (by omega)).mpr q
      rw [if_pos q', if_pos q', if_pos q', if_neg (fun z => hlt.mp z q), Int32.or_zero]
      refine ⟨_, rfl, rfl, ?_, ?_⟩
      · show (p2 y + Int32.ofNat n).toInt ≤ _
        rw [ti_add (by rw [hN]; omega) (by rw [hN]; omega), hN]
        omega
      · show _ ≤ (p2 y + Int32.ofNat n).toInt
        rw [ti_add (by rw [hN]; omega) (by rw [hN]; omega), hN]
        omega
    · have q' : ¬ Int32.ofNat (2 * n) ≤ Int32.ofNat h := fun z => q ((ge_on (by omega) (by omega)).mp z)
      rw [if_neg q', if_neg q', if_neg q', if_pos (hlt.mpr q)]
      refine ⟨_, rfl, rfl, ?_, ?_⟩
      · show (p2 y + (Int32.ofNat h - Int32.ofNat n)).toInt ≤ _
        rw [ti_add (by rw [hS]; omega) (by rw [hS]; omega), hS]
        omega
      · show _ ≤ (p2 y + (Int32.ofNat h - Int32.ofNat n)).toInt
        rw [ti_add (by rw [hS]; omega) (by rw [hS]; omega), hS]
        omega) ⟨rfl, by show (0 : Int32).toInt ≤ _; rw [z0]; omega, by show _ ≤ (0 : Int32).toInt; rw [z0]; omega⟩
  exact ⟨p1 (it (fun i y => F_X7_tryRows_18_1 s 1 r x i (p1 y) (p2 y)) w (0, 0)), p2 (it (fun i y => F_X7_tryRows_18_1 s 1 r x i (p1 y) (p2 y)) w (0, 0)), by omega, rfl, e, r1, r2⟩
/-- where both stand after some rows -/
def Nr (h w : Nat) (I J : WI) (i : Nat) (s t : WI) : Prop := (∀ k j, k ≠ 27 → s k j = I k j) ∧ (t 33 0 = Int32.ofNat h ∧ t 33 1 = Int32.ofNat w) ∧ (i = 0 → bz (s 27 0) = 0 ∧ t 33 33 = 65) ∧ (0 < i → bz (s 27 0) = 1 ∧ s 27 4 = t 33 33 ∧ s 27 1 = t 33 34 ∧ s 27 2 = t 33 35)
theorem near_both {h w : Nat} (hC : Cl h w) {I J : WI} {x : Int64} (i1 : I 1 1 = Int32.ofNat h) (i2 : I 1 2 = Int32.ofNat w) (j1 : J 33 0 = Int32.ofNat h) (j2 : J 33 1 = Int32.ofNat w) : ∃ s t, F_X7_findNearest I 1 x = some s ∧ F_X9_findNearest J x = some t ∧ (∀ k j, k ≠ 27 → s k j = I k j) ∧ s 27 4 = t 33 33 ∧ s 27 1 = t 33 34 ∧ s 27 2 = t 33 35 := by
  obtain ⟨⟨h1, h2⟩, h3, h4⟩ := hC
  have hC : Cl h w := ⟨⟨h1, h2⟩, h3, h4⟩
  have hp : 2 ^ h ≤ 2 ^ 8 := Nat.pow_le_pow_right (by decide) h2
  have hpos : 1 ≤ 2 ^ h := Nat.one_le_two_pow
  have hposw : 1 ≤ 2 ^ w := Nat.one_le_two_pow
  obtain ⟨pe1, pe2⟩ := pow_eq h1 h2
  obtain ⟨s, t, r1, r2, r3⟩ := lpp_two (f := fun z : Int32 × WI => F_X7_findNearest_8_1 (p2 z) 1 x (p1 z)) (g := fun z : Int32 × WI => F_X9_findNearest_8_1 (p2 z) x (p1 z)) (Nr h w I J) (2 ^ h) (fun i s t hi hP => by
    obtain ⟨f1, ⟨t0, t1⟩, f3, f4⟩ := hP
    have s1 : s 1 1 = Int32.ofNat h := (f1 1 1 (by decide)).trans i1
    have s2 : s 1 2 = Int32.ofNat w := (f1 1 2 (by decide)).trans i2
    have htn : F_X0_squaresTurned s 1 (Int32.ofNat i) 0 = F_X9_turnSet t (Int32.ofNat i) 0 := by
      rw [squaresTurned_cq, s1, s2, turnSet_cw t, t0, t1]
      exact turned_eq (c := 0) hC (by omega) (by omega)
    obtain ⟨c, d, d65, e1, e, e2, e3⟩ := cols_two (s := s) (t := t) (r := Int32.ofNat i) (a3 := Int32.ofNat i) (x := x ^^^ F_X9_turnSet t (Int32.ofNat i) 0) (a1 := x) hC s1 s2 t0 t1
    have hf : F_X7_findNearest_8_1 s 1 x (Int32.ofNat i) = some (.inr (Int32.ofNat (i + 1), F_X7_tryRows_75 s 1 (Int32.ofNat i) (x ^^^ F_X9_turnSet t (Int32.ofNat i) 0) c d)) := by
      unfold F_X7_findNearest_8_1 F_X0_everyRow F_X7_tryRows F_X7_tryRows_9
      rw [s1, pe1, if_neg (show ¬ Int32.ofNat (2 ^ h - 1) < Int32.ofNat i from fun z => absurd ((lt_onn (by omega) (by omega)).mp z) (by omega)), la1, htn]
      show some (Sum.inr (Int32.ofNat (i + 1), F_X7_tryRows_75 s 1 (Int32.ofNat i) (x ^^^ F_X9_turnSet t (Int32.ofNat i) 0) (p1 (p2 (fr0 (fun i_1 y => F_X7_tryRows_18_1 s 1 (Int32.ofNat i) (x ^^^ F_X9_turnSet t (Int32.ofNat i) 0) i_1 (p1 y) (p2 y)) (s 1 2) (fu 0 (s 1 2)) 0 (0, 0)))) (p2 (p2 (fr0 (fun i_1 y => F_X7_tryRows_18_1 s 1 (Int32.ofNat i) (x ^^^ F_X9_turnSet t (Int32.ofNat i) 0) i_1 (p1 y) (p2 y)) (s 1 2) (fu 0 (s 1 2)) 0 (0, 0)))))) = _
      rw [e1]
      rfl
    have hg : F_X9_findNearest_8_1 t x (Int32.ofNat i) = F_X9_findNearest_119_1 t x (Int32.ofNat i) d c := by
      unfold F_X9_findNearest_8_1 F_X9_findNearest_37_1
      rw [t0, pe2, if_neg (show ¬ Int32.ofNat (2 ^ h) ≤ Int32.ofNat i from fun z => absurd ((ge_on (by omega) (by omega)).mp z) (by omega)), e2, ob_some, e3]
      rfl
    show ∃ s' t', F_X7_findNearest_8_1 s 1 x (Int32.ofNat i) = some (.inr (Int32.ofNat (i + 1), s')) ∧ F_X9_findNearest_8_1 t x (Int32.ofNat i) = some (.inr (Int32.ofNat (i + 1), t')) ∧ _
    rw [hf, hg]
    unfold F_X9_findNearest_119_1 F_X9_findNearest_145_1 F_X7_tryRows_75 F_X7_tryRows_91 F_X7_tryRows_110 F_X7_take
    rw [la1]
    have htake : ∀ k j, k ≠ 27 → (u2 (u2 (u2 (u2 (u2 s 27 0 1) 27 1 (Int32.ofNat i)) 27 2 c) 27 3 0) 27 4 d) k j = I k j := fun k j hk => by
      rw [u2_nc (by omega), u2_nc (by omega), u2_nc (by omega), u2_nc (by omega), u2_nc (by omega)]
      exact f1 k j hk
    have hnew : Nr h w I J (i + 1) (u2 (u2 (u2 (u2 (u2 s 27 0 1) 27 1 (Int32.ofNat i)) 27 2 c) 27 3 0) 27 4 d) (u2 (u2 (u2 t 33 33 d) 33 34 (Int32.ofNat i)) 33 35 c) := by
      refine ⟨htake, ⟨?_, ?_⟩, fun z => absurd z (by omega), fun _ => ⟨?_, ?_, ?_, ?_⟩⟩
      · rw [u2_nc (by omega), u2_nc (by omega), u2_nc (by omega), t0]
      · rw [u2_nc (by omega), u2_nc (by omega), u2_nc (by omega), t1]
      · rw [u2_nc (by omega), u2_nc (by omega), u2_nc (by omega), u2_nc (by omega), u2_at]
        decide
      · rw [u2_at, u2_nc (by omega), u2_nc (by omega), u2_at]
      · rw [u2_nc (by omega), u2_nc (by omega), u2_nc (by omega), u2_at, u2_nc (by omega), u2_at]
      · rw [u2_nc (by omega), u2_nc (by omega), u2_at, u2_at]
    by_cases c0 : i = 0
    · obtain ⟨g1, g2⟩ := f3 c0
      have hd : ¬ (65 : Int32) ≤ d := fun z => by
        rw [Int32.le_iff_toInt_le, show (65 : Int32).toInt = 65 by decide] at z
        omega
      rw [if_pos g1, g2, if_neg hd]
      exact ⟨_, _, rfl, rfl, hnew⟩
    · obtain ⟨g1, g2, g3, g4⟩ := f4 (by omega)
      rw [if_neg (show ¬ bz (s 27 0) = 0 from fun z => by rw [g1] at z; exact absurd z (by decide)), g2]
      by_cases q : t 33 33 ≤ d
      · rw [if_pos q, if_pos q]
        exact ⟨s, t, rfl, rfl, f1, ⟨t0, t1⟩, fun z => absurd z (by omega), fun _ => ⟨g1, g2, g3, g4⟩⟩
      · rw [if_neg q, if_neg q]
        exact ⟨_, _, rfl, rfl, hnew⟩) (fun s t hP => by
    obtain ⟨f1, ⟨t0, t1⟩, f3, f4⟩ := hP
    have s1 : s 1 1 = Int32.ofNat h := (f1 1 1 (by decide)).trans i1
    refine ⟨?_, ?_⟩
    · show F_X7_findNearest_8_1 s 1 x (Int32.ofNat (2 ^ h)) = _
      unfold F_X7_findNearest_8_1 F_X0_everyRow
      rw [s1, pe1, if_pos (show Int32.ofNat (2 ^ h - 1) < Int32.ofNat (2 ^ h) from (lt_onn (by omega) (by omega)).mpr (by omega))]
    · show F_X9_findNearest_8_1 t x (Int32.ofNat (2 ^ h)) = _
      unfold F_X9_findNearest_8_1
      rw [t0, pe2, if_pos (show Int32.ofNat (2 ^ h) ≤ Int32.ofNat (2 ^ h) from (ge_on (by omega) (by omega)).mpr (Nat.le_refl _))]) (2 ^ h) 0 (u2 I 27 0 0) (u2 J 33 33 65) 4294967296 (by omega) (by omega) ⟨fun k j hk => u2_nc (by omega), ⟨by rw [u2_nc (by omega), j1], by rw [u2_nc (by omega), j2]⟩, fun _ => ⟨by rw [u2_at]; decide, u2_at⟩, fun z => absurd z (Nat.not_lt_zero _)⟩
  obtain ⟨q1, q2, q3, q4⟩ := r3
  obtain ⟨g1, g2, g3, g4⟩ := q4 (by omega)
  refine ⟨s, t, ?_, ?_, q1, g2, g3, g4⟩
  · unfold F_X7_findNearest F_X7_findNearest_8 F_X7_findNearest_39
    show (lpp (fun z : Int32 × WI => F_X7_findNearest_8_1 (p2 z) 1 x (p1 z)) 4294967296 (Int32.ofNat 0, u2 I 27 0 0)).bind _ = _
    rw [r1, ob_some]
  · unfold F_X9_findNearest F_X9_findNearest_8 F_X9_findNearest_151
    show (lpp (fun z : Int32 × WI => F_X9_findNearest_8_1 (p2 z) x (p1 z)) 4294967296 (Int32.ofNat 0, u2 J 33 33 65)).bind _ = _
    rw [r2, ob_some]
theorem near_told {s t : WI} {k : Nat} (hk : k ≤ 2) (g2 : s 27 4 = t 33 33) (g3 : s 27 1 = t 33 34) (g4 : s 27 2 = t 33 35) : F_X8_toldOf s (Int32.ofNat k) (s 27 4) = F_X9_nearTold t (Int32.ofNat k) := by
  unfold F_X8_toldOf F_X9_nearTold F_X9_nearTold_27
  rcases (show k = 0 ∨ k = 1 ∨ k = 2 by omega) with rfl | rfl | rfl
  · rw [if_pos (by decide), if_pos (by decide), g2]
  · rw [if_neg (by decide), if_pos (by decide), if_neg (by decide), if_pos (by decide), g3]
  · rw [if_neg (by decide), if_neg (by decide), if_pos (by decide), if_neg (by decide), if_neg (by decide), g4]
theorem E_17 {I : WI} {L : WL} {a1 : Int32} (H : Inv I L) : ∃ v, (F_X8_nearest I L a1) = some v ∧ ∃ w, (F_X9_nearest (p2 v) L a1) = some w ∧ (p1 v) = (p1 w) ∧ Inv (p2 w) L := by
  obtain ⟨v, e, w', e', g⟩ := N_17 (a1 := a1) H
  refine ⟨v, e, w', e', ?_, g⟩
  obtain ⟨⟨h, w, ⟨hC, i11, i12, i330, i331, l332, hIns, i10⟩, ⟨h2, w2, hC2, j1, j2, j3⟩, j4, j5⟩, -⟩ := H
  unfold F_X8_nearest F_X8_nearest_9 at e
  unfold F_X9_nearest at e'
  rcases in0 (a := a1) 2 (by decide) with ⟨q1, q2⟩ | ⟨q1, q2, q3, k, hk, rfl⟩
  · rw [if_pos (show F_X9_in (Int32.toInt64 a1) 0 2 = 0 from q1)] at e'
    rw [← Option.some.inj e']
    by_cases q : a1 < 0
    · rw [if_pos q] at e
      rw [← Option.some.inj e]
      rfl
    · rw [if_neg q, if_neg (show ¬ a1 ≤ 2 from q2.resolve_left q)] at e
      rw [← Option.some.inj e]
      rfl
  · rw [if_neg q2, if_pos (show Int32.ofNat k ≤ 2 from q3)] at e
    rw [if_neg (show ¬ F_X9_in (Int32.toInt64 (Int32.ofNat k)) 0 2 = 0 from fun z => by rw [show F_X9_in (Int32.toInt64 (Int32.ofNat k)) 0 2 = 1 from q1] at z; exact absurd z (by decide))] at e'
    rcases bz01 (I 2 0) with z | z
    · rw [if_pos z] at e
      have ev := Option.some.inj e
      rw [← ev] at e'
      have e2 : (if bz (I 33 4) = 0 then some (-2, I) else Option.bind (F_X9_findNearest I (L 33 2 ^^^ L 33 3)) (fun v3 => some (F_X9_nearTold v3 (Int32.ofNat k), v3))) = some w' := e'
      rw [j4, if_pos z] at e2
      rw [← Option.some.inj e2, ← ev]
    · have z' : ¬ bz (I 2 0) = 0 := fun q => by rw [z] at q; exact absurd q (by decide)
      obtain ⟨rfl, rfl⟩ := j3 z
      obtain ⟨l333, hI2⟩ := j5 z
      rw [if_neg z'] at e
      obtain ⟨s, t0, r1, -, hf, -⟩ := near_both (J := I) (x := L 1 3 ^^^ L 2 3) hC i11 i12 i330 i331
      rw [r1, ob_some] at e
      have ev := Option.some.inj e
      rw [← ev] at e' ⊢
      have e2 : (if bz (s 33 4) = 0 then some (-2, s) else Option.bind (F_X9_findNearest s (L 33 2 ^^^ L 33 3)) (fun v3 => some (F_X9_nearTold v3 (Int32.ofNat k), v3))) = some w' := e'
      obtain ⟨s', t, r1', r2, -, g2, g3, g4⟩ := near_both (J := s) (x := L 1 3 ^^^ L 2 3) hC i11 i12 ((hf 33 0 (by decide)).trans i330) ((hf 33 1 (by decide)).trans i331)
      rw [r1] at r1'
      have es := Option.some.inj r1'
      rw [← es] at g2 g3 g4
      rw [hf 33 4 (by decide), j4, if_neg z', l332, l333, r2, ob_some] at e2
      rw [← Option.some.inj e2]
      exact near_told hk g2 g3 g4
theorem E_18 {I : WI} {L : WL} {a1 : Int32} (H : Inv I L) : ∃ v, (F_X8_lightest I L a1) = some v ∧ ∃ w, (F_X9_lightest (p2 v) L a1) = some w ∧ (p1 v) = (p1 w) ∧ Inv (p2 w) L := by
  obtain ⟨v, e, w', e', g⟩ := N_18 (a1 := a1) H
  refine ⟨v, e, w', e', ?_, g⟩
  obtain ⟨⟨h, w, ⟨hC, i11, i12, i330, i331, l332, hIns, i10⟩, -⟩, -⟩ := H
  unfold F_X8_lightest F_X8_lightest_9 at e
  unfold F_X9_lightest at e'
  rcases in0 (a := a1) 2 (by decide) with ⟨q1, q2⟩ | ⟨q1, q2, q3, k, hk, rfl⟩
  · rw [if_pos (show F_X9_in (Int32.toInt64 a1) 0 2 = 0 from q1)] at e'
    rw [← Option.some.inj e']
    by_cases q : a1 < 0
    · rw [if_pos q] at e
      rw [← Option.some.inj e]
      rfl
    · rw [if_neg q, if_neg (show ¬ a1 ≤ 2 from q2.resolve_left q)] at e
      rw [← Option.some.inj e]
      rfl
  · rw [if_neg q2, if_pos (show Int32.ofNat k ≤ 2 from q3)] at e
    rw [if_neg (show ¬ F_X9_in (Int32.toInt64 (Int32.ofNat k)) 0 2 = 0 from fun z => by rw [show F_X9_in (Int32.toInt64 (Int32.ofNat k)) 0 2 = 1 from q1] at z; exact absurd z (by decide))] at e'
    obtain ⟨s, t0, r1, -, hf, -⟩ := near_both (J := I) (x := L 1 3) hC i11 i12 i330 i331
    rw [r1, ob_some] at e
    have ev := Option.some.inj e
    rw [← ev] at e' ⊢
    have e2 : Option.bind (F_X9_findNearest s (L 33 2)) (fun v3 => some (F_X9_nearTold v3 (Int32.ofNat k), v3)) = some w' := e'
    obtain ⟨s', t, r1', r2, -, g2, g3, g4⟩ := near_both (J := s) (x := L 1 3) hC i11 i12 ((hf 33 0 (by decide)).trans i330) ((hf 33 1 (by decide)).trans i331)
    rw [r1] at r1'
    have es := Option.some.inj r1'
    rw [← es] at g2 g3 g4
    rw [l332, r2, ob_some] at e2
    rw [← Option.some.inj e2]
    exact near_told hk g2 g3 g4
theorem ofn4 {n : Nat} (hn : n ≤ 64) : Int32.ofNat n ≠ -4 := fun z => by
  have := congrArg Int32.toInt z
  rw [on_toInt (by omega), show (-4 : Int32).toInt = -4 by decide] at this
  omega
