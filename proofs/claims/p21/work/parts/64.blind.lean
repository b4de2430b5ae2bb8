/-! blind: class and reference -/
/-- how many squares a line has -/
theorem len_t : ∀ h, h < 8 → ∀ w, w < 8 → ∀ i, i < 8 → (i < h + 1 → F_X9_many (F_X9_actSet (cw (Int32.ofNat (h + 1)) (Int32.ofNat (w + 1))) 0 (Int32.ofNat i)) = Int32.ofNat (w + 1)) ∧ (i < w + 1 → F_X9_many (F_X9_actSet (cw (Int32.ofNat (h + 1)) (Int32.ofNat (w + 1))) 1 (Int32.ofNat i)) = Int32.ofNat (h + 1)) := by decide +kernel
theorem half_t : ∀ n, n < 9 → Int32.ofNat n / 2 = Int32.ofNat (n / 2) := by decide +kernel
/-- the class's worst line against the reference's: kind k, n lines of m squares -/
theorem most_both {h w k n m : Nat} (hC : Cl h w) {s t : WI} {x : Int64} (s1 : s 1 1 = Int32.ofNat h) (s2 : s 1 2 = Int32.ofNat w) (t0 : t 33 0 = Int32.ofNat h) (t1 : t 33 1 = Int32.ofNat w) (hk : (k = 0 ∧ n = h ∧ m = w) ∨ (k = 1 ∧ n = w ∧ m = h)) : ∃ a b, F_X7_mostUnlike s 1 (Int32.ofNat k) x = a ∧ F_X9_mostOf t x (Int32.ofNat k) = some b ∧ ((a = -1 ∧ b = -4) ∨ ∃ i, i < n ∧ a = Int32.ofNat i ∧ b = Int32.ofNat i) := by
  obtain ⟨⟨h1, h2⟩, h3, h4⟩ := hC
  have hC : Cl h w := ⟨⟨h1, h2⟩, h3, h4⟩
  have hn : 1 ≤ n ∧ n ≤ 8 ∧ 1 ≤ m ∧ m ≤ 8 := by rcases hk with ⟨-, rfl, rfl⟩ | ⟨-, rfl, rfl⟩ <;> omega
  have hlen : ∀ i, i < n → F_X9_many (F_X9_actSet t (Int32.ofNat k) (Int32.ofNat i)) = Int32.ofNat m := fun i hi => by
    have q := len_t (h - 1) (by omega) (w - 1) (by omega) i (by omega)
    rw [show h - 1 + 1 = h by omega, show w - 1 + 1 = w by omega] at q
    rw [actSet_cw t, t0, t1]
    rcases hk with ⟨rfl, rfl, rfl⟩ | ⟨rfl, rfl, rfl⟩
    · exact q.1 hi
    · exact q.2 hi
  have hset : ∀ i, F_X0_squaresOf s 1 (Int32.ofNat k) (Int32.ofNat i) = F_X9_actSet t (Int32.ofNat k) (Int32.ofNat i) := fun i => by
    have hk3 : Int32.ofNat k = 0 ∨ Int32.ofNat k = 1 ∨ Int32.ofNat k = 2 := by
      rcases hk with ⟨rfl, -⟩ | ⟨rfl, -⟩
      · exact .inl rfl
      · exact .inr (.inl rfl)
    rw [squaresOf_cq, s1, s2, sq_act hC hk3, actSet_cw t, t0, t1]
  have hlines : F_X0_linesOf s 1 (Int32.ofNat k) = Int32.ofNat n := by
    unfold F_X0_linesOf
    rcases hk with ⟨rfl, rfl, rfl⟩ | ⟨rfl, rfl, rfl⟩
    · rw [if_pos (by decide), s1]
    · rw [if_neg (by decide), if_pos (by decide), s2]
  have eA : F_X7_mostUnlike s 1 (Int32.ofNat k) x = p1 (it (fun i y => F_X7_mostUnlike_19_1 s 1 (Int32.ofNat k) x i (p1 y) (p2 y)) n (-1, 0)) := by
    unfold F_X7_mostUnlike F_X7_mostUnlike_9 F_X7_mostUnlike_70
    show p1 (p2 (fr0 (fun i y => F_X7_mostUnlike_19_1 s 1 (Int32.ofNat k) x i (p1 y) (p2 y)) (F_X0_linesOf s 1 (Int32.ofNat k)) (fu 0 (F_X0_linesOf s 1 (Int32.ofNat k))) 0 (-1, 0))) = _
    rw [hlines, fr0_it (by omega)]
  have eB : F_X9_mostOf t x (Int32.ofNat k) = F_X9_mostOf_26 t x (Int32.ofNat k) (-4) (Int32.ofNat (m / 2)) 0 := by
    unfold F_X9_mostOf F_X9_mostOf_19
    rcases hk with ⟨rfl, rfl, rfl⟩ | ⟨rfl, rfl, rfl⟩
    · rw [if_pos (by decide), t1, half_t m (by omega)]
    · rw [if_neg (by decide), t0, half_t m (by omega)]
  have key : ∀ u i (b b5 : Int32) fuel, i + u = n → u < fuel → ((p1 (it (fun i y => F_X7_mostUnlike_19_1 s 1 (Int32.ofNat k) x i (p1 y) (p2 y)) i (-1, 0)) = -1 ∧ p2 (it (fun i y => F_X7_mostUnlike_19_1 s 1 (Int32.ofNat k) x i (p1 y) (p2 y)) i (-1, 0)) = 0 ∧ b = -4 ∧ b5 = Int32.ofNat (m / 2)) ∨ ∃ j v, j < n ∧ v ≤ 64 ∧ m / 2 < v ∧ p1 (it (fun i y => F_X7_mostUnlike_19_1 s 1 (Int32.ofNat k) x i (p1 y) (p2 y)) i (-1, 0)) = Int32.ofNat j ∧ p2 (it (fun i y => F_X7_mostUnlike_19_1 s 1 (Int32.ofNat k) x i (p1 y) (p2 y)) i (-1, 0)) = Int32.ofNat v ∧ b = Int32.ofNat j ∧ b5 = Int32.ofNat v) → ∃ b', lpp (fun y => F_X9_mostOf_26_1 t x (Int32.ofNat k) (p1 y) (p1 (p2 y)) (p2 (p2 y))) fuel (b, b5, Int32.ofNat i) = some b' ∧ ((p1 (it (fun i y => F_X7_mostUnlike_19_1 s 1 (Int32.ofNat k) x i (p1 y) (p2 y)) n (-1, 0)) = -1 ∧ b' = -4) ∨ ∃ j, j < n ∧ p1 (it (fun i y => F_X7_mostUnlike_19_1 s 1 (Int32.ofNat k) x i (p1 y) (p2 y)) n (-1, 0)) = Int32.ofNat j ∧ b' = Int32.ofNat j) := by
    intro u
    induction u with
    | zero =>
      intro i b b5 fuel hi hf hP
      obtain ⟨fuel, rfl⟩ : ∃ g, fuel = g + 1 := ⟨fuel - 1, by omega⟩
      have ei : i = n := by omega
      rw [ei] at hP ⊢
      refine ⟨b, lpp_l (f := fun y : Int32 × Int32 × Int32 => F_X9_mostOf_26_1 t x (Int32.ofNat k) (p1 y) (p1 (p2 y)) (p2 (p2 y))) (s := (b, b5, Int32.ofNat n)) ?_, ?_⟩
      · show F_X9_mostOf_26_1 t x (Int32.ofNat k) b b5 (Int32.ofNat n) = _
        unfold F_X9_mostOf_26_1 F_X9_mostOf_43_1
        have hle : Int32.ofNat n ≤ Int32.ofNat n := (ge_on (by omega) (by omega)).mpr (Nat.le_refl _)
        rcases hk with ⟨rfl, rfl, rfl⟩ | ⟨rfl, rfl, rfl⟩
        · rw [if_pos (show Int32.ofNat 0 = 0 from rfl), t0, if_pos hle]
        · rw [if_neg (show ¬ Int32.ofNat 1 = 0 by decide), t1, if_pos hle]
      · rcases hP with ⟨a1, -, a3, -⟩ | ⟨j, v, j1, -, -, a1, -, a3, -⟩
        · exact .inl ⟨a1, a3⟩
        · exact .inr ⟨j, j1, a1, a3⟩
    | succ u ih =>
      intro i b b5 fuel hi hf hP
      obtain ⟨fuel, rfl⟩ : ∃ g, fuel = g + 1 := ⟨fuel - 1, by omega⟩
      have hin : i < n := by omega
      have ht : ∃ b' b5', F_X9_mostOf_26_1 t x (Int32.ofNat k) b b5 (Int32.ofNat i) = some (.inr (b', b5', Int32.ofNat (i + 1))) ∧ ((p1 (it (fun i y => F_X7_mostUnlike_19_1 s 1 (Int32.ofNat k) x i (p1 y) (p2 y)) (i + 1) (-1, 0)) = -1 ∧ p2 (it (fun i y => F_X7_mostUnlike_19_1 s 1 (Int32.ofNat k) x i (p1 y) (p2 y)) (i + 1) (-1, 0)) = 0 ∧ b' = -4 ∧ b5' = Int32.ofNat (m / 2)) ∨ ∃ j v, j < n ∧ v ≤ 64 ∧ m / 2 < v ∧ p1 (it (fun i y => F_X7_mostUnlike_19_1 s 1 (Int32.ofNat k) x i (p1 y) (p2 y)) (i + 1) (-1, 0)) = Int32.ofNat j ∧ p2 (it (fun i y => F_X7_mostUnlike_19_1 s 1 (Int32.ofNat k) x i (p1 y) (p2 y)) (i + 1) (-1, 0)) = Int32.ofNat v ∧ b' = Int32.ofNat j ∧ b5' = Int32.ofNat v) := by
        show ∃ b' b5', _ ∧ ((p1 (F_X7_mostUnlike_19_1 s 1 (Int32.ofNat k) x (Int32.ofNat i) (p1 (it (fun i y => F_X7_mostUnlike_19_1 s 1 (Int32.ofNat k) x i (p1 y) (p2 y)) i (-1, 0))) (p2 (it (fun i y => F_X7_mostUnlike_19_1 s 1 (Int32.ofNat k) x i (p1 y) (p2 y)) i (-1, 0)))) = -1 ∧ p2 (F_X7_mostUnlike_19_1 s 1 (Int32.ofNat k) x (Int32.ofNat i) (p1 (it (fun i y => F_X7_mostUnlike_19_1 s 1 (Int32.ofNat k) x i (p1 y) (p2 y)) i (-1, 0))) (p2 (it (fun i y => F_X7_mostUnlike_19_1 s 1 (Int32.ofNat k) x i (p1 y) (p2 y)) i (-1, 0)))) = 0 ∧ b' = -4 ∧ b5' = Int32.ofNat (m / 2)) ∨ ∃ j v, j < n ∧ v ≤ 64 ∧ m / 2 < v ∧ p1 (F_X7_mostUnlike_19_1 s 1 (Int32.ofNat k) x (Int32.ofNat i) (p1 (it (fun i y => F_X7_mostUnlike_19_1 s 1 (Int32.ofNat k) x i (p1 y) (p2 y)) i (-1, 0))) (p2 (it (fun i y => F_X7_mostUnlike_19_1 s 1 (Int32.ofNat k) x i (p1 y) (p2 y)) i (-1, 0)))) = Int32.ofNat j ∧ p2 (F_X7_mostUnlike_19_1 s 1 (Int32.ofNat k) x (Int32.ofNat i) (p1 (it (fun i y => F_X7_mostUnlike_19_1 s 1 (Int32.ofNat k) x i (p1 y) (p2 y)) i (-1, 0))) (p2 (it (fun i y => F_X7_mostUnlike_19_1 s 1 (Int32.ofNat k) x i (p1 y) (p2 y)) i (-1, 0)))) = Int32.ofNat v ∧ b' = Int32.ofNat j ∧ b5' = Int32.ofNat v)
        generalize it (fun i y => F_X7_mostUnlike_19_1 s 1 (Int32.ofNat k) x i (p1 y) (p2 y)) i (-1, 0) = y at hP ⊢
        obtain ⟨c, c1, c2⟩ := many_n (x &&& F_X9_actSet t (Int32.ofNat k) (Int32.ofNat i))
        have h43 : F_X9_mostOf_26_1 t x (Int32.ofNat k) b b5 (Int32.ofNat i) = if Int32.ofNat c ≤ b5 then some (.inr (b, b5, Int32.ofNat (i + 1))) else some (.inr (Int32.ofNat i, Int32.ofNat c, Int32.ofNat (i + 1))) := by
          have hle : ¬ Int32.ofNat n ≤ Int32.ofNat i := fun z => absurd ((ge_on (by omega) (by omega)).mp z) (by omega)
          have h0 : F_X9_mostOf_26_1 t x (Int32.ofNat k) b b5 (Int32.ofNat i) = F_X9_mostOf_43_1 t x (Int32.ofNat k) b b5 (Int32.ofNat i) (Int32.ofNat n) (Int32.ofNat i) := by
            unfold F_X9_mostOf_26_1
            rcases hk with ⟨rfl, rfl, rfl⟩ | ⟨rfl, rfl, rfl⟩
            · rw [if_pos (show Int32.ofNat 0 = 0 from rfl), t0]
            · rw [if_neg (show ¬ Int32.ofNat 1 = 0 by decide), t1]
          rw [h0]
          unfold F_X9_mostOf_43_1 F_X9_mostOf_74_1 F_X9_mostOf_90_1
          rw [if_neg hle, c2, la1]
          by_cases q : Int32.ofNat c ≤ b5
          · rw [if_pos q, if_pos q, if_pos q]
          · rw [if_neg q, if_neg q, if_neg q]
        have h19 : F_X7_mostUnlike_19_1 s 1 (Int32.ofNat k) x (Int32.ofNat i) (p1 y) (p2 y) = if 2 * c ≤ m then (p1 y, p2 y) else if Int32.ofNat c ≤ p2 y then (p1 y, p2 y) else (Int32.ofNat i, Int32.ofNat c) := by
          unfold F_X7_mostUnlike_19_1 F_X7_mostUnlike_64_1
          rw [hset, ← many_bits, ← many_bits, c2, hlen i hin, show (2 : Int32) * Int32.ofNat c = Int32.ofNat (2 * c) from (Int32.ofNat_mul 2 c).symm]
          by_cases q : 2 * c ≤ m
          · rw [if_pos (show Int32.ofNat (2 * c) ≤ Int32.ofNat m from (ge_on (by omega) (by omega)).mpr q), if_pos q]
          · rw [if_neg (show ¬ Int32.ofNat (2 * c) ≤ Int32.ofNat m from fun z => q ((ge_on (by omega) (by omega)).mp z)), if_neg q]
        rw [h43, h19]
        rcases hP with ⟨a1, a2, a3, a4⟩ | ⟨j, v, j1, v1, v2, a1, a2, a3, a4⟩
        · rw [a4]
          by_cases q : 2 * c ≤ m
          · rw [if_pos (show Int32.ofNat c ≤ Int32.ofNat (m / 2) from (ge_on (by omega) (by omega)).mpr (by omega)), if_pos q]
            exact ⟨_, _, rfl, .inl ⟨a1, a2, a3, rfl⟩⟩
          · rw [if_neg (show ¬ Int32.ofNat c ≤ Int32.ofNat (m / 2) from fun z => absurd ((ge_on (by omega) (by omega)).mp z) (by omega)), if_neg q, a2, if_neg (show ¬ Int32.ofNat c ≤ 0 from fun z => absurd ((ge_on (b := 0) (by omega) (by decide)).mp z) (by omega))]
            exact ⟨_, _, rfl, .inr ⟨i, c, hin, c1, by omega, rfl, rfl, rfl, rfl⟩⟩
        · rw [a4]
          by_cases q : c ≤ v
          · have q' : Int32.ofNat c ≤ Int32.ofNat v := (ge_on (by omega) (by omega)).mpr q
            rw [if_pos q', a2, if_pos q']
            refine ⟨_, _, rfl, .inr ⟨j, v, j1, v1, v2, ?_, ?_, a3, rfl⟩⟩
            · split <;> exact a1
            · split <;> rfl
          · have q' : ¬ Int32.ofNat c ≤ Int32.ofNat v := fun z => q ((ge_on (by omega) (by omega)).mp z)
            rw [if_neg q', a2, if_neg q', if_neg (show ¬ 2 * c ≤ m by omega)]
            exact ⟨_, _, rfl, .inr ⟨i, c, hin, c1, by omega, rfl, rfl, rfl, rfl⟩⟩
      obtain ⟨b', b5', e1, e2⟩ := ht
      rw [lpp_r (f := fun y : Int32 × Int32 × Int32 => F_X9_mostOf_26_1 t x (Int32.ofNat k) (p1 y) (p1 (p2 y)) (p2 (p2 y))) (s := (b, b5, Int32.ofNat i)) e1]
      exact ih (i + 1) b' b5' fuel (by omega) (by omega) e2
  obtain ⟨b', r1, r2⟩ := key n 0 (-4) (Int32.ofNat (m / 2)) 4294967296 (by omega) (by omega) (.inl ⟨rfl, rfl, rfl, rfl⟩)
  refine ⟨_, b', eA, ?_, r2⟩
  rw [eB]
  unfold F_X9_mostOf_26 F_X9_mostOf_98
  show (lpp (fun y => F_X9_mostOf_26_1 t x (Int32.ofNat k) (p1 y) (p1 (p2 y)) (p2 (p2 y))) 4294967296 (-4, Int32.ofNat (m / 2), Int32.ofNat 0)).bind _ = _
  rw [r1, ob_some]
/-- the set of the line that is turned, if one is -/
theorem mset_both {h w k n : Nat} (hC : Cl h w) {s t : WI} {a b : Int32} (s1 : s 1 1 = Int32.ofNat h) (s2 : s 1 2 = Int32.ofNat w) (t0 : t 33 0 = Int32.ofNat h) (t1 : t 33 1 = Int32.ofNat w) (hk : k = 0 ∨ k = 1) (hn : n ≤ 8) (hab : (a = -1 ∧ b = -4) ∨ ∃ i, i < n ∧ a = Int32.ofNat i ∧ b = Int32.ofNat i) : F_X0_squaresOf s 1 (Int32.ofNat k) a = if b = -4 then 0 else F_X9_actSet t (Int32.ofNat k) b := by
  rcases hab with ⟨rfl, rfl⟩ | ⟨i, hi, rfl, rfl⟩
  · rw [if_pos rfl]
    unfold F_X0_squaresOf F_X0_hasLine F_X0_hasLine_17 F_X0_hasLine_18
    rw [if_pos (show (-1 : Int32) < 0 by decide), if_pos rfl]
  · have hk3 : Int32.ofNat k = 0 ∨ Int32.ofNat k = 1 ∨ Int32.ofNat k = 2 := by
      rcases hk with rfl | rfl
      · exact .inl rfl
      · exact .inr (.inl rfl)
    rw [if_neg (show ¬ Int32.ofNat i = -4 from fun z => by
      have := congrArg Int32.toInt z
      rw [on_toInt (by omega), show (-4 : Int32).toInt = -4 by decide] at this
      omega), squaresOf_cq, s1, s2, sq_act hC hk3, actSet_cw t, t0, t1]
theorem blind_lp {h w : Nat} (hC : Cl h w) {I J : WI} {L : WL} {a : Int32} {x0 : Int64} (i1 : I 1 1 = Int32.ofNat h) (i2 : I 1 2 = Int32.ofNat w) (j1 : J 33 0 = Int32.ofNat h) (j2 : J 33 1 = Int32.ofNat w) : ∀ (u n : Nat) (x : Int64) (s : WI) (f1 f2 : Nat), n + u = 60 → u < f1 → u < f2 → (∀ k j, k ≠ 27 → s k j = I k j) → s 27 5 = Int32.ofNat n → ∃ (y : Int64) (n' : Nat) (s' : WI), lpp (fun z : Int64 × WI => F_X7_goBlind_8_1 (p2 z) 1 x0 (p1 z)) f1 (x, s) = some (y, s') ∧ lpp (fun z : Int64 × Int32 => F_X9_blind_35_1 J L a (p1 z) (p2 z)) f2 (x, Int32.ofNat n) = some (y, Int32.ofNat n') ∧ s' 27 5 = Int32.ofNat n' ∧ ∀ k j, k ≠ 27 → s' k j = I k j := by
  intro u
  induction u with
  | zero =>
    intro n x s f1 f2 hn hf1 hf2 hfr h5
    obtain ⟨f1, rfl⟩ : ∃ g, f1 = g + 1 := ⟨f1 - 1, by omega⟩
    obtain ⟨f2, rfl⟩ : ∃ g, f2 = g + 1 := ⟨f2 - 1, by omega⟩
    have h60 : (60 : Int32) ≤ Int32.ofNat n := (ge_on (a := 60) (by decide) (by omega)).mpr (by omega)
    refine ⟨x, n, s, lpp_l (f := fun z : Int64 × WI => F_X7_goBlind_8_1 (p2 z) 1 x0 (p1 z)) (s := (x, s)) ?_, lpp_l (f := fun z : Int64 × Int32 => F_X9_blind_35_1 J L a (p1 z) (p2 z)) (s := (x, Int32.ofNat n)) ?_, h5, hfr⟩
    · show F_X7_goBlind_8_1 s 1 x0 x = _
      unfold F_X7_goBlind_8_1
      rw [h5, if_pos h60]
      split <;> rfl
    · show F_X9_blind_35_1 J L a x (Int32.ofNat n) = _
      unfold F_X9_blind_35_1
      rw [if_pos h60]
  | succ u ih =>
    intro n x s f1 f2 hn hf1 hf2 hfr h5
    obtain ⟨f1, rfl⟩ : ∃ g, f1 = g + 1 := ⟨f1 - 1, by omega⟩
    obtain ⟨f2, rfl⟩ : ∃ g, f2 = g + 1 := ⟨f2 - 1, by omega⟩
    have h60 : ¬ (60 : Int32) ≤ Int32.ofNat n := fun z => absurd ((ge_on (a := 60) (by decide) (by omega)).mp z) (by omega)
    by_cases q : lg_cmp x 0 = 0
    · refine ⟨x, n, s, lpp_l (f := fun z : Int64 × WI => F_X7_goBlind_8_1 (p2 z) 1 x0 (p1 z)) (s := (x, s)) ?_, lpp_l (f := fun z : Int64 × Int32 => F_X9_blind_35_1 J L a (p1 z) (p2 z)) (s := (x, Int32.ofNat n)) ?_, h5, hfr⟩
      · show F_X7_goBlind_8_1 s 1 x0 x = _
        unfold F_X7_goBlind_8_1
        rw [if_pos q]
      · show F_X9_blind_35_1 J L a x (Int32.ofNat n) = _
        unfold F_X9_blind_35_1
        rw [if_neg h60, if_pos q]
    · have s1 : s 1 1 = Int32.ofNat h := (hfr 1 1 (by decide)).trans i1
      have s2 : s 1 2 = Int32.ofNat w := (hfr 1 2 (by decide)).trans i2
      obtain ⟨a0, b0, m1, m2, m3⟩ := most_both (k := 0) (n := h) (m := w) (x := x) hC s1 s2 j1 j2 (.inl ⟨rfl, rfl, rfl⟩)
      obtain ⟨a1, b1, m4, m5, m6⟩ := most_both (k := 1) (n := w) (m := h) (x := x) hC s1 s2 j1 j2 (.inr ⟨rfl, rfl, rfl⟩)
      have hA : F_X0_squaresOf s 1 0 (F_X7_mostUnlike s 1 0 x) = if b0 = -4 then 0 else F_X9_actSet J 0 b0 := by
        rw [show F_X7_mostUnlike s 1 0 x = a0 from m1]
        exact mset_both (k := 0) hC s1 s2 j1 j2 (.inl rfl) hC.1.2 m3
      have hB : F_X0_squaresOf s 1 1 (F_X7_mostUnlike s 1 1 x) = if b1 = -4 then 0 else F_X9_actSet J 1 b1 := by
        rw [show F_X7_mostUnlike s 1 1 x = a1 from m4]
        exact mset_both (k := 1) hC s1 s2 j1 j2 (.inr rfl) hC.2.2 m6
      have g1 : F_X7_goBlind_8_1 s 1 x0 x = some (.inr (x ^^^ ((if b0 = -4 then 0 else F_X9_actSet J 0 b0) ^^^ (if b1 = -4 then 0 else F_X9_actSet J 1 b1)), u2 s 27 5 (Int32.ofNat (n + 1)))) := by
        unfold F_X7_goBlind_8_1
        rw [if_neg q, h5, if_neg h60, hA, hB, la1]
      have g2 : F_X9_blind_35_1 J L a x (Int32.ofNat n) = some (.inr (x ^^^ ((if b0 = -4 then 0 else F_X9_actSet J 0 b0) ^^^ (if b1 = -4 then 0 else F_X9_actSet J 1 b1)), Int32.ofNat (n + 1))) := by
        unfold F_X9_blind_35_1 F_X9_blind_83_1 F_X9_blind_104_1
        rw [if_neg h60, if_neg q, show F_X9_mostOf J x 0 = some b0 from m2, ob_some, show F_X9_mostOf J x 1 = some b1 from m5, ob_some, la1, ← Int64.xor_assoc]
        by_cases y0 : b0 = -4
        · by_cases y1 : b1 = -4
          · rw [if_pos y0, if_pos y1, if_pos y0, if_pos y1]
          · rw [if_pos y0, if_neg y1, if_pos y0, if_neg y1]
        · by_cases y1 : b1 = -4
          · rw [if_neg y0, if_pos y1, if_neg y0, if_pos y1]
          · rw [if_neg y0, if_neg y1, if_neg y0, if_neg y1]
      rw [lpp_r (f := fun z : Int64 × WI => F_X7_goBlind_8_1 (p2 z) 1 x0 (p1 z)) (s := (x, s)) g1, lpp_r (f := fun z : Int64 × Int32 => F_X9_blind_35_1 J L a (p1 z) (p2 z)) (s := (x, Int32.ofNat n)) g2]
      exact ih (n + 1) _ _ f1 f2 (by omega) (by omega) (by omega) (fun k j hk => by rw [u2_nc (by omega)]; exact hfr k j hk) u2_at
theorem E_19 {I : WI} {L : WL} {a1 : Int32} (H : Inv I L) : ∃ v, (F_X8_blind I L a1) = some v ∧ ∃ w, (F_X9_blind (p2 v) L a1) = some w ∧ (p1 v) = w ∧ Inv (p2 v) L := by
  obtain ⟨v, e, w', e', g⟩ := N_19 (a1 := a1) H
  refine ⟨v, e, w', e', ?_, g⟩
  obtain ⟨⟨h, w, ⟨hC, i11, i12, i330, i331, l332, hIns, i10⟩, ⟨h2, w2, hC2, j1, j2, j3⟩, j4, j5⟩, -⟩ := H
  unfold F_X8_blind F_X8_blind_9 at e
  unfold F_X9_blind at e'
  rcases in0 (a := a1) 1 (by decide) with ⟨q1, q2⟩ | ⟨q1, q2, q3, k, hk, rfl⟩
  · rw [if_pos (show F_X9_in (Int32.toInt64 a1) 0 1 = 0 from q1)] at e'
    rw [← Option.some.inj e']
    by_cases q : a1 < 0
    · rw [if_pos q] at e
      rw [← Option.some.inj e]
      rfl
    · rw [if_neg q, if_neg (show ¬ a1 ≤ 1 from q2.resolve_left q)] at e
      rw [← Option.some.inj e]
      rfl
  · rw [if_neg q2, if_pos (show Int32.ofNat k ≤ 1 from q3)] at e
    rw [if_neg (show ¬ F_X9_in (Int32.toInt64 (Int32.ofNat k)) 0 1 = 0 from fun z => by rw [show F_X9_in (Int32.toInt64 (Int32.ofNat k)) 0 1 = 1 from q1] at z; exact absurd z (by decide))] at e'
    rcases bz01 (I 2 0) with z | z
    · rw [if_pos z] at e
      have ev := Option.some.inj e
      rw [← ev] at e' ⊢
      have e2 : (if bz (I 33 4) = 0 then some (-2) else F_X9_blind_35 I L (Int32.ofNat k) (L 33 2 ^^^ L 33 3) 0) = some w' := e'
      rw [j4, if_pos z] at e2
      exact Option.some.inj e2
    · have z' : ¬ bz (I 2 0) = 0 := fun q => by rw [z] at q; exact absurd q (by decide)
      obtain ⟨rfl, rfl⟩ := j3 z
      obtain ⟨l333, hI2⟩ := j5 z
      rw [if_neg z'] at e
      obtain ⟨y0, n0, s0, r0, -, r5, rf⟩ := blind_lp (J := I) (L := L) (a := Int32.ofNat k) (x0 := L 1 3 ^^^ L 2 3) hC i11 i12 i330 i331 60 0 (L 1 3 ^^^ L 2 3) (u2 I 27 5 0) 4294967296 4294967296 rfl (by decide) (by decide) (fun k j hk => u2_nc (by omega)) u2_at
      have hgo : F_X7_goBlind I 1 (L 1 3 ^^^ L 2 3) = some (u2 (u2 s0 27 0 (if lg_cmp y0 0 = 0 then 1 else 0)) 27 4 (F_J13_bitCount_95d88 y0)) := by
        unfold F_X7_goBlind F_X7_goBlind_8 F_X7_goBlind_75 F_X7_goBlind_88
        rw [r0, ob_some]
        show (if lg_cmp y0 0 = 0 then some (u2 (u2 s0 27 0 1) 27 4 (F_J13_bitCount_95d88 y0)) else some (u2 (u2 s0 27 0 0) 27 4 (F_J13_bitCount_95d88 y0))) = _
        split <;> rfl
      rw [hgo, ob_some] at e
      generalize hS : u2 (u2 s0 27 0 (if lg_cmp y0 0 = 0 then 1 else 0)) 27 4 (F_J13_bitCount_95d88 y0) = S at e
      have sf : ∀ k j, k ≠ 27 → S k j = I k j := fun k j hk => by
        rw [← hS, u2_nc (by omega), u2_nc (by omega)]
        exact rf k j hk
      have hp2 : p2 v = S := by
        unfold F_X8_blind_85 at e
        by_cases c1 : Int32.ofNat k = 1
        · rw [if_pos c1] at e
          rw [← Option.some.inj e]
          rfl
        · rw [if_neg c1] at e
          split at e
          · rw [← Option.some.inj e]
            rfl
          · rw [← Option.some.inj e]
            rfl
      rw [hp2, sf 33 4 (by decide), j4, if_neg z', l332, l333] at e'
      obtain ⟨y1, n1, s1, r1, r2, r6, -⟩ := blind_lp (J := S) (L := L) (a := Int32.ofNat k) (x0 := L 1 3 ^^^ L 2 3) hC i11 i12 ((sf 33 0 (by decide)).trans i330) ((sf 33 1 (by decide)).trans i331) 60 0 (L 1 3 ^^^ L 2 3) (u2 I 27 5 0) 4294967296 4294967296 rfl (by decide) (by decide) (fun k j hk => u2_nc (by omega)) u2_at
      rw [r0] at r1
      have er := Option.some.inj r1
      have ey : y0 = y1 := congrArg p1 er
      have es : s0 = s1 := congrArg p2 er
      rw [← ey] at r2
      rw [← es] at r6
      have e9 : F_X9_blind_112 S L (Int32.ofNat k) y0 (Int32.ofNat n1) = some w' := by
        unfold F_X9_blind_35 at e'
        have r2' : lpp (fun z : Int64 × Int32 => F_X9_blind_35_1 S L (Int32.ofNat k) (p1 z) (p2 z)) 4294967296 (L 1 3 ^^^ L 2 3, 0) = some (y0, Int32.ofNat n1) := r2
        rw [r2', ob_some] at e'
        exact e'
      unfold F_X9_blind_112 F_X9_blind_137 at e9
      unfold F_X8_blind_85 at e
      by_cases c1 : Int32.ofNat k = 1
      · rw [if_pos c1] at e e9
        rw [← Option.some.inj e, ← Option.some.inj e9, many_bits]
        show S 27 4 = _
        rw [← hS, u2_at]
      · rw [if_neg c1] at e e9
        have hb : S 27 0 = if lg_cmp y0 0 = 0 then 1 else 0 := by rw [← hS, u2_nc (by omega), u2_at]
        by_cases c2 : lg_cmp y0 0 = 0
        · rw [if_pos c2] at hb e9
          rw [hb, if_neg (show ¬ bz (1 : Int32) = 0 by decide)] at e
          rw [← Option.some.inj e, ← Option.some.inj e9]
          show S 27 5 = _
          rw [← hS, u2_nc (by omega), u2_nc (by omega)]
          exact r6
        · rw [if_neg c2] at hb e9
          rw [hb, if_pos (show bz (0 : Int32) = 0 by decide)] at e
          rw [← Option.some.inj e, ← Option.some.inj e9]
          rfl
