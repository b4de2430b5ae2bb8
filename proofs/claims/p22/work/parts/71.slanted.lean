/-! slanted: class and reference -/
theorem pow10_t : ∀ m, m < 10 → ((1 : Int32) <<< (Int32.ofNat m &&& 31)) = Int32.ofNat (2 ^ m) := by decide +kernel
theorem slant_lp {h w : Nat} (hC : Cl h w) (h10 : h + w ≤ 10) {x : Int64} (hx : Ins h w x) {L : WL} {a1 : Int32} (l : (L 33 2) ^^^ (L 33 3) = x) : ∀ (m s : Nat) (q : Int32 × Int32 × Int32 × Int32) (t : WI) (fuel : Nat), s + m = 2 ^ (h + w - 1) → m < fuel → t 33 0 = Int32.ofNat h → t 33 1 = Int32.ofNat w → Pr h w x (fun _ _ s' => s' < s) q → ∃ (q' : Int32 × Int32 × Int32 × Int32) (t' : WI), lpp (fun x => (F_X9_slanted_52_1 (p2 (p2 (p2 (p2 (p2 x))))) L a1 (p1 x) (p1 (p2 x)) (p1 (p2 (p2 x))) (p1 (p2 (p2 (p2 x)))) (p1 (p2 (p2 (p2 (p2 x))))))) fuel (p1 q, p1 (p2 q), p1 (p2 (p2 q)), p2 (p2 (p2 q)), Int32.ofNat s, t) = some (p1 q', p1 (p2 q'), p1 (p2 (p2 q')), p2 (p2 (p2 q')), t') ∧ Pr h w x (fun _ _ _ => True) q' := by
  have hC' := hC
  obtain ⟨⟨h1, h2⟩, h3, h4⟩ := hC'
  have h9 : 2 ^ (h + w - 1) ≤ 2 ^ 9 := Nat.pow_le_pow_right (by decide) (by omega)
  have hm : ∀ t : WI, t 33 0 = Int32.ofNat h → t 33 1 = Int32.ofNat w → (t 33 0 + t 33 1) - 1 = Int32.ofNat (h + w - 1) := fun t e1 e2 => by
    rw [e1, e2, oadd]
    exact on_sub (b := 1) (by omega)
  intro m
  induction m with
  | zero =>
    intro s q t fuel hs hf t0 t1 H
    obtain ⟨fuel, rfl⟩ : ∃ g, fuel = g + 1 := ⟨fuel - 1, by omega⟩
    refine ⟨q, t, lpp_l (f := fun x : Int32 × Int32 × Int32 × Int32 × Int32 × WI => (F_X9_slanted_52_1 (p2 (p2 (p2 (p2 (p2 x))))) L a1 (p1 x) (p1 (p2 x)) (p1 (p2 (p2 x))) (p1 (p2 (p2 (p2 x)))) (p1 (p2 (p2 (p2 (p2 x))))))) (s := (p1 q, p1 (p2 q), p1 (p2 (p2 q)), p2 (p2 (p2 q)), Int32.ofNat s, t)) ?_, H.congr fun r c s' z => ⟨fun _ => trivial, fun _ => by have := z.2.2.1; omega⟩⟩
    show F_X9_slanted_52_1 t L a1 (p1 q) (p1 (p2 q)) (p1 (p2 (p2 q))) (p2 (p2 (p2 q))) (Int32.ofNat s) = _
    unfold F_X9_slanted_52_1
    rw [hm t t0 t1, pow10_t _ (by omega), if_pos (show Int32.ofNat (2 ^ (h + w - 1)) ≤ Int32.ofNat s from (ge_on (by omega) (by omega)).mpr (by omega))]
  | succ m ih =>
    intro s q t fuel hs hf t0 t1 H
    obtain ⟨fuel, rfl⟩ : ∃ g, fuel = g + 1 := ⟨fuel - 1, by omega⟩
    have hsn : s < 2 ^ (h + w - 1) := by omega
    obtain ⟨e, e1, e2, e3⟩ := slanted_set (L := L) (a1 := a1) (a2 := p1 q) (a3 := p1 (p2 q)) (a4 := p1 (p2 (p2 q))) (a5 := p2 (p2 (p2 q))) hC h10 hsn hx t0 t1
    generalize hz : p2 e = z at e2 e3
    have hAg : Ag t (p2 (F_X9_findPlan t z)) := ag_findPlan9
    have u0 : (p2 (F_X9_findPlan t z)) 33 0 = Int32.ofNat h := (hAg 33 0 rfl).trans t0
    have u1 : (p2 (F_X9_findPlan t z)) 33 1 = Int32.ofNat w := (hAg 33 1 rfl).trans t1
    have h133 : F_X9_slanted_52_1 t L a1 (p1 q) (p1 (p2 q)) (p1 (p2 (p2 q))) (p2 (p2 (p2 q))) (Int32.ofNat s) = F_X9_slanted_133_1 t L a1 (p1 q) (p1 (p2 q)) (p1 (p2 (p2 q))) (p2 (p2 (p2 q))) (Int32.ofNat s) z := by
      unfold F_X9_slanted_52_1 F_X9_slanted_84_1
      rw [hm t t0 t1, pow10_t _ (by omega), if_neg (show ¬ Int32.ofNat (2 ^ (h + w - 1)) ≤ Int32.ofNat s from fun y => absurd ((ge_on (by omega) (by omega)).mp y) (by omega)), l, e1, ob_some, hz]
    -- what one set of slants does
    have hone : ∃ q', F_X9_slanted_133_1 t L a1 (p1 q) (p1 (p2 q)) (p1 (p2 (p2 q))) (p2 (p2 (p2 q))) (Int32.ofNat s) z = some (.inr (p1 q', p1 (p2 q'), p1 (p2 (p2 q')), p2 (p2 (p2 q')), Int32.ofNat (s + 1), p2 (F_X9_findPlan t z))) ∧ Pr h w x (fun _ _ s' => s' < s + 1) q' := by
      unfold F_X9_slanted_133_1 F_X9_slanted_319_1
      rcases plan_all (z := z) hC t0 t1 with ⟨p0, hno⟩ | ⟨p0, R, C, R1, C1, k1, k2, k3, k4⟩
      · rw [if_pos p0, la1]
        refine ⟨q, rfl, H.congr fun r c s' y => ⟨fun d => by omega, fun d => ?_⟩⟩
        by_cases c1 : s' = s
        · rw [c1] at y
          exact absurd ((sol_rc hsn y.1 y.2.1 e3).mp y) (hno r c y.1 y.2.1)
        · omega
      · rw [if_neg (show ¬ p1 (F_X9_findPlan t z) = 0 from fun y => by rw [p0] at y; exact absurd y (by decide))]
        have n1 := bnot_eq h1 h2 (show R < 256 from Nat.lt_of_lt_of_le R1 (Nat.pow_le_pow_right (n := 2) (by decide) h2))
        have n2 := bnot_eq h3 h4 (show C < 256 from Nat.lt_of_lt_of_le C1 (Nat.pow_le_pow_right (n := 2) (by decide) h4))
        have z1 : Sol h w x R C s := (sol_rc hsn R1 C1 e3).mpr k3
        have z2 : Sol h w x (bnot h R) (bnot w C) s := (sol_rc hsn (bnot_lt R1) (bnot_lt C1) e3).mpr (rc_bnot R1 C1 k3)
        have ea : ∀ a2 a3 a4 a5, F_X9_slanted_151_3 (p2 (F_X9_findPlan t z)) L a1 (Int32.ofNat s) (Int32.ofNat 0) a2 a3 a4 a5 = F_X9_slanted_203_3 (p2 (F_X9_findPlan t z)) L a1 (Int32.ofNat s) (Int32.ofNat 0) a2 a3 a4 a5 (Int32.ofNat R) (Int32.ofNat C) := fun a2 a3 a4 a5 => by
          unfold F_X9_slanted_151_3 F_X9_slanted_176_3
          rw [if_pos (show Int32.ofNat 0 = 0 from rfl), if_pos (show Int32.ofNat 0 = 0 from rfl), k1, k2]
        have eb : ∀ a2 a3 a4 a5, F_X9_slanted_151_3 (p2 (F_X9_findPlan t z)) L a1 (Int32.ofNat s) (Int32.ofNat 1) a2 a3 a4 a5 = F_X9_slanted_203_3 (p2 (F_X9_findPlan t z)) L a1 (Int32.ofNat s) (Int32.ofNat 1) a2 a3 a4 a5 (Int32.ofNat (bnot h R)) (Int32.ofNat (bnot w C)) := fun a2 a3 a4 a5 => by
          unfold F_X9_slanted_151_3 F_X9_slanted_176_3
          rw [if_neg (show ¬ Int32.ofNat 1 = 0 by decide), if_neg (show ¬ Int32.ofNat 1 = 0 by decide), k1, k2, u0, u1, n1.1, n2.1]
        obtain ⟨qa, a1', a2'⟩ := pr_step (t := p2 (F_X9_findPlan t z)) (L := L) (a1 := a1) (a9 := Int32.ofNat 0) hC h10 H z1
        obtain ⟨qb, b1', b2'⟩ := pr_step (t := p2 (F_X9_findPlan t z)) (L := L) (a1 := a1) (a9 := Int32.ofNat 1) hC h10 a2' z2
        have hfr : ∃ e', frp0 (fun i y => F_X9_slanted_151_3 (p2 (F_X9_findPlan t z)) L a1 (Int32.ofNat s) i (p1 y) (p1 (p2 y)) (p1 (p2 (p2 y))) (p2 (p2 (p2 y)))) (Int32.ofNat 2) (fu 0 (Int32.ofNat 2)) 0 q = some e' ∧ p2 e' = qb := by
          obtain ⟨e', g1, g2⟩ := frp0_nat (g := fun i y => F_X9_slanted_151_3 (p2 (F_X9_findPlan t z)) L a1 (Int32.ofNat s) i (p1 y) (p1 (p2 y)) (p1 (p2 (p2 y))) (p2 (p2 (p2 y)))) (b := 2) (by decide) (fun i y => (i = 0 → y = q) ∧ (i = 1 → y = qa) ∧ (i = 2 → y = qb)) (s := q) (fun i y hi hy => by
            rcases (show i = 0 ∨ i = 1 by omega) with rfl | rfl
            · rw [hy.1 rfl]
              exact ⟨qa, (ea _ _ _ _).trans a1', fun c => absurd c (by decide), fun _ => rfl, fun c => absurd c (by decide)⟩
            · rw [hy.2.1 rfl]
              exact ⟨qb, (eb _ _ _ _).trans b1', fun c => absurd c (by decide), fun c => absurd c (by decide), fun _ => rfl⟩) ⟨fun _ => rfl, fun c => absurd c (by decide), fun c => absurd c (by decide)⟩
          exact ⟨e', g1, g2.2.2 rfl⟩
        obtain ⟨e', g1, g2⟩ := hfr
        refine ⟨qb, ?_, b2'.congr fun r c s' y => ?_⟩
        · unfold F_X9_slanted_145_1 F_X9_slanted_319_1
          have g1' : frp0 (fun i y => F_X9_slanted_151_3 (p2 (F_X9_findPlan t z)) L a1 (Int32.ofNat s) i (p1 y) (p1 (p2 y)) (p1 (p2 (p2 y))) (p2 (p2 (p2 y)))) 2 (fu 0 2) 0 (p1 q, p1 (p2 q), p1 (p2 (p2 q)), p2 (p2 (p2 q))) = some e' := g1
          rw [g1', ob_some, la1, g2]
        · constructor
          · rintro ((d | ⟨-, -, d⟩) | ⟨-, -, d⟩) <;> omega
          · intro d
            by_cases c1 : s' = s
            · rw [c1] at y
              rcases k4 r c y.1 y.2.1 ((sol_rc hsn y.1 y.2.1 e3).mp y) with ⟨y1, y2⟩ | ⟨y1, y2⟩
              · exact .inl (.inr ⟨y1, y2, c1⟩)
              · exact .inr ⟨y1, y2, c1⟩
            · exact .inl (.inl (by omega))
    obtain ⟨q', g1, g2⟩ := hone
    rw [lpp_r (f := fun x : Int32 × Int32 × Int32 × Int32 × Int32 × WI => (F_X9_slanted_52_1 (p2 (p2 (p2 (p2 (p2 x))))) L a1 (p1 x) (p1 (p2 x)) (p1 (p2 (p2 x))) (p1 (p2 (p2 (p2 x)))) (p1 (p2 (p2 (p2 (p2 x))))))) (s := (p1 q, p1 (p2 q), p1 (p2 (p2 q)), p2 (p2 (p2 q)), Int32.ofNat s, t)) (h133.trans g1)]
    exact ih (s + 1) q' (p2 (F_X9_findPlan t z)) fuel (by omega) (by omega) u0 u1 g2
theorem key_eq {r c s r0 c0 s0 : Nat} (hr : r < 256) (hc : c < 256) (hs : s < 512) (hr0 : r0 < 256) (hc0 : c0 < 256) (hs0 : s0 < 512) (k3 : key3 r c s ≤ key3 r0 c0 s0) (k4 : key4 r0 c0 s0 ≤ key4 r c s) : acts3 r c s = acts3 r0 c0 s0 ∧ r = r0 ∧ c = c0 := by
  unfold key4 at k4
  unfold key3 at k3 k4
  generalize acts3 r c s = A at *
  generalize acts3 r0 c0 s0 = A0 at *
  omega
theorem E_20 {I : WI} {L : WL} {a1 : Int32} (H : Inv I L) : ∃ v, (F_X8_slanted I L a1) = some v ∧ ∃ w, (F_X9_slanted (p1 (p2 v)) (p2 (p2 v)) a1) = some w ∧ (p1 v) = (p1 w) ∧ Inv (p2 w) (p2 (p2 v)) := by
  obtain ⟨v, e, w', e', g⟩ := N_20 (a1 := a1) H
  refine ⟨v, e, w', e', ?_, g⟩
  obtain ⟨⟨h, w, ⟨hC, i11, i12, i330, i331, l332, hIns, i10⟩, ⟨h2, w2, hC2, j1, j2, j3⟩, j4, j5⟩, -⟩ := H
  unfold F_X8_slanted F_X8_slanted_9 F_X8_slanted_41 at e
  unfold F_X9_slanted F_X9_slanted_35 at e'
  rcases in0 (a := a1) 3 (by decide) with ⟨q1, q2⟩ | ⟨q1, q2, q3, k, hk, rfl⟩
  · rw [if_pos (show F_X9_in (Int32.toInt64 a1) 0 3 = 0 from q1)] at e'
    rw [← Option.some.inj e']
    by_cases q : a1 < 0
    · rw [if_pos q] at e
      rw [← Option.some.inj e]
      rfl
    · rw [if_neg q, if_neg (show ¬ a1 ≤ 3 from q2.resolve_left q)] at e
      rw [← Option.some.inj e]
      rfl
  · rw [if_neg q2, if_pos (show Int32.ofNat k ≤ 3 from q3)] at e
    rw [if_neg (show ¬ F_X9_in (Int32.toInt64 (Int32.ofNat k)) 0 3 = 0 from fun z => by rw [show F_X9_in (Int32.toInt64 (Int32.ofNat k)) 0 3 = 1 from q1] at z; exact absurd z (by decide))] at e'
    have hno : v = (-2, I, L) → (bz (I 2 0) = 0 ∨ ¬ (I 33 0 + I 33 1) ≤ 10) → p1 v = p1 w' := fun hv hc => by
      rw [hv] at e' ⊢
      have e2 : (if bz (I 33 4) = 0 then some ((-2 : Int32), I) else (if (I 33 0 + I 33 1) ≤ 10 then F_X9_slanted_52 I L (Int32.ofNat k) (-4) 0 0 0 0 else some ((-2 : Int32), I))) = some w' := e'
      rcases hc with hc | hc
      · rw [j4, if_pos hc] at e2
        rw [← Option.some.inj e2]
        rfl
      · rw [if_neg hc] at e2
        split at e2
        · rw [← Option.some.inj e2]
          rfl
        · rw [← Option.some.inj e2]
          rfl
    rcases bz01 (I 2 0) with z | z
    · rw [if_pos z] at e
      exact hno (Option.some.inj e).symm (.inl z)
    · have z' : ¬ bz (I 2 0) = 0 := fun q => by rw [z] at q; exact absurd q (by decide)
      obtain ⟨rfl, rfl⟩ := j3 z
      obtain ⟨l333, hI2⟩ := j5 z
      have hC' := hC
      obtain ⟨⟨h1, h2'⟩, h3, h4⟩ := hC'
      rw [if_neg z', i11, i12, oadd] at e
      by_cases c10 : h2 + w2 ≤ 10
      · have c10' : Int32.ofNat (h2 + w2) ≤ 10 := (ge_on (b := 10) (by omega) (by decide)).mpr c10
        rw [if_pos c10'] at e
        obtain ⟨S, K, r1, kf, sf, hres⟩ := slant_class (L := L) hC c10 (hIns.xor hI2) i11 i12
        rw [r1, ob_some] at e
        have e : (if bz (S 27 0) = 0 then F_X8_slanted_97 S K (Int32.ofNat k) (-4) else F_X8_slanted_97 S K (Int32.ofNat k) (F_X8_toldOf S (Int32.ofNat k) (F_X7_acts S))) = some v := e
        have ev : p2 v = (S, K) := by
          unfold F_X8_slanted_97 at e
          split at e
          · rw [← Option.some.inj e]
            rfl
          · rw [← Option.some.inj e]
            rfl
        rw [ev] at e'
        have e2 : (if bz (S 33 4) = 0 then some ((-2 : Int32), S) else (if (S 33 0 + S 33 1) ≤ 10 then F_X9_slanted_52 S K (Int32.ofNat k) (-4) 0 0 0 0 else some ((-2 : Int32), S))) = some w' := e'
        have s0 : S 33 0 = Int32.ofNat h2 := (sf 33 0 (by decide)).trans i330
        have s1 : S 33 1 = Int32.ofNat w2 := (sf 33 1 (by decide)).trans i331
        rw [sf 33 4 (by decide), j4, if_neg z', s0, s1, oadd, if_pos c10'] at e2
        have hpos : 1 ≤ 2 ^ (h2 + w2 - 1) := Nat.one_le_two_pow
        have h9 : 2 ^ (h2 + w2 - 1) ≤ 2 ^ 9 := Nat.pow_le_pow_right (by decide) (by omega)
        obtain ⟨q', t', g1, g2⟩ := slant_lp (L := K) (a1 := Int32.ofNat k) hC c10 (hIns.xor hI2) (by rw [kf 33 2 (by decide), kf 33 3 (by decide), l332, l333]) (2 ^ (h2 + w2 - 1)) 0 (-4, 0, 0, 0) S 4294967296 (by omega) (by omega) s0 s1 (.inl ⟨rfl, fun _ _ _ d => absurd d (Nat.not_lt_zero _)⟩)
        have e3 : F_X9_slanted_325 t' K (Int32.ofNat k) (p1 q') (p1 (p2 q')) (p1 (p2 (p2 q'))) (p2 (p2 (p2 q'))) = some w' := by
          unfold F_X9_slanted_52 at e2
          have g1' : lpp (fun x => (F_X9_slanted_52_1 (p2 (p2 (p2 (p2 (p2 x))))) K (Int32.ofNat k) (p1 x) (p1 (p2 x)) (p1 (p2 (p2 x))) (p1 (p2 (p2 (p2 x)))) (p1 (p2 (p2 (p2 (p2 x))))))) 4294967296 (-4, 0, 0, 0, 0, S) = some (p1 q', p1 (p2 q'), p1 (p2 (p2 q')), p2 (p2 (p2 q')), t') := g1
          rw [g1', ob_some] at e2
          exact e2
        unfold F_X9_slanted_325 F_X9_slanted_365 at e3
        rcases hres with ⟨b0, bno⟩ | ⟨b0, r0, c0, s0', y1, y2, y3, y4, y5⟩
        · rw [if_pos b0] at e
          unfold F_X8_slanted_97 at e
          have hq : p1 q' = -4 := by
            rcases g2 with ⟨a, -⟩ | ⟨r, c, s, d, -⟩
            · exact a
            · exact absurd d (bno r c s)
          rw [if_pos hq] at e3
          rw [← Option.some.inj e, ← Option.some.inj e3]
          rfl
        · rw [if_neg (show ¬ bz (S 27 0) = 0 from fun y => by rw [b0] at y; exact absurd y (by decide))] at e
          unfold F_X8_slanted_97 at e
          rcases g2 with ⟨-, d⟩ | ⟨r, c, s, d1, -, d3, d4⟩
          · exact absurd y1 (d r0 c0 s0' trivial)
          · have hp : 2 ^ h2 ≤ 2 ^ 8 := Nat.pow_le_pow_right (by decide) h2'
            have hp' : 2 ^ w2 ≤ 2 ^ 8 := Nat.pow_le_pow_right (by decide) h4
            obtain ⟨x1, x2, x3, -⟩ := id y1
            obtain ⟨x4, x5, x6, -⟩ := id d1
            obtain ⟨m1, m2, m3⟩ := key_eq (show r0 < 256 by omega) (show c0 < 256 by omega) (show s0' < 512 by omega) (show r < 256 by omega) (show c < 256 by omega) (show s < 512 by omega) (y5 r c s d1) (d4 r0 c0 s0' trivial y1)
            have ms : s0' = s := by
              rw [m2, m3] at y1
              exact sol_uniq hC y1 d1
            have ha := acts3_lt (show r < 256 by omega) (show c < 256 by omega) (show s < 512 by omega)
            rw [d3] at e3
            have e4 : (if Int32.ofNat (acts3 r c s) = -4 then some ((-4 : Int32), t') else (if Int32.ofNat k = 0 then some (Int32.ofNat (acts3 r c s), t') else (if Int32.ofNat k = 1 then some (Int32.ofNat r, t') else (if Int32.ofNat k = 2 then some (Int32.ofNat c, t') else some (Int32.ofNat s, t'))))) = some w' := e3
            rw [if_neg (ofn4 (by omega))] at e4
            rw [acts_3 (show r0 < 256 by omega) (show c0 < 256 by omega) (show s0' < 512 by omega) y2 y3 y4] at e
            unfold F_X8_toldOf at e
            rw [y2, y3, y4, m1, m2, m3, ms] at e
            rcases (show k = 0 ∨ k = 1 ∨ k = 2 ∨ k = 3 by omega) with rfl | rfl | rfl | rfl
            · rw [if_pos (show Int32.ofNat 0 = 0 from rfl)] at e e4
              rw [← Option.some.inj e, ← Option.some.inj e4]
              rfl
            · rw [if_neg (show ¬ Int32.ofNat 1 = 0 by decide), if_pos (show Int32.ofNat 1 = 1 from rfl)] at e e4
              rw [← Option.some.inj e, ← Option.some.inj e4]
              rfl
            · rw [if_neg (show ¬ Int32.ofNat 2 = 0 by decide), if_neg (show ¬ Int32.ofNat 2 = 1 by decide), if_pos (show Int32.ofNat 2 = 2 from rfl)] at e e4
              rw [← Option.some.inj e, ← Option.some.inj e4]
              rfl
            · rw [if_neg (show ¬ Int32.ofNat 3 = 0 by decide), if_neg (show ¬ Int32.ofNat 3 = 1 by decide), if_neg (show ¬ Int32.ofNat 3 = 2 by decide)] at e e4
              rw [← Option.some.inj e, ← Option.some.inj e4]
              rfl
      · have c10' : ¬ Int32.ofNat (h2 + w2) ≤ 10 := fun y => c10 ((ge_on (b := 10) (by omega) (by decide)).mp y)
        rw [if_neg c10'] at e
        exact hno (Option.some.inj e).symm (.inr (by rw [i330, i331, oadd]; exact c10'))
