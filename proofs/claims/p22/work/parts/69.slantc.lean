/-! slanted: the class's search -/
def Bef (r c r' c' : Nat) : Prop := r' < r ∨ (r' = r ∧ c' < c)
def CI (h w : Nat) (x : Int64) (I : WI) (r c : Nat) (S : WI) : Prop := (∀ k j, k ≠ 27 → S k j = I k j) ∧ ((bz (S 27 0) = 0 ∧ ∀ r' c' s', Bef r c r' c' → ¬ Sol h w x r' c' s') ∨ (bz (S 27 0) = 1 ∧ ∃ r0 c0 s0, Sol h w x r0 c0 s0 ∧ S 27 1 = Int32.ofNat r0 ∧ S 27 2 = Int32.ofNat c0 ∧ S 27 3 = Int32.ofNat s0 ∧ Bef r c r0 c0 ∧ ∀ r' c' s', Bef r c r' c' → Sol h w x r' c' s' → key3 r0 c0 s0 ≤ key3 r' c' s'))
theorem CI.congr {h w : Nat} {x : Int64} {I S : WI} {r c r2 c2 : Nat} (H : CI h w x I r c S) (e : ∀ r' c' s', Sol h w x r' c' s' → (Bef r c r' c' ↔ Bef r2 c2 r' c')) : CI h w x I r2 c2 S := by
  obtain ⟨h1, h2⟩ := H
  refine ⟨h1, ?_⟩
  rcases h2 with ⟨a, b⟩ | ⟨a, r0, c0, s0, b1, b2, b3, b4, b5, b6⟩
  · exact .inl ⟨a, fun r' c' s' q z => b r' c' s' ((e r' c' s' z).mpr q) z⟩
  · exact .inr ⟨a, r0, c0, s0, b1, b2, b3, b4, (e r0 c0 s0 b1).mp b5, fun r' c' s' q z => b6 r' c' s' ((e r' c' s' z).mpr q) z⟩
theorem acts_3 {S : WI} {r c s : Nat} (hr : r < 256) (hc : c < 256) (hs : s < 512) (e1 : S 27 1 = Int32.ofNat r) (e2 : S 27 2 = Int32.ofNat c) (e3 : S 27 3 = Int32.ofNat s) : F_X7_acts S = Int32.ofNat (acts3 r c s) := by
  unfold F_X7_acts acts3
  rw [e1, e2, e3, (bc_t r hr).1, (bc_t c hc).1, (bs_t s hs).1, oadd, oadd]
theorem acts3_lt {r c s : Nat} (hr : r < 256) (hc : c < 256) (hs : s < 512) : acts3 r c s ≤ 26 := by
  have := (bc_t r hr).2.2
  have := (bc_t c hc).2.2
  have := (bs_t s hs).2.2
  unfold acts3
  omega
theorem ci_step {h w r c : Nat} (hC : Cl h w) (h10 : h + w ≤ 10) {x : Int64} (hx : Ins h w x) {I S : WI} {K : WL} (hK : ∀ i, i < 15 → K 28 i = F_X9_actSet (cw (Int32.ofNat h) (Int32.ofNat w)) 2 (Int32.ofNat i)) (hr : r < 2 ^ h) (hc : c < 2 ^ w) (H : CI h w x I r c S) : ∃ S', F_X7_trySlants S K (Int32.ofNat r) (Int32.ofNat c) (x ^^^ F_X9_turnSet (cw (Int32.ofNat h) (Int32.ofNat w)) (Int32.ofNat r) (Int32.ofNat c)) = some S' ∧ CI h w x I r (c + 1) S' := by
  have hp : 2 ^ h ≤ 2 ^ 8 := Nat.pow_le_pow_right (by decide) hC.1.2
  have hp' : 2 ^ w ≤ 2 ^ 8 := Nat.pow_le_pow_right (by decide) hC.2.2
  have h9 : 2 ^ (h + w - 1) ≤ 2 ^ 9 := Nat.pow_le_pow_right (by decide) (by omega)
  obtain ⟨f1, f2⟩ := H
  unfold F_X7_trySlants F_X7_trySlants_46 F_X7_trySlants_59
  rcases slants_0 hC h10 hK (hx.xor (turn_in (r := r) (c := c) hC (by omega) (by omega))) with ⟨s, s1, s2, e⟩ | ⟨s2, e⟩
  · have hsol : Sol h w x r c s := (sol_sl hC hr hc s1).mpr s2
    rw [e, ob_some, if_pos (show 0 ≤ Int32.ofNat s from (ge_on (a := 0) (by decide) (by omega)).mpr (by omega))]
    have hbef : ∀ r' c', Bef r (c + 1) r' c' ↔ (Bef r c r' c' ∨ (r' = r ∧ c' = c)) := fun r' c' => by
      unfold Bef
      omega
    -- taken
    have htake : (∀ r' c' s', Bef r c r' c' → Sol h w x r' c' s' → key3 r c s ≤ key3 r' c' s') → CI h w x I r (c + 1) (F_X7_take (u2 S 27 0 1) (Int32.ofNat r) (Int32.ofNat c) (Int32.ofNat s)) := fun hk => by
      unfold F_X7_take
      refine ⟨fun k j hk => ?_, .inr ⟨?_, r, c, s, hsol, ?_, ?_, u2_at, (hbef r c).mpr (.inr ⟨rfl, rfl⟩), fun r' c' s' q z => ?_⟩⟩
      · rw [u2_nc (by omega), u2_nc (by omega), u2_nc (by omega), u2_nc (by omega)]
        exact f1 k j hk
      · rw [u2_nc (by omega), u2_nc (by omega), u2_nc (by omega), u2_at]
        decide
      · rw [u2_nc (by omega), u2_nc (by omega), u2_at]
      · rw [u2_nc (by omega), u2_at]
      · rcases (hbef r' c').mp q with q | ⟨q1, q2⟩
        · exact hk r' c' s' q z
        · rw [q1, q2] at z ⊢
          rw [sol_uniq hC z hsol]
          exact Nat.le_refl _
    rcases f2 with ⟨a, b⟩ | ⟨a, r0, c0, s0, b1, b2, b3, b4, b5, b6⟩
    · rw [if_pos a]
      exact ⟨_, rfl, htake fun r' c' s' q z => absurd z (b r' c' s' q)⟩
    · obtain ⟨r01, c01, s01, -⟩ := id b1
      rw [if_neg (show ¬ bz (S 27 0) = 0 from fun z => by rw [a] at z; exact absurd z (by decide)), acts_3 (show r0 < 256 by omega) (show c0 < 256 by omega) (show s0 < 512 by omega) b2 b3 b4, (bc_t r (by omega)).1, (bc_t c (by omega)).1, (bs_t s (by omega)).1, oadd, oadd]
      have ha0 := acts3_lt (show r0 < 256 by omega) (show c0 < 256 by omega) (show s0 < 512 by omega)
      have ha1 := acts3_lt (show r < 256 by omega) (show c < 256 by omega) (show s < 512 by omega)
      have hd : pc8 r + pc8 c + pc10 s = acts3 r c s := rfl
      rw [hd]
      have b5' : r0 < r ∨ (r0 = r ∧ c0 < c) := b5
      by_cases q : acts3 r0 c0 s0 ≤ acts3 r c s
      · rw [if_pos (show Int32.ofNat (acts3 r0 c0 s0) ≤ Int32.ofNat (acts3 r c s) from (ge_on (by omega) (by omega)).mpr q)]
        refine ⟨S, rfl, f1, .inr ⟨a, r0, c0, s0, b1, b2, b3, b4, (hbef r0 c0).mpr (.inl b5), fun r' c' s' q' z => ?_⟩⟩
        rcases (hbef r' c').mp q' with q' | ⟨q1, q2⟩
        · exact b6 r' c' s' q' z
        · rw [q1, q2] at z ⊢
          rw [sol_uniq hC z hsol]
          unfold key3
          omega
      · rw [if_neg (show ¬ Int32.ofNat (acts3 r0 c0 s0) ≤ Int32.ofNat (acts3 r c s) from fun z => q ((ge_on (by omega) (by omega)).mp z))]
        refine ⟨_, rfl, htake fun r' c' s' q' z => Nat.le_trans ?_ (b6 r' c' s' q' z)⟩
        unfold key3
        omega
  · rw [e, ob_some, if_neg (show ¬ (0 : Int32) ≤ -1 by decide)]
    refine ⟨S, rfl, CI.congr ⟨f1, f2⟩ fun r' c' s' z => ?_⟩
    unfold Bef
    constructor
    · omega
    · intro q
      by_cases c1 : r' = r ∧ c' = c
      · rw [c1.1, c1.2] at z
        exact absurd ((sol_sl hC hr hc z.2.2.1).mp z) (s2 s')
      · omega
/-- how the class's search ends -/
theorem slant_class {h w : Nat} (hC : Cl h w) (h10 : h + w ≤ 10) {x : Int64} (hx : Ins h w x) {I : WI} {L : WL} (i1 : I 1 1 = Int32.ofNat h) (i2 : I 1 2 = Int32.ofNat w) : ∃ S K, F_X7_findSlanted I L 1 x = some (S, K) ∧ (∀ k j, k ≠ 28 → K k j = L k j) ∧ (∀ k j, k ≠ 27 → S k j = I k j) ∧ ((bz (S 27 0) = 0 ∧ ∀ r c s, ¬ Sol h w x r c s) ∨ (bz (S 27 0) = 1 ∧ ∃ r0 c0 s0, Sol h w x r0 c0 s0 ∧ S 27 1 = Int32.ofNat r0 ∧ S 27 2 = Int32.ofNat c0 ∧ S 27 3 = Int32.ofNat s0 ∧ ∀ r c s, Sol h w x r c s → key3 r0 c0 s0 ≤ key3 r c s)) := by
  have hC' := hC
  obtain ⟨⟨h1, h2⟩, h3, h4⟩ := hC'
  have hp : 2 ^ h ≤ 2 ^ 8 := Nat.pow_le_pow_right (by decide) h2
  have hp' : 2 ^ w ≤ 2 ^ 8 := Nat.pow_le_pow_right (by decide) h4
  have hpos : 1 ≤ 2 ^ h := Nat.one_le_two_pow
  have hposw : 1 ≤ 2 ^ w := Nat.one_le_two_pow
  obtain ⟨pe1, -⟩ := pow_eq h1 h2
  obtain ⟨pw1, -⟩ := pow_eq h3 h4
  obtain ⟨e, k1, k2, k3⟩ := frp0_nat (g := fun i y => F_X7_findSlanted_13_1 I y 1 x i) (b := 15) (by decide) (fun i y => (∀ j, j < i → y 28 j = F_X9_actSet (cw (Int32.ofNat h) (Int32.ofNat w)) 2 (Int32.ofNat j)) ∧ ∀ k j, k ≠ 28 → y k j = L k j) (s := L) (fun i y hi hy => by
    refine ⟨u2 y 28 i (F_X9_actSet (cw (Int32.ofNat h) (Int32.ofNat w)) 2 (Int32.ofNat i)), ?_, fun j hj => ?_, fun k j hk => ?_⟩
    · show F_X7_findSlanted_13_1 I y 1 x (Int32.ofNat i) = _
      unfold F_X7_findSlanted_13_1
      rw [if_neg (nin (k := i) (N := 15) hi (by decide)), on_clamp (by omega), squaresOf_cq, i1, i2, sq_act hC (.inr (.inr rfl))]
    · by_cases c : j = i
      · rw [c, u2_at]
      · rw [u2_nc (by omega)]
        exact hy.1 j (by omega)
    · rw [u2_nc (by omega)]
      exact hy.2 k j hk) ⟨fun j hj => absurd hj (Nat.not_lt_zero _), fun _ _ _ => rfl⟩
  generalize hKK : p2 e = K at k2 k3
  have hev : ∀ S : WI, S 1 1 = Int32.ofNat h → F_X0_everyRow S 1 = Int32.ofNat (2 ^ h - 1) := fun S q => by
    unfold F_X0_everyRow
    rw [q, pe1]
  have hec : ∀ S : WI, S 1 2 = Int32.ofNat w → F_X0_everyColumn S 1 = Int32.ofNat (2 ^ w - 1) := fun S q => by
    unfold F_X0_everyColumn
    rw [q, pw1]
  have hinner : ∀ r S, r < 2 ^ h → CI h w x I r 0 S → ∃ S', lpp (fun z : Int32 × WI => F_X7_findSlanted_53_3 (p2 z) K 1 x (Int32.ofNat r) (p1 z)) 4294967296 (Int32.ofNat 0, S) = some S' ∧ CI h w x I r (2 ^ w) S' := fun r S hr hS => by
    refine lpp_ix (f := fun z : Int32 × WI => F_X7_findSlanted_53_3 (p2 z) K 1 x (Int32.ofNat r) (p1 z)) (fun c S => CI h w x I r c S) (2 ^ w) (fun c S hc hS => ?_) (fun S hS => ?_) (2 ^ w) 0 S 4294967296 (by omega) (by omega) hS
    · have s1 : S 1 1 = Int32.ofNat h := (hS.1 1 1 (by decide)).trans i1
      have s2 : S 1 2 = Int32.ofNat w := (hS.1 1 2 (by decide)).trans i2
      obtain ⟨S', e1, e2⟩ := ci_step hC h10 hx k2 hr hc hS
      refine ⟨S', ?_, e2⟩
      show F_X7_findSlanted_53_3 S K 1 x (Int32.ofNat r) (Int32.ofNat c) = _
      unfold F_X7_findSlanted_53_3
      rw [hec S s2, if_neg (show ¬ Int32.ofNat (2 ^ w - 1) < Int32.ofNat c from fun z => absurd ((lt_onn (by omega) (by omega)).mp z) (by omega)), squaresTurned_cq, s1, s2, turned_eq hC (by omega) hc, e1, ob_some, la1]
    · have s2 : S 1 2 = Int32.ofNat w := (hS.1 1 2 (by decide)).trans i2
      show F_X7_findSlanted_53_3 S K 1 x (Int32.ofNat r) (Int32.ofNat (2 ^ w)) = _
      unfold F_X7_findSlanted_53_3
      rw [hec S s2, if_pos (show Int32.ofNat (2 ^ w - 1) < Int32.ofNat (2 ^ w) from (lt_onn (by omega) (by omega)).mpr (by omega))]
  obtain ⟨S, o1, o2⟩ := lpp_ix (f := fun z : Int32 × WI => F_X7_findSlanted_41_2 (p2 z) K 1 x (p1 z)) (fun r S => CI h w x I r 0 S) (2 ^ h) (fun r S hr hS => by
    have s1 : S 1 1 = Int32.ofNat h := (hS.1 1 1 (by decide)).trans i1
    obtain ⟨S', e1, e2⟩ := hinner r S hr hS
    refine ⟨S', ?_, e2.congr fun r' c' s' z => ?_⟩
    · show F_X7_findSlanted_41_2 S K 1 x (Int32.ofNat r) = _
      unfold F_X7_findSlanted_41_2 F_X7_findSlanted_53_2 F_X7_findSlanted_86_2
      rw [hev S s1, if_neg (show ¬ Int32.ofNat (2 ^ h - 1) < Int32.ofNat r from fun z => absurd ((lt_onn (by omega) (by omega)).mp z) (by omega)), show (0 : Int32) = Int32.ofNat 0 from rfl, e1, ob_some, la1]
    · have := z.2.1
      unfold Bef
      omega) (fun S hS => by
    have s1 : S 1 1 = Int32.ofNat h := (hS.1 1 1 (by decide)).trans i1
    show F_X7_findSlanted_41_2 S K 1 x (Int32.ofNat (2 ^ h)) = _
    unfold F_X7_findSlanted_41_2
    rw [hev S s1, if_pos (show Int32.ofNat (2 ^ h - 1) < Int32.ofNat (2 ^ h) from (lt_onn (by omega) (by omega)).mpr (by omega))]) (2 ^ h) 0 (u2 I 27 0 0) 4294967296 (by omega) (by omega) ⟨fun k j hk => u2_nc (by omega), .inl ⟨by rw [u2_at]; decide, fun r' c' s' q => by unfold Bef at q; omega⟩⟩
  refine ⟨S, K, ?_, k3, o2.1, ?_⟩
  · unfold F_X7_findSlanted F_X7_findSlanted_3 F_X7_findSlanted_33 F_X7_findSlanted_41 F_X7_findSlanted_92
    show (frp0 (fun i y => F_X7_findSlanted_13_1 I y 1 x i) (Int32.ofNat 15) (fu 0 (Int32.ofNat 15)) 0 L).bind (fun q => (lpp (fun z : Int32 × WI => F_X7_findSlanted_41_2 (p2 z) (p2 q) 1 x (p1 z)) 4294967296 (Int32.ofNat 0, u2 I 27 0 0)).bind (fun z => some (z, p2 q))) = _
    rw [k1, ob_some, hKK, o1, ob_some]
  · have hall : ∀ r c s, Sol h w x r c s → Bef (2 ^ h) 0 r c := fun r c s z => .inl z.1
    rcases o2.2 with ⟨a, b⟩ | ⟨a, r0, c0, s0, b1, b2, b3, b4, -, b6⟩
    · exact .inl ⟨a, fun r c s z => b r c s (hall r c s z) z⟩
    · exact .inr ⟨a, r0, c0, s0, b1, b2, b3, b4, fun r c s z => b6 r c s (hall r c s z) z⟩
