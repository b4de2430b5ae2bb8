/-! the class's text -/
theorem lpp_ix {S : Type} {f : Int32 × S → Option (S ⊕ (Int32 × S))} (P : Nat → S → Prop) (N : Nat) (h1 : ∀ i s, i < N → P i s → ∃ s', f (Int32.ofNat i, s) = some (.inr (Int32.ofNat (i + 1), s')) ∧ P (i + 1) s') (h2 : ∀ s, P N s → f (Int32.ofNat N, s) = some (.inl s)) : ∀ (m i : Nat) (s : S) (fuel : Nat), i + m = N → m < fuel → P i s → ∃ s', lpp f fuel (Int32.ofNat i, s) = some s' ∧ P N s' := by
  intro m
  induction m with
  | zero =>
    intro i s fuel hi hf hP
    obtain ⟨fuel, rfl⟩ : ∃ g, fuel = g + 1 := ⟨fuel - 1, by omega⟩
    have e : i = N := by omega
    rw [e] at hP ⊢
    exact ⟨s, lpp_l (h2 s hP), hP⟩
  | succ m ih =>
    intro i s fuel hi hf hP
    obtain ⟨fuel, rfl⟩ : ∃ g, fuel = g + 1 := ⟨fuel - 1, by omega⟩
    obtain ⟨s', e1, e2⟩ := h1 i s (by omega) hP
    rw [lpp_r e1]
    exact ih (i + 1) s' fuel (by omega) (by omega) e2
def CpD (a b : Nat) (I J : WI) : Prop := J 6 0 = I 14 0 ∧ (∀ i, i < a → J 7 i = I 15 i) ∧ (∀ i, i < b → J 8 i = I 16 i) ∧ ∀ k j, ¬ (k = 6 ∧ j = 0) → k ≠ 7 → k ≠ 8 → J k j = I k j
theorem become_D {I : WI} : ∃ J, F_X1_become I 6 14 = some J ∧ CpD 12 36 I J := by
  obtain ⟨J, j1, j2⟩ := lpp_ix (f := fun x : Int32 × WI => F_X1_become_10_1 (p2 x) 6 14 (p1 x)) (fun i s => CpD i 0 I s) 12 (fun i s hi hP => by
    obtain ⟨p1', p2', p3', p4'⟩ := hP
    show ∃ s', F_X1_become_10_1 s 6 14 (Int32.ofNat i) = some (.inr (Int32.ofNat (i + 1), s')) ∧ _
    unfold F_X1_become_10_1
    have hg : ¬ (12 : Int32) ≤ Int32.ofNat i := fun q => absurd ((ge_on (a := 12) (by decide) (by omega)).mp q) (by omega)
    rw [if_neg hg, if_neg hg, if_neg (nin (k := i) (N := 12) hi (by decide)), if_neg (nin (k := i) (N := 12) hi (by decide)), on_clamp (by omega), la1]
    refine ⟨_, rfl, ?_, fun j hj => ?_, fun j hj => absurd hj (Nat.not_lt_zero _), fun k j q1 q2 q3 => ?_⟩
    · rw [u2_nc (by omega)]
      exact p1'
    · by_cases c : j = i
      · rw [c, u2_at]
        exact p4' 15 i (by omega) (by decide) (by decide)
      · rw [u2_nc (by omega)]
        exact p2' j (by omega)
    · rw [u2_nc (by omega)]
      exact p4' k j q1 q2 q3) (fun s _ => by
    show F_X1_become_10_1 s 6 14 (Int32.ofNat 12) = _
    unfold F_X1_become_10_1
    rw [if_pos (by decide)]) 12 0 (u2 I 6 0 (I 14 0)) 4294967296 rfl (by decide) ⟨u2_at, fun j hj => absurd hj (Nat.not_lt_zero _), fun j hj => absurd hj (Nat.not_lt_zero _), fun k j q1 q2 q3 => u2_nc q1⟩
  obtain ⟨K, k1, k2⟩ := lpp_ix (f := fun x : Int32 × WI => F_X1_become_48_2 (p2 x) 6 14 (p1 x)) (fun i s => CpD 12 i I s) 36 (fun i s hi hP => by
    obtain ⟨p1', p2', p3', p4'⟩ := hP
    show ∃ s', F_X1_become_48_2 s 6 14 (Int32.ofNat i) = some (.inr (Int32.ofNat (i + 1), s')) ∧ _
    unfold F_X1_become_48_2
    have hg : ¬ (36 : Int32) ≤ Int32.ofNat i := fun q => absurd ((ge_on (a := 36) (by decide) (by omega)).mp q) (by omega)
    rw [if_neg hg, if_neg hg, if_neg (nin (k := i) (N := 36) hi (by decide)), if_neg (nin (k := i) (N := 36) hi (by decide)), on_clamp (by omega), la1]
    refine ⟨_, rfl, ?_, fun j hj => ?_, fun j hj => ?_, fun k j q1 q2 q3 => ?_⟩
    · rw [u2_nc (by omega)]
      exact p1'
    · rw [u2_nc (by omega)]
      exact p2' j hj
    · by_cases c : j = i
      · rw [c, u2_at]
        exact p4' 16 i (by omega) (by decide) (by decide)
      · rw [u2_nc (by omega)]
        exact p3' j (by omega)
    · rw [u2_nc (by omega)]
      exact p4' k j q1 q2 q3) (fun s _ => by
    show F_X1_become_48_2 s 6 14 (Int32.ofNat 36) = _
    unfold F_X1_become_48_2
    rw [if_pos (by decide)]) 36 0 J 4294967296 rfl (by decide) j2
  refine ⟨K, ?_, k2⟩
  unfold F_X1_become F_X1_become_10 F_X1_become_46 F_X1_become_48 F_X1_become_84
  show (lpp (fun x : Int32 × WI => F_X1_become_10_1 (p2 x) 6 14 (p1 x)) 4294967296 (Int32.ofNat 0, u2 I 6 0 (I 14 0))).bind _ = _
  rw [j1, ob_some]
  show (lpp (fun x : Int32 × WI => F_X1_become_48_2 (p2 x) 6 14 (p1 x)) 4294967296 (Int32.ofNat 0, J)).bind _ = _
  rw [k1, ob_some]
/-- the whole text -/
def c0 : Nat × Nat × Nat × Int64 := (0, 4, 4, 0)
theorem c0_ok : ImOk c0 := ⟨by decide, ⟨⟨by decide, by decide⟩, by decide, by decide⟩, fun k h => absurd h M_0, fun _ => rfl⟩
def textS (B : Nat → Nat) (n : Nat) : Nat ⊕ (Nat × (Nat × Nat × Nat × Int64) × (Nat × Nat × Nat × Int64) × List (List Nat)) := Sum.elim .inl (fun r => if wholeB (p1 (p2 r)) (p1 (p2 (p2 r))) (p2 (p2 (p2 r))) = true then .inr r else .inl n) (linesC B n (n + 1) 0 c0 c0 [] 0)
def TextEnd (I : WI) (L : WL) (x : Nat ⊕ (Nat × (Nat × Nat × Nat × Int64) × (Nat × Nat × Nat × Int64) × List (List Nat))) (v : Int32) (I' : WI) (L' : WL) : Prop := Fp I I' ∧ FpL L L' ∧ match x with
  | .inl g => ¬ I' 11 3 = 0 ∧ v = -10 - Int32.ofNat g
  | .inr r => v = Int32.ofNat (p1 r) ∧ I' 11 3 = 0 ∧ DraftC (p1 (p2 r)) (p1 (p2 (p2 r))) (p2 (p2 (p2 r))) I' L' ∧ ImOk (p1 (p2 r)) ∧ ImOk (p1 (p2 (p2 r))) ∧ DsOk (p2 (p2 (p2 r))) ∧ wholeB (p1 (p2 r)) (p1 (p2 (p2 r))) (p2 (p2 (p2 r))) = true
theorem takeText_C {B : Nat → Nat} {n : Nat} {I : WI} {L : WL} (T : Tap B n I) : ∃ v I' L', F_X6_takeText I L = some (v, I', L') ∧ TextEnd I L (textS B n) v I' L' := by
  have hn : n ≤ 320 := T.1
  unfold F_X6_takeText F_X1_clear F_X0_forget
  simp only [p1, p2]
  generalize hJ : (u2 (u2 (u2 (u2 (u2 (u2 (u2 (u2 (u2 (u2 I 12 0 0) 12 1 4) 12 2 4) 13 0 0) 13 1 4) 13 2 4) 14 0 0) 11 3 0) 11 5 0) 11 8 0) = J
  generalize hK : (u2 (u2 L 12 3 0) 13 3 0) = K
  have hfp : Fp I J := by
    rw [← hJ]
    exact (((((((((Fp.rfl.u (by decide) (by decide)).u (by decide) (by decide)).u (by decide) (by decide)).u (by decide) (by decide)).u (by decide) (by decide)).u (by decide) (by decide)).u (by decide) (by decide)).u (by decide) (by decide)).u (by decide) (by decide)).u (by decide) (by decide)
  have hfl : FpL L K := by
    rw [← hK]
    exact (FpL.rfl.u (.inl rfl)).u (.inr rfl)
  have D : DraftC c0 c0 [] J K := by
    refine ⟨⟨?_, ?_, ?_, ?_⟩, ⟨?_, ?_, ?_, ?_⟩, ?_, fun N hN => absurd hN (Nat.not_lt_zero _)⟩ <;> first | rw [← hJ] | rw [← hK]
    all_goals rfl
  obtain ⟨a', I', L', r1, r2, r3, r4⟩ := linesC_C (n + 1) 0 c0 c0 [] 0 J K 4294967296 (by omega) (by omega) (by omega) (hfp.tap T) (by omega) (by rw [← hJ]; rfl) (by rw [← hJ]; rfl) c0_ok c0_ok ⟨by decide, fun N hN => absurd hN (Nat.not_lt_zero _)⟩ D
  have h38 : ∀ r, F_X6_takeText_58 I' L' a' = r → F_X6_takeText_38 J K 0 = r := fun r h => by
    unfold F_X6_takeText_38
    show (lpp (fun x => F_X6_takeText_38_1 (p1 (p2 x)) (p2 (p2 x)) (p1 x)) 4294967296 (Int32.ofNat 0, J, K)).bind _ = _
    rw [r1]
    exact h
  suffices hs : ∃ v I'' L'', F_X6_takeText_58 I' L' a' = some (v, I'', L'') ∧ TextEnd J K (textS B n) v I'' L'' by
    obtain ⟨v, I'', L'', g1, g2, g3, g4⟩ := hs
    exact ⟨v, I'', L'', h38 _ g1, hfp.trans g2, hfl.trans g3, g4⟩
  unfold F_X6_takeText_58 F_X6_takeText_69 F_X6_takeText_87 textS
  cases hx : linesC B n (n + 1) 0 c0 c0 [] 0 with
  | inl g =>
    rw [hx] at r4
    rw [if_neg r4.1, if_neg r4.1, r4.2]
    exact ⟨_, _, _, rfl, r2, r3, r4.1, rfl⟩
  | inr r =>
    rw [hx] at r4
    obtain ⟨a1, a2, a3, a4, a5, a6, a7⟩ := r4
    obtain ⟨M, m1, m2, m3⟩ := judge_C a4 a5 a6 a7 a2 a3
    rw [if_pos a2, m1, ob_some]
    show ∃ v I'' L'', _ = _ ∧ TextEnd J K (if wholeB (p1 (p2 r)) (p1 (p2 (p2 r))) (p2 (p2 (p2 r))) = true then .inr r else .inl n) v I'' L''
    by_cases w : wholeB (p1 (p2 r)) (p1 (p2 (p2 r))) (p2 (p2 (p2 r))) = true
    · rw [if_pos w] at m3 ⊢
      rw [if_pos m3.1]
      exact ⟨_, _, _, rfl, r2.trans m2.fp, r3, a1, m3.1, a4.ft m2, a5, a6, a7, w⟩
    · rw [if_neg w] at m3 ⊢
      rw [if_neg m3.1, m3.2]
      exact ⟨_, _, _, rfl, r2.trans m2.fp, r3, m3.1, rfl⟩
