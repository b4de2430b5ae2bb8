/-! a line of the text, as it is read: the reference -/
theorem tail_f {g : Nat} {I : WI} {L : WL} (h : Fm g I) : F_X9_readLine_191 I L = some (I, L) := by
  unfold F_X9_readLine_191 F_X9_readLine_216
  rw [if_neg h.ne, h.next, ob_some]
theorem tail_M {B : Nat → Nat} {n p : Nat} {I : WI} {L : WL} (T : TapM B n I) (hp : p ≤ n) (A : MAt B n p I) (c4 : tk B n (tf B n p) ≠ 4) : ∃ I', F_X9_readLine_191 I L = some (I', L) ∧ Fn I I' ∧ if tk B n (tf B n p) = 3 then MAt B n (te B n (tf B n p)) I' else Fm (tf B n p) I' := by
  have hfp := tf_le (B := B) hp
  have hte := te_le (B := B) (f := tf B n p) hfp.2
  obtain ⟨⟨a1, a2, a3, a4, a5⟩, h26, -⟩ := A.1 c4
  unfold F_X9_readLine_191 F_X9_readLine_212 F_X9_readLine_216
  rw [if_pos h26, a1]
  by_cases d : tk B n (tf B n p) = 3
  · rw [if_pos (show Int32.ofNat (tk B n (tf B n p)) = 3 by rw [d]; rfl), needs_1]
    simp only [if_pos d]
    obtain ⟨V, v1, S⟩ := next_M T hte.2.1 a3 h26
    rw [v1, ob_some]
    exact ⟨V, rfl, S.1, S.at hte.2.1⟩
  · have hk := hte.2.2.2.2.2.1
    rw [if_neg (show ¬ Int32.ofNat (tk B n (tf B n p)) = 3 from fun q => d (on_inj (b := 3) (by omega) (by decide) q))]
    simp only [if_neg d]
    obtain ⟨hF, hN⟩ := needs_at (c := 2) h26 a2 (by decide)
    rw [hF.next, ob_some]
    exact ⟨_, rfl, hN, hF⟩
theorem readRows_M {B : Nat → Nat} {n p : Nat} {I : WI} {L : WL} (T : TapM B n I) (hp : p ≤ n) (A : MAt B n p I) : ∃ I' L', F_X9_readRows I L = some (I', L') ∧ RowsM B n I L (rowsS B n 9 0 0 0 p) I' L' := by
  have hfr : Fq I (u2 (u2 I 33 28 0) 33 29 0) := (Fq.rfl.u (by decide) (by decide)).u (by decide) (by decide)
  have hA : MAt B n p (u2 (u2 I 33 28 0) 33 29 0) := by
    have e : ∀ j, j < 28 → (u2 (u2 I 33 28 0) 33 29 0) 33 j = I 33 j := fun j hj => by rw [u2_nc (by omega), u2_nc (by omega)]
    unfold MAt AtM Fm at A ⊢
    rw [e 24 (by decide), e 23 (by decide), e 22 (by decide), e 26 (by decide), e 25 (by decide), e 27 (by decide)]
    exact A
  obtain ⟨I', L', r1, r2, r3, r4⟩ := rows_M (B := B) (n := n) 9 0 0 1 (u2 (u2 I 33 28 0) 33 29 0) (u2 L 33 30 0) p 4294967296 (by decide) (by decide) (hfr.tap T) hp hA (fun _ => by rw [if_pos (.inl rfl)]) (by rw [u2_nc (by omega), u2_at]; rfl) u2_at (by decide) (by decide)
  rw [u2_at] at r4
  refine ⟨I', L', ?_, hfr.trans r2, FqL.rfl.u.trans r3, r4⟩
  unfold F_X9_readRows F_X9_readRows_17 F_X9_readRows_189
  rw [r1, ob_some]
  rfl
theorem readDay_M {B : Nat → Nat} {n p N : Nat} {I : WI} (hN : N < 12) (T : TapM B n I) (hp : p ≤ n) (A : MAt B n p I) (h18 : I 33 18 = Int32.ofNat N) : ∃ I', F_X9_readDay I = some I' ∧ (∀ k j, ¬ (k = 33 ∧ 22 ≤ j ∧ j ≤ 27) → ¬ (k = 33 ∧ j = 18) → ¬ (k = 38 ∧ 4 * N ≤ j) → I' k j = I k j) ∧ ((∃ g, actsS B n 4 [] p = .inl g ∧ Fm g I') ∨ ∃ p' l, p' ≤ n ∧ MAt B n p' I' ∧ tk B n (tf B n p') ≠ 4 ∧ (if tk B n (tf B n p') = 3 then actsS B n 4 [] p = .inr (te B n (tf B n p'), l) else actsS B n 4 [] p = .inl (tf B n p')) ∧ I' 33 18 = Int32.ofNat (N + 1) ∧ I' 38 (4 * N) = Int32.ofNat l.length ∧ l.length ≤ 3 ∧ ∀ j, j < l.length → I' 38 (4 * N + 1 + j) = Int32.ofNat (l.getD j 0)) := by
  obtain ⟨c, V, r1, r2, r3⟩ := acts_M (B := B) (n := n) hN 4 [] 1 I p 4294967296 rfl (by decide) T hp A (fun _ => by rw [if_pos (.inl rfl)]) h18 (fun j hj => absurd hj (Nat.not_lt_zero _)) (by decide)
  have h0 : F_X9_readDay I = F_X9_readDay_40 V c := by
    unfold F_X9_readDay F_X9_readDay_4
    show (lpp (fun x => F_X9_readDay_4_1 (p2 (p2 x)) (p1 x) (p1 (p2 x))) 4294967296 (Int32.ofNat ([] : List Nat).length, 1, I)).bind _ = _
    rw [r1]
    rfl
  rw [h0]
  unfold F_X9_readDay_40 F_X9_readDay_69
  rcases r3 with ⟨g, g1, g2⟩ | ⟨p', l, q1, q2, q3, q4, q5, q6, q7⟩
  · rw [if_neg g2.ne]
    exact ⟨V, rfl, fun k j a _ b => r2 k j a b, .inl ⟨g, g1, g2⟩⟩
  · have h18' : V 33 18 = Int32.ofNat N := (r2 33 18 (by omega) (by omega)).trans h18
    rw [if_pos (q2.1 q3).2.1, h18', lm4, if_neg (nin (k := 4 * N) (N := 48) (by omega) (by decide)), on_clamp (by omega), u2_nc (by omega), h18', la1, q5]
    have e : ∀ j, j ≠ 18 → (u2 (u2 V 38 (4 * N) (Int32.ofNat l.length)) 33 18 (Int32.ofNat (N + 1))) 33 j = V 33 j := fun j hj => by rw [u2_nc (by omega), u2_nc (by omega)]
    refine ⟨_, rfl, fun k j a b d => ?_, .inr ⟨p', l, q1, ?_, q3, q4, u2_at, ?_, q6, fun j hj => ?_⟩⟩
    · rw [u2_nc b, u2_nc (by omega)]
      exact r2 k j a d
    · unfold MAt AtM Fm at q2 ⊢
      rw [e 24 (by decide), e 23 (by decide), e 22 (by decide), e 26 (by decide), e 25 (by decide), e 27 (by decide)]
      exact q2
    · rw [u2_nc (by omega), u2_at]
    · rw [u2_nc (by omega), u2_nc (by omega)]
      exact q7 j hj
