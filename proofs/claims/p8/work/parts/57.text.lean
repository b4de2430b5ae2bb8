/-! text: class and reference alike -/
theorem E_2 {I : WI} {L : WL} (H : Inv I L) : ∃ v, (F_X8_text I L) = some v ∧ ∃ w, (F_X9_text (p1 (p2 v)) (p2 (p2 v))) = some w ∧ (p1 v) = (p1 w) ∧ Inv (p1 (p2 w)) (p2 (p2 w)) := by
  obtain ⟨⟨hh, ww, iC, iP⟩, iK0, iK1, iD, iT, iS, i46⟩ := H
  obtain ⟨B, n, T⟩ := iT.tap
  obtain ⟨v, I1, L1, r1, c9, c14, cF, cFL, cE⟩ := text_C (L := L) T
  have TM : TapM B n I1 := T.m.ag fun k j h => cF k j (by omega) (by omega) (by omega) (by omega) (by omega) (by omega) (by omega) (by omega) (by omega) (by omega)
  obtain ⟨u, I2, L2, s1, m21, mF, m46, mL, mE⟩ := text_M (L := L1) TM
  refine ⟨_, r1, _, s1, ?_⟩
  show v = u ∧ Inv I2 L2
  have hT : InvT I2 := ⟨0, by decide, (mF 9 0 (by decide) (by decide) (by decide) (by decide)).trans c9, m21, fun j hj => absurd hj (Nat.not_lt_zero _)⟩
  have hS : ∀ k, k < 4 → InvS I2 k := fun k hk => (by
    have e : ∀ a j, (a = 19 + 2 * k ∨ a = 20 + 2 * k ∨ a = 42 ∨ a = 43 ∨ a = 44) → I2 a j = I a j := fun a j h => (mF a j (by omega) (by omega) (by omega) (by omega)).trans (cF a j (by omega) (by omega) (by omega) (by omega) (by omega) (by omega) (by omega) (by omega) (by omega) (by omega))
    have q := iS k hk
    unfold InvS at q ⊢
    rw [e _ 0 (.inl rfl), e _ 1 (.inl rfl), e 42 k (by omega), e 43 k (by omega)]
    rcases q with q | ⟨a, l, h1, h2, h3, h4, h5, h6, h7⟩
    · exact .inl q
    · exact .inr ⟨a, l, h1, h2, h3, h4, h5, h6, fun i hi => by rw [e _ i (.inr (.inl rfl)), e 44 _ (by omega)]; exact h7 i hi⟩)
  have h46 : I2 0 14 = I2 33 46 := by
    rw [mF 0 14 (by decide) (by decide) (by decide) (by decide), c14, m46, i46]
    exact (cF 33 46 (by decide) (by decide) (by decide) (by decide) (by decide) (by decide) (by decide) (by decide) (by decide) (by decide)).symm
  cases hx : textS B n with
  | inl g =>
    rw [hx] at cE mE
    obtain ⟨cv, cI, cL⟩ := cE
    obtain ⟨mv, mI, m6, mL4⟩ := mE
    refine ⟨cv.trans mv.symm, ?_⟩
    have eI : ∀ k j, k ≠ 0 → ¬ (k = 9 ∧ j = 0) → (k < 11 ∨ 16 < k) → k ≠ 33 → k ≠ 38 → I2 k j = I k j := fun k j a b c d e => (mI k j d e).trans (cI k j a b c)
    have e33 : ∀ j, j < 6 → I2 33 j = I 33 j := fun j hj => (m6 j hj).trans (cI 33 j (by decide) (by omega) (by decide))
    have eL : ∀ k j, k ≠ 12 → k ≠ 13 → k ≠ 33 → L2 k j = L k j := fun k j a b c => (mL k j c).trans (cL k j a b)
    have eL33 : ∀ j, j < 4 → L2 33 j = L 33 j := fun j hj => (mL4 j hj).trans (cL 33 j (by decide) (by decide))
    refine ⟨⟨hh, ww, ?_, ?_⟩, ?_, ?_, ?_, hT, hS, h46⟩
    · unfold InvC at iC ⊢
      rw [eI 1 1 (by decide) (by decide) (by decide) (by decide) (by decide), eI 1 2 (by decide) (by decide) (by decide) (by decide) (by decide), eI 1 0 (by decide) (by decide) (by decide) (by decide) (by decide), e33 0 (by decide), e33 1 (by decide), eL33 2 (by decide), eL 1 3 (by decide) (by decide) (by decide)]
      exact iC
    · unfold InvP at iP ⊢
      rw [eI 2 1 (by decide) (by decide) (by decide) (by decide) (by decide), eI 2 2 (by decide) (by decide) (by decide) (by decide) (by decide), eI 2 0 (by decide) (by decide) (by decide) (by decide) (by decide), e33 4 (by decide), eL33 3 (by decide), eL 2 3 (by decide) (by decide) (by decide)]
      exact iP
    · unfold InvK at iK0 ⊢
      rw [eI (3 + 0) 0 (by decide) (by decide) (by decide) (by decide) (by decide), eI (3 + 0) 1 (by decide) (by decide) (by decide) (by decide) (by decide), eI (3 + 0) 2 (by decide) (by decide) (by decide) (by decide) (by decide), eI 36 0 (by decide) (by decide) (by decide) (by decide) (by decide), eI 37 0 (by decide) (by decide) (by decide) (by decide) (by decide), eL 35 0 (by decide) (by decide) (by decide), eL (3 + 0) 3 (by decide) (by decide) (by decide)]
      exact iK0
    · unfold InvK at iK1 ⊢
      rw [eI (3 + 1) 0 (by decide) (by decide) (by decide) (by decide) (by decide), eI (3 + 1) 1 (by decide) (by decide) (by decide) (by decide) (by decide), eI (3 + 1) 2 (by decide) (by decide) (by decide) (by decide) (by decide), eI 36 1 (by decide) (by decide) (by decide) (by decide) (by decide), eI 37 1 (by decide) (by decide) (by decide) (by decide) (by decide), eL 35 1 (by decide) (by decide) (by decide), eL (3 + 1) 3 (by decide) (by decide) (by decide)]
      exact iK1
    · obtain ⟨N, h1, h2, h3, h4⟩ := iD
      refine ⟨N, h1, (eI 6 0 (by decide) (by decide) (by decide) (by decide) (by decide)).trans h2, (e33 5 (by decide)).trans h3, fun d hd => ?_⟩
      obtain ⟨m, g1, g2, g3, g4⟩ := h4 d hd
      refine ⟨m, g1, (eI 7 d (by decide) (by omega) (by decide) (by decide) (by decide)).trans g2, (eI 34 _ (by decide) (by omega) (by decide) (by decide) (by decide)).trans g3, fun i hi => ?_⟩
      obtain ⟨c, f1, f2, f3⟩ := g4 i hi
      exact ⟨c, f1, (eI 8 _ (by decide) (by omega) (by decide) (by decide) (by decide)).trans f2, (eI 34 _ (by decide) (by omega) (by decide) (by decide) (by decide)).trans f3⟩
  | inr r =>
    rw [hx] at cE mE
    obtain ⟨cv, ⟨⟨k1, k2, k3, k4⟩, ⟨k5, k6, k7, k8⟩, k9, k10, k11, k12⟩, oc, oq, od, ow⟩ := cE
    obtain ⟨mv, ⟨q1, q2, q3⟩, ⟨q4, q5⟩, q6, q7, q8, q9⟩ := mE
    refine ⟨cv.trans mv.symm, ?_⟩
    have hI : ∀ k j x, k ≠ 33 → k ≠ 34 → k ≠ 36 → k ≠ 38 → I1 k j = x → I2 k j = x := fun k j x a b c d e => (mF k j a b c d).trans e
    have hL : ∀ k j x, k ≠ 33 → L1 k j = x → L2 k j = x := fun k j x a e => (mL k j a).trans e
    have hsame : sameB (p1 (p2 r)) (p1 (p2 (p2 r))) = true := by
      unfold wholeB at ow
      rw [ab_and, Bool.and_eq_true] at ow
      exact ow.1
    have hw2 : p1 (p1 (p2 (p2 r))) = 1 → p1 (p2 (p1 (p2 (p2 r)))) = p1 (p2 (p1 (p2 r))) ∧ p1 (p2 (p2 (p1 (p2 (p2 r))))) = p1 (p2 (p2 (p1 (p2 r)))) := fun h => by
      unfold sameB at hsame
      rw [h, show ((1 : Nat) == 0) = false from rfl, Bool.false_or, Bool.and_eq_true, beq_iff_eq, beq_iff_eq] at hsame
      exact hsame
    have hb : bz (Int32.ofNat (p1 (p1 (p2 (p2 r))))) = Int32.ofNat (p1 (p1 (p2 (p2 r)))) := by
      have := oq.1
      rcases (show p1 (p1 (p2 (p2 r))) = 0 ∨ p1 (p1 (p2 (p2 r))) = 1 by omega) with e | e <;> rw [e] <;> decide
    have hb1 : Int32.ofNat (p1 (p1 (p2 (p2 r)))) = 1 → p1 (p1 (p2 (p2 r))) = 1 := fun h => by
      have := oq.1
      exact on_inj (b := 1) (by omega) (by decide) h
    have e20 : I2 2 0 = Int32.ofNat (p1 (p1 (p2 (p2 r)))) := hI 2 0 _ (by decide) (by decide) (by decide) (by decide) k5
    have e23 : L2 2 3 = p2 (p2 (p2 (p1 (p2 (p2 r))))) := hL 2 3 _ (by decide) k8
    have e13 : L2 1 3 = p2 (p2 (p2 (p1 (p2 r)))) := hL 1 3 _ (by decide) k4
    refine ⟨⟨p1 (p2 (p1 (p2 r))), p1 (p2 (p2 (p1 (p2 r)))), ⟨oc.2.1, hI 1 1 _ (by decide) (by decide) (by decide) (by decide) k2, hI 1 2 _ (by decide) (by decide) (by decide) (by decide) k3, q1, q2, q3.trans e13.symm, ?_, ?_⟩, ⟨⟨_, _, oq.2.1, hI 2 1 _ (by decide) (by decide) (by decide) (by decide) k6, hI 2 2 _ (by decide) (by decide) (by decide) (by decide) k7, fun h => ?_⟩, ?_, fun h => ⟨q5.trans e23.symm, ?_⟩⟩⟩, ⟨fun _ => ?_, fun h => ?_⟩, ⟨fun _ => ?_, fun h => ?_⟩, ⟨_, od.1, hI 6 0 _ (by decide) (by decide) (by decide) (by decide) k11, q8, fun d hd => ?_⟩, hT, hS, h46⟩
    · rw [e13]
      exact oc.2.2.1
    · rw [hI 1 0 _ (by decide) (by decide) (by decide) (by decide) k1]
      decide
    · rw [e20, hb] at h
      exact hw2 (hb1 h)
    · rw [q4, e20]
    · rw [e20, hb] at h
      obtain ⟨w1, w2⟩ := hw2 (hb1 h)
      rw [e23, ← w1, ← w2]
      exact oq.2.2.1
    · rw [q6]
      decide
    · rw [show I2 (3 + 0) 0 = 0 from hI 3 0 _ (by decide) (by decide) (by decide) (by decide) k9] at h
      exact absurd h (by decide)
    · rw [q7]
      decide
    · rw [show I2 (3 + 1) 0 = 0 from hI 4 0 _ (by decide) (by decide) (by decide) (by decide) k10] at h
      exact absurd h (by decide)
    · obtain ⟨o1, o2, o3⟩ := od.2 d hd
      obtain ⟨c1, c2⟩ := k12 d hd
      obtain ⟨d1, d2⟩ := q9 d hd
      exact ⟨_, o2, hI 7 d _ (by decide) (by decide) (by decide) (by decide) c1, d1, fun i hi => ⟨_, o3 i hi, hI 8 _ _ (by decide) (by decide) (by decide) (by decide) (c2 i hi), d2 i hi⟩⟩
