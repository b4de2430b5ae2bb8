/-! the class's text, kept -/
def FXc (I J : WI) : Prop := ∀ k j, k ≠ 0 → k ≠ 1 → k ≠ 2 → k ≠ 3 → k ≠ 4 → k ≠ 6 → k ≠ 7 → k ≠ 8 → ¬ (k = 9 ∧ j = 0) → (k < 11 ∨ 16 < k) → J k j = I k j
def FXcL (L K : WL) : Prop := ∀ k j, k ≠ 1 → k ≠ 2 → k ≠ 12 → k ≠ 13 → K k j = L k j
def KeptC (c q : Nat × Nat × Nat × Int64) (ds : List (List Nat)) (I : WI) (L : WL) : Prop := (I 1 0 = 1 ∧ I 1 1 = Int32.ofNat (p1 (p2 c)) ∧ I 1 2 = Int32.ofNat (p1 (p2 (p2 c))) ∧ L 1 3 = p2 (p2 (p2 c))) ∧ (I 2 0 = Int32.ofNat (p1 q) ∧ I 2 1 = Int32.ofNat (p1 (p2 q)) ∧ I 2 2 = Int32.ofNat (p1 (p2 (p2 q))) ∧ L 2 3 = p2 (p2 (p2 q))) ∧ I 3 0 = 0 ∧ I 4 0 = 0 ∧ I 6 0 = Int32.ofNat ds.length ∧ ∀ N, N < ds.length → I 7 N = Int32.ofNat (ds.getD N []).length ∧ ∀ j, j < (ds.getD N []).length → I 8 (3 * N + j) = Int32.ofNat ((ds.getD N []).getD j 0)
def FaceEnd (I : WI) (L : WL) (x : Nat ⊕ (Nat × (Nat × Nat × Nat × Int64) × (Nat × Nat × Nat × Int64) × List (List Nat))) (v : Int32) (I' : WI) (L' : WL) : Prop := I' 9 0 = 0 ∧ I' 0 14 = I 0 14 ∧ FXc I I' ∧ FXcL L L' ∧ match x with
  | .inl g => v = -10 - Int32.ofNat g ∧ (∀ k j, k ≠ 0 → ¬ (k = 9 ∧ j = 0) → (k < 11 ∨ 16 < k) → I' k j = I k j) ∧ ∀ k j, k ≠ 12 → k ≠ 13 → L' k j = L k j
  | .inr r => v = Int32.ofNat (p1 r) ∧ KeptC (p1 (p2 r)) (p1 (p2 (p2 r))) (p2 (p2 (p2 r))) I' L' ∧ ImOk (p1 (p2 r)) ∧ ImOk (p1 (p2 (p2 r))) ∧ DsOk (p2 (p2 (p2 r))) ∧ wholeB (p1 (p2 r)) (p1 (p2 (p2 r))) (p2 (p2 (p2 r))) = true
theorem text_C {B : Nat → Nat} {n : Nat} {I : WI} {L : WL} (T : Tap B n I) : ∃ v I' L', F_X8_text I L = some (v, I', L') ∧ FaceEnd I L (textS B n) v I' L' := by
  obtain ⟨v, M, K, r1, r2, r3, r4⟩ := takeText_C (L := L) T
  unfold F_X8_text F_X8_text_100
  rw [r1, ob_some]
  show ∃ v' I' L', (if (u2 (u2 M 0 13 (M 11 3)) 9 0 0) 0 13 = 0 then (Option.bind (F_X1_become (p1 (F_X0_become (u2 (p1 (F_X0_become (u2 (u2 M 0 13 (M 11 3)) 9 0 0) K 1 12)) 1 0 1) (p2 (F_X0_become (u2 (u2 M 0 13 (M 11 3)) 9 0 0) K 1 12)) 2 13)) 6 14) (fun v3 => some (v, u2 (u2 v3 3 0 0) 4 0 0, (p2 (F_X0_become (u2 (p1 (F_X0_become (u2 (u2 M 0 13 (M 11 3)) 9 0 0) K 1 12)) 1 0 1) (p2 (F_X0_become (u2 (u2 M 0 13 (M 11 3)) 9 0 0) K 1 12)) 2 13))))) else some (v, u2 (u2 M 0 13 (M 11 3)) 9 0 0, K)) = some (v', I', L') ∧ _
  rw [u2_nc (by omega), u2_at]
  cases hx : textS B n with
  | inl g =>
    rw [hx] at r4
    rw [if_neg r4.1]
    refine ⟨_, _, _, rfl, u2_at, ?_, fun k j h0 h1 h2 h3 h4 h6 h7 h8 h9 h10 => ?_, fun k j h1 h2 h3 h4 => r3 k j (by omega), r4.2, fun k j h0 h9 h10 => ?_, fun k j h3 h4 => r3 k j (by omega)⟩
    · rw [u2_nc (by omega), u2_nc (by omega)]
      exact r2 0 14 (by omega)
    · rw [u2_nc h9, u2_nc (by omega)]
      exact r2 k j (by omega)
    · rw [u2_nc h9, u2_nc (by omega)]
      exact r2 k j (by omega)
  | inr r =>
    rw [hx] at r4
    obtain ⟨a1, a2, a3, a4, a5, a6, a7⟩ := r4
    obtain ⟨⟨b1, b2, b3, b4⟩, ⟨b5, b6, b7, b8⟩, b9, b10⟩ := a3
    rw [if_pos a2]
    obtain ⟨Z, z1, z2, z3, z4, z5⟩ := become_D (I := (p1 (F_X0_become (u2 (p1 (F_X0_become (u2 (u2 M 0 13 (M 11 3)) 9 0 0) K 1 12)) 1 0 1) (p2 (F_X0_become (u2 (u2 M 0 13 (M 11 3)) 9 0 0) K 1 12)) 2 13)))
    rw [z1, ob_some]
    have hs : ∀ k j, k ≠ 0 → k ≠ 1 → k ≠ 2 → ¬ (k = 9 ∧ j = 0) → (p1 (F_X0_become (u2 (p1 (F_X0_become (u2 (u2 M 0 13 (M 11 3)) 9 0 0) K 1 12)) 1 0 1) (p2 (F_X0_become (u2 (u2 M 0 13 (M 11 3)) 9 0 0) K 1 12)) 2 13)) k j = M k j := fun k j h0 h1 h2 h9 => by
      unfold F_X0_become
      show (u2 (u2 (u2 (u2 (u2 (u2 (u2 (u2 (u2 M 0 13 _) 9 0 0) 1 0 _) 1 1 _) 1 2 _) 1 0 1) 2 0 _) 2 1 _) 2 2 _) k j = _
      rw [u2_nc (by omega), u2_nc (by omega), u2_nc (by omega), u2_nc (by omega), u2_nc (by omega), u2_nc (by omega), u2_nc (by omega), u2_nc h9, u2_nc (by omega)]
    have hz : ∀ k j, k ≠ 3 → k ≠ 4 → (u2 (u2 Z 3 0 0) 4 0 0) k j = Z k j := fun k j h3 h4 => by rw [u2_nc (by omega), u2_nc (by omega)]
    have hv : ∀ k j x, k ≠ 3 → k ≠ 4 → k ≠ 6 → k ≠ 7 → k ≠ 8 → (p1 (F_X0_become (u2 (p1 (F_X0_become (u2 (u2 M 0 13 (M 11 3)) 9 0 0) K 1 12)) 1 0 1) (p2 (F_X0_become (u2 (u2 M 0 13 (M 11 3)) 9 0 0) K 1 12)) 2 13)) k j = x → (u2 (u2 Z 3 0 0) 4 0 0) k j = x := fun k j x h3 h4 h6 h7 h8 h => (hz k j h3 h4).trans ((z5 k j (by omega) h7 h8).trans h)
    have hq0 : bz (M 13 0) = Int32.ofNat (p1 (p1 (p2 (p2 r)))) := by
      rw [b5]
      have := a5.1
      rcases (show p1 (p1 (p2 (p2 r))) = 0 ∨ p1 (p1 (p2 (p2 r))) = 1 by omega) with e | e <;> rw [e] <;> decide
    refine ⟨_, _, _, rfl, ?_, ?_, fun k j h0 h1 h2 h3 h4 h6 h7 h8 h9 h10 => ?_, fun k j h1 h2 h3 h4 => ?_, a1, ⟨⟨?_, ?_, ?_, ?_⟩, ⟨?_, ?_, ?_, ?_⟩, ?_, ?_, ?_, fun N hN => ?_⟩, a4, a5, a6, a7⟩
    · exact hv 9 0 0 (by decide) (by decide) (by decide) (by decide) (by decide) rfl
    · exact hv 0 14 _ (by decide) (by decide) (by decide) (by decide) (by decide) (r2 0 14 (by omega))
    · exact hv k j _ h3 h4 h6 h7 h8 ((hs k j h0 h1 h2 h9).trans (r2 k j h10))
    · show (u2 (u2 K 1 3 _) 2 3 _) k j = _
      rw [u2_nc (by omega), u2_nc (by omega)]
      exact r3 k j (by omega)
    · exact hv 1 0 1 (by decide) (by decide) (by decide) (by decide) (by decide) rfl
    · exact hv 1 1 _ (by decide) (by decide) (by decide) (by decide) (by decide) b2
    · exact hv 1 2 _ (by decide) (by decide) (by decide) (by decide) (by decide) b3
    · exact b4
    · exact hv 2 0 _ (by decide) (by decide) (by decide) (by decide) (by decide) hq0
    · exact hv 2 1 _ (by decide) (by decide) (by decide) (by decide) (by decide) b6
    · exact hv 2 2 _ (by decide) (by decide) (by decide) (by decide) (by decide) b7
    · exact b8
    · rfl
    · rfl
    · rw [hz 6 0 (by decide) (by decide), z2]
      exact b9
    · have hd := a6.2 N hN
      have hM := a6.1
      refine ⟨?_, fun j hj => ?_⟩
      · rw [hz 7 N (by decide) (by decide), z3 N (by omega), hs 15 N (by decide) (by decide) (by decide) (by omega)]
        exact (b10 N hN).1
      · rw [hz 8 _ (by decide) (by decide), z4 _ (by omega), hs 16 _ (by decide) (by decide) (by decide) (by omega)]
        exact (b10 N hN).2 j hj
