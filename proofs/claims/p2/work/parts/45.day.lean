/-! days of the text, as they are read: the class -/
def kdS (B : Nat → Nat) (f e : Nat) : Nat := if nmb B f e 3 = true then 0 else if nmb B f e 4 = true then 1 else if nmb B f e 5 = true then 2 else 3
def okNum (B : Nat → Nat) (n kd f : Nat) : Bool := tk B n f == 2 && decide (tv B n f ≤ if kd = 2 then 14 else 7)
def actsS (B : Nat → Nat) (n : Nat) : Nat → List Nat → Nat → Nat ⊕ (Nat × List Nat)
  | 0, _, p => .inl (tf B n p)
  | u + 1, l, p => if 0 < l.length ∧ tk B n (tf B n p) = 3 then .inr (te B n (tf B n p), l) else if tk B n (tf B n p) = 1 ∧ kdS B (tf B n p) (te B n (tf B n p)) < 3 ∧ l.length < 3 then (if okNum B n (kdS B (tf B n p) (te B n (tf B n p))) (tf B n (te B n (tf B n p))) = true then actsS B n u (l ++ [20 * kdS B (tf B n p) (te B n (tf B n p)) + tv B n (tf B n (te B n (tf B n p)))]) (te B n (tf B n (te B n (tf B n p)))) else .inl (tf B n (te B n (tf B n p)))) else .inl (tf B n p)
theorem kind_C {B : Nat → Nat} {n k f e : Nat} {I : WI} (T : Tap B n I) (A : AtC n I k f e) (hk : k ≤ 4) : F_X6_kindNamed I = some (if k = 1 ∧ kdS B f e < 3 then Int32.ofNat (kdS B f e) else -1) := by
  unfold F_X6_kindNamed F_X6_kindNamed_36 kdS
  rw [named_C T A hk (by decide : 3 < 6), named_C T A hk (by decide : 4 < 6), named_C T A hk (by decide : 5 < 6), ob_some, ob_some, ob_some]
  by_cases c : k = 1
  · by_cases c3 : nmb B f e 3 = true
    · rw [if_pos ⟨c, c3⟩, if_neg (show ¬ (1 : Int32) = 0 by decide), if_pos c3, if_pos ⟨c, by decide⟩]
      rfl
    rw [if_neg (show ¬ (k = 1 ∧ nmb B f e 3 = true) from fun q => c3 q.2), if_pos rfl, if_neg c3]
    by_cases c4 : nmb B f e 4 = true
    · rw [if_pos ⟨c, c4⟩, if_neg (show ¬ (1 : Int32) = 0 by decide), if_pos c4, if_pos ⟨c, by decide⟩]
      rfl
    rw [if_neg (show ¬ (k = 1 ∧ nmb B f e 4 = true) from fun q => c4 q.2), if_pos rfl, if_neg c4]
    by_cases c5 : nmb B f e 5 = true
    · rw [if_pos ⟨c, c5⟩, if_neg (show ¬ (1 : Int32) = 0 by decide), if_pos c5, if_pos ⟨c, by decide⟩]
      rfl
    · rw [if_neg (show ¬ (k = 1 ∧ nmb B f e 5 = true) from fun q => c5 q.2), if_pos rfl, if_neg c5, if_neg fun q => absurd q.2 (by decide)]
  · rw [if_neg (show ¬ (k = 1 ∧ nmb B f e 3 = true) from fun q => c q.1), if_pos rfl, if_neg (show ¬ (k = 1 ∧ nmb B f e 4 = true) from fun q => c q.1), if_pos rfl, if_neg (show ¬ (k = 1 ∧ nmb B f e 5 = true) from fun q => c q.1), if_pos rfl, if_neg fun q => c q.1]
/-- what may change while a day N is read -/
def Fd (N : Nat) (I J : WI) : Prop := ∀ k j, k ≠ 11 → ¬ (k = 15 ∧ j = N) → ¬ (k = 16 ∧ 3 * N ≤ j) → J k j = I k j
theorem Ft.fd {N : Nat} {I J : WI} (h : Ft I J) : Fd N I J := fun k j a _ _ => h k j a
theorem Fd.trans {N : Nat} {I J K : WI} (a : Fd N I J) (b : Fd N J K) : Fd N I K := fun k j p q r => (b k j p q r).trans (a k j p q r)
theorem Fd.tap {N : Nat} {I J : WI} {B : Nat → Nat} {n : Nat} (a : Fd N I J) (T : Tap B n I) : Tap B n J := T.ag fun k j h => a k j (by omega) (by omega) (by omega)
/-- the acts of the day that is read -/
def DayC (N : Nat) (l : List Nat) (I : WI) : Prop := I 14 0 = Int32.ofNat (N + 1) ∧ I 15 N = Int32.ofNat l.length ∧ ∀ j, j < l.length → I 16 (3 * N + j) = Int32.ofNat (l.getD j 0)
def DayEnd (N : Nat) (I : WI) (x : Nat ⊕ (Nat × List Nat)) (v : Int32) (I' : WI) : Prop := Fd N I I' ∧ match x with
  | .inl g => v = 0 ∧ Fa g I'
  | .inr r => v = 1 ∧ I' 11 3 = 0 ∧ I' 11 8 = Int32.ofNat (p1 r) ∧ DayC N (p2 r) I'
theorem add_C {N kd v : Nat} {l : List Nat} {I : WI} (hN : N < 12) (hl : l.length < 3) (D : DayC N l I) : ∃ I', F_X1_add I 14 (Int32.ofNat kd) (Int32.ofNat v) = I' ∧ Fd N I I' ∧ (∀ j, I' 11 j = I 11 j) ∧ DayC N (l ++ [20 * kd + v]) I' := by
  obtain ⟨d1, d2, d3⟩ := D
  have ha : F_X1_actsOf I 14 (Int32.ofNat N) = Int32.ofNat l.length := by
    unfold F_X1_actsOf F_X1_actsOf_31
    rw [d1, if_neg (by first | omega | (simp (disch := omega) only [Int32.lt_iff_toInt_lt, Int32.le_iff_toInt_le, ← Int32.toInt_inj, on_toInt, on_clamp, ti64, z0, z1, z2, zm1, i0, i1, im1, zz3, zz4, zz5, zz6, zz7, zz8, zz9, zz10, zz11, zz12, zz13, zz14, zz15, zz16, zz17, zz18, zz19, zz20, zz21, zz22, zz23, zz24, zz25, zz26, zz27, zz28, zz29, zz30, zz31, zz32, zz33, zz34, zz35, zz36, zz37, zz38, zz39, zz40, zz41, zz48, zz60, zz64, zz160, zz312, zz320, zzm2, zzm3, zzm4, zzm5, zzm6, zzm7, zzm8, zzm9, zzm10]; done) | (simp (disch := omega) only [Int32.lt_iff_toInt_lt, Int32.le_iff_toInt_le, ← Int32.toInt_inj, on_toInt, on_clamp, ti64, z0, z1, z2, zm1, i0, i1, im1, zz3, zz4, zz5, zz6, zz7, zz8, zz9, zz10, zz11, zz12, zz13, zz14, zz15, zz16, zz17, zz18, zz19, zz20, zz21, zz22, zz23, zz24, zz25, zz26, zz27, zz28, zz29, zz30, zz31, zz32, zz33, zz34, zz35, zz36, zz37, zz38, zz39, zz40, zz41, zz48, zz60, zz64, zz160, zz312, zz320, zzm2, zzm3, zzm4, zzm5, zzm6, zzm7, zzm8, zzm9, zzm10]; omega)), if_neg (show ¬ Int32.ofNat (N + 1) ≤ Int32.ofNat N from fun q => absurd ((ge_on (by omega) (by omega)).mp q) (by omega)), if_neg (by first | omega | (simp (disch := omega) only [Int32.lt_iff_toInt_lt, Int32.le_iff_toInt_le, ← Int32.toInt_inj, on_toInt, on_clamp, ti64, z0, z1, z2, zm1, i0, i1, im1, zz3, zz4, zz5, zz6, zz7, zz8, zz9, zz10, zz11, zz12, zz13, zz14, zz15, zz16, zz17, zz18, zz19, zz20, zz21, zz22, zz23, zz24, zz25, zz26, zz27, zz28, zz29, zz30, zz31, zz32, zz33, zz34, zz35, zz36, zz37, zz38, zz39, zz40, zz41, zz48, zz60, zz64, zz160, zz312, zz320, zzm2, zzm3, zzm4, zzm5, zzm6, zzm7, zzm8, zzm9, zzm10]; done) | (simp (disch := omega) only [Int32.lt_iff_toInt_lt, Int32.le_iff_toInt_le, ← Int32.toInt_inj, on_toInt, on_clamp, ti64, z0, z1, z2, zm1, i0, i1, im1, zz3, zz4, zz5, zz6, zz7, zz8, zz9, zz10, zz11, zz12, zz13, zz14, zz15, zz16, zz17, zz18, zz19, zz20, zz21, zz22, zz23, zz24, zz25, zz26, zz27, zz28, zz29, zz30, zz31, zz32, zz33, zz34, zz35, zz36, zz37, zz38, zz39, zz40, zz41, zz48, zz60, zz64, zz160, zz312, zz320, zzm2, zzm3, zzm4, zzm5, zzm6, zzm7, zzm8, zzm9, zzm10]; omega)), on_clamp (by omega), d2]
  sorry
