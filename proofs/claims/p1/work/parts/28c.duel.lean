theorem k22b : ∀ b ∈ [0, 1], ∀ c ∈ [0, 1], chk_22 3 b c = true := by decide +kernel
theorem s_22i (n q : Nat) (b : Int32) (hb : b = 0 ∨ b = 1) (h1 : 1 ≤ n) (h4 : n ≤ 4) (hq : q ≤ 1) : ∃ v, F_X8_duel I0 L8 (Int32.ofNat n) b (Int32.ofNat q) = some v ∧ ∃ w, F_X9_duel I0 L8 (Int32.ofNat n) b (Int32.ofNat q) = some w ∧ v = p1 w := by
  by_cases c : n = 4
  · subst c
    rcases hb with rfl | rfl
    · exact d4_0 q hq
    · exact d4_1 q hq
  have hk : chk_22 (Int32.ofNat n) b (Int32.ofNat q) = true := by
    have hbm : b ∈ [0, 1] := by rcases hb with rfl | rfl <;> decide
    have hqm : Int32.ofNat q ∈ [0, 1] := by
      rcases (show q = 0 ∨ q = 1 by omega) with rfl | rfl <;> decide
    rcases (show n = 1 ∨ n = 2 ∨ n = 3 by omega) with rfl | rfl | rfl
    · exact k22a 1 (by decide) b hbm _ hqm
    · exact k22a 2 (by decide) b hbm _ hqm
    · exact k22b b hbm _ hqm
  obtain ⟨v, e1, w, e2, e3, _⟩ := sc_22 (a4 := 0) hk
  have hz : nz b = b := by rcases hb with rfl | rfl <;> decide
  rw [hz] at e1 e2
  exact ⟨v, e1, w, e2, e3⟩
theorem s_22 (a1 a2 a3 a4 : Int32) : S_22 (fun _ _ => True) I0 L8 a1 a2 a3 a4 := by
  by_cases h : (1 ≤ a1 ∧ a1 ≤ 4) ∧ (0 ≤ a3 ∧ a3 ≤ 1)
  · obtain ⟨⟨h1, h2⟩, h3, h4⟩ := h
    simp only [Int32.le_iff_toInt_le] at h1 h2 h3 h4
    rw [show (1 : Int32).toInt = 1 by decide] at h1 h4
    rw [show (4 : Int32).toInt = 4 by decide] at h2
    rw [show (0 : Int32).toInt = 0 by decide] at h3
    obtain ⟨n, hn⟩ : ∃ n : Nat, a1.toInt = (n : Int) := ⟨a1.toInt.toNat, by omega⟩
    obtain ⟨q, hq⟩ : ∃ q : Nat, a3.toInt = (q : Int) := ⟨a3.toInt.toNat, by omega⟩
    have hb : nz a2 = 0 ∨ nz a2 = 1 := by
      unfold nz
      split
      · exact .inl rfl
      · exact .inr rfl
    obtain ⟨v, e1, w, e2, e3⟩ := s_22i n q (nz a2) hb (by omega) (by omega) (by omega)
    rw [← on_of hn, ← on_of hq] at e1 e2
    exact ⟨v, e1, w, e2, e3, trivial⟩
  · exact s_22o a1 a2 a3 a4 h
