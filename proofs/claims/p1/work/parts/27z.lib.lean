/-- a partial counted loop, by what holds before each step (P i s: before step i) -/
theorem frp0_ind {S : Type} {g : Int32 → S → Option S} {B : Int32} (P : Int → S → Prop) (lo : Int) (h : ∀ (i : Int32) (s : S), lo ≤ i.toInt → i.toInt < B.toInt → P i.toInt s → ∃ s', g i s = some s' ∧ P (i.toInt + 1) s') : ∀ (n : Nat) (c : Int32) (s : S), lo ≤ c.toInt → c.toInt ≤ B.toInt → (B.toInt - c.toInt).toNat ≤ n → P c.toInt s → ∃ e, frp0 g B n c s = some e ∧ P B.toInt (p2 e) := by
  intro n
  induction n with
  | zero =>
    intro c s h0 h1 h2 hP
    rw [frp0]
    have e : c.toInt = B.toInt := by omega
    exact ⟨(c, s), rfl, e ▸ hP⟩
  | succ n ih =>
    intro c s h0 h1 h2 hP
    rw [frp0]
    by_cases hc : B ≤ c
    · rw [if_pos hc]
      rw [Int32.le_iff_toInt_le] at hc
      have e : c.toInt = B.toInt := by omega
      exact ⟨(c, s), rfl, e ▸ hP⟩
    · rw [if_neg hc]
      have u := up_lt hc
      rw [Int32.le_iff_toInt_le] at hc
      obtain ⟨s', e1, hP'⟩ := h c s h0 (by omega) hP
      rw [e1]
      exact ih (c + 1) s' (by omega) (by omega) (by omega) (by rw [u]; exact hP')
theorem s_22o (a1 a2 a3 a4 : Int32) (h : ¬ ((1 ≤ a1 ∧ a1 ≤ 4) ∧ (0 ≤ a3 ∧ a3 ≤ 1))) : S_22 (fun _ _ => True) I0 L8 a1 a2 a3 a4 := by
  have hx : F_X8_duel I0 L8 a1 (nz a2) a3 = some (-1) := by
    unfold F_X8_duel
    simp only [Int32.le_iff_toInt_le] at h
    by_cases c1 : a1 < 1
    · rw [if_pos c1]; rfl
    rw [if_neg c1]
    by_cases c2 : 4 < a1
    · rw [if_pos c2]; rfl
    rw [if_neg c2]
    by_cases c3 : a3 < 0
    · rw [if_pos c3]; rfl
    rw [if_neg c3]
    by_cases c4 : a3 ≤ 1
    · simp only [Int32.le_iff_toInt_le, Int32.lt_iff_toInt_lt] at c1 c2 c3 c4
      omega
    rw [if_neg c4]; rfl
  have hm : F_X9_duel I0 L8 a1 (nz a2) a3 = some (-1, I0) := by
    unfold F_X9_duel
    by_cases c : 1 ≤ a1 ∧ a1 ≤ 4
    · rw [show F_X9_in (Int32.toInt64 a3) 0 1 = 0 from in_out (lo := 0) (hi := 1) rfl rfl (fun d => h ⟨c, d⟩)]
      split <;> rfl
    · rw [show F_X9_in (Int32.toInt64 a1) 1 4 = 0 from in_out (lo := 1) (hi := 4) rfl rfl c]
      rfl
  exact ⟨_, hx, _, hm, rfl, trivial⟩
