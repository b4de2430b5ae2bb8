theorem k33 : ∀ a ∈ rg 3, ∀ b ∈ rg 2, ∀ c ∈ rg 40, chk_33 a b c = true := by decide +kernel
theorem ix_in {a : Int32} (h : 0 ≤ a ∧ a ≤ 3) : ¬ (a < 0 ∨ 4 ≤ Int32.toNatClampNeg a) := by
  simp only [Int32.le_iff_toInt_le] at h
  have e0 : (0 : Int32).toInt = 0 := by decide
  have e3 : (3 : Int32).toInt = 3 := by decide
  intro c
  rcases c with c | c
  · rw [Int32.lt_iff_toInt_lt] at c
    omega
  · have : Int32.toNatClampNeg a = a.toInt.toNat := rfl
    omega
theorem ix_out {a : Int32} (h : ¬ (0 ≤ a ∧ a ≤ 3)) : a < 0 ∨ 4 ≤ Int32.toNatClampNeg a := by
  rcases out_c h with c | ⟨c, d⟩
  · exact .inl c
  · refine .inr ?_
    simp only [Int32.le_iff_toInt_le, Int32.lt_iff_toInt_lt] at c d
    have e0 : (0 : Int32).toInt = 0 := by decide
    have e3 : (3 : Int32).toInt = 3 := by decide
    have : Int32.toNatClampNeg a = a.toInt.toNat := rfl
    omega
theorem sh_out1 {a b : Int32} (h : ¬ (0 ≤ a ∧ a ≤ 3)) : F_X9_isSheet a b = 0 := by
  unfold F_X9_isSheet
  rw [in_out (lo := 0) (hi := 3) rfl rfl h]
  rfl
theorem sh_out2 {a b : Int32} (h : ¬ (0 ≤ b ∧ b ≤ 2)) : F_X9_isSheet a b = 0 := by
  unfold F_X9_isSheet
  rw [in_out (lo := 0) (hi := 2) rfl rfl h]
  split <;> rfl
theorem sh_in : ∀ a ∈ rg 3, ∀ b ∈ rg 2, ¬ F_X9_isSheet a b = 0 := by decide +kernel
theorem la_in : ∀ b ∈ rg 2, ¬ F_X8_isLane b = 0 := by decide +kernel
theorem la_out {b : Int32} (h : ¬ (0 ≤ b ∧ b ≤ 2)) : F_X8_isLane b = 0 := by
  unfold F_X8_isLane
  rcases out_c h with c | ⟨c, d⟩
  · rw [if_pos c]
    rfl
  · have d2 : 2 < b := by
      simp only [Int32.le_iff_toInt_le, Int32.lt_iff_toInt_lt] at d ⊢
      omega
    rw [if_neg c, if_pos d2]
    rfl
theorem s_33 (a1 a2 a3 a4 : Int32) : S_33 (fun _ _ => True) I0 L8 a1 a2 a3 a4 := by
  by_cases h1 : 0 ≤ a1 ∧ a1 ≤ 3
  · by_cases h2 : 0 ≤ a2 ∧ a2 ≤ 2
    · have m1 := mem_rg (m := 3) (by decide) h1.1 h1.2
      have m2 := mem_rg (m := 2) (by decide) h2.1 h2.2
      by_cases h3 : 0 ≤ a3 ∧ a3 ≤ 40
      · exact sc_33 (k33 a1 m1 a2 m2 a3 (mem_rg (m := 40) (by decide) h3.1 h3.2))
      · rcases out_c h3 with c | ⟨c, d⟩
        · have c1 : a3 ≤ 40 := by
            simp only [Int32.le_iff_toInt_le, Int32.lt_iff_toInt_lt] at c ⊢
            have e0 : (0 : Int32).toInt = 0 := by decide
            have e3 : (40 : Int32).toInt = 40 := by decide
            omega
          have c2 : ¬ 0 ≤ a3 := by
            simp only [Int32.le_iff_toInt_le, Int32.lt_iff_toInt_lt] at c ⊢
            omega
          have hx : F_X8_sheet I0 a1 a2 a3 = some ((-14), I0) := by
            unfold F_X8_sheet
            rw [if_pos (ix_in h1), if_neg (la_in a2 m2), if_pos c1, if_neg c2]
          have hm : F_X9_sheet I0 a1 a2 a3 = some ((-14), I0) := by
            unfold F_X9_sheet
            rw [if_neg (sh_in a1 m1 a2 m2), if_pos c1, if_neg c2]
          exact ⟨_, hx, _, hm, rfl, trivial⟩
        · have hx : F_X8_sheet I0 a1 a2 a3 = some ((-1), I0) := by
            unfold F_X8_sheet
            rw [if_pos (ix_in h1), if_neg (la_in a2 m2), if_neg d]
            rfl
          have hm : F_X9_sheet I0 a1 a2 a3 = some ((-1), I0) := by
            unfold F_X9_sheet
            rw [if_neg (sh_in a1 m1 a2 m2), if_neg d]
            rfl
          exact ⟨_, hx, _, hm, rfl, trivial⟩
    · have hx : F_X8_sheet I0 a1 a2 a3 = some ((-1), I0) := by
        unfold F_X8_sheet
        rw [if_pos (ix_in h1), if_pos (la_out h2)]
        rfl
      have hm : F_X9_sheet I0 a1 a2 a3 = some ((-1), I0) := by
        unfold F_X9_sheet
        rw [if_pos (sh_out2 h2)]
        rfl
      exact ⟨_, hx, _, hm, rfl, trivial⟩
  · have hx : F_X8_sheet I0 a1 a2 a3 = some ((-1), I0) := by
      unfold F_X8_sheet
      rw [if_neg (fun c => c (ix_out h1))]
      rfl
    have hm : F_X9_sheet I0 a1 a2 a3 = some ((-1), I0) := by
      unfold F_X9_sheet
      rw [if_pos (sh_out1 h1)]
      rfl
    exact ⟨_, hx, _, hm, rfl, trivial⟩
theorem no_in : ∀ a ∈ rg 3, ¬ F_X3_isNothing I0 (sid a) = 0 ∧ I0 42 (Int32.toNatClampNeg a) = -4 ∧ I0 (sid a) 0 = -1 := by decide +kernel
theorem s_34 (a1 a2 a3 a4 : Int32) : S_34 (fun _ _ => True) I0 L8 a1 a2 a3 a4 := by
  by_cases h1 : 0 ≤ a1 ∧ a1 ≤ 3
  · have m1 := mem_rg (m := 3) (by decide) h1.1 h1.2
    have hx : F_X8_lay I0 a1 a2 a3 = some ((-11), I0) := by
      unfold F_X8_lay
      rw [if_pos (ix_in h1), if_neg (no_in a1 m1).1]
    have hm : F_X9_lay I0 a1 a2 a3 = some ((-11), I0) := by
      unfold F_X9_lay
      rw [if_neg (sh_in a1 m1 0 (by decide)), if_neg (ix_in h1), if_pos (no_in a1 m1).2.1]
    exact ⟨_, hx, _, hm, rfl, trivial⟩
  · have hx : F_X8_lay I0 a1 a2 a3 = some ((-1), I0) := by
      unfold F_X8_lay
      rw [if_neg (fun c => c (ix_out h1))]
    have hm : F_X9_lay I0 a1 a2 a3 = some ((-1), I0) := by
      unfold F_X9_lay
      rw [if_pos (sh_out1 h1)]
    exact ⟨_, hx, _, hm, rfl, trivial⟩
theorem ip_out {a b : Int32} (h : ¬ ((0 ≤ a ∧ a ≤ 3) ∧ (1 ≤ b ∧ b ≤ 4))) : F_X8_isPart a b 4 = 0 := by
  unfold F_X8_isPart
  simp only [Int32.le_iff_toInt_le] at h
  have e0 : (0 : Int32).toInt = 0 := by decide
  have e1 : (1 : Int32).toInt = 1 := by decide
  have e3 : (3 : Int32).toInt = 3 := by decide
  have e4 : (4 : Int32).toInt = 4 := by decide
  by_cases c : a < 0
  · rw [if_pos c]; rfl
  rw [if_neg c]
  by_cases c1 : 4 ≤ a
  · rw [if_pos c1]; rfl
  rw [if_neg c1]
  by_cases c2 : b < 1
  · rw [if_pos c2]; rfl
  rw [if_neg c2]
  simp only [Int32.le_iff_toInt_le, Int32.lt_iff_toInt_lt] at c c1 c2
  have c3 : 4 - a < b := by
    rw [Int32.lt_iff_toInt_lt, Int32.toInt_sub, Int.bmod_eq_of_le (by omega) (by omega)]
    omega
  rw [if_pos c3]
  rfl
theorem in_up {b a : Int32} (h : 0 ≤ a ∧ a ≤ 3) (hb : ¬ (1 ≤ b ∧ b ≤ 4)) : F_X9_in (Int32.toInt64 b) 1 (Int32.toInt64 (4 - a)) = 0 := by
  refine in_out (lo := 1) (hi := 4 - a) rfl (Int32.toInt_toInt64 _) ?_
  simp only [Int32.le_iff_toInt_le] at h hb ⊢
  have e0 : (0 : Int32).toInt = 0 := by decide
  have e1 : (1 : Int32).toInt = 1 := by decide
  have e3 : (3 : Int32).toInt = 3 := by decide
  have e4 : (4 : Int32).toInt = 4 := by decide
  rw [Int32.toInt_sub, Int.bmod_eq_of_le (by omega) (by omega)]
  omega
theorem mem_14 {b : Int32} (h : 1 ≤ b ∧ b ≤ 4) : b ∈ [(1 : Int32), 2, 3, 4] := by
  have h0 : b ∈ rg 4 := mem_rg (m := 4) (by decide) (by
    have := h.1
    simp only [Int32.le_iff_toInt_le] at this ⊢
    have e0 : (0 : Int32).toInt = 0 := by decide
    have e1 : (1 : Int32).toInt = 1 := by decide
    omega) h.2
  revert h
  revert b
  decide +kernel
theorem s_27 (a1 a2 a3 a4 : Int32) : S_27 (fun _ _ => True) I0 L8 a1 a2 a3 a4 := by
  by_cases h1 : (0 ≤ a1 ∧ a1 ≤ 3) ∧ (1 ≤ a2 ∧ a2 ≤ 4)
  · by_cases h2 : (0 ≤ a3 ∧ a3 ≤ 3) ∧ (1 ≤ a4 ∧ a4 ≤ 4)
    · exact sc_27 (k27 a1 (mem_rg (m := 3) (by decide) h1.1.1 h1.1.2) a2 (mem_14 h1.2) a3 (mem_rg (m := 3) (by decide) h2.1.1 h2.1.2) a4 (mem_14 h2.2))
    · have hx : F_X8_cut I0 L8 a1 a2 a3 a4 = ((-1), I0, L8) := by
        unfold F_X8_cut
        rw [show F_X8_isPart a3 a4 (I0 1 2) = 0 from ip_out h2]
        split <;> rfl
      have hm : F_X9_cut I0 L8 a1 a2 a3 a4 = ((-1), I0, L8) := by
        unfold F_X9_cut
        by_cases c : 0 ≤ a3 ∧ a3 ≤ 3
        · rw [show F_X9_in (Int32.toInt64 a4) 1 (Int32.toInt64 ((I0 33 1) - a3)) = 0 from in_up c (fun d => h2 ⟨c, d⟩)]
          split
          · rfl
          · split
            · rfl
            · split <;> rfl
        · rw [show F_X9_in (Int32.toInt64 a3) 0 (Int32.toInt64 ((I0 33 1) - 1)) = 0 from in_out (lo := 0) (hi := 3) rfl (by decide) c]
          split
          · rfl
          · split <;> rfl
      unfold S_27
      rw [hx]
      show p1 _ = p1 (F_X9_cut I0 L8 a1 a2 a3 a4) ∧ True
      rw [hm]
      exact ⟨rfl, trivial⟩
  · have hx : F_X8_cut I0 L8 a1 a2 a3 a4 = ((-1), I0, L8) := by
      unfold F_X8_cut
      rw [show F_X8_isPart a1 a2 (I0 1 1) = 0 from ip_out h1]
      rfl
    have hm : F_X9_cut I0 L8 a1 a2 a3 a4 = ((-1), I0, L8) := by
      unfold F_X9_cut
      by_cases c : 0 ≤ a1 ∧ a1 ≤ 3
      · rw [show F_X9_in (Int32.toInt64 a2) 1 (Int32.toInt64 ((I0 33 0) - a1)) = 0 from in_up c (fun d => h1 ⟨c, d⟩)]
        split <;> rfl
      · rw [show F_X9_in (Int32.toInt64 a1) 0 (Int32.toInt64 ((I0 33 0) - 1)) = 0 from in_out (lo := 0) (hi := 3) rfl (by decide) c]
        rfl
    unfold S_27
    rw [hx]
    show p1 _ = p1 (F_X9_cut I0 L8 a1 a2 a3 a4) ∧ True
    rw [hm]
    exact ⟨rfl, trivial⟩
