theorem s_7 (a1 a2 a3 a4 : Int32) : S_7 (fun _ _ => True) I0 L8 a1 a2 a3 a4 := by
  by_cases h : (0 ≤ a1 ∧ a1 ≤ 3) ∧ (0 ≤ a2 ∧ a2 ≤ 3)
  · exact sc_7 (k7 a1 (mem_rg (m := 3) (by decide) h.1.1 h.1.2) a2 (mem_rg (m := 3) (by decide) h.2.1 h.2.2))
  · unfold S_7 F_X9_square F_X8_square
    rw [if_pos (is_out h).1, if_pos (is_out h).2]
    exact ⟨rfl, trivial⟩
theorem s_8 (a1 a2 a3 a4 : Int32) : S_8 (fun _ _ => True) I0 L8 a1 a2 a3 a4 := by
  by_cases h : (0 ≤ a1 ∧ a1 ≤ 3) ∧ (0 ≤ a2 ∧ a2 ≤ 3)
  · have e : chk_8 a1 a2 a3 = chk_8 a1 a2 (nz a3) := by
      unfold chk_8
      rw [nz_nz]
    exact sc_8 (e.trans (k8 a1 (mem_rg (m := 3) (by decide) h.1.1 h.1.2) a2 (mem_rg (m := 3) (by decide) h.2.1 h.2.2) _ (mem_nz a3)))
  · unfold S_8 F_X9_paint F_X8_paint
    simp only [if_pos (is_out h).1, if_pos (is_out h).2]
    first | exact trivial | exact ⟨rfl, trivial⟩
theorem s_9 (a1 a2 a3 a4 : Int32) : S_9 (fun _ _ => True) I0 L8 a1 a2 a3 a4 := by
  by_cases h : (0 ≤ a1 ∧ a1 ≤ 3) ∧ (0 ≤ a2 ∧ a2 ≤ 3)
  · have e : chk_9 a1 a2 a3 = chk_9 a1 a2 (nz a3) := by
      unfold chk_9
      rw [nz_nz]
    exact sc_9 (e.trans (k9 a1 (mem_rg (m := 3) (by decide) h.1.1 h.1.2) a2 (mem_rg (m := 3) (by decide) h.2.1 h.2.2) _ (mem_nz a3)))
  · unfold S_9 F_X9_wish F_X8_wish
    simp only [if_pos (is_out h).1, if_pos (is_out h).2]
    first | exact trivial | exact ⟨rfl, trivial⟩
theorem hl_out {a b : Int32} (h : ¬ ((0 ≤ a ∧ a ≤ 2) ∧ (0 ≤ b ∧ b ≤ 6))) : F_X0_hasLine I0 1 a b = 0 := by
  unfold F_X0_hasLine
  simp only [Int32.le_iff_toInt_le] at h
  have e0 : (0 : Int32).toInt = 0 := by decide
  have e2 : (2 : Int32).toInt = 2 := by decide
  have e6 : (6 : Int32).toInt = 6 := by decide
  by_cases c : b < 0
  · rw [if_pos c]; rfl
  rw [if_neg c]
  have d : F_X0_linesOf I0 1 a ≤ b := by
    simp only [Int32.le_iff_toInt_le, Int32.lt_iff_toInt_lt] at c ⊢
    unfold F_X0_linesOf
    by_cases z0 : a = 0
    · rw [if_pos z0]
      have := congrArg Int32.toInt z0
      rw [show (I0 1 1).toInt = 4 by decide]
      omega
    · rw [if_neg z0]
      by_cases z1 : a = 1
      · rw [if_pos z1]
        have := congrArg Int32.toInt z1
        rw [show (1 : Int32).toInt = 1 by decide] at this
        rw [show (I0 1 2).toInt = 4 by decide]
        omega
      · rw [if_neg z1]
        by_cases z2 : a = 2
        · rw [if_pos z2]
          have := congrArg Int32.toInt z2
          rw [show (((I0 1 1) + (I0 1 2)) - 1).toInt = 7 by decide]
          omega
        · rw [if_neg z2]
          omega
  rw [if_pos d]
  rfl
theorem ao_out {a b : Int32} (h : ¬ ((0 ≤ a ∧ a ≤ 2) ∧ (0 ≤ b ∧ b ≤ 6))) : F_X9_isAct I0 a b = some 0 := by
  have e : F_X9_isActOf a b (I0 33 0) (I0 33 1) = 0 := by
    unfold F_X9_isActOf
    by_cases c : 0 ≤ a ∧ a ≤ 2
    · have d : ¬ (0 ≤ b ∧ b ≤ 6) := fun d => h ⟨c, d⟩
      have d3 : ¬ (0 ≤ b ∧ b ≤ 3) := by
        simp only [Int32.le_iff_toInt_le] at d ⊢
        have e3 : (3 : Int32).toInt = 3 := by decide
        have e6 : (6 : Int32).toInt = 6 := by decide
        omega
      have m3 : F_X9_in (Int32.toInt64 b) 0 (Int32.toInt64 ((I0 33 0) - 1)) = 0 := in_out (lo := 0) (hi := 3) rfl (by decide) d3
      have m4 : F_X9_in (Int32.toInt64 b) 0 (Int32.toInt64 ((I0 33 1) - 1)) = 0 := in_out (lo := 0) (hi := 3) rfl (by decide) d3
      have m6 : F_X9_in (Int32.toInt64 b) 0 (Int32.toInt64 (((I0 33 0) + (I0 33 1)) - 2)) = 0 := in_out (lo := 0) (hi := 6) rfl (by decide) d
      split
      · rfl
      · split
        · unfold F_X9_isActOf_44; rw [if_pos m3]; rfl
        · split
          · unfold F_X9_isActOf_44; rw [if_pos m4]; rfl
          · unfold F_X9_isActOf_44; rw [if_pos m6]; rfl
    · rw [in_out (lo := 0) (hi := 2) rfl rfl c]
      rfl
  unfold F_X9_isAct
  rw [e]
  rfl
theorem s_10 (a1 a2 a3 a4 : Int32) : S_10 (fun _ _ => True) I0 L8 a1 a2 a3 a4 := by
  by_cases h : (0 ≤ a1 ∧ a1 ≤ 2) ∧ (0 ≤ a2 ∧ a2 ≤ 6)
  · exact sc_10 (k10 a1 (mem_rg (m := 2) (by decide) h.1.1 h.1.2) a2 (mem_rg (m := 6) (by decide) h.2.1 h.2.2))
  · unfold S_10 F_X9_act F_X8_act
    simp only [if_pos (hl_out h), ao_out h]
    first | exact trivial | exact ⟨_, rfl, rfl, trivial⟩
theorem s_11 (a1 a2 a3 a4 : Int32) : S_11 (fun _ _ => True) I0 L8 a1 a2 a3 a4 := by
  by_cases h1 : 0 ≤ a1 ∧ a1 ≤ 15
  · by_cases h2 : 0 ≤ a2 ∧ a2 ≤ 15
    · exact sc_11 (k11 a1 (mem_rg (m := 15) (by decide) h1.1 h1.2) a2 (mem_rg (m := 15) (by decide) h2.1 h2.2))
    · have hm : ∀ L : WL, F_X9_turn I0 L a1 a2 = ((-1), L) := fun L => by
        unfold F_X9_turn
        rw [show F_X9_in (Int32.toInt64 a2) 0 (Int32.toInt64 ((1 <<< ((I0 33 1) &&& 31)) - 1)) = 0 from in_out (lo := 0) (hi := 15) rfl (by decide) h2]
        split <;> rfl
      have hx : F_X8_turn I0 L8 a1 a2 = ((-1), L8) := by
        unfold F_X8_turn
        rcases out_c h2 with c | ⟨c, d⟩
        · rw [if_pos c]
          split
          · rfl
          · split <;> rfl
        · have d' : ¬ a2 ≤ F_X0_everyColumn I0 1 := d
          rw [if_neg c, if_neg d']
          split
          · rfl
          · split <;> rfl
      unfold S_11
      rw [hx, hm]
      exact ⟨rfl, trivial⟩
  · have hm : ∀ L : WL, F_X9_turn I0 L a1 a2 = ((-1), L) := fun L => by
      unfold F_X9_turn
      rw [show F_X9_in (Int32.toInt64 a1) 0 (Int32.toInt64 ((1 <<< ((I0 33 0) &&& 31)) - 1)) = 0 from in_out (lo := 0) (hi := 15) rfl (by decide) h1]
      rfl
    have hx : F_X8_turn I0 L8 a1 a2 = ((-1), L8) := by
      unfold F_X8_turn
      rcases out_c h1 with c | ⟨c, d⟩
      · rw [if_pos c]
        rfl
      · have d' : F_X0_everyRow I0 1 < a1 := by
          have d2 : (F_X0_everyRow I0 1) = 15 := by decide
          rw [d2]
          simp only [Int32.le_iff_toInt_le, Int32.lt_iff_toInt_lt] at d ⊢
          omega
        rw [if_neg c, if_pos d']
        rfl
    unfold S_11
    rw [hx, hm]
    exact ⟨rfl, trivial⟩
theorem s_28 (a1 a2 a3 a4 : Int32) : S_28 (fun _ _ => True) I0 L8 a1 a2 a3 a4 := by
  by_cases h : 0 ≤ a1 ∧ a1 ≤ 1
  · have e : chk_28 a1 a2 = chk_28 a1 (nz a2) := by
      unfold chk_28
      rw [nz_nz]
    exact sc_28 (e.trans (k28 a1 (mem_rg (m := 1) (by decide) h.1 h.2) _ (mem_nz a2)))
  · unfold S_28 F_X9_sew F_X8_sew
    simp only [im_out h, if_neg (ne_out (k := 0) h (by decide)), if_neg (ne_out (k := 1) h (by decide))]
    first | exact trivial | exact ⟨_, rfl, rfl, trivial⟩
theorem im_some : ∀ a ∈ rg 1, (F_X9_isImage a).isSome = true := by decide +kernel
theorem s_23 (a1 a2 a3 a4 : Int32) : S_23 (fun _ _ => True) I0 L8 a1 a2 a3 a4 := by
  by_cases h : 0 ≤ a1 ∧ a1 ≤ 1
  · by_cases h2 : 0 ≤ a2 ∧ a2 ≤ 2
    · exact sc_23 (k23 a1 (mem_rg (m := 1) (by decide) h.1 h.2) a2 (mem_rg (m := 2) (by decide) h2.1 h2.2))
    · have hx : F_X8_turned I0 L8 a1 a2 = ((-1), I0) := by
        unfold F_X8_turned
        rcases out_c h2 with c | ⟨c, d⟩
        · simp only [if_pos c]
          split
          · rfl
          · split <;> rfl
        · simp only [if_neg c, if_neg d]
          split
          · rfl
          · split <;> rfl
      have hm : F_X9_turned I0 L8 a1 a2 = some ((-1), I0) := by
        unfold F_X9_turned
        rw [in_out (lo := 0) (hi := 2) rfl rfl h2]
        have hi : ∃ b, F_X9_isImage a1 = some b := Option.isSome_iff_exists.mp (im_some a1 (mem_rg (m := 1) (by decide) h.1 h.2))
        obtain ⟨b, hb⟩ := hi
        rw [hb]
        show (if b = 0 then _ else _) = _
        split <;> rfl
      unfold S_23
      rw [hx]
      exact ⟨_, hm, rfl, trivial⟩
  · have hx : F_X8_turned I0 L8 a1 a2 = ((-1), I0) := by
      unfold F_X8_turned
      simp only [if_neg (ne_out (k := 0) h (by decide)), if_neg (ne_out (k := 1) h (by decide))]
      rfl
    have hm : F_X9_turned I0 L8 a1 a2 = some ((-1), I0) := by
      unfold F_X9_turned
      rw [im_out h]
      rfl
    unfold S_23
    rw [hx]
    exact ⟨_, hm, rfl, trivial⟩
