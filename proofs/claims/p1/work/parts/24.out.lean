def rg (m : Nat) : List Int32 := (List.range (m + 1)).map Int32.ofNat
theorem mem_rg {a : Int32} {m : Nat} (hm : m < 1000) (h0 : 0 ≤ a) (h1 : a ≤ Int32.ofNat m) : a ∈ rg m := by
  rw [Int32.le_iff_toInt_le] at h0 h1
  rw [Int32.toInt_ofNat_of_lt (by omega)] at h1
  have e0 : (0 : Int32).toInt = 0 := by decide
  refine List.mem_map.mpr ⟨a.toInt.toNat, List.mem_range.mpr (by omega), Int32.toInt_inj.mp ?_⟩
  rw [Int32.toInt_ofNat_of_lt (by omega)]
  omega
theorem in_out {a : Int32} {lo hi : Int32} {l h : Int64} (hl : l.toInt = lo.toInt) (hh : h.toInt = hi.toInt) (hn : ¬ (lo ≤ a ∧ a ≤ hi)) : F_X9_in (Int32.toInt64 a) l h = 0 := by
  unfold F_X9_in
  rw [Int32.le_iff_toInt_le, Int32.le_iff_toInt_le] at hn
  by_cases c : lg_cmp (Int32.toInt64 a) l < 0
  · rw [if_pos c]
    rfl
  · rw [if_neg c]
    rw [lg_cmp_lt, Int64.lt_iff_toInt_lt, Int32.toInt_toInt64] at c
    have c2 : 0 < lg_cmp (Int32.toInt64 a) h := by
      rw [lg_cmp_gt, Int64.lt_iff_toInt_lt, Int32.toInt_toInt64]
      omega
    rw [if_pos c2]
    rfl
theorem out_c {a m : Int32} (h : ¬ (0 ≤ a ∧ a ≤ m)) : a < 0 ∨ (¬ a < 0 ∧ ¬ a ≤ m) := by
  simp only [Int32.le_iff_toInt_le, Int32.lt_iff_toInt_lt] at h ⊢
  omega
theorem im_out {a : Int32} (h : ¬ (0 ≤ a ∧ a ≤ 1)) : F_X9_isImage a = some 0 := by
  unfold F_X9_isImage
  rw [in_out (lo := 0) (hi := 1) rfl rfl h]
  rfl
theorem ne_out {a m k : Int32} (h : ¬ (0 ≤ a ∧ a ≤ m)) (hk : 0 ≤ k ∧ k ≤ m) : ¬ a = k := fun e => h (e ▸ hk)
theorem s_16 (a1 a2 a3 a4 : Int32) : S_16 (fun _ _ => True) I0 L8 a1 a2 a3 a4 := by
  by_cases h : 0 ≤ a1 ∧ a1 ≤ 3
  · exact sc_16 (k16 a1 (mem_rg (m := 3) (by decide) h.1 h.2))
  · have hm : F_X9_in (Int32.toInt64 a1) 0 3 = 0 := in_out (lo := 0) (hi := 3) rfl rfl h
    unfold S_16 F_X9_plan F_X8_plan
    simp only [if_pos hm]
    rcases out_c h with c | ⟨c, d⟩
    · simp only [if_pos c]; first | exact trivial | exact ⟨rfl, trivial⟩ | exact ⟨_, rfl, rfl, trivial⟩ | exact ⟨_, rfl, _, rfl, rfl, trivial⟩
    · simp only [if_neg c, if_neg d]; first | exact trivial | exact ⟨rfl, trivial⟩ | exact ⟨_, rfl, rfl, trivial⟩ | exact ⟨_, rfl, _, rfl, rfl, trivial⟩
theorem s_17 (a1 a2 a3 a4 : Int32) : S_17 (fun _ _ => True) I0 L8 a1 a2 a3 a4 := by
  by_cases h : 0 ≤ a1 ∧ a1 ≤ 2
  · exact sc_17 (k17 a1 (mem_rg (m := 2) (by decide) h.1 h.2))
  · have hm : F_X9_in (Int32.toInt64 a1) 0 2 = 0 := in_out (lo := 0) (hi := 2) rfl rfl h
    unfold S_17 F_X9_nearest F_X8_nearest
    simp only [if_pos hm]
    rcases out_c h with c | ⟨c, d⟩
    · simp only [if_pos c]; first | exact trivial | exact ⟨rfl, trivial⟩ | exact ⟨_, rfl, rfl, trivial⟩ | exact ⟨_, rfl, _, rfl, rfl, trivial⟩
    · simp only [if_neg c, if_neg d]; first | exact trivial | exact ⟨rfl, trivial⟩ | exact ⟨_, rfl, rfl, trivial⟩ | exact ⟨_, rfl, _, rfl, rfl, trivial⟩
theorem s_18 (a1 a2 a3 a4 : Int32) : S_18 (fun _ _ => True) I0 L8 a1 a2 a3 a4 := by
  by_cases h : 0 ≤ a1 ∧ a1 ≤ 2
  · exact sc_18 (k18 a1 (mem_rg (m := 2) (by decide) h.1 h.2))
  · have hm : F_X9_in (Int32.toInt64 a1) 0 2 = 0 := in_out (lo := 0) (hi := 2) rfl rfl h
    unfold S_18 F_X9_lightest F_X8_lightest
    simp only [if_pos hm]
    rcases out_c h with c | ⟨c, d⟩
    · simp only [if_pos c]; first | exact trivial | exact ⟨rfl, trivial⟩ | exact ⟨_, rfl, rfl, trivial⟩ | exact ⟨_, rfl, _, rfl, rfl, trivial⟩
    · simp only [if_neg c, if_neg d]; first | exact trivial | exact ⟨rfl, trivial⟩ | exact ⟨_, rfl, rfl, trivial⟩ | exact ⟨_, rfl, _, rfl, rfl, trivial⟩
theorem s_19 (a1 a2 a3 a4 : Int32) : S_19 (fun _ _ => True) I0 L8 a1 a2 a3 a4 := by
  by_cases h : 0 ≤ a1 ∧ a1 ≤ 1
  · exact sc_19 (k19 a1 (mem_rg (m := 1) (by decide) h.1 h.2))
  · have hm : F_X9_in (Int32.toInt64 a1) 0 1 = 0 := in_out (lo := 0) (hi := 1) rfl rfl h
    unfold S_19 F_X9_blind F_X8_blind
    simp only [if_pos hm]
    rcases out_c h with c | ⟨c, d⟩
    · simp only [if_pos c]; first | exact trivial | exact ⟨rfl, trivial⟩ | exact ⟨_, rfl, rfl, trivial⟩ | exact ⟨_, rfl, _, rfl, rfl, trivial⟩
    · simp only [if_neg c, if_neg d]; first | exact trivial | exact ⟨rfl, trivial⟩ | exact ⟨_, rfl, rfl, trivial⟩ | exact ⟨_, rfl, _, rfl, rfl, trivial⟩
theorem s_20 (a1 a2 a3 a4 : Int32) : S_20 (fun _ _ => True) I0 L8 a1 a2 a3 a4 := by
  by_cases h : 0 ≤ a1 ∧ a1 ≤ 3
  · exact sc_20 (k20 a1 (mem_rg (m := 3) (by decide) h.1 h.2))
  · have hm : F_X9_in (Int32.toInt64 a1) 0 3 = 0 := in_out (lo := 0) (hi := 3) rfl rfl h
    unfold S_20 F_X9_slanted F_X8_slanted
    simp only [if_pos hm]
    rcases out_c h with c | ⟨c, d⟩
    · simp only [if_pos c]; first | exact trivial | exact ⟨rfl, trivial⟩ | exact ⟨_, rfl, rfl, trivial⟩ | exact ⟨_, rfl, _, rfl, rfl, trivial⟩
    · simp only [if_neg c, if_neg d]; first | exact trivial | exact ⟨rfl, trivial⟩ | exact ⟨_, rfl, rfl, trivial⟩ | exact ⟨_, rfl, _, rfl, rfl, trivial⟩
theorem s_24 (a1 a2 a3 a4 : Int32) : S_24 (fun _ _ => True) I0 L8 a1 a2 a3 a4 := by
  by_cases h : 0 ≤ a1 ∧ a1 ≤ 1
  · exact sc_24 (k24 a1 (mem_rg (m := 1) (by decide) h.1 h.2))
  · have hm : F_X9_in (Int32.toInt64 a1) 0 1 = 0 := in_out (lo := 0) (hi := 1) rfl rfl h
    unfold S_24 F_X9_spoilt F_X8_spoilt
    simp only [if_pos hm]
    rcases out_c h with c | ⟨c, d⟩
    · simp only [if_pos c]; first | exact trivial | exact ⟨rfl, trivial⟩ | exact ⟨_, rfl, rfl, trivial⟩ | exact ⟨_, rfl, _, rfl, rfl, trivial⟩
    · simp only [if_neg c, if_neg d]; first | exact trivial | exact ⟨rfl, trivial⟩ | exact ⟨_, rfl, rfl, trivial⟩ | exact ⟨_, rfl, _, rfl, rfl, trivial⟩
theorem s_25 (a1 a2 a3 a4 : Int32) : S_25 (fun _ _ => True) I0 L8 a1 a2 a3 a4 := by
  by_cases h : 0 ≤ a1 ∧ a1 ≤ 1
  · exact sc_25 (k25 a1 (mem_rg (m := 1) (by decide) h.1 h.2))
  · have hm : F_X9_in (Int32.toInt64 a1) 0 1 = 0 := in_out (lo := 0) (hi := 1) rfl rfl h
    unfold S_25 F_X9_both F_X8_both
    simp only [if_pos hm]
    rcases out_c h with c | ⟨c, d⟩
    · simp only [if_pos c]; first | exact trivial | exact ⟨rfl, trivial⟩ | exact ⟨_, rfl, rfl, trivial⟩ | exact ⟨_, rfl, _, rfl, rfl, trivial⟩
    · simp only [if_neg c, if_neg d]; first | exact trivial | exact ⟨rfl, trivial⟩ | exact ⟨_, rfl, rfl, trivial⟩ | exact ⟨_, rfl, _, rfl, rfl, trivial⟩
theorem s_29 (a1 a2 a3 a4 : Int32) : S_29 (fun _ _ => True) I0 L8 a1 a2 a3 a4 := by
  by_cases h : 0 ≤ a1 ∧ a1 ≤ 1
  · exact sc_29 (k29 a1 (mem_rg (m := 1) (by decide) h.1 h.2))
  · have hm : F_X9_in (Int32.toInt64 a1) 0 1 = 0 := in_out (lo := 0) (hi := 1) rfl rfl h
    unfold S_29 F_X9_name F_X8_name
    simp only [if_pos hm]
    rcases out_c h with c | ⟨c, d⟩
    · simp only [if_pos c]; first | exact trivial | exact ⟨rfl, trivial⟩ | exact ⟨_, rfl, rfl, trivial⟩ | exact ⟨_, rfl, _, rfl, rfl, trivial⟩
    · simp only [if_neg c, if_neg d]; first | exact trivial | exact ⟨rfl, trivial⟩ | exact ⟨_, rfl, rfl, trivial⟩ | exact ⟨_, rfl, _, rfl, rfl, trivial⟩
theorem s_2 (a1 a2 a3 a4 : Int32) : S_2 (fun _ _ => True) I0 L8 a1 a2 a3 a4 := sc_2 k2
theorem s_3 (a1 a2 a3 a4 : Int32) : S_3 (fun _ _ => True) I0 L8 a1 a2 a3 a4 := sc_3 k3
theorem s_14 (a1 a2 a3 a4 : Int32) : S_14 (fun _ _ => True) I0 L8 a1 a2 a3 a4 := sc_14 k14
theorem s_36 (a1 a2 a3 a4 : Int32) : S_36 (fun _ _ => True) I0 L8 a1 a2 a3 a4 := sc_36 k36
theorem s_6 (a1 a2 a3 a4 : Int32) : S_6 (fun _ _ => True) I0 L8 a1 a2 a3 a4 := by
  by_cases h : 0 ≤ a1 ∧ a1 ≤ 1
  · exact sc_6 (k6 a1 (mem_rg (m := 1) (by decide) h.1 h.2))
  · unfold S_6 F_X9_cloth F_X8_cloth
    simp only [if_neg (ne_out (k := 0) h (by decide)), if_neg (ne_out (k := 1) h (by decide))]
    first | exact trivial | exact ⟨rfl, trivial⟩ | exact ⟨_, rfl, rfl, trivial⟩ | exact ⟨_, rfl, _, rfl, rfl, trivial⟩
theorem s_13 (a1 a2 a3 a4 : Int32) : S_13 (fun _ _ => True) I0 L8 a1 a2 a3 a4 := by
  by_cases h : 0 ≤ a1 ∧ a1 ≤ 1
  · exact sc_13 (k13 a1 (mem_rg (m := 1) (by decide) h.1 h.2))
  · unfold S_13 F_X9_form F_X8_form
    simp only [if_neg (ne_out (k := 0) h (by decide)), if_neg (ne_out (k := 1) h (by decide))]
    first | exact trivial | exact ⟨rfl, trivial⟩ | exact ⟨_, rfl, rfl, trivial⟩ | exact ⟨_, rfl, _, rfl, rfl, trivial⟩
theorem s_4 (a1 a2 a3 a4 : Int32) : S_4 (fun _ _ => True) I0 L8 a1 a2 a3 a4 := by
  by_cases h : 0 ≤ a1 ∧ a1 ≤ 4
  · exact sc_4 (k4 a1 (mem_rg (m := 4) (by decide) h.1 h.2))
  · have e0 := ne_out (k := 0) h (by decide)
    have e1 := ne_out (k := 1) h (by decide)
    have e2 := ne_out (k := 2) h (by decide)
    have e3 := ne_out (k := 3) h (by decide)
    have e4 := ne_out (k := 4) h (by decide)
    refine ⟨?_, trivial⟩
    unfold F_X9_rule F_X8_rule
    rw [if_neg e0, if_neg e1, if_neg e2, if_neg e3, if_neg e4, if_neg e0, if_neg e1, if_neg e2, if_neg e3, if_neg e4]
theorem s_37 (a1 a2 a3 a4 : Int32) : S_37 (fun _ _ => True) I0 L8 a1 a2 a3 a4 := by
  by_cases h : 0 ≤ a1 ∧ a1 ≤ 10
  · exact sc_37 (k37 a1 (mem_rg (m := 10) (by decide) h.1 h.2))
  · unfold S_37 F_X9_count F_X8_count
    simp only [if_neg (ne_out (k := 0) h (by decide)), if_neg (ne_out (k := 1) h (by decide)), if_neg (ne_out (k := 2) h (by decide)), if_neg (ne_out (k := 3) h (by decide)), if_neg (ne_out (k := 4) h (by decide)), if_neg (ne_out (k := 5) h (by decide))]
    first | exact trivial | exact ⟨rfl, trivial⟩ | exact ⟨_, rfl, rfl, trivial⟩ | exact ⟨_, rfl, _, rfl, rfl, trivial⟩
theorem s_21 (a1 a2 a3 a4 : Int32) : S_21 (fun _ _ => True) I0 L8 a1 a2 a3 a4 := by
  by_cases h : 0 ≤ a1 ∧ a1 ≤ 1
  · exact sc_21 (k21 a1 (mem_rg (m := 1) (by decide) h.1 h.2))
  · have hm : F_X9_in (Int32.toInt64 a1) 0 1 = 0 := in_out (lo := 0) (hi := 1) rfl rfl h
    unfold S_21 F_X9_power F_X8_power
    simp only [if_pos hm, if_neg (ne_out (k := 0) h (by decide)), if_neg (ne_out (k := 1) h (by decide))]
    first | exact trivial | exact ⟨rfl, trivial⟩ | exact ⟨_, rfl, rfl, trivial⟩ | exact ⟨_, rfl, _, rfl, rfl, trivial⟩
theorem s_15 (a1 a2 a3 a4 : Int32) : S_15 (fun _ _ => True) I0 L8 a1 a2 a3 a4 := by
  by_cases h : 0 ≤ a1 ∧ a1 ≤ 1
  · exact sc_15 (k15 a1 (mem_rg (m := 1) (by decide) h.1 h.2))
  · unfold S_15 F_X9_alike F_X8_alike
    simp only [im_out h]
    simp only [if_neg (ne_out (k := 0) h (by decide)), if_neg (ne_out (k := 1) h (by decide))]
    first | exact trivial | exact ⟨rfl, trivial⟩ | exact ⟨_, rfl, rfl, trivial⟩ | exact ⟨_, rfl, _, rfl, rfl, trivial⟩
theorem s_30 (a1 a2 a3 a4 : Int32) : S_30 (fun _ _ => True) I0 L8 a1 a2 a3 a4 := by
  by_cases h : 0 ≤ a1 ∧ a1 ≤ 1
  · exact sc_30 (k30 a1 (mem_rg (m := 1) (by decide) h.1 h.2))
  · unfold S_30 F_X9_cousin F_X8_cousin
    simp only [im_out h]
    simp only [if_neg (ne_out (k := 0) h (by decide)), if_neg (ne_out (k := 1) h (by decide))]
    first | exact trivial | exact ⟨rfl, trivial⟩ | exact ⟨_, rfl, rfl, trivial⟩ | exact ⟨_, rfl, _, rfl, rfl, trivial⟩
theorem s_31 (a1 a2 a3 a4 : Int32) : S_31 (fun _ _ => True) I0 L8 a1 a2 a3 a4 := by
  by_cases h : 0 ≤ a1 ∧ a1 ≤ 1
  · exact sc_31 (k31 a1 (mem_rg (m := 1) (by decide) h.1 h.2))
  · unfold S_31 F_X9_keep F_X8_keep
    simp only [im_out h]
    simp only [if_neg (ne_out (k := 0) h (by decide)), if_neg (ne_out (k := 1) h (by decide))]
    first | exact trivial | exact ⟨rfl, trivial⟩ | exact ⟨_, rfl, rfl, trivial⟩ | exact ⟨_, rfl, _, rfl, rfl, trivial⟩
theorem s_32 (a1 a2 a3 a4 : Int32) : S_32 (fun _ _ => True) I0 L8 a1 a2 a3 a4 := by
  by_cases h : 0 ≤ a1 ∧ a1 ≤ 1
  · exact sc_32 (k32 a1 (mem_rg (m := 1) (by decide) h.1 h.2))
  · unfold S_32 F_X9_back F_X8_back
    simp only [im_out h]
    simp only [if_neg (ne_out (k := 0) h (by decide)), if_neg (ne_out (k := 1) h (by decide))]
    first | exact trivial | exact ⟨rfl, trivial⟩ | exact ⟨_, rfl, rfl, trivial⟩ | exact ⟨_, rfl, _, rfl, rfl, trivial⟩
theorem s_26 (a1 a2 a3 a4 : Int32) : S_26 (fun _ _ => True) I0 L8 a1 a2 a3 a4 := by
  by_cases h : 0 ≤ a1 ∧ a1 ≤ 7
  · exact sc_26 (k26 a1 (mem_rg (m := 7) (by decide) h.1 h.2))
  · have hm : F_X9_in (Int32.toInt64 a1) 0 7 = 0 := in_out (lo := 0) (hi := 7) rfl rfl h
    unfold S_26 F_X9_rotate F_X8_rotate
    simp only [if_pos hm]
    rcases out_c h with c | ⟨c, d⟩
    · simp only [if_pos c]; first | exact trivial | exact ⟨rfl, trivial⟩
    · have d2 : ¬ a1 < 8 := by
        simp only [Int32.le_iff_toInt_le, Int32.lt_iff_toInt_lt] at d ⊢
        have e7 : (7 : Int32).toInt = 7 := by decide
        have e8 : (8 : Int32).toInt = 8 := by decide
        omega
      simp only [if_neg c, if_neg d2]; first | exact trivial | exact ⟨rfl, trivial⟩
theorem s_1 (a1 a2 a3 a4 : Int32) : S_1 (fun _ _ => True) I0 L8 a1 a2 a3 a4 := by
  by_cases h : 0 ≤ a1 ∧ a1 ≤ 0
  · exact sc_1 (k1 a1 (mem_rg (m := 0) (by decide) h.1 h.2))
  · unfold S_1 F_X9_end F_X8_end
    have hm : F_X9_in (Int32.toInt64 a1) 0 (Int32.toInt64 0) = 0 := in_out (lo := 0) (hi := 0) rfl rfl h
    rcases out_c h with c | ⟨c, d⟩
    · simp only [if_pos c]
      show p1 (F_X8_end_15 I0 a1) = p1 (if F_X9_in (Int32.toInt64 a1) 0 (Int32.toInt64 0) = 0 then _ else _) ∧ _
      rw [if_pos hm]
      exact ⟨rfl, trivial⟩
    · have d2 : ¬ a1 ≤ I0 9 0 := d
      simp only [if_neg c, if_neg d2]
      show p1 (F_X8_end_15 I0 a1) = p1 (if F_X9_in (Int32.toInt64 a1) 0 (Int32.toInt64 0) = 0 then _ else _) ∧ _
      rw [if_pos hm]
      exact ⟨rfl, trivial⟩
theorem s_12 (a1 a2 a3 a4 : Int32) : S_12 (fun _ _ => True) I0 L8 a1 a2 a3 a4 := by
  by_cases h : 0 ≤ a1 ∧ a1 ≤ 0
  · exact sc_12 (k12 a1 (mem_rg (m := 0) (by decide) h.1 h.2))
  · unfold S_12 F_X9_go F_X8_go
    have hm : F_X9_in (Int32.toInt64 a1) 0 (Int32.toInt64 0) = 0 := in_out (lo := 0) (hi := 0) rfl rfl h
    have hm2 : F_X9_in (Int32.toInt64 a1) 0 (Int32.toInt64 (I0 33 5)) = 0 := hm
    rcases out_c h with c | ⟨c, d⟩
    · simp only [if_pos c, if_pos hm2]
      first | exact trivial | exact ⟨rfl, trivial⟩ | exact ⟨_, rfl, rfl, trivial⟩
    · have d2 : ¬ a1 ≤ I0 6 0 := d
      simp only [if_neg c, if_neg d2, if_pos hm2]
      first | exact trivial | exact ⟨rfl, trivial⟩ | exact ⟨_, rfl, rfl, trivial⟩
theorem in_no (a : Int32) {l h : Int64} (hh : h.toInt < l.toInt) : F_X9_in (Int32.toInt64 a) l h = 0 := by
  unfold F_X9_in
  by_cases c : lg_cmp (Int32.toInt64 a) l < 0
  · rw [if_pos c]
    rfl
  · rw [if_neg c]
    rw [lg_cmp_lt, Int64.lt_iff_toInt_lt, Int32.toInt_toInt64] at c
    have c2 : 0 < lg_cmp (Int32.toInt64 a) h := by
      rw [lg_cmp_gt, Int64.lt_iff_toInt_lt, Int32.toInt_toInt64]
      omega
    rw [if_pos c2]
    rfl
theorem s_5 (a1 a2 a3 a4 : Int32) : S_5 (fun _ _ => True) I0 L8 a1 a2 a3 a4 := by
  have hm : F_X9_in (Int32.toInt64 a1) 0 (Int32.toInt64 ((I0 33 5) - 1)) = 0 := in_no a1 (by decide)
  have hx : F_X8_day I0 a1 a2 = -1 := by
    unfold F_X8_day
    by_cases c : a1 < 0
    · rw [if_pos c]
      rfl
    · have d : I0 6 0 ≤ a1 := by
        simp only [Int32.le_iff_toInt_le, Int32.lt_iff_toInt_lt] at c ⊢
        have e : (I0 6 0).toInt = 0 := by decide
        have e0 : (0 : Int32).toInt = 0 := by decide
        omega
      rw [if_neg c, if_pos d]
      rfl
  refine ⟨-1, ?_, hx, trivial⟩
  unfold F_X9_day
  rw [if_pos hm]
  rfl
theorem mem_nz (a : Int32) : nz a ∈ [0, 1] := by
  unfold nz
  split <;> decide
theorem nz_nz (a : Int32) : nz (nz a) = nz a := by
  unfold nz
  by_cases h : a = 0
  · rw [if_pos h]
    rfl
  · rw [if_neg h]
    rfl
theorem is_out {a b : Int32} (h : ¬ ((0 ≤ a ∧ a ≤ 3) ∧ (0 ≤ b ∧ b ≤ 3))) : F_X0_hasSquare I0 1 a b = 0 ∧ F_X9_isSquare I0 a b = 0 := by
  constructor
  · unfold F_X0_hasSquare
    simp only [Int32.le_iff_toInt_le] at h
    have e0 : (0 : Int32).toInt = 0 := by decide
    have e3 : (3 : Int32).toInt = 3 := by decide
    have x1 : (I0 1 1).toInt = 4 := by decide
    have x2 : (I0 1 2).toInt = 4 := by decide
    by_cases c : a < 0
    · rw [if_pos c]; rfl
    rw [if_neg c]
    by_cases c1 : I0 1 1 ≤ a
    · rw [if_pos c1]; rfl
    rw [if_neg c1]
    by_cases c2 : b < 0
    · rw [if_pos c2]; rfl
    rw [if_neg c2]
    by_cases c3 : I0 1 2 ≤ b
    · rw [if_pos c3]; rfl
    simp only [Int32.le_iff_toInt_le, Int32.lt_iff_toInt_lt] at c c1 c2 c3
    omega
  · unfold F_X9_isSquare
    by_cases c : 0 ≤ a ∧ a ≤ 3
    · have d : ¬ (0 ≤ b ∧ b ≤ 3) := fun d => h ⟨c, d⟩
      have hm : F_X9_in (Int32.toInt64 b) 0 (Int32.toInt64 ((I0 33 1) - 1)) = 0 := in_out (lo := 0) (hi := 3) rfl (by decide) d
      rw [hm]
      split <;> rfl
    · have hm : F_X9_in (Int32.toInt64 a) 0 (Int32.toInt64 ((I0 33 0) - 1)) = 0 := in_out (lo := 0) (hi := 3) rfl (by decide) c
      rw [hm]
      rfl
