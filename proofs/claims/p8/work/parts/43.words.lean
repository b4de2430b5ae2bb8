/-! words: the class's names are the reference's -/
theorem nmb_0 {B : Nat → Nat} {f e : Nat} : nmb B f e 0 = true ↔ e = f + 5 ∧ B f = 99 ∧ B (f + 1) = 108 ∧ B (f + 2) = 111 ∧ B (f + 3) = 116 ∧ B (f + 4) = 104 := by
  have hl : wlen 0 = 5 := by decide
  rw [nmb_iff, hl]
  constructor
  · rintro ⟨a, h⟩
    exact ⟨a, (h 0 (by decide)).trans (by decide : wchr 0 0 = 99), (h 1 (by decide)).trans (by decide : wchr 0 1 = 108), (h 2 (by decide)).trans (by decide : wchr 0 2 = 111), (h 3 (by decide)).trans (by decide : wchr 0 3 = 116), (h 4 (by decide)).trans (by decide : wchr 0 4 = 104)⟩
  · rintro ⟨a, h0, h1, h2, h3, h4⟩
    refine ⟨a, fun i hi => ?_⟩
    rcases (show i = 0 ∨ i = 1 ∨ i = 2 ∨ i = 3 ∨ i = 4 by omega) with rfl | rfl | rfl | rfl | rfl
    · exact h0.trans (by decide : 99 = wchr 0 0)
    · exact h1.trans (by decide : 108 = wchr 0 1)
    · exact h2.trans (by decide : 111 = wchr 0 2)
    · exact h3.trans (by decide : 116 = wchr 0 3)
    · exact h4.trans (by decide : 104 = wchr 0 4)
theorem nmb_1 {B : Nat → Nat} {f e : Nat} : nmb B f e 1 = true ↔ e = f + 7 ∧ B f = 112 ∧ B (f + 1) = 97 ∧ B (f + 2) = 116 ∧ B (f + 3) = 116 ∧ B (f + 4) = 101 ∧ B (f + 5) = 114 ∧ B (f + 6) = 110 := by
  have hl : wlen 1 = 7 := by decide
  rw [nmb_iff, hl]
  constructor
  · rintro ⟨a, h⟩
    exact ⟨a, (h 0 (by decide)).trans (by decide : wchr 1 0 = 112), (h 1 (by decide)).trans (by decide : wchr 1 1 = 97), (h 2 (by decide)).trans (by decide : wchr 1 2 = 116), (h 3 (by decide)).trans (by decide : wchr 1 3 = 116), (h 4 (by decide)).trans (by decide : wchr 1 4 = 101), (h 5 (by decide)).trans (by decide : wchr 1 5 = 114), (h 6 (by decide)).trans (by decide : wchr 1 6 = 110)⟩
  · rintro ⟨a, h0, h1, h2, h3, h4, h5, h6⟩
    refine ⟨a, fun i hi => ?_⟩
    rcases (show i = 0 ∨ i = 1 ∨ i = 2 ∨ i = 3 ∨ i = 4 ∨ i = 5 ∨ i = 6 by omega) with rfl | rfl | rfl | rfl | rfl | rfl | rfl
    · exact h0.trans (by decide : 112 = wchr 1 0)
    · exact h1.trans (by decide : 97 = wchr 1 1)
    · exact h2.trans (by decide : 116 = wchr 1 2)
    · exact h3.trans (by decide : 116 = wchr 1 3)
    · exact h4.trans (by decide : 101 = wchr 1 4)
    · exact h5.trans (by decide : 114 = wchr 1 5)
    · exact h6.trans (by decide : 110 = wchr 1 6)
theorem nmb_2 {B : Nat → Nat} {f e : Nat} : nmb B f e 2 = true ↔ e = f + 3 ∧ B f = 100 ∧ B (f + 1) = 97 ∧ B (f + 2) = 121 := by
  have hl : wlen 2 = 3 := by decide
  rw [nmb_iff, hl]
  constructor
  · rintro ⟨a, h⟩
    exact ⟨a, (h 0 (by decide)).trans (by decide : wchr 2 0 = 100), (h 1 (by decide)).trans (by decide : wchr 2 1 = 97), (h 2 (by decide)).trans (by decide : wchr 2 2 = 121)⟩
  · rintro ⟨a, h0, h1, h2⟩
    refine ⟨a, fun i hi => ?_⟩
    rcases (show i = 0 ∨ i = 1 ∨ i = 2 by omega) with rfl | rfl | rfl
    · exact h0.trans (by decide : 100 = wchr 2 0)
    · exact h1.trans (by decide : 97 = wchr 2 1)
    · exact h2.trans (by decide : 121 = wchr 2 2)
theorem nmb_3 {B : Nat → Nat} {f e : Nat} : nmb B f e 3 = true ↔ e = f + 3 ∧ B f = 114 ∧ B (f + 1) = 111 ∧ B (f + 2) = 119 := by
  have hl : wlen 3 = 3 := by decide
  rw [nmb_iff, hl]
  constructor
  · rintro ⟨a, h⟩
    exact ⟨a, (h 0 (by decide)).trans (by decide : wchr 3 0 = 114), (h 1 (by decide)).trans (by decide : wchr 3 1 = 111), (h 2 (by decide)).trans (by decide : wchr 3 2 = 119)⟩
  · rintro ⟨a, h0, h1, h2⟩
    refine ⟨a, fun i hi => ?_⟩
    rcases (show i = 0 ∨ i = 1 ∨ i = 2 by omega) with rfl | rfl | rfl
    · exact h0.trans (by decide : 114 = wchr 3 0)
    · exact h1.trans (by decide : 111 = wchr 3 1)
    · exact h2.trans (by decide : 119 = wchr 3 2)
theorem nmb_4 {B : Nat → Nat} {f e : Nat} : nmb B f e 4 = true ↔ e = f + 6 ∧ B f = 99 ∧ B (f + 1) = 111 ∧ B (f + 2) = 108 ∧ B (f + 3) = 117 ∧ B (f + 4) = 109 ∧ B (f + 5) = 110 := by
  have hl : wlen 4 = 6 := by decide
  rw [nmb_iff, hl]
  constructor
  · rintro ⟨a, h⟩
    exact ⟨a, (h 0 (by decide)).trans (by decide : wchr 4 0 = 99), (h 1 (by decide)).trans (by decide : wchr 4 1 = 111), (h 2 (by decide)).trans (by decide : wchr 4 2 = 108), (h 3 (by decide)).trans (by decide : wchr 4 3 = 117), (h 4 (by decide)).trans (by decide : wchr 4 4 = 109), (h 5 (by decide)).trans (by decide : wchr 4 5 = 110)⟩
  · rintro ⟨a, h0, h1, h2, h3, h4, h5⟩
    refine ⟨a, fun i hi => ?_⟩
    rcases (show i = 0 ∨ i = 1 ∨ i = 2 ∨ i = 3 ∨ i = 4 ∨ i = 5 by omega) with rfl | rfl | rfl | rfl | rfl | rfl
    · exact h0.trans (by decide : 99 = wchr 4 0)
    · exact h1.trans (by decide : 111 = wchr 4 1)
    · exact h2.trans (by decide : 108 = wchr 4 2)
    · exact h3.trans (by decide : 117 = wchr 4 3)
    · exact h4.trans (by decide : 109 = wchr 4 4)
    · exact h5.trans (by decide : 110 = wchr 4 5)
theorem nmb_5 {B : Nat → Nat} {f e : Nat} : nmb B f e 5 = true ↔ e = f + 5 ∧ B f = 115 ∧ B (f + 1) = 108 ∧ B (f + 2) = 97 ∧ B (f + 3) = 110 ∧ B (f + 4) = 116 := by
  have hl : wlen 5 = 5 := by decide
  rw [nmb_iff, hl]
  constructor
  · rintro ⟨a, h⟩
    exact ⟨a, (h 0 (by decide)).trans (by decide : wchr 5 0 = 115), (h 1 (by decide)).trans (by decide : wchr 5 1 = 108), (h 2 (by decide)).trans (by decide : wchr 5 2 = 97), (h 3 (by decide)).trans (by decide : wchr 5 3 = 110), (h 4 (by decide)).trans (by decide : wchr 5 4 = 116)⟩
  · rintro ⟨a, h0, h1, h2, h3, h4⟩
    refine ⟨a, fun i hi => ?_⟩
    rcases (show i = 0 ∨ i = 1 ∨ i = 2 ∨ i = 3 ∨ i = 4 by omega) with rfl | rfl | rfl | rfl | rfl
    · exact h0.trans (by decide : 115 = wchr 5 0)
    · exact h1.trans (by decide : 108 = wchr 5 1)
    · exact h2.trans (by decide : 97 = wchr 5 2)
    · exact h3.trans (by decide : 110 = wchr 5 3)
    · exact h4.trans (by decide : 116 = wchr 5 4)
theorem lineNow_M {B : Nat → Nat} {n f e : Nat} {I : WI} (T : TapM B n I) (A : AtM n I 1 f e) : F_X9_lineNow I = some (if nmb B f e 0 = true then 10 else if nmb B f e 1 = true then 11 else if nmb B f e 2 = true then 12 else -4) := by
  have h0 : F_X9_is I 5 99 108 111 = _ := is_M (l := 5) (a := 99) (b := 108) (c := 111) T A (by decide) (by decide) (by decide) (by decide) (by decide)
  have h1 : F_X9_is I 7 112 97 116 = _ := is_M (l := 7) (a := 112) (b := 97) (c := 116) T A (by decide) (by decide) (by decide) (by decide) (by decide)
  have h2 : F_X9_is I 3 100 97 121 = _ := is_M (l := 3) (a := 100) (b := 97) (c := 121) T A (by decide) (by decide) (by decide) (by decide) (by decide)
  have h75 : F_X9_lineNow_75 I = some (if nmb B f e 2 = true then 12 else -4) := by
    unfold F_X9_lineNow_75 F_X9_lineNow_96
    rw [h2, ob_some]
    by_cases c : e = f + 3 ∧ B f = 100 ∧ B (f + 1) = 97 ∧ B (f + 2) = 121
    · rw [if_pos c, if_neg (show ¬ (1 : Int32) = 0 by decide), if_pos (nmb_2.mpr c)]
    · rw [if_neg c, if_pos rfl, if_neg fun q => c (nmb_2.mp q)]
  have h30 : F_X9_lineNow_30 I = some (if nmb B f e 1 = true then 11 else if nmb B f e 2 = true then 12 else -4) := by
    unfold F_X9_lineNow_30
    rw [h1, ob_some]
    by_cases c : e = f + 7 ∧ B f = 112 ∧ B (f + 1) = 97 ∧ B (f + 2) = 116
    · rw [if_pos c, if_neg (show ¬ (1 : Int32) = 0 by decide)]
      have g1 : F_X9_goesOn I 3 116 101 114 = _ := goesOn_M (at' := 3) (a := 116) (b := 101) (c := 114) T A (by omega) (fun _ => by omega) (fun _ => by omega) (by decide) (by decide) (by decide)
      have g2 : F_X9_goesOn I 6 110 0 0 = _ := goesOn_M (at' := 6) (a := 110) (b := 0) (c := 0) T A (by omega) (fun q => absurd rfl q) (fun q => absurd rfl q) (by decide) (by decide) (by decide)
      rw [g1, ob_some]
      by_cases d : B (f + 3) = 116 ∧ (101 = 0 ∨ B (f + 3 + 1) = 101) ∧ (114 = 0 ∨ B (f + 3 + 2) = 114)
      · rw [if_pos d, if_neg (show ¬ (1 : Int32) = 0 by decide), g2, ob_some]
        by_cases k : B (f + 6) = 110 ∧ (0 = 0 ∨ B (f + 6 + 1) = 0) ∧ (0 = 0 ∨ B (f + 6 + 2) = 0)
        · rw [if_pos k, if_neg (show ¬ (1 : Int32) = 0 by decide), if_pos (nmb_1.mpr ⟨c.1, c.2.1, c.2.2.1, c.2.2.2, d.1, d.2.1.resolve_left (by decide), d.2.2.resolve_left (by decide), k.1⟩)]
        · rw [if_neg k, if_pos rfl, h75, if_neg fun q => k ⟨(nmb_1.mp q).2.2.2.2.2.2.2, .inl rfl, .inl rfl⟩]
      · rw [if_neg d, if_pos rfl, h75, if_neg fun q => d ⟨(nmb_1.mp q).2.2.2.2.1, .inr (nmb_1.mp q).2.2.2.2.2.1, .inr (nmb_1.mp q).2.2.2.2.2.2.1⟩]
    · rw [if_neg c, if_pos rfl, h75, if_neg fun q => c ⟨(nmb_1.mp q).1, (nmb_1.mp q).2.1, (nmb_1.mp q).2.2.1, (nmb_1.mp q).2.2.2.1⟩]
  unfold F_X9_lineNow
  rw [h0, ob_some]
  by_cases c : e = f + 5 ∧ B f = 99 ∧ B (f + 1) = 108 ∧ B (f + 2) = 111
  · rw [if_pos c, if_neg (show ¬ (1 : Int32) = 0 by decide)]
    have g1 : F_X9_goesOn I 3 116 104 0 = _ := goesOn_M (at' := 3) (a := 116) (b := 104) (c := 0) T A (by omega) (fun _ => by omega) (fun q => absurd rfl q) (by decide) (by decide) (by decide)
    rw [g1, ob_some]
    by_cases d : B (f + 3) = 116 ∧ (104 = 0 ∨ B (f + 3 + 1) = 104) ∧ (0 = 0 ∨ B (f + 3 + 2) = 0)
    · rw [if_pos d, if_neg (show ¬ (1 : Int32) = 0 by decide), if_pos (nmb_0.mpr ⟨c.1, c.2.1, c.2.2.1, c.2.2.2, d.1, d.2.1.resolve_left (by decide)⟩)]
    · rw [if_neg d, if_pos rfl, h30, if_neg fun q => d ⟨(nmb_0.mp q).2.2.2.2.1, .inr (nmb_0.mp q).2.2.2.2.2, .inl rfl⟩]
  · rw [if_neg c, if_pos rfl, h30, if_neg fun q => c ⟨(nmb_0.mp q).1, (nmb_0.mp q).2.1, (nmb_0.mp q).2.2.1, (nmb_0.mp q).2.2.2.1⟩]
theorem actNow_M {B : Nat → Nat} {n f e : Nat} {I : WI} (T : TapM B n I) (A : AtM n I 1 f e) : F_X9_actNow I = some (if nmb B f e 3 = true then 0 else if nmb B f e 4 = true then 1 else if nmb B f e 5 = true then 2 else -4) := by
  have h3 : F_X9_is I 3 114 111 119 = _ := is_M (l := 3) (a := 114) (b := 111) (c := 119) T A (by decide) (by decide) (by decide) (by decide) (by decide)
  have h4 : F_X9_is I 6 99 111 108 = _ := is_M (l := 6) (a := 99) (b := 111) (c := 108) T A (by decide) (by decide) (by decide) (by decide) (by decide)
  have h5 : F_X9_is I 5 115 108 97 = _ := is_M (l := 5) (a := 115) (b := 108) (c := 97) T A (by decide) (by decide) (by decide) (by decide) (by decide)
  have h47 : F_X9_actNow_47 I = some (if nmb B f e 5 = true then 2 else -4) := by
    unfold F_X9_actNow_47 F_X9_actNow_78 F_X9_actNow_80
    rw [h5, ob_some]
    by_cases c : e = f + 5 ∧ B f = 115 ∧ B (f + 1) = 108 ∧ B (f + 2) = 97
    · rw [if_pos c, if_neg (show ¬ (1 : Int32) = 0 by decide)]
      have g1 : F_X9_goesOn I 3 110 116 0 = _ := goesOn_M (at' := 3) (a := 110) (b := 116) (c := 0) T A (by omega) (fun _ => by omega) (fun q => absurd rfl q) (by decide) (by decide) (by decide)
      rw [g1, ob_some]
      by_cases d : B (f + 3) = 110 ∧ (116 = 0 ∨ B (f + 3 + 1) = 116) ∧ (0 = 0 ∨ B (f + 3 + 2) = 0)
      · rw [if_pos d, if_neg (show ¬ (1 : Int32) = 0 by decide), if_pos (nmb_5.mpr ⟨c.1, c.2.1, c.2.2.1, c.2.2.2, d.1, d.2.1.resolve_left (by decide)⟩)]
      · rw [if_neg d, if_pos rfl, if_neg fun q => d ⟨(nmb_5.mp q).2.2.2.2.1, .inr (nmb_5.mp q).2.2.2.2.2, .inl rfl⟩]
    · rw [if_neg c, if_pos rfl, if_neg fun q => c ⟨(nmb_5.mp q).1, (nmb_5.mp q).2.1, (nmb_5.mp q).2.2.1, (nmb_5.mp q).2.2.2.1⟩]
  unfold F_X9_actNow
  rw [h3, ob_some]
  by_cases c : e = f + 3 ∧ B f = 114 ∧ B (f + 1) = 111 ∧ B (f + 2) = 119
  · rw [if_pos c, if_neg (show ¬ (1 : Int32) = 0 by decide), if_pos (nmb_3.mpr c)]
  rw [if_neg c, if_pos rfl, if_neg (show ¬ nmb B f e 3 = true from fun q => c (nmb_3.mp q)), h4, ob_some]
  by_cases c4 : e = f + 6 ∧ B f = 99 ∧ B (f + 1) = 111 ∧ B (f + 2) = 108
  · rw [if_pos c4, if_neg (show ¬ (1 : Int32) = 0 by decide)]
    have g1 : F_X9_goesOn I 3 117 109 110 = _ := goesOn_M (at' := 3) (a := 117) (b := 109) (c := 110) T A (by omega) (fun _ => by omega) (fun _ => by omega) (by decide) (by decide) (by decide)
    rw [g1, ob_some]
    by_cases d : B (f + 3) = 117 ∧ (109 = 0 ∨ B (f + 3 + 1) = 109) ∧ (110 = 0 ∨ B (f + 3 + 2) = 110)
    · rw [if_pos d, if_neg (show ¬ (1 : Int32) = 0 by decide), if_pos (nmb_4.mpr ⟨c4.1, c4.2.1, c4.2.2.1, c4.2.2.2, d.1, d.2.1.resolve_left (by decide), d.2.2.resolve_left (by decide)⟩)]
    · rw [if_neg d, if_pos rfl, h47, if_neg fun q => d ⟨(nmb_4.mp q).2.2.2.2.1, .inr (nmb_4.mp q).2.2.2.2.2.1, .inr (nmb_4.mp q).2.2.2.2.2.2⟩]
  · rw [if_neg c4, if_pos rfl, h47, if_neg fun q => c4 ⟨(nmb_4.mp q).1, (nmb_4.mp q).2.1, (nmb_4.mp q).2.2.1, (nmb_4.mp q).2.2.2.1⟩]
theorem rowName_M {B : Nat → Nat} {n k f e : Nat} {I : WI} (T : TapM B n I) (A : AtM n I k f e) (hk : k ≤ 4) : F_X9_isRowName I = some (if k = 1 ∧ rwb B f e = true then 1 else 0) := by
  obtain ⟨a1, a2, a3, a4, a5⟩ := A
  have hn : n ≤ 320 := T.1
  have hl : ∀ b : Bool, F_X9_isRowName_13 I (if b = true then 1 else 0) = some (if b = true ∧ rwb B f e = true then 1 else 0) := by
    intro b
    have hg : ∀ (m i : Nat) (b : Bool), i + m = e → f ≤ i → ∃ x, frp0 (fun i x => F_X9_isRowName_27_1 I i x) (Int32.ofNat e) m (Int32.ofNat i) (if b = true then 1 else 0) = some x ∧ ((b = true ∧ ∀ j, i ≤ j → j < e → B j = 100 ∨ B j = 108) → p2 x = 1) ∧ (¬ (b = true ∧ ∀ j, i ≤ j → j < e → B j = 100 ∨ B j = 108) → p2 x = 0) := by
      intro m
      induction m with
      | zero =>
        intro i b hi _
        rw [frp0]
        refine ⟨_, rfl, fun q => if_pos q.1, fun q => if_neg fun r => q ⟨r, fun j h1 h2 => by omega⟩⟩
      | succ m ih =>
        intro i b hi hf
        rw [frp0]
        have hlt : ¬ Int32.ofNat e ≤ Int32.ofNat i := fun q => absurd ((ge_on (by omega) (by omega)).mp q) (by omega)
        rw [if_neg hlt]
        have hB := (T.2.2.2 i (by omega)).1
        obtain ⟨-, -, -, -, u1, u2'⟩ := ub_t (B i) hB
        have hs : F_X9_isRowName_27_1 I (Int32.ofNat i) (if b = true then 1 else 0) = some (if (b && (B i == 100 || B i == 108)) = true then 1 else 0) := by
          unfold F_X9_isRowName_27_1 F_X9_isRowName_55_1 F_X9_isRowName_51_1 F_X9_isRowName_56_1
          rw [look_in T (by omega), ob_some, ob_some]
          cases b
          · rfl
          · rw [if_neg (show ¬ (if true = true then (1 : Int32) else 0) = 0 by decide), Bool.true_and]
            by_cases g1 : B i = 100
            · rw [if_pos (u1.mpr g1), g1]
              rfl
            rw [if_neg fun q => g1 (u1.mp q)]
            by_cases g2 : B i = 108
            · rw [if_pos (u2'.mpr g2), g2]
              rfl
            · rw [if_neg fun q => g2 (u2'.mp q), if_neg]
              rw [Bool.or_eq_true, beq_iff_eq, beq_iff_eq]
              exact fun q => q.elim g1 g2
        rw [hs, la1]
        obtain ⟨x, x1, x2, x3⟩ := ih (i + 1) (b && (B i == 100 || B i == 108)) (by omega) (by omega)
        refine ⟨x, x1, fun g => x2 ⟨?_, fun j h1 h2 => g.2 j (by omega) h2⟩, fun g => x3 ?_⟩
        · rw [Bool.and_eq_true, Bool.or_eq_true, beq_iff_eq, beq_iff_eq]
          exact ⟨g.1, g.2 i (Nat.le_refl _) (by omega)⟩
        · rintro ⟨g1, g2⟩
          rw [Bool.and_eq_true, Bool.or_eq_true, beq_iff_eq, beq_iff_eq] at g1
          refine g ⟨g1.1, fun j h1 h2 => ?_⟩
          by_cases d : j = i
          · rw [d]; exact g1.2
          · exact g2 j (by omega) h2
    obtain ⟨x, x1, x2, x3⟩ := hg (e - f) f b (by omega) (Nat.le_refl _)
    have hfu : fu (Int32.ofNat f) (Int32.ofNat e) = e - f := by
      unfold fu
      rw [on_toInt (by omega), on_toInt (by omega)]
      omega
    unfold F_X9_isRowName_13 F_X9_isRowName_19
    rw [a2, a3, hfu, x1, ob_some]
    unfold F_X9_isRowName_63
    by_cases g : b = true ∧ rwb B f e = true
    · rw [if_pos g, x2 ⟨g.1, rwb_iff.mp g.2⟩]
      rfl
    · rw [if_neg g, x3 fun q => g ⟨q.1, rwb_iff.mpr q.2⟩]
      rfl
  unfold F_X9_isRowName
  rw [a1]
  by_cases c : k = 1
  · rw [if_pos (by rw [c]; rfl)]
    have := hl true
    rw [if_pos rfl] at this
    rw [this]
    by_cases d : rwb B f e = true
    · rw [if_pos ⟨rfl, d⟩, if_pos ⟨c, d⟩]
    · rw [if_neg fun q => d q.2, if_neg fun q => d q.2]
  · rw [if_neg fun g => c (on_inj (by omega) (by decide) (g.trans (show (1 : Int32) = Int32.ofNat 1 from rfl)))]
    have := hl false
    rw [if_neg (by decide)] at this
    rw [this, if_neg (by simp), if_neg fun q => c q.1]
