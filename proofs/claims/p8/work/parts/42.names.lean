/-! names of the text -/
theorem sb_n : ∀ b, b < 256 → 128 ≤ b → (sby b).toInt < 0 := by decide +kernel
theorem sb_c (b : Nat) (hb : b < 256) (c : Nat) (hc : c < 128) : sby b = Int32.ofNat c ↔ b = c := by
  by_cases q : b < 128
  · have e : sby b = Int32.ofNat b := by
      unfold sby
      exact if_pos q
    rw [e]
    exact ⟨fun z => on_inj (by omega) (by omega) z, fun z => by rw [z]⟩
  · refine ⟨fun z => ?_, fun z => by omega⟩
    have h := sb_n b hb (by omega)
    rw [z, on_toInt (by omega)] at h
    omega
theorem frp1_all {R : Type} {g : Int32 → Unit → Option (R ⊕ Unit)} {b : Nat} (hb : b < 2147483648) (r : R) (Q : Nat → Prop) (h1 : ∀ i, i < b → Q i → g (Int32.ofNat i) () = some (.inr ())) (h2 : ∀ i, i < b → ¬ Q i → g (Int32.ofNat i) () = some (.inl r)) : ∀ (m i : Nat), i + m = b → ((∀ j, i ≤ j → j < b → Q j) → ∃ e, frp1 g (Int32.ofNat b) m (Int32.ofNat i) () = some (.inr e)) ∧ (¬ (∀ j, i ≤ j → j < b → Q j) → frp1 g (Int32.ofNat b) m (Int32.ofNat i) () = some (.inl r)) := by
  intro m
  induction m with
  | zero =>
    intro i hi
    refine ⟨fun _ => ⟨_, by rw [frp1]⟩, fun q => absurd (fun j h3 h4 => by omega) q⟩
  | succ m ih =>
    intro i hi
    rw [frp1]
    have hl : ¬ Int32.ofNat b ≤ Int32.ofNat i := fun q => absurd ((ge_on hb (by omega)).mp q) (by omega)
    rw [if_neg hl]
    by_cases c : Q i
    · rw [h1 i (by omega) c]
      obtain ⟨i1, i2⟩ := ih (i + 1) (by omega)
      rw [la1]
      refine ⟨fun q => i1 fun j h3 h4 => q j (by omega) h4, fun q => i2 fun r => q fun j h3 h4 => ?_⟩
      by_cases d : j = i
      · rw [d]; exact c
      · exact r j (by omega) h4
    · rw [h2 i (by omega) c]
      exact ⟨fun q => absurd (q i (Nat.le_refl _) (by omega)) c, fun _ => rfl⟩
def wlen (t : Nat) : Nat := s_len.getD t 0
def wchr (t i : Nat) : Nat := ((s_byt.getD t []).getD i 0).toNatClampNeg
theorem wchr_t : ∀ t, t < 6 → ∀ i, i < 7 → wchr t i < 128 ∧ (i < wlen t → chr t (Int32.ofNat i) = Int32.ofNat (wchr t i)) := by decide +kernel
theorem wlen_t : ∀ t, t < 6 → wlen t ≤ 7 ∧ slen t = Int32.ofNat (wlen t) := by decide +kernel
/-- the token from f to e is the word t; is a row -/
def nmb (B : Nat → Nat) (f e t : Nat) : Bool := (e == f + wlen t) && (List.range (wlen t)).all (fun i => B (f + i) == wchr t i)
theorem nmb_iff {B : Nat → Nat} {f e t : Nat} : nmb B f e t = true ↔ e = f + wlen t ∧ ∀ i, i < wlen t → B (f + i) = wchr t i := by
  unfold nmb
  rw [Bool.and_eq_true, beq_iff_eq, List.all_eq_true]
  constructor
  · rintro ⟨a, b⟩
    exact ⟨a, fun i hi => beq_iff_eq.mp (b i (List.mem_range.mpr hi))⟩
  · rintro ⟨a, b⟩
    exact ⟨a, fun i hi => beq_iff_eq.mpr (b i (List.mem_range.mp hi))⟩
def rwb (B : Nat → Nat) (f e : Nat) : Bool := (List.range (e - f)).all (fun i => B (f + i) == 100 || B (f + i) == 108)
theorem rwb_iff {B : Nat → Nat} {f e : Nat} : rwb B f e = true ↔ ∀ j, f ≤ j → j < e → B j = 100 ∨ B j = 108 := by
  unfold rwb
  rw [List.all_eq_true]
  constructor
  · intro h j h1 h2
    have := h (j - f) (List.mem_range.mpr (by omega))
    rw [show f + (j - f) = j by omega, Bool.or_eq_true, beq_iff_eq, beq_iff_eq] at this
    exact this
  · intro h i hi
    rw [List.mem_range] at hi
    rw [Bool.or_eq_true, beq_iff_eq, beq_iff_eq]
    exact h (f + i) (by omega) (by omega)
/-- the class stands behind a token of kind k from f to e -/
def AtC (n : Nat) (I : WI) (k f e : Nat) : Prop := I 11 6 = Int32.ofNat k ∧ I 11 7 = Int32.ofNat f ∧ I 11 8 = Int32.ofNat e ∧ f ≤ e ∧ e ≤ n
theorem named_C {B : Nat → Nat} {n k f e t : Nat} {I : WI} (T : Tap B n I) (A : AtC n I k f e) (hk : k ≤ 4) (ht : t < 6) : F_X6_isNamed I t = some (if k = 1 ∧ nmb B f e t = true then 1 else 0) := by
  obtain ⟨a1, a2, a3, a4, a5⟩ := A
  have hn : n ≤ 320 := T.1
  obtain ⟨w1, w2⟩ := wlen_t t ht
  unfold F_X6_isNamed F_X6_isNamed_24
  rw [a1, a2, a3]
  by_cases c : k = 1
  · rw [if_pos (by rw [c]; rfl), on_sub a4, w2]
    by_cases d : e = f + wlen t
    · rw [if_pos (by rw [d, Nat.add_sub_cancel_left])]
      have hs := frp1_all (g := fun i x => F_X6_isNamed_36_1 I t i) (b := wlen t) (by omega) (0 : Int32) (fun i => B (f + i) = wchr t i) (fun i hi hq => by
        show F_X6_isNamed_36_1 I t (Int32.ofNat i) = _
        unfold F_X6_isNamed_36_1
        obtain ⟨c1, c2⟩ := wchr_t t ht i (by omega)
        rw [if_neg (nin (k := i) (N := s_len.getD t 0) hi (by have := w1; unfold wlen at this; omega)), a2, oadd, byteAt_eq T (by omega), c2 hi, if_pos ((sb_c _ (T.2.2.2 (f + i) (by omega)).1 _ c1).mpr hq)]) (fun i hi hq => by
        show F_X6_isNamed_36_1 I t (Int32.ofNat i) = _
        unfold F_X6_isNamed_36_1
        obtain ⟨c1, c2⟩ := wchr_t t ht i (by omega)
        rw [if_neg (nin (k := i) (N := s_len.getD t 0) hi (by have := w1; unfold wlen at this; omega)), a2, oadd, byteAt_eq T (by omega), c2 hi, if_neg fun g => hq ((sb_c _ (T.2.2.2 (f + i) (by omega)).1 _ c1).mp g)]) (wlen t) 0 (by omega)
      have hfu : fu 0 (slen t) = wlen t := by
        rw [w2]
        unfold fu
        rw [on_toInt (by omega), z0]
        omega
      unfold F_X6_isNamed_28 F_X6_isNamed_65
      rw [hfu, w2]
      by_cases g : ∀ j, 0 ≤ j → j < wlen t → B (f + j) = wchr t j
      · obtain ⟨x, hx⟩ := hs.1 g
        rw [if_pos ⟨c, nmb_iff.mpr ⟨d, fun i hi => g i (Nat.zero_le _) hi⟩⟩]
        show (frp1 (fun i x => F_X6_isNamed_36_1 I t i) (Int32.ofNat (wlen t)) (wlen t) (Int32.ofNat 0) ()).bind _ = _
        rw [hx]
        rfl
      · rw [if_neg fun q => g fun j _ hj => (nmb_iff.mp q.2).2 j hj]
        show (frp1 (fun i x => F_X6_isNamed_36_1 I t i) (Int32.ofNat (wlen t)) (wlen t) (Int32.ofNat 0) ()).bind _ = _
        rw [hs.2 g]
        rfl
    · rw [if_neg fun g => d (by have := on_inj (by omega) (by omega) g; omega), if_neg fun q => d (nmb_iff.mp q.2).1]
  · rw [if_neg fun g => c (on_inj (by omega) (by decide) (g.trans (show (1 : Int32) = Int32.ofNat 1 from rfl))), if_neg fun q => c q.1]
theorem row_C {B : Nat → Nat} {n k f e : Nat} {I : WI} (T : Tap B n I) (A : AtC n I k f e) (hk : k ≤ 4) : F_X6_isRow I = if k = 1 ∧ rwb B f e = true then 1 else 0 := by
  obtain ⟨a1, a2, a3, a4, a5⟩ := A
  have hn : n ≤ 320 := T.1
  unfold F_X6_isRow
  rw [a1, a2]
  by_cases c : k = 1
  · rw [if_pos (by rw [c]; rfl)]
    unfold F_X6_isRow_15 F_X6_isRow_52
    rw [a3]
    have hfu : fu (Int32.ofNat f) (Int32.ofNat e) = e - f := by
      unfold fu
      rw [on_toInt (by omega), on_toInt (by omega)]
      omega
    rw [hfu]
    have hg : ∀ i, i < e → B i < 256 ∧ F_X5_byteAt I (Int32.ofNat i) = sby (B i) := fun i hi => ⟨(T.2.2.2 i (by omega)).1, byteAt_eq T (by omega)⟩
    obtain ⟨x, hx⟩ := fr1_fb (f := fun i x => F_X6_isRow_23_1 I i) (W := e) (by omega) (fun i => B i == 100 || B i == 108) (fun _ => (0 : Int32)) (fun i hi hgt => by
      show F_X6_isRow_23_1 I (Int32.ofNat i) = _
      unfold F_X6_isRow_23_1 F_X6_isRow_46_1
      obtain ⟨g1, g2⟩ := hg i hi
      obtain ⟨-, -, -, -, -, s1, s2⟩ := sb_t (B i) g1
      rw [g2]
      rw [Bool.or_eq_true, beq_iff_eq, beq_iff_eq] at hgt
      rcases hgt with h | h
      · rw [if_pos (s1.mpr h)]
      · by_cases q : sby (B i) = 100
        · rw [if_pos q]
        · rw [if_neg q, if_pos (s2.mpr h)]) (fun i hi hgf => by
      show F_X6_isRow_23_1 I (Int32.ofNat i) = _
      unfold F_X6_isRow_23_1 F_X6_isRow_46_1
      obtain ⟨g1, g2⟩ := hg i hi
      obtain ⟨-, -, -, -, -, s1, s2⟩ := sb_t (B i) g1
      rw [g2]
      rw [Bool.or_eq_false_iff, beq_eq_false_iff_ne, beq_eq_false_iff_ne] at hgf
      rw [if_neg fun q => hgf.1 (s1.mp q), if_neg fun q => hgf.2 (s2.mp q)]) (e - f) f (by omega)
    rw [hx]
    -- the first that is no d, no l
    have hall : ∀ m i, fb (fun i => B i == 100 || B i == 108) m i = none ↔ ∀ j, i ≤ j → j < i + m → B j = 100 ∨ B j = 108 := by
      intro m
      induction m with
      | zero => intro i; exact ⟨fun _ j h1 h2 => by omega, fun _ => rfl⟩
      | succ m ih =>
        intro i
        unfold fb
        by_cases q : (B i == 100 || B i == 108) = true
        · rw [if_pos q, ih (i + 1)]
          rw [Bool.or_eq_true, beq_iff_eq, beq_iff_eq] at q
          constructor
          · intro h j h1 h2
            by_cases d : j = i
            · rw [d]; exact q
            · exact h j (by omega) (by omega)
          · intro h j h1 h2
            exact h j (by omega) (by omega)
        · rw [if_neg q]
          constructor
          · intro h; exact absurd h (by simp)
          · intro h
            have := h i (Nat.le_refl _) (by omega)
            exact absurd (by rw [Bool.or_eq_true, beq_iff_eq, beq_iff_eq]; exact this) q
    by_cases d : rwb B f e = true
    · rw [if_pos ⟨c, d⟩, (hall (e - f) f).mpr fun j h1 h2 => rwb_iff.mp d j h1 (by omega)]
      rfl
    · rw [if_neg fun q => d q.2]
      cases hfb : fb (fun i => B i == 100 || B i == 108) (e - f) f with
      | none => exact absurd (rwb_iff.mpr fun j h1 h2 => (hall (e - f) f).mp hfb j h1 (by omega)) d
      | some j => rfl
  · rw [if_neg fun g => c (on_inj (by omega) (by decide) (g.trans (show (1 : Int32) = Int32.ofNat 1 from rfl))), if_neg fun q => c q.1]
/-- the reference stands at a token of kind k from f to e -/
def AtM (n : Nat) (I : WI) (k f e : Nat) : Prop := I 33 24 = Int32.ofNat k ∧ I 33 23 = Int32.ofNat f ∧ I 33 22 = Int32.ofNat e ∧ f ≤ e ∧ e ≤ n
theorem look_in {B : Nat → Nat} {n q : Nat} {I : WI} (T : TapM B n I) (hq : q < n) : F_X9_look I (Int32.ofNat q) = some (Int32.ofNat (B q)) := by
  rw [look_eq T (by have := T.1; omega), if_pos hq]
theorem is_M {B : Nat → Nat} {n k f e : Nat} {I : WI} (T : TapM B n I) (A : AtM n I k f e) {l a b c : Nat} (hl : 3 ≤ l) (hl' : l < 100) (ha : a < 128) (hb : b < 128) (hc : c < 128) : F_X9_is I (Int32.ofNat l) (Int32.ofNat a) (Int32.ofNat b) (Int32.ofNat c) = some (if e = f + l ∧ B f = a ∧ B (f + 1) = b ∧ B (f + 2) = c then 1 else 0) := by
  obtain ⟨a1, a2, a3, a4, a5⟩ := A
  have hn : n ≤ 320 := T.1
  unfold F_X9_is F_X9_is_58 F_X9_is_59
  rw [a2, a3, on_sub a4]
  by_cases d : e = f + l
  · rw [if_pos (by rw [d, Nat.add_sub_cancel_left]), look_in T (by omega), ob_some, la1, look_in T (by omega), ob_some, show Int32.ofNat f + 2 = Int32.ofNat (f + 2) from oadd f 2, look_in T (by omega), ob_some]
    have h0 := (T.2.2.2 f (by omega)).1
    have h1 := (T.2.2.2 (f + 1) (by omega)).1
    have h2 := (T.2.2.2 (f + 2) (by omega)).1
    by_cases g1 : B f = a
    · rw [if_pos (by rw [g1])]
      by_cases g2 : B (f + 1) = b
      · rw [if_pos (by rw [g2])]
        by_cases g3 : B (f + 2) = c
        · rw [if_pos (by rw [g3]), if_pos ⟨d, g1, g2, g3⟩]
        · rw [if_neg fun q => g3 (on_inj (by omega) (by omega) q), if_neg fun q => g3 q.2.2.2]
      · rw [if_neg fun q => g2 (on_inj (by omega) (by omega) q), if_neg fun q => g2 q.2.2.1]
    · rw [if_neg fun q => g1 (on_inj (by omega) (by omega) q), if_neg fun q => g1 q.2.1]
  · rw [if_neg fun g => d (by have := on_inj (by omega) (by omega) g; omega), if_neg fun q => d q.1]
theorem goesOn_M {B : Nat → Nat} {n k f e : Nat} {I : WI} (T : TapM B n I) (A : AtM n I k f e) {at' a b c : Nat} (h1 : f + at' < e) (h2 : b ≠ 0 → f + at' + 1 < e) (h3 : c ≠ 0 → f + at' + 2 < e) (ha : a < 128) (hb : b < 128) (hc : c < 128) : F_X9_goesOn I (Int32.ofNat at') (Int32.ofNat a) (Int32.ofNat b) (Int32.ofNat c) = some (if B (f + at') = a ∧ (b = 0 ∨ B (f + at' + 1) = b) ∧ (c = 0 ∨ B (f + at' + 2) = c) then 1 else 0) := by
  obtain ⟨a1, a2, a3, a4, a5⟩ := A
  have hn : n ≤ 320 := T.1
  have hz : ∀ x, x < 128 → (Int32.ofNat x = 0 ↔ x = 0) := by decide
  have h34 : F_X9_goesOn_34 I (Int32.ofNat at') (Int32.ofNat a) (Int32.ofNat b) (Int32.ofNat c) = some (if c = 0 ∨ B (f + at' + 2) = c then 1 else 0) := by
    unfold F_X9_goesOn_34 F_X9_goesOn_56 F_X9_goesOn_60 F_X9_goesOn_61
    by_cases g : c = 0
    · rw [if_pos ((hz c hc).mpr g), if_pos (.inl g)]
    · rw [if_neg fun q => g ((hz c hc).mp q), a2, oadd, show Int32.ofNat (f + at') + 2 = Int32.ofNat (f + at' + 2) from oadd (f + at') 2, look_in T (by have := h3 g; omega), ob_some]
      have hB := (T.2.2.2 (f + at' + 2) (by have := h3 g; omega)).1
      by_cases d : B (f + at' + 2) = c
      · rw [if_pos (by rw [d]), if_pos (.inr d)]
      · rw [if_neg fun q => d (on_inj (by omega) (by omega) q), if_neg fun q => q.elim g d]
  unfold F_X9_goesOn F_X9_goesOn_60 F_X9_goesOn_61
  rw [h34, a2, oadd, look_in T (by omega), ob_some]
  have hB := (T.2.2.2 (f + at') (by omega)).1
  by_cases d1 : B (f + at') = a
  · rw [if_pos (by rw [d1])]
    by_cases g : b = 0
    · rw [if_pos ((hz b hb).mpr g)]
      by_cases d3 : c = 0 ∨ B (f + at' + 2) = c
      · rw [if_pos d3, if_pos ⟨d1, .inl g, d3⟩]
      · rw [if_neg d3, if_neg fun q => d3 q.2.2]
    · rw [if_neg fun q => g ((hz b hb).mp q), la1, look_in T (by have := h2 g; omega), ob_some]
      have hB2 := (T.2.2.2 (f + at' + 1) (by have := h2 g; omega)).1
      by_cases d2 : B (f + at' + 1) = b
      · rw [if_pos (by rw [d2])]
        by_cases d3 : c = 0 ∨ B (f + at' + 2) = c
        · rw [if_pos d3, if_pos ⟨d1, .inr d2, d3⟩]
        · rw [if_neg d3, if_neg fun q => d3 q.2.2]
      · rw [if_neg fun q => d2 (on_inj (by omega) (by omega) q), if_neg fun q => q.2.1.elim g d2]
  · rw [if_neg fun q => d1 (on_inj (by omega) (by omega) q), if_neg fun q => d1 q.1]
