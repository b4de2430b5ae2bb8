/-! power: what lies in the tables ahead does not count; then by sizes -/
theorem lpp_n {R S : Type} {f : S → Option (R ⊕ S)} {n : Nat} {s : S} (h : f s = none) : lpp f (n + 1) s = none := by rw [lpp, h]
theorem frp0_or {S T : Type} {g : Int32 → S → Option S} {g' : Int32 → T → Option T} {B : Int32} (R : S → T → Prop) (h : ∀ i s t, R s t → (g i s = none ∧ g' i t = none) ∨ ∃ s' t', g i s = some s' ∧ g' i t = some t' ∧ R s' t') : ∀ n i s t, R s t → (frp0 g B n i s = none ∧ frp0 g' B n i t = none) ∨ ∃ j s' t', frp0 g B n i s = some (j, s') ∧ frp0 g' B n i t = some (j, t') ∧ R s' t' := by
  intro n
  induction n with
  | zero =>
    intro i s t hR
    refine .inr ⟨i, s, t, ?_, ?_, hR⟩ <;> rw [frp0]
  | succ n ih =>
    intro i s t hR
    by_cases c : B ≤ i
    · refine .inr ⟨i, s, t, ?_, ?_, hR⟩ <;> rw [frp0, if_pos c]
    · rcases h i s t hR with ⟨e1, e2⟩ | ⟨s', t', e1, e2, hR'⟩
      · refine .inl ⟨?_, ?_⟩
        · rw [frp0, if_neg c, e1]
        · rw [frp0, if_neg c, e2]
      · have a1 : frp0 g B (n + 1) i s = frp0 g B n (i + 1) s' := by rw [frp0, if_neg c, e1]
        have a2 : frp0 g' B (n + 1) i t = frp0 g' B n (i + 1) t' := by rw [frp0, if_neg c, e2]
        rw [a1, a2]
        exact ih (i + 1) s' t' hR'
theorem lpp_or {P P' S T : Type} {f : S → Option (P ⊕ S)} {f' : T → Option (P' ⊕ T)} (R : S → T → Prop) (Q : P → P' → Prop) (h : ∀ s t, R s t → (f s = none ∧ f' t = none) ∨ (∃ r r', f s = some (.inl r) ∧ f' t = some (.inl r') ∧ Q r r') ∨ ∃ s' t', f s = some (.inr s') ∧ f' t = some (.inr t') ∧ R s' t') : ∀ n s t, R s t → (lpp f n s = none ∧ lpp f' n t = none) ∨ ∃ r r', lpp f n s = some r ∧ lpp f' n t = some r' ∧ Q r r' := by
  intro n
  induction n with
  | zero =>
    intro s t hR
    refine .inl ⟨?_, ?_⟩ <;> rw [lpp]
  | succ n ih =>
    intro s t hR
    rcases h s t hR with ⟨e1, e2⟩ | ⟨r, r', e1, e2, hQ⟩ | ⟨s', t', e1, e2, hR'⟩
    · exact .inl ⟨lpp_n e1, lpp_n e2⟩
    · exact .inr ⟨r, r', lpp_l e1, lpp_l e2, hQ⟩
    · rw [lpp_r e1, lpp_r e2]
      exact ih s' t' hR'
/-- the class's table, as far as it is filled -/
def Sm (x y : Int32 × WL) : Prop := p1 x = p1 y ∧ ∃ n, n ≤ 31 ∧ p1 x = Int32.ofNat n ∧ ∀ j, j < n → p2 x 32 j = p2 y 32 j
theorem ind40 {I : WI} {L L' : WL} {a1 a3 a4 : Int32} {n : Nat} (hn : n ≤ 31) (h : ∀ j, j < n → L 32 j = L' 32 j) (a5 : Int64) (a7 : Int32) : F_X8_independentLines_40_3 I L a1 a3 a4 (Int32.ofNat n) a5 a7 = F_X8_independentLines_40_3 I L' a1 a3 a4 (Int32.ofNat n) a5 a7 := by
  unfold F_X8_independentLines_40_3 F_X8_independentLines_97_3
  by_cases c1 : Int32.ofNat n ≤ a7
  · rw [if_pos c1, if_pos c1]
  · rw [if_neg c1, if_neg c1]
    by_cases c2 : (31 : Int32) ≤ a7
    · rw [if_pos c2, if_pos c2]
    · rw [if_neg c2, if_neg c2]
      by_cases c3 : a7 < 0 ∨ 31 ≤ Int32.toNatClampNeg a7
      · rw [if_pos c3, if_pos c3]
      · have hz : ¬ a7 < 0 := fun z => c3 (.inl z)
        have h0 : 0 ≤ a7.toInt := by
          rw [Int32.lt_iff_toInt_lt, z0] at hz
          omega
        obtain ⟨m, rfl, m2, m3⟩ := nn h0
        have hm : m < n := by
          rw [Int32.le_iff_toInt_le, on_toInt (by omega), on_toInt (by omega)] at c1
          omega
        rw [if_neg c3, if_neg c3, if_neg c3, if_neg c3, if_neg c3, if_neg c3, on_clamp (by omega), h m hm]
theorem ind25 {I : WI} {L L' : WL} {a1 a3 a4 : Int32} {n : Nat} (hn : n ≤ 31) (h : ∀ j, j < n → L 32 j = L' 32 j) : (F_X8_independentLines_25_2 I L a1 a3 a4 (Int32.ofNat n) = none ∧ F_X8_independentLines_25_2 I L' a1 a3 a4 (Int32.ofNat n) = none) ∨ ∃ s t, F_X8_independentLines_25_2 I L a1 a3 a4 (Int32.ofNat n) = some s ∧ F_X8_independentLines_25_2 I L' a1 a3 a4 (Int32.ofNat n) = some t ∧ Sm s t := by
  unfold F_X8_independentLines_25_2 F_X8_independentLines_40_2
  have e : (fun x : Int64 × Int32 => F_X8_independentLines_40_3 I L a1 a3 a4 (Int32.ofNat n) (p1 x) (p2 x)) = fun x => F_X8_independentLines_40_3 I L' a1 a3 a4 (Int32.ofNat n) (p1 x) (p2 x) := funext fun x => ind40 hn h _ _
  rw [e]
  cases hx : lpp (fun x : Int64 × Int32 => F_X8_independentLines_40_3 I L' a1 a3 a4 (Int32.ofNat n) (p1 x) (p2 x)) 4294967296 (F_X0_squaresOf I 1 a3 a4, 0) with
  | none => exact .inl ⟨rfl, rfl⟩
  | some q =>
    rw [ob_some, ob_some]
    unfold F_X8_independentLines_106_2 F_X8_independentLines_133_2
    by_cases c1 : lg_cmp q 0 = 0
    · rw [if_pos c1, if_pos c1]
      exact .inr ⟨_, _, rfl, rfl, rfl, n, hn, rfl, h⟩
    · rw [if_neg c1, if_neg c1]
      by_cases c2 : n = 31
      · rw [if_pos (show (31 : Int32) ≤ Int32.ofNat n from (ge_on (a := 31) (by decide) (by omega)).mpr (by omega)), if_pos (show (31 : Int32) ≤ Int32.ofNat n from (ge_on (a := 31) (by decide) (by omega)).mpr (by omega))]
        exact .inr ⟨_, _, rfl, rfl, rfl, n, hn, rfl, h⟩
      · have c2' : ¬ (31 : Int32) ≤ Int32.ofNat n := fun z => absurd ((ge_on (a := 31) (by decide) (by omega)).mp z) (by omega)
        rw [if_neg c2', if_neg c2', if_neg (nin (k := n) (N := 31) (by omega) (by decide)), if_neg (nin (k := n) (N := 31) (by omega) (by decide)), on_clamp (by omega), la1]
        refine .inr ⟨_, _, rfl, rfl, rfl, n + 1, by omega, rfl, fun j hj => ?_⟩
        show (u2 L 32 n q) 32 j = (u2 L' 32 n q) 32 j
        by_cases c : j = n
        · rw [c, u2_at, u2_at]
        · rw [u2_nc (by omega), u2_nc (by omega)]
          exact h j (by omega)
theorem ind_or {I : WI} {L L' : WL} {a1 : Int32} : (F_X8_independentLines I L a1 = none ∧ F_X8_independentLines I L' a1 = none) ∨ ∃ s t, F_X8_independentLines I L a1 = some s ∧ F_X8_independentLines I L' a1 = some t ∧ p1 s = p1 t := by
  unfold F_X8_independentLines F_X8_independentLines_4 F_X8_independentLines_145
  rcases lpp_or (f := fun x : Int32 × Int32 × WL => F_X8_independentLines_4_1 I (p2 (p2 x)) a1 (p1 x) (p1 (p2 x))) (f' := fun x : Int32 × Int32 × WL => F_X8_independentLines_4_1 I (p2 (p2 x)) a1 (p1 x) (p1 (p2 x))) (fun s t => p1 (p2 s) = p1 (p2 t) ∧ Sm (p1 s, p2 (p2 s)) (p1 t, p2 (p2 t))) (fun s t => p1 s = p1 t) (fun s t hR => by
    obtain ⟨hc, hs, n, hn, h1, h2⟩ := hR
    obtain ⟨a, b, L1⟩ := s
    obtain ⟨a', b', L2⟩ := t
    have hs : a = a' := hs
    have hc : b = b' := hc
    have h1 : a = Int32.ofNat n := h1
    have h2 : ∀ j, j < n → L1 32 j = L2 32 j := h2
    subst hs
    subst hc
    show (F_X8_independentLines_4_1 I L1 a1 a b = none ∧ F_X8_independentLines_4_1 I L2 a1 a b = none) ∨ (∃ r r', F_X8_independentLines_4_1 I L1 a1 a b = some (.inl r) ∧ F_X8_independentLines_4_1 I L2 a1 a b = some (.inl r') ∧ p1 r = p1 r') ∨ ∃ s' t', F_X8_independentLines_4_1 I L1 a1 a b = some (.inr s') ∧ F_X8_independentLines_4_1 I L2 a1 a b = some (.inr t') ∧ _
    unfold F_X8_independentLines_4_1 F_X8_independentLines_12_1 F_X8_independentLines_139_1
    by_cases c : a1 < b
    · rw [if_pos c, if_pos c]
      exact .inr (.inl ⟨_, _, rfl, rfl, rfl⟩)
    · rw [if_neg c, if_neg c]
      rcases frp0_or (g := fun i x => F_X8_independentLines_25_2 I (p2 x) a1 b i (p1 x)) (g' := fun i x => F_X8_independentLines_25_2 I (p2 x) a1 b i (p1 x)) (B := F_X0_linesOf I 1 b) Sm (fun i s t hR => by
        obtain ⟨hs, n, hn, h1, h2⟩ := hR
        obtain ⟨a, L1⟩ := s
        obtain ⟨a', L2⟩ := t
        have hs : a = a' := hs
        have h1 : a = Int32.ofNat n := h1
        have h2 : ∀ j, j < n → L1 32 j = L2 32 j := h2
        subst hs
        show (F_X8_independentLines_25_2 I L1 a1 b i a = none ∧ F_X8_independentLines_25_2 I L2 a1 b i a = none) ∨ ∃ s' t', F_X8_independentLines_25_2 I L1 a1 b i a = some s' ∧ F_X8_independentLines_25_2 I L2 a1 b i a = some t' ∧ Sm s' t'
        rw [h1]
        exact ind25 hn h2) (fu 0 (F_X0_linesOf I 1 b)) 0 (a, L1) (a, L2) ⟨rfl, n, hn, h1, h2⟩ with ⟨e1, e2⟩ | ⟨j, s', t', e1, e2, e3⟩
      · rw [e1, e2]
        exact .inl ⟨rfl, rfl⟩
      · rw [e1, e2, ob_some, ob_some]
        exact .inr (.inr ⟨_, _, rfl, rfl, rfl, e3⟩)) 4294967296 (0, 0, L) (0, 0, L') ⟨rfl, rfl, 0, by decide, rfl, fun j hj => absurd hj (Nat.not_lt_zero _)⟩ with ⟨e1, e2⟩ | ⟨r, r', e1, e2, e3⟩
  · rw [e1, e2]
    exact .inl ⟨rfl, rfl⟩
  · rw [e1, e2, ob_some, ob_some]
    exact .inr ⟨_, _, rfl, rfl, e3⟩
/-- the reference's table -/
def Sr (x y : Int32 × WL) : Prop := p1 x = p1 y ∧ ∀ j, j < 64 → p2 x 40 j = p2 y 40 j
theorem new_or {L L' : WL} (h : ∀ j, j < 64 → L 40 j = L' 40 j) (a : Int64) : (F_X9_isNew L a = none ∧ F_X9_isNew L' a = none) ∨ ∃ s t, F_X9_isNew L a = some s ∧ F_X9_isNew L' a = some t ∧ Sr s t := by
  unfold F_X9_isNew F_X9_isNew_6 F_X9_isNew_60
  rcases lpp_or (f := fun x : Int64 × Int32 => F_X9_isNew_6_1 L a (p1 x) (p2 x)) (f' := fun x : Int64 × Int32 => F_X9_isNew_6_1 L' a (p1 x) (p2 x)) (fun s t => s = t) (fun (r r' : (Int32 × WL) ⊕ Unit) => (∃ s t, r = .inl s ∧ r' = .inl t ∧ Sr s t) ∨ (r = .inr () ∧ r' = .inr ())) (fun s t hR => by
    subst hR
    obtain ⟨x, a5⟩ := s
    show (F_X9_isNew_6_1 L a x a5 = none ∧ F_X9_isNew_6_1 L' a x a5 = none) ∨ (∃ r r', F_X9_isNew_6_1 L a x a5 = some (.inl r) ∧ F_X9_isNew_6_1 L' a x a5 = some (.inl r') ∧ _) ∨ ∃ s' t', F_X9_isNew_6_1 L a x a5 = some (.inr s') ∧ F_X9_isNew_6_1 L' a x a5 = some (.inr t') ∧ s' = t'
    unfold F_X9_isNew_6_1 F_X9_isNew_54_1
    by_cases c1 : a5 < 0
    · rw [if_pos c1, if_pos c1]
      exact .inr (.inl ⟨_, _, rfl, rfl, .inr ⟨rfl, rfl⟩⟩)
    · rw [if_neg c1, if_neg c1]
      by_cases c2 : lg_cmp ((lsr x a5) &&& 1) 1 = 0
      · rw [if_pos c2, if_pos c2]
        by_cases c3 : a5 < 0 ∨ 64 ≤ Int32.toNatClampNeg a5
        · rw [if_pos c3, if_pos c3]
          exact .inl ⟨rfl, rfl⟩
        · have hj : Int32.toNatClampNeg a5 < 64 := Nat.lt_of_not_le fun z => c3 (.inr z)
          rw [if_neg c3, if_neg c3, if_neg c3, if_neg c3, if_neg c3, if_neg c3, h _ hj]
          by_cases c4 : lg_cmp (L' 40 (Int32.toNatClampNeg a5)) 0 = 0
          · rw [if_pos c4, if_pos c4]
            refine .inr (.inl ⟨_, _, rfl, rfl, .inl ⟨_, _, rfl, rfl, rfl, fun j hj => ?_⟩⟩)
            show (u2 L 40 _ x) 40 j = (u2 L' 40 _ x) 40 j
            by_cases c : j = Int32.toNatClampNeg a5
            · rw [c, u2_at, u2_at]
            · rw [u2_nc (by omega), u2_nc (by omega)]
              exact h j hj
          · rw [if_neg c4, if_neg c4]
            exact .inr (.inr ⟨_, _, rfl, rfl, rfl⟩)
      · rw [if_neg c2, if_neg c2]
        exact .inr (.inr ⟨_, _, rfl, rfl, rfl⟩)) 4294967296 (a, 63) (a, 63) rfl with ⟨e1, e2⟩ | ⟨r, r', e1, e2, e3⟩
  · rw [e1, e2]
    exact .inl ⟨rfl, rfl⟩
  · rw [e1, e2, ob_some, ob_some]
    rcases e3 with ⟨s, t, rfl, rfl, e3⟩ | ⟨rfl, rfl⟩
    · exact .inr ⟨s, t, rfl, rfl, e3⟩
    · exact .inr ⟨(0, L), (0, L'), rfl, rfl, rfl, h⟩
theorem pow_or {I : WI} {L L' : WL} {a1 : Int32} (h : ∀ j, j < 64 → L 40 j = L' 40 j) : (F_X9_power_33 I L a1 = none ∧ F_X9_power_33 I L' a1 = none) ∨ ∃ s t, F_X9_power_33 I L a1 = some s ∧ F_X9_power_33 I L' a1 = some t ∧ p1 s = p1 t := by
  unfold F_X9_power_33 F_X9_power_37 F_X9_power_86
  rcases lpp_or (f := fun x : Int32 × Int32 × WL => F_X9_power_37_2 I (p2 (p2 x)) a1 (p1 x) (p1 (p2 x))) (f' := fun x : Int32 × Int32 × WL => F_X9_power_37_2 I (p2 (p2 x)) a1 (p1 x) (p1 (p2 x))) (fun s t => p1 (p2 s) = p1 (p2 t) ∧ Sr (p1 s, p2 (p2 s)) (p1 t, p2 (p2 t))) Sr (fun s t hR => by
    obtain ⟨hc, hs, h1⟩ := hR
    obtain ⟨a, b, L1⟩ := s
    obtain ⟨a', b', L2⟩ := t
    have hs : a = a' := hs
    have hc : b = b' := hc
    have h1 : ∀ j, j < 64 → L1 40 j = L2 40 j := h1
    subst hs
    subst hc
    show (F_X9_power_37_2 I L1 a1 a b = none ∧ F_X9_power_37_2 I L2 a1 a b = none) ∨ (∃ r r', F_X9_power_37_2 I L1 a1 a b = some (.inl r) ∧ F_X9_power_37_2 I L2 a1 a b = some (.inl r') ∧ Sr r r') ∨ ∃ s' t', F_X9_power_37_2 I L1 a1 a b = some (.inr s') ∧ F_X9_power_37_2 I L2 a1 a b = some (.inr t') ∧ _
    unfold F_X9_power_37_2 F_X9_power_47_2 F_X9_power_80_2
    by_cases c : a1 + 1 < b
    · rw [if_pos c, if_pos c]
      exact .inr (.inl ⟨_, _, rfl, rfl, rfl, h1⟩)
    · rw [if_neg c, if_neg c]
      rcases lpp_or (f := fun x : Int32 × Int32 × WL => F_X9_power_47_3 I (p2 (p2 x)) a1 b (p1 x) (p1 (p2 x))) (f' := fun x : Int32 × Int32 × WL => F_X9_power_47_3 I (p2 (p2 x)) a1 b (p1 x) (p1 (p2 x))) (fun s t => p1 (p2 s) = p1 (p2 t) ∧ Sr (p1 s, p2 (p2 s)) (p1 t, p2 (p2 t))) Sr (fun s t hR => by
        obtain ⟨hc, hs, h1⟩ := hR
        obtain ⟨a, d, L1⟩ := s
        obtain ⟨a', d', L2⟩ := t
        have hs : a = a' := hs
        have hc : d = d' := hc
        have h1 : ∀ j, j < 64 → L1 40 j = L2 40 j := h1
        subst hs
        subst hc
        show (F_X9_power_47_3 I L1 a1 b a d = none ∧ F_X9_power_47_3 I L2 a1 b a d = none) ∨ (∃ r r', F_X9_power_47_3 I L1 a1 b a d = some (.inl r) ∧ F_X9_power_47_3 I L2 a1 b a d = some (.inl r') ∧ Sr r r') ∨ ∃ s' t', F_X9_power_47_3 I L1 a1 b a d = some (.inr s') ∧ F_X9_power_47_3 I L2 a1 b a d = some (.inr t') ∧ _
        unfold F_X9_power_47_3
        cases hx : F_X9_isAct I b d with
        | none => exact .inl ⟨rfl, rfl⟩
        | some v =>
          rw [ob_some, ob_some]
          by_cases c : v = 0
          · rw [if_pos c, if_pos c]
            exact .inr (.inl ⟨_, _, rfl, rfl, rfl, h1⟩)
          · rw [if_neg c, if_neg c]
            rcases new_or (L := L1) (L' := L2) h1 (F_X9_actSet I b d) with ⟨e1, e2⟩ | ⟨s, t, e1, e2, e3, e4⟩
            · rw [e1, e2]
              exact .inl ⟨rfl, rfl⟩
            · rw [e1, e2, ob_some, ob_some, e3]
              exact .inr (.inr ⟨_, _, rfl, rfl, rfl, rfl, e4⟩)) 4294967296 (a, 0, L1) (a, 0, L2) ⟨rfl, rfl, h1⟩ with ⟨e1, e2⟩ | ⟨r, r', e1, e2, e3⟩
      · rw [e1, e2]
        exact .inl ⟨rfl, rfl⟩
      · rw [e1, e2, ob_some, ob_some]
        exact .inr (.inr ⟨_, _, rfl, rfl, rfl, e3⟩)) 4294967296 (0, 0, L) (0, 0, L') ⟨rfl, rfl, h⟩ with ⟨e1, e2⟩ | ⟨r, r', e1, e2, e3⟩
  · rw [e1, e2]
    exact .inl ⟨rfl, rfl⟩
  · rw [e1, e2, ob_some, ob_some]
    exact .inr ⟨_, _, rfl, rfl, e3.1⟩
theorem pow_k0_0 : ∀ w, w < 8 → (F_X8_independentLines (cq (Int32.ofNat (0 + 1)) (Int32.ofNat (w + 1))) L8 1).map p1 = (F_X9_power_33 (cw (Int32.ofNat (0 + 1)) (Int32.ofNat (w + 1))) L8 0).map p1 := by decide +kernel
theorem pow_k0_1 : ∀ w, w < 8 → (F_X8_independentLines (cq (Int32.ofNat (1 + 1)) (Int32.ofNat (w + 1))) L8 1).map p1 = (F_X9_power_33 (cw (Int32.ofNat (1 + 1)) (Int32.ofNat (w + 1))) L8 0).map p1 := by decide +kernel
theorem pow_k0_2 : ∀ w, w < 8 → (F_X8_independentLines (cq (Int32.ofNat (2 + 1)) (Int32.ofNat (w + 1))) L8 1).map p1 = (F_X9_power_33 (cw (Int32.ofNat (2 + 1)) (Int32.ofNat (w + 1))) L8 0).map p1 := by decide +kernel
theorem pow_k0_3 : ∀ w, w < 8 → (F_X8_independentLines (cq (Int32.ofNat (3 + 1)) (Int32.ofNat (w + 1))) L8 1).map p1 = (F_X9_power_33 (cw (Int32.ofNat (3 + 1)) (Int32.ofNat (w + 1))) L8 0).map p1 := by decide +kernel
theorem pow_k0_4 : ∀ w, w < 8 → (F_X8_independentLines (cq (Int32.ofNat (4 + 1)) (Int32.ofNat (w + 1))) L8 1).map p1 = (F_X9_power_33 (cw (Int32.ofNat (4 + 1)) (Int32.ofNat (w + 1))) L8 0).map p1 := by decide +kernel
theorem pow_k0_5 : ∀ w, w < 8 → (F_X8_independentLines (cq (Int32.ofNat (5 + 1)) (Int32.ofNat (w + 1))) L8 1).map p1 = (F_X9_power_33 (cw (Int32.ofNat (5 + 1)) (Int32.ofNat (w + 1))) L8 0).map p1 := by decide +kernel
theorem pow_k0_6 : ∀ w, w < 8 → (F_X8_independentLines (cq (Int32.ofNat (6 + 1)) (Int32.ofNat (w + 1))) L8 1).map p1 = (F_X9_power_33 (cw (Int32.ofNat (6 + 1)) (Int32.ofNat (w + 1))) L8 0).map p1 := by decide +kernel
theorem pow_k0_7 : ∀ w, w < 8 → (F_X8_independentLines (cq (Int32.ofNat (7 + 1)) (Int32.ofNat (w + 1))) L8 1).map p1 = (F_X9_power_33 (cw (Int32.ofNat (7 + 1)) (Int32.ofNat (w + 1))) L8 0).map p1 := by decide +kernel
theorem pow_k0 : ∀ h, h < 8 → ∀ w, w < 8 → (F_X8_independentLines (cq (Int32.ofNat (h + 1)) (Int32.ofNat (w + 1))) L8 1).map p1 = (F_X9_power_33 (cw (Int32.ofNat (h + 1)) (Int32.ofNat (w + 1))) L8 0).map p1 := fun h hh => match h, hh with
  | 0, _ => pow_k0_0
  | 1, _ => pow_k0_1
  | 2, _ => pow_k0_2
  | 3, _ => pow_k0_3
  | 4, _ => pow_k0_4
  | 5, _ => pow_k0_5
  | 6, _ => pow_k0_6
  | 7, _ => pow_k0_7
theorem pow_k1_0 : ∀ w, w < 8 → (F_X8_independentLines (cq (Int32.ofNat (0 + 1)) (Int32.ofNat (w + 1))) L8 2).map p1 = (F_X9_power_33 (cw (Int32.ofNat (0 + 1)) (Int32.ofNat (w + 1))) L8 1).map p1 := by decide +kernel
theorem pow_k1_1 : ∀ w, w < 8 → (F_X8_independentLines (cq (Int32.ofNat (1 + 1)) (Int32.ofNat (w + 1))) L8 2).map p1 = (F_X9_power_33 (cw (Int32.ofNat (1 + 1)) (Int32.ofNat (w + 1))) L8 1).map p1 := by decide +kernel
theorem pow_k1_2 : ∀ w, w < 8 → (F_X8_independentLines (cq (Int32.ofNat (2 + 1)) (Int32.ofNat (w + 1))) L8 2).map p1 = (F_X9_power_33 (cw (Int32.ofNat (2 + 1)) (Int32.ofNat (w + 1))) L8 1).map p1 := by decide +kernel
theorem pow_k1_3 : ∀ w, w < 8 → (F_X8_independentLines (cq (Int32.ofNat (3 + 1)) (Int32.ofNat (w + 1))) L8 2).map p1 = (F_X9_power_33 (cw (Int32.ofNat (3 + 1)) (Int32.ofNat (w + 1))) L8 1).map p1 := by decide +kernel
theorem pow_k1_4 : ∀ w, w < 8 → (F_X8_independentLines (cq (Int32.ofNat (4 + 1)) (Int32.ofNat (w + 1))) L8 2).map p1 = (F_X9_power_33 (cw (Int32.ofNat (4 + 1)) (Int32.ofNat (w + 1))) L8 1).map p1 := by decide +kernel
theorem pow_k1_5 : ∀ w, w < 8 → (F_X8_independentLines (cq (Int32.ofNat (5 + 1)) (Int32.ofNat (w + 1))) L8 2).map p1 = (F_X9_power_33 (cw (Int32.ofNat (5 + 1)) (Int32.ofNat (w + 1))) L8 1).map p1 := by decide +kernel
theorem pow_k1_6 : ∀ w, w < 8 → (F_X8_independentLines (cq (Int32.ofNat (6 + 1)) (Int32.ofNat (w + 1))) L8 2).map p1 = (F_X9_power_33 (cw (Int32.ofNat (6 + 1)) (Int32.ofNat (w + 1))) L8 1).map p1 := by decide +kernel
theorem pow_k1_7 : ∀ w, w < 8 → (F_X8_independentLines (cq (Int32.ofNat (7 + 1)) (Int32.ofNat (w + 1))) L8 2).map p1 = (F_X9_power_33 (cw (Int32.ofNat (7 + 1)) (Int32.ofNat (w + 1))) L8 1).map p1 := by decide +kernel
theorem pow_k1 : ∀ h, h < 8 → ∀ w, w < 8 → (F_X8_independentLines (cq (Int32.ofNat (h + 1)) (Int32.ofNat (w + 1))) L8 2).map p1 = (F_X9_power_33 (cw (Int32.ofNat (h + 1)) (Int32.ofNat (w + 1))) L8 1).map p1 := fun h hh => match h, hh with
  | 0, _ => pow_k1_0
  | 1, _ => pow_k1_1
  | 2, _ => pow_k1_2
  | 3, _ => pow_k1_3
  | 4, _ => pow_k1_4
  | 5, _ => pow_k1_5
  | 6, _ => pow_k1_6
  | 7, _ => pow_k1_7
theorem ind_cq (I : WI) (L : WL) (a : Int32) : F_X8_independentLines I L a = F_X8_independentLines (cq (I 1 1) (I 1 2)) L a := rfl
theorem pow_cw (I : WI) (L : WL) (a : Int32) : F_X9_power_33 I L a = F_X9_power_33 (cw (I 33 0) (I 33 1)) L a := rfl
/-- both count alike -/
theorem power_both {h w k : Nat} (hC : Cl h w) (hk : k < 2) {I J : WI} {L K : WL} (i1 : I 1 1 = Int32.ofNat h) (i2 : I 1 2 = Int32.ofNat w) (j1 : J 33 0 = Int32.ofNat h) (j2 : J 33 1 = Int32.ofNat w) (hK : ∀ j, j < 64 → K 40 j = 0) {v u : Int32 × WL} (hv : F_X8_independentLines I L (Int32.ofNat (k + 1)) = some v) (hu : F_X9_power_33 J K (Int32.ofNat k) = some u) : p1 v = p1 u := by
  obtain ⟨⟨h1, h2⟩, h3, h4⟩ := hC
  rw [ind_cq, i1, i2] at hv
  rw [pow_cw, j1, j2] at hu
  have hm : (F_X8_independentLines (cq (Int32.ofNat h) (Int32.ofNat w)) L8 (Int32.ofNat (k + 1))).map p1 = (F_X9_power_33 (cw (Int32.ofNat h) (Int32.ofNat w)) L8 (Int32.ofNat k)).map p1 := by
    rcases (show k = 0 ∨ k = 1 by omega) with rfl | rfl
    · have := pow_k0 (h - 1) (by omega) (w - 1) (by omega)
      rw [show h - 1 + 1 = h by omega, show w - 1 + 1 = w by omega] at this
      exact this
    · have := pow_k1 (h - 1) (by omega) (w - 1) (by omega)
      rw [show h - 1 + 1 = h by omega, show w - 1 + 1 = w by omega] at this
      exact this
  rcases ind_or (I := cq (Int32.ofNat h) (Int32.ofNat w)) (L := L) (L' := L8) (a1 := Int32.ofNat (k + 1)) with ⟨e1, -⟩ | ⟨s, t, e1, e2, e3⟩
  · rw [hv] at e1
    cases e1
  · rw [hv] at e1
    rcases pow_or (I := cw (Int32.ofNat h) (Int32.ofNat w)) (L := K) (L' := L8) (a1 := Int32.ofNat k) (fun j hj => hK j hj) with ⟨f1, -⟩ | ⟨s', t', f1, f2, f3⟩
    · rw [hu] at f1
      cases f1
    · rw [hu] at f1
      rw [e2, f2] at hm
      have hm' : p1 t = p1 t' := Option.some.inj hm
      rw [Option.some.inj e1, e3, hm', ← f3, Option.some.inj f1]
theorem E_21 {I : WI} {L : WL} {a1 : Int32} (H : Inv I L) : ∃ v, (F_X8_power I L a1) = some v ∧ ∃ w, (F_X9_power I (p2 v) a1) = some w ∧ (p1 v) = (p1 w) ∧ Inv I (p2 w) := by
  obtain ⟨v, e, w', e', g⟩ := N_21 (a1 := a1) H
  refine ⟨v, e, w', e', ?_, g⟩
  obtain ⟨⟨h, w, ⟨hC, i11, i12, i330, i331, l332, hIns, i10⟩, -⟩, -⟩ := H
  have hreset : ∀ (K : WL) (a : Int32), ∃ K', F_X9_power_14 I K a 0 = F_X9_power_33 I K' a ∧ ∀ j, j < 64 → K' 40 j = 0 := fun K a => by
    obtain ⟨e, r1, r2⟩ := frp0_nat (g := fun i x => F_X9_power_20_1 I x a i) (b := 64) (by decide) (fun i x => ∀ j, j < i → x 40 j = 0) (s := K) (fun i x hi hx => by
      refine ⟨u2 x 40 i 0, ?_, fun j hj => ?_⟩
      · show F_X9_power_20_1 I x a (Int32.ofNat i) = _
        unfold F_X9_power_20_1
        rw [if_neg (nin (k := i) (N := 64) hi (by decide)), on_clamp (by omega)]
      · by_cases c : j = i
        · rw [c, u2_at]
        · rw [u2_nc (by omega)]
          exact hx j (by omega)) (fun j hj => absurd hj (Nat.not_lt_zero _))
    refine ⟨p2 e, ?_, r2⟩
    unfold F_X9_power_14
    show (frp0 (fun i x => F_X9_power_20_1 I x a i) (Int32.ofNat 64) (fu 0 (Int32.ofNat 64)) 0 K).bind _ = _
    rw [r1, ob_some]
  unfold F_X8_power F_X8_power_24 at e
  unfold F_X9_power at e'
  rcases in0 (a := a1) 1 (by decide) with ⟨q1, q2⟩ | ⟨q1, q2, q3, k, hk, rfl⟩
  · rw [if_pos (show F_X9_in (Int32.toInt64 a1) 0 1 = 0 from q1)] at e'
    rw [← Option.some.inj e']
    have n0 : ¬ a1 = 0 := fun z => by
      rw [z] at q2
      exact absurd q2 (by decide)
    have n1 : ¬ a1 = 1 := fun z => by
      rw [z] at q2
      exact absurd q2 (by decide)
    rw [if_neg n0, if_neg n1] at e
    rw [← Option.some.inj e]
    rfl
  · rw [if_neg (show ¬ F_X9_in (Int32.toInt64 (Int32.ofNat k)) 0 1 = 0 from fun z => by rw [show F_X9_in (Int32.toInt64 (Int32.ofNat k)) 0 1 = 1 from q1] at z; exact absurd z (by decide))] at e'
    obtain ⟨K', k1, k2⟩ := hreset (p2 v) (Int32.ofNat k)
    rw [k1] at e'
    have hi : ∃ u, F_X8_independentLines I L (Int32.ofNat (k + 1)) = some u ∧ p1 u = p1 v := by
      rcases (show k = 0 ∨ k = 1 by omega) with rfl | rfl
      · rw [if_pos (show Int32.ofNat 0 = 0 from rfl)] at e
        cases hx : F_X8_independentLines I L 1 with
        | none =>
          rw [hx] at e
          cases e
        | some u =>
          rw [hx, ob_some] at e
          refine ⟨u, rfl, ?_⟩
          rw [← Option.some.inj e]
          rfl
      · rw [if_neg (show ¬ Int32.ofNat 1 = 0 by decide), if_pos (show Int32.ofNat 1 = 1 from rfl)] at e
        cases hx : F_X8_independentLines I L 2 with
        | none =>
          rw [hx] at e
          cases e
        | some u =>
          rw [hx, ob_some] at e
          refine ⟨u, rfl, ?_⟩
          rw [← Option.some.inj e]
          rfl
    obtain ⟨u, u1, u2'⟩ := hi
    rw [← u2']
    exact power_both hC (by omega) i11 i12 i330 i331 k2 u1 e'
