theorem frp0_fix {S : Type} {g : Int32 → S → Option S} {B : Int32} {s : S} : ∀ (n : Nat) (c : Int32), (∀ i : Int32, c.toInt ≤ i.toInt → i.toInt < B.toInt → g i s = some s) → ∃ e, frp0 g B n c s = some (e, s) := by
  intro n
  induction n with
  | zero => intro c _; rw [frp0]; exact ⟨c, rfl⟩
  | succ n ih =>
    intro c h
    rw [frp0]
    by_cases hc : B ≤ c
    · rw [if_pos hc]
      exact ⟨c, rfl⟩
    · rw [if_neg hc]
      rw [Int32.le_iff_toInt_le] at hc
      rw [h c (Int.le_refl _) (by omega)]
      refine ih (c + 1) (fun i hi hb => h i ?_ hb)
      have h1 : (c + 1).toInt = c.toInt + 1 := by
        rw [Int32.toInt_add]
        have e1 : (1 : Int32).toInt = 1 := by decide
        have b1 := B.toInt_lt
        have b2 := c.le_toInt
        rw [e1]
        exact Int.bmod_eq_of_le (by omega) (by omega)
      omega
/-- the state behind both constructors -/
def I0 : WI := fun k j => match k, j with
  | 1, 0 => 1
  | 1, 1 => 4
  | 1, 2 => 4
  | 2, 1 => 4
  | 2, 2 => 4
  | 3, 1 => 4
  | 3, 2 => 4
  | 4, 1 => 4
  | 4, 2 => 4
  | 5, 0 => 1
  | 5, 1 => 4
  | 5, 2 => 4
  | 12, 1 => 4
  | 12, 2 => 4
  | 13, 1 => 4
  | 13, 2 => 4
  | 19, 0 => -1
  | 21, 0 => -1
  | 23, 0 => -1
  | 25, 0 => -1
  | 33, 0 => 4
  | 33, 1 => 4
  | 33, 10 => 4
  | 33, 11 => 4
  | 42, 0 => -4
  | 42, 1 => -4
  | 42, 2 => -4
  | 42, 3 => -4
  | _, _ => 0
def Zi (f : WI) : Prop := ∀ k j, 45 ≤ k ∨ 50 ≤ j → f k j = 0
theorem Zi.u {f : WI} {k j : Nat} {x : Int32} (hk : k < 45) (hj : j < 50) (h : Zi f) : Zi (u2 f k j x) := fun a b hb => by
  unfold u2
  rw [if_neg (by omega)]
  exact h a b hb
theorem Zi0 : Zi I0 := by
  intro k j h
  unfold I0
  split <;> first | rfl | (exfalso; omega)
theorem Zi.eq {f g : WI} (hf : Zi f) (hg : Zi g) (h : ∀ k, k < 45 → ∀ j, j < 50 → f k j = g k j) : f = g := by
  funext k j
  by_cases hk : k < 45
  · by_cases hj : j < 50
    · exact h k hk j hj
    · rw [hf k j (.inr (Nat.le_of_not_lt hj)), hg k j (.inr (Nat.le_of_not_lt hj))]
  · rw [hf k j (.inl (Nat.le_of_not_lt hk)), hg k j (.inl (Nat.le_of_not_lt hk))]
def I9d : WI := p1 (F_X9_firstDraft I9 L8)
theorem u2_same {α : Type} {f : Nat → Nat → α} {k j : Nat} {x : α} (h : f k j = x) : u2 f k j x = f := by
  funext a b
  unfold u2
  split
  · next e => rw [e.1, e.2, h]
  · rfl
theorem I0_34 : ∀ q, q < 48 → I0 38 q = 0 ∧ I0 34 q = 0 := by decide +kernel
theorem kd_step (i : Int32) (h0 : 0 ≤ i.toInt) (h1 : i.toInt < 48) : F_X9_keepDraft_56_1 I0 L8 i = some I0 := by
  have hn : ¬ (i < 0 ∨ 48 ≤ Int32.toNatClampNeg i) := by
    intro h
    rcases h with h | h
    · rw [Int32.lt_iff_toInt_lt, show (0 : Int32).toInt = 0 by decide] at h
      omega
    · have : Int32.toNatClampNeg i = i.toInt.toNat := rfl
      omega
  unfold F_X9_keepDraft_56_1
  rw [if_neg hn, if_neg hn]
  have hlt : Int32.toNatClampNeg i < 48 := by omega
  rw [(I0_34 _ hlt).1, u2_same (I0_34 _ hlt).2]
theorem kd_0 : F_X9_keepDraft (p1 (F_X9_firstDraft I9 L8)) (p2 (F_X9_firstDraft I9 L8)) = some (I0, L8) := by
  have hL : p2 (F_X9_firstDraft I9 L8) = L8 := by
    show u2 (u2 L8 33 12 0) 33 15 0 = L8
    funext k j
    unfold u2
    split
    · rfl
    · split
      · rfl
      · rfl
  rw [hL]
  show F_X9_keepDraft I9d L8 = _
  unfold F_X9_keepDraft
  have hX : (u2 (u2 (u2 (u2 I9d 33 0 (I9d 33 10)) 33 1 ((u2 I9d 33 0 (I9d 33 10)) 33 11)) 33 4 (bz ((u2 (u2 I9d 33 0 (I9d 33 10)) 33 1 ((u2 I9d 33 0 (I9d 33 10)) 33 11)) 33 17))) 33 5 ((u2 (u2 (u2 I9d 33 0 (I9d 33 10)) 33 1 ((u2 I9d 33 0 (I9d 33 10)) 33 11)) 33 4 (bz ((u2 (u2 I9d 33 0 (I9d 33 10)) 33 1 ((u2 I9d 33 0 (I9d 33 10)) 33 11)) 33 17))) 33 18)) = I0 := by
    refine Zi.eq ?_ Zi0 (by decide +kernel)
    repeat (refine Zi.u (by decide) (by decide) ?_)
    exact fun _ _ _ => rfl
  rw [hX]
  have hY : (u2 (u2 L8 33 2 (L8 33 12)) 33 3 ((u2 L8 33 2 (L8 33 12)) 33 15)) = L8 := by
    funext k j
    unfold u2
    split
    · rfl
    · split
      · rfl
      · rfl
  rw [hY]
  unfold F_X9_keepDraft_50
  obtain ⟨e, he⟩ := frp0_fix (g := fun i x => F_X9_keepDraft_56_1 x L8 i) (B := 48) (s := I0) (fu 0 48) 0 (fun i h0 h1 => kd_step i (by rw [show (0 : Int32).toInt = 0 by decide] at h0; exact h0) (by rw [show (48 : Int32).toInt = 48 by decide] at h1; exact h1))
  rw [he]
  show some _ = some _
  show some (u2 (u2 I0 36 (Int32.toNatClampNeg 0) 0) 36 (Int32.toNatClampNeg 1) 0, L8) = some (I0, L8)
  rw [u2_same (f := I0) (k := 36) (j := Int32.toNatClampNeg 0) (x := 0) rfl, u2_same (f := I0) (k := 36) (j := Int32.toNatClampNeg 1) (x := 0) rfl]
/-- a partial counted loop, by what holds before each step (P i s: before step i) -/
theorem frp0_ind {S : Type} {g : Int32 → S → Option S} {B : Int32} (P : Int → S → Prop) (lo : Int) (h : ∀ (i : Int32) (s : S), lo ≤ i.toInt → i.toInt < B.toInt → P i.toInt s → ∃ s', g i s = some s' ∧ P (i.toInt + 1) s') : ∀ (n : Nat) (c : Int32) (s : S), lo ≤ c.toInt → c.toInt ≤ B.toInt → (B.toInt - c.toInt).toNat ≤ n → P c.toInt s → ∃ e, frp0 g B n c s = some e ∧ P B.toInt (p2 e) := by
  intro n
  induction n with
  | zero =>
    intro c s h0 h1 h2 hP
    rw [frp0]
    have e : c.toInt = B.toInt := by omega
    exact ⟨(c, s), rfl, e ▸ hP⟩
  | succ n ih =>
    intro c s h0 h1 h2 hP
    rw [frp0]
    by_cases hc : B ≤ c
    · rw [if_pos hc]
      rw [Int32.le_iff_toInt_le] at hc
      have e : c.toInt = B.toInt := by omega
      exact ⟨(c, s), rfl, e ▸ hP⟩
    · rw [if_neg hc]
      have u := up_lt hc
      rw [Int32.le_iff_toInt_le] at hc
      obtain ⟨s', e1, hP'⟩ := h c s h0 (by omega) hP
      rw [e1]
      exact ih (c + 1) s' (by omega) (by omega) (by omega) (by rw [u]; exact hP')
/-! counted loops over Nat; the reference's table of a duel, as a pure function of its leaves -/
theorem on_toInt {n : Nat} (h : n < 2147483648) : (Int32.ofNat n).toInt = n := Int32.toInt_ofNat_of_lt h
theorem on_clamp {n : Nat} (h : n < 2147483648) : Int32.toNatClampNeg (Int32.ofNat n) = n := Int32.toNatClampNeg_ofNat_of_lt h
theorem on_of {i : Int32} {k : Nat} (h : i.toInt = (k : Int)) : i = Int32.ofNat k := by
  have hk : k < 2147483648 := by have := i.toInt_lt; omega
  exact Int32.toInt.inj (h.trans (on_toInt hk).symm)
theorem frp0_nat {S : Type} {g : Int32 → S → Option S} {b : Nat} (hb : b < 2147483648) (P : Nat → S → Prop) {s : S} (h : ∀ i s, i < b → P i s → ∃ s', g (Int32.ofNat i) s = some s' ∧ P (i + 1) s') (h0 : P 0 s) : ∃ e, frp0 g (Int32.ofNat b) (fu 0 (Int32.ofNat b)) 0 s = some e ∧ P b (p2 e) := by
  have hB : (Int32.ofNat b).toInt = (b : Int) := on_toInt hb
  have hz : (0 : Int32).toInt = 0 := by decide
  have hstep : ∀ (i : Int32) (s : S), (0 : Int) ≤ i.toInt → i.toInt < (Int32.ofNat b).toInt → (∃ k : Nat, i.toInt = (k : Int) ∧ P k s) → ∃ s', g i s = some s' ∧ (∃ k : Nat, i.toInt + 1 = (k : Int) ∧ P k s') := by
    intro i s _ h1 h2
    obtain ⟨k, hk, hP⟩ := h2
    obtain ⟨s', e1, e2⟩ := h k s (by omega) hP
    rw [on_of hk]
    exact ⟨s', e1, k + 1, by rw [on_toInt (by omega)]; omega, e2⟩
  obtain ⟨e, e1, k, hk, hP⟩ := frp0_ind (g := g) (B := Int32.ofNat b) (fun z s => ∃ k : Nat, z = (k : Int) ∧ P k s) 0 hstep (fu 0 (Int32.ofNat b)) 0 s (by rw [hz]; exact Int.le_refl _) (by rw [hz, hB]; omega) (Nat.le_refl _) ⟨0, by rw [hz]; rfl, h0⟩
  have : k = b := by omega
  exact ⟨e, e1, this ▸ hP⟩
theorem frp0_two {S : Type} {g g' : Int32 → S → Option S} {b : Nat} (hb : b < 2147483648) (P : Nat → S → Prop) (h : ∀ i s, i < b → P i s → ∃ s', g (Int32.ofNat i) s = some s' ∧ g' (Int32.ofNat i) s = some s' ∧ P (i + 1) s') : ∀ (n c : Nat) (s : S), c ≤ b → P c s → frp0 g (Int32.ofNat b) n (Int32.ofNat c) s = frp0 g' (Int32.ofNat b) n (Int32.ofNat c) s := by
  intro n
  induction n with
  | zero => intro c s _ _; rw [frp0, frp0]
  | succ n ih =>
    intro c s hc hP
    rw [frp0, frp0]
    by_cases hl : Int32.ofNat b ≤ Int32.ofNat c
    · rw [if_pos hl, if_pos hl]
    · rw [if_neg hl, if_neg hl]
      have hl' : c < b := by
        rw [Int32.le_iff_toInt_le, on_toInt hb, on_toInt (by omega)] at hl
        omega
      obtain ⟨s', e1, e2, hP'⟩ := h c s hl' hP
      rw [e1, e2]
      have : Int32.ofNat c + 1 = Int32.ofNat (c + 1) := (Int32.ofNat_add c 1).symm
      rw [this]
      exact ih (c + 1) s' hl' hP'
theorem nin {k : Nat} {N : Nat} (h : k < N) (hN : N < 2147483648) : ¬ (Int32.ofNat k < 0 ∨ N ≤ Int32.toNatClampNeg (Int32.ofNat k)) := by
  intro hc
  rcases hc with hc | hc
  · rw [Int32.lt_iff_toInt_lt, on_toInt (by omega)] at hc
    have : (0 : Int32).toInt = 0 := by decide
    omega
  · rw [on_clamp (by omega)] at hc
    omega
/-- the state with this table, this first move -/
def tb (I : WI) (v : Int32) (W : Nat → Int32) : WI := fun k j => if k = 33 ∧ j = 38 then v else if k = 41 then W j else I k j
theorem tb_41 {I : WI} {v : Int32} {W : Nat → Int32} : (tb I v W) 41 = W := by
  funext j
  unfold tb
  rw [if_neg (by omega), if_pos rfl]
theorem tb_self (I : WI) : tb I (I 33 38) (I 41) = I := by
  funext k j
  unfold tb
  by_cases c : k = 33 ∧ j = 38
  · rw [if_pos c, c.1, c.2]
  rw [if_neg c]
  by_cases d : k = 41
  · rw [if_pos d, d]
  rw [if_neg d]
theorem tb_m {I : WI} {v v' : Int32} {W : Nat → Int32} : u2 (tb I v W) 33 38 v' = tb I v' W := by
  funext k j
  unfold u2 tb
  by_cases c : k = 33 ∧ j = 38
  · rw [if_pos c, if_pos c]
  · rw [if_neg c, if_neg c, if_neg c]
theorem tb_w {I : WI} {v x : Int32} {q : Nat} {W : Nat → Int32} : u2 (tb I v W) 41 q x = tb I v (fun j => if j = q then x else W j) := by
  funext k j
  unfold u2 tb
  by_cases c : k = 33 ∧ j = 38
  · rw [if_neg (by omega), if_pos c, if_pos c]
  · rw [if_neg c, if_neg c]
    by_cases d : k = 41
    · rw [if_pos d, if_pos d]
      show _ = if j = q then x else W j
      by_cases e : j = q
      · rw [if_pos ⟨d, e⟩, if_pos e]
      · rw [if_neg (fun h => e h.2), if_neg e]
    · rw [if_neg (fun h => d h.1), if_neg d, if_neg d]
/-- what `best` finds in a table -/
def bst (W : Nat → Int32) (a : Nat) (s : Int32) : Option Int32 := F_X9_best (fun _ => W) (Int32.ofNat a) s
theorem bst_of (I : WI) (a : Nat) (s : Int32) : F_X9_best I (Int32.ofNat a) s = bst (I 41) a s := rfl
def Mv (m : Int32) (i : Nat) : Prop := m = -4 ∨ ∃ k, k < i ∧ m = Int32.ofNat k
def bp (s u w x i : Int32) : Int32 := if u = -4 then x else if x = -4 then i else if s = 0 then (if w ≤ u then x else i) else (if u ≤ w then x else i)
theorem best_eq {W : Nat → Int32} {a i : Nat} {s x : Int32} (ha : a + 8 < 6561) (hi : i < 9) (hx : Mv x i) : F_X9_best_13_1 (fun _ => W) (Int32.ofNat a) s (Int32.ofNat i) x = some (bp s (W (a + i)) (W (a + x.toNatClampNeg)) x (Int32.ofNat i)) := by
  have e1 : ∀ p q : Option Int32, (if (1 : Int32) = 0 then p else q) = q := fun p q => if_neg (by decide)
  unfold F_X9_best_13_1 F_X9_best_74_1 F_X9_best_70_1 F_X9_best_75_1 F_X9_best_88_1 bp
  simp only [e1, if_true]
  rw [← Int32.ofNat_add, if_neg (nin (k := a + i) (by omega) (by decide)), on_clamp (n := a + i) (by omega)]
  by_cases c1 : W (a + i) = -4
  · rw [if_pos c1, if_pos c1]
  rw [if_neg c1, if_neg c1]
  rcases hx with rfl | ⟨k, hk, rfl⟩
  · rw [if_pos rfl, if_pos rfl]
  by_cases c2 : Int32.ofNat k = -4
  · rw [if_pos c2, if_pos c2]
  rw [if_neg c2, if_neg c2]
  by_cases c3 : s = 0
  · rw [if_pos c3, if_pos c3, ← Int32.ofNat_add, if_neg (nin (k := a + k) (by omega) (by decide)), on_clamp (n := a + k) (by omega), on_clamp (n := k) (by omega)]
    by_cases c4 : W (a + k) ≤ W (a + i)
    · rw [if_pos c4, if_pos c4]
    · rw [if_neg c4, if_neg c4]
  · rw [if_neg c3, if_neg c3, ← Int32.ofNat_add, if_neg (nin (k := a + k) (by omega) (by decide)), on_clamp (n := a + k) (by omega), on_clamp (n := k) (by omega)]
    by_cases c4 : W (a + i) ≤ W (a + k)
    · rw [if_pos c4, if_pos c4]
    · rw [if_neg c4, if_neg c4]
theorem Mv_bp {s u w x : Int32} {i : Nat} (hx : Mv x i) : Mv (bp s u w x (Int32.ofNat i)) (i + 1) := by
  have h1 : Mv x (i + 1) := by
    rcases hx with h | ⟨k, hk, h⟩
    · exact .inl h
    · exact .inr ⟨k, by omega, h⟩
  have h2 : Mv (Int32.ofNat i) (i + 1) := .inr ⟨i, by omega, rfl⟩
  unfold bp
  split
  · exact h1
  split
  · exact h2
  split
  · split
    · exact h1
    · exact h2
  · split
    · exact h1
    · exact h2
theorem bst_spec {W : Nat → Int32} {a : Nat} {s : Int32} (ha : a + 8 < 6561) : ∃ m, bst W a s = some m ∧ Mv m 9 ∧ ∀ W' : Nat → Int32, (∀ j, a ≤ j → j ≤ a + 8 → W j = W' j) → bst W' a s = some m := by
  have hl : ∀ W : Nat → Int32, ∃ e, frp0 (fun i x => F_X9_best_13_1 (fun _ => W) (Int32.ofNat a) s i x) (Int32.ofNat 9) (fu 0 (Int32.ofNat 9)) 0 (-4) = some e ∧ Mv (p2 e) 9 := fun W =>
    frp0_nat (by decide) (fun i x => Mv x i) (fun i x hi hx => ⟨_, best_eq ha hi hx, Mv_bp hx⟩) (.inl rfl)
  obtain ⟨e, e1, e2⟩ := hl W
  refine ⟨p2 e, ?_, e2, fun W' hW => ?_⟩
  · show (frp0 (fun i x => F_X9_best_13_1 (fun _ => W) (Int32.ofNat a) s i x) (Int32.ofNat 9) (fu 0 (Int32.ofNat 9)) 0 (-4)).bind _ = _
    rw [e1]
    rfl
  · have := frp0_two (g := fun i x => F_X9_best_13_1 (fun _ => W) (Int32.ofNat a) s i x) (g' := fun i x => F_X9_best_13_1 (fun _ => W') (Int32.ofNat a) s i x) (b := 9) (by decide) (fun i x => Mv x i) (fun i x hi hx => by
      refine ⟨_, best_eq ha hi hx, ?_, Mv_bp hx⟩
      show F_X9_best_13_1 (fun _ => W') (Int32.ofNat a) s (Int32.ofNat i) x = _
      rw [best_eq ha hi hx, hW (a + i) (by omega) (by omega)]
      rcases hx with rfl | ⟨k, hk, rfl⟩
      · unfold bp
        rw [if_pos rfl, if_pos rfl]
      · rw [on_clamp (n := k) (by omega), hW (a + k) (by omega) (by omega)]) (fu 0 (Int32.ofNat 9)) 0 (-4) (by decide) (.inl rfl)
    show (frp0 (fun i x => F_X9_best_13_1 (fun _ => W') (Int32.ofNat a) s i x) (Int32.ofNat 9) (fu 0 (Int32.ofNat 9)) 0 (-4)).bind _ = _
    have e3 := this.symm.trans e1
    rw [show (0 : Int32) = Int32.ofNat 0 from rfl]
    rw [show (fu (Int32.ofNat 0) (Int32.ofNat 9)) = fu 0 (Int32.ofNat 9) from rfl, e3]
    rfl
def mx (W : Nat → Int32) (s : Int32) (j : Nat) : Int32 := match bst W (9 * j) s with
  | some m => if m = -4 then -4 else W (9 * j + m.toNatClampNeg)
  | none => 0
def lv (N : Nat) (s : Int32) (W : Nat → Int32) : Nat → Int32 := fun j => if j < N then mx W s j else W j
def sd (a2 a5 : Int32) : Int32 := if (if (a5 - a5 / 2 * 2) = 0 then (1 : Int32) else 0) = a2 then 1 else 0
theorem d107_eq {I : WI} {L : WL} {a1 a2 a3 a4 a5 a6 : Int32} : F_X9_duel_107_4 I L a1 a2 a3 a4 a5 a6 = F_X9_duel_134_4 I L a1 a2 a3 a4 a5 a6 (sd a2 a5) (9 * a6) := by
  unfold F_X9_duel_107_4 F_X9_duel_125_4 sd
  by_cases c : (a5 - a5 / 2 * 2) = 0
  · rw [if_pos c, if_pos c]
    by_cases d : (1 : Int32) = a2
    · rw [if_pos d, if_pos d]
    · rw [if_neg d, if_neg d]
  · rw [if_neg c, if_neg c]
    by_cases d : (0 : Int32) = a2
    · rw [if_pos d, if_pos d]
    · rw [if_neg d, if_neg d]
theorem d107_step {I : WI} {L : WL} {W : Nat → Int32} {v a1 a2 a3 a4 a5 : Int32} {i N : Nat} (hN : 9 * N ≤ 6561) (hi : i < N) : ∃ m, F_X9_duel_107_4 (tb I v (lv i (sd a2 a5) W)) L a1 a2 a3 a4 a5 (Int32.ofNat i) = some (tb I m (lv (i + 1) (sd a2 a5) W)) ∧ bst W (9 * i) (sd a2 a5) = some m := by
  obtain ⟨m, h1, h2, h3⟩ := bst_spec (W := W) (a := 9 * i) (s := sd a2 a5) (by omega)
  have h4 := h3 (lv i (sd a2 a5) W) (fun j hj _ => by unfold lv; rw [if_neg (by omega)])
  have h9 : (9 : Int32) * Int32.ofNat i = Int32.ofNat (9 * i) := (Int32.ofNat_mul 9 i).symm
  have hs : ∀ x, (fun j => if j = i then x else lv i (sd a2 a5) W j) = (fun j => if j = i then x else lv (i + 1) (sd a2 a5) W j) := by
    intro x
    funext j
    by_cases c : j = i
    · rw [if_pos c, if_pos c]
    · rw [if_neg c, if_neg c]
      unfold lv
      by_cases d : j < i
      · rw [if_pos d, if_pos (by omega)]
      · rw [if_neg d, if_neg (by omega)]
  have hf : ∀ x, x = mx W (sd a2 a5) i → (fun j => if j = i then x else lv i (sd a2 a5) W j) = lv (i + 1) (sd a2 a5) W := by
    intro x hx
    rw [hs]
    funext j
    by_cases c : j = i
    · rw [if_pos c, c, hx]
      unfold lv
      rw [if_pos (by omega)]
    · rw [if_neg c]
  refine ⟨m, ?_, h1⟩
  rw [d107_eq, h9]
  unfold F_X9_duel_134_4
  rw [bst_of, tb_41, h4]
  show (if m = (-4) then _ else _) = _
  rcases h2 with rfl | ⟨k, hk, rfl⟩
  · rw [if_pos rfl]
    unfold F_X9_duel_176_4
    rw [if_neg (nin (k := i) (by omega) (by decide)), on_clamp (n := i) (by omega), tb_m, tb_w, hf]
    unfold mx
    rw [h1]
    rfl
  · have ck : Int32.ofNat k ≠ -4 := by
      intro h
      have h5 := congrArg Int32.toInt h
      rw [on_toInt (by omega)] at h5
      have : (-4 : Int32).toInt = -4 := by decide
      omega
    rw [if_neg ck, h9, ← Int32.ofNat_add, if_neg (nin (k := 9 * i + k) (by omega) (by decide)), on_clamp (n := 9 * i + k) (by omega)]
    unfold F_X9_duel_176_4
    rw [if_neg (nin (k := i) (by omega) (by decide)), on_clamp (n := i) (by omega), tb_m, tb_w, tb_41, hf]
    unfold mx
    rw [h1]
    show _ = if Int32.ofNat k = -4 then -4 else W (9 * i + Int32.toNatClampNeg (Int32.ofNat k))
    rw [if_neg ck, on_clamp (n := k) (by omega)]
    unfold lv
    rw [if_neg (by omega)]
theorem lv_0 {s : Int32} {W : Nat → Int32} : lv 0 s W = W := by
  funext j
  unfold lv
  rw [if_neg (by omega)]
theorem lvl_loop {I : WI} {L : WL} {W : Nat → Int32} {v a1 a2 a3 a4 a5 : Int32} {N : Nat} (hN : 9 * N ≤ 6561) : ∃ e v', frp0 (fun i x => F_X9_duel_107_4 x L a1 a2 a3 a4 a5 i) (Int32.ofNat N) (fu 0 (Int32.ofNat N)) 0 (tb I v W) = some e ∧ p2 e = tb I v' (lv N (sd a2 a5) W) ∧ (0 < N → bst W (9 * (N - 1)) (sd a2 a5) = some v') := by
  obtain ⟨e, e1, v', e2, e3⟩ := frp0_nat (g := fun i x => F_X9_duel_107_4 x L a1 a2 a3 a4 a5 i) (b := N) (by omega) (fun i x => ∃ v, x = tb I v (lv i (sd a2 a5) W) ∧ (0 < i → bst W (9 * (i - 1)) (sd a2 a5) = some v)) (s := tb I v W) (fun i x hi hx => by
    obtain ⟨v0, rfl, _⟩ := hx
    obtain ⟨m, h1, h2⟩ := d107_step (I := I) (L := L) (W := W) (v := v0) (a1 := a1) (a2 := a2) (a3 := a3) (a4 := a4) (a5 := a5) hN hi
    exact ⟨_, h1, m, rfl, fun _ => h2⟩) ⟨v, by rw [lv_0], fun h => absurd h (by omega)⟩
  exact ⟨e, v', e1, e2, e3⟩
def A5 : Nat → Int32
  | 0 => -1
  | k + 1 => Int32.ofNat k
theorem A5_step : ∀ k, k < 4 → A5 (k + 1) + (-1) = A5 k := by decide
theorem A5_neg : ∀ k, k < 4 → ¬ A5 (k + 1) < 0 := by decide
theorem p9_step : ∀ k, k < 4 → Int32.ofNat (9 ^ (k + 1)) / 9 = Int32.ofNat (9 ^ k) := by decide
theorem p9_le : ∀ k, k < 4 → 9 * 9 ^ k ≤ 6561 := by decide
def TT (a2 : Int32) : Nat → (Nat → Int32) → Nat → Int32
  | 0, W => W
  | k + 1, W => TT a2 k (lv (9 ^ k) (sd a2 (Int32.ofNat k)) W)
def FM (a2 : Int32) : Nat → (Nat → Int32) → Option Int32
  | 0, _ => none
  | 1, W => bst W 0 (sd a2 0)
  | k + 2, W => FM a2 (k + 1) (lv (9 ^ (k + 1)) (sd a2 (Int32.ofNat (k + 1))) W)
theorem lpp_l {R S : Type} {f : S → Option (R ⊕ S)} {n : Nat} {s : S} {r : R} (h : f s = some (.inl r)) : lpp f (n + 1) s = some r := by rw [lpp, h]
theorem lpp_r {R S : Type} {f : S → Option (R ⊕ S)} {n : Nat} {s s' : S} (h : f s = some (.inr s')) : lpp f (n + 1) s = lpp f n s' := by rw [lpp, h]
theorem levels {I : WI} {L : WL} {a1 a2 a3 : Int32} : ∀ k, k ≤ 4 → ∀ fuel, k < fuel → ∀ v W, ∃ v', lpp (fun x => F_X9_duel_85_3 (p2 (p2 x)) L a1 a2 a3 (p1 x) (p1 (p2 x))) fuel (Int32.ofNat (9 ^ k), A5 k, tb I v W) = some (tb I v' (TT a2 k W)) ∧ (0 < k → FM a2 k W = some v') := by
  intro k
  induction k with
  | zero =>
    intro _ fuel hf v W
    obtain ⟨f, rfl⟩ : ∃ f, fuel = f + 1 := ⟨fuel - 1, by omega⟩
    have : F_X9_duel_85_3 (tb I v W) L a1 a2 a3 (Int32.ofNat (9 ^ 0)) (A5 0) = some (.inl (tb I v W)) := by
      unfold F_X9_duel_85_3
      rw [if_pos (by decide)]
    exact ⟨v, lpp_l (f := fun x => F_X9_duel_85_3 (p2 (p2 x)) L a1 a2 a3 (p1 x) (p1 (p2 x))) (s := (Int32.ofNat (9 ^ 0), A5 0, tb I v W)) this, fun h => absurd h (by omega)⟩
  | succ k ih =>
    intro hk fuel hf v W
    obtain ⟨f, rfl⟩ : ∃ f, fuel = f + 1 := ⟨fuel - 1, by omega⟩
    obtain ⟨e, v1, e1, e2, e3⟩ := lvl_loop (I := I) (L := L) (W := W) (v := v) (a1 := a1) (a2 := a2) (a3 := a3) (a4 := Int32.ofNat (9 ^ k)) (a5 := A5 (k + 1)) (N := 9 ^ k) (p9_le k (by omega))
    have : F_X9_duel_85_3 (tb I v W) L a1 a2 a3 (Int32.ofNat (9 ^ (k + 1))) (A5 (k + 1)) = some (.inr (Int32.ofNat (9 ^ k), A5 k, tb I v1 (lv (9 ^ k) (sd a2 (Int32.ofNat k)) W))) := by
      unfold F_X9_duel_85_3
      rw [if_neg (A5_neg k (by omega)), p9_step k (by omega)]
      unfold F_X9_duel_100_3
      rw [e1]
      show F_X9_duel_183_3 (p2 e) L a1 a2 a3 _ _ = _
      rw [e2]
      unfold F_X9_duel_183_3
      rw [A5_step k (by omega)]
      rfl
    rw [lpp_r (f := fun x => F_X9_duel_85_3 (p2 (p2 x)) L a1 a2 a3 (p1 x) (p1 (p2 x))) (s := (Int32.ofNat (9 ^ (k + 1)), A5 (k + 1), tb I v W)) this]
    obtain ⟨v', h1, h2⟩ := ih (by omega) f (by omega) v1 (lv (9 ^ k) (sd a2 (Int32.ofNat k)) W)
    refine ⟨v', h1, fun _ => ?_⟩
    cases k with
    | zero =>
      have h4 := e3 (by decide)
      have h5 : v' = v1 := by
        have h6 : f ≠ 0 := by omega
        obtain ⟨f', rfl⟩ : ∃ f', f = f' + 1 := ⟨f - 1, by omega⟩
        have h7 : F_X9_duel_85_3 (tb I v1 (lv (9 ^ 0) (sd a2 (Int32.ofNat 0)) W)) L a1 a2 a3 (Int32.ofNat (9 ^ 0)) (A5 0) = some (.inl (tb I v1 (lv (9 ^ 0) (sd a2 (Int32.ofNat 0)) W))) := by
          unfold F_X9_duel_85_3
          rw [if_pos (by decide)]
        rw [lpp_l (f := fun x => F_X9_duel_85_3 (p2 (p2 x)) L a1 a2 a3 (p1 x) (p1 (p2 x))) (s := (Int32.ofNat (9 ^ 0), A5 0, tb I v1 (lv (9 ^ 0) (sd a2 (Int32.ofNat 0)) W))) h7] at h1
        have h8 := congrFun (congrFun (Option.some.inj h1) 33) 38
        exact h8.symm
      rw [h5]
      exact h4
    | succ k => exact h2 (by omega)
/-- the leaves of the table -/
theorem fill_loop {I : WI} {L : WL} {v a1 a2 a3 a4 : Int32} {W0 w : Nat → Int32} {N : Nat} (hN : N ≤ 6561) (h : ∀ v W j, j < N → F_X9_worthOf (tb I v W) L (Int32.ofNat j) a1 a2 = some (w j)) : ∃ e, frp0 (fun i x => F_X9_duel_59_2 x L a1 a2 a3 a4 i) (Int32.ofNat N) (fu 0 (Int32.ofNat N)) 0 (tb I v W0) = some e ∧ p2 e = tb I v (fun j => if j < N then w j else W0 j) := by
  obtain ⟨e, e1, e2⟩ := frp0_nat (g := fun i x => F_X9_duel_59_2 x L a1 a2 a3 a4 i) (b := N) (by omega) (fun i x => x = tb I v (fun j => if j < i then w j else W0 j)) (s := tb I v W0) (fun i x hi hx => by
    subst hx
    refine ⟨_, ?_, rfl⟩
    show F_X9_duel_59_2 _ L a1 a2 a3 a4 (Int32.ofNat i) = _
    unfold F_X9_duel_59_2
    rw [h _ _ i hi]
    show (if Int32.ofNat i < 0 ∨ 6561 ≤ Int32.toNatClampNeg (Int32.ofNat i) then none else _) = _
    rw [if_neg (nin (k := i) (by omega) (by decide)), on_clamp (n := i) (by omega), tb_w]
    congr 2
    funext j
    by_cases c : j = i
    · rw [if_pos c, if_pos (by omega), c]
    · rw [if_neg c]
      by_cases d : j < i
      · rw [if_pos d, if_pos (by omega)]
      · rw [if_neg d, if_neg (by omega)]) (by
    show tb I v W0 = tb I v (fun j => if j < 0 then w j else W0 j)
    congr 1)
  exact ⟨e, e1, e2⟩
theorem pow9 : ∀ n, n ≤ 4 → frp0 (fun _ (x : Int32) => some (x * 9)) (Int32.ofNat n) (fu 0 (Int32.ofNat n)) 0 1 = some (Int32.ofNat n, Int32.ofNat (9 ^ n)) := by decide +kernel
theorem A5_sub : ∀ n, n ≤ 4 → 1 ≤ n → Int32.ofNat n - 1 = A5 n := by decide
theorem in14 : ∀ n, n ≤ 4 → 1 ≤ n → F_X9_in (Int32.toInt64 (Int32.ofNat n)) 1 4 = 1 := by decide +kernel
theorem in01 : ∀ n, n ≤ 1 → F_X9_in (Int32.toInt64 (Int32.ofNat n)) 0 1 = 1 := by decide +kernel
theorem p9_6561 : ∀ n, n ≤ 4 → 9 ^ n ≤ 6561 := by decide
/-- the reference's duel, when its leaves are known -/
theorem duel_eq {I : WI} {L : WL} {a2 : Int32} {n q : Nat} {w : Nat → Int32} (h1 : 1 ≤ n) (h4 : n ≤ 4) (hq : q ≤ 1) (h : ∀ v W j, j < 9 ^ n → F_X9_worthOf (tb I v W) L (Int32.ofNat j) (Int32.ofNat n) a2 = some (w j)) :
    ∃ v', F_X9_duel I L (Int32.ofNat n) a2 (Int32.ofNat q) = some (if q = 0 then TT a2 n (fun j => if j < 9 ^ n then w j else I 41 j) 0 else v', tb I v' (TT a2 n (fun j => if j < 9 ^ n then w j else I 41 j))) ∧ FM a2 n (fun j => if j < 9 ^ n then w j else I 41 j) = some v' := by
  unfold F_X9_duel
  rw [in14 n h4 h1, in01 q hq, if_neg (by decide), if_neg (by decide)]
  unfold F_X9_duel_30
  have e0 : frp0 (fun i x => F_X9_duel_36_1 I L (Int32.ofNat n) a2 (Int32.ofNat q) i x) (Int32.ofNat n) (fu 0 (Int32.ofNat n)) 0 1 = some (Int32.ofNat n, Int32.ofNat (9 ^ n)) := pow9 n h4
  rw [e0]
  show ∃ v', F_X9_duel_49 I L (Int32.ofNat n) a2 (Int32.ofNat q) (Int32.ofNat (9 ^ n)) = _ ∧ _
  unfold F_X9_duel_49 F_X9_duel_52
  obtain ⟨e, e1, e2⟩ := fill_loop (I := I) (L := L) (v := I 33 38) (a1 := Int32.ofNat n) (a2 := a2) (a3 := Int32.ofNat q) (a4 := Int32.ofNat (9 ^ n)) (W0 := I 41) (w := w) (N := 9 ^ n) (p9_6561 n h4) h
  rw [tb_self] at e1
  rw [e1]
  show ∃ v', F_X9_duel_80 (p2 e) L (Int32.ofNat n) a2 (Int32.ofNat q) (Int32.ofNat (9 ^ n)) = _ ∧ _
  rw [e2]
  unfold F_X9_duel_80 F_X9_duel_85
  rw [A5_sub n h4 h1]
  obtain ⟨v', g1, g2⟩ := levels (I := I) (L := L) (a1 := Int32.ofNat n) (a2 := a2) (a3 := Int32.ofNat q) n h4 4294967296 (by omega) (I 33 38) (fun j => if j < 9 ^ n then w j else I 41 j)
  rw [g1]
  refine ⟨v', ?_, g2 h1⟩
  show F_X9_duel_189 _ L (Int32.ofNat n) a2 (Int32.ofNat q) = _
  unfold F_X9_duel_189 F_X9_duel_206
  by_cases c : q = 0
  · rw [if_pos (by rw [c]; rfl), if_pos c, tb_41]
    rfl
  · rw [if_neg (by
      have : q = 1 := by omega
      rw [this]
      decide), if_neg c]
    rfl
/-- what it reads of the state -/
def cw (h w : Int32) : WI := fun k j => if k = 33 ∧ j = 0 then h else if k = 33 ∧ j = 1 then w else 0
theorem actSet_cw (I : WI) (a b : Int32) : F_X9_actSet I a b = F_X9_actSet (cw (I 33 0) (I 33 1)) a b := rfl
theorem worthOf_cw (I : WI) (L : WL) (a b c : Int32) : F_X9_worthOf I L a b c = F_X9_worthOf (cw (I 33 0) (I 33 1)) L a b c := rfl
theorem worthOf_tb (I : WI) (L : WL) (v : Int32) (W : Nat → Int32) (a b c : Int32) : F_X9_worthOf (tb I v W) L a b c = F_X9_worthOf I L a b c := by
  rw [worthOf_cw, worthOf_cw I]
  rfl
/-- agreeing tables -/
theorem mx_congr {W W' : Nat → Int32} {s : Int32} {j : Nat} (hj : 9 * j + 8 < 6561) (h : ∀ q, 9 * j ≤ q → q ≤ 9 * j + 8 → W q = W' q) : mx W s j = mx W' s j := by
  obtain ⟨m, h1, h2, h3⟩ := bst_spec (W := W) (a := 9 * j) (s := s) hj
  unfold mx
  rw [h1, h3 W' h]
  show (if m = -4 then -4 else W (9 * j + m.toNatClampNeg)) = (if m = -4 then -4 else W' (9 * j + m.toNatClampNeg))
  rcases h2 with rfl | ⟨k, hk, rfl⟩
  · rw [if_pos rfl, if_pos rfl]
  · rw [on_clamp (n := k) (by omega), h (9 * j + k) (by omega) (by omega)]
/-! how many bits: the JDK's sum in parallel is the reference's loop -/
theorem fr0_nat {S : Type} {g : Int32 → S → S} {b : Nat} (hb : b < 2147483648) (P : Nat → S → Prop) {s : S} (h : ∀ i s, i < b → P i s → P (i + 1) (g (Int32.ofNat i) s)) (h0 : P 0 s) : P b (p2 (fr0 g (Int32.ofNat b) (fu 0 (Int32.ofNat b)) 0 s)) := by
  have key : ∀ (n c : Nat) (s : S), c + n = b → P c s → P b (p2 (fr0 g (Int32.ofNat b) n (Int32.ofNat c) s)) := by
    intro n
    induction n with
    | zero => intro c s hc hP; rw [fr0]; exact (show c = b by omega) ▸ hP
    | succ n ih =>
      intro c s hc hP
      rw [fr0]
      have hl : ¬ Int32.ofNat b ≤ Int32.ofNat c := by
        rw [Int32.le_iff_toInt_le, on_toInt hb, on_toInt (by omega)]
        omega
      rw [if_neg hl]
      have e : Int32.ofNat c + 1 = Int32.ofNat (c + 1) := (Int32.ofNat_add c 1).symm
      rw [e]
      exact ih (c + 1) _ (by omega) (h c s (by omega) hP)
  have hf : fu 0 (Int32.ofNat b) = b := by
    unfold fu
    rw [on_toInt hb, show (0 : Int32).toInt = 0 by decide]
    omega
  rw [hf]
  exact key b 0 s (by omega) h0
theorem lsr_bv {x : Int64} {i : Nat} (h : i < 64) : (lsr x (Int32.ofNat i)).toBitVec = x.toBitVec.sshiftRight i := by
  have hk : ∀ i, i < 64 → (((Int32.ofNat i).toInt64 &&& 63).toBitVec.smod 64#64).toNat = i := by decide +kernel
  show x.toBitVec.sshiftRight' (((Int32.ofNat i).toInt64 &&& 63).toBitVec.smod 64#64) = _
  rw [BitVec.sshiftRight', hk i h]
theorem lsh_bv {x : Int64} {i : Nat} (h : i < 64) : (lsh x (Int32.ofNat i)).toBitVec = x.toBitVec <<< i := by
  have hk : ∀ i, i < 64 → (((Int32.ofNat i).toInt64 &&& 63).toBitVec.smod 64#64).toNat = i := by decide +kernel
  show x.toBitVec <<< (((Int32.ofNat i).toInt64 &&& 63).toBitVec.smod 64#64).toNat = _
  rw [hk i h]
theorem lush_bv {x : Int64} {i : Nat} (h : i < 64) : (lush x (Int32.ofNat i)).toBitVec = x.toBitVec >>> i := by
  have hk : ∀ i, i < 64 → ((((Int32.ofNat i).toInt64.toUInt64 &&& Int64.toUInt64 63).toBitVec % 64#64)).toNat = i := by decide +kernel
  show x.toBitVec >>> ((((Int32.ofNat i).toInt64.toUInt64 &&& Int64.toUInt64 63).toBitVec % 64#64)).toNat = _
  rw [hk i h]
def popc : Nat → Nat → Nat
  | 0, _ => 0
  | k + 1, n => popc k n + n / 2 ^ k % 2
theorem lsr_1 {x : Int64} {i : Nat} (h : i < 64) : (lsr x (Int32.ofNat i)) &&& 1 = if x.toBitVec.getLsbD i then 1 else 0 := by
  apply Int64.toBitVec.inj
  show (lsr x (Int32.ofNat i)).toBitVec &&& 1#64 = _
  rw [lsr_bv h]
  have h0 : (x.toBitVec.sshiftRight i).getLsbD 0 = x.toBitVec.getLsbD i := by
    rw [BitVec.getLsbD_sshiftRight]
    simp [h]
  apply BitVec.eq_of_getLsbD_eq
  intro j hj
  rw [BitVec.getLsbD_and]
  by_cases c : j = 0
  · subst c
    rw [h0]
    cases x.toBitVec.getLsbD i <;> decide
  · have h1 : (1#64).getLsbD j = false := by
      rw [BitVec.getLsbD_one]
      simp [c]
    rw [h1, Bool.and_false]
    cases x.toBitVec.getLsbD i
    · show false = (0#64).getLsbD j
      simp
    · exact h1.symm
theorem lsr_d {x : Int64} {i : Nat} (h : i < 64) : Int64.toInt32 ((lsr x (Int32.ofNat i)) &&& 1) = Int32.ofNat (x.toBitVec.toNat / 2 ^ i % 2) := by
  rw [lsr_1 h, ← BitVec.testBit_toNat, ← Nat.toNat_testBit]
  cases x.toBitVec.toNat.testBit i <;> decide
theorem popc_le : ∀ k n, popc k n ≤ k := by
  intro k
  induction k with
  | zero => intro n; exact Nat.le_refl _
  | succ k ih =>
    intro n
    have := ih n
    show popc k n + n / 2 ^ k % 2 ≤ k + 1
    omega
theorem many_eq (x : Int64) : F_X9_many x = Int32.ofNat (popc 64 x.toBitVec.toNat) := by
  have h := fr0_nat (g := fun i s => F_X9_many_10_1 x i s) (b := 64) (by decide) (fun i s => s = Int32.ofNat (popc i x.toBitVec.toNat)) (s := 0) (fun i s hi hs => by
    subst hs
    show F_X9_many_10_1 x (Int32.ofNat i) _ = _
    unfold F_X9_many_10_1
    rw [lsr_d hi, ← Int32.ofNat_add]
    rfl) rfl
  exact h
/-! bytes -/
def mk (c : Nat) : Nat → Nat
  | 0 => 0
  | k + 1 => 256 * mk c k + c
theorem and_256 {a b c d : Nat} (hb : b < 256) (hd : d < 256) : (256 * a + b) &&& (256 * c + d) = 256 * (a &&& c) + (b &&& d) := by
  have hbd : (b &&& d) < 2 ^ 8 := Nat.lt_of_le_of_lt Nat.and_le_left hb
  apply Nat.eq_of_testBit_eq
  intro i
  rw [Nat.testBit_and, show 256 * a + b = 2 ^ 8 * a + b from rfl, show 256 * c + d = 2 ^ 8 * c + d from rfl, show 256 * (a &&& c) + (b &&& d) = 2 ^ 8 * (a &&& c) + (b &&& d) from rfl, Nat.testBit_two_pow_mul_add a hb, Nat.testBit_two_pow_mul_add c hd, Nat.testBit_two_pow_mul_add _ hbd]
  split <;> rw [Nat.testBit_and]
def g1 (n k : Nat) : Nat := n - ((n / 2) &&& mk 85 k)
def g2 (n k : Nat) : Nat := (n &&& mk 51 k) + ((n / 4) &&& mk 51 k)
def g3 (n k : Nat) : Nat := (n + n / 16) &&& mk 15 k
theorem t1 : ∀ r, r < 256 → ∀ t, t < 2 → (128 * t + r / 2) &&& 85 = (r / 2) &&& 85 := by decide +kernel
theorem t2 : ∀ r, r < 256 → ∀ t, t < 4 → (64 * t + r / 4) &&& 51 = (r / 4) &&& 51 := by decide +kernel
theorem t3 : ∀ r, r < 69 → ∀ t, t < 5 → (r + (16 * t + r / 16)) &&& 15 = (r + r / 16) &&& 15 := by decide +kernel
theorem t4 : ∀ r, r < 256 → g1 r 1 < 256 ∧ g2 (g1 r 1) 1 < 69 ∧ g2 (g1 r 1) 1 % 16 < 5 ∧ g3 (g2 (g1 r 1) 1) 1 = popc 8 r := by decide +kernel
theorem g1_s {q r k : Nat} (hr : r < 256) : g1 (256 * q + r) (k + 1) = 256 * g1 q k + g1 r 1 := by
  unfold g1
  rw [show (256 * q + r) / 2 = 256 * (q / 2) + (128 * (q % 2) + r / 2) by omega]
  rw [show mk 85 (k + 1) = 256 * mk 85 k + 85 from rfl, and_256 (by omega) (by decide), t1 r hr (q % 2) (by omega)]
  rw [show mk 85 1 = 85 from rfl]
  have h1 : (q / 2) &&& mk 85 k ≤ q / 2 := Nat.and_le_left
  have h2 : (r / 2) &&& 85 ≤ r / 2 := Nat.and_le_left
  omega
theorem g2_s {q r k : Nat} (hr : r < 256) : g2 (256 * q + r) (k + 1) = 256 * g2 q k + g2 r 1 := by
  unfold g2
  rw [show (256 * q + r) / 4 = 256 * (q / 4) + (64 * (q % 4) + r / 4) by omega]
  rw [show mk 51 (k + 1) = 256 * mk 51 k + 51 from rfl, and_256 (by omega) (by decide), and_256 (by omega) (by decide), t2 r hr (q % 4) (by omega)]
  rw [show mk 51 1 = 51 from rfl]
  omega
theorem g3_s {q r k : Nat} (hr : r < 69) (hq : q % 16 < 5) : g3 (256 * q + r) (k + 1) = 256 * g3 q k + g3 r 1 := by
  unfold g3
  rw [show 256 * q + r + (256 * q + r) / 16 = 256 * (q + q / 16) + (r + (16 * (q % 16) + r / 16)) by omega]
  rw [show mk 15 (k + 1) = 256 * mk 15 k + 15 from rfl, and_256 (by omega) (by decide), t3 r hr (q % 16) hq]
  rfl
def sB : Nat → Nat → Nat
  | 0, _ => 0
  | k + 1, n => 256 * sB k (n / 256) + popc 8 (n % 256)
theorem sB_eq : ∀ k n, n < 256 ^ k → g2 (g1 n k) k % 16 < 5 ∧ g3 (g2 (g1 n k) k) k = sB k n := by
  intro k
  induction k with
  | zero =>
    intro n hn
    have : n = 0 := by omega
    subst this
    decide
  | succ k ih =>
    intro n hn
    have hq : n / 256 < 256 ^ k := by
      rw [Nat.pow_succ] at hn
      omega
    obtain ⟨i1, i2⟩ := ih (n / 256) hq
    obtain ⟨h1, h2, h3, h4⟩ := t4 (n % 256) (by omega)
    have e : n = 256 * (n / 256) + n % 256 := by omega
    have e1 : g1 n (k + 1) = 256 * g1 (n / 256) k + g1 (n % 256) 1 := by
      conv => lhs; rw [e]
      exact g1_s (by omega)
    rw [e1, g2_s h1, g3_s h2 i1, i2, h4]
    exact ⟨by omega, rfl⟩
theorem popc_m (n : Nat) : ∀ k, k ≤ 8 → popc k n = popc k (n % 256) := by
  intro k
  induction k with
  | zero => intro _; rfl
  | succ k ih =>
    intro h
    show popc k n + n / 2 ^ k % 2 = popc k (n % 256) + n % 256 / 2 ^ k % 2
    rw [ih (by omega), ← Nat.toNat_testBit, ← Nat.toNat_testBit (x := n % 256), show 256 = 2 ^ 8 from rfl, Nat.testBit_mod_two_pow]
    rw [decide_eq_true (show k < 8 by omega), Bool.true_and]
theorem popc_8 (n : Nat) : popc 8 n = popc 8 (n % 256) := popc_m n 8 (Nat.le_refl _)
theorem popc_s (n : Nat) : ∀ m, popc (8 + m) n = popc 8 (n % 256) + popc m (n / 256) := by
  intro m
  induction m with
  | zero => exact popc_8 n
  | succ m ih =>
    show popc (8 + m) n + n / 2 ^ (8 + m) % 2 = popc 8 (n % 256) + (popc m (n / 256) + n / 256 / 2 ^ m % 2)
    rw [ih, Nat.pow_add, ← Nat.div_div_eq_div_mul]
    exact Nat.add_assoc _ _ _
theorem ad {x x' u y y' v : Nat} (h1 : x = 256 * x' + u) (h2 : y = 256 * y' + v) : x + y = 256 * (x' + y') + (u + v) := by omega
theorem dv {x x' u m : Nat} (h : x = 256 * x' + u) (hu : u ≤ m) (hm : m < 256) : x / 256 = x' := by omega
theorem ub {q q' a m : Nat} (h : q = 256 * q' + a) (h1 : q' ≤ m) (h2 : a ≤ 8) : q ≤ 256 * m + 8 := by omega
theorem le2 {a b : Nat} {m n : Nat} (h1 : a ≤ m) (h2 : b ≤ n) : a + b ≤ m + n := Nat.add_le_add h1 h2
theorem big {x y z w : Nat} (hx : x ≤ 578721382704613384) (hy : y = x + x / 256) (hz : z = y + y / 65536) (hw : w = z + z / 4294967296) : x < 9223372036854775808 ∧ y < 9223372036854775808 ∧ z < 9223372036854775808 ∧ w < 9223372036854775808 := by
  have h1 := Nat.div_le_self x 256
  have h2 := Nat.div_le_self y 65536
  have h3 := Nat.div_le_self z 4294967296
  generalize x / 256 = q at *
  generalize y / 65536 = q' at *
  generalize z / 4294967296 = q'' at *
  omega
theorem m128 {w s t m : Nat} (h : w = 256 * s + t) (ht : t ≤ m) (hm : m < 128) : w % 128 = t := by omega
theorem asc (a b c d e f g h : Nat) : a + b + (c + d) + (e + f + (g + h)) = a + (b + (c + (d + (e + (f + (g + h)))))) := by omega
theorem fold8 {a b c d e f g h : Nat} (ha : a ≤ 8) (hb : b ≤ 8) (hc : c ≤ 8) (hd : d ≤ 8) (he : e ≤ 8) (hf : f ≤ 8) (hg : g ≤ 8) (hh : h ≤ 8) (x y z w : Nat) (hx : x = 256 * (256 * (256 * (256 * (256 * (256 * (256 * (256 * 0 + h) + g) + f) + e) + d) + c) + b) + a) (hy : y = x + x / 256) (hz : z = y + y / 65536) (hw : w = z + z / 4294967296) : (x < 9223372036854775808 ∧ y < 9223372036854775808 ∧ z < 9223372036854775808 ∧ w < 9223372036854775808) ∧ w % 128 = a + (b + (c + (d + (e + (f + (g + h)))))) := by
  obtain ⟨q7, E7⟩ : ∃ q, q = 256 * 0 + h := ⟨_, rfl⟩
  rw [← E7] at hx
  obtain ⟨q6, E6⟩ : ∃ q, q = 256 * q7 + g := ⟨_, rfl⟩
  rw [← E6] at hx
  obtain ⟨q5, E5⟩ : ∃ q, q = 256 * q6 + f := ⟨_, rfl⟩
  rw [← E5] at hx
  obtain ⟨q4, E4⟩ : ∃ q, q = 256 * q5 + e := ⟨_, rfl⟩
  rw [← E4] at hx
  obtain ⟨q3, E3⟩ : ∃ q, q = 256 * q4 + d := ⟨_, rfl⟩
  rw [← E3] at hx
  obtain ⟨q2, E2⟩ : ∃ q, q = 256 * q3 + c := ⟨_, rfl⟩
  rw [← E2] at hx
  obtain ⟨q1, E1⟩ : ∃ q, q = 256 * q2 + b := ⟨_, rfl⟩
  rw [← E1] at hx
  have hb0 := ub hx (ub E1 (ub E2 (ub E3 (ub E4 (ub E5 (ub E6 (ub E7 (Nat.le_refl 0) hh) hg) hf) he) hd) hc) hb) ha
  refine ⟨big (Nat.le_trans hb0 (by decide)) hy hz hw, ?_⟩
  have Y0 := ad hx E1
  have Y1 := ad E1 E2
  have Y2 := ad E2 E3
  have Y3 := ad E3 E4
  have Y4 := ad E4 E5
  have Y5 := ad E5 E6
  have Y6 := ad E6 E7
  have Z0 := ad Y0 Y2
  have Z1 := ad Y1 Y3
  have Z2 := ad Y2 Y4
  have Z3 := ad Y3 Y5
  have Z4 := ad Y4 Y6
  have W0 := ad Z0 Z4
  have g1 : x / 256 = q1 := dv hx ha (by decide)
  rw [g1] at hy
  have g2 : y / 65536 = q2 + q3 := by
    rw [show 65536 = 256 * 256 from rfl, ← Nat.div_div_eq_div_mul, hy, dv Y0 (le2 ha hb) (by decide), dv Y1 (le2 hb hc) (by decide)]
  rw [g2, hy] at hz
  have g3 : z / 4294967296 = q4 + q5 + (q6 + q7) := by
    rw [show 4294967296 = 256 * 256 * 256 * 256 from rfl, ← Nat.div_div_eq_div_mul, ← Nat.div_div_eq_div_mul, ← Nat.div_div_eq_div_mul, hz, dv Z0 (le2 (le2 ha hb) (le2 hc hd)) (by decide), dv Z1 (le2 (le2 hb hc) (le2 hd he)) (by decide), dv Z2 (le2 (le2 hc hd) (le2 he hf)) (by decide), dv Z3 (le2 (le2 hd he) (le2 hf hg)) (by decide)]
  rw [g3, hz] at hw
  rw [hw, m128 W0 (le2 (le2 (le2 ha hb) (le2 hc hd)) (le2 (le2 he hf) (le2 hg hh))) (by decide)]
  exact asc a b c d e f g h
theorem bc_end {w : Int64} (h : w.toBitVec.toNat < 9223372036854775808) : (Int64.toInt32 w) &&& 127 = Int32.ofNat (w.toBitVec.toNat % 128) := by
  apply Int32.toBitVec.inj
  have e : (Int64.toInt32 w &&& 127).toBitVec = w.toBitVec.setWidth 32 &&& 127#32 := by
    show (w.toBitVec.signExtend 32) &&& 127#32 = _
    rw [BitVec.signExtend_eq_setWidth_of_le _ (by decide)]
  rw [e]
  apply BitVec.eq_of_toNat_eq
  show (w.toBitVec.setWidth 32 &&& 127#32).toNat = (BitVec.ofNat 32 (w.toBitVec.toNat % 128)).toNat
  rw [BitVec.toNat_and, BitVec.toNat_setWidth, BitVec.toNat_ofNat, BitVec.toNat_ofNat]
  show w.toBitVec.toNat % 2 ^ 32 &&& (2 ^ 7 - 1) = _
  rw [Nat.and_two_pow_sub_one_eq_mod]
  omega
theorem add_sh {x : Int64} {i : Nat} (hi : i < 64) (h : x.toBitVec.toNat + x.toBitVec.toNat / 2 ^ i < 18446744073709551616) : (x + lush x (Int32.ofNat i)).toBitVec.toNat = x.toBitVec.toNat + x.toBitVec.toNat / 2 ^ i := by
  show (x.toBitVec + (lush x (Int32.ofNat i)).toBitVec).toNat = _
  rw [lush_bv hi, BitVec.toNat_add, BitVec.toNat_ushiftRight, Nat.shiftRight_eq_div_pow]
  exact Nat.mod_eq_of_lt h
theorem lush_n {x : Int64} {i : Nat} (hi : i < 64) : (lush x (Int32.ofNat i)).toBitVec.toNat = x.toBitVec.toNat / 2 ^ i := by
  rw [lush_bv hi, BitVec.toNat_ushiftRight, Nat.shiftRight_eq_div_pow]
theorem popc_64 (n : Nat) : popc 64 n = popc 8 (n % 256) + (popc 8 (n / 256 % 256) + (popc 8 (n / 256 / 256 % 256) + (popc 8 (n / 256 / 256 / 256 % 256) + (popc 8 (n / 256 / 256 / 256 / 256 % 256) + (popc 8 (n / 256 / 256 / 256 / 256 / 256 % 256) + (popc 8 (n / 256 / 256 / 256 / 256 / 256 / 256 % 256) + popc 8 (n / 256 / 256 / 256 / 256 / 256 / 256 / 256 % 256))))))) := by
  have e0 : popc 64 (n) = popc 8 (n % 256) + popc 56 (n / 256) := popc_s (n) 56
  have e1 : popc 56 (n / 256) = popc 8 (n / 256 % 256) + popc 48 (n / 256 / 256) := popc_s (n / 256) 48
  have e2 : popc 48 (n / 256 / 256) = popc 8 (n / 256 / 256 % 256) + popc 40 (n / 256 / 256 / 256) := popc_s (n / 256 / 256) 40
  have e3 : popc 40 (n / 256 / 256 / 256) = popc 8 (n / 256 / 256 / 256 % 256) + popc 32 (n / 256 / 256 / 256 / 256) := popc_s (n / 256 / 256 / 256) 32
  have e4 : popc 32 (n / 256 / 256 / 256 / 256) = popc 8 (n / 256 / 256 / 256 / 256 % 256) + popc 24 (n / 256 / 256 / 256 / 256 / 256) := popc_s (n / 256 / 256 / 256 / 256) 24
  have e5 : popc 24 (n / 256 / 256 / 256 / 256 / 256) = popc 8 (n / 256 / 256 / 256 / 256 / 256 % 256) + popc 16 (n / 256 / 256 / 256 / 256 / 256 / 256) := popc_s (n / 256 / 256 / 256 / 256 / 256) 16
  have e6 : popc 16 (n / 256 / 256 / 256 / 256 / 256 / 256) = popc 8 (n / 256 / 256 / 256 / 256 / 256 / 256 % 256) + popc 8 (n / 256 / 256 / 256 / 256 / 256 / 256 / 256) := popc_s (n / 256 / 256 / 256 / 256 / 256 / 256) 8
  rw [e0, e1, e2, e3, e4, e5, e6, popc_8 (n / 256 / 256 / 256 / 256 / 256 / 256 / 256)]
theorem bitCount_eq (x : Int64) : F_J13_bitCount_95d88 x = Int32.ofNat (popc 64 x.toBitVec.toNat) := by
  have hn : x.toBitVec.toNat < 256 ^ 8 := x.toBitVec.isLt
  unfold F_J13_bitCount_95d88
  generalize ha : (x - ((lush x 1) &&& 6148914691236517205)) = a
  have ea : a.toBitVec.toNat = g1 x.toBitVec.toNat 8 := by
    rw [← ha]
    show (x.toBitVec - ((lush x (Int32.ofNat 1)).toBitVec &&& 6148914691236517205#64)).toNat = _
    have h1 : ((lush x (Int32.ofNat 1)).toBitVec &&& 6148914691236517205#64).toNat = (x.toBitVec.toNat / 2) &&& mk 85 8 := by
      rw [BitVec.toNat_and, lush_n (by decide)]
      rfl
    have h2 : (x.toBitVec.toNat / 2) &&& mk 85 8 ≤ x.toBitVec.toNat / 2 := Nat.and_le_left
    rw [BitVec.toNat_sub, h1]
    unfold g1
    omega
  unfold F_J13_bitCount_95d88_10
  generalize hb : ((a &&& 3689348814741910323) + ((lush a 2) &&& 3689348814741910323)) = b
  have hm : mk 51 8 = 3689348814741910323 := by decide
  have eb : b.toBitVec.toNat = g2 (g1 x.toBitVec.toNat 8) 8 := by
    rw [← hb, ← ea]
    show ((a.toBitVec &&& 3689348814741910323#64) + ((lush a (Int32.ofNat 2)).toBitVec &&& 3689348814741910323#64)).toNat = _
    rw [BitVec.toNat_add, BitVec.toNat_and, BitVec.toNat_and, lush_n (by decide)]
    have h1 : (a.toBitVec.toNat &&& mk 51 8) ≤ mk 51 8 := Nat.and_le_right
    have h2 : ((a.toBitVec.toNat / 4) &&& mk 51 8) ≤ mk 51 8 := Nat.and_le_right
    show ((a.toBitVec.toNat &&& 3689348814741910323) + (a.toBitVec.toNat / 4 &&& 3689348814741910323)) % 2 ^ 64 = _
    rw [hm] at h1 h2
    unfold g2
    rw [hm]
    exact Nat.mod_eq_of_lt (by omega)
  unfold F_J13_bitCount_95d88_24
  generalize hc : ((b + (lush b 4)) &&& 1085102592571150095) = c
  have hb2 : b.toBitVec.toNat ≤ 2 * mk 51 8 := by
    rw [eb]
    have h1 : ((g1 x.toBitVec.toNat 8) &&& mk 51 8) ≤ mk 51 8 := Nat.and_le_right
    have h2 : ((g1 x.toBitVec.toNat 8 / 4) &&& mk 51 8) ≤ mk 51 8 := Nat.and_le_right
    unfold g2
    omega
  rw [hm] at hb2
  have ec : c.toBitVec.toNat = sB 8 x.toBitVec.toNat := by
    rw [← hc, ← (sB_eq 8 _ hn).2, ← eb]
    show ((b + lush b (Int32.ofNat 4)).toBitVec &&& 1085102592571150095#64).toNat = _
    rw [BitVec.toNat_and, add_sh (by decide) (by omega)]
    rfl
  have hp : ∀ n, popc 8 n ≤ 8 := fun n => popc_le 8 n
  have hsum : popc 64 x.toBitVec.toNat = popc 8 (x.toBitVec.toNat % 256) + (popc 8 (x.toBitVec.toNat / 256 % 256) + (popc 8 (x.toBitVec.toNat / 256 / 256 % 256) + (popc 8 (x.toBitVec.toNat / 256 / 256 / 256 % 256) + (popc 8 (x.toBitVec.toNat / 256 / 256 / 256 / 256 % 256) + (popc 8 (x.toBitVec.toNat / 256 / 256 / 256 / 256 / 256 % 256) + (popc 8 (x.toBitVec.toNat / 256 / 256 / 256 / 256 / 256 / 256 % 256) + popc 8 (x.toBitVec.toNat / 256 / 256 / 256 / 256 / 256 / 256 / 256 % 256))))))) := by
    exact popc_64 _
  obtain ⟨⟨hx, hy, hz, hw⟩, hr⟩ := fold8 (hp (x.toBitVec.toNat % 256)) (hp (x.toBitVec.toNat / 256 % 256)) (hp (x.toBitVec.toNat / 256 / 256 % 256)) (hp (x.toBitVec.toNat / 256 / 256 / 256 % 256)) (hp (x.toBitVec.toNat / 256 / 256 / 256 / 256 % 256)) (hp (x.toBitVec.toNat / 256 / 256 / 256 / 256 / 256 % 256)) (hp (x.toBitVec.toNat / 256 / 256 / 256 / 256 / 256 / 256 % 256)) (hp (x.toBitVec.toNat / 256 / 256 / 256 / 256 / 256 / 256 / 256 % 256)) c.toBitVec.toNat _ _ _ ec rfl rfl rfl
  unfold F_J13_bitCount_95d88_34
  generalize hd : c + lush c 8 = d
  have ed : d.toBitVec.toNat = c.toBitVec.toNat + c.toBitVec.toNat / 256 := by
    rw [← hd]
    exact add_sh (i := 8) (by decide) (by omega)
  unfold F_J13_bitCount_95d88_41
  generalize he : d + lush d 16 = e
  have ee : e.toBitVec.toNat = d.toBitVec.toNat + d.toBitVec.toNat / 65536 := by
    rw [← he]
    exact add_sh (i := 16) (by decide) (by omega)
  unfold F_J13_bitCount_95d88_48
  generalize hf : e + lush e 32 = f
  have ef : f.toBitVec.toNat = e.toBitVec.toNat + e.toBitVec.toNat / 4294967296 := by
    rw [← hf]
    exact add_sh (i := 32) (by decide) (by omega)
  unfold F_J13_bitCount_95d88_55
  rw [← ed, ← ee, ← ef] at hw hr
  rw [bc_end hw, hr, hsum]
theorem many_bits (x : Int64) : F_X9_many x = F_J13_bitCount_95d88 x := (many_eq x).trans (bitCount_eq x).symm
/-! counted loops as iteration; sets of squares by their bits -/
def it {S : Type} (g : Int32 → S → S) : Nat → S → S
  | 0, s => s
  | n + 1, s => g (Int32.ofNat n) (it g n s)
theorem fr0_it {S : Type} {g : Int32 → S → S} {b : Nat} {s : S} (hb : b < 2147483648) : p2 (fr0 g (Int32.ofNat b) (fu 0 (Int32.ofNat b)) 0 s) = it g b s :=
  fr0_nat (g := g) hb (fun i x => x = it g i s) (fun i x _ hx => by rw [hx]; rfl) rfl
theorem it_congr {S : Type} {g g' : Int32 → S → S} {s : S} : ∀ {b : Nat}, (∀ i x, i < b → g (Int32.ofNat i) x = g' (Int32.ofNat i) x) → it g b s = it g' b s := by
  intro b
  induction b with
  | zero => intro _; rfl
  | succ b ih =>
    intro h
    show g _ _ = g' _ _
    rw [ih (fun i x hi => h i x (by omega)), h b _ (by omega)]
theorem it_ind {S : Type} {g : Int32 → S → S} {s : S} (P : Nat → S → Prop) (h0 : P 0 s) : ∀ {b : Nat}, (∀ i x, i < b → P i x → P (i + 1) (g (Int32.ofNat i) x)) → P b (it g b s) := by
  intro b
  induction b with
  | zero => intro _; exact h0
  | succ b ih =>
    intro h
    exact h b _ (by omega) (ih (fun i x hi => h i x (by omega)))
def mb (x : Int64) (k : Nat) : Bool := x.toBitVec.getLsbD k
def M (x : Int64) (k : Nat) : Prop := mb x k = true
theorem M_ext {x y : Int64} (h : ∀ k, k < 64 → (M x k ↔ M y k)) : x = y := by
  apply Int64.toBitVec.inj
  apply BitVec.eq_of_getLsbD_eq
  intro i hi
  exact Bool.eq_iff_iff.mpr (h i hi)
theorem M_hi {x : Int64} {k : Nat} (h : M x k) : k < 64 := by
  refine Classical.byContradiction fun c => ?_
  unfold M mb at h
  rw [BitVec.getLsbD_of_ge _ _ (by omega)] at h
  exact absurd h (by decide)
theorem M_xor {x y : Int64} {k : Nat} : M (x ^^^ y) k ↔ ¬ (M x k ↔ M y k) := by
  unfold M mb
  rw [show (x ^^^ y).toBitVec = x.toBitVec ^^^ y.toBitVec from rfl, BitVec.getLsbD_xor]
  cases x.toBitVec.getLsbD k <;> cases y.toBitVec.getLsbD k <;> simp
theorem M_or {x y : Int64} {k : Nat} : M (x ||| y) k ↔ M x k ∨ M y k := by
  unfold M mb
  rw [show (x ||| y).toBitVec = x.toBitVec ||| y.toBitVec from rfl, BitVec.getLsbD_or]
  cases x.toBitVec.getLsbD k <;> cases y.toBitVec.getLsbD k <;> simp
theorem M_and {x y : Int64} {k : Nat} : M (x &&& y) k ↔ M x k ∧ M y k := by
  unfold M mb
  rw [show (x &&& y).toBitVec = x.toBitVec &&& y.toBitVec from rfl, BitVec.getLsbD_and]
  cases x.toBitVec.getLsbD k <;> cases y.toBitVec.getLsbD k <;> simp
theorem M_0 {k : Nat} : ¬ M 0 k := by
  intro h
  unfold M mb at h
  rw [show (0 : Int64).toBitVec = 0#64 from rfl, BitVec.getLsbD_zero] at h
  exact absurd h (by decide)
theorem M_bit {i k : Nat} (hi : i < 64) : M (lsh 1 (Int32.ofNat i)) k ↔ k = i := by
  unfold M mb
  rw [lsh_bv hi, show (1 : Int64).toBitVec = 1#64 from rfl, BitVec.getLsbD_shiftLeft, BitVec.getLsbD_one]
  simp
  omega
theorem M_lush {x : Int64} {s k : Nat} (hs : s < 64) : M (lush x (Int32.ofNat s)) k ↔ M x (s + k) := by
  unfold M mb
  rw [lush_bv hs, BitVec.getLsbD_ushiftRight]
theorem M_lsh {x : Int64} {s k : Nat} (hs : s < 64) : M (lsh x (Int32.ofNat s)) k ↔ k < 64 ∧ s ≤ k ∧ M x (k - s) := by
  unfold M mb
  rw [lsh_bv hs, BitVec.getLsbD_shiftLeft]
  simp
  exact and_assoc
theorem pos_rc {r c : Nat} : (8 : Int32) * Int32.ofNat r + Int32.ofNat c = Int32.ofNat (8 * r + c) := by
  rw [Int32.ofNat_add, Int32.ofNat_mul]
  rfl
theorem isDark_eq {x : Int64} {r c : Nat} (h : 8 * r + c < 64) : F_X9_isDark x (Int32.ofNat r) (Int32.ofNat c) = if mb x (8 * r + c) then 1 else 0 := by
  unfold F_X9_isDark
  rw [pos_rc, lsr_1 h]
  unfold mb
  cases x.toBitVec.getLsbD (8 * r + c) <;> rfl
theorem lush_1 {x : Int64} {i : Nat} (h : i < 64) : (Int64.toInt32 (lush x (Int32.ofNat i))) &&& 1 = if mb x i then 1 else 0 := by
  apply Int32.toBitVec.inj
  show ((lush x (Int32.ofNat i)).toBitVec.signExtend 32) &&& 1#32 = _
  rw [BitVec.signExtend_eq_setWidth_of_le _ (by decide), lush_bv h]
  apply BitVec.eq_of_getLsbD_eq
  intro j hj
  rw [BitVec.getLsbD_and, BitVec.getLsbD_setWidth, BitVec.getLsbD_ushiftRight, BitVec.getLsbD_one]
  unfold mb
  by_cases c : j = 0
  · subst c
    rw [Nat.add_zero]
    cases x.toBitVec.getLsbD i <;> decide
  · cases x.toBitVec.getLsbD i
    · show _ = (0#32).getLsbD j
      simp [c]
    · show _ = (1#32).getLsbD j
      rw [BitVec.getLsbD_one]
      simp [c]
theorem squareAt_eq {L : WL} {o r c : Nat} (h : 8 * r + c < 64) : F_X0_squareAt L o (Int32.ofNat r) (Int32.ofNat c) = if mb (L o 3) (8 * r + c) then 1 else 0 := by
  unfold F_X0_squareAt
  rw [pos_rc]
  exact lush_1 h
theorem it_or {g : Int32 → Int64 → Int64} {b : Nat} {x : Int64} (B : Nat → Nat → Prop) (h : ∀ i x, i < b → ∀ k, M (g (Int32.ofNat i) x) k ↔ (M x k ∨ B i k)) : ∀ k, M (it g b x) k ↔ (M x k ∨ ∃ i, i < b ∧ B i k) := by
  refine it_ind (P := fun i s => ∀ k, M s k ↔ (M x k ∨ ∃ j, j < i ∧ B j k)) (fun k => ?_) (fun i s hi hs k => ?_)
  · constructor
    · exact .inl
    · rintro (h | ⟨j, hj, _⟩)
      · exact h
      · omega
  · rw [h i s hi k, hs k]
    constructor
    · rintro ((h | ⟨j, hj, h⟩) | h)
      · exact .inl h
      · exact .inr ⟨j, by omega, h⟩
      · exact .inr ⟨i, by omega, h⟩
    · rintro (h | ⟨j, hj, h⟩)
      · exact .inl (.inl h)
      · by_cases e : j = i
        · exact .inr (e ▸ h)
        · exact .inl (.inr ⟨j, by omega, h⟩)
/-- two loops, one in the other, that join single squares -/
theorem it_or2 {g : Nat → Int32 → Int64 → Int64} {f : Int32 → Int64 → Int64} {h w : Nat} {x : Int64} (hh : h < 2147483648) (D : Nat → Nat → Prop) (hf : ∀ r x, r < h → f (Int32.ofNat r) x = it (g r) w x) (hg : ∀ r c x, r < h → c < w → ∀ k, M (g r (Int32.ofNat c) x) k ↔ (M x k ∨ (D r c ∧ k = 8 * r + c))) (hw : w ≤ 8) : ∀ k, M (it f h x) k ↔ (M x k ∨ (k / 8 < h ∧ k % 8 < w ∧ D (k / 8) (k % 8))) := by
  intro k
  rw [it_or (fun r k => ∃ c, c < w ∧ (D r c ∧ k = 8 * r + c)) (fun r x hr k => by rw [hf r x hr]; exact it_or (fun c k => D r c ∧ k = 8 * r + c) (fun c x hc k => hg r c x hr hc k) k) k]
  constructor
  · rintro (h1 | ⟨r, hr, c, hc, hd, hk⟩)
    · exact .inl h1
    · have e1 : k / 8 = r := by omega
      have e2 : k % 8 = c := by omega
      rw [e1, e2]
      exact .inr ⟨hr, hc, hd⟩
  · rintro (h1 | ⟨h1, h2, h3⟩)
    · exact .inl h1
    · exact .inr ⟨k / 8, h1, k % 8, h2, h3, by omega⟩
/-- of a size 1 to 8 by 1 to 8 -/
def Cl (h w : Nat) : Prop := (1 ≤ h ∧ h ≤ 8) ∧ 1 ≤ w ∧ w ≤ 8
def Ins (h w : Nat) (x : Int64) : Prop := ∀ k, M x k → k / 8 < h ∧ k % 8 < w
theorem bitOf_M {r c k : Nat} (h : 8 * r + c < 64) : M (F_X9_bitOf (Int32.ofNat r) (Int32.ofNat c)) k ↔ k = 8 * r + c := by
  unfold F_X9_bitOf
  rw [pos_rc]
  exact M_bit h
def acond (a b r c : Int32) : Prop := if a = 0 then r = b else if a = 1 then c = b else r + c = b
theorem actSet_M {h w : Nat} (hC : Cl h w) {a b : Int32} {k : Nat} : M (F_X9_actSet (cw (Int32.ofNat h) (Int32.ofNat w)) a b) k ↔ k / 8 < h ∧ k % 8 < w ∧ acond a b (Int32.ofNat (k / 8)) (Int32.ofNat (k % 8)) := by
  obtain ⟨⟨h1, h2⟩, h3, h4⟩ := hC
  have e : F_X9_actSet (cw (Int32.ofNat h) (Int32.ofNat w)) a b = it (fun i x => F_X9_actSet_14_1 (cw (Int32.ofNat h) (Int32.ofNat w)) a b i x) h 0 := fr0_it (by omega)
  rw [e, it_or2 (g := fun r i x => F_X9_actSet_26_2 (cw (Int32.ofNat h) (Int32.ofNat w)) a b (Int32.ofNat r) i x) (w := w) (by omega) (fun r c => acond a b (Int32.ofNat r) (Int32.ofNat c)) (fun r x hr => fr0_it (by omega)) (fun r c x hr hc k => ?_) h4]
  · constructor
    · rintro (h | h)
      · exact absurd h M_0
      · exact h
    · exact .inr
  · show M (F_X9_actSet_26_2 _ a b (Int32.ofNat r) (Int32.ofNat c) x) k ↔ _
    have hb := bitOf_M (r := r) (c := c) (k := k) (by omega)
    have hp : M (F_X9_actSet_77_2 (cw (Int32.ofNat h) (Int32.ofNat w)) a b (Int32.ofNat r) (Int32.ofNat c) x 1) k ↔ (M x k ∨ k = 8 * r + c) := by
      unfold F_X9_actSet_77_2 F_X9_actSet_96_2
      rw [if_neg (by decide), M_or, hb]
    have hn : M (F_X9_actSet_77_2 (cw (Int32.ofNat h) (Int32.ofNat w)) a b (Int32.ofNat r) (Int32.ofNat c) x 0) k ↔ M x k := by
      unfold F_X9_actSet_77_2 F_X9_actSet_96_2
      rw [if_pos rfl, M_or]
      exact ⟨fun h => h.resolve_right M_0, .inl⟩
    unfold F_X9_actSet_26_2 acond
    by_cases c1 : a = 0
    · rw [if_pos c1, if_pos c1]
      by_cases c2 : Int32.ofNat r = b
      · rw [if_pos c2, hp]
        exact ⟨fun h => h.imp_right fun h => ⟨c2, h⟩, fun h => h.imp_right fun h => h.2⟩
      · rw [if_neg c2, hn]
        exact ⟨.inl, fun h => h.resolve_right fun h => c2 h.1⟩
    · rw [if_neg c1, if_neg c1]
      by_cases c3 : a = 1
      · rw [if_pos c3, if_pos c3]
        by_cases c2 : Int32.ofNat c = b
        · rw [if_pos c2, hp]
          exact ⟨fun h => h.imp_right fun h => ⟨c2, h⟩, fun h => h.imp_right fun h => h.2⟩
        · rw [if_neg c2, hn]
          exact ⟨.inl, fun h => h.resolve_right fun h => c2 h.1⟩
      · rw [if_neg c3, if_neg c3]
        by_cases c2 : Int32.ofNat r + Int32.ofNat c = b
        · rw [if_pos c2, hp]
          exact ⟨fun h => h.imp_right fun h => ⟨c2, h⟩, fun h => h.imp_right fun h => h.2⟩
        · rw [if_neg c2, hn]
          exact ⟨.inl, fun h => h.resolve_right fun h => c2 h.1⟩
/-- what the class reads of a cloth -/
def cq (h w : Int32) : WI := fun k j => if k = 1 ∧ j = 1 then h else if k = 1 ∧ j = 2 then w else 0
theorem squaresOf_cq (I : WI) (o : Nat) (a b : Int32) : F_X0_squaresOf I o a b = F_X0_squaresOf (cq (I o 1) (I o 2)) 1 a b := rfl
theorem squaresTurned_cq (I : WI) (o : Nat) (a b : Int32) : F_X0_squaresTurned I o a b = F_X0_squaresTurned (cq (I o 1) (I o 2)) 1 a b := rfl
theorem allSquares_cq (I : WI) (o : Nat) : F_X0_allSquares I o = F_X0_allSquares (cq (I o 1) (I o 2)) 1 := rfl
theorem turnSet_cw (I : WI) (a b : Int32) : F_X9_turnSet I a b = F_X9_turnSet (cw (I 33 0) (I 33 1)) a b := rfl
theorem hasLine_cq (I : WI) (o : Nat) (a b : Int32) : F_X0_hasLine I o a b = F_X0_hasLine (cq (I o 1) (I o 2)) 1 a b := rfl
/-! the squares of lines and of turnings: class and reference -/
theorem sq_act0 : ∀ h, h < 8 → ∀ w, w < 8 → ∀ k, k < 2 → ∀ i, i < 8 → F_X0_squaresOf (cq (Int32.ofNat (h + 1)) (Int32.ofNat (w + 1))) 1 (Int32.ofNat k) (Int32.ofNat i) = F_X9_actSet (cw (Int32.ofNat (h + 1)) (Int32.ofNat (w + 1))) (Int32.ofNat k) (Int32.ofNat i) := by decide +kernel
theorem sq_act2 : ∀ h, h < 8 → ∀ w, w < 8 → ∀ i, i < 15 → F_X0_squaresOf (cq (Int32.ofNat (h + 1)) (Int32.ofNat (w + 1))) 1 2 (Int32.ofNat i) = F_X9_actSet (cw (Int32.ofNat (h + 1)) (Int32.ofNat (w + 1))) 2 (Int32.ofNat i) := by decide +kernel
theorem in_eq {a : Int32} {l h : Int64} : F_X9_in (Int32.toInt64 a) l h = if l.toInt ≤ a.toInt ∧ a.toInt ≤ h.toInt then 1 else 0 := by
  unfold F_X9_in F_X9_in_17 F_X9_in_18
  by_cases c1 : lg_cmp (Int32.toInt64 a) l < 0
  · rw [if_pos c1]
    rw [lg_cmp_lt, Int64.lt_iff_toInt_lt, Int32.toInt_toInt64] at c1
    rw [if_neg (by omega)]
  · rw [if_neg c1]
    rw [lg_cmp_lt, Int64.lt_iff_toInt_lt, Int32.toInt_toInt64] at c1
    by_cases c2 : 0 < lg_cmp (Int32.toInt64 a) h
    · rw [if_pos c2]
      rw [lg_cmp_gt, Int64.lt_iff_toInt_lt, Int32.toInt_toInt64] at c2
      rw [if_neg (by omega)]
    · rw [if_neg c2]
      rw [lg_cmp_gt, Int64.lt_iff_toInt_lt, Int32.toInt_toInt64] at c2
      rw [if_pos (by omega)]
theorem z0 : (0 : Int32).toInt = 0 := by decide
theorem z1 : (1 : Int32).toInt = 1 := by decide
theorem z2 : (2 : Int32).toInt = 2 := by decide
theorem zm1 : (-1 : Int32).toInt = -1 := by decide
theorem ti_add {a b : Int32} (h : -2147483648 ≤ a.toInt + b.toInt) (h' : a.toInt + b.toInt < 2147483648) : (a + b).toInt = a.toInt + b.toInt := by
  rw [Int32.toInt_add]
  exact Int.bmod_eq_of_le (by omega) (by omega)
theorem ti_sub {a b : Int32} (h : -2147483648 ≤ a.toInt - b.toInt) (h' : a.toInt - b.toInt < 2147483648) : (a - b).toInt = a.toInt - b.toInt := by
  rw [Int32.toInt_sub]
  exact Int.bmod_eq_of_le (by omega) (by omega)
theorem ti_mul {a b : Int32} (h : -2147483648 ≤ a.toInt * b.toInt) (h' : a.toInt * b.toInt < 2147483648) : (a * b).toInt = a.toInt * b.toInt := by
  rw [Int32.toInt_mul]
  exact Int.bmod_eq_of_le (by omega) (by omega)
/-- a number that is not below 0 is one of the naturals -/
theorem nn {a : Int32} (h : 0 ≤ a.toInt) : ∃ n : Nat, a = Int32.ofNat n ∧ a.toInt = (n : Int) ∧ n < 2147483648 := by
  have h2 := a.toInt_lt
  exact ⟨a.toInt.toNat, on_of (by omega), by omega, by omega⟩
def lz (a : Int32) (h w : Nat) : Int := if a = 0 then h else if a = 1 then w else if a = 2 then h + w - 1 else 0
theorem linesOf_eq {h w : Nat} (hC : Cl h w) {a : Int32} : (F_X0_linesOf (cq (Int32.ofNat h) (Int32.ofNat w)) 1 a).toInt = lz a h w := by
  obtain ⟨⟨h1, h2⟩, h3, h4⟩ := hC
  unfold F_X0_linesOf lz
  show (if a = 0 then Int32.ofNat h else if a = 1 then Int32.ofNat w else if a = 2 then Int32.ofNat h + Int32.ofNat w - 1 else 0).toInt = _
  by_cases c0 : a = 0
  · rw [if_pos c0, if_pos c0, on_toInt (by omega)]
  rw [if_neg c0, if_neg c0]
  by_cases c1 : a = 1
  · rw [if_pos c1, if_pos c1, on_toInt (by omega)]
  rw [if_neg c1, if_neg c1]
  by_cases c2 : a = 2
  · rw [if_pos c2, if_pos c2]
    have e : (Int32.ofNat h + Int32.ofNat w).toInt = h + w := by
      rw [ti_add] <;> rw [on_toInt (by omega), on_toInt (by omega)] <;> omega
    rw [ti_sub] <;> rw [e, z1] <;> omega
  rw [if_neg c2, if_neg c2]
  rfl
theorem hasLine_eq {h w : Nat} (hC : Cl h w) {a b : Int32} : F_X0_hasLine (cq (Int32.ofNat h) (Int32.ofNat w)) 1 a b = if 0 ≤ b.toInt ∧ b.toInt < lz a h w then 1 else 0 := by
  unfold F_X0_hasLine F_X0_hasLine_17 F_X0_hasLine_18
  by_cases c1 : b < 0
  · rw [if_pos c1]
    rw [Int32.lt_iff_toInt_lt, z0] at c1
    rw [if_neg (by omega)]
  rw [if_neg c1]
  rw [Int32.lt_iff_toInt_lt, z0] at c1
  by_cases c2 : F_X0_linesOf (cq (Int32.ofNat h) (Int32.ofNat w)) 1 a ≤ b
  · rw [if_pos c2]
    rw [Int32.le_iff_toInt_le, linesOf_eq hC] at c2
    rw [if_neg (by omega)]
  · rw [if_neg c2]
    rw [Int32.le_iff_toInt_le, linesOf_eq hC] at c2
    rw [if_pos (by omega)]
theorem sq_act {h w : Nat} (hC : Cl h w) {a b : Int32} (ha : a = 0 ∨ a = 1 ∨ a = 2) : F_X0_squaresOf (cq (Int32.ofNat h) (Int32.ofNat w)) 1 a b = F_X9_actSet (cw (Int32.ofNat h) (Int32.ofNat w)) a b := by
  have hC' := hC
  obtain ⟨⟨h1, h2⟩, h3, h4⟩ := hC
  by_cases c : 0 ≤ b.toInt ∧ b.toInt < lz a h w
  · obtain ⟨n, hn, hz, _⟩ := nn c.1
    have eh : h = (h - 1) + 1 := by omega
    have ew : w = (w - 1) + 1 := by omega
    rw [hn, eh, ew]
    rcases ha with rfl | rfl | rfl
    · have : lz 0 h w = h := if_pos rfl
      exact sq_act0 (h - 1) (by omega) (w - 1) (by omega) 0 (by decide) n (by omega)
    · have : lz 1 h w = w := by unfold lz; rw [if_neg (by decide), if_pos rfl]
      exact sq_act0 (h - 1) (by omega) (w - 1) (by omega) 1 (by decide) n (by omega)
    · have : lz 2 h w = h + w - 1 := by unfold lz; rw [if_neg (by decide), if_neg (by decide), if_pos rfl]
      exact sq_act2 (h - 1) (by omega) (w - 1) (by omega) n (by omega)
  · have e : F_X0_squaresOf (cq (Int32.ofNat h) (Int32.ofNat w)) 1 a b = 0 := by
      unfold F_X0_squaresOf
      rw [hasLine_eq hC', if_neg c, if_pos rfl]
    rw [e]
    refine M_ext fun k _ => ⟨fun h => absurd h M_0, fun h => ?_⟩
    rw [actSet_M hC'] at h
    obtain ⟨k1, k2, k3⟩ := h
    refine absurd ?_ c
    unfold acond at k3
    rcases ha with rfl | rfl | rfl
    · rw [if_pos rfl] at k3
      rw [← k3, on_toInt (by omega), show lz 0 h w = h from if_pos rfl]
      omega
    · rw [if_neg (by decide), if_pos rfl] at k3
      rw [← k3, on_toInt (by omega), show lz 1 h w = w by unfold lz; rw [if_neg (by decide), if_pos rfl]]
      omega
    · rw [if_neg (by decide), if_neg (by decide), ← Int32.ofNat_add] at k3
      rw [← k3, on_toInt (by omega), show lz 2 h w = h + w - 1 by unfold lz; rw [if_neg (by decide), if_neg (by decide), if_pos rfl]]
      omega
theorem act_ins {h w : Nat} (hC : Cl h w) {a b : Int32} : Ins h w (F_X9_actSet (cw (Int32.ofNat h) (Int32.ofNat w)) a b) := fun k hk => by
  have := (actSet_M hC).mp hk
  exact ⟨this.1, this.2.1⟩
/-! columns: a row repeated -/
def rep : Nat → Nat → Nat
  | 0, _ => 0
  | h + 1, c => 256 * rep h c + c
theorem rep_M {c : Nat} (hc : c < 256) : ∀ h k, (rep h c).testBit k = true ↔ k / 8 < h ∧ c.testBit (k % 8) = true := by
  intro h
  induction h with
  | zero =>
    intro k
    show Nat.testBit 0 k = true ↔ _
    rw [Nat.zero_testBit]
    constructor
    · intro h; exact absurd h (by decide)
    · intro h; omega
  | succ h ih =>
    intro k
    show (2 ^ 8 * rep h c + c).testBit k = true ↔ _
    rw [Nat.testBit_two_pow_mul_add _ hc]
    by_cases d : k < 8
    · rw [if_pos d, show k % 8 = k by omega]
      constructor
      · intro q; exact ⟨by omega, q⟩
      · intro q; exact q.2
    · rw [if_neg d, ih (k - 8), show (k - 8) % 8 = k % 8 by omega]
      constructor
      · intro q; exact ⟨by omega, q.2⟩
      · intro q; exact ⟨by omega, q.2⟩
theorem col_n : ∀ h, h < 8 → ∀ c, c < 256 → ((Int32.toInt64 (Int32.ofNat c)) * (F_X0_columnSquares (cq (Int32.ofNat (h + 1)) 0) 1 0)).toBitVec.toNat = rep (h + 1) c := by decide +kernel
theorem col_M {h w c k : Nat} (hC : Cl h w) (hc : c < 256) : M ((Int32.toInt64 (Int32.ofNat c)) * (F_X0_columnSquares (cq (Int32.ofNat h) (Int32.ofNat w)) 1 0)) k ↔ k / 8 < h ∧ c.testBit (k % 8) = true := by
  obtain ⟨⟨h1, h2⟩, h3, h4⟩ := hC
  have e := col_n (h - 1) (by omega) c hc
  rw [show h - 1 + 1 = h by omega] at e
  show (((Int32.toInt64 (Int32.ofNat c)) * (F_X0_columnSquares (cq (Int32.ofNat h) 0) 1 0)).toBitVec).getLsbD k = true ↔ _
  rw [← BitVec.testBit_toNat, e]
  exact rep_M hc h k
theorem every_n : ∀ w, w < 8 → F_X0_everyColumn (cq 0 (Int32.ofNat (w + 1))) 1 = Int32.ofNat (2 ^ (w + 1) - 1) := by decide +kernel
theorem all_M {h w k : Nat} (hC : Cl h w) : M (F_X0_allSquares (cq (Int32.ofNat h) (Int32.ofNat w)) 1) k ↔ k / 8 < h ∧ k % 8 < w := by
  have hC' := hC
  obtain ⟨⟨h1, h2⟩, h3, h4⟩ := hC
  have e : F_X0_everyColumn (cq (Int32.ofNat h) (Int32.ofNat w)) 1 = Int32.ofNat (2 ^ w - 1) := by
    have := every_n (w - 1) (by omega)
    rw [show w - 1 + 1 = w by omega] at this
    exact this
  have hp : 2 ^ w ≤ 2 ^ 8 := Nat.pow_le_pow_right (by decide) h4
  unfold F_X0_allSquares
  rw [e, col_M hC' (by omega), Nat.testBit_two_pow_sub_one]
  simp
/-! rows and columns turned -/
theorem row_t : ∀ r, r < 256 → ∀ i, i < 8 → ((Int32.ofNat r) >>> (Int32.ofNat i &&& 31)) &&& 1 = if r.testBit i then 1 else 0 := by decide +kernel
theorem xor_and1 (a b : Int32) : (a ^^^ b) &&& 1 = (a &&& 1) ^^^ (b &&& 1) := by
  apply Int32.toBitVec.inj
  show (a.toBitVec ^^^ b.toBitVec) &&& 1#32 = (a.toBitVec &&& 1#32) ^^^ (b.toBitVec &&& 1#32)
  apply BitVec.eq_of_getLsbD_eq
  intro i _
  simp only [BitVec.getLsbD_and, BitVec.getLsbD_xor]
  cases a.toBitVec.getLsbD i <;> cases b.toBitVec.getLsbD i <;> cases (1#32).getLsbD i <;> rfl
theorem turn_M {h w r c : Nat} (hC : Cl h w) (hr : r < 256) (hc : c < 256) {k : Nat} : M (F_X9_turnSet (cw (Int32.ofNat h) (Int32.ofNat w)) (Int32.ofNat r) (Int32.ofNat c)) k ↔ k / 8 < h ∧ k % 8 < w ∧ ¬ (r.testBit (k / 8) = true ↔ c.testBit (k % 8) = true) := by
  obtain ⟨⟨h1, h2⟩, h3, h4⟩ := hC
  have e : F_X9_turnSet (cw (Int32.ofNat h) (Int32.ofNat w)) (Int32.ofNat r) (Int32.ofNat c) = it (fun i x => F_X9_turnSet_14_1 (cw (Int32.ofNat h) (Int32.ofNat w)) (Int32.ofNat r) (Int32.ofNat c) i x) h 0 := fr0_it (by omega)
  rw [e, it_or2 (g := fun a i x => F_X9_turnSet_26_2 (cw (Int32.ofNat h) (Int32.ofNat w)) (Int32.ofNat r) (Int32.ofNat c) (Int32.ofNat a) i x) (w := w) (by omega) (fun a b => ¬ (r.testBit a = true ↔ c.testBit b = true)) (fun a x ha => fr0_it (by omega)) (fun a b x ha hb k => ?_) h4]
  · constructor
    · rintro (h | h)
      · exact absurd h M_0
      · exact h
    · exact .inr
  · show M (F_X9_turnSet_26_2 _ _ _ (Int32.ofNat a) (Int32.ofNat b) x) k ↔ _
    have hbo := bitOf_M (r := a) (c := b) (k := k) (by omega)
    unfold F_X9_turnSet_26_2 F_X9_turnSet_53_2
    rw [xor_and1, row_t r hr a (by omega), row_t c hc b (by omega)]
    cases r.testBit a <;> cases c.testBit b
    · rw [if_neg (by decide), M_or]
      simp [M_0]
    · rw [if_pos (by decide), M_or, hbo]
      simp
    · rw [if_pos (by decide), M_or, hbo]
      simp
    · rw [if_neg (by decide), M_or]
      simp [M_0]
theorem row_M {h w i k : Nat} (hC : Cl h w) (hi : i < h) : M (F_X0_squaresOf (cq (Int32.ofNat h) (Int32.ofNat w)) 1 0 (Int32.ofNat i)) k ↔ k / 8 = i ∧ k % 8 < w := by
  rw [sq_act hC (.inl rfl), actSet_M hC]
  obtain ⟨⟨h1, h2⟩, h3, h4⟩ := hC
  unfold acond
  rw [if_pos rfl]
  constructor
  · rintro ⟨a, b, c⟩
    have := congrArg Int32.toInt c
    rw [on_toInt (by omega), on_toInt (by omega)] at this
    exact ⟨by omega, b⟩
  · rintro ⟨a, b⟩
    exact ⟨by omega, b, by rw [a]⟩
theorem turned_M {h w r c : Nat} (hC : Cl h w) (hr : r < 256) (hc : c < 2 ^ w) {k : Nat} : M (F_X0_squaresTurned (cq (Int32.ofNat h) (Int32.ofNat w)) 1 (Int32.ofNat r) (Int32.ofNat c)) k ↔ k / 8 < h ∧ k % 8 < w ∧ ¬ (r.testBit (k / 8) = true ↔ c.testBit (k % 8) = true) := by
  have hC' := hC
  obtain ⟨⟨h1, h2⟩, h3, h4⟩ := hC
  have hp : 2 ^ w ≤ 2 ^ 8 := Nat.pow_le_pow_right (by decide) h4
  have e : F_X0_squaresTurned (cq (Int32.ofNat h) (Int32.ofNat w)) 1 (Int32.ofNat r) (Int32.ofNat c) = it (fun i x => F_X0_squaresTurned_21_1 (cq (Int32.ofNat h) (Int32.ofNat w)) 1 (Int32.ofNat r) (Int32.ofNat c) i x) h ((Int32.toInt64 (Int32.ofNat c)) * (F_X0_columnSquares (cq (Int32.ofNat h) (Int32.ofNat w)) 1 0)) := fr0_it (by omega)
  have hcw : c.testBit (k % 8) = true → k % 8 < w := by
    intro hb
    refine Classical.byContradiction fun hn => ?_
    rw [Nat.testBit_lt_two_pow (Nat.lt_of_lt_of_le hc (Nat.pow_le_pow_right (by decide) (by omega)))] at hb
    exact absurd hb (by decide)
  have hI := it_ind (g := fun i x => F_X0_squaresTurned_21_1 (cq (Int32.ofNat h) (Int32.ofNat w)) 1 (Int32.ofNat r) (Int32.ofNat c) i x) (s := (Int32.toInt64 (Int32.ofNat c)) * (F_X0_columnSquares (cq (Int32.ofNat h) (Int32.ofNat w)) 1 0)) (b := h) (fun i s => (k / 8 < i → (M s k ↔ ¬ ((r.testBit (k / 8) = true ∧ k % 8 < w) ↔ (k / 8 < h ∧ c.testBit (k % 8) = true)))) ∧ (¬ k / 8 < i → (M s k ↔ (k / 8 < h ∧ c.testBit (k % 8) = true)))) ⟨fun h => absurd h (by omega), fun _ => col_M hC' (by omega)⟩ (fun i s hi hs => by
    show (k / 8 < i + 1 → (M (F_X0_squaresTurned_21_1 _ 1 _ _ (Int32.ofNat i) s) k ↔ _)) ∧ (¬ k / 8 < i + 1 → (M (F_X0_squaresTurned_21_1 _ 1 _ _ (Int32.ofNat i) s) k ↔ _))
    unfold F_X0_squaresTurned_21_1 F_X0_squaresTurned_40_1
    rw [row_t r hr i (by omega)]
    have hm := row_M (k := k) hC' hi
    cases hb : r.testBit i
    · rw [if_pos (by decide)]
      refine ⟨fun h5 => ?_, fun h5 => hs.2 (by omega)⟩
      by_cases h6 : k / 8 < i
      · exact hs.1 h6
      · have h7 : k / 8 = i := by omega
        rw [hs.2 h6, h7, hb]
        simp
    · rw [if_neg (by decide), M_xor, hm]
      refine ⟨fun h5 => ?_, fun h5 => ?_⟩
      · by_cases h6 : k / 8 < i
        · rw [hs.1 h6]
          have h7 : ¬ k / 8 = i := by omega
          simp [h7]
        · have h7 : k / 8 = i := by omega
          rw [hs.2 h6, h7, hb]
          simp
          constructor
          · intro h8 h9; exact (h8 (h9.symm)).elim
          · intro h8 h9; exact h8 h9.symm
      · rw [hs.2 (by omega)]
        have h7 : ¬ k / 8 = i := by omega
        simp [h7])
  rw [e]
  by_cases hk : k / 8 < h
  · rw [hI.1 hk]
    by_cases hw : k % 8 < w
    · simp [hk, hw]
    · have : ¬ c.testBit (k % 8) = true := fun h => hw (hcw h)
      simp [hw, this]
  · rw [hI.2 hk]
    simp [hk]
theorem turned_eq {h w r c : Nat} (hC : Cl h w) (hr : r < 256) (hc : c < 2 ^ w) : F_X0_squaresTurned (cq (Int32.ofNat h) (Int32.ofNat w)) 1 (Int32.ofNat r) (Int32.ofNat c) = F_X9_turnSet (cw (Int32.ofNat h) (Int32.ofNat w)) (Int32.ofNat r) (Int32.ofNat c) := by
  have hp : 2 ^ w ≤ 2 ^ 8 := Nat.pow_le_pow_right (by decide) hC.2.2
  refine M_ext fun k _ => ?_
  rw [turned_M hC hr hc, turn_M hC hr (by omega)]
/-! what holds between class and reference ahead of each call -/
def InvC (I : WI) (L : WL) (h w : Nat) : Prop := Cl h w ∧ I 1 1 = Int32.ofNat h ∧ I 1 2 = Int32.ofNat w ∧ I 33 0 = Int32.ofNat h ∧ I 33 1 = Int32.ofNat w ∧ L 33 2 = L 1 3 ∧ Ins h w (L 1 3) ∧ bz (I 1 0) = 1
def InvP (I : WI) (L : WL) (h w : Nat) : Prop := (∃ h2 w2, Cl h2 w2 ∧ I 2 1 = Int32.ofNat h2 ∧ I 2 2 = Int32.ofNat w2 ∧ (bz (I 2 0) = 1 → h2 = h ∧ w2 = w)) ∧ bz (I 33 4) = bz (I 2 0) ∧ (bz (I 2 0) = 1 → L 33 3 = L 2 3 ∧ Ins h w (L 2 3))
def InvK (I : WI) (L : WL) (k : Nat) : Prop := (bz (I (3 + k) 0) = 0 → (I 36 k).toInt ≤ 0) ∧ (bz (I (3 + k) 0) = 1 → ∃ h w, Cl h w ∧ I (3 + k) 1 = Int32.ofNat h ∧ I (3 + k) 2 = Int32.ofNat w ∧ I 36 k = Int32.ofNat h ∧ I 37 k = Int32.ofNat w ∧ L 35 k = L (3 + k) 3 ∧ Ins h w (L (3 + k) 3))
def InvD (I : WI) : Prop := ∃ n, n ≤ 12 ∧ I 6 0 = Int32.ofNat n ∧ I 33 5 = Int32.ofNat n ∧ ∀ d, d < n → ∃ m, m ≤ 3 ∧ I 7 d = Int32.ofNat m ∧ I 34 (4 * d) = Int32.ofNat m ∧ ∀ i, i < m → ∃ c, c < 60 ∧ I 8 (3 * d + i) = Int32.ofNat c ∧ I 34 (4 * d + 1 + i) = Int32.ofNat c
/-- a byte with its sign -/
def sby (b : Nat) : Int32 := if b < 128 then Int32.ofNat b else Int32.ofInt ((b : Int) - 256)
def InvT (I : WI) : Prop := ∃ n, n ≤ 320 ∧ I 9 0 = Int32.ofNat n ∧ I 33 21 = Int32.ofNat n ∧ ∀ j, j < n → ∃ b, b < 256 ∧ I 39 j = Int32.ofNat b ∧ I 10 j = sby b
def InvS (I : WI) (k : Nat) : Prop := (I (19 + 2 * k) 0 = -1 ∧ I 42 k = -4) ∨ ∃ n l, n ≤ 40 ∧ l ≤ 2 ∧ I (19 + 2 * k) 0 = Int32.ofNat n ∧ I 43 k = Int32.ofNat n ∧ I (19 + 2 * k) 1 = Int32.ofNat l ∧ I 42 k = Int32.ofNat l ∧ ∀ i, i < 40 → I (20 + 2 * k) i = I 44 (40 * k + i)
def Inv (I : WI) (L : WL) : Prop := (∃ h w, InvC I L h w ∧ InvP I L h w) ∧ InvK I L 0 ∧ InvK I L 1 ∧ InvD I ∧ InvT I ∧ (∀ k, k < 4 → InvS I k) ∧ I 0 14 = I 33 46
/-- cells that nothing is kept in between calls -/
def sc (k j : Nat) : Bool := k == 5 || (11 ≤ k && k ≤ 16) || (27 ≤ k && k ≤ 32) || (k == 33 && !(j ≤ 5 || j == 21 || j == 46)) || k == 38 || k == 40 || k == 41 || (k == 0 && !(j == 14))
def Ag {α : Type} (f g : Nat → Nat → α) : Prop := ∀ k j, sc k j = false → g k j = f k j
theorem Ag.rfl {α : Type} {f : Nat → Nat → α} : Ag f f := fun _ _ _ => Eq.refl _
theorem Ag.trans {α : Type} {f g h : Nat → Nat → α} (a : Ag f g) (b : Ag g h) : Ag f h := fun k j q => (b k j q).trans (a k j q)
theorem Ag.u {α : Type} {f g : Nat → Nat → α} {k j : Nat} {x : α} (a : Ag f g) (h : sc k j = true) : Ag f (u2 g k j x) := fun a' b' q => by
  unfold u2
  by_cases c : a' = k ∧ b' = j
  · rw [c.1, c.2, h] at q
    exact absurd q (by decide)
  · rw [if_neg c]
    exact a a' b' q
theorem InvC.ag {I I' : WI} {L L' : WL} {h w : Nat} (hI : Ag I I') (hL : Ag L L') (H : InvC I L h w) : InvC I' L' h w := by
  obtain ⟨a, b, c, d, e, f, g, i⟩ := H
  exact ⟨a, (hI 1 1 rfl).trans b, (hI 1 2 rfl).trans c, (hI 33 0 rfl).trans d, (hI 33 1 rfl).trans e, (hL 33 2 rfl).trans (f.trans (hL 1 3 rfl).symm), (hL 1 3 rfl).symm ▸ g, (hI 1 0 rfl).symm ▸ i⟩
theorem InvP.ag {I I' : WI} {L L' : WL} {h w : Nat} (hI : Ag I I') (hL : Ag L L') (H : InvP I L h w) : InvP I' L' h w := by
  unfold InvP at H ⊢
  rw [hI 2 1 rfl, hI 2 2 rfl, hI 2 0 rfl, hI 33 4 rfl, hL 33 3 rfl, hL 2 3 rfl]
  exact H
theorem InvK.ag {I I' : WI} {L L' : WL} {k : Nat} (hk : k < 2) (hI : Ag I I') (hL : Ag L L') (H : InvK I L k) : InvK I' L' k := by
  unfold InvK at H ⊢
  rw [hI 36 k rfl, hI 37 k rfl, hL 35 k rfl]
  rcases (show k = 0 ∨ k = 1 by omega) with rfl | rfl
  · rw [hI (3 + 0) 0 rfl, hI (3 + 0) 1 rfl, hI (3 + 0) 2 rfl, hL (3 + 0) 3 rfl]
    exact H
  · rw [hI (3 + 1) 0 rfl, hI (3 + 1) 1 rfl, hI (3 + 1) 2 rfl, hL (3 + 1) 3 rfl]
    exact H
theorem InvD.ag {I I' : WI} (hI : Ag I I') (H : InvD I) : InvD I' := by
  obtain ⟨n, h1, h2, h3, h4⟩ := H
  refine ⟨n, h1, (hI 6 0 rfl).trans h2, (hI 33 5 rfl).trans h3, fun d hd => ?_⟩
  obtain ⟨m, g1, g2, g3, g4⟩ := h4 d hd
  refine ⟨m, g1, (hI 7 d rfl).trans g2, (hI 34 _ rfl).trans g3, fun i hi => ?_⟩
  obtain ⟨c, f1, f2, f3⟩ := g4 i hi
  exact ⟨c, f1, (hI 8 _ rfl).trans f2, (hI 34 _ rfl).trans f3⟩
theorem InvT.ag {I I' : WI} (hI : Ag I I') (H : InvT I) : InvT I' := by
  obtain ⟨n, h1, h2, h3, h4⟩ := H
  refine ⟨n, h1, (hI 9 0 rfl).trans h2, (hI 33 21 rfl).trans h3, fun j hj => ?_⟩
  obtain ⟨b, g1, g2, g3⟩ := h4 j hj
  exact ⟨b, g1, (hI 39 j rfl).trans g2, (hI 10 j rfl).trans g3⟩
theorem InvS.ag {I I' : WI} {k : Nat} (hk : k < 4) (hI : Ag I I') (H : InvS I k) : InvS I' k := by
  unfold InvS at H ⊢
  have e : ∀ k, k < 4 → ∀ j, sc (19 + 2 * k) j = false ∧ sc (20 + 2 * k) j = false := by
    intro k hk j
    rcases (show k = 0 ∨ k = 1 ∨ k = 2 ∨ k = 3 by omega) with rfl | rfl | rfl | rfl <;> exact ⟨rfl, rfl⟩
  rw [hI _ 0 (e k hk 0).1, hI _ 1 (e k hk 1).1, hI 42 k rfl, hI 43 k rfl]
  rcases H with H | ⟨n, l, h1, h2, h3, h4, h5, h6, h7⟩
  · exact .inl H
  · exact .inr ⟨n, l, h1, h2, h3, h4, h5, h6, fun i hi => by rw [hI _ i (e k hk i).2, hI 44 _ rfl]; exact h7 i hi⟩
theorem Inv.ag {I I' : WI} {L L' : WL} (hI : Ag I I') (hL : Ag L L') (H : Inv I L) : Inv I' L' := by
  obtain ⟨⟨h, w, h1, h2⟩, h3, h4, h5, h6, h7, h8⟩ := H
  exact ⟨⟨h, w, h1.ag hI hL, h2.ag hI hL⟩, h3.ag (by decide) hI hL, h4.ag (by decide) hI hL, h5.ag hI, h6.ag hI, fun k hk => (h7 k hk).ag hk hI, by rw [hI 0 14 rfl, hI 33 46 rfl]; exact h8⟩
theorem Inv0 : Inv I0 L8 := by
  refine ⟨⟨4, 4, ⟨⟨⟨by decide, by decide⟩, by decide, by decide⟩, rfl, rfl, rfl, rfl, rfl, fun k h => absurd h M_0, by decide⟩, ⟨4, 4, ⟨⟨by decide, by decide⟩, by decide, by decide⟩, rfl, rfl, fun _ => ⟨rfl, rfl⟩⟩, rfl, fun h => absurd h (by decide)⟩, ⟨fun _ => by decide, fun h => absurd h (by decide)⟩, ⟨fun _ => by decide, fun h => absurd h (by decide)⟩, ⟨0, by decide, rfl, rfl, fun d hd => absurd hd (by omega)⟩, ⟨0, by decide, rfl, rfl, fun d hd => absurd hd (by omega)⟩, fun k hk => ?_, rfl⟩
  rcases (show k = 0 ∨ k = 1 ∨ k = 2 ∨ k = 3 by omega) with rfl | rfl | rfl | rfl <;> exact .inl ⟨rfl, rfl⟩
