theorem frp0_fix {S : Type} {g : Int32 → S → Option S} {B : Int32} {s : S} : ∀ (n : Nat) (c : Int32), (∀ i : Int32, c.toInt ≤ i.toInt → i.toInt < B.toInt → g i s = some s) → ∃ e, frp0 g B n c s = some (e, s) := by
  intro n
  induction n with
  | zero => intro c _; rw [frp0]; exact ⟨c, rfl⟩
  | succ n ih =>
    intro c h
    rw [frp0]
    by_cases hc : B ≤ c
    · rw [if_pos hc]
      exact ⟨c, rfl⟩
    · rw [if_neg hc]
      rw [Int32.le_iff_toInt_le] at hc
      rw [h c (Int.le_refl _) (by omega)]
      refine ih (c + 1) (fun i hi hb => h i ?_ hb)
      have h1 : (c + 1).toInt = c.toInt + 1 := by
        rw [Int32.toInt_add]
        have e1 : (1 : Int32).toInt = 1 := by decide
        have b1 := B.toInt_lt
        have b2 := c.le_toInt
        rw [e1]
        exact Int.bmod_eq_of_le (by omega) (by omega)
      omega
/-- the state behind both constructors -/
def I0 : WI := fun k j => match k, j with
  | 1, 0 => 1
  | 1, 1 => 4
  | 1, 2 => 4
  | 2, 1 => 4
  | 2, 2 => 4
  | 3, 1 => 4
  | 3, 2 => 4
  | 4, 1 => 4
  | 4, 2 => 4
  | 5, 0 => 1
  | 5, 1 => 4
  | 5, 2 => 4
  | 12, 1 => 4
  | 12, 2 => 4
  | 13, 1 => 4
  | 13, 2 => 4
  | 19, 0 => -1
  | 21, 0 => -1
  | 23, 0 => -1
  | 25, 0 => -1
  | 33, 0 => 4
  | 33, 1 => 4
  | 33, 10 => 4
  | 33, 11 => 4
  | 42, 0 => -4
  | 42, 1 => -4
  | 42, 2 => -4
  | 42, 3 => -4
  | _, _ => 0
def Zi (f : WI) : Prop := ∀ k j, 45 ≤ k ∨ 50 ≤ j → f k j = 0
theorem Zi.u {f : WI} {k j : Nat} {x : Int32} (hk : k < 45) (hj : j < 50) (h : Zi f) : Zi (u2 f k j x) := fun a b hb => by
  unfold u2
  rw [if_neg (by omega)]
  exact h a b hb
theorem Zi0 : Zi I0 := by
  intro k j h
  unfold I0
  split <;> first | rfl | (exfalso; omega)
theorem Zi.eq {f g : WI} (hf : Zi f) (hg : Zi g) (h : ∀ k, k < 45 → ∀ j, j < 50 → f k j = g k j) : f = g := by
  funext k j
  by_cases hk : k < 45
  · by_cases hj : j < 50
    · exact h k hk j hj
    · rw [hf k j (.inr (Nat.le_of_not_lt hj)), hg k j (.inr (Nat.le_of_not_lt hj))]
  · rw [hf k j (.inl (Nat.le_of_not_lt hk)), hg k j (.inl (Nat.le_of_not_lt hk))]
def I9d : WI := p1 (F_X9_firstDraft I9 L8)
theorem u2_same {α : Type} {f : Nat → Nat → α} {k j : Nat} {x : α} (h : f k j = x) : u2 f k j x = f := by
  funext a b
  unfold u2
  split
  · next e => rw [e.1, e.2, h]
  · rfl
theorem I0_34 : ∀ q, q < 48 → I0 38 q = 0 ∧ I0 34 q = 0 := by decide +kernel
theorem kd_step (i : Int32) (h0 : 0 ≤ i.toInt) (h1 : i.toInt < 48) : F_X9_keepDraft_56_1 I0 L8 i = some I0 := by
  have hn : ¬ (i < 0 ∨ 48 ≤ Int32.toNatClampNeg i) := by
    intro h
    rcases h with h | h
    · rw [Int32.lt_iff_toInt_lt, show (0 : Int32).toInt = 0 by decide] at h
      omega
    · have : Int32.toNatClampNeg i = i.toInt.toNat := rfl
      omega
  unfold F_X9_keepDraft_56_1
  rw [if_neg hn, if_neg hn]
  have hlt : Int32.toNatClampNeg i < 48 := by omega
  rw [(I0_34 _ hlt).1, u2_same (I0_34 _ hlt).2]
theorem kd_0 : F_X9_keepDraft (p1 (F_X9_firstDraft I9 L8)) (p2 (F_X9_firstDraft I9 L8)) = some (I0, L8) := by
  have hL : p2 (F_X9_firstDraft I9 L8) = L8 := by
    show u2 (u2 L8 33 12 0) 33 15 0 = L8
    funext k j
    unfold u2
    split
    · rfl
    · split
      · rfl
      · rfl
  rw [hL]
  show F_X9_keepDraft I9d L8 = _
  unfold F_X9_keepDraft
  have hX : (u2 (u2 (u2 (u2 I9d 33 0 (I9d 33 10)) 33 1 ((u2 I9d 33 0 (I9d 33 10)) 33 11)) 33 4 (bz ((u2 (u2 I9d 33 0 (I9d 33 10)) 33 1 ((u2 I9d 33 0 (I9d 33 10)) 33 11)) 33 17))) 33 5 ((u2 (u2 (u2 I9d 33 0 (I9d 33 10)) 33 1 ((u2 I9d 33 0 (I9d 33 10)) 33 11)) 33 4 (bz ((u2 (u2 I9d 33 0 (I9d 33 10)) 33 1 ((u2 I9d 33 0 (I9d 33 10)) 33 11)) 33 17))) 33 18)) = I0 := by
    refine Zi.eq ?_ Zi0 (by decide +kernel)
    repeat (refine Zi.u (by decide) (by decide) ?_)
    exact fun _ _ _ => rfl
  rw [hX]
  have hY : (u2 (u2 L8 33 2 (L8 33 12)) 33 3 ((u2 L8 33 2 (L8 33 12)) 33 15)) = L8 := by
    funext k j
    unfold u2
    split
    · rfl
    · split
      · rfl
      · rfl
  rw [hY]
  unfold F_X9_keepDraft_50
  obtain ⟨e, he⟩ := frp0_fix (g := fun i x => F_X9_keepDraft_56_1 x L8 i) (B := 48) (s := I0) (fu 0 48) 0 (fun i h0 h1 => kd_step i (by rw [show (0 : Int32).toInt = 0 by decide] at h0; exact h0) (by rw [show (48 : Int32).toInt = 48 by decide] at h1; exact h1))
  rw [he]
  show some _ = some _
  show some (u2 (u2 I0 36 (Int32.toNatClampNeg 0) 0) 36 (Int32.toNatClampNeg 1) 0, L8) = some (I0, L8)
  rw [u2_same (f := I0) (k := 36) (j := Int32.toNatClampNeg 0) (x := 0) rfl, u2_same (f := I0) (k := 36) (j := Int32.toNatClampNeg 1) (x := 0) rfl]
/-- a partial counted loop, by what holds before each step (P i s: before step i) -/
theorem frp0_ind {S : Type} {g : Int32 → S → Option S} {B : Int32} (P : Int → S → Prop) (lo : Int) (h : ∀ (i : Int32) (s : S), lo ≤ i.toInt → i.toInt < B.toInt → P i.toInt s → ∃ s', g i s = some s' ∧ P (i.toInt + 1) s') : ∀ (n : Nat) (c : Int32) (s : S), lo ≤ c.toInt → c.toInt ≤ B.toInt → (B.toInt - c.toInt).toNat ≤ n → P c.toInt s → ∃ e, frp0 g B n c s = some e ∧ P B.toInt (p2 e) := by
  intro n
  induction n with
  | zero =>
    intro c s h0 h1 h2 hP
    rw [frp0]
    have e : c.toInt = B.toInt := by omega
    exact ⟨(c, s), rfl, e ▸ hP⟩
  | succ n ih =>
    intro c s h0 h1 h2 hP
    rw [frp0]
    by_cases hc : B ≤ c
    · rw [if_pos hc]
      rw [Int32.le_iff_toInt_le] at hc
      have e : c.toInt = B.toInt := by omega
      exact ⟨(c, s), rfl, e ▸ hP⟩
    · rw [if_neg hc]
      have u := up_lt hc
      rw [Int32.le_iff_toInt_le] at hc
      obtain ⟨s', e1, hP'⟩ := h c s h0 (by omega) hP
      rw [e1]
      exact ih (c + 1) s' (by omega) (by omega) (by omega) (by rw [u]; exact hP')
/-! counted loops over Nat; the reference's table of a duel, as a pure function of its leaves -/
theorem on_toInt {n : Nat} (h : n < 2147483648) : (Int32.ofNat n).toInt = n := Int32.toInt_ofNat_of_lt h
theorem on_clamp {n : Nat} (h : n < 2147483648) : Int32.toNatClampNeg (Int32.ofNat n) = n := Int32.toNatClampNeg_ofNat_of_lt h
theorem on_of {i : Int32} {k : Nat} (h : i.toInt = (k : Int)) : i = Int32.ofNat k := by
  have hk : k < 2147483648 := by have := i.toInt_lt; omega
  exact Int32.toInt.inj (h.trans (on_toInt hk).symm)
theorem frp0_nat {S : Type} {g : Int32 → S → Option S} {b : Nat} (hb : b < 2147483648) (P : Nat → S → Prop) {s : S} (h : ∀ i s, i < b → P i s → ∃ s', g (Int32.ofNat i) s = some s' ∧ P (i + 1) s') (h0 : P 0 s) : ∃ e, frp0 g (Int32.ofNat b) (fu 0 (Int32.ofNat b)) 0 s = some e ∧ P b (p2 e) := by
  have hB : (Int32.ofNat b).toInt = (b : Int) := on_toInt hb
  have hz : (0 : Int32).toInt = 0 := by decide
  have hstep : ∀ (i : Int32) (s : S), (0 : Int) ≤ i.toInt → i.toInt < (Int32.ofNat b).toInt → (∃ k : Nat, i.toInt = (k : Int) ∧ P k s) → ∃ s', g i s = some s' ∧ (∃ k : Nat, i.toInt + 1 = (k : Int) ∧ P k s') := by
    intro i s _ h1 h2
    obtain ⟨k, hk, hP⟩ := h2
    obtain ⟨s', e1, e2⟩ := h k s (by omega) hP
    rw [on_of hk]
    exact ⟨s', e1, k + 1, by rw [on_toInt (by omega)]; omega, e2⟩
  obtain ⟨e, e1, k, hk, hP⟩ := frp0_ind (g := g) (B := Int32.ofNat b) (fun z s => ∃ k : Nat, z = (k : Int) ∧ P k s) 0 hstep (fu 0 (Int32.ofNat b)) 0 s (by rw [hz]; exact Int.le_refl _) (by rw [hz, hB]; omega) (Nat.le_refl _) ⟨0, by rw [hz]; rfl, h0⟩
  have : k = b := by omega
  exact ⟨e, e1, this ▸ hP⟩
theorem frp0_two {S : Type} {g g' : Int32 → S → Option S} {b : Nat} (hb : b < 2147483648) (P : Nat → S → Prop) (h : ∀ i s, i < b → P i s → ∃ s', g (Int32.ofNat i) s = some s' ∧ g' (Int32.ofNat i) s = some s' ∧ P (i + 1) s') : ∀ (n c : Nat) (s : S), c ≤ b → P c s → frp0 g (Int32.ofNat b) n (Int32.ofNat c) s = frp0 g' (Int32.ofNat b) n (Int32.ofNat c) s := by
  intro n
  induction n with
  | zero => intro c s _ _; rw [frp0, frp0]
  | succ n ih =>
    intro c s hc hP
    rw [frp0, frp0]
    by_cases hl : Int32.ofNat b ≤ Int32.ofNat c
    · rw [if_pos hl, if_pos hl]
    · rw [if_neg hl, if_neg hl]
      have hl' : c < b := by
        rw [Int32.le_iff_toInt_le, on_toInt hb, on_toInt (by omega)] at hl
        omega
      obtain ⟨s', e1, e2, hP'⟩ := h c s hl' hP
      rw [e1, e2]
      have : Int32.ofNat c + 1 = Int32.ofNat (c + 1) := (Int32.ofNat_add c 1).symm
      rw [this]
      exact ih (c + 1) s' hl' hP'
theorem nin {k : Nat} {N : Nat} (h : k < N) (hN : N < 2147483648) : ¬ (Int32.ofNat k < 0 ∨ N ≤ Int32.toNatClampNeg (Int32.ofNat k)) := by
  intro hc
  rcases hc with hc | hc
  · rw [Int32.lt_iff_toInt_lt, on_toInt (by omega)] at hc
    have : (0 : Int32).toInt = 0 := by decide
    omega
  · rw [on_clamp (by omega)] at hc
    omega
/-- the state with this table, this first move -/
def tb (I : WI) (v : Int32) (W : Nat → Int32) : WI := fun k j => if k = 33 ∧ j = 38 then v else if k = 41 then W j else I k j
theorem tb_41 {I : WI} {v : Int32} {W : Nat → Int32} : (tb I v W) 41 = W := by
  funext j
  unfold tb
  rw [if_neg (by omega), if_pos rfl]
theorem tb_self (I : WI) : tb I (I 33 38) (I 41) = I := by
  funext k j
  unfold tb
  by_cases c : k = 33 ∧ j = 38
  · rw [if_pos c, c.1, c.2]
  rw [if_neg c]
  by_cases d : k = 41
  · rw [if_pos d, d]
  rw [if_neg d]
theorem tb_m {I : WI} {v v' : Int32} {W : Nat → Int32} : u2 (tb I v W) 33 38 v' = tb I v' W := by
  funext k j
  unfold u2 tb
  by_cases c : k = 33 ∧ j = 38
  · rw [if_pos c, if_pos c]
  · rw [if_neg c, if_neg c, if_neg c]
theorem tb_w {I : WI} {v x : Int32} {q : Nat} {W : Nat → Int32} : u2 (tb I v W) 41 q x = tb I v (fun j => if j = q then x else W j) := by
  funext k j
  unfold u2 tb
  by_cases c : k = 33 ∧ j = 38
  · rw [if_neg (by omega), if_pos c, if_pos c]
  · rw [if_neg c, if_neg c]
    by_cases d : k = 41
    · rw [if_pos d, if_pos d]
      show _ = if j = q then x else W j
      by_cases e : j = q
      · rw [if_pos ⟨d, e⟩, if_pos e]
      · rw [if_neg (fun h => e h.2), if_neg e]
    · rw [if_neg (fun h => d h.1), if_neg d, if_neg d]
/-- what `best` finds in a table -/
def bst (W : Nat → Int32) (a : Nat) (s : Int32) : Option Int32 := F_X9_best (fun _ => W) (Int32.ofNat a) s
theorem bst_of (I : WI) (a : Nat) (s : Int32) : F_X9_best I (Int32.ofNat a) s = bst (I 41) a s := rfl
def Mv (m : Int32) (i : Nat) : Prop := m = -4 ∨ ∃ k, k < i ∧ m = Int32.ofNat k
def bp (s u w x i : Int32) : Int32 := if u = -4 then x else if x = -4 then i else if s = 0 then (if w ≤ u then x else i) else (if u ≤ w then x else i)
theorem best_eq {W : Nat → Int32} {a i : Nat} {s x : Int32} (ha : a + 8 < 6561) (hi : i < 9) (hx : Mv x i) : F_X9_best_13_1 (fun _ => W) (Int32.ofNat a) s (Int32.ofNat i) x = some (bp s (W (a + i)) (W (a + x.toNatClampNeg)) x (Int32.ofNat i)) := by
  have e1 : ∀ p q : Option Int32, (if (1 : Int32) = 0 then p else q) = q := fun p q => if_neg (by decide)
  unfold F_X9_best_13_1 F_X9_best_74_1 F_X9_best_70_1 F_X9_best_75_1 F_X9_best_88_1 bp
  simp only [e1, if_true]
  rw [← Int32.ofNat_add, if_neg (nin (k := a + i) (by omega) (by decide)), on_clamp (n := a + i) (by omega)]
  by_cases c1 : W (a + i) = -4
  · rw [if_pos c1, if_pos c1]
  rw [if_neg c1, if_neg c1]
  rcases hx with rfl | ⟨k, hk, rfl⟩
  · rw [if_pos rfl, if_pos rfl]
  by_cases c2 : Int32.ofNat k = -4
  · rw [if_pos c2, if_pos c2]
  rw [if_neg c2, if_neg c2]
  by_cases c3 : s = 0
  · rw [if_pos c3, if_pos c3, ← Int32.ofNat_add, if_neg (nin (k := a + k) (by omega) (by decide)), on_clamp (n := a + k) (by omega), on_clamp (n := k) (by omega)]
    by_cases c4 : W (a + k) ≤ W (a + i)
    · rw [if_pos c4, if_pos c4]
    · rw [if_neg c4, if_neg c4]
  · rw [if_neg c3, if_neg c3, ← Int32.ofNat_add, if_neg (nin (k := a + k) (by omega) (by decide)), on_clamp (n := a + k) (by omega), on_clamp (n := k) (by omega)]
    by_cases c4 : W (a + i) ≤ W (a + k)
    · rw [if_pos c4, if_pos c4]
    · rw [if_neg c4, if_neg c4]
theorem Mv_bp {s u w x : Int32} {i : Nat} (hx : Mv x i) : Mv (bp s u w x (Int32.ofNat i)) (i + 1) := by
  have h1 : Mv x (i + 1) := by
    rcases hx with h | ⟨k, hk, h⟩
    · exact .inl h
    · exact .inr ⟨k, by omega, h⟩
  have h2 : Mv (Int32.ofNat i) (i + 1) := .inr ⟨i, by omega, rfl⟩
  unfold bp
  split
  · exact h1
  split
  · exact h2
  split
  · split
    · exact h1
    · exact h2
  · split
    · exact h1
    · exact h2
theorem bst_spec {W : Nat → Int32} {a : Nat} {s : Int32} (ha : a + 8 < 6561) : ∃ m, bst W a s = some m ∧ Mv m 9 ∧ ∀ W' : Nat → Int32, (∀ j, a ≤ j → j ≤ a + 8 → W j = W' j) → bst W' a s = some m := by
  have hl : ∀ W : Nat → Int32, ∃ e, frp0 (fun i x => F_X9_best_13_1 (fun _ => W) (Int32.ofNat a) s i x) (Int32.ofNat 9) (fu 0 (Int32.ofNat 9)) 0 (-4) = some e ∧ Mv (p2 e) 9 := fun W =>
    frp0_nat (by decide) (fun i x => Mv x i) (fun i x hi hx => ⟨_, best_eq ha hi hx, Mv_bp hx⟩) (.inl rfl)
  obtain ⟨e, e1, e2⟩ := hl W
  refine ⟨p2 e, ?_, e2, fun W' hW => ?_⟩
  · show (frp0 (fun i x => F_X9_best_13_1 (fun _ => W) (Int32.ofNat a) s i x) (Int32.ofNat 9) (fu 0 (Int32.ofNat 9)) 0 (-4)).bind _ = _
    rw [e1]
    rfl
  · have := frp0_two (g := fun i x => F_X9_best_13_1 (fun _ => W) (Int32.ofNat a) s i x) (g' := fun i x => F_X9_best_13_1 (fun _ => W') (Int32.ofNat a) s i x) (b := 9) (by decide) (fun i x => Mv x i) (fun i x hi hx => by
      refine ⟨_, best_eq ha hi hx, ?_, Mv_bp hx⟩
      show F_X9_best_13_1 (fun _ => W') (Int32.ofNat a) s (Int32.ofNat i) x = _
      rw [best_eq ha hi hx, hW (a + i) (by omega) (by omega)]
      rcases hx with rfl | ⟨k, hk, rfl⟩
      · unfold bp
        rw [if_pos rfl, if_pos rfl]
      · rw [on_clamp (n := k) (by omega), hW (a + k) (by omega) (by omega)]) (fu 0 (Int32.ofNat 9)) 0 (-4) (by decide) (.inl rfl)
    show (frp0 (fun i x => F_X9_best_13_1 (fun _ => W') (Int32.ofNat a) s i x) (Int32.ofNat 9) (fu 0 (Int32.ofNat 9)) 0 (-4)).bind _ = _
    have e3 := this.symm.trans e1
    rw [show (0 : Int32) = Int32.ofNat 0 from rfl]
    rw [show (fu (Int32.ofNat 0) (Int32.ofNat 9)) = fu 0 (Int32.ofNat 9) from rfl, e3]
    rfl
def mx (W : Nat → Int32) (s : Int32) (j : Nat) : Int32 := match bst W (9 * j) s with
  | some m => if m = -4 then -4 else W (9 * j + m.toNatClampNeg)
  | none => 0
def lv (N : Nat) (s : Int32) (W : Nat → Int32) : Nat → Int32 := fun j => if j < N then mx W s j else W j
def sd (a2 a5 : Int32) : Int32 := if (if (a5 - a5 / 2 * 2) = 0 then (1 : Int32) else 0) = a2 then 1 else 0
theorem d107_eq {I : WI} {L : WL} {a1 a2 a3 a4 a5 a6 : Int32} : F_X9_duel_107_4 I L a1 a2 a3 a4 a5 a6 = F_X9_duel_134_4 I L a1 a2 a3 a4 a5 a6 (sd a2 a5) (9 * a6) := by
  unfold F_X9_duel_107_4 F_X9_duel_125_4 sd
  by_cases c : (a5 - a5 / 2 * 2) = 0
  · rw [if_pos c, if_pos c]
    by_cases d : (1 : Int32) = a2
    · rw [if_pos d, if_pos d]
    · rw [if_neg d, if_neg d]
  · rw [if_neg c, if_neg c]
    by_cases d : (0 : Int32) = a2
    · rw [if_pos d, if_pos d]
    · rw [if_neg d, if_neg d]
theorem d107_step {I : WI} {L : WL} {W : Nat → Int32} {v a1 a2 a3 a4 a5 : Int32} {i N : Nat} (hN : 9 * N ≤ 6561) (hi : i < N) : ∃ m, F_X9_duel_107_4 (tb I v (lv i (sd a2 a5) W)) L a1 a2 a3 a4 a5 (Int32.ofNat i) = some (tb I m (lv (i + 1) (sd a2 a5) W)) ∧ bst W (9 * i) (sd a2 a5) = some m := by
  obtain ⟨m, h1, h2, h3⟩ := bst_spec (W := W) (a := 9 * i) (s := sd a2 a5) (by omega)
  have h4 := h3 (lv i (sd a2 a5) W) (fun j hj _ => by unfold lv; rw [if_neg (by omega)])
  have h9 : (9 : Int32) * Int32.ofNat i = Int32.ofNat (9 * i) := (Int32.ofNat_mul 9 i).symm
  have hs : ∀ x, (fun j => if j = i then x else lv i (sd a2 a5) W j) = (fun j => if j = i then x else lv (i + 1) (sd a2 a5) W j) := by
    intro x
    funext j
    by_cases c : j = i
    · rw [if_pos c, if_pos c]
    · rw [if_neg c, if_neg c]
      unfold lv
      by_cases d : j < i
      · rw [if_pos d, if_pos (by omega)]
      · rw [if_neg d, if_neg (by omega)]
  have hf : ∀ x, x = mx W (sd a2 a5) i → (fun j => if j = i then x else lv i (sd a2 a5) W j) = lv (i + 1) (sd a2 a5) W := by
    intro x hx
    rw [hs]
    funext j
    by_cases c : j = i
    · rw [if_pos c, c, hx]
      unfold lv
      rw [if_pos (by omega)]
    · rw [if_neg c]
  refine ⟨m, ?_, h1⟩
  rw [d107_eq, h9]
  unfold F_X9_duel_134_4
  rw [bst_of, tb_41, h4]
  show (if m = (-4) then _ else _) = _
  rcases h2 with rfl | ⟨k, hk, rfl⟩
  · rw [if_pos rfl]
    unfold F_X9_duel_176_4
    rw [if_neg (nin (k := i) (by omega) (by decide)), on_clamp (n := i) (by omega), tb_m, tb_w, hf]
    unfold mx
    rw [h1]
    rfl
  · have ck : Int32.ofNat k ≠ -4 := by
      intro h
      have h5 := congrArg Int32.toInt h
      rw [on_toInt (by omega)] at h5
      have : (-4 : Int32).toInt = -4 := by decide
      omega
    rw [if_neg ck, h9, ← Int32.ofNat_add, if_neg (nin (k := 9 * i + k) (by omega) (by decide)), on_clamp (n := 9 * i + k) (by omega)]
    unfold F_X9_duel_176_4
    rw [if_neg (nin (k := i) (by omega) (by decide)), on_clamp (n := i) (by omega), tb_m, tb_w, tb_41, hf]
    unfold mx
    rw [h1]
    show _ = if Int32.ofNat k = -4 then -4 else W (9 * i + Int32.toNatClampNeg (Int32.ofNat k))
    rw [if_neg ck, on_clamp (n := k) (by omega)]
    unfold lv
    rw [if_neg (by omega)]
theorem lv_0 {s : Int32} {W : Nat → Int32} : lv 0 s W = W := by
  funext j
  unfold lv
  rw [if_neg (by omega)]
theorem lvl_loop {I : WI} {L : WL} {W : Nat → Int32} {v a1 a2 a3 a4 a5 : Int32} {N : Nat} (hN : 9 * N ≤ 6561) : ∃ e v', frp0 (fun i x => F_X9_duel_107_4 x L a1 a2 a3 a4 a5 i) (Int32.ofNat N) (fu 0 (Int32.ofNat N)) 0 (tb I v W) = some e ∧ p2 e = tb I v' (lv N (sd a2 a5) W) ∧ (0 < N → bst W (9 * (N - 1)) (sd a2 a5) = some v') := by
  obtain ⟨e, e1, v', e2, e3⟩ := frp0_nat (g := fun i x => F_X9_duel_107_4 x L a1 a2 a3 a4 a5 i) (b := N) (by omega) (fun i x => ∃ v, x = tb I v (lv i (sd a2 a5) W) ∧ (0 < i → bst W (9 * (i - 1)) (sd a2 a5) = some v)) (s := tb I v W) (fun i x hi hx => by
    obtain ⟨v0, rfl, _⟩ := hx
    obtain ⟨m, h1, h2⟩ := d107_step (I := I) (L := L) (W := W) (v := v0) (a1 := a1) (a2 := a2) (a3 := a3) (a4 := a4) (a5 := a5) hN hi
    exact ⟨_, h1, m, rfl, fun _ => h2⟩) ⟨v, by rw [lv_0], fun h => absurd h (by omega)⟩
  exact ⟨e, v', e1, e2, e3⟩
def A5 : Nat → Int32
  | 0 => -1
  | k + 1 => Int32.ofNat k
theorem A5_step : ∀ k, k < 4 → A5 (k + 1) + (-1) = A5 k := by decide
theorem A5_neg : ∀ k, k < 4 → ¬ A5 (k + 1) < 0 := by decide
theorem p9_step : ∀ k, k < 4 → Int32.ofNat (9 ^ (k + 1)) / 9 = Int32.ofNat (9 ^ k) := by decide
theorem p9_le : ∀ k, k < 4 → 9 * 9 ^ k ≤ 6561 := by decide
def TT (a2 : Int32) : Nat → (Nat → Int32) → Nat → Int32
  | 0, W => W
  | k + 1, W => TT a2 k (lv (9 ^ k) (sd a2 (Int32.ofNat k)) W)
def FM (a2 : Int32) : Nat → (Nat → Int32) → Option Int32
  | 0, _ => none
  | 1, W => bst W 0 (sd a2 0)
  | k + 2, W => FM a2 (k + 1) (lv (9 ^ (k + 1)) (sd a2 (Int32.ofNat (k + 1))) W)
theorem lpp_l {R S : Type} {f : S → Option (R ⊕ S)} {n : Nat} {s : S} {r : R} (h : f s = some (.inl r)) : lpp f (n + 1) s = some r := by rw [lpp, h]
theorem lpp_r {R S : Type} {f : S → Option (R ⊕ S)} {n : Nat} {s s' : S} (h : f s = some (.inr s')) : lpp f (n + 1) s = lpp f n s' := by rw [lpp, h]
theorem levels {I : WI} {L : WL} {a1 a2 a3 : Int32} : ∀ k, k ≤ 4 → ∀ fuel, k < fuel → ∀ v W, ∃ v', lpp (fun x => F_X9_duel_85_3 (p2 (p2 x)) L a1 a2 a3 (p1 x) (p1 (p2 x))) fuel (Int32.ofNat (9 ^ k), A5 k, tb I v W) = some (tb I v' (TT a2 k W)) ∧ (0 < k → FM a2 k W = some v') := by
  intro k
  induction k with
  | zero =>
    intro _ fuel hf v W
    obtain ⟨f, rfl⟩ : ∃ f, fuel = f + 1 := ⟨fuel - 1, by omega⟩
    have : F_X9_duel_85_3 (tb I v W) L a1 a2 a3 (Int32.ofNat (9 ^ 0)) (A5 0) = some (.inl (tb I v W)) := by
      unfold F_X9_duel_85_3
      rw [if_pos (by decide)]
    exact ⟨v, lpp_l (f := fun x => F_X9_duel_85_3 (p2 (p2 x)) L a1 a2 a3 (p1 x) (p1 (p2 x))) (s := (Int32.ofNat (9 ^ 0), A5 0, tb I v W)) this, fun h => absurd h (by omega)⟩
  | succ k ih =>
    intro hk fuel hf v W
    obtain ⟨f, rfl⟩ : ∃ f, fuel = f + 1 := ⟨fuel - 1, by omega⟩
    obtain ⟨e, v1, e1, e2, e3⟩ := lvl_loop (I := I) (L := L) (W := W) (v := v) (a1 := a1) (a2 := a2) (a3 := a3) (a4 := Int32.ofNat (9 ^ k)) (a5 := A5 (k + 1)) (N := 9 ^ k) (p9_le k (by omega))
    have : F_X9_duel_85_3 (tb I v W) L a1 a2 a3 (Int32.ofNat (9 ^ (k + 1))) (A5 (k + 1)) = some (.inr (Int32.ofNat (9 ^ k), A5 k, tb I v1 (lv (9 ^ k) (sd a2 (Int32.ofNat k)) W))) := by
      unfold F_X9_duel_85_3
      rw [if_neg (A5_neg k (by omega)), p9_step k (by omega)]
      unfold F_X9_duel_100_3
      rw [e1]
      show F_X9_duel_183_3 (p2 e) L a1 a2 a3 _ _ = _
      rw [e2]
      unfold F_X9_duel_183_3
      rw [A5_step k (by omega)]
      rfl
    rw [lpp_r (f := fun x => F_X9_duel_85_3 (p2 (p2 x)) L a1 a2 a3 (p1 x) (p1 (p2 x))) (s := (Int32.ofNat (9 ^ (k + 1)), A5 (k + 1), tb I v W)) this]
    obtain ⟨v', h1, h2⟩ := ih (by omega) f (by omega) v1 (lv (9 ^ k) (sd a2 (Int32.ofNat k)) W)
    refine ⟨v', h1, fun _ => ?_⟩
    cases k with
    | zero =>
      have h4 := e3 (by decide)
      have h5 : v' = v1 := by
        have h6 : f ≠ 0 := by omega
        obtain ⟨f', rfl⟩ : ∃ f', f = f' + 1 := ⟨f - 1, by omega⟩
        have h7 : F_X9_duel_85_3 (tb I v1 (lv (9 ^ 0) (sd a2 (Int32.ofNat 0)) W)) L a1 a2 a3 (Int32.ofNat (9 ^ 0)) (A5 0) = some (.inl (tb I v1 (lv (9 ^ 0) (sd a2 (Int32.ofNat 0)) W))) := by
          unfold F_X9_duel_85_3
          rw [if_pos (by decide)]
        rw [lpp_l (f := fun x => F_X9_duel_85_3 (p2 (p2 x)) L a1 a2 a3 (p1 x) (p1 (p2 x))) (s := (Int32.ofNat (9 ^ 0), A5 0, tb I v1 (lv (9 ^ 0) (sd a2 (Int32.ofNat 0)) W))) h7] at h1
        have h8 := congrFun (congrFun (Option.some.inj h1) 33) 38
        exact h8.symm
      rw [h5]
      exact h4
    | succ k => exact h2 (by omega)
/-- the leaves of the table -/
theorem fill_loop {I : WI} {L : WL} {v a1 a2 a3 a4 : Int32} {W0 w : Nat → Int32} {N : Nat} (hN : N ≤ 6561) (h : ∀ v W j, j < N → F_X9_worthOf (tb I v W) L (Int32.ofNat j) a1 a2 = some (w j)) : ∃ e, frp0 (fun i x => F_X9_duel_59_2 x L a1 a2 a3 a4 i) (Int32.ofNat N) (fu 0 (Int32.ofNat N)) 0 (tb I v W0) = some e ∧ p2 e = tb I v (fun j => if j < N then w j else W0 j) := by
  obtain ⟨e, e1, e2⟩ := frp0_nat (g := fun i x => F_X9_duel_59_2 x L a1 a2 a3 a4 i) (b := N) (by omega) (fun i x => x = tb I v (fun j => if j < i then w j else W0 j)) (s := tb I v W0) (fun i x hi hx => by
    subst hx
    refine ⟨_, ?_, rfl⟩
    show F_X9_duel_59_2 _ L a1 a2 a3 a4 (Int32.ofNat i) = _
    unfold F_X9_duel_59_2
    rw [h _ _ i hi]
    show (if Int32.ofNat i < 0 ∨ 6561 ≤ Int32.toNatClampNeg (Int32.ofNat i) then none else _) = _
    rw [if_neg (nin (k := i) (by omega) (by decide)), on_clamp (n := i) (by omega), tb_w]
    congr 2
    funext j
    by_cases c : j = i
    · rw [if_pos c, if_pos (by omega), c]
    · rw [if_neg c]
      by_cases d : j < i
      · rw [if_pos d, if_pos (by omega)]
      · rw [if_neg d, if_neg (by omega)]) (by
    show tb I v W0 = tb I v (fun j => if j < 0 then w j else W0 j)
    congr 1)
  exact ⟨e, e1, e2⟩
theorem pow9 : ∀ n, n ≤ 4 → frp0 (fun _ (x : Int32) => some (x * 9)) (Int32.ofNat n) (fu 0 (Int32.ofNat n)) 0 1 = some (Int32.ofNat n, Int32.ofNat (9 ^ n)) := by decide +kernel
theorem A5_sub : ∀ n, n ≤ 4 → 1 ≤ n → Int32.ofNat n - 1 = A5 n := by decide
theorem in14 : ∀ n, n ≤ 4 → 1 ≤ n → F_X9_in (Int32.toInt64 (Int32.ofNat n)) 1 4 = 1 := by decide +kernel
theorem in01 : ∀ n, n ≤ 1 → F_X9_in (Int32.toInt64 (Int32.ofNat n)) 0 1 = 1 := by decide +kernel
theorem p9_6561 : ∀ n, n ≤ 4 → 9 ^ n ≤ 6561 := by decide
/-- the reference's duel, when its leaves are known -/
theorem duel_eq {I : WI} {L : WL} {a2 : Int32} {n q : Nat} {w : Nat → Int32} (h1 : 1 ≤ n) (h4 : n ≤ 4) (hq : q ≤ 1) (h : ∀ v W j, j < 9 ^ n → F_X9_worthOf (tb I v W) L (Int32.ofNat j) (Int32.ofNat n) a2 = some (w j)) :
    ∃ v', F_X9_duel I L (Int32.ofNat n) a2 (Int32.ofNat q) = some (if q = 0 then TT a2 n (fun j => if j < 9 ^ n then w j else I 41 j) 0 else v', tb I v' (TT a2 n (fun j => if j < 9 ^ n then w j else I 41 j))) ∧ FM a2 n (fun j => if j < 9 ^ n then w j else I 41 j) = some v' := by
  unfold F_X9_duel
  rw [in14 n h4 h1, in01 q hq, if_neg (by decide), if_neg (by decide)]
  unfold F_X9_duel_30
  have e0 : frp0 (fun i x => F_X9_duel_36_1 I L (Int32.ofNat n) a2 (Int32.ofNat q) i x) (Int32.ofNat n) (fu 0 (Int32.ofNat n)) 0 1 = some (Int32.ofNat n, Int32.ofNat (9 ^ n)) := pow9 n h4
  rw [e0]
  show ∃ v', F_X9_duel_49 I L (Int32.ofNat n) a2 (Int32.ofNat q) (Int32.ofNat (9 ^ n)) = _ ∧ _
  unfold F_X9_duel_49 F_X9_duel_52
  obtain ⟨e, e1, e2⟩ := fill_loop (I := I) (L := L) (v := I 33 38) (a1 := Int32.ofNat n) (a2 := a2) (a3 := Int32.ofNat q) (a4 := Int32.ofNat (9 ^ n)) (W0 := I 41) (w := w) (N := 9 ^ n) (p9_6561 n h4) h
  rw [tb_self] at e1
  rw [e1]
  show ∃ v', F_X9_duel_80 (p2 e) L (Int32.ofNat n) a2 (Int32.ofNat q) (Int32.ofNat (9 ^ n)) = _ ∧ _
  rw [e2]
  unfold F_X9_duel_80 F_X9_duel_85
  rw [A5_sub n h4 h1]
  obtain ⟨v', g1, g2⟩ := levels (I := I) (L := L) (a1 := Int32.ofNat n) (a2 := a2) (a3 := Int32.ofNat q) n h4 4294967296 (by omega) (I 33 38) (fun j => if j < 9 ^ n then w j else I 41 j)
  rw [g1]
  refine ⟨v', ?_, g2 h1⟩
  show F_X9_duel_189 _ L (Int32.ofNat n) a2 (Int32.ofNat q) = _
  unfold F_X9_duel_189 F_X9_duel_206
  by_cases c : q = 0
  · rw [if_pos (by rw [c]; rfl), if_pos c, tb_41]
    rfl
  · rw [if_neg (by
      have : q = 1 := by omega
      rw [this]
      decide), if_neg c]
    rfl
/-- what it reads of the state -/
def cw (h w : Int32) : WI := fun k j => if k = 33 ∧ j = 0 then h else if k = 33 ∧ j = 1 then w else 0
theorem actSet_cw (I : WI) (a b : Int32) : F_X9_actSet I a b = F_X9_actSet (cw (I 33 0) (I 33 1)) a b := rfl
theorem worthOf_cw (I : WI) (L : WL) (a b c : Int32) : F_X9_worthOf I L a b c = F_X9_worthOf (cw (I 33 0) (I 33 1)) L a b c := rfl
theorem worthOf_tb (I : WI) (L : WL) (v : Int32) (W : Nat → Int32) (a b c : Int32) : F_X9_worthOf (tb I v W) L a b c = F_X9_worthOf I L a b c := by
  rw [worthOf_cw, worthOf_cw I]
  rfl
/-- agreeing tables -/
theorem mx_congr {W W' : Nat → Int32} {s : Int32} {j : Nat} (hj : 9 * j + 8 < 6561) (h : ∀ q, 9 * j ≤ q → q ≤ 9 * j + 8 → W q = W' q) : mx W s j = mx W' s j := by
  obtain ⟨m, h1, h2, h3⟩ := bst_spec (W := W) (a := 9 * j) (s := s) hj
  unfold mx
  rw [h1, h3 W' h]
  show (if m = -4 then -4 else W (9 * j + m.toNatClampNeg)) = (if m = -4 then -4 else W' (9 * j + m.toNatClampNeg))
  rcases h2 with rfl | ⟨k, hk, rfl⟩
  · rw [if_pos rfl, if_pos rfl]
  · rw [on_clamp (n := k) (by omega), h (9 * j + k) (by omega) (by omega)]
