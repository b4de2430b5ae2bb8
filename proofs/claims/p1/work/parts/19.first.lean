theorem frp0_fix {S : Type} {g : Int32 → S → Option S} {B : Int32} {s : S} : ∀ (n : Nat) (c : Int32), (∀ i : Int32, c.toInt ≤ i.toInt → i.toInt < B.toInt → g i s = some s) → ∃ e, frp0 g B n c s = some (e, s) := by
  intro n
  induction n with
  | zero => intro c _; rw [frp0]; exact ⟨c, rfl⟩
  | succ n ih =>
    intro c h
    rw [frp0]
    by_cases hc : B ≤ c
    · rw [if_pos hc]
      exact ⟨c, rfl⟩
    · rw [if_neg hc]
      rw [Int32.le_iff_toInt_le] at hc
      rw [h c (Int.le_refl _) (by omega)]
      refine ih (c + 1) (fun i hi hb => h i ?_ hb)
      have h1 : (c + 1).toInt = c.toInt + 1 := by
        rw [Int32.toInt_add]
        have e1 : (1 : Int32).toInt = 1 := by decide
        have b1 := B.toInt_lt
        have b2 := c.le_toInt
        rw [e1]
        exact Int.bmod_eq_of_le (by omega) (by omega)
      omega
/-- the state behind both constructors -/
def I0 : WI := fun k j => match k, j with
  | 1, 0 => 1
  | 1, 1 => 4
  | 1, 2 => 4
  | 2, 1 => 4
  | 2, 2 => 4
  | 3, 1 => 4
  | 3, 2 => 4
  | 4, 1 => 4
  | 4, 2 => 4
  | 5, 0 => 1
  | 5, 1 => 4
  | 5, 2 => 4
  | 12, 1 => 4
  | 12, 2 => 4
  | 13, 1 => 4
  | 13, 2 => 4
  | 19, 0 => -1
  | 21, 0 => -1
  | 23, 0 => -1
  | 25, 0 => -1
  | 33, 0 => 4
  | 33, 1 => 4
  | 33, 10 => 4
  | 33, 11 => 4
  | 42, 0 => -4
  | 42, 1 => -4
  | 42, 2 => -4
  | 42, 3 => -4
  | _, _ => 0
def Zi (f : WI) : Prop := ∀ k j, 45 ≤ k ∨ 50 ≤ j → f k j = 0
theorem Zi.u {f : WI} {k j : Nat} {x : Int32} (hk : k < 45) (hj : j < 50) (h : Zi f) : Zi (u2 f k j x) := fun a b hb => by
  unfold u2
  rw [if_neg (by omega)]
  exact h a b hb
theorem Zi0 : Zi I0 := by
  intro k j h
  unfold I0
  split <;> first | rfl | (exfalso; omega)
theorem Zi.eq {f g : WI} (hf : Zi f) (hg : Zi g) (h : ∀ k, k < 45 → ∀ j, j < 50 → f k j = g k j) : f = g := by
  funext k j
  by_cases hk : k < 45
  · by_cases hj : j < 50
    · exact h k hk j hj
    · rw [hf k j (.inr (Nat.le_of_not_lt hj)), hg k j (.inr (Nat.le_of_not_lt hj))]
  · rw [hf k j (.inl (Nat.le_of_not_lt hk)), hg k j (.inl (Nat.le_of_not_lt hk))]
def I9d : WI := p1 (F_X9_firstDraft I9 L8)
theorem u2_same {α : Type} {f : Nat → Nat → α} {k j : Nat} {x : α} (h : f k j = x) : u2 f k j x = f := by
  funext a b
  unfold u2
  split
  · next e => rw [e.1, e.2, h]
  · rfl
theorem I0_34 : ∀ q, q < 48 → I0 38 q = 0 ∧ I0 34 q = 0 := by decide +kernel
theorem kd_step (i : Int32) (h0 : 0 ≤ i.toInt) (h1 : i.toInt < 48) : F_X9_keepDraft_56_1 I0 L8 i = some I0 := by
  have hn : ¬ (i < 0 ∨ 48 ≤ Int32.toNatClampNeg i) := by
    intro h
    rcases h with h | h
    · rw [Int32.lt_iff_toInt_lt, show (0 : Int32).toInt = 0 by decide] at h
      omega
    · have : Int32.toNatClampNeg i = i.toInt.toNat := rfl
      omega
  unfold F_X9_keepDraft_56_1
  rw [if_neg hn, if_neg hn]
  have hlt : Int32.toNatClampNeg i < 48 := by omega
  rw [(I0_34 _ hlt).1, u2_same (I0_34 _ hlt).2]
theorem kd_0 : F_X9_keepDraft (p1 (F_X9_firstDraft I9 L8)) (p2 (F_X9_firstDraft I9 L8)) = some (I0, L8) := by
  have hL : p2 (F_X9_firstDraft I9 L8) = L8 := by
    show u2 (u2 L8 33 12 0) 33 15 0 = L8
    funext k j
    unfold u2
    split
    · rfl
    · split
      · rfl
      · rfl
  rw [hL]
  show F_X9_keepDraft I9d L8 = _
  unfold F_X9_keepDraft
  have hX : (u2 (u2 (u2 (u2 I9d 33 0 (I9d 33 10)) 33 1 ((u2 I9d 33 0 (I9d 33 10)) 33 11)) 33 4 (bz ((u2 (u2 I9d 33 0 (I9d 33 10)) 33 1 ((u2 I9d 33 0 (I9d 33 10)) 33 11)) 33 17))) 33 5 ((u2 (u2 (u2 I9d 33 0 (I9d 33 10)) 33 1 ((u2 I9d 33 0 (I9d 33 10)) 33 11)) 33 4 (bz ((u2 (u2 I9d 33 0 (I9d 33 10)) 33 1 ((u2 I9d 33 0 (I9d 33 10)) 33 11)) 33 17))) 33 18)) = I0 := by
    refine Zi.eq ?_ Zi0 (by decide +kernel)
    repeat (refine Zi.u (by decide) (by decide) ?_)
    exact fun _ _ _ => rfl
  rw [hX]
  have hY : (u2 (u2 L8 33 2 (L8 33 12)) 33 3 ((u2 L8 33 2 (L8 33 12)) 33 15)) = L8 := by
    funext k j
    unfold u2
    split
    · rfl
    · split
      · rfl
      · rfl
  rw [hY]
  unfold F_X9_keepDraft_50
  obtain ⟨e, he⟩ := frp0_fix (g := fun i x => F_X9_keepDraft_56_1 x L8 i) (B := 48) (s := I0) (fu 0 48) 0 (fun i h0 h1 => kd_step i (by rw [show (0 : Int32).toInt = 0 by decide] at h0; exact h0) (by rw [show (48 : Int32).toInt = 48 by decide] at h1; exact h1))
  rw [he]
  show some _ = some _
  show some (u2 (u2 I0 36 (Int32.toNatClampNeg 0) 0) 36 (Int32.toNatClampNeg 1) 0, L8) = some (I0, L8)
  rw [u2_same (f := I0) (k := 36) (j := Int32.toNatClampNeg 0) (x := 0) rfl, u2_same (f := I0) (k := 36) (j := Int32.toNatClampNeg 1) (x := 0) rfl]
theorem V_first {n : Nat} {xs : Nat → Int32} (hn : n ≤ 5) (h : ∀ a0 a1 a2 a3 a4, SW (fun _ _ => True) I0 L8 a0 a1 a2 a3 a4) : V (ZL n xs) 0 [(0, .ref 2999)] [] [] (fun _ _ => 0) L8 (fun _ _ => none) 0 0 := by
  refine V_head kd_0 ?_
  refine V_loop (by omega) (fun j I L => j = 0 → I = I0 ∧ L = L8) (fun j I L hJ hj => ?_) 5 0 I0 L8 (by omega) (by omega) (fun _ => ⟨rfl, rfl⟩)
  have hj0 : j = 0 := by omega
  obtain ⟨rfl, rfl⟩ := hJ hj0
  have e : (fun (I : WI) (L : WL) => j + 5 = 0 → I = I0 ∧ L = L8) = fun _ _ => True := by
    funext I L
    exact propext ⟨fun _ => trivial, fun _ h0 => absurd h0 (by omega)⟩
  rw [e]
  exact h _ _ _ _ _
