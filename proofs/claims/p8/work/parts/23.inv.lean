/-! what holds between class and reference ahead of each call -/
def InvC (I : WI) (L : WL) (h w : Nat) : Prop := Cl h w ∧ I 1 1 = Int32.ofNat h ∧ I 1 2 = Int32.ofNat w ∧ I 33 0 = Int32.ofNat h ∧ I 33 1 = Int32.ofNat w ∧ L 33 2 = L 1 3 ∧ Ins h w (L 1 3) ∧ bz (I 1 0) = 1
def InvP (I : WI) (L : WL) (h w : Nat) : Prop := (∃ h2 w2, Cl h2 w2 ∧ I 2 1 = Int32.ofNat h2 ∧ I 2 2 = Int32.ofNat w2 ∧ (bz (I 2 0) = 1 → h2 = h ∧ w2 = w)) ∧ bz (I 33 4) = bz (I 2 0) ∧ (bz (I 2 0) = 1 → L 33 3 = L 2 3 ∧ Ins h w (L 2 3))
def InvK (I : WI) (L : WL) (k : Nat) : Prop := (bz (I (3 + k) 0) = 0 → (I 36 k).toInt ≤ 0) ∧ (bz (I (3 + k) 0) = 1 → ∃ h w, Cl h w ∧ I (3 + k) 1 = Int32.ofNat h ∧ I (3 + k) 2 = Int32.ofNat w ∧ I 36 k = Int32.ofNat h ∧ I 37 k = Int32.ofNat w ∧ L 35 k = L (3 + k) 3 ∧ Ins h w (L (3 + k) 3))
def InvD (I : WI) : Prop := ∃ n, n ≤ 12 ∧ I 6 0 = Int32.ofNat n ∧ I 33 5 = Int32.ofNat n ∧ ∀ d, d < n → ∃ m, m ≤ 3 ∧ I 7 d = Int32.ofNat m ∧ I 34 (4 * d) = Int32.ofNat m ∧ ∀ i, i < m → ∃ c, c < 60 ∧ I 8 (3 * d + i) = Int32.ofNat c ∧ I 34 (4 * d + 1 + i) = Int32.ofNat c
/-- a byte with its sign -/
def sby (b : Nat) : Int32 := if b < 128 then Int32.ofNat b else Int32.ofInt ((b : Int) - 256)
def InvT (I : WI) : Prop := ∃ n, n ≤ 320 ∧ I 9 0 = Int32.ofNat n ∧ I 33 21 = Int32.ofNat n ∧ ∀ j, j < n → ∃ b, b < 256 ∧ I 39 j = Int32.ofNat b ∧ I 10 j = sby b
def InvS (I : WI) (k : Nat) : Prop := (I (19 + 2 * k) 0 = -1 ∧ I 42 k = -4) ∨ ∃ n l, n ≤ 40 ∧ l ≤ 2 ∧ I (19 + 2 * k) 0 = Int32.ofNat n ∧ I 43 k = Int32.ofNat n ∧ I (19 + 2 * k) 1 = Int32.ofNat l ∧ I 42 k = Int32.ofNat l ∧ ∀ i, i < 40 → I (20 + 2 * k) i = I 44 (40 * k + i)
def Inv (I : WI) (L : WL) : Prop := (∃ h w, InvC I L h w ∧ InvP I L h w) ∧ InvK I L 0 ∧ InvK I L 1 ∧ InvD I ∧ InvT I ∧ (∀ k, k < 4 → InvS I k) ∧ I 0 14 = I 33 46
/-- cells that nothing is kept in between calls -/
def sc (k j : Nat) : Bool := k == 5 || (11 ≤ k && k ≤ 16) || (27 ≤ k && k ≤ 32) || (k == 33 && !(j ≤ 5 || j == 21 || j == 46)) || k == 38 || k == 40 || k == 41 || (k == 0 && !(j == 14))
def Ag {α : Type} (f g : Nat → Nat → α) : Prop := ∀ k j, sc k j = false → g k j = f k j
theorem Ag.rfl {α : Type} {f : Nat → Nat → α} : Ag f f := fun _ _ _ => Eq.refl _
theorem Ag.trans {α : Type} {f g h : Nat → Nat → α} (a : Ag f g) (b : Ag g h) : Ag f h := fun k j q => (b k j q).trans (a k j q)
theorem Ag.u {α : Type} {f g : Nat → Nat → α} {k j : Nat} {x : α} (a : Ag f g) (h : sc k j = true) : Ag f (u2 g k j x) := fun a' b' q => by
  unfold u2
  by_cases c : a' = k ∧ b' = j
  · rw [c.1, c.2, h] at q
    exact absurd q (by decide)
  · rw [if_neg c]
    exact a a' b' q
theorem InvC.ag {I I' : WI} {L L' : WL} {h w : Nat} (hI : Ag I I') (hL : Ag L L') (H : InvC I L h w) : InvC I' L' h w := by
  obtain ⟨a, b, c, d, e, f, g, i⟩ := H
  exact ⟨a, (hI 1 1 rfl).trans b, (hI 1 2 rfl).trans c, (hI 33 0 rfl).trans d, (hI 33 1 rfl).trans e, (hL 33 2 rfl).trans (f.trans (hL 1 3 rfl).symm), (hL 1 3 rfl).symm ▸ g, (hI 1 0 rfl).symm ▸ i⟩
theorem InvP.ag {I I' : WI} {L L' : WL} {h w : Nat} (hI : Ag I I') (hL : Ag L L') (H : InvP I L h w) : InvP I' L' h w := by
  unfold InvP at H ⊢
  rw [hI 2 1 rfl, hI 2 2 rfl, hI 2 0 rfl, hI 33 4 rfl, hL 33 3 rfl, hL 2 3 rfl]
  exact H
theorem InvK.ag {I I' : WI} {L L' : WL} {k : Nat} (hk : k < 2) (hI : Ag I I') (hL : Ag L L') (H : InvK I L k) : InvK I' L' k := by
  unfold InvK at H ⊢
  rw [hI 36 k rfl, hI 37 k rfl, hL 35 k rfl]
  rcases (show k = 0 ∨ k = 1 by omega) with rfl | rfl
  · rw [hI (3 + 0) 0 rfl, hI (3 + 0) 1 rfl, hI (3 + 0) 2 rfl, hL (3 + 0) 3 rfl]
    exact H
  · rw [hI (3 + 1) 0 rfl, hI (3 + 1) 1 rfl, hI (3 + 1) 2 rfl, hL (3 + 1) 3 rfl]
    exact H
theorem InvD.ag {I I' : WI} (hI : Ag I I') (H : InvD I) : InvD I' := by
  obtain ⟨n, h1, h2, h3, h4⟩ := H
  refine ⟨n, h1, (hI 6 0 rfl).trans h2, (hI 33 5 rfl).trans h3, fun d hd => ?_⟩
  obtain ⟨m, g1, g2, g3, g4⟩ := h4 d hd
  refine ⟨m, g1, (hI 7 d rfl).trans g2, (hI 34 _ rfl).trans g3, fun i hi => ?_⟩
  obtain ⟨c, f1, f2, f3⟩ := g4 i hi
  exact ⟨c, f1, (hI 8 _ rfl).trans f2, (hI 34 _ rfl).trans f3⟩
theorem InvT.ag {I I' : WI} (hI : Ag I I') (H : InvT I) : InvT I' := by
  obtain ⟨n, h1, h2, h3, h4⟩ := H
  refine ⟨n, h1, (hI 9 0 rfl).trans h2, (hI 33 21 rfl).trans h3, fun j hj => ?_⟩
  obtain ⟨b, g1, g2, g3⟩ := h4 j hj
  exact ⟨b, g1, (hI 39 j rfl).trans g2, (hI 10 j rfl).trans g3⟩
theorem InvS.ag {I I' : WI} {k : Nat} (hk : k < 4) (hI : Ag I I') (H : InvS I k) : InvS I' k := by
  unfold InvS at H ⊢
  have e : ∀ k, k < 4 → ∀ j, sc (19 + 2 * k) j = false ∧ sc (20 + 2 * k) j = false := by
    intro k hk j
    rcases (show k = 0 ∨ k = 1 ∨ k = 2 ∨ k = 3 by omega) with rfl | rfl | rfl | rfl <;> exact ⟨rfl, rfl⟩
  rw [hI _ 0 (e k hk 0).1, hI _ 1 (e k hk 1).1, hI 42 k rfl, hI 43 k rfl]
  rcases H with H | ⟨n, l, h1, h2, h3, h4, h5, h6, h7⟩
  · exact .inl H
  · exact .inr ⟨n, l, h1, h2, h3, h4, h5, h6, fun i hi => by rw [hI _ i (e k hk i).2, hI 44 _ rfl]; exact h7 i hi⟩
theorem Inv.ag {I I' : WI} {L L' : WL} (hI : Ag I I') (hL : Ag L L') (H : Inv I L) : Inv I' L' := by
  obtain ⟨⟨h, w, h1, h2⟩, h3, h4, h5, h6, h7, h8⟩ := H
  exact ⟨⟨h, w, h1.ag hI hL, h2.ag hI hL⟩, h3.ag (by decide) hI hL, h4.ag (by decide) hI hL, h5.ag hI, h6.ag hI, fun k hk => (h7 k hk).ag hk hI, by rw [hI 0 14 rfl, hI 33 46 rfl]; exact h8⟩
theorem Inv0 : Inv I0 L8 := by
  refine ⟨⟨4, 4, ⟨⟨⟨by decide, by decide⟩, by decide, by decide⟩, rfl, rfl, rfl, rfl, rfl, fun k h => absurd h M_0, by decide⟩, ⟨4, 4, ⟨⟨by decide, by decide⟩, by decide, by decide⟩, rfl, rfl, fun _ => ⟨rfl, rfl⟩⟩, rfl, fun h => absurd h (by decide)⟩, ⟨fun _ => by decide, fun h => absurd h (by decide)⟩, ⟨fun _ => by decide, fun h => absurd h (by decide)⟩, ⟨0, by decide, rfl, rfl, fun d hd => absurd hd (by omega)⟩, ⟨0, by decide, rfl, rfl, fun d hd => absurd hd (by omega)⟩, fun k hk => ?_, rfl⟩
  rcases (show k = 0 ∨ k = 1 ∨ k = 2 ∨ k = 3 by omega) with rfl | rfl | rfl | rfl <;> exact .inl ⟨rfl, rfl⟩
