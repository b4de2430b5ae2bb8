/-! lines of the text, as they are read: the class -/
/-- an image as it is read: told, height, width, squares -/
def ImR (o : Nat) (c : Nat × Nat × Nat × Int64) (I : WI) (L : WL) : Prop := I o 0 = Int32.ofNat (p1 c) ∧ I o 1 = Int32.ofNat (p1 (p2 c)) ∧ I o 2 = Int32.ofNat (p1 (p2 (p2 c))) ∧ L o 3 = p2 (p2 (p2 c))
def DayR (N : Nat) (l : List Nat) (I : WI) : Prop := I 15 N = Int32.ofNat l.length ∧ ∀ j, j < l.length → I 16 (3 * N + j) = Int32.ofNat (l.getD j 0)
def DraftC (c q : Nat × Nat × Nat × Int64) (ds : List (List Nat)) (I : WI) (L : WL) : Prop := ImR 12 c I L ∧ ImR 13 q I L ∧ I 14 0 = Int32.ofNat ds.length ∧ ∀ N, N < ds.length → DayR N (ds.getD N []) I
def ImOk (c : Nat × Nat × Nat × Int64) : Prop := p1 c ≤ 1 ∧ Cl (p1 (p2 c)) (p1 (p2 (p2 c))) ∧ Ins (p1 (p2 c)) (p1 (p2 (p2 c))) (p2 (p2 (p2 c))) ∧ (p1 c = 0 → p2 (p2 (p2 c)) = 0)
def DsOk (ds : List (List Nat)) : Prop := ds.length ≤ 12 ∧ ∀ N, N < ds.length → 1 ≤ (ds.getD N []).length ∧ (ds.getD N []).length ≤ 3 ∧ ∀ j, j < (ds.getD N []).length → (ds.getD N []).getD j 0 < 60
def imgS (B : Nat → Nat) (n g f : Nat) : Nat ⊕ (Nat × Nat × Nat × Nat × Int64) := if g = 0 then Sum.elim .inl (fun r => .inr (p1 r, 1, p2 r)) (rowsS B n 9 0 0 0 (te B n f)) else .inl f
def lineS (B : Nat → Nat) (n : Nat) (c q : Nat × Nat × Nat × Int64) (ds : List (List Nat)) (f : Nat) : Nat ⊕ (Nat × (Nat × Nat × Nat × Int64) × (Nat × Nat × Nat × Int64) × List (List Nat)) := if tk B n f = 1 ∧ nmb B f (te B n f) 0 = true then Sum.elim .inl (fun r => .inr (p1 r, p2 r, q, ds)) (imgS B n (p1 c) f) else if tk B n f = 1 ∧ nmb B f (te B n f) 1 = true then Sum.elim .inl (fun r => .inr (p1 r, c, p2 r, ds)) (imgS B n (p1 q) f) else if tk B n f = 1 ∧ nmb B f (te B n f) 2 = true then (if ds.length < 12 then Sum.elim .inl (fun r => .inr (p1 r, c, q, ds ++ [p2 r])) (actsS B n 4 [] (te B n f)) else .inl f) else .inl f
/-- what may change while the text is read -/
def Fp (I J : WI) : Prop := ∀ k j, (k < 11 ∨ 16 < k) → J k j = I k j
def FpL (L K : WL) : Prop := ∀ k j, ¬ ((k = 12 ∨ k = 13) ∧ j = 3) → K k j = L k j
theorem Fp.rfl {I : WI} : Fp I I := fun _ _ _ => Eq.refl _
theorem FpL.rfl {L : WL} : FpL L L := fun _ _ _ => Eq.refl _
theorem Fp.trans {I J K : WI} (a : Fp I J) (b : Fp J K) : Fp I K := fun k j p => (b k j p).trans (a k j p)
theorem FpL.trans {I J K : WL} (a : FpL I J) (b : FpL J K) : FpL I K := fun k j p => (b k j p).trans (a k j p)
theorem Ft.fp {I J : WI} (h : Ft I J) : Fp I J := fun k j a => h k j (by omega)
theorem Fr.fp {o : Nat} (ho : o = 12 ∨ o = 13) {I J : WI} (h : Fr o I J) : Fp I J := fun k j a => h k j (by omega) (by rcases ho with rfl | rfl <;> omega)
theorem Fdy.fp {N : Nat} {I J : WI} (h : Fdy N I J) (h0 : J 14 0 = J 14 0) : Fp I J := fun k j a => h k j (by omega) (by omega) (by omega)
theorem Fp.u {I J : WI} {k j : Nat} {x : Int32} (a : Fp I J) (h : 11 ≤ k) (h' : k ≤ 16) : Fp I (u2 J k j x) := fun k' j' q => (u2_nc (by omega)).trans (a k' j' q)
theorem FrL.fp {o : Nat} (ho : o = 12 ∨ o = 13) {L K : WL} (h : FrL o L K) : FpL L K := fun k j a => h k j fun q => a ⟨by rw [q.1]; exact ho, q.2⟩
theorem FpL.u {o : Nat} (ho : o = 12 ∨ o = 13) {L K : WL} {x : Int64} (a : FpL L K) : FpL L (u2 K o 3 x) := fun k j q => by
  rw [u2_nc (fun r => q ⟨by rw [r.1]; exact ho, r.2⟩)]
  exact a k j q
theorem Fp.tap {I J : WI} {B : Nat → Nat} {n : Nat} (a : Fp I J) (T : Tap B n I) : Tap B n J := T.ag fun k j h => a k j (by omega)
theorem imgS_ok {B : Nat → Nat} {n g f : Nat} {r : Nat × Nat × Nat × Nat × Int64} (hf : f ≤ n) (h : imgS B n g f = .inr r) : te B n f < p1 r ∧ p1 r ≤ n ∧ ImOk (p2 r) := by
  unfold imgS at h
  have hte := te_le (B := B) hf
  by_cases c : g = 0
  · rw [if_pos c] at h
    cases hr : rowsS B n 9 0 0 0 (te B n f) with
    | inl x => rw [hr] at h; exact absurd h (by simp)
    | inr x =>
      rw [hr] at h
      have e : r = (p1 x, 1, p2 x) := (Sum.inr.inj h).symm
      obtain ⟨a1, a2, a3, a4⟩ := rowsS_ok 9 0 0 0 (te B n f) x hte.2.1 (by decide) (fun q => absurd q (by decide)) (fun _ => rfl) hr
      rw [e]
      exact ⟨a1, a2, Nat.le_refl 1, a3, a4, fun q => absurd (show (1 : Nat) = 0 from q) (by decide)⟩
  · rw [if_neg c] at h
    exact absurd h (by simp)
/-- the class's image -/
def ImgEnd (o : Nat) (I : WI) (L : WL) (x : Nat ⊕ (Nat × Nat × Nat × Nat × Int64)) (v : Int32) (I' : WI) (L' : WL) : Prop := (∀ k j, k ≠ 11 → k ≠ o → I' k j = I k j) ∧ FrL o L L' ∧ match x with
  | .inl g => v = 0 ∧ Fa g I'
  | .inr r => v = 1 ∧ I' 11 3 = 0 ∧ I' 11 8 = Int32.ofNat (p1 r) ∧ ImR o (p2 r) I' L'
theorem takeRows_C {B : Nat → Nat} {n o f : Nat} (ho : o = 12 ∨ o = 13) {I : WI} {L : WL} {c : Nat × Nat × Nat × Int64} (T : Tap B n I) (hf : f ≤ n) (e8 : I 11 8 = Int32.ofNat (te B n f)) (e3 : I 11 3 = 0) (e7 : I 11 7 = Int32.ofNat f) (hc : ImOk c) (R : ImR o c I L) : ∃ v I' L', F_X6_takeRows I L o = some (v, I', L') ∧ ImgEnd o I L (imgS B n (p1 c) f) v I' L' := by
  have hte := te_le (B := B) hf
  unfold F_X6_takeRows imgS
  rw [R.1]
  by_cases g : p1 c = 0
  · rw [if_pos g, g, if_pos (by decide)]
    have hL : L o 3 = 0 := R.2.2.2.trans (hc.2.2.2 g)
    have hfr : ∀ k j, k ≠ o → (u2 (u2 I o 0 1) o 1 0) k j = I k j := fun k j q => by rw [u2_nc (by omega), u2_nc (by omega)]
    obtain ⟨v, I', L', r1, r2, r3, r4⟩ := rows_C (o := o) ho 9 0 0 (u2 (u2 I o 0 1) o 1 0) L (te B n f) 4294967296 (by decide) (by decide) (T.ag fun k j q => hfr k j (by rcases ho with rfl | rfl <;> omega)) hte.2.1 (by rw [hfr 11 8 (by rcases ho with rfl | rfl <;> omega), e8]) (by rw [hfr 11 3 (by rcases ho with rfl | rfl <;> omega), e3]) u2_at (fun q => absurd q (by decide)) (by decide) (by decide)
    rw [hL] at r4
    refine ⟨v, I', L', ?_, fun k j q1 q2 => ?_, r3, ?_⟩
    · unfold F_X6_takeRows_25
      show (lpp (fun x => F_X6_takeRows_25_1 (p1 (p2 x)) (p2 (p2 x)) o (p1 x)) 4294967296 (Int32.ofNat 0, u2 (u2 I o 0 1) o 1 0, L)).bind _ = _
      rw [r1]
      rfl
    · rw [r2 k j q1 (fun q => q2 q.1), hfr k j q2]
    · cases hr : rowsS B n 9 0 0 0 (te B n f) with
      | inl x =>
        rw [hr] at r4
        exact r4
      | inr x =>
        rw [hr] at r4
        obtain ⟨a1, a2, a3, a4, a5, a6⟩ := r4
        refine ⟨a1, a2, a3, ?_, a4, a5, a6⟩
        rw [r2 o 0 (by rcases ho with rfl | rfl <;> decide) (by omega), u2_nc (by omega), u2_at]
        rfl
  · have g1 : p1 c = 1 := by have := hc.1; omega
    rw [if_neg g, g1, if_neg (by decide)]
    obtain ⟨J, j1, j2, j3⟩ := refuse_at (f := f) (c := 4) (.inl ⟨e3, e7⟩) (by decide)
    rw [j1]
    refine ⟨0, J, L, ?_, fun k j q1 _ => j2 k j q1, FrL.rfl, rfl, j3⟩
    show (if bz (0 : Int32) = 0 then some ((0 : Int32), J, L) else none) = _
    rw [if_pos (by decide)]
