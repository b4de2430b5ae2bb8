/-! tokens: the class's step, the reference's next -/
def scan (P : Nat → Bool) (n : Nat) : Nat → Nat → Nat
  | 0, p => p
  | m + 1, p => if p < n ∧ P p = true then scan P n m (p + 1) else p
theorem scan_le {P : Nat → Bool} {n : Nat} : ∀ m p, p ≤ scan P n m p ∧ (p ≤ n → scan P n m p ≤ n) := by
  intro m
  induction m with
  | zero => intro p; exact ⟨Nat.le_refl _, id⟩
  | succ m ih =>
    intro p
    unfold scan
    by_cases c : p < n ∧ P p = true
    · rw [if_pos c]
      have := ih (p + 1)
      exact ⟨by omega, fun _ => this.2 (by omega)⟩
    · rw [if_neg c]
      exact ⟨Nat.le_refl _, id⟩
theorem scan_in {P : Nat → Bool} {n : Nat} : ∀ m p j, p ≤ j → j < scan P n m p → P j = true := by
  intro m
  induction m with
  | zero => intro p j h1 h2; exact absurd h2 (by unfold scan; omega)
  | succ m ih =>
    intro p j h1 h2
    unfold scan at h2
    by_cases c : p < n ∧ P p = true
    · rw [if_pos c] at h2
      by_cases d : j = p
      · rw [d]; exact c.2
      · exact ih (p + 1) j (by omega) h2
    · rw [if_neg c] at h2
      omega
theorem scan_end {P : Nat → Bool} {n : Nat} : ∀ m p, n ≤ p + m → ¬ (scan P n m p < n ∧ P (scan P n m p) = true) := by
  intro m
  induction m with
  | zero => intro p h; unfold scan; omega
  | succ m ih =>
    intro p h
    unfold scan
    by_cases c : p < n ∧ P p = true
    · rw [if_pos c]
      exact ih (p + 1) (by omega)
    · rw [if_neg c]
      exact c
/-- a loop that goes on while the byte at its place is of a kind -/
theorem lpp_scan {S : Type} {f : S → Option (S ⊕ S)} {P : Nat → Bool} {n : Nat} (st : Nat → S) : ∀ (m p : Nat), n = p + m → (∀ q, p ≤ q → q ≤ n → f (st q) = some (if q < n ∧ P q = true then .inr (st (q + 1)) else .inl (st q))) → ∀ fuel, m < fuel → lpp f fuel (st p) = some (st (scan P n m p)) := by
  intro m
  induction m with
  | zero =>
    intro p hn h fuel hf
    obtain ⟨f', rfl⟩ : ∃ g, fuel = g + 1 := ⟨fuel - 1, by omega⟩
    refine lpp_l ?_
    rw [h p (Nat.le_refl _) (by omega), if_neg (by omega)]
    rfl
  | succ m ih =>
    intro p hn h fuel hf
    obtain ⟨f', rfl⟩ : ∃ g, fuel = g + 1 := ⟨fuel - 1, by omega⟩
    unfold scan
    have e := h p (Nat.le_refl _) (by omega)
    by_cases c : p < n ∧ P p = true
    · rw [if_pos c] at e
      rw [if_pos c, lpp_r e]
      exact ih (p + 1) (by omega) (fun q h1 h2 => h q (by omega) h2) f' (by omega)
    · rw [if_neg c] at e
      rw [if_neg c]
      exact lpp_l e
/-- the tape: n bytes -/
def Tap (B : Nat → Nat) (n : Nat) (I : WI) : Prop := n ≤ 320 ∧ I 9 0 = Int32.ofNat n ∧ I 33 21 = Int32.ofNat n ∧ ∀ j, j < n → B j < 256 ∧ I 39 j = Int32.ofNat (B j) ∧ I 10 j = sby (B j)
theorem InvT.tap {I : WI} (H : InvT I) : ∃ B n, Tap B n I := by
  obtain ⟨n, h1, h2, h3, h4⟩ := H
  refine ⟨fun j => (I 39 j).toNatClampNeg, n, h1, h2, h3, fun j hj => ?_⟩
  obtain ⟨b, g1, g2, g3⟩ := h4 j hj
  have : (I 39 j).toNatClampNeg = b := by rw [g2, on_clamp (by omega)]
  simp only [this]
  exact ⟨g1, g2, g3⟩
theorem Tap.ag {B : Nat → Nat} {n : Nat} {I J : WI} (h : Tap B n I) (hJ : ∀ k j, k = 9 ∨ k = 10 ∨ k = 39 ∨ (k = 33 ∧ j = 21) → J k j = I k j) : Tap B n J := by
  obtain ⟨h1, h2, h3, h4⟩ := h
  refine ⟨h1, (hJ 9 0 (.inl rfl)).trans h2, (hJ 33 21 (.inr (.inr (.inr ⟨rfl, rfl⟩)))).trans h3, fun j hj => ?_⟩
  obtain ⟨g1, g2, g3⟩ := h4 j hj
  exact ⟨g1, (hJ 39 j (.inr (.inr (.inl rfl)))).trans g2, (hJ 10 j (.inr (.inl rfl))).trans g3⟩
/-- the same, as the reference sees it -/
def TapM (B : Nat → Nat) (n : Nat) (I : WI) : Prop := n ≤ 320 ∧ True ∧ I 33 21 = Int32.ofNat n ∧ ∀ j, j < n → B j < 256 ∧ I 39 j = Int32.ofNat (B j) ∧ True
theorem Tap.m {B : Nat → Nat} {n : Nat} {I : WI} (h : Tap B n I) : TapM B n I := ⟨h.1, trivial, h.2.2.1, fun j hj => ⟨(h.2.2.2 j hj).1, (h.2.2.2 j hj).2.1, trivial⟩⟩
theorem TapM.ag {B : Nat → Nat} {n : Nat} {I J : WI} (h : TapM B n I) (hJ : ∀ k j, k = 39 ∨ (k = 33 ∧ j = 21) → J k j = I k j) : TapM B n J := by
  obtain ⟨h1, h2, h3, h4⟩ := h
  refine ⟨h1, trivial, (hJ 33 21 (.inr ⟨rfl, rfl⟩)).trans h3, fun j hj => ?_⟩
  obtain ⟨g1, g2, g3⟩ := h4 j hj
  exact ⟨g1, (hJ 39 j (.inl rfl)).trans g2, trivial⟩
theorem byteAt_eq {B : Nat → Nat} {n q : Nat} {I : WI} (T : Tap B n I) (hq : q < n) : F_X5_byteAt I (Int32.ofNat q) = sby (B q) := by
  obtain ⟨h1, h2, h3, h4⟩ := T
  unfold F_X5_byteAt F_X5_byteAt_31
  rw [h2, if_neg (by first | omega | (simp (disch := omega) only [Int32.lt_iff_toInt_lt, Int32.le_iff_toInt_le, ← Int32.toInt_inj, on_toInt, on_clamp, ti64, z0, z1, z2, zm1, i0, i1, im1, zz3, zz4, zz5, zz6, zz7, zz8, zz9, zz10, zz11, zz12, zz13, zz14, zz15, zz16, zz17, zz18, zz19, zz20, zz21, zz22, zz23, zz24, zz25, zz26, zz27, zz28, zz29, zz30, zz31, zz32, zz33, zz34, zz35, zz36, zz37, zz38, zz39, zz40, zz41, zz48, zz60, zz64, zz160, zz312, zz320, zzm2, zzm3, zzm4, zzm5, zzm6, zzm7, zzm8, zzm9, zzm10]; done) | (simp (disch := omega) only [Int32.lt_iff_toInt_lt, Int32.le_iff_toInt_le, ← Int32.toInt_inj, on_toInt, on_clamp, ti64, z0, z1, z2, zm1, i0, i1, im1, zz3, zz4, zz5, zz6, zz7, zz8, zz9, zz10, zz11, zz12, zz13, zz14, zz15, zz16, zz17, zz18, zz19, zz20, zz21, zz22, zz23, zz24, zz25, zz26, zz27, zz28, zz29, zz30, zz31, zz32, zz33, zz34, zz35, zz36, zz37, zz38, zz39, zz40, zz41, zz48, zz60, zz64, zz160, zz312, zz320, zzm2, zzm3, zzm4, zzm5, zzm6, zzm7, zzm8, zzm9, zzm10]; omega)), if_neg (by first | omega | (simp (disch := omega) only [Int32.lt_iff_toInt_lt, Int32.le_iff_toInt_le, ← Int32.toInt_inj, on_toInt, on_clamp, ti64, z0, z1, z2, zm1, i0, i1, im1, zz3, zz4, zz5, zz6, zz7, zz8, zz9, zz10, zz11, zz12, zz13, zz14, zz15, zz16, zz17, zz18, zz19, zz20, zz21, zz22, zz23, zz24, zz25, zz26, zz27, zz28, zz29, zz30, zz31, zz32, zz33, zz34, zz35, zz36, zz37, zz38, zz39, zz40, zz41, zz48, zz60, zz64, zz160, zz312, zz320, zzm2, zzm3, zzm4, zzm5, zzm6, zzm7, zzm8, zzm9, zzm10]; done) | (simp (disch := omega) only [Int32.lt_iff_toInt_lt, Int32.le_iff_toInt_le, ← Int32.toInt_inj, on_toInt, on_clamp, ti64, z0, z1, z2, zm1, i0, i1, im1, zz3, zz4, zz5, zz6, zz7, zz8, zz9, zz10, zz11, zz12, zz13, zz14, zz15, zz16, zz17, zz18, zz19, zz20, zz21, zz22, zz23, zz24, zz25, zz26, zz27, zz28, zz29, zz30, zz31, zz32, zz33, zz34, zz35, zz36, zz37, zz38, zz39, zz40, zz41, zz48, zz60, zz64, zz160, zz312, zz320, zzm2, zzm3, zzm4, zzm5, zzm6, zzm7, zzm8, zzm9, zzm10]; omega)), if_neg (by first | omega | (simp (disch := omega) only [Int32.lt_iff_toInt_lt, Int32.le_iff_toInt_le, ← Int32.toInt_inj, on_toInt, on_clamp, ti64, z0, z1, z2, zm1, i0, i1, im1, zz3, zz4, zz5, zz6, zz7, zz8, zz9, zz10, zz11, zz12, zz13, zz14, zz15, zz16, zz17, zz18, zz19, zz20, zz21, zz22, zz23, zz24, zz25, zz26, zz27, zz28, zz29, zz30, zz31, zz32, zz33, zz34, zz35, zz36, zz37, zz38, zz39, zz40, zz41, zz48, zz60, zz64, zz160, zz312, zz320, zzm2, zzm3, zzm4, zzm5, zzm6, zzm7, zzm8, zzm9, zzm10]; done) | (simp (disch := omega) only [Int32.lt_iff_toInt_lt, Int32.le_iff_toInt_le, ← Int32.toInt_inj, on_toInt, on_clamp, ti64, z0, z1, z2, zm1, i0, i1, im1, zz3, zz4, zz5, zz6, zz7, zz8, zz9, zz10, zz11, zz12, zz13, zz14, zz15, zz16, zz17, zz18, zz19, zz20, zz21, zz22, zz23, zz24, zz25, zz26, zz27, zz28, zz29, zz30, zz31, zz32, zz33, zz34, zz35, zz36, zz37, zz38, zz39, zz40, zz41, zz48, zz60, zz64, zz160, zz312, zz320, zzm2, zzm3, zzm4, zzm5, zzm6, zzm7, zzm8, zzm9, zzm10]; omega)), on_clamp (by omega), (h4 q hq).2.2]
theorem look_eq {B : Nat → Nat} {n q : Nat} {I : WI} (T : TapM B n I) (hq : q < 100000) : F_X9_look I (Int32.ofNat q) = some (if q < n then Int32.ofNat (B q) else -1) := by
  obtain ⟨h1, h2, h3, h4⟩ := T
  unfold F_X9_look F_X9_look_18
  rw [h3]
  by_cases c : q < n
  · rw [if_neg (by first | omega | (simp (disch := omega) only [Int32.lt_iff_toInt_lt, Int32.le_iff_toInt_le, ← Int32.toInt_inj, on_toInt, on_clamp, ti64, z0, z1, z2, zm1, i0, i1, im1, zz3, zz4, zz5, zz6, zz7, zz8, zz9, zz10, zz11, zz12, zz13, zz14, zz15, zz16, zz17, zz18, zz19, zz20, zz21, zz22, zz23, zz24, zz25, zz26, zz27, zz28, zz29, zz30, zz31, zz32, zz33, zz34, zz35, zz36, zz37, zz38, zz39, zz40, zz41, zz48, zz60, zz64, zz160, zz312, zz320, zzm2, zzm3, zzm4, zzm5, zzm6, zzm7, zzm8, zzm9, zzm10]; done) | (simp (disch := omega) only [Int32.lt_iff_toInt_lt, Int32.le_iff_toInt_le, ← Int32.toInt_inj, on_toInt, on_clamp, ti64, z0, z1, z2, zm1, i0, i1, im1, zz3, zz4, zz5, zz6, zz7, zz8, zz9, zz10, zz11, zz12, zz13, zz14, zz15, zz16, zz17, zz18, zz19, zz20, zz21, zz22, zz23, zz24, zz25, zz26, zz27, zz28, zz29, zz30, zz31, zz32, zz33, zz34, zz35, zz36, zz37, zz38, zz39, zz40, zz41, zz48, zz60, zz64, zz160, zz312, zz320, zzm2, zzm3, zzm4, zzm5, zzm6, zzm7, zzm8, zzm9, zzm10]; omega)), if_neg (nin (k := q) (N := 320) (by omega) (by decide)), on_clamp (by omega), (h4 q c).2.1, if_pos c]
  · rw [if_pos (by first | omega | (simp (disch := omega) only [Int32.lt_iff_toInt_lt, Int32.le_iff_toInt_le, ← Int32.toInt_inj, on_toInt, on_clamp, ti64, z0, z1, z2, zm1, i0, i1, im1, zz3, zz4, zz5, zz6, zz7, zz8, zz9, zz10, zz11, zz12, zz13, zz14, zz15, zz16, zz17, zz18, zz19, zz20, zz21, zz22, zz23, zz24, zz25, zz26, zz27, zz28, zz29, zz30, zz31, zz32, zz33, zz34, zz35, zz36, zz37, zz38, zz39, zz40, zz41, zz48, zz60, zz64, zz160, zz312, zz320, zzm2, zzm3, zzm4, zzm5, zzm6, zzm7, zzm8, zzm9, zzm10]; done) | (simp (disch := omega) only [Int32.lt_iff_toInt_lt, Int32.le_iff_toInt_le, ← Int32.toInt_inj, on_toInt, on_clamp, ti64, z0, z1, z2, zm1, i0, i1, im1, zz3, zz4, zz5, zz6, zz7, zz8, zz9, zz10, zz11, zz12, zz13, zz14, zz15, zz16, zz17, zz18, zz19, zz20, zz21, zz22, zz23, zz24, zz25, zz26, zz27, zz28, zz29, zz30, zz31, zz32, zz33, zz34, zz35, zz36, zz37, zz38, zz39, zz40, zz41, zz48, zz60, zz64, zz160, zz312, zz320, zzm2, zzm3, zzm4, zzm5, zzm6, zzm7, zzm8, zzm9, zzm10]; omega)), if_neg c]
def isSp (b : Nat) : Bool := b == 32
def isLt (b : Nat) : Bool := 97 ≤ b && b ≤ 122
def isFg (b : Nat) : Bool := 48 ≤ b && b ≤ 57
theorem sb_t : ∀ b, b < 256 → (sby b = 32 ↔ isSp b = true) ∧ (sby b = 59 ↔ b = 59) ∧ F_X6_isLetter (sby b) = (if isLt b = true then 1 else 0) ∧ F_X6_isFigure (sby b) = (if isFg b = true then 1 else 0) ∧ (isFg b = true → sby b = Int32.ofNat b) ∧ (sby b = 100 ↔ b = 100) ∧ (sby b = 108 ↔ b = 108) := by decide +kernel
theorem ub_t : ∀ b, b < 256 → (Int32.ofNat b = 32 ↔ isSp b = true) ∧ (Int32.ofNat b = 59 ↔ b = 59) ∧ F_X9_in (Int32.toInt64 (Int32.ofNat b)) 97 122 = (if isLt b = true then 1 else 0) ∧ F_X9_in (Int32.toInt64 (Int32.ofNat b)) 48 57 = (if isFg b = true then 1 else 0) ∧ (Int32.ofNat b = 100 ↔ b = 100) ∧ (Int32.ofNat b = 108 ↔ b = 108) := by decide +kernel
theorem um_t : ¬ (-1 : Int32) = 32 ∧ F_X9_in (Int32.toInt64 (-1)) 97 122 = 0 ∧ F_X9_in (Int32.toInt64 (-1)) 48 57 = 0 ∧ ¬ (0 : Int32) ≤ -1 := by decide +kernel
/-- where the next token begins, of which kind it is, where it ends, a number's worth -/
def tf (B : Nat → Nat) (n p : Nat) : Nat := scan (fun j => isSp (B j)) n (n - p) p
def tle (B : Nat → Nat) (n q : Nat) : Nat := scan (fun j => isLt (B j)) n (n - q) q
def tfe (B : Nat → Nat) (n q : Nat) : Nat := scan (fun j => isFg (B j)) n (n - q) q
def tk (B : Nat → Nat) (n q : Nat) : Nat := if n ≤ q then 0 else if B q = 59 then 3 else if isLt (B q) = true then 1 else if isFg (B q) = true ∧ tfe B n q - q ≤ 2 then 2 else 4
def te (B : Nat → Nat) (n q : Nat) : Nat := if n ≤ q then q else if B q = 59 then q + 1 else if isLt (B q) = true then tle B n q else tfe B n q
def tv (B : Nat → Nat) (n q : Nat) : Nat := if tfe B n q - q ≤ 1 then B q - 48 else 10 * (B q - 48) + (B (q + 1) - 48)
/-! the class's step -/
theorem lpp_scanP {S : Type} {f : S → Option (S ⊕ S)} {P : Nat → Bool} {n : Nat} (R : Nat → S → Prop) : ∀ (m p : Nat) (s : S), n = p + m → R p s → (∀ q s, p ≤ q → q ≤ n → R q s → if q < n ∧ P q = true then ∃ s', f s = some (.inr s') ∧ R (q + 1) s' else f s = some (.inl s)) → ∀ fuel, m < fuel → ∃ r, lpp f fuel s = some r ∧ R (scan P n m p) r := by
  intro m
  induction m with
  | zero =>
    intro p s hn hR h fuel hf
    obtain ⟨f', rfl⟩ : ∃ g, fuel = g + 1 := ⟨fuel - 1, by omega⟩
    have e := h p s (Nat.le_refl _) (by omega) hR
    rw [if_neg (by omega)] at e
    exact ⟨s, lpp_l e, hR⟩
  | succ m ih =>
    intro p s hn hR h fuel hf
    obtain ⟨f', rfl⟩ : ∃ g, fuel = g + 1 := ⟨fuel - 1, by omega⟩
    have e := h p s (Nat.le_refl _) (by omega) hR
    unfold scan
    by_cases c : p < n ∧ P p = true
    · rw [if_pos c] at e
      obtain ⟨s', e1, e2⟩ := e
      rw [if_pos c, lpp_r e1]
      exact ih (p + 1) s' (by omega) e2 (fun q t h1 h2 => h q t (by omega) h2) f' (by omega)
    · rw [if_neg c] at e
      rw [if_neg c]
      exact ⟨s, lpp_l e, hR⟩
/-- the class's cells agree but for the teller's own -/
def Ft (I J : WI) : Prop := ∀ k j, k ≠ 11 → J k j = I k j
theorem Ft.rfl {I : WI} : Ft I I := fun _ _ _ => Eq.refl _
theorem Ft.trans {I J K : WI} (a : Ft I J) (b : Ft J K) : Ft I K := fun k j h => (b k j h).trans (a k j h)
theorem Ft.u {I J : WI} {j : Nat} {x : Int32} (a : Ft I J) : Ft I (u2 J 11 j x) := fun k j' h => (u2_nc (by omega)).trans (a k j' h)
theorem Ft.tap {I J : WI} {B : Nat → Nat} {n : Nat} (a : Ft I J) (T : Tap B n I) : Tap B n J := T.ag fun k j h => a k j (by omega)
def nvs (B : Nat → Nat) (f : Nat) : Nat → Int32
  | 0 => 0
  | k + 1 => 10 * nvs B f k + sby (B (f + k)) - 48
theorem two_t : ∀ a, a < 58 → 48 ≤ a → 10 * (0 : Int32) + sby a - 48 = Int32.ofNat (a - 48) ∧ 10 * (0 : Int32) + Int32.ofNat a - 48 = Int32.ofNat (a - 48) ∧ ∀ b, b < 58 → 48 ≤ b → 10 * Int32.ofNat (a - 48) + sby b - 48 = Int32.ofNat (10 * (a - 48) + (b - 48)) ∧ 10 * Int32.ofNat (a - 48) + Int32.ofNat b - 48 = Int32.ofNat (10 * (a - 48) + (b - 48)) := by decide +kernel
theorem fg_b {b : Nat} (h : isFg b = true) : 48 ≤ b ∧ b < 58 := by
  unfold isFg at h
  rw [Bool.and_eq_true, decide_eq_true_eq, decide_eq_true_eq] at h
  omega
theorem tv_b {B : Nat → Nat} {n q : Nat} (hq : q < n) (h : isFg (B q) = true) (h2 : tfe B n q - q ≤ 2) : q + 1 ≤ tfe B n q ∧ tv B n q ≤ 99 ∧ nvs B q (tfe B n q - q) = Int32.ofNat (tv B n q) := by
  have h1 : q + 1 ≤ tfe B n q := by
    have hle := scan_le (P := fun j => isFg (B j)) (n := n) (n - q) q
    refine Classical.byContradiction fun c => ?_
    have hx : tfe B n q = q := by unfold tfe at c ⊢; omega
    have := scan_end (P := fun j => isFg (B j)) (n := n) (n - q) q (by omega)
    unfold tfe at hx
    rw [hx] at this
    exact this ⟨hq, h⟩
  have a1 := fg_b h
  have t1 := two_t (B q) a1.2 a1.1
  refine ⟨h1, ?_⟩
  unfold tv
  by_cases c : tfe B n q - q ≤ 1
  · rw [if_pos c]
    rw [show tfe B n q - q = 1 by omega]
    exact ⟨by omega, t1.1⟩
  · rw [if_neg c]
    have hb : isFg (B (q + 1)) = true := scan_in (P := fun j => isFg (B j)) (n := n) (n - q) q (q + 1) (by omega) (by unfold tfe at c; omega)
    have a2 := fg_b hb
    rw [show tfe B n q - q = 2 by omega]
    refine ⟨by omega, ?_⟩
    show 10 * (10 * (0 : Int32) + sby (B (q + 0)) - 48) + sby (B (q + 1)) - 48 = _
    rw [Nat.add_zero, t1.1]
    exact (t1.2.2 (B (q + 1)) a2.2 a2.1).1
/-- what a step of the class does -/
def StepC (B : Nat → Nat) (n p : Nat) (I I' : WI) : Prop := Ft I I' ∧ I' 11 7 = Int32.ofNat (tf B n p) ∧ (tk B n (tf B n p) ≠ 4 → I' 11 6 = Int32.ofNat (tk B n (tf B n p)) ∧ I' 11 8 = Int32.ofNat (te B n (tf B n p)) ∧ I' 11 3 = 0 ∧ (tk B n (tf B n p) = 2 → I' 11 9 = Int32.ofNat (tv B n (tf B n p)))) ∧ (tk B n (tf B n p) = 4 → I' 11 6 = 4 ∧ I' 11 3 = 1 ∧ I' 11 5 = Int32.ofNat (tf B n p))
theorem refuse_0 {I : WI} {c : Int32} (h : I 11 3 = 0) : F_X6_refuse I c = (0, u2 (u2 I 11 3 c) 11 5 (I 11 7)) := by
  unfold F_X6_refuse F_X6_refuse_20
  rw [if_pos h]
  rfl
theorem refuse_1 {I : WI} {c : Int32} (h : ¬ I 11 3 = 0) : F_X6_refuse I c = (0, I) := by
  unfold F_X6_refuse F_X6_refuse_20
  rw [if_neg h]
theorem step_C {B : Nat → Nat} {n p : Nat} {I : WI} (T : Tap B n I) (hp : p ≤ n) (e8 : I 11 8 = Int32.ofNat p) (e3 : I 11 3 = 0) : ∃ I', F_X6_step I = some I' ∧ StepC B n p I I' := by
  have hn : n ≤ 320 := T.1
  -- blanks
  obtain ⟨r, r1, r2, r3, r4⟩ := lpp_scanP (f := fun x => F_X6_step_0_1 x) (P := fun j => isSp (B j)) (n := n) (fun q (s : WI) => Ft I s ∧ s 11 8 = Int32.ofNat q ∧ s 11 3 = 0) (n - p) p I (by omega) ⟨Ft.rfl, e8, e3⟩ (fun q s h1 h2 hs => by
    obtain ⟨s1, s2, s3⟩ := hs
    have Ts := s1.tap T
    show if q < n ∧ isSp (B q) = true then ∃ s', F_X6_step_0_1 s = some (.inr s') ∧ _ else F_X6_step_0_1 s = some (.inl s)
    unfold F_X6_step_0_1
    rw [Ts.2.1, s2]
    by_cases c : q < n
    · have hb := (sb_t (B q) (Ts.2.2.2 q c).1).1
      rw [if_neg fun g => absurd ((ge_on (by omega) (by omega)).mp g) (by omega), byteAt_eq Ts c]
      by_cases d : isSp (B q) = true
      · rw [if_pos ⟨c, d⟩, if_pos (hb.mpr d), la1]
        refine ⟨_, rfl, s1.u, u2_at, ?_⟩
        rw [u2_nc (by omega), s3]
      · rw [if_neg fun g => d g.2, if_neg fun g => d (hb.mp g)]
    · rw [if_neg fun g => c g.1, if_pos ((ge_on (by omega) (by omega)).mpr (by omega))]) 4294967296 (by omega)
  have hq : tf B n p = scan (fun j => isSp (B j)) n (n - p) p := rfl
  rw [← hq] at r3
  have hqn : tf B n p ≤ n := (scan_le (n - p) p).2 hp
  generalize hf : tf B n p = f at r3 hqn
  -- the state ahead of the token
  have q1 : Ft I (u2 r 11 7 (Int32.ofNat f)) := r2.u
  have Tr := q1.tap T
  suffices hs : ∃ I', F_X6_step_43 r = some I' ∧ StepC B n p I I' by
    obtain ⟨I', g1, g2⟩ := hs
    refine ⟨I', ?_, g2⟩
    unfold F_X6_step
    rw [r1]
    exact g1
  unfold StepC
  rw [hf]
  unfold F_X6_step_43
  rw [r3]
  generalize hS : u2 r 11 7 (Int32.ofNat f) = s at q1 Tr ⊢
  have s7 : s 11 7 = Int32.ofNat f := by rw [← hS, u2_at]
  have s8 : s 11 8 = Int32.ofNat f := by rw [← hS, u2_nc (by omega), r3]
  have s3 : s 11 3 = 0 := by rw [← hS, u2_nc (by omega), r4]
  rw [s7, Tr.2.1]
  by_cases c : f < n
  · rw [if_pos ((lt_onn (by omega) (by omega)).mpr c), byteAt_eq Tr c]
    obtain ⟨b1, b2, b3, b4, b5, -⟩ := sb_t (B f) (Tr.2.2.2 f c).1
    by_cases d1 : B f = 59
    · rw [if_pos (b2.mpr d1)]
      have hk : tk B n f = 3 := by unfold tk; rw [if_neg (by omega), if_pos d1]
      have he : te B n f = f + 1 := by unfold te; rw [if_neg (by omega), if_pos d1]
      rw [hk, he]
      refine ⟨_, rfl, q1.u.u, ?_, fun _ => ⟨?_, ?_, ?_, fun g => absurd g (by decide)⟩, fun g => absurd g (by decide)⟩
      · rw [u2_nc (by omega), u2_nc (by omega), s7]
      · rw [u2_nc (by omega), u2_at]
        rfl
      · rw [u2_at, u2_nc (by omega), s8, la1]
      · rw [u2_nc (by omega), u2_nc (by omega), s3]
    rw [if_neg fun g => d1 (b2.mp g), b3]
    by_cases d2 : isLt (B f) = true
    · have hk : tk B n f = 1 := by unfold tk; rw [if_neg (by omega), if_neg d1, if_pos d2]
      have he : te B n f = tle B n f := by unfold te; rw [if_neg (by omega), if_neg d1, if_pos d2]
      rw [if_pos d2, if_neg (show ¬ (1 : Int32) = 0 by decide), hk, he]
      obtain ⟨t, t1, t2, t3, t4, t5, t6⟩ := lpp_scanP (f := fun x => F_X6_step_129_2 x) (P := fun j => isLt (B j)) (n := n) (fun q (x : WI) => Ft I x ∧ x 11 8 = Int32.ofNat q ∧ x 11 3 = 0 ∧ x 11 7 = Int32.ofNat f ∧ x 11 6 = 1) (n - f) f (u2 s 11 6 1) (by omega) ⟨q1.u, by rw [u2_nc (by omega), s8], by rw [u2_nc (by omega), s3], by rw [u2_nc (by omega), s7], u2_at⟩ (fun q x h1 h2 hx => by
        obtain ⟨x1, x2, x3, x4, x5⟩ := hx
        have Tx := x1.tap T
        show if q < n ∧ isLt (B q) = true then ∃ s', F_X6_step_129_2 x = some (.inr s') ∧ _ else F_X6_step_129_2 x = some (.inl x)
        unfold F_X6_step_129_2
        rw [Tx.2.1, x2]
        by_cases c' : q < n
        · have hb := (sb_t (B q) (Tx.2.2.2 q c').1).2.2.1
          rw [if_neg fun g => absurd ((ge_on (by omega) (by omega)).mp g) (by omega), byteAt_eq Tx c', hb]
          by_cases d : isLt (B q) = true
          · rw [if_pos ⟨c', d⟩, if_pos d, if_neg (show ¬ (1 : Int32) = 0 by decide), la1]
            exact ⟨_, rfl, x1.u, u2_at, by rw [u2_nc (by omega), x3], by rw [u2_nc (by omega), x4], by rw [u2_nc (by omega), x5]⟩
          · rw [if_neg fun g => d g.2, if_neg d, if_pos rfl]
        · rw [if_neg fun g => c' g.1, if_pos ((ge_on (by omega) (by omega)).mpr (by omega))]) 4294967296 (by omega)
      refine ⟨t, ?_, t2, t5, fun _ => ⟨t6, t3, t4, fun g => absurd g (by decide)⟩, fun g => absurd g (by decide)⟩
      unfold F_X6_step_129
      rw [t1]
      rfl
    rw [if_neg d2, if_pos rfl, b4]
    by_cases d3 : isFg (B f) = true
    · rw [if_pos d3, if_neg (show ¬ (1 : Int32) = 0 by decide)]
      have he : te B n f = tfe B n f := by unfold te; rw [if_neg (by omega), if_neg d1, if_neg d2]
      obtain ⟨t, t1, t2, t3, t4, t5, t6, t7⟩ := lpp_scanP (f := fun x => F_X6_stepNumber_10_1 x) (P := fun j => isFg (B j)) (n := n) (fun q (x : WI) => Ft I x ∧ x 11 8 = Int32.ofNat q ∧ x 11 3 = 0 ∧ x 11 7 = Int32.ofNat f ∧ x 11 6 = 2 ∧ x 11 9 = nvs B f (q - f)) (n - f) f (u2 (u2 s 11 6 2) 11 9 0) (by omega) ⟨q1.u.u, by rw [u2_nc (by omega), u2_nc (by omega), s8], by rw [u2_nc (by omega), u2_nc (by omega), s3], by rw [u2_nc (by omega), u2_nc (by omega), s7], by rw [u2_nc (by omega), u2_at], by rw [u2_at, Nat.sub_self]; rfl⟩ (fun q x h1 h2 hx => by
        obtain ⟨x1, x2, x3, x4, x5, x6⟩ := hx
        have Tx := x1.tap T
        show if q < n ∧ isFg (B q) = true then ∃ s', F_X6_stepNumber_10_1 x = some (.inr s') ∧ _ else F_X6_stepNumber_10_1 x = some (.inl x)
        unfold F_X6_stepNumber_10_1
        rw [Tx.2.1, x2]
        by_cases c' : q < n
        · have hb := (sb_t (B q) (Tx.2.2.2 q c').1).2.2.2.1
          rw [if_neg fun g => absurd ((ge_on (by omega) (by omega)).mp g) (by omega), byteAt_eq Tx c', hb]
          by_cases d : isFg (B q) = true
          · rw [if_pos ⟨c', d⟩, if_pos d, if_neg (show ¬ (1 : Int32) = 0 by decide)]
            refine ⟨_, rfl, x1.u.u, ?_, ?_, ?_, ?_, ?_⟩
            · rw [u2_at, u2_nc (by omega), x2, la1]
            · rw [u2_nc (by omega), u2_nc (by omega), x3]
            · rw [u2_nc (by omega), u2_nc (by omega), x4]
            · rw [u2_nc (by omega), u2_nc (by omega), x5]
            · rw [u2_nc (by omega), u2_at, x6, show q + 1 - f = (q - f) + 1 by omega]
              show _ = 10 * nvs B f (q - f) + sby (B (f + (q - f))) - 48
              rw [show f + (q - f) = q by omega]
          · rw [if_neg fun g => d g.2, if_neg d, if_pos rfl]
        · rw [if_neg fun g => c' g.1, if_pos ((ge_on (by omega) (by omega)).mpr (by omega))]) 4294967296 (by omega)
      have hlen : f ≤ tfe B n f ∧ tfe B n f ≤ n := ⟨(scan_le (n - f) f).1, (scan_le (n - f) f).2 (by omega)⟩
      have t3 : t 11 8 = Int32.ofNat (tfe B n f) := t3
      have t7 : t 11 9 = nvs B f (tfe B n f - f) := t7
      suffices hs : ∃ I', F_X6_stepNumber_80 t = some I' ∧ (Ft I I' ∧ I' 11 7 = Int32.ofNat f ∧ (tk B n f ≠ 4 → I' 11 6 = Int32.ofNat (tk B n f) ∧ I' 11 8 = Int32.ofNat (te B n f) ∧ I' 11 3 = 0 ∧ (tk B n f = 2 → I' 11 9 = Int32.ofNat (tv B n f))) ∧ (tk B n f = 4 → I' 11 6 = 4 ∧ I' 11 3 = 1 ∧ I' 11 5 = Int32.ofNat f)) by
        obtain ⟨I', g1, g2⟩ := hs
        refine ⟨I', ?_, g2⟩
        unfold F_X6_stepNumber F_X6_stepNumber_10
        rw [t1, ob_some, g1]
        rfl
      unfold F_X6_stepNumber_80
      rw [t3, t5, on_sub hlen.1]
      by_cases d4 : tfe B n f - f ≤ 2
      · have hk : tk B n f = 2 := by unfold tk; rw [if_neg (by omega), if_neg d1, if_neg d2, if_pos ⟨d3, d4⟩]
        rw [if_pos (by first | omega | (simp (disch := omega) only [Int32.lt_iff_toInt_lt, Int32.le_iff_toInt_le, ← Int32.toInt_inj, on_toInt, on_clamp, ti64, z0, z1, z2, zm1, i0, i1, im1, zz3, zz4, zz5, zz6, zz7, zz8, zz9, zz10, zz11, zz12, zz13, zz14, zz15, zz16, zz17, zz18, zz19, zz20, zz21, zz22, zz23, zz24, zz25, zz26, zz27, zz28, zz29, zz30, zz31, zz32, zz33, zz34, zz35, zz36, zz37, zz38, zz39, zz40, zz41, zz48, zz60, zz64, zz160, zz312, zz320, zzm2, zzm3, zzm4, zzm5, zzm6, zzm7, zzm8, zzm9, zzm10]; done) | (simp (disch := omega) only [Int32.lt_iff_toInt_lt, Int32.le_iff_toInt_le, ← Int32.toInt_inj, on_toInt, on_clamp, ti64, z0, z1, z2, zm1, i0, i1, im1, zz3, zz4, zz5, zz6, zz7, zz8, zz9, zz10, zz11, zz12, zz13, zz14, zz15, zz16, zz17, zz18, zz19, zz20, zz21, zz22, zz23, zz24, zz25, zz26, zz27, zz28, zz29, zz30, zz31, zz32, zz33, zz34, zz35, zz36, zz37, zz38, zz39, zz40, zz41, zz48, zz60, zz64, zz160, zz312, zz320, zzm2, zzm3, zzm4, zzm5, zzm6, zzm7, zzm8, zzm9, zzm10]; omega)), hk, he]
        exact ⟨t, rfl, t2, t5, fun _ => ⟨t6, t3, t4, fun _ => by rw [t7]; exact (tv_b c d3 d4).2.2⟩, fun g => absurd g (by decide)⟩
      · have hk : tk B n f = 4 := by unfold tk; rw [if_neg (by omega), if_neg d1, if_neg d2, if_neg fun g => d4 g.2]
        rw [if_neg (by first | omega | (simp (disch := omega) only [Int32.lt_iff_toInt_lt, Int32.le_iff_toInt_le, ← Int32.toInt_inj, on_toInt, on_clamp, ti64, z0, z1, z2, zm1, i0, i1, im1, zz3, zz4, zz5, zz6, zz7, zz8, zz9, zz10, zz11, zz12, zz13, zz14, zz15, zz16, zz17, zz18, zz19, zz20, zz21, zz22, zz23, zz24, zz25, zz26, zz27, zz28, zz29, zz30, zz31, zz32, zz33, zz34, zz35, zz36, zz37, zz38, zz39, zz40, zz41, zz48, zz60, zz64, zz160, zz312, zz320, zzm2, zzm3, zzm4, zzm5, zzm6, zzm7, zzm8, zzm9, zzm10]; done) | (simp (disch := omega) only [Int32.lt_iff_toInt_lt, Int32.le_iff_toInt_le, ← Int32.toInt_inj, on_toInt, on_clamp, ti64, z0, z1, z2, zm1, i0, i1, im1, zz3, zz4, zz5, zz6, zz7, zz8, zz9, zz10, zz11, zz12, zz13, zz14, zz15, zz16, zz17, zz18, zz19, zz20, zz21, zz22, zz23, zz24, zz25, zz26, zz27, zz28, zz29, zz30, zz31, zz32, zz33, zz34, zz35, zz36, zz37, zz38, zz39, zz40, zz41, zz48, zz60, zz64, zz160, zz312, zz320, zzm2, zzm3, zzm4, zzm5, zzm6, zzm7, zzm8, zzm9, zzm10]; omega)), hk, refuse_0 (by rw [u2_nc (by omega), t4])]
        refine ⟨_, rfl, t2.u.u.u, ?_, fun g => absurd rfl g, fun _ => ⟨?_, ?_, ?_⟩⟩
        · show u2 (u2 (u2 t 11 6 4) 11 3 1) 11 5 ((u2 t 11 6 4) 11 7) 11 7 = _
          rw [u2_nc (by omega), u2_nc (by omega), u2_nc (by omega), t5]
        · show u2 (u2 (u2 t 11 6 4) 11 3 1) 11 5 ((u2 t 11 6 4) 11 7) 11 6 = _
          rw [u2_nc (by omega), u2_nc (by omega), u2_at]
        · show u2 (u2 (u2 t 11 6 4) 11 3 1) 11 5 ((u2 t 11 6 4) 11 7) 11 3 = _
          rw [u2_nc (by omega), u2_at]
        · show u2 (u2 (u2 t 11 6 4) 11 3 1) 11 5 ((u2 t 11 6 4) 11 7) 11 5 = _
          rw [u2_at, u2_nc (by omega), t5]
    · rw [if_neg d3, if_pos rfl, refuse_0 (by rw [u2_nc (by omega), s3])]
      have hk : tk B n f = 4 := by unfold tk; rw [if_neg (by omega), if_neg d1, if_neg d2, if_neg fun g => d3 g.1]
      rw [hk]
      refine ⟨_, rfl, q1.u.u.u, ?_, fun g => absurd rfl g, fun _ => ⟨?_, ?_, ?_⟩⟩
      · show u2 (u2 (u2 s 11 6 4) 11 3 1) 11 5 ((u2 s 11 6 4) 11 7) 11 7 = _
        rw [u2_nc (by omega), u2_nc (by omega), u2_nc (by omega), s7]
      · show u2 (u2 (u2 s 11 6 4) 11 3 1) 11 5 ((u2 s 11 6 4) 11 7) 11 6 = _
        rw [u2_nc (by omega), u2_nc (by omega), u2_at]
      · show u2 (u2 (u2 s 11 6 4) 11 3 1) 11 5 ((u2 s 11 6 4) 11 7) 11 3 = _
        rw [u2_nc (by omega), u2_at]
      · show u2 (u2 (u2 s 11 6 4) 11 3 1) 11 5 ((u2 s 11 6 4) 11 7) 11 5 = _
        rw [u2_at, u2_nc (by omega), s7]
  · have hk : tk B n f = 0 := by unfold tk; rw [if_pos (by omega)]
    have he : te B n f = f := by unfold te; rw [if_pos (by omega)]
    rw [if_neg fun g => c ((lt_onn (by omega) (by omega)).mp g), hk, he]
    refine ⟨_, rfl, q1.u, ?_, fun _ => ⟨?_, ?_, ?_, fun g => absurd g (by decide)⟩, fun g => absurd g (by decide)⟩
    · rw [u2_nc (by omega), s7]
    · rw [u2_at]
      rfl
    · rw [u2_nc (by omega), s8]
    · rw [u2_nc (by omega), s3]
/-! the reference's next -/
/-- the reference's cells agree but for where it reads -/
def Fn (I J : WI) : Prop := ∀ k j, ¬ (k = 33 ∧ 22 ≤ j ∧ j ≤ 27) → J k j = I k j
theorem Fn.rfl {I : WI} : Fn I I := fun _ _ _ => Eq.refl _
theorem Fn.trans {I J K : WI} (a : Fn I J) (b : Fn J K) : Fn I K := fun k j h => (b k j h).trans (a k j h)
theorem Fn.u {I J : WI} {j : Nat} {x : Int32} (a : Fn I J) (h : 22 ≤ j) (h' : j ≤ 27) : Fn I (u2 J 33 j x) := fun k j' q => (u2_nc (by omega)).trans (a k j' q)
theorem Fn.tap {I J : WI} {B : Nat → Nat} {n : Nat} (a : Fn I J) (T : TapM B n I) : TapM B n J := T.ag fun k j h => a k j (by omega)
def nvm (B : Nat → Nat) (f : Nat) : Nat → Int32
  | 0 => 0
  | k + 1 => if 2 ≤ k then nvm B f k else 10 * nvm B f k + Int32.ofNat (B (f + k)) - 48
theorem tv_m {B : Nat → Nat} {n q : Nat} (hq : q < n) (h : isFg (B q) = true) (h2 : tfe B n q - q ≤ 2) : nvm B q (tfe B n q - q) = Int32.ofNat (tv B n q) := by
  have h1 := (tv_b hq h h2).1
  have a1 := fg_b h
  have t1 := two_t (B q) a1.2 a1.1
  unfold tv
  by_cases c : tfe B n q - q ≤ 1
  · rw [if_pos c]
    rw [show tfe B n q - q = 1 by omega]
    exact t1.2.1
  · rw [if_neg c]
    have hb : isFg (B (q + 1)) = true := scan_in (P := fun j => isFg (B j)) (n := n) (n - q) q (q + 1) (by omega) (by unfold tfe at c; omega)
    have a2 := fg_b hb
    rw [show tfe B n q - q = 2 by omega]
    show 10 * (10 * (0 : Int32) + Int32.ofNat (B (q + 0)) - 48) + Int32.ofNat (B (q + 1)) - 48 = _
    rw [Nat.add_zero, t1.2.1]
    exact (t1.2.2 (B (q + 1)) a2.2 a2.1).2
/-- what next does -/
def StepM (B : Nat → Nat) (n p : Nat) (I I' : WI) : Prop := Fn I I' ∧ (tk B n (tf B n p) ≠ 4 → I' 33 23 = Int32.ofNat (tf B n p) ∧ I' 33 24 = Int32.ofNat (tk B n (tf B n p)) ∧ I' 33 22 = Int32.ofNat (te B n (tf B n p)) ∧ I' 33 26 = 0 ∧ (tk B n (tf B n p) = 2 → I' 33 25 = Int32.ofNat (tv B n (tf B n p)))) ∧ (tk B n (tf B n p) = 4 → I' 33 26 = 1 ∧ I' 33 27 = Int32.ofNat (tf B n p))
theorem needs_1 {I : WI} {c : Int32} : F_X9_needs I 1 c = I := by
  unfold F_X9_needs F_X9_needs_24
  rw [if_neg (by decide)]
theorem needs_0 {I : WI} {c : Int32} (h : I 33 26 = 0) : F_X9_needs I 0 c = u2 (u2 I 33 26 c) 33 27 (I 33 23) := by
  unfold F_X9_needs F_X9_needs_24
  rw [if_pos rfl, if_pos h]
  rfl
theorem needs_f {I : WI} {a c : Int32} (h : ¬ I 33 26 = 0) : F_X9_needs I a c = I := by
  unfold F_X9_needs F_X9_needs_24
  rw [if_neg h]
  split <;> rfl
theorem next_f {I : WI} (h : 0 < (I 33 26).toInt) : F_X9_next I = some I := by
  unfold F_X9_next
  rw [if_neg (by first | omega | (simp (disch := omega) only [Int32.lt_iff_toInt_lt, Int32.le_iff_toInt_le, ← Int32.toInt_inj, on_toInt, on_clamp, ti64, z0, z1, z2, zm1, i0, i1, im1, zz3, zz4, zz5, zz6, zz7, zz8, zz9, zz10, zz11, zz12, zz13, zz14, zz15, zz16, zz17, zz18, zz19, zz20, zz21, zz22, zz23, zz24, zz25, zz26, zz27, zz28, zz29, zz30, zz31, zz32, zz33, zz34, zz35, zz36, zz37, zz38, zz39, zz40, zz41, zz48, zz60, zz64, zz160, zz312, zz320, zzm2, zzm3, zzm4, zzm5, zzm6, zzm7, zzm8, zzm9, zzm10]; done) | (simp (disch := omega) only [Int32.lt_iff_toInt_lt, Int32.le_iff_toInt_le, ← Int32.toInt_inj, on_toInt, on_clamp, ti64, z0, z1, z2, zm1, i0, i1, im1, zz3, zz4, zz5, zz6, zz7, zz8, zz9, zz10, zz11, zz12, zz13, zz14, zz15, zz16, zz17, zz18, zz19, zz20, zz21, zz22, zz23, zz24, zz25, zz26, zz27, zz28, zz29, zz30, zz31, zz32, zz33, zz34, zz35, zz36, zz37, zz38, zz39, zz40, zz41, zz48, zz60, zz64, zz160, zz312, zz320, zzm2, zzm3, zzm4, zzm5, zzm6, zzm7, zzm8, zzm9, zzm10]; omega))]
theorem next_M {B : Nat → Nat} {n p : Nat} {I : WI} (T : TapM B n I) (hp : p ≤ n) (e8 : I 33 22 = Int32.ofNat p) (e3 : I 33 26 = 0) : ∃ I', F_X9_next I = some I' ∧ StepM B n p I I' := by
  have hn : n ≤ 320 := T.1
  obtain ⟨m1, m2, m3, m4⟩ := um_t
  obtain ⟨r, r1, r2, r3, r4⟩ := lpp_scanP (f := fun x => F_X9_next_8_1 x) (P := fun j => isSp (B j)) (n := n) (fun q (s : WI) => Fn I s ∧ s 33 22 = Int32.ofNat q ∧ s 33 26 = 0) (n - p) p I (by omega) ⟨Fn.rfl, e8, e3⟩ (fun q s h1 h2 hs => by
    obtain ⟨s1, s2, s3⟩ := hs
    have Ts := s1.tap T
    show if q < n ∧ isSp (B q) = true then ∃ s', F_X9_next_8_1 s = some (.inr s') ∧ _ else F_X9_next_8_1 s = some (.inl s)
    unfold F_X9_next_8_1
    rw [s2, look_eq Ts (by omega), ob_some]
    by_cases c : q < n
    · have hb := (ub_t (B q) (Ts.2.2.2 q c).1).1
      rw [if_pos c]
      by_cases d : isSp (B q) = true
      · rw [if_pos ⟨c, d⟩, if_pos (hb.mpr d), la1]
        refine ⟨_, rfl, s1.u (by decide) (by decide), u2_at, ?_⟩
        rw [u2_nc (by omega), s3]
      · rw [if_neg fun g => d g.2, if_neg fun g => d (hb.mp g)]
    · rw [if_neg c, if_neg fun g => c g.1, if_neg m1]) 4294967296 (by omega)
  have hq : tf B n p = scan (fun j => isSp (B j)) n (n - p) p := rfl
  rw [← hq] at r3
  have hqn : tf B n p ≤ n := (scan_le (n - p) p).2 hp
  generalize hf : tf B n p = f at r3 hqn
  have q1 : Fn I (u2 r 33 23 (Int32.ofNat f)) := r2.u (by decide) (by decide)
  have Tr := q1.tap T
  suffices hs : ∃ I', F_X9_next_34 r = some I' ∧ StepM B n p I I' by
    obtain ⟨I', g1, g2⟩ := hs
    refine ⟨I', ?_, g2⟩
    unfold F_X9_next F_X9_next_8
    rw [e3, if_pos (by decide), r1]
    exact g1
  unfold StepM
  rw [hf]
  unfold F_X9_next_34
  rw [r3]
  generalize hS : u2 r 33 23 (Int32.ofNat f) = s at q1 Tr ⊢
  have s7 : s 33 23 = Int32.ofNat f := by rw [← hS, u2_at]
  have s8 : s 33 22 = Int32.ofNat f := by rw [← hS, u2_nc (by omega), r3]
  have s3 : s 33 26 = 0 := by rw [← hS, u2_nc (by omega), r4]
  rw [s8, look_eq Tr (by omega), ob_some]
  by_cases c : f < n
  · obtain ⟨b1, b2, b3, b4, -⟩ := ub_t (B f) (Tr.2.2.2 f c).1
    have hb := (Tr.2.2.2 f c).1
    rw [if_pos c, if_pos (by first | omega | (simp (disch := omega) only [Int32.lt_iff_toInt_lt, Int32.le_iff_toInt_le, ← Int32.toInt_inj, on_toInt, on_clamp, ti64, z0, z1, z2, zm1, i0, i1, im1, zz3, zz4, zz5, zz6, zz7, zz8, zz9, zz10, zz11, zz12, zz13, zz14, zz15, zz16, zz17, zz18, zz19, zz20, zz21, zz22, zz23, zz24, zz25, zz26, zz27, zz28, zz29, zz30, zz31, zz32, zz33, zz34, zz35, zz36, zz37, zz38, zz39, zz40, zz41, zz48, zz60, zz64, zz160, zz312, zz320, zzm2, zzm3, zzm4, zzm5, zzm6, zzm7, zzm8, zzm9, zzm10]; done) | (simp (disch := omega) only [Int32.lt_iff_toInt_lt, Int32.le_iff_toInt_le, ← Int32.toInt_inj, on_toInt, on_clamp, ti64, z0, z1, z2, zm1, i0, i1, im1, zz3, zz4, zz5, zz6, zz7, zz8, zz9, zz10, zz11, zz12, zz13, zz14, zz15, zz16, zz17, zz18, zz19, zz20, zz21, zz22, zz23, zz24, zz25, zz26, zz27, zz28, zz29, zz30, zz31, zz32, zz33, zz34, zz35, zz36, zz37, zz38, zz39, zz40, zz41, zz48, zz60, zz64, zz160, zz312, zz320, zzm2, zzm3, zzm4, zzm5, zzm6, zzm7, zzm8, zzm9, zzm10]; omega)), b3]
    by_cases d2 : isLt (B f) = true
    · have d1 : ¬ B f = 59 := fun g => by rw [g] at d2; exact absurd d2 (by decide)
      have hk : tk B n f = 1 := by unfold tk; rw [if_neg (by omega), if_neg d1, if_pos d2]
      have he : te B n f = tle B n f := by unfold te; rw [if_neg (by omega), if_neg d1, if_pos d2]
      rw [if_pos d2, if_neg (show ¬ (1 : Int32) = 0 by decide), hk, he]
      obtain ⟨t, t1, t2, t3, t4, t5, t6⟩ := lpp_scanP (f := fun x => F_X9_next_82_3 x) (P := fun j => isLt (B j)) (n := n) (fun q (x : WI) => Fn I x ∧ x 33 22 = Int32.ofNat q ∧ x 33 26 = 0 ∧ x 33 23 = Int32.ofNat f ∧ x 33 24 = 1) (n - f) f (u2 s 33 24 1) (by omega) ⟨q1.u (by decide) (by decide), by rw [u2_nc (by omega), s8], by rw [u2_nc (by omega), s3], by rw [u2_nc (by omega), s7], u2_at⟩ (fun q x h1 h2 hx => by
        obtain ⟨x1, x2, x3, x4, x5⟩ := hx
        have Tx := x1.tap T
        show if q < n ∧ isLt (B q) = true then ∃ s', F_X9_next_82_3 x = some (.inr s') ∧ _ else F_X9_next_82_3 x = some (.inl x)
        unfold F_X9_next_82_3
        rw [x2, look_eq Tx (by omega), ob_some]
        by_cases c' : q < n
        · have hb := (ub_t (B q) (Tx.2.2.2 q c').1).2.2.1
          rw [if_pos c', hb]
          by_cases d : isLt (B q) = true
          · rw [if_pos ⟨c', d⟩, if_pos d, if_neg (show ¬ (1 : Int32) = 0 by decide), la1]
            exact ⟨_, rfl, x1.u (by decide) (by decide), u2_at, by rw [u2_nc (by omega), x3], by rw [u2_nc (by omega), x4], by rw [u2_nc (by omega), x5]⟩
          · rw [if_neg fun g => d g.2, if_neg d, if_pos rfl]
        · rw [if_neg c', if_neg fun g => c' g.1, m2, if_pos rfl]) 4294967296 (by omega)
      refine ⟨t, ?_, t2, fun _ => ⟨t5, t6, t3, t4, fun g => absurd g (by decide)⟩, fun g => absurd g (by decide)⟩
      unfold F_X9_next_82
      rw [t1]
      rfl
    rw [if_neg d2, if_pos rfl, b4]
    by_cases d3 : isFg (B f) = true
    · have d1 : ¬ B f = 59 := fun g => by rw [g] at d3; exact absurd d3 (by decide)
      rw [if_pos d3, if_neg (show ¬ (1 : Int32) = 0 by decide)]
      have he : te B n f = tfe B n f := by unfold te; rw [if_neg (by omega), if_neg d1, if_neg d2]
      obtain ⟨t, t1, t2, t3, t4, t5, t6, t7⟩ := lpp_scanP (f := fun x => F_X9_next_140_2 x) (P := fun j => isFg (B j)) (n := n) (fun q (x : WI) => Fn I x ∧ x 33 22 = Int32.ofNat q ∧ x 33 26 = 0 ∧ x 33 23 = Int32.ofNat f ∧ x 33 24 = 2 ∧ x 33 25 = nvm B f (q - f)) (n - f) f (u2 (u2 s 33 24 2) 33 25 0) (by omega) ⟨(q1.u (by decide) (by decide)).u (by decide) (by decide), by rw [u2_nc (by omega), u2_nc (by omega), s8], by rw [u2_nc (by omega), u2_nc (by omega), s3], by rw [u2_nc (by omega), u2_nc (by omega), s7], by rw [u2_nc (by omega), u2_at], by rw [u2_at, Nat.sub_self]; rfl⟩ (fun q x h1 h2 hx => by
        obtain ⟨x1, x2, x3, x4, x5, x6⟩ := hx
        have Tx := x1.tap T
        show if q < n ∧ isFg (B q) = true then ∃ s', F_X9_next_140_2 x = some (.inr s') ∧ _ else F_X9_next_140_2 x = some (.inl x)
        unfold F_X9_next_140_2
        rw [x2, look_eq Tx (by omega), ob_some]
        by_cases c' : q < n
        · have hb := (ub_t (B q) (Tx.2.2.2 q c').1).2.2.2.1
          rw [if_pos c', hb]
          by_cases d : isFg (B q) = true
          · rw [if_pos ⟨c', d⟩, if_pos d, if_neg (show ¬ (1 : Int32) = 0 by decide), x4, on_sub h1]
            by_cases g : 2 ≤ q - f
            · rw [if_pos (by first | omega | (simp (disch := omega) only [Int32.lt_iff_toInt_lt, Int32.le_iff_toInt_le, ← Int32.toInt_inj, on_toInt, on_clamp, ti64, z0, z1, z2, zm1, i0, i1, im1, zz3, zz4, zz5, zz6, zz7, zz8, zz9, zz10, zz11, zz12, zz13, zz14, zz15, zz16, zz17, zz18, zz19, zz20, zz21, zz22, zz23, zz24, zz25, zz26, zz27, zz28, zz29, zz30, zz31, zz32, zz33, zz34, zz35, zz36, zz37, zz38, zz39, zz40, zz41, zz48, zz60, zz64, zz160, zz312, zz320, zzm2, zzm3, zzm4, zzm5, zzm6, zzm7, zzm8, zzm9, zzm10]; done) | (simp (disch := omega) only [Int32.lt_iff_toInt_lt, Int32.le_iff_toInt_le, ← Int32.toInt_inj, on_toInt, on_clamp, ti64, z0, z1, z2, zm1, i0, i1, im1, zz3, zz4, zz5, zz6, zz7, zz8, zz9, zz10, zz11, zz12, zz13, zz14, zz15, zz16, zz17, zz18, zz19, zz20, zz21, zz22, zz23, zz24, zz25, zz26, zz27, zz28, zz29, zz30, zz31, zz32, zz33, zz34, zz35, zz36, zz37, zz38, zz39, zz40, zz41, zz48, zz60, zz64, zz160, zz312, zz320, zzm2, zzm3, zzm4, zzm5, zzm6, zzm7, zzm8, zzm9, zzm10]; omega))]
              refine ⟨_, rfl, (x1.u (by decide) (by decide)).u (by decide) (by decide), ?_, ?_, ?_, ?_, ?_⟩
              · rw [u2_at, u2_nc (by omega), x2, la1]
              · rw [u2_nc (by omega), u2_nc (by omega), x3]
              · rw [u2_nc (by omega), u2_nc (by omega), x4]
              · rw [u2_nc (by omega), u2_nc (by omega), x5]
              · rw [u2_nc (by omega), u2_at, x6, show q + 1 - f = (q - f) + 1 by omega]
                show _ = if 2 ≤ q - f then nvm B f (q - f) else _
                rw [if_pos g]
            · rw [if_neg (by first | omega | (simp (disch := omega) only [Int32.lt_iff_toInt_lt, Int32.le_iff_toInt_le, ← Int32.toInt_inj, on_toInt, on_clamp, ti64, z0, z1, z2, zm1, i0, i1, im1, zz3, zz4, zz5, zz6, zz7, zz8, zz9, zz10, zz11, zz12, zz13, zz14, zz15, zz16, zz17, zz18, zz19, zz20, zz21, zz22, zz23, zz24, zz25, zz26, zz27, zz28, zz29, zz30, zz31, zz32, zz33, zz34, zz35, zz36, zz37, zz38, zz39, zz40, zz41, zz48, zz60, zz64, zz160, zz312, zz320, zzm2, zzm3, zzm4, zzm5, zzm6, zzm7, zzm8, zzm9, zzm10]; done) | (simp (disch := omega) only [Int32.lt_iff_toInt_lt, Int32.le_iff_toInt_le, ← Int32.toInt_inj, on_toInt, on_clamp, ti64, z0, z1, z2, zm1, i0, i1, im1, zz3, zz4, zz5, zz6, zz7, zz8, zz9, zz10, zz11, zz12, zz13, zz14, zz15, zz16, zz17, zz18, zz19, zz20, zz21, zz22, zz23, zz24, zz25, zz26, zz27, zz28, zz29, zz30, zz31, zz32, zz33, zz34, zz35, zz36, zz37, zz38, zz39, zz40, zz41, zz48, zz60, zz64, zz160, zz312, zz320, zzm2, zzm3, zzm4, zzm5, zzm6, zzm7, zzm8, zzm9, zzm10]; omega)), ob_some]
              refine ⟨_, rfl, (x1.u (by decide) (by decide)).u (by decide) (by decide), ?_, ?_, ?_, ?_, ?_⟩
              · rw [u2_at, u2_nc (by omega), x2, la1]
              · rw [u2_nc (by omega), u2_nc (by omega), x3]
              · rw [u2_nc (by omega), u2_nc (by omega), x4]
              · rw [u2_nc (by omega), u2_nc (by omega), x5]
              · rw [u2_nc (by omega), u2_at, x6, show q + 1 - f = (q - f) + 1 by omega]
                show _ = if 2 ≤ q - f then nvm B f (q - f) else 10 * nvm B f (q - f) + Int32.ofNat (B (f + (q - f))) - 48
                rw [if_neg g, show f + (q - f) = q by omega]
          · rw [if_neg fun g => d g.2, if_neg d, if_pos rfl]
        · rw [if_neg c', if_neg fun g => c' g.1, m3, if_pos rfl]) 4294967296 (by omega)
      have hlen : f ≤ tfe B n f ∧ tfe B n f ≤ n := ⟨(scan_le (n - f) f).1, (scan_le (n - f) f).2 (by omega)⟩
      have t3 : t 33 22 = Int32.ofNat (tfe B n f) := t3
      have t7 : t 33 25 = nvm B f (tfe B n f - f) := t7
      suffices hs : ∃ I', F_X9_next_217 t = some I' ∧ (Fn I I' ∧ (tk B n f ≠ 4 → I' 33 23 = Int32.ofNat f ∧ I' 33 24 = Int32.ofNat (tk B n f) ∧ I' 33 22 = Int32.ofNat (te B n f) ∧ I' 33 26 = 0 ∧ (tk B n f = 2 → I' 33 25 = Int32.ofNat (tv B n f))) ∧ (tk B n f = 4 → I' 33 26 = 1 ∧ I' 33 27 = Int32.ofNat f)) by
        obtain ⟨I', g1, g2⟩ := hs
        refine ⟨I', ?_, g2⟩
        unfold F_X9_next_140
        rw [t1, ob_some, g1]
      unfold F_X9_next_217 F_X9_next_236 F_X9_next_274
      rw [t3, t5, on_sub hlen.1]
      by_cases d4 : tfe B n f - f ≤ 2
      · have hk : tk B n f = 2 := by unfold tk; rw [if_neg (by omega), if_neg d1, if_neg d2, if_pos ⟨d3, d4⟩]
        rw [if_neg (by first | omega | (simp (disch := omega) only [Int32.lt_iff_toInt_lt, Int32.le_iff_toInt_le, ← Int32.toInt_inj, on_toInt, on_clamp, ti64, z0, z1, z2, zm1, i0, i1, im1, zz3, zz4, zz5, zz6, zz7, zz8, zz9, zz10, zz11, zz12, zz13, zz14, zz15, zz16, zz17, zz18, zz19, zz20, zz21, zz22, zz23, zz24, zz25, zz26, zz27, zz28, zz29, zz30, zz31, zz32, zz33, zz34, zz35, zz36, zz37, zz38, zz39, zz40, zz41, zz48, zz60, zz64, zz160, zz312, zz320, zzm2, zzm3, zzm4, zzm5, zzm6, zzm7, zzm8, zzm9, zzm10]; done) | (simp (disch := omega) only [Int32.lt_iff_toInt_lt, Int32.le_iff_toInt_le, ← Int32.toInt_inj, on_toInt, on_clamp, ti64, z0, z1, z2, zm1, i0, i1, im1, zz3, zz4, zz5, zz6, zz7, zz8, zz9, zz10, zz11, zz12, zz13, zz14, zz15, zz16, zz17, zz18, zz19, zz20, zz21, zz22, zz23, zz24, zz25, zz26, zz27, zz28, zz29, zz30, zz31, zz32, zz33, zz34, zz35, zz36, zz37, zz38, zz39, zz40, zz41, zz48, zz60, zz64, zz160, zz312, zz320, zzm2, zzm3, zzm4, zzm5, zzm6, zzm7, zzm8, zzm9, zzm10]; omega)), hk, he, needs_1]
        exact ⟨t, rfl, t2, fun _ => ⟨t5, t6, t3, t4, fun _ => by rw [t7]; exact tv_m c d3 d4⟩, fun g => absurd g (by decide)⟩
      · have hk : tk B n f = 4 := by unfold tk; rw [if_neg (by omega), if_neg d1, if_neg d2, if_neg fun g => d4 g.2]
        rw [if_pos (by first | omega | (simp (disch := omega) only [Int32.lt_iff_toInt_lt, Int32.le_iff_toInt_le, ← Int32.toInt_inj, on_toInt, on_clamp, ti64, z0, z1, z2, zm1, i0, i1, im1, zz3, zz4, zz5, zz6, zz7, zz8, zz9, zz10, zz11, zz12, zz13, zz14, zz15, zz16, zz17, zz18, zz19, zz20, zz21, zz22, zz23, zz24, zz25, zz26, zz27, zz28, zz29, zz30, zz31, zz32, zz33, zz34, zz35, zz36, zz37, zz38, zz39, zz40, zz41, zz48, zz60, zz64, zz160, zz312, zz320, zzm2, zzm3, zzm4, zzm5, zzm6, zzm7, zzm8, zzm9, zzm10]; done) | (simp (disch := omega) only [Int32.lt_iff_toInt_lt, Int32.le_iff_toInt_le, ← Int32.toInt_inj, on_toInt, on_clamp, ti64, z0, z1, z2, zm1, i0, i1, im1, zz3, zz4, zz5, zz6, zz7, zz8, zz9, zz10, zz11, zz12, zz13, zz14, zz15, zz16, zz17, zz18, zz19, zz20, zz21, zz22, zz23, zz24, zz25, zz26, zz27, zz28, zz29, zz30, zz31, zz32, zz33, zz34, zz35, zz36, zz37, zz38, zz39, zz40, zz41, zz48, zz60, zz64, zz160, zz312, zz320, zzm2, zzm3, zzm4, zzm5, zzm6, zzm7, zzm8, zzm9, zzm10]; omega)), hk, needs_0 t4]
        refine ⟨_, rfl, (t2.u (by decide) (by decide)).u (by decide) (by decide), fun g => absurd rfl g, fun _ => ⟨?_, ?_⟩⟩
        · rw [u2_nc (by omega), u2_at]
        · rw [u2_at, t5]
    · rw [if_neg d3, if_pos rfl]
      unfold F_X9_next_260 F_X9_next_274
      by_cases d1 : B f = 59
      · have hk : tk B n f = 3 := by unfold tk; rw [if_neg (by omega), if_pos d1]
        have he : te B n f = f + 1 := by unfold te; rw [if_neg (by omega), if_pos d1]
        rw [if_pos (b2.mpr d1), hk, he, needs_1]
        refine ⟨_, rfl, (q1.u (by decide) (by decide)).u (by decide) (by decide), fun _ => ⟨?_, ?_, ?_, ?_, fun g => absurd g (by decide)⟩, fun g => absurd g (by decide)⟩
        · rw [u2_nc (by omega), u2_nc (by omega), s7]
        · rw [u2_nc (by omega), u2_at]
          rfl
        · rw [u2_at, u2_nc (by omega), s8, la1]
        · rw [u2_nc (by omega), u2_nc (by omega), s3]
      · have hk : tk B n f = 4 := by unfold tk; rw [if_neg (by omega), if_neg d1, if_neg d2, if_neg fun g => d3 g.1]
        rw [if_neg fun g => d1 (b2.mp g), hk, needs_0 (by rw [u2_nc (by omega), s3])]
        refine ⟨_, rfl, (((q1.u (by decide) (by decide)).u (by decide) (by decide)).u (by decide) (by decide)).u (by decide) (by decide), fun g => absurd rfl g, fun _ => ⟨?_, ?_⟩⟩
        · rw [u2_nc (by omega), u2_nc (by omega), u2_at]
        · rw [u2_nc (by omega), u2_at, u2_nc (by omega), s7]
  · have hk : tk B n f = 0 := by unfold tk; rw [if_pos (by omega)]
    have he : te B n f = f := by unfold te; rw [if_pos (by omega)]
    rw [if_neg c, if_neg m4, hk, he]
    refine ⟨_, rfl, q1.u (by decide) (by decide), fun _ => ⟨?_, ?_, ?_, ?_, fun g => absurd g (by decide)⟩, fun g => absurd g (by decide)⟩
    · rw [u2_nc (by omega), s7]
    · rw [u2_at]
      rfl
    · rw [u2_nc (by omega), s8]
    · rw [u2_nc (by omega), s3]
/-! names of the text -/
theorem sb_n : ∀ b, b < 256 → 128 ≤ b → (sby b).toInt < 0 := by decide +kernel
theorem sb_c (b : Nat) (hb : b < 256) (c : Nat) (hc : c < 128) : sby b = Int32.ofNat c ↔ b = c := by
  by_cases q : b < 128
  · have e : sby b = Int32.ofNat b := by
      unfold sby
      exact if_pos q
    rw [e]
    exact ⟨fun z => on_inj (by omega) (by omega) z, fun z => by rw [z]⟩
  · refine ⟨fun z => ?_, fun z => by omega⟩
    have h := sb_n b hb (by omega)
    rw [z, on_toInt (by omega)] at h
    omega
theorem frp1_all {R : Type} {g : Int32 → Unit → Option (R ⊕ Unit)} {b : Nat} (hb : b < 2147483648) (r : R) (Q : Nat → Prop) (h1 : ∀ i, i < b → Q i → g (Int32.ofNat i) () = some (.inr ())) (h2 : ∀ i, i < b → ¬ Q i → g (Int32.ofNat i) () = some (.inl r)) : ∀ (m i : Nat), i + m = b → ((∀ j, i ≤ j → j < b → Q j) → ∃ e, frp1 g (Int32.ofNat b) m (Int32.ofNat i) () = some (.inr e)) ∧ (¬ (∀ j, i ≤ j → j < b → Q j) → frp1 g (Int32.ofNat b) m (Int32.ofNat i) () = some (.inl r)) := by
  intro m
  induction m with
  | zero =>
    intro i hi
    refine ⟨fun _ => ⟨_, by rw [frp1]⟩, fun q => absurd (fun j h3 h4 => by omega) q⟩
  | succ m ih =>
    intro i hi
    rw [frp1]
    have hl : ¬ Int32.ofNat b ≤ Int32.ofNat i := fun q => absurd ((ge_on hb (by omega)).mp q) (by omega)
    rw [if_neg hl]
    by_cases c : Q i
    · rw [h1 i (by omega) c]
      obtain ⟨i1, i2⟩ := ih (i + 1) (by omega)
      rw [la1]
      refine ⟨fun q => i1 fun j h3 h4 => q j (by omega) h4, fun q => i2 fun r => q fun j h3 h4 => ?_⟩
      by_cases d : j = i
      · rw [d]; exact c
      · exact r j (by omega) h4
    · rw [h2 i (by omega) c]
      exact ⟨fun q => absurd (q i (Nat.le_refl _) (by omega)) c, fun _ => rfl⟩
def wlen (t : Nat) : Nat := s_len.getD t 0
def wchr (t i : Nat) : Nat := ((s_byt.getD t []).getD i 0).toNatClampNeg
theorem wchr_t : ∀ t, t < 6 → ∀ i, i < 7 → wchr t i < 128 ∧ (i < wlen t → chr t (Int32.ofNat i) = Int32.ofNat (wchr t i)) := by decide +kernel
theorem wlen_t : ∀ t, t < 6 → wlen t ≤ 7 ∧ slen t = Int32.ofNat (wlen t) := by decide +kernel
/-- the token from f to e is the word t; is a row -/
def nmb (B : Nat → Nat) (f e t : Nat) : Bool := (e == f + wlen t) && (List.range (wlen t)).all (fun i => B (f + i) == wchr t i)
theorem nmb_iff {B : Nat → Nat} {f e t : Nat} : nmb B f e t = true ↔ e = f + wlen t ∧ ∀ i, i < wlen t → B (f + i) = wchr t i := by
  unfold nmb
  rw [Bool.and_eq_true, beq_iff_eq, List.all_eq_true]
  constructor
  · rintro ⟨a, b⟩
    exact ⟨a, fun i hi => beq_iff_eq.mp (b i (List.mem_range.mpr hi))⟩
  · rintro ⟨a, b⟩
    exact ⟨a, fun i hi => beq_iff_eq.mpr (b i (List.mem_range.mp hi))⟩
def rwb (B : Nat → Nat) (f e : Nat) : Bool := (List.range (e - f)).all (fun i => B (f + i) == 100 || B (f + i) == 108)
theorem rwb_iff {B : Nat → Nat} {f e : Nat} : rwb B f e = true ↔ ∀ j, f ≤ j → j < e → B j = 100 ∨ B j = 108 := by
  unfold rwb
  rw [List.all_eq_true]
  constructor
  · intro h j h1 h2
    have := h (j - f) (List.mem_range.mpr (by omega))
    rw [show f + (j - f) = j by omega, Bool.or_eq_true, beq_iff_eq, beq_iff_eq] at this
    exact this
  · intro h i hi
    rw [List.mem_range] at hi
    rw [Bool.or_eq_true, beq_iff_eq, beq_iff_eq]
    exact h (f + i) (by omega) (by omega)
/-- the class stands behind a token of kind k from f to e -/
def AtC (n : Nat) (I : WI) (k f e : Nat) : Prop := I 11 6 = Int32.ofNat k ∧ I 11 7 = Int32.ofNat f ∧ I 11 8 = Int32.ofNat e ∧ f ≤ e ∧ e ≤ n
theorem named_C {B : Nat → Nat} {n k f e t : Nat} {I : WI} (T : Tap B n I) (A : AtC n I k f e) (hk : k ≤ 4) (ht : t < 6) : F_X6_isNamed I t = some (if k = 1 ∧ nmb B f e t = true then 1 else 0) := by
  obtain ⟨a1, a2, a3, a4, a5⟩ := A
  have hn : n ≤ 320 := T.1
  obtain ⟨w1, w2⟩ := wlen_t t ht
  unfold F_X6_isNamed F_X6_isNamed_24
  rw [a1, a2, a3]
  by_cases c : k = 1
  · rw [if_pos (by rw [c]; rfl), on_sub a4, w2]
    by_cases d : e = f + wlen t
    · rw [if_pos (by rw [d, Nat.add_sub_cancel_left])]
      have hs := frp1_all (g := fun i x => F_X6_isNamed_36_1 I t i) (b := wlen t) (by omega) (0 : Int32) (fun i => B (f + i) = wchr t i) (fun i hi hq => by
        show F_X6_isNamed_36_1 I t (Int32.ofNat i) = _
        unfold F_X6_isNamed_36_1
        obtain ⟨c1, c2⟩ := wchr_t t ht i (by omega)
        rw [if_neg (nin (k := i) (N := s_len.getD t 0) hi (by have := w1; unfold wlen at this; omega)), a2, oadd, byteAt_eq T (by omega), c2 hi, if_pos ((sb_c _ (T.2.2.2 (f + i) (by omega)).1 _ c1).mpr hq)]) (fun i hi hq => by
        show F_X6_isNamed_36_1 I t (Int32.ofNat i) = _
        unfold F_X6_isNamed_36_1
        obtain ⟨c1, c2⟩ := wchr_t t ht i (by omega)
        rw [if_neg (nin (k := i) (N := s_len.getD t 0) hi (by have := w1; unfold wlen at this; omega)), a2, oadd, byteAt_eq T (by omega), c2 hi, if_neg fun g => hq ((sb_c _ (T.2.2.2 (f + i) (by omega)).1 _ c1).mp g)]) (wlen t) 0 (by omega)
      have hfu : fu 0 (slen t) = wlen t := by
        rw [w2]
        unfold fu
        rw [on_toInt (by omega), z0]
        omega
      unfold F_X6_isNamed_28 F_X6_isNamed_65
      rw [hfu, w2]
      by_cases g : ∀ j, 0 ≤ j → j < wlen t → B (f + j) = wchr t j
      · obtain ⟨x, hx⟩ := hs.1 g
        rw [if_pos ⟨c, nmb_iff.mpr ⟨d, fun i hi => g i (Nat.zero_le _) hi⟩⟩]
        show (frp1 (fun i x => F_X6_isNamed_36_1 I t i) (Int32.ofNat (wlen t)) (wlen t) (Int32.ofNat 0) ()).bind _ = _
        rw [hx]
        rfl
      · rw [if_neg fun q => g fun j _ hj => (nmb_iff.mp q.2).2 j hj]
        show (frp1 (fun i x => F_X6_isNamed_36_1 I t i) (Int32.ofNat (wlen t)) (wlen t) (Int32.ofNat 0) ()).bind _ = _
        rw [hs.2 g]
        rfl
    · rw [if_neg fun g => d (by have := on_inj (by omega) (by omega) g; omega), if_neg fun q => d (nmb_iff.mp q.2).1]
  · rw [if_neg fun g => c (on_inj (by omega) (by decide) (g.trans (show (1 : Int32) = Int32.ofNat 1 from rfl))), if_neg fun q => c q.1]
theorem row_C {B : Nat → Nat} {n k f e : Nat} {I : WI} (T : Tap B n I) (A : AtC n I k f e) (hk : k ≤ 4) : F_X6_isRow I = if k = 1 ∧ rwb B f e = true then 1 else 0 := by
  obtain ⟨a1, a2, a3, a4, a5⟩ := A
  have hn : n ≤ 320 := T.1
  unfold F_X6_isRow
  rw [a1, a2]
  by_cases c : k = 1
  · rw [if_pos (by rw [c]; rfl)]
    unfold F_X6_isRow_15 F_X6_isRow_52
    rw [a3]
    have hfu : fu (Int32.ofNat f) (Int32.ofNat e) = e - f := by
      unfold fu
      rw [on_toInt (by omega), on_toInt (by omega)]
      omega
    rw [hfu]
    have hg : ∀ i, i < e → B i < 256 ∧ F_X5_byteAt I (Int32.ofNat i) = sby (B i) := fun i hi => ⟨(T.2.2.2 i (by omega)).1, byteAt_eq T (by omega)⟩
    obtain ⟨x, hx⟩ := fr1_fb (f := fun i x => F_X6_isRow_23_1 I i) (W := e) (by omega) (fun i => B i == 100 || B i == 108) (fun _ => (0 : Int32)) (fun i hi hgt => by
      show F_X6_isRow_23_1 I (Int32.ofNat i) = _
      unfold F_X6_isRow_23_1 F_X6_isRow_46_1
      obtain ⟨g1, g2⟩ := hg i hi
      obtain ⟨-, -, -, -, -, s1, s2⟩ := sb_t (B i) g1
      rw [g2]
      rw [Bool.or_eq_true, beq_iff_eq, beq_iff_eq] at hgt
      rcases hgt with h | h
      · rw [if_pos (s1.mpr h)]
      · by_cases q : sby (B i) = 100
        · rw [if_pos q]
        · rw [if_neg q, if_pos (s2.mpr h)]) (fun i hi hgf => by
      show F_X6_isRow_23_1 I (Int32.ofNat i) = _
      unfold F_X6_isRow_23_1 F_X6_isRow_46_1
      obtain ⟨g1, g2⟩ := hg i hi
      obtain ⟨-, -, -, -, -, s1, s2⟩ := sb_t (B i) g1
      rw [g2]
      rw [Bool.or_eq_false_iff, beq_eq_false_iff_ne, beq_eq_false_iff_ne] at hgf
      rw [if_neg fun q => hgf.1 (s1.mp q), if_neg fun q => hgf.2 (s2.mp q)]) (e - f) f (by omega)
    rw [hx]
    -- the first that is no d, no l
    have hall : ∀ m i, fb (fun i => B i == 100 || B i == 108) m i = none ↔ ∀ j, i ≤ j → j < i + m → B j = 100 ∨ B j = 108 := by
      intro m
      induction m with
      | zero => intro i; exact ⟨fun _ j h1 h2 => by omega, fun _ => rfl⟩
      | succ m ih =>
        intro i
        unfold fb
        by_cases q : (B i == 100 || B i == 108) = true
        · rw [if_pos q, ih (i + 1)]
          rw [Bool.or_eq_true, beq_iff_eq, beq_iff_eq] at q
          constructor
          · intro h j h1 h2
            by_cases d : j = i
            · rw [d]; exact q
            · exact h j (by omega) (by omega)
          · intro h j h1 h2
            exact h j (by omega) (by omega)
        · rw [if_neg q]
          constructor
          · intro h; exact absurd h (by simp)
          · intro h
            have := h i (Nat.le_refl _) (by omega)
            exact absurd (by rw [Bool.or_eq_true, beq_iff_eq, beq_iff_eq]; exact this) q
    by_cases d : rwb B f e = true
    · rw [if_pos ⟨c, d⟩, (hall (e - f) f).mpr fun j h1 h2 => rwb_iff.mp d j h1 (by omega)]
      rfl
    · rw [if_neg fun q => d q.2]
      cases hfb : fb (fun i => B i == 100 || B i == 108) (e - f) f with
      | none => exact absurd (rwb_iff.mpr fun j h1 h2 => (hall (e - f) f).mp hfb j h1 (by omega)) d
      | some j => rfl
  · rw [if_neg fun g => c (on_inj (by omega) (by decide) (g.trans (show (1 : Int32) = Int32.ofNat 1 from rfl))), if_neg fun q => c q.1]
/-- the reference stands at a token of kind k from f to e -/
def AtM (n : Nat) (I : WI) (k f e : Nat) : Prop := I 33 24 = Int32.ofNat k ∧ I 33 23 = Int32.ofNat f ∧ I 33 22 = Int32.ofNat e ∧ f ≤ e ∧ e ≤ n
theorem look_in {B : Nat → Nat} {n q : Nat} {I : WI} (T : TapM B n I) (hq : q < n) : F_X9_look I (Int32.ofNat q) = some (Int32.ofNat (B q)) := by
  rw [look_eq T (by have := T.1; omega), if_pos hq]
theorem is_M {B : Nat → Nat} {n k f e : Nat} {I : WI} (T : TapM B n I) (A : AtM n I k f e) {l a b c : Nat} (hl : 3 ≤ l) (hl' : l < 100) (ha : a < 128) (hb : b < 128) (hc : c < 128) : F_X9_is I (Int32.ofNat l) (Int32.ofNat a) (Int32.ofNat b) (Int32.ofNat c) = some (if e = f + l ∧ B f = a ∧ B (f + 1) = b ∧ B (f + 2) = c then 1 else 0) := by
  obtain ⟨a1, a2, a3, a4, a5⟩ := A
  have hn : n ≤ 320 := T.1
  unfold F_X9_is F_X9_is_58 F_X9_is_59
  rw [a2, a3, on_sub a4]
  by_cases d : e = f + l
  · rw [if_pos (by rw [d, Nat.add_sub_cancel_left]), look_in T (by omega), ob_some, la1, look_in T (by omega), ob_some, show Int32.ofNat f + 2 = Int32.ofNat (f + 2) from oadd f 2, look_in T (by omega), ob_some]
    have h0 := (T.2.2.2 f (by omega)).1
    have h1 := (T.2.2.2 (f + 1) (by omega)).1
    have h2 := (T.2.2.2 (f + 2) (by omega)).1
    by_cases g1 : B f = a
    · rw [if_pos (by rw [g1])]
      by_cases g2 : B (f + 1) = b
      · rw [if_pos (by rw [g2])]
        by_cases g3 : B (f + 2) = c
        · rw [if_pos (by rw [g3]), if_pos ⟨d, g1, g2, g3⟩]
        · rw [if_neg fun q => g3 (on_inj (by omega) (by omega) q), if_neg fun q => g3 q.2.2.2]
      · rw [if_neg fun q => g2 (on_inj (by omega) (by omega) q), if_neg fun q => g2 q.2.2.1]
    · rw [if_neg fun q => g1 (on_inj (by omega) (by omega) q), if_neg fun q => g1 q.2.1]
  · rw [if_neg fun g => d (by have := on_inj (by omega) (by omega) g; omega), if_neg fun q => d q.1]
theorem goesOn_M {B : Nat → Nat} {n k f e : Nat} {I : WI} (T : TapM B n I) (A : AtM n I k f e) {at' a b c : Nat} (h1 : f + at' < e) (h2 : b ≠ 0 → f + at' + 1 < e) (h3 : c ≠ 0 → f + at' + 2 < e) (ha : a < 128) (hb : b < 128) (hc : c < 128) : F_X9_goesOn I (Int32.ofNat at') (Int32.ofNat a) (Int32.ofNat b) (Int32.ofNat c) = some (if B (f + at') = a ∧ (b = 0 ∨ B (f + at' + 1) = b) ∧ (c = 0 ∨ B (f + at' + 2) = c) then 1 else 0) := by
  obtain ⟨a1, a2, a3, a4, a5⟩ := A
  have hn : n ≤ 320 := T.1
  have hz : ∀ x, x < 128 → (Int32.ofNat x = 0 ↔ x = 0) := by decide
  have h34 : F_X9_goesOn_34 I (Int32.ofNat at') (Int32.ofNat a) (Int32.ofNat b) (Int32.ofNat c) = some (if c = 0 ∨ B (f + at' + 2) = c then 1 else 0) := by
    unfold F_X9_goesOn_34 F_X9_goesOn_56 F_X9_goesOn_60 F_X9_goesOn_61
    by_cases g : c = 0
    · rw [if_pos ((hz c hc).mpr g), if_pos (.inl g)]
    · rw [if_neg fun q => g ((hz c hc).mp q), a2, oadd, show Int32.ofNat (f + at') + 2 = Int32.ofNat (f + at' + 2) from oadd (f + at') 2, look_in T (by have := h3 g; omega), ob_some]
      have hB := (T.2.2.2 (f + at' + 2) (by have := h3 g; omega)).1
      by_cases d : B (f + at' + 2) = c
      · rw [if_pos (by rw [d]), if_pos (.inr d)]
      · rw [if_neg fun q => d (on_inj (by omega) (by omega) q), if_neg fun q => q.elim g d]
  unfold F_X9_goesOn F_X9_goesOn_60 F_X9_goesOn_61
  rw [h34, a2, oadd, look_in T (by omega), ob_some]
  have hB := (T.2.2.2 (f + at') (by omega)).1
  by_cases d1 : B (f + at') = a
  · rw [if_pos (by rw [d1])]
    by_cases g : b = 0
    · rw [if_pos ((hz b hb).mpr g)]
      by_cases d3 : c = 0 ∨ B (f + at' + 2) = c
      · rw [if_pos d3, if_pos ⟨d1, .inl g, d3⟩]
      · rw [if_neg d3, if_neg fun q => d3 q.2.2]
    · rw [if_neg fun q => g ((hz b hb).mp q), la1, look_in T (by have := h2 g; omega), ob_some]
      have hB2 := (T.2.2.2 (f + at' + 1) (by have := h2 g; omega)).1
      by_cases d2 : B (f + at' + 1) = b
      · rw [if_pos (by rw [d2])]
        by_cases d3 : c = 0 ∨ B (f + at' + 2) = c
        · rw [if_pos d3, if_pos ⟨d1, .inr d2, d3⟩]
        · rw [if_neg d3, if_neg fun q => d3 q.2.2]
      · rw [if_neg fun q => d2 (on_inj (by omega) (by omega) q), if_neg fun q => q.2.1.elim g d2]
  · rw [if_neg fun q => d1 (on_inj (by omega) (by omega) q), if_neg fun q => d1 q.1]
/-! words: the class's names are the reference's -/
theorem nmb_0 {B : Nat → Nat} {f e : Nat} : nmb B f e 0 = true ↔ e = f + 5 ∧ B f = 99 ∧ B (f + 1) = 108 ∧ B (f + 2) = 111 ∧ B (f + 3) = 116 ∧ B (f + 4) = 104 := by
  have hl : wlen 0 = 5 := by decide
  rw [nmb_iff, hl]
  constructor
  · rintro ⟨a, h⟩
    exact ⟨a, (h 0 (by decide)).trans (by decide : wchr 0 0 = 99), (h 1 (by decide)).trans (by decide : wchr 0 1 = 108), (h 2 (by decide)).trans (by decide : wchr 0 2 = 111), (h 3 (by decide)).trans (by decide : wchr 0 3 = 116), (h 4 (by decide)).trans (by decide : wchr 0 4 = 104)⟩
  · rintro ⟨a, h0, h1, h2, h3, h4⟩
    refine ⟨a, fun i hi => ?_⟩
    rcases (show i = 0 ∨ i = 1 ∨ i = 2 ∨ i = 3 ∨ i = 4 by omega) with rfl | rfl | rfl | rfl | rfl
    · exact h0.trans (by decide : 99 = wchr 0 0)
    · exact h1.trans (by decide : 108 = wchr 0 1)
    · exact h2.trans (by decide : 111 = wchr 0 2)
    · exact h3.trans (by decide : 116 = wchr 0 3)
    · exact h4.trans (by decide : 104 = wchr 0 4)
theorem nmb_1 {B : Nat → Nat} {f e : Nat} : nmb B f e 1 = true ↔ e = f + 7 ∧ B f = 112 ∧ B (f + 1) = 97 ∧ B (f + 2) = 116 ∧ B (f + 3) = 116 ∧ B (f + 4) = 101 ∧ B (f + 5) = 114 ∧ B (f + 6) = 110 := by
  have hl : wlen 1 = 7 := by decide
  rw [nmb_iff, hl]
  constructor
  · rintro ⟨a, h⟩
    exact ⟨a, (h 0 (by decide)).trans (by decide : wchr 1 0 = 112), (h 1 (by decide)).trans (by decide : wchr 1 1 = 97), (h 2 (by decide)).trans (by decide : wchr 1 2 = 116), (h 3 (by decide)).trans (by decide : wchr 1 3 = 116), (h 4 (by decide)).trans (by decide : wchr 1 4 = 101), (h 5 (by decide)).trans (by decide : wchr 1 5 = 114), (h 6 (by decide)).trans (by decide : wchr 1 6 = 110)⟩
  · rintro ⟨a, h0, h1, h2, h3, h4, h5, h6⟩
    refine ⟨a, fun i hi => ?_⟩
    rcases (show i = 0 ∨ i = 1 ∨ i = 2 ∨ i = 3 ∨ i = 4 ∨ i = 5 ∨ i = 6 by omega) with rfl | rfl | rfl | rfl | rfl | rfl | rfl
    · exact h0.trans (by decide : 112 = wchr 1 0)
    · exact h1.trans (by decide : 97 = wchr 1 1)
    · exact h2.trans (by decide : 116 = wchr 1 2)
    · exact h3.trans (by decide : 116 = wchr 1 3)
    · exact h4.trans (by decide : 101 = wchr 1 4)
    · exact h5.trans (by decide : 114 = wchr 1 5)
    · exact h6.trans (by decide : 110 = wchr 1 6)
theorem nmb_2 {B : Nat → Nat} {f e : Nat} : nmb B f e 2 = true ↔ e = f + 3 ∧ B f = 100 ∧ B (f + 1) = 97 ∧ B (f + 2) = 121 := by
  have hl : wlen 2 = 3 := by decide
  rw [nmb_iff, hl]
  constructor
  · rintro ⟨a, h⟩
    exact ⟨a, (h 0 (by decide)).trans (by decide : wchr 2 0 = 100), (h 1 (by decide)).trans (by decide : wchr 2 1 = 97), (h 2 (by decide)).trans (by decide : wchr 2 2 = 121)⟩
  · rintro ⟨a, h0, h1, h2⟩
    refine ⟨a, fun i hi => ?_⟩
    rcases (show i = 0 ∨ i = 1 ∨ i = 2 by omega) with rfl | rfl | rfl
    · exact h0.trans (by decide : 100 = wchr 2 0)
    · exact h1.trans (by decide : 97 = wchr 2 1)
    · exact h2.trans (by decide : 121 = wchr 2 2)
theorem nmb_3 {B : Nat → Nat} {f e : Nat} : nmb B f e 3 = true ↔ e = f + 3 ∧ B f = 114 ∧ B (f + 1) = 111 ∧ B (f + 2) = 119 := by
  have hl : wlen 3 = 3 := by decide
  rw [nmb_iff, hl]
  constructor
  · rintro ⟨a, h⟩
    exact ⟨a, (h 0 (by decide)).trans (by decide : wchr 3 0 = 114), (h 1 (by decide)).trans (by decide : wchr 3 1 = 111), (h 2 (by decide)).trans (by decide : wchr 3 2 = 119)⟩
  · rintro ⟨a, h0, h1, h2⟩
    refine ⟨a, fun i hi => ?_⟩
    rcases (show i = 0 ∨ i = 1 ∨ i = 2 by omega) with rfl | rfl | rfl
    · exact h0.trans (by decide : 114 = wchr 3 0)
    · exact h1.trans (by decide : 111 = wchr 3 1)
    · exact h2.trans (by decide : 119 = wchr 3 2)
theorem nmb_4 {B : Nat → Nat} {f e : Nat} : nmb B f e 4 = true ↔ e = f + 6 ∧ B f = 99 ∧ B (f + 1) = 111 ∧ B (f + 2) = 108 ∧ B (f + 3) = 117 ∧ B (f + 4) = 109 ∧ B (f + 5) = 110 := by
  have hl : wlen 4 = 6 := by decide
  rw [nmb_iff, hl]
  constructor
  · rintro ⟨a, h⟩
    exact ⟨a, (h 0 (by decide)).trans (by decide : wchr 4 0 = 99), (h 1 (by decide)).trans (by decide : wchr 4 1 = 111), (h 2 (by decide)).trans (by decide : wchr 4 2 = 108), (h 3 (by decide)).trans (by decide : wchr 4 3 = 117), (h 4 (by decide)).trans (by decide : wchr 4 4 = 109), (h 5 (by decide)).trans (by decide : wchr 4 5 = 110)⟩
  · rintro ⟨a, h0, h1, h2, h3, h4, h5⟩
    refine ⟨a, fun i hi => ?_⟩
    rcases (show i = 0 ∨ i = 1 ∨ i = 2 ∨ i = 3 ∨ i = 4 ∨ i = 5 by omega) with rfl | rfl | rfl | rfl | rfl | rfl
    · exact h0.trans (by decide : 99 = wchr 4 0)
    · exact h1.trans (by decide : 111 = wchr 4 1)
    · exact h2.trans (by decide : 108 = wchr 4 2)
    · exact h3.trans (by decide : 117 = wchr 4 3)
    · exact h4.trans (by decide : 109 = wchr 4 4)
    · exact h5.trans (by decide : 110 = wchr 4 5)
theorem nmb_5 {B : Nat → Nat} {f e : Nat} : nmb B f e 5 = true ↔ e = f + 5 ∧ B f = 115 ∧ B (f + 1) = 108 ∧ B (f + 2) = 97 ∧ B (f + 3) = 110 ∧ B (f + 4) = 116 := by
  have hl : wlen 5 = 5 := by decide
  rw [nmb_iff, hl]
  constructor
  · rintro ⟨a, h⟩
    exact ⟨a, (h 0 (by decide)).trans (by decide : wchr 5 0 = 115), (h 1 (by decide)).trans (by decide : wchr 5 1 = 108), (h 2 (by decide)).trans (by decide : wchr 5 2 = 97), (h 3 (by decide)).trans (by decide : wchr 5 3 = 110), (h 4 (by decide)).trans (by decide : wchr 5 4 = 116)⟩
  · rintro ⟨a, h0, h1, h2, h3, h4⟩
    refine ⟨a, fun i hi => ?_⟩
    rcases (show i = 0 ∨ i = 1 ∨ i = 2 ∨ i = 3 ∨ i = 4 by omega) with rfl | rfl | rfl | rfl | rfl
    · exact h0.trans (by decide : 115 = wchr 5 0)
    · exact h1.trans (by decide : 108 = wchr 5 1)
    · exact h2.trans (by decide : 97 = wchr 5 2)
    · exact h3.trans (by decide : 110 = wchr 5 3)
    · exact h4.trans (by decide : 116 = wchr 5 4)
theorem lineNow_M {B : Nat → Nat} {n f e : Nat} {I : WI} (T : TapM B n I) (A : AtM n I 1 f e) : F_X9_lineNow I = some (if nmb B f e 0 = true then 10 else if nmb B f e 1 = true then 11 else if nmb B f e 2 = true then 12 else -4) := by
  have h0 : F_X9_is I 5 99 108 111 = _ := is_M (l := 5) (a := 99) (b := 108) (c := 111) T A (by decide) (by decide) (by decide) (by decide) (by decide)
  have h1 : F_X9_is I 7 112 97 116 = _ := is_M (l := 7) (a := 112) (b := 97) (c := 116) T A (by decide) (by decide) (by decide) (by decide) (by decide)
  have h2 : F_X9_is I 3 100 97 121 = _ := is_M (l := 3) (a := 100) (b := 97) (c := 121) T A (by decide) (by decide) (by decide) (by decide) (by decide)
  have h75 : F_X9_lineNow_75 I = some (if nmb B f e 2 = true then 12 else -4) := by
    unfold F_X9_lineNow_75 F_X9_lineNow_96
    rw [h2, ob_some]
    by_cases c : e = f + 3 ∧ B f = 100 ∧ B (f + 1) = 97 ∧ B (f + 2) = 121
    · rw [if_pos c, if_neg (show ¬ (1 : Int32) = 0 by decide), if_pos (nmb_2.mpr c)]
    · rw [if_neg c, if_pos rfl, if_neg fun q => c (nmb_2.mp q)]
  have h30 : F_X9_lineNow_30 I = some (if nmb B f e 1 = true then 11 else if nmb B f e 2 = true then 12 else -4) := by
    unfold F_X9_lineNow_30
    rw [h1, ob_some]
    by_cases c : e = f + 7 ∧ B f = 112 ∧ B (f + 1) = 97 ∧ B (f + 2) = 116
    · rw [if_pos c, if_neg (show ¬ (1 : Int32) = 0 by decide)]
      have g1 : F_X9_goesOn I 3 116 101 114 = _ := goesOn_M (at' := 3) (a := 116) (b := 101) (c := 114) T A (by omega) (fun _ => by omega) (fun _ => by omega) (by decide) (by decide) (by decide)
      have g2 : F_X9_goesOn I 6 110 0 0 = _ := goesOn_M (at' := 6) (a := 110) (b := 0) (c := 0) T A (by omega) (fun q => absurd rfl q) (fun q => absurd rfl q) (by decide) (by decide) (by decide)
      rw [g1, ob_some]
      by_cases d : B (f + 3) = 116 ∧ (101 = 0 ∨ B (f + 3 + 1) = 101) ∧ (114 = 0 ∨ B (f + 3 + 2) = 114)
      · rw [if_pos d, if_neg (show ¬ (1 : Int32) = 0 by decide), g2, ob_some]
        by_cases k : B (f + 6) = 110 ∧ (0 = 0 ∨ B (f + 6 + 1) = 0) ∧ (0 = 0 ∨ B (f + 6 + 2) = 0)
        · rw [if_pos k, if_neg (show ¬ (1 : Int32) = 0 by decide), if_pos (nmb_1.mpr ⟨c.1, c.2.1, c.2.2.1, c.2.2.2, d.1, d.2.1.resolve_left (by decide), d.2.2.resolve_left (by decide), k.1⟩)]
        · rw [if_neg k, if_pos rfl, h75, if_neg fun q => k ⟨(nmb_1.mp q).2.2.2.2.2.2.2, .inl rfl, .inl rfl⟩]
      · rw [if_neg d, if_pos rfl, h75, if_neg fun q => d ⟨(nmb_1.mp q).2.2.2.2.1, .inr (nmb_1.mp q).2.2.2.2.2.1, .inr (nmb_1.mp q).2.2.2.2.2.2.1⟩]
    · rw [if_neg c, if_pos rfl, h75, if_neg fun q => c ⟨(nmb_1.mp q).1, (nmb_1.mp q).2.1, (nmb_1.mp q).2.2.1, (nmb_1.mp q).2.2.2.1⟩]
  unfold F_X9_lineNow
  rw [h0, ob_some]
  by_cases c : e = f + 5 ∧ B f = 99 ∧ B (f + 1) = 108 ∧ B (f + 2) = 111
  · rw [if_pos c, if_neg (show ¬ (1 : Int32) = 0 by decide)]
    have g1 : F_X9_goesOn I 3 116 104 0 = _ := goesOn_M (at' := 3) (a := 116) (b := 104) (c := 0) T A (by omega) (fun _ => by omega) (fun q => absurd rfl q) (by decide) (by decide) (by decide)
    rw [g1, ob_some]
    by_cases d : B (f + 3) = 116 ∧ (104 = 0 ∨ B (f + 3 + 1) = 104) ∧ (0 = 0 ∨ B (f + 3 + 2) = 0)
    · rw [if_pos d, if_neg (show ¬ (1 : Int32) = 0 by decide), if_pos (nmb_0.mpr ⟨c.1, c.2.1, c.2.2.1, c.2.2.2, d.1, d.2.1.resolve_left (by decide)⟩)]
    · rw [if_neg d, if_pos rfl, h30, if_neg fun q => d ⟨(nmb_0.mp q).2.2.2.2.1, .inr (nmb_0.mp q).2.2.2.2.2, .inl rfl⟩]
  · rw [if_neg c, if_pos rfl, h30, if_neg fun q => c ⟨(nmb_0.mp q).1, (nmb_0.mp q).2.1, (nmb_0.mp q).2.2.1, (nmb_0.mp q).2.2.2.1⟩]
theorem actNow_M {B : Nat → Nat} {n f e : Nat} {I : WI} (T : TapM B n I) (A : AtM n I 1 f e) : F_X9_actNow I = some (if nmb B f e 3 = true then 0 else if nmb B f e 4 = true then 1 else if nmb B f e 5 = true then 2 else -4) := by
  have h3 : F_X9_is I 3 114 111 119 = _ := is_M (l := 3) (a := 114) (b := 111) (c := 119) T A (by decide) (by decide) (by decide) (by decide) (by decide)
  have h4 : F_X9_is I 6 99 111 108 = _ := is_M (l := 6) (a := 99) (b := 111) (c := 108) T A (by decide) (by decide) (by decide) (by decide) (by decide)
  have h5 : F_X9_is I 5 115 108 97 = _ := is_M (l := 5) (a := 115) (b := 108) (c := 97) T A (by decide) (by decide) (by decide) (by decide) (by decide)
  have h47 : F_X9_actNow_47 I = some (if nmb B f e 5 = true then 2 else -4) := by
    unfold F_X9_actNow_47 F_X9_actNow_78 F_X9_actNow_80
    rw [h5, ob_some]
    by_cases c : e = f + 5 ∧ B f = 115 ∧ B (f + 1) = 108 ∧ B (f + 2) = 97
    · rw [if_pos c, if_neg (show ¬ (1 : Int32) = 0 by decide)]
      have g1 : F_X9_goesOn I 3 110 116 0 = _ := goesOn_M (at' := 3) (a := 110) (b := 116) (c := 0) T A (by omega) (fun _ => by omega) (fun q => absurd rfl q) (by decide) (by decide) (by decide)
      rw [g1, ob_some]
      by_cases d : B (f + 3) = 110 ∧ (116 = 0 ∨ B (f + 3 + 1) = 116) ∧ (0 = 0 ∨ B (f + 3 + 2) = 0)
      · rw [if_pos d, if_neg (show ¬ (1 : Int32) = 0 by decide), if_pos (nmb_5.mpr ⟨c.1, c.2.1, c.2.2.1, c.2.2.2, d.1, d.2.1.resolve_left (by decide)⟩)]
      · rw [if_neg d, if_pos rfl, if_neg fun q => d ⟨(nmb_5.mp q).2.2.2.2.1, .inr (nmb_5.mp q).2.2.2.2.2, .inl rfl⟩]
    · rw [if_neg c, if_pos rfl, if_neg fun q => c ⟨(nmb_5.mp q).1, (nmb_5.mp q).2.1, (nmb_5.mp q).2.2.1, (nmb_5.mp q).2.2.2.1⟩]
  unfold F_X9_actNow
  rw [h3, ob_some]
  by_cases c : e = f + 3 ∧ B f = 114 ∧ B (f + 1) = 111 ∧ B (f + 2) = 119
  · rw [if_pos c, if_neg (show ¬ (1 : Int32) = 0 by decide), if_pos (nmb_3.mpr c)]
  rw [if_neg c, if_pos rfl, if_neg (show ¬ nmb B f e 3 = true from fun q => c (nmb_3.mp q)), h4, ob_some]
  by_cases c4 : e = f + 6 ∧ B f = 99 ∧ B (f + 1) = 111 ∧ B (f + 2) = 108
  · rw [if_pos c4, if_neg (show ¬ (1 : Int32) = 0 by decide)]
    have g1 : F_X9_goesOn I 3 117 109 110 = _ := goesOn_M (at' := 3) (a := 117) (b := 109) (c := 110) T A (by omega) (fun _ => by omega) (fun _ => by omega) (by decide) (by decide) (by decide)
    rw [g1, ob_some]
    by_cases d : B (f + 3) = 117 ∧ (109 = 0 ∨ B (f + 3 + 1) = 109) ∧ (110 = 0 ∨ B (f + 3 + 2) = 110)
    · rw [if_pos d, if_neg (show ¬ (1 : Int32) = 0 by decide), if_pos (nmb_4.mpr ⟨c4.1, c4.2.1, c4.2.2.1, c4.2.2.2, d.1, d.2.1.resolve_left (by decide), d.2.2.resolve_left (by decide)⟩)]
    · rw [if_neg d, if_pos rfl, h47, if_neg fun q => d ⟨(nmb_4.mp q).2.2.2.2.1, .inr (nmb_4.mp q).2.2.2.2.2.1, .inr (nmb_4.mp q).2.2.2.2.2.2⟩]
  · rw [if_neg c4, if_pos rfl, h47, if_neg fun q => c4 ⟨(nmb_4.mp q).1, (nmb_4.mp q).2.1, (nmb_4.mp q).2.2.1, (nmb_4.mp q).2.2.2.1⟩]
theorem rowName_M {B : Nat → Nat} {n k f e : Nat} {I : WI} (T : TapM B n I) (A : AtM n I k f e) (hk : k ≤ 4) : F_X9_isRowName I = some (if k = 1 ∧ rwb B f e = true then 1 else 0) := by
  obtain ⟨a1, a2, a3, a4, a5⟩ := A
  have hn : n ≤ 320 := T.1
  have hl : ∀ b : Bool, F_X9_isRowName_13 I (if b = true then 1 else 0) = some (if b = true ∧ rwb B f e = true then 1 else 0) := by
    intro b
    have hg : ∀ (m i : Nat) (b : Bool), i + m = e → f ≤ i → ∃ x, frp0 (fun i x => F_X9_isRowName_27_1 I i x) (Int32.ofNat e) m (Int32.ofNat i) (if b = true then 1 else 0) = some x ∧ ((b = true ∧ ∀ j, i ≤ j → j < e → B j = 100 ∨ B j = 108) → p2 x = 1) ∧ (¬ (b = true ∧ ∀ j, i ≤ j → j < e → B j = 100 ∨ B j = 108) → p2 x = 0) := by
      intro m
      induction m with
      | zero =>
        intro i b hi _
        rw [frp0]
        refine ⟨_, rfl, fun q => if_pos q.1, fun q => if_neg fun r => q ⟨r, fun j h1 h2 => by omega⟩⟩
      | succ m ih =>
        intro i b hi hf
        rw [frp0]
        have hlt : ¬ Int32.ofNat e ≤ Int32.ofNat i := fun q => absurd ((ge_on (by omega) (by omega)).mp q) (by omega)
        rw [if_neg hlt]
        have hB := (T.2.2.2 i (by omega)).1
        obtain ⟨-, -, -, -, u1, u2'⟩ := ub_t (B i) hB
        have hs : F_X9_isRowName_27_1 I (Int32.ofNat i) (if b = true then 1 else 0) = some (if (b && (B i == 100 || B i == 108)) = true then 1 else 0) := by
          unfold F_X9_isRowName_27_1 F_X9_isRowName_55_1 F_X9_isRowName_51_1 F_X9_isRowName_56_1
          rw [look_in T (by omega), ob_some, ob_some]
          cases b
          · rfl
          · rw [if_neg (show ¬ (if true = true then (1 : Int32) else 0) = 0 by decide), Bool.true_and]
            by_cases g1 : B i = 100
            · rw [if_pos (u1.mpr g1), g1]
              rfl
            rw [if_neg fun q => g1 (u1.mp q)]
            by_cases g2 : B i = 108
            · rw [if_pos (u2'.mpr g2), g2]
              rfl
            · rw [if_neg fun q => g2 (u2'.mp q), if_neg]
              rw [Bool.or_eq_true, beq_iff_eq, beq_iff_eq]
              exact fun q => q.elim g1 g2
        rw [hs, la1]
        obtain ⟨x, x1, x2, x3⟩ := ih (i + 1) (b && (B i == 100 || B i == 108)) (by omega) (by omega)
        refine ⟨x, x1, fun g => x2 ⟨?_, fun j h1 h2 => g.2 j (by omega) h2⟩, fun g => x3 ?_⟩
        · rw [Bool.and_eq_true, Bool.or_eq_true, beq_iff_eq, beq_iff_eq]
          exact ⟨g.1, g.2 i (Nat.le_refl _) (by omega)⟩
        · rintro ⟨g1, g2⟩
          rw [Bool.and_eq_true, Bool.or_eq_true, beq_iff_eq, beq_iff_eq] at g1
          refine g ⟨g1.1, fun j h1 h2 => ?_⟩
          by_cases d : j = i
          · rw [d]; exact g1.2
          · exact g2 j (by omega) h2
    obtain ⟨x, x1, x2, x3⟩ := hg (e - f) f b (by omega) (Nat.le_refl _)
    have hfu : fu (Int32.ofNat f) (Int32.ofNat e) = e - f := by
      unfold fu
      rw [on_toInt (by omega), on_toInt (by omega)]
      omega
    unfold F_X9_isRowName_13 F_X9_isRowName_19
    rw [a2, a3, hfu, x1, ob_some]
    unfold F_X9_isRowName_63
    by_cases g : b = true ∧ rwb B f e = true
    · rw [if_pos g, x2 ⟨g.1, rwb_iff.mp g.2⟩]
      rfl
    · rw [if_neg g, x3 fun q => g ⟨q.1, rwb_iff.mpr q.2⟩]
      rfl
  unfold F_X9_isRowName
  rw [a1]
  by_cases c : k = 1
  · rw [if_pos (by rw [c]; rfl)]
    have := hl true
    rw [if_pos rfl] at this
    rw [this]
    by_cases d : rwb B f e = true
    · rw [if_pos ⟨rfl, d⟩, if_pos ⟨c, d⟩]
    · rw [if_neg fun q => d q.2, if_neg fun q => d q.2]
  · rw [if_neg fun g => c (on_inj (by omega) (by decide) (g.trans (show (1 : Int32) = Int32.ofNat 1 from rfl)))]
    have := hl false
    rw [if_neg (by decide)] at this
    rw [this, if_neg (by simp), if_neg fun q => c q.1]
/-! rows of the text, as they are read: the class -/
theorem te_le {B : Nat → Nat} {n f : Nat} (h : f ≤ n) : f ≤ te B n f ∧ te B n f ≤ n ∧ (tk B n f = 1 → f < te B n f) ∧ (tk B n f = 3 → te B n f = f + 1) ∧ (tk B n f = 2 → f < te B n f) ∧ tk B n f ≤ 4 ∧ (tk B n f ≠ 0 → f < n) := by
  unfold te tk
  by_cases c : n ≤ f
  · rw [if_pos c, if_pos c]
    exact ⟨by omega, by omega, fun q => by omega, fun q => by omega, fun q => by omega, by omega, fun q => by omega⟩
  rw [if_neg c, if_neg c]
  by_cases d1 : B f = 59
  · rw [if_pos d1, if_pos d1]
    exact ⟨by omega, by omega, fun q => by omega, fun q => rfl, fun q => by omega, by omega, fun q => by omega⟩
  rw [if_neg d1, if_neg d1]
  by_cases d2 : isLt (B f) = true
  · rw [if_pos d2, if_pos d2]
    have h1 := scan_le (P := fun j => isLt (B j)) (n := n) (n - f) f
    have h2 := scan_end (P := fun j => isLt (B j)) (n := n) (n - f) f (by omega)
    have h3 : f < tle B n f := by
      refine Classical.byContradiction fun g => ?_
      have : scan (fun j => isLt (B j)) n (n - f) f = f := by unfold tle at g; omega
      rw [this] at h2
      exact h2 ⟨by omega, d2⟩
    unfold tle at h3 ⊢
    exact ⟨by omega, h1.2 h, fun _ => h3, fun q => by omega, fun q => by omega, by omega, fun q => by omega⟩
  rw [if_neg d2, if_neg d2]
  have h1 := scan_le (P := fun j => isFg (B j)) (n := n) (n - f) f
  unfold tfe
  by_cases d3 : isFg (B f) = true ∧ scan (fun j => isFg (B j)) n (n - f) f - f ≤ 2
  · rw [if_pos d3]
    have h3 := (tv_b (n := n) (q := f) (by omega) d3.1 d3.2).1
    unfold tfe at h3
    exact ⟨h1.1, h1.2 h, fun q => by omega, fun q => by omega, fun q => by omega, by omega, fun q => by omega⟩
  · rw [if_neg d3]
    exact ⟨h1.1, h1.2 h, fun q => by omega, fun q => by omega, fun q => by omega, by omega, fun q => by omega⟩
theorem tf_le {B : Nat → Nat} {n p : Nat} (h : p ≤ n) : p ≤ tf B n p ∧ tf B n p ≤ n := ⟨(scan_le (n - p) p).1, (scan_le (n - p) p).2 h⟩
/-- the squares of a row, joined -/
def rs (B : Nat → Nat) (f m : Nat) : Nat → Int64 → Int64
  | 0, x => x
  | c + 1, x => rs B f m c x ||| (if B (f + c) = 100 then lsh 1 (Int32.ofNat (8 * m + c)) else 0)
def goodRow (B : Nat → Nat) (n m wd f : Nat) : Bool := tk B n f == 1 && rwb B f (te B n f) && decide (te B n f - f ≤ 8) && (m == 0 || te B n f - f == wd) && decide (m < 8)
theorem goodRow_iff {B : Nat → Nat} {n m wd f : Nat} : goodRow B n m wd f = true ↔ tk B n f = 1 ∧ rwb B f (te B n f) = true ∧ te B n f - f ≤ 8 ∧ (m = 0 ∨ te B n f - f = wd) ∧ m < 8 := by
  unfold goodRow
  simp only [Bool.and_eq_true, Bool.or_eq_true, beq_iff_eq, decide_eq_true_eq, and_assoc]
def rowsS (B : Nat → Nat) (n : Nat) : Nat → Nat → Nat → Int64 → Nat → Nat ⊕ (Nat × Nat × Nat × Int64)
  | 0, _, _, _, p => .inl (tf B n p)
  | u + 1, m, wd, X, p => if 0 < m ∧ tk B n (tf B n p) = 3 then .inr (te B n (tf B n p), m, wd, X) else if goodRow B n m wd (tf B n p) = true then rowsS B n u (m + 1) (te B n (tf B n p) - tf B n p) (rs B (tf B n p) m (te B n (tf B n p) - tf B n p) X) (te B n (tf B n p)) else .inl (tf B n p)
theorem rs_ins {B : Nat → Nat} {f m wd : Nat} {X : Int64} (hm : m < 8) (hX : Ins (m + 1) wd X) : ∀ c, c ≤ wd → wd ≤ 8 → Ins (m + 1) wd (rs B f m c X) := by
  intro c
  induction c with
  | zero => intro _ _; exact hX
  | succ c ih =>
    intro hc hw
    unfold rs
    refine (ih (by omega) hw).or ?_
    split
    · intro k hk
      rw [M_bit (by omega)] at hk
      omega
    · exact zero_ins
theorem rowsS_ok {B : Nat → Nat} {n : Nat} : ∀ (u m wd : Nat) (X : Int64) (p : Nat) (r : Nat × Nat × Nat × Int64), p ≤ n → m ≤ 8 → (0 < m → 1 ≤ wd ∧ wd ≤ 8 ∧ Ins m wd X) → (m = 0 → X = 0) → rowsS B n u m wd X p = .inr r → p < p1 r ∧ p1 r ≤ n ∧ Cl (p1 (p2 r)) (p1 (p2 (p2 r))) ∧ Ins (p1 (p2 r)) (p1 (p2 (p2 r))) (p2 (p2 (p2 r))) := by
  intro u
  induction u with
  | zero => intro m wd X p r _ _ _ _ h; exact absurd h (by simp [rowsS])
  | succ u ih =>
    intro m wd X p r hp hm h1 h0 h
    have hf := tf_le (B := B) hp
    obtain ⟨e1, e2, e3, e4, -⟩ := te_le (B := B) (f := tf B n p) hf.2
    unfold rowsS at h
    by_cases c : 0 < m ∧ tk B n (tf B n p) = 3
    · rw [if_pos c] at h
      have hr : r = (te B n (tf B n p), m, wd, X) := (Sum.inr.inj h).symm
      have := e4 c.2
      obtain ⟨w1, w2, w3⟩ := h1 c.1
      rw [hr]
      exact ⟨by show p < te B n (tf B n p); omega, e2, ⟨⟨c.1, hm⟩, w1, w2⟩, w3⟩
    rw [if_neg c] at h
    by_cases d : goodRow B n m wd (tf B n p) = true
    · rw [if_pos d] at h
      obtain ⟨g1, g2, g3, g4, g5⟩ := goodRow_iff.mp d
      have hlt := e3 g1
      have hins : Ins (m + 1) (te B n (tf B n p) - tf B n p) X := by
        by_cases q : m = 0
        · rw [h0 q]; exact zero_ins
        · have hw := g4.resolve_left q
          rw [hw]
          intro k hk
          have := (h1 (by omega)).2.2 k hk
          omega
      have := ih (m + 1) _ _ _ r (by omega) (by omega) (fun _ => ⟨by omega, g3, rs_ins g5 hins _ (Nat.le_refl _) g3⟩) (fun q => absurd q (by omega)) h
      exact ⟨by omega, this.2⟩
    · rw [if_neg d] at h
      exact absurd h (by simp)
/-- a fault is known, or can be told at f -/
def FS (f : Nat) (I : WI) : Prop := (I 11 3 = 0 ∧ I 11 7 = Int32.ofNat f) ∨ (¬ I 11 3 = 0 ∧ I 11 5 = Int32.ofNat f)
/-- a fault at g -/
def Fa (g : Nat) (I : WI) : Prop := ¬ I 11 3 = 0 ∧ I 11 5 = Int32.ofNat g
theorem refuse_at {f : Nat} {I : WI} {c : Int32} (h : FS f I) (hc : c ≠ 0) : ∃ I', F_X6_refuse I c = (0, I') ∧ Ft I I' ∧ Fa f I' := by
  rcases h with ⟨h1, h2⟩ | h
  · refine ⟨_, refuse_0 h1, Ft.rfl.u.u, ?_, ?_⟩
    · rw [u2_nc (by omega), u2_at]
      exact hc
    · rw [u2_at, h2]
  · exact ⟨I, refuse_1 h.1, Ft.rfl, h⟩
theorem step_FS {B : Nat → Nat} {n p : Nat} {I I' : WI} (S : StepC B n p I I') : FS (tf B n p) I' := by
  obtain ⟨s1, s2, s3, s4⟩ := S
  by_cases c : tk B n (tf B n p) = 4
  · obtain ⟨-, a, b⟩ := s4 c
    exact .inr ⟨by rw [a]; decide, b⟩
  · exact .inl ⟨(s3 c).2.2.1, s2⟩
theorem step_At {B : Nat → Nat} {n p : Nat} {I I' : WI} (hp : p ≤ n) (S : StepC B n p I I') (c : tk B n (tf B n p) ≠ 4) : AtC n I' (tk B n (tf B n p)) (tf B n p) (te B n (tf B n p)) := by
  obtain ⟨s1, s2, s3, s4⟩ := S
  have hf := tf_le (B := B) hp
  have he := te_le (B := B) (f := tf B n p) hf.2
  exact ⟨(s3 c).1, s2, (s3 c).2.1, he.1, he.2.1⟩
/-- the class's row -/
theorem takeRow_C {B : Nat → Nat} {n p m wd : Nat} {I0 I : WI} {L : WL} {o : Nat} (ho : o = 12 ∨ o = 13) (T : Tap B n I) (hp : p ≤ n) (S : StepC B n p I0 I) (hm : m ≤ 8) (e1 : I o 1 = Int32.ofNat m) (e2 : 0 < m → I o 2 = Int32.ofNat wd) (hwd : wd ≤ 8) : if goodRow B n m wd (tf B n p) = true then F_X6_takeRow I L o = some (1, u2 (u2 I o 2 (Int32.ofNat (te B n (tf B n p) - tf B n p))) o 1 (Int32.ofNat (m + 1)), u2 L o 3 (rs B (tf B n p) m (te B n (tf B n p) - tf B n p) (L o 3))) else ∃ I', F_X6_takeRow I L o = some (0, I', L) ∧ Ft I I' ∧ Fa (tf B n p) I' := by
  have hn : n ≤ 320 := T.1
  have hf := tf_le (B := B) hp
  have hFS := step_FS S
  have hbad : ∀ c : Int32, c ≠ 0 → ∃ I', (if bz (p1 (F_X6_refuse I c)) = (p1 (F_X6_refuse I c)) then some ((p1 (F_X6_refuse I c)), (p2 (F_X6_refuse I c)), L) else none) = some (0, I', L) ∧ Ft I I' ∧ Fa (tf B n p) I' := by
    intro c hc
    obtain ⟨I', r1, r2, r3⟩ := refuse_at hFS hc
    refine ⟨I', ?_, r2, r3⟩
    rw [r1]
    show (if bz (0 : Int32) = 0 then some ((0 : Int32), I', L) else none) = _
    rw [if_pos (by decide)]
  by_cases c4 : tk B n (tf B n p) = 4
  · have hng : ¬ goodRow B n m wd (tf B n p) = true := fun q => by have := (goodRow_iff.mp q).1; omega
    rw [if_neg hng]
    unfold F_X6_takeRow F_X6_isRow
    rw [(S.2.2.2 c4).1, if_neg (show ¬ (4 : Int32) = 1 by decide), if_pos rfl]
    exact hbad 2 (by decide)
  have hA := step_At hp S c4
  obtain ⟨he1, he2, he3, he4, he5, he6, he7⟩ := te_le (B := B) (f := tf B n p) hf.2
  have hrow := row_C T hA he6
  obtain ⟨a1, a2, a3, -, -⟩ := hA
  generalize tf B n p = f at *
  generalize hE : te B n f = e at *
  unfold F_X6_takeRow
  rw [hrow, a2, a3, on_sub he1]
  by_cases d1 : tk B n f = 1 ∧ rwb B f e = true
  · rw [if_pos d1, if_neg (show ¬ (1 : Int32) = 0 by decide)]
    by_cases d2 : 8 < e - f
    · have hng : ¬ goodRow B n m wd f = true := fun q => by have := (goodRow_iff.mp q).2.2.1; rw [hE] at this; omega
      rw [if_neg hng, if_pos (show (8 : Int32) < Int32.ofNat (e - f) from (lt_onn (a := 8) (by decide) (by omega)).mpr d2)]
      exact hbad 3 (by decide)
    rw [if_neg (show ¬ (8 : Int32) < Int32.ofNat (e - f) from fun q => d2 ((lt_onn (a := 8) (by decide) (by omega)).mp q)), e1]
    have h50 : if m < 8 then F_X6_takeRow_50 I L o (Int32.ofNat (e - f)) = some (1, u2 (u2 I o 2 (Int32.ofNat (e - f))) o 1 (Int32.ofNat (m + 1)), u2 L o 3 (rs B f m (e - f) (L o 3))) else ∃ I', F_X6_takeRow_50 I L o (Int32.ofNat (e - f)) = some (0, I', L) ∧ Ft I I' ∧ Fa f I' := by
      unfold F_X6_takeRow_50
      rw [e1]
      by_cases d3 : m < 8
      · rw [if_pos d3, if_pos (show Int32.ofNat m < (8 : Int32) from (lt_onn (b := 8) (by omega) (by decide)).mpr d3)]
        unfold F_X6_takeRow_72
        have hfr : ∀ k j, ¬ (k = o ∧ j = 2) → (u2 I o 2 (Int32.ofNat (e - f))) k j = I k j := fun k j q => u2_nc q
        have T2 : Tap B n (u2 I o 2 (Int32.ofNat (e - f))) := T.ag fun k j q => hfr k j (by rcases ho with rfl | rfl <;> omega)
        obtain ⟨x, x1, x2⟩ := frp0_nat (g := fun i y => F_X6_takeRow_77_1 (u2 I o 2 (Int32.ofNat (e - f))) y o (Int32.ofNat (e - f)) i) (b := e - f) (by omega) (fun i y => y = u2 L o 3 (rs B f m i (L o 3))) (s := L) (fun i y hi hy => by
          refine ⟨u2 L o 3 (rs B f m (i + 1) (L o 3)), ?_, rfl⟩
          show F_X6_takeRow_77_1 (u2 I o 2 (Int32.ofNat (e - f))) y o (Int32.ofNat (e - f)) (Int32.ofNat i) = _
          have hb := (sb_t (B (f + i)) (T.2.2.2 (f + i) (by omega)).1).2.2.2.2.2.1
          unfold F_X6_takeRow_77_1 F_X6_takeRow_115_1
          rw [hfr 11 7 (by rcases ho with rfl | rfl <;> omega), a2, oadd, byteAt_eq T2 (by omega), hfr o 1 (by omega), e1, lm8, oadd, hy, u2_at]
          show _ = some (u2 L o 3 (rs B f m i (L o 3) ||| (if B (f + i) = 100 then lsh 1 (Int32.ofNat (8 * m + i)) else 0)))
          by_cases q : B (f + i) = 100
          · rw [if_pos (hb.mpr q), if_pos q, u2_u2]
          · rw [if_neg fun r => q (hb.mp r), if_neg q, or_0]) u2_id.symm
        rw [x1, ob_some]
        unfold F_X6_takeRow_121
        rw [x2, hfr o 1 (by omega), e1, la1]
      · rw [if_neg d3, if_neg (show ¬ Int32.ofNat m < (8 : Int32) from fun q => d3 ((lt_onn (b := 8) (by omega) (by decide)).mp q))]
        exact hbad 5 (by decide)
    by_cases d4 : m = 0
    · rw [if_pos (show Int32.ofNat m ≤ 0 by rw [d4]; decide)]
      rw [if_pos (show m < 8 by omega)] at h50
      rw [if_pos (goodRow_iff.mpr ⟨d1.1, by rw [hE]; exact d1.2, by rw [hE]; omega, .inl d4, by omega⟩)]
      exact h50
    rw [if_neg (show ¬ Int32.ofNat m ≤ 0 from fun q => d4 (by have := (ge_on (b := 0) (by omega) (by decide)).mp q; omega)), e2 (by omega)]
    by_cases d5 : e - f = wd
    · by_cases d3 : m < 8
      · rw [if_pos d3] at h50
        rw [if_pos (goodRow_iff.mpr ⟨d1.1, by rw [hE]; exact d1.2, by rw [hE]; omega, .inr (by rw [hE]; exact d5), d3⟩), if_pos (show Int32.ofNat (e - f) = Int32.ofNat wd by rw [d5])]
        exact h50
      · rw [if_neg d3] at h50
        rw [if_neg (show ¬ goodRow B n m wd f = true from fun q => d3 (goodRow_iff.mp q).2.2.2.2), if_pos (show Int32.ofNat (e - f) = Int32.ofNat wd by rw [d5])]
        exact h50
    · have hng : ¬ goodRow B n m wd f = true := fun q => by
        have := (goodRow_iff.mp q).2.2.2.1
        rw [hE] at this
        exact this.elim d4 d5
      rw [if_neg hng, if_neg (show ¬ Int32.ofNat (e - f) = Int32.ofNat wd from fun q => d5 (on_inj (by omega) (by omega) q))]
      exact hbad 3 (by decide)
  · rw [if_neg d1, if_pos rfl]
    have hng : ¬ goodRow B n m wd f = true := fun q => d1 ⟨(goodRow_iff.mp q).1, by have := (goodRow_iff.mp q).2.1; rw [hE] at this; exact this⟩
    rw [if_neg hng]
    exact hbad 2 (by decide)
/-- what may change while rows are read -/
def Fr (o : Nat) (I J : WI) : Prop := ∀ k j, k ≠ 11 → ¬ (k = o ∧ (j = 1 ∨ j = 2)) → J k j = I k j
theorem Ft.fr {o : Nat} {I J : WI} (h : Ft I J) : Fr o I J := fun k j a _ => h k j a
theorem Fr.trans {o : Nat} {I J K : WI} (a : Fr o I J) (b : Fr o J K) : Fr o I K := fun k j p q => (b k j p q).trans (a k j p q)
theorem Fr.u {o j : Nat} {I J : WI} {x : Int32} (a : Fr o I J) (h : j = 1 ∨ j = 2) : Fr o I (u2 J o j x) := fun k j' p q => by
  rw [u2_nc (fun r => q ⟨r.1, by rw [r.2]; exact h⟩)]
  exact a k j' p q
theorem Fr.tap {o : Nat} {I J : WI} {B : Nat → Nat} {n : Nat} (ho : o = 12 ∨ o = 13) (a : Fr o I J) (T : Tap B n I) : Tap B n J := T.ag fun k j h => a k j (by omega) (by rcases ho with rfl | rfl <;> omega)
def FrL (o : Nat) (L K : WL) : Prop := ∀ k j, ¬ (k = o ∧ j = 3) → K k j = L k j
theorem FrL.rfl {o : Nat} {L : WL} : FrL o L L := fun _ _ _ => Eq.refl _
theorem FrL.u {o : Nat} {L K : WL} {x : Int64} (a : FrL o L K) : FrL o L (u2 K o 3 x) := fun k j q => (u2_nc q).trans (a k j q)
theorem FrL.trans {o : Nat} {I J K : WL} (a : FrL o I J) (b : FrL o J K) : FrL o I K := fun k j p => (b k j p).trans (a k j p)
/-- how the class ends with rows -/
def RowsEnd (o : Nat) (I : WI) (L : WL) (x : Nat ⊕ (Nat × Nat × Nat × Int64)) (v : Int32) (I' : WI) (L' : WL) : Prop := Fr o I I' ∧ FrL o L L' ∧ match x with
  | .inl g => v = 0 ∧ Fa g I'
  | .inr r => v = 1 ∧ I' 11 3 = 0 ∧ I' 11 8 = Int32.ofNat (p1 r) ∧ I' o 1 = Int32.ofNat (p1 (p2 r)) ∧ I' o 2 = Int32.ofNat (p1 (p2 (p2 r))) ∧ L' o 3 = p2 (p2 (p2 r))
theorem rows_C {B : Nat → Nat} {n o : Nat} (ho : o = 12 ∨ o = 13) : ∀ (u m wd : Nat) (I : WI) (L : WL) (p fuel : Nat), u + m = 9 → u < fuel → Tap B n I → p ≤ n → I 11 8 = Int32.ofNat p → I 11 3 = 0 → I o 1 = Int32.ofNat m → (0 < m → I o 2 = Int32.ofNat wd) → wd ≤ 8 → 1 ≤ u → ∃ v I' L', lpp (fun x => F_X6_takeRows_25_1 (p1 (p2 x)) (p2 (p2 x)) o (p1 x)) fuel (Int32.ofNat m, I, L) = some (.inl (v, I', L')) ∧ RowsEnd o I L (rowsS B n u m wd (L o 3) p) v I' L' := by
  intro u
  induction u with
  | zero => intro m wd I L p fuel _ _ _ _ _ _ _ _ _ h; omega
  | succ u ih =>
    intro m wd I L p fuel hu hf T hp e8 e3 e1 e2 hwd _
    obtain ⟨fuel, rfl⟩ : ∃ g, fuel = g + 1 := ⟨fuel - 1, by omega⟩
    have hn : n ≤ 320 := T.1
    obtain ⟨J, j1, S⟩ := step_C T hp e8 e3
    have TJ := S.1.tap T
    have hfp := tf_le (B := B) hp
    have jo : ∀ j, J o j = I o j := fun j => S.1 o j (by rcases ho with rfl | rfl <;> omega)
    have hrow := takeRow_C (L := L) (wd := wd) ho TJ hp S (show m ≤ 8 by omega) ((jo 1).trans e1) (fun q => (jo 2).trans (e2 q)) hwd
    have hl : ∀ r, F_X6_takeRows_25_1 I L o (Int32.ofNat m) = some (.inl r) → lpp (fun x : Int32 × WI × WL => F_X6_takeRows_25_1 (p1 (p2 x)) (p2 (p2 x)) o (p1 x)) (fuel + 1) (Int32.ofNat m, I, L) = some r := fun r h => lpp_l (f := (fun x : Int32 × WI × WL => F_X6_takeRows_25_1 (p1 (p2 x)) (p2 (p2 x)) o (p1 x))) (s := (Int32.ofNat m, I, L)) h
    have hr : ∀ s, F_X6_takeRows_25_1 I L o (Int32.ofNat m) = some (.inr s) → lpp (fun x : Int32 × WI × WL => F_X6_takeRows_25_1 (p1 (p2 x)) (p2 (p2 x)) o (p1 x)) (fuel + 1) (Int32.ofNat m, I, L) = lpp (fun x : Int32 × WI × WL => F_X6_takeRows_25_1 (p1 (p2 x)) (p2 (p2 x)) o (p1 x)) fuel s := fun s h => lpp_r (f := (fun x : Int32 × WI × WL => F_X6_takeRows_25_1 (p1 (p2 x)) (p2 (p2 x)) o (p1 x))) (s := (Int32.ofNat m, I, L)) h
    have hm8 : ¬ (8 : Int32) < Int32.ofNat m := fun q => absurd ((lt_onn (a := 8) (by decide) (by omega)).mp q) (by omega)
    have h25 : F_X6_takeRows_25_1 I L o (Int32.ofNat m) = if 0 < m ∧ tk B n (tf B n p) = 3 then some (.inl (.inl (1, J, L))) else F_X6_takeRows_52_1 J L o (Int32.ofNat m) := by
      unfold F_X6_takeRows_25_1
      rw [if_neg hm8, j1, ob_some, jo 1, e1]
      by_cases c : 0 < m
      · rw [if_neg (show ¬ Int32.ofNat m ≤ 0 from fun q => absurd ((ge_on (b := 0) (by omega) (by decide)).mp q) (by omega))]
        have hk6 : J 11 6 = Int32.ofNat (tk B n (tf B n p)) := by
          by_cases d : tk B n (tf B n p) = 4
          · rw [(S.2.2.2 d).1, d]
            rfl
          · exact (S.2.2.1 d).1
        have hk4 := (te_le (B := B) (f := tf B n p) hfp.2).2.2.2.2.2.1
        by_cases d : tk B n (tf B n p) = 3
        · rw [if_pos (by rw [hk6, d]; rfl), if_pos ⟨c, d⟩]
        · rw [if_neg (show ¬ J 11 6 = 3 from fun q => d (on_inj (b := 3) (by omega) (by decide) (hk6.symm.trans q))), if_neg fun q => d q.2]
      · rw [if_pos (show Int32.ofNat m ≤ 0 from (ge_on (b := 0) (by omega) (by decide)).mpr (by omega)), if_neg fun q => c q.1]
    unfold rowsS
    by_cases c : 0 < m ∧ tk B n (tf B n p) = 3
    · rw [if_pos c] at h25
      rw [if_pos c, hl _ h25]
      obtain ⟨s1, s2, s3, -⟩ := S.2.2.1 (by omega)
      exact ⟨1, J, L, rfl, S.1.fr, FrL.rfl, rfl, s3, s2, (jo 1).trans e1, (jo 2).trans (e2 c.1), rfl⟩
    rw [if_neg c] at h25
    rw [if_neg c]
    by_cases d : goodRow B n m wd (tf B n p) = true
    · rw [if_pos d] at hrow
      rw [if_pos d]
      have hk1 := (goodRow_iff.mp d).1
      have hg := goodRow_iff.mp d
      obtain ⟨s1, s2, s3, -⟩ := S.2.2.1 (by omega)
      have hte := te_le (B := B) (f := tf B n p) hfp.2
      unfold F_X6_takeRows_52_1 at h25
      rw [hrow, ob_some] at h25
      have h25' : F_X6_takeRows_25_1 I L o (Int32.ofNat m) = some (.inr (Int32.ofNat m + 1, u2 (u2 J o 2 (Int32.ofNat (te B n (tf B n p) - tf B n p))) o 1 (Int32.ofNat (m + 1)), u2 L o 3 (rs B (tf B n p) m (te B n (tf B n p) - tf B n p) (L o 3)))) := h25
      rw [hr _ h25', la1]
      generalize hJ2 : u2 (u2 J o 2 (Int32.ofNat (te B n (tf B n p) - tf B n p))) o 1 (Int32.ofNat (m + 1)) = J2
      have hfr : Fr o J J2 := by rw [← hJ2]; exact (Ft.rfl.fr.u (.inr rfl)).u (.inl rfl)
      have h11 : ∀ j, J2 11 j = J 11 j := fun j => by rw [← hJ2, u2_nc (by rcases ho with rfl | rfl <;> omega), u2_nc (by rcases ho with rfl | rfl <;> omega)]
      obtain ⟨v, I', L', r1, r2, r3, r4⟩ := ih (m + 1) (te B n (tf B n p) - tf B n p) J2 (u2 L o 3 (rs B (tf B n p) m (te B n (tf B n p) - tf B n p) (L o 3))) (te B n (tf B n p)) fuel (by omega) (by omega) (hfr.tap ho TJ) hte.2.1 ((h11 8).trans s2) ((h11 3).trans s3) (by rw [← hJ2, u2_at]) (fun _ => by rw [← hJ2, u2_nc (by omega), u2_at]) hg.2.2.1 (by omega)
      rw [u2_at] at r4
      exact ⟨v, I', L', r1, (S.1.fr.trans hfr).trans r2, (FrL.rfl.u).trans r3, r4⟩
    · rw [if_neg d] at hrow
      rw [if_neg d]
      obtain ⟨J', q1, q2, q3⟩ := hrow
      unfold F_X6_takeRows_52_1 at h25
      rw [q1, ob_some] at h25
      have h25' : F_X6_takeRows_25_1 I L o (Int32.ofNat m) = some (.inl (.inl (0, J', L))) := h25
      rw [hl _ h25']
      exact ⟨0, J', L, rfl, (S.1.trans q2).fr, FrL.rfl, rfl, q3⟩
/-! days of the text, as they are read: the class -/
def kdS (B : Nat → Nat) (f e : Nat) : Nat := if nmb B f e 3 = true then 0 else if nmb B f e 4 = true then 1 else if nmb B f e 5 = true then 2 else 3
def okNum (B : Nat → Nat) (n kd f : Nat) : Bool := tk B n f == 2 && decide (tv B n f ≤ if kd = 2 then 14 else 7)
def actsS (B : Nat → Nat) (n : Nat) : Nat → List Nat → Nat → Nat ⊕ (Nat × List Nat)
  | 0, _, p => .inl (tf B n p)
  | u + 1, l, p => if 0 < l.length ∧ tk B n (tf B n p) = 3 then .inr (te B n (tf B n p), l) else if tk B n (tf B n p) = 1 ∧ kdS B (tf B n p) (te B n (tf B n p)) < 3 ∧ l.length < 3 then (if okNum B n (kdS B (tf B n p) (te B n (tf B n p))) (tf B n (te B n (tf B n p))) = true then actsS B n u (l ++ [20 * kdS B (tf B n p) (te B n (tf B n p)) + tv B n (tf B n (te B n (tf B n p)))]) (te B n (tf B n (te B n (tf B n p)))) else .inl (tf B n (te B n (tf B n p)))) else .inl (tf B n p)
theorem kind_C {B : Nat → Nat} {n k f e : Nat} {I : WI} (T : Tap B n I) (A : AtC n I k f e) (hk : k ≤ 4) : F_X6_kindNamed I = some (if k = 1 ∧ kdS B f e < 3 then Int32.ofNat (kdS B f e) else -1) := by
  unfold F_X6_kindNamed F_X6_kindNamed_36 kdS
  rw [named_C T A hk (by decide : 3 < 6), named_C T A hk (by decide : 4 < 6), named_C T A hk (by decide : 5 < 6), ob_some, ob_some, ob_some]
  by_cases c : k = 1
  · by_cases c3 : nmb B f e 3 = true
    · rw [if_pos (show k = 1 ∧ nmb B f e 3 = true from ⟨c, c3⟩), if_neg (show ¬ (1 : Int32) = 0 by decide), if_pos c3, if_pos (show k = 1 ∧ (0 : Nat) < 3 from ⟨c, by decide⟩)]
      rfl
    rw [if_neg (show ¬ (k = 1 ∧ nmb B f e 3 = true) from fun q => c3 q.2), if_pos rfl, if_neg c3]
    by_cases c4 : nmb B f e 4 = true
    · rw [if_pos (show k = 1 ∧ nmb B f e 4 = true from ⟨c, c4⟩), if_neg (show ¬ (1 : Int32) = 0 by decide), if_pos c4, if_pos (show k = 1 ∧ (1 : Nat) < 3 from ⟨c, by decide⟩)]
      rfl
    rw [if_neg (show ¬ (k = 1 ∧ nmb B f e 4 = true) from fun q => c4 q.2), if_pos rfl, if_neg c4]
    by_cases c5 : nmb B f e 5 = true
    · rw [if_pos (show k = 1 ∧ nmb B f e 5 = true from ⟨c, c5⟩), if_neg (show ¬ (1 : Int32) = 0 by decide), if_pos c5, if_pos (show k = 1 ∧ (2 : Nat) < 3 from ⟨c, by decide⟩)]
      rfl
    · rw [if_neg (show ¬ (k = 1 ∧ nmb B f e 5 = true) from fun q => c5 q.2), if_pos rfl, if_neg c5, if_neg (show ¬ (k = 1 ∧ (3 : Nat) < 3) from fun q => absurd q.2 (by decide))]
  · rw [if_neg (show ¬ (k = 1 ∧ nmb B f e 3 = true) from fun q => c q.1), if_pos rfl, if_neg (show ¬ (k = 1 ∧ nmb B f e 4 = true) from fun q => c q.1), if_pos rfl, if_neg (show ¬ (k = 1 ∧ nmb B f e 5 = true) from fun q => c q.1), if_pos rfl, if_neg fun q => c q.1]
/-- what may change while a day N is read -/
def Fdy (N : Nat) (I J : WI) : Prop := ∀ k j, k ≠ 11 → ¬ (k = 15 ∧ j = N) → ¬ (k = 16 ∧ 3 * N ≤ j) → J k j = I k j
theorem Ft.fdy {N : Nat} {I J : WI} (h : Ft I J) : Fdy N I J := fun k j a _ _ => h k j a
theorem Fdy.trans {N : Nat} {I J K : WI} (a : Fdy N I J) (b : Fdy N J K) : Fdy N I K := fun k j p q r => (b k j p q r).trans (a k j p q r)
theorem Fdy.tap {N : Nat} {I J : WI} {B : Nat → Nat} {n : Nat} (a : Fdy N I J) (T : Tap B n I) : Tap B n J := T.ag fun k j h => a k j (by omega) (by omega) (by omega)
/-- the acts of the day that is read -/
def DayC (N : Nat) (l : List Nat) (I : WI) : Prop := I 14 0 = Int32.ofNat (N + 1) ∧ I 15 N = Int32.ofNat l.length ∧ ∀ j, j < l.length → I 16 (3 * N + j) = Int32.ofNat (l.getD j 0)
def DayEnd (N : Nat) (I : WI) (x : Nat ⊕ (Nat × List Nat)) (v : Int32) (I' : WI) : Prop := Fdy N I I' ∧ match x with
  | .inl g => v = 0 ∧ Fa g I'
  | .inr r => v = 1 ∧ I' 11 3 = 0 ∧ I' 11 8 = Int32.ofNat (p1 r) ∧ DayC N (p2 r) I'
theorem kind_4 {I : WI} (h : I 11 6 = 4) : F_X6_kindNamed I = some (-1) := by
  have hn : ∀ t, F_X6_isNamed I t = some 0 := fun t => by
    unfold F_X6_isNamed
    rw [h, if_neg (show ¬ (4 : Int32) = 1 by decide)]
    rfl
  unfold F_X6_kindNamed
  rw [hn, hn, hn]
  rfl
theorem kdS_le {B : Nat → Nat} {f e : Nat} : kdS B f e ≤ 3 := by
  unfold kdS
  split
  · decide
  split
  · decide
  split <;> decide
theorem add_C {N kd v : Nat} {l : List Nat} {I : WI} (hN : N < 12) (hl : l.length < 3) (D : DayC N l I) : Fdy N I (F_X1_add I 14 (Int32.ofNat kd) (Int32.ofNat v)) ∧ (∀ j, F_X1_add I 14 (Int32.ofNat kd) (Int32.ofNat v) 11 j = I 11 j) ∧ DayC N (l ++ [20 * kd + v]) (F_X1_add I 14 (Int32.ofNat kd) (Int32.ofNat v)) := by
  obtain ⟨d1, d2, d3⟩ := D
  have hm : Int32.ofNat (N + 1) - 1 = Int32.ofNat N := by
    have := on_sub (a := N + 1) (b := 1) (by omega)
    rw [Nat.add_sub_cancel] at this
    exact this
  have ha : F_X1_actsOf I 14 (Int32.ofNat N) = Int32.ofNat l.length := by
    unfold F_X1_actsOf F_X1_actsOf_31
    rw [d1, if_neg (show ¬ Int32.ofNat N < 0 from fun q => absurd ((lt_onn (b := 0) (by omega) (by decide)).mp q) (by omega)), if_neg (show ¬ Int32.ofNat (N + 1) ≤ Int32.ofNat N from fun q => absurd ((ge_on (by omega) (by omega)).mp q) (by omega)), if_neg (show ¬ (12 : Int32) ≤ Int32.ofNat N from fun q => absurd ((ge_on (a := 12) (by decide) (by omega)).mp q) (by omega)), on_clamp (by omega), d2]
  have he : F_X1_add I 14 (Int32.ofNat kd) (Int32.ofNat v) = u2 (u2 I 16 (3 * N + l.length) (Int32.ofNat (20 * kd + v))) 15 N (Int32.ofNat (l.length + 1)) := by
    unfold F_X1_add F_X1_add_69
    rw [d1, hm, ha, lm3, oadd, if_neg (show ¬ Int32.ofNat N < 0 from fun q => absurd ((lt_onn (b := 0) (by omega) (by decide)).mp q) (by omega)), if_neg (show ¬ (12 : Int32) ≤ Int32.ofNat N from fun q => absurd ((ge_on (a := 12) (by decide) (by omega)).mp q) (by omega)), if_neg (show ¬ Int32.ofNat (3 * N + l.length) < 0 from fun q => absurd ((lt_onn (b := 0) (by omega) (by decide)).mp q) (by omega)), if_neg (show ¬ (36 : Int32) ≤ Int32.ofNat (3 * N + l.length) from fun q => absurd ((ge_on (a := 36) (by decide) (by omega)).mp q) (by omega)), on_clamp (by omega), on_clamp (by omega)]
    have h20 : (20 : Int32) * Int32.ofNat kd + Int32.ofNat v = Int32.ofNat (20 * kd + v) := by rw [← oadd]; exact congrArg (· + Int32.ofNat v) (Int32.ofNat_mul 20 kd).symm
    rw [h20]
    show u2 (u2 I 16 (3 * N + l.length) (Int32.ofNat (20 * kd + v))) 15 N (u2 I 16 (3 * N + l.length) (Int32.ofNat (20 * kd + v)) 15 N + 1) = _
    rw [u2_nc (by omega), d2, la1]
  rw [he]
  refine ⟨fun k j h1 h2 h3 => ?_, fun j => ?_, ?_, ?_, fun j hj => ?_⟩
  · rw [u2_nc h2, u2_nc (by omega)]
  · rw [u2_nc (by omega), u2_nc (by omega)]
  · rw [u2_nc (by omega), u2_nc (by omega), d1]
  · rw [u2_at, List.length_append]
    rfl
  · rw [List.length_append] at hj
    have hj' : j < l.length + 1 := hj
    rw [u2_nc (by omega)]
    by_cases c : j = l.length
    · rw [c, u2_at, List.getD_eq_getElem?_getD, List.getElem?_append_right (Nat.le_refl _), Nat.sub_self]
      rfl
    · rw [u2_nc (by omega), d3 j (by omega), List.getD_eq_getElem?_getD, List.getD_eq_getElem?_getD, List.getElem?_append_left (by omega)]
theorem DayC.ft {N : Nat} {l : List Nat} {I J : WI} (D : DayC N l I) (h : Ft I J) : DayC N l J := ⟨(h 14 0 (by decide)).trans D.1, (h 15 N (by decide)).trans D.2.1, fun j hj => (h 16 _ (by decide)).trans (D.2.2 j hj)⟩
/-- the class's number of an act -/
theorem number_C {B : Nat → Nat} {n p N kd : Nat} {l : List Nat} {I0 I : WI} (hp : p ≤ n) (S : StepC B n p I0 I) (hkd : kd < 3) (hN : N < 12) (hl : l.length < 3) (D : DayC N l I) : if okNum B n kd (tf B n p) = true then ∃ I', F_X6_takeNumber I (Int32.ofNat kd) = some (1, I') ∧ Fdy N I I' ∧ (∀ j, I' 11 j = I 11 j) ∧ DayC N (l ++ [20 * kd + tv B n (tf B n p)]) I' else ∃ I', F_X6_takeNumber I (Int32.ofNat kd) = some (0, I') ∧ Ft I I' ∧ Fa (tf B n p) I' := by
  have hFS := step_FS S
  have hbad : ∀ c : Int32, c ≠ 0 → ∃ I', (if bz (p1 (F_X6_refuse I c)) = (p1 (F_X6_refuse I c)) then some ((p1 (F_X6_refuse I c)), (p2 (F_X6_refuse I c))) else none) = some (0, I') ∧ Ft I I' ∧ Fa (tf B n p) I' := by
    intro c hc
    obtain ⟨I', r1, r2, r3⟩ := refuse_at hFS hc
    refine ⟨I', ?_, r2, r3⟩
    rw [r1]
    show (if bz (0 : Int32) = 0 then some ((0 : Int32), I') else none) = _
    rw [if_pos (by decide)]
  unfold F_X6_takeNumber F_X6_takeNumber_30
  by_cases c : tk B n (tf B n p) = 2
  · obtain ⟨s1, s2, s3, s4⟩ := S.2.2.1 (by omega)
    have h9 := s4 c
    have hf := tf_le (B := B) hp
    have hv : tv B n (tf B n p) ≤ 99 := by
      have hq := (te_le (B := B) (f := tf B n p) hf.2).2.2.2.2.2.2 (by omega)
      unfold tk at c
      rw [if_neg (show ¬ n ≤ tf B n p by omega)] at c
      by_cases d1 : B (tf B n p) = 59
      · rw [if_pos d1] at c; omega
      rw [if_neg d1] at c
      by_cases d2 : isLt (B (tf B n p)) = true
      · rw [if_pos d2] at c; omega
      rw [if_neg d2] at c
      by_cases d3 : isFg (B (tf B n p)) = true ∧ tfe B n (tf B n p) - tf B n p ≤ 2
      · exact (tv_b hq d3.1 d3.2).2.1
      · rw [if_neg d3] at c; omega
    rw [s1, c, if_pos (show Int32.ofNat 2 = 2 from rfl), h9]
    have key : ∀ lim, lim < 100 → okNum B n kd (tf B n p) = decide (tv B n (tf B n p) ≤ lim) → if okNum B n kd (tf B n p) = true then ∃ I', (if Int32.ofNat (tv B n (tf B n p)) ≤ Int32.ofNat lim then some ((1 : Int32), F_X1_add I 14 (Int32.ofNat kd) (I 11 9)) else (if bz (p1 (F_X6_refuse I 3)) = (p1 (F_X6_refuse I 3)) then some ((p1 (F_X6_refuse I 3)), (p2 (F_X6_refuse I 3))) else none)) = some (1, I') ∧ Fdy N I I' ∧ (∀ j, I' 11 j = I 11 j) ∧ DayC N (l ++ [20 * kd + tv B n (tf B n p)]) I' else ∃ I', (if Int32.ofNat (tv B n (tf B n p)) ≤ Int32.ofNat lim then some ((1 : Int32), F_X1_add I 14 (Int32.ofNat kd) (I 11 9)) else (if bz (p1 (F_X6_refuse I 3)) = (p1 (F_X6_refuse I 3)) then some ((p1 (F_X6_refuse I 3)), (p2 (F_X6_refuse I 3))) else none)) = some (0, I') ∧ Ft I I' ∧ Fa (tf B n p) I' := by
      intro lim hlim hok
      rw [hok]
      by_cases d : tv B n (tf B n p) ≤ lim
      · rw [if_pos (decide_eq_true d), if_pos ((ge_on (by omega) (by omega)).mpr d), h9]
        exact ⟨_, rfl, add_C hN hl D⟩
      · rw [if_neg (show ¬ decide (tv B n (tf B n p) ≤ lim) = true by rw [decide_eq_true_eq]; exact d), if_neg fun q => d ((ge_on (by omega) (by omega)).mp q)]
        exact hbad 3 (by decide)
    rw [← h9]
    by_cases k2 : kd = 2
    · rw [if_pos (show Int32.ofNat kd = 2 by rw [k2]; rfl)]
      have := key 14 (by decide) (by unfold okNum; rw [c, k2]; rfl)
      rw [← h9] at this
      exact this
    · rw [if_neg (show ¬ Int32.ofNat kd = 2 from fun q => k2 (on_inj (b := 2) (by omega) (by decide) q))]
      have := key 7 (by decide) (by unfold okNum; rw [c, if_neg k2]; rfl)
      rw [← h9] at this
      exact this
  · have hng : ¬ okNum B n kd (tf B n p) = true := fun q => by
      unfold okNum at q
      rw [Bool.and_eq_true, beq_iff_eq] at q
      exact c q.1
    have h6 : ¬ I 11 6 = 2 := by
      by_cases c4 : tk B n (tf B n p) = 4
      · rw [(S.2.2.2 c4).1]; decide
      · rw [(S.2.2.1 c4).1]
        have hf := tf_le (B := B) hp
        have := (te_le (B := B) (f := tf B n p) hf.2).2.2.2.2.2.1
        exact fun q => c (on_inj (b := 2) (by omega) (by decide) q)
    rw [if_neg hng, if_neg h6]
    exact hbad 2 (by decide)
theorem acts_C {B : Nat → Nat} {n N : Nat} (hN : N < 12) : ∀ (u : Nat) (l : List Nat) (I : WI) (p fuel : Nat), u + l.length = 4 → u < fuel → Tap B n I → p ≤ n → I 11 8 = Int32.ofNat p → I 11 3 = 0 → DayC N l I → 1 ≤ u → ∃ v I', lpp (fun x => F_X6_takeDay_27_1 (p2 x) (p1 x)) fuel (Int32.ofNat l.length, I) = some (.inl (v, I')) ∧ DayEnd N I (actsS B n u l p) v I' := by
  intro u
  induction u with
  | zero => intro l I p fuel _ _ _ _ _ _ _ h; omega
  | succ u ih =>
    intro l I p fuel hu hf T hp e8 e3 D _
    obtain ⟨fuel, rfl⟩ : ∃ g, fuel = g + 1 := ⟨fuel - 1, by omega⟩
    have hn : n ≤ 320 := T.1
    obtain ⟨J, j1, S⟩ := step_C T hp e8 e3
    have TJ := S.1.tap T
    have hfp := tf_le (B := B) hp
    have hte := te_le (B := B) (f := tf B n p) hfp.2
    have hFS := step_FS S
    have DJ := D.ft S.1
    have hl : ∀ r, F_X6_takeDay_27_1 I (Int32.ofNat l.length) = some (.inl r) → lpp (fun x : Int32 × WI => F_X6_takeDay_27_1 (p2 x) (p1 x)) (fuel + 1) (Int32.ofNat l.length, I) = some r := fun r h => lpp_l (f := (fun x : Int32 × WI => F_X6_takeDay_27_1 (p2 x) (p1 x))) (s := (Int32.ofNat l.length, I)) h
    have hr : ∀ s, F_X6_takeDay_27_1 I (Int32.ofNat l.length) = some (.inr s) → lpp (fun x : Int32 × WI => F_X6_takeDay_27_1 (p2 x) (p1 x)) (fuel + 1) (Int32.ofNat l.length, I) = lpp (fun x : Int32 × WI => F_X6_takeDay_27_1 (p2 x) (p1 x)) fuel s := fun s h => lpp_r (f := (fun x : Int32 × WI => F_X6_takeDay_27_1 (p2 x) (p1 x))) (s := (Int32.ofNat l.length, I)) h
    have hm3 : ¬ (3 : Int32) < Int32.ofNat l.length := fun q => absurd ((lt_onn (a := 3) (by decide) (by omega)).mp q) (by omega)
    have hk6 : J 11 6 = Int32.ofNat (tk B n (tf B n p)) := by
      by_cases d : tk B n (tf B n p) = 4
      · rw [(S.2.2.2 d).1, d]
        rfl
      · exact (S.2.2.1 d).1
    have h27 : F_X6_takeDay_27_1 I (Int32.ofNat l.length) = if 0 < l.length ∧ tk B n (tf B n p) = 3 then some (.inl (.inl (1, J))) else F_X6_takeDay_50_1 J (Int32.ofNat l.length) := by
      unfold F_X6_takeDay_27_1
      rw [if_neg hm3, j1, ob_some]
      by_cases c : 0 < l.length
      · rw [if_neg (show ¬ Int32.ofNat l.length ≤ 0 from fun q => absurd ((ge_on (b := 0) (by omega) (by decide)).mp q) (by omega))]
        have hk4 := hte.2.2.2.2.2.1
        by_cases d : tk B n (tf B n p) = 3
        · rw [if_pos (show J 11 6 = 3 by rw [hk6, d]; rfl), if_pos ⟨c, d⟩]
        · rw [if_neg (show ¬ J 11 6 = 3 from fun q => d (on_inj (b := 3) (by omega) (by decide) (hk6.symm.trans q))), if_neg fun q => d q.2]
      · rw [if_pos (show Int32.ofNat l.length ≤ 0 from (ge_on (b := 0) (by omega) (by decide)).mpr (by omega)), if_neg fun q => c q.1]
    unfold actsS
    by_cases c : 0 < l.length ∧ tk B n (tf B n p) = 3
    · rw [if_pos c] at h27
      rw [if_pos c, hl _ h27]
      obtain ⟨s1, s2, s3, -⟩ := S.2.2.1 (by omega)
      exact ⟨1, J, rfl, S.1.fdy, rfl, s3, s2, DJ⟩
    rw [if_neg c] at h27
    rw [if_neg c]
    have hbad : ∀ c : Int32, c ≠ 0 → ∃ I', (if bz (p1 (F_X6_refuse J c)) = (p1 (F_X6_refuse J c)) then some (Sum.inl (Sum.inl ((p1 (F_X6_refuse J c)), (p2 (F_X6_refuse J c))))) else none) = (some (Sum.inl (Sum.inl ((0 : Int32), I'))) : Option (((Int32 × WI) ⊕ WI) ⊕ (Int32 × WI))) ∧ Ft J I' ∧ Fa (tf B n p) I' := by
      intro c hc
      obtain ⟨I', r1, r2, r3⟩ := refuse_at hFS hc
      refine ⟨I', ?_, r2, r3⟩
      rw [r1]
      show (if bz (0 : Int32) = 0 then some (Sum.inl (Sum.inl ((0 : Int32), I'))) else none) = _
      rw [if_pos (by decide)]
    have hkn : F_X6_kindNamed J = some (if tk B n (tf B n p) = 1 ∧ kdS B (tf B n p) (te B n (tf B n p)) < 3 then Int32.ofNat (kdS B (tf B n p) (te B n (tf B n p))) else -1) := by
      by_cases c4 : tk B n (tf B n p) = 4
      · rw [kind_4 (S.2.2.2 c4).1, if_neg (show ¬ (tk B n (tf B n p) = 1 ∧ kdS B (tf B n p) (te B n (tf B n p)) < 3) from fun q => by have := q.1; omega)]
      · exact kind_C TJ (step_At hp S c4) hte.2.2.2.2.2.1
    by_cases d : tk B n (tf B n p) = 1 ∧ kdS B (tf B n p) (te B n (tf B n p)) < 3
    · rw [if_pos d] at hkn
      have hkd := d.2
      obtain ⟨s1, s2, s3, -⟩ := S.2.2.1 (by have := d.1; omega)
      have hge : (0 : Int32) ≤ Int32.ofNat (kdS B (tf B n p) (te B n (tf B n p))) := (ge_on (a := 0) (by decide) (by omega)).mpr (by omega)
      by_cases d3 : l.length < 3
      · rw [if_pos (show tk B n (tf B n p) = 1 ∧ kdS B (tf B n p) (te B n (tf B n p)) < 3 ∧ l.length < 3 from ⟨d.1, d.2, d3⟩)]
        obtain ⟨K, k1, SK⟩ := step_C TJ hte.2.1 s2 s3
        have TK := SK.1.tap TJ
        have hnum := number_C hte.2.1 SK hkd hN d3 (DJ.ft SK.1)
        unfold F_X6_takeDay_50_1 at h27
        rw [hkn, ob_some, if_pos hge, if_pos (show Int32.ofNat l.length < 3 from (lt_onn (b := 3) (by omega) (by decide)).mpr d3), k1, ob_some] at h27
        have hf2 := tf_le (B := B) hte.2.1
        have hte2 := te_le (B := B) (f := tf B n (te B n (tf B n p))) hf2.2
        by_cases o : okNum B n (kdS B (tf B n p) (te B n (tf B n p))) (tf B n (te B n (tf B n p))) = true
        · rw [if_pos o] at hnum
          rw [if_pos o]
          obtain ⟨M, m1, m2, m3, m4⟩ := hnum
          have hk2 : tk B n (tf B n (te B n (tf B n p))) = 2 := by
            unfold okNum at o
            rw [Bool.and_eq_true, beq_iff_eq] at o
            exact o.1
          obtain ⟨t1, t2, t3, -⟩ := SK.2.2.1 (by omega)
          rw [m1, ob_some] at h27
          have h27' : F_X6_takeDay_27_1 I (Int32.ofNat l.length) = some (.inr (Int32.ofNat l.length + 1, M)) := h27
          rw [hr _ h27', la1]
          have hlen : (l ++ [20 * kdS B (tf B n p) (te B n (tf B n p)) + tv B n (tf B n (te B n (tf B n p)))]).length = l.length + 1 := List.length_append
          obtain ⟨v, I', r1, r2, r3⟩ := ih (l ++ [20 * kdS B (tf B n p) (te B n (tf B n p)) + tv B n (tf B n (te B n (tf B n p)))]) M (te B n (tf B n (te B n (tf B n p)))) fuel (by rw [hlen]; omega) (by omega) (m2.tap TK) hte2.2.1 ((m3 8).trans t2) ((m3 3).trans t3) m4 (by omega)
          rw [hlen] at r1
          exact ⟨v, I', r1, ((S.1.trans SK.1).fdy.trans m2).trans r2, r3⟩
        · rw [if_neg o] at hnum
          rw [if_neg o]
          obtain ⟨M, m1, m2, m3⟩ := hnum
          rw [m1, ob_some] at h27
          have h27' : F_X6_takeDay_27_1 I (Int32.ofNat l.length) = some (.inl (.inl (0, M))) := h27
          rw [hl _ h27']
          exact ⟨0, M, rfl, ((S.1.trans SK.1).trans m2).fdy, rfl, m3⟩
      · rw [if_neg (show ¬ (tk B n (tf B n p) = 1 ∧ kdS B (tf B n p) (te B n (tf B n p)) < 3 ∧ l.length < 3) from fun q => d3 q.2.2)]
        unfold F_X6_takeDay_50_1 at h27
        rw [hkn, ob_some, if_pos hge, if_neg (show ¬ Int32.ofNat l.length < 3 from fun q => d3 ((lt_onn (b := 3) (by omega) (by decide)).mp q))] at h27
        obtain ⟨M, m1, m2, m3⟩ := hbad 5 (by decide)
        rw [m1] at h27
        rw [hl _ h27]
        exact ⟨0, M, rfl, (S.1.trans m2).fdy, rfl, m3⟩
    · rw [if_neg d] at hkn
      rw [if_neg (show ¬ (tk B n (tf B n p) = 1 ∧ kdS B (tf B n p) (te B n (tf B n p)) < 3 ∧ l.length < 3) from fun q => d ⟨q.1, q.2.1⟩)]
      unfold F_X6_takeDay_50_1 at h27
      rw [hkn, ob_some, if_neg (show ¬ (0 : Int32) ≤ -1 by decide)] at h27
      obtain ⟨M, m1, m2, m3⟩ := hbad 2 (by decide)
      rw [m1] at h27
      rw [hl _ h27]
      exact ⟨0, M, rfl, (S.1.trans m2).fdy, rfl, m3⟩
/-! lines of the text, as they are read: the class -/
/-- an image as it is read: told, height, width, squares -/
def ImR (o : Nat) (c : Nat × Nat × Nat × Int64) (I : WI) (L : WL) : Prop := I o 0 = Int32.ofNat (p1 c) ∧ I o 1 = Int32.ofNat (p1 (p2 c)) ∧ I o 2 = Int32.ofNat (p1 (p2 (p2 c))) ∧ L o 3 = p2 (p2 (p2 c))
def DayR (N : Nat) (l : List Nat) (I : WI) : Prop := I 15 N = Int32.ofNat l.length ∧ ∀ j, j < l.length → I 16 (3 * N + j) = Int32.ofNat (l.getD j 0)
def DraftC (c q : Nat × Nat × Nat × Int64) (ds : List (List Nat)) (I : WI) (L : WL) : Prop := ImR 12 c I L ∧ ImR 13 q I L ∧ I 14 0 = Int32.ofNat ds.length ∧ ∀ N, N < ds.length → DayR N (ds.getD N []) I
def ImOk (c : Nat × Nat × Nat × Int64) : Prop := p1 c ≤ 1 ∧ Cl (p1 (p2 c)) (p1 (p2 (p2 c))) ∧ Ins (p1 (p2 c)) (p1 (p2 (p2 c))) (p2 (p2 (p2 c))) ∧ (p1 c = 0 → p2 (p2 (p2 c)) = 0)
def DsOk (ds : List (List Nat)) : Prop := ds.length ≤ 12 ∧ ∀ N, N < ds.length → 1 ≤ (ds.getD N []).length ∧ (ds.getD N []).length ≤ 3 ∧ ∀ j, j < (ds.getD N []).length → (ds.getD N []).getD j 0 < 60
def imgS (B : Nat → Nat) (n g f : Nat) : Nat ⊕ (Nat × Nat × Nat × Nat × Int64) := if g = 0 then Sum.elim .inl (fun r => .inr (p1 r, 1, p2 r)) (rowsS B n 9 0 0 0 (te B n f)) else .inl f
def lineS (B : Nat → Nat) (n : Nat) (c q : Nat × Nat × Nat × Int64) (ds : List (List Nat)) (f : Nat) : Nat ⊕ (Nat × (Nat × Nat × Nat × Int64) × (Nat × Nat × Nat × Int64) × List (List Nat)) := if tk B n f = 1 ∧ nmb B f (te B n f) 0 = true then Sum.elim .inl (fun r => .inr (p1 r, p2 r, q, ds)) (imgS B n (p1 c) f) else if tk B n f = 1 ∧ nmb B f (te B n f) 1 = true then Sum.elim .inl (fun r => .inr (p1 r, c, p2 r, ds)) (imgS B n (p1 q) f) else if tk B n f = 1 ∧ nmb B f (te B n f) 2 = true then (if ds.length < 12 then Sum.elim .inl (fun r => .inr (p1 r, c, q, ds ++ [p2 r])) (actsS B n 4 [] (te B n f)) else .inl f) else .inl f
/-- what may change while the text is read -/
def Fp (I J : WI) : Prop := ∀ k j, (k < 11 ∨ 16 < k) → J k j = I k j
def FpL (L K : WL) : Prop := ∀ k j, ¬ ((k = 12 ∨ k = 13) ∧ j = 3) → K k j = L k j
theorem Fp.rfl {I : WI} : Fp I I := fun _ _ _ => Eq.refl _
theorem FpL.rfl {L : WL} : FpL L L := fun _ _ _ => Eq.refl _
theorem Fp.trans {I J K : WI} (a : Fp I J) (b : Fp J K) : Fp I K := fun k j p => (b k j p).trans (a k j p)
theorem FpL.trans {I J K : WL} (a : FpL I J) (b : FpL J K) : FpL I K := fun k j p => (b k j p).trans (a k j p)
theorem Ft.fp {I J : WI} (h : Ft I J) : Fp I J := fun k j a => h k j (by omega)
theorem Fr.fp {o : Nat} (ho : o = 12 ∨ o = 13) {I J : WI} (h : Fr o I J) : Fp I J := fun k j a => h k j (by omega) (by rcases ho with rfl | rfl <;> omega)
theorem Fdy.fp {N : Nat} {I J : WI} (h : Fdy N I J) (h0 : J 14 0 = J 14 0) : Fp I J := fun k j a => h k j (by omega) (by omega) (by omega)
theorem Fp.u {I J : WI} {k j : Nat} {x : Int32} (a : Fp I J) (h : 11 ≤ k) (h' : k ≤ 16) : Fp I (u2 J k j x) := fun k' j' q => (u2_nc (by omega)).trans (a k' j' q)
theorem FrL.fp {o : Nat} (ho : o = 12 ∨ o = 13) {L K : WL} (h : FrL o L K) : FpL L K := fun k j a => h k j fun q => a ⟨by rw [q.1]; exact ho, q.2⟩
theorem FpL.u {o : Nat} (ho : o = 12 ∨ o = 13) {L K : WL} {x : Int64} (a : FpL L K) : FpL L (u2 K o 3 x) := fun k j q => by
  rw [u2_nc (fun r => q ⟨by rw [r.1]; exact ho, r.2⟩)]
  exact a k j q
theorem Fp.tap {I J : WI} {B : Nat → Nat} {n : Nat} (a : Fp I J) (T : Tap B n I) : Tap B n J := T.ag fun k j h => a k j (by omega)
theorem imgS_ok {B : Nat → Nat} {n g f : Nat} {r : Nat × Nat × Nat × Nat × Int64} (hf : f ≤ n) (h : imgS B n g f = .inr r) : te B n f < p1 r ∧ p1 r ≤ n ∧ ImOk (p2 r) := by
  unfold imgS at h
  have hte := te_le (B := B) hf
  by_cases c : g = 0
  · rw [if_pos c] at h
    cases hr : rowsS B n 9 0 0 0 (te B n f) with
    | inl x => rw [hr] at h; exact absurd h (by simp)
    | inr x =>
      rw [hr] at h
      have e : r = (p1 x, 1, p2 x) := (Sum.inr.inj h).symm
      obtain ⟨a1, a2, a3, a4⟩ := rowsS_ok 9 0 0 0 (te B n f) x hte.2.1 (by decide) (fun q => absurd q (by decide)) (fun _ => rfl) hr
      rw [e]
      exact ⟨a1, a2, Nat.le_refl 1, a3, a4, fun q => absurd (show (1 : Nat) = 0 from q) (by decide)⟩
  · rw [if_neg c] at h
    exact absurd h (by simp)
/-- the class's image -/
def ImgEnd (o : Nat) (I : WI) (L : WL) (x : Nat ⊕ (Nat × Nat × Nat × Nat × Int64)) (v : Int32) (I' : WI) (L' : WL) : Prop := (∀ k j, k ≠ 11 → k ≠ o → I' k j = I k j) ∧ FrL o L L' ∧ match x with
  | .inl g => v = 0 ∧ Fa g I'
  | .inr r => v = 1 ∧ I' 11 3 = 0 ∧ I' 11 8 = Int32.ofNat (p1 r) ∧ ImR o (p2 r) I' L'
theorem takeRows_C {B : Nat → Nat} {n o f : Nat} (ho : o = 12 ∨ o = 13) {I : WI} {L : WL} {c : Nat × Nat × Nat × Int64} (T : Tap B n I) (hf : f ≤ n) (e8 : I 11 8 = Int32.ofNat (te B n f)) (e3 : I 11 3 = 0) (e7 : I 11 7 = Int32.ofNat f) (hc : ImOk c) (R : ImR o c I L) : ∃ v I' L', F_X6_takeRows I L o = some (v, I', L') ∧ ImgEnd o I L (imgS B n (p1 c) f) v I' L' := by
  have hte := te_le (B := B) hf
  unfold F_X6_takeRows imgS
  rw [R.1]
  by_cases g : p1 c = 0
  · rw [if_pos g, g, if_pos (by decide)]
    have hL : L o 3 = 0 := R.2.2.2.trans (hc.2.2.2 g)
    have hfr : ∀ k j, k ≠ o → (u2 (u2 I o 0 1) o 1 0) k j = I k j := fun k j q => by rw [u2_nc (by omega), u2_nc (by omega)]
    obtain ⟨v, I', L', r1, r2, r3, r4⟩ := rows_C (o := o) ho 9 0 0 (u2 (u2 I o 0 1) o 1 0) L (te B n f) 4294967296 (by decide) (by decide) (T.ag fun k j q => hfr k j (by rcases ho with rfl | rfl <;> omega)) hte.2.1 (by rw [hfr 11 8 (by rcases ho with rfl | rfl <;> omega), e8]) (by rw [hfr 11 3 (by rcases ho with rfl | rfl <;> omega), e3]) u2_at (fun q => absurd q (by decide)) (by decide) (by decide)
    rw [hL] at r4
    refine ⟨v, I', L', ?_, fun k j q1 q2 => ?_, r3, ?_⟩
    · unfold F_X6_takeRows_25
      show (lpp (fun x => F_X6_takeRows_25_1 (p1 (p2 x)) (p2 (p2 x)) o (p1 x)) 4294967296 (Int32.ofNat 0, u2 (u2 I o 0 1) o 1 0, L)).bind _ = _
      rw [r1]
      rfl
    · rw [r2 k j q1 (fun q => q2 q.1), hfr k j q2]
    · cases hr : rowsS B n 9 0 0 0 (te B n f) with
      | inl x =>
        rw [hr] at r4
        exact r4
      | inr x =>
        rw [hr] at r4
        obtain ⟨a1, a2, a3, a4, a5, a6⟩ := r4
        refine ⟨a1, a2, a3, ?_, a4, a5, a6⟩
        rw [r2 o 0 (by rcases ho with rfl | rfl <;> decide) (by omega), u2_nc (by omega), u2_at]
        rfl
  · have g1 : p1 c = 1 := by have := hc.1; omega
    rw [if_neg g, g1, if_neg (by decide)]
    obtain ⟨J, j1, j2, j3⟩ := refuse_at (f := f) (c := 4) (.inl ⟨e3, e7⟩) (by decide)
    rw [j1]
    refine ⟨0, J, L, ?_, fun k j q1 _ => j2 k j q1, FrL.rfl, rfl, j3⟩
    show (if bz (0 : Int32) = 0 then some ((0 : Int32), J, L) else none) = _
    rw [if_pos (by decide)]
/-! the class's line and lines -/
theorem actsS_ok {B : Nat → Nat} {n : Nat} : ∀ (u : Nat) (l : List Nat) (p : Nat) (r : Nat × List Nat), p ≤ n → l.length ≤ 3 → (∀ j, j < l.length → l.getD j 0 < 60) → actsS B n u l p = .inr r → p < p1 r ∧ p1 r ≤ n ∧ 1 ≤ (p2 r).length ∧ (p2 r).length ≤ 3 ∧ ∀ j, j < (p2 r).length → (p2 r).getD j 0 < 60 := by
  intro u
  induction u with
  | zero => intro l p r _ _ _ h; exact absurd h (by simp [actsS])
  | succ u ih =>
    intro l p r hp h1 h2 h
    have hf := tf_le (B := B) hp
    obtain ⟨e1, e2, e3, e4, -⟩ := te_le (B := B) (f := tf B n p) hf.2
    unfold actsS at h
    by_cases c : 0 < l.length ∧ tk B n (tf B n p) = 3
    · rw [if_pos c] at h
      have hr : r = (te B n (tf B n p), l) := (Sum.inr.inj h).symm
      have := e4 c.2
      rw [hr]
      exact ⟨by show p < te B n (tf B n p); omega, e2, c.1, h1, h2⟩
    rw [if_neg c] at h
    by_cases d : tk B n (tf B n p) = 1 ∧ kdS B (tf B n p) (te B n (tf B n p)) < 3 ∧ l.length < 3
    · rw [if_pos d] at h
      have hlt := e3 d.1
      have hf2 := tf_le (B := B) e2
      obtain ⟨g1, g2, -⟩ := te_le (B := B) (f := tf B n (te B n (tf B n p))) hf2.2
      by_cases o : okNum B n (kdS B (tf B n p) (te B n (tf B n p))) (tf B n (te B n (tf B n p))) = true
      · rw [if_pos o] at h
        unfold okNum at o
        rw [Bool.and_eq_true, decide_eq_true_eq] at o
        have hv : tv B n (tf B n (te B n (tf B n p))) ≤ 14 := by
          have := o.2
          split at this <;> omega
        have hlen : (l ++ [20 * kdS B (tf B n p) (te B n (tf B n p)) + tv B n (tf B n (te B n (tf B n p)))]).length = l.length + 1 := List.length_append
        have := ih (l ++ [20 * kdS B (tf B n p) (te B n (tf B n p)) + tv B n (tf B n (te B n (tf B n p)))]) _ r g2 (by rw [hlen]; omega) (fun j hj => by
          rw [hlen] at hj
          by_cases q : j = l.length
          · rw [q, List.getD_eq_getElem?_getD, List.getElem?_append_right (Nat.le_refl _), Nat.sub_self]
            show 20 * kdS B (tf B n p) (te B n (tf B n p)) + tv B n (tf B n (te B n (tf B n p))) < 60
            omega
          · have := h2 j (by omega)
            rw [List.getD_eq_getElem?_getD] at this
            rw [List.getD_eq_getElem?_getD, List.getElem?_append_left (by omega)]
            exact this) h
        exact ⟨by omega, this.2⟩
      · rw [if_neg o] at h
        exact absurd h (by simp)
    · rw [if_neg d] at h
      exact absurd h (by simp)
theorem takeDay_C {B : Nat → Nat} {n f N : Nat} {I : WI} (T : Tap B n I) (hf : f ≤ n) (e8 : I 11 8 = Int32.ofNat (te B n f)) (e3 : I 11 3 = 0) (e7 : I 11 7 = Int32.ofNat f) (hN : I 14 0 = Int32.ofNat N) (hN' : N ≤ 12) : ∃ v I', F_X6_takeDay I = some (v, I') ∧ (∀ k j, k ≠ 11 → ¬ (k = 14 ∧ j = 0) → ¬ (k = 15 ∧ j = N) → ¬ (k = 16 ∧ 3 * N ≤ j) → I' k j = I k j) ∧ match (if N < 12 then actsS B n 4 [] (te B n f) else .inl f : Nat ⊕ (Nat × List Nat)) with
  | .inl g => v = 0 ∧ Fa g I'
  | .inr r => v = 1 ∧ I' 11 3 = 0 ∧ I' 11 8 = Int32.ofNat (p1 r) ∧ DayC N (p2 r) I' := by
  have hte := te_le (B := B) hf
  unfold F_X6_takeDay
  rw [hN]
  by_cases g : N < 12
  · rw [if_pos (show Int32.ofNat N < 12 from (lt_onn (b := 12) (by omega) (by decide)).mpr g), if_pos g]
    have hb : F_X1_begin I 14 = u2 (u2 I 15 N 0) 14 0 (Int32.ofNat (N + 1)) := by
      unfold F_X1_begin F_X1_begin_39
      rw [hN, if_neg (show ¬ Int32.ofNat N < 0 from fun q => absurd ((lt_onn (b := 0) (by omega) (by decide)).mp q) (by omega)), if_neg (show ¬ (12 : Int32) ≤ Int32.ofNat N from fun q => absurd ((ge_on (a := 12) (by decide) (by omega)).mp q) (by omega)), on_clamp (by omega)]
      show u2 (u2 I 15 N 0) 14 0 (u2 I 15 N 0 14 0 + 1) = _
      rw [u2_nc (by omega), hN, la1]
    rw [hb]
    have hfr : ∀ k j, ¬ (k = 14 ∧ j = 0) → ¬ (k = 15 ∧ j = N) → (u2 (u2 I 15 N 0) 14 0 (Int32.ofNat (N + 1))) k j = I k j := fun k j q1 q2 => by rw [u2_nc q1, u2_nc q2]
    obtain ⟨v, I', r1, r2, r3⟩ := acts_C (B := B) (n := n) g 4 [] (u2 (u2 I 15 N 0) 14 0 (Int32.ofNat (N + 1))) (te B n f) 4294967296 rfl (by decide) (T.ag fun k j q => hfr k j (by omega) (by omega)) hte.2.1 ((hfr 11 8 (by omega) (by omega)).trans e8) ((hfr 11 3 (by omega) (by omega)).trans e3) ⟨u2_at, by rw [u2_nc (by omega), u2_at]; rfl, fun j hj => absurd hj (Nat.not_lt_zero _)⟩ (by decide)
    refine ⟨v, I', ?_, fun k j q1 q2 q3 q4 => (r2 k j q1 q3 q4).trans (hfr k j q2 q3), r3⟩
    unfold F_X6_takeDay_27
    show (lpp (fun x => F_X6_takeDay_27_1 (p2 x) (p1 x)) 4294967296 (Int32.ofNat ([] : List Nat).length, u2 (u2 I 15 N 0) 14 0 (Int32.ofNat (N + 1)))).bind _ = _
    rw [r1]
    rfl
  · rw [if_neg (show ¬ Int32.ofNat N < 12 from fun q => g ((lt_onn (b := 12) (by omega) (by decide)).mp q)), if_neg g]
    obtain ⟨J, j1, j2, j3⟩ := refuse_at (f := f) (c := 5) (.inl ⟨e3, e7⟩) (by decide)
    rw [j1]
    refine ⟨0, J, ?_, fun k j q1 _ _ _ => j2 k j q1, rfl, j3⟩
    show (if bz (0 : Int32) = 0 then some ((0 : Int32), J) else none) = _
    rw [if_pos (by decide)]
theorem ImR.ag {o : Nat} {c : Nat × Nat × Nat × Int64} {I J : WI} {L K : WL} (R : ImR o c I L) (h1 : ∀ j, J o j = I o j) (h2 : K o 3 = L o 3) : ImR o c J K := ⟨(h1 0).trans R.1, (h1 1).trans R.2.1, (h1 2).trans R.2.2.1, h2.trans R.2.2.2⟩
theorem DayR.ag {N : Nat} {l : List Nat} {I J : WI} (R : DayR N l I) (h1 : J 15 N = I 15 N) (h2 : ∀ j, j < l.length → J 16 (3 * N + j) = I 16 (3 * N + j)) : DayR N l J := ⟨h1.trans R.1, fun j hj => (h2 j hj).trans (R.2 j hj)⟩
theorem getD_end {l : List (List Nat)} {x : List Nat} : (l ++ [x]).getD l.length [] = x := by
  rw [List.getD_eq_getElem?_getD, List.getElem?_append_right (Nat.le_refl _), Nat.sub_self]
  rfl
theorem getD_in {l : List (List Nat)} {x : List Nat} {N : Nat} (h : N < l.length) : (l ++ [x]).getD N [] = l.getD N [] := by
  rw [List.getD_eq_getElem?_getD, List.getD_eq_getElem?_getD, List.getElem?_append_left h]
theorem lineS_ok {B : Nat → Nat} {n f : Nat} {c q : Nat × Nat × Nat × Int64} {ds : List (List Nat)} {r : Nat × (Nat × Nat × Nat × Int64) × (Nat × Nat × Nat × Int64) × List (List Nat)} (hf : f ≤ n) (hc : ImOk c) (hq : ImOk q) (hd : DsOk ds) (h : lineS B n c q ds f = .inr r) : f + 2 ≤ p1 r ∧ p1 r ≤ n ∧ ImOk (p1 (p2 r)) ∧ ImOk (p1 (p2 (p2 r))) ∧ DsOk (p2 (p2 (p2 r))) := by
  have hte := te_le (B := B) hf
  unfold lineS at h
  by_cases c0 : tk B n f = 1 ∧ nmb B f (te B n f) 0 = true
  · rw [if_pos c0] at h
    have hlt := hte.2.2.1 c0.1
    cases hr : imgS B n (p1 c) f with
    | inl x => rw [hr] at h; exact absurd h (by simp)
    | inr x =>
      rw [hr] at h
      have e : r = (p1 x, p2 x, q, ds) := (Sum.inr.inj h).symm
      obtain ⟨a1, a2, a3⟩ := imgS_ok hf hr
      rw [e]
      exact ⟨by show f + 2 ≤ p1 x; omega, a2, a3, hq, hd⟩
  rw [if_neg c0] at h
  by_cases c1 : tk B n f = 1 ∧ nmb B f (te B n f) 1 = true
  · rw [if_pos c1] at h
    have hlt := hte.2.2.1 c1.1
    cases hr : imgS B n (p1 q) f with
    | inl x => rw [hr] at h; exact absurd h (by simp)
    | inr x =>
      rw [hr] at h
      have e : r = (p1 x, c, p2 x, ds) := (Sum.inr.inj h).symm
      obtain ⟨a1, a2, a3⟩ := imgS_ok hf hr
      rw [e]
      exact ⟨by show f + 2 ≤ p1 x; omega, a2, hc, a3, hd⟩
  rw [if_neg c1] at h
  by_cases c2 : tk B n f = 1 ∧ nmb B f (te B n f) 2 = true
  · rw [if_pos c2] at h
    have hlt := hte.2.2.1 c2.1
    by_cases g : ds.length < 12
    · rw [if_pos g] at h
      cases hr : actsS B n 4 [] (te B n f) with
      | inl x => rw [hr] at h; exact absurd h (by simp)
      | inr x =>
        rw [hr] at h
        have e : r = (p1 x, c, q, ds ++ [p2 x]) := (Sum.inr.inj h).symm
        obtain ⟨a1, a2, a3, a4, a5⟩ := actsS_ok 4 [] _ x hte.2.1 (by decide) (fun j hj => absurd hj (Nat.not_lt_zero _)) hr
        rw [e]
        have hlen : (ds ++ [p2 x]).length = ds.length + 1 := List.length_append
        refine ⟨by show f + 2 ≤ p1 x; omega, a2, hc, hq, ?_, fun N hN => ?_⟩
        · show (ds ++ [p2 x]).length ≤ 12
          omega
        · have hN' : N < ds.length + 1 := by rw [← hlen]; exact hN
          show 1 ≤ ((ds ++ [p2 x]).getD N []).length ∧ ((ds ++ [p2 x]).getD N []).length ≤ 3 ∧ ∀ j, j < ((ds ++ [p2 x]).getD N []).length → ((ds ++ [p2 x]).getD N []).getD j 0 < 60
          by_cases y : N = ds.length
          · rw [y, getD_end]
            exact ⟨a3, a4, a5⟩
          · rw [getD_in (by omega)]
            exact hd.2 N (by omega)
    · rw [if_neg g] at h
      exact absurd h (by simp)
  · rw [if_neg c2] at h
    exact absurd h (by simp)
/-- the class's line -/
def LineEnd (I : WI) (L : WL) (x : Nat ⊕ (Nat × (Nat × Nat × Nat × Int64) × (Nat × Nat × Nat × Int64) × List (List Nat))) (v : Int32) (I' : WI) (L' : WL) : Prop := Fp I I' ∧ FpL L L' ∧ match x with
  | .inl g => v = 0 ∧ Fa g I'
  | .inr r => v = 1 ∧ I' 11 3 = 0 ∧ I' 11 8 = Int32.ofNat (p1 r) ∧ DraftC (p1 (p2 r)) (p1 (p2 (p2 r))) (p2 (p2 (p2 r))) I' L'
theorem takeLine_C {B : Nat → Nat} {n p : Nat} {I : WI} {L : WL} {c q : Nat × Nat × Nat × Int64} {ds : List (List Nat)} (T : Tap B n I) (hp : p ≤ n) (e8 : I 11 8 = Int32.ofNat p) (e3 : I 11 3 = 0) (hc : ImOk c) (hq : ImOk q) (hd : DsOk ds) (D : DraftC c q ds I L) : ∃ v I' L', F_X6_takeLine I L = some (v, I', L') ∧ if tk B n (tf B n p) = 0 then v = 0 ∧ L' = L ∧ Ft I I' ∧ I' 11 3 = 0 ∧ I' 11 7 = Int32.ofNat n else LineEnd I L (lineS B n c q ds (tf B n p)) v I' L' := by
  obtain ⟨J, j1, S⟩ := step_C T hp e8 e3
  have TJ := S.1.tap T
  have hf := tf_le (B := B) hp
  have hte := te_le (B := B) (f := tf B n p) hf.2
  have hFS := step_FS S
  obtain ⟨D1, D2, D3, D4⟩ := D
  have R1 : ImR 12 c J L := D1.ag (fun j => S.1 12 j (by decide)) rfl
  have R2 : ImR 13 q J L := D2.ag (fun j => S.1 13 j (by decide)) rfl
  have R3 : J 14 0 = Int32.ofNat ds.length := (S.1 14 0 (by decide)).trans D3
  have R4 : ∀ N, N < ds.length → DayR N (ds.getD N []) J := fun N hN => (D4 N hN).ag (S.1 15 N (by decide)) (fun j _ => S.1 16 _ (by decide))
  have hbad : ∃ I', F_X6_takeLine_70 (p2 (F_X6_refuse J 2)) L (p1 (F_X6_refuse J 2)) = some (0, I', L) ∧ Ft J I' ∧ Fa (tf B n p) I' := by
    obtain ⟨I', r1, r2, r3⟩ := refuse_at hFS (by decide : (2 : Int32) ≠ 0)
    refine ⟨I', ?_, r2, r3⟩
    rw [r1]
    show (if bz (0 : Int32) = 0 then some ((0 : Int32), I', L) else none) = _
    rw [if_pos (by decide)]
  unfold F_X6_takeLine
  rw [j1, ob_some]
  by_cases c4 : tk B n (tf B n p) = 4
  · rw [(S.2.2.2 c4).1, if_neg (show ¬ (4 : Int32) = 0 by decide)]
    have hn : ∀ t, F_X6_isNamed J t = some 0 := fun t => by
      unfold F_X6_isNamed
      rw [(S.2.2.2 c4).1, if_neg (show ¬ (4 : Int32) = 1 by decide)]
      rfl
    obtain ⟨I', r1, r2, r3⟩ := hbad
    rw [hn, hn, hn, ob_some, ob_some, ob_some, if_pos rfl, if_pos rfl, if_pos rfl, r1]
    refine ⟨0, I', L, rfl, ?_⟩
    rw [if_neg (by omega)]
    unfold lineS
    rw [if_neg (show ¬ (tk B n (tf B n p) = 1 ∧ _) from fun q => by have := q.1; omega), if_neg (show ¬ (tk B n (tf B n p) = 1 ∧ _) from fun q => by have := q.1; omega), if_neg (show ¬ (tk B n (tf B n p) = 1 ∧ _) from fun q => by have := q.1; omega)]
    exact ⟨(S.1.trans r2).fp, FpL.rfl, rfl, r3⟩
  have hA := step_At hp S c4
  obtain ⟨s1, s2, s3, -⟩ := S.2.2.1 c4
  by_cases c0 : tk B n (tf B n p) = 0
  · rw [s1, c0, if_pos (show Int32.ofNat 0 = 0 from rfl)]
    refine ⟨0, J, L, rfl, ?_⟩
    rw [if_pos rfl]
    refine ⟨rfl, rfl, S.1, s3, ?_⟩
    have : tf B n p = n := by
      refine Nat.le_antisymm hf.2 (Classical.byContradiction fun g => ?_)
      have hb : ¬ n ≤ tf B n p := by omega
      unfold tk at c0
      rw [if_neg hb] at c0
      split at c0
      · omega
      split at c0
      · omega
      split at c0 <;> omega
    rw [S.2.1, this]
  simp only [if_neg c0]
  rw [s1, if_neg (show ¬ Int32.ofNat (tk B n (tf B n p)) = 0 from fun q => c0 (on_inj (b := 0) (by omega) (by decide) q)), named_C TJ hA hte.2.2.2.2.2.1 (by decide : 0 < 6), named_C TJ hA hte.2.2.2.2.2.1 (by decide : 1 < 6), named_C TJ hA hte.2.2.2.2.2.1 (by decide : 2 < 6), ob_some, ob_some, ob_some]
  unfold lineS
  by_cases n0 : tk B n (tf B n p) = 1 ∧ nmb B (tf B n p) (te B n (tf B n p)) 0 = true
  · rw [if_pos n0, if_pos n0, if_neg (show ¬ (1 : Int32) = 0 by decide)]
    obtain ⟨v, I', L', r1, r2, r3, r4⟩ := takeRows_C (o := 12) (.inl rfl) TJ hf.2 s2 s3 S.2.1 hc R1
    rw [r1, ob_some]
    have hfp : Fp I I' := S.1.fp.trans fun k j h => r2 k j (by omega) (by omega)
    have hfl : FpL L L' := r3.fp (.inl rfl)
    cases hx : imgS B n (p1 c) (tf B n p) with
    | inl g =>
      rw [hx] at r4
      refine ⟨0, I', L', ?_, hfp, hfl, rfl, r4.2⟩
      rw [r4.1]
      show (if bz (0 : Int32) = 0 then some ((0 : Int32), I', L') else none) = _
      rw [if_pos (by decide)]
    | inr r =>
      rw [hx] at r4
      obtain ⟨a1, a2, a3, a4⟩ := r4
      refine ⟨1, I', L', ?_, hfp, hfl, rfl, a2, a3, a4, ?_, ?_, fun N hN => ?_⟩
      · rw [a1]
        show (if bz (1 : Int32) = 1 then some ((1 : Int32), I', L') else none) = _
        rw [if_pos (by decide)]
      · exact R2.ag (fun j => r2 13 j (by decide) (by decide)) (r3 13 3 (by decide))
      · exact (r2 14 0 (by decide) (by decide)).trans R3
      · exact (R4 N hN).ag (r2 15 N (by decide) (by decide)) (fun j _ => r2 16 _ (by decide) (by decide))
  rw [if_neg n0, if_neg n0, if_pos rfl]
  by_cases n1 : tk B n (tf B n p) = 1 ∧ nmb B (tf B n p) (te B n (tf B n p)) 1 = true
  · rw [if_pos n1, if_pos n1, if_neg (show ¬ (1 : Int32) = 0 by decide)]
    obtain ⟨v, I', L', r1, r2, r3, r4⟩ := takeRows_C (o := 13) (.inr rfl) TJ hf.2 s2 s3 S.2.1 hq R2
    rw [r1, ob_some]
    have hfp : Fp I I' := S.1.fp.trans fun k j h => r2 k j (by omega) (by omega)
    have hfl : FpL L L' := r3.fp (.inr rfl)
    cases hx : imgS B n (p1 q) (tf B n p) with
    | inl g =>
      rw [hx] at r4
      refine ⟨0, I', L', ?_, hfp, hfl, rfl, r4.2⟩
      rw [r4.1]
      show (if bz (0 : Int32) = 0 then some ((0 : Int32), I', L') else none) = _
      rw [if_pos (by decide)]
    | inr r =>
      rw [hx] at r4
      obtain ⟨a1, a2, a3, a4⟩ := r4
      refine ⟨1, I', L', ?_, hfp, hfl, rfl, a2, a3, ?_, a4, ?_, fun N hN => ?_⟩
      · rw [a1]
        show (if bz (1 : Int32) = 1 then some ((1 : Int32), I', L') else none) = _
        rw [if_pos (by decide)]
      · exact R1.ag (fun j => r2 12 j (by decide) (by decide)) (r3 12 3 (by decide))
      · exact (r2 14 0 (by decide) (by decide)).trans R3
      · exact (R4 N hN).ag (r2 15 N (by decide) (by decide)) (fun j _ => r2 16 _ (by decide) (by decide))
  rw [if_neg n1, if_neg n1, if_pos rfl]
  by_cases n2 : tk B n (tf B n p) = 1 ∧ nmb B (tf B n p) (te B n (tf B n p)) 2 = true
  · rw [if_pos n2, if_pos n2, if_neg (show ¬ (1 : Int32) = 0 by decide)]
    obtain ⟨v, I', r1, r2, r4⟩ := takeDay_C TJ hf.2 s2 s3 S.2.1 R3 hd.1
    rw [r1, ob_some]
    have hfp : Fp I I' := S.1.fp.trans fun k j h => r2 k j (by omega) (by omega) (by omega) (by omega)
    have hev : ∀ v : Int32, bz v = v → F_X6_takeLine_70 I' L v = some (v, I', L) := fun v h => by
      unfold F_X6_takeLine_70
      rw [if_pos h]
    have key : ∀ x : Nat ⊕ (Nat × List Nat), (match x with
      | .inl g => v = 0 ∧ Fa g I'
      | .inr r => v = 1 ∧ I' 11 3 = 0 ∧ I' 11 8 = Int32.ofNat (p1 r) ∧ DayC ds.length (p2 r) I') → ∃ v' I'' L', F_X6_takeLine_70 (p2 (v, I')) L (p1 (v, I')) = some (v', I'', L') ∧ LineEnd I L (Sum.elim .inl (fun r => .inr (p1 r, c, q, ds ++ [p2 r])) x) v' I'' L' := by
      intro x r4
      cases x with
      | inl g => exact ⟨0, I', L, by rw [r4.1]; exact hev 0 (by decide), hfp, FpL.rfl, rfl, r4.2⟩
      | inr r =>
        obtain ⟨a1, a2, a3, a4⟩ := r4
        have hlen : (ds ++ [p2 r]).length = ds.length + 1 := List.length_append
        refine ⟨1, I', L, by rw [a1]; exact hev 1 (by decide), hfp, FpL.rfl, rfl, a2, a3, ?_, ?_, ?_, fun N hN => ?_⟩
        · exact R1.ag (fun j => r2 12 j (by decide) (by omega) (by omega) (by omega)) rfl
        · exact R2.ag (fun j => r2 13 j (by decide) (by omega) (by omega) (by omega)) rfl
        · show I' 14 0 = Int32.ofNat (ds ++ [p2 r]).length
          rw [hlen, a4.1]
        · have hN' : N < ds.length + 1 := by rw [← hlen]; exact hN
          show DayR N ((ds ++ [p2 r]).getD N []) I'
          by_cases y : N = ds.length
          · rw [y, getD_end]
            exact ⟨a4.2.1, a4.2.2⟩
          · rw [getD_in (by omega)]
            have h3 := (hd.2 N (by omega)).2.1
            exact (R4 N (by omega)).ag (r2 15 N (by decide) (by omega) (by omega) (by omega)) (fun j hj => r2 16 _ (by decide) (by omega) (by omega) (by omega))
    have := key _ r4
    by_cases g : ds.length < 12
    · rw [if_pos g] at this ⊢
      exact this
    · rw [if_neg g] at this ⊢
      exact this
  · rw [if_neg n2, if_neg n2, if_pos rfl]
    obtain ⟨I', r1, r2, r3⟩ := hbad
    rw [r1]
    exact ⟨0, I', L, rfl, (S.1.trans r2).fp, FpL.rfl, rfl, r3⟩
/-! the whole text, judged -/
def linesC (B : Nat → Nat) (n : Nat) : Nat → Nat → (Nat × Nat × Nat × Int64) → (Nat × Nat × Nat × Int64) → List (List Nat) → Nat → Nat ⊕ (Nat × (Nat × Nat × Nat × Int64) × (Nat × Nat × Nat × Int64) × List (List Nat))
  | 0, _, _, _, _, _ => .inl n
  | u + 1, a, c, q, ds, p => if tk B n (tf B n p) = 0 then .inr (a, c, q, ds) else Sum.elim .inl (fun r => linesC B n u (a + 1) (p1 (p2 r)) (p1 (p2 (p2 r))) (p2 (p2 (p2 r))) (p1 r)) (lineS B n c q ds (tf B n p))
def LinesEnd (n : Nat) (I : WI) (L : WL) (x : Nat ⊕ (Nat × (Nat × Nat × Nat × Int64) × (Nat × Nat × Nat × Int64) × List (List Nat))) (a : Int32) (I' : WI) (L' : WL) : Prop := Fp I I' ∧ FpL L L' ∧ match x with
  | .inl g => Fa g I'
  | .inr r => a = Int32.ofNat (p1 r) ∧ I' 11 3 = 0 ∧ I' 11 7 = Int32.ofNat n ∧ DraftC (p1 (p2 r)) (p1 (p2 (p2 r))) (p2 (p2 (p2 r))) I' L' ∧ ImOk (p1 (p2 r)) ∧ ImOk (p1 (p2 (p2 r))) ∧ DsOk (p2 (p2 (p2 r)))
theorem linesC_C {B : Nat → Nat} {n : Nat} : ∀ (u a : Nat) (c q : Nat × Nat × Nat × Int64) (ds : List (List Nat)) (p : Nat) (I : WI) (L : WL) (fuel : Nat), n < u + p → u < fuel → 2 * a ≤ p → Tap B n I → p ≤ n → I 11 8 = Int32.ofNat p → I 11 3 = 0 → ImOk c → ImOk q → DsOk ds → DraftC c q ds I L → ∃ a' I' L', lpp (fun x => F_X6_takeText_38_1 (p1 (p2 x)) (p2 (p2 x)) (p1 x)) fuel (Int32.ofNat a, I, L) = some (a', I', L') ∧ LinesEnd n I L (linesC B n u a c q ds p) a' I' L' := by
  intro u
  induction u with
  | zero => intro a c q ds p I L fuel h1 _ _ _ h2; omega
  | succ u ih =>
    intro a c q ds p I L fuel hu hf ha T hp e8 e3 hc hq hd D
    obtain ⟨fuel, rfl⟩ : ∃ g, fuel = g + 1 := ⟨fuel - 1, by omega⟩
    have hn : n ≤ 320 := T.1
    have hfp := tf_le (B := B) hp
    obtain ⟨v, J, K, j1, j2⟩ := takeLine_C T hp e8 e3 hc hq hd D
    have hl : ∀ r, F_X6_takeText_38_1 I L (Int32.ofNat a) = some (.inl r) → lpp (fun x : Int32 × WI × WL => F_X6_takeText_38_1 (p1 (p2 x)) (p2 (p2 x)) (p1 x)) (fuel + 1) (Int32.ofNat a, I, L) = some r := fun r h => lpp_l (f := (fun x : Int32 × WI × WL => F_X6_takeText_38_1 (p1 (p2 x)) (p2 (p2 x)) (p1 x))) (s := (Int32.ofNat a, I, L)) h
    have hr : ∀ s, F_X6_takeText_38_1 I L (Int32.ofNat a) = some (.inr s) → lpp (fun x : Int32 × WI × WL => F_X6_takeText_38_1 (p1 (p2 x)) (p2 (p2 x)) (p1 x)) (fuel + 1) (Int32.ofNat a, I, L) = lpp (fun x : Int32 × WI × WL => F_X6_takeText_38_1 (p1 (p2 x)) (p2 (p2 x)) (p1 x)) fuel s := fun s h => lpp_r (f := (fun x : Int32 × WI × WL => F_X6_takeText_38_1 (p1 (p2 x)) (p2 (p2 x)) (p1 x))) (s := (Int32.ofNat a, I, L)) h
    have h38 : F_X6_takeText_38_1 I L (Int32.ofNat a) = if v = 0 then some (.inl (Int32.ofNat a, J, K)) else some (.inr (Int32.ofNat (a + 1), J, K)) := by
      unfold F_X6_takeText_38_1
      rw [if_neg (show ¬ (320 : Int32) ≤ Int32.ofNat a from fun q => absurd ((ge_on (a := 320) (by decide) (by omega)).mp q) (by omega)), j1, ob_some, la1]
      rfl
    unfold linesC
    by_cases c0 : tk B n (tf B n p) = 0
    · rw [if_pos c0] at j2 ⊢
      obtain ⟨v0, rfl, k1, k2, k3⟩ := j2
      rw [v0, if_pos rfl] at h38
      rw [hl _ h38]
      refine ⟨_, J, K, rfl, k1.fp, FpL.rfl, rfl, k2, k3, ?_, hc, hq, hd⟩
      exact ⟨D.1.ag (fun j => k1 12 j (by decide)) rfl, D.2.1.ag (fun j => k1 13 j (by decide)) rfl, (k1 14 0 (by decide)).trans D.2.2.1, fun N hN => (D.2.2.2 N hN).ag (k1 15 N (by decide)) (fun j _ => k1 16 _ (by decide))⟩
    · rw [if_neg c0] at j2 ⊢
      obtain ⟨k1, k2, k3⟩ := j2
      cases hx : lineS B n c q ds (tf B n p) with
      | inl g =>
        rw [hx] at k3
        rw [k3.1, if_pos rfl] at h38
        rw [hl _ h38]
        exact ⟨_, J, K, rfl, k1, k2, k3.2⟩
      | inr r =>
        rw [hx] at k3
        obtain ⟨v1, k4, k5, k6⟩ := k3
        rw [v1, if_neg (show ¬ (1 : Int32) = 0 by decide)] at h38
        rw [hr _ h38]
        obtain ⟨o1, o2, o3, o4, o5⟩ := lineS_ok hfp.2 hc hq hd hx
        obtain ⟨a', I', L', r1, r2, r3, r4⟩ := ih (a + 1) _ _ _ (p1 r) J K fuel (by omega) (by omega) (by omega) (k1.tap T) o2 k5 k4 o3 o4 o5 k6
        exact ⟨a', I', L', r1, k1.trans r2, k2.trans r3, r4⟩
/-- all of some, told on the way -/
def ab (g : Nat → Bool) : Nat → Nat → Bool → Bool
  | 0, _, b => b
  | m + 1, i, b => ab g m (i + 1) (b && g i)
theorem ab_and {g : Nat → Bool} : ∀ m i b, ab g m i b = (b && ab g m i true) := by
  intro m
  induction m with
  | zero => intro i b; simp [ab]
  | succ m ih =>
    intro i b
    unfold ab
    rw [ih (i + 1) (b && g i), ih (i + 1) (true && g i), Bool.true_and, Bool.and_assoc]
theorem ab_iff {g : Nat → Bool} : ∀ m i b, ab g m i b = true ↔ b = true ∧ ∀ j, i ≤ j → j < i + m → g j = true := by
  intro m
  induction m with
  | zero => intro i b; exact ⟨fun h => ⟨h, fun j h1 h2 => by omega⟩, fun h => h.1⟩
  | succ m ih =>
    intro i b
    unfold ab
    rw [ih (i + 1) (b && g i), Bool.and_eq_true]
    constructor
    · rintro ⟨⟨h1, h2⟩, h3⟩
      refine ⟨h1, fun j q1 q2 => ?_⟩
      by_cases c : j = i
      · rw [c]; exact h2
      · exact h3 j (by omega) (by omega)
    · rintro ⟨h1, h2⟩
      exact ⟨⟨h1, h2 i (Nat.le_refl _) (by omega)⟩, fun j q1 q2 => h2 j (by omega) (by omega)⟩
theorem lpp_ab {S : Type} {f : Int32 × S → Option (S ⊕ (Int32 × S))} (P : Bool → S → Prop) (g : Nat → Bool) (N : Nat) (h1 : ∀ i b s, i < N → P b s → ∃ s', f (Int32.ofNat i, s) = some (.inr (Int32.ofNat (i + 1), s')) ∧ P (b && g i) s') (h2 : ∀ b s, P b s → f (Int32.ofNat N, s) = some (.inl s)) : ∀ (m i : Nat) (b : Bool) (s : S) (fuel : Nat), i + m = N → m < fuel → P b s → ∃ s', lpp f fuel (Int32.ofNat i, s) = some s' ∧ P (ab g m i b) s' := by
  intro m
  induction m with
  | zero =>
    intro i b s fuel hi hf hP
    obtain ⟨fuel, rfl⟩ : ∃ g, fuel = g + 1 := ⟨fuel - 1, by omega⟩
    rw [show i = N by omega]
    exact ⟨s, lpp_l (h2 b s hP), hP⟩
  | succ m ih =>
    intro i b s fuel hi hf hP
    obtain ⟨fuel, rfl⟩ : ∃ g, fuel = g + 1 := ⟨fuel - 1, by omega⟩
    obtain ⟨s', e1, e2⟩ := h1 i b s (by omega) hP
    rw [lpp_r e1]
    exact ih (i + 1) (b && g i) s' fuel (by omega) (by omega) e2
/-- an act that a cloth has -/
def legal (m w x : Nat) : Bool := decide (x % 20 < if x / 20 = 0 then m else if x / 20 = 1 then w else if x / 20 = 2 then m + w - 1 else 0)
def sameB (c q : Nat × Nat × Nat × Int64) : Bool := p1 q == 0 || (p1 (p2 q) == p1 (p2 c) && p1 (p2 (p2 q)) == p1 (p2 (p2 c)))
def dayB (c : Nat × Nat × Nat × Int64) (l : List Nat) : Bool := ab (fun j => legal (p1 (p2 c)) (p1 (p2 (p2 c))) (l.getD j 0)) l.length 0 true
def wholeB (c q : Nat × Nat × Nat × Int64) (ds : List (List Nat)) : Bool := ab (fun N => dayB c (ds.getD N [])) ds.length 0 (sameB c q)
theorem code_t : ∀ x, x < 60 → Int32.ofNat x / 20 = Int32.ofNat (x / 20) ∧ Int32.ofNat x - Int32.ofNat x / 20 * 20 = Int32.ofNat (x % 20) := by decide +kernel
theorem acts_of {N : Nat} {l : List Nat} {M : Nat} {I : WI} (h : I 14 0 = Int32.ofNat M) (hN : N < M) (hM : M ≤ 12) (R : DayR N l I) : F_X1_actsOf I 14 (Int32.ofNat N) = Int32.ofNat l.length := by
  unfold F_X1_actsOf F_X1_actsOf_31
  rw [h, if_neg (show ¬ Int32.ofNat N < 0 from fun q => absurd ((lt_onn (b := 0) (by omega) (by decide)).mp q) (by omega)), if_neg (show ¬ Int32.ofNat M ≤ Int32.ofNat N from fun q => absurd ((ge_on (by omega) (by omega)).mp q) (by omega)), if_neg (show ¬ (12 : Int32) ≤ Int32.ofNat N from fun q => absurd ((ge_on (a := 12) (by decide) (by omega)).mp q) (by omega)), on_clamp (by omega), R.1]
theorem code_of {N j : Nat} {l : List Nat} {M : Nat} {I : WI} (h : I 14 0 = Int32.ofNat M) (hN : N < M) (hM : M ≤ 12) (R : DayR N l I) (hl : l.length ≤ 3) (hj : j < l.length) : F_X1_codeOf I 14 (Int32.ofNat N) (Int32.ofNat j) = Int32.ofNat (l.getD j 0) := by
  unfold F_X1_codeOf F_X1_codeOf_42
  rw [acts_of h hN hM R, lm3, oadd, if_neg (show ¬ Int32.ofNat j < 0 from fun q => absurd ((lt_onn (b := 0) (by omega) (by decide)).mp q) (by omega)), if_neg (show ¬ Int32.ofNat l.length ≤ Int32.ofNat j from fun q => absurd ((ge_on (by omega) (by omega)).mp q) (by omega)), if_neg (show ¬ Int32.ofNat (3 * N + j) < 0 from fun q => absurd ((lt_onn (b := 0) (by omega) (by decide)).mp q) (by omega)), if_neg (show ¬ (36 : Int32) ≤ Int32.ofNat (3 * N + j) from fun q => absurd ((ge_on (a := 36) (by decide) (by omega)).mp q) (by omega)), on_clamp (by omega), R.2 j hj]
theorem has_line {m w x : Nat} {I : WI} (h1 : I 12 1 = Int32.ofNat m) (h2 : I 12 2 = Int32.ofNat w) (hm : 1 ≤ m ∧ m ≤ 8) (hw : 1 ≤ w ∧ w ≤ 8) (hx : x < 60) : F_X0_hasLine I 12 (Int32.ofNat (x / 20)) (Int32.ofNat (x % 20)) = if legal m w x = true then 1 else 0 := by
  have hlo : F_X0_linesOf I 12 (Int32.ofNat (x / 20)) = Int32.ofNat (if x / 20 = 0 then m else if x / 20 = 1 then w else if x / 20 = 2 then m + w - 1 else 0) := by
    unfold F_X0_linesOf
    rcases (show x / 20 = 0 ∨ x / 20 = 1 ∨ x / 20 = 2 by omega) with e | e | e <;> rw [e]
    · exact h1
    · exact h2
    · show I 12 1 + I 12 2 - 1 = Int32.ofNat (m + w - 1)
      rw [h1, h2, oadd]
      exact on_sub (b := 1) (by omega)
  unfold F_X0_hasLine F_X0_hasLine_17 F_X0_hasLine_18 legal
  rw [hlo, if_neg (show ¬ Int32.ofNat (x % 20) < 0 from fun q => absurd ((lt_onn (b := 0) (by omega) (by decide)).mp q) (by omega))]
  generalize hv : (if x / 20 = 0 then m else if x / 20 = 1 then w else if x / 20 = 2 then m + w - 1 else 0) = v
  have hv' : v ≤ 15 := by
    rw [← hv]
    split
    · omega
    split
    · omega
    split <;> omega
  by_cases d : x % 20 < v
  · rw [if_neg (show ¬ Int32.ofNat v ≤ Int32.ofNat (x % 20) from fun q => absurd ((ge_on (by omega) (by omega)).mp q) (by omega)), if_pos (decide_eq_true d)]
  · rw [if_pos (show Int32.ofNat v ≤ Int32.ofNat (x % 20) from (ge_on (by omega) (by omega)).mpr (by omega)), if_neg (by rw [decide_eq_true_eq]; exact d)]
def PJ (n : Nat) (I : WI) (b : Bool) (s : WI) : Prop := Ft I s ∧ if b = true then s 11 3 = 0 ∧ s 11 7 = Int32.ofNat n else Fa n s
theorem PJ.refuse {n : Nat} {I : WI} {b : Bool} {s : WI} {c : Int32} (h : PJ n I b s) (hc : c ≠ 0) : PJ n I false (p2 (F_X6_refuse s c)) := by
  have hFS : FS n s := by
    obtain ⟨-, h2⟩ := h
    cases b with
    | true => exact .inl h2
    | false => exact .inr h2
  obtain ⟨J, j1, j2, j3⟩ := refuse_at hFS hc
  rw [j1]
  exact ⟨h.1.trans j2, j3⟩
theorem DraftC.ft {c q : Nat × Nat × Nat × Int64} {ds : List (List Nat)} {I J : WI} {L : WL} (D : DraftC c q ds I L) (k1 : Ft I J) : DraftC c q ds J L := ⟨D.1.ag (fun j => k1 12 j (by decide)) rfl, D.2.1.ag (fun j => k1 13 j (by decide)) rfl, (k1 14 0 (by decide)).trans D.2.2.1, fun N hN => (D.2.2.2 N hN).ag (k1 15 N (by decide)) (fun j _ => k1 16 _ (by decide))⟩
theorem judge_C {n : Nat} {c q : Nat × Nat × Nat × Int64} {ds : List (List Nat)} {I : WI} {L : WL} (D : DraftC c q ds I L) (hc : ImOk c) (hq : ImOk q) (hd : DsOk ds) (e3 : I 11 3 = 0) (e7 : I 11 7 = Int32.ofNat n) : ∃ J, F_X6_judgeWhole I = some J ∧ PJ n I (wholeB c q ds) J := by
  have hcl := hc.2.1
  have hql := hq.2.1
  unfold Cl at hcl hql
  have hday : ∀ N b s, N < ds.length → PJ n I b s → ∃ s', F_X6_judgeWhole_46_1 s (Int32.ofNat N) 0 = some (.inr (Int32.ofNat (N + 1), s')) ∧ PJ n I (b && dayB c (ds.getD N [])) s' := by
    intro N b s hN hP
    obtain ⟨d1, d2, d3⟩ := hd.2 N hN
    have hM := hd.1
    obtain ⟨s', r1, r2⟩ := lpp_ab (f := fun x : Int32 × WI => F_X6_judgeWhole_46_2 (p2 x) (Int32.ofNat N) (p1 x)) (PJ n I) (fun j => legal (p1 (p2 c)) (p1 (p2 (p2 c))) ((ds.getD N []).getD j 0)) (ds.getD N []).length (fun j b s hj hP => by
      have Ds := D.ft hP.1
      have hR := Ds.2.2.2 N hN
      show ∃ s', F_X6_judgeWhole_46_2 s (Int32.ofNat N) (Int32.ofNat j) = some (.inr (Int32.ofNat (j + 1), s')) ∧ _
      unfold F_X6_judgeWhole_46_2 F_X6_judgeWhole_93_2 F_X1_kindOf F_X1_numberOf
      obtain ⟨t1, t2⟩ := code_t _ (d3 j hj)
      rw [acts_of Ds.2.2.1 hN hM hR, if_neg (show ¬ Int32.ofNat (ds.getD N []).length ≤ Int32.ofNat j from fun q => absurd ((ge_on (by omega) (by omega)).mp q) (by omega)), code_of Ds.2.2.1 hN hM hR d2 hj, t1, ← t1, t2, t1, has_line Ds.1.2.1 Ds.1.2.2.1 hcl.1 hcl.2 (d3 j hj), la1]
      by_cases g : legal (p1 (p2 c)) (p1 (p2 (p2 c))) ((ds.getD N []).getD j 0) = true
      · rw [if_pos g, if_neg (show ¬ (1 : Int32) = 0 by decide)]
        refine ⟨s, rfl, ?_⟩
        rw [g, Bool.and_true]
        exact hP
      · rw [if_neg g, if_pos rfl]
        refine ⟨_, rfl, ?_⟩
        rw [Bool.not_eq_true] at g
        rw [g, Bool.and_false]
        exact hP.refuse (by decide)) (fun b s hP => by
      have Ds := D.ft hP.1
      show F_X6_judgeWhole_46_2 s (Int32.ofNat N) (Int32.ofNat (ds.getD N []).length) = _
      unfold F_X6_judgeWhole_46_2
      rw [acts_of Ds.2.2.1 hN hM (Ds.2.2.2 N hN), if_pos ((ge_on (by omega) (by omega)).mpr (Nat.le_refl _))]) (ds.getD N []).length 0 b s 4294967296 (by omega) (by omega) hP
    refine ⟨s', ?_, ?_⟩
    · unfold F_X6_judgeWhole_46_1 F_X6_judgeWhole_99_1
      show (lpp (fun x : Int32 × WI => F_X6_judgeWhole_46_2 (p2 x) (Int32.ofNat N) (p1 x)) 4294967296 (Int32.ofNat 0, s)).bind _ = _
      rw [r1, ob_some, la1]
    · rw [ab_and] at r2
      exact r2
  have hall : ∀ b s, PJ n I b s → ∃ J, F_X6_judgeWhole_31 s = some J ∧ PJ n I (ab (fun N => dayB c (ds.getD N [])) ds.length 0 b) J := by
    intro b s hP
    have hM := hd.1
    obtain ⟨s', r1, r2⟩ := lpp_ab (f := fun x : Int32 × WI => F_X6_judgeWhole_33_1 (p2 x) (p1 x)) (PJ n I) (fun N => dayB c (ds.getD N [])) ds.length (fun N b s hN hP => by
      have Ds := D.ft hP.1
      show ∃ s', F_X6_judgeWhole_33_1 s (Int32.ofNat N) = some (.inr (Int32.ofNat (N + 1), s')) ∧ _
      unfold F_X6_judgeWhole_33_1
      rw [Ds.2.2.1, if_neg (show ¬ Int32.ofNat ds.length ≤ Int32.ofNat N from fun q => absurd ((ge_on (by omega) (by omega)).mp q) (by omega))]
      exact hday N b s hN hP) (fun b s hP => by
      have Ds := D.ft hP.1
      show F_X6_judgeWhole_33_1 s (Int32.ofNat ds.length) = _
      unfold F_X6_judgeWhole_33_1
      rw [Ds.2.2.1, if_pos ((ge_on (by omega) (by omega)).mpr (Nat.le_refl _))]) ds.length 0 b s 4294967296 (by omega) (by omega) hP
    refine ⟨s', ?_, r2⟩
    unfold F_X6_judgeWhole_31 F_X6_judgeWhole_33 F_X6_judgeWhole_105
    show (lpp (fun x : Int32 × WI => F_X6_judgeWhole_33_1 (p2 x) (p1 x)) 4294967296 (Int32.ofNat 0, s)).bind _ = _
    rw [r1, ob_some]
  have hI : PJ n I true I := ⟨Ft.rfl, e3, e7⟩
  unfold F_X6_judgeWhole wholeB sameB
  rw [D.2.1.1]
  by_cases g : p1 q = 0
  · rw [g, if_pos (by decide)]
    exact hall true I hI
  · have g1 : p1 q = 1 := by have := hq.1; omega
    rw [g1, if_neg (by decide)]
    have hss : F_X0_sameSize I 13 12 = if (p1 (p2 q) == p1 (p2 c) && p1 (p2 (p2 q)) == p1 (p2 (p2 c))) = true then 1 else 0 := by
      unfold F_X0_sameSize F_X0_sameSize_27 F_X0_sameSize_26 F_X0_sameSize_27
      have hi : (p1 (p2 q) == p1 (p2 c) && p1 (p2 (p2 q)) == p1 (p2 (p2 c))) = true ↔ p1 (p2 q) = p1 (p2 c) ∧ p1 (p2 (p2 q)) = p1 (p2 (p2 c)) := by rw [Bool.and_eq_true, beq_iff_eq, beq_iff_eq]
      rw [D.1.2.1, D.1.2.2.1, D.2.1.2.1, D.2.1.2.2.1]
      by_cases y1 : p1 (p2 q) = p1 (p2 c)
      · by_cases y2 : p1 (p2 (p2 q)) = p1 (p2 (p2 c))
        · rw [if_pos (by rw [y1]), if_pos (by rw [y2]), if_pos (hi.mpr ⟨y1, y2⟩)]
        · rw [if_pos (by rw [y1]), if_neg fun r => y2 (on_inj (by omega) (by omega) r), if_neg fun r => y2 (hi.mp r).2]
      · rw [if_neg fun r => y1 (on_inj (by omega) (by omega) r), if_neg fun r => y1 (hi.mp r).1]
    rw [hss]
    by_cases y : (p1 (p2 q) == p1 (p2 c) && p1 (p2 (p2 q)) == p1 (p2 (p2 c))) = true
    · rw [if_pos y, if_neg (show ¬ (1 : Int32) = 0 by decide), y]
      exact hall true I hI
    · rw [if_neg y, if_pos rfl]
      rw [Bool.not_eq_true] at y
      rw [y]
      exact hall false _ (hI.refuse (by decide))
/-! the class's text -/
theorem lpp_ix {S : Type} {f : Int32 × S → Option (S ⊕ (Int32 × S))} (P : Nat → S → Prop) (N : Nat) (h1 : ∀ i s, i < N → P i s → ∃ s', f (Int32.ofNat i, s) = some (.inr (Int32.ofNat (i + 1), s')) ∧ P (i + 1) s') (h2 : ∀ s, P N s → f (Int32.ofNat N, s) = some (.inl s)) : ∀ (m i : Nat) (s : S) (fuel : Nat), i + m = N → m < fuel → P i s → ∃ s', lpp f fuel (Int32.ofNat i, s) = some s' ∧ P N s' := by
  intro m
  induction m with
  | zero =>
    intro i s fuel hi hf hP
    obtain ⟨fuel, rfl⟩ : ∃ g, fuel = g + 1 := ⟨fuel - 1, by omega⟩
    have e : i = N := by omega
    rw [e] at hP ⊢
    exact ⟨s, lpp_l (h2 s hP), hP⟩
  | succ m ih =>
    intro i s fuel hi hf hP
    obtain ⟨fuel, rfl⟩ : ∃ g, fuel = g + 1 := ⟨fuel - 1, by omega⟩
    obtain ⟨s', e1, e2⟩ := h1 i s (by omega) hP
    rw [lpp_r e1]
    exact ih (i + 1) s' fuel (by omega) (by omega) e2
def CpD (a b : Nat) (I J : WI) : Prop := J 6 0 = I 14 0 ∧ (∀ i, i < a → J 7 i = I 15 i) ∧ (∀ i, i < b → J 8 i = I 16 i) ∧ ∀ k j, ¬ (k = 6 ∧ j = 0) → k ≠ 7 → k ≠ 8 → J k j = I k j
theorem become_D {I : WI} : ∃ J, F_X1_become I 6 14 = some J ∧ CpD 12 36 I J := by
  obtain ⟨J, j1, j2⟩ := lpp_ix (f := fun x : Int32 × WI => F_X1_become_10_1 (p2 x) 6 14 (p1 x)) (fun i s => CpD i 0 I s) 12 (fun i s hi hP => by
    obtain ⟨p1', p2', p3', p4'⟩ := hP
    show ∃ s', F_X1_become_10_1 s 6 14 (Int32.ofNat i) = some (.inr (Int32.ofNat (i + 1), s')) ∧ _
    unfold F_X1_become_10_1
    have hg : ¬ (12 : Int32) ≤ Int32.ofNat i := fun q => absurd ((ge_on (a := 12) (by decide) (by omega)).mp q) (by omega)
    rw [if_neg hg, if_neg hg, if_neg (nin (k := i) (N := 12) hi (by decide)), if_neg (nin (k := i) (N := 12) hi (by decide)), on_clamp (by omega), la1]
    refine ⟨_, rfl, ?_, fun j hj => ?_, fun j hj => absurd hj (Nat.not_lt_zero _), fun k j q1 q2 q3 => ?_⟩
    · rw [u2_nc (by omega)]
      exact p1'
    · by_cases c : j = i
      · rw [c, u2_at]
        exact p4' 15 i (by omega) (by decide) (by decide)
      · rw [u2_nc (by omega)]
        exact p2' j (by omega)
    · rw [u2_nc (by omega)]
      exact p4' k j q1 q2 q3) (fun s _ => by
    show F_X1_become_10_1 s 6 14 (Int32.ofNat 12) = _
    unfold F_X1_become_10_1
    rw [if_pos (by decide)]) 12 0 (u2 I 6 0 (I 14 0)) 4294967296 rfl (by decide) ⟨u2_at, fun j hj => absurd hj (Nat.not_lt_zero _), fun j hj => absurd hj (Nat.not_lt_zero _), fun k j q1 q2 q3 => u2_nc q1⟩
  obtain ⟨K, k1, k2⟩ := lpp_ix (f := fun x : Int32 × WI => F_X1_become_48_2 (p2 x) 6 14 (p1 x)) (fun i s => CpD 12 i I s) 36 (fun i s hi hP => by
    obtain ⟨p1', p2', p3', p4'⟩ := hP
    show ∃ s', F_X1_become_48_2 s 6 14 (Int32.ofNat i) = some (.inr (Int32.ofNat (i + 1), s')) ∧ _
    unfold F_X1_become_48_2
    have hg : ¬ (36 : Int32) ≤ Int32.ofNat i := fun q => absurd ((ge_on (a := 36) (by decide) (by omega)).mp q) (by omega)
    rw [if_neg hg, if_neg hg, if_neg (nin (k := i) (N := 36) hi (by decide)), if_neg (nin (k := i) (N := 36) hi (by decide)), on_clamp (by omega), la1]
    refine ⟨_, rfl, ?_, fun j hj => ?_, fun j hj => ?_, fun k j q1 q2 q3 => ?_⟩
    · rw [u2_nc (by omega)]
      exact p1'
    · rw [u2_nc (by omega)]
      exact p2' j hj
    · by_cases c : j = i
      · rw [c, u2_at]
        exact p4' 16 i (by omega) (by decide) (by decide)
      · rw [u2_nc (by omega)]
        exact p3' j (by omega)
    · rw [u2_nc (by omega)]
      exact p4' k j q1 q2 q3) (fun s _ => by
    show F_X1_become_48_2 s 6 14 (Int32.ofNat 36) = _
    unfold F_X1_become_48_2
    rw [if_pos (by decide)]) 36 0 J 4294967296 rfl (by decide) j2
  refine ⟨K, ?_, k2⟩
  unfold F_X1_become F_X1_become_10 F_X1_become_46 F_X1_become_48 F_X1_become_84
  show (lpp (fun x : Int32 × WI => F_X1_become_10_1 (p2 x) 6 14 (p1 x)) 4294967296 (Int32.ofNat 0, u2 I 6 0 (I 14 0))).bind _ = _
  rw [j1, ob_some]
  show (lpp (fun x : Int32 × WI => F_X1_become_48_2 (p2 x) 6 14 (p1 x)) 4294967296 (Int32.ofNat 0, J)).bind _ = _
  rw [k1, ob_some]
/-- the whole text -/
def c0 : Nat × Nat × Nat × Int64 := (0, 4, 4, 0)
theorem c0_ok : ImOk c0 := ⟨by decide, ⟨⟨by decide, by decide⟩, by decide, by decide⟩, fun k h => absurd h M_0, fun _ => rfl⟩
def textS (B : Nat → Nat) (n : Nat) : Nat ⊕ (Nat × (Nat × Nat × Nat × Int64) × (Nat × Nat × Nat × Int64) × List (List Nat)) := Sum.elim .inl (fun r => if wholeB (p1 (p2 r)) (p1 (p2 (p2 r))) (p2 (p2 (p2 r))) = true then .inr r else .inl n) (linesC B n (n + 1) 0 c0 c0 [] 0)
def TextEnd (I : WI) (L : WL) (x : Nat ⊕ (Nat × (Nat × Nat × Nat × Int64) × (Nat × Nat × Nat × Int64) × List (List Nat))) (v : Int32) (I' : WI) (L' : WL) : Prop := Fp I I' ∧ FpL L L' ∧ match x with
  | .inl g => ¬ I' 11 3 = 0 ∧ v = -10 - Int32.ofNat g
  | .inr r => v = Int32.ofNat (p1 r) ∧ I' 11 3 = 0 ∧ DraftC (p1 (p2 r)) (p1 (p2 (p2 r))) (p2 (p2 (p2 r))) I' L' ∧ ImOk (p1 (p2 r)) ∧ ImOk (p1 (p2 (p2 r))) ∧ DsOk (p2 (p2 (p2 r))) ∧ wholeB (p1 (p2 r)) (p1 (p2 (p2 r))) (p2 (p2 (p2 r))) = true
theorem takeText_C {B : Nat → Nat} {n : Nat} {I : WI} {L : WL} (T : Tap B n I) : ∃ v I' L', F_X6_takeText I L = some (v, I', L') ∧ TextEnd I L (textS B n) v I' L' := by
  have hn : n ≤ 320 := T.1
  unfold F_X6_takeText F_X1_clear F_X0_forget
  simp only [p1, p2]
  generalize hJ : (u2 (u2 (u2 (u2 (u2 (u2 (u2 (u2 (u2 (u2 I 12 0 0) 12 1 4) 12 2 4) 13 0 0) 13 1 4) 13 2 4) 14 0 0) 11 3 0) 11 5 0) 11 8 0) = J
  generalize hK : (u2 (u2 L 12 3 0) 13 3 0) = K
  have hfp : Fp I J := by
    rw [← hJ]
    exact (((((((((Fp.rfl.u (by decide) (by decide)).u (by decide) (by decide)).u (by decide) (by decide)).u (by decide) (by decide)).u (by decide) (by decide)).u (by decide) (by decide)).u (by decide) (by decide)).u (by decide) (by decide)).u (by decide) (by decide)).u (by decide) (by decide)
  have hfl : FpL L K := by
    rw [← hK]
    exact (FpL.rfl.u (.inl rfl)).u (.inr rfl)
  have D : DraftC c0 c0 [] J K := by
    refine ⟨⟨?_, ?_, ?_, ?_⟩, ⟨?_, ?_, ?_, ?_⟩, ?_, fun N hN => absurd hN (Nat.not_lt_zero _)⟩ <;> first | rw [← hJ] | rw [← hK]
    all_goals rfl
  obtain ⟨a', I', L', r1, r2, r3, r4⟩ := linesC_C (n + 1) 0 c0 c0 [] 0 J K 4294967296 (by omega) (by omega) (by omega) (hfp.tap T) (by omega) (by rw [← hJ]; rfl) (by rw [← hJ]; rfl) c0_ok c0_ok ⟨by decide, fun N hN => absurd hN (Nat.not_lt_zero _)⟩ D
  have h38 : ∀ r, F_X6_takeText_58 I' L' a' = r → F_X6_takeText_38 J K 0 = r := fun r h => by
    unfold F_X6_takeText_38
    show (lpp (fun x => F_X6_takeText_38_1 (p1 (p2 x)) (p2 (p2 x)) (p1 x)) 4294967296 (Int32.ofNat 0, J, K)).bind _ = _
    rw [r1]
    exact h
  suffices hs : ∃ v I'' L'', F_X6_takeText_58 I' L' a' = some (v, I'', L'') ∧ TextEnd J K (textS B n) v I'' L'' by
    obtain ⟨v, I'', L'', g1, g2, g3, g4⟩ := hs
    exact ⟨v, I'', L'', h38 _ g1, hfp.trans g2, hfl.trans g3, g4⟩
  unfold F_X6_takeText_58 F_X6_takeText_69 F_X6_takeText_87 textS
  cases hx : linesC B n (n + 1) 0 c0 c0 [] 0 with
  | inl g =>
    rw [hx] at r4
    rw [if_neg r4.1, if_neg r4.1, r4.2]
    exact ⟨_, _, _, rfl, r2, r3, r4.1, rfl⟩
  | inr r =>
    rw [hx] at r4
    obtain ⟨a1, a2, a3, a4, a5, a6, a7⟩ := r4
    obtain ⟨M, m1, m2, m3⟩ := judge_C a4 a5 a6 a7 a2 a3
    rw [if_pos a2, m1, ob_some]
    show ∃ v I'' L'', _ = _ ∧ TextEnd J K (if wholeB (p1 (p2 r)) (p1 (p2 (p2 r))) (p2 (p2 (p2 r))) = true then .inr r else .inl n) v I'' L''
    by_cases w : wholeB (p1 (p2 r)) (p1 (p2 (p2 r))) (p2 (p2 (p2 r))) = true
    · rw [if_pos w] at m3 ⊢
      rw [if_pos m3.1]
      exact ⟨_, _, _, rfl, r2.trans m2.fp, r3, a1, m3.1, a4.ft m2, a5, a6, a7, w⟩
    · rw [if_neg w] at m3 ⊢
      rw [if_neg m3.1, m3.2]
      exact ⟨_, _, _, rfl, r2.trans m2.fp, r3, m3.1, rfl⟩
/-! the class's text, kept -/
def FXc (I J : WI) : Prop := ∀ k j, k ≠ 0 → k ≠ 1 → k ≠ 2 → k ≠ 3 → k ≠ 4 → k ≠ 6 → k ≠ 7 → k ≠ 8 → ¬ (k = 9 ∧ j = 0) → (k < 11 ∨ 16 < k) → J k j = I k j
def FXcL (L K : WL) : Prop := ∀ k j, k ≠ 1 → k ≠ 2 → k ≠ 12 → k ≠ 13 → K k j = L k j
def KeptC (c q : Nat × Nat × Nat × Int64) (ds : List (List Nat)) (I : WI) (L : WL) : Prop := (I 1 0 = 1 ∧ I 1 1 = Int32.ofNat (p1 (p2 c)) ∧ I 1 2 = Int32.ofNat (p1 (p2 (p2 c))) ∧ L 1 3 = p2 (p2 (p2 c))) ∧ (I 2 0 = Int32.ofNat (p1 q) ∧ I 2 1 = Int32.ofNat (p1 (p2 q)) ∧ I 2 2 = Int32.ofNat (p1 (p2 (p2 q))) ∧ L 2 3 = p2 (p2 (p2 q))) ∧ I 3 0 = 0 ∧ I 4 0 = 0 ∧ I 6 0 = Int32.ofNat ds.length ∧ ∀ N, N < ds.length → I 7 N = Int32.ofNat (ds.getD N []).length ∧ ∀ j, j < (ds.getD N []).length → I 8 (3 * N + j) = Int32.ofNat ((ds.getD N []).getD j 0)
def FaceEnd (I : WI) (L : WL) (x : Nat ⊕ (Nat × (Nat × Nat × Nat × Int64) × (Nat × Nat × Nat × Int64) × List (List Nat))) (v : Int32) (I' : WI) (L' : WL) : Prop := I' 9 0 = 0 ∧ I' 0 14 = I 0 14 ∧ FXc I I' ∧ FXcL L L' ∧ match x with
  | .inl g => v = -10 - Int32.ofNat g ∧ (∀ k j, k ≠ 0 → ¬ (k = 9 ∧ j = 0) → (k < 11 ∨ 16 < k) → I' k j = I k j) ∧ ∀ k j, k ≠ 12 → k ≠ 13 → L' k j = L k j
  | .inr r => v = Int32.ofNat (p1 r) ∧ KeptC (p1 (p2 r)) (p1 (p2 (p2 r))) (p2 (p2 (p2 r))) I' L' ∧ ImOk (p1 (p2 r)) ∧ ImOk (p1 (p2 (p2 r))) ∧ DsOk (p2 (p2 (p2 r))) ∧ wholeB (p1 (p2 r)) (p1 (p2 (p2 r))) (p2 (p2 (p2 r))) = true
theorem text_C {B : Nat → Nat} {n : Nat} {I : WI} {L : WL} (T : Tap B n I) : ∃ v I' L', F_X8_text I L = some (v, I', L') ∧ FaceEnd I L (textS B n) v I' L' := by
  obtain ⟨v, M, K, r1, r2, r3, r4⟩ := takeText_C (L := L) T
  unfold F_X8_text F_X8_text_100
  rw [r1, ob_some]
  show ∃ v' I' L', (if (u2 (u2 M 0 13 (M 11 3)) 9 0 0) 0 13 = 0 then (Option.bind (F_X1_become (p1 (F_X0_become (u2 (p1 (F_X0_become (u2 (u2 M 0 13 (M 11 3)) 9 0 0) K 1 12)) 1 0 1) (p2 (F_X0_become (u2 (u2 M 0 13 (M 11 3)) 9 0 0) K 1 12)) 2 13)) 6 14) (fun v3 => some (v, u2 (u2 v3 3 0 0) 4 0 0, (p2 (F_X0_become (u2 (p1 (F_X0_become (u2 (u2 M 0 13 (M 11 3)) 9 0 0) K 1 12)) 1 0 1) (p2 (F_X0_become (u2 (u2 M 0 13 (M 11 3)) 9 0 0) K 1 12)) 2 13))))) else some (v, u2 (u2 M 0 13 (M 11 3)) 9 0 0, K)) = some (v', I', L') ∧ _
  rw [u2_nc (by omega), u2_at]
  cases hx : textS B n with
  | inl g =>
    rw [hx] at r4
    rw [if_neg r4.1]
    refine ⟨_, _, _, rfl, u2_at, ?_, fun k j h0 h1 h2 h3 h4 h6 h7 h8 h9 h10 => ?_, fun k j h1 h2 h3 h4 => r3 k j (by omega), r4.2, fun k j h0 h9 h10 => ?_, fun k j h3 h4 => r3 k j (by omega)⟩
    · rw [u2_nc (by omega), u2_nc (by omega)]
      exact r2 0 14 (by omega)
    · rw [u2_nc h9, u2_nc (by omega)]
      exact r2 k j (by omega)
    · rw [u2_nc h9, u2_nc (by omega)]
      exact r2 k j (by omega)
  | inr r =>
    rw [hx] at r4
    obtain ⟨a1, a2, a3, a4, a5, a6, a7⟩ := r4
    obtain ⟨⟨b1, b2, b3, b4⟩, ⟨b5, b6, b7, b8⟩, b9, b10⟩ := a3
    rw [if_pos a2]
    obtain ⟨Z, z1, z2, z3, z4, z5⟩ := become_D (I := (p1 (F_X0_become (u2 (p1 (F_X0_become (u2 (u2 M 0 13 (M 11 3)) 9 0 0) K 1 12)) 1 0 1) (p2 (F_X0_become (u2 (u2 M 0 13 (M 11 3)) 9 0 0) K 1 12)) 2 13)))
    rw [z1, ob_some]
    have hs : ∀ k j, k ≠ 0 → k ≠ 1 → k ≠ 2 → ¬ (k = 9 ∧ j = 0) → (p1 (F_X0_become (u2 (p1 (F_X0_become (u2 (u2 M 0 13 (M 11 3)) 9 0 0) K 1 12)) 1 0 1) (p2 (F_X0_become (u2 (u2 M 0 13 (M 11 3)) 9 0 0) K 1 12)) 2 13)) k j = M k j := fun k j h0 h1 h2 h9 => by
      unfold F_X0_become
      show (u2 (u2 (u2 (u2 (u2 (u2 (u2 (u2 (u2 M 0 13 _) 9 0 0) 1 0 _) 1 1 _) 1 2 _) 1 0 1) 2 0 _) 2 1 _) 2 2 _) k j = _
      rw [u2_nc (by omega), u2_nc (by omega), u2_nc (by omega), u2_nc (by omega), u2_nc (by omega), u2_nc (by omega), u2_nc (by omega), u2_nc h9, u2_nc (by omega)]
    have hz : ∀ k j, k ≠ 3 → k ≠ 4 → (u2 (u2 Z 3 0 0) 4 0 0) k j = Z k j := fun k j h3 h4 => by rw [u2_nc (by omega), u2_nc (by omega)]
    have hv : ∀ k j x, k ≠ 3 → k ≠ 4 → k ≠ 6 → k ≠ 7 → k ≠ 8 → (p1 (F_X0_become (u2 (p1 (F_X0_become (u2 (u2 M 0 13 (M 11 3)) 9 0 0) K 1 12)) 1 0 1) (p2 (F_X0_become (u2 (u2 M 0 13 (M 11 3)) 9 0 0) K 1 12)) 2 13)) k j = x → (u2 (u2 Z 3 0 0) 4 0 0) k j = x := fun k j x h3 h4 h6 h7 h8 h => (hz k j h3 h4).trans ((z5 k j (by omega) h7 h8).trans h)
    have hq0 : bz (M 13 0) = Int32.ofNat (p1 (p1 (p2 (p2 r)))) := by
      rw [b5]
      have := a5.1
      rcases (show p1 (p1 (p2 (p2 r))) = 0 ∨ p1 (p1 (p2 (p2 r))) = 1 by omega) with e | e <;> rw [e] <;> decide
    refine ⟨_, _, _, rfl, ?_, ?_, fun k j h0 h1 h2 h3 h4 h6 h7 h8 h9 h10 => ?_, fun k j h1 h2 h3 h4 => ?_, a1, ⟨⟨?_, ?_, ?_, ?_⟩, ⟨?_, ?_, ?_, ?_⟩, ?_, ?_, ?_, fun N hN => ?_⟩, a4, a5, a6, a7⟩
    · exact hv 9 0 0 (by decide) (by decide) (by decide) (by decide) (by decide) rfl
    · exact hv 0 14 _ (by decide) (by decide) (by decide) (by decide) (by decide) (r2 0 14 (by omega))
    · exact hv k j _ h3 h4 h6 h7 h8 ((hs k j h0 h1 h2 h9).trans (r2 k j h10))
    · show (u2 (u2 K 1 3 _) 2 3 _) k j = _
      rw [u2_nc (by omega), u2_nc (by omega)]
      exact r3 k j (by omega)
    · exact hv 1 0 1 (by decide) (by decide) (by decide) (by decide) (by decide) rfl
    · exact hv 1 1 _ (by decide) (by decide) (by decide) (by decide) (by decide) b2
    · exact hv 1 2 _ (by decide) (by decide) (by decide) (by decide) (by decide) b3
    · exact b4
    · exact hv 2 0 _ (by decide) (by decide) (by decide) (by decide) (by decide) hq0
    · exact hv 2 1 _ (by decide) (by decide) (by decide) (by decide) (by decide) b6
    · exact hv 2 2 _ (by decide) (by decide) (by decide) (by decide) (by decide) b7
    · exact b8
    · rfl
    · rfl
    · rw [hz 6 0 (by decide) (by decide), z2]
      exact b9
    · have hd := a6.2 N hN
      have hM := a6.1
      refine ⟨?_, fun j hj => ?_⟩
      · rw [hz 7 N (by decide) (by decide), z3 N (by omega), hs 15 N (by decide) (by decide) (by decide) (by omega)]
        exact (b10 N hN).1
      · rw [hz 8 _ (by decide) (by decide), z4 _ (by omega), hs 16 _ (by decide) (by decide) (by decide) (by omega)]
        exact (b10 N hN).2 j hj
/-! rows of the text, as they are read: the reference -/
/-- a fault at g -/
def Fm (g : Nat) (I : WI) : Prop := 0 < (I 33 26).toInt ∧ I 33 27 = Int32.ofNat g
/-- the reference stands at the token behind p -/
def MAt (B : Nat → Nat) (n p : Nat) (I : WI) : Prop := (tk B n (tf B n p) ≠ 4 → AtM n I (tk B n (tf B n p)) (tf B n p) (te B n (tf B n p)) ∧ I 33 26 = 0 ∧ (tk B n (tf B n p) = 2 → I 33 25 = Int32.ofNat (tv B n (tf B n p)))) ∧ (tk B n (tf B n p) = 4 → Fm (tf B n p) I)
theorem StepM.at {B : Nat → Nat} {n p : Nat} {I J : WI} (hp : p ≤ n) (S : StepM B n p I J) : MAt B n p J := by
  obtain ⟨-, s1, s2⟩ := S
  have hf := tf_le (B := B) hp
  have he := te_le (B := B) (f := tf B n p) hf.2
  refine ⟨fun h => ?_, fun h => ?_⟩
  · obtain ⟨a1, a2, a3, a4, a5⟩ := s1 h
    exact ⟨⟨a2, a1, a3, he.1, he.2.1⟩, a4, a5⟩
  · obtain ⟨b1, b2⟩ := s2 h
    exact ⟨by rw [b1]; decide, b2⟩
theorem Fm.ne {g : Nat} {I : WI} (h : Fm g I) : ¬ I 33 26 = 0 := fun q => by
  have := h.1
  rw [q] at this
  exact absurd this (by decide)
theorem Fm.needs {g : Nat} {I : WI} {a c : Int32} (h : Fm g I) : F_X9_needs I a c = I := needs_f h.ne
theorem Fm.next {g : Nat} {I : WI} (h : Fm g I) : F_X9_next I = some I := next_f h.1
theorem needs_at {g : Nat} {I : WI} {c : Int32} (h : I 33 26 = 0) (h23 : I 33 23 = Int32.ofNat g) (hc : 0 < c.toInt) : Fm g (F_X9_needs I 0 c) ∧ Fn I (F_X9_needs I 0 c) := by
  rw [needs_0 h]
  refine ⟨⟨?_, ?_⟩, (Fn.rfl.u (by decide) (by decide)).u (by decide) (by decide)⟩
  · rw [u2_nc (by omega), u2_at]
    exact hc
  · rw [u2_at, h23]
theorem bad93 {g : Nat} {I : WI} {L : WL} {a s : Int32} (h : Fm g (F_X9_needs I s 3)) : ∃ x, F_X9_readRows_93_1 I L a s = some (.inr (x, F_X9_needs I s 3, L)) := by
  unfold F_X9_readRows_93_1 F_X9_readRows_168_1 F_X9_readRows_185_1
  rw [if_neg h.ne, h.next, ob_some]
  by_cases c : F_X9_needs I s 3 33 24 = 1
  · rw [if_pos c]; exact ⟨1, rfl⟩
  · rw [if_neg c]; exact ⟨0, rfl⟩
theorem bad52 {g : Nat} {I : WI} {L : WL} {s : Int32} (h : Fm g (F_X9_needs I s 5)) : ∃ x, F_X9_readRows_52_1 I L s = some (.inr (x, F_X9_needs I s 5, L)) := by
  unfold F_X9_readRows_52_1 F_X9_readRows_92_1 F_X9_readRows_88_1
  have key : ∀ a t, ∃ x, F_X9_readRows_93_1 (F_X9_needs I s 5) L a t = some (.inr (x, F_X9_needs I s 5, L)) := fun a t => by
    have e : F_X9_needs (F_X9_needs I s 5) t 3 = F_X9_needs I s 5 := h.needs
    obtain ⟨x, hx⟩ := bad93 (I := F_X9_needs I s 5) (L := L) (a := a) (s := t) (g := g) (by rw [e]; exact h)
    rw [e] at hx
    exact ⟨x, hx⟩
  split
  · exact key _ _
  split
  · exact key _ _
  split
  · exact key _ _
  · exact key _ _
/-- what may change while rows are read -/
def Fq (I J : WI) : Prop := ∀ k j, ¬ (k = 33 ∧ 22 ≤ j ∧ j ≤ 29) → J k j = I k j
def FqL (L K : WL) : Prop := ∀ k j, ¬ (k = 33 ∧ j = 30) → K k j = L k j
theorem Fq.rfl {I : WI} : Fq I I := fun _ _ _ => Eq.refl _
theorem FqL.rfl {L : WL} : FqL L L := fun _ _ _ => Eq.refl _
theorem Fq.trans {I J K : WI} (a : Fq I J) (b : Fq J K) : Fq I K := fun k j p => (b k j p).trans (a k j p)
theorem FqL.trans {I J K : WL} (a : FqL I J) (b : FqL J K) : FqL I K := fun k j p => (b k j p).trans (a k j p)
theorem Fn.fq {I J : WI} (h : Fn I J) : Fq I J := fun k j a => h k j (by omega)
theorem Fq.u {I J : WI} {j : Nat} {x : Int32} (a : Fq I J) (h : 22 ≤ j) (h' : j ≤ 29) : Fq I (u2 J 33 j x) := fun k' j' q => (u2_nc (by omega)).trans (a k' j' q)
theorem FqL.u {L K : WL} {x : Int64} (a : FqL L K) : FqL L (u2 K 33 30 x) := fun k j q => (u2_nc q).trans (a k j q)
theorem Fq.tap {I J : WI} {B : Nat → Nat} {n : Nat} (a : Fq I J) (T : TapM B n I) : TapM B n J := T.ag fun k j h => a k j (by omega)
/-- how the reference ends with rows -/
def RowsM (B : Nat → Nat) (n : Nat) (I : WI) (L : WL) (x : Nat ⊕ (Nat × Nat × Nat × Int64)) (I' : WI) (L' : WL) : Prop := Fq I I' ∧ FqL L L' ∧ ((∃ g, x = .inl g ∧ Fm g I') ∨ ∃ p m wd, p ≤ n ∧ MAt B n p I' ∧ tk B n (tf B n p) ≠ 4 ∧ (if tk B n (tf B n p) = 3 then x = .inr (te B n (tf B n p), m, wd, L' 33 30) else x = .inl (tf B n p)) ∧ I' 33 28 = Int32.ofNat m ∧ I' 33 29 = Int32.ofNat wd)
theorem rows_M {B : Nat → Nat} {n : Nat} : ∀ (u m wd : Nat) (a : Int32) (I : WI) (L : WL) (p fuel : Nat), u + m = 9 → u + 1 < fuel → TapM B n I → p ≤ n → MAt B n p I → (tk B n (tf B n p) ≠ 4 → a = if m = 0 ∨ tk B n (tf B n p) = 1 then 1 else 0) → I 33 28 = Int32.ofNat m → I 33 29 = Int32.ofNat wd → wd ≤ 8 → 1 ≤ u → ∃ I' L', lpp (fun x => F_X9_readRows_17_1 (p1 (p2 x)) (p2 (p2 x)) (p1 x)) fuel (a, I, L) = some (I', L') ∧ RowsM B n I L (rowsS B n u m wd (L 33 30) p) I' L' := by
  intro u
  induction u with
  | zero => intro m wd a I L p fuel _ _ _ _ _ _ _ _ _ h; omega
  | succ u ih =>
    intro m wd a I L p fuel hu hf T hp A ha e1 e2 hwd _
    obtain ⟨fuel, rfl⟩ : ∃ g, fuel = g + 1 := ⟨fuel - 1, by omega⟩
    have hn : n ≤ 320 := T.1
    have hfp := tf_le (B := B) hp
    have hte := te_le (B := B) (f := tf B n p) hfp.2
    have hl : ∀ r a I L k, F_X9_readRows_17_1 I L a = some (.inl r) → lpp (fun x : Int32 × WI × WL => F_X9_readRows_17_1 (p1 (p2 x)) (p2 (p2 x)) (p1 x)) (k + 1) (a, I, L) = some r := fun r a I L k h => lpp_l (f := (fun x : Int32 × WI × WL => F_X9_readRows_17_1 (p1 (p2 x)) (p2 (p2 x)) (p1 x))) (s := (a, I, L)) h
    have hr : ∀ s a I L k, F_X9_readRows_17_1 I L a = some (.inr s) → lpp (fun x : Int32 × WI × WL => F_X9_readRows_17_1 (p1 (p2 x)) (p2 (p2 x)) (p1 x)) (k + 1) (a, I, L) = lpp (fun x : Int32 × WI × WL => F_X9_readRows_17_1 (p1 (p2 x)) (p2 (p2 x)) (p1 x)) k s := fun s a I L k h => lpp_r (f := (fun x : Int32 × WI × WL => F_X9_readRows_17_1 (p1 (p2 x)) (p2 (p2 x)) (p1 x))) (s := (a, I, L)) h
    have hfa : ∀ g a J K, Fm g J → F_X9_readRows_17_1 J K a = some (.inl (J, K)) := fun g a J K h => by
      unfold F_X9_readRows_17_1
      rw [if_neg h.ne]
    unfold rowsS
    by_cases c4 : tk B n (tf B n p) = 4
    · have hF := A.2 c4
      rw [hl _ _ _ _ _ (hfa _ a I L hF), if_neg (show ¬ (0 < m ∧ tk B n (tf B n p) = 3) from fun q => by have := q.2; omega), if_neg (show ¬ goodRow B n m wd (tf B n p) = true from fun q => by have := (goodRow_iff.mp q).1; omega)]
      exact ⟨I, L, rfl, Fq.rfl, FqL.rfl, .inl ⟨_, rfl, hF⟩⟩
    obtain ⟨hA, h26, hv⟩ := A.1 c4
    have ha := ha c4
    by_cases c0 : m = 0 ∨ tk B n (tf B n p) = 1
    · rw [if_pos c0] at ha
      -- the row's name is asked for
      have h17 : F_X9_readRows_17_1 I L a = Option.bind (F_X9_isRowName I) (fun v3 => (if 8 ≤ ((F_X9_needs I v3 2) 33 28) then (F_X9_readRows_52_1 (F_X9_needs I v3 2) L 0) else (F_X9_readRows_52_1 (F_X9_needs I v3 2) L 1))) := by
        unfold F_X9_readRows_17_1
        rw [if_pos h26, ha, if_neg (show ¬ (1 : Int32) = 0 by decide)]
      rw [rowName_M T hA hte.2.2.2.2.2.1, ob_some] at h17
      have hbad : ∀ x J, Fm (tf B n p) J → Fn I J → F_X9_readRows_17_1 I L a = some (.inr (x, J, L)) → ¬ goodRow B n m wd (tf B n p) = true → ¬ (0 < m ∧ tk B n (tf B n p) = 3) → ∃ I' L', lpp (fun x => F_X9_readRows_17_1 (p1 (p2 x)) (p2 (p2 x)) (p1 x)) (fuel + 1) (a, I, L) = some (I', L') ∧ RowsM B n I L (if 0 < m ∧ tk B n (tf B n p) = 3 then .inr (te B n (tf B n p), m, wd, L 33 30) else if goodRow B n m wd (tf B n p) = true then rowsS B n u (m + 1) (te B n (tf B n p) - tf B n p) (rs B (tf B n p) m (te B n (tf B n p) - tf B n p) (L 33 30)) (te B n (tf B n p)) else .inl (tf B n p)) I' L' := by
        intro x J hF hN hx hg h3
        obtain ⟨k, rfl⟩ : ∃ g, fuel = g + 1 := ⟨fuel - 1, by omega⟩
        rw [hr _ _ _ _ _ hx, hl _ _ _ _ _ (hfa _ x J L hF), if_neg h3, if_neg hg]
        exact ⟨J, L, rfl, hN.fq, FqL.rfl, .inl ⟨_, rfl, hF⟩⟩
      have h3 : ¬ (0 < m ∧ tk B n (tf B n p) = 3) := fun q => by omega
      obtain ⟨a1, a2, a3, a4, a5⟩ := hA
      by_cases d1 : tk B n (tf B n p) = 1 ∧ rwb B (tf B n p) (te B n (tf B n p)) = true
      · rw [if_pos d1, needs_1, e1] at h17
        by_cases d8 : m < 8
        · rw [if_neg (show ¬ (8 : Int32) ≤ Int32.ofNat m from fun q => absurd ((ge_on (a := 8) (by decide) (by omega)).mp q) (by omega))] at h17
          unfold F_X9_readRows_52_1 F_X9_readRows_92_1 F_X9_readRows_88_1 at h17
          rw [needs_1, a3, a2, on_sub hte.1, e1, e2] at h17
          by_cases dg : goodRow B n m wd (tf B n p) = true
          · -- a row
            obtain ⟨-, -, g8, gw, -⟩ := goodRow_iff.mp dg
            rw [if_neg h3, if_pos dg]
            generalize hln : te B n (tf B n p) - tf B n p = ln at *
            have h93 : F_X9_readRows_17_1 I L a = F_X9_readRows_93_1 I L (Int32.ofNat ln) 1 := by
              rw [h17, if_neg (show ¬ (8 : Int32) < Int32.ofNat ln from fun q => absurd ((lt_onn (a := 8) (by decide) (by omega)).mp q) (by omega))]
              by_cases g0 : m = 0
              · rw [if_pos (show Int32.ofNat m = 0 by rw [g0]; rfl)]
              · rw [if_neg (show ¬ Int32.ofNat m = 0 from fun q => g0 (on_inj (b := 0) (by omega) (by decide) q)), if_pos (show Int32.ofNat ln = Int32.ofNat wd by rw [gw.resolve_left g0])]
            have T2 : TapM B n (u2 I 33 29 (Int32.ofNat ln)) := (Fq.rfl.u (by decide) (by decide)).tap T
            obtain ⟨x, x1, x2⟩ := frp0_nat (g := fun i y => F_X9_readRows_116_2 (u2 I 33 29 (Int32.ofNat ln)) y (Int32.ofNat ln) i) (b := ln) (by omega) (fun i y => y = u2 L 33 30 (rs B (tf B n p) m i (L 33 30))) (s := L) (fun i y hi hy => by
              refine ⟨u2 L 33 30 (rs B (tf B n p) m (i + 1) (L 33 30)), ?_, rfl⟩
              show F_X9_readRows_116_2 (u2 I 33 29 (Int32.ofNat ln)) y (Int32.ofNat ln) (Int32.ofNat i) = _
              have hb := (ub_t (B (tf B n p + i)) (T.2.2.2 (tf B n p + i) (by omega)).1).2.2.2.2.1
              unfold F_X9_readRows_116_2 F_X9_readRows_148_2 F_X9_bitOf
              rw [u2_nc (by omega), a2, oadd, look_in T2 (by omega), ob_some, u2_nc (by omega), e1, lm8, oadd, hy, u2_at]
              show _ = some (u2 L 33 30 (rs B (tf B n p) m i (L 33 30) ||| (if B (tf B n p + i) = 100 then lsh 1 (Int32.ofNat (8 * m + i)) else 0)))
              by_cases q : B (tf B n p + i) = 100
              · rw [if_pos (hb.mpr q), if_pos q, u2_u2]
              · rw [if_neg fun r => q (hb.mp r), if_neg q, u2_u2]) u2_id.symm
            obtain ⟨V, v1, S⟩ := next_M (B := B) (n := n) (p := te B n (tf B n p)) (I := u2 (u2 I 33 29 (Int32.ofNat ln)) 33 28 (Int32.ofNat (m + 1))) ((((Fq.rfl.u (by decide) (by decide)).u (by decide) (by decide)) : Fq I _).tap T) hte.2.1 (by rw [u2_nc (by omega), u2_nc (by omega), a3]) (by rw [u2_nc (by omega), u2_nc (by omega), h26])
            have hV : F_X9_readRows_17_1 I L a = some (.inr (if V 33 24 = 1 then 1 else 0, V, u2 L 33 30 (rs B (tf B n p) m ln (L 33 30)))) := by
              rw [h93]
              unfold F_X9_readRows_93_1 F_X9_readRows_111_1 F_X9_readRows_158_1 F_X9_readRows_168_1 F_X9_readRows_185_1
              rw [needs_1, if_pos h26, x1, ob_some, x2, u2_nc (k := 33) (j := 29) (by omega), e1, la1, v1, ob_some]
              by_cases q : V 33 24 = 1
              · rw [if_pos q, if_pos q]
              · rw [if_neg q, if_neg q]
            rw [hr _ _ _ _ _ hV]
            have hfV : Fq I V := ((Fq.rfl.u (by decide) (by decide)).u (by decide) (by decide)).trans S.1.fq
            have hf2 := tf_le (B := B) hte.2.1
            have hte2 := te_le (B := B) (f := tf B n (te B n (tf B n p))) hf2.2
            obtain ⟨I', L', r1, r2, r3, r4⟩ := ih (m + 1) ln (if V 33 24 = 1 then 1 else 0) V (u2 L 33 30 (rs B (tf B n p) m ln (L 33 30))) (te B n (tf B n p)) fuel (by omega) (by omega) (hfV.tap T) hte.2.1 (S.at hte.2.1) (fun q4 => by
              rw [(S.2.1 q4).2.1]
              by_cases q : tk B n (tf B n (te B n (tf B n p))) = 1
              · rw [if_pos (by rw [q]; rfl), if_pos (.inr q)]
              · rw [if_neg (show ¬ Int32.ofNat (tk B n (tf B n (te B n (tf B n p)))) = 1 from fun r => q (on_inj (b := 1) (by omega) (by decide) r)), if_neg fun r => r.elim (by omega) q]) ((S.1 33 28 (by omega)).trans u2_at) ((S.1 33 29 (by omega)).trans (by rw [u2_nc (by omega), u2_at])) g8 (by omega)
            rw [u2_at] at r4
            exact ⟨I', L', r1, hfV.trans r2, FqL.rfl.u.trans r3, r4⟩
          · -- not as wide, or too wide
            have hx : ∃ x, F_X9_readRows_17_1 I L a = some (.inr (x, F_X9_needs I 0 3, L)) := by
              obtain ⟨x, hx⟩ := bad93 (I := I) (L := L) (a := Int32.ofNat (te B n (tf B n p) - tf B n p)) (s := 0) (needs_at (c := 3) h26 a2 (by decide)).1
              refine ⟨x, ?_⟩
              rw [h17]
              by_cases g8 : te B n (tf B n p) - tf B n p ≤ 8
              · rw [if_neg (show ¬ (8 : Int32) < Int32.ofNat (te B n (tf B n p) - tf B n p) from fun q => absurd ((lt_onn (a := 8) (by decide) (by omega)).mp q) (by omega))]
                have g0 : ¬ m = 0 := fun q => dg (goodRow_iff.mpr ⟨d1.1, d1.2, g8, .inl q, d8⟩)
                have gw : ¬ te B n (tf B n p) - tf B n p = wd := fun q => dg (goodRow_iff.mpr ⟨d1.1, d1.2, g8, .inr q, d8⟩)
                rw [if_neg (show ¬ Int32.ofNat m = 0 from fun q => g0 (on_inj (b := 0) (by omega) (by decide) q)), if_neg (show ¬ Int32.ofNat (te B n (tf B n p) - tf B n p) = Int32.ofNat wd from fun q => gw (on_inj (by omega) (by omega) q))]
                exact hx
              · rw [if_pos (show (8 : Int32) < Int32.ofNat (te B n (tf B n p) - tf B n p) from (lt_onn (a := 8) (by decide) (by omega)).mpr (by omega))]
                exact hx
            obtain ⟨x, hx⟩ := hx
            obtain ⟨hF, hN⟩ := needs_at (c := 3) h26 a2 (by decide)
            exact hbad x _ hF hN hx dg h3
        · rw [if_pos (show (8 : Int32) ≤ Int32.ofNat m from (ge_on (a := 8) (by decide) (by omega)).mpr (by omega))] at h17
          obtain ⟨hF, hN⟩ := needs_at (c := 5) h26 a2 (by decide)
          obtain ⟨x, hx⟩ := bad52 (I := I) (L := L) (s := 0) hF
          exact hbad x _ hF hN (h17.trans hx) (fun q => d8 (goodRow_iff.mp q).2.2.2.2) h3
      · rw [if_neg d1] at h17
        obtain ⟨hF, hN⟩ := needs_at (c := 2) h26 a2 (by decide)
        have hx : ∃ x, F_X9_readRows_17_1 I L a = some (.inr (x, F_X9_needs I 0 2, L)) := by
          have key : ∀ s, ∃ x, F_X9_readRows_52_1 (F_X9_needs I 0 2) L s = some (.inr (x, F_X9_needs I 0 2, L)) := fun s => by
            have e : F_X9_needs (F_X9_needs I 0 2) s 5 = F_X9_needs I 0 2 := hF.needs
            obtain ⟨x, hx⟩ := bad52 (I := F_X9_needs I 0 2) (L := L) (s := s) (g := tf B n p) (by rw [e]; exact hF)
            rw [e] at hx
            exact ⟨x, hx⟩
          rw [h17]
          split
          · exact key _
          · exact key _
        obtain ⟨x, hx⟩ := hx
        exact hbad x _ hF hN hx (fun q => d1 ⟨(goodRow_iff.mp q).1, (goodRow_iff.mp q).2.1⟩) h3
    · rw [if_neg c0] at ha
      have h17 : F_X9_readRows_17_1 I L a = some (.inl (I, L)) := by
        unfold F_X9_readRows_17_1
        rw [if_pos h26, ha, if_pos rfl]
      rw [hl _ _ _ _ _ h17, if_neg (show ¬ goodRow B n m wd (tf B n p) = true from fun q => c0 (.inr (goodRow_iff.mp q).1))]
      refine ⟨I, L, rfl, Fq.rfl, FqL.rfl, .inr ⟨p, m, wd, hp, A, c4, ?_, e1, e2⟩⟩
      by_cases d : tk B n (tf B n p) = 3
      · rw [if_pos d, if_pos ⟨by omega, d⟩]
      · rw [if_neg d, if_neg (show ¬ (0 < m ∧ tk B n (tf B n p) = 3) from fun q => d q.2)]
/-! an act of the text, as it is read: the reference -/
def Fda (N : Nat) (I J : WI) : Prop := ∀ k j, ¬ (k = 33 ∧ 22 ≤ j ∧ j ≤ 27) → ¬ (k = 38 ∧ 4 * N ≤ j) → J k j = I k j
theorem Fda.rfl {N : Nat} {I : WI} : Fda N I I := fun _ _ _ _ => Eq.refl _
theorem Fda.trans {N : Nat} {I J K : WI} (a : Fda N I J) (b : Fda N J K) : Fda N I K := fun k j p q => (b k j p q).trans (a k j p q)
theorem Fn.fda {N : Nat} {I J : WI} (h : Fn I J) : Fda N I J := fun k j a _ => h k j a
theorem Fda.tap {N : Nat} {I J : WI} {B : Nat → Nat} {n : Nat} (a : Fda N I J) (T : TapM B n I) : TapM B n J := T.ag fun k j h => a k j (by omega) (by omega)
theorem rest113 {g : Nat} {J : WI} {a b : Int32} (h : Fm g J) : F_X9_readAct_113 J a b = some J := by
  unfold F_X9_readAct_113 F_X9_readAct_144
  rw [if_neg h.ne, h.next, ob_some]
theorem rest78 {g : Nat} {J : WI} {a b : Int32} (h : Fm g J) : F_X9_readAct_78 J a b = some J := by
  unfold F_X9_readAct_78
  rw [if_neg h.ne, rest113 h]
theorem rest45 {g : Nat} {I : WI} {a b s : Int32} (h : Fm g (F_X9_needs I s 5)) : F_X9_readAct_45 I a b s = some (F_X9_needs I s 5) := by
  unfold F_X9_readAct_45
  rw [h.next, ob_some, if_neg h.ne, rest78 h]
theorem rest30 {g : Nat} {I : WI} {a b s : Int32} (h : Fm g (F_X9_needs I s 2)) : F_X9_readAct_30 I a b s = some (F_X9_needs I s 2) := by
  unfold F_X9_readAct_30
  have key : ∀ t, F_X9_readAct_45 (F_X9_needs I s 2) a b t = some (F_X9_needs I s 2) := fun t => by
    have e : F_X9_needs (F_X9_needs I s 2) t 5 = F_X9_needs I s 2 := h.needs
    have := rest45 (I := F_X9_needs I s 2) (a := a) (b := b) (s := t) (g := g) (by rw [e]; exact h)
    rw [e] at this
    exact this
  split
  · exact key _
  · exact key _
theorem in_t : ∀ v, v < 100 → F_X9_in (Int32.toInt64 (Int32.ofNat v)) 0 14 = (if v ≤ 14 then 1 else 0) ∧ F_X9_in (Int32.toInt64 (Int32.ofNat v)) 0 7 = (if v ≤ 7 then 1 else 0) := by decide +kernel
theorem actNow_k {B : Nat → Nat} {n f e : Nat} {I : WI} (T : TapM B n I) (A : AtM n I 1 f e) : F_X9_actNow I = some (if kdS B f e < 3 then Int32.ofNat (kdS B f e) else -4) := by
  rw [actNow_M T A]
  unfold kdS
  by_cases c3 : nmb B f e 3 = true
  · rw [if_pos c3, if_pos c3]; rfl
  rw [if_neg c3, if_neg c3]
  by_cases c4 : nmb B f e 4 = true
  · rw [if_pos c4, if_pos c4]; rfl
  rw [if_neg c4, if_neg c4]
  by_cases c5 : nmb B f e 5 = true
  · rw [if_pos c5, if_pos c5]; rfl
  · rw [if_neg c5, if_neg c5]; rfl
theorem act_M {B : Nat → Nat} {n p N : Nat} {l : List Nat} {I : WI} (T : TapM B n I) (hp : p ≤ n) (A : MAt B n p I) (c4 : tk B n (tf B n p) ≠ 4) (hN : N < 12) (h18 : I 33 18 = Int32.ofNat N) (hl : l.length ≤ 3) : if tk B n (tf B n p) = 1 ∧ kdS B (tf B n p) (te B n (tf B n p)) < 3 ∧ l.length < 3 then (if okNum B n (kdS B (tf B n p) (te B n (tf B n p))) (tf B n (te B n (tf B n p))) = true then ∃ I', F_X9_readAct I (Int32.ofNat l.length) = some I' ∧ Fda N I I' ∧ MAt B n (te B n (tf B n (te B n (tf B n p)))) I' ∧ I' 38 (4 * N + 1 + l.length) = Int32.ofNat (20 * kdS B (tf B n p) (te B n (tf B n p)) + tv B n (tf B n (te B n (tf B n p)))) ∧ ∀ j, j ≠ 4 * N + 1 + l.length → I' 38 j = I 38 j else ∃ I', F_X9_readAct I (Int32.ofNat l.length) = some I' ∧ Fda N I I' ∧ Fm (tf B n (te B n (tf B n p))) I') else ∃ I', F_X9_readAct I (Int32.ofNat l.length) = some I' ∧ Fda N I I' ∧ Fm (tf B n p) I' := by
  have hn : n ≤ 320 := T.1
  have hfp := tf_le (B := B) hp
  have hte := te_le (B := B) (f := tf B n p) hfp.2
  obtain ⟨hA, h26, -⟩ := A.1 c4
  obtain ⟨a1, a2, a3, a4, a5⟩ := hA
  have hbad : F_X9_readAct I (Int32.ofNat l.length) = F_X9_readAct_17 I (Int32.ofNat l.length) (-4) → ∃ I', F_X9_readAct I (Int32.ofNat l.length) = some I' ∧ Fda N I I' ∧ Fm (tf B n p) I' := fun h => by
    obtain ⟨hF, hNn⟩ := needs_at (c := 2) h26 a2 (by decide)
    refine ⟨_, ?_, hNn.fda, hF⟩
    rw [h]
    unfold F_X9_readAct_17
    rw [if_pos rfl, rest30 hF]
  by_cases c1 : tk B n (tf B n p) = 1
  · have hact := actNow_k T (show AtM n I 1 (tf B n p) (te B n (tf B n p)) from ⟨by rw [a1, c1], a2, a3, a4, a5⟩)
    have h0 : F_X9_readAct I (Int32.ofNat l.length) = F_X9_readAct_17 I (Int32.ofNat l.length) (if kdS B (tf B n p) (te B n (tf B n p)) < 3 then Int32.ofNat (kdS B (tf B n p) (te B n (tf B n p))) else -4) := by
      unfold F_X9_readAct
      rw [if_pos (show I 33 24 = 1 by rw [a1, c1]; rfl), hact, ob_some]
    by_cases ck : kdS B (tf B n p) (te B n (tf B n p)) < 3
    · rw [if_pos ck] at h0
      generalize kdS B (tf B n p) (te B n (tf B n p)) = kd at *
      have hne : ¬ Int32.ofNat kd = -4 := (by decide : ∀ k, k < 3 → ¬ Int32.ofNat k = -4) kd ck
      unfold F_X9_readAct_17 F_X9_readAct_30 at h0
      rw [if_neg hne, needs_1] at h0
      by_cases cl : l.length < 3
      · rw [if_pos (show tk B n (tf B n p) = 1 ∧ kd < 3 ∧ l.length < 3 from ⟨c1, ck, cl⟩)]
        rw [if_neg (show ¬ (3 : Int32) ≤ Int32.ofNat l.length from fun q => absurd ((ge_on (a := 3) (by decide) (by omega)).mp q) (by omega))] at h0
        obtain ⟨V, v1, S⟩ := next_M T hte.2.1 a3 h26
        have hMV := S.at hte.2.1
        have TV := S.1.tap T
        have hf2 := tf_le (B := B) hte.2.1
        have hte2 := te_le (B := B) (f := tf B n (te B n (tf B n p))) hf2.2
        unfold F_X9_readAct_45 at h0
        rw [needs_1, v1, ob_some] at h0
        have hnok : ∀ J, Fm (tf B n (te B n (tf B n p))) J → Fn V J → F_X9_readAct I (Int32.ofNat l.length) = some J → ¬ okNum B n kd (tf B n (te B n (tf B n p))) = true → (if okNum B n kd (tf B n (te B n (tf B n p))) = true then ∃ I', F_X9_readAct I (Int32.ofNat l.length) = some I' ∧ Fda N I I' ∧ MAt B n (te B n (tf B n (te B n (tf B n p)))) I' ∧ I' 38 (4 * N + 1 + l.length) = Int32.ofNat (20 * kd + tv B n (tf B n (te B n (tf B n p)))) ∧ ∀ j, j ≠ 4 * N + 1 + l.length → I' 38 j = I 38 j else ∃ I', F_X9_readAct I (Int32.ofNat l.length) = some I' ∧ Fda N I I' ∧ Fm (tf B n (te B n (tf B n p))) I') := fun J hF hJ h hno => by
          rw [if_neg hno]
          exact ⟨J, h, S.1.fda.trans hJ.fda, hF⟩
        have hok : okNum B n kd (tf B n (te B n (tf B n p))) = true ↔ tk B n (tf B n (te B n (tf B n p))) = 2 ∧ tv B n (tf B n (te B n (tf B n p))) ≤ if kd = 2 then 14 else 7 := by
          unfold okNum
          rw [Bool.and_eq_true, beq_iff_eq, decide_eq_true_eq]
        by_cases d4 : tk B n (tf B n (te B n (tf B n p))) = 4
        · have hF := hMV.2 d4
          rw [if_neg hF.ne, rest78 hF] at h0
          exact hnok V hF Fn.rfl h0 (fun q => by have := (hok.mp q).1; omega)
        obtain ⟨hB, g26, gv⟩ := hMV.1 d4
        obtain ⟨b1, b2, b3, b4, b5⟩ := hB
        rw [if_pos g26, b1] at h0
        by_cases d2 : tk B n (tf B n (te B n (tf B n p))) = 2
        · rw [if_pos (show Int32.ofNat (tk B n (tf B n (te B n (tf B n p)))) = 2 by rw [d2]; rfl)] at h0
          have gv := gv d2
          have hv : tv B n (tf B n (te B n (tf B n p))) ≤ 99 := by
            have hq := hte2.2.2.2.2.2.2 (by omega)
            unfold tk at d2
            rw [if_neg (show ¬ n ≤ tf B n (te B n (tf B n p)) by omega)] at d2
            by_cases e1 : B (tf B n (te B n (tf B n p))) = 59
            · rw [if_pos e1] at d2; omega
            rw [if_neg e1] at d2
            by_cases e2 : isLt (B (tf B n (te B n (tf B n p)))) = true
            · rw [if_pos e2] at d2; omega
            rw [if_neg e2] at d2
            by_cases e3 : isFg (B (tf B n (te B n (tf B n p)))) = true ∧ tfe B n (tf B n (te B n (tf B n p))) - tf B n (te B n (tf B n p)) ≤ 2
            · exact (tv_b hq e3.1 e3.2).2.1
            · rw [if_neg e3] at d2; omega
          obtain ⟨t14, t7⟩ := in_t _ (show tv B n (tf B n (te B n (tf B n p))) < 100 by omega)
          unfold F_X9_readAct_74 F_X9_readAct_78 F_X9_readAct_106 at h0
          rw [needs_1, if_pos g26, gv, t14, t7] at h0
          have h113 : F_X9_readAct I (Int32.ofNat l.length) = F_X9_readAct_113 (F_X9_needs V (if tv B n (tf B n (te B n (tf B n p))) ≤ (if kd = 2 then 14 else 7) then 1 else 0) 3) (Int32.ofNat l.length) (Int32.ofNat kd) := by
            rw [h0]
            by_cases k2 : kd = 2
            · rw [if_pos (show Int32.ofNat kd = 2 by rw [k2]; rfl), if_pos k2]
            · rw [if_neg (show ¬ Int32.ofNat kd = 2 from fun q => k2 (on_inj (b := 2) (by omega) (by decide) q)), if_neg k2]
          by_cases o : tv B n (tf B n (te B n (tf B n p))) ≤ (if kd = 2 then 14 else 7)
          · rw [if_pos (hok.mpr ⟨d2, o⟩)]
            rw [if_pos o, needs_1] at h113
            unfold F_X9_readAct_113 F_X9_readAct_144 at h113
            have h18' : V 33 18 = Int32.ofNat N := (S.1 33 18 (by omega)).trans h18
            have h20 : (20 : Int32) * Int32.ofNat kd + Int32.ofNat (tv B n (tf B n (te B n (tf B n p)))) = Int32.ofNat (20 * kd + tv B n (tf B n (te B n (tf B n p)))) := by rw [← oadd]; exact congrArg (· + Int32.ofNat (tv B n (tf B n (te B n (tf B n p))))) (Int32.ofNat_mul 20 kd).symm
            rw [if_pos g26, h18', lm4, la1, oadd, if_neg (nin (k := 4 * N + 1 + l.length) (N := 48) (by omega) (by decide)), on_clamp (by omega), gv, h20] at h113
            obtain ⟨W, w1, SW⟩ := next_M (B := B) (n := n) (p := te B n (tf B n (te B n (tf B n p)))) (I := u2 V 38 (4 * N + 1 + l.length) (Int32.ofNat (20 * kd + tv B n (tf B n (te B n (tf B n p)))))) (TV.ag fun k j q => u2_nc (by omega)) hte2.2.1 (by rw [u2_nc (by omega), b3]) (by rw [u2_nc (by omega), g26])
            rw [w1, ob_some] at h113
            refine ⟨W, h113, fun k j q1 q2 => ?_, SW.at hte2.2.1, ?_, fun j hj => ?_⟩
            · rw [SW.1 k j q1, u2_nc (by omega), S.1 k j q1]
            · rw [SW.1 38 _ (by omega), u2_at]
            · rw [SW.1 38 _ (by omega), u2_nc (by omega), S.1 38 _ (by omega)]
          · rw [if_neg o] at h113
            obtain ⟨hF, hNn⟩ := needs_at (c := 3) g26 b2 (by decide)
            rw [rest113 hF] at h113
            exact hnok _ hF hNn h113 (fun q => o (hok.mp q).2)
        · rw [if_neg (show ¬ Int32.ofNat (tk B n (tf B n (te B n (tf B n p)))) = 2 from fun q => d2 (on_inj (b := 2) (by omega) (by decide) q))] at h0
          obtain ⟨hF, hNn⟩ := needs_at (c := 2) g26 b2 (by decide)
          unfold F_X9_readAct_74 at h0
          rw [rest78 hF] at h0
          exact hnok _ hF hNn h0 (fun q => d2 (hok.mp q).1)
      · rw [if_neg (show ¬ (tk B n (tf B n p) = 1 ∧ kd < 3 ∧ l.length < 3) from fun q => cl q.2.2)]
        rw [if_pos (show (3 : Int32) ≤ Int32.ofNat l.length from (ge_on (a := 3) (by decide) (by omega)).mpr (by omega))] at h0
        obtain ⟨hF, hNn⟩ := needs_at (c := 5) h26 a2 (by decide)
        rw [rest45 hF] at h0
        exact ⟨_, h0, hNn.fda, hF⟩
    · rw [if_neg ck] at h0
      rw [if_neg (show ¬ (tk B n (tf B n p) = 1 ∧ kdS B (tf B n p) (te B n (tf B n p)) < 3 ∧ l.length < 3) from fun q => ck q.2.1)]
      exact hbad h0
  · rw [if_neg (show ¬ (tk B n (tf B n p) = 1 ∧ kdS B (tf B n p) (te B n (tf B n p)) < 3 ∧ l.length < 3) from fun q => c1 q.1)]
    refine hbad ?_
    unfold F_X9_readAct
    rw [a1, if_neg (show ¬ Int32.ofNat (tk B n (tf B n p)) = 1 from fun q => c1 (on_inj (b := 1) (by omega) (by decide) q))]
/-! a day of the text, as it is read: the reference -/
def ActsM (B : Nat → Nat) (n N : Nat) (I : WI) (x : Nat ⊕ (Nat × List Nat)) (c : Int32) (I' : WI) : Prop := Fda N I I' ∧ ((∃ g, x = .inl g ∧ Fm g I') ∨ ∃ p l, p ≤ n ∧ MAt B n p I' ∧ tk B n (tf B n p) ≠ 4 ∧ (if tk B n (tf B n p) = 3 then x = .inr (te B n (tf B n p), l) else x = .inl (tf B n p)) ∧ c = Int32.ofNat l.length ∧ l.length ≤ 3 ∧ ∀ j, j < l.length → I' 38 (4 * N + 1 + j) = Int32.ofNat (l.getD j 0))
theorem acts_M {B : Nat → Nat} {n N : Nat} (hN : N < 12) : ∀ (u : Nat) (l : List Nat) (a : Int32) (I : WI) (p fuel : Nat), u + l.length = 4 → u + 1 < fuel → TapM B n I → p ≤ n → MAt B n p I → (tk B n (tf B n p) ≠ 4 → a = if l.length = 0 ∨ tk B n (tf B n p) = 1 then 1 else 0) → I 33 18 = Int32.ofNat N → (∀ j, j < l.length → I 38 (4 * N + 1 + j) = Int32.ofNat (l.getD j 0)) → 1 ≤ u → ∃ c I', lpp (fun x => F_X9_readDay_4_1 (p2 (p2 x)) (p1 x) (p1 (p2 x))) fuel (Int32.ofNat l.length, a, I) = some (c, I') ∧ ActsM B n N I (actsS B n u l p) c I' := by
  intro u
  induction u with
  | zero => intro l a I p fuel _ _ _ _ _ _ _ _ h; omega
  | succ u ih =>
    intro l a I p fuel hu hf T hp A ha h18 h38 _
    obtain ⟨fuel, rfl⟩ : ∃ g, fuel = g + 1 := ⟨fuel - 1, by omega⟩
    have hn : n ≤ 320 := T.1
    have hfp := tf_le (B := B) hp
    have hte := te_le (B := B) (f := tf B n p) hfp.2
    have hl : ∀ r c a I k, F_X9_readDay_4_1 I c a = some (.inl r) → lpp (fun x : Int32 × Int32 × WI => F_X9_readDay_4_1 (p2 (p2 x)) (p1 x) (p1 (p2 x))) (k + 1) (c, a, I) = some r := fun r c a I k h => lpp_l (f := (fun x : Int32 × Int32 × WI => F_X9_readDay_4_1 (p2 (p2 x)) (p1 x) (p1 (p2 x)))) (s := (c, a, I)) h
    have hr : ∀ s c a I k, F_X9_readDay_4_1 I c a = some (.inr s) → lpp (fun x : Int32 × Int32 × WI => F_X9_readDay_4_1 (p2 (p2 x)) (p1 x) (p1 (p2 x))) (k + 1) (c, a, I) = lpp (fun x : Int32 × Int32 × WI => F_X9_readDay_4_1 (p2 (p2 x)) (p1 x) (p1 (p2 x))) k s := fun s c a I k h => lpp_r (f := (fun x : Int32 × Int32 × WI => F_X9_readDay_4_1 (p2 (p2 x)) (p1 x) (p1 (p2 x)))) (s := (c, a, I)) h
    have hfa : ∀ g c a J, Fm g J → F_X9_readDay_4_1 J c a = some (.inl (c, J)) := fun g c a J h => by
      unfold F_X9_readDay_4_1
      rw [if_neg h.ne]
    have hon : ∀ J, F_X9_readAct I (Int32.ofNat l.length) = some J → I 33 26 = 0 → a = 1 → F_X9_readDay_4_1 I (Int32.ofNat l.length) a = some (.inr (Int32.ofNat (l.length + 1), if J 33 24 = 1 then 1 else 0, J)) := fun J h h26 h1 => by
      unfold F_X9_readDay_4_1 F_X9_readDay_36_1
      rw [if_pos h26, h1, if_neg (show ¬ (1 : Int32) = 0 by decide), h, ob_some, la1]
      by_cases q : J 33 24 = 1
      · rw [if_pos q, if_pos q]
      · rw [if_neg q, if_neg q]
    unfold actsS
    by_cases c4 : tk B n (tf B n p) = 4
    · have hF := A.2 c4
      rw [hl _ _ _ _ _ (hfa _ _ a I hF), if_neg (show ¬ (0 < l.length ∧ tk B n (tf B n p) = 3) from fun q => by have := q.2; omega), if_neg (show ¬ (tk B n (tf B n p) = 1 ∧ kdS B (tf B n p) (te B n (tf B n p)) < 3 ∧ l.length < 3) from fun q => by have := q.1; omega)]
      exact ⟨_, I, rfl, Fda.rfl, .inl ⟨_, rfl, hF⟩⟩
    obtain ⟨hA, h26, -⟩ := A.1 c4
    have ha := ha c4
    by_cases c0 : l.length = 0 ∨ tk B n (tf B n p) = 1
    · rw [if_pos c0] at ha
      have h3 : ¬ (0 < l.length ∧ tk B n (tf B n p) = 3) := fun q => by omega
      rw [if_neg h3]
      have hact := act_M T hp A c4 hN h18 (show l.length ≤ 3 by omega)
      have hbad : ∀ g J, F_X9_readAct I (Int32.ofNat l.length) = some J → Fda N I J → Fm g J → ∃ c I', lpp (fun x => F_X9_readDay_4_1 (p2 (p2 x)) (p1 x) (p1 (p2 x))) (fuel + 1) (Int32.ofNat l.length, a, I) = some (c, I') ∧ ActsM B n N I (.inl g) c I' := fun g J h hJ hF => by
        obtain ⟨k, rfl⟩ : ∃ g, fuel = g + 1 := ⟨fuel - 1, by omega⟩
        rw [hr _ _ _ _ _ (hon J h h26 ha), hl _ _ _ _ _ (hfa _ _ _ J hF)]
        exact ⟨_, J, rfl, hJ, .inl ⟨_, rfl, hF⟩⟩
      by_cases d : tk B n (tf B n p) = 1 ∧ kdS B (tf B n p) (te B n (tf B n p)) < 3 ∧ l.length < 3
      · rw [if_pos d] at hact ⊢
        by_cases o : okNum B n (kdS B (tf B n p) (te B n (tf B n p))) (tf B n (te B n (tf B n p))) = true
        · rw [if_pos o] at hact ⊢
          obtain ⟨J, j1, j2, j3, j4, j5⟩ := hact
          rw [hr _ _ _ _ _ (hon J j1 h26 ha)]
          have hf2 := tf_le (B := B) hte.2.1
          have hte2 := te_le (B := B) (f := tf B n (te B n (tf B n p))) hf2.2
          have hlen : (l ++ [20 * kdS B (tf B n p) (te B n (tf B n p)) + tv B n (tf B n (te B n (tf B n p)))]).length = l.length + 1 := List.length_append
          obtain ⟨c, I', r1, r2, r3⟩ := ih (l ++ [20 * kdS B (tf B n p) (te B n (tf B n p)) + tv B n (tf B n (te B n (tf B n p)))]) (if J 33 24 = 1 then 1 else 0) J (te B n (tf B n (te B n (tf B n p)))) fuel (by rw [hlen]; omega) (by omega) (j2.tap T) hte2.2.1 j3 (fun q4 => by
            rw [(j3.1 q4).1.1, hlen]
            by_cases q : tk B n (tf B n (te B n (tf B n (te B n (tf B n p))))) = 1
            · rw [if_pos (by rw [q]; rfl), if_pos (.inr q)]
            · have hk5 := (te_le (B := B) (f := tf B n (te B n (tf B n (te B n (tf B n p))))) (tf_le (B := B) hte2.2.1).2).2.2.2.2.2.1
              rw [if_neg (show ¬ Int32.ofNat (tk B n (tf B n (te B n (tf B n (te B n (tf B n p)))))) = 1 from fun r => q (on_inj (b := 1) (by omega) (by decide) r)), if_neg fun r => r.elim (by omega) q]) ((j2 33 18 (by omega) (by omega)).trans h18) (fun j hj => by
            rw [hlen] at hj
            by_cases q : j = l.length
            · rw [q, j4, List.getD_eq_getElem?_getD, List.getElem?_append_right (Nat.le_refl _), Nat.sub_self]
              rfl
            · rw [j5 _ (by omega), h38 j (by omega), List.getD_eq_getElem?_getD, List.getD_eq_getElem?_getD, List.getElem?_append_left (by omega)]) (by omega)
          rw [hlen] at r1
          exact ⟨c, I', r1, j2.trans r2, r3⟩
        · rw [if_neg o] at hact ⊢
          obtain ⟨J, j1, j2, j3⟩ := hact
          exact hbad _ J j1 j2 j3
      · rw [if_neg d] at hact ⊢
        obtain ⟨J, j1, j2, j3⟩ := hact
        exact hbad _ J j1 j2 j3
    · rw [if_neg c0] at ha
      have h41 : F_X9_readDay_4_1 I (Int32.ofNat l.length) a = some (.inl (Int32.ofNat l.length, I)) := by
        unfold F_X9_readDay_4_1
        rw [if_pos h26, ha, if_pos rfl]
      rw [hl _ _ _ _ _ h41, if_neg (show ¬ (tk B n (tf B n p) = 1 ∧ kdS B (tf B n p) (te B n (tf B n p)) < 3 ∧ l.length < 3) from fun q => c0 (.inr q.1))]
      refine ⟨_, I, rfl, Fda.rfl, .inr ⟨p, l, hp, A, c4, ?_, rfl, by omega, h38⟩⟩
      by_cases d : tk B n (tf B n p) = 3
      · rw [if_pos d, if_pos ⟨by omega, d⟩]
      · rw [if_neg d, if_neg (show ¬ (0 < l.length ∧ tk B n (tf B n p) = 3) from fun q => d q.2)]
/-! a line of the text, as it is read: the reference -/
theorem tail_f {g : Nat} {I : WI} {L : WL} (h : Fm g I) : F_X9_readLine_191 I L = some (I, L) := by
  unfold F_X9_readLine_191 F_X9_readLine_216
  rw [if_neg h.ne, h.next, ob_some]
theorem tail_M {B : Nat → Nat} {n p : Nat} {I : WI} {L : WL} (T : TapM B n I) (hp : p ≤ n) (A : MAt B n p I) (c4 : tk B n (tf B n p) ≠ 4) : ∃ I', F_X9_readLine_191 I L = some (I', L) ∧ Fn I I' ∧ if tk B n (tf B n p) = 3 then MAt B n (te B n (tf B n p)) I' else Fm (tf B n p) I' := by
  have hfp := tf_le (B := B) hp
  have hte := te_le (B := B) (f := tf B n p) hfp.2
  obtain ⟨⟨a1, a2, a3, a4, a5⟩, h26, -⟩ := A.1 c4
  unfold F_X9_readLine_191 F_X9_readLine_212 F_X9_readLine_216
  rw [if_pos h26, a1]
  by_cases d : tk B n (tf B n p) = 3
  · rw [if_pos (show Int32.ofNat (tk B n (tf B n p)) = 3 by rw [d]; rfl), needs_1]
    simp only [if_pos d]
    obtain ⟨V, v1, S⟩ := next_M T hte.2.1 a3 h26
    rw [v1, ob_some]
    exact ⟨V, rfl, S.1, S.at hte.2.1⟩
  · have hk := hte.2.2.2.2.2.1
    rw [if_neg (show ¬ Int32.ofNat (tk B n (tf B n p)) = 3 from fun q => d (on_inj (b := 3) (by omega) (by decide) q))]
    simp only [if_neg d]
    obtain ⟨hF, hN⟩ := needs_at (c := 2) h26 a2 (by decide)
    rw [hF.next, ob_some]
    exact ⟨_, rfl, hN, hF⟩
theorem readRows_M {B : Nat → Nat} {n p : Nat} {I : WI} {L : WL} (T : TapM B n I) (hp : p ≤ n) (A : MAt B n p I) : ∃ I' L', F_X9_readRows I L = some (I', L') ∧ RowsM B n I L (rowsS B n 9 0 0 0 p) I' L' := by
  have hfr : Fq I (u2 (u2 I 33 28 0) 33 29 0) := (Fq.rfl.u (by decide) (by decide)).u (by decide) (by decide)
  have hA : MAt B n p (u2 (u2 I 33 28 0) 33 29 0) := by
    have e : ∀ j, j < 28 → (u2 (u2 I 33 28 0) 33 29 0) 33 j = I 33 j := fun j hj => by rw [u2_nc (by omega), u2_nc (by omega)]
    unfold MAt AtM Fm at A ⊢
    rw [e 24 (by decide), e 23 (by decide), e 22 (by decide), e 26 (by decide), e 25 (by decide), e 27 (by decide)]
    exact A
  obtain ⟨I', L', r1, r2, r3, r4⟩ := rows_M (B := B) (n := n) 9 0 0 1 (u2 (u2 I 33 28 0) 33 29 0) (u2 L 33 30 0) p 4294967296 (by decide) (by decide) (hfr.tap T) hp hA (fun _ => by rw [if_pos (.inl rfl)]) (by rw [u2_nc (by omega), u2_at]; rfl) u2_at (by decide) (by decide)
  rw [u2_at] at r4
  refine ⟨I', L', ?_, hfr.trans r2, FqL.rfl.u.trans r3, r4⟩
  unfold F_X9_readRows F_X9_readRows_17 F_X9_readRows_189
  rw [r1, ob_some]
  rfl
theorem readDay_M {B : Nat → Nat} {n p N : Nat} {I : WI} (hN : N < 12) (T : TapM B n I) (hp : p ≤ n) (A : MAt B n p I) (h18 : I 33 18 = Int32.ofNat N) : ∃ I', F_X9_readDay I = some I' ∧ (∀ k j, ¬ (k = 33 ∧ 22 ≤ j ∧ j ≤ 27) → ¬ (k = 33 ∧ j = 18) → ¬ (k = 38 ∧ 4 * N ≤ j) → I' k j = I k j) ∧ ((∃ g, actsS B n 4 [] p = .inl g ∧ Fm g I') ∨ ∃ p' l, p' ≤ n ∧ MAt B n p' I' ∧ tk B n (tf B n p') ≠ 4 ∧ (if tk B n (tf B n p') = 3 then actsS B n 4 [] p = .inr (te B n (tf B n p'), l) else actsS B n 4 [] p = .inl (tf B n p')) ∧ I' 33 18 = Int32.ofNat (N + 1) ∧ I' 38 (4 * N) = Int32.ofNat l.length ∧ l.length ≤ 3 ∧ ∀ j, j < l.length → I' 38 (4 * N + 1 + j) = Int32.ofNat (l.getD j 0)) := by
  obtain ⟨c, V, r1, r2, r3⟩ := acts_M (B := B) (n := n) hN 4 [] 1 I p 4294967296 rfl (by decide) T hp A (fun _ => by rw [if_pos (.inl rfl)]) h18 (fun j hj => absurd hj (Nat.not_lt_zero _)) (by decide)
  have h0 : F_X9_readDay I = F_X9_readDay_40 V c := by
    unfold F_X9_readDay F_X9_readDay_4
    show (lpp (fun x => F_X9_readDay_4_1 (p2 (p2 x)) (p1 x) (p1 (p2 x))) 4294967296 (Int32.ofNat ([] : List Nat).length, 1, I)).bind _ = _
    rw [r1]
    rfl
  rw [h0]
  unfold F_X9_readDay_40 F_X9_readDay_69
  rcases r3 with ⟨g, g1, g2⟩ | ⟨p', l, q1, q2, q3, q4, q5, q6, q7⟩
  · rw [if_neg g2.ne]
    exact ⟨V, rfl, fun k j a _ b => r2 k j a b, .inl ⟨g, g1, g2⟩⟩
  · have h18' : V 33 18 = Int32.ofNat N := (r2 33 18 (by omega) (by omega)).trans h18
    rw [if_pos (q2.1 q3).2.1, h18', lm4, if_neg (nin (k := 4 * N) (N := 48) (by omega) (by decide)), on_clamp (by omega), u2_nc (by omega), h18', la1, q5]
    have e : ∀ j, j ≠ 18 → (u2 (u2 V 38 (4 * N) (Int32.ofNat l.length)) 33 18 (Int32.ofNat (N + 1))) 33 j = V 33 j := fun j hj => by rw [u2_nc (by omega), u2_nc (by omega)]
    refine ⟨_, rfl, fun k j a b d => ?_, .inr ⟨p', l, q1, ?_, q3, q4, u2_at, ?_, q6, fun j hj => ?_⟩⟩
    · rw [u2_nc b, u2_nc (by omega)]
      exact r2 k j a d
    · unfold MAt AtM Fm at q2 ⊢
      rw [e 24 (by decide), e 23 (by decide), e 22 (by decide), e 26 (by decide), e 25 (by decide), e 27 (by decide)]
      exact q2
    · rw [u2_nc (by omega), u2_at]
    · rw [u2_nc (by omega), u2_nc (by omega)]
      exact q7 j hj
/-! a line of the text, whole: the reference -/
theorem Fm.ag {g : Nat} {I J : WI} (h : Fm g I) (hJ : ∀ j, 22 ≤ j → j ≤ 27 → J 33 j = I 33 j) : Fm g J := by
  unfold Fm at h ⊢
  rw [hJ 26 (by decide) (by decide), hJ 27 (by decide) (by decide)]
  exact h
theorem MAt.ag {B : Nat → Nat} {n p : Nat} {I J : WI} (A : MAt B n p I) (hJ : ∀ j, 22 ≤ j → j ≤ 27 → J 33 j = I 33 j) : MAt B n p J := by
  unfold MAt AtM Fm at A ⊢
  rw [hJ 24 (by decide) (by decide), hJ 23 (by decide) (by decide), hJ 22 (by decide) (by decide), hJ 26 (by decide) (by decide), hJ 25 (by decide) (by decide), hJ 27 (by decide) (by decide)]
  exact A
theorem blame91 {g : Nat} {I : WI} {L : WL} {a s : Int32} (h : Fm g (F_X9_needs I s 4)) : F_X9_readLine_91 I L a s = some (F_X9_needs I s 4, L) := by
  unfold F_X9_readLine_91
  rw [h.next, ob_some, if_neg (show ¬ (F_X9_needs I s 4 33 26) ≤ 0 from fun q => by
    have := h.1
    rw [Int32.le_iff_toInt_le] at q
    have : (0 : Int32).toInt = 0 := by decide
    omega)]
theorem rest91 {g : Nat} {J : WI} {L : WL} {a s : Int32} (h : Fm g J) : F_X9_readLine_91 J L a s = some (J, L) := by
  have e : F_X9_needs J s 4 = J := h.needs
  have := blame91 (I := J) (L := L) (a := a) (s := s) (g := g) (by rw [e]; exact h)
  rw [e] at this
  exact this
theorem rest73 {g : Nat} {J : WI} {L : WL} {a : Int32} (h : Fm g J) : F_X9_readLine_73 J L a = some (J, L) := by
  unfold F_X9_readLine_73 F_X9_readLine_86 F_X9_readLine_90
  rw [rest91 h, rest91 h]
  split
  · split <;> rfl
  · rfl
theorem blame55 {g : Nat} {I : WI} {L : WL} {a s : Int32} (h : Fm g (F_X9_needs I s 5)) : F_X9_readLine_55 I L a s = some (F_X9_needs I s 5, L) := by
  unfold F_X9_readLine_55 F_X9_readLine_90
  rw [rest91 h, rest73 h]
  split
  · split <;> rfl
  · rfl
theorem blame30 {g : Nat} {I : WI} {L : WL} {a s : Int32} (h : Fm g (F_X9_needs I s 2)) : F_X9_readLine_30 I L a s = some (F_X9_needs I s 2, L) := by
  have key : ∀ t, F_X9_readLine_55 (F_X9_needs I s 2) L a t = some (F_X9_needs I s 2, L) := fun t => by
    have e : F_X9_needs (F_X9_needs I s 2) t 5 = F_X9_needs I s 2 := h.needs
    have := blame55 (I := F_X9_needs I s 2) (L := L) (a := a) (s := t) (g := g) (by rw [e]; exact h)
    rw [e] at this
    exact this
  unfold F_X9_readLine_30 F_X9_readLine_50
  rw [key, key]
  split
  · split <;> rfl
  · rfl
/-- a day as the reference drafts it -/
def DayM (N : Nat) (l : List Nat) (I : WI) : Prop := I 38 (4 * N) = Int32.ofNat l.length ∧ ∀ j, j < l.length → I 38 (4 * N + 1 + j) = Int32.ofNat (l.getD j 0)
def DraftM (c q : Nat × Nat × Nat × Int64) (ds : List (List Nat)) (I : WI) (L : WL) : Prop := (I 33 16 = Int32.ofNat (p1 c) ∧ I 33 10 = Int32.ofNat (p1 (p2 c)) ∧ I 33 11 = Int32.ofNat (p1 (p2 (p2 c))) ∧ L 33 12 = p2 (p2 (p2 c))) ∧ (I 33 17 = Int32.ofNat (p1 q) ∧ (p1 q = 1 → I 33 13 = Int32.ofNat (p1 (p2 q)) ∧ I 33 14 = Int32.ofNat (p1 (p2 (p2 q)))) ∧ L 33 15 = p2 (p2 (p2 q))) ∧ I 33 18 = Int32.ofNat ds.length ∧ ∀ N, N < ds.length → DayM N (ds.getD N []) I
theorem DraftM.ag {c q : Nat × Nat × Nat × Int64} {ds : List (List Nat)} {I J : WI} {L : WL} (D : DraftM c q ds I L) (hJ : ∀ k j, ¬ (k = 33 ∧ 22 ≤ j ∧ j ≤ 29) → J k j = I k j) : DraftM c q ds J L := by
  unfold DraftM DayM at D ⊢
  rw [hJ 33 16 (by omega), hJ 33 10 (by omega), hJ 33 11 (by omega), hJ 33 17 (by omega), hJ 33 13 (by omega), hJ 33 14 (by omega), hJ 33 18 (by omega)]
  refine ⟨D.1, D.2.1, D.2.2.1, fun N hN => ?_⟩
  rw [hJ 38 _ (by omega)]
  refine ⟨(D.2.2.2 N hN).1, fun j hj => ?_⟩
  rw [hJ 38 _ (by omega)]
  exact (D.2.2.2 N hN).2 j hj
/-- what may change while a line is read -/
def Fli (I J : WI) : Prop := ∀ k j, ¬ (k = 33 ∧ 10 ≤ j ∧ j ≤ 18) → ¬ (k = 33 ∧ 22 ≤ j ∧ j ≤ 29) → k ≠ 38 → J k j = I k j
def FliL (L K : WL) : Prop := ∀ k j, ¬ (k = 33 ∧ (j = 12 ∨ j = 15 ∨ j = 30)) → K k j = L k j
theorem Fli.rfl {I : WI} : Fli I I := fun _ _ _ _ _ => Eq.refl _
theorem FliL.rfl {L : WL} : FliL L L := fun _ _ _ => Eq.refl _
theorem Fli.trans {I J K : WI} (a : Fli I J) (b : Fli J K) : Fli I K := fun k j p q r => (b k j p q r).trans (a k j p q r)
theorem FliL.trans {I J K : WL} (a : FliL I J) (b : FliL J K) : FliL I K := fun k j p => (b k j p).trans (a k j p)
theorem Fn.fli {I J : WI} (h : Fn I J) : Fli I J := fun k j _ a _ => h k j (by omega)
theorem Fli.tap {I J : WI} {B : Nat → Nat} {n : Nat} (a : Fli I J) (T : TapM B n I) : TapM B n J := T.ag fun k j h => a k j (by omega) (by omega) (by omega)
/-- rows, kept as an image of the draft, and the line's end -/
theorem img_M {B : Nat → Nat} {n p t h w s : Nat} {I : WI} {L : WL} (ht : t ≤ 18 ∧ h ≤ 18 ∧ w ≤ 18 ∧ t ≠ h ∧ t ≠ w ∧ h ≠ w) (hs : s ≠ 30) (T : TapM B n I) (hp : p ≤ n) (A : MAt B n p I) : ∃ I' L', Option.bind (F_X9_readRows I L) (fun v17 => F_X9_readLine_191 (u2 (u2 (u2 (p1 v17) 33 t 1) 33 h ((u2 (p1 v17) 33 t 1) 33 28)) 33 w ((u2 (u2 (p1 v17) 33 t 1) 33 h ((u2 (p1 v17) 33 t 1) 33 28)) 33 29)) (u2 (p2 v17) 33 s ((p2 v17) 33 30))) = some (I', L') ∧ (∀ k j, ¬ (k = 33 ∧ 22 ≤ j ∧ j ≤ 29) → ¬ (k = 33 ∧ (j = t ∨ j = h ∨ j = w)) → I' k j = I k j) ∧ (∀ k j, ¬ (k = 33 ∧ (j = s ∨ j = 30)) → L' k j = L k j) ∧ match rowsS B n 9 0 0 0 p with
  | .inl g => Fm g I'
  | .inr r => MAt B n (p1 r) I' ∧ I' 33 t = 1 ∧ I' 33 h = Int32.ofNat (p1 (p2 r)) ∧ I' 33 w = Int32.ofNat (p1 (p2 (p2 r))) ∧ L' 33 s = p2 (p2 (p2 r)) := by
  obtain ⟨W, K, r1, r2, r3, r4⟩ := readRows_M (L := L) T hp A
  rw [r1, ob_some]
  show ∃ I' L', F_X9_readLine_191 (u2 (u2 (u2 W 33 t 1) 33 h ((u2 W 33 t 1) 33 28)) 33 w ((u2 (u2 W 33 t 1) 33 h ((u2 W 33 t 1) 33 28)) 33 29)) (u2 K 33 s (K 33 30)) = some (I', L') ∧ _
  rw [u2_nc (a := 33) (b := 28) (by omega), u2_nc (a := 33) (b := 29) (by omega), u2_nc (a := 33) (b := 29) (by omega)]
  generalize hZ : (u2 (u2 (u2 W 33 t 1) 33 h (W 33 28)) 33 w (W 33 29)) = Z
  have z1 : ∀ k j, ¬ (k = 33 ∧ (j = t ∨ j = h ∨ j = w)) → Z k j = W k j := fun k j q => by
    rw [← hZ, u2_nc (by omega), u2_nc (by omega), u2_nc (by omega)]
  have zt : Z 33 t = 1 := by rw [← hZ, u2_nc (by omega), u2_nc (by omega), u2_at]
  have zh : Z 33 h = W 33 28 := by rw [← hZ, u2_nc (by omega), u2_at]
  have zw : Z 33 w = W 33 29 := by rw [← hZ, u2_at]
  have zf : ∀ k j, ¬ (k = 33 ∧ 22 ≤ j ∧ j ≤ 29) → ¬ (k = 33 ∧ (j = t ∨ j = h ∨ j = w)) → Z k j = I k j := fun k j a b => (z1 k j b).trans (r2 k j a)
  have lf : ∀ k j, ¬ (k = 33 ∧ (j = s ∨ j = 30)) → (u2 K 33 s (K 33 30)) k j = L k j := fun k j q => by
    rw [u2_nc (by omega)]
    exact r3 k j (by omega)
  have TZ : TapM B n Z := T.ag fun k j q => zf k j (by omega) (by omega)
  rcases r4 with ⟨g, g1, g2⟩ | ⟨p', m, wd, q1, q2, q3, q4, q5, q6⟩
  · have hF : Fm g Z := g2.ag fun j a b => z1 33 j (by omega)
    rw [tail_f hF, g1]
    exact ⟨Z, _, rfl, zf, lf, hF⟩
  · have hA : MAt B n p' Z := q2.ag fun j a b => z1 33 j (by omega)
    obtain ⟨V, v1, v2, v3⟩ := tail_M (L := u2 K 33 s (K 33 30)) TZ q1 hA q3
    have hfr : ∀ k j, ¬ (k = 33 ∧ 22 ≤ j ∧ j ≤ 29) → ¬ (k = 33 ∧ (j = t ∨ j = h ∨ j = w)) → V k j = I k j := fun k j a b => (v2 k j (by omega)).trans (zf k j a b)
    refine ⟨V, _, v1, hfr, lf, ?_⟩
    by_cases d : tk B n (tf B n p') = 3
    · rw [if_pos d] at v3 q4
      rw [q4]
      refine ⟨v3, ?_, ?_, ?_, u2_at⟩
      · exact (v2 33 t (by omega)).trans zt
      · exact (v2 33 h (by omega)).trans (zh.trans q5)
      · exact (v2 33 w (by omega)).trans (zw.trans q6)
    · rw [if_neg d] at v3 q4
      rw [q4]
      exact v3
/-- a day and the line's end -/
theorem day_M {B : Nat → Nat} {n p N : Nat} {I : WI} {L : WL} (hN : N < 12) (T : TapM B n I) (hp : p ≤ n) (A : MAt B n p I) (h18 : I 33 18 = Int32.ofNat N) : ∃ I', Option.bind (F_X9_readDay I) (fun v13 => F_X9_readLine_191 v13 L) = some (I', L) ∧ (∀ k j, ¬ (k = 33 ∧ 22 ≤ j ∧ j ≤ 29) → ¬ (k = 33 ∧ j = 18) → ¬ (k = 38 ∧ 4 * N ≤ j) → I' k j = I k j) ∧ match actsS B n 4 [] p with
  | .inl g => Fm g I'
  | .inr r => MAt B n (p1 r) I' ∧ I' 33 18 = Int32.ofNat (N + 1) ∧ DayM N (p2 r) I' := by
  obtain ⟨W, r1, r2, r3⟩ := readDay_M hN T hp A h18
  rw [r1, ob_some]
  have TW : TapM B n W := T.ag fun k j q => r2 k j (by omega) (by omega) (by omega)
  rcases r3 with ⟨g, g1, g2⟩ | ⟨p', l, q1, q2, q3, q4, q5, q6, q7, q8⟩
  · rw [tail_f g2, g1]
    exact ⟨W, rfl, fun k j a b c => r2 k j (by omega) b c, g2⟩
  · obtain ⟨V, v1, v2, v3⟩ := tail_M (L := L) TW q1 q2 q3
    refine ⟨V, v1, fun k j a b c => (v2 k j (by omega)).trans (r2 k j (by omega) b c), ?_⟩
    by_cases d : tk B n (tf B n p') = 3
    · rw [if_pos d] at v3 q4
      rw [q4]
      refine ⟨v3, (v2 33 18 (by omega)).trans q5, (v2 38 (4 * N) (by omega)).trans q6, fun j hj => ?_⟩
      exact (v2 38 _ (by omega)).trans (q8 j hj)
    · rw [if_neg d] at v3 q4
      rw [q4]
      exact v3
theorem rowsS_4 {B : Nat → Nat} {n p : Nat} (h : tk B n (tf B n p) = 4) : rowsS B n 9 0 0 0 p = .inl (tf B n p) := by
  unfold rowsS
  rw [if_neg (show ¬ (0 < 0 ∧ tk B n (tf B n p) = 3) from fun q => absurd q.1 (by decide)), if_neg (show ¬ goodRow B n 0 0 (tf B n p) = true from fun q => by have := (goodRow_iff.mp q).1; omega)]
theorem actsS_4 {B : Nat → Nat} {n p : Nat} (h : tk B n (tf B n p) = 4) : actsS B n 4 [] p = .inl (tf B n p) := by
  unfold actsS
  rw [if_neg (show ¬ (0 < ([] : List Nat).length ∧ tk B n (tf B n p) = 3) from fun q => absurd q.1 (by decide)), if_neg (show ¬ (tk B n (tf B n p) = 1 ∧ kdS B (tf B n p) (te B n (tf B n p)) < 3 ∧ ([] : List Nat).length < 3) from fun q => by have := q.1; omega)]
def LineM (B : Nat → Nat) (n : Nat) (I : WI) (L : WL) (x : Nat ⊕ (Nat × (Nat × Nat × Nat × Int64) × (Nat × Nat × Nat × Int64) × List (List Nat))) (I' : WI) (L' : WL) : Prop := Fli I I' ∧ FliL L L' ∧ match x with
  | .inl g => Fm g I'
  | .inr r => MAt B n (p1 r) I' ∧ DraftM (p1 (p2 r)) (p1 (p2 (p2 r))) (p2 (p2 (p2 r))) I' L'
theorem line_M {B : Nat → Nat} {n p : Nat} {I : WI} {L : WL} {c q : Nat × Nat × Nat × Int64} {ds : List (List Nat)} (T : TapM B n I) (hp : p ≤ n) (A : MAt B n p I) (c4 : tk B n (tf B n p) ≠ 4) (hc : ImOk c) (hq : ImOk q) (hd : DsOk ds) (D : DraftM c q ds I L) : ∃ I' L', F_X9_readLine I L = some (I', L') ∧ LineM B n I L (lineS B n c q ds (tf B n p)) I' L' := by
  have hfp := tf_le (B := B) hp
  have hte := te_le (B := B) (f := tf B n p) hfp.2
  obtain ⟨⟨a1, a2, a3, a4, a5⟩, h26, -⟩ := A.1 c4
  generalize hf : tf B n p = f at *
  obtain ⟨D1, D2, D3, D4⟩ := D
  obtain ⟨d1, d2, d3, d4⟩ := D1
  obtain ⟨e1, e2, e3⟩ := D2
  have hbad : ∀ cc : Int32, 0 < cc.toInt → LineM B n I L (.inl f) (F_X9_needs I 0 cc) L := fun cc hcc => by
    obtain ⟨hF, hN⟩ := needs_at (c := cc) h26 a2 hcc
    exact ⟨hN.fli, FliL.rfl, hF⟩
  have hneg : tk B n f ≠ 1 ∨ ¬ (nmb B f (te B n f) 0 = true ∨ nmb B f (te B n f) 1 = true ∨ nmb B f (te B n f) 2 = true) → F_X9_readLine I L = F_X9_readLine_17 I L (-4) := fun h => by
    unfold F_X9_readLine
    rw [a1]
    by_cases k : tk B n f = 1
    · have h' := h.resolve_left (fun z => z k)
      rw [if_pos (show Int32.ofNat (tk B n f) = 1 by rw [k]; rfl), lineNow_M T ⟨by rw [a1, k], a2, a3, a4, a5⟩, ob_some, if_neg (fun z => h' (.inl z)), if_neg (fun z => h' (.inr (.inl z))), if_neg (fun z => h' (.inr (.inr z)))]
    · rw [if_neg (show ¬ Int32.ofNat (tk B n f) = 1 from fun z => k (on_inj (b := 1) (by omega) (by decide) z))]
  have hpos : ∀ a, tk B n f = 1 → (if nmb B f (te B n f) 0 = true then (10 : Int32) else if nmb B f (te B n f) 1 = true then 11 else if nmb B f (te B n f) 2 = true then 12 else -4) = a → F_X9_readLine I L = F_X9_readLine_17 I L a := fun a k h => by
    unfold F_X9_readLine
    rw [a1, if_pos (show Int32.ofNat (tk B n f) = 1 by rw [k]; rfl), lineNow_M T ⟨by rw [a1, k], a2, a3, a4, a5⟩, ob_some, h]
  obtain ⟨V, v1, S⟩ := next_M (p := te B n f) T hte.2.1 a3 h26
  have AV := S.at hte.2.1
  have TV := S.1.tap T
  have h91 : ∀ a, tk B n (tf B n (te B n f)) = 4 → F_X9_readLine_91 I L a 1 = some (V, L) := fun a k => by
    have hF := AV.2 k
    unfold F_X9_readLine_91
    rw [needs_1, v1, ob_some, if_neg (show ¬ (V 33 26) ≤ 0 from fun q => by
      have := hF.1
      rw [Int32.le_iff_toInt_le] at q
      have : (0 : Int32).toInt = 0 := by decide
      omega)]
  have h91' : ∀ a, tk B n (tf B n (te B n f)) ≠ 4 → F_X9_readLine_91 I L a 1 = (if a = 12 then (Option.bind (F_X9_readDay V) (fun v13 => (F_X9_readLine_191 v13 L))) else (Option.bind (F_X9_readRows V L) (fun v17 => (if a = 10 then (F_X9_readLine_191 (u2 (u2 (u2 (p1 v17) 33 16 1) 33 10 ((u2 (p1 v17) 33 16 1) 33 28)) 33 11 ((u2 (u2 (p1 v17) 33 16 1) 33 10 ((u2 (p1 v17) 33 16 1) 33 28)) 33 29)) (u2 (p2 v17) 33 12 ((p2 v17) 33 30))) else (F_X9_readLine_191 (u2 (u2 (u2 (p1 v17) 33 17 1) 33 13 ((u2 (p1 v17) 33 17 1) 33 28)) 33 14 ((u2 (u2 (p1 v17) 33 17 1) 33 13 ((u2 (p1 v17) 33 17 1) 33 28)) 33 29)) (u2 (p2 v17) 33 15 ((p2 v17) 33 30))))))) := fun a k => by
    unfold F_X9_readLine_91
    rw [needs_1, v1, ob_some, if_pos (show (V 33 26) ≤ 0 by rw [(AV.1 k).2.1]; decide)]
  have hb0 : bz (0 : Int32) = 0 := by decide
  have hb1 : ¬ bz (1 : Int32) = 0 := by decide
  unfold lineS
  by_cases k1 : tk B n f = 1
  · by_cases n0 : nmb B f (te B n f) 0 = true
    · -- cloth
      rw [if_pos ⟨k1, n0⟩, hpos 10 k1 (by rw [if_pos n0])]
      unfold F_X9_readLine_17 F_X9_readLine_30 F_X9_readLine_50 F_X9_readLine_55 F_X9_readLine_90
      rw [if_neg (show ¬ (10 : Int32) = -4 by decide), if_neg (show ¬ (10 : Int32) = 12 by decide), needs_1, needs_1, if_pos rfl, d1]
      unfold imgS
      by_cases g : p1 c = 0
      · rw [if_pos g, g, if_pos (show bz (Int32.ofNat 0) = 0 from hb0)]
        unfold F_X9_readLine_73 F_X9_readLine_86
        rw [if_neg (show ¬ (10 : Int32) = 11 by decide)]
        by_cases k4 : tk B n (tf B n (te B n f)) = 4
        · rw [h91 _ k4, rowsS_4 k4]
          exact ⟨V, L, rfl, S.1.fli, FliL.rfl, AV.2 k4⟩
        · rw [h91' _ k4, if_neg (show ¬ (10 : Int32) = 12 by decide)]
          simp only [if_pos (show (10 : Int32) = 10 from rfl)]
          obtain ⟨I', L', r1, r2, r3, r4⟩ := img_M (t := 16) (h := 10) (w := 11) (s := 12) (L := L) (by decide) (by decide) TV hte.2.1 AV
          refine ⟨I', L', r1, fun k j x y z => (r2 k j y (by omega)).trans (S.1 k j (by omega)), fun k j x => r3 k j (by omega), ?_⟩
          cases hr : rowsS B n 9 0 0 0 (te B n f) with
          | inl x =>
            rw [hr] at r4
            exact r4
          | inr x =>
            rw [hr] at r4
            obtain ⟨b1, b2, b3, b4, b5⟩ := r4
            have hh : ∀ k j, ¬ (k = 33 ∧ 22 ≤ j ∧ j ≤ 29) → ¬ (k = 33 ∧ (j = 16 ∨ j = 10 ∨ j = 11)) → I' k j = I k j := fun k j y z => (r2 k j y z).trans (S.1 k j (by omega))
            refine ⟨b1, ⟨b2, b3, b4, b5⟩, ⟨?_, fun z => ⟨?_, ?_⟩, ?_⟩, ?_, fun N hN => ⟨?_, fun j hj => ?_⟩⟩
            · exact (hh 33 17 (by omega) (by omega)).trans e1
            · exact (hh 33 13 (by omega) (by omega)).trans (e2 z).1
            · exact (hh 33 14 (by omega) (by omega)).trans (e2 z).2
            · exact (r3 33 15 (by omega)).trans e3
            · exact (hh 33 18 (by omega) (by omega)).trans D3
            · exact (hh 38 _ (by omega) (by omega)).trans (D4 N hN).1
            · exact (hh 38 _ (by omega) (by omega)).trans ((D4 N hN).2 j hj)
      · have g1 : p1 c = 1 := by have := hc.1; omega
        rw [if_neg g, g1, if_neg (show ¬ bz (Int32.ofNat 1) = 0 from hb1), blame91 (needs_at (c := 4) h26 a2 (by decide)).1]
        exact ⟨_, L, rfl, hbad 4 (by decide)⟩
    by_cases n1 : nmb B f (te B n f) 1 = true
    · -- pattern
      rw [if_neg (fun z => n0 z.2), if_pos ⟨k1, n1⟩, hpos 11 k1 (by rw [if_neg n0, if_pos n1])]
      unfold F_X9_readLine_17 F_X9_readLine_30 F_X9_readLine_50 F_X9_readLine_55 F_X9_readLine_73 F_X9_readLine_90 F_X9_readLine_86
      rw [if_neg (show ¬ (11 : Int32) = -4 by decide), if_neg (show ¬ (11 : Int32) = 12 by decide), needs_1, needs_1, if_neg (show ¬ (11 : Int32) = 10 by decide), if_pos rfl, e1]
      unfold imgS
      by_cases g : p1 q = 0
      · rw [if_pos g, g, if_pos (show bz (Int32.ofNat 0) = 0 from hb0)]
        by_cases k4 : tk B n (tf B n (te B n f)) = 4
        · rw [h91 _ k4, rowsS_4 k4]
          exact ⟨V, L, rfl, S.1.fli, FliL.rfl, AV.2 k4⟩
        · rw [h91' _ k4, if_neg (show ¬ (11 : Int32) = 12 by decide)]
          simp only [if_neg (show ¬ (11 : Int32) = 10 by decide)]
          obtain ⟨I', L', r1, r2, r3, r4⟩ := img_M (t := 17) (h := 13) (w := 14) (s := 15) (L := L) (by decide) (by decide) TV hte.2.1 AV
          refine ⟨I', L', r1, fun k j x y z => (r2 k j y (by omega)).trans (S.1 k j (by omega)), fun k j x => r3 k j (by omega), ?_⟩
          cases hr : rowsS B n 9 0 0 0 (te B n f) with
          | inl x =>
            rw [hr] at r4
            exact r4
          | inr x =>
            rw [hr] at r4
            obtain ⟨b1, b2, b3, b4, b5⟩ := r4
            have hh : ∀ k j, ¬ (k = 33 ∧ 22 ≤ j ∧ j ≤ 29) → ¬ (k = 33 ∧ (j = 17 ∨ j = 13 ∨ j = 14)) → I' k j = I k j := fun k j y z => (r2 k j y z).trans (S.1 k j (by omega))
            refine ⟨b1, ⟨?_, ?_, ?_, ?_⟩, ⟨b2, fun _ => ⟨b3, b4⟩, b5⟩, ?_, fun N hN => ⟨?_, fun j hj => ?_⟩⟩
            · exact (hh 33 16 (by omega) (by omega)).trans d1
            · exact (hh 33 10 (by omega) (by omega)).trans d2
            · exact (hh 33 11 (by omega) (by omega)).trans d3
            · exact (r3 33 12 (by omega)).trans d4
            · exact (hh 33 18 (by omega) (by omega)).trans D3
            · exact (hh 38 _ (by omega) (by omega)).trans (D4 N hN).1
            · exact (hh 38 _ (by omega) (by omega)).trans ((D4 N hN).2 j hj)
      · have g1 : p1 q = 1 := by have := hq.1; omega
        rw [if_neg g, g1, if_neg (show ¬ bz (Int32.ofNat 1) = 0 from hb1), blame91 (needs_at (c := 4) h26 a2 (by decide)).1]
        exact ⟨_, L, rfl, hbad 4 (by decide)⟩
    by_cases n2 : nmb B f (te B n f) 2 = true
    · -- day
      rw [if_neg (fun z => n0 z.2), if_neg (fun z => n1 z.2), if_pos ⟨k1, n2⟩, hpos 12 k1 (by rw [if_neg n0, if_neg n1, if_pos n2])]
      unfold F_X9_readLine_17 F_X9_readLine_30 F_X9_readLine_50
      rw [if_neg (show ¬ (12 : Int32) = -4 by decide), if_pos (show (12 : Int32) = 12 from rfl), needs_1, D3]
      have hdl := hd.1
      by_cases g : ds.length < 12
      · rw [if_pos g, if_neg (show ¬ (12 : Int32) ≤ Int32.ofNat ds.length from fun z => absurd ((ge_on (a := 12) (by decide) (by omega)).mp z) (by omega))]
        unfold F_X9_readLine_55 F_X9_readLine_73 F_X9_readLine_86
        rw [needs_1, if_neg (show ¬ (12 : Int32) = 10 by decide), if_neg (show ¬ (12 : Int32) = 11 by decide)]
        by_cases k4 : tk B n (tf B n (te B n f)) = 4
        · rw [h91 _ k4, actsS_4 k4]
          exact ⟨V, L, rfl, S.1.fli, FliL.rfl, AV.2 k4⟩
        · rw [h91' _ k4, if_pos (show (12 : Int32) = 12 from rfl)]
          obtain ⟨I', r1, r2, r3⟩ := day_M (L := L) g TV hte.2.1 AV ((S.1 33 18 (by omega)).trans D3)
          have hh : ∀ k j, ¬ (k = 33 ∧ 22 ≤ j ∧ j ≤ 29) → ¬ (k = 33 ∧ j = 18) → ¬ (k = 38 ∧ 4 * ds.length ≤ j) → I' k j = I k j := fun k j x y z => (r2 k j x y z).trans (S.1 k j (by omega))
          refine ⟨I', L, r1, fun k j x y z => hh k j y (by omega) (by omega), FliL.rfl, ?_⟩
          cases hr : actsS B n 4 [] (te B n f) with
          | inl x =>
            rw [hr] at r3
            exact r3
          | inr x =>
            rw [hr] at r3
            obtain ⟨b1, b2, b3⟩ := r3
            refine ⟨b1, ⟨?_, ?_, ?_, d4⟩, ⟨?_, fun z => ⟨?_, ?_⟩, e3⟩, ?_, fun N hN => ?_⟩
            · exact (hh 33 16 (by omega) (by omega) (by omega)).trans d1
            · exact (hh 33 10 (by omega) (by omega) (by omega)).trans d2
            · exact (hh 33 11 (by omega) (by omega) (by omega)).trans d3
            · exact (hh 33 17 (by omega) (by omega) (by omega)).trans e1
            · exact (hh 33 13 (by omega) (by omega) (by omega)).trans (e2 z).1
            · exact (hh 33 14 (by omega) (by omega) (by omega)).trans (e2 z).2
            · show I' 33 18 = Int32.ofNat (ds ++ [p2 x]).length
              rw [List.length_append]
              exact b2
            · show DayM N ((ds ++ [p2 x]).getD N []) I'
              have hN' : N < ds.length + 1 := by
                have : N < (ds ++ [p2 x]).length := hN
                rwa [List.length_append] at this
              by_cases e : N = ds.length
              · rw [e, show (ds ++ [p2 x]).getD ds.length [] = p2 x by simp [List.getD_eq_getElem?_getD]]
                exact b3
              · have hl : (ds ++ [p2 x]).getD N [] = ds.getD N [] := by
                  rw [List.getD_eq_getElem?_getD, List.getD_eq_getElem?_getD, List.getElem?_append_left (by omega)]
                have o := hd.2 N (by omega)
                rw [hl]
                refine ⟨(hh 38 _ (by omega) (by omega) (by omega)).trans (D4 N (by omega)).1, fun j hj => ?_⟩
                exact (hh 38 _ (by omega) (by omega) (by omega)).trans ((D4 N (by omega)).2 j hj)
      · rw [if_neg g, if_pos (show (12 : Int32) ≤ Int32.ofNat ds.length from (ge_on (a := 12) (by decide) (by omega)).mpr (by omega)), blame55 (needs_at (c := 5) h26 a2 (by decide)).1]
        exact ⟨_, L, rfl, hbad 5 (by decide)⟩
    · rw [if_neg (fun z => n0 z.2), if_neg (fun z => n1 z.2), if_neg (fun z => n2 z.2), hneg (.inr (fun z => z.elim n0 (fun z => z.elim n1 n2)))]
      unfold F_X9_readLine_17
      rw [if_pos rfl, blame30 (needs_at (c := 2) h26 a2 (by decide)).1]
      exact ⟨_, L, rfl, hbad 2 (by decide)⟩
  · rw [if_neg (fun z => k1 z.1), if_neg (fun z => k1 z.1), if_neg (fun z => k1 z.1), hneg (.inl k1)]
    unfold F_X9_readLine_17
    rw [if_pos rfl, blame30 (needs_at (c := 2) h26 a2 (by decide)).1]
    exact ⟨_, L, rfl, hbad 2 (by decide)⟩
/-! the whole text: the reference -/
theorem not_le_f {g : Nat} {I : WI} (h : Fm g I) : ¬ (I 33 26) ≤ 0 := fun q => by
  have := h.1
  rw [Int32.le_iff_toInt_le] at q
  have : (0 : Int32).toInt = 0 := by decide
  omega
def LinesM (n : Nat) (I : WI) (L : WL) (x : Nat ⊕ (Nat × (Nat × Nat × Nat × Int64) × (Nat × Nat × Nat × Int64) × List (List Nat))) (a : Int32) (I' : WI) (L' : WL) : Prop := Fli I I' ∧ FliL L L' ∧ match x with
  | .inl g => Fm g I'
  | .inr r => a = Int32.ofNat (p1 r) ∧ I' 33 26 = 0 ∧ I' 33 23 = Int32.ofNat n ∧ DraftM (p1 (p2 r)) (p1 (p2 (p2 r))) (p2 (p2 (p2 r))) I' L' ∧ ImOk (p1 (p2 r)) ∧ ImOk (p1 (p2 (p2 r))) ∧ DsOk (p2 (p2 (p2 r)))
theorem lines_M {B : Nat → Nat} {n : Nat} : ∀ (u a : Nat) (c q : Nat × Nat × Nat × Int64) (ds : List (List Nat)) (p : Nat) (I : WI) (L : WL) (fuel : Nat), n < u + p → u + 1 < fuel → TapM B n I → p ≤ n → MAt B n p I → ImOk c → ImOk q → DsOk ds → DraftM c q ds I L → ∃ a' I' L', lpp (fun x => F_X9_text_20_1 (p1 (p2 x)) (p2 (p2 x)) (p1 x)) fuel (Int32.ofNat a, I, L) = some (a', I', L') ∧ LinesM n I L (linesC B n u a c q ds p) a' I' L' := by
  intro u
  induction u with
  | zero => intro a c q ds p I L fuel h1 _ _ h2; omega
  | succ u ih =>
    intro a c q ds p I L fuel hu hf T hp A hc hq hd D
    obtain ⟨fuel, rfl⟩ : ∃ g, fuel = g + 1 := ⟨fuel - 1, by omega⟩
    have hn : n ≤ 320 := T.1
    have hfp := tf_le (B := B) hp
    have hte := te_le (B := B) (f := tf B n p) hfp.2
    have hl : ∀ r a I L k, F_X9_text_20_1 I L a = some (.inl r) → lpp (fun x : Int32 × WI × WL => F_X9_text_20_1 (p1 (p2 x)) (p2 (p2 x)) (p1 x)) (k + 1) (a, I, L) = some r := fun r a I L k h => lpp_l (f := (fun x : Int32 × WI × WL => F_X9_text_20_1 (p1 (p2 x)) (p2 (p2 x)) (p1 x))) (s := (a, I, L)) h
    have hr : ∀ s a I L k, F_X9_text_20_1 I L a = some (.inr s) → lpp (fun x : Int32 × WI × WL => F_X9_text_20_1 (p1 (p2 x)) (p2 (p2 x)) (p1 x)) (k + 1) (a, I, L) = lpp (fun x : Int32 × WI × WL => F_X9_text_20_1 (p1 (p2 x)) (p2 (p2 x)) (p1 x)) k s := fun s a I L k h => lpp_r (f := (fun x : Int32 × WI × WL => F_X9_text_20_1 (p1 (p2 x)) (p2 (p2 x)) (p1 x))) (s := (a, I, L)) h
    have hfa : ∀ g a J K, Fm g J → F_X9_text_20_1 J K a = some (.inl (a, J, K)) := fun g a J K h => by
      unfold F_X9_text_20_1
      rw [if_neg h.ne]
    unfold linesC
    by_cases c4 : tk B n (tf B n p) = 4
    · have hF := A.2 c4
      rw [hl _ _ _ _ _ (hfa _ _ I L hF), if_neg (show ¬ tk B n (tf B n p) = 0 from fun z => by omega)]
      have hx : lineS B n c q ds (tf B n p) = .inl (tf B n p) := by
        unfold lineS
        rw [if_neg (fun z => by have := z.1; omega), if_neg (fun z => by have := z.1; omega), if_neg (fun z => by have := z.1; omega)]
      rw [hx]
      exact ⟨_, I, L, rfl, Fli.rfl, FliL.rfl, hF⟩
    obtain ⟨⟨a1, a2, a3, a4, a5⟩, h26, -⟩ := A.1 c4
    by_cases c0 : tk B n (tf B n p) = 0
    · rw [if_pos c0]
      have h20 : F_X9_text_20_1 I L (Int32.ofNat a) = some (.inl (Int32.ofNat a, I, L)) := by
        unfold F_X9_text_20_1
        rw [if_pos h26, a1, if_pos (show Int32.ofNat (tk B n (tf B n p)) = 0 by rw [c0]; rfl)]
      rw [hl _ _ _ _ _ h20]
      refine ⟨_, I, L, rfl, Fli.rfl, FliL.rfl, rfl, h26, ?_, D, hc, hq, hd⟩
      have : tf B n p = n := by
        unfold tk at c0
        by_cases z : n ≤ tf B n p
        · omega
        · rw [if_neg z] at c0
          by_cases z1 : B (tf B n p) = 59
          · rw [if_pos z1] at c0; omega
          rw [if_neg z1] at c0
          by_cases z2 : isLt (B (tf B n p)) = true
          · rw [if_pos z2] at c0; omega
          rw [if_neg z2] at c0
          split at c0 <;> omega
      rw [a2, this]
    · rw [if_neg c0]
      obtain ⟨J, K, j1, j2, j3, j4⟩ := line_M T hp A c4 hc hq hd D
      have h20 : F_X9_text_20_1 I L (Int32.ofNat a) = some (.inr (Int32.ofNat (a + 1), J, K)) := by
        unfold F_X9_text_20_1
        rw [if_pos h26, a1, if_neg (show ¬ Int32.ofNat (tk B n (tf B n p)) = 0 from fun z => c0 (on_inj (b := 0) (by omega) (by decide) z)), j1, ob_some, la1]
        rfl
      rw [hr _ _ _ _ _ h20]
      cases hx : lineS B n c q ds (tf B n p) with
      | inl g =>
        rw [hx] at j4
        obtain ⟨k, rfl⟩ : ∃ g, fuel = g + 1 := ⟨fuel - 1, by omega⟩
        rw [hl _ _ _ _ _ (hfa _ _ J K j4)]
        exact ⟨_, J, K, rfl, j2, j3, j4⟩
      | inr r =>
        rw [hx] at j4
        obtain ⟨o1, o2, o3, o4, o5⟩ := lineS_ok hfp.2 hc hq hd hx
        obtain ⟨a', I', L', r1, r2, r3, r4⟩ := ih (a + 1) _ _ _ (p1 r) J K fuel (by omega) (by omega) (j2.tap T) o2 j4.1 o3 o4 o5 j4.2
        exact ⟨a', I', L', r1, j2.trans r2, j3.trans r3, r4⟩
/-- an act that the draft's cloth has -/
theorem isAct_t : ∀ x, x < 60 → ∀ m, m < 9 → ∀ w, w < 9 → 1 ≤ m → 1 ≤ w → F_X9_isActOf (Int32.ofNat x / 20) (Int32.ofNat x - Int32.ofNat x / 20 * 20) (Int32.ofNat m) (Int32.ofNat w) = if legal m w x = true then 1 else 0 := by decide +kernel
theorem actsMl {f : Int32 × Int32 → Option (Int32 ⊕ (Int32 × Int32))} {g : Nat → Bool} {N : Nat} (h1 : ∀ j (b : Bool), j < N → f (if b = true then 1 else 0, Int32.ofNat (j + 1)) = some (.inr (if (b && g j) = true then 1 else 0, Int32.ofNat (j + 2)))) (h2 : ∀ b : Bool, f (if b = true then 1 else 0, Int32.ofNat (N + 1)) = some (.inl (if b = true then 1 else 0))) : ∀ (m j : Nat) (b : Bool) (fuel : Nat), j + m = N → m < fuel → lpp f fuel (if b = true then 1 else 0, Int32.ofNat (j + 1)) = some (if ab g m j b = true then 1 else 0) := by
  intro m
  induction m with
  | zero =>
    intro j b fuel hj hf
    obtain ⟨fuel, rfl⟩ : ∃ g, fuel = g + 1 := ⟨fuel - 1, by omega⟩
    rw [show j = N by omega]
    exact lpp_l (h2 b)
  | succ m ih =>
    intro j b fuel hj hf
    obtain ⟨fuel, rfl⟩ : ∃ g, fuel = g + 1 := ⟨fuel - 1, by omega⟩
    rw [lpp_r (h1 j b (by omega))]
    exact ih (j + 1) (b && g j) fuel (by omega) (by omega)
theorem dayActs_M {c q : Nat × Nat × Nat × Int64} {ds : List (List Nat)} {I : WI} {L : WL} {N : Nat} (D : DraftM c q ds I L) (hc : ImOk c) (hd : DsOk ds) (hN : N < ds.length) (b : Bool) : F_X9_areActs_12_1 I (Int32.ofNat N) (if b = true then 1 else 0) = some (if (b && dayB c (ds.getD N [])) = true then 1 else 0) := by
  obtain ⟨o1, o2, o3⟩ := hd.2 N hN
  have hM := hd.1
  have hcl := hc.2.1
  unfold Cl at hcl
  obtain ⟨R1, R2⟩ := D.2.2.2 N hN
  have h := actsMl (f := fun x => F_X9_areActs_14_2 I (Int32.ofNat N) (p1 x) (p2 x)) (g := fun j => legal (p1 (p2 c)) (p1 (p2 (p2 c))) ((ds.getD N []).getD j 0)) (N := (ds.getD N []).length) (fun j b hj => by
    show F_X9_areActs_14_2 I (Int32.ofNat N) (if b = true then 1 else 0) (Int32.ofNat (j + 1)) = some (.inr (_, Int32.ofNat (j + 1 + 1)))
    have ht := isAct_t _ (o3 j hj) (p1 (p2 c)) (by omega) (p1 (p2 (p2 c))) (by omega) hcl.1.1 (by omega)
    unfold F_X9_areActs_14_2 F_X9_areActs_74_2 F_X9_areActs_75_2
    rw [lm4, if_neg (nin (k := 4 * N) (N := 48) (by omega) (by decide)), on_clamp (by omega), R1, if_neg (show ¬ Int32.ofNat (ds.getD N []).length < Int32.ofNat (j + 1) from fun z => absurd ((lt_onn (by omega) (by omega)).mp z) (by omega)), oadd, show 4 * N + (j + 1) = 4 * N + 1 + j by omega, if_neg (nin (k := 4 * N + 1 + j) (N := 48) (by omega) (by decide)), if_neg (nin (k := 4 * N + 1 + j) (N := 48) (by omega) (by decide)), on_clamp (by omega), R2 j hj, D.1.2.1, D.1.2.2.1, ht, la1]
    cases b with
    | false =>
      rw [if_neg (show ¬ false = true by decide), if_pos rfl, Bool.false_and]
      rfl
    | true =>
      rw [if_pos rfl, if_neg (show ¬ (1 : Int32) = 0 by decide), Bool.true_and]
      by_cases g : legal (p1 (p2 c)) (p1 (p2 (p2 c))) ((ds.getD N []).getD j 0) = true
      · rw [if_pos g, if_neg (show ¬ (1 : Int32) = 0 by decide)]
      · rw [if_neg g, if_pos rfl]) (fun b => by
    show F_X9_areActs_14_2 I (Int32.ofNat N) (if b = true then 1 else 0) (Int32.ofNat ((ds.getD N []).length + 1)) = _
    unfold F_X9_areActs_14_2
    rw [lm4, if_neg (nin (k := 4 * N) (N := 48) (by omega) (by decide)), on_clamp (by omega), R1, if_pos (show Int32.ofNat (ds.getD N []).length < Int32.ofNat ((ds.getD N []).length + 1) from (lt_onn (by omega) (by omega)).mpr (by omega))]) (ds.getD N []).length 0 b 4294967296 (by omega) (by omega)
  unfold F_X9_areActs_12_1 F_X9_areActs_14_1 F_X9_areActs_82_1 dayB
  show (lpp (fun x => F_X9_areActs_14_2 I (Int32.ofNat N) (p1 x) (p2 x)) 4294967296 (if b = true then 1 else 0, Int32.ofNat (0 + 1))).bind _ = _
  rw [h, ob_some, ab_and]
theorem areActs_M {c q : Nat × Nat × Nat × Int64} {ds : List (List Nat)} {I : WI} {L : WL} (D : DraftM c q ds I L) (hc : ImOk c) (hd : DsOk ds) : F_X9_areActs I = some (if ab (fun N => dayB c (ds.getD N [])) ds.length 0 true = true then 1 else 0) := by
  have hM := hd.1
  have key : ∀ m i b, ab (fun N => dayB c (ds.getD N [])) (m + 1) i b = (ab (fun N => dayB c (ds.getD N [])) m i b && dayB c (ds.getD (i + m) [])) := by
    intro m
    induction m with
    | zero => intro i b; rfl
    | succ m ih =>
      intro i b
      have e : ab (fun N => dayB c (ds.getD N [])) (m + 1 + 1) i b = ab (fun N => dayB c (ds.getD N [])) (m + 1) (i + 1) (b && dayB c (ds.getD i [])) := rfl
      rw [e, ih, show i + 1 + m = i + (m + 1) by omega]
      rfl
  obtain ⟨e, r1, r2⟩ := frp0_nat (g := fun i x => F_X9_areActs_12_1 I i x) (b := ds.length) (by omega) (fun i x => x = if ab (fun N => dayB c (ds.getD N [])) i 0 true = true then 1 else 0) (s := 1) (fun i x hi hx => by
    refine ⟨_, ?_, rfl⟩
    show F_X9_areActs_12_1 I (Int32.ofNat i) x = _
    rw [hx, dayActs_M D hc hd hi, key, Nat.zero_add]) rfl
  unfold F_X9_areActs F_X9_areActs_4 F_X9_areActs_88
  rw [D.2.2.1, r1, ob_some, r2, if_pos (by split <;> decide)]
/-- the draft, kept -/
theorem keepDraft_M {c q : Nat × Nat × Nat × Int64} {ds : List (List Nat)} {I : WI} {L : WL} (D : DraftM c q ds I L) (hq : ImOk q) : ∃ J, F_X9_keepDraft I L = some (J, u2 (u2 L 33 2 (p2 (p2 (p2 c)))) 33 3 (p2 (p2 (p2 q)))) ∧ J 33 0 = Int32.ofNat (p1 (p2 c)) ∧ J 33 1 = Int32.ofNat (p1 (p2 (p2 c))) ∧ J 33 4 = Int32.ofNat (p1 q) ∧ J 33 5 = Int32.ofNat ds.length ∧ J 36 0 = 0 ∧ J 36 1 = 0 ∧ (∀ j, j < 48 → J 34 j = I 38 j) ∧ ∀ k j, ¬ (k = 33 ∧ (j = 0 ∨ j = 1 ∨ j = 4 ∨ j = 5)) → k ≠ 34 → k ≠ 36 → J k j = I k j := by
  obtain ⟨⟨d1, d2, d3, d4⟩, ⟨e1, e2, e3⟩, f1, -⟩ := D
  have hb : bz (I 33 17) = Int32.ofNat (p1 q) := by
    rw [e1]
    have := hq.1
    rcases (show p1 q = 0 ∨ p1 q = 1 by omega) with e | e <;> rw [e] <;> decide
  unfold F_X9_keepDraft F_X9_keepDraft_50
  rw [u2_nc (a := 33) (b := 11) (by omega), u2_nc (a := 33) (b := 17) (by omega), u2_nc (a := 33) (b := 17) (by omega), u2_nc (a := 33) (b := 18) (by omega), u2_nc (a := 33) (b := 18) (by omega), u2_nc (a := 33) (b := 18) (by omega), u2_nc (a := 33) (b := 15) (by omega), hb, d2, d3, f1, d4, e3]
  generalize hZ : (u2 (u2 (u2 (u2 I 33 0 (Int32.ofNat (p1 (p2 c)))) 33 1 (Int32.ofNat (p1 (p2 (p2 c))))) 33 4 (Int32.ofNat (p1 q))) 33 5 (Int32.ofNat ds.length)) = Z
  have zf : ∀ k j, ¬ (k = 33 ∧ (j = 0 ∨ j = 1 ∨ j = 4 ∨ j = 5)) → Z k j = I k j := fun k j z => by
    rw [← hZ, u2_nc (by omega), u2_nc (by omega), u2_nc (by omega), u2_nc (by omega)]
  obtain ⟨e, r1, r2, r3⟩ := frp0_nat (g := fun i x => F_X9_keepDraft_56_1 x (u2 (u2 L 33 2 (p2 (p2 (p2 c)))) 33 3 (p2 (p2 (p2 q)))) i) (b := 48) (by decide) (fun i x => (∀ j, j < i → x 34 j = I 38 j) ∧ ∀ k j, k ≠ 34 → x k j = Z k j) (s := Z) (fun i x hi hx => by
    refine ⟨u2 x 34 i (I 38 i), ?_, fun j hj => ?_, fun k j hk => ?_⟩
    · show F_X9_keepDraft_56_1 x _ (Int32.ofNat i) = _
      unfold F_X9_keepDraft_56_1
      rw [if_neg (nin (k := i) (N := 48) hi (by decide)), if_neg (nin (k := i) (N := 48) hi (by decide)), on_clamp (by omega), hx.2 38 i (by decide), zf 38 i (by omega)]
    · by_cases z : j = i
      · rw [z, u2_at]
      · rw [u2_nc (by omega)]
        exact hx.1 j (by omega)
    · rw [u2_nc (by omega)]
      exact hx.2 k j hk) ⟨fun j hj => absurd hj (Nat.not_lt_zero _), fun _ _ _ => rfl⟩
  rw [show (48 : Int32) = Int32.ofNat 48 from rfl, r1, ob_some]
  unfold F_X9_keepDraft_74
  rw [show Int32.toNatClampNeg 0 = 0 from rfl, show Int32.toNatClampNeg 1 = 1 from rfl]
  refine ⟨_, rfl, ?_, ?_, ?_, ?_, ?_, u2_at, fun j hj => ?_, fun k j a b c => ?_⟩
  · rw [u2_nc (by omega), u2_nc (by omega), r3 33 0 (by decide), ← hZ, u2_nc (by omega), u2_nc (by omega), u2_nc (by omega), u2_at]
  · rw [u2_nc (by omega), u2_nc (by omega), r3 33 1 (by decide), ← hZ, u2_nc (by omega), u2_nc (by omega), u2_at]
  · rw [u2_nc (by omega), u2_nc (by omega), r3 33 4 (by decide), ← hZ, u2_nc (by omega), u2_at]
  · rw [u2_nc (by omega), u2_nc (by omega), r3 33 5 (by decide), ← hZ, u2_at]
  · rw [u2_nc (by omega), u2_at]
  · rw [u2_nc (by omega), u2_nc (by omega)]
    exact r2 j hj
  · rw [u2_nc (by omega), u2_nc (by omega), r3 k j b]
    exact zf k j a
/-- what the reference keeps of a text -/
def KeptM (c q : Nat × Nat × Nat × Int64) (ds : List (List Nat)) (I : WI) (L : WL) : Prop := (I 33 0 = Int32.ofNat (p1 (p2 c)) ∧ I 33 1 = Int32.ofNat (p1 (p2 (p2 c))) ∧ L 33 2 = p2 (p2 (p2 c))) ∧ (I 33 4 = Int32.ofNat (p1 q) ∧ L 33 3 = p2 (p2 (p2 q))) ∧ I 36 0 = 0 ∧ I 36 1 = 0 ∧ I 33 5 = Int32.ofNat ds.length ∧ ∀ N, N < ds.length → I 34 (4 * N) = Int32.ofNat (ds.getD N []).length ∧ ∀ j, j < (ds.getD N []).length → I 34 (4 * N + 1 + j) = Int32.ofNat ((ds.getD N []).getD j 0)
def FaceM (I : WI) (L : WL) (x : Nat ⊕ (Nat × (Nat × Nat × Nat × Int64) × (Nat × Nat × Nat × Int64) × List (List Nat))) (v : Int32) (I' : WI) (L' : WL) : Prop := I' 33 21 = 0 ∧ (∀ k j, k ≠ 33 → k ≠ 34 → k ≠ 36 → k ≠ 38 → I' k j = I k j) ∧ I' 33 46 = I 33 46 ∧ (∀ k j, k ≠ 33 → L' k j = L k j) ∧ match x with
  | .inl g => v = -10 - Int32.ofNat g ∧ (∀ k j, k ≠ 33 → k ≠ 38 → I' k j = I k j) ∧ (∀ j, j < 6 → I' 33 j = I 33 j) ∧ ∀ j, j < 4 → L' 33 j = L 33 j
  | .inr r => v = Int32.ofNat (p1 r) ∧ KeptM (p1 (p2 r)) (p1 (p2 (p2 r))) (p2 (p2 (p2 r))) I' L'
theorem text_M {B : Nat → Nat} {n : Nat} {I : WI} {L : WL} (T : TapM B n I) : ∃ v I' L', F_X9_text I L = some (v, I', L') ∧ FaceM I L (textS B n) v I' L' := by
  have hn : n ≤ 320 := T.1
  unfold F_X9_text F_X9_firstDraft
  simp only [p1, p2]
  generalize hZ : (u2 (u2 (u2 (u2 (u2 (u2 (u2 I 33 26 0) 33 22 0) 33 10 4) 33 11 4) 33 16 0) 33 17 0) 33 18 0) = Z
  generalize hK : (u2 (u2 L 33 12 0) 33 15 0) = K
  have zf : Fli I Z := fun k j a b c => by
    rw [← hZ, u2_nc (by omega), u2_nc (by omega), u2_nc (by omega), u2_nc (by omega), u2_nc (by omega), u2_nc (by omega), u2_nc (by omega)]
  have lf : FliL L K := fun k j a => by
    rw [← hK, u2_nc (by omega), u2_nc (by omega)]
  have D : DraftM c0 c0 [] Z K := by
    refine ⟨⟨?_, ?_, ?_, ?_⟩, ⟨?_, fun z => absurd z (by decide), ?_⟩, ?_, fun N hN => absurd hN (Nat.not_lt_zero _)⟩ <;> first | rw [← hZ] | rw [← hK]
    all_goals rfl
  obtain ⟨V, v1, S⟩ := next_M (p := 0) (zf.tap T) (Nat.zero_le _) (show Z 33 22 = Int32.ofNat 0 by rw [← hZ]; rfl) (by rw [← hZ]; rfl)
  have DV : DraftM c0 c0 [] V K := D.ag fun k j a => S.1 k j (by omega)
  have hV : Fli I V := zf.trans S.1.fli
  obtain ⟨a', I1, L1, r1, r2, r3, r4⟩ := lines_M (n + 1) 0 c0 c0 [] 0 V K 4294967296 (by omega) (by omega) (hV.tap T) (Nat.zero_le _) (S.at (Nat.zero_le _)) c0_ok c0_ok ⟨by decide, fun N hN => absurd hN (Nat.not_lt_zero _)⟩ DV
  have hI1 : Fli I I1 := hV.trans r2
  have hL1 : FliL L L1 := lf.trans r3
  rw [v1, ob_some]
  have h20 : ∀ r, F_X9_text_44 I1 L1 a' = r → F_X9_text_20 V K 0 = r := fun r h => by
    unfold F_X9_text_20
    show (lpp (fun x => F_X9_text_20_1 (p1 (p2 x)) (p2 (p2 x)) (p1 x)) 4294967296 (Int32.ofNat 0, V, K)).bind _ = _
    rw [r1]
    exact h
  suffices hs : ∃ v I' L', F_X9_text_44 I1 L1 a' = some (v, I', L') ∧ FaceM I L (textS B n) v I' L' by
    obtain ⟨v, I', L', g1, g2⟩ := hs
    exact ⟨v, I', L', h20 _ g1, g2⟩
  -- a fault ends it
  have hfault : ∀ g J, Fm g J → Fli I J → ∃ v I' L', F_X9_text_101 J L1 a' = some (v, I', L') ∧ FaceM I L (.inl g) v I' L' := fun g J hF hJ => by
    have h26 : ¬ (u2 J 33 21 0) 33 26 ≤ 0 := by
      rw [u2_nc (by omega)]
      exact not_le_f hF
    unfold F_X9_text_101
    rw [if_neg h26, u2_nc (by omega), hF.2]
    refine ⟨_, _, _, rfl, u2_at, fun k j a b c d => ?_, ?_, fun k j a => hL1 k j (by omega), rfl, fun k j a b => ?_, fun j hj => ?_, fun j hj => hL1 33 j (by omega)⟩
    · rw [u2_nc (by omega)]
      exact hJ k j (by omega) (by omega) d
    · rw [u2_nc (by omega)]
      exact hJ 33 46 (by omega) (by omega) (by decide)
    · rw [u2_nc (by omega)]
      exact hJ k j (by omega) (by omega) b
    · rw [u2_nc (by omega)]
      exact hJ 33 j (by omega) (by omega) (by decide)
  unfold textS
  cases hx : linesC B n (n + 1) 0 c0 c0 [] 0 with
  | inl g =>
    rw [hx] at r4
    unfold F_X9_text_44
    rw [if_neg r4.ne]
    exact hfault g I1 r4 hI1
  | inr r =>
    rw [hx] at r4
    obtain ⟨a1, h26, h23, DD, oc, oq, od⟩ := r4
    show ∃ v I' L', _ = _ ∧ FaceM I L (if wholeB (p1 (p2 r)) (p1 (p2 (p2 r))) (p2 (p2 (p2 r))) = true then .inr r else .inl n) v I' L'
    have hcl := oc.2.1
    have hql := oq.2.1
    unfold Cl at hcl hql
    have hss : F_X9_text_44 I1 L1 a' = F_X9_text_86 I1 L1 a' (if sameB (p1 (p2 r)) (p1 (p2 (p2 r))) = true then 1 else 0) := by
      unfold F_X9_text_44 F_X9_text_81 F_X9_text_85 sameB
      rw [if_pos h26, DD.2.1.1]
      by_cases g : p1 (p1 (p2 (p2 r))) = 0
      · rw [g, if_pos (by decide)]
        rfl
      · have g1 : p1 (p1 (p2 (p2 r))) = 1 := by have := oq.1; omega
        obtain ⟨w1, w2⟩ := DD.2.1.2.1 g1
        rw [g1, if_neg (by decide), w1, w2, DD.1.2.1, DD.1.2.2.1, show ((1 : Nat) == 0) = false from rfl, Bool.false_or]
        by_cases y1 : p1 (p2 (p1 (p2 (p2 r)))) = p1 (p2 (p1 (p2 r)))
        · rw [if_pos (by rw [y1])]
          by_cases y2 : p1 (p2 (p2 (p1 (p2 (p2 r))))) = p1 (p2 (p2 (p1 (p2 r))))
          · rw [if_pos (by rw [y2]), if_pos (by rw [Bool.and_eq_true, beq_iff_eq, beq_iff_eq]; exact ⟨y1, y2⟩)]
          · rw [if_neg (fun z => y2 (on_inj (by omega) (by omega) z)), if_neg (fun z => by rw [Bool.and_eq_true, beq_iff_eq, beq_iff_eq] at z; exact y2 z.2)]
        · rw [if_neg (fun z => y1 (on_inj (by omega) (by omega) z)), if_neg (fun z => by rw [Bool.and_eq_true, beq_iff_eq, beq_iff_eq] at z; exact y1 z.1)]
    rw [hss]
    unfold F_X9_text_86 wholeB
    by_cases s : sameB (p1 (p2 r)) (p1 (p2 (p2 r))) = true
    · rw [if_pos s, s, needs_1, areActs_M DD oc od, ob_some]
      by_cases w : ab (fun N => dayB (p1 (p2 r)) ((p2 (p2 (p2 r))).getD N [])) (p2 (p2 (p2 r))).length 0 true = true
      · rw [if_pos w, needs_1]
        simp only [if_pos w]
        unfold F_X9_text_101
        have D2 : DraftM (p1 (p2 r)) (p1 (p2 (p2 r))) (p2 (p2 (p2 r))) (u2 I1 33 21 0) L1 := by
          have e : ∀ j, j ≠ 21 → (u2 I1 33 21 0) 33 j = I1 33 j := fun j hj => u2_nc (by omega)
          have e' : ∀ j, (u2 I1 33 21 0) 38 j = I1 38 j := fun j => u2_nc (by omega)
          unfold DraftM DayM at DD ⊢
          rw [e 16 (by decide), e 10 (by decide), e 11 (by decide), e 17 (by decide), e 13 (by decide), e 14 (by decide), e 18 (by decide)]
          simp only [e']
          exact DD
        obtain ⟨J, j1, j2, j3, j4, j5, j6, j7, j8, j9⟩ := keepDraft_M D2 oq
        rw [if_pos (show (u2 I1 33 21 0) 33 26 ≤ 0 by rw [u2_nc (by omega), h26]; decide), j1, ob_some]
        refine ⟨a', J, (u2 (u2 L1 33 2 (p2 (p2 (p2 (p1 (p2 r)))))) 33 3 (p2 (p2 (p2 (p1 (p2 (p2 r))))))), rfl, ?_, fun k j a b c d => ?_, ?_, fun k j a => ?_, a1, ⟨j2, j3, ?_⟩, ⟨j4, u2_at⟩, j6, j7, j5, fun N hN => ?_⟩
        · exact (j9 33 21 (by omega) (by decide) (by decide)).trans u2_at
        · rw [j9 k j (by omega) b c, u2_nc (by omega)]
          exact hI1 k j (by omega) (by omega) d
        · rw [j9 33 46 (by omega) (by decide) (by decide), u2_nc (by omega)]
          exact hI1 33 46 (by omega) (by omega) (by decide)
        · rw [u2_nc (by omega), u2_nc (by omega)]
          exact hL1 k j (by omega)
        · rw [u2_nc (by omega), u2_at]
        · obtain ⟨q1, q2, q3⟩ := od.2 N hN
          have hM := od.1
          obtain ⟨R1, R2⟩ := DD.2.2.2 N hN
          refine ⟨?_, fun j hj => ?_⟩
          · rw [j8 _ (by omega), u2_nc (by omega)]
            exact R1
          · rw [j8 _ (by omega), u2_nc (by omega)]
            exact R2 j hj
      · rw [if_neg w]
        simp only [if_neg w]
        obtain ⟨hF, hN⟩ := needs_at (c := 7) h26 h23 (by decide)
        exact hfault n _ hF (hI1.trans hN.fli)
    · have s' : sameB (p1 (p2 r)) (p1 (p2 (p2 r))) = false := by rw [Bool.not_eq_true] at s; exact s
      obtain ⟨hF, hN⟩ := needs_at (c := 6) h26 h23 (by decide)
      rw [if_neg s, s', areActs_M (DD.ag fun k j a => hN k j (by omega)) oc od, ob_some, hF.needs, ab_and _ _ false, Bool.false_and, if_neg (show ¬ false = true by decide)]
      exact hfault n _ hF (hI1.trans hN.fli)
/-! text: class and reference alike -/
theorem E_2 {I : WI} {L : WL} (H : Inv I L) : ∃ v, (F_X8_text I L) = some v ∧ ∃ w, (F_X9_text (p1 (p2 v)) (p2 (p2 v))) = some w ∧ (p1 v) = (p1 w) ∧ Inv (p1 (p2 w)) (p2 (p2 w)) := by
  obtain ⟨⟨hh, ww, iC, iP⟩, iK0, iK1, iD, iT, iS, i46⟩ := H
  obtain ⟨B, n, T⟩ := iT.tap
  obtain ⟨v, I1, L1, r1, c9, c14, cF, cFL, cE⟩ := text_C (L := L) T
  have TM : TapM B n I1 := T.m.ag fun k j h => cF k j (by omega) (by omega) (by omega) (by omega) (by omega) (by omega) (by omega) (by omega) (by omega) (by omega)
  obtain ⟨u, I2, L2, s1, m21, mF, m46, mL, mE⟩ := text_M (L := L1) TM
  refine ⟨_, r1, _, s1, ?_⟩
  show v = u ∧ Inv I2 L2
  have hT : InvT I2 := ⟨0, by decide, (mF 9 0 (by decide) (by decide) (by decide) (by decide)).trans c9, m21, fun j hj => absurd hj (Nat.not_lt_zero _)⟩
  have hS : ∀ k, k < 4 → InvS I2 k := fun k hk => (by
    have e : ∀ a j, (a = 19 + 2 * k ∨ a = 20 + 2 * k ∨ a = 42 ∨ a = 43 ∨ a = 44) → I2 a j = I a j := fun a j h => (mF a j (by omega) (by omega) (by omega) (by omega)).trans (cF a j (by omega) (by omega) (by omega) (by omega) (by omega) (by omega) (by omega) (by omega) (by omega) (by omega))
    have q := iS k hk
    unfold InvS at q ⊢
    rw [e _ 0 (.inl rfl), e _ 1 (.inl rfl), e 42 k (by omega), e 43 k (by omega)]
    rcases q with q | ⟨a, l, h1, h2, h3, h4, h5, h6, h7⟩
    · exact .inl q
    · exact .inr ⟨a, l, h1, h2, h3, h4, h5, h6, fun i hi => by rw [e _ i (.inr (.inl rfl)), e 44 _ (by omega)]; exact h7 i hi⟩)
  have h46 : I2 0 14 = I2 33 46 := by
    rw [mF 0 14 (by decide) (by decide) (by decide) (by decide), c14, m46, i46]
    exact (cF 33 46 (by decide) (by decide) (by decide) (by decide) (by decide) (by decide) (by decide) (by decide) (by decide) (by decide)).symm
  cases hx : textS B n with
  | inl g =>
    rw [hx] at cE mE
    obtain ⟨cv, cI, cL⟩ := cE
    obtain ⟨mv, mI, m6, mL4⟩ := mE
    refine ⟨cv.trans mv.symm, ?_⟩
    have eI : ∀ k j, k ≠ 0 → ¬ (k = 9 ∧ j = 0) → (k < 11 ∨ 16 < k) → k ≠ 33 → k ≠ 38 → I2 k j = I k j := fun k j a b c d e => (mI k j d e).trans (cI k j a b c)
    have e33 : ∀ j, j < 6 → I2 33 j = I 33 j := fun j hj => (m6 j hj).trans (cI 33 j (by decide) (by omega) (by decide))
    have eL : ∀ k j, k ≠ 12 → k ≠ 13 → k ≠ 33 → L2 k j = L k j := fun k j a b c => (mL k j c).trans (cL k j a b)
    have eL33 : ∀ j, j < 4 → L2 33 j = L 33 j := fun j hj => (mL4 j hj).trans (cL 33 j (by decide) (by decide))
    refine ⟨⟨hh, ww, ?_, ?_⟩, ?_, ?_, ?_, hT, hS, h46⟩
    · unfold InvC at iC ⊢
      rw [eI 1 1 (by decide) (by decide) (by decide) (by decide) (by decide), eI 1 2 (by decide) (by decide) (by decide) (by decide) (by decide), eI 1 0 (by decide) (by decide) (by decide) (by decide) (by decide), e33 0 (by decide), e33 1 (by decide), eL33 2 (by decide), eL 1 3 (by decide) (by decide) (by decide)]
      exact iC
    · unfold InvP at iP ⊢
      rw [eI 2 1 (by decide) (by decide) (by decide) (by decide) (by decide), eI 2 2 (by decide) (by decide) (by decide) (by decide) (by decide), eI 2 0 (by decide) (by decide) (by decide) (by decide) (by decide), e33 4 (by decide), eL33 3 (by decide), eL 2 3 (by decide) (by decide) (by decide)]
      exact iP
    · unfold InvK at iK0 ⊢
      rw [eI (3 + 0) 0 (by decide) (by decide) (by decide) (by decide) (by decide), eI (3 + 0) 1 (by decide) (by decide) (by decide) (by decide) (by decide), eI (3 + 0) 2 (by decide) (by decide) (by decide) (by decide) (by decide), eI 36 0 (by decide) (by decide) (by decide) (by decide) (by decide), eI 37 0 (by decide) (by decide) (by decide) (by decide) (by decide), eL 35 0 (by decide) (by decide) (by decide), eL (3 + 0) 3 (by decide) (by decide) (by decide)]
      exact iK0
    · unfold InvK at iK1 ⊢
      rw [eI (3 + 1) 0 (by decide) (by decide) (by decide) (by decide) (by decide), eI (3 + 1) 1 (by decide) (by decide) (by decide) (by decide) (by decide), eI (3 + 1) 2 (by decide) (by decide) (by decide) (by decide) (by decide), eI 36 1 (by decide) (by decide) (by decide) (by decide) (by decide), eI 37 1 (by decide) (by decide) (by decide) (by decide) (by decide), eL 35 1 (by decide) (by decide) (by decide), eL (3 + 1) 3 (by decide) (by decide) (by decide)]
      exact iK1
    · obtain ⟨N, h1, h2, h3, h4⟩ := iD
      refine ⟨N, h1, (eI 6 0 (by decide) (by decide) (by decide) (by decide) (by decide)).trans h2, (e33 5 (by decide)).trans h3, fun d hd => ?_⟩
      obtain ⟨m, g1, g2, g3, g4⟩ := h4 d hd
      refine ⟨m, g1, (eI 7 d (by decide) (by omega) (by decide) (by decide) (by decide)).trans g2, (eI 34 _ (by decide) (by omega) (by decide) (by decide) (by decide)).trans g3, fun i hi => ?_⟩
      obtain ⟨c, f1, f2, f3⟩ := g4 i hi
      exact ⟨c, f1, (eI 8 _ (by decide) (by omega) (by decide) (by decide) (by decide)).trans f2, (eI 34 _ (by decide) (by omega) (by decide) (by decide) (by decide)).trans f3⟩
  | inr r =>
    rw [hx] at cE mE
    obtain ⟨cv, ⟨⟨k1, k2, k3, k4⟩, ⟨k5, k6, k7, k8⟩, k9, k10, k11, k12⟩, oc, oq, od, ow⟩ := cE
    obtain ⟨mv, ⟨q1, q2, q3⟩, ⟨q4, q5⟩, q6, q7, q8, q9⟩ := mE
    refine ⟨cv.trans mv.symm, ?_⟩
    have hI : ∀ k j x, k ≠ 33 → k ≠ 34 → k ≠ 36 → k ≠ 38 → I1 k j = x → I2 k j = x := fun k j x a b c d e => (mF k j a b c d).trans e
    have hL : ∀ k j x, k ≠ 33 → L1 k j = x → L2 k j = x := fun k j x a e => (mL k j a).trans e
    have hsame : sameB (p1 (p2 r)) (p1 (p2 (p2 r))) = true := by
      unfold wholeB at ow
      rw [ab_and, Bool.and_eq_true] at ow
      exact ow.1
    have hw2 : p1 (p1 (p2 (p2 r))) = 1 → p1 (p2 (p1 (p2 (p2 r)))) = p1 (p2 (p1 (p2 r))) ∧ p1 (p2 (p2 (p1 (p2 (p2 r))))) = p1 (p2 (p2 (p1 (p2 r)))) := fun h => by
      unfold sameB at hsame
      rw [h, show ((1 : Nat) == 0) = false from rfl, Bool.false_or, Bool.and_eq_true, beq_iff_eq, beq_iff_eq] at hsame
      exact hsame
    have hb : bz (Int32.ofNat (p1 (p1 (p2 (p2 r))))) = Int32.ofNat (p1 (p1 (p2 (p2 r)))) := by
      have := oq.1
      rcases (show p1 (p1 (p2 (p2 r))) = 0 ∨ p1 (p1 (p2 (p2 r))) = 1 by omega) with e | e <;> rw [e] <;> decide
    have hb1 : Int32.ofNat (p1 (p1 (p2 (p2 r)))) = 1 → p1 (p1 (p2 (p2 r))) = 1 := fun h => by
      have := oq.1
      exact on_inj (b := 1) (by omega) (by decide) h
    have e20 : I2 2 0 = Int32.ofNat (p1 (p1 (p2 (p2 r)))) := hI 2 0 _ (by decide) (by decide) (by decide) (by decide) k5
    have e23 : L2 2 3 = p2 (p2 (p2 (p1 (p2 (p2 r))))) := hL 2 3 _ (by decide) k8
    have e13 : L2 1 3 = p2 (p2 (p2 (p1 (p2 r)))) := hL 1 3 _ (by decide) k4
    refine ⟨⟨p1 (p2 (p1 (p2 r))), p1 (p2 (p2 (p1 (p2 r)))), ⟨oc.2.1, hI 1 1 _ (by decide) (by decide) (by decide) (by decide) k2, hI 1 2 _ (by decide) (by decide) (by decide) (by decide) k3, q1, q2, q3.trans e13.symm, ?_, ?_⟩, ⟨⟨_, _, oq.2.1, hI 2 1 _ (by decide) (by decide) (by decide) (by decide) k6, hI 2 2 _ (by decide) (by decide) (by decide) (by decide) k7, fun h => ?_⟩, ?_, fun h => ⟨q5.trans e23.symm, ?_⟩⟩⟩, ⟨fun _ => ?_, fun h => ?_⟩, ⟨fun _ => ?_, fun h => ?_⟩, ⟨_, od.1, hI 6 0 _ (by decide) (by decide) (by decide) (by decide) k11, q8, fun d hd => ?_⟩, hT, hS, h46⟩
    · rw [e13]
      exact oc.2.2.1
    · rw [hI 1 0 _ (by decide) (by decide) (by decide) (by decide) k1]
      decide
    · rw [e20, hb] at h
      exact hw2 (hb1 h)
    · rw [q4, e20]
    · rw [e20, hb] at h
      obtain ⟨w1, w2⟩ := hw2 (hb1 h)
      rw [e23, ← w1, ← w2]
      exact oq.2.2.1
    · rw [q6]
      decide
    · rw [show I2 (3 + 0) 0 = 0 from hI 3 0 _ (by decide) (by decide) (by decide) (by decide) k9] at h
      exact absurd h (by decide)
    · rw [q7]
      decide
    · rw [show I2 (3 + 1) 0 = 0 from hI 4 0 _ (by decide) (by decide) (by decide) (by decide) k10] at h
      exact absurd h (by decide)
    · obtain ⟨o1, o2, o3⟩ := od.2 d hd
      obtain ⟨c1, c2⟩ := k12 d hd
      obtain ⟨d1, d2⟩ := q9 d hd
      exact ⟨_, o2, hI 7 d _ (by decide) (by decide) (by decide) (by decide) c1, d1, fun i hi => ⟨_, o3 i hi, hI 8 _ _ (by decide) (by decide) (by decide) (by decide) (c2 i hi), d2 i hi⟩⟩
