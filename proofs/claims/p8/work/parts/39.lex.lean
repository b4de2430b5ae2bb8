/-! tokens: the class's step, the reference's next -/
def scan (P : Nat → Bool) (n : Nat) : Nat → Nat → Nat
  | 0, p => p
  | m + 1, p => if p < n ∧ P p = true then scan P n m (p + 1) else p
theorem scan_le {P : Nat → Bool} {n : Nat} : ∀ m p, p ≤ scan P n m p ∧ (p ≤ n → scan P n m p ≤ n) := by
  intro m
  induction m with
  | zero => intro p; exact ⟨Nat.le_refl _, id⟩
  | succ m ih =>
    intro p
    unfold scan
    by_cases c : p < n ∧ P p = true
    · rw [if_pos c]
      have := ih (p + 1)
      exact ⟨by omega, fun _ => this.2 (by omega)⟩
    · rw [if_neg c]
      exact ⟨Nat.le_refl _, id⟩
theorem scan_in {P : Nat → Bool} {n : Nat} : ∀ m p j, p ≤ j → j < scan P n m p → P j = true := by
  intro m
  induction m with
  | zero => intro p j h1 h2; exact absurd h2 (by unfold scan; omega)
  | succ m ih =>
    intro p j h1 h2
    unfold scan at h2
    by_cases c : p < n ∧ P p = true
    · rw [if_pos c] at h2
      by_cases d : j = p
      · rw [d]; exact c.2
      · exact ih (p + 1) j (by omega) h2
    · rw [if_neg c] at h2
      omega
theorem scan_end {P : Nat → Bool} {n : Nat} : ∀ m p, n ≤ p + m → ¬ (scan P n m p < n ∧ P (scan P n m p) = true) := by
  intro m
  induction m with
  | zero => intro p h; unfold scan; omega
  | succ m ih =>
    intro p h
    unfold scan
    by_cases c : p < n ∧ P p = true
    · rw [if_pos c]
      exact ih (p + 1) (by omega)
    · rw [if_neg c]
      exact c
/-- a loop that goes on while the byte at its place is of a kind -/
theorem lpp_scan {S : Type} {f : S → Option (S ⊕ S)} {P : Nat → Bool} {n : Nat} (st : Nat → S) : ∀ (m p : Nat), n = p + m → (∀ q, p ≤ q → q ≤ n → f (st q) = some (if q < n ∧ P q = true then .inr (st (q + 1)) else .inl (st q))) → ∀ fuel, m < fuel → lpp f fuel (st p) = some (st (scan P n m p)) := by
  intro m
  induction m with
  | zero =>
    intro p hn h fuel hf
    obtain ⟨f', rfl⟩ : ∃ g, fuel = g + 1 := ⟨fuel - 1, by omega⟩
    refine lpp_l ?_
    rw [h p (Nat.le_refl _) (by omega), if_neg (by omega)]
    rfl
  | succ m ih =>
    intro p hn h fuel hf
    obtain ⟨f', rfl⟩ : ∃ g, fuel = g + 1 := ⟨fuel - 1, by omega⟩
    unfold scan
    have e := h p (Nat.le_refl _) (by omega)
    by_cases c : p < n ∧ P p = true
    · rw [if_pos c] at e
      rw [if_pos c, lpp_r e]
      exact ih (p + 1) (by omega) (fun q h1 h2 => h q (by omega) h2) f' (by omega)
    · rw [if_neg c] at e
      rw [if_neg c]
      exact lpp_l e
/-- the tape: n bytes -/
def Tap (B : Nat → Nat) (n : Nat) (I : WI) : Prop := n ≤ 320 ∧ I 9 0 = Int32.ofNat n ∧ I 33 21 = Int32.ofNat n ∧ ∀ j, j < n → B j < 256 ∧ I 39 j = Int32.ofNat (B j) ∧ I 10 j = sby (B j)
theorem InvT.tap {I : WI} (H : InvT I) : ∃ B n, Tap B n I := by
  obtain ⟨n, h1, h2, h3, h4⟩ := H
  refine ⟨fun j => (I 39 j).toNatClampNeg, n, h1, h2, h3, fun j hj => ?_⟩
  obtain ⟨b, g1, g2, g3⟩ := h4 j hj
  have : (I 39 j).toNatClampNeg = b := by rw [g2, on_clamp (by omega)]
  simp only [this]
  exact ⟨g1, g2, g3⟩
theorem Tap.ag {B : Nat → Nat} {n : Nat} {I J : WI} (h : Tap B n I) (hJ : ∀ k j, k = 9 ∨ k = 10 ∨ k = 39 ∨ (k = 33 ∧ j = 21) → J k j = I k j) : Tap B n J := by
  obtain ⟨h1, h2, h3, h4⟩ := h
  refine ⟨h1, (hJ 9 0 (.inl rfl)).trans h2, (hJ 33 21 (.inr (.inr (.inr ⟨rfl, rfl⟩)))).trans h3, fun j hj => ?_⟩
  obtain ⟨g1, g2, g3⟩ := h4 j hj
  exact ⟨g1, (hJ 39 j (.inr (.inr (.inl rfl)))).trans g2, (hJ 10 j (.inr (.inl rfl))).trans g3⟩
/-- the same, as the reference sees it -/
def TapM (B : Nat → Nat) (n : Nat) (I : WI) : Prop := n ≤ 320 ∧ True ∧ I 33 21 = Int32.ofNat n ∧ ∀ j, j < n → B j < 256 ∧ I 39 j = Int32.ofNat (B j) ∧ True
theorem Tap.m {B : Nat → Nat} {n : Nat} {I : WI} (h : Tap B n I) : TapM B n I := ⟨h.1, trivial, h.2.2.1, fun j hj => ⟨(h.2.2.2 j hj).1, (h.2.2.2 j hj).2.1, trivial⟩⟩
theorem TapM.ag {B : Nat → Nat} {n : Nat} {I J : WI} (h : TapM B n I) (hJ : ∀ k j, k = 39 ∨ (k = 33 ∧ j = 21) → J k j = I k j) : TapM B n J := by
  obtain ⟨h1, h2, h3, h4⟩ := h
  refine ⟨h1, trivial, (hJ 33 21 (.inr ⟨rfl, rfl⟩)).trans h3, fun j hj => ?_⟩
  obtain ⟨g1, g2, g3⟩ := h4 j hj
  exact ⟨g1, (hJ 39 j (.inl rfl)).trans g2, trivial⟩
theorem byteAt_eq {B : Nat → Nat} {n q : Nat} {I : WI} (T : Tap B n I) (hq : q < n) : F_X5_byteAt I (Int32.ofNat q) = sby (B q) := by
  obtain ⟨h1, h2, h3, h4⟩ := T
  unfold F_X5_byteAt F_X5_byteAt_31
  rw [h2, if_neg (by first | omega | (simp (disch := omega) only [Int32.lt_iff_toInt_lt, Int32.le_iff_toInt_le, ← Int32.toInt_inj, on_toInt, on_clamp, ti64, z0, z1, z2, zm1, i0, i1, im1, zz3, zz4, zz5, zz6, zz7, zz8, zz9, zz10, zz11, zz12, zz13, zz14, zz15, zz16, zz17, zz18, zz19, zz20, zz21, zz22, zz23, zz24, zz25, zz26, zz27, zz28, zz29, zz30, zz31, zz32, zz33, zz34, zz35, zz36, zz37, zz38, zz39, zz40, zz41, zz48, zz60, zz64, zz160, zz312, zz320, zzm2, zzm3, zzm4, zzm5, zzm6, zzm7, zzm8, zzm9, zzm10]; done) | (simp (disch := omega) only [Int32.lt_iff_toInt_lt, Int32.le_iff_toInt_le, ← Int32.toInt_inj, on_toInt, on_clamp, ti64, z0, z1, z2, zm1, i0, i1, im1, zz3, zz4, zz5, zz6, zz7, zz8, zz9, zz10, zz11, zz12, zz13, zz14, zz15, zz16, zz17, zz18, zz19, zz20, zz21, zz22, zz23, zz24, zz25, zz26, zz27, zz28, zz29, zz30, zz31, zz32, zz33, zz34, zz35, zz36, zz37, zz38, zz39, zz40, zz41, zz48, zz60, zz64, zz160, zz312, zz320, zzm2, zzm3, zzm4, zzm5, zzm6, zzm7, zzm8, zzm9, zzm10]; omega)), if_neg (by first | omega | (simp (disch := omega) only [Int32.lt_iff_toInt_lt, Int32.le_iff_toInt_le, ← Int32.toInt_inj, on_toInt, on_clamp, ti64, z0, z1, z2, zm1, i0, i1, im1, zz3, zz4, zz5, zz6, zz7, zz8, zz9, zz10, zz11, zz12, zz13, zz14, zz15, zz16, zz17, zz18, zz19, zz20, zz21, zz22, zz23, zz24, zz25, zz26, zz27, zz28, zz29, zz30, zz31, zz32, zz33, zz34, zz35, zz36, zz37, zz38, zz39, zz40, zz41, zz48, zz60, zz64, zz160, zz312, zz320, zzm2, zzm3, zzm4, zzm5, zzm6, zzm7, zzm8, zzm9, zzm10]; done) | (simp (disch := omega) only [Int32.lt_iff_toInt_lt, Int32.le_iff_toInt_le, ← Int32.toInt_inj, on_toInt, on_clamp, ti64, z0, z1, z2, zm1, i0, i1, im1, zz3, zz4, zz5, zz6, zz7, zz8, zz9, zz10, zz11, zz12, zz13, zz14, zz15, zz16, zz17, zz18, zz19, zz20, zz21, zz22, zz23, zz24, zz25, zz26, zz27, zz28, zz29, zz30, zz31, zz32, zz33, zz34, zz35, zz36, zz37, zz38, zz39, zz40, zz41, zz48, zz60, zz64, zz160, zz312, zz320, zzm2, zzm3, zzm4, zzm5, zzm6, zzm7, zzm8, zzm9, zzm10]; omega)), if_neg (by first | omega | (simp (disch := omega) only [Int32.lt_iff_toInt_lt, Int32.le_iff_toInt_le, ← Int32.toInt_inj, on_toInt, on_clamp, ti64, z0, z1, z2, zm1, i0, i1, im1, zz3, zz4, zz5, zz6, zz7, zz8, zz9, zz10, zz11, zz12, zz13, zz14, zz15, zz16, zz17, zz18, zz19, zz20, zz21, zz22, zz23, zz24, zz25, zz26, zz27, zz28, zz29, zz30, zz31, zz32, zz33, zz34, zz35, zz36, zz37, zz38, zz39, zz40, zz41, zz48, zz60, zz64, zz160, zz312, zz320, zzm2, zzm3, zzm4, zzm5, zzm6, zzm7, zzm8, zzm9, zzm10]; done) | (simp (disch := omega) only [Int32.lt_iff_toInt_lt, Int32.le_iff_toInt_le, ← Int32.toInt_inj, on_toInt, on_clamp, ti64, z0, z1, z2, zm1, i0, i1, im1, zz3, zz4, zz5, zz6, zz7, zz8, zz9, zz10, zz11, zz12, zz13, zz14, zz15, zz16, zz17, zz18, zz19, zz20, zz21, zz22, zz23, zz24, zz25, zz26, zz27, zz28, zz29, zz30, zz31, zz32, zz33, zz34, zz35, zz36, zz37, zz38, zz39, zz40, zz41, zz48, zz60, zz64, zz160, zz312, zz320, zzm2, zzm3, zzm4, zzm5, zzm6, zzm7, zzm8, zzm9, zzm10]; omega)), on_clamp (by omega), (h4 q hq).2.2]
theorem look_eq {B : Nat → Nat} {n q : Nat} {I : WI} (T : TapM B n I) (hq : q < 100000) : F_X9_look I (Int32.ofNat q) = some (if q < n then Int32.ofNat (B q) else -1) := by
  obtain ⟨h1, h2, h3, h4⟩ := T
  unfold F_X9_look F_X9_look_18
  rw [h3]
  by_cases c : q < n
  · rw [if_neg (by first | omega | (simp (disch := omega) only [Int32.lt_iff_toInt_lt, Int32.le_iff_toInt_le, ← Int32.toInt_inj, on_toInt, on_clamp, ti64, z0, z1, z2, zm1, i0, i1, im1, zz3, zz4, zz5, zz6, zz7, zz8, zz9, zz10, zz11, zz12, zz13, zz14, zz15, zz16, zz17, zz18, zz19, zz20, zz21, zz22, zz23, zz24, zz25, zz26, zz27, zz28, zz29, zz30, zz31, zz32, zz33, zz34, zz35, zz36, zz37, zz38, zz39, zz40, zz41, zz48, zz60, zz64, zz160, zz312, zz320, zzm2, zzm3, zzm4, zzm5, zzm6, zzm7, zzm8, zzm9, zzm10]; done) | (simp (disch := omega) only [Int32.lt_iff_toInt_lt, Int32.le_iff_toInt_le, ← Int32.toInt_inj, on_toInt, on_clamp, ti64, z0, z1, z2, zm1, i0, i1, im1, zz3, zz4, zz5, zz6, zz7, zz8, zz9, zz10, zz11, zz12, zz13, zz14, zz15, zz16, zz17, zz18, zz19, zz20, zz21, zz22, zz23, zz24, zz25, zz26, zz27, zz28, zz29, zz30, zz31, zz32, zz33, zz34, zz35, zz36, zz37, zz38, zz39, zz40, zz41, zz48, zz60, zz64, zz160, zz312, zz320, zzm2, zzm3, zzm4, zzm5, zzm6, zzm7, zzm8, zzm9, zzm10]; omega)), if_neg (nin (k := q) (N := 320) (by omega) (by decide)), on_clamp (by omega), (h4 q c).2.1, if_pos c]
  · rw [if_pos (by first | omega | (simp (disch := omega) only [Int32.lt_iff_toInt_lt, Int32.le_iff_toInt_le, ← Int32.toInt_inj, on_toInt, on_clamp, ti64, z0, z1, z2, zm1, i0, i1, im1, zz3, zz4, zz5, zz6, zz7, zz8, zz9, zz10, zz11, zz12, zz13, zz14, zz15, zz16, zz17, zz18, zz19, zz20, zz21, zz22, zz23, zz24, zz25, zz26, zz27, zz28, zz29, zz30, zz31, zz32, zz33, zz34, zz35, zz36, zz37, zz38, zz39, zz40, zz41, zz48, zz60, zz64, zz160, zz312, zz320, zzm2, zzm3, zzm4, zzm5, zzm6, zzm7, zzm8, zzm9, zzm10]; done) | (simp (disch := omega) only [Int32.lt_iff_toInt_lt, Int32.le_iff_toInt_le, ← Int32.toInt_inj, on_toInt, on_clamp, ti64, z0, z1, z2, zm1, i0, i1, im1, zz3, zz4, zz5, zz6, zz7, zz8, zz9, zz10, zz11, zz12, zz13, zz14, zz15, zz16, zz17, zz18, zz19, zz20, zz21, zz22, zz23, zz24, zz25, zz26, zz27, zz28, zz29, zz30, zz31, zz32, zz33, zz34, zz35, zz36, zz37, zz38, zz39, zz40, zz41, zz48, zz60, zz64, zz160, zz312, zz320, zzm2, zzm3, zzm4, zzm5, zzm6, zzm7, zzm8, zzm9, zzm10]; omega)), if_neg c]
def isSp (b : Nat) : Bool := b == 32
def isLt (b : Nat) : Bool := 97 ≤ b && b ≤ 122
def isFg (b : Nat) : Bool := 48 ≤ b && b ≤ 57
theorem sb_t : ∀ b, b < 256 → (sby b = 32 ↔ isSp b = true) ∧ (sby b = 59 ↔ b = 59) ∧ F_X6_isLetter (sby b) = (if isLt b = true then 1 else 0) ∧ F_X6_isFigure (sby b) = (if isFg b = true then 1 else 0) ∧ (isFg b = true → sby b = Int32.ofNat b) ∧ (sby b = 100 ↔ b = 100) ∧ (sby b = 108 ↔ b = 108) := by decide +kernel
theorem ub_t : ∀ b, b < 256 → (Int32.ofNat b = 32 ↔ isSp b = true) ∧ (Int32.ofNat b = 59 ↔ b = 59) ∧ F_X9_in (Int32.toInt64 (Int32.ofNat b)) 97 122 = (if isLt b = true then 1 else 0) ∧ F_X9_in (Int32.toInt64 (Int32.ofNat b)) 48 57 = (if isFg b = true then 1 else 0) ∧ (Int32.ofNat b = 100 ↔ b = 100) ∧ (Int32.ofNat b = 108 ↔ b = 108) := by decide +kernel
theorem um_t : ¬ (-1 : Int32) = 32 ∧ F_X9_in (Int32.toInt64 (-1)) 97 122 = 0 ∧ F_X9_in (Int32.toInt64 (-1)) 48 57 = 0 ∧ ¬ (0 : Int32) ≤ -1 := by decide +kernel
/-- where the next token begins, of which kind it is, where it ends, a number's worth -/
def tf (B : Nat → Nat) (n p : Nat) : Nat := scan (fun j => isSp (B j)) n (n - p) p
def tle (B : Nat → Nat) (n q : Nat) : Nat := scan (fun j => isLt (B j)) n (n - q) q
def tfe (B : Nat → Nat) (n q : Nat) : Nat := scan (fun j => isFg (B j)) n (n - q) q
def tk (B : Nat → Nat) (n q : Nat) : Nat := if n ≤ q then 0 else if B q = 59 then 3 else if isLt (B q) = true then 1 else if isFg (B q) = true ∧ tfe B n q - q ≤ 2 then 2 else 4
def te (B : Nat → Nat) (n q : Nat) : Nat := if n ≤ q then q else if B q = 59 then q + 1 else if isLt (B q) = true then tle B n q else tfe B n q
def tv (B : Nat → Nat) (n q : Nat) : Nat := if tfe B n q - q ≤ 1 then B q - 48 else 10 * (B q - 48) + (B (q + 1) - 48)
