/-! the squares of lines and of turnings: class and reference -/
theorem sq_act0 : ∀ h, h < 8 → ∀ w, w < 8 → ∀ k, k < 2 → ∀ i, i < 8 → F_X0_squaresOf (cq (Int32.ofNat (h + 1)) (Int32.ofNat (w + 1))) 1 (Int32.ofNat k) (Int32.ofNat i) = F_X9_actSet (cw (Int32.ofNat (h + 1)) (Int32.ofNat (w + 1))) (Int32.ofNat k) (Int32.ofNat i) := by decide +kernel
theorem sq_act2 : ∀ h, h < 8 → ∀ w, w < 8 → ∀ i, i < 15 → F_X0_squaresOf (cq (Int32.ofNat (h + 1)) (Int32.ofNat (w + 1))) 1 2 (Int32.ofNat i) = F_X9_actSet (cw (Int32.ofNat (h + 1)) (Int32.ofNat (w + 1))) 2 (Int32.ofNat i) := by decide +kernel
theorem in_eq {a : Int32} {l h : Int64} : F_X9_in (Int32.toInt64 a) l h = if l.toInt ≤ a.toInt ∧ a.toInt ≤ h.toInt then 1 else 0 := by
  unfold F_X9_in F_X9_in_17 F_X9_in_18
  by_cases c1 : lg_cmp (Int32.toInt64 a) l < 0
  · rw [if_pos c1]
    rw [lg_cmp_lt, Int64.lt_iff_toInt_lt, Int32.toInt_toInt64] at c1
    rw [if_neg (by omega)]
  · rw [if_neg c1]
    rw [lg_cmp_lt, Int64.lt_iff_toInt_lt, Int32.toInt_toInt64] at c1
    by_cases c2 : 0 < lg_cmp (Int32.toInt64 a) h
    · rw [if_pos c2]
      rw [lg_cmp_gt, Int64.lt_iff_toInt_lt, Int32.toInt_toInt64] at c2
      rw [if_neg (by omega)]
    · rw [if_neg c2]
      rw [lg_cmp_gt, Int64.lt_iff_toInt_lt, Int32.toInt_toInt64] at c2
      rw [if_pos (by omega)]
theorem z0 : (0 : Int32).toInt = 0 := by decide
theorem z1 : (1 : Int32).toInt = 1 := by decide
theorem z2 : (2 : Int32).toInt = 2 := by decide
theorem zm1 : (-1 : Int32).toInt = -1 := by decide
theorem ti_add {a b : Int32} (h : -2147483648 ≤ a.toInt + b.toInt) (h' : a.toInt + b.toInt < 2147483648) : (a + b).toInt = a.toInt + b.toInt := by
  rw [Int32.toInt_add]
  exact Int.bmod_eq_of_le (by omega) (by omega)
theorem ti_sub {a b : Int32} (h : -2147483648 ≤ a.toInt - b.toInt) (h' : a.toInt - b.toInt < 2147483648) : (a - b).toInt = a.toInt - b.toInt := by
  rw [Int32.toInt_sub]
  exact Int.bmod_eq_of_le (by omega) (by omega)
theorem ti_mul {a b : Int32} (h : -2147483648 ≤ a.toInt * b.toInt) (h' : a.toInt * b.toInt < 2147483648) : (a * b).toInt = a.toInt * b.toInt := by
  rw [Int32.toInt_mul]
  exact Int.bmod_eq_of_le (by omega) (by omega)
/-- a number that is not below 0 is one of the naturals -/
theorem nn {a : Int32} (h : 0 ≤ a.toInt) : ∃ n : Nat, a = Int32.ofNat n ∧ a.toInt = (n : Int) ∧ n < 2147483648 := by
  have h2 := a.toInt_lt
  exact ⟨a.toInt.toNat, on_of (by omega), by omega, by omega⟩
def lz (a : Int32) (h w : Nat) : Int := if a = 0 then h else if a = 1 then w else if a = 2 then h + w - 1 else 0
theorem linesOf_eq {h w : Nat} (hC : Cl h w) {a : Int32} : (F_X0_linesOf (cq (Int32.ofNat h) (Int32.ofNat w)) 1 a).toInt = lz a h w := by
  obtain ⟨⟨h1, h2⟩, h3, h4⟩ := hC
  unfold F_X0_linesOf lz
  show (if a = 0 then Int32.ofNat h else if a = 1 then Int32.ofNat w else if a = 2 then Int32.ofNat h + Int32.ofNat w - 1 else 0).toInt = _
  by_cases c0 : a = 0
  · rw [if_pos c0, if_pos c0, on_toInt (by omega)]
  rw [if_neg c0, if_neg c0]
  by_cases c1 : a = 1
  · rw [if_pos c1, if_pos c1, on_toInt (by omega)]
  rw [if_neg c1, if_neg c1]
  by_cases c2 : a = 2
  · rw [if_pos c2, if_pos c2]
    have e : (Int32.ofNat h + Int32.ofNat w).toInt = h + w := by
      rw [ti_add] <;> rw [on_toInt (by omega), on_toInt (by omega)] <;> omega
    rw [ti_sub] <;> rw [e, z1] <;> omega
  rw [if_neg c2, if_neg c2]
  rfl
theorem hasLine_eq {h w : Nat} (hC : Cl h w) {a b : Int32} : F_X0_hasLine (cq (Int32.ofNat h) (Int32.ofNat w)) 1 a b = if 0 ≤ b.toInt ∧ b.toInt < lz a h w then 1 else 0 := by
  unfold F_X0_hasLine F_X0_hasLine_17 F_X0_hasLine_18
  by_cases c1 : b < 0
  · rw [if_pos c1]
    rw [Int32.lt_iff_toInt_lt, z0] at c1
    rw [if_neg (by omega)]
  rw [if_neg c1]
  rw [Int32.lt_iff_toInt_lt, z0] at c1
  by_cases c2 : F_X0_linesOf (cq (Int32.ofNat h) (Int32.ofNat w)) 1 a ≤ b
  · rw [if_pos c2]
    rw [Int32.le_iff_toInt_le, linesOf_eq hC] at c2
    rw [if_neg (by omega)]
  · rw [if_neg c2]
    rw [Int32.le_iff_toInt_le, linesOf_eq hC] at c2
    rw [if_pos (by omega)]
theorem sq_act {h w : Nat} (hC : Cl h w) {a b : Int32} (ha : a = 0 ∨ a = 1 ∨ a = 2) : F_X0_squaresOf (cq (Int32.ofNat h) (Int32.ofNat w)) 1 a b = F_X9_actSet (cw (Int32.ofNat h) (Int32.ofNat w)) a b := by
  have hC' := hC
  obtain ⟨⟨h1, h2⟩, h3, h4⟩ := hC
  by_cases c : 0 ≤ b.toInt ∧ b.toInt < lz a h w
  · obtain ⟨n, hn, hz, _⟩ := nn c.1
    have eh : h = (h - 1) + 1 := by omega
    have ew : w = (w - 1) + 1 := by omega
    rw [hn, eh, ew]
    rcases ha with rfl | rfl | rfl
    · have : lz 0 h w = h := if_pos rfl
      exact sq_act0 (h - 1) (by omega) (w - 1) (by omega) 0 (by decide) n (by omega)
    · have : lz 1 h w = w := by unfold lz; rw [if_neg (by decide), if_pos rfl]
      exact sq_act0 (h - 1) (by omega) (w - 1) (by omega) 1 (by decide) n (by omega)
    · have : lz 2 h w = h + w - 1 := by unfold lz; rw [if_neg (by decide), if_neg (by decide), if_pos rfl]
      exact sq_act2 (h - 1) (by omega) (w - 1) (by omega) n (by omega)
  · have e : F_X0_squaresOf (cq (Int32.ofNat h) (Int32.ofNat w)) 1 a b = 0 := by
      unfold F_X0_squaresOf
      rw [hasLine_eq hC', if_neg c, if_pos rfl]
    rw [e]
    refine M_ext fun k _ => ⟨fun h => absurd h M_0, fun h => ?_⟩
    rw [actSet_M hC'] at h
    obtain ⟨k1, k2, k3⟩ := h
    refine absurd ?_ c
    unfold acond at k3
    rcases ha with rfl | rfl | rfl
    · rw [if_pos rfl] at k3
      rw [← k3, on_toInt (by omega), show lz 0 h w = h from if_pos rfl]
      omega
    · rw [if_neg (by decide), if_pos rfl] at k3
      rw [← k3, on_toInt (by omega), show lz 1 h w = w by unfold lz; rw [if_neg (by decide), if_pos rfl]]
      omega
    · rw [if_neg (by decide), if_neg (by decide), ← Int32.ofNat_add] at k3
      rw [← k3, on_toInt (by omega), show lz 2 h w = h + w - 1 by unfold lz; rw [if_neg (by decide), if_neg (by decide), if_pos rfl]]
      omega
theorem act_ins {h w : Nat} (hC : Cl h w) {a b : Int32} : Ins h w (F_X9_actSet (cw (Int32.ofNat h) (Int32.ofNat w)) a b) := fun k hk => by
  have := (actSet_M hC).mp hk
  exact ⟨this.1, this.2.1⟩
/-! columns: a row repeated -/
def rep : Nat → Nat → Nat
  | 0, _ => 0
  | h + 1, c => 256 * rep h c + c
theorem rep_M {c : Nat} (hc : c < 256) : ∀ h k, (rep h c).testBit k = true ↔ k / 8 < h ∧ c.testBit (k % 8) = true := by
  intro h
  induction h with
  | zero =>
    intro k
    show Nat.testBit 0 k = true ↔ _
    rw [Nat.zero_testBit]
    constructor
    · intro h; exact absurd h (by decide)
    · intro h; omega
  | succ h ih =>
    intro k
    show (2 ^ 8 * rep h c + c).testBit k = true ↔ _
    rw [Nat.testBit_two_pow_mul_add _ hc]
    by_cases d : k < 8
    · rw [if_pos d, show k % 8 = k by omega]
      constructor
      · intro q; exact ⟨by omega, q⟩
      · intro q; exact q.2
    · rw [if_neg d, ih (k - 8), show (k - 8) % 8 = k % 8 by omega]
      constructor
      · intro q; exact ⟨by omega, q.2⟩
      · intro q; exact ⟨by omega, q.2⟩
theorem col_n : ∀ h, h < 8 → ∀ c, c < 256 → ((Int32.toInt64 (Int32.ofNat c)) * (F_X0_columnSquares (cq (Int32.ofNat (h + 1)) 0) 1 0)).toBitVec.toNat = rep (h + 1) c := by decide +kernel
theorem col_M {h w c k : Nat} (hC : Cl h w) (hc : c < 256) : M ((Int32.toInt64 (Int32.ofNat c)) * (F_X0_columnSquares (cq (Int32.ofNat h) (Int32.ofNat w)) 1 0)) k ↔ k / 8 < h ∧ c.testBit (k % 8) = true := by
  obtain ⟨⟨h1, h2⟩, h3, h4⟩ := hC
  have e := col_n (h - 1) (by omega) c hc
  rw [show h - 1 + 1 = h by omega] at e
  show (((Int32.toInt64 (Int32.ofNat c)) * (F_X0_columnSquares (cq (Int32.ofNat h) 0) 1 0)).toBitVec).getLsbD k = true ↔ _
  rw [← BitVec.testBit_toNat, e]
  exact rep_M hc h k
theorem every_n : ∀ w, w < 8 → F_X0_everyColumn (cq 0 (Int32.ofNat (w + 1))) 1 = Int32.ofNat (2 ^ (w + 1) - 1) := by decide +kernel
theorem all_M {h w k : Nat} (hC : Cl h w) : M (F_X0_allSquares (cq (Int32.ofNat h) (Int32.ofNat w)) 1) k ↔ k / 8 < h ∧ k % 8 < w := by
  have hC' := hC
  obtain ⟨⟨h1, h2⟩, h3, h4⟩ := hC
  have e : F_X0_everyColumn (cq (Int32.ofNat h) (Int32.ofNat w)) 1 = Int32.ofNat (2 ^ w - 1) := by
    have := every_n (w - 1) (by omega)
    rw [show w - 1 + 1 = w by omega] at this
    exact this
  have hp : 2 ^ w ≤ 2 ^ 8 := Nat.pow_le_pow_right (by decide) h4
  unfold F_X0_allSquares
  rw [e, col_M hC' (by omega), Nat.testBit_two_pow_sub_one]
  simp
/-! rows and columns turned -/
theorem row_t : ∀ r, r < 256 → ∀ i, i < 8 → ((Int32.ofNat r) >>> (Int32.ofNat i &&& 31)) &&& 1 = if r.testBit i then 1 else 0 := by decide +kernel
theorem xor_and1 (a b : Int32) : (a ^^^ b) &&& 1 = (a &&& 1) ^^^ (b &&& 1) := by
  apply Int32.toBitVec.inj
  show (a.toBitVec ^^^ b.toBitVec) &&& 1#32 = (a.toBitVec &&& 1#32) ^^^ (b.toBitVec &&& 1#32)
  apply BitVec.eq_of_getLsbD_eq
  intro i _
  simp only [BitVec.getLsbD_and, BitVec.getLsbD_xor]
  cases a.toBitVec.getLsbD i <;> cases b.toBitVec.getLsbD i <;> cases (1#32).getLsbD i <;> rfl
theorem turn_M {h w r c : Nat} (hC : Cl h w) (hr : r < 256) (hc : c < 256) {k : Nat} : M (F_X9_turnSet (cw (Int32.ofNat h) (Int32.ofNat w)) (Int32.ofNat r) (Int32.ofNat c)) k ↔ k / 8 < h ∧ k % 8 < w ∧ ¬ (r.testBit (k / 8) = true ↔ c.testBit (k % 8) = true) := by
  obtain ⟨⟨h1, h2⟩, h3, h4⟩ := hC
  have e : F_X9_turnSet (cw (Int32.ofNat h) (Int32.ofNat w)) (Int32.ofNat r) (Int32.ofNat c) = it (fun i x => F_X9_turnSet_14_1 (cw (Int32.ofNat h) (Int32.ofNat w)) (Int32.ofNat r) (Int32.ofNat c) i x) h 0 := fr0_it (by omega)
  rw [e, it_or2 (g := fun a i x => F_X9_turnSet_26_2 (cw (Int32.ofNat h) (Int32.ofNat w)) (Int32.ofNat r) (Int32.ofNat c) (Int32.ofNat a) i x) (w := w) (by omega) (fun a b => ¬ (r.testBit a = true ↔ c.testBit b = true)) (fun a x ha => fr0_it (by omega)) (fun a b x ha hb k => ?_) h4]
  · constructor
    · rintro (h | h)
      · exact absurd h M_0
      · exact h
    · exact .inr
  · show M (F_X9_turnSet_26_2 _ _ _ (Int32.ofNat a) (Int32.ofNat b) x) k ↔ _
    have hbo := bitOf_M (r := a) (c := b) (k := k) (by omega)
    unfold F_X9_turnSet_26_2 F_X9_turnSet_53_2
    rw [xor_and1, row_t r hr a (by omega), row_t c hc b (by omega)]
    cases r.testBit a <;> cases c.testBit b
    · rw [if_neg (by decide), M_or]
      simp [M_0]
    · rw [if_pos (by decide), M_or, hbo]
      simp
    · rw [if_pos (by decide), M_or, hbo]
      simp
    · rw [if_neg (by decide), M_or]
      simp [M_0]
theorem row_M {h w i k : Nat} (hC : Cl h w) (hi : i < h) : M (F_X0_squaresOf (cq (Int32.ofNat h) (Int32.ofNat w)) 1 0 (Int32.ofNat i)) k ↔ k / 8 = i ∧ k % 8 < w := by
  rw [sq_act hC (.inl rfl), actSet_M hC]
  obtain ⟨⟨h1, h2⟩, h3, h4⟩ := hC
  unfold acond
  rw [if_pos rfl]
  constructor
  · rintro ⟨a, b, c⟩
    have := congrArg Int32.toInt c
    rw [on_toInt (by omega), on_toInt (by omega)] at this
    exact ⟨by omega, b⟩
  · rintro ⟨a, b⟩
    exact ⟨by omega, b, by rw [a]⟩
theorem turned_M {h w r c : Nat} (hC : Cl h w) (hr : r < 256) (hc : c < 2 ^ w) {k : Nat} : M (F_X0_squaresTurned (cq (Int32.ofNat h) (Int32.ofNat w)) 1 (Int32.ofNat r) (Int32.ofNat c)) k ↔ k / 8 < h ∧ k % 8 < w ∧ ¬ (r.testBit (k / 8) = true ↔ c.testBit (k % 8) = true) := by
  have hC' := hC
  obtain ⟨⟨h1, h2⟩, h3, h4⟩ := hC
  have hp : 2 ^ w ≤ 2 ^ 8 := Nat.pow_le_pow_right (by decide) h4
  have e : F_X0_squaresTurned (cq (Int32.ofNat h) (Int32.ofNat w)) 1 (Int32.ofNat r) (Int32.ofNat c) = it (fun i x => F_X0_squaresTurned_21_1 (cq (Int32.ofNat h) (Int32.ofNat w)) 1 (Int32.ofNat r) (Int32.ofNat c) i x) h ((Int32.toInt64 (Int32.ofNat c)) * (F_X0_columnSquares (cq (Int32.ofNat h) (Int32.ofNat w)) 1 0)) := fr0_it (by omega)
  have hcw : c.testBit (k % 8) = true → k % 8 < w := by
    intro hb
    refine Classical.byContradiction fun hn => ?_
    rw [Nat.testBit_lt_two_pow (Nat.lt_of_lt_of_le hc (Nat.pow_le_pow_right (by decide) (by omega)))] at hb
    exact absurd hb (by decide)
  have hI := it_ind (g := fun i x => F_X0_squaresTurned_21_1 (cq (Int32.ofNat h) (Int32.ofNat w)) 1 (Int32.ofNat r) (Int32.ofNat c) i x) (s := (Int32.toInt64 (Int32.ofNat c)) * (F_X0_columnSquares (cq (Int32.ofNat h) (Int32.ofNat w)) 1 0)) (b := h) (fun i s => (k / 8 < i → (M s k ↔ ¬ ((r.testBit (k / 8) = true ∧ k % 8 < w) ↔ (k / 8 < h ∧ c.testBit (k % 8) = true)))) ∧ (¬ k / 8 < i → (M s k ↔ (k / 8 < h ∧ c.testBit (k % 8) = true)))) ⟨fun h => absurd h (by omega), fun _ => col_M hC' (by omega)⟩ (fun i s hi hs => by
    show (k / 8 < i + 1 → (M (F_X0_squaresTurned_21_1 _ 1 _ _ (Int32.ofNat i) s) k ↔ _)) ∧ (¬ k / 8 < i + 1 → (M (F_X0_squaresTurned_21_1 _ 1 _ _ (Int32.ofNat i) s) k ↔ _))
    unfold F_X0_squaresTurned_21_1 F_X0_squaresTurned_40_1
    rw [row_t r hr i (by omega)]
    have hm := row_M (k := k) hC' hi
    cases hb : r.testBit i
    · rw [if_pos (by decide)]
      refine ⟨fun h5 => ?_, fun h5 => hs.2 (by omega)⟩
      by_cases h6 : k / 8 < i
      · exact hs.1 h6
      · have h7 : k / 8 = i := by omega
        rw [hs.2 h6, h7, hb]
        simp
    · rw [if_neg (by decide), M_xor, hm]
      refine ⟨fun h5 => ?_, fun h5 => ?_⟩
      · by_cases h6 : k / 8 < i
        · rw [hs.1 h6]
          have h7 : ¬ k / 8 = i := by omega
          simp [h7]
        · have h7 : k / 8 = i := by omega
          rw [hs.2 h6, h7, hb]
          simp
          constructor
          · intro h8 h9; exact (h8 (h9.symm)).elim
          · intro h8 h9; exact h8 h9.symm
      · rw [hs.2 (by omega)]
        have h7 : ¬ k / 8 = i := by omega
        simp [h7])
  rw [e]
  by_cases hk : k / 8 < h
  · rw [hI.1 hk]
    by_cases hw : k % 8 < w
    · simp [hk, hw]
    · have : ¬ c.testBit (k % 8) = true := fun h => hw (hcw h)
      simp [hw, this]
  · rw [hI.2 hk]
    simp [hk]
theorem turned_eq {h w r c : Nat} (hC : Cl h w) (hr : r < 256) (hc : c < 2 ^ w) : F_X0_squaresTurned (cq (Int32.ofNat h) (Int32.ofNat w)) 1 (Int32.ofNat r) (Int32.ofNat c) = F_X9_turnSet (cw (Int32.ofNat h) (Int32.ofNat w)) (Int32.ofNat r) (Int32.ofNat c) := by
  have hp : 2 ^ w ≤ 2 ^ 8 := Nat.pow_le_pow_right (by decide) hC.2.2
  refine M_ext fun k _ => ?_
  rw [turned_M hC hr hc, turn_M hC hr (by omega)]
