/-! counted loops as iteration; sets of squares by their bits -/
def it {S : Type} (g : Int32 → S → S) : Nat → S → S
  | 0, s => s
  | n + 1, s => g (Int32.ofNat n) (it g n s)
theorem fr0_it {S : Type} {g : Int32 → S → S} {b : Nat} {s : S} (hb : b < 2147483648) : p2 (fr0 g (Int32.ofNat b) (fu 0 (Int32.ofNat b)) 0 s) = it g b s :=
  fr0_nat (g := g) hb (fun i x => x = it g i s) (fun i x _ hx => by rw [hx]; rfl) rfl
theorem it_congr {S : Type} {g g' : Int32 → S → S} {s : S} : ∀ {b : Nat}, (∀ i x, i < b → g (Int32.ofNat i) x = g' (Int32.ofNat i) x) → it g b s = it g' b s := by
  intro b
  induction b with
  | zero => intro _; rfl
  | succ b ih =>
    intro h
    show g _ _ = g' _ _
    rw [ih (fun i x hi => h i x (by omega)), h b _ (by omega)]
theorem it_ind {S : Type} {g : Int32 → S → S} {s : S} (P : Nat → S → Prop) (h0 : P 0 s) : ∀ {b : Nat}, (∀ i x, i < b → P i x → P (i + 1) (g (Int32.ofNat i) x)) → P b (it g b s) := by
  intro b
  induction b with
  | zero => intro _; exact h0
  | succ b ih =>
    intro h
    exact h b _ (by omega) (ih (fun i x hi => h i x (by omega)))
def mb (x : Int64) (k : Nat) : Bool := x.toBitVec.getLsbD k
def M (x : Int64) (k : Nat) : Prop := mb x k = true
theorem M_ext {x y : Int64} (h : ∀ k, k < 64 → (M x k ↔ M y k)) : x = y := by
  apply Int64.toBitVec.inj
  apply BitVec.eq_of_getLsbD_eq
  intro i hi
  exact Bool.eq_iff_iff.mpr (h i hi)
theorem M_hi {x : Int64} {k : Nat} (h : M x k) : k < 64 := by
  refine Classical.byContradiction fun c => ?_
  unfold M mb at h
  rw [BitVec.getLsbD_of_ge _ _ (by omega)] at h
  exact absurd h (by decide)
theorem M_xor {x y : Int64} {k : Nat} : M (x ^^^ y) k ↔ ¬ (M x k ↔ M y k) := by
  unfold M mb
  rw [show (x ^^^ y).toBitVec = x.toBitVec ^^^ y.toBitVec from rfl, BitVec.getLsbD_xor]
  cases x.toBitVec.getLsbD k <;> cases y.toBitVec.getLsbD k <;> simp
theorem M_or {x y : Int64} {k : Nat} : M (x ||| y) k ↔ M x k ∨ M y k := by
  unfold M mb
  rw [show (x ||| y).toBitVec = x.toBitVec ||| y.toBitVec from rfl, BitVec.getLsbD_or]
  cases x.toBitVec.getLsbD k <;> cases y.toBitVec.getLsbD k <;> simp
theorem M_and {x y : Int64} {k : Nat} : M (x &&& y) k ↔ M x k ∧ M y k := by
  unfold M mb
  rw [show (x &&& y).toBitVec = x.toBitVec &&& y.toBitVec from rfl, BitVec.getLsbD_and]
  cases x.toBitVec.getLsbD k <;> cases y.toBitVec.getLsbD k <;> simp
theorem M_0 {k : Nat} : ¬ M 0 k := by
  intro h
  unfold M mb at h
  rw [show (0 : Int64).toBitVec = 0#64 from rfl, BitVec.getLsbD_zero] at h
  exact absurd h (by decide)
theorem M_bit {i k : Nat} (hi : i < 64) : M (lsh 1 (Int32.ofNat i)) k ↔ k = i := by
  unfold M mb
  rw [lsh_bv hi, show (1 : Int64).toBitVec = 1#64 from rfl, BitVec.getLsbD_shiftLeft, BitVec.getLsbD_one]
  simp
  omega
theorem M_lush {x : Int64} {s k : Nat} (hs : s < 64) : M (lush x (Int32.ofNat s)) k ↔ M x (s + k) := by
  unfold M mb
  rw [lush_bv hs, BitVec.getLsbD_ushiftRight]
theorem M_lsh {x : Int64} {s k : Nat} (hs : s < 64) : M (lsh x (Int32.ofNat s)) k ↔ k < 64 ∧ s ≤ k ∧ M x (k - s) := by
  unfold M mb
  rw [lsh_bv hs, BitVec.getLsbD_shiftLeft]
  simp
  exact and_assoc
theorem pos_rc {r c : Nat} : (8 : Int32) * Int32.ofNat r + Int32.ofNat c = Int32.ofNat (8 * r + c) := by
  rw [Int32.ofNat_add, Int32.ofNat_mul]
  rfl
theorem isDark_eq {x : Int64} {r c : Nat} (h : 8 * r + c < 64) : F_X9_isDark x (Int32.ofNat r) (Int32.ofNat c) = if mb x (8 * r + c) then 1 else 0 := by
  unfold F_X9_isDark
  rw [pos_rc, lsr_1 h]
  unfold mb
  cases x.toBitVec.getLsbD (8 * r + c) <;> rfl
theorem lush_1 {x : Int64} {i : Nat} (h : i < 64) : (Int64.toInt32 (lush x (Int32.ofNat i))) &&& 1 = if mb x i then 1 else 0 := by
  apply Int32.toBitVec.inj
  show ((lush x (Int32.ofNat i)).toBitVec.signExtend 32) &&& 1#32 = _
  rw [BitVec.signExtend_eq_setWidth_of_le _ (by decide), lush_bv h]
  apply BitVec.eq_of_getLsbD_eq
  intro j hj
  rw [BitVec.getLsbD_and, BitVec.getLsbD_setWidth, BitVec.getLsbD_ushiftRight, BitVec.getLsbD_one]
  unfold mb
  by_cases c : j = 0
  · subst c
    rw [Nat.add_zero]
    cases x.toBitVec.getLsbD i <;> decide
  · cases x.toBitVec.getLsbD i
    · show _ = (0#32).getLsbD j
      simp [c]
    · show _ = (1#32).getLsbD j
      rw [BitVec.getLsbD_one]
      simp [c]
theorem squareAt_eq {L : WL} {o r c : Nat} (h : 8 * r + c < 64) : F_X0_squareAt L o (Int32.ofNat r) (Int32.ofNat c) = if mb (L o 3) (8 * r + c) then 1 else 0 := by
  unfold F_X0_squareAt
  rw [pos_rc]
  exact lush_1 h
theorem it_or {g : Int32 → Int64 → Int64} {b : Nat} {x : Int64} (B : Nat → Nat → Prop) (h : ∀ i x, i < b → ∀ k, M (g (Int32.ofNat i) x) k ↔ (M x k ∨ B i k)) : ∀ k, M (it g b x) k ↔ (M x k ∨ ∃ i, i < b ∧ B i k) := by
  refine it_ind (P := fun i s => ∀ k, M s k ↔ (M x k ∨ ∃ j, j < i ∧ B j k)) (fun k => ?_) (fun i s hi hs k => ?_)
  · constructor
    · exact .inl
    · rintro (h | ⟨j, hj, _⟩)
      · exact h
      · omega
  · rw [h i s hi k, hs k]
    constructor
    · rintro ((h | ⟨j, hj, h⟩) | h)
      · exact .inl h
      · exact .inr ⟨j, by omega, h⟩
      · exact .inr ⟨i, by omega, h⟩
    · rintro (h | ⟨j, hj, h⟩)
      · exact .inl (.inl h)
      · by_cases e : j = i
        · exact .inr (e ▸ h)
        · exact .inl (.inr ⟨j, by omega, h⟩)
/-- two loops, one in the other, that join single squares -/
theorem it_or2 {g : Nat → Int32 → Int64 → Int64} {f : Int32 → Int64 → Int64} {h w : Nat} {x : Int64} (hh : h < 2147483648) (D : Nat → Nat → Prop) (hf : ∀ r x, r < h → f (Int32.ofNat r) x = it (g r) w x) (hg : ∀ r c x, r < h → c < w → ∀ k, M (g r (Int32.ofNat c) x) k ↔ (M x k ∨ (D r c ∧ k = 8 * r + c))) (hw : w ≤ 8) : ∀ k, M (it f h x) k ↔ (M x k ∨ (k / 8 < h ∧ k % 8 < w ∧ D (k / 8) (k % 8))) := by
  intro k
  rw [it_or (fun r k => ∃ c, c < w ∧ (D r c ∧ k = 8 * r + c)) (fun r x hr k => by rw [hf r x hr]; exact it_or (fun c k => D r c ∧ k = 8 * r + c) (fun c x hc k => hg r c x hr hc k) k) k]
  constructor
  · rintro (h1 | ⟨r, hr, c, hc, hd, hk⟩)
    · exact .inl h1
    · have e1 : k / 8 = r := by omega
      have e2 : k % 8 = c := by omega
      rw [e1, e2]
      exact .inr ⟨hr, hc, hd⟩
  · rintro (h1 | ⟨h1, h2, h3⟩)
    · exact .inl h1
    · exact .inr ⟨k / 8, h1, k % 8, h2, h3, by omega⟩
/-- of a size 1 to 8 by 1 to 8 -/
def Cl (h w : Nat) : Prop := (1 ≤ h ∧ h ≤ 8) ∧ 1 ≤ w ∧ w ≤ 8
def Ins (h w : Nat) (x : Int64) : Prop := ∀ k, M x k → k / 8 < h ∧ k % 8 < w
theorem bitOf_M {r c k : Nat} (h : 8 * r + c < 64) : M (F_X9_bitOf (Int32.ofNat r) (Int32.ofNat c)) k ↔ k = 8 * r + c := by
  unfold F_X9_bitOf
  rw [pos_rc]
  exact M_bit h
def acond (a b r c : Int32) : Prop := if a = 0 then r = b else if a = 1 then c = b else r + c = b
theorem actSet_M {h w : Nat} (hC : Cl h w) {a b : Int32} {k : Nat} : M (F_X9_actSet (cw (Int32.ofNat h) (Int32.ofNat w)) a b) k ↔ k / 8 < h ∧ k % 8 < w ∧ acond a b (Int32.ofNat (k / 8)) (Int32.ofNat (k % 8)) := by
  obtain ⟨⟨h1, h2⟩, h3, h4⟩ := hC
  have e : F_X9_actSet (cw (Int32.ofNat h) (Int32.ofNat w)) a b = it (fun i x => F_X9_actSet_14_1 (cw (Int32.ofNat h) (Int32.ofNat w)) a b i x) h 0 := fr0_it (by omega)
  rw [e, it_or2 (g := fun r i x => F_X9_actSet_26_2 (cw (Int32.ofNat h) (Int32.ofNat w)) a b (Int32.ofNat r) i x) (w := w) (by omega) (fun r c => acond a b (Int32.ofNat r) (Int32.ofNat c)) (fun r x hr => fr0_it (by omega)) (fun r c x hr hc k => ?_) h4]
  · constructor
    · rintro (h | h)
      · exact absurd h M_0
      · exact h
    · exact .inr
  · show M (F_X9_actSet_26_2 _ a b (Int32.ofNat r) (Int32.ofNat c) x) k ↔ _
    have hb := bitOf_M (r := r) (c := c) (k := k) (by omega)
    have hp : M (F_X9_actSet_77_2 (cw (Int32.ofNat h) (Int32.ofNat w)) a b (Int32.ofNat r) (Int32.ofNat c) x 1) k ↔ (M x k ∨ k = 8 * r + c) := by
      unfold F_X9_actSet_77_2 F_X9_actSet_96_2
      rw [if_neg (by decide), M_or, hb]
    have hn : M (F_X9_actSet_77_2 (cw (Int32.ofNat h) (Int32.ofNat w)) a b (Int32.ofNat r) (Int32.ofNat c) x 0) k ↔ M x k := by
      unfold F_X9_actSet_77_2 F_X9_actSet_96_2
      rw [if_pos rfl, M_or]
      exact ⟨fun h => h.resolve_right M_0, .inl⟩
    unfold F_X9_actSet_26_2 acond
    by_cases c1 : a = 0
    · rw [if_pos c1, if_pos c1]
      by_cases c2 : Int32.ofNat r = b
      · rw [if_pos c2, hp]
        exact ⟨fun h => h.imp_right fun h => ⟨c2, h⟩, fun h => h.imp_right fun h => h.2⟩
      · rw [if_neg c2, hn]
        exact ⟨.inl, fun h => h.resolve_right fun h => c2 h.1⟩
    · rw [if_neg c1, if_neg c1]
      by_cases c3 : a = 1
      · rw [if_pos c3, if_pos c3]
        by_cases c2 : Int32.ofNat c = b
        · rw [if_pos c2, hp]
          exact ⟨fun h => h.imp_right fun h => ⟨c2, h⟩, fun h => h.imp_right fun h => h.2⟩
        · rw [if_neg c2, hn]
          exact ⟨.inl, fun h => h.resolve_right fun h => c2 h.1⟩
      · rw [if_neg c3, if_neg c3]
        by_cases c2 : Int32.ofNat r + Int32.ofNat c = b
        · rw [if_pos c2, hp]
          exact ⟨fun h => h.imp_right fun h => ⟨c2, h⟩, fun h => h.imp_right fun h => h.2⟩
        · rw [if_neg c2, hn]
          exact ⟨.inl, fun h => h.resolve_right fun h => c2 h.1⟩
/-- what the class reads of a cloth -/
def cq (h w : Int32) : WI := fun k j => if k = 1 ∧ j = 1 then h else if k = 1 ∧ j = 2 then w else 0
theorem squaresOf_cq (I : WI) (o : Nat) (a b : Int32) : F_X0_squaresOf I o a b = F_X0_squaresOf (cq (I o 1) (I o 2)) 1 a b := rfl
theorem squaresTurned_cq (I : WI) (o : Nat) (a b : Int32) : F_X0_squaresTurned I o a b = F_X0_squaresTurned (cq (I o 1) (I o 2)) 1 a b := rfl
theorem allSquares_cq (I : WI) (o : Nat) : F_X0_allSquares I o = F_X0_allSquares (cq (I o 1) (I o 2)) 1 := rfl
theorem turnSet_cw (I : WI) (a b : Int32) : F_X9_turnSet I a b = F_X9_turnSet (cw (I 33 0) (I 33 1)) a b := rfl
theorem hasLine_cq (I : WI) (o : Nat) (a b : Int32) : F_X0_hasLine I o a b = F_X0_hasLine (cq (I o 1) (I o 2)) 1 a b := rfl
