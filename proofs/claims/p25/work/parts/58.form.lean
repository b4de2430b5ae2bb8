/-! the form: class and reference -/
theorem fr0_it1 {S : Type} {g : Int32 → S → S} {b : Nat} {s : S} (hb : b < 2147483648) (h1 : 1 ≤ b) (h0 : g 0 s = s) : p2 (fr0 g (Int32.ofNat b) (fu 1 (Int32.ofNat b)) 1 s) = it g b s := by
  rw [← fr0_it hb]
  have hB : (Int32.ofNat b).toInt = (b : Int) := on_toInt hb
  have e0 : fu 0 (Int32.ofNat b) = fu 1 (Int32.ofNat b) + 1 := by
    unfold fu
    rw [hB, z0, z1]
    omega
  have hn : ¬ Int32.ofNat b ≤ 0 := fun q => by
    rw [Int32.le_iff_toInt_le, hB, z0] at q
    omega
  rw [e0]
  have e1 : fr0 g (Int32.ofNat b) (fu 1 (Int32.ofNat b) + 1) 0 s = fr0 g (Int32.ofNat b) (fu 1 (Int32.ofNat b)) 1 s := by
    rw [fr0, if_neg hn, h0]
    rfl
  rw [e1]
theorem t32_1 {y : Int64} : Int64.toInt32 (y &&& 1) = if mb y 0 then 1 else 0 := by
  apply Int32.toBitVec.inj
  show ((y &&& 1).toBitVec.signExtend 32) = _
  rw [BitVec.signExtend_eq_setWidth_of_le _ (by decide)]
  show ((y.toBitVec &&& 1#64).setWidth 32) = _
  apply BitVec.eq_of_getLsbD_eq
  intro j hj
  rw [BitVec.getLsbD_setWidth, BitVec.getLsbD_and, BitVec.getLsbD_one]
  unfold mb
  by_cases c : j = 0
  · subst c
    cases y.toBitVec.getLsbD 0 <;> decide
  · cases y.toBitVec.getLsbD 0
    · show _ = (0#32).getLsbD j
      simp [c]
    · show _ = (1#32).getLsbD j
      rw [BitVec.getLsbD_one]
      simp [c]
theorem mb_xor {x y : Int64} {k : Nat} : mb (x ^^^ y) k = (mb x k != mb y k) := by
  unfold mb
  rw [show (x ^^^ y).toBitVec = x.toBitVec ^^^ y.toBitVec from rfl, BitVec.getLsbD_xor]
/-- the square that is not alike its row's and its column's first -/
def xq (x : Int64) (r c : Nat) : Bool := ((mb x (8 * r + c) != mb x (8 * r)) != mb x c) != mb x 0
theorem xq_k : ∀ b1 b2 b3 b4 : Bool, ((((if b1 then (1 : Int32) else 0) ^^^ (if b2 then 1 else 0)) ^^^ (if b3 then 1 else 0)) ^^^ (if b4 then 1 else 0) = 1 ↔ (((b1 != b2) != b3) != b4) = true) := by decide
theorem form9_M {h w : Nat} (hC : Cl h w) {x : Int64} {k : Nat} : M (F_X9_formOf x (Int32.ofNat h) (Int32.ofNat w)) k ↔ k / 8 < h ∧ k % 8 < w ∧ xq x (k / 8) (k % 8) = true := by
  obtain ⟨⟨h1, h2⟩, h3, h4⟩ := hC
  have e : F_X9_formOf x (Int32.ofNat h) (Int32.ofNat w) = it (fun i y => F_X9_formOf_12_1 x (Int32.ofNat h) (Int32.ofNat w) i y) h 0 := fr0_it (by omega)
  rw [e, it_or2 (g := fun r i y => F_X9_formOf_21_2 x (Int32.ofNat h) (Int32.ofNat w) (Int32.ofNat r) i y) (w := w) (by omega) (fun r c => xq x r c = true) (fun r y hr => fr0_it (by omega)) (fun r c y hr hc k => ?_) h4]
  · constructor
    · rintro (h | h)
      · exact absurd h M_0
      · exact h
    · exact .inr
  · show M (F_X9_formOf_21_2 x _ _ (Int32.ofNat r) (Int32.ofNat c) y) k ↔ _
    have hb := bitOf_M (r := r) (c := c) (k := k) (by omega)
    have d1 : F_X9_isDark x (Int32.ofNat r) 0 = if mb x (8 * r) then 1 else 0 := isDark_eq (c := 0) (by omega)
    have d2 : F_X9_isDark x 0 (Int32.ofNat c) = if mb x c then 1 else 0 := by
      have := isDark_eq (x := x) (r := 0) (c := c) (by omega)
      rw [show 8 * 0 + c = c by omega] at this
      exact this
    have d3 : F_X9_isDark x 0 0 = if mb x 0 then 1 else 0 := isDark_eq (r := 0) (c := 0) (by omega)
    unfold F_X9_formOf_21_2 F_X9_formOf_73_2
    rw [isDark_eq (by omega), d1, d2, d3]
    have hk := xq_k (mb x (8 * r + c)) (mb x (8 * r)) (mb x c) (mb x 0)
    by_cases q : xq x r c = true
    · rw [if_pos (hk.mpr q), M_or, hb]
      exact ⟨fun z => z.imp_right fun z => ⟨q, z⟩, fun z => z.imp_right fun z => z.2⟩
    · rw [if_neg (fun z => q (hk.mp z)), M_or]
      exact ⟨fun z => .inl (z.resolve_right M_0), fun z => .inl (z.resolve_right fun z => q z.1)⟩
theorem or_t : ∀ i, i < 8 → ∀ r, r < 256 → r < 2 ^ i → Int32.ofNat r ||| ((1 : Int32) <<< (Int32.ofNat i &&& 31)) = Int32.ofNat (r + 2 ^ i) ∧ Int32.ofNat r ||| ((0 : Int32) <<< (Int32.ofNat i &&& 31)) = Int32.ofNat r ∧ r + 2 ^ i < 2 ^ (i + 1) ∧ r < 2 ^ (i + 1) ∧ ∀ j, j < 8 → (r + 2 ^ i).testBit j = (decide (j = i) || r.testBit j) := by decide +kernel
/-- bits that are joined one after the other -/
theorem orl {g : Int32 → Int32 → Int32} {f : Nat → Bool} {b : Nat} (hb : b ≤ 8) (hg : ∀ i s, i < b → g (Int32.ofNat i) s = s ||| ((if f i = true then (1 : Int32) else 0) <<< (Int32.ofNat i &&& 31))) : ∃ r, r < 2 ^ b ∧ it g b 0 = Int32.ofNat r ∧ ∀ j, j < 8 → (r.testBit j = true ↔ j < b ∧ f j = true) := by
  refine it_ind (P := fun i s => ∃ r, r < 2 ^ i ∧ s = Int32.ofNat r ∧ ∀ j, j < 8 → (r.testBit j = true ↔ j < i ∧ f j = true)) ⟨0, by decide, rfl, fun j _ => ⟨fun q => absurd q (by simp), fun q => absurd q.1 (Nat.not_lt_zero _)⟩⟩ (fun i s hi hs => ?_)
  obtain ⟨r, r1, r2, r3⟩ := hs
  have h8 : i < 8 := by omega
  have hp : 2 ^ i ≤ 2 ^ 8 := Nat.pow_le_pow_right (by decide) (by omega)
  obtain ⟨t1, t2, t3, t4, t5⟩ := or_t i h8 r (by omega) r1
  show ∃ r', r' < 2 ^ (i + 1) ∧ g (Int32.ofNat i) s = Int32.ofNat r' ∧ _
  rw [hg i s hi, r2]
  by_cases q : f i = true
  · rw [if_pos q]
    refine ⟨r + 2 ^ i, t3, t1, fun j hj => ?_⟩
    rw [t5 j hj, Bool.or_eq_true, r3 j hj, decide_eq_true_eq]
    constructor
    · rintro (z | z)
      · exact ⟨by omega, by rw [z]; exact q⟩
      · exact ⟨by omega, z.2⟩
    · rintro ⟨a, b⟩
      by_cases c : j = i
      · exact .inl c
      · exact .inr ⟨by omega, b⟩
  · rw [if_neg q]
    refine ⟨r, t4, t2, fun j hj => ?_⟩
    rw [r3 j hj]
    constructor
    · rintro ⟨a, b⟩
      exact ⟨by omega, b⟩
    · rintro ⟨a, b⟩
      by_cases c : j = i
      · rw [c] at b
        exact absurd b q
      · exact ⟨by omega, b⟩
theorem nat8_ext {a b : Nat} (ha : a < 256) (hb : b < 256) (h : ∀ j, j < 8 → (a.testBit j = true ↔ b.testBit j = true)) : a = b := by
  refine Nat.eq_of_testBit_eq fun j => ?_
  by_cases c : j < 8
  · exact Bool.eq_iff_iff.mpr (h j c)
  · have hp : 2 ^ 8 ≤ 2 ^ j := Nat.pow_le_pow_right (by decide) (by omega)
    rw [Nat.testBit_lt_two_pow (by omega), Nat.testBit_lt_two_pow (by omega)]
/-- the rows unlike the first, the first row's columns: as numbers -/
theorem rows_n {h w : Nat} (hC : Cl h w) {x : Int64} : ∃ r, r < 2 ^ h ∧ F_X0_rowsUnlikeFirst (cq (Int32.ofNat h) (Int32.ofNat w)) 1 x = Int32.ofNat r ∧ ∀ j, j < 8 → (r.testBit j = true ↔ j < h ∧ (mb x (8 * j) != mb x 0) = true) := by
  obtain ⟨⟨h1, h2⟩, h3, h4⟩ := hC
  have hg : ∀ i s, i < 8 → F_X0_rowsUnlikeFirst_14_1 (cq (Int32.ofNat h) (Int32.ofNat w)) 1 x (Int32.ofNat i) s = s ||| ((if (mb x (8 * i) != mb x 0) = true then (1 : Int32) else 0) <<< (Int32.ofNat i &&& 31)) := fun i s hi => by
    unfold F_X0_rowsUnlikeFirst_14_1
    rw [t32_1, lm8]
    have e : mb ((lush x (Int32.ofNat (8 * i))) ^^^ x) 0 = (mb x (8 * i) != mb x 0) := by
      have h1 := M_lush (x := x) (s := 8 * i) (k := 0) (by omega)
      rw [Nat.add_zero] at h1
      rw [mb_xor, show mb (lush x (Int32.ofNat (8 * i))) 0 = mb x (8 * i) from Bool.eq_iff_iff.mpr h1]
    rw [e]
  have e : F_X0_rowsUnlikeFirst (cq (Int32.ofNat h) (Int32.ofNat w)) 1 x = it (fun i y => F_X0_rowsUnlikeFirst_14_1 (cq (Int32.ofNat h) (Int32.ofNat w)) 1 x i y) h 0 := fr0_it1 (by omega) h1 (by
    have := hg 0 0 (by decide)
    rw [show 8 * 0 = 0 from rfl, show (mb x 0 != mb x 0) = false by cases mb x 0 <;> rfl] at this
    exact this)
  obtain ⟨r, r1, r2, r3⟩ := orl (g := fun i y => F_X0_rowsUnlikeFirst_14_1 (cq (Int32.ofNat h) (Int32.ofNat w)) 1 x i y) (f := fun j => mb x (8 * j) != mb x 0) (b := h) h2 (fun i s hi => hg i s (by omega))
  exact ⟨r, r1, e.trans r2, r3⟩
theorem cols_n {h w : Nat} (hC : Cl h w) {x : Int64} : ∃ c, c < 2 ^ w ∧ F_X0_columnsOfFirstRow (cq (Int32.ofNat h) (Int32.ofNat w)) 1 x = Int32.ofNat c ∧ ∀ j, j < 8 → (c.testBit j = true ↔ j < w ∧ mb x j = true) := by
  obtain ⟨⟨h1, h2⟩, h3, h4⟩ := hC
  have hp : 2 ^ w ≤ 2 ^ 8 := Nat.pow_le_pow_right (by decide) h4
  have hpos : 1 ≤ 2 ^ w := Nat.one_le_two_pow
  have ev : F_X0_everyColumn (cq (Int32.ofNat h) (Int32.ofNat w)) 1 = Int32.ofNat (2 ^ w - 1) := by
    have := every_n (w - 1) (by omega)
    rw [show w - 1 + 1 = w by omega] at this
    exact this
  have hv : (Int32.ofNat (2 ^ w - 1)).toBitVec.toNat = 2 ^ w - 1 := by
    show (BitVec.ofNat 32 (2 ^ w - 1)).toNat = _
    rw [BitVec.toNat_ofNat, Nat.mod_eq_of_lt (by omega)]
  have hN : ((Int64.toInt32 x) &&& Int32.ofNat (2 ^ w - 1)).toBitVec.toNat = (Int64.toInt32 x).toBitVec.toNat &&& (2 ^ w - 1) := by
    show ((Int64.toInt32 x).toBitVec &&& (Int32.ofNat (2 ^ w - 1)).toBitVec).toNat = _
    rw [BitVec.toNat_and, hv]
  refine ⟨(Int64.toInt32 x).toBitVec.toNat &&& (2 ^ w - 1), ?_, ?_, fun j hj => ?_⟩
  · have := Nat.and_le_right (n := (Int64.toInt32 x).toBitVec.toNat) (m := 2 ^ w - 1)
    omega
  · unfold F_X0_columnsOfFirstRow
    rw [ev, ← hN]
    apply Int32.toBitVec.inj
    show _ = BitVec.ofNat 32 _
    rw [BitVec.ofNat_toNat, BitVec.setWidth_eq]
  · rw [Nat.testBit_and, Nat.testBit_two_pow_sub_one, Bool.and_eq_true, decide_eq_true_eq, BitVec.testBit_toNat]
    have hx : (Int64.toInt32 x).toBitVec.getLsbD j = mb x j := by
      show (x.toBitVec.signExtend 32).getLsbD j = _
      rw [BitVec.signExtend_eq_setWidth_of_le _ (by decide), BitVec.getLsbD_setWidth]
      unfold mb
      rw [decide_eq_true (show j < 32 by omega), Bool.true_and]
    rw [hx]
    exact and_comm
theorem formOf_cq (I : WI) (o : Nat) (x : Int64) : F_X0_formOf I o x = F_X0_formOf (cq (I o 1) (I o 2)) 1 x := rfl
theorem form0_M {h w : Nat} (hC : Cl h w) {x : Int64} (hx : Ins h w x) {k : Nat} : M (F_X0_formOf (cq (Int32.ofNat h) (Int32.ofNat w)) 1 x) k ↔ k / 8 < h ∧ k % 8 < w ∧ xq x (k / 8) (k % 8) = true := by
  obtain ⟨r, r1, r2, r3⟩ := rows_n hC (x := x)
  obtain ⟨c, c1, c2, c3⟩ := cols_n hC (x := x)
  unfold F_X0_formOf
  have hp : 2 ^ h ≤ 2 ^ 8 := Nat.pow_le_pow_right (by decide) hC.1.2
  rw [r2, c2, M_xor, turned_M hC (by omega) c1]
  obtain ⟨⟨h1, h2⟩, h3, h4⟩ := hC
  by_cases q : k / 8 < h ∧ k % 8 < w
  · have a1 := r3 (k / 8) (by omega)
    have a2 := c3 (k % 8) (by omega)
    have e : 8 * (k / 8) + k % 8 = k := by omega
    unfold xq M
    rw [e]
    have b1 : r.testBit (k / 8) = (mb x (8 * (k / 8)) != mb x 0) := by
      rw [Bool.eq_iff_iff, a1]
      exact ⟨fun z => z.2, fun z => ⟨q.1, z⟩⟩
    have b2 : c.testBit (k % 8) = mb x (k % 8) := by
      rw [Bool.eq_iff_iff, a2]
      exact ⟨fun z => z.2, fun z => ⟨q.2, z⟩⟩
    rw [b1, b2]
    have hall : ∀ p1 p2 p3 p4 : Bool, (¬ (p1 = true ↔ ¬ ((p2 != p4) = true ↔ p3 = true)) ↔ (((p1 != p2) != p3) != p4) = true) := by decide
    have := hall (mb x k) (mb x (8 * (k / 8))) (mb x (k % 8)) (mb x 0)
    constructor
    · intro z
      refine ⟨q.1, q.2, this.mp fun y => z ?_⟩
      exact ⟨fun m => ⟨q.1, q.2, y.mp m⟩, fun m => y.mpr m.2.2⟩
    · rintro ⟨_, _, z⟩ y
      exact this.mpr z ⟨fun m => (y.mp m).2.2, fun m => y.mpr ⟨q.1, q.2, m⟩⟩
  · constructor
    · intro z
      exact absurd ⟨fun m => absurd (hx k m) q, fun m => absurd ⟨m.1, m.2.1⟩ q⟩ z
    · rintro ⟨a, b, _⟩
      exact absurd ⟨a, b⟩ q
theorem form_eq {h w : Nat} (hC : Cl h w) {x : Int64} (hx : Ins h w x) : F_X0_formOf (cq (Int32.ofNat h) (Int32.ofNat w)) 1 x = F_X9_formOf x (Int32.ofNat h) (Int32.ofNat w) := M_ext fun k _ => (form0_M hC hx).trans (form9_M hC).symm
theorem form_in {h w : Nat} (hC : Cl h w) {x : Int64} : Ins h w (F_X9_formOf x (Int32.ofNat h) (Int32.ofNat w)) := fun k hk => by
  have := (form9_M hC).mp hk
  exact ⟨this.1, this.2.1⟩
theorem E_13 {I : WI} {L : WL} {a1 : Int32} (H : Inv I L) : (F_X8_form I L a1) = (F_X9_form I L a1) ∧ Inv I L := by
  refine ⟨?_, H⟩
  obtain ⟨⟨h, w, ⟨hC, i11, i12, i330, i331, l332, hIns, i10⟩, ⟨h2, w2, hC2, j1, j2, j3⟩, j4, j5⟩, -⟩ := H
  unfold F_X8_form F_X9_form F_X8_form_51 F_X8_form_54 F_X9_form_38 F_X9_form_41 F_X9_formNow
  by_cases c0 : a1 = 0
  · rw [if_pos c0, if_pos c0, formOf_cq, i11, i12, i330, i331, l332, form_eq hC hIns]
  · rw [if_neg c0, if_neg c0]
    by_cases c1 : a1 = 1
    · rw [if_pos c1, if_pos c1, j4]
      rcases bz01 (I 2 0) with z | z
      · rw [if_pos z, if_pos z]
      · have z' : ¬ bz (I 2 0) = 0 := fun q => by rw [z] at q; exact absurd q (by decide)
        obtain ⟨rfl, rfl⟩ := j3 z
        obtain ⟨l333, hI2⟩ := j5 z
        rw [if_neg z', if_neg z', formOf_cq, j1, j2, i330, i331, l333, form_eq hC2 hI2]
    · rw [if_neg c1, if_neg c1]
