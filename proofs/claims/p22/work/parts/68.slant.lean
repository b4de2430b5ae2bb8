/-! slants: what both find -/
def pc10 (s : Nat) : Nat := (List.range 10).foldl (fun a i => a + if s.testBit i then 1 else 0) 0
theorem bs_t : ∀ s, s < 512 → F_J6_bitCount_0f7a4 (Int32.ofNat s) = Int32.ofNat (pc10 s) ∧ F_X9_many (Int32.toInt64 (Int32.ofNat s)) = Int32.ofNat (pc10 s) ∧ pc10 s ≤ 10 := by decide +kernel
theorem sh_t : ∀ i, i < 9 → ∀ s, s < 512 → (((Int32.ofNat s) >>> (Int32.ofNat i &&& 31)) &&& 1 = if s.testBit i = true then 1 else 0) ∧ (s < 2 ^ i → Int32.ofNat s ||| ((1 : Int32) <<< (Int32.ofNat i &&& 31)) = Int32.ofNat (s + 2 ^ i) ∧ ∀ j, j < 10 → (s + 2 ^ i).testBit j = (decide (j = i) || s.testBit j)) := by decide +kernel
/-- the squares of a set that lie on the slants of s, and just these -/
def SlS (h w : Nat) (y : Int64) (s : Nat) : Prop := ∀ a, a < h → ∀ b, b < w → mb y (8 * a + b) = s.testBit (a + b)
theorem slS_uniq {h w : Nat} (hC : Cl h w) {y : Int64} {s s' : Nat} (hs : s < 2 ^ (h + w - 1)) (hs' : s' < 2 ^ (h + w - 1)) (a : SlS h w y s) (b : SlS h w y s') : s = s' := by
  obtain ⟨⟨h1, h2⟩, h3, h4⟩ := hC
  refine Nat.eq_of_testBit_eq fun j => ?_
  by_cases c : j < h + w - 1
  · by_cases d : j < h
    · have e1 := a j d 0 (by omega)
      have e2 := b j d 0 (by omega)
      rw [Nat.add_zero, Nat.add_zero] at e1 e2
      rw [← e1, ← e2]
    · have e1 := a (h - 1) (by omega) (j - (h - 1)) (by omega)
      have e2 := b (h - 1) (by omega) (j - (h - 1)) (by omega)
      rw [show h - 1 + (j - (h - 1)) = j by omega] at e1 e2
      rw [← e1, ← e2]
  · have hp : 2 ^ (h + w - 1) ≤ 2 ^ j := Nat.pow_le_pow_right (by decide) (by omega)
    rw [Nat.testBit_lt_two_pow (by omega), Nat.testBit_lt_two_pow (by omega)]
/-- a slant's squares -/
theorem sl_mb {h w i a b : Nat} (hC : Cl h w) (ha : a < h) (hb : b < w) (hi : i < 100) : mb (F_X9_actSet (cw (Int32.ofNat h) (Int32.ofNat w)) 2 (Int32.ofNat i)) (8 * a + b) = decide (a + b = i) := by
  have hm := actSet_M (a := 2) (b := Int32.ofNat i) (k := 8 * a + b) hC
  obtain ⟨⟨h1, h2⟩, h3, h4⟩ := hC
  rw [show (8 * a + b) / 8 = a by omega, show (8 * a + b) % 8 = b by omega] at hm
  unfold acond M at hm
  rw [if_neg (show ¬ (2 : Int32) = 0 by decide), if_neg (show ¬ (2 : Int32) = 1 by decide), oadd] at hm
  rw [Bool.eq_iff_iff, hm, decide_eq_true_eq]
  exact ⟨fun z => on_inj (by omega) (by omega) z.2.2, fun z => ⟨ha, hb, by rw [z]⟩⟩
theorem mb_and {x y : Int64} {k : Nat} : mb (x &&& y) k = (mb x k && mb y k) := by
  unfold mb
  rw [show (x &&& y).toBitVec = x.toBitVec &&& y.toBitVec from rfl, BitVec.getLsbD_and]
theorem ins_ext {h w : Nat} (hC : Cl h w) {x y : Int64} (hx : Ins h w x) (hy : Ins h w y) (e : ∀ a, a < h → ∀ b, b < w → mb x (8 * a + b) = mb y (8 * a + b)) : x = y := by
  obtain ⟨⟨h1, h2⟩, h3, h4⟩ := hC
  refine M_ext fun k hk => ?_
  by_cases q : k / 8 < h ∧ k % 8 < w
  · have := e (k / 8) q.1 (k % 8) q.2
    rw [show 8 * (k / 8) + k % 8 = k by omega] at this
    unfold M
    rw [this]
  · exact ⟨fun z => absurd (hx k z) q, fun z => absurd (hy k z) q⟩
theorem frp1_P {R S : Type} {g : Int32 → S → Option (R ⊕ S)} {b : Nat} (hb : b < 2147483648) (P : Nat → S → Prop) (Q : R → Prop) (h : ∀ i s, i < b → P i s → (∃ r, g (Int32.ofNat i) s = some (.inl r) ∧ Q r) ∨ ∃ s', g (Int32.ofNat i) s = some (.inr s') ∧ P (i + 1) s') : ∀ n c s, c + n = b → P c s → (∃ r, frp1 g (Int32.ofNat b) n (Int32.ofNat c) s = some (.inl r) ∧ Q r) ∨ ∃ s', frp1 g (Int32.ofNat b) n (Int32.ofNat c) s = some (.inr (Int32.ofNat b, s')) ∧ P b s' := by
  intro n
  induction n with
  | zero =>
    intro c s hc hP
    rw [show c = b by omega] at hP ⊢
    refine .inr ⟨s, ?_, hP⟩
    rw [frp1]
  | succ n ih =>
    intro c s hc hP
    have hn : ¬ Int32.ofNat b ≤ Int32.ofNat c := fun z => absurd ((ge_on (by omega) (by omega)).mp z) (by omega)
    rcases h c s (by omega) hP with ⟨r, e, q⟩ | ⟨s', e, q⟩
    · refine .inl ⟨r, ?_, q⟩
      rw [frp1, if_neg hn, e]
    · have e2 : frp1 g (Int32.ofNat b) (n + 1) (Int32.ofNat c) s = frp1 g (Int32.ofNat b) n (Int32.ofNat (c + 1)) s' := by rw [frp1, if_neg hn, e, la1]
      rw [e2]
      exact ih (c + 1) s' (by omega) q
/-- the class: the slants that make a set, if any do -/
theorem slants_0 {h w : Nat} (hC : Cl h w) (h10 : h + w ≤ 10) {K : WL} (hK : ∀ i, i < 15 → K 28 i = F_X9_actSet (cw (Int32.ofNat h) (Int32.ofNat w)) 2 (Int32.ofNat i)) {y : Int64} (hy : Ins h w y) : (∃ s, s < 2 ^ (h + w - 1) ∧ SlS h w y s ∧ F_X7_slantsThatMake K y = some (Int32.ofNat s)) ∨ ((∀ s, ¬ SlS h w y s) ∧ F_X7_slantsThatMake K y = some (-1)) := by
  have hC' := hC
  obtain ⟨⟨h1, h2⟩, h3, h4⟩ := hC'
  have h9 : 2 ^ (h + w - 1) ≤ 2 ^ 9 := Nat.pow_le_pow_right (by decide) (by omega)
  have hl := frp1_P (g := fun i x => F_X7_slantsThatMake_15_1 K y i x) (b := 15) (by decide) (fun i v => ∃ s, v = Int32.ofNat s ∧ s < 2 ^ (h + w - 1) ∧ s < 2 ^ i ∧ ∀ a, a < h → ∀ b, b < w → a + b < i → mb y (8 * a + b) = s.testBit (a + b)) (fun r => r = -1 ∧ ∀ s, ¬ SlS h w y s) (fun i v hi hv => by
    obtain ⟨s, rfl, s1, s2, s3⟩ := hv
    show (∃ r, F_X7_slantsThatMake_15_1 K y (Int32.ofNat i) (Int32.ofNat s) = some (.inl r) ∧ _) ∨ ∃ s', F_X7_slantsThatMake_15_1 K y (Int32.ofNat i) (Int32.ofNat s) = some (.inr s') ∧ _
    unfold F_X7_slantsThatMake_15_1 F_X7_slantsThatMake_48_1 F_X7_slantsThatMake_62_1
    rw [if_neg (nin (k := i) (N := 15) hi (by decide)), if_neg (nin (k := i) (N := 15) hi (by decide)), on_clamp (by omega), hK i hi]
    have hpart : ∀ a, a < h → ∀ b, b < w → mb (y &&& F_X9_actSet (cw (Int32.ofNat h) (Int32.ofNat w)) 2 (Int32.ofNat i)) (8 * a + b) = (mb y (8 * a + b) && decide (a + b = i)) := fun a ha b hb => by
      rw [mb_and, sl_mb hC ha hb (by omega)]
    have hpin : Ins h w (y &&& F_X9_actSet (cw (Int32.ofNat h) (Int32.ofNat w)) 2 (Int32.ofNat i)) := fun k hk => hy k (M_and.mp hk).1
    generalize hp : y &&& F_X9_actSet (cw (Int32.ofNat h) (Int32.ofNat w)) 2 (Int32.ofNat i) = p at hpart hpin ⊢
    by_cases c1 : lg_cmp p 0 = 0
    · have c1' := cmp_0.mp c1
      rw [if_pos c1, if_pos c1]
      refine .inr ⟨_, rfl, s, rfl, s1, by rw [Nat.pow_succ]; omega, fun a ha b hb hab => ?_⟩
      by_cases c : a + b = i
      · have := hpart a ha b hb
        rw [c1', show mb (0 : Int64) (8 * a + b) = false from Bool.eq_false_iff.mpr M_0, decide_eq_true c, Bool.and_true] at this
        rw [← this, c, Nat.testBit_lt_two_pow s2]
      · exact s3 a ha b hb (by omega)
    · rw [if_neg c1, if_neg c1]
      by_cases c2 : lg_cmp p (F_X9_actSet (cw (Int32.ofNat h) (Int32.ofNat w)) 2 (Int32.ofNat i)) = 0
      · have c2' := cmp_eq.mp c2
        have hne : ∃ a, a < h ∧ ∃ b, b < w ∧ a + b = i := Classical.byContradiction fun q => c1 (cmp_0.mpr (ins_ext hC hpin (fun k hk => absurd hk M_0) fun a ha b hb => by
          rw [hpart a ha b hb, decide_eq_false (fun z => q ⟨a, ha, b, hb, z⟩), Bool.and_false]
          exact (Bool.eq_false_iff.mpr M_0).symm))
        obtain ⟨a0, ha0, b0, hb0, hab0⟩ := hne
        have hi9 : i < h + w - 1 := by omega
        have hps : 2 ^ (i + 1) ≤ 2 ^ (h + w - 1) := Nat.pow_le_pow_right (by decide) (by omega)
        obtain ⟨t1, t2⟩ := (sh_t i (by omega) s (by omega)).2 s2
        rw [if_pos c2, t1]
        refine .inr ⟨_, rfl, s + 2 ^ i, rfl, ?_, ?_, fun a ha b hb hab => ?_⟩
        · rw [Nat.pow_succ] at hps
          omega
        · rw [Nat.pow_succ]
          omega
        · rw [t2 (a + b) (by omega)]
          by_cases c : a + b = i
          · have h2' := hpart a ha b hb
            rw [c2', sl_mb hC ha hb (by omega), decide_eq_true c, Bool.and_true] at h2'
            rw [← h2', decide_eq_true c, Bool.true_or]
          · rw [decide_eq_false c, Bool.false_or]
            exact s3 a ha b hb (by omega)
      · rw [if_neg c2]
        refine .inl ⟨-1, rfl, rfl, fun s hsl => ?_⟩
        have hall : ∀ a, a < h → ∀ b, b < w → a + b = i → mb y (8 * a + b) = s.testBit i := fun a ha b hb e => by rw [hsl a ha b hb, e]
        cases hsi : s.testBit i with
        | false =>
          refine c1 (cmp_0.mpr (ins_ext hC hpin (fun k hk => absurd hk M_0) fun a ha b hb => ?_))
          rw [hpart a ha b hb, show mb (0 : Int64) (8 * a + b) = false from Bool.eq_false_iff.mpr M_0]
          by_cases c : a + b = i
          · rw [hall a ha b hb c, hsi, Bool.false_and]
          · rw [decide_eq_false c, Bool.and_false]
        | true =>
          refine c2 (cmp_eq.mpr (ins_ext hC hpin (act_ins hC) fun a ha b hb => ?_))
          rw [hpart a ha b hb, sl_mb hC ha hb (by omega)]
          by_cases c : a + b = i
          · rw [hall a ha b hb c, hsi, Bool.true_and]
          · rw [decide_eq_false c, Bool.and_false]) 15 0 (Int32.ofNat 0) rfl ⟨0, rfl, Nat.pos_of_ne_zero (by have := Nat.one_le_two_pow (n := h + w - 1); omega), by decide, fun a _ b _ hab => absurd hab (Nat.not_lt_zero _)⟩
  have e0 : F_X7_slantsThatMake K y = (frp1 (fun i x => F_X7_slantsThatMake_15_1 K y i x) (Int32.ofNat 15) 15 (Int32.ofNat 0) (Int32.ofNat 0)).bind (Sum.elim (fun r => some r) (fun q => F_X7_slantsThatMake_68 K y (p2 q))) := rfl
  rcases hl with ⟨r, e, rfl, q⟩ | ⟨s', e, s, rfl, s1, s2, s3⟩
  · rw [e0, e]
    exact .inr ⟨q, rfl⟩
  · rw [e0, e]
    exact .inl ⟨s, s1, fun a ha b hb => s3 a ha b hb (by omega), rfl⟩
/-- what makes a set: rows r, columns c, slants s -/
def Sol (h w : Nat) (x : Int64) (r c s : Nat) : Prop := r < 2 ^ h ∧ c < 2 ^ w ∧ s < 2 ^ (h + w - 1) ∧ ∀ a, a < h → ∀ b, b < w → mb x (8 * a + b) = ((r.testBit a != c.testBit b) != s.testBit (a + b))
theorem turn_mb {h w r c a b : Nat} (hC : Cl h w) (hr : r < 256) (hc : c < 256) (ha : a < h) (hb : b < w) : mb (F_X9_turnSet (cw (Int32.ofNat h) (Int32.ofNat w)) (Int32.ofNat r) (Int32.ofNat c)) (8 * a + b) = (r.testBit a != c.testBit b) := by
  have hm := turn_M (k := 8 * a + b) hC hr hc
  obtain ⟨⟨h1, h2⟩, h3, h4⟩ := hC
  rw [show (8 * a + b) / 8 = a by omega, show (8 * a + b) % 8 = b by omega] at hm
  unfold M at hm
  rw [Bool.eq_iff_iff, hm]
  cases r.testBit a <;> cases c.testBit b <;> simp [ha, hb]
theorem turn_in {h w r c : Nat} (hC : Cl h w) (hr : r < 256) (hc : c < 256) : Ins h w (F_X9_turnSet (cw (Int32.ofNat h) (Int32.ofNat w)) (Int32.ofNat r) (Int32.ofNat c)) := fun k hk => by
  have := (turn_M hC hr hc).mp hk
  exact ⟨this.1, this.2.1⟩
theorem sol_sl {h w r c s : Nat} (hC : Cl h w) (hr : r < 2 ^ h) (hc : c < 2 ^ w) (hs : s < 2 ^ (h + w - 1)) {x : Int64} : Sol h w x r c s ↔ SlS h w (x ^^^ F_X9_turnSet (cw (Int32.ofNat h) (Int32.ofNat w)) (Int32.ofNat r) (Int32.ofNat c)) s := by
  have hp : 2 ^ h ≤ 2 ^ 8 := Nat.pow_le_pow_right (by decide) hC.1.2
  have hp' : 2 ^ w ≤ 2 ^ 8 := Nat.pow_le_pow_right (by decide) hC.2.2
  have key : ∀ p q t : Bool, (p = (q != t)) ↔ ((p != q) = t) := by decide
  constructor
  · rintro ⟨-, -, -, e⟩ a ha b hb
    rw [mb_xor, turn_mb hC (by omega) (by omega) ha hb]
    exact (key _ _ _).mp (e a ha b hb)
  · intro e
    refine ⟨hr, hc, hs, fun a ha b hb => (key _ _ _).mpr ?_⟩
    have := e a ha b hb
    rw [mb_xor, turn_mb hC (by omega) (by omega) ha hb] at this
    exact this
theorem sol_uniq {h w r c s s' : Nat} (hC : Cl h w) {x : Int64} (a : Sol h w x r c s) (b : Sol h w x r c s') : s = s' := by
  obtain ⟨r1, c1, s1, -⟩ := id a
  exact slS_uniq hC s1 b.2.2.1 ((sol_sl hC r1 c1 s1).mp a) ((sol_sl hC r1 c1 b.2.2.1).mp b)
/-- how many acts, then rows, then columns: one number to compare by -/
def acts3 (r c s : Nat) : Nat := pc8 r + pc8 c + pc10 s
def key3 (r c s : Nat) : Nat := (acts3 r c s * 256 + r) * 256 + c
