/-! slanted: the reference's search -/
theorem bnot_tb {h r j : Nat} (hr : r < 2 ^ h) : (bnot h r).testBit j = (decide (j < h) && !r.testBit j) := by
  unfold bnot
  rw [Nat.testBit_xor, Nat.testBit_two_pow_sub_one]
  by_cases c : j < h
  · rw [decide_eq_true c]
    cases r.testBit j <;> rfl
  · have hp : 2 ^ h ≤ 2 ^ j := Nat.pow_le_pow_right (by decide) (by omega)
    rw [decide_eq_false c, Nat.testBit_lt_two_pow (by omega)]
    rfl
theorem bnot_lt {h r : Nat} (hr : r < 2 ^ h) : bnot h r < 2 ^ h := by
  unfold bnot
  have hpos : 1 ≤ 2 ^ h := Nat.one_le_two_pow
  exact Nat.xor_lt_two_pow hr (by omega)
theorem bnot_bnot {h r : Nat} : bnot h (bnot h r) = r := by
  unfold bnot
  rw [Nat.xor_assoc, Nat.xor_self, Nat.xor_zero]
/-- rows and columns that make a set -/
def Rc (h w : Nat) (z : Int64) (r c : Nat) : Prop := ∀ a, a < h → ∀ b, b < w → mb z (8 * a + b) = (r.testBit a != c.testBit b)
theorem rc_bnot {h w r c : Nat} {z : Int64} (hr : r < 2 ^ h) (hc : c < 2 ^ w) (H : Rc h w z r c) : Rc h w z (bnot h r) (bnot w c) := fun a ha b hb => by
  rw [H a ha b hb, bnot_tb hr, bnot_tb hc, decide_eq_true ha, decide_eq_true hb]
  cases r.testBit a <;> cases c.testBit b <;> rfl
theorem rc_form {h w r c : Nat} (hC : Cl h w) {z : Int64} (hr : ∀ j, j < 8 → (r.testBit j = true ↔ j < h ∧ (mb z (8 * j) != mb z 0) = true)) (hc : ∀ j, j < 8 → (c.testBit j = true ↔ j < w ∧ mb z j = true)) : F_X9_formOf z (Int32.ofNat h) (Int32.ofNat w) = 0 ↔ Rc h w z r c := by
  have hC' := hC
  obtain ⟨⟨h1, h2⟩, h3, h4⟩ := hC'
  have er : ∀ a, a < h → r.testBit a = (mb z (8 * a) != mb z 0) := fun a ha => by
    rw [Bool.eq_iff_iff, hr a (by omega)]
    exact ⟨fun q => q.2, fun q => ⟨ha, q⟩⟩
  have ec : ∀ b, b < w → c.testBit b = mb z b := fun b hb => by
    rw [Bool.eq_iff_iff, hc b (by omega)]
    exact ⟨fun q => q.2, fun q => ⟨hb, q⟩⟩
  have key : ∀ m p q t : Bool, ((((m != p) != q) != t) = false) ↔ (m = ((p != t) != q)) := by decide
  constructor
  · intro e a ha b hb
    rw [er a ha, ec b hb]
    refine (key _ _ _ _).mp ?_
    have hm := form9_M (x := z) (k := 8 * a + b) hC
    rw [e, show (8 * a + b) / 8 = a by omega, show (8 * a + b) % 8 = b by omega] at hm
    exact Bool.eq_false_iff.mpr fun q => M_0 (hm.mpr ⟨ha, hb, q⟩)
  · intro H
    refine M_ext fun k hk => ⟨fun q => ?_, fun q => absurd q M_0⟩
    obtain ⟨q1, q2, q3⟩ := (form9_M hC).mp q
    have := H (k / 8) q1 (k % 8) q2
    rw [er _ q1, ec _ q2] at this
    have := (key _ _ _ _).mpr this
    unfold xq at q3
    rw [this] at q3
    cases q3
theorem rc_two {h w r c r0 c0 : Nat} (hC : Cl h w) {z : Int64} (hr : r < 2 ^ h) (hc : c < 2 ^ w) (hr0 : r0 < 2 ^ h) (hc0 : c0 < 2 ^ w) (H : Rc h w z r c) (H0 : Rc h w z r0 c0) : (r = r0 ∧ c = c0) ∨ (r = bnot h r0 ∧ c = bnot w c0) := by
  obtain ⟨⟨h1, h2⟩, h3, h4⟩ := hC
  have hbig : ∀ {n x j : Nat}, x < 2 ^ n → ¬ j < n → x.testBit j = false := fun {n x j} hx hj => Nat.testBit_lt_two_pow (Nat.lt_of_lt_of_le hx (Nat.pow_le_pow_right (by decide) (by omega)))
  have k1 : ∀ p q t u : Bool, (p != q) = (t != u) → p = t → q = u := by decide
  have k2 : ∀ p q t u : Bool, (p != q) = (t != u) → p = (!t) → q = (!u) := by decide
  have hab : ∀ a, a < h → ∀ b, b < w → (r.testBit a != c.testBit b) = (r0.testBit a != c0.testBit b) := fun a ha b hb => (H a ha b hb).symm.trans (H0 a ha b hb)
  have k3 : ∀ p q t u : Bool, (p != q) = (t != u) → q = u → p = t := by decide
  have k4 : ∀ p q t u : Bool, (p != q) = (t != u) → q = (!u) → p = (!t) := by decide
  by_cases e : r.testBit 0 = r0.testBit 0
  · have ec : ∀ b, b < w → c.testBit b = c0.testBit b := fun b hb => k1 _ _ _ _ (hab 0 (by omega) b hb) e
    left
    constructor
    · refine Nat.eq_of_testBit_eq fun j => ?_
      by_cases q : j < h
      · exact k3 _ _ _ _ (hab j q 0 (by omega)) (ec 0 (by omega))
      · rw [hbig hr q, hbig hr0 q]
    · refine Nat.eq_of_testBit_eq fun j => ?_
      by_cases q : j < w
      · exact ec j q
      · rw [hbig hc q, hbig hc0 q]
  · have e' : r.testBit 0 = !r0.testBit 0 := by
      cases hx : r.testBit 0 <;> cases hy : r0.testBit 0 <;> rw [hx, hy] at e <;> first | rfl | exact absurd rfl e
    have ec : ∀ b, b < w → c.testBit b = !c0.testBit b := fun b hb => k2 _ _ _ _ (hab 0 (by omega) b hb) e'
    right
    constructor
    · refine Nat.eq_of_testBit_eq fun j => ?_
      rw [bnot_tb hr0]
      by_cases q : j < h
      · rw [decide_eq_true q, Bool.true_and]
        exact k4 _ _ _ _ (hab j q 0 (by omega)) (ec 0 (by omega))
      · rw [decide_eq_false q, Bool.false_and, hbig hr q]
    · refine Nat.eq_of_testBit_eq fun j => ?_
      rw [bnot_tb hc0]
      by_cases q : j < w
      · rw [decide_eq_true q, Bool.true_and]
        exact ec j q
      · rw [decide_eq_false q, Bool.false_and, hbig hc q]
/-- a plan for what is left, and all plans -/
theorem plan_all {h w : Nat} (hC : Cl h w) {J : WI} {z : Int64} (j1 : J 33 0 = Int32.ofNat h) (j2 : J 33 1 = Int32.ofNat w) : (p1 (F_X9_findPlan J z) = 0 ∧ ∀ r c, r < 2 ^ h → c < 2 ^ w → ¬ Rc h w z r c) ∨ (p1 (F_X9_findPlan J z) = 1 ∧ ∃ R C, R < 2 ^ h ∧ C < 2 ^ w ∧ (p2 (F_X9_findPlan J z)) 33 31 = Int32.ofNat R ∧ (p2 (F_X9_findPlan J z)) 33 32 = Int32.ofNat C ∧ Rc h w z R C ∧ ∀ r c, r < 2 ^ h → c < 2 ^ w → Rc h w z r c → (r = R ∧ c = C) ∨ (r = bnot h R ∧ c = bnot w C)) := by
  obtain ⟨r, r1, r2, r3⟩ := rows_n hC (x := z)
  obtain ⟨c, c1, c2, c3⟩ := cols_n hC (x := z)
  have hf := rc_form hC r3 c3
  unfold F_X9_findPlan F_X9_formNow
  rw [j1, j2]
  by_cases q : lg_cmp (F_X9_formOf z (Int32.ofNat h) (Int32.ofNat w)) 0 = 0
  · rw [if_pos q]
    have hrc := hf.mp (cmp_0.mp q)
    obtain ⟨b1, b2, b3⟩ := plan9 hC j1 j2 r1 c1 r3 c3
    have hall : ∀ r' c', r' < 2 ^ h → c' < 2 ^ w → Rc h w z r' c' → (r' = r ∧ c' = c) ∨ (r' = bnot h r ∧ c' = bnot w c) := fun r' c' u v H => rc_two hC u v r1 c1 H hrc
    refine .inr ⟨b1, p1 (planR h w r c), p2 (planR h w r c), ?_, ?_, b2, b3, ?_⟩
    · unfold planR
      split
      · exact r1
      · exact bnot_lt r1
    · unfold planR
      split
      · exact c1
      · exact bnot_lt c1
    · unfold planR
      split
      · exact ⟨hrc, hall⟩
      · refine ⟨rc_bnot r1 c1 hrc, fun r' c' u v H => ?_⟩
        show (r' = bnot h r ∧ c' = bnot w c) ∨ (r' = bnot h (bnot h r) ∧ c' = bnot w (bnot w c))
        rw [bnot_bnot, bnot_bnot]
        exact (hall r' c' u v H).symm
  · rw [if_neg q]
    refine .inl ⟨rfl, fun r' c' u v H => q (cmp_0.mpr (hf.mpr ?_))⟩
    -- any plan makes the form nothing
    have hC' := hC
    obtain ⟨⟨h1, h2⟩, h3, h4⟩ := hC'
    have hz : F_X9_formOf z (Int32.ofNat h) (Int32.ofNat w) = 0 := by
      refine M_ext fun k hk => ⟨fun y => ?_, fun y => absurd y M_0⟩
      obtain ⟨y1, y2, y3⟩ := (form9_M hC).mp y
      unfold xq at y3
      have e1 := H (k / 8) y1 (k % 8) y2
      have e2 := H (k / 8) y1 0 (by omega)
      have e3 := H 0 (by omega) (k % 8) y2
      have e4 := H 0 (by omega) 0 (by omega)
      rw [Nat.add_zero] at e2
      rw [Nat.mul_zero, Nat.zero_add] at e3
      rw [show 8 * 0 + 0 = 0 from rfl] at e4
      rw [e1, e2, e3, e4] at y3
      have : ∀ p q t u : Bool, ((((p != q) != (p != t)) != (u != q)) != (u != t)) = false := by decide
      rw [this] at y3
      cases y3
    exact hf.mp hz
def key4 (r c s : Nat) : Nat := key3 r c s * 512 + s
/-- the best of those that were seen: D -/
def Pr (h w : Nat) (x : Int64) (D : Nat → Nat → Nat → Prop) (q : Int32 × Int32 × Int32 × Int32) : Prop := (p1 q = -4 ∧ ∀ r c s, D r c s → ¬ Sol h w x r c s) ∨ ∃ r0 c0 s0, Sol h w x r0 c0 s0 ∧ D r0 c0 s0 ∧ q = (Int32.ofNat (acts3 r0 c0 s0), Int32.ofNat r0, Int32.ofNat c0, Int32.ofNat s0) ∧ ∀ r c s, D r c s → Sol h w x r c s → key4 r0 c0 s0 ≤ key4 r c s
theorem Pr.congr {h w : Nat} {x : Int64} {D D' : Nat → Nat → Nat → Prop} {q : Int32 × Int32 × Int32 × Int32} (H : Pr h w x D q) (e : ∀ r c s, Sol h w x r c s → (D r c s ↔ D' r c s)) : Pr h w x D' q := by
  rcases H with ⟨a, b⟩ | ⟨r0, c0, s0, b1, b2, b3, b4⟩
  · exact .inl ⟨a, fun r c s d z => b r c s ((e r c s z).mpr d) z⟩
  · exact .inr ⟨r0, c0, s0, b1, (e r0 c0 s0 b1).mp b2, b3, fun r c s d z => b4 r c s ((e r c s z).mpr d) z⟩
theorem before_key {r c s r0 c0 s0 : Nat} (hr : r < 256) (hc : c < 256) (hs : s < 512) (hr0 : r0 < 256) (hc0 : c0 < 256) (hs0 : s0 < 512) : F_X9_isBefore (Int32.ofNat (acts3 r c s)) (Int32.ofNat r) (Int32.ofNat c) (Int32.ofNat s) (Int32.ofNat (acts3 r0 c0 s0)) (Int32.ofNat r0) (Int32.ofNat c0) (Int32.ofNat s0) = if key4 r c s < key4 r0 c0 s0 then 1 else 0 := by
  have ha0 := acts3_lt hr0 hc0 hs0
  have ha := acts3_lt hr hc hs
  unfold F_X9_isBefore F_X9_isBefore_72 key4 key3
  have heq : ∀ a b : Nat, a < 1000 → b < 1000 → (Int32.ofNat a = Int32.ofNat b ↔ a = b) := fun a b u v => ⟨fun z => on_inj (by omega) (by omega) z, fun z => by rw [z]⟩
  have hle : ∀ a b : Nat, a < 1000 → b < 1000 → (Int32.ofNat a ≤ Int32.ofNat b ↔ a ≤ b) := fun a b u v => ge_on (by omega) (by omega)
  generalize acts3 r c s = A at ha ⊢
  generalize acts3 r0 c0 s0 = A0 at ha0 ⊢
  by_cases q1 : A = A0
  · rw [if_pos ((heq A A0 (by omega) (by omega)).mpr q1)]
    by_cases q2 : r = r0
    · rw [if_pos ((heq r r0 (by omega) (by omega)).mpr q2)]
      by_cases q3 : c = c0
      · rw [if_pos ((heq c c0 (by omega) (by omega)).mpr q3)]
        by_cases q4 : s0 ≤ s
        · rw [if_pos ((hle s0 s (by omega) (by omega)).mpr q4), if_neg (by omega)]
        · rw [if_neg (fun z => q4 ((hle s0 s (by omega) (by omega)).mp z)), if_pos (by omega)]
      · rw [if_neg (fun z => q3 ((heq c c0 (by omega) (by omega)).mp z))]
        by_cases q4 : c0 ≤ c
        · rw [if_pos ((hle c0 c (by omega) (by omega)).mpr q4), if_neg (by omega)]
        · rw [if_neg (fun z => q4 ((hle c0 c (by omega) (by omega)).mp z)), if_pos (by omega)]
    · rw [if_neg (fun z => q2 ((heq r r0 (by omega) (by omega)).mp z))]
      by_cases q4 : r0 ≤ r
      · rw [if_pos ((hle r0 r (by omega) (by omega)).mpr q4), if_neg (by omega)]
      · rw [if_neg (fun z => q4 ((hle r0 r (by omega) (by omega)).mp z)), if_pos (by omega)]
  · rw [if_neg (fun z => q1 ((heq A A0 (by omega) (by omega)).mp z))]
    by_cases q4 : A0 ≤ A
    · rw [if_pos ((hle A0 A (by omega) (by omega)).mpr q4), if_neg (by omega)]
    · rw [if_neg (fun z => q4 ((hle A0 A (by omega) (by omega)).mp z)), if_pos (by omega)]
/-- one more is seen -/
theorem pr_step {h w r c s : Nat} (hC : Cl h w) (h10 : h + w ≤ 10) {x : Int64} {D : Nat → Nat → Nat → Prop} {t : WI} {L : WL} {a1 a9 : Int32} {q : Int32 × Int32 × Int32 × Int32} (H : Pr h w x D q) (z : Sol h w x r c s) : ∃ q', F_X9_slanted_203_3 t L a1 (Int32.ofNat s) a9 (p1 q) (p1 (p2 q)) (p1 (p2 (p2 q))) (p2 (p2 (p2 q))) (Int32.ofNat r) (Int32.ofNat c) = some q' ∧ Pr h w x (fun r' c' s' => D r' c' s' ∨ (r' = r ∧ c' = c ∧ s' = s)) q' := by
  have hp : 2 ^ h ≤ 2 ^ 8 := Nat.pow_le_pow_right (by decide) hC.1.2
  have hp' : 2 ^ w ≤ 2 ^ 8 := Nat.pow_le_pow_right (by decide) hC.2.2
  have h9 : 2 ^ (h + w - 1) ≤ 2 ^ 9 := Nat.pow_le_pow_right (by decide) (by omega)
  obtain ⟨r1, c1, s1, -⟩ := id z
  have hn : ((F_X9_many (Int32.toInt64 (Int32.ofNat r))) + (F_X9_many (Int32.toInt64 (Int32.ofNat c)))) + (F_X9_many (Int32.toInt64 (Int32.ofNat s))) = Int32.ofNat (acts3 r c s) := by
    rw [(bc_t r (by omega)).2.1, (bc_t c (by omega)).2.1, (bs_t s (by omega)).2.1, oadd, oadd]
    rfl
  have htake : ∀ a2 a3 a4 a5, F_X9_slanted_259_3 t L a1 (Int32.ofNat s) a9 a2 a3 a4 a5 (Int32.ofNat r) (Int32.ofNat c) (Int32.ofNat (acts3 r c s)) 1 = some (Int32.ofNat (acts3 r c s), Int32.ofNat r, Int32.ofNat c, Int32.ofNat s) := fun a2 a3 a4 a5 => by
    unfold F_X9_slanted_259_3 F_X9_slanted_272_3 F_X9_slanted_284_3 F_X9_slanted_297_3 F_X9_slanted_311_3
    rw [if_neg (show ¬ (1 : Int32) = 0 by decide), if_neg (show ¬ (1 : Int32) = 0 by decide), if_neg (show ¬ (1 : Int32) = 0 by decide), if_neg (show ¬ (1 : Int32) = 0 by decide)]
  have hkeep : ∀ a2 a3 a4 a5, F_X9_slanted_259_3 t L a1 (Int32.ofNat s) a9 a2 a3 a4 a5 (Int32.ofNat r) (Int32.ofNat c) (Int32.ofNat (acts3 r c s)) 0 = some (a2, a3, a4, a5) := fun a2 a3 a4 a5 => by
    unfold F_X9_slanted_259_3 F_X9_slanted_272_3 F_X9_slanted_284_3 F_X9_slanted_297_3 F_X9_slanted_311_3
    rw [if_pos rfl, if_pos rfl, if_pos rfl, if_pos rfl]
  unfold F_X9_slanted_203_3 F_X9_slanted_254_3
  rw [hn]
  rcases H with ⟨a, b⟩ | ⟨r0, c0, s0, b1, b2, b3, b4⟩
  · rw [if_pos a, htake]
    refine ⟨_, rfl, .inr ⟨r, c, s, z, .inr ⟨rfl, rfl, rfl⟩, rfl, fun r' c' s' d y => ?_⟩⟩
    rcases d with d | ⟨rfl, rfl, rfl⟩
    · exact absurd y (b r' c' s' d)
    · exact Nat.le_refl _
  · obtain ⟨r01, c01, s01, -⟩ := id b1
    have ha0 := acts3_lt (show r0 < 256 by omega) (show c0 < 256 by omega) (show s0 < 512 by omega)
    rw [b3]
    show ∃ q', (if Int32.ofNat (acts3 r0 c0 s0) = -4 then F_X9_slanted_259_3 t L a1 (Int32.ofNat s) a9 (Int32.ofNat (acts3 r0 c0 s0)) (Int32.ofNat r0) (Int32.ofNat c0) (Int32.ofNat s0) (Int32.ofNat r) (Int32.ofNat c) (Int32.ofNat (acts3 r c s)) 1 else (if F_X9_isBefore (Int32.ofNat (acts3 r c s)) (Int32.ofNat r) (Int32.ofNat c) (Int32.ofNat s) (Int32.ofNat (acts3 r0 c0 s0)) (Int32.ofNat r0) (Int32.ofNat c0) (Int32.ofNat s0) = 0 then F_X9_slanted_259_3 t L a1 (Int32.ofNat s) a9 (Int32.ofNat (acts3 r0 c0 s0)) (Int32.ofNat r0) (Int32.ofNat c0) (Int32.ofNat s0) (Int32.ofNat r) (Int32.ofNat c) (Int32.ofNat (acts3 r c s)) 0 else F_X9_slanted_259_3 t L a1 (Int32.ofNat s) a9 (Int32.ofNat (acts3 r0 c0 s0)) (Int32.ofNat r0) (Int32.ofNat c0) (Int32.ofNat s0) (Int32.ofNat r) (Int32.ofNat c) (Int32.ofNat (acts3 r c s)) 1)) = some q' ∧ _
    rw [if_neg (ofn4 (by omega)), before_key (by omega) (by omega) (by omega) (by omega) (by omega) (by omega), htake, hkeep]
    by_cases q1 : key4 r c s < key4 r0 c0 s0
    · rw [if_pos q1, if_neg (show ¬ (1 : Int32) = 0 by decide)]
      refine ⟨_, rfl, .inr ⟨r, c, s, z, .inr ⟨rfl, rfl, rfl⟩, rfl, fun r' c' s' d y => ?_⟩⟩
      rcases d with d | ⟨rfl, rfl, rfl⟩
      · have := b4 r' c' s' d y
        omega
      · exact Nat.le_refl _
    · rw [if_neg q1, if_pos rfl]
      refine ⟨_, rfl, .inr ⟨r0, c0, s0, b1, .inl b2, rfl, fun r' c' s' d y => ?_⟩⟩
      rcases d with d | ⟨rfl, rfl, rfl⟩
      · exact b4 r' c' s' d y
      · omega
/-- the set with the slants of s turned -/
theorem slanted_set {h w s : Nat} (hC : Cl h w) (h10 : h + w ≤ 10) (hs : s < 2 ^ (h + w - 1)) {x : Int64} (hx : Ins h w x) {t : WI} {L : WL} {a1 a2 a3 a4 a5 : Int32} (t0 : t 33 0 = Int32.ofNat h) (t1 : t 33 1 = Int32.ofNat w) : ∃ e, frp0 (fun i y => F_X9_slanted_100_2 t L a1 a2 a3 a4 a5 (Int32.ofNat s) i y) (Int32.ofNat (h + w - 1)) (fu 0 (Int32.ofNat (h + w - 1))) 0 x = some e ∧ Ins h w (p2 e) ∧ ∀ a, a < h → ∀ b, b < w → mb (p2 e) (8 * a + b) = (mb x (8 * a + b) != s.testBit (a + b)) := by
  have h9 : 2 ^ (h + w - 1) ≤ 2 ^ 9 := Nat.pow_le_pow_right (by decide) (by omega)
  obtain ⟨e, e1, e2, e3⟩ := frp0_nat (g := fun i y => F_X9_slanted_100_2 t L a1 a2 a3 a4 a5 (Int32.ofNat s) i y) (b := h + w - 1) (by omega) (fun i z => Ins h w z ∧ ∀ a, a < h → ∀ b, b < w → mb z (8 * a + b) = (mb x (8 * a + b) != (decide (a + b < i) && s.testBit (a + b)))) (s := x) (fun i z hi hz => by
    obtain ⟨z1, z2⟩ := hz
    show ∃ s', F_X9_slanted_100_2 t L a1 a2 a3 a4 a5 (Int32.ofNat s) (Int32.ofNat i) z = some s' ∧ _
    unfold F_X9_slanted_100_2 F_X9_slanted_124_2
    rw [(sh_t i (by omega) s (by omega)).1, actSet_cw t, t0, t1]
    have hmb : ∀ a b, a < h → b < w → a + b = i → decide (a + b < i) = false := fun a b _ _ e => decide_eq_false (by omega)
    cases hsi : s.testBit i with
    | true =>
      rw [if_pos rfl, if_pos rfl]
      refine ⟨_, rfl, z1.xor (act_ins hC), fun a ha b hb => ?_⟩
      rw [mb_xor, z2 a ha b hb, sl_mb hC ha hb (by omega)]
      by_cases c : a + b = i
      · rw [decide_eq_true c, decide_eq_false (show ¬ a + b < i by omega), decide_eq_true (show a + b < i + 1 by omega), c, hsi]
        cases mb x (8 * a + b) <;> rfl
      · rw [decide_eq_false c]
        by_cases c2 : a + b < i
        · rw [decide_eq_true c2, decide_eq_true (show a + b < i + 1 by omega)]
          cases mb x (8 * a + b) <;> cases s.testBit (a + b) <;> rfl
        · rw [decide_eq_false c2, decide_eq_false (show ¬ a + b < i + 1 by omega)]
          cases mb x (8 * a + b) <;> rfl
    | false =>
      rw [if_neg (show ¬ (if false = true then (1 : Int32) else 0) = 1 by decide)]
      refine ⟨_, rfl, ?_, fun a ha b hb => ?_⟩
      · rw [Int64.xor_zero]
        exact z1
      · rw [Int64.xor_zero, z2 a ha b hb]
        by_cases c : a + b = i
        · rw [decide_eq_false (show ¬ a + b < i by omega), decide_eq_true (show a + b < i + 1 by omega), c, hsi]
          rfl
        · by_cases c2 : a + b < i
          · rw [decide_eq_true c2, decide_eq_true (show a + b < i + 1 by omega)]
          · rw [decide_eq_false c2, decide_eq_false (show ¬ a + b < i + 1 by omega)]) ⟨hx, fun a _ b _ => by
    rw [decide_eq_false (Nat.not_lt_zero _), Bool.false_and]
    cases mb x (8 * a + b) <;> rfl⟩
  refine ⟨e, e1, e2, fun a ha b hb => ?_⟩
  rw [e3 a ha b hb, decide_eq_true (show a + b < h + w - 1 by omega), Bool.true_and]
theorem sol_rc {h w r c s : Nat} {x z : Int64} (hs : s < 2 ^ (h + w - 1)) (hr : r < 2 ^ h) (hc : c < 2 ^ w) (hz : ∀ a, a < h → ∀ b, b < w → mb z (8 * a + b) = (mb x (8 * a + b) != s.testBit (a + b))) : Sol h w x r c s ↔ Rc h w z r c := by
  have key : ∀ p q t : Bool, (p = (q != t)) ↔ ((p != t) = q) := by decide
  constructor
  · rintro ⟨-, -, -, e⟩ a ha b hb
    rw [hz a ha b hb]
    exact (key _ _ _).mp (e a ha b hb)
  · intro e
    refine ⟨hr, hc, hs, fun a ha b hb => (key _ _ _).mpr ?_⟩
    rw [← hz a ha b hb]
    exact e a ha b hb
