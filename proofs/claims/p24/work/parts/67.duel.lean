/-! the duel: class and reference -/
/-- a at least as good as b: for one that wants little (0), for one that wants much (1) -/
abbrev lep (s : Nat) (a b : Int32) : Prop := if s = 0 then a ≤ b else b ≤ a
theorem lep0 {a b : Int32} : lep 0 a b ↔ a ≤ b := by
  unfold lep
  rw [if_pos rfl]
theorem lep1 {a b : Int32} : lep 1 a b ↔ b ≤ a := by
  unfold lep
  rw [if_neg (by decide)]
theorem lep_refl {s : Nat} {a : Int32} : lep s a a := by
  unfold lep
  split <;> exact Int32.le_refl a
theorem lep_trans {s : Nat} {a b c : Int32} (h : lep s a b) (g : lep s b c) : lep s a c := by
  unfold lep at *
  by_cases q : s = 0
  · rw [if_pos q] at *
    exact Int32.le_trans h g
  · rw [if_neg q] at *
    exact Int32.le_trans g h
theorem lep_anti {s : Nat} {a b : Int32} (h : lep s a b) (g : lep s b a) : a = b := by
  unfold lep at *
  by_cases q : s = 0
  · rw [if_pos q] at *
    exact Int32.le_antisymm h g
  · rw [if_neg q] at *
    exact Int32.le_antisymm g h
theorem lep_not {s : Nat} {a b : Int32} (h : ¬ lep s a b) : lep s b a := by
  unfold lep at *
  by_cases q : s = 0
  · rw [if_pos q] at *
    exact (Int32.le_total a b).resolve_left h
  · rw [if_neg q] at *
    exact (Int32.le_total b a).resolve_left h
theorem isB_le {s : Nat} (hs : s < 2) {v b : Int32} : F_X8_isBetter (Int32.ofNat s) v b = 0 ↔ lep s b v := by
  unfold F_X8_isBetter F_X8_isBetter_27 lep
  rcases (show s = 0 ∨ s = 1 by omega) with rfl | rfl
  · rw [if_pos (show Int32.ofNat 0 = 0 from rfl), if_pos rfl]
    by_cases q : b ≤ v
    · rw [if_pos q]
      exact ⟨fun _ => q, fun _ => rfl⟩
    · rw [if_neg q]
      exact ⟨fun z => absurd z (by decide), fun z => absurd z q⟩
  · rw [if_neg (show ¬ Int32.ofNat 1 = 0 by decide), if_neg (show ¬ (1 : Nat) = 0 by decide)]
    by_cases q : v ≤ b
    · rw [if_pos q]
      exact ⟨fun _ => q, fun _ => rfl⟩
    · rw [if_neg q]
      exact ⟨fun z => absurd z (by decide), fun z => absurd z q⟩
/-- who turns at a time: 0 columns, 1 rows -/
def fl (a t : Nat) : Nat := if t % 2 = 0 then a else 1 - a
theorem sd_fl : ∀ a, a < 2 → ∀ t, t < 4 → sd (Int32.ofNat a) (Int32.ofNat t) = Int32.ofNat (fl a t) := by decide
theorem fl_lt {a t : Nat} (ha : a < 2) : fl a t < 2 := by
  unfold fl
  split <;> omega
theorem fl_next : ∀ a, a < 2 → ∀ t, t < 4 → (if Int32.ofNat (fl a t) = 0 then (1 : Int32) else 0) = Int32.ofNat (fl a (t + 1)) := by decide
/-- the lines of the one who turns, and what a line turns -/
def lim (h w s : Nat) : Nat := if s = 0 then w else h
def stn (h w s : Nat) (i : Int32) : Int64 := F_X9_actSet (cw (Int32.ofNat h) (Int32.ofNat w)) (if s = 0 then 1 else 0) i
def Vv (h w a : Nat) : Nat → Nat → Int64 → Int32
  | 0, _, y => F_X9_many y
  | u + 1, t, y => it (fun i b => if F_X8_isBetter (Int32.ofNat (fl a t)) (Vv h w a u (t + 1) (y ^^^ stn h w (fl a t) i)) b = 0 then b else Vv h w a u (t + 1) (y ^^^ stn h w (fl a t) i)) (lim h w (fl a t)) (Vv h w a u (t + 1) y)
theorem Vv_64 {h w a : Nat} : ∀ u t y, ∃ n, n ≤ 64 ∧ Vv h w a u t y = Int32.ofNat n := by
  intro u
  induction u with
  | zero => intro t y; exact many_n y
  | succ u ih =>
    intro t y
    show ∃ n, n ≤ 64 ∧ it _ _ _ = Int32.ofNat n
    refine it_ind (P := fun _ b => ∃ n, n ≤ 64 ∧ b = Int32.ofNat n) (ih (t + 1) y) (fun i b _ hb => ?_)
    show ∃ n, n ≤ 64 ∧ (if F_X8_isBetter (Int32.ofNat (fl a t)) (Vv h w a u (t + 1) (y ^^^ stn h w (fl a t) (Int32.ofNat i))) b = 0 then b else Vv h w a u (t + 1) (y ^^^ stn h w (fl a t) (Int32.ofNat i))) = Int32.ofNat n
    split
    · exact hb
    · exact ih (t + 1) _
/-- the best of them all: what the loop finds -/
theorem Vv_best {h w a u t : Nat} {y : Int64} (ha : a < 2) : (Vv h w a (u + 1) t y = Vv h w a u (t + 1) y ∨ ∃ i, i < lim h w (fl a t) ∧ Vv h w a (u + 1) t y = Vv h w a u (t + 1) (y ^^^ stn h w (fl a t) (Int32.ofNat i))) ∧ lep (fl a t) (Vv h w a (u + 1) t y) (Vv h w a u (t + 1) y) ∧ ∀ i, i < lim h w (fl a t) → lep (fl a t) (Vv h w a (u + 1) t y) (Vv h w a u (t + 1) (y ^^^ stn h w (fl a t) (Int32.ofNat i))) := by
  have hs := fl_lt (a := a) (t := t) ha
  show (it _ _ _ = _ ∨ ∃ i, i < lim h w (fl a t) ∧ it _ _ _ = _) ∧ lep (fl a t) (it _ _ _) _ ∧ ∀ i, i < lim h w (fl a t) → lep (fl a t) (it _ _ _) _
  refine it_ind (P := fun n b => (b = Vv h w a u (t + 1) y ∨ ∃ i, i < n ∧ b = Vv h w a u (t + 1) (y ^^^ stn h w (fl a t) (Int32.ofNat i))) ∧ lep (fl a t) b (Vv h w a u (t + 1) y) ∧ ∀ i, i < n → lep (fl a t) b (Vv h w a u (t + 1) (y ^^^ stn h w (fl a t) (Int32.ofNat i)))) ⟨.inl rfl, lep_refl, fun i hi => absurd hi (Nat.not_lt_zero _)⟩ (fun n b _ hb => ?_)
  obtain ⟨b1, b2, b3⟩ := hb
  show ((if F_X8_isBetter (Int32.ofNat (fl a t)) (Vv h w a u (t + 1) (y ^^^ stn h w (fl a t) (Int32.ofNat n))) b = 0 then b else Vv h w a u (t + 1) (y ^^^ stn h w (fl a t) (Int32.ofNat n))) = _ ∨ ∃ i, i < n + 1 ∧ (if F_X8_isBetter (Int32.ofNat (fl a t)) (Vv h w a u (t + 1) (y ^^^ stn h w (fl a t) (Int32.ofNat n))) b = 0 then b else Vv h w a u (t + 1) (y ^^^ stn h w (fl a t) (Int32.ofNat n))) = _) ∧ lep (fl a t) (if F_X8_isBetter (Int32.ofNat (fl a t)) (Vv h w a u (t + 1) (y ^^^ stn h w (fl a t) (Int32.ofNat n))) b = 0 then b else Vv h w a u (t + 1) (y ^^^ stn h w (fl a t) (Int32.ofNat n))) _ ∧ ∀ i, i < n + 1 → lep (fl a t) (if F_X8_isBetter (Int32.ofNat (fl a t)) (Vv h w a u (t + 1) (y ^^^ stn h w (fl a t) (Int32.ofNat n))) b = 0 then b else Vv h w a u (t + 1) (y ^^^ stn h w (fl a t) (Int32.ofNat n))) _
  by_cases q : F_X8_isBetter (Int32.ofNat (fl a t)) (Vv h w a u (t + 1) (y ^^^ stn h w (fl a t) (Int32.ofNat n))) b = 0
  · rw [if_pos q]
    have q' := (isB_le hs).mp q
    refine ⟨b1.imp_right fun ⟨i, hi, e⟩ => ⟨i, by omega, e⟩, b2, fun i hi => ?_⟩
    by_cases c : i = n
    · rw [c]
      exact q'
    · exact b3 i (by omega)
  · rw [if_neg q]
    have q' := lep_not fun z => q ((isB_le hs).mpr z)
    refine ⟨.inr ⟨n, by omega, rfl⟩, lep_trans q' b2, fun i hi => ?_⟩
    by_cases c : i = n
    · rw [c]
      exact lep_refl
    · exact lep_trans q' (b3 i (by omega))
/-- the class's depths -/
theorem G_00 {I : WI} {y : Int64} {a3 a4 : Int32} {h w a t : Nat} : G_0 I 1 y a3 a4 = Vv h w a 0 t y := (many_bits y).symm
theorem lines_of {h w s : Nat} (hs : s < 2) {I : WI} (i1 : I 1 1 = Int32.ofNat h) (i2 : I 1 2 = Int32.ofNat w) : F_X0_linesOf I 1 (if Int32.ofNat s = 0 then 1 else 0) = Int32.ofNat (lim h w s) := by
  unfold F_X0_linesOf lim
  rcases (show s = 0 ∨ s = 1 by omega) with rfl | rfl
  · rw [if_pos (show Int32.ofNat 0 = 0 from rfl), if_neg (show ¬ (1 : Int32) = 0 by decide), if_pos rfl, if_pos rfl, i2]
  · rw [if_neg (show ¬ Int32.ofNat 1 = 0 by decide), if_pos rfl, if_neg (show ¬ (1 : Nat) = 0 by decide), i1]
theorem set_of {h w s : Nat} (hC : Cl h w) (hs : s < 2) {I : WI} (i1 : I 1 1 = Int32.ofNat h) (i2 : I 1 2 = Int32.ofNat w) (i : Int32) : F_X0_squaresOf I 1 (if Int32.ofNat s = 0 then 1 else 0) i = stn h w s i := by
  unfold stn
  rcases (show s = 0 ∨ s = 1 by omega) with rfl | rfl
  · rw [if_pos (show Int32.ofNat 0 = 0 from rfl), if_pos rfl, squaresOf_cq, i1, i2, sq_act hC (.inr (.inl rfl))]
  · rw [if_neg (show ¬ Int32.ofNat 1 = 0 by decide), if_neg (show ¬ (1 : Nat) = 0 by decide), squaresOf_cq, i1, i2, sq_act hC (.inl rfl)]
theorem lim_8 {h w s : Nat} (hC : Cl h w) : 1 ≤ lim h w s ∧ lim h w s ≤ 8 := by
  obtain ⟨⟨h1, h2⟩, h3, h4⟩ := hC
  unfold lim
  split <;> omega
theorem eod1_V {h w a u t : Nat} (hC : Cl h w) (ha : a < 2) (ht : t < 4) {I : WI} (i1 : I 1 1 = Int32.ofNat h) (i2 : I 1 2 = Int32.ofNat w) (hu : u < 4) (hG : ∀ z, G_0 I 1 z (Int32.ofNat u) (Int32.ofNat (fl a (t + 1))) = Vv h w a u (t + 1) z) (y : Int64) : F_X8_eod1 I 1 y (Int32.ofNat (u + 1)) (Int32.ofNat (fl a t)) = Vv h w a (u + 1) t y := by
  have hs := fl_lt (a := a) (t := t) ha
  have hsub : Int32.ofNat (u + 1) - 1 = Int32.ofNat u := on_sub (b := 1) (by omega)
  have hnx := fl_next a ha t ht
  have h25 : F_X8_eod1 I 1 y (Int32.ofNat (u + 1)) (Int32.ofNat (fl a t)) = F_X8_eod1_25 I 1 y (Int32.ofNat (u + 1)) (Int32.ofNat (fl a t)) (if Int32.ofNat (fl a t) = 0 then 1 else 0) := by
    unfold F_X8_eod1
    rw [if_neg (show ¬ Int32.ofNat (u + 1) < 1 from fun z => absurd ((lt_onn (b := 1) (by omega) (by decide)).mp z) (by omega)), if_pos (show Int32.ofNat (u + 1) ≤ 4 from (ge_on (b := 4) (by omega) (by decide)).mpr (by omega))]
    split <;> rfl
  have h50 : ∀ k, F_X8_eod1_25 I 1 y (Int32.ofNat (u + 1)) (Int32.ofNat (fl a t)) k = F_X8_eod1_50 I 1 y (Int32.ofNat (u + 1)) (Int32.ofNat (fl a t)) k (Vv h w a u (t + 1) y) 0 := fun k => by
    unfold F_X8_eod1_25
    rw [hsub, ← hG y, ← hnx]
    split <;> rfl
  rw [h25, h50]
  show p2 (fr0 (fun i x => F_X8_eod1_61_1 I 1 y (Int32.ofNat (u + 1)) (Int32.ofNat (fl a t)) (if Int32.ofNat (fl a t) = 0 then 1 else 0) i x) (F_X0_linesOf I 1 (if Int32.ofNat (fl a t) = 0 then 1 else 0)) (fu 0 (F_X0_linesOf I 1 (if Int32.ofNat (fl a t) = 0 then 1 else 0))) 0 (Vv h w a u (t + 1) y)) = _
  rw [lines_of hs i1 i2, fr0_it (by have := lim_8 (s := fl a t) hC; omega)]
  show _ = it (fun i b => if F_X8_isBetter (Int32.ofNat (fl a t)) (Vv h w a u (t + 1) (y ^^^ stn h w (fl a t) i)) b = 0 then b else Vv h w a u (t + 1) (y ^^^ stn h w (fl a t) i)) (lim h w (fl a t)) (Vv h w a u (t + 1) y)
  refine it_congr fun i x _ => ?_
  show F_X8_eod1_61_1 I 1 y (Int32.ofNat (u + 1)) (Int32.ofNat (fl a t)) (if Int32.ofNat (fl a t) = 0 then 1 else 0) (Int32.ofNat i) x = if F_X8_isBetter (Int32.ofNat (fl a t)) (Vv h w a u (t + 1) (y ^^^ stn h w (fl a t) (Int32.ofNat i))) x = 0 then x else Vv h w a u (t + 1) (y ^^^ stn h w (fl a t) (Int32.ofNat i))
  rw [← hG, ← hnx]
  unfold F_X8_eod1_61_1 F_X8_eod1_106_1
  rw [set_of hC hs i1 i2, hsub]
  split <;> rfl
theorem eod2_V {h w a u t : Nat} (hC : Cl h w) (ha : a < 2) (ht : t < 4) {I : WI} (i1 : I 1 1 = Int32.ofNat h) (i2 : I 1 2 = Int32.ofNat w) (hu : u < 4) (hG : ∀ z, G_1 I 1 z (Int32.ofNat u) (Int32.ofNat (fl a (t + 1))) = Vv h w a u (t + 1) z) (y : Int64) : F_X8_eod2 I 1 y (Int32.ofNat (u + 1)) (Int32.ofNat (fl a t)) = Vv h w a (u + 1) t y := by
  have hs := fl_lt (a := a) (t := t) ha
  have hsub : Int32.ofNat (u + 1) - 1 = Int32.ofNat u := on_sub (b := 1) (by omega)
  have hnx := fl_next a ha t ht
  have h25 : F_X8_eod2 I 1 y (Int32.ofNat (u + 1)) (Int32.ofNat (fl a t)) = F_X8_eod2_25 I 1 y (Int32.ofNat (u + 1)) (Int32.ofNat (fl a t)) (if Int32.ofNat (fl a t) = 0 then 1 else 0) := by
    unfold F_X8_eod2
    rw [if_neg (show ¬ Int32.ofNat (u + 1) < 1 from fun z => absurd ((lt_onn (b := 1) (by omega) (by decide)).mp z) (by omega)), if_pos (show Int32.ofNat (u + 1) ≤ 4 from (ge_on (b := 4) (by omega) (by decide)).mpr (by omega))]
    split <;> rfl
  have h50 : ∀ k, F_X8_eod2_25 I 1 y (Int32.ofNat (u + 1)) (Int32.ofNat (fl a t)) k = F_X8_eod2_50 I 1 y (Int32.ofNat (u + 1)) (Int32.ofNat (fl a t)) k (Vv h w a u (t + 1) y) 0 := fun k => by
    unfold F_X8_eod2_25
    rw [hsub, ← hG y, ← hnx]
    split <;> rfl
  rw [h25, h50]
  show p2 (fr0 (fun i x => F_X8_eod2_61_1 I 1 y (Int32.ofNat (u + 1)) (Int32.ofNat (fl a t)) (if Int32.ofNat (fl a t) = 0 then 1 else 0) i x) (F_X0_linesOf I 1 (if Int32.ofNat (fl a t) = 0 then 1 else 0)) (fu 0 (F_X0_linesOf I 1 (if Int32.ofNat (fl a t) = 0 then 1 else 0))) 0 (Vv h w a u (t + 1) y)) = _
  rw [lines_of hs i1 i2, fr0_it (by have := lim_8 (s := fl a t) hC; omega)]
  show _ = it (fun i b => if F_X8_isBetter (Int32.ofNat (fl a t)) (Vv h w a u (t + 1) (y ^^^ stn h w (fl a t) i)) b = 0 then b else Vv h w a u (t + 1) (y ^^^ stn h w (fl a t) i)) (lim h w (fl a t)) (Vv h w a u (t + 1) y)
  refine it_congr fun i x _ => ?_
  show F_X8_eod2_61_1 I 1 y (Int32.ofNat (u + 1)) (Int32.ofNat (fl a t)) (if Int32.ofNat (fl a t) = 0 then 1 else 0) (Int32.ofNat i) x = if F_X8_isBetter (Int32.ofNat (fl a t)) (Vv h w a u (t + 1) (y ^^^ stn h w (fl a t) (Int32.ofNat i))) x = 0 then x else Vv h w a u (t + 1) (y ^^^ stn h w (fl a t) (Int32.ofNat i))
  rw [← hG, ← hnx]
  unfold F_X8_eod2_61_1 F_X8_eod2_106_1
  rw [set_of hC hs i1 i2, hsub]
  split <;> rfl
theorem eod3_V {h w a u t : Nat} (hC : Cl h w) (ha : a < 2) (ht : t < 4) {I : WI} (i1 : I 1 1 = Int32.ofNat h) (i2 : I 1 2 = Int32.ofNat w) (hu : u < 4) (hG : ∀ z, G_2 I 1 z (Int32.ofNat u) (Int32.ofNat (fl a (t + 1))) = Vv h w a u (t + 1) z) (y : Int64) : F_X8_eod3 I 1 y (Int32.ofNat (u + 1)) (Int32.ofNat (fl a t)) = Vv h w a (u + 1) t y := by
  have hs := fl_lt (a := a) (t := t) ha
  have hsub : Int32.ofNat (u + 1) - 1 = Int32.ofNat u := on_sub (b := 1) (by omega)
  have hnx := fl_next a ha t ht
  have h25 : F_X8_eod3 I 1 y (Int32.ofNat (u + 1)) (Int32.ofNat (fl a t)) = F_X8_eod3_25 I 1 y (Int32.ofNat (u + 1)) (Int32.ofNat (fl a t)) (if Int32.ofNat (fl a t) = 0 then 1 else 0) := by
    unfold F_X8_eod3
    rw [if_neg (show ¬ Int32.ofNat (u + 1) < 1 from fun z => absurd ((lt_onn (b := 1) (by omega) (by decide)).mp z) (by omega)), if_pos (show Int32.ofNat (u + 1) ≤ 4 from (ge_on (b := 4) (by omega) (by decide)).mpr (by omega))]
    split <;> rfl
  have h50 : ∀ k, F_X8_eod3_25 I 1 y (Int32.ofNat (u + 1)) (Int32.ofNat (fl a t)) k = F_X8_eod3_50 I 1 y (Int32.ofNat (u + 1)) (Int32.ofNat (fl a t)) k (Vv h w a u (t + 1) y) 0 := fun k => by
    unfold F_X8_eod3_25
    rw [hsub, ← hG y, ← hnx]
    split <;> rfl
  rw [h25, h50]
  show p2 (fr0 (fun i x => F_X8_eod3_61_1 I 1 y (Int32.ofNat (u + 1)) (Int32.ofNat (fl a t)) (if Int32.ofNat (fl a t) = 0 then 1 else 0) i x) (F_X0_linesOf I 1 (if Int32.ofNat (fl a t) = 0 then 1 else 0)) (fu 0 (F_X0_linesOf I 1 (if Int32.ofNat (fl a t) = 0 then 1 else 0))) 0 (Vv h w a u (t + 1) y)) = _
  rw [lines_of hs i1 i2, fr0_it (by have := lim_8 (s := fl a t) hC; omega)]
  show _ = it (fun i b => if F_X8_isBetter (Int32.ofNat (fl a t)) (Vv h w a u (t + 1) (y ^^^ stn h w (fl a t) i)) b = 0 then b else Vv h w a u (t + 1) (y ^^^ stn h w (fl a t) i)) (lim h w (fl a t)) (Vv h w a u (t + 1) y)
  refine it_congr fun i x _ => ?_
  show F_X8_eod3_61_1 I 1 y (Int32.ofNat (u + 1)) (Int32.ofNat (fl a t)) (if Int32.ofNat (fl a t) = 0 then 1 else 0) (Int32.ofNat i) x = if F_X8_isBetter (Int32.ofNat (fl a t)) (Vv h w a u (t + 1) (y ^^^ stn h w (fl a t) (Int32.ofNat i))) x = 0 then x else Vv h w a u (t + 1) (y ^^^ stn h w (fl a t) (Int32.ofNat i))
  rw [← hG, ← hnx]
  unfold F_X8_eod3_61_1 F_X8_eod3_106_1
  rw [set_of hC hs i1 i2, hsub]
  split <;> rfl
theorem G_V {h w a : Nat} (hC : Cl h w) (ha : a < 2) {I : WI} (i1 : I 1 1 = Int32.ofNat h) (i2 : I 1 2 = Int32.ofNat w) : (∀ u t y, u ≤ 1 → t + u ≤ 4 → G_1 I 1 y (Int32.ofNat u) (Int32.ofNat (fl a t)) = Vv h w a u t y) ∧ (∀ u t y, u ≤ 2 → t + u ≤ 4 → G_2 I 1 y (Int32.ofNat u) (Int32.ofNat (fl a t)) = Vv h w a u t y) ∧ ∀ u t y, u ≤ 3 → t + u ≤ 4 → G_3 I 1 y (Int32.ofNat u) (Int32.ofNat (fl a t)) = Vv h w a u t y := by
  have hlt : ∀ u, u < 4 → ¬ Int32.ofNat (u + 1) < 1 := fun u hu z => absurd ((lt_onn (b := 1) (by omega) (by decide)).mp z) (by omega)
  have g1 : ∀ u t y, u ≤ 1 → t + u ≤ 4 → G_1 I 1 y (Int32.ofNat u) (Int32.ofNat (fl a t)) = Vv h w a u t y := fun u t y hu ht => by
    unfold G_1
    cases u with
    | zero =>
      rw [if_pos (show Int32.ofNat 0 < 1 by decide)]
      exact G_00
    | succ u =>
      rw [if_neg (hlt u (by omega))]
      exact eod1_V hC ha (by omega) i1 i2 (by omega) (fun z => by
        rw [show u = 0 by omega]
        exact G_00) y
  have g2 : ∀ u t y, u ≤ 2 → t + u ≤ 4 → G_2 I 1 y (Int32.ofNat u) (Int32.ofNat (fl a t)) = Vv h w a u t y := fun u t y hu ht => by
    unfold G_2
    cases u with
    | zero =>
      rw [if_pos (show Int32.ofNat 0 < 1 by decide)]
      exact G_00
    | succ u =>
      rw [if_neg (hlt u (by omega))]
      exact eod2_V hC ha (by omega) i1 i2 (by omega) (fun z => g1 u (t + 1) z (by omega) (by omega)) y
  refine ⟨g1, g2, fun u t y hu ht => ?_⟩
  unfold G_3
  cases u with
  | zero =>
    rw [if_pos (show Int32.ofNat 0 < 1 by decide)]
    exact G_00
  | succ u =>
    rw [if_neg (hlt u (by omega))]
    exact eod3_V hC ha (by omega) i1 i2 (by omega) (fun z => g2 u (t + 1) z (by omega) (by omega)) y
/-- the first of the best -/
def Bst (s : Nat) (c : Nat → Int32) (ok : Nat → Prop) (N m : Nat) : Prop := m < N ∧ ok m ∧ (∀ d, d < N → ok d → lep s (c m) (c d)) ∧ ∀ d, d < m → ok d → ¬ lep s (c d) (c m)
theorem Bst.uniq {s N m m' : Nat} {c : Nat → Int32} {ok : Nat → Prop} (a : Bst s c ok N m) (b : Bst s c ok N m') : m = m' := by
  obtain ⟨a1, a2, a3, a4⟩ := a
  obtain ⟨b1, b2, b3, b4⟩ := b
  by_cases q : m < m'
  · exact absurd (a3 m' b1 b2) (b4 m q a2)
  · by_cases q' : m' < m
    · exact absurd (b3 m a1 a2) (a4 m' q' b2)
    · omega
/-- the reference's best -/
theorem bst_B {W : Nat → Int32} {b s : Nat} (hs : s < 2) (hb : b + 8 < 6561) : (bst W b (Int32.ofNat s) = some (-4) ∧ ∀ d, d < 9 → W (b + d) = -4) ∨ ∃ m, bst W b (Int32.ofNat s) = some (Int32.ofNat m) ∧ Bst s (fun d => W (b + d)) (fun d => W (b + d) ≠ -4) 9 m := by
  obtain ⟨e, e1, e2⟩ := frp0_nat (g := fun i x => F_X9_best_13_1 (fun _ => W) (Int32.ofNat b) (Int32.ofNat s) i x) (b := 9) (by decide) (fun i x => (x = -4 ∧ ∀ d, d < i → W (b + d) = -4) ∨ ∃ m, x = Int32.ofNat m ∧ Bst s (fun d => W (b + d)) (fun d => W (b + d) ≠ -4) i m) (s := -4) (fun i x hi hx => by
    have hm : Mv x i := by
      rcases hx with ⟨hx, -⟩ | ⟨m, hx, hm⟩
      · exact .inl hx
      · exact .inr ⟨m, hm.1, hx⟩
    refine ⟨_, best_eq hb hi hm, ?_⟩
    unfold bp
    by_cases c1 : W (b + i) = -4
    · rw [if_pos c1]
      rcases hx with ⟨hx, h0⟩ | ⟨m, hx, m1, m2, m3, m4⟩
      · refine .inl ⟨hx, fun d hd => ?_⟩
        by_cases c : d = i
        · rw [c]
          exact c1
        · exact h0 d (by omega)
      · refine .inr ⟨m, hx, by omega, m2, fun d hd ok => ?_, m4⟩
        by_cases c : d = i
        · rw [c] at ok
          exact absurd c1 ok
        · exact m3 d (by omega) ok
    · rw [if_neg c1]
      rcases hx with ⟨hx, h0⟩ | ⟨m, hx, m1, m2, m3, m4⟩
      · rw [if_pos hx]
        refine .inr ⟨i, rfl, by omega, c1, fun d hd ok => ?_, fun d hd ok => absurd (h0 d hd) ok⟩
        by_cases c : d = i
        · rw [c]
          exact lep_refl
        · exact absurd (h0 d (by omega)) ok
      · have hx4 : ¬ x = -4 := fun z => by
          rw [hx] at z
          have := congrArg Int32.toInt z
          rw [on_toInt (by omega), show (-4 : Int32).toInt = -4 by decide] at this
          omega
        rw [if_neg hx4, hx, on_clamp (by omega)]
        have hsel : (if Int32.ofNat s = 0 then (if W (b + m) ≤ W (b + i) then Int32.ofNat m else Int32.ofNat i) else (if W (b + i) ≤ W (b + m) then Int32.ofNat m else Int32.ofNat i)) = if lep s (W (b + m)) (W (b + i)) then Int32.ofNat m else Int32.ofNat i := by
          rcases (show s = 0 ∨ s = 1 by omega) with rfl | rfl
          · rw [if_pos (show Int32.ofNat 0 = 0 from rfl)]
            by_cases y : W (b + m) ≤ W (b + i)
            · rw [if_pos y, if_pos (lep0.mpr y)]
            · rw [if_neg y, if_neg (fun z => y (lep0.mp z))]
          · rw [if_neg (show ¬ Int32.ofNat 1 = 0 by decide)]
            by_cases y : W (b + i) ≤ W (b + m)
            · rw [if_pos y, if_pos (lep1.mpr y)]
            · rw [if_neg y, if_neg (fun z => y (lep1.mp z))]
        rw [hsel]
        by_cases q : lep s (W (b + m)) (W (b + i))
        · rw [if_pos q]
          refine .inr ⟨m, rfl, by omega, m2, fun d hd ok => ?_, m4⟩
          by_cases c : d = i
          · rw [c]
            exact q
          · exact m3 d (by omega) ok
        · rw [if_neg q]
          refine .inr ⟨i, rfl, by omega, c1, fun d hd ok => ?_, fun d hd ok z => ?_⟩
          · by_cases c : d = i
            · rw [c]
              exact lep_refl
            · exact lep_trans (lep_not q) (m3 d (by omega) ok)
          · exact q (lep_trans (m3 d hd ok) z)) (.inl ⟨rfl, fun d hd => absurd hd (Nat.not_lt_zero _)⟩)
  have hbst : bst W b (Int32.ofNat s) = some (p2 e) := by
    show (frp0 (fun i x => F_X9_best_13_1 (fun _ => W) (Int32.ofNat b) (Int32.ofNat s) i x) (Int32.ofNat 9) (fu 0 (Int32.ofNat 9)) 0 (-4)).bind _ = _
    rw [e1]
    rfl
  rcases e2 with ⟨h1, h2⟩ | ⟨m, h1, h2⟩
  · rw [h1] at hbst
    exact .inl ⟨hbst, h2⟩
  · rw [h1] at hbst
    exact .inr ⟨m, hbst, h2⟩
/-- moves, told as a number with nine figures -/
def okm (h w s d : Nat) : Bool := d == 8 || decide (d < lim h w s)
def stm (h w s d : Nat) : Int64 := if d = 8 then 0 else stn h w s (Int32.ofNat d)
def mv (h w a : Nat) : Nat → Nat → Option Int64
  | 0, _ => some 0
  | k + 1, j => match mv h w a k (j / 9) with
    | none => none
    | some y => if okm h w (fl a k) (j % 9) = true then some (y ^^^ stm h w (fl a k) (j % 9)) else none
theorem d9_k : ∀ a, a < 9 → ∀ b, b < 9 → ∀ c, c < 81 → Int32.ofNat (81 * (9 * a + b) + c) / 9 = Int32.ofNat ((81 * (9 * a + b) + c) / 9) ∧ Int32.ofNat (81 * (9 * a + b) + c) - Int32.ofNat (81 * (9 * a + b) + c) / 9 * 9 = Int32.ofNat ((81 * (9 * a + b) + c) % 9) := by decide +kernel
theorem d9_t (j : Nat) (hj : j < 6561) : Int32.ofNat j / 9 = Int32.ofNat (j / 9) ∧ Int32.ofNat j - Int32.ofNat j / 9 * 9 = Int32.ofNat (j % 9) := by
  have := d9_k (j / 729) (by omega) (j / 81 % 9) (by omega) (j % 81) (by omega)
  rw [show 81 * (9 * (j / 729) + j / 81 % 9) + j % 81 = j by omega] at this
  exact this
theorem isMove_ok {h w s d : Nat} (hC : Cl h w) (hs : s < 2) (hd : d < 9) {I : WI} (i1 : I 33 0 = Int32.ofNat h) (i2 : I 33 1 = Int32.ofNat w) : F_X9_isMove I (Int32.ofNat s) (Int32.ofNat d) = if okm h w s d = true then 1 else 0 := by
  obtain ⟨⟨h1, h2⟩, h3, h4⟩ := hC
  unfold F_X9_isMove F_X9_isMove_25 F_X9_isMove_22 F_X9_isMove_25 F_X9_isMove_30 okm lim
  by_cases c : d = 8
  · rw [if_pos (show Int32.ofNat d = 8 by rw [c]; rfl), if_pos (by simp [c])]
  · rw [if_neg (show ¬ Int32.ofNat d = 8 from fun z => c (on_inj (b := 8) (by omega) (by decide) z)), i1, i2]
    rcases (show s = 0 ∨ s = 1 by omega) with rfl | rfl
    · rw [if_pos (show Int32.ofNat 0 = 0 from rfl)]
      by_cases q : w ≤ d
      · rw [if_pos (show Int32.ofNat w ≤ Int32.ofNat d from (ge_on (by omega) (by omega)).mpr q), if_neg (by simp; omega)]
      · rw [if_neg (show ¬ Int32.ofNat w ≤ Int32.ofNat d from fun z => q ((ge_on (by omega) (by omega)).mp z)), if_pos (by simp; omega)]
    · rw [if_neg (show ¬ Int32.ofNat 1 = 0 by decide)]
      by_cases q : h ≤ d
      · rw [if_pos (show Int32.ofNat h ≤ Int32.ofNat d from (ge_on (by omega) (by omega)).mpr q), if_neg (by simp; omega)]
      · rw [if_neg (show ¬ Int32.ofNat h ≤ Int32.ofNat d from fun z => q ((ge_on (by omega) (by omega)).mp z)), if_pos (by simp; omega)]
theorem p9_lt : ∀ k, k ≤ 4 → 9 ^ k ≤ 6561 := by decide
/-- a leaf's worth -/
theorem worth_step {h w a t j : Nat} (hC : Cl h w) (ha : a < 2) (ht : t < 4) (hj : j < 6561) {I : WI} {L : WL} {y : Int64} {b : Bool} {a1 a2' : Int32} (i1 : I 33 0 = Int32.ofNat h) (i2 : I 33 1 = Int32.ofNat w) : F_X9_worthOf_17_1 I L a1 a2' (Int32.ofNat a) y (Int32.ofNat j) (if b = true then 1 else 0) (Int32.ofNat t) = some (.inr (y ^^^ (if (b && okm h w (fl a t) (j % 9)) = true then stm h w (fl a t) (j % 9) else 0), Int32.ofNat (j / 9), (if (b && okm h w (fl a t) (j % 9)) = true then 1 else 0), Int32.ofNat t + (-1))) := by
  obtain ⟨q1, q2⟩ := d9_t j hj
  have hs := fl_lt (a := a) (t := t) ha
  have hd : j % 9 < 9 := Nat.mod_lt _ (by decide)
  have h43 : F_X9_worthOf_17_1 I L a1 a2' (Int32.ofNat a) y (Int32.ofNat j) (if b = true then 1 else 0) (Int32.ofNat t) = F_X9_worthOf_43_1 I L a1 a2' (Int32.ofNat a) y (Int32.ofNat j) (if b = true then 1 else 0) (Int32.ofNat t) (Int32.ofNat (fl a t)) := by
    rw [← sd_fl a ha t ht]
    unfold F_X9_worthOf_17_1 F_X9_worthOf_34_1 sd
    rw [if_neg (show ¬ Int32.ofNat t < 0 from fun z => absurd ((lt_onn (b := 0) (by omega) (by decide)).mp z) (by omega))]
    by_cases c : (Int32.ofNat t - Int32.ofNat t / 2 * 2) = 0
    · rw [if_pos c, if_pos c]
      by_cases d : (1 : Int32) = Int32.ofNat a
      · rw [if_pos d, if_pos d]
      · rw [if_neg d, if_neg d]
    · rw [if_neg c, if_neg c]
      by_cases d : (0 : Int32) = Int32.ofNat a
      · rw [if_pos d, if_pos d]
      · rw [if_neg d, if_neg d]
  rw [h43]
  unfold F_X9_worthOf_43_1 F_X9_worthOf_79_1
  rw [q2, q1, isMove_ok hC hs hd i1 i2]
  have hbad : F_X9_worthOf_80_1 I L a1 a2' (Int32.ofNat a) y (Int32.ofNat (j / 9)) (Int32.ofNat t) (Int32.ofNat (fl a t)) (Int32.ofNat (j % 9)) 0 = some (.inr (y ^^^ 0, Int32.ofNat (j / 9), 0, Int32.ofNat t + (-1))) := by
    unfold F_X9_worthOf_80_1 F_X9_worthOf_115_1 F_X9_worthOf_116_1
    rw [if_pos rfl]
  cases b with
  | false =>
    rw [if_neg (show ¬ false = true by decide), if_pos rfl, hbad, Bool.false_and, if_neg (show ¬ false = true by decide), if_neg (show ¬ false = true by decide)]
  | true =>
    rw [if_pos (show true = true from rfl), if_neg (show ¬ (1 : Int32) = 0 by decide), Bool.true_and]
    by_cases c : okm h w (fl a t) (j % 9) = true
    · rw [if_pos c, if_neg (show ¬ (1 : Int32) = 0 by decide), if_pos c]
      unfold F_X9_worthOf_80_1 F_X9_worthOf_115_1 F_X9_worthOf_107_1 F_X9_worthOf_116_1 stm stn
      rw [if_neg (show ¬ (1 : Int32) = 0 by decide)]
      by_cases c8 : j % 9 = 8
      · rw [if_pos (show (8 : Int32) ≤ Int32.ofNat (j % 9) from (ge_on (a := 8) (by decide) (by omega)).mpr (by omega)), if_pos c8]
      · rw [if_neg (show ¬ (8 : Int32) ≤ Int32.ofNat (j % 9) from fun z => absurd ((ge_on (a := 8) (by decide) (by omega)).mp z) (by omega)), if_neg c8, actSet_cw I, actSet_cw I, i1, i2]
        generalize fl a t = s at hs ⊢
        rcases (show s = 0 ∨ s = 1 by omega) with rfl | rfl
        · rw [if_pos (show Int32.ofNat 0 = 0 from rfl), if_pos rfl]
        · rw [if_neg (show ¬ Int32.ofNat 1 = 0 by decide), if_neg (show ¬ (1 : Nat) = 0 by decide)]
    · rw [if_neg c, if_pos rfl, if_neg c, hbad]
theorem worth_lp {h w a : Nat} (hC : Cl h w) (ha : a < 2) {I : WI} {L : WL} {a1 a2' : Int32} (i1 : I 33 0 = Int32.ofNat h) (i2 : I 33 1 = Int32.ofNat w) : ∀ (k j : Nat) (y : Int64) (b : Bool) (fuel : Nat), k ≤ 4 → j < 9 ^ k → k < fuel → ∃ y' b', lpp (fun x => F_X9_worthOf_17_1 I L a1 a2' (Int32.ofNat a) (p1 x) (p1 (p2 x)) (p1 (p2 (p2 x))) (p2 (p2 (p2 x)))) fuel (y, Int32.ofNat j, (if b = true then 1 else 0), A5 k) = some (y', if b' = true then 1 else 0) ∧ ((b' = true ∧ b = true ∧ ∃ z, mv h w a k j = some z ∧ y' = y ^^^ z) ∨ (b' = false ∧ (b = false ∨ mv h w a k j = none))) := by
  intro k
  induction k with
  | zero =>
    intro j y b fuel _ hj hf
    obtain ⟨fuel, rfl⟩ : ∃ g, fuel = g + 1 := ⟨fuel - 1, by omega⟩
    refine ⟨y, b, lpp_l (f := fun x : Int64 × Int32 × Int32 × Int32 => F_X9_worthOf_17_1 I L a1 a2' (Int32.ofNat a) (p1 x) (p1 (p2 x)) (p1 (p2 (p2 x))) (p2 (p2 (p2 x)))) (s := (y, Int32.ofNat j, (if b = true then 1 else 0), A5 0)) ?_, ?_⟩
    · show F_X9_worthOf_17_1 I L a1 a2' (Int32.ofNat a) y (Int32.ofNat j) (if b = true then 1 else 0) (-1) = _
      unfold F_X9_worthOf_17_1
      rw [if_pos (by decide)]
    · cases b with
      | true => exact .inl ⟨rfl, rfl, 0, rfl, by rw [Int64.xor_zero]⟩
      | false => exact .inr ⟨rfl, .inl rfl⟩
  | succ k ih =>
    intro j y b fuel hk hj hf
    obtain ⟨fuel, rfl⟩ : ∃ g, fuel = g + 1 := ⟨fuel - 1, by omega⟩
    have hp := p9_lt (k + 1) hk
    have hj9 : j / 9 < 9 ^ k := by
      rw [Nat.pow_succ] at hj
      omega
    have e := worth_step (y := y) (b := b) (L := L) (a1 := a1) (a2' := a2') hC ha (show k < 4 by omega) (show j < 6561 by omega) i1 i2
    rw [lpp_r (f := fun x : Int64 × Int32 × Int32 × Int32 => F_X9_worthOf_17_1 I L a1 a2' (Int32.ofNat a) (p1 x) (p1 (p2 x)) (p1 (p2 (p2 x))) (p2 (p2 (p2 x)))) (s := (y, Int32.ofNat j, (if b = true then 1 else 0), A5 (k + 1))) e, show Int32.ofNat k + (-1) = A5 k from A5_step k (by omega)]
    obtain ⟨y', b', r1, r2⟩ := ih (j / 9) (y ^^^ (if (b && okm h w (fl a k) (j % 9)) = true then stm h w (fl a k) (j % 9) else 0)) (b && okm h w (fl a k) (j % 9)) fuel (by omega) hj9 (by omega)
    refine ⟨y', b', r1, ?_⟩
    rcases r2 with ⟨h1, h2, z, hz, h3⟩ | ⟨h1, h2⟩
    · rw [h2, if_pos rfl] at h3
      rw [Bool.and_eq_true] at h2
      refine .inl ⟨h1, h2.1, z ^^^ stm h w (fl a k) (j % 9), ?_, ?_⟩
      · unfold mv
        rw [hz]
        show (if okm h w (fl a k) (j % 9) = true then some (z ^^^ stm h w (fl a k) (j % 9)) else none) = _
        rw [if_pos h2.2]
      · rw [h3, Int64.xor_assoc, Int64.xor_comm z]
    · refine .inr ⟨h1, ?_⟩
      cases b with
      | false => exact .inl rfl
      | true =>
        right
        unfold mv
        rcases h2 with h2 | h2
        · rw [Bool.true_and] at h2
          cases mv h w a k (j / 9) with
          | none => rfl
          | some z =>
            show (if okm h w (fl a k) (j % 9) = true then _ else none) = none
            rw [h2, if_neg (by decide)]
        · rw [h2]
/-- what stands in the table, level by level -/
def valk (h w a n : Nat) (x : Int64) (k j : Nat) : Int32 := match mv h w a k j with
  | none => -4
  | some z => Vv h w a (n - k) k (x ^^^ z)
theorem worth_eq {h w a n j : Nat} (hC : Cl h w) (ha : a < 2) (hn : n ≤ 4) (h1 : 1 ≤ n) (hj : j < 9 ^ n) {I : WI} {L : WL} {x : Int64} (i1 : I 33 0 = Int32.ofNat h) (i2 : I 33 1 = Int32.ofNat w) (l : L 33 2 = x) : F_X9_worthOf I L (Int32.ofNat j) (Int32.ofNat n) (Int32.ofNat a) = some (valk h w a n x n j) := by
  obtain ⟨y', b', r1, r2⟩ := worth_lp (L := L) (a1 := Int32.ofNat j) (a2' := Int32.ofNat n) hC ha i1 i2 n j x true 4294967296 hn hj (by omega)
  unfold F_X9_worthOf F_X9_worthOf_17
  rw [l, A5_sub n hn h1]
  have r1' : lpp (fun x => F_X9_worthOf_17_1 I L (Int32.ofNat j) (Int32.ofNat n) (Int32.ofNat a) (p1 x) (p1 (p2 x)) (p1 (p2 (p2 x))) (p2 (p2 (p2 x)))) 4294967296 (x, Int32.ofNat j, 1, A5 n) = some (y', if b' = true then 1 else 0) := r1
  rw [r1', ob_some]
  unfold F_X9_worthOf_125 F_X9_worthOf_140 valk
  show (if (if b' = true then (1 : Int32) else 0) = 0 then some (-4) else some (F_X9_many y')) = _
  rcases r2 with ⟨h1, -, z, hz, h3⟩ | ⟨h1, h2⟩
  · rw [h1, if_pos rfl, if_neg (show ¬ (1 : Int32) = 0 by decide), hz, h3, Nat.sub_self]
    rfl
  · have h2 := h2.resolve_left (by decide)
    rw [h1, if_pos (show (if false = true then (1 : Int32) else 0) = 0 by decide), h2]
theorem mv_s {h w a k j : Nat} : mv h w a (k + 1) j = (match mv h w a k (j / 9) with
  | none => none
  | some y => if okm h w (fl a k) (j % 9) = true then some (y ^^^ stm h w (fl a k) (j % 9)) else none) := rfl
theorem valk_child {h w a n k j d : Nat} {x : Int64} (hd : d < 9) : valk h w a n x (k + 1) (9 * j + d) = match mv h w a k j with
    | none => -4
    | some z => if okm h w (fl a k) d = true then Vv h w a (n - (k + 1)) (k + 1) ((x ^^^ z) ^^^ stm h w (fl a k) d) else -4 := by
  unfold valk
  rw [mv_s, show (9 * j + d) / 9 = j by omega, show (9 * j + d) % 9 = d by omega]
  cases mv h w a k j with
  | none => rfl
  | some z =>
    show (match (if okm h w (fl a k) d = true then some (z ^^^ stm h w (fl a k) d) else none) with
      | none => (-4 : Int32)
      | some z => Vv h w a (n - (k + 1)) (k + 1) (x ^^^ z)) = if okm h w (fl a k) d = true then _ else -4
    by_cases c : okm h w (fl a k) d = true
    · rw [if_pos c, if_pos c, Int64.xor_assoc]
    · rw [if_neg c, if_neg c]
/-- a level: the best of nine is what the loop finds -/
theorem node {h w a n k j : Nat} (hC : Cl h w) (ha : a < 2) (hk : k < n) (hn : n ≤ 4) (hj : j < 9 ^ k) {x : Int64} {W : Nat → Int32} (hW : ∀ q, q < 9 ^ (k + 1) → W q = valk h w a n x (k + 1) q) : (mv h w a k j = none ∧ bst W (9 * j) (Int32.ofNat (fl a k)) = some (-4)) ∨ ∃ z m, mv h w a k j = some z ∧ bst W (9 * j) (Int32.ofNat (fl a k)) = some (Int32.ofNat m) ∧ Bst (fl a k) (fun d => Vv h w a (n - (k + 1)) (k + 1) ((x ^^^ z) ^^^ stm h w (fl a k) d)) (fun d => okm h w (fl a k) d = true) 9 m ∧ W (9 * j + m) = Vv h w a (n - k) k (x ^^^ z) := by
  have hs := fl_lt (a := a) (t := k) ha
  have hp := p9_lt (k + 1) (by omega)
  have hjj : 9 * j + 8 < 9 ^ (k + 1) := by
    rw [Nat.pow_succ]
    omega
  have hWd : ∀ d, d < 9 → W (9 * j + d) = match mv h w a k j with
      | none => -4
      | some z => if okm h w (fl a k) d = true then Vv h w a (n - (k + 1)) (k + 1) ((x ^^^ z) ^^^ stm h w (fl a k) d) else -4 := fun d hd => by
    rw [hW _ (by omega), valk_child hd]
  cases hz : mv h w a k j with
  | none =>
    rw [hz] at hWd
    rcases bst_B (W := W) (b := 9 * j) hs (by omega) with ⟨e1, -⟩ | ⟨m, -, m1, m2, -⟩
    · exact .inl ⟨rfl, e1⟩
    · exact absurd (hWd m m1) m2
  | some z =>
    rw [hz] at hWd
    have hWo : ∀ d, d < 9 → okm h w (fl a k) d = true → W (9 * j + d) = Vv h w a (n - (k + 1)) (k + 1) ((x ^^^ z) ^^^ stm h w (fl a k) d) := fun d hd ok => (hWd d hd).trans (if_pos ok)
    have hWn : ∀ d, d < 9 → ¬ okm h w (fl a k) d = true → W (9 * j + d) = -4 := fun d hd ok => (hWd d hd).trans (if_neg ok)
    have hne : ∀ d, d < 9 → (W (9 * j + d) ≠ -4 ↔ okm h w (fl a k) d = true) := fun d hd => by
      by_cases ok : okm h w (fl a k) d = true
      · rw [hWo d hd ok]
        obtain ⟨c, c1, c2⟩ := Vv_64 (h := h) (w := w) (a := a) (n - (k + 1)) (k + 1) ((x ^^^ z) ^^^ stm h w (fl a k) d)
        rw [c2]
        exact ⟨fun _ => ok, fun _ => ofn4 c1⟩
      · exact ⟨fun q => absurd (hWn d hd ok) q, fun q => absurd q ok⟩
    have ok8 : okm h w (fl a k) 8 = true := rfl
    rcases bst_B (W := W) (b := 9 * j) hs (by omega) with ⟨-, e2⟩ | ⟨m, e1, m1, m2, m3, m4⟩
    · exact absurd (e2 8 (by decide)) ((hne 8 (by decide)).mpr ok8)
    · have okm' := (hne m m1).mp m2
      have hB : Bst (fl a k) (fun d => Vv h w a (n - (k + 1)) (k + 1) ((x ^^^ z) ^^^ stm h w (fl a k) d)) (fun d => okm h w (fl a k) d = true) 9 m := by
        refine ⟨m1, okm', fun d hd ok => ?_, fun d hd ok => ?_⟩
        · have := m3 d hd ((hne d hd).mpr ok)
          simp only [hWo m m1 okm', hWo d hd ok] at this
          exact this
        · have := m4 d hd ((hne d (by omega)).mpr ok)
          simp only [hWo m m1 okm', hWo d (by omega) ok] at this
          exact this
      refine .inr ⟨z, m, rfl, e1, hB, ?_⟩
      rw [hWo m m1 okm']
      obtain ⟨b1, b2, b3⟩ := Vv_best (h := h) (w := w) (u := n - (k + 1)) (t := k) (y := x ^^^ z) ha
      rw [show n - (k + 1) + 1 = n - k by omega] at b1 b2 b3
      have hl8 := lim_8 (s := fl a k) hC
      have v8 : Vv h w a (n - (k + 1)) (k + 1) ((x ^^^ z) ^^^ stm h w (fl a k) 8) = Vv h w a (n - (k + 1)) (k + 1) (x ^^^ z) := by
        unfold stm
        rw [if_pos rfl, Int64.xor_zero]
      have vi : ∀ i, i < lim h w (fl a k) → okm h w (fl a k) i = true ∧ stm h w (fl a k) i = stn h w (fl a k) (Int32.ofNat i) := fun i hi => by
        refine ⟨by unfold okm; simp [hi], ?_⟩
        unfold stm
        rw [if_neg (by omega)]
      refine lep_anti (s := fl a k) ?_ ?_
      · rcases b1 with b1 | ⟨i, hi, b1⟩
        · rw [b1, ← v8]
          exact hB.2.2.1 8 (by decide) ok8
        · rw [b1, ← (vi i hi).2]
          exact hB.2.2.1 i (by omega) (vi i hi).1
      · by_cases c8 : m = 8
        · rw [c8, v8]
          exact b2
        · have hmi : m < lim h w (fl a k) := by
            unfold okm at okm'
            simp [c8] at okm'
            exact okm'
          rw [(vi m hmi).2]
          exact b3 m hmi
theorem lv_val {h w a n k : Nat} (hC : Cl h w) (ha : a < 2) (hk : k < n) (hn : n ≤ 4) {x : Int64} {W : Nat → Int32} (hW : ∀ q, q < 9 ^ (k + 1) → W q = valk h w a n x (k + 1) q) : ∀ j, j < 9 ^ k → lv (9 ^ k) (sd (Int32.ofNat a) (Int32.ofNat k)) W j = valk h w a n x k j := fun j hj => by
  unfold lv
  rw [if_pos hj, sd_fl a ha k (by omega)]
  unfold mx valk
  rcases node hC ha hk hn hj hW with ⟨e1, e2⟩ | ⟨z, m, e1, e2, e3, e4⟩
  · rw [e1, e2]
    rfl
  · rw [e1, e2]
    show (if Int32.ofNat m = -4 then -4 else W (9 * j + (Int32.ofNat m).toNatClampNeg)) = _
    have := e3.1
    rw [if_neg (ofn4 (by omega)), on_clamp (by omega), e4]
/-- all levels: the root, and the first move -/
theorem tree {h w a n : Nat} (hC : Cl h w) (ha : a < 2) (hn : n ≤ 4) {x : Int64} : ∀ k, k ≤ n → ∀ W : Nat → Int32, (∀ q, q < 9 ^ k → W q = valk h w a n x k q) → TT (Int32.ofNat a) k W 0 = Vv h w a n 0 x ∧ (1 ≤ k → ∃ m, FM (Int32.ofNat a) k W = some (Int32.ofNat m) ∧ Bst (fl a 0) (fun d => Vv h w a (n - 1) 1 (x ^^^ stm h w (fl a 0) d)) (fun d => okm h w (fl a 0) d = true) 9 m) := by
  intro k
  induction k with
  | zero =>
    intro _ W hW
    refine ⟨?_, fun z => absurd z (by decide)⟩
    show W 0 = _
    rw [hW 0 (by decide)]
    unfold valk mv
    show Vv h w a (n - 0) 0 (x ^^^ 0) = _
    rw [Int64.xor_zero, Nat.sub_zero]
  | succ k ih =>
    intro hk W hW
    have hlv := lv_val hC ha (show k < n by omega) hn hW
    obtain ⟨i1, i2⟩ := ih (by omega) (lv (9 ^ k) (sd (Int32.ofNat a) (Int32.ofNat k)) W) hlv
    refine ⟨i1, fun _ => ?_⟩
    cases k with
    | zero =>
      rcases node (j := 0) hC ha (show 0 < n by omega) hn (by decide) hW with ⟨e1, -⟩ | ⟨z, m, e1, e2, e3, -⟩
      · cases e1
      · have hz : (0 : Int64) = z := Option.some.inj e1
        refine ⟨m, ?_, ?_⟩
        · show bst W 0 (sd (Int32.ofNat a) 0) = _
          have := sd_fl a ha 0 (by decide)
          rw [show (0 : Int32) = Int32.ofNat 0 from rfl, this]
          exact e2
        · rw [← hz] at e3
          simp only [Int64.xor_zero, Nat.zero_add] at e3
          exact e3
    | succ k =>
      show ∃ m, FM (Int32.ofNat a) (k + 1) (lv (9 ^ (k + 1)) (sd (Int32.ofNat a) (Int32.ofNat (k + 1))) W) = some (Int32.ofNat m) ∧ _
      exact i2 (by omega)
/-- the class's first move -/
theorem duel_class {h w a n q : Nat} (hC : Cl h w) (ha : a < 2) (h1 : 1 ≤ n) (hn : n ≤ 4) (hq : q < 2) {I : WI} {L : WL} {x : Int64} (i1 : I 1 1 = Int32.ofNat h) (i2 : I 1 2 = Int32.ofNat w) (l : L 1 3 = x) : ∃ m, Bst (fl a 0) (fun d => Vv h w a (n - 1) 1 (x ^^^ stm h w (fl a 0) d)) (fun d => okm h w (fl a 0) d = true) 9 m ∧ F_X8_duel I L (Int32.ofNat n) (Int32.ofNat a) (Int32.ofNat q) = some (if q = 0 then Vv h w a (n - 1) 1 (x ^^^ stm h w (fl a 0) m) else Int32.ofNat m) := by
  have f0 : fl a 0 = a := rfl
  have hl8 := lim_8 (s := a) hC
  obtain ⟨-, -, g3⟩ := G_V hC ha i1 i2
  have hsub : Int32.ofNat n - 1 = Int32.ofNat (n - 1) := on_sub (b := 1) h1
  have h3 : (Int32.ofNat (n - 1)).toInt ≤ 3 := by
    rw [on_toInt (by omega)]
    omega
  have hnx : (if Int32.ofNat a = 0 then (1 : Int32) else 0) = Int32.ofNat (fl a 1) := fl_next a ha 0 (by decide)
  have vi : ∀ i, i < lim h w a → okm h w a i = true ∧ stm h w a i = stn h w a (Int32.ofNat i) := fun i hi => by
    refine ⟨by unfold okm; simp [hi], ?_⟩
    unfold stm
    rw [if_neg (by omega)]
  have h56 : ∀ (a4 : Int32) i b1 b2, a4 = (if Int32.ofNat a = 0 then 1 else 0) → F_X8_duel_56_1 I L (Int32.ofNat n) (Int32.ofNat a) (Int32.ofNat q) a4 (Int32.ofNat i) b1 b2 = if b1 = 8 then some (Int32.ofNat i, Vv h w a (n - 1) 1 (x ^^^ stn h w a (Int32.ofNat i))) else if lep a b2 (Vv h w a (n - 1) 1 (x ^^^ stn h w a (Int32.ofNat i))) then some (b1, b2) else some (Int32.ofNat i, Vv h w a (n - 1) 1 (x ^^^ stn h w a (Int32.ofNat i))) := fun a4 i b1 b2 h4 => by
    have e91 : F_X8_duel_56_1 I L (Int32.ofNat n) (Int32.ofNat a) (Int32.ofNat q) a4 (Int32.ofNat i) b1 b2 = F_X8_duel_91_1 I L (Int32.ofNat n) (Int32.ofNat a) (Int32.ofNat q) a4 (Int32.ofNat i) b1 b2 (Int32.ofNat (fl a 1)) (Int32.ofNat (n - 1)) (x ^^^ stn h w a (Int32.ofNat i)) := by
      unfold F_X8_duel_56_1
      rw [h4, set_of hC ha i1 i2, l, hsub, ← hnx]
      split <;> rfl
    rw [e91]
    unfold F_X8_duel_91_1 F_X8_duel_114_1 F_X8_duel_122_1
    rw [if_pos h3, g3 (n - 1) 1 _ (by omega) (by omega)]
    by_cases c : b1 = 8
    · rw [if_pos c, if_pos c]
    · rw [if_neg c, if_neg c]
      by_cases c2 : lep a b2 (Vv h w a (n - 1) 1 (x ^^^ stn h w a (Int32.ofNat i)))
      · rw [if_pos c2, if_pos ((isB_le ha).mpr c2)]
      · rw [if_neg c2, if_neg (fun z => c2 ((isB_le ha).mp z))]
  obtain ⟨e, r1, r2⟩ := frp0_nat (g := fun i y => F_X8_duel_56_1 I L (Int32.ofNat n) (Int32.ofNat a) (Int32.ofNat q) (if Int32.ofNat a = 0 then 1 else 0) i (p1 y) (p2 y)) (b := lim h w a) (by omega) (fun i y => (i = 0 ∧ y = (8, 0)) ∨ ∃ m, p1 y = Int32.ofNat m ∧ p2 y = Vv h w a (n - 1) 1 (x ^^^ stm h w a m) ∧ Bst a (fun d => Vv h w a (n - 1) 1 (x ^^^ stm h w a d)) (fun d => okm h w a d = true) i m) (s := (8, 0)) (fun i y hi hy => by
    show ∃ s', F_X8_duel_56_1 I L (Int32.ofNat n) (Int32.ofNat a) (Int32.ofNat q) (if Int32.ofNat a = 0 then 1 else 0) (Int32.ofNat i) (p1 y) (p2 y) = some s' ∧ _
    rw [h56 _ i _ _ rfl]
    obtain ⟨v1, v2⟩ := vi i hi
    rcases hy with ⟨c0, hy⟩ | ⟨m, m1, m2, m3, m4, m5, m6⟩
    · rw [hy, if_pos (show p1 ((8 : Int32), (0 : Int32)) = 8 from rfl)]
      refine ⟨_, rfl, .inr ⟨i, rfl, by rw [v2]; rfl, by omega, v1, fun d hd ok => ?_, fun d hd ok => by omega⟩⟩
      rw [show d = i by omega]
      exact lep_refl
    · rw [m1, if_neg (show ¬ Int32.ofNat m = 8 from fun z => absurd (on_inj (b := 8) (by omega) (by decide) z) (by omega)), m2, ← v2]
      by_cases c : lep a (Vv h w a (n - 1) 1 (x ^^^ stm h w a m)) (Vv h w a (n - 1) 1 (x ^^^ stm h w a i))
      · rw [if_pos c]
        refine ⟨_, rfl, .inr ⟨m, rfl, rfl, by omega, m4, fun d hd ok => ?_, m6⟩⟩
        by_cases cd : d = i
        · rw [cd]
          exact c
        · exact m5 d (by omega) ok
      · rw [if_neg c]
        refine ⟨_, rfl, .inr ⟨i, rfl, rfl, by omega, v1, fun d hd ok => ?_, fun d hd ok z => c (lep_trans (m5 d hd ok) z)⟩⟩
        by_cases cd : d = i
        · rw [cd]
          exact lep_refl
        · exact lep_trans (lep_not c) (m5 d (by omega) ok)) (.inl ⟨rfl, rfl⟩)
  have r2' := r2.resolve_left (fun z => by omega)
  obtain ⟨m, m1, m2, m3, m4, m5, m6⟩ := r2'
  have v8 : Vv h w a (n - 1) 1 (x ^^^ stm h w a 8) = Vv h w a (n - 1) 1 x := by
    unfold stm
    rw [if_pos rfl, Int64.xor_zero]
  have e30 : F_X8_duel I L (Int32.ofNat n) (Int32.ofNat a) (Int32.ofNat q) = F_X8_duel_128 I L (Int32.ofNat n) (Int32.ofNat a) (Int32.ofNat q) (p1 (p2 e)) (p2 (p2 e)) := by
    have ek : F_X8_duel I L (Int32.ofNat n) (Int32.ofNat a) (Int32.ofNat q) = F_X8_duel_30 I L (Int32.ofNat n) (Int32.ofNat a) (Int32.ofNat q) (if Int32.ofNat a = 0 then 1 else 0) := by
      unfold F_X8_duel
      rw [if_neg (show ¬ Int32.ofNat n < 1 from fun z => absurd ((lt_onn (b := 1) (by omega) (by decide)).mp z) (by omega)), if_neg (show ¬ (4 : Int32) < Int32.ofNat n from fun z => absurd ((lt_onn (a := 4) (by decide) (by omega)).mp z) (by omega)), if_neg (show ¬ Int32.ofNat q < 0 from fun z => absurd ((lt_onn (b := 0) (by omega) (by decide)).mp z) (by omega)), if_pos (show Int32.ofNat q ≤ 1 from (ge_on (b := 1) (by omega) (by decide)).mpr (by omega))]
      split <;> rfl
    rw [ek]
    unfold F_X8_duel_30 F_X8_duel_42
    rw [lines_of ha i1 i2]
    show (frp0 (fun i y => F_X8_duel_56_1 I L (Int32.ofNat n) (Int32.ofNat a) (Int32.ofNat q) (if Int32.ofNat a = 0 then 1 else 0) i (p1 y) (p2 y)) (Int32.ofNat (lim h w a)) (fu 0 (Int32.ofNat (lim h w a))) 0 (8, 0)).bind _ = _
    rw [r1, ob_some]
  have e151 : F_X8_duel_128 I L (Int32.ofNat n) (Int32.ofNat a) (Int32.ofNat q) (p1 (p2 e)) (p2 (p2 e)) = if lep a (p2 (p2 e)) (Vv h w a (n - 1) 1 x) then F_X8_duel_175 I L (Int32.ofNat n) (Int32.ofNat a) (Int32.ofNat q) (p1 (p2 e)) (p2 (p2 e)) else F_X8_duel_175 I L (Int32.ofNat n) (Int32.ofNat a) (Int32.ofNat q) 8 (Vv h w a (n - 1) 1 x) := by
    have ee : F_X8_duel_128 I L (Int32.ofNat n) (Int32.ofNat a) (Int32.ofNat q) (p1 (p2 e)) (p2 (p2 e)) = F_X8_duel_151 I L (Int32.ofNat n) (Int32.ofNat a) (Int32.ofNat q) (p1 (p2 e)) (p2 (p2 e)) (Int32.ofNat (fl a 1)) (Int32.ofNat (n - 1)) x := by
      unfold F_X8_duel_128
      rw [hsub, l, ← hnx]
      split <;> rfl
    rw [ee]
    unfold F_X8_duel_151
    rw [if_pos h3, g3 (n - 1) 1 _ (by omega) (by omega)]
    by_cases c2 : lep a (p2 (p2 e)) (Vv h w a (n - 1) 1 x)
    · rw [if_pos c2, if_pos ((isB_le ha).mpr c2)]
    · rw [if_neg c2, if_neg (fun z => c2 ((isB_le ha).mp z))]
  have e186 : ∀ c1 c2, F_X8_duel_175 I L (Int32.ofNat n) (Int32.ofNat a) (Int32.ofNat q) c1 c2 = some (if q = 0 then c2 else c1) := fun c1 c2 => by
    unfold F_X8_duel_175 F_X8_duel_186
    rcases (show q = 0 ∨ q = 1 by omega) with rfl | rfl
    · rw [if_pos (show Int32.ofNat 0 = 0 from rfl), if_pos rfl]
    · rw [if_neg (show ¬ Int32.ofNat 1 = 0 by decide), if_neg (by decide)]
  have hnine : ∀ d, d < 9 → okm h w a d = true → d < lim h w a ∨ d = 8 := fun d hd ok => by
    unfold okm at ok
    by_cases c : d = 8
    · exact .inr c
    · simp [c] at ok
      exact .inl ok
  rw [f0, e30, e151]
  by_cases c : lep a (p2 (p2 e)) (Vv h w a (n - 1) 1 x)
  · rw [if_pos c, e186, m1, m2]
    rw [m2] at c
    refine ⟨m, ⟨by omega, m4, fun d hd ok => ?_, m6⟩, rfl⟩
    show lep a (Vv h w a (n - 1) 1 (x ^^^ stm h w a m)) (Vv h w a (n - 1) 1 (x ^^^ stm h w a d))
    rcases hnine d hd ok with c1 | c1
    · exact m5 d c1 ok
    · rw [c1, v8]
      exact c
  · rw [if_neg c, e186]
    rw [m2] at c
    refine ⟨8, ⟨by decide, rfl, fun d hd ok => ?_, fun d hd ok z => ?_⟩, by rw [v8]; rfl⟩
    · show lep a (Vv h w a (n - 1) 1 (x ^^^ stm h w a 8)) (Vv h w a (n - 1) 1 (x ^^^ stm h w a d))
      rw [v8]
      rcases hnine d hd ok with c1 | c1
      · exact lep_trans (lep_not c) (m5 d c1 ok)
      · rw [c1, v8]
        exact lep_refl
    · have z : lep a (Vv h w a (n - 1) 1 (x ^^^ stm h w a d)) (Vv h w a (n - 1) 1 (x ^^^ stm h w a 8)) := z
      rw [v8] at z
      rcases hnine d (by omega) ok with c1 | c1
      · exact c (lep_trans (m5 d c1 ok) z)
      · omega
theorem nz_01 (a : Int32) : ∃ b, b < 2 ∧ nz a = Int32.ofNat b := by
  unfold nz
  split
  · exact ⟨0, by decide, rfl⟩
  · exact ⟨1, by decide, rfl⟩
theorem E_22 {I : WI} {L : WL} {a1 a2 a3 : Int32} (H : Inv I L) : ∃ v, (F_X8_duel I L a1 (nz a2) a3) = some v ∧ ∃ w, (F_X9_duel I L a1 (nz a2) a3) = some w ∧ v = (p1 w) ∧ Inv (p2 w) L := by
  obtain ⟨v, e, w', e', g⟩ := N_22 (a1 := a1) (a2 := a2) (a3 := a3) H
  refine ⟨v, e, w', e', ?_, g⟩
  obtain ⟨⟨h, w, ⟨hC, i11, i12, i330, i331, l332, hIns, i10⟩, -⟩, -⟩ := H
  obtain ⟨a, ha, hnz⟩ := nz_01 a2
  rw [hnz] at e e'
  by_cases c : (1 ≤ a1.toInt ∧ a1.toInt ≤ 4) ∧ 0 ≤ a3.toInt ∧ a3.toInt ≤ 1
  · obtain ⟨n, rfl, hn, -⟩ := nn (show 0 ≤ a1.toInt by omega)
    obtain ⟨q, rfl, hq, -⟩ := nn c.2.1
    rw [hn, hq] at c
    obtain ⟨m, m1, m2⟩ := duel_class (n := n) (q := q) hC ha (by omega) (by omega) (by omega) i11 i12 (rfl : L 1 3 = L 1 3)
    obtain ⟨v', d1, d2⟩ := duel_eq (I := I) (L := L) (a2 := Int32.ofNat a) (n := n) (q := q) (w := fun j => valk h w a n (L 1 3) n j) (by omega) (by omega) (by omega) (fun v W j hj => by
      rw [worthOf_tb]
      exact worth_eq hC ha (by omega) (by omega) hj i330 i331 l332)
    obtain ⟨t1, t2⟩ := tree (x := L 1 3) hC ha (show n ≤ 4 by omega) n (Nat.le_refl n) (fun j => if j < 9 ^ n then valk h w a n (L 1 3) n j else I 41 j) (fun z hz => if_pos hz)
    obtain ⟨m', f1, f2⟩ := t2 (by omega)
    rw [m2] at e
    rw [d1] at e'
    rw [← Option.some.inj e, ← Option.some.inj e']
    show (if q = 0 then _ else Int32.ofNat m) = (if q = 0 then _ else v')
    by_cases c0 : q = 0
    · rw [if_pos c0, if_pos c0, t1]
      -- the value at the root is the best of the moves
      obtain ⟨b1, b2, b3⟩ := Vv_best (h := h) (w := w) (u := n - 1) (t := 0) (y := L 1 3) ha
      rw [show n - 1 + 1 = n by omega] at b1 b2 b3
      obtain ⟨x1, x2, x3, -⟩ := m1
      have hl8 := lim_8 (s := fl a 0) hC
      have v8 : Vv h w a (n - 1) 1 (L 1 3 ^^^ stm h w (fl a 0) 8) = Vv h w a (n - 1) 1 (L 1 3) := by
        unfold stm
        rw [if_pos rfl, Int64.xor_zero]
      have vi : ∀ i, i < lim h w (fl a 0) → okm h w (fl a 0) i = true ∧ stm h w (fl a 0) i = stn h w (fl a 0) (Int32.ofNat i) := fun i hi => by
        refine ⟨by unfold okm; simp [hi], ?_⟩
        unfold stm
        rw [if_neg (by omega)]
      refine lep_anti (s := fl a 0) ?_ ?_
      · rcases b1 with b1 | ⟨i, hi, b1⟩
        · rw [b1, ← v8]
          exact x3 8 (by decide) rfl
        · rw [b1, ← (vi i hi).2]
          exact x3 i (by omega) (vi i hi).1
      · by_cases c8 : m = 8
        · rw [c8, v8]
          exact b2
        · have hmi : m < lim h w (fl a 0) := by
            unfold okm at x2
            simp [c8] at x2
            exact x2
          rw [(vi m hmi).2]
          exact b3 m hmi
    · rw [if_neg c0, if_neg c0]
      rw [d2] at f1
      rw [Option.some.inj f1, m1.uniq f2]
  · have x1 : F_X8_duel I L a1 (Int32.ofNat a) a3 = some (-1) := by
      unfold F_X8_duel F_X8_duel_19
      by_cases y1 : a1 < 1
      · rw [if_pos y1]
      · rw [if_neg y1]
        by_cases y2 : (4 : Int32) < a1
        · rw [if_pos y2]
        · rw [if_neg y2]
          by_cases y3 : a3 < 0
          · rw [if_pos y3]
          · rw [if_neg y3]
            by_cases y4 : a3 ≤ 1
            · exfalso
              apply c
              rw [Int32.lt_iff_toInt_lt, z1] at y1
              rw [Int32.lt_iff_toInt_lt, show (4 : Int32).toInt = 4 by decide] at y2
              rw [Int32.lt_iff_toInt_lt, z0] at y3
              rw [Int32.le_iff_toInt_le, z1] at y4
              omega
            · rw [if_neg y4]
    have x2 : F_X9_duel I L a1 (Int32.ofNat a) a3 = some (-1, I) := by
      unfold F_X9_duel F_X9_duel_22
      rw [in_eq, in_eq, i0, i1, show (4 : Int64).toInt = 4 by decide]
      by_cases d : 1 ≤ a1.toInt ∧ a1.toInt ≤ 4
      · rw [if_pos d, if_neg (show ¬ (1 : Int32) = 0 by decide), if_neg (show ¬ (0 ≤ a3.toInt ∧ a3.toInt ≤ 1) from fun e => c ⟨d, e⟩), if_pos rfl]
      · rw [if_neg d, if_pos rfl]
    rw [x1] at e
    rw [x2] at e'
    rw [← Option.some.inj e, ← Option.some.inj e']
    rfl
