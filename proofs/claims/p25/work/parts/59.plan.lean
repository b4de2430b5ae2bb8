/-! the plan: class and reference -/
def pc8 (r : Nat) : Nat := (List.range 8).foldl (fun a i => a + if r.testBit i then 1 else 0) 0
theorem bc_t : ∀ r, r < 256 → F_J6_bitCount_0f7a4 (Int32.ofNat r) = Int32.ofNat (pc8 r) ∧ F_X9_many (Int32.toInt64 (Int32.ofNat r)) = Int32.ofNat (pc8 r) ∧ pc8 r ≤ 8 := by decide +kernel
theorem bc_h : ∀ h, h < 9 → ∀ r, r < 256 → r < 2 ^ h → pc8 r ≤ h := by decide +kernel
def bnot (h r : Nat) : Nat := r ^^^ (2 ^ h - 1)
theorem bnot_t : ∀ h, h < 8 → ∀ r, r < 256 → Int32.ofNat r ^^^ ((1 <<< (Int32.ofNat (h + 1) &&& 31)) - 1) = Int32.ofNat (bnot (h + 1) r) ∧ bnot (h + 1) r < 256 := by decide +kernel
theorem bnot_eq {h r : Nat} (h1 : 1 ≤ h) (h2 : h ≤ 8) (hr : r < 256) : Int32.ofNat r ^^^ ((1 <<< (Int32.ofNat h &&& 31)) - 1) = Int32.ofNat (bnot h r) ∧ bnot h r < 256 := by
  have := bnot_t (h - 1) (by omega) r hr
  rw [show h - 1 + 1 = h by omega] at this
  exact this
def planR (h w r c : Nat) : Nat × Nat := if 2 * (pc8 r + pc8 c) < h + w ∨ (2 * (pc8 r + pc8 c) = h + w ∧ r ≤ bnot h r) then (r, c) else (bnot h r, bnot w c)
theorem planR_lt {h w r c : Nat} (hC : Cl h w) (hr : r < 256) (hc : c < 256) : p1 (planR h w r c) < 256 ∧ p2 (planR h w r c) < 256 := by
  obtain ⟨⟨h1, h2⟩, h3, h4⟩ := hC
  unfold planR
  split
  · exact ⟨hr, hc⟩
  · exact ⟨(bnot_eq h1 h2 hr).2, (bnot_eq h3 h4 hc).2⟩
theorem rows_cq (I : WI) (o : Nat) (x : Int64) : F_X0_rowsUnlikeFirst I o x = F_X0_rowsUnlikeFirst (cq (I o 1) (I o 2)) 1 x := rfl
theorem cols_cq (I : WI) (o : Nat) (x : Int64) : F_X0_columnsOfFirstRow I o x = F_X0_columnsOfFirstRow (cq (I o 1) (I o 2)) 1 x := rfl
theorem plan16 {h w : Nat} (hC : Cl h w) {I : WI} {x : Int64} {s0 : Int32} {r c : Nat} (i1 : I 1 1 = Int32.ofNat h) (i2 : I 1 2 = Int32.ofNat w) (hr : F_X0_rowsUnlikeFirst (cq (Int32.ofNat h) (Int32.ofNat w)) 1 x = Int32.ofNat r) (hc : F_X0_columnsOfFirstRow (cq (Int32.ofNat h) (Int32.ofNat w)) 1 x = Int32.ofNat c) (r1 : r < 2 ^ h) (c1 : c < 2 ^ w) : (F_X7_findPlan_16 I 1 x s0) 27 0 = s0 ∧ (F_X7_findPlan_16 I 1 x s0) 27 1 = Int32.ofNat (p1 (planR h w r c)) ∧ (F_X7_findPlan_16 I 1 x s0) 27 2 = Int32.ofNat (p2 (planR h w r c)) ∧ (F_X7_findPlan_16 I 1 x s0) 27 3 = 0 := by
  obtain ⟨⟨h1, h2⟩, h3, h4⟩ := hC
  have hp : 2 ^ h ≤ 2 ^ 8 := Nat.pow_le_pow_right (by decide) h2
  have hp' : 2 ^ w ≤ 2 ^ 8 := Nat.pow_le_pow_right (by decide) h4
  have hW : F_X7_take (u2 I 27 0 s0) (F_X0_rowsUnlikeFirst (u2 I 27 0 s0) 1 x) (F_X0_columnsOfFirstRow (u2 I 27 0 s0) 1 x) 0 = u2 (u2 (u2 (u2 I 27 0 s0) 27 1 (Int32.ofNat r)) 27 2 (Int32.ofNat c)) 27 3 0 := by
    unfold F_X7_take
    rw [rows_cq, cols_cq, u2_nc (a := 1) (b := 1) (by omega), u2_nc (a := 1) (b := 2) (by omega), i1, i2, hr, hc]
  unfold F_X7_findPlan_16
  rw [hW]
  generalize hV : u2 (u2 (u2 (u2 I 27 0 s0) 27 1 (Int32.ofNat r)) 27 2 (Int32.ofNat c)) 27 3 0 = W
  have w0 : W 27 0 = s0 := by rw [← hV, u2_nc (by omega), u2_nc (by omega), u2_nc (by omega), u2_at]
  have w1 : W 27 1 = Int32.ofNat r := by rw [← hV, u2_nc (by omega), u2_nc (by omega), u2_at]
  have w2 : W 27 2 = Int32.ofNat c := by rw [← hV, u2_nc (by omega), u2_at]
  have w3 : W 27 3 = 0 := by rw [← hV, u2_at]
  have w4 : W 1 1 = Int32.ofNat h := by rw [← hV, u2_nc (by omega), u2_nc (by omega), u2_nc (by omega), u2_nc (by omega), i1]
  have w5 : W 1 2 = Int32.ofNat w := by rw [← hV, u2_nc (by omega), u2_nc (by omega), u2_nc (by omega), u2_nc (by omega), i2]
  obtain ⟨b1, -, b2⟩ := bc_t r (by omega)
  obtain ⟨b3, -, b4⟩ := bc_t c (by omega)
  have b5 := bc_h h (by omega) r (by omega) r1
  have b6 := bc_h w (by omega) c (by omega) c1
  have ha : F_X7_acts W = Int32.ofNat (pc8 r + pc8 c) := by
    unfold F_X7_acts
    rw [w1, w2, w3, b1, b3, oadd, show F_J6_bitCount_0f7a4 0 = Int32.ofNat 0 by decide +kernel, oadd, Nat.add_zero]
  obtain ⟨n1, n2⟩ := bnot_eq h1 h2 (show r < 256 by omega)
  obtain ⟨n3, n4⟩ := bnot_eq h3 h4 (show c < 256 by omega)
  have he : (W 27 1) ^^^ (F_X0_everyRow W 1) = Int32.ofNat (bnot h r) := by
    unfold F_X0_everyRow
    rw [w1, w4]
    exact n1
  have h88 : (F_X7_findPlan_88 W 1 x (Int32.ofNat (bnot h r))) 27 0 = s0 ∧ (F_X7_findPlan_88 W 1 x (Int32.ofNat (bnot h r))) 27 1 = Int32.ofNat (bnot h r) ∧ (F_X7_findPlan_88 W 1 x (Int32.ofNat (bnot h r))) 27 2 = Int32.ofNat (bnot w c) ∧ (F_X7_findPlan_88 W 1 x (Int32.ofNat (bnot h r))) 27 3 = 0 := by
    unfold F_X7_findPlan_88 F_X7_findPlan_104 F_X7_take
    refine ⟨?_, ?_, ?_, u2_at⟩
    · rw [u2_nc (by omega), u2_nc (by omega), u2_nc (by omega), w0]
    · rw [u2_nc (by omega), u2_nc (by omega), u2_at]
    · rw [u2_nc (by omega), u2_at]
      unfold F_X0_everyColumn
      rw [w2, w5]
      exact n3
  have h104 : F_X7_findPlan_104 W 1 x = W := rfl
  rw [ha, he, w4, w5, oadd, on_sub (by omega), w1, h104]
  unfold planR
  by_cases q1 : h + w - (pc8 r + pc8 c) < pc8 r + pc8 c
  · rw [if_pos ((lt_onn (by omega) (by omega)).mpr q1), if_neg (show ¬ (2 * (pc8 r + pc8 c) < h + w ∨ (2 * (pc8 r + pc8 c) = h + w ∧ r ≤ bnot h r)) by omega)]
    exact h88
  · rw [if_neg (fun z => q1 ((lt_onn (by omega) (by omega)).mp z))]
    by_cases q2 : h + w - (pc8 r + pc8 c) = pc8 r + pc8 c
    · rw [if_pos (show Int32.ofNat (h + w - (pc8 r + pc8 c)) = Int32.ofNat (pc8 r + pc8 c) by rw [q2])]
      by_cases q3 : r ≤ bnot h r
      · rw [if_pos (show Int32.ofNat r ≤ Int32.ofNat (bnot h r) from (ge_on (by omega) (by omega)).mpr q3), if_pos (show (2 * (pc8 r + pc8 c) < h + w ∨ (2 * (pc8 r + pc8 c) = h + w ∧ r ≤ bnot h r)) from .inr ⟨by omega, q3⟩)]
        exact ⟨w0, w1, w2, w3⟩
      · rw [if_neg (show ¬ Int32.ofNat r ≤ Int32.ofNat (bnot h r) from fun z => q3 ((ge_on (by omega) (by omega)).mp z)), if_neg (show ¬ (2 * (pc8 r + pc8 c) < h + w ∨ (2 * (pc8 r + pc8 c) = h + w ∧ r ≤ bnot h r)) from fun z => z.elim (fun z => by omega) (fun z => q3 z.2))]
        exact h88
    · rw [if_neg (show ¬ Int32.ofNat (h + w - (pc8 r + pc8 c)) = Int32.ofNat (pc8 r + pc8 c) from fun z => q2 (on_inj (by omega) (by omega) z)), if_pos (show (2 * (pc8 r + pc8 c) < h + w ∨ (2 * (pc8 r + pc8 c) = h + w ∧ r ≤ bnot h r)) from .inl (by omega))]
      exact ⟨w0, w1, w2, w3⟩
theorem pl_a {K : WI} {a b : Int32} : p1 ((1 : Int32), u2 (u2 K 33 32 b) 33 31 a) = 1 ∧ (p2 ((1 : Int32), u2 (u2 K 33 32 b) 33 31 a)) 33 31 = a ∧ (p2 ((1 : Int32), u2 (u2 K 33 32 b) 33 31 a)) 33 32 = b := by
  refine ⟨rfl, ?_, ?_⟩
  · show (u2 (u2 K 33 32 b) 33 31 a) 33 31 = a
    exact u2_at
  · show (u2 (u2 K 33 32 b) 33 31 a) 33 32 = b
    rw [u2_nc (by omega), u2_at]
theorem pl_b {K : WI} {a b : Int32} : p1 ((1 : Int32), u2 (u2 K 33 31 a) 33 32 b) = 1 ∧ (p2 ((1 : Int32), u2 (u2 K 33 31 a) 33 32 b)) 33 31 = a ∧ (p2 ((1 : Int32), u2 (u2 K 33 31 a) 33 32 b)) 33 32 = b := by
  refine ⟨rfl, ?_, ?_⟩
  · show (u2 (u2 K 33 31 a) 33 32 b) 33 31 = a
    rw [u2_nc (by omega), u2_at]
  · show (u2 (u2 K 33 31 a) 33 32 b) 33 32 = b
    exact u2_at
theorem plan9 {h w : Nat} (hC : Cl h w) {J : WI} {x : Int64} {r c : Nat} (i1 : J 33 0 = Int32.ofNat h) (i2 : J 33 1 = Int32.ofNat w) (r1 : r < 2 ^ h) (c1 : c < 2 ^ w) (hr : ∀ j, j < 8 → (r.testBit j = true ↔ j < h ∧ (mb x (8 * j) != mb x 0) = true)) (hc : ∀ j, j < 8 → (c.testBit j = true ↔ j < w ∧ mb x j = true)) : p1 (F_X9_findPlan_20 J x 0 0 0) = 1 ∧ (p2 (F_X9_findPlan_20 J x 0 0 0)) 33 31 = Int32.ofNat (p1 (planR h w r c)) ∧ (p2 (F_X9_findPlan_20 J x 0 0 0)) 33 32 = Int32.ofNat (p2 (planR h w r c)) := by
  obtain ⟨⟨h1, h2⟩, h3, h4⟩ := hC
  have hp : 2 ^ h ≤ 2 ^ 8 := Nat.pow_le_pow_right (by decide) h2
  have hp' : 2 ^ w ≤ 2 ^ 8 := Nat.pow_le_pow_right (by decide) h4
  have d0 : ∀ j, j < 8 → F_X9_isDark x 0 (Int32.ofNat j) = if mb x j then 1 else 0 := fun j hj => by
    have := isDark_eq (x := x) (r := 0) (c := j) (by omega)
    rw [show 8 * 0 + j = j by omega] at this
    exact this
  have d1 : ∀ j, j < 8 → F_X9_isDark x (Int32.ofNat j) 0 = if mb x (8 * j) then 1 else 0 := fun j hj => isDark_eq (c := 0) (by omega)
  have d3 : F_X9_isDark x 0 0 = if mb x 0 then 1 else 0 := isDark_eq (r := 0) (c := 0) (by omega)
  obtain ⟨c', k1, k2, k3⟩ := orl (g := fun i y => F_X9_findPlan_29_1 J x 0 i y) (f := fun j => mb x j) (b := w) h4 (fun i s hi => by
    show F_X9_findPlan_29_1 J x 0 (Int32.ofNat i) s = _
    unfold F_X9_findPlan_29_1
    rw [d0 i (by omega)]
    )
  obtain ⟨r', g1, g2, g3⟩ := orl (g := fun i y => F_X9_findPlan_62_2 J x (Int32.ofNat c) i y) (f := fun j => mb x (8 * j) != mb x 0) (b := h) h2 (fun i s hi => by
    show F_X9_findPlan_62_2 J x (Int32.ofNat c) (Int32.ofNat i) s = _
    unfold F_X9_findPlan_62_2
    rw [d1 i (by omega), d3]
    have : ∀ a b : Bool, ((if a then (1 : Int32) else 0) ^^^ (if b then 1 else 0)) = if (a != b) = true then 1 else 0 := by decide
    rw [this])
  have ec : c' = c := nat8_ext (by omega) (by omega) fun j hj => (k3 j hj).trans (hc j hj).symm
  have er : r' = r := nat8_ext (by omega) (by omega) fun j hj => (g3 j hj).trans (hr j hj).symm
  rw [ec] at k2
  rw [er] at g2
  have e20 : F_X9_findPlan_20 J x 0 0 0 = F_X9_findPlan_88 J x (Int32.ofNat r) (Int32.ofNat c) := by
    unfold F_X9_findPlan_20 F_X9_findPlan_50 F_X9_findPlan_53
    show F_X9_findPlan_88 J x (p2 (fr0 (fun i y => F_X9_findPlan_62_2 J x (p2 (fr0 (fun i y => F_X9_findPlan_29_1 J x 0 i y) (J 33 1) (fu 0 (J 33 1)) 0 0)) i y) (J 33 0) (fu 0 (J 33 0)) 0 0)) (p2 (fr0 (fun i y => F_X9_findPlan_29_1 J x 0 i y) (J 33 1) (fu 0 (J 33 1)) 0 0)) = _
    have e1 : p2 (fr0 (fun i y => F_X9_findPlan_29_1 J x 0 i y) (J 33 1) (fu 0 (J 33 1)) 0 0) = Int32.ofNat c := by rw [i2, fr0_it (by omega), k2]
    rw [e1, i1, fr0_it (by omega), g2]
  rw [e20]
  obtain ⟨-, b1, b2⟩ := bc_t r (by omega)
  obtain ⟨-, b3, b4⟩ := bc_t c (by omega)
  obtain ⟨n1, n2⟩ := bnot_eq h1 h2 (show r < 256 by omega)
  obtain ⟨n3, n4⟩ := bnot_eq h3 h4 (show c < 256 by omega)
  have m2 : ∀ n, (2 : Int32) * Int32.ofNat n = Int32.ofNat (2 * n) := fun n => (Int32.ofNat_mul 2 n).symm
  have q33 : ∀ (K : WI) j v, j ≠ 0 → j ≠ 1 → K 33 0 = Int32.ofNat h → K 33 1 = Int32.ofNat w → (u2 K 33 j v) 33 0 = Int32.ofNat h ∧ (u2 K 33 j v) 33 1 = Int32.ofNat w := fun K j v a b c d => ⟨by rw [u2_nc (by omega), c], by rw [u2_nc (by omega), d]⟩
  have s31 : ∀ v, (u2 J 33 31 v) 33 0 = Int32.ofNat h ∧ (u2 J 33 31 v) 33 1 = Int32.ofNat w := fun v => q33 J 31 v (by decide) (by decide) i1 i2
  have s32 : ∀ v u, (u2 (u2 J 33 31 v) 33 32 u) 33 0 = Int32.ofNat h ∧ (u2 (u2 J 33 31 v) 33 32 u) 33 1 = Int32.ofNat w := fun v u => q33 _ 32 u (by decide) (by decide) (s31 v).1 (s31 v).2
  unfold F_X9_findPlan_88 F_X9_findPlan_123 F_X9_findPlan_145
  rw [b1, b3, oadd, i1, i2, oadd, m2, n1, (s31 (Int32.ofNat (bnot h r))).2, n3]
  unfold F_X9_findPlan_170
  rw [(s32 (Int32.ofNat r) (Int32.ofNat c)).1, (s32 (Int32.ofNat r) (Int32.ofNat c)).2, (s32 (Int32.ofNat (bnot h r)) (Int32.ofNat (bnot w c))).1, (s32 (Int32.ofNat (bnot h r)) (Int32.ofNat (bnot w c))).2, oadd, m2, n1, n3]
  unfold planR F_X9_findPlan_224 F_X9_findPlan_240 F_X9_findPlan_243
  by_cases q1 : 2 * (pc8 r + pc8 c) ≤ h + w
  · rw [if_pos (show Int32.ofNat (2 * (pc8 r + pc8 c)) ≤ Int32.ofNat (h + w) from (ge_on (by omega) (by omega)).mpr q1), if_pos (show (0 : Int32) = 0 from rfl), if_pos (show (0 : Int32) = 0 from rfl)]
    by_cases q2 : 2 * (pc8 r + pc8 c) = h + w
    · rw [if_pos (show Int32.ofNat (2 * (pc8 r + pc8 c)) = Int32.ofNat (h + w) by rw [q2])]
      by_cases q3 : r ≤ bnot h r
      · rw [if_pos (show Int32.ofNat r ≤ Int32.ofNat (bnot h r) from (ge_on (by omega) (by omega)).mpr q3), if_pos (show Int32.ofNat r ≤ Int32.ofNat (bnot h r) from (ge_on (by omega) (by omega)).mpr q3), if_pos (show (2 * (pc8 r + pc8 c) < h + w ∨ (2 * (pc8 r + pc8 c) = h + w ∧ r ≤ bnot h r)) from .inr ⟨q2, q3⟩)]
        exact pl_a
      · rw [if_neg (show ¬ Int32.ofNat r ≤ Int32.ofNat (bnot h r) from fun z => q3 ((ge_on (by omega) (by omega)).mp z)), if_neg (show ¬ Int32.ofNat r ≤ Int32.ofNat (bnot h r) from fun z => q3 ((ge_on (by omega) (by omega)).mp z)), if_neg (show ¬ (2 * (pc8 r + pc8 c) < h + w ∨ (2 * (pc8 r + pc8 c) = h + w ∧ r ≤ bnot h r)) from fun z => z.elim (fun z => by omega) (fun z => q3 z.2))]
        exact pl_a
    · rw [if_neg (show ¬ Int32.ofNat (2 * (pc8 r + pc8 c)) = Int32.ofNat (h + w) from fun z => q2 (on_inj (by omega) (by omega) z)), if_pos (show (2 * (pc8 r + pc8 c) < h + w ∨ (2 * (pc8 r + pc8 c) = h + w ∧ r ≤ bnot h r)) from .inl (by omega))]
      exact pl_b
  · rw [if_neg (show ¬ Int32.ofNat (2 * (pc8 r + pc8 c)) ≤ Int32.ofNat (h + w) from fun z => q1 ((ge_on (by omega) (by omega)).mp z)), if_neg (show ¬ (1 : Int32) = 0 by decide), if_neg (show ¬ (1 : Int32) = 0 by decide), if_neg (show ¬ Int32.ofNat (2 * (pc8 r + pc8 c)) = Int32.ofNat (h + w) from fun z => q1 (Nat.le_of_eq (on_inj (by omega) (by omega) z))), if_neg (show ¬ (2 * (pc8 r + pc8 c) < h + w ∨ (2 * (pc8 r + pc8 c) = h + w ∧ r ≤ bnot h r)) by omega)]
    exact pl_b
