/-! calls that change nothing that is kept: answers -/
theorem zz3 : (3 : Int32).toInt = 3 := by decide
theorem zz4 : (4 : Int32).toInt = 4 := by decide
theorem zz5 : (5 : Int32).toInt = 5 := by decide
theorem zz6 : (6 : Int32).toInt = 6 := by decide
theorem zz7 : (7 : Int32).toInt = 7 := by decide
theorem zz8 : (8 : Int32).toInt = 8 := by decide
theorem zz9 : (9 : Int32).toInt = 9 := by decide
theorem zz10 : (10 : Int32).toInt = 10 := by decide
theorem zz11 : (11 : Int32).toInt = 11 := by decide
theorem zz12 : (12 : Int32).toInt = 12 := by decide
theorem zz13 : (13 : Int32).toInt = 13 := by decide
theorem zz14 : (14 : Int32).toInt = 14 := by decide
theorem zz15 : (15 : Int32).toInt = 15 := by decide
theorem zz16 : (16 : Int32).toInt = 16 := by decide
theorem zz17 : (17 : Int32).toInt = 17 := by decide
theorem zz18 : (18 : Int32).toInt = 18 := by decide
theorem zz19 : (19 : Int32).toInt = 19 := by decide
theorem zz20 : (20 : Int32).toInt = 20 := by decide
theorem zz21 : (21 : Int32).toInt = 21 := by decide
theorem zz22 : (22 : Int32).toInt = 22 := by decide
theorem zz23 : (23 : Int32).toInt = 23 := by decide
theorem zz24 : (24 : Int32).toInt = 24 := by decide
theorem zz25 : (25 : Int32).toInt = 25 := by decide
theorem zz26 : (26 : Int32).toInt = 26 := by decide
theorem zz27 : (27 : Int32).toInt = 27 := by decide
theorem zz28 : (28 : Int32).toInt = 28 := by decide
theorem zz29 : (29 : Int32).toInt = 29 := by decide
theorem zz30 : (30 : Int32).toInt = 30 := by decide
theorem zz31 : (31 : Int32).toInt = 31 := by decide
theorem zz32 : (32 : Int32).toInt = 32 := by decide
theorem zz33 : (33 : Int32).toInt = 33 := by decide
theorem zz34 : (34 : Int32).toInt = 34 := by decide
theorem zz35 : (35 : Int32).toInt = 35 := by decide
theorem zz36 : (36 : Int32).toInt = 36 := by decide
theorem zz37 : (37 : Int32).toInt = 37 := by decide
theorem zz38 : (38 : Int32).toInt = 38 := by decide
theorem zz39 : (39 : Int32).toInt = 39 := by decide
theorem zz40 : (40 : Int32).toInt = 40 := by decide
theorem zz41 : (41 : Int32).toInt = 41 := by decide
theorem zz48 : (48 : Int32).toInt = 48 := by decide
theorem zz60 : (60 : Int32).toInt = 60 := by decide
theorem zz64 : (64 : Int32).toInt = 64 := by decide
theorem zz160 : (160 : Int32).toInt = 160 := by decide
theorem zz312 : (312 : Int32).toInt = 312 := by decide
theorem zz320 : (320 : Int32).toInt = 320 := by decide
theorem zzm2 : (-2 : Int32).toInt = -2 := by decide
theorem zzm3 : (-3 : Int32).toInt = -3 := by decide
theorem zzm4 : (-4 : Int32).toInt = -4 := by decide
theorem zzm5 : (-5 : Int32).toInt = -5 := by decide
theorem zzm6 : (-6 : Int32).toInt = -6 := by decide
theorem zzm7 : (-7 : Int32).toInt = -7 := by decide
theorem zzm8 : (-8 : Int32).toInt = -8 := by decide
theorem zzm9 : (-9 : Int32).toInt = -9 := by decide
theorem zzm10 : (-10 : Int32).toInt = -10 := by decide
theorem bz01 (x : Int32) : bz x = 0 ∨ bz x = 1 := by
  have h : (x &&& 1).toBitVec = x.toBitVec &&& 1#32 := rfl
  unfold bz
  cases hb : x.toBitVec.getLsbD 0
  · left
    apply Int32.toBitVec.inj
    rw [h]
    apply BitVec.eq_of_getLsbD_eq
    intro i hi
    rw [BitVec.getLsbD_and, BitVec.getLsbD_one]
    by_cases c : i = 0
    · rw [c, hb]; rfl
    · simp [c]
  · right
    apply Int32.toBitVec.inj
    rw [h]
    apply BitVec.eq_of_getLsbD_eq
    intro i hi
    rw [BitVec.getLsbD_and, show (1 : Int32).toBitVec = 1#32 from rfl, BitVec.getLsbD_one]
    by_cases c : i = 0
    · rw [c, hb]; rfl
    · simp [c]
theorem lm4 (d : Nat) : (4 : Int32) * Int32.ofNat d = Int32.ofNat (4 * d) := (Int32.ofNat_mul 4 d).symm
theorem lm3 (d : Nat) : (3 : Int32) * Int32.ofNat d = Int32.ofNat (3 * d) := (Int32.ofNat_mul 3 d).symm
theorem lm8 (d : Nat) : (8 : Int32) * Int32.ofNat d = Int32.ofNat (8 * d) := (Int32.ofNat_mul 8 d).symm
theorem lm40 (d : Nat) : (40 : Int32) * Int32.ofNat d = Int32.ofNat (40 * d) := (Int32.ofNat_mul 40 d).symm
theorem lm2 (d : Nat) : (2 : Int32) * Int32.ofNat d = Int32.ofNat (2 * d) := (Int32.ofNat_mul 2 d).symm
theorem la1 (d : Nat) : Int32.ofNat d + 1 = Int32.ofNat (d + 1) := (Int32.ofNat_add d 1).symm
theorem oadd (a b : Nat) : Int32.ofNat a + Int32.ofNat b = Int32.ofNat (a + b) := (Int32.ofNat_add a b).symm
theorem ti64 (a : Int32) : (Int32.toInt64 a).toInt = a.toInt := Int32.toInt_toInt64 a
theorem on_m1 {n : Nat} (h : n < 2147483648) : (Int32.ofNat n - 1).toInt = (n : Int) - 1 := by
  rw [ti_sub] <;> rw [on_toInt h, z1] <;> omega
theorem i0 : (0 : Int64).toInt = 0 := by decide
theorem i1 : (1 : Int64).toInt = 1 := by decide
theorem im1 : (-1 : Int64).toInt = -1 := by decide
theorem nneg {n : Nat} (h : n < 2147483648) : ¬ (Int32.ofNat n).toInt < 0 := by rw [on_toInt h]; omega
/-- a number: below 0, or one of the naturals -/
theorem nsplit (a : Int32) : a.toInt < 0 ∨ ∃ n : Nat, n < 2147483648 ∧ a = Int32.ofNat n := by
  by_cases c : a.toInt < 0
  · exact .inl c
  · obtain ⟨n, e, -, h⟩ := nn (a := a) (by omega)
    exact .inr ⟨n, h, e⟩
theorem E_3 {I : WI} {L : WL} (H : Inv I L) : Inv I L := H
theorem E_4 {I : WI} {L : WL} {a1 : Int32} (H : Inv I L) : (F_X8_rule I a1) = (F_X9_rule I a1) ∧ Inv I L := by
  refine ⟨?_, H⟩
  obtain ⟨⟨h, w, ⟨hC, c1, c2, c3, c4, -⟩, p1', p2', -⟩, -, -, ⟨n, -, d1, d2, -⟩, -⟩ := H
  unfold F_X8_rule F_X9_rule F_X8_rule_67 F_X9_flag F_X9_flag_9 F_X0_linesOf
  rw [c1, c2, c3, c4, p2', d1, d2, if_neg (show ¬ (2 : Int32) = 0 by decide), if_neg (show ¬ (2 : Int32) = 1 by decide), if_pos rfl]
theorem acts_eq {I : WI} {n d m : Nat} {o : Nat} (hn : n ≤ 12) (e0 : I o 0 = Int32.ofNat n) (hd : d < n) (e1 : I (o + 1) d = Int32.ofNat m) : F_X1_actsOf I o (Int32.ofNat d) = Int32.ofNat m := by
  unfold F_X1_actsOf F_X1_actsOf_31
  rw [e0, if_neg (by first | omega | (simp (disch := omega) only [Int32.lt_iff_toInt_lt, Int32.le_iff_toInt_le, ← Int32.toInt_inj, on_toInt, on_clamp, ti64, z0, z1, z2, zm1, i0, i1, im1, zz3, zz4, zz5, zz6, zz7, zz8, zz9, zz10, zz11, zz12, zz13, zz14, zz15, zz16, zz17, zz18, zz19, zz20, zz21, zz22, zz23, zz24, zz25, zz26, zz27, zz28, zz29, zz30, zz31, zz32, zz33, zz34, zz35, zz36, zz37, zz38, zz39, zz40, zz41, zz48, zz60, zz64, zz160, zz312, zz320, zzm2, zzm3, zzm4, zzm5, zzm6, zzm7, zzm8, zzm9, zzm10]; done) | (simp (disch := omega) only [Int32.lt_iff_toInt_lt, Int32.le_iff_toInt_le, ← Int32.toInt_inj, on_toInt, on_clamp, ti64, z0, z1, z2, zm1, i0, i1, im1, zz3, zz4, zz5, zz6, zz7, zz8, zz9, zz10, zz11, zz12, zz13, zz14, zz15, zz16, zz17, zz18, zz19, zz20, zz21, zz22, zz23, zz24, zz25, zz26, zz27, zz28, zz29, zz30, zz31, zz32, zz33, zz34, zz35, zz36, zz37, zz38, zz39, zz40, zz41, zz48, zz60, zz64, zz160, zz312, zz320, zzm2, zzm3, zzm4, zzm5, zzm6, zzm7, zzm8, zzm9, zzm10]; omega)), if_neg (by first | omega | (simp (disch := omega) only [Int32.lt_iff_toInt_lt, Int32.le_iff_toInt_le, ← Int32.toInt_inj, on_toInt, on_clamp, ti64, z0, z1, z2, zm1, i0, i1, im1, zz3, zz4, zz5, zz6, zz7, zz8, zz9, zz10, zz11, zz12, zz13, zz14, zz15, zz16, zz17, zz18, zz19, zz20, zz21, zz22, zz23, zz24, zz25, zz26, zz27, zz28, zz29, zz30, zz31, zz32, zz33, zz34, zz35, zz36, zz37, zz38, zz39, zz40, zz41, zz48, zz60, zz64, zz160, zz312, zz320, zzm2, zzm3, zzm4, zzm5, zzm6, zzm7, zzm8, zzm9, zzm10]; done) | (simp (disch := omega) only [Int32.lt_iff_toInt_lt, Int32.le_iff_toInt_le, ← Int32.toInt_inj, on_toInt, on_clamp, ti64, z0, z1, z2, zm1, i0, i1, im1, zz3, zz4, zz5, zz6, zz7, zz8, zz9, zz10, zz11, zz12, zz13, zz14, zz15, zz16, zz17, zz18, zz19, zz20, zz21, zz22, zz23, zz24, zz25, zz26, zz27, zz28, zz29, zz30, zz31, zz32, zz33, zz34, zz35, zz36, zz37, zz38, zz39, zz40, zz41, zz48, zz60, zz64, zz160, zz312, zz320, zzm2, zzm3, zzm4, zzm5, zzm6, zzm7, zzm8, zzm9, zzm10]; omega)), if_neg (by first | omega | (simp (disch := omega) only [Int32.lt_iff_toInt_lt, Int32.le_iff_toInt_le, ← Int32.toInt_inj, on_toInt, on_clamp, ti64, z0, z1, z2, zm1, i0, i1, im1, zz3, zz4, zz5, zz6, zz7, zz8, zz9, zz10, zz11, zz12, zz13, zz14, zz15, zz16, zz17, zz18, zz19, zz20, zz21, zz22, zz23, zz24, zz25, zz26, zz27, zz28, zz29, zz30, zz31, zz32, zz33, zz34, zz35, zz36, zz37, zz38, zz39, zz40, zz41, zz48, zz60, zz64, zz160, zz312, zz320, zzm2, zzm3, zzm4, zzm5, zzm6, zzm7, zzm8, zzm9, zzm10]; done) | (simp (disch := omega) only [Int32.lt_iff_toInt_lt, Int32.le_iff_toInt_le, ← Int32.toInt_inj, on_toInt, on_clamp, ti64, z0, z1, z2, zm1, i0, i1, im1, zz3, zz4, zz5, zz6, zz7, zz8, zz9, zz10, zz11, zz12, zz13, zz14, zz15, zz16, zz17, zz18, zz19, zz20, zz21, zz22, zz23, zz24, zz25, zz26, zz27, zz28, zz29, zz30, zz31, zz32, zz33, zz34, zz35, zz36, zz37, zz38, zz39, zz40, zz41, zz48, zz60, zz64, zz160, zz312, zz320, zzm2, zzm3, zzm4, zzm5, zzm6, zzm7, zzm8, zzm9, zzm10]; omega)), on_clamp (by omega), e1]
theorem code_eq {I : WI} {n d m i c : Nat} {o : Nat} (hn : n ≤ 12) (e0 : I o 0 = Int32.ofNat n) (hd : d < n) (hm : m ≤ 3) (e1 : I (o + 1) d = Int32.ofNat m) (hi : i < m) (e2 : I (o + 2) (3 * d + i) = Int32.ofNat c) : F_X1_codeOf I o (Int32.ofNat d) (Int32.ofNat i) = Int32.ofNat c := by
  unfold F_X1_codeOf F_X1_codeOf_42
  rw [acts_eq hn e0 hd e1, lm3, oadd, if_neg (by first | omega | (simp (disch := omega) only [Int32.lt_iff_toInt_lt, Int32.le_iff_toInt_le, ← Int32.toInt_inj, on_toInt, on_clamp, ti64, z0, z1, z2, zm1, i0, i1, im1, zz3, zz4, zz5, zz6, zz7, zz8, zz9, zz10, zz11, zz12, zz13, zz14, zz15, zz16, zz17, zz18, zz19, zz20, zz21, zz22, zz23, zz24, zz25, zz26, zz27, zz28, zz29, zz30, zz31, zz32, zz33, zz34, zz35, zz36, zz37, zz38, zz39, zz40, zz41, zz48, zz60, zz64, zz160, zz312, zz320, zzm2, zzm3, zzm4, zzm5, zzm6, zzm7, zzm8, zzm9, zzm10]; done) | (simp (disch := omega) only [Int32.lt_iff_toInt_lt, Int32.le_iff_toInt_le, ← Int32.toInt_inj, on_toInt, on_clamp, ti64, z0, z1, z2, zm1, i0, i1, im1, zz3, zz4, zz5, zz6, zz7, zz8, zz9, zz10, zz11, zz12, zz13, zz14, zz15, zz16, zz17, zz18, zz19, zz20, zz21, zz22, zz23, zz24, zz25, zz26, zz27, zz28, zz29, zz30, zz31, zz32, zz33, zz34, zz35, zz36, zz37, zz38, zz39, zz40, zz41, zz48, zz60, zz64, zz160, zz312, zz320, zzm2, zzm3, zzm4, zzm5, zzm6, zzm7, zzm8, zzm9, zzm10]; omega)), if_neg (by first | omega | (simp (disch := omega) only [Int32.lt_iff_toInt_lt, Int32.le_iff_toInt_le, ← Int32.toInt_inj, on_toInt, on_clamp, ti64, z0, z1, z2, zm1, i0, i1, im1, zz3, zz4, zz5, zz6, zz7, zz8, zz9, zz10, zz11, zz12, zz13, zz14, zz15, zz16, zz17, zz18, zz19, zz20, zz21, zz22, zz23, zz24, zz25, zz26, zz27, zz28, zz29, zz30, zz31, zz32, zz33, zz34, zz35, zz36, zz37, zz38, zz39, zz40, zz41, zz48, zz60, zz64, zz160, zz312, zz320, zzm2, zzm3, zzm4, zzm5, zzm6, zzm7, zzm8, zzm9, zzm10]; done) | (simp (disch := omega) only [Int32.lt_iff_toInt_lt, Int32.le_iff_toInt_le, ← Int32.toInt_inj, on_toInt, on_clamp, ti64, z0, z1, z2, zm1, i0, i1, im1, zz3, zz4, zz5, zz6, zz7, zz8, zz9, zz10, zz11, zz12, zz13, zz14, zz15, zz16, zz17, zz18, zz19, zz20, zz21, zz22, zz23, zz24, zz25, zz26, zz27, zz28, zz29, zz30, zz31, zz32, zz33, zz34, zz35, zz36, zz37, zz38, zz39, zz40, zz41, zz48, zz60, zz64, zz160, zz312, zz320, zzm2, zzm3, zzm4, zzm5, zzm6, zzm7, zzm8, zzm9, zzm10]; omega)), if_neg (by first | omega | (simp (disch := omega) only [Int32.lt_iff_toInt_lt, Int32.le_iff_toInt_le, ← Int32.toInt_inj, on_toInt, on_clamp, ti64, z0, z1, z2, zm1, i0, i1, im1, zz3, zz4, zz5, zz6, zz7, zz8, zz9, zz10, zz11, zz12, zz13, zz14, zz15, zz16, zz17, zz18, zz19, zz20, zz21, zz22, zz23, zz24, zz25, zz26, zz27, zz28, zz29, zz30, zz31, zz32, zz33, zz34, zz35, zz36, zz37, zz38, zz39, zz40, zz41, zz48, zz60, zz64, zz160, zz312, zz320, zzm2, zzm3, zzm4, zzm5, zzm6, zzm7, zzm8, zzm9, zzm10]; done) | (simp (disch := omega) only [Int32.lt_iff_toInt_lt, Int32.le_iff_toInt_le, ← Int32.toInt_inj, on_toInt, on_clamp, ti64, z0, z1, z2, zm1, i0, i1, im1, zz3, zz4, zz5, zz6, zz7, zz8, zz9, zz10, zz11, zz12, zz13, zz14, zz15, zz16, zz17, zz18, zz19, zz20, zz21, zz22, zz23, zz24, zz25, zz26, zz27, zz28, zz29, zz30, zz31, zz32, zz33, zz34, zz35, zz36, zz37, zz38, zz39, zz40, zz41, zz48, zz60, zz64, zz160, zz312, zz320, zzm2, zzm3, zzm4, zzm5, zzm6, zzm7, zzm8, zzm9, zzm10]; omega)), if_neg (by first | omega | (simp (disch := omega) only [Int32.lt_iff_toInt_lt, Int32.le_iff_toInt_le, ← Int32.toInt_inj, on_toInt, on_clamp, ti64, z0, z1, z2, zm1, i0, i1, im1, zz3, zz4, zz5, zz6, zz7, zz8, zz9, zz10, zz11, zz12, zz13, zz14, zz15, zz16, zz17, zz18, zz19, zz20, zz21, zz22, zz23, zz24, zz25, zz26, zz27, zz28, zz29, zz30, zz31, zz32, zz33, zz34, zz35, zz36, zz37, zz38, zz39, zz40, zz41, zz48, zz60, zz64, zz160, zz312, zz320, zzm2, zzm3, zzm4, zzm5, zzm6, zzm7, zzm8, zzm9, zzm10]; done) | (simp (disch := omega) only [Int32.lt_iff_toInt_lt, Int32.le_iff_toInt_le, ← Int32.toInt_inj, on_toInt, on_clamp, ti64, z0, z1, z2, zm1, i0, i1, im1, zz3, zz4, zz5, zz6, zz7, zz8, zz9, zz10, zz11, zz12, zz13, zz14, zz15, zz16, zz17, zz18, zz19, zz20, zz21, zz22, zz23, zz24, zz25, zz26, zz27, zz28, zz29, zz30, zz31, zz32, zz33, zz34, zz35, zz36, zz37, zz38, zz39, zz40, zz41, zz48, zz60, zz64, zz160, zz312, zz320, zzm2, zzm3, zzm4, zzm5, zzm6, zzm7, zzm8, zzm9, zzm10]; omega)), on_clamp (by omega), e2]
theorem E_5 {I : WI} {L : WL} {a1 a2 : Int32} (H : Inv I L) : ∃ w, (F_X9_day I a1 a2) = some w ∧ (F_X8_day I a1 a2) = w ∧ Inv I L := by
  have H' := H
  obtain ⟨-, -, -, ⟨n, hn, d1, d2, d3⟩, -⟩ := H
  suffices h : F_X9_day I a1 a2 = some (F_X8_day I a1 a2) from ⟨_, h, rfl, H'⟩
  by_cases c1 : a1.toInt < 0 ∨ (n : Int) ≤ a1.toInt
  · have e1 : F_X8_day I a1 a2 = -1 := by
      unfold F_X8_day F_X8_day_32
      rcases c1 with c1 | c1
      · rw [if_pos (by first | omega | (simp (disch := omega) only [Int32.lt_iff_toInt_lt, Int32.le_iff_toInt_le, ← Int32.toInt_inj, on_toInt, on_clamp, ti64, z0, z1, z2, zm1, i0, i1, im1, zz3, zz4, zz5, zz6, zz7, zz8, zz9, zz10, zz11, zz12, zz13, zz14, zz15, zz16, zz17, zz18, zz19, zz20, zz21, zz22, zz23, zz24, zz25, zz26, zz27, zz28, zz29, zz30, zz31, zz32, zz33, zz34, zz35, zz36, zz37, zz38, zz39, zz40, zz41, zz48, zz60, zz64, zz160, zz312, zz320, zzm2, zzm3, zzm4, zzm5, zzm6, zzm7, zzm8, zzm9, zzm10]; done) | (simp (disch := omega) only [Int32.lt_iff_toInt_lt, Int32.le_iff_toInt_le, ← Int32.toInt_inj, on_toInt, on_clamp, ti64, z0, z1, z2, zm1, i0, i1, im1, zz3, zz4, zz5, zz6, zz7, zz8, zz9, zz10, zz11, zz12, zz13, zz14, zz15, zz16, zz17, zz18, zz19, zz20, zz21, zz22, zz23, zz24, zz25, zz26, zz27, zz28, zz29, zz30, zz31, zz32, zz33, zz34, zz35, zz36, zz37, zz38, zz39, zz40, zz41, zz48, zz60, zz64, zz160, zz312, zz320, zzm2, zzm3, zzm4, zzm5, zzm6, zzm7, zzm8, zzm9, zzm10]; omega))]
      · rw [d1, if_neg (by first | omega | (simp (disch := omega) only [Int32.lt_iff_toInt_lt, Int32.le_iff_toInt_le, ← Int32.toInt_inj, on_toInt, on_clamp, ti64, z0, z1, z2, zm1, i0, i1, im1, zz3, zz4, zz5, zz6, zz7, zz8, zz9, zz10, zz11, zz12, zz13, zz14, zz15, zz16, zz17, zz18, zz19, zz20, zz21, zz22, zz23, zz24, zz25, zz26, zz27, zz28, zz29, zz30, zz31, zz32, zz33, zz34, zz35, zz36, zz37, zz38, zz39, zz40, zz41, zz48, zz60, zz64, zz160, zz312, zz320, zzm2, zzm3, zzm4, zzm5, zzm6, zzm7, zzm8, zzm9, zzm10]; done) | (simp (disch := omega) only [Int32.lt_iff_toInt_lt, Int32.le_iff_toInt_le, ← Int32.toInt_inj, on_toInt, on_clamp, ti64, z0, z1, z2, zm1, i0, i1, im1, zz3, zz4, zz5, zz6, zz7, zz8, zz9, zz10, zz11, zz12, zz13, zz14, zz15, zz16, zz17, zz18, zz19, zz20, zz21, zz22, zz23, zz24, zz25, zz26, zz27, zz28, zz29, zz30, zz31, zz32, zz33, zz34, zz35, zz36, zz37, zz38, zz39, zz40, zz41, zz48, zz60, zz64, zz160, zz312, zz320, zzm2, zzm3, zzm4, zzm5, zzm6, zzm7, zzm8, zzm9, zzm10]; omega)), if_pos (by first | omega | (simp (disch := omega) only [Int32.lt_iff_toInt_lt, Int32.le_iff_toInt_le, ← Int32.toInt_inj, on_toInt, on_clamp, ti64, z0, z1, z2, zm1, i0, i1, im1, zz3, zz4, zz5, zz6, zz7, zz8, zz9, zz10, zz11, zz12, zz13, zz14, zz15, zz16, zz17, zz18, zz19, zz20, zz21, zz22, zz23, zz24, zz25, zz26, zz27, zz28, zz29, zz30, zz31, zz32, zz33, zz34, zz35, zz36, zz37, zz38, zz39, zz40, zz41, zz48, zz60, zz64, zz160, zz312, zz320, zzm2, zzm3, zzm4, zzm5, zzm6, zzm7, zzm8, zzm9, zzm10]; done) | (simp (disch := omega) only [Int32.lt_iff_toInt_lt, Int32.le_iff_toInt_le, ← Int32.toInt_inj, on_toInt, on_clamp, ti64, z0, z1, z2, zm1, i0, i1, im1, zz3, zz4, zz5, zz6, zz7, zz8, zz9, zz10, zz11, zz12, zz13, zz14, zz15, zz16, zz17, zz18, zz19, zz20, zz21, zz22, zz23, zz24, zz25, zz26, zz27, zz28, zz29, zz30, zz31, zz32, zz33, zz34, zz35, zz36, zz37, zz38, zz39, zz40, zz41, zz48, zz60, zz64, zz160, zz312, zz320, zzm2, zzm3, zzm4, zzm5, zzm6, zzm7, zzm8, zzm9, zzm10]; omega))]
    rw [e1]
    unfold F_X9_day F_X9_day_38 F_X9_day_54
    rw [in_eq, d2, ti64, on_m1 (by omega), i0, if_neg (show ¬ (0 ≤ a1.toInt ∧ a1.toInt ≤ (n : Int) - 1) by omega), if_pos rfl]
  obtain ⟨d, rfl, hd, -⟩ := nn (by omega : 0 ≤ a1.toInt)
  rw [hd] at c1
  obtain ⟨m, hm, e1, e2, e3⟩ := d3 d (by omega)
  have ha : F_X1_actsOf I 6 (Int32.ofNat d) = Int32.ofNat m := acts_eq hn d1 (by omega) e1
  have hx1 : F_X8_day I (Int32.ofNat d) a2 = if a2 < -1 then -1 else if a2 < Int32.ofNat m then (if a2 = -1 then Int32.ofNat m else F_X1_codeOf I 6 (Int32.ofNat d) a2) else -1 := by
    unfold F_X8_day F_X8_day_32 F_X8_day_59
    rw [ha, d1, if_neg (by first | omega | (simp (disch := omega) only [Int32.lt_iff_toInt_lt, Int32.le_iff_toInt_le, ← Int32.toInt_inj, on_toInt, on_clamp, ti64, z0, z1, z2, zm1, i0, i1, im1, zz3, zz4, zz5, zz6, zz7, zz8, zz9, zz10, zz11, zz12, zz13, zz14, zz15, zz16, zz17, zz18, zz19, zz20, zz21, zz22, zz23, zz24, zz25, zz26, zz27, zz28, zz29, zz30, zz31, zz32, zz33, zz34, zz35, zz36, zz37, zz38, zz39, zz40, zz41, zz48, zz60, zz64, zz160, zz312, zz320, zzm2, zzm3, zzm4, zzm5, zzm6, zzm7, zzm8, zzm9, zzm10]; done) | (simp (disch := omega) only [Int32.lt_iff_toInt_lt, Int32.le_iff_toInt_le, ← Int32.toInt_inj, on_toInt, on_clamp, ti64, z0, z1, z2, zm1, i0, i1, im1, zz3, zz4, zz5, zz6, zz7, zz8, zz9, zz10, zz11, zz12, zz13, zz14, zz15, zz16, zz17, zz18, zz19, zz20, zz21, zz22, zz23, zz24, zz25, zz26, zz27, zz28, zz29, zz30, zz31, zz32, zz33, zz34, zz35, zz36, zz37, zz38, zz39, zz40, zz41, zz48, zz60, zz64, zz160, zz312, zz320, zzm2, zzm3, zzm4, zzm5, zzm6, zzm7, zzm8, zzm9, zzm10]; omega)), if_neg (by first | omega | (simp (disch := omega) only [Int32.lt_iff_toInt_lt, Int32.le_iff_toInt_le, ← Int32.toInt_inj, on_toInt, on_clamp, ti64, z0, z1, z2, zm1, i0, i1, im1, zz3, zz4, zz5, zz6, zz7, zz8, zz9, zz10, zz11, zz12, zz13, zz14, zz15, zz16, zz17, zz18, zz19, zz20, zz21, zz22, zz23, zz24, zz25, zz26, zz27, zz28, zz29, zz30, zz31, zz32, zz33, zz34, zz35, zz36, zz37, zz38, zz39, zz40, zz41, zz48, zz60, zz64, zz160, zz312, zz320, zzm2, zzm3, zzm4, zzm5, zzm6, zzm7, zzm8, zzm9, zzm10]; done) | (simp (disch := omega) only [Int32.lt_iff_toInt_lt, Int32.le_iff_toInt_le, ← Int32.toInt_inj, on_toInt, on_clamp, ti64, z0, z1, z2, zm1, i0, i1, im1, zz3, zz4, zz5, zz6, zz7, zz8, zz9, zz10, zz11, zz12, zz13, zz14, zz15, zz16, zz17, zz18, zz19, zz20, zz21, zz22, zz23, zz24, zz25, zz26, zz27, zz28, zz29, zz30, zz31, zz32, zz33, zz34, zz35, zz36, zz37, zz38, zz39, zz40, zz41, zz48, zz60, zz64, zz160, zz312, zz320, zzm2, zzm3, zzm4, zzm5, zzm6, zzm7, zzm8, zzm9, zzm10]; omega))]
  have hm1 : F_X9_day I (Int32.ofNat d) a2 = if -1 ≤ a2.toInt ∧ a2.toInt ≤ (m : Int) - 1 then (if ((Int32.ofNat (4 * d) + a2) + 1) < 0 ∨ 48 ≤ Int32.toNatClampNeg ((Int32.ofNat (4 * d) + a2) + 1) then none else some (I 34 (Int32.toNatClampNeg ((Int32.ofNat (4 * d) + a2) + 1)))) else some (-1) := by
    unfold F_X9_day F_X9_day_38 F_X9_day_54
    rw [in_eq, d2, ti64, on_m1 (by omega), i0, hd, if_pos (show (0 ≤ (d : Int) ∧ (d : Int) ≤ (n : Int) - 1) by omega), if_neg (show ¬ (1 : Int32) = 0 by decide), lm4, if_neg (nin (k := 4 * d) (by omega) (by decide)), on_clamp (n := 4 * d) (by omega), e2, in_eq, ti64, on_m1 (by omega), im1]
    by_cases c : -1 ≤ a2.toInt ∧ a2.toInt ≤ (m : Int) - 1
    · rw [if_pos c, if_pos c, if_neg (show ¬ (1 : Int32) = 0 by decide)]
    · rw [if_neg c, if_neg c, if_pos rfl]
  rw [hx1, hm1]
  by_cases c2 : a2.toInt < -1 ∨ (m : Int) ≤ a2.toInt
  · rw [if_neg (show ¬ (-1 ≤ a2.toInt ∧ a2.toInt ≤ (m : Int) - 1) by omega)]
    rcases c2 with c2 | c2
    · rw [if_pos (by first | omega | (simp (disch := omega) only [Int32.lt_iff_toInt_lt, Int32.le_iff_toInt_le, ← Int32.toInt_inj, on_toInt, on_clamp, ti64, z0, z1, z2, zm1, i0, i1, im1, zz3, zz4, zz5, zz6, zz7, zz8, zz9, zz10, zz11, zz12, zz13, zz14, zz15, zz16, zz17, zz18, zz19, zz20, zz21, zz22, zz23, zz24, zz25, zz26, zz27, zz28, zz29, zz30, zz31, zz32, zz33, zz34, zz35, zz36, zz37, zz38, zz39, zz40, zz41, zz48, zz60, zz64, zz160, zz312, zz320, zzm2, zzm3, zzm4, zzm5, zzm6, zzm7, zzm8, zzm9, zzm10]; done) | (simp (disch := omega) only [Int32.lt_iff_toInt_lt, Int32.le_iff_toInt_le, ← Int32.toInt_inj, on_toInt, on_clamp, ti64, z0, z1, z2, zm1, i0, i1, im1, zz3, zz4, zz5, zz6, zz7, zz8, zz9, zz10, zz11, zz12, zz13, zz14, zz15, zz16, zz17, zz18, zz19, zz20, zz21, zz22, zz23, zz24, zz25, zz26, zz27, zz28, zz29, zz30, zz31, zz32, zz33, zz34, zz35, zz36, zz37, zz38, zz39, zz40, zz41, zz48, zz60, zz64, zz160, zz312, zz320, zzm2, zzm3, zzm4, zzm5, zzm6, zzm7, zzm8, zzm9, zzm10]; omega))]
    · rw [if_neg (by first | omega | (simp (disch := omega) only [Int32.lt_iff_toInt_lt, Int32.le_iff_toInt_le, ← Int32.toInt_inj, on_toInt, on_clamp, ti64, z0, z1, z2, zm1, i0, i1, im1, zz3, zz4, zz5, zz6, zz7, zz8, zz9, zz10, zz11, zz12, zz13, zz14, zz15, zz16, zz17, zz18, zz19, zz20, zz21, zz22, zz23, zz24, zz25, zz26, zz27, zz28, zz29, zz30, zz31, zz32, zz33, zz34, zz35, zz36, zz37, zz38, zz39, zz40, zz41, zz48, zz60, zz64, zz160, zz312, zz320, zzm2, zzm3, zzm4, zzm5, zzm6, zzm7, zzm8, zzm9, zzm10]; done) | (simp (disch := omega) only [Int32.lt_iff_toInt_lt, Int32.le_iff_toInt_le, ← Int32.toInt_inj, on_toInt, on_clamp, ti64, z0, z1, z2, zm1, i0, i1, im1, zz3, zz4, zz5, zz6, zz7, zz8, zz9, zz10, zz11, zz12, zz13, zz14, zz15, zz16, zz17, zz18, zz19, zz20, zz21, zz22, zz23, zz24, zz25, zz26, zz27, zz28, zz29, zz30, zz31, zz32, zz33, zz34, zz35, zz36, zz37, zz38, zz39, zz40, zz41, zz48, zz60, zz64, zz160, zz312, zz320, zzm2, zzm3, zzm4, zzm5, zzm6, zzm7, zzm8, zzm9, zzm10]; omega)), if_neg (by first | omega | (simp (disch := omega) only [Int32.lt_iff_toInt_lt, Int32.le_iff_toInt_le, ← Int32.toInt_inj, on_toInt, on_clamp, ti64, z0, z1, z2, zm1, i0, i1, im1, zz3, zz4, zz5, zz6, zz7, zz8, zz9, zz10, zz11, zz12, zz13, zz14, zz15, zz16, zz17, zz18, zz19, zz20, zz21, zz22, zz23, zz24, zz25, zz26, zz27, zz28, zz29, zz30, zz31, zz32, zz33, zz34, zz35, zz36, zz37, zz38, zz39, zz40, zz41, zz48, zz60, zz64, zz160, zz312, zz320, zzm2, zzm3, zzm4, zzm5, zzm6, zzm7, zzm8, zzm9, zzm10]; done) | (simp (disch := omega) only [Int32.lt_iff_toInt_lt, Int32.le_iff_toInt_le, ← Int32.toInt_inj, on_toInt, on_clamp, ti64, z0, z1, z2, zm1, i0, i1, im1, zz3, zz4, zz5, zz6, zz7, zz8, zz9, zz10, zz11, zz12, zz13, zz14, zz15, zz16, zz17, zz18, zz19, zz20, zz21, zz22, zz23, zz24, zz25, zz26, zz27, zz28, zz29, zz30, zz31, zz32, zz33, zz34, zz35, zz36, zz37, zz38, zz39, zz40, zz41, zz48, zz60, zz64, zz160, zz312, zz320, zzm2, zzm3, zzm4, zzm5, zzm6, zzm7, zzm8, zzm9, zzm10]; omega))]
  rw [if_pos (show (-1 ≤ a2.toInt ∧ a2.toInt ≤ (m : Int) - 1) by omega)]
  by_cases c3 : a2 = -1
  · rw [c3, show Int32.ofNat (4 * d) + -1 + 1 = Int32.ofNat (4 * d) by rw [Int32.add_assoc, show (-1 : Int32) + 1 = 0 by decide, Int32.add_zero], if_neg (nin (k := 4 * d) (by omega) (by decide)), on_clamp (n := 4 * d) (by omega), e2, if_neg (by first | omega | (simp (disch := omega) only [Int32.lt_iff_toInt_lt, Int32.le_iff_toInt_le, ← Int32.toInt_inj, on_toInt, on_clamp, ti64, z0, z1, z2, zm1, i0, i1, im1, zz3, zz4, zz5, zz6, zz7, zz8, zz9, zz10, zz11, zz12, zz13, zz14, zz15, zz16, zz17, zz18, zz19, zz20, zz21, zz22, zz23, zz24, zz25, zz26, zz27, zz28, zz29, zz30, zz31, zz32, zz33, zz34, zz35, zz36, zz37, zz38, zz39, zz40, zz41, zz48, zz60, zz64, zz160, zz312, zz320, zzm2, zzm3, zzm4, zzm5, zzm6, zzm7, zzm8, zzm9, zzm10]; done) | (simp (disch := omega) only [Int32.lt_iff_toInt_lt, Int32.le_iff_toInt_le, ← Int32.toInt_inj, on_toInt, on_clamp, ti64, z0, z1, z2, zm1, i0, i1, im1, zz3, zz4, zz5, zz6, zz7, zz8, zz9, zz10, zz11, zz12, zz13, zz14, zz15, zz16, zz17, zz18, zz19, zz20, zz21, zz22, zz23, zz24, zz25, zz26, zz27, zz28, zz29, zz30, zz31, zz32, zz33, zz34, zz35, zz36, zz37, zz38, zz39, zz40, zz41, zz48, zz60, zz64, zz160, zz312, zz320, zzm2, zzm3, zzm4, zzm5, zzm6, zzm7, zzm8, zzm9, zzm10]; omega)), if_pos (by first | omega | (simp (disch := omega) only [Int32.lt_iff_toInt_lt, Int32.le_iff_toInt_le, ← Int32.toInt_inj, on_toInt, on_clamp, ti64, z0, z1, z2, zm1, i0, i1, im1, zz3, zz4, zz5, zz6, zz7, zz8, zz9, zz10, zz11, zz12, zz13, zz14, zz15, zz16, zz17, zz18, zz19, zz20, zz21, zz22, zz23, zz24, zz25, zz26, zz27, zz28, zz29, zz30, zz31, zz32, zz33, zz34, zz35, zz36, zz37, zz38, zz39, zz40, zz41, zz48, zz60, zz64, zz160, zz312, zz320, zzm2, zzm3, zzm4, zzm5, zzm6, zzm7, zzm8, zzm9, zzm10]; done) | (simp (disch := omega) only [Int32.lt_iff_toInt_lt, Int32.le_iff_toInt_le, ← Int32.toInt_inj, on_toInt, on_clamp, ti64, z0, z1, z2, zm1, i0, i1, im1, zz3, zz4, zz5, zz6, zz7, zz8, zz9, zz10, zz11, zz12, zz13, zz14, zz15, zz16, zz17, zz18, zz19, zz20, zz21, zz22, zz23, zz24, zz25, zz26, zz27, zz28, zz29, zz30, zz31, zz32, zz33, zz34, zz35, zz36, zz37, zz38, zz39, zz40, zz41, zz48, zz60, zz64, zz160, zz312, zz320, zzm2, zzm3, zzm4, zzm5, zzm6, zzm7, zzm8, zzm9, zzm10]; omega)), if_pos rfl]
  · have c4 : ¬ a2.toInt = -1 := fun h => c3 (Int32.toInt_inj.mp (h.trans zm1.symm))
    obtain ⟨i, rfl, hi, -⟩ := nn (by omega : 0 ≤ a2.toInt)
    obtain ⟨c, g1, g2, g3⟩ := e3 i (by omega)
    rw [code_eq hn d1 (by omega) hm e1 (by omega) g2, oadd, la1, if_neg (nin (k := 4 * d + i + 1) (by omega) (by decide)), on_clamp (n := 4 * d + i + 1) (by omega), show 4 * d + i + 1 = 4 * d + 1 + i by omega, g3, if_neg (by first | omega | (simp (disch := omega) only [Int32.lt_iff_toInt_lt, Int32.le_iff_toInt_le, ← Int32.toInt_inj, on_toInt, on_clamp, ti64, z0, z1, z2, zm1, i0, i1, im1, zz3, zz4, zz5, zz6, zz7, zz8, zz9, zz10, zz11, zz12, zz13, zz14, zz15, zz16, zz17, zz18, zz19, zz20, zz21, zz22, zz23, zz24, zz25, zz26, zz27, zz28, zz29, zz30, zz31, zz32, zz33, zz34, zz35, zz36, zz37, zz38, zz39, zz40, zz41, zz48, zz60, zz64, zz160, zz312, zz320, zzm2, zzm3, zzm4, zzm5, zzm6, zzm7, zzm8, zzm9, zzm10]; done) | (simp (disch := omega) only [Int32.lt_iff_toInt_lt, Int32.le_iff_toInt_le, ← Int32.toInt_inj, on_toInt, on_clamp, ti64, z0, z1, z2, zm1, i0, i1, im1, zz3, zz4, zz5, zz6, zz7, zz8, zz9, zz10, zz11, zz12, zz13, zz14, zz15, zz16, zz17, zz18, zz19, zz20, zz21, zz22, zz23, zz24, zz25, zz26, zz27, zz28, zz29, zz30, zz31, zz32, zz33, zz34, zz35, zz36, zz37, zz38, zz39, zz40, zz41, zz48, zz60, zz64, zz160, zz312, zz320, zzm2, zzm3, zzm4, zzm5, zzm6, zzm7, zzm8, zzm9, zzm10]; omega)), if_pos (by first | omega | (simp (disch := omega) only [Int32.lt_iff_toInt_lt, Int32.le_iff_toInt_le, ← Int32.toInt_inj, on_toInt, on_clamp, ti64, z0, z1, z2, zm1, i0, i1, im1, zz3, zz4, zz5, zz6, zz7, zz8, zz9, zz10, zz11, zz12, zz13, zz14, zz15, zz16, zz17, zz18, zz19, zz20, zz21, zz22, zz23, zz24, zz25, zz26, zz27, zz28, zz29, zz30, zz31, zz32, zz33, zz34, zz35, zz36, zz37, zz38, zz39, zz40, zz41, zz48, zz60, zz64, zz160, zz312, zz320, zzm2, zzm3, zzm4, zzm5, zzm6, zzm7, zzm8, zzm9, zzm10]; done) | (simp (disch := omega) only [Int32.lt_iff_toInt_lt, Int32.le_iff_toInt_le, ← Int32.toInt_inj, on_toInt, on_clamp, ti64, z0, z1, z2, zm1, i0, i1, im1, zz3, zz4, zz5, zz6, zz7, zz8, zz9, zz10, zz11, zz12, zz13, zz14, zz15, zz16, zz17, zz18, zz19, zz20, zz21, zz22, zz23, zz24, zz25, zz26, zz27, zz28, zz29, zz30, zz31, zz32, zz33, zz34, zz35, zz36, zz37, zz38, zz39, zz40, zz41, zz48, zz60, zz64, zz160, zz312, zz320, zzm2, zzm3, zzm4, zzm5, zzm6, zzm7, zzm8, zzm9, zzm10]; omega)), if_neg c3]
theorem E_6 {I : WI} {L : WL} {a1 : Int32} (H : Inv I L) : (F_X8_cloth I L a1) = (F_X9_cloth I L a1) ∧ Inv I L := by
  refine ⟨?_, H⟩
  obtain ⟨⟨h, w, ⟨hC, c1, c2, c3, c4, c5, -⟩, p1', p2', p3'⟩, -⟩ := H
  unfold F_X8_cloth F_X9_cloth F_X8_cloth_37 F_X9_cloth_30 F_X8_cloth_38 F_X9_cloth_31
  rw [c5, p2']
  rcases bz01 (I 2 0) with e | e
  · rw [e, if_pos rfl, if_pos rfl]
  · rw [(p3' e).1]
theorem hasSq_eq {I : WI} {o h w : Nat} (hC : Cl h w) (e1 : I o 1 = Int32.ofNat h) (e2 : I o 2 = Int32.ofNat w) {a b : Int32} : F_X0_hasSquare I o a b = if (0 ≤ a.toInt ∧ a.toInt < h) ∧ 0 ≤ b.toInt ∧ b.toInt < w then 1 else 0 := by
  obtain ⟨⟨h1, h2⟩, h3, h4⟩ := hC
  unfold F_X0_hasSquare F_X0_hasSquare_28 F_X0_hasSquare_29
  rw [e1, e2]
  by_cases c1 : a.toInt < 0
  · rw [if_pos (by first | omega | (simp (disch := omega) only [Int32.lt_iff_toInt_lt, Int32.le_iff_toInt_le, ← Int32.toInt_inj, on_toInt, on_clamp, ti64, z0, z1, z2, zm1, i0, i1, im1, zz3, zz4, zz5, zz6, zz7, zz8, zz9, zz10, zz11, zz12, zz13, zz14, zz15, zz16, zz17, zz18, zz19, zz20, zz21, zz22, zz23, zz24, zz25, zz26, zz27, zz28, zz29, zz30, zz31, zz32, zz33, zz34, zz35, zz36, zz37, zz38, zz39, zz40, zz41, zz48, zz60, zz64, zz160, zz312, zz320, zzm2, zzm3, zzm4, zzm5, zzm6, zzm7, zzm8, zzm9, zzm10]; done) | (simp (disch := omega) only [Int32.lt_iff_toInt_lt, Int32.le_iff_toInt_le, ← Int32.toInt_inj, on_toInt, on_clamp, ti64, z0, z1, z2, zm1, i0, i1, im1, zz3, zz4, zz5, zz6, zz7, zz8, zz9, zz10, zz11, zz12, zz13, zz14, zz15, zz16, zz17, zz18, zz19, zz20, zz21, zz22, zz23, zz24, zz25, zz26, zz27, zz28, zz29, zz30, zz31, zz32, zz33, zz34, zz35, zz36, zz37, zz38, zz39, zz40, zz41, zz48, zz60, zz64, zz160, zz312, zz320, zzm2, zzm3, zzm4, zzm5, zzm6, zzm7, zzm8, zzm9, zzm10]; omega)), if_neg (by omega)]
  rw [if_neg (by first | omega | (simp (disch := omega) only [Int32.lt_iff_toInt_lt, Int32.le_iff_toInt_le, ← Int32.toInt_inj, on_toInt, on_clamp, ti64, z0, z1, z2, zm1, i0, i1, im1, zz3, zz4, zz5, zz6, zz7, zz8, zz9, zz10, zz11, zz12, zz13, zz14, zz15, zz16, zz17, zz18, zz19, zz20, zz21, zz22, zz23, zz24, zz25, zz26, zz27, zz28, zz29, zz30, zz31, zz32, zz33, zz34, zz35, zz36, zz37, zz38, zz39, zz40, zz41, zz48, zz60, zz64, zz160, zz312, zz320, zzm2, zzm3, zzm4, zzm5, zzm6, zzm7, zzm8, zzm9, zzm10]; done) | (simp (disch := omega) only [Int32.lt_iff_toInt_lt, Int32.le_iff_toInt_le, ← Int32.toInt_inj, on_toInt, on_clamp, ti64, z0, z1, z2, zm1, i0, i1, im1, zz3, zz4, zz5, zz6, zz7, zz8, zz9, zz10, zz11, zz12, zz13, zz14, zz15, zz16, zz17, zz18, zz19, zz20, zz21, zz22, zz23, zz24, zz25, zz26, zz27, zz28, zz29, zz30, zz31, zz32, zz33, zz34, zz35, zz36, zz37, zz38, zz39, zz40, zz41, zz48, zz60, zz64, zz160, zz312, zz320, zzm2, zzm3, zzm4, zzm5, zzm6, zzm7, zzm8, zzm9, zzm10]; omega))]
  by_cases c2 : (h : Int) ≤ a.toInt
  · rw [if_pos (by first | omega | (simp (disch := omega) only [Int32.lt_iff_toInt_lt, Int32.le_iff_toInt_le, ← Int32.toInt_inj, on_toInt, on_clamp, ti64, z0, z1, z2, zm1, i0, i1, im1, zz3, zz4, zz5, zz6, zz7, zz8, zz9, zz10, zz11, zz12, zz13, zz14, zz15, zz16, zz17, zz18, zz19, zz20, zz21, zz22, zz23, zz24, zz25, zz26, zz27, zz28, zz29, zz30, zz31, zz32, zz33, zz34, zz35, zz36, zz37, zz38, zz39, zz40, zz41, zz48, zz60, zz64, zz160, zz312, zz320, zzm2, zzm3, zzm4, zzm5, zzm6, zzm7, zzm8, zzm9, zzm10]; done) | (simp (disch := omega) only [Int32.lt_iff_toInt_lt, Int32.le_iff_toInt_le, ← Int32.toInt_inj, on_toInt, on_clamp, ti64, z0, z1, z2, zm1, i0, i1, im1, zz3, zz4, zz5, zz6, zz7, zz8, zz9, zz10, zz11, zz12, zz13, zz14, zz15, zz16, zz17, zz18, zz19, zz20, zz21, zz22, zz23, zz24, zz25, zz26, zz27, zz28, zz29, zz30, zz31, zz32, zz33, zz34, zz35, zz36, zz37, zz38, zz39, zz40, zz41, zz48, zz60, zz64, zz160, zz312, zz320, zzm2, zzm3, zzm4, zzm5, zzm6, zzm7, zzm8, zzm9, zzm10]; omega)), if_neg (by omega)]
  rw [if_neg (by first | omega | (simp (disch := omega) only [Int32.lt_iff_toInt_lt, Int32.le_iff_toInt_le, ← Int32.toInt_inj, on_toInt, on_clamp, ti64, z0, z1, z2, zm1, i0, i1, im1, zz3, zz4, zz5, zz6, zz7, zz8, zz9, zz10, zz11, zz12, zz13, zz14, zz15, zz16, zz17, zz18, zz19, zz20, zz21, zz22, zz23, zz24, zz25, zz26, zz27, zz28, zz29, zz30, zz31, zz32, zz33, zz34, zz35, zz36, zz37, zz38, zz39, zz40, zz41, zz48, zz60, zz64, zz160, zz312, zz320, zzm2, zzm3, zzm4, zzm5, zzm6, zzm7, zzm8, zzm9, zzm10]; done) | (simp (disch := omega) only [Int32.lt_iff_toInt_lt, Int32.le_iff_toInt_le, ← Int32.toInt_inj, on_toInt, on_clamp, ti64, z0, z1, z2, zm1, i0, i1, im1, zz3, zz4, zz5, zz6, zz7, zz8, zz9, zz10, zz11, zz12, zz13, zz14, zz15, zz16, zz17, zz18, zz19, zz20, zz21, zz22, zz23, zz24, zz25, zz26, zz27, zz28, zz29, zz30, zz31, zz32, zz33, zz34, zz35, zz36, zz37, zz38, zz39, zz40, zz41, zz48, zz60, zz64, zz160, zz312, zz320, zzm2, zzm3, zzm4, zzm5, zzm6, zzm7, zzm8, zzm9, zzm10]; omega))]
  by_cases c3 : b.toInt < 0
  · rw [if_pos (by first | omega | (simp (disch := omega) only [Int32.lt_iff_toInt_lt, Int32.le_iff_toInt_le, ← Int32.toInt_inj, on_toInt, on_clamp, ti64, z0, z1, z2, zm1, i0, i1, im1, zz3, zz4, zz5, zz6, zz7, zz8, zz9, zz10, zz11, zz12, zz13, zz14, zz15, zz16, zz17, zz18, zz19, zz20, zz21, zz22, zz23, zz24, zz25, zz26, zz27, zz28, zz29, zz30, zz31, zz32, zz33, zz34, zz35, zz36, zz37, zz38, zz39, zz40, zz41, zz48, zz60, zz64, zz160, zz312, zz320, zzm2, zzm3, zzm4, zzm5, zzm6, zzm7, zzm8, zzm9, zzm10]; done) | (simp (disch := omega) only [Int32.lt_iff_toInt_lt, Int32.le_iff_toInt_le, ← Int32.toInt_inj, on_toInt, on_clamp, ti64, z0, z1, z2, zm1, i0, i1, im1, zz3, zz4, zz5, zz6, zz7, zz8, zz9, zz10, zz11, zz12, zz13, zz14, zz15, zz16, zz17, zz18, zz19, zz20, zz21, zz22, zz23, zz24, zz25, zz26, zz27, zz28, zz29, zz30, zz31, zz32, zz33, zz34, zz35, zz36, zz37, zz38, zz39, zz40, zz41, zz48, zz60, zz64, zz160, zz312, zz320, zzm2, zzm3, zzm4, zzm5, zzm6, zzm7, zzm8, zzm9, zzm10]; omega)), if_neg (by omega)]
  rw [if_neg (by first | omega | (simp (disch := omega) only [Int32.lt_iff_toInt_lt, Int32.le_iff_toInt_le, ← Int32.toInt_inj, on_toInt, on_clamp, ti64, z0, z1, z2, zm1, i0, i1, im1, zz3, zz4, zz5, zz6, zz7, zz8, zz9, zz10, zz11, zz12, zz13, zz14, zz15, zz16, zz17, zz18, zz19, zz20, zz21, zz22, zz23, zz24, zz25, zz26, zz27, zz28, zz29, zz30, zz31, zz32, zz33, zz34, zz35, zz36, zz37, zz38, zz39, zz40, zz41, zz48, zz60, zz64, zz160, zz312, zz320, zzm2, zzm3, zzm4, zzm5, zzm6, zzm7, zzm8, zzm9, zzm10]; done) | (simp (disch := omega) only [Int32.lt_iff_toInt_lt, Int32.le_iff_toInt_le, ← Int32.toInt_inj, on_toInt, on_clamp, ti64, z0, z1, z2, zm1, i0, i1, im1, zz3, zz4, zz5, zz6, zz7, zz8, zz9, zz10, zz11, zz12, zz13, zz14, zz15, zz16, zz17, zz18, zz19, zz20, zz21, zz22, zz23, zz24, zz25, zz26, zz27, zz28, zz29, zz30, zz31, zz32, zz33, zz34, zz35, zz36, zz37, zz38, zz39, zz40, zz41, zz48, zz60, zz64, zz160, zz312, zz320, zzm2, zzm3, zzm4, zzm5, zzm6, zzm7, zzm8, zzm9, zzm10]; omega))]
  by_cases c4 : (w : Int) ≤ b.toInt
  · rw [if_pos (by first | omega | (simp (disch := omega) only [Int32.lt_iff_toInt_lt, Int32.le_iff_toInt_le, ← Int32.toInt_inj, on_toInt, on_clamp, ti64, z0, z1, z2, zm1, i0, i1, im1, zz3, zz4, zz5, zz6, zz7, zz8, zz9, zz10, zz11, zz12, zz13, zz14, zz15, zz16, zz17, zz18, zz19, zz20, zz21, zz22, zz23, zz24, zz25, zz26, zz27, zz28, zz29, zz30, zz31, zz32, zz33, zz34, zz35, zz36, zz37, zz38, zz39, zz40, zz41, zz48, zz60, zz64, zz160, zz312, zz320, zzm2, zzm3, zzm4, zzm5, zzm6, zzm7, zzm8, zzm9, zzm10]; done) | (simp (disch := omega) only [Int32.lt_iff_toInt_lt, Int32.le_iff_toInt_le, ← Int32.toInt_inj, on_toInt, on_clamp, ti64, z0, z1, z2, zm1, i0, i1, im1, zz3, zz4, zz5, zz6, zz7, zz8, zz9, zz10, zz11, zz12, zz13, zz14, zz15, zz16, zz17, zz18, zz19, zz20, zz21, zz22, zz23, zz24, zz25, zz26, zz27, zz28, zz29, zz30, zz31, zz32, zz33, zz34, zz35, zz36, zz37, zz38, zz39, zz40, zz41, zz48, zz60, zz64, zz160, zz312, zz320, zzm2, zzm3, zzm4, zzm5, zzm6, zzm7, zzm8, zzm9, zzm10]; omega)), if_neg (by omega)]
  rw [if_neg (by first | omega | (simp (disch := omega) only [Int32.lt_iff_toInt_lt, Int32.le_iff_toInt_le, ← Int32.toInt_inj, on_toInt, on_clamp, ti64, z0, z1, z2, zm1, i0, i1, im1, zz3, zz4, zz5, zz6, zz7, zz8, zz9, zz10, zz11, zz12, zz13, zz14, zz15, zz16, zz17, zz18, zz19, zz20, zz21, zz22, zz23, zz24, zz25, zz26, zz27, zz28, zz29, zz30, zz31, zz32, zz33, zz34, zz35, zz36, zz37, zz38, zz39, zz40, zz41, zz48, zz60, zz64, zz160, zz312, zz320, zzm2, zzm3, zzm4, zzm5, zzm6, zzm7, zzm8, zzm9, zzm10]; done) | (simp (disch := omega) only [Int32.lt_iff_toInt_lt, Int32.le_iff_toInt_le, ← Int32.toInt_inj, on_toInt, on_clamp, ti64, z0, z1, z2, zm1, i0, i1, im1, zz3, zz4, zz5, zz6, zz7, zz8, zz9, zz10, zz11, zz12, zz13, zz14, zz15, zz16, zz17, zz18, zz19, zz20, zz21, zz22, zz23, zz24, zz25, zz26, zz27, zz28, zz29, zz30, zz31, zz32, zz33, zz34, zz35, zz36, zz37, zz38, zz39, zz40, zz41, zz48, zz60, zz64, zz160, zz312, zz320, zzm2, zzm3, zzm4, zzm5, zzm6, zzm7, zzm8, zzm9, zzm10]; omega)), if_pos (by omega)]
theorem isSq_eq {I : WI} {h w : Nat} (hC : Cl h w) (e1 : I 33 0 = Int32.ofNat h) (e2 : I 33 1 = Int32.ofNat w) {a b : Int32} : F_X9_isSquare I a b = if (0 ≤ a.toInt ∧ a.toInt < h) ∧ 0 ≤ b.toInt ∧ b.toInt < w then 1 else 0 := by
  obtain ⟨⟨h1, h2⟩, h3, h4⟩ := hC
  unfold F_X9_isSquare F_X9_isSquare_36 F_X9_isSquare_37
  rw [e1, e2, in_eq, in_eq, ti64, ti64, on_m1 (by omega), on_m1 (by omega), i0]
  by_cases c1 : 0 ≤ a.toInt ∧ a.toInt < h
  · rw [if_pos (show 0 ≤ a.toInt ∧ a.toInt ≤ (h : Int) - 1 by omega), if_neg (show ¬ (1 : Int32) = 0 by decide)]
    by_cases c2 : 0 ≤ b.toInt ∧ b.toInt < w
    · rw [if_pos (show 0 ≤ b.toInt ∧ b.toInt ≤ (w : Int) - 1 by omega), if_neg (show ¬ (1 : Int32) = 0 by decide), if_pos ⟨c1, c2⟩]
    · rw [if_neg (show ¬ (0 ≤ b.toInt ∧ b.toInt ≤ (w : Int) - 1) by omega), if_pos rfl, if_neg (fun h => c2 h.2)]
  · rw [if_neg (show ¬ (0 ≤ a.toInt ∧ a.toInt ≤ (h : Int) - 1) by omega), if_pos rfl, if_neg (fun h => c1 h.1)]
theorem dark_eq {L : WL} {o r c : Nat} {x : Int64} (e : x = L o 3) (h : 8 * r + c < 64) : F_X0_squareAt L o (Int32.ofNat r) (Int32.ofNat c) = F_X9_isDark x (Int32.ofNat r) (Int32.ofNat c) := by
  rw [squareAt_eq h, isDark_eq h, e]
theorem E_7 {I : WI} {L : WL} {a1 a2 : Int32} (H : Inv I L) : (F_X8_square I L a1 a2) = (F_X9_square I L a1 a2) ∧ Inv I L := by
  refine ⟨?_, H⟩
  obtain ⟨⟨h, w, ⟨hC, c1, c2, c3, c4, c5, -⟩, -⟩, -⟩ := H
  unfold F_X8_square F_X9_square F_X8_square_25 F_X9_square_22
  rw [hasSq_eq hC c1 c2, isSq_eq hC c3 c4]
  by_cases c : (0 ≤ a1.toInt ∧ a1.toInt < h) ∧ 0 ≤ a2.toInt ∧ a2.toInt < w
  · rw [if_pos c, if_neg (by decide), if_neg (by decide)]
    obtain ⟨r, rfl, hr, -⟩ := nn c.1.1
    obtain ⟨q, rfl, hq, -⟩ := nn c.2.1
    obtain ⟨⟨h1, h2⟩, h3, h4⟩ := hC
    exact dark_eq c5 (by omega)
  · rw [if_neg c, if_pos rfl, if_pos rfl]
theorem E_14 {I : WI} {L : WL} (H : Inv I L) : (F_X8_forms I) = (F_X9_forms I) ∧ Inv I L := by
  refine ⟨?_, H⟩
  obtain ⟨⟨h, w, ⟨hC, c1, c2, c3, c4, -⟩, -⟩, -⟩ := H
  unfold F_X8_forms F_X9_forms
  rw [c1, c2, c3, c4]
theorem E_36 {I : WI} {L : WL} (H : Inv I L) : (F_X8_torn I) = (F_X9_torn I) ∧ Inv I L := by
  have H' := H
  obtain ⟨-, -, -, -, -, -, h⟩ := H
  exact ⟨h, H'⟩
theorem kept_eq {I : WI} {L : WL} {k : Nat} (hk : k < 2) (H : InvK I L k) : F_X9_isKept I (Int32.ofNat k) = some (bz (I (3 + k) 0)) := by
  unfold F_X9_isKept F_X9_isKept_14
  rw [if_neg (nin (k := k) hk (by decide)), on_clamp (by omega)]
  rcases bz01 (I (3 + k) 0) with e | e
  · have := H.1 e
    rw [if_pos (by first | omega | (simp (disch := omega) only [Int32.lt_iff_toInt_lt, Int32.le_iff_toInt_le, ← Int32.toInt_inj, on_toInt, on_clamp, ti64, z0, z1, z2, zm1, i0, i1, im1, zz3, zz4, zz5, zz6, zz7, zz8, zz9, zz10, zz11, zz12, zz13, zz14, zz15, zz16, zz17, zz18, zz19, zz20, zz21, zz22, zz23, zz24, zz25, zz26, zz27, zz28, zz29, zz30, zz31, zz32, zz33, zz34, zz35, zz36, zz37, zz38, zz39, zz40, zz41, zz48, zz60, zz64, zz160, zz312, zz320, zzm2, zzm3, zzm4, zzm5, zzm6, zzm7, zzm8, zzm9, zzm10]; done) | (simp (disch := omega) only [Int32.lt_iff_toInt_lt, Int32.le_iff_toInt_le, ← Int32.toInt_inj, on_toInt, on_clamp, ti64, z0, z1, z2, zm1, i0, i1, im1, zz3, zz4, zz5, zz6, zz7, zz8, zz9, zz10, zz11, zz12, zz13, zz14, zz15, zz16, zz17, zz18, zz19, zz20, zz21, zz22, zz23, zz24, zz25, zz26, zz27, zz28, zz29, zz30, zz31, zz32, zz33, zz34, zz35, zz36, zz37, zz38, zz39, zz40, zz41, zz48, zz60, zz64, zz160, zz312, zz320, zzm2, zzm3, zzm4, zzm5, zzm6, zzm7, zzm8, zzm9, zzm10]; omega)), e]
  · obtain ⟨h, w, ⟨⟨h1, h2⟩, h3, h4⟩, -, -, g, -⟩ := H.2 e
    rw [g, if_neg (by first | omega | (simp (disch := omega) only [Int32.lt_iff_toInt_lt, Int32.le_iff_toInt_le, ← Int32.toInt_inj, on_toInt, on_clamp, ti64, z0, z1, z2, zm1, i0, i1, im1, zz3, zz4, zz5, zz6, zz7, zz8, zz9, zz10, zz11, zz12, zz13, zz14, zz15, zz16, zz17, zz18, zz19, zz20, zz21, zz22, zz23, zz24, zz25, zz26, zz27, zz28, zz29, zz30, zz31, zz32, zz33, zz34, zz35, zz36, zz37, zz38, zz39, zz40, zz41, zz48, zz60, zz64, zz160, zz312, zz320, zzm2, zzm3, zzm4, zzm5, zzm6, zzm7, zzm8, zzm9, zzm10]; done) | (simp (disch := omega) only [Int32.lt_iff_toInt_lt, Int32.le_iff_toInt_le, ← Int32.toInt_inj, on_toInt, on_clamp, ti64, z0, z1, z2, zm1, i0, i1, im1, zz3, zz4, zz5, zz6, zz7, zz8, zz9, zz10, zz11, zz12, zz13, zz14, zz15, zz16, zz17, zz18, zz19, zz20, zz21, zz22, zz23, zz24, zz25, zz26, zz27, zz28, zz29, zz30, zz31, zz32, zz33, zz34, zz35, zz36, zz37, zz38, zz39, zz40, zz41, zz48, zz60, zz64, zz160, zz312, zz320, zzm2, zzm3, zzm4, zzm5, zzm6, zzm7, zzm8, zzm9, zzm10]; omega)), e]
theorem E_37 {I : WI} {L : WL} {a1 : Int32} (H : Inv I L) : ∃ w, (F_X9_count I L a1) = some w ∧ (F_X8_count I L a1) = w ∧ Inv I L := by
  have H' := H
  obtain ⟨⟨h, w, ⟨hC, c1, c2, c3, c4, c5, -⟩, -, p2', p3'⟩, k0, k1, -, ⟨n, -, t1, t2, -⟩, hs, -⟩ := H
  suffices h : F_X9_count I L a1 = some (F_X8_count I L a1) from ⟨_, h, rfl, H'⟩
  have hz : ∀ x : Int32, F_X9_flag (bz x) = bz x := by
    intro x
    unfold F_X9_flag F_X9_flag_9
    rcases bz01 x with e | e <;> rw [e] <;> rfl
  unfold F_X9_count F_X8_count F_X9_count_82 F_X8_count_97 F_X9_count_128 F_X8_count_113 F_X8_count_128
  by_cases q0 : a1 = 0
  · rw [if_pos q0, if_pos q0, c5, many_bits]
    rfl
  rw [if_neg q0, if_neg q0]
  by_cases q1 : a1 = 1
  · rw [if_pos q1, if_pos q1, c1, c2, c3, c4]
  rw [if_neg q1, if_neg q1]
  by_cases q2 : a1 = 2
  · rw [if_pos q2, if_pos q2, p2']
    rcases bz01 (I 2 0) with e | e
    · rw [e, if_pos rfl, if_pos rfl]
    · rw [e, if_neg (by decide), if_neg (by decide), c5, (p3' e).1, many_bits]
  rw [if_neg q2, if_neg q2]
  by_cases q3 : a1 = 3
  · rw [if_pos q3, if_pos q3, show (0 : Int32) = Int32.ofNat 0 from rfl, kept_eq (by decide) k0, show (1 : Int32) = Int32.ofNat 1 from rfl, kept_eq (by decide) k1]
    show some (F_X9_flag (bz (I 3 0)) + F_X9_flag (bz (I 4 0))) = _
    rw [hz, hz]
    rcases bz01 (I 3 0) with e | e <;> rcases bz01 (I 4 0) with f | f <;> rw [e, f] <;> rfl
  rw [if_neg q3, if_neg q3]
  by_cases q4 : a1 = 4
  · rw [if_pos q4, if_pos q4, t1, t2]
  rw [if_neg q4, if_neg q4]
  by_cases q5 : a1 = 5
  · rw [if_pos q5, if_pos q5]
    unfold F_X4_cellsOf F_X4_cellsOf_26 F_X4_cellsOf_17 F_X4_cellsOf_26 F_X3_isNothing F_X3_isNothing_12
    rw [if_pos (show ¬ ((0 : Int32) < 0 ∨ 4 ≤ Int32.toNatClampNeg 0) by decide), show sid 0 = 19 from rfl, show Int32.toNatClampNeg 0 = 0 from rfl]
    rcases hs 0 (by decide) with ⟨s1, s2⟩ | ⟨m, l, s0, sl, s1, s2, s3, s4, -⟩
    · have s1 : I 19 0 = -1 := s1
      rw [s1, s2, if_pos rfl, if_neg (by decide)]
    · have s1 : I 19 0 = Int32.ofNat m := s1
      rw [s1, s2, s4, if_neg (show ¬ Int32.ofNat l = -4 from fun e => absurd (congrArg Int32.toInt e) (by rw [on_toInt (by omega), show (-4 : Int32).toInt = -4 by decide]; omega)), show (if (0 : Int32) ≤ Int32.ofNat m then (0 : Int32) else 1) = 0 from if_pos (by first | omega | (simp (disch := omega) only [Int32.lt_iff_toInt_lt, Int32.le_iff_toInt_le, ← Int32.toInt_inj, on_toInt, on_clamp, ti64, z0, z1, z2, zm1, i0, i1, im1, zz3, zz4, zz5, zz6, zz7, zz8, zz9, zz10, zz11, zz12, zz13, zz14, zz15, zz16, zz17, zz18, zz19, zz20, zz21, zz22, zz23, zz24, zz25, zz26, zz27, zz28, zz29, zz30, zz31, zz32, zz33, zz34, zz35, zz36, zz37, zz38, zz39, zz40, zz41, zz48, zz60, zz64, zz160, zz312, zz320, zzm2, zzm3, zzm4, zzm5, zzm6, zzm7, zzm8, zzm9, zzm10]; done) | (simp (disch := omega) only [Int32.lt_iff_toInt_lt, Int32.le_iff_toInt_le, ← Int32.toInt_inj, on_toInt, on_clamp, ti64, z0, z1, z2, zm1, i0, i1, im1, zz3, zz4, zz5, zz6, zz7, zz8, zz9, zz10, zz11, zz12, zz13, zz14, zz15, zz16, zz17, zz18, zz19, zz20, zz21, zz22, zz23, zz24, zz25, zz26, zz27, zz28, zz29, zz30, zz31, zz32, zz33, zz34, zz35, zz36, zz37, zz38, zz39, zz40, zz41, zz48, zz60, zz64, zz160, zz312, zz320, zzm2, zzm3, zzm4, zzm5, zzm6, zzm7, zzm8, zzm9, zzm10]; omega)), if_pos rfl]
  rw [if_neg q5, if_neg q5]
/-! calls that change the cloth, the pattern -/
theorem Ins.xor {h w : Nat} {x y : Int64} (hx : Ins h w x) (hy : Ins h w y) : Ins h w (x ^^^ y) := fun k hk => by
  by_cases c : M x k
  · exact hx k c
  · refine hy k (Classical.byContradiction fun d => ?_)
    rw [M_xor] at hk
    exact hk ⟨fun e => absurd e c, fun e => absurd e d⟩
theorem Ins.and {h w : Nat} {x y : Int64} (hx : Ins h w x) : Ins h w (x &&& y) := fun k hk => hx k (M_and.mp hk).1
theorem Ins.or {h w : Nat} {x y : Int64} (hx : Ins h w x) (hy : Ins h w y) : Ins h w (x ||| y) := fun k hk => (M_or.mp hk).elim (hx k) (hy k)
theorem Inv.setC {I : WI} {L : WL} {X : Int64} (H : Inv I L) (hX : ∀ h w, Cl h w → I 1 1 = Int32.ofNat h → I 1 2 = Int32.ofNat w → Ins h w X) : Inv I (u2 (u2 L 1 3 X) 33 2 X) := by
  obtain ⟨⟨h, w, ⟨hC, c1, c2, c3, c4, c5, c6, c7⟩, h2⟩, k0, k1, h3, h4, h5, h6⟩ := H
  exact ⟨⟨h, w, ⟨hC, c1, c2, c3, c4, rfl, hX h w hC c1 c2, c7⟩, h2⟩, k0, k1, h3, h4, h5, h6⟩
theorem Inv.setP {I : WI} {L : WL} {X : Int64} (H : Inv I L) (hX : ∀ h w, Cl h w → I 1 1 = Int32.ofNat h → I 1 2 = Int32.ofNat w → Ins h w X) : Inv I (u2 (u2 L 2 3 X) 33 3 X) := by
  obtain ⟨⟨h, w, ⟨hC, c1, c2, c3, c4, c5, c6, c7⟩, q1, q2, q3⟩, k0, k1, h3, h4, h5, h6⟩ := H
  exact ⟨⟨h, w, ⟨hC, c1, c2, c3, c4, c5, c6, c7⟩, q1, q2, fun _ => ⟨rfl, hX h w hC c1 c2⟩⟩, k0, k1, h3, h4, h5, h6⟩
def pset (x : Int64) (a b s : Int32) : Int64 := if s = 0 then x &&& ((lsh 1 ((8 * a) + b)) ^^^ (-1)) else x ||| (lsh 1 ((8 * a) + b))
theorem pset_ins {h w r c : Nat} (hw : w ≤ 8) (hh : h ≤ 8) (hr : r < h) (hc : c < w) {x : Int64} {s : Int32} (hx : Ins h w x) : Ins h w (pset x (Int32.ofNat r) (Int32.ofNat c) s) := by
  unfold pset
  split
  · exact hx.and
  · refine hx.or fun k hk => ?_
    rw [pos_rc, M_bit (by omega)] at hk
    omega
theorem colour_eq {L : WL} {o : Nat} {a b s : Int32} : F_X0_colour L o a b s = (F_X0_squareAt L o a b, u2 L o 3 (pset (L o 3) a b s)) := by
  unfold F_X0_colour F_X0_colour_44 pset
  by_cases c : s = 0
  · rw [if_pos c, if_pos c]
  · rw [if_neg c, if_neg c]
theorem E_8 {I : WI} {L : WL} {a1 a2 a3 : Int32} (H : Inv I L) : (p1 (F_X8_paint I L a1 a2 (nz a3))) = (p1 (F_X9_paint I (p2 (F_X8_paint I L a1 a2 (nz a3))) a1 a2 (nz a3))) ∧ Inv I (p2 (F_X9_paint I (p2 (F_X8_paint I L a1 a2 (nz a3))) a1 a2 (nz a3))) := by
  have H' := H
  obtain ⟨⟨h, w, ⟨hC, c1, c2, c3, c4, c5, c6, -⟩, -⟩, -⟩ := H
  generalize nz a3 = s
  by_cases c : (0 ≤ a1.toInt ∧ a1.toInt < h) ∧ 0 ≤ a2.toInt ∧ a2.toInt < w
  · obtain ⟨r, rfl, hr, -⟩ := nn c.1.1
    obtain ⟨q, rfl, hq, -⟩ := nn c.2.1
    have hC2 := hC
    obtain ⟨⟨h1, h2⟩, h3, h4⟩ := hC2
    have e1 : F_X8_paint I L (Int32.ofNat r) (Int32.ofNat q) s = (F_X0_squareAt L 1 (Int32.ofNat r) (Int32.ofNat q), u2 L 1 3 (pset (L 1 3) (Int32.ofNat r) (Int32.ofNat q) s)) := by
      unfold F_X8_paint F_X8_paint_26
      rw [hasSq_eq hC c1 c2, if_pos c, if_neg (by decide), colour_eq]
      rfl
    have e2 : ∀ L, F_X9_paint I L (Int32.ofNat r) (Int32.ofNat q) s = (F_X9_isDark (L 33 2) (Int32.ofNat r) (Int32.ofNat q), u2 L 33 2 (pset (L 33 2) (Int32.ofNat r) (Int32.ofNat q) s)) := by
      intro L
      unfold F_X9_paint F_X9_paint_54 F_X9_bitOf pset
      rw [isSq_eq hC c3 c4, if_pos c, if_neg (by decide)]
      by_cases cs : s = 0
      · rw [if_pos cs, if_pos cs]
      · rw [if_neg cs, if_neg cs]
    rw [e1, e2]
    have e3 : (u2 L 1 3 (pset (L 1 3) (Int32.ofNat r) (Int32.ofNat q) s)) 33 2 = L 1 3 := c5
    refine ⟨?_, ?_⟩
    · show F_X0_squareAt L 1 (Int32.ofNat r) (Int32.ofNat q) = F_X9_isDark ((u2 L 1 3 (pset (L 1 3) (Int32.ofNat r) (Int32.ofNat q) s)) 33 2) (Int32.ofNat r) (Int32.ofNat q)
      rw [e3]
      exact dark_eq rfl (by omega)
    · show Inv I (u2 (u2 L 1 3 (pset (L 1 3) (Int32.ofNat r) (Int32.ofNat q) s)) 33 2 (pset ((u2 L 1 3 (pset (L 1 3) (Int32.ofNat r) (Int32.ofNat q) s)) 33 2) (Int32.ofNat r) (Int32.ofNat q) s))
      rw [e3]
      refine H'.setC fun h' w' hC' g1 g2 => ?_
      have q1 : h' = h := by
        have := congrArg Int32.toInt (g1.symm.trans c1)
        rw [on_toInt (by have := hC'.1.2; omega), on_toInt (by omega)] at this
        omega
      have q2 : w' = w := by
        have := congrArg Int32.toInt (g2.symm.trans c2)
        rw [on_toInt (by have := hC'.2.2; omega), on_toInt (by omega)] at this
        omega
      rw [q1, q2]
      exact pset_ins h4 h2 (by omega) (by omega) c6
  · have e1 : F_X8_paint I L a1 a2 s = (-1, L) := by
      unfold F_X8_paint F_X8_paint_26
      rw [hasSq_eq hC c1 c2, if_neg c, if_pos rfl]
    have e2 : F_X9_paint I L a1 a2 s = (-1, L) := by
      unfold F_X9_paint
      rw [isSq_eq hC c3 c4, if_neg c, if_pos rfl]
    rw [e1]
    show _ = p1 (F_X9_paint I L a1 a2 s) ∧ Inv I (p2 (F_X9_paint I L a1 a2 s))
    rw [e2]
    exact ⟨rfl, H'⟩
/-- the size is one -/
theorem on_inj {a b : Nat} (ha : a < 2147483648) (hb : b < 2147483648) (h : Int32.ofNat a = Int32.ofNat b) : a = b := by
  have := congrArg Int32.toInt h
  rw [on_toInt ha, on_toInt hb] at this
  omega
theorem Cl.eq {h w h' w' : Nat} (a : Cl h w) (b : Cl h' w') {x y : Int32} (e1 : x = Int32.ofNat h) (e2 : y = Int32.ofNat w) (f1 : x = Int32.ofNat h') (f2 : y = Int32.ofNat w') : h' = h ∧ w' = w := by
  obtain ⟨⟨-, a2⟩, -, a4⟩ := a
  obtain ⟨⟨-, b2⟩, -, b4⟩ := b
  exact ⟨on_inj (by omega) (by omega) (f1.symm.trans e1), on_inj (by omega) (by omega) (f2.symm.trans e2)⟩
theorem E_9 {I : WI} {L : WL} {a1 a2 a3 : Int32} (H : Inv I L) : (p1 (F_X8_wish I L a1 a2 (nz a3))) = (p1 (F_X9_wish I (p2 (F_X8_wish I L a1 a2 (nz a3))) a1 a2 (nz a3))) ∧ Inv I (p2 (F_X9_wish I (p2 (F_X8_wish I L a1 a2 (nz a3))) a1 a2 (nz a3))) := by
  have H' := H
  obtain ⟨⟨h, w, ⟨hC, c1, c2, c3, c4, c5, c6, -⟩, -, p2', p3'⟩, -⟩ := H
  generalize nz a3 = s
  by_cases c : (0 ≤ a1.toInt ∧ a1.toInt < h) ∧ 0 ≤ a2.toInt ∧ a2.toInt < w
  · rcases bz01 (I 2 0) with e | e
    · have e1 : F_X8_wish I L a1 a2 s = (-2, L) := by
        unfold F_X8_wish F_X8_wish_39
        rw [hasSq_eq hC c1 c2, if_pos c, if_neg (by decide), e, if_pos rfl]
      have e2 : F_X9_wish I L a1 a2 s = (-2, L) := by
        unfold F_X9_wish
        rw [isSq_eq hC c3 c4, if_pos c, if_neg (by decide), p2', e, if_pos rfl]
      rw [e1]
      show _ = p1 (F_X9_wish I L a1 a2 s) ∧ Inv I (p2 (F_X9_wish I L a1 a2 s))
      rw [e2]
      exact ⟨rfl, H'⟩
    obtain ⟨q5, q6⟩ := p3' e
    obtain ⟨r, rfl, hr, -⟩ := nn c.1.1
    obtain ⟨q, rfl, hq, -⟩ := nn c.2.1
    have hC2 := hC
    obtain ⟨⟨h1, h2⟩, h3, h4⟩ := hC2
    have e1 : F_X8_wish I L (Int32.ofNat r) (Int32.ofNat q) s = (F_X0_squareAt L 2 (Int32.ofNat r) (Int32.ofNat q), u2 L 2 3 (pset (L 2 3) (Int32.ofNat r) (Int32.ofNat q) s)) := by
      unfold F_X8_wish F_X8_wish_39
      rw [hasSq_eq hC c1 c2, if_pos c, if_neg (by decide), e, if_neg (by decide), colour_eq]
      rfl
    have e2 : ∀ L, F_X9_wish I L (Int32.ofNat r) (Int32.ofNat q) s = (F_X9_isDark (L 33 3) (Int32.ofNat r) (Int32.ofNat q), u2 L 33 3 (pset (L 33 3) (Int32.ofNat r) (Int32.ofNat q) s)) := by
      intro L
      unfold F_X9_wish F_X9_wish_64 F_X9_bitOf pset
      rw [isSq_eq hC c3 c4, if_pos c, if_neg (by decide), p2', e, if_neg (by decide)]
      by_cases cs : s = 0
      · rw [if_pos cs, if_pos cs]
      · rw [if_neg cs, if_neg cs]
    rw [e1, e2]
    have e3 : (u2 L 2 3 (pset (L 2 3) (Int32.ofNat r) (Int32.ofNat q) s)) 33 3 = L 2 3 := q5
    refine ⟨?_, ?_⟩
    · show F_X0_squareAt L 2 (Int32.ofNat r) (Int32.ofNat q) = F_X9_isDark ((u2 L 2 3 (pset (L 2 3) (Int32.ofNat r) (Int32.ofNat q) s)) 33 3) (Int32.ofNat r) (Int32.ofNat q)
      rw [e3]
      exact dark_eq rfl (by omega)
    · show Inv I (u2 (u2 L 2 3 (pset (L 2 3) (Int32.ofNat r) (Int32.ofNat q) s)) 33 3 (pset ((u2 L 2 3 (pset (L 2 3) (Int32.ofNat r) (Int32.ofNat q) s)) 33 3) (Int32.ofNat r) (Int32.ofNat q) s))
      rw [e3]
      refine H'.setP fun h' w' hC' g1 g2 => ?_
      obtain ⟨rfl, rfl⟩ := hC.eq hC' c1 c2 g1 g2
      exact pset_ins h4 h2 (by omega) (by omega) q6
  · have e1 : F_X8_wish I L a1 a2 s = (-1, L) := by
      unfold F_X8_wish
      rw [hasSq_eq hC c1 c2, if_neg c, if_pos rfl]
    have e2 : F_X9_wish I L a1 a2 s = (-1, L) := by
      unfold F_X9_wish
      rw [isSq_eq hC c3 c4, if_neg c, if_pos rfl]
    rw [e1]
    show _ = p1 (F_X9_wish I L a1 a2 s) ∧ Inv I (p2 (F_X9_wish I L a1 a2 s))
    rw [e2]
    exact ⟨rfl, H'⟩
/-- the lines there are -/
theorem isActOf_eq {h w : Nat} (hC : Cl h w) {a b : Int32} : F_X9_isActOf a b (Int32.ofNat h) (Int32.ofNat w) = if 0 ≤ b.toInt ∧ b.toInt < lz a h w then 1 else 0 := by
  obtain ⟨⟨h1, h2⟩, h3, h4⟩ := hC
  have e3 : (Int32.ofNat h + Int32.ofNat w - 2).toInt = h + w - 2 := by
    rw [oadd, ti_sub] <;> rw [on_toInt (by omega), z2] <;> omega
  unfold F_X9_isActOf F_X9_isActOf_44 F_X9_isActOf_54 F_X9_isActOf_55
  rw [in_eq, in_eq, in_eq, in_eq, ti64, ti64, ti64, on_m1 (by omega), on_m1 (by omega), e3, i0, show (2 : Int64).toInt = 2 by decide]
  unfold lz
  by_cases c0 : a = 0
  · rw [if_pos (show 0 ≤ a.toInt ∧ a.toInt ≤ 2 by rw [c0, z0]; omega), if_neg (show ¬ (1 : Int32) = 0 by decide), if_pos c0, if_pos c0]
    by_cases c : 0 ≤ b.toInt ∧ b.toInt < h
    · rw [if_pos (show 0 ≤ b.toInt ∧ b.toInt ≤ (h : Int) - 1 by omega), if_neg (by decide), if_pos c]
    · rw [if_neg (show ¬ (0 ≤ b.toInt ∧ b.toInt ≤ (h : Int) - 1) by omega), if_pos rfl, if_neg c]
  rw [if_neg c0, if_neg c0]
  by_cases c1 : a = 1
  · rw [if_pos (show 0 ≤ a.toInt ∧ a.toInt ≤ 2 by rw [c1, z1]; omega), if_neg (show ¬ (1 : Int32) = 0 by decide), if_pos c1, if_pos c1]
    by_cases c : 0 ≤ b.toInt ∧ b.toInt < w
    · rw [if_pos (show 0 ≤ b.toInt ∧ b.toInt ≤ (w : Int) - 1 by omega), if_neg (by decide), if_pos c]
    · rw [if_neg (show ¬ (0 ≤ b.toInt ∧ b.toInt ≤ (w : Int) - 1) by omega), if_pos rfl, if_neg c]
  rw [if_neg c1, if_neg c1]
  by_cases c2 : a = 2
  · rw [if_pos (show 0 ≤ a.toInt ∧ a.toInt ≤ 2 by rw [c2, z2]; omega), if_neg (show ¬ (1 : Int32) = 0 by decide), if_pos c2]
    by_cases c : 0 ≤ b.toInt ∧ b.toInt < h + w - 1
    · rw [if_pos (show 0 ≤ b.toInt ∧ b.toInt ≤ (h : Int) + w - 2 by omega), if_neg (by decide), if_pos c]
    · rw [if_neg (show ¬ (0 ≤ b.toInt ∧ b.toInt ≤ (h : Int) + w - 2) by omega), if_pos rfl, if_neg c]
  have n0 : ¬ a.toInt = 0 := fun q => c0 (Int32.toInt_inj.mp (q.trans z0.symm))
  have n1 : ¬ a.toInt = 1 := fun q => c1 (Int32.toInt_inj.mp (q.trans z1.symm))
  have n2 : ¬ a.toInt = 2 := fun q => c2 (Int32.toInt_inj.mp (q.trans z2.symm))
  rw [if_neg (show ¬ (0 ≤ a.toInt ∧ a.toInt ≤ 2) by omega), if_pos rfl, if_neg c2, if_neg (by omega)]
theorem isAct_eq {I : WI} {h w : Nat} (hC : Cl h w) (e1 : I 33 0 = Int32.ofNat h) (e2 : I 33 1 = Int32.ofNat w) {a b : Int32} : F_X9_isAct I a b = some (if 0 ≤ b.toInt ∧ b.toInt < lz a h w then 1 else 0) := by
  unfold F_X9_isAct
  rw [e1, e2, isActOf_eq hC]
  split <;> rfl
theorem line_eq {I : WI} {o h w : Nat} (hC : Cl h w) (e1 : I o 1 = Int32.ofNat h) (e2 : I o 2 = Int32.ofNat w) {a b : Int32} : F_X0_hasLine I o a b = if 0 ≤ b.toInt ∧ b.toInt < lz a h w then 1 else 0 := by
  rw [hasLine_cq, e1, e2]
  exact hasLine_eq hC
theorem lz_kind {a : Int32} {h w : Nat} {x : Int} (h0 : 0 ≤ x) (h1 : x < lz a h w) : a = 0 ∨ a = 1 ∨ a = 2 := by
  unfold lz at h1
  by_cases c0 : a = 0
  · exact .inl c0
  by_cases c1 : a = 1
  · exact .inr (.inl c1)
  by_cases c2 : a = 2
  · exact .inr (.inr c2)
  rw [if_neg c0, if_neg c1, if_neg c2] at h1
  omega
theorem sq_eq {I : WI} {o h w : Nat} (hC : Cl h w) (e1 : I o 1 = Int32.ofNat h) (e2 : I o 2 = Int32.ofNat w) (e3 : I 33 0 = Int32.ofNat h) (e4 : I 33 1 = Int32.ofNat w) {a b : Int32} (ha : a = 0 ∨ a = 1 ∨ a = 2) : F_X0_squaresOf I o a b = F_X9_actSet I a b := by
  rw [squaresOf_cq, actSet_cw, e1, e2, e3, e4]
  exact sq_act hC ha
theorem set_ins {I : WI} {h w : Nat} (hC : Cl h w) (e3 : I 33 0 = Int32.ofNat h) (e4 : I 33 1 = Int32.ofNat w) {a b : Int32} : Ins h w (F_X9_actSet I a b) := by
  rw [actSet_cw, e3, e4]
  exact act_ins hC
theorem E_10 {I : WI} {L : WL} {a1 a2 : Int32} (H : Inv I L) : ∃ w, (F_X9_act I (p2 (F_X8_act I L a1 a2)) a1 a2) = some w ∧ (p1 (F_X8_act I L a1 a2)) = (p1 w) ∧ Inv I (p2 w) := by
  have H' := H
  obtain ⟨⟨h, w, ⟨hC, c1, c2, c3, c4, c5, c6, -⟩, -⟩, -⟩ := H
  unfold F_X9_act F_X8_act
  rw [isAct_eq hC c3 c4, line_eq hC c1 c2]
  by_cases c : 0 ≤ a2.toInt ∧ a2.toInt < lz a1 h w
  · rw [if_pos c, if_neg (by decide), sq_eq hC c1 c2 c3 c4 (lz_kind c.1 c.2)]
    refine ⟨_, rfl, ?_, ?_⟩
    · show F_J13_bitCount_95d88 _ = F_X9_many (_ ^^^ _)
      rw [many_bits]
      exact congrArg (fun x => F_J13_bitCount_95d88 (x ^^^ _)) c5.symm
    · show Inv I (u2 (u2 L 1 3 (L 1 3 ^^^ F_X9_actSet I a1 a2)) 33 2 (L 33 2 ^^^ F_X9_actSet I a1 a2))
      rw [c5]
      refine H'.setC fun h' w' hC' g1 g2 => ?_
      obtain ⟨rfl, rfl⟩ := hC.eq hC' c1 c2 g1 g2
      exact c6.xor (set_ins hC c3 c4)
  · rw [if_neg c, if_pos rfl]
    exact ⟨_, rfl, rfl, H'⟩
theorem every_p : ∀ h, h < 9 → ((1 : Int32) <<< (Int32.ofNat h &&& 31)) - 1 = Int32.ofNat (2 ^ h - 1) := by decide +kernel
theorem E_11 {I : WI} {L : WL} {a1 a2 : Int32} (H : Inv I L) : (p1 (F_X8_turn I L a1 a2)) = (p1 (F_X9_turn I (p2 (F_X8_turn I L a1 a2)) a1 a2)) ∧ Inv I (p2 (F_X9_turn I (p2 (F_X8_turn I L a1 a2)) a1 a2)) := by
  have H' := H
  obtain ⟨⟨h, w, ⟨hC, c1, c2, c3, c4, c5, c6, -⟩, -⟩, -⟩ := H
  have hC2 := hC
  obtain ⟨⟨h1, h2⟩, h3, h4⟩ := hC2
  have q1 : 2 ^ h ≤ 2 ^ 8 := Nat.pow_le_pow_right (by decide) h2
  have q2 : 2 ^ w ≤ 2 ^ 8 := Nat.pow_le_pow_right (by decide) h4
  have q3 : 1 ≤ 2 ^ h := Nat.one_le_two_pow
  have q4 : 1 ≤ 2 ^ w := Nat.one_le_two_pow
  have r1 : F_X0_everyRow I 1 = Int32.ofNat (2 ^ h - 1) := by
    unfold F_X0_everyRow
    rw [c1]
    exact every_p h (by omega)
  have r2 : F_X0_everyColumn I 1 = Int32.ofNat (2 ^ w - 1) := by
    unfold F_X0_everyColumn
    rw [c2]
    exact every_p w (by omega)
  by_cases c : (0 ≤ a1.toInt ∧ a1.toInt < (2 ^ h : Nat)) ∧ 0 ≤ a2.toInt ∧ a2.toInt < (2 ^ w : Nat)
  · have e1 : F_X8_turn I L a1 a2 = ((F_X0_darkSquares (u2 L 1 3 ((L 1 3) ^^^ (F_X0_squaresTurned I 1 a1 a2))) 1), (u2 L 1 3 ((L 1 3) ^^^ (F_X0_squaresTurned I 1 a1 a2)))) := by
      unfold F_X8_turn
      rw [r1, r2, if_neg (by first | omega | (simp (disch := omega) only [Int32.lt_iff_toInt_lt, Int32.le_iff_toInt_le, ← Int32.toInt_inj, on_toInt, on_clamp, ti64, z0, z1, z2, zm1, i0, i1, im1, zz3, zz4, zz5, zz6, zz7, zz8, zz9, zz10, zz11, zz12, zz13, zz14, zz15, zz16, zz17, zz18, zz19, zz20, zz21, zz22, zz23, zz24, zz25, zz26, zz27, zz28, zz29, zz30, zz31, zz32, zz33, zz34, zz35, zz36, zz37, zz38, zz39, zz40, zz41, zz48, zz60, zz64, zz160, zz312, zz320, zzm2, zzm3, zzm4, zzm5, zzm6, zzm7, zzm8, zzm9, zzm10]; done) | (simp (disch := omega) only [Int32.lt_iff_toInt_lt, Int32.le_iff_toInt_le, ← Int32.toInt_inj, on_toInt, on_clamp, ti64, z0, z1, z2, zm1, i0, i1, im1, zz3, zz4, zz5, zz6, zz7, zz8, zz9, zz10, zz11, zz12, zz13, zz14, zz15, zz16, zz17, zz18, zz19, zz20, zz21, zz22, zz23, zz24, zz25, zz26, zz27, zz28, zz29, zz30, zz31, zz32, zz33, zz34, zz35, zz36, zz37, zz38, zz39, zz40, zz41, zz48, zz60, zz64, zz160, zz312, zz320, zzm2, zzm3, zzm4, zzm5, zzm6, zzm7, zzm8, zzm9, zzm10]; omega)), if_neg (by first | omega | (simp (disch := omega) only [Int32.lt_iff_toInt_lt, Int32.le_iff_toInt_le, ← Int32.toInt_inj, on_toInt, on_clamp, ti64, z0, z1, z2, zm1, i0, i1, im1, zz3, zz4, zz5, zz6, zz7, zz8, zz9, zz10, zz11, zz12, zz13, zz14, zz15, zz16, zz17, zz18, zz19, zz20, zz21, zz22, zz23, zz24, zz25, zz26, zz27, zz28, zz29, zz30, zz31, zz32, zz33, zz34, zz35, zz36, zz37, zz38, zz39, zz40, zz41, zz48, zz60, zz64, zz160, zz312, zz320, zzm2, zzm3, zzm4, zzm5, zzm6, zzm7, zzm8, zzm9, zzm10]; done) | (simp (disch := omega) only [Int32.lt_iff_toInt_lt, Int32.le_iff_toInt_le, ← Int32.toInt_inj, on_toInt, on_clamp, ti64, z0, z1, z2, zm1, i0, i1, im1, zz3, zz4, zz5, zz6, zz7, zz8, zz9, zz10, zz11, zz12, zz13, zz14, zz15, zz16, zz17, zz18, zz19, zz20, zz21, zz22, zz23, zz24, zz25, zz26, zz27, zz28, zz29, zz30, zz31, zz32, zz33, zz34, zz35, zz36, zz37, zz38, zz39, zz40, zz41, zz48, zz60, zz64, zz160, zz312, zz320, zzm2, zzm3, zzm4, zzm5, zzm6, zzm7, zzm8, zzm9, zzm10]; omega)), if_neg (by first | omega | (simp (disch := omega) only [Int32.lt_iff_toInt_lt, Int32.le_iff_toInt_le, ← Int32.toInt_inj, on_toInt, on_clamp, ti64, z0, z1, z2, zm1, i0, i1, im1, zz3, zz4, zz5, zz6, zz7, zz8, zz9, zz10, zz11, zz12, zz13, zz14, zz15, zz16, zz17, zz18, zz19, zz20, zz21, zz22, zz23, zz24, zz25, zz26, zz27, zz28, zz29, zz30, zz31, zz32, zz33, zz34, zz35, zz36, zz37, zz38, zz39, zz40, zz41, zz48, zz60, zz64, zz160, zz312, zz320, zzm2, zzm3, zzm4, zzm5, zzm6, zzm7, zzm8, zzm9, zzm10]; done) | (simp (disch := omega) only [Int32.lt_iff_toInt_lt, Int32.le_iff_toInt_le, ← Int32.toInt_inj, on_toInt, on_clamp, ti64, z0, z1, z2, zm1, i0, i1, im1, zz3, zz4, zz5, zz6, zz7, zz8, zz9, zz10, zz11, zz12, zz13, zz14, zz15, zz16, zz17, zz18, zz19, zz20, zz21, zz22, zz23, zz24, zz25, zz26, zz27, zz28, zz29, zz30, zz31, zz32, zz33, zz34, zz35, zz36, zz37, zz38, zz39, zz40, zz41, zz48, zz60, zz64, zz160, zz312, zz320, zzm2, zzm3, zzm4, zzm5, zzm6, zzm7, zzm8, zzm9, zzm10]; omega)), if_pos (by first | omega | (simp (disch := omega) only [Int32.lt_iff_toInt_lt, Int32.le_iff_toInt_le, ← Int32.toInt_inj, on_toInt, on_clamp, ti64, z0, z1, z2, zm1, i0, i1, im1, zz3, zz4, zz5, zz6, zz7, zz8, zz9, zz10, zz11, zz12, zz13, zz14, zz15, zz16, zz17, zz18, zz19, zz20, zz21, zz22, zz23, zz24, zz25, zz26, zz27, zz28, zz29, zz30, zz31, zz32, zz33, zz34, zz35, zz36, zz37, zz38, zz39, zz40, zz41, zz48, zz60, zz64, zz160, zz312, zz320, zzm2, zzm3, zzm4, zzm5, zzm6, zzm7, zzm8, zzm9, zzm10]; done) | (simp (disch := omega) only [Int32.lt_iff_toInt_lt, Int32.le_iff_toInt_le, ← Int32.toInt_inj, on_toInt, on_clamp, ti64, z0, z1, z2, zm1, i0, i1, im1, zz3, zz4, zz5, zz6, zz7, zz8, zz9, zz10, zz11, zz12, zz13, zz14, zz15, zz16, zz17, zz18, zz19, zz20, zz21, zz22, zz23, zz24, zz25, zz26, zz27, zz28, zz29, zz30, zz31, zz32, zz33, zz34, zz35, zz36, zz37, zz38, zz39, zz40, zz41, zz48, zz60, zz64, zz160, zz312, zz320, zzm2, zzm3, zzm4, zzm5, zzm6, zzm7, zzm8, zzm9, zzm10]; omega))]
    have e2 : ∀ L, F_X9_turn I L a1 a2 = ((F_X9_many ((u2 L 33 2 ((L 33 2) ^^^ (F_X9_turnSet I a1 a2))) 33 2)), (u2 L 33 2 ((L 33 2) ^^^ (F_X9_turnSet I a1 a2)))) := by
      intro L
      unfold F_X9_turn
      rw [c3, c4, every_p h (by omega), every_p w (by omega), in_eq, in_eq, ti64, ti64, on_toInt (by omega), on_toInt (by omega), i0, if_pos (show 0 ≤ a1.toInt ∧ a1.toInt ≤ ((2 ^ h - 1 : Nat) : Int) by omega), if_neg (show ¬ (1 : Int32) = 0 by decide), if_pos (show 0 ≤ a2.toInt ∧ a2.toInt ≤ ((2 ^ w - 1 : Nat) : Int) by omega), if_neg (show ¬ (1 : Int32) = 0 by decide)]
    have e3 : F_X0_squaresTurned I 1 a1 a2 = F_X9_turnSet I a1 a2 := by
      obtain ⟨r, rfl, hr, -⟩ := nn c.1.1
      obtain ⟨q, rfl, hq, -⟩ := nn c.2.1
      rw [squaresTurned_cq, turnSet_cw, c1, c2, c3, c4]
      exact turned_eq hC (by omega) (by omega)
    have e4 : Ins h w (F_X9_turnSet I a1 a2) := by
      obtain ⟨r, rfl, hr, -⟩ := nn c.1.1
      obtain ⟨q, rfl, hq, -⟩ := nn c.2.1
      rw [turnSet_cw, c3, c4]
      intro k hk
      have := (turn_M hC (by omega) (by omega)).mp hk
      exact ⟨this.1, this.2.1⟩
    rw [e1, e2, e3]
    refine ⟨?_, ?_⟩
    · show F_J13_bitCount_95d88 _ = F_X9_many (_ ^^^ _)
      rw [many_bits]
      exact congrArg (fun x => F_J13_bitCount_95d88 (x ^^^ _)) c5.symm
    · show Inv I (u2 (u2 L 1 3 (L 1 3 ^^^ F_X9_turnSet I a1 a2)) 33 2 (L 33 2 ^^^ F_X9_turnSet I a1 a2))
      rw [c5]
      refine H'.setC fun h' w' hC' g1 g2 => ?_
      obtain ⟨rfl, rfl⟩ := hC.eq hC' c1 c2 g1 g2
      exact c6.xor e4
  · have e1 : F_X8_turn I L a1 a2 = (-1, L) := by
      unfold F_X8_turn F_X8_turn_30
      rw [r1, r2]
      by_cases d1 : a1.toInt < 0
      · rw [if_pos (by first | omega | (simp (disch := omega) only [Int32.lt_iff_toInt_lt, Int32.le_iff_toInt_le, ← Int32.toInt_inj, on_toInt, on_clamp, ti64, z0, z1, z2, zm1, i0, i1, im1, zz3, zz4, zz5, zz6, zz7, zz8, zz9, zz10, zz11, zz12, zz13, zz14, zz15, zz16, zz17, zz18, zz19, zz20, zz21, zz22, zz23, zz24, zz25, zz26, zz27, zz28, zz29, zz30, zz31, zz32, zz33, zz34, zz35, zz36, zz37, zz38, zz39, zz40, zz41, zz48, zz60, zz64, zz160, zz312, zz320, zzm2, zzm3, zzm4, zzm5, zzm6, zzm7, zzm8, zzm9, zzm10]; done) | (simp (disch := omega) only [Int32.lt_iff_toInt_lt, Int32.le_iff_toInt_le, ← Int32.toInt_inj, on_toInt, on_clamp, ti64, z0, z1, z2, zm1, i0, i1, im1, zz3, zz4, zz5, zz6, zz7, zz8, zz9, zz10, zz11, zz12, zz13, zz14, zz15, zz16, zz17, zz18, zz19, zz20, zz21, zz22, zz23, zz24, zz25, zz26, zz27, zz28, zz29, zz30, zz31, zz32, zz33, zz34, zz35, zz36, zz37, zz38, zz39, zz40, zz41, zz48, zz60, zz64, zz160, zz312, zz320, zzm2, zzm3, zzm4, zzm5, zzm6, zzm7, zzm8, zzm9, zzm10]; omega))]
      rw [if_neg (by first | omega | (simp (disch := omega) only [Int32.lt_iff_toInt_lt, Int32.le_iff_toInt_le, ← Int32.toInt_inj, on_toInt, on_clamp, ti64, z0, z1, z2, zm1, i0, i1, im1, zz3, zz4, zz5, zz6, zz7, zz8, zz9, zz10, zz11, zz12, zz13, zz14, zz15, zz16, zz17, zz18, zz19, zz20, zz21, zz22, zz23, zz24, zz25, zz26, zz27, zz28, zz29, zz30, zz31, zz32, zz33, zz34, zz35, zz36, zz37, zz38, zz39, zz40, zz41, zz48, zz60, zz64, zz160, zz312, zz320, zzm2, zzm3, zzm4, zzm5, zzm6, zzm7, zzm8, zzm9, zzm10]; done) | (simp (disch := omega) only [Int32.lt_iff_toInt_lt, Int32.le_iff_toInt_le, ← Int32.toInt_inj, on_toInt, on_clamp, ti64, z0, z1, z2, zm1, i0, i1, im1, zz3, zz4, zz5, zz6, zz7, zz8, zz9, zz10, zz11, zz12, zz13, zz14, zz15, zz16, zz17, zz18, zz19, zz20, zz21, zz22, zz23, zz24, zz25, zz26, zz27, zz28, zz29, zz30, zz31, zz32, zz33, zz34, zz35, zz36, zz37, zz38, zz39, zz40, zz41, zz48, zz60, zz64, zz160, zz312, zz320, zzm2, zzm3, zzm4, zzm5, zzm6, zzm7, zzm8, zzm9, zzm10]; omega))]
      by_cases d2 : (2 ^ h : Nat) ≤ a1.toInt
      · rw [if_pos (by first | omega | (simp (disch := omega) only [Int32.lt_iff_toInt_lt, Int32.le_iff_toInt_le, ← Int32.toInt_inj, on_toInt, on_clamp, ti64, z0, z1, z2, zm1, i0, i1, im1, zz3, zz4, zz5, zz6, zz7, zz8, zz9, zz10, zz11, zz12, zz13, zz14, zz15, zz16, zz17, zz18, zz19, zz20, zz21, zz22, zz23, zz24, zz25, zz26, zz27, zz28, zz29, zz30, zz31, zz32, zz33, zz34, zz35, zz36, zz37, zz38, zz39, zz40, zz41, zz48, zz60, zz64, zz160, zz312, zz320, zzm2, zzm3, zzm4, zzm5, zzm6, zzm7, zzm8, zzm9, zzm10]; done) | (simp (disch := omega) only [Int32.lt_iff_toInt_lt, Int32.le_iff_toInt_le, ← Int32.toInt_inj, on_toInt, on_clamp, ti64, z0, z1, z2, zm1, i0, i1, im1, zz3, zz4, zz5, zz6, zz7, zz8, zz9, zz10, zz11, zz12, zz13, zz14, zz15, zz16, zz17, zz18, zz19, zz20, zz21, zz22, zz23, zz24, zz25, zz26, zz27, zz28, zz29, zz30, zz31, zz32, zz33, zz34, zz35, zz36, zz37, zz38, zz39, zz40, zz41, zz48, zz60, zz64, zz160, zz312, zz320, zzm2, zzm3, zzm4, zzm5, zzm6, zzm7, zzm8, zzm9, zzm10]; omega))]
      rw [if_neg (by first | omega | (simp (disch := omega) only [Int32.lt_iff_toInt_lt, Int32.le_iff_toInt_le, ← Int32.toInt_inj, on_toInt, on_clamp, ti64, z0, z1, z2, zm1, i0, i1, im1, zz3, zz4, zz5, zz6, zz7, zz8, zz9, zz10, zz11, zz12, zz13, zz14, zz15, zz16, zz17, zz18, zz19, zz20, zz21, zz22, zz23, zz24, zz25, zz26, zz27, zz28, zz29, zz30, zz31, zz32, zz33, zz34, zz35, zz36, zz37, zz38, zz39, zz40, zz41, zz48, zz60, zz64, zz160, zz312, zz320, zzm2, zzm3, zzm4, zzm5, zzm6, zzm7, zzm8, zzm9, zzm10]; done) | (simp (disch := omega) only [Int32.lt_iff_toInt_lt, Int32.le_iff_toInt_le, ← Int32.toInt_inj, on_toInt, on_clamp, ti64, z0, z1, z2, zm1, i0, i1, im1, zz3, zz4, zz5, zz6, zz7, zz8, zz9, zz10, zz11, zz12, zz13, zz14, zz15, zz16, zz17, zz18, zz19, zz20, zz21, zz22, zz23, zz24, zz25, zz26, zz27, zz28, zz29, zz30, zz31, zz32, zz33, zz34, zz35, zz36, zz37, zz38, zz39, zz40, zz41, zz48, zz60, zz64, zz160, zz312, zz320, zzm2, zzm3, zzm4, zzm5, zzm6, zzm7, zzm8, zzm9, zzm10]; omega))]
      by_cases d3 : a2.toInt < 0
      · rw [if_pos (by first | omega | (simp (disch := omega) only [Int32.lt_iff_toInt_lt, Int32.le_iff_toInt_le, ← Int32.toInt_inj, on_toInt, on_clamp, ti64, z0, z1, z2, zm1, i0, i1, im1, zz3, zz4, zz5, zz6, zz7, zz8, zz9, zz10, zz11, zz12, zz13, zz14, zz15, zz16, zz17, zz18, zz19, zz20, zz21, zz22, zz23, zz24, zz25, zz26, zz27, zz28, zz29, zz30, zz31, zz32, zz33, zz34, zz35, zz36, zz37, zz38, zz39, zz40, zz41, zz48, zz60, zz64, zz160, zz312, zz320, zzm2, zzm3, zzm4, zzm5, zzm6, zzm7, zzm8, zzm9, zzm10]; done) | (simp (disch := omega) only [Int32.lt_iff_toInt_lt, Int32.le_iff_toInt_le, ← Int32.toInt_inj, on_toInt, on_clamp, ti64, z0, z1, z2, zm1, i0, i1, im1, zz3, zz4, zz5, zz6, zz7, zz8, zz9, zz10, zz11, zz12, zz13, zz14, zz15, zz16, zz17, zz18, zz19, zz20, zz21, zz22, zz23, zz24, zz25, zz26, zz27, zz28, zz29, zz30, zz31, zz32, zz33, zz34, zz35, zz36, zz37, zz38, zz39, zz40, zz41, zz48, zz60, zz64, zz160, zz312, zz320, zzm2, zzm3, zzm4, zzm5, zzm6, zzm7, zzm8, zzm9, zzm10]; omega))]
      rw [if_neg (by first | omega | (simp (disch := omega) only [Int32.lt_iff_toInt_lt, Int32.le_iff_toInt_le, ← Int32.toInt_inj, on_toInt, on_clamp, ti64, z0, z1, z2, zm1, i0, i1, im1, zz3, zz4, zz5, zz6, zz7, zz8, zz9, zz10, zz11, zz12, zz13, zz14, zz15, zz16, zz17, zz18, zz19, zz20, zz21, zz22, zz23, zz24, zz25, zz26, zz27, zz28, zz29, zz30, zz31, zz32, zz33, zz34, zz35, zz36, zz37, zz38, zz39, zz40, zz41, zz48, zz60, zz64, zz160, zz312, zz320, zzm2, zzm3, zzm4, zzm5, zzm6, zzm7, zzm8, zzm9, zzm10]; done) | (simp (disch := omega) only [Int32.lt_iff_toInt_lt, Int32.le_iff_toInt_le, ← Int32.toInt_inj, on_toInt, on_clamp, ti64, z0, z1, z2, zm1, i0, i1, im1, zz3, zz4, zz5, zz6, zz7, zz8, zz9, zz10, zz11, zz12, zz13, zz14, zz15, zz16, zz17, zz18, zz19, zz20, zz21, zz22, zz23, zz24, zz25, zz26, zz27, zz28, zz29, zz30, zz31, zz32, zz33, zz34, zz35, zz36, zz37, zz38, zz39, zz40, zz41, zz48, zz60, zz64, zz160, zz312, zz320, zzm2, zzm3, zzm4, zzm5, zzm6, zzm7, zzm8, zzm9, zzm10]; omega)), if_neg (by first | omega | (simp (disch := omega) only [Int32.lt_iff_toInt_lt, Int32.le_iff_toInt_le, ← Int32.toInt_inj, on_toInt, on_clamp, ti64, z0, z1, z2, zm1, i0, i1, im1, zz3, zz4, zz5, zz6, zz7, zz8, zz9, zz10, zz11, zz12, zz13, zz14, zz15, zz16, zz17, zz18, zz19, zz20, zz21, zz22, zz23, zz24, zz25, zz26, zz27, zz28, zz29, zz30, zz31, zz32, zz33, zz34, zz35, zz36, zz37, zz38, zz39, zz40, zz41, zz48, zz60, zz64, zz160, zz312, zz320, zzm2, zzm3, zzm4, zzm5, zzm6, zzm7, zzm8, zzm9, zzm10]; done) | (simp (disch := omega) only [Int32.lt_iff_toInt_lt, Int32.le_iff_toInt_le, ← Int32.toInt_inj, on_toInt, on_clamp, ti64, z0, z1, z2, zm1, i0, i1, im1, zz3, zz4, zz5, zz6, zz7, zz8, zz9, zz10, zz11, zz12, zz13, zz14, zz15, zz16, zz17, zz18, zz19, zz20, zz21, zz22, zz23, zz24, zz25, zz26, zz27, zz28, zz29, zz30, zz31, zz32, zz33, zz34, zz35, zz36, zz37, zz38, zz39, zz40, zz41, zz48, zz60, zz64, zz160, zz312, zz320, zzm2, zzm3, zzm4, zzm5, zzm6, zzm7, zzm8, zzm9, zzm10]; omega))]
    have e2 : F_X9_turn I L a1 a2 = (-1, L) := by
      unfold F_X9_turn F_X9_turn_36
      rw [c3, c4, every_p h (by omega), every_p w (by omega), in_eq, in_eq, ti64, ti64, on_toInt (by omega), on_toInt (by omega), i0]
      by_cases d1 : 0 ≤ a1.toInt ∧ a1.toInt < (2 ^ h : Nat)
      · rw [if_pos (show 0 ≤ a1.toInt ∧ a1.toInt ≤ ((2 ^ h - 1 : Nat) : Int) by omega), if_neg (show ¬ (1 : Int32) = 0 by decide), if_neg (show ¬ (0 ≤ a2.toInt ∧ a2.toInt ≤ ((2 ^ w - 1 : Nat) : Int)) by omega), if_pos rfl]
      · rw [if_neg (show ¬ (0 ≤ a1.toInt ∧ a1.toInt ≤ ((2 ^ h - 1 : Nat) : Int)) by omega), if_pos rfl]
    rw [e1]
    show _ = p1 (F_X9_turn I L a1 a2) ∧ Inv I (p2 (F_X9_turn I L a1 a2))
    rw [e2]
    exact ⟨rfl, H'⟩
/-! go; end; feed -/
theorem four {P Q : Nat → Prop} (h : ∀ k, k < 4 → P k) (h0 : P 0 → Q 0) (h1 : P 1 → Q 1) (h2 : P 2 → Q 2) (h3 : P 3 → Q 3) : ∀ k, k < 4 → Q k := by
  intro k hk
  rcases (show k = 0 ∨ k = 1 ∨ k = 2 ∨ k = 3 by omega) with rfl | rfl | rfl | rfl
  · exact h0 (h 0 (by decide))
  · exact h1 (h 1 (by decide))
  · exact h2 (h 2 (by decide))
  · exact h3 (h 3 (by decide))
theorem lpp_cnt {R S : Type} {f : Int32 × S → Option (R ⊕ (Int32 × S))} {m : Nat} (P : Nat → S → Prop) (Q : R → Prop) (hs : ∀ i s, i < m → P i s → ∃ s', f (Int32.ofNat i, s) = some (.inr (Int32.ofNat (i + 1), s')) ∧ P (i + 1) s') (he : ∀ s, P m s → ∃ r, f (Int32.ofNat m, s) = some (.inl r) ∧ Q r) : ∀ (fuel i : Nat) (s : S), m < fuel + i → i ≤ m → P i s → ∃ r, lpp f fuel (Int32.ofNat i, s) = some r ∧ Q r := by
  intro fuel
  induction fuel with
  | zero => intro i s h1 h2 _; omega
  | succ n ih =>
    intro i s h1 h2 hP
    by_cases c : i = m
    · subst c
      obtain ⟨r, e, q⟩ := he s hP
      exact ⟨r, lpp_l e, q⟩
    · obtain ⟨s', e, q⟩ := hs i s (by omega) hP
      rw [lpp_r e]
      exact ih (i + 1) s' (by omega) (by omega) q
/-- sets joined by turning, one behind another -/
def gi (A : Nat → Int64) : Nat → Int64 → Int64
  | 0, x => x
  | n + 1, x => gi A n x ^^^ A n
def gx (A : Nat → Nat → Int64) (m : Nat → Nat) : Nat → Int64 → Int64
  | 0, x => x
  | n + 1, x => gi (A n) (m n) (gx A m n x)
theorem gi_ins {h w : Nat} {A : Nat → Int64} : ∀ {n : Nat} {x : Int64}, Ins h w x → (∀ i, i < n → Ins h w (A i)) → Ins h w (gi A n x) := by
  intro n
  induction n with
  | zero => intro x hx _; exact hx
  | succ n ih => intro x hx h; exact (ih hx fun i hi => h i (by omega)).xor (h n (by omega))
theorem gx_ins {h w : Nat} {A : Nat → Nat → Int64} {m : Nat → Nat} : ∀ {n : Nat} {x : Int64}, Ins h w x → (∀ d i, d < n → i < m d → Ins h w (A d i)) → Ins h w (gx A m n x) := by
  intro n
  induction n with
  | zero => intro x hx _; exact hx
  | succ n ih => intro x hx h; exact gi_ins (ih hx fun d i hd hi => h d i (by omega) hi) fun i hi => h n i (by omega) hi
theorem u2_u2 {α : Type} {f : Nat → Nat → α} {k j : Nat} {x y : α} : u2 (u2 f k j x) k j y = u2 f k j y := by
  funext a b
  unfold u2
  by_cases c : a = k ∧ b = j
  · rw [if_pos c, if_pos c]
  · rw [if_neg c, if_neg c, if_neg c]
theorem u2_at {α : Type} {f : Nat → Nat → α} {k j : Nat} {x : α} : u2 f k j x k j = x := if_pos ⟨rfl, rfl⟩
theorem u2_id {α : Type} {f : Nat → Nat → α} {k j : Nat} : u2 f k j (f k j) = f := u2_same rfl
theorem k20 : ∀ c, c < 60 → Int32.ofNat c / 20 = Int32.ofNat (c / 20) ∧ (Int32.ofNat c - Int32.ofNat c / 20 * 20) = Int32.ofNat (c % 20) := by decide +kernel
theorem kd3 {c : Nat} (h : c < 60) : Int32.ofNat (c / 20) = 0 ∨ Int32.ofNat (c / 20) = 1 ∨ Int32.ofNat (c / 20) = 2 := by
  rcases (show c / 20 = 0 ∨ c / 20 = 1 ∨ c / 20 = 2 by omega) with e | e | e <;> rw [e]
  · exact .inl rfl
  · exact .inr (.inl rfl)
  · exact .inr (.inr rfl)
theorem E_12 {I : WI} {L : WL} {a1 : Int32} (H : Inv I L) : ∃ w, (F_X9_go I (p2 (F_X8_go I L a1)) a1) = some w ∧ (p1 (F_X8_go I L a1)) = (p1 w) ∧ Inv I (p2 w) := by
  have H' := H
  obtain ⟨⟨h, w, ⟨hC, c1, c2, c3, c4, c5, c6, -⟩, -⟩, -, -, ⟨n, hn, d1, d2, d3⟩, -⟩ := H
  by_cases c : 0 ≤ a1.toInt ∧ a1.toInt ≤ (n : Int)
  · obtain ⟨N, rfl, hN, -⟩ := nn c.1
    rw [hN] at c
    -- how many acts, which
    have hm : ∃ m : Nat → Nat, ∀ d, d < n → m d ≤ 3 ∧ I 7 d = Int32.ofNat (m d) ∧ I 34 (4 * d) = Int32.ofNat (m d) ∧ ∀ i, i < m d → ∃ c, c < 60 ∧ I 8 (3 * d + i) = Int32.ofNat c ∧ I 34 (4 * d + 1 + i) = Int32.ofNat c := by
      refine ⟨fun d => (I 7 d).toNatClampNeg, fun d hd => ?_⟩
      obtain ⟨m, g1, g2, g3, g4⟩ := d3 d hd
      have : (I 7 d).toNatClampNeg = m := by rw [g2, on_clamp (by omega)]
      simp only [this]
      exact ⟨g1, g2, g3, g4⟩
    obtain ⟨m, hm⟩ := hm
    generalize hA : (fun d i => F_X9_actSet I ((I 34 (4 * d + 1 + i)) / 20) ((I 34 (4 * d + 1 + i)) - (I 34 (4 * d + 1 + i)) / 20 * 20) : Nat → Nat → Int64) = A
    have e1 : F_X8_go I L (Int32.ofNat N) = (F_J13_bitCount_95d88 (gx A m N (L 1 3)), u2 L 1 3 (gx A m N (L 1 3))) := by
      have hin : ∀ d x, d < N → F_X8_go_24_1 I x (Int32.ofNat N) (Int32.ofNat d) = u2 x 1 3 (gi (A d) (m d) (x 1 3)) := by
        intro d x hd
        obtain ⟨g1, g2, g3, g4⟩ := hm d (by omega)
        have ha : F_X1_actsOf I 6 (Int32.ofNat d) = Int32.ofNat (m d) := acts_eq hn d1 (by omega) g2
        have hi : ∀ i y, i < m d → F_X8_go_38_2 I y (Int32.ofNat N) (Int32.ofNat d) (Int32.ofNat i) = u2 y 1 3 (y 1 3 ^^^ A d i) := by
          intro i y hi
          obtain ⟨c, f1, f2, f3⟩ := g4 i hi
          have hc := code_eq hn d1 (show d < n by omega) g1 g2 hi f2
          unfold F_X8_go_38_2 F_X1_kindOf F_X1_numberOf
          rw [hc, ← hA]
          show _ = u2 y 1 3 (y 1 3 ^^^ F_X9_actSet I ((I 34 (4 * d + 1 + i)) / 20) ((I 34 (4 * d + 1 + i)) - (I 34 (4 * d + 1 + i)) / 20 * 20))
          rw [f3, (k20 c f1).1, sq_eq hC c1 c2 c3 c4 (kd3 f1)]
        show p2 (fr0 (fun i x => F_X8_go_38_2 I x (Int32.ofNat N) (Int32.ofNat d) i) (F_X1_actsOf I 6 (Int32.ofNat d)) (fu 0 (F_X1_actsOf I 6 (Int32.ofNat d))) 0 x) = _
        rw [ha, fr0_it (by omega)]
        refine it_ind (P := fun i s => s = u2 x 1 3 (gi (A d) i (x 1 3))) ?_ (fun i s hi' hs => ?_)
        · exact u2_id.symm
        · show F_X8_go_38_2 I s (Int32.ofNat N) (Int32.ofNat d) (Int32.ofNat i) = _
          rw [hi i s hi', hs, u2_u2, u2_at]
          rfl
      have hout : p2 (fr0 (fun i x => F_X8_go_24_1 I x (Int32.ofNat N) i) (Int32.ofNat N) (fu 0 (Int32.ofNat N)) 0 L) = u2 L 1 3 (gx A m N (L 1 3)) := by
        rw [fr0_it (by omega)]
        refine it_ind (P := fun i s => s = u2 L 1 3 (gx A m i (L 1 3))) u2_id.symm (fun i s hi' hs => ?_)
        show F_X8_go_24_1 I s (Int32.ofNat N) (Int32.ofNat i) = _
        rw [hin i s hi', hs, u2_u2, u2_at]
        rfl
      unfold F_X8_go
      rw [d1, if_neg (by first | omega | (simp (disch := omega) only [Int32.lt_iff_toInt_lt, Int32.le_iff_toInt_le, ← Int32.toInt_inj, on_toInt, on_clamp, ti64, z0, z1, z2, zm1, i0, i1, im1, zz3, zz4, zz5, zz6, zz7, zz8, zz9, zz10, zz11, zz12, zz13, zz14, zz15, zz16, zz17, zz18, zz19, zz20, zz21, zz22, zz23, zz24, zz25, zz26, zz27, zz28, zz29, zz30, zz31, zz32, zz33, zz34, zz35, zz36, zz37, zz38, zz39, zz40, zz41, zz48, zz60, zz64, zz160, zz312, zz320, zzm2, zzm3, zzm4, zzm5, zzm6, zzm7, zzm8, zzm9, zzm10]; done) | (simp (disch := omega) only [Int32.lt_iff_toInt_lt, Int32.le_iff_toInt_le, ← Int32.toInt_inj, on_toInt, on_clamp, ti64, z0, z1, z2, zm1, i0, i1, im1, zz3, zz4, zz5, zz6, zz7, zz8, zz9, zz10, zz11, zz12, zz13, zz14, zz15, zz16, zz17, zz18, zz19, zz20, zz21, zz22, zz23, zz24, zz25, zz26, zz27, zz28, zz29, zz30, zz31, zz32, zz33, zz34, zz35, zz36, zz37, zz38, zz39, zz40, zz41, zz48, zz60, zz64, zz160, zz312, zz320, zzm2, zzm3, zzm4, zzm5, zzm6, zzm7, zzm8, zzm9, zzm10]; omega)), if_pos (by first | omega | (simp (disch := omega) only [Int32.lt_iff_toInt_lt, Int32.le_iff_toInt_le, ← Int32.toInt_inj, on_toInt, on_clamp, ti64, z0, z1, z2, zm1, i0, i1, im1, zz3, zz4, zz5, zz6, zz7, zz8, zz9, zz10, zz11, zz12, zz13, zz14, zz15, zz16, zz17, zz18, zz19, zz20, zz21, zz22, zz23, zz24, zz25, zz26, zz27, zz28, zz29, zz30, zz31, zz32, zz33, zz34, zz35, zz36, zz37, zz38, zz39, zz40, zz41, zz48, zz60, zz64, zz160, zz312, zz320, zzm2, zzm3, zzm4, zzm5, zzm6, zzm7, zzm8, zzm9, zzm10]; done) | (simp (disch := omega) only [Int32.lt_iff_toInt_lt, Int32.le_iff_toInt_le, ← Int32.toInt_inj, on_toInt, on_clamp, ti64, z0, z1, z2, zm1, i0, i1, im1, zz3, zz4, zz5, zz6, zz7, zz8, zz9, zz10, zz11, zz12, zz13, zz14, zz15, zz16, zz17, zz18, zz19, zz20, zz21, zz22, zz23, zz24, zz25, zz26, zz27, zz28, zz29, zz30, zz31, zz32, zz33, zz34, zz35, zz36, zz37, zz38, zz39, zz40, zz41, zz48, zz60, zz64, zz160, zz312, zz320, zzm2, zzm3, zzm4, zzm5, zzm6, zzm7, zzm8, zzm9, zzm10]; omega))]
      show F_X8_go_87 I (p2 (fr0 (fun i x => F_X8_go_24_1 I x (Int32.ofNat N) i) (Int32.ofNat N) (fu 0 (Int32.ofNat N)) 0 L)) (Int32.ofNat N) = _
      rw [hout]
      rfl
    have e2 : ∀ L : WL, F_X9_go I L (Int32.ofNat N) = some (F_X9_many (gx A m N (L 33 2)), u2 L 33 2 (gx A m N (L 33 2))) := by
      intro L
      have hin : ∀ d x, d < N → F_X9_go_23_1 I x (Int32.ofNat N) (Int32.ofNat d) = some (u2 x 33 2 (gi (A d) (m d) (x 33 2))) := by
        intro d x hd
        obtain ⟨g1, g2, g3, g4⟩ := hm d (by omega)
        obtain ⟨r, r1, r2⟩ := lpp_cnt (f := fun x => F_X9_go_25_2 I (p2 x) (Int32.ofNat N) (Int32.ofNat d) (p1 x)) (m := m d + 1) (fun i s => s = u2 x 33 2 (gi (A d) (i - 1) (x 33 2)) ∧ 1 ≤ i) (fun r => r = u2 x 33 2 (gi (A d) (m d) (x 33 2))) (fun i s hi hs => by
            obtain ⟨hs, hi1⟩ := hs
            have hA' : A d (i - 1) = F_X9_actSet I ((I 34 (4 * d + i)) / 20) ((I 34 (4 * d + i)) - (I 34 (4 * d + i)) / 20 * 20) := by
              rw [← hA]
              show F_X9_actSet I ((I 34 (4 * d + 1 + (i - 1))) / 20) ((I 34 (4 * d + 1 + (i - 1))) - (I 34 (4 * d + 1 + (i - 1))) / 20 * 20) = _
              rw [show 4 * d + 1 + (i - 1) = 4 * d + i by omega]
            refine ⟨u2 s 33 2 (s 33 2 ^^^ A d (i - 1)), ?_, ?_, by omega⟩
            · show F_X9_go_25_2 I s (Int32.ofNat N) (Int32.ofNat d) (Int32.ofNat i) = _
              unfold F_X9_go_25_2
              rw [lm4, if_neg (nin (k := 4 * d) (by omega) (by decide)), on_clamp (n := 4 * d) (by omega), g3, if_neg (by first | omega | (simp (disch := omega) only [Int32.lt_iff_toInt_lt, Int32.le_iff_toInt_le, ← Int32.toInt_inj, on_toInt, on_clamp, ti64, z0, z1, z2, zm1, i0, i1, im1, zz3, zz4, zz5, zz6, zz7, zz8, zz9, zz10, zz11, zz12, zz13, zz14, zz15, zz16, zz17, zz18, zz19, zz20, zz21, zz22, zz23, zz24, zz25, zz26, zz27, zz28, zz29, zz30, zz31, zz32, zz33, zz34, zz35, zz36, zz37, zz38, zz39, zz40, zz41, zz48, zz60, zz64, zz160, zz312, zz320, zzm2, zzm3, zzm4, zzm5, zzm6, zzm7, zzm8, zzm9, zzm10]; done) | (simp (disch := omega) only [Int32.lt_iff_toInt_lt, Int32.le_iff_toInt_le, ← Int32.toInt_inj, on_toInt, on_clamp, ti64, z0, z1, z2, zm1, i0, i1, im1, zz3, zz4, zz5, zz6, zz7, zz8, zz9, zz10, zz11, zz12, zz13, zz14, zz15, zz16, zz17, zz18, zz19, zz20, zz21, zz22, zz23, zz24, zz25, zz26, zz27, zz28, zz29, zz30, zz31, zz32, zz33, zz34, zz35, zz36, zz37, zz38, zz39, zz40, zz41, zz48, zz60, zz64, zz160, zz312, zz320, zzm2, zzm3, zzm4, zzm5, zzm6, zzm7, zzm8, zzm9, zzm10]; omega)), oadd, if_neg (nin (k := 4 * d + i) (by omega) (by decide)), if_neg (nin (k := 4 * d + i) (by omega) (by decide)), la1, on_clamp (n := 4 * d + i) (by omega), hA']
            · rw [hs, u2_u2, u2_at, show i + 1 - 1 = (i - 1) + 1 by omega]
              rfl) (fun s hs => ⟨_, by
            show F_X9_go_25_2 I s (Int32.ofNat N) (Int32.ofNat d) (Int32.ofNat (m d + 1)) = _
            unfold F_X9_go_25_2
            rw [lm4, if_neg (nin (k := 4 * d) (by omega) (by decide)), on_clamp (n := 4 * d) (by omega), g3, if_pos (by first | omega | (simp (disch := omega) only [Int32.lt_iff_toInt_lt, Int32.le_iff_toInt_le, ← Int32.toInt_inj, on_toInt, on_clamp, ti64, z0, z1, z2, zm1, i0, i1, im1, zz3, zz4, zz5, zz6, zz7, zz8, zz9, zz10, zz11, zz12, zz13, zz14, zz15, zz16, zz17, zz18, zz19, zz20, zz21, zz22, zz23, zz24, zz25, zz26, zz27, zz28, zz29, zz30, zz31, zz32, zz33, zz34, zz35, zz36, zz37, zz38, zz39, zz40, zz41, zz48, zz60, zz64, zz160, zz312, zz320, zzm2, zzm3, zzm4, zzm5, zzm6, zzm7, zzm8, zzm9, zzm10]; done) | (simp (disch := omega) only [Int32.lt_iff_toInt_lt, Int32.le_iff_toInt_le, ← Int32.toInt_inj, on_toInt, on_clamp, ti64, z0, z1, z2, zm1, i0, i1, im1, zz3, zz4, zz5, zz6, zz7, zz8, zz9, zz10, zz11, zz12, zz13, zz14, zz15, zz16, zz17, zz18, zz19, zz20, zz21, zz22, zz23, zz24, zz25, zz26, zz27, zz28, zz29, zz30, zz31, zz32, zz33, zz34, zz35, zz36, zz37, zz38, zz39, zz40, zz41, zz48, zz60, zz64, zz160, zz312, zz320, zzm2, zzm3, zzm4, zzm5, zzm6, zzm7, zzm8, zzm9, zzm10]; omega))], hs.1⟩) 4294967296 1 x (by omega) (by omega) ⟨u2_id.symm, by omega⟩
        show (lpp (fun x => F_X9_go_25_2 I (p2 x) (Int32.ofNat N) (Int32.ofNat d) (p1 x)) 4294967296 (Int32.ofNat 1, x)).bind _ = _
        rw [r1, r2]
        rfl
      obtain ⟨e, r1, r2⟩ := frp0_nat (g := fun i x => F_X9_go_23_1 I x (Int32.ofNat N) i) (b := N) (by omega) (fun i s => s = u2 L 33 2 (gx A m i (L 33 2))) (s := L) (fun i s hi hs => ⟨_, hin i s hi, by rw [hs, u2_u2, u2_at]; rfl⟩) u2_id.symm
      unfold F_X9_go
      rw [d2, in_eq, ti64, on_toInt (by omega), on_toInt (by omega), i0, if_pos (show (0 : Int) ≤ (N : Int) ∧ (N : Int) ≤ (n : Int) by omega), if_neg (show ¬ (1 : Int32) = 0 by decide)]
      show (frp0 (fun i x => F_X9_go_23_1 I x (Int32.ofNat N) i) (Int32.ofNat N) (fu 0 (Int32.ofNat N)) 0 L).bind _ = _
      rw [r1]
      show F_X9_go_88 I (p2 e) (Int32.ofNat N) = _
      rw [r2]
      rfl
    rw [e1, e2]
    refine ⟨_, rfl, ?_, ?_⟩
    · show F_J13_bitCount_95d88 (gx A m N (L 1 3)) = F_X9_many (gx A m N (L 33 2))
      rw [many_bits, c5]
    · show Inv I (u2 (u2 L 1 3 (gx A m N (L 1 3))) 33 2 (gx A m N (L 33 2)))
      rw [c5]
      refine H'.setC fun h' w' hC' g1 g2 => ?_
      obtain ⟨rfl, rfl⟩ := hC.eq hC' c1 c2 g1 g2
      refine gx_ins c6 fun d i _ _ => ?_
      rw [← hA]
      exact set_ins hC c3 c4
  · have e1 : F_X8_go I L a1 = (-1, L) := by
      unfold F_X8_go F_X8_go_15
      rw [d1]
      by_cases q : a1.toInt < 0
      · rw [if_pos (by first | omega | (simp (disch := omega) only [Int32.lt_iff_toInt_lt, Int32.le_iff_toInt_le, ← Int32.toInt_inj, on_toInt, on_clamp, ti64, z0, z1, z2, zm1, i0, i1, im1, zz3, zz4, zz5, zz6, zz7, zz8, zz9, zz10, zz11, zz12, zz13, zz14, zz15, zz16, zz17, zz18, zz19, zz20, zz21, zz22, zz23, zz24, zz25, zz26, zz27, zz28, zz29, zz30, zz31, zz32, zz33, zz34, zz35, zz36, zz37, zz38, zz39, zz40, zz41, zz48, zz60, zz64, zz160, zz312, zz320, zzm2, zzm3, zzm4, zzm5, zzm6, zzm7, zzm8, zzm9, zzm10]; done) | (simp (disch := omega) only [Int32.lt_iff_toInt_lt, Int32.le_iff_toInt_le, ← Int32.toInt_inj, on_toInt, on_clamp, ti64, z0, z1, z2, zm1, i0, i1, im1, zz3, zz4, zz5, zz6, zz7, zz8, zz9, zz10, zz11, zz12, zz13, zz14, zz15, zz16, zz17, zz18, zz19, zz20, zz21, zz22, zz23, zz24, zz25, zz26, zz27, zz28, zz29, zz30, zz31, zz32, zz33, zz34, zz35, zz36, zz37, zz38, zz39, zz40, zz41, zz48, zz60, zz64, zz160, zz312, zz320, zzm2, zzm3, zzm4, zzm5, zzm6, zzm7, zzm8, zzm9, zzm10]; omega))]
      · rw [if_neg (by first | omega | (simp (disch := omega) only [Int32.lt_iff_toInt_lt, Int32.le_iff_toInt_le, ← Int32.toInt_inj, on_toInt, on_clamp, ti64, z0, z1, z2, zm1, i0, i1, im1, zz3, zz4, zz5, zz6, zz7, zz8, zz9, zz10, zz11, zz12, zz13, zz14, zz15, zz16, zz17, zz18, zz19, zz20, zz21, zz22, zz23, zz24, zz25, zz26, zz27, zz28, zz29, zz30, zz31, zz32, zz33, zz34, zz35, zz36, zz37, zz38, zz39, zz40, zz41, zz48, zz60, zz64, zz160, zz312, zz320, zzm2, zzm3, zzm4, zzm5, zzm6, zzm7, zzm8, zzm9, zzm10]; done) | (simp (disch := omega) only [Int32.lt_iff_toInt_lt, Int32.le_iff_toInt_le, ← Int32.toInt_inj, on_toInt, on_clamp, ti64, z0, z1, z2, zm1, i0, i1, im1, zz3, zz4, zz5, zz6, zz7, zz8, zz9, zz10, zz11, zz12, zz13, zz14, zz15, zz16, zz17, zz18, zz19, zz20, zz21, zz22, zz23, zz24, zz25, zz26, zz27, zz28, zz29, zz30, zz31, zz32, zz33, zz34, zz35, zz36, zz37, zz38, zz39, zz40, zz41, zz48, zz60, zz64, zz160, zz312, zz320, zzm2, zzm3, zzm4, zzm5, zzm6, zzm7, zzm8, zzm9, zzm10]; omega)), if_neg (by first | omega | (simp (disch := omega) only [Int32.lt_iff_toInt_lt, Int32.le_iff_toInt_le, ← Int32.toInt_inj, on_toInt, on_clamp, ti64, z0, z1, z2, zm1, i0, i1, im1, zz3, zz4, zz5, zz6, zz7, zz8, zz9, zz10, zz11, zz12, zz13, zz14, zz15, zz16, zz17, zz18, zz19, zz20, zz21, zz22, zz23, zz24, zz25, zz26, zz27, zz28, zz29, zz30, zz31, zz32, zz33, zz34, zz35, zz36, zz37, zz38, zz39, zz40, zz41, zz48, zz60, zz64, zz160, zz312, zz320, zzm2, zzm3, zzm4, zzm5, zzm6, zzm7, zzm8, zzm9, zzm10]; done) | (simp (disch := omega) only [Int32.lt_iff_toInt_lt, Int32.le_iff_toInt_le, ← Int32.toInt_inj, on_toInt, on_clamp, ti64, z0, z1, z2, zm1, i0, i1, im1, zz3, zz4, zz5, zz6, zz7, zz8, zz9, zz10, zz11, zz12, zz13, zz14, zz15, zz16, zz17, zz18, zz19, zz20, zz21, zz22, zz23, zz24, zz25, zz26, zz27, zz28, zz29, zz30, zz31, zz32, zz33, zz34, zz35, zz36, zz37, zz38, zz39, zz40, zz41, zz48, zz60, zz64, zz160, zz312, zz320, zzm2, zzm3, zzm4, zzm5, zzm6, zzm7, zzm8, zzm9, zzm10]; omega))]
    rw [e1]
    show ∃ w, F_X9_go I L a1 = some w ∧ _
    unfold F_X9_go
    rw [d2, in_eq, ti64, on_toInt (by omega), i0, if_neg c, if_pos rfl]
    exact ⟨_, rfl, rfl, H'⟩
theorem E_1 {I : WI} {L : WL} {a1 : Int32} (H : Inv I L) : (p1 (F_X8_end I a1)) = (p1 (F_X9_end (p2 (F_X8_end I a1)) a1)) ∧ Inv (p2 (F_X9_end (p2 (F_X8_end I a1)) a1)) L := by
  have H' := H
  obtain ⟨⟨h, w, h1, h2⟩, k0, k1, h3, ⟨n, hn, t1, t2, t3⟩, h5, h6⟩ := H
  by_cases c : 0 ≤ a1.toInt ∧ a1.toInt ≤ (n : Int)
  · obtain ⟨N, rfl, hN, -⟩ := nn c.1
    have e1 : F_X8_end I (Int32.ofNat N) = (Int32.ofNat n, u2 I 9 0 (Int32.ofNat N)) := by
      unfold F_X8_end
      rw [t1, if_neg (by first | omega | (simp (disch := omega) only [Int32.lt_iff_toInt_lt, Int32.le_iff_toInt_le, ← Int32.toInt_inj, on_toInt, on_clamp, ti64, z0, z1, z2, zm1, i0, i1, im1, zz3, zz4, zz5, zz6, zz7, zz8, zz9, zz10, zz11, zz12, zz13, zz14, zz15, zz16, zz17, zz18, zz19, zz20, zz21, zz22, zz23, zz24, zz25, zz26, zz27, zz28, zz29, zz30, zz31, zz32, zz33, zz34, zz35, zz36, zz37, zz38, zz39, zz40, zz41, zz48, zz60, zz64, zz160, zz312, zz320, zzm2, zzm3, zzm4, zzm5, zzm6, zzm7, zzm8, zzm9, zzm10]; done) | (simp (disch := omega) only [Int32.lt_iff_toInt_lt, Int32.le_iff_toInt_le, ← Int32.toInt_inj, on_toInt, on_clamp, ti64, z0, z1, z2, zm1, i0, i1, im1, zz3, zz4, zz5, zz6, zz7, zz8, zz9, zz10, zz11, zz12, zz13, zz14, zz15, zz16, zz17, zz18, zz19, zz20, zz21, zz22, zz23, zz24, zz25, zz26, zz27, zz28, zz29, zz30, zz31, zz32, zz33, zz34, zz35, zz36, zz37, zz38, zz39, zz40, zz41, zz48, zz60, zz64, zz160, zz312, zz320, zzm2, zzm3, zzm4, zzm5, zzm6, zzm7, zzm8, zzm9, zzm10]; omega)), if_pos (by first | omega | (simp (disch := omega) only [Int32.lt_iff_toInt_lt, Int32.le_iff_toInt_le, ← Int32.toInt_inj, on_toInt, on_clamp, ti64, z0, z1, z2, zm1, i0, i1, im1, zz3, zz4, zz5, zz6, zz7, zz8, zz9, zz10, zz11, zz12, zz13, zz14, zz15, zz16, zz17, zz18, zz19, zz20, zz21, zz22, zz23, zz24, zz25, zz26, zz27, zz28, zz29, zz30, zz31, zz32, zz33, zz34, zz35, zz36, zz37, zz38, zz39, zz40, zz41, zz48, zz60, zz64, zz160, zz312, zz320, zzm2, zzm3, zzm4, zzm5, zzm6, zzm7, zzm8, zzm9, zzm10]; done) | (simp (disch := omega) only [Int32.lt_iff_toInt_lt, Int32.le_iff_toInt_le, ← Int32.toInt_inj, on_toInt, on_clamp, ti64, z0, z1, z2, zm1, i0, i1, im1, zz3, zz4, zz5, zz6, zz7, zz8, zz9, zz10, zz11, zz12, zz13, zz14, zz15, zz16, zz17, zz18, zz19, zz20, zz21, zz22, zz23, zz24, zz25, zz26, zz27, zz28, zz29, zz30, zz31, zz32, zz33, zz34, zz35, zz36, zz37, zz38, zz39, zz40, zz41, zz48, zz60, zz64, zz160, zz312, zz320, zzm2, zzm3, zzm4, zzm5, zzm6, zzm7, zzm8, zzm9, zzm10]; omega))]
    have e2 : F_X9_end (u2 I 9 0 (Int32.ofNat N)) (Int32.ofNat N) = (Int32.ofNat n, u2 (u2 I 9 0 (Int32.ofNat N)) 33 21 (Int32.ofNat N)) := by
      unfold F_X9_end
      rw [show (u2 I 9 0 (Int32.ofNat N)) 33 21 = Int32.ofNat n from t2, in_eq, ti64, on_toInt (show n < 2147483648 by omega), i0, if_pos c, if_neg (by decide)]
    rw [e1]
    show Int32.ofNat n = p1 (F_X9_end (u2 I 9 0 (Int32.ofNat N)) (Int32.ofNat N)) ∧ Inv (p2 (F_X9_end (u2 I 9 0 (Int32.ofNat N)) (Int32.ofNat N))) L
    rw [e2]
    exact ⟨rfl, ⟨h, w, h1, h2⟩, k0, k1, h3, ⟨N, by omega, rfl, rfl, fun j hj => t3 j (by omega)⟩, four h5 id id id id, h6⟩
  · have e1 : F_X8_end I a1 = (-1, I) := by
      unfold F_X8_end F_X8_end_15
      rw [t1]
      by_cases q : a1.toInt < 0
      · rw [if_pos (by first | omega | (simp (disch := omega) only [Int32.lt_iff_toInt_lt, Int32.le_iff_toInt_le, ← Int32.toInt_inj, on_toInt, on_clamp, ti64, z0, z1, z2, zm1, i0, i1, im1, zz3, zz4, zz5, zz6, zz7, zz8, zz9, zz10, zz11, zz12, zz13, zz14, zz15, zz16, zz17, zz18, zz19, zz20, zz21, zz22, zz23, zz24, zz25, zz26, zz27, zz28, zz29, zz30, zz31, zz32, zz33, zz34, zz35, zz36, zz37, zz38, zz39, zz40, zz41, zz48, zz60, zz64, zz160, zz312, zz320, zzm2, zzm3, zzm4, zzm5, zzm6, zzm7, zzm8, zzm9, zzm10]; done) | (simp (disch := omega) only [Int32.lt_iff_toInt_lt, Int32.le_iff_toInt_le, ← Int32.toInt_inj, on_toInt, on_clamp, ti64, z0, z1, z2, zm1, i0, i1, im1, zz3, zz4, zz5, zz6, zz7, zz8, zz9, zz10, zz11, zz12, zz13, zz14, zz15, zz16, zz17, zz18, zz19, zz20, zz21, zz22, zz23, zz24, zz25, zz26, zz27, zz28, zz29, zz30, zz31, zz32, zz33, zz34, zz35, zz36, zz37, zz38, zz39, zz40, zz41, zz48, zz60, zz64, zz160, zz312, zz320, zzm2, zzm3, zzm4, zzm5, zzm6, zzm7, zzm8, zzm9, zzm10]; omega))]
      · rw [if_neg (by first | omega | (simp (disch := omega) only [Int32.lt_iff_toInt_lt, Int32.le_iff_toInt_le, ← Int32.toInt_inj, on_toInt, on_clamp, ti64, z0, z1, z2, zm1, i0, i1, im1, zz3, zz4, zz5, zz6, zz7, zz8, zz9, zz10, zz11, zz12, zz13, zz14, zz15, zz16, zz17, zz18, zz19, zz20, zz21, zz22, zz23, zz24, zz25, zz26, zz27, zz28, zz29, zz30, zz31, zz32, zz33, zz34, zz35, zz36, zz37, zz38, zz39, zz40, zz41, zz48, zz60, zz64, zz160, zz312, zz320, zzm2, zzm3, zzm4, zzm5, zzm6, zzm7, zzm8, zzm9, zzm10]; done) | (simp (disch := omega) only [Int32.lt_iff_toInt_lt, Int32.le_iff_toInt_le, ← Int32.toInt_inj, on_toInt, on_clamp, ti64, z0, z1, z2, zm1, i0, i1, im1, zz3, zz4, zz5, zz6, zz7, zz8, zz9, zz10, zz11, zz12, zz13, zz14, zz15, zz16, zz17, zz18, zz19, zz20, zz21, zz22, zz23, zz24, zz25, zz26, zz27, zz28, zz29, zz30, zz31, zz32, zz33, zz34, zz35, zz36, zz37, zz38, zz39, zz40, zz41, zz48, zz60, zz64, zz160, zz312, zz320, zzm2, zzm3, zzm4, zzm5, zzm6, zzm7, zzm8, zzm9, zzm10]; omega)), if_neg (by first | omega | (simp (disch := omega) only [Int32.lt_iff_toInt_lt, Int32.le_iff_toInt_le, ← Int32.toInt_inj, on_toInt, on_clamp, ti64, z0, z1, z2, zm1, i0, i1, im1, zz3, zz4, zz5, zz6, zz7, zz8, zz9, zz10, zz11, zz12, zz13, zz14, zz15, zz16, zz17, zz18, zz19, zz20, zz21, zz22, zz23, zz24, zz25, zz26, zz27, zz28, zz29, zz30, zz31, zz32, zz33, zz34, zz35, zz36, zz37, zz38, zz39, zz40, zz41, zz48, zz60, zz64, zz160, zz312, zz320, zzm2, zzm3, zzm4, zzm5, zzm6, zzm7, zzm8, zzm9, zzm10]; done) | (simp (disch := omega) only [Int32.lt_iff_toInt_lt, Int32.le_iff_toInt_le, ← Int32.toInt_inj, on_toInt, on_clamp, ti64, z0, z1, z2, zm1, i0, i1, im1, zz3, zz4, zz5, zz6, zz7, zz8, zz9, zz10, zz11, zz12, zz13, zz14, zz15, zz16, zz17, zz18, zz19, zz20, zz21, zz22, zz23, zz24, zz25, zz26, zz27, zz28, zz29, zz30, zz31, zz32, zz33, zz34, zz35, zz36, zz37, zz38, zz39, zz40, zz41, zz48, zz60, zz64, zz160, zz312, zz320, zzm2, zzm3, zzm4, zzm5, zzm6, zzm7, zzm8, zzm9, zzm10]; omega))]
    have e2 : F_X9_end I a1 = (-1, I) := by
      unfold F_X9_end
      rw [t2, in_eq, ti64, on_toInt (by omega), i0, if_neg c, if_pos rfl]
    rw [e1]
    show _ = p1 (F_X9_end I a1) ∧ Inv (p2 (F_X9_end I a1)) L
    rw [e2]
    exact ⟨rfl, H'⟩
/-! bytes -/
theorem sby_t : ∀ b, b < 256 → (BitVec.ofNat 8 b).signExtend 32 = (sby b).toBitVec := by decide +kernel
theorem byte_8 (y : Int32) : Int8.toInt32 (Int32.toInt8 y) = sby (y.toBitVec.toNat % 256) := by
  apply Int32.toBitVec.inj
  show (y.toBitVec.signExtend 8).signExtend 32 = _
  have e : y.toBitVec.signExtend 8 = y.toBitVec.setWidth 8 := BitVec.signExtend_eq_setWidth_of_le _ (by decide)
  rw [← sby_t _ (Nat.mod_lt _ (by decide)), e]
  congr 1
  apply BitVec.eq_of_toNat_eq
  rw [BitVec.toNat_setWidth, BitVec.toNat_ofNat]
  omega
theorem byte_88 (y : Int32) : Int8.toInt32 (Int32.toInt8 (Int8.toInt32 (Int32.toInt8 y))) = Int8.toInt32 (Int32.toInt8 y) := by
  apply Int32.toBitVec.inj
  show (((y.toBitVec.signExtend 8).signExtend 32).signExtend 8).signExtend 32 = (y.toBitVec.signExtend 8).signExtend 32
  congr 1
  rw [BitVec.signExtend_eq_setWidth_of_le _ (show 8 ≤ 32 by decide)]
  apply BitVec.eq_of_getLsbD_eq
  intro i hi
  rw [BitVec.getLsbD_setWidth, BitVec.getLsbD_signExtend]
  simp [hi, (show i < 32 by omega)]
theorem byte_255 (x : Int64) : Int64.toInt32 (x &&& 255) = Int32.ofNat (x.toBitVec.toNat % 256) := by
  apply Int32.toBitVec.inj
  show (x.toBitVec &&& 255#64).signExtend 32 = BitVec.ofNat 32 _
  rw [BitVec.signExtend_eq_setWidth_of_le _ (by decide)]
  apply BitVec.eq_of_toNat_eq
  rw [BitVec.toNat_setWidth, BitVec.toNat_and, BitVec.toNat_ofNat, BitVec.toNat_ofNat]
  show (x.toBitVec.toNat &&& (2 ^ 8 - 1)) % 2 ^ 32 = _
  rw [Nat.and_two_pow_sub_one_eq_mod]
theorem byte_32 (x : Int64) : (Int64.toInt32 x).toBitVec.toNat % 256 = x.toBitVec.toNat % 256 := by
  show (x.toBitVec.signExtend 32).toNat % 256 = _
  rw [BitVec.signExtend_eq_setWidth_of_le _ (by decide), BitVec.toNat_setWidth]
  omega
theorem s56 : ∀ i, i < 8 → (56 : Int32) - Int32.ofNat (8 * i) = Int32.ofNat (56 - 8 * i) := by decide
theorem u2_nc {α : Type} {f : Nat → Nat → α} {k j a b : Nat} {x : α} (h : ¬ (a = k ∧ b = j)) : u2 f k j x a b = f a b := if_neg h
theorem E_0 {I : WI} {L : WL} {v : Int64} (H : Inv I L) : ∃ w, (F_X9_feed (p2 (F_X8_feed I v)) v) = some w ∧ (p1 (F_X8_feed I v)) = (p1 w) ∧ Inv (p2 w) L := by
  have H' := H
  obtain ⟨⟨h, w, h1, h2⟩, k0, k1, h3, ⟨n, hn, t1, t2, t3⟩, h5, h6⟩ := H
  by_cases c : n + 8 ≤ 320
  · -- the class
    let B : Nat → Nat := fun i => (lsr v (Int32.ofNat (56 - 8 * i))).toBitVec.toNat % 256
    have hB : ∀ i, B i < 256 := fun i => Nat.mod_lt _ (by decide)
    have e1 : ∃ J : WI, F_X5_add I v = (1, u2 J 9 0 (Int32.ofNat (n + 8))) ∧ (∀ k j, ¬ (k = 10 ∧ n ≤ j ∧ j < n + 8) → J k j = I k j) ∧ ∀ i, i < 8 → J 10 (n + i) = sby (B i) := by
      have hl : ∃ J : WI, p2 (fr0 (fun i x => F_X5_add_27_1 x v i) (Int32.ofNat 8) (fu 0 (Int32.ofNat 8)) 0 I) = J ∧ (∀ k j, ¬ (k = 10 ∧ n ≤ j ∧ j < n + 8) → J k j = I k j) ∧ ∀ i, i < 8 → J 10 (n + i) = sby (B i) := by
        refine ⟨_, rfl, ?_⟩
        rw [fr0_it (by decide)]
        refine it_ind (P := fun q (J : WI) => (∀ k j, ¬ (k = 10 ∧ n ≤ j ∧ j < n + q) → J k j = I k j) ∧ ∀ i, i < q → J 10 (n + i) = sby (B i)) ⟨fun _ _ _ => rfl, fun i hi => by omega⟩ (fun q J hq hJ => ?_)
        show (∀ k j, _ → F_X5_add_27_1 J v (Int32.ofNat q) k j = I k j) ∧ ∀ i, i < q + 1 → F_X5_add_27_1 J v (Int32.ofNat q) 10 (n + i) = sby (B i)
        have e9 : J 9 0 = Int32.ofNat n := (hJ.1 9 0 (by omega)).trans t1
        have e : F_X5_add_27_1 J v (Int32.ofNat q) = u2 J 10 (n + q) (sby (B q)) := by
          unfold F_X5_add_27_1 F_X5_add_68_1
          rw [e9, oadd, if_neg (by first | omega | (simp (disch := omega) only [Int32.lt_iff_toInt_lt, Int32.le_iff_toInt_le, ← Int32.toInt_inj, on_toInt, on_clamp, ti64, z0, z1, z2, zm1, i0, i1, im1, zz3, zz4, zz5, zz6, zz7, zz8, zz9, zz10, zz11, zz12, zz13, zz14, zz15, zz16, zz17, zz18, zz19, zz20, zz21, zz22, zz23, zz24, zz25, zz26, zz27, zz28, zz29, zz30, zz31, zz32, zz33, zz34, zz35, zz36, zz37, zz38, zz39, zz40, zz41, zz48, zz60, zz64, zz160, zz312, zz320, zzm2, zzm3, zzm4, zzm5, zzm6, zzm7, zzm8, zzm9, zzm10]; done) | (simp (disch := omega) only [Int32.lt_iff_toInt_lt, Int32.le_iff_toInt_le, ← Int32.toInt_inj, on_toInt, on_clamp, ti64, z0, z1, z2, zm1, i0, i1, im1, zz3, zz4, zz5, zz6, zz7, zz8, zz9, zz10, zz11, zz12, zz13, zz14, zz15, zz16, zz17, zz18, zz19, zz20, zz21, zz22, zz23, zz24, zz25, zz26, zz27, zz28, zz29, zz30, zz31, zz32, zz33, zz34, zz35, zz36, zz37, zz38, zz39, zz40, zz41, zz48, zz60, zz64, zz160, zz312, zz320, zzm2, zzm3, zzm4, zzm5, zzm6, zzm7, zzm8, zzm9, zzm10]; omega)), if_neg (by first | omega | (simp (disch := omega) only [Int32.lt_iff_toInt_lt, Int32.le_iff_toInt_le, ← Int32.toInt_inj, on_toInt, on_clamp, ti64, z0, z1, z2, zm1, i0, i1, im1, zz3, zz4, zz5, zz6, zz7, zz8, zz9, zz10, zz11, zz12, zz13, zz14, zz15, zz16, zz17, zz18, zz19, zz20, zz21, zz22, zz23, zz24, zz25, zz26, zz27, zz28, zz29, zz30, zz31, zz32, zz33, zz34, zz35, zz36, zz37, zz38, zz39, zz40, zz41, zz48, zz60, zz64, zz160, zz312, zz320, zzm2, zzm3, zzm4, zzm5, zzm6, zzm7, zzm8, zzm9, zzm10]; done) | (simp (disch := omega) only [Int32.lt_iff_toInt_lt, Int32.le_iff_toInt_le, ← Int32.toInt_inj, on_toInt, on_clamp, ti64, z0, z1, z2, zm1, i0, i1, im1, zz3, zz4, zz5, zz6, zz7, zz8, zz9, zz10, zz11, zz12, zz13, zz14, zz15, zz16, zz17, zz18, zz19, zz20, zz21, zz22, zz23, zz24, zz25, zz26, zz27, zz28, zz29, zz30, zz31, zz32, zz33, zz34, zz35, zz36, zz37, zz38, zz39, zz40, zz41, zz48, zz60, zz64, zz160, zz312, zz320, zzm2, zzm3, zzm4, zzm5, zzm6, zzm7, zzm8, zzm9, zzm10]; omega)), on_clamp (n := n + q) (by omega), byte_88, byte_8, lm8, s56 q hq, byte_32]
        rw [e]
        refine ⟨fun k j hkj => ?_, fun i hi => ?_⟩
        · rw [u2_nc (by omega)]
          exact hJ.1 k j (by omega)
        · by_cases d : i = q
          · rw [d, u2_at]
          · rw [u2_nc (by omega)]
            exact hJ.2 i (by omega)
      obtain ⟨J, g1, g2, g3⟩ := hl
      refine ⟨J, ?_, g2, g3⟩
      unfold F_X5_add
      rw [t1, if_neg (by first | omega | (simp (disch := omega) only [Int32.lt_iff_toInt_lt, Int32.le_iff_toInt_le, ← Int32.toInt_inj, on_toInt, on_clamp, ti64, z0, z1, z2, zm1, i0, i1, im1, zz3, zz4, zz5, zz6, zz7, zz8, zz9, zz10, zz11, zz12, zz13, zz14, zz15, zz16, zz17, zz18, zz19, zz20, zz21, zz22, zz23, zz24, zz25, zz26, zz27, zz28, zz29, zz30, zz31, zz32, zz33, zz34, zz35, zz36, zz37, zz38, zz39, zz40, zz41, zz48, zz60, zz64, zz160, zz312, zz320, zzm2, zzm3, zzm4, zzm5, zzm6, zzm7, zzm8, zzm9, zzm10]; done) | (simp (disch := omega) only [Int32.lt_iff_toInt_lt, Int32.le_iff_toInt_le, ← Int32.toInt_inj, on_toInt, on_clamp, ti64, z0, z1, z2, zm1, i0, i1, im1, zz3, zz4, zz5, zz6, zz7, zz8, zz9, zz10, zz11, zz12, zz13, zz14, zz15, zz16, zz17, zz18, zz19, zz20, zz21, zz22, zz23, zz24, zz25, zz26, zz27, zz28, zz29, zz30, zz31, zz32, zz33, zz34, zz35, zz36, zz37, zz38, zz39, zz40, zz41, zz48, zz60, zz64, zz160, zz312, zz320, zzm2, zzm3, zzm4, zzm5, zzm6, zzm7, zzm8, zzm9, zzm10]; omega)), if_pos (by first | omega | (simp (disch := omega) only [Int32.lt_iff_toInt_lt, Int32.le_iff_toInt_le, ← Int32.toInt_inj, on_toInt, on_clamp, ti64, z0, z1, z2, zm1, i0, i1, im1, zz3, zz4, zz5, zz6, zz7, zz8, zz9, zz10, zz11, zz12, zz13, zz14, zz15, zz16, zz17, zz18, zz19, zz20, zz21, zz22, zz23, zz24, zz25, zz26, zz27, zz28, zz29, zz30, zz31, zz32, zz33, zz34, zz35, zz36, zz37, zz38, zz39, zz40, zz41, zz48, zz60, zz64, zz160, zz312, zz320, zzm2, zzm3, zzm4, zzm5, zzm6, zzm7, zzm8, zzm9, zzm10]; done) | (simp (disch := omega) only [Int32.lt_iff_toInt_lt, Int32.le_iff_toInt_le, ← Int32.toInt_inj, on_toInt, on_clamp, ti64, z0, z1, z2, zm1, i0, i1, im1, zz3, zz4, zz5, zz6, zz7, zz8, zz9, zz10, zz11, zz12, zz13, zz14, zz15, zz16, zz17, zz18, zz19, zz20, zz21, zz22, zz23, zz24, zz25, zz26, zz27, zz28, zz29, zz30, zz31, zz32, zz33, zz34, zz35, zz36, zz37, zz38, zz39, zz40, zz41, zz48, zz60, zz64, zz160, zz312, zz320, zzm2, zzm3, zzm4, zzm5, zzm6, zzm7, zzm8, zzm9, zzm10]; omega))]
      show F_X5_add_74 (p2 (fr0 (fun i x => F_X5_add_27_1 x v i) (Int32.ofNat 8) (fu 0 (Int32.ofNat 8)) 0 I)) v = _
      rw [g1]
      unfold F_X5_add_74
      rw [show J 9 0 = Int32.ofNat n from (g2 9 0 (by omega)).trans t1, show Int32.ofNat n + 8 = Int32.ofNat (n + 8) from oadd n 8]
    obtain ⟨J, f1, f2, f3⟩ := e1
    have e2 : F_X8_feed I v = (Int32.ofNat (n + 8), u2 J 9 0 (Int32.ofNat (n + 8))) := by
      unfold F_X8_feed F_X8_feed_23
      rw [f1]
      rfl
    rw [e2]
    generalize hK : u2 J 9 0 (Int32.ofNat (n + 8)) = K
    have hK1 : ∀ k j, ¬ (k = 10 ∧ n ≤ j ∧ j < n + 8) → ¬ (k = 9 ∧ j = 0) → K k j = I k j := fun k j q1 q2 => by
      rw [← hK, u2_nc q2, f2 k j q1]
    have hK2 : K 9 0 = Int32.ofNat (n + 8) := by rw [← hK, u2_at]
    have hK3 : ∀ i, i < 8 → K 10 (n + i) = sby (B i) := fun i hi => by
      rw [← hK, u2_nc (by omega)]
      exact f3 i hi
    -- the reference
    have e3 : ∃ r, F_X9_feed K v = some r ∧ p1 r = Int32.ofNat (n + 8) ∧ (∀ k j, ¬ (k = 39 ∧ n ≤ j ∧ j < n + 8) → ¬ (k = 33 ∧ j = 21) → p2 r k j = K k j) ∧ p2 r 33 21 = Int32.ofNat (n + 8) ∧ ∀ i, i < 8 → p2 r 39 (n + i) = Int32.ofNat (B i) := by
      have hstep : ∀ (fuel q : Nat) (s : WI), q ≤ 8 → 9 ≤ fuel + q → ((∀ k j, ¬ (k = 39 ∧ n ≤ j ∧ j < n + q) → ¬ (k = 33 ∧ j = 21) → s k j = K k j) ∧ s 33 21 = Int32.ofNat (n + q) ∧ ∀ i, i < q → s 39 (n + i) = Int32.ofNat (B i)) → ∃ r, lpp (fun x => F_X9_feed_19_1 (p2 x) v (p1 x)) fuel (if q = 8 then -8 else Int32.ofNat (56 - 8 * q), s) = some r ∧ ((∀ k j, ¬ (k = 39 ∧ n ≤ j ∧ j < n + 8) → ¬ (k = 33 ∧ j = 21) → r k j = K k j) ∧ r 33 21 = Int32.ofNat (n + 8) ∧ ∀ i, i < 8 → r 39 (n + i) = Int32.ofNat (B i)) := by
        intro fuel
        induction fuel with
        | zero => intro q s g1 g2 _; omega
        | succ fuel ih =>
          intro q s g1 g2 g3
          by_cases d : q = 8
          · subst d
            refine ⟨s, ?_, g3⟩
            refine lpp_l ?_
            show F_X9_feed_19_1 s v (-8) = _
            unfold F_X9_feed_19_1
            rw [if_pos (by decide)]
          · rw [if_neg d]
            have hx : F_X9_feed_19_1 s v (Int32.ofNat (56 - 8 * q)) = some (.inr (if q + 1 = 8 then -8 else Int32.ofNat (56 - 8 * (q + 1)), u2 (u2 s 39 (n + q) (Int32.ofNat (B q))) 33 21 (Int32.ofNat (n + (q + 1))))) := by
              unfold F_X9_feed_19_1
              rw [if_neg (by first | omega | (simp (disch := omega) only [Int32.lt_iff_toInt_lt, Int32.le_iff_toInt_le, ← Int32.toInt_inj, on_toInt, on_clamp, ti64, z0, z1, z2, zm1, i0, i1, im1, zz3, zz4, zz5, zz6, zz7, zz8, zz9, zz10, zz11, zz12, zz13, zz14, zz15, zz16, zz17, zz18, zz19, zz20, zz21, zz22, zz23, zz24, zz25, zz26, zz27, zz28, zz29, zz30, zz31, zz32, zz33, zz34, zz35, zz36, zz37, zz38, zz39, zz40, zz41, zz48, zz60, zz64, zz160, zz312, zz320, zzm2, zzm3, zzm4, zzm5, zzm6, zzm7, zzm8, zzm9, zzm10]; done) | (simp (disch := omega) only [Int32.lt_iff_toInt_lt, Int32.le_iff_toInt_le, ← Int32.toInt_inj, on_toInt, on_clamp, ti64, z0, z1, z2, zm1, i0, i1, im1, zz3, zz4, zz5, zz6, zz7, zz8, zz9, zz10, zz11, zz12, zz13, zz14, zz15, zz16, zz17, zz18, zz19, zz20, zz21, zz22, zz23, zz24, zz25, zz26, zz27, zz28, zz29, zz30, zz31, zz32, zz33, zz34, zz35, zz36, zz37, zz38, zz39, zz40, zz41, zz48, zz60, zz64, zz160, zz312, zz320, zzm2, zzm3, zzm4, zzm5, zzm6, zzm7, zzm8, zzm9, zzm10]; omega)), g3.2.1, if_neg (nin (k := n + q) (by omega) (by decide)), on_clamp (n := n + q) (by omega), byte_255]
              rw [show (u2 s 39 (n + q) (Int32.ofNat ((lsr v (Int32.ofNat (56 - 8 * q))).toBitVec.toNat % 256))) 33 21 = Int32.ofNat (n + q) from g3.2.1, la1]
              rw [show ∀ q, q < 8 → Int32.ofNat (56 - 8 * q) + -8 = (if q + 1 = 8 then -8 else Int32.ofNat (56 - 8 * (q + 1))) from by decide]
              · rfl
              · omega
            rw [lpp_r (f := fun x => F_X9_feed_19_1 (p2 x) v (p1 x)) (s := (Int32.ofNat (56 - 8 * q), s)) hx]
            refine ih (q + 1) _ (by omega) (by omega) ⟨fun k j q1 q2 => ?_, u2_at, fun i hi => ?_⟩
            · rw [u2_nc q2, u2_nc (by omega)]
              exact g3.1 k j (by omega) q2
            · rw [u2_nc (by omega)]
              by_cases d2 : i = q
              · rw [d2, u2_at]
              · rw [u2_nc (by omega)]
                exact g3.2.2 i (by omega)
      obtain ⟨r, r1, r2, r3, r4⟩ := hstep 4294967296 0 K (by omega) (by omega) ⟨fun _ _ _ _ => rfl, (hK1 33 21 (by omega) (by omega)).trans t2, fun i hi => by omega⟩
      refine ⟨(r 33 21, r), ?_, r3, r2, r3, r4⟩
      unfold F_X9_feed
      rw [(hK1 33 21 (by omega) (by omega)).trans t2, show Int32.ofNat n + 8 = Int32.ofNat (n + 8) from oadd n 8, if_pos (by first | omega | (simp (disch := omega) only [Int32.lt_iff_toInt_lt, Int32.le_iff_toInt_le, ← Int32.toInt_inj, on_toInt, on_clamp, ti64, z0, z1, z2, zm1, i0, i1, im1, zz3, zz4, zz5, zz6, zz7, zz8, zz9, zz10, zz11, zz12, zz13, zz14, zz15, zz16, zz17, zz18, zz19, zz20, zz21, zz22, zz23, zz24, zz25, zz26, zz27, zz28, zz29, zz30, zz31, zz32, zz33, zz34, zz35, zz36, zz37, zz38, zz39, zz40, zz41, zz48, zz60, zz64, zz160, zz312, zz320, zzm2, zzm3, zzm4, zzm5, zzm6, zzm7, zzm8, zzm9, zzm10]; done) | (simp (disch := omega) only [Int32.lt_iff_toInt_lt, Int32.le_iff_toInt_le, ← Int32.toInt_inj, on_toInt, on_clamp, ti64, z0, z1, z2, zm1, i0, i1, im1, zz3, zz4, zz5, zz6, zz7, zz8, zz9, zz10, zz11, zz12, zz13, zz14, zz15, zz16, zz17, zz18, zz19, zz20, zz21, zz22, zz23, zz24, zz25, zz26, zz27, zz28, zz29, zz30, zz31, zz32, zz33, zz34, zz35, zz36, zz37, zz38, zz39, zz40, zz41, zz48, zz60, zz64, zz160, zz312, zz320, zzm2, zzm3, zzm4, zzm5, zzm6, zzm7, zzm8, zzm9, zzm10]; omega))]
      show (lpp (fun x => F_X9_feed_19_1 (p2 x) v (p1 x)) 4294967296 (if 0 = 8 then -8 else Int32.ofNat (56 - 8 * 0), K)).bind _ = _
      rw [r1]
      rfl
    obtain ⟨r, r1, r2, r3, r4, r5⟩ := e3
    refine ⟨r, r1, r2.symm, ?_⟩
    -- what is kept
    have hR : ∀ k j, ¬ (k = 39) → ¬ (k = 10) → ¬ (k = 33 ∧ j = 21) → ¬ (k = 9 ∧ j = 0) → p2 r k j = I k j := fun k j q1 q2 q3 q4 => (r3 k j (by omega) q3).trans (hK1 k j (by omega) q4)
    let I1 : WI := fun k j => if k = 39 ∨ k = 10 ∨ (k = 33 ∧ j = 21) ∨ (k = 9 ∧ j = 0) then p2 r k j else I k j
    have hI1 : p2 r = I1 := by
      funext k j
      show _ = if _ then _ else _
      by_cases d : k = 39 ∨ k = 10 ∨ (k = 33 ∧ j = 21) ∨ (k = 9 ∧ j = 0)
      · rw [if_pos d]
      · rw [if_neg d]
        exact hR k j (by omega) (by omega) (by omega) (by omega)
    have hT : InvT (p2 r) := by
      refine ⟨n + 8, c, (r3 9 0 (by omega) (by omega)).trans hK2, r4, fun j hj => ?_⟩
      by_cases d : j < n
      · obtain ⟨b, b1, b2, b3⟩ := t3 j d
        exact ⟨b, b1, (r3 39 j (by omega) (by omega)).trans ((hK1 39 j (by omega) (by omega)).trans b2), (r3 10 j (by omega) (by omega)).trans ((hK1 10 j (by omega) (by omega)).trans b3)⟩
      · obtain ⟨i, rfl⟩ : ∃ i, j = n + i := ⟨j - n, by omega⟩
        exact ⟨B i, hB i, r5 i (by omega), (r3 10 (n + i) (by omega) (by omega)).trans (hK3 i (by omega))⟩
    rw [hI1] at hT ⊢
    exact ⟨⟨h, w, h1, h2⟩, k0, k1, h3, hT, four h5 id id id id, h6⟩
  · have e1 : F_X5_add I v = (0, I) := by
      unfold F_X5_add F_X5_add_17
      rw [t1, if_neg (by first | omega | (simp (disch := omega) only [Int32.lt_iff_toInt_lt, Int32.le_iff_toInt_le, ← Int32.toInt_inj, on_toInt, on_clamp, ti64, z0, z1, z2, zm1, i0, i1, im1, zz3, zz4, zz5, zz6, zz7, zz8, zz9, zz10, zz11, zz12, zz13, zz14, zz15, zz16, zz17, zz18, zz19, zz20, zz21, zz22, zz23, zz24, zz25, zz26, zz27, zz28, zz29, zz30, zz31, zz32, zz33, zz34, zz35, zz36, zz37, zz38, zz39, zz40, zz41, zz48, zz60, zz64, zz160, zz312, zz320, zzm2, zzm3, zzm4, zzm5, zzm6, zzm7, zzm8, zzm9, zzm10]; done) | (simp (disch := omega) only [Int32.lt_iff_toInt_lt, Int32.le_iff_toInt_le, ← Int32.toInt_inj, on_toInt, on_clamp, ti64, z0, z1, z2, zm1, i0, i1, im1, zz3, zz4, zz5, zz6, zz7, zz8, zz9, zz10, zz11, zz12, zz13, zz14, zz15, zz16, zz17, zz18, zz19, zz20, zz21, zz22, zz23, zz24, zz25, zz26, zz27, zz28, zz29, zz30, zz31, zz32, zz33, zz34, zz35, zz36, zz37, zz38, zz39, zz40, zz41, zz48, zz60, zz64, zz160, zz312, zz320, zzm2, zzm3, zzm4, zzm5, zzm6, zzm7, zzm8, zzm9, zzm10]; omega)), if_neg (by first | omega | (simp (disch := omega) only [Int32.lt_iff_toInt_lt, Int32.le_iff_toInt_le, ← Int32.toInt_inj, on_toInt, on_clamp, ti64, z0, z1, z2, zm1, i0, i1, im1, zz3, zz4, zz5, zz6, zz7, zz8, zz9, zz10, zz11, zz12, zz13, zz14, zz15, zz16, zz17, zz18, zz19, zz20, zz21, zz22, zz23, zz24, zz25, zz26, zz27, zz28, zz29, zz30, zz31, zz32, zz33, zz34, zz35, zz36, zz37, zz38, zz39, zz40, zz41, zz48, zz60, zz64, zz160, zz312, zz320, zzm2, zzm3, zzm4, zzm5, zzm6, zzm7, zzm8, zzm9, zzm10]; done) | (simp (disch := omega) only [Int32.lt_iff_toInt_lt, Int32.le_iff_toInt_le, ← Int32.toInt_inj, on_toInt, on_clamp, ti64, z0, z1, z2, zm1, i0, i1, im1, zz3, zz4, zz5, zz6, zz7, zz8, zz9, zz10, zz11, zz12, zz13, zz14, zz15, zz16, zz17, zz18, zz19, zz20, zz21, zz22, zz23, zz24, zz25, zz26, zz27, zz28, zz29, zz30, zz31, zz32, zz33, zz34, zz35, zz36, zz37, zz38, zz39, zz40, zz41, zz48, zz60, zz64, zz160, zz312, zz320, zzm2, zzm3, zzm4, zzm5, zzm6, zzm7, zzm8, zzm9, zzm10]; omega))]
    have e2 : F_X8_feed I v = (-3, I) := by
      unfold F_X8_feed F_X8_feed_23
      rw [e1]
      rfl
    rw [e2]
    show ∃ w, F_X9_feed I v = some w ∧ _
    unfold F_X9_feed
    rw [t2, show Int32.ofNat n + 8 = Int32.ofNat (n + 8) from oadd n 8, if_neg (by first | omega | (simp (disch := omega) only [Int32.lt_iff_toInt_lt, Int32.le_iff_toInt_le, ← Int32.toInt_inj, on_toInt, on_clamp, ti64, z0, z1, z2, zm1, i0, i1, im1, zz3, zz4, zz5, zz6, zz7, zz8, zz9, zz10, zz11, zz12, zz13, zz14, zz15, zz16, zz17, zz18, zz19, zz20, zz21, zz22, zz23, zz24, zz25, zz26, zz27, zz28, zz29, zz30, zz31, zz32, zz33, zz34, zz35, zz36, zz37, zz38, zz39, zz40, zz41, zz48, zz60, zz64, zz160, zz312, zz320, zzm2, zzm3, zzm4, zzm5, zzm6, zzm7, zzm8, zzm9, zzm10]; done) | (simp (disch := omega) only [Int32.lt_iff_toInt_lt, Int32.le_iff_toInt_le, ← Int32.toInt_inj, on_toInt, on_clamp, ti64, z0, z1, z2, zm1, i0, i1, im1, zz3, zz4, zz5, zz6, zz7, zz8, zz9, zz10, zz11, zz12, zz13, zz14, zz15, zz16, zz17, zz18, zz19, zz20, zz21, zz22, zz23, zz24, zz25, zz26, zz27, zz28, zz29, zz30, zz31, zz32, zz33, zz34, zz35, zz36, zz37, zz38, zz39, zz40, zz41, zz48, zz60, zz64, zz160, zz312, zz320, zzm2, zzm3, zzm4, zzm5, zzm6, zzm7, zzm8, zzm9, zzm10]; omega))]
    exact ⟨_, rfl, rfl, H'⟩
/-! images; cut, sewn -/
theorem bz0_ne : ¬ bz 0 = 1 := by decide
theorem isImage_eq (a : Int32) : F_X9_isImage a = some (if 0 ≤ a.toInt ∧ a.toInt ≤ 1 then 1 else 0) := by
  unfold F_X9_isImage
  rw [in_eq, i0, i1]
  split <;> rfl
theorem kept_val {I : WI} {k : Nat} (hk : k < 2) : F_X9_isKept I (Int32.ofNat k) = some (if (I 36 k).toInt ≤ 0 then 0 else 1) := by
  unfold F_X9_isKept F_X9_isKept_14
  rw [if_neg (nin (k := k) hk (by decide)), on_clamp (by omega)]
  by_cases c : (I 36 k).toInt ≤ 0
  · rw [if_pos (by first | omega | (simp (disch := omega) only [Int32.lt_iff_toInt_lt, Int32.le_iff_toInt_le, ← Int32.toInt_inj, on_toInt, on_clamp, ti64, z0, z1, z2, zm1, i0, i1, im1, zz3, zz4, zz5, zz6, zz7, zz8, zz9, zz10, zz11, zz12, zz13, zz14, zz15, zz16, zz17, zz18, zz19, zz20, zz21, zz22, zz23, zz24, zz25, zz26, zz27, zz28, zz29, zz30, zz31, zz32, zz33, zz34, zz35, zz36, zz37, zz38, zz39, zz40, zz41, zz48, zz60, zz64, zz160, zz312, zz320, zzm2, zzm3, zzm4, zzm5, zzm6, zzm7, zzm8, zzm9, zzm10]; done) | (simp (disch := omega) only [Int32.lt_iff_toInt_lt, Int32.le_iff_toInt_le, ← Int32.toInt_inj, on_toInt, on_clamp, ti64, z0, z1, z2, zm1, i0, i1, im1, zz3, zz4, zz5, zz6, zz7, zz8, zz9, zz10, zz11, zz12, zz13, zz14, zz15, zz16, zz17, zz18, zz19, zz20, zz21, zz22, zz23, zz24, zz25, zz26, zz27, zz28, zz29, zz30, zz31, zz32, zz33, zz34, zz35, zz36, zz37, zz38, zz39, zz40, zz41, zz48, zz60, zz64, zz160, zz312, zz320, zzm2, zzm3, zzm4, zzm5, zzm6, zzm7, zzm8, zzm9, zzm10]; omega)), if_pos c]
  · rw [if_neg (by first | omega | (simp (disch := omega) only [Int32.lt_iff_toInt_lt, Int32.le_iff_toInt_le, ← Int32.toInt_inj, on_toInt, on_clamp, ti64, z0, z1, z2, zm1, i0, i1, im1, zz3, zz4, zz5, zz6, zz7, zz8, zz9, zz10, zz11, zz12, zz13, zz14, zz15, zz16, zz17, zz18, zz19, zz20, zz21, zz22, zz23, zz24, zz25, zz26, zz27, zz28, zz29, zz30, zz31, zz32, zz33, zz34, zz35, zz36, zz37, zz38, zz39, zz40, zz41, zz48, zz60, zz64, zz160, zz312, zz320, zzm2, zzm3, zzm4, zzm5, zzm6, zzm7, zzm8, zzm9, zzm10]; done) | (simp (disch := omega) only [Int32.lt_iff_toInt_lt, Int32.le_iff_toInt_le, ← Int32.toInt_inj, on_toInt, on_clamp, ti64, z0, z1, z2, zm1, i0, i1, im1, zz3, zz4, zz5, zz6, zz7, zz8, zz9, zz10, zz11, zz12, zz13, zz14, zz15, zz16, zz17, zz18, zz19, zz20, zz21, zz22, zz23, zz24, zz25, zz26, zz27, zz28, zz29, zz30, zz31, zz32, zz33, zz34, zz35, zz36, zz37, zz38, zz39, zz40, zz41, zz48, zz60, zz64, zz160, zz312, zz320, zzm2, zzm3, zzm4, zzm5, zzm6, zzm7, zzm8, zzm9, zzm10]; omega)), if_neg c]
theorem im_out2 {a : Int32} (h : ¬ (0 ≤ a.toInt ∧ a.toInt ≤ 1)) : a ≠ 0 ∧ a ≠ 1 := ⟨fun e => h (by rw [e, z0]; omega), fun e => h (by rw [e, z1]; omega)⟩
theorem im_in {a : Int32} (h : 0 ≤ a.toInt ∧ a.toInt ≤ 1) : a = 0 ∨ a = 1 := by
  obtain ⟨n, rfl, hn, -⟩ := nn h.1
  rcases (show n = 0 ∨ n = 1 by omega) with rfl | rfl
  · exact .inl rfl
  · exact .inr rfl
theorem flag_01 (x : Int32) (h : x = 0 ∨ x = 1) : F_X9_flag x = x := by rcases h with rfl | rfl <;> rfl
theorem kept_bz {I : WI} {L : WL} {k : Nat} (H : InvK I L k) : (if (I 36 k).toInt ≤ 0 then (0 : Int32) else 1) = bz (I (3 + k) 0) := by
  rcases bz01 (I (3 + k) 0) with e | e
  · rw [if_pos (H.1 e), e]
  · obtain ⟨h, w, ⟨⟨h1, h2⟩, h3, h4⟩, -, -, g, -⟩ := H.2 e
    rw [g, on_toInt (by omega), if_neg (by omega), e]
theorem E_31 {I : WI} {L : WL} {a1 : Int32} (H : Inv I L) : ∃ w, (F_X9_keep (p1 (p2 (F_X8_keep I L a1))) (p2 (p2 (F_X8_keep I L a1))) a1) = some w ∧ (p1 (F_X8_keep I L a1)) = (p1 w) ∧ Inv (p1 (p2 w)) (p2 (p2 w)) := by
  have H' := H
  obtain ⟨⟨h, w, ⟨hC, c1, c2, c3, c4, c5, c6, c7⟩, h2⟩, k0, k1, h3, h4, h5, h6⟩ := H
  by_cases c : 0 ≤ a1.toInt ∧ a1.toInt ≤ 1
  · rcases im_in c with rfl | rfl
    · have e1 : F_X8_keep I L 0 = (bz (I 3 0), p1 (F_X0_become I L 3 1), p2 (F_X0_become I L 3 1)) := by
        unfold F_X8_keep F_X8_keep_24
        rw [if_pos rfl]
        rcases bz01 (I 3 0) with e | e <;> rw [e] <;> rfl
      rw [e1]
      show ∃ w, F_X9_keep (p1 (F_X0_become I L 3 1)) (p2 (F_X0_become I L 3 1)) 0 = some w ∧ bz (I 3 0) = p1 w ∧ Inv (p1 (p2 w)) (p2 (p2 w))
      unfold F_X9_keep
      rw [isImage_eq, if_pos (by decide), show (0 : Int32) = Int32.ofNat 0 from rfl, kept_val (by decide), show (p1 (F_X0_become I L 3 1)) 36 0 = I 36 0 from rfl, kept_bz k0]
      refine ⟨_, rfl, (flag_01 _ (bz01 _)).symm, ?_⟩
      exact ⟨⟨h, w, ⟨hC, c1, c2, c3, c4, c5, c6, c7⟩, h2⟩, ⟨fun q => by
        have q : bz (bz (I 1 0)) = 0 := q
        rw [bz_bz, c7] at q
        exact absurd q (by decide), fun _ => ⟨h, w, hC, c1, c2, c3, c4, c5, c6⟩⟩, k1, h3, h4, four h5 id id id id, h6⟩
    · have e1 : F_X8_keep I L 1 = (bz (I 4 0), p1 (F_X0_become I L 4 1), p2 (F_X0_become I L 4 1)) := by
        unfold F_X8_keep F_X8_keep_24
        rw [if_neg (by decide), if_pos rfl]
        rcases bz01 (I 4 0) with e | e <;> rw [e] <;> rfl
      rw [e1]
      show ∃ w, F_X9_keep (p1 (F_X0_become I L 4 1)) (p2 (F_X0_become I L 4 1)) 1 = some w ∧ bz (I 4 0) = p1 w ∧ Inv (p1 (p2 w)) (p2 (p2 w))
      unfold F_X9_keep
      rw [isImage_eq, if_pos (by decide), show (1 : Int32) = Int32.ofNat 1 from rfl, kept_val (by decide), show (p1 (F_X0_become I L 4 1)) 36 1 = I 36 1 from rfl, kept_bz k1]
      refine ⟨_, rfl, (flag_01 _ (bz01 _)).symm, ?_⟩
      exact ⟨⟨h, w, ⟨hC, c1, c2, c3, c4, c5, c6, c7⟩, h2⟩, k0, ⟨fun q => by
        have q : bz (bz (I 1 0)) = 0 := q
        rw [bz_bz, c7] at q
        exact absurd q (by decide), fun _ => ⟨h, w, hC, c1, c2, c3, c4, c5, c6⟩⟩, h3, h4, four h5 id id id id, h6⟩
  · obtain ⟨n0, n1⟩ := im_out2 c
    have e1 : F_X8_keep I L a1 = (-1, I, L) := by
      unfold F_X8_keep
      rw [if_neg n0, if_neg n1]
    rw [e1]
    show ∃ w, F_X9_keep I L a1 = some w ∧ _
    unfold F_X9_keep
    rw [isImage_eq, if_neg c]
    exact ⟨_, rfl, rfl, H'⟩
theorem ofSize_val {I : WI} {k : Nat} (hk : k < 2) : F_X9_isOfSize I (Int32.ofNat k) = some (if (I 36 k) = (I 33 0) ∧ (I 37 k) = (I 33 1) then 1 else 0) := by
  unfold F_X9_isOfSize F_X9_isOfSize_30 F_X9_isOfSize_31
  rw [if_neg (nin (k := k) hk (by decide)), if_neg (nin (k := k) hk (by decide)), on_clamp (by omega)]
  by_cases c1 : I 36 k = I 33 0
  · rw [if_pos c1]
    by_cases c2 : I 37 k = I 33 1
    · rw [if_pos c2, if_pos ⟨c1, c2⟩]
    · rw [if_neg c2, if_neg fun h => c2 h.2]
  · rw [if_neg c1, if_neg fun h => c1 h.1]
theorem same_val {I : WI} {o r : Nat} : F_X0_sameSize I o r = if (I o 1) = (I r 1) ∧ (I o 2) = (I r 2) then 1 else 0 := by
  unfold F_X0_sameSize F_X0_sameSize_26 F_X0_sameSize_27
  by_cases c1 : I o 1 = I r 1
  · rw [if_pos c1]
    by_cases c2 : I o 2 = I r 2
    · rw [if_pos c2, if_pos ⟨c1, c2⟩]
    · rw [if_neg c2, if_neg fun h => c2 h.2]
  · rw [if_neg c1, if_neg fun h => c1 h.1]
theorem E_32 {I : WI} {L : WL} {a1 : Int32} (H : Inv I L) : ∃ w, (F_X9_back (p1 (p2 (F_X8_back I L a1))) (p2 (p2 (F_X8_back I L a1))) a1) = some w ∧ (p1 (F_X8_back I L a1)) = (p1 w) ∧ Inv (p1 (p2 w)) (p2 (p2 w)) := by
  have H' := H
  obtain ⟨⟨h, w, ⟨hC, c1, c2, c3, c4, c5, c6, c7⟩, h2⟩, k0, k1, h3, h4, h5, h6⟩ := H
  obtain ⟨q1, q2, q3⟩ := h2
  by_cases c : 0 ≤ a1.toInt ∧ a1.toInt ≤ 1
  · rcases im_in c with rfl | rfl
    · rcases bz01 (I 3 0) with e | e
      · have e1 : F_X8_back I L 0 = (-2, I, L) := by
          unfold F_X8_back
          rw [if_pos rfl, e, if_pos rfl]
        rw [e1]
        show ∃ w, F_X9_back I L 0 = some w ∧ _
        unfold F_X9_back
        rw [isImage_eq, if_pos (by decide), show (0 : Int32) = Int32.ofNat 0 from rfl, kept_val (by decide), kept_bz k0, show I (3 + 0) 0 = I 3 0 from rfl, e]
        exact ⟨_, rfl, rfl, H'⟩
      · obtain ⟨hh, ww, hC', f1, f2, f3, f4, f5, f6⟩ := k0.2 e
        by_cases d : I 3 1 = I 1 1 ∧ I 3 2 = I 1 2
        · have d' : I 36 0 = I 33 0 ∧ I 37 0 = I 33 1 := ⟨f3.trans (f1.symm.trans (d.1.trans (c1.trans c3.symm))), f4.trans (f2.symm.trans (d.2.trans (c2.trans c4.symm)))⟩
          have e1 : F_X8_back I L 0 = F_X8_back_37 I L 0 3 := by
            unfold F_X8_back
            rw [if_pos rfl, e, if_neg (by decide), same_val, if_pos d, if_neg (by decide)]
          rw [e1]
          show ∃ w, F_X9_back (p1 (F_X0_become I L 1 3)) (p2 (F_X0_become I L 1 3)) 0 = some w ∧ _
          unfold F_X9_back
          rw [isImage_eq, if_pos (by decide), show (0 : Int32) = Int32.ofNat 0 from rfl, kept_val (by decide), show (p1 (F_X0_become I L 1 3)) 36 0 = I 36 0 from rfl, kept_bz k0, show I (3 + 0) 0 = I 3 0 from rfl, e, ofSize_val (by decide), show (p1 (F_X0_become I L 1 3)) 36 0 = I 36 0 from rfl, show (p1 (F_X0_become I L 1 3)) 37 0 = I 37 0 from rfl, show (p1 (F_X0_become I L 1 3)) 33 0 = I 33 0 from rfl, show (p1 (F_X0_become I L 1 3)) 33 1 = I 33 1 from rfl, if_pos d']
          refine ⟨_, rfl, ?_, ?_⟩
          · show F_J13_bitCount_95d88 (L 3 3) = F_X9_many (L 35 0)
            rw [many_bits]
            exact congrArg _ f5.symm
          obtain ⟨rfl, rfl⟩ := hC.eq hC' (d.1.trans c1) (d.2.trans c2) f1 f2
          exact ⟨⟨hh, ww, ⟨hC', f1, f2, f3, f4, f5, f6, by show bz (bz (I 3 0)) = 1; rw [bz_bz, e]⟩, q1, q2, q3⟩, k0, k1, h3, h4, four h5 id id id id, h6⟩
        · have d' : ¬ (I 36 0 = I 33 0 ∧ I 37 0 = I 33 1) := fun g => d ⟨f1.trans (f3.symm.trans (g.1.trans (c3.trans c1.symm))), f2.trans (f4.symm.trans (g.2.trans (c4.trans c2.symm)))⟩
          have e1 : F_X8_back I L 0 = F_X8_back_37 (F_X8_forgetPlans I) L 0 3 := by
            unfold F_X8_back
            rw [if_pos rfl, e, if_neg (by decide), same_val, if_neg d, if_pos rfl]
          rw [e1]
          show ∃ w, F_X9_back (p1 (F_X0_become (F_X8_forgetPlans I) L 1 3)) (p2 (F_X0_become (F_X8_forgetPlans I) L 1 3)) 0 = some w ∧ _
          unfold F_X9_back
          rw [isImage_eq, if_pos (by decide), show (0 : Int32) = Int32.ofNat 0 from rfl, kept_val (by decide), show (p1 (F_X0_become (F_X8_forgetPlans I) L 1 3)) 36 0 = I 36 0 from rfl, kept_bz k0, show I (3 + 0) 0 = I 3 0 from rfl, e, ofSize_val (by decide), show (p1 (F_X0_become (F_X8_forgetPlans I) L 1 3)) 36 0 = I 36 0 from rfl, show (p1 (F_X0_become (F_X8_forgetPlans I) L 1 3)) 37 0 = I 37 0 from rfl, show (p1 (F_X0_become (F_X8_forgetPlans I) L 1 3)) 33 0 = I 33 0 from rfl, show (p1 (F_X0_become (F_X8_forgetPlans I) L 1 3)) 33 1 = I 33 1 from rfl, if_neg d']
          refine ⟨_, rfl, ?_, ?_⟩
          · show F_J13_bitCount_95d88 (L 3 3) = F_X9_many (L 35 0)
            rw [many_bits]
            exact congrArg _ f5.symm
          obtain ⟨g1, g2, g3, g4, g5⟩ := q1
          exact ⟨⟨hh, ww, ⟨hC', f1, f2, f3, f4, f5, f6, by show bz (bz (I 3 0)) = 1; rw [bz_bz, e]⟩, ⟨g1, g2, g3, g4, g5.1, fun q => absurd (show bz 0 = 1 from q) bz0_ne⟩, rfl, fun q => absurd (show bz 0 = 1 from q) bz0_ne⟩, k0, k1, ⟨0, by decide, rfl, rfl, fun d hd => absurd hd (by omega)⟩, h4, four h5 id id id id, h6⟩
    · rcases bz01 (I 4 0) with e | e
      · have e1 : F_X8_back I L 1 = (-2, I, L) := by
          unfold F_X8_back
          rw [if_neg (by decide), if_pos rfl, e, if_pos rfl]
        rw [e1]
        show ∃ w, F_X9_back I L 1 = some w ∧ _
        unfold F_X9_back
        rw [isImage_eq, if_pos (by decide), show (1 : Int32) = Int32.ofNat 1 from rfl, kept_val (by decide), kept_bz k1, show I (3 + 1) 0 = I 4 0 from rfl, e]
        exact ⟨_, rfl, rfl, H'⟩
      · obtain ⟨hh, ww, hC', f1, f2, f3, f4, f5, f6⟩ := k1.2 e
        have f1 : I 4 1 = Int32.ofNat hh := f1
        have f2 : I 4 2 = Int32.ofNat ww := f2
        by_cases d : I 4 1 = I 1 1 ∧ I 4 2 = I 1 2
        · have d' : I 36 1 = I 33 0 ∧ I 37 1 = I 33 1 := ⟨f3.trans (f1.symm.trans (d.1.trans (c1.trans c3.symm))), f4.trans (f2.symm.trans (d.2.trans (c2.trans c4.symm)))⟩
          have e1 : F_X8_back I L 1 = F_X8_back_37 I L 1 4 := by
            unfold F_X8_back
            rw [if_neg (by decide), if_pos rfl, e, if_neg (by decide), same_val, if_pos d, if_neg (by decide)]
          rw [e1]
          show ∃ w, F_X9_back (p1 (F_X0_become I L 1 4)) (p2 (F_X0_become I L 1 4)) 1 = some w ∧ _
          unfold F_X9_back
          rw [isImage_eq, if_pos (by decide), show (1 : Int32) = Int32.ofNat 1 from rfl, kept_val (by decide), show (p1 (F_X0_become I L 1 4)) 36 1 = I 36 1 from rfl, kept_bz k1, show I (3 + 1) 0 = I 4 0 from rfl, e, ofSize_val (by decide), show (p1 (F_X0_become I L 1 4)) 36 1 = I 36 1 from rfl, show (p1 (F_X0_become I L 1 4)) 37 1 = I 37 1 from rfl, show (p1 (F_X0_become I L 1 4)) 33 0 = I 33 0 from rfl, show (p1 (F_X0_become I L 1 4)) 33 1 = I 33 1 from rfl, if_pos d']
          refine ⟨_, rfl, ?_, ?_⟩
          · show F_J13_bitCount_95d88 (L 4 3) = F_X9_many (L 35 1)
            rw [many_bits]
            exact congrArg _ f5.symm
          obtain ⟨rfl, rfl⟩ := hC.eq hC' (d.1.trans c1) (d.2.trans c2) f1 f2
          exact ⟨⟨hh, ww, ⟨hC', f1, f2, f3, f4, f5, f6, by show bz (bz (I 4 0)) = 1; rw [bz_bz, e]⟩, q1, q2, q3⟩, k0, k1, h3, h4, four h5 id id id id, h6⟩
        · have d' : ¬ (I 36 1 = I 33 0 ∧ I 37 1 = I 33 1) := fun g => d ⟨f1.trans (f3.symm.trans (g.1.trans (c3.trans c1.symm))), f2.trans (f4.symm.trans (g.2.trans (c4.trans c2.symm)))⟩
          have e1 : F_X8_back I L 1 = F_X8_back_37 (F_X8_forgetPlans I) L 1 4 := by
            unfold F_X8_back
            rw [if_neg (by decide), if_pos rfl, e, if_neg (by decide), same_val, if_neg d, if_pos rfl]
          rw [e1]
          show ∃ w, F_X9_back (p1 (F_X0_become (F_X8_forgetPlans I) L 1 4)) (p2 (F_X0_become (F_X8_forgetPlans I) L 1 4)) 1 = some w ∧ _
          unfold F_X9_back
          rw [isImage_eq, if_pos (by decide), show (1 : Int32) = Int32.ofNat 1 from rfl, kept_val (by decide), show (p1 (F_X0_become (F_X8_forgetPlans I) L 1 4)) 36 1 = I 36 1 from rfl, kept_bz k1, show I (3 + 1) 0 = I 4 0 from rfl, e, ofSize_val (by decide), show (p1 (F_X0_become (F_X8_forgetPlans I) L 1 4)) 36 1 = I 36 1 from rfl, show (p1 (F_X0_become (F_X8_forgetPlans I) L 1 4)) 37 1 = I 37 1 from rfl, show (p1 (F_X0_become (F_X8_forgetPlans I) L 1 4)) 33 0 = I 33 0 from rfl, show (p1 (F_X0_become (F_X8_forgetPlans I) L 1 4)) 33 1 = I 33 1 from rfl, if_neg d']
          refine ⟨_, rfl, ?_, ?_⟩
          · show F_J13_bitCount_95d88 (L 4 3) = F_X9_many (L 35 1)
            rw [many_bits]
            exact congrArg _ f5.symm
          obtain ⟨g1, g2, g3, g4, g5⟩ := q1
          exact ⟨⟨hh, ww, ⟨hC', f1, f2, f3, f4, f5, f6, by show bz (bz (I 4 0)) = 1; rw [bz_bz, e]⟩, ⟨g1, g2, g3, g4, g5.1, fun q => absurd (show bz 0 = 1 from q) bz0_ne⟩, rfl, fun q => absurd (show bz 0 = 1 from q) bz0_ne⟩, k0, k1, ⟨0, by decide, rfl, rfl, fun d hd => absurd hd (by omega)⟩, h4, four h5 id id id id, h6⟩
  · obtain ⟨n0, n1⟩ := im_out2 c
    have e1 : F_X8_back I L a1 = (-1, I, L) := by
      unfold F_X8_back
      rw [if_neg n0, if_neg n1]
    rw [e1]
    show ∃ w, F_X9_back I L a1 = some w ∧ _
    unfold F_X9_back
    rw [isImage_eq, if_neg c]
    exact ⟨_, rfl, rfl, H'⟩
/-! cut, sewn, turned -/
theorem isPart_eq {a b : Int32} {N : Nat} (hN : N ≤ 8) : F_X8_isPart a b (Int32.ofNat N) = if (0 ≤ a.toInt ∧ a.toInt < (N : Int)) ∧ 1 ≤ b.toInt ∧ b.toInt ≤ (N : Int) - a.toInt then 1 else 0 := by
  unfold F_X8_isPart F_X8_isPart_25 F_X8_isPart_26
  by_cases c1 : a.toInt < 0
  · rw [if_pos (by first | omega | (simp (disch := omega) only [Int32.lt_iff_toInt_lt, Int32.le_iff_toInt_le, ← Int32.toInt_inj, on_toInt, on_clamp, ti64, z0, z1, z2, zm1, i0, i1, im1, zz3, zz4, zz5, zz6, zz7, zz8, zz9, zz10, zz11, zz12, zz13, zz14, zz15, zz16, zz17, zz18, zz19, zz20, zz21, zz22, zz23, zz24, zz25, zz26, zz27, zz28, zz29, zz30, zz31, zz32, zz33, zz34, zz35, zz36, zz37, zz38, zz39, zz40, zz41, zz48, zz60, zz64, zz160, zz312, zz320, zzm2, zzm3, zzm4, zzm5, zzm6, zzm7, zzm8, zzm9, zzm10]; done) | (simp (disch := omega) only [Int32.lt_iff_toInt_lt, Int32.le_iff_toInt_le, ← Int32.toInt_inj, on_toInt, on_clamp, ti64, z0, z1, z2, zm1, i0, i1, im1, zz3, zz4, zz5, zz6, zz7, zz8, zz9, zz10, zz11, zz12, zz13, zz14, zz15, zz16, zz17, zz18, zz19, zz20, zz21, zz22, zz23, zz24, zz25, zz26, zz27, zz28, zz29, zz30, zz31, zz32, zz33, zz34, zz35, zz36, zz37, zz38, zz39, zz40, zz41, zz48, zz60, zz64, zz160, zz312, zz320, zzm2, zzm3, zzm4, zzm5, zzm6, zzm7, zzm8, zzm9, zzm10]; omega)), if_neg (by omega)]
  rw [if_neg (by first | omega | (simp (disch := omega) only [Int32.lt_iff_toInt_lt, Int32.le_iff_toInt_le, ← Int32.toInt_inj, on_toInt, on_clamp, ti64, z0, z1, z2, zm1, i0, i1, im1, zz3, zz4, zz5, zz6, zz7, zz8, zz9, zz10, zz11, zz12, zz13, zz14, zz15, zz16, zz17, zz18, zz19, zz20, zz21, zz22, zz23, zz24, zz25, zz26, zz27, zz28, zz29, zz30, zz31, zz32, zz33, zz34, zz35, zz36, zz37, zz38, zz39, zz40, zz41, zz48, zz60, zz64, zz160, zz312, zz320, zzm2, zzm3, zzm4, zzm5, zzm6, zzm7, zzm8, zzm9, zzm10]; done) | (simp (disch := omega) only [Int32.lt_iff_toInt_lt, Int32.le_iff_toInt_le, ← Int32.toInt_inj, on_toInt, on_clamp, ti64, z0, z1, z2, zm1, i0, i1, im1, zz3, zz4, zz5, zz6, zz7, zz8, zz9, zz10, zz11, zz12, zz13, zz14, zz15, zz16, zz17, zz18, zz19, zz20, zz21, zz22, zz23, zz24, zz25, zz26, zz27, zz28, zz29, zz30, zz31, zz32, zz33, zz34, zz35, zz36, zz37, zz38, zz39, zz40, zz41, zz48, zz60, zz64, zz160, zz312, zz320, zzm2, zzm3, zzm4, zzm5, zzm6, zzm7, zzm8, zzm9, zzm10]; omega))]
  by_cases c2 : (N : Int) ≤ a.toInt
  · rw [if_pos (by first | omega | (simp (disch := omega) only [Int32.lt_iff_toInt_lt, Int32.le_iff_toInt_le, ← Int32.toInt_inj, on_toInt, on_clamp, ti64, z0, z1, z2, zm1, i0, i1, im1, zz3, zz4, zz5, zz6, zz7, zz8, zz9, zz10, zz11, zz12, zz13, zz14, zz15, zz16, zz17, zz18, zz19, zz20, zz21, zz22, zz23, zz24, zz25, zz26, zz27, zz28, zz29, zz30, zz31, zz32, zz33, zz34, zz35, zz36, zz37, zz38, zz39, zz40, zz41, zz48, zz60, zz64, zz160, zz312, zz320, zzm2, zzm3, zzm4, zzm5, zzm6, zzm7, zzm8, zzm9, zzm10]; done) | (simp (disch := omega) only [Int32.lt_iff_toInt_lt, Int32.le_iff_toInt_le, ← Int32.toInt_inj, on_toInt, on_clamp, ti64, z0, z1, z2, zm1, i0, i1, im1, zz3, zz4, zz5, zz6, zz7, zz8, zz9, zz10, zz11, zz12, zz13, zz14, zz15, zz16, zz17, zz18, zz19, zz20, zz21, zz22, zz23, zz24, zz25, zz26, zz27, zz28, zz29, zz30, zz31, zz32, zz33, zz34, zz35, zz36, zz37, zz38, zz39, zz40, zz41, zz48, zz60, zz64, zz160, zz312, zz320, zzm2, zzm3, zzm4, zzm5, zzm6, zzm7, zzm8, zzm9, zzm10]; omega)), if_neg (by omega)]
  rw [if_neg (by first | omega | (simp (disch := omega) only [Int32.lt_iff_toInt_lt, Int32.le_iff_toInt_le, ← Int32.toInt_inj, on_toInt, on_clamp, ti64, z0, z1, z2, zm1, i0, i1, im1, zz3, zz4, zz5, zz6, zz7, zz8, zz9, zz10, zz11, zz12, zz13, zz14, zz15, zz16, zz17, zz18, zz19, zz20, zz21, zz22, zz23, zz24, zz25, zz26, zz27, zz28, zz29, zz30, zz31, zz32, zz33, zz34, zz35, zz36, zz37, zz38, zz39, zz40, zz41, zz48, zz60, zz64, zz160, zz312, zz320, zzm2, zzm3, zzm4, zzm5, zzm6, zzm7, zzm8, zzm9, zzm10]; done) | (simp (disch := omega) only [Int32.lt_iff_toInt_lt, Int32.le_iff_toInt_le, ← Int32.toInt_inj, on_toInt, on_clamp, ti64, z0, z1, z2, zm1, i0, i1, im1, zz3, zz4, zz5, zz6, zz7, zz8, zz9, zz10, zz11, zz12, zz13, zz14, zz15, zz16, zz17, zz18, zz19, zz20, zz21, zz22, zz23, zz24, zz25, zz26, zz27, zz28, zz29, zz30, zz31, zz32, zz33, zz34, zz35, zz36, zz37, zz38, zz39, zz40, zz41, zz48, zz60, zz64, zz160, zz312, zz320, zzm2, zzm3, zzm4, zzm5, zzm6, zzm7, zzm8, zzm9, zzm10]; omega))]
  by_cases c3 : b.toInt < 1
  · rw [if_pos (by first | omega | (simp (disch := omega) only [Int32.lt_iff_toInt_lt, Int32.le_iff_toInt_le, ← Int32.toInt_inj, on_toInt, on_clamp, ti64, z0, z1, z2, zm1, i0, i1, im1, zz3, zz4, zz5, zz6, zz7, zz8, zz9, zz10, zz11, zz12, zz13, zz14, zz15, zz16, zz17, zz18, zz19, zz20, zz21, zz22, zz23, zz24, zz25, zz26, zz27, zz28, zz29, zz30, zz31, zz32, zz33, zz34, zz35, zz36, zz37, zz38, zz39, zz40, zz41, zz48, zz60, zz64, zz160, zz312, zz320, zzm2, zzm3, zzm4, zzm5, zzm6, zzm7, zzm8, zzm9, zzm10]; done) | (simp (disch := omega) only [Int32.lt_iff_toInt_lt, Int32.le_iff_toInt_le, ← Int32.toInt_inj, on_toInt, on_clamp, ti64, z0, z1, z2, zm1, i0, i1, im1, zz3, zz4, zz5, zz6, zz7, zz8, zz9, zz10, zz11, zz12, zz13, zz14, zz15, zz16, zz17, zz18, zz19, zz20, zz21, zz22, zz23, zz24, zz25, zz26, zz27, zz28, zz29, zz30, zz31, zz32, zz33, zz34, zz35, zz36, zz37, zz38, zz39, zz40, zz41, zz48, zz60, zz64, zz160, zz312, zz320, zzm2, zzm3, zzm4, zzm5, zzm6, zzm7, zzm8, zzm9, zzm10]; omega)), if_neg (by omega)]
  rw [if_neg (by first | omega | (simp (disch := omega) only [Int32.lt_iff_toInt_lt, Int32.le_iff_toInt_le, ← Int32.toInt_inj, on_toInt, on_clamp, ti64, z0, z1, z2, zm1, i0, i1, im1, zz3, zz4, zz5, zz6, zz7, zz8, zz9, zz10, zz11, zz12, zz13, zz14, zz15, zz16, zz17, zz18, zz19, zz20, zz21, zz22, zz23, zz24, zz25, zz26, zz27, zz28, zz29, zz30, zz31, zz32, zz33, zz34, zz35, zz36, zz37, zz38, zz39, zz40, zz41, zz48, zz60, zz64, zz160, zz312, zz320, zzm2, zzm3, zzm4, zzm5, zzm6, zzm7, zzm8, zzm9, zzm10]; done) | (simp (disch := omega) only [Int32.lt_iff_toInt_lt, Int32.le_iff_toInt_le, ← Int32.toInt_inj, on_toInt, on_clamp, ti64, z0, z1, z2, zm1, i0, i1, im1, zz3, zz4, zz5, zz6, zz7, zz8, zz9, zz10, zz11, zz12, zz13, zz14, zz15, zz16, zz17, zz18, zz19, zz20, zz21, zz22, zz23, zz24, zz25, zz26, zz27, zz28, zz29, zz30, zz31, zz32, zz33, zz34, zz35, zz36, zz37, zz38, zz39, zz40, zz41, zz48, zz60, zz64, zz160, zz312, zz320, zzm2, zzm3, zzm4, zzm5, zzm6, zzm7, zzm8, zzm9, zzm10]; omega))]
  have e : (Int32.ofNat N - a).toInt = (N : Int) - a.toInt := by
    rw [ti_sub] <;> rw [on_toInt (by omega)] <;> omega
  by_cases c4 : (N : Int) - a.toInt < b.toInt
  · rw [if_pos (by rw [Int32.lt_iff_toInt_lt, e]; exact c4), if_neg (by omega)]
  · rw [if_neg (by rw [Int32.lt_iff_toInt_lt, e]; exact c4), if_pos (by omega)]
theorem cut_set {x : Int64} {h w r m c n : Nat} (hC : Cl h w) (hr : r + m ≤ h) (hm : 1 ≤ m) (hc : c + n ≤ w) (hn : 1 ≤ n) {I : WI} {L : WL} (hx : L 33 2 = x) : it (fun i y => F_X9_cut_79_1 I L (Int32.ofNat r) (Int32.ofNat m) (Int32.ofNat c) (Int32.ofNat n) i y) m 0 = (lush x (Int32.ofNat (8 * r + c))) &&& (F_X0_allSquares (cq (Int32.ofNat m) (Int32.ofNat n)) 1) := by
  obtain ⟨⟨h1, h2⟩, h3, h4⟩ := hC
  refine M_ext fun k hk => ?_
  rw [M_and, M_lush (by omega), all_M ⟨⟨hm, by omega⟩, hn, by omega⟩]
  rw [it_or2 (g := fun a i y => F_X9_cut_89_2 I L (Int32.ofNat r) (Int32.ofNat m) (Int32.ofNat c) (Int32.ofNat n) (Int32.ofNat a) i y) (w := n) (by omega) (fun a b => M x (8 * (r + a) + (c + b))) (fun a y ha => fr0_it (by omega)) (fun a b y ha hb k => ?_) (by omega)]
  · constructor
    · rintro (q | ⟨q1, q2, q3⟩)
      · exact absurd q M_0
      · rw [show 8 * (r + k / 8) + (c + k % 8) = 8 * r + c + k by omega] at q3
        exact ⟨q3, q1, q2⟩
    · rintro ⟨q1, q2, q3⟩
      refine .inr ⟨q2, q3, ?_⟩
      rw [show 8 * (r + k / 8) + (c + k % 8) = 8 * r + c + k by omega]
      exact q1
  · show M (F_X9_cut_89_2 I L _ _ _ _ (Int32.ofNat a) (Int32.ofNat b) y) k ↔ _
    have hbo := bitOf_M (r := a) (c := b) (k := k) (by omega)
    unfold F_X9_cut_89_2 F_X9_cut_121_2
    rw [oadd, oadd, hx, isDark_eq (by omega)]
    by_cases hb' : M x (8 * (r + a) + (c + b))
    · rw [show (if mb x (8 * (r + a) + (c + b)) = true then (1 : Int32) else 0) = 1 from if_pos hb', if_pos rfl, M_or, hbo]
      exact ⟨fun h => h.imp_right fun h => ⟨hb', h⟩, fun h => h.imp_right fun h => h.2⟩
    · rw [show (if mb x (8 * (r + a) + (c + b)) = true then (1 : Int32) else 0) = 0 from if_neg hb', if_neg (show ¬ (0 : Int32) = 1 by decide), M_or]
      exact ⟨fun h => .inl (h.resolve_right M_0), fun h => .inl (h.resolve_right fun h => hb' h.1)⟩
theorem cut_ins {x : Int64} {m n s : Nat} (hC : Cl m n) : Ins m n ((lush x (Int32.ofNat s)) &&& (F_X0_allSquares (cq (Int32.ofNat m) (Int32.ofNat n)) 1)) := fun k hk => (all_M hC).mp (M_and.mp hk).2
theorem E_27 {I : WI} {L : WL} {a1 a2 a3 a4 : Int32} (H : Inv I L) : (p1 (F_X8_cut I L a1 a2 a3 a4)) = (p1 (F_X9_cut (p1 (p2 (F_X8_cut I L a1 a2 a3 a4))) (p2 (p2 (F_X8_cut I L a1 a2 a3 a4))) a1 a2 a3 a4)) ∧ Inv (p1 (p2 (F_X9_cut (p1 (p2 (F_X8_cut I L a1 a2 a3 a4))) (p2 (p2 (F_X8_cut I L a1 a2 a3 a4))) a1 a2 a3 a4))) (p2 (p2 (F_X9_cut (p1 (p2 (F_X8_cut I L a1 a2 a3 a4))) (p2 (p2 (F_X8_cut I L a1 a2 a3 a4))) a1 a2 a3 a4))) := by
  have H' := H
  obtain ⟨⟨h, w, ⟨hC, c1, c2, c3, c4, c5, c6, c7⟩, ⟨q1, q2, q3⟩⟩, k0, k1, h3, h4, h5, h6⟩ := H
  have hC2 := hC
  obtain ⟨⟨b1, b2⟩, b3, b4⟩ := hC2
  by_cases c : ((0 ≤ a1.toInt ∧ a1.toInt < (h : Int)) ∧ 1 ≤ a2.toInt ∧ a2.toInt ≤ (h : Int) - a1.toInt) ∧ ((0 ≤ a3.toInt ∧ a3.toInt < (w : Int)) ∧ 1 ≤ a4.toInt ∧ a4.toInt ≤ (w : Int) - a3.toInt)
  · obtain ⟨r, rfl, hr, -⟩ := nn c.1.1.1
    obtain ⟨m, rfl, hm, -⟩ := nn (show 0 ≤ a2.toInt by omega)
    obtain ⟨q, rfl, hq, -⟩ := nn c.2.1.1
    obtain ⟨n, rfl, hn, -⟩ := nn (show 0 ≤ a4.toInt by omega)
    rw [hr, hm, hq, hn] at c
    generalize hX : (lush (L 1 3) (Int32.ofNat (8 * r + q))) &&& (F_X0_allSquares (cq (Int32.ofNat m) (Int32.ofNat n)) 1) = X
    have e1 : F_X8_cut I L (Int32.ofNat r) (Int32.ofNat m) (Int32.ofNat q) (Int32.ofNat n) = (F_J13_bitCount_95d88 X, F_X8_forgetPlans (u2 (u2 I 1 1 (Int32.ofNat m)) 1 2 (Int32.ofNat n)), u2 L 1 3 X) := by
      unfold F_X8_cut
      rw [c1, c2, isPart_eq b2, isPart_eq b4, hr, hm, hq, hn, if_pos c.1, if_neg (by decide), if_pos c.2, if_neg (by decide), pos_rc, ← hX]
      rfl
    have e2 : F_X9_cut (F_X8_forgetPlans (u2 (u2 I 1 1 (Int32.ofNat m)) 1 2 (Int32.ofNat n))) (u2 L 1 3 X) (Int32.ofNat r) (Int32.ofNat m) (Int32.ofNat q) (Int32.ofNat n) = (F_X9_many X, F_X9_endsPattern (u2 (u2 (F_X8_forgetPlans (u2 (u2 I 1 1 (Int32.ofNat m)) 1 2 (Int32.ofNat n))) 33 0 (Int32.ofNat m)) 33 1 (Int32.ofNat n)), u2 (u2 L 1 3 X) 33 2 X) := by
      generalize hJ : F_X8_forgetPlans (u2 (u2 I 1 1 (Int32.ofNat m)) 1 2 (Int32.ofNat n)) = J
      have j0 : J 33 0 = Int32.ofNat h := by rw [← hJ]; exact c3
      have j1 : J 33 1 = Int32.ofNat w := by rw [← hJ]; exact c4
      have hset := cut_set (x := L 1 3) hC (show r + m ≤ h by omega) (by omega) (show q + n ≤ w by omega) (by omega) (I := J) (L := u2 L 1 3 X) c5
      rw [hX] at hset
      have e4 : F_X9_cut_73 J (u2 L 1 3 X) (Int32.ofNat r) (Int32.ofNat m) (Int32.ofNat q) (Int32.ofNat n) 0 0 = F_X9_cut_136 J (u2 L 1 3 X) (Int32.ofNat r) (Int32.ofNat m) (Int32.ofNat q) (Int32.ofNat n) X := by
        show F_X9_cut_136 J (u2 L 1 3 X) (Int32.ofNat r) (Int32.ofNat m) (Int32.ofNat q) (Int32.ofNat n) (p2 (fr0 (fun i x => F_X9_cut_79_1 J (u2 L 1 3 X) (Int32.ofNat r) (Int32.ofNat m) (Int32.ofNat q) (Int32.ofNat n) i x) (Int32.ofNat m) (fu 0 (Int32.ofNat m)) 0 0)) = _
        rw [fr0_it (by omega), hset]
      have s1 : (Int32.toInt64 (Int32.ofNat h - Int32.ofNat r)).toInt = (h : Int) - r := by
        rw [ti64, ti_sub] <;> rw [on_toInt (by omega), on_toInt (by omega)] <;> omega
      have s2 : (Int32.toInt64 (Int32.ofNat w - Int32.ofNat q)).toInt = (w : Int) - q := by
        rw [ti64, ti_sub] <;> rw [on_toInt (by omega), on_toInt (by omega)] <;> omega
      unfold F_X9_cut
      rw [j0, j1, in_eq, in_eq, in_eq, in_eq, s1, s2, ti64, ti64, on_m1 (by omega), on_m1 (by omega), i0, i1, hr, hm, hq, hn, if_pos (show (0 : Int) ≤ (r : Int) ∧ (r : Int) ≤ (h : Int) - 1 by omega), if_neg (show ¬ (1 : Int32) = 0 by decide), if_pos (show (1 : Int) ≤ (m : Int) ∧ (m : Int) ≤ (h : Int) - r by omega), if_neg (show ¬ (1 : Int32) = 0 by decide), if_pos (show (0 : Int) ≤ (q : Int) ∧ (q : Int) ≤ (w : Int) - 1 by omega), if_neg (show ¬ (1 : Int32) = 0 by decide), if_pos (show (1 : Int) ≤ (n : Int) ∧ (n : Int) ≤ (w : Int) - q by omega), if_neg (show ¬ (1 : Int32) = 0 by decide), e4]
      rfl
    rw [e1]
    show _ = p1 (F_X9_cut (F_X8_forgetPlans (u2 (u2 I 1 1 (Int32.ofNat m)) 1 2 (Int32.ofNat n))) (u2 L 1 3 X) (Int32.ofNat r) (Int32.ofNat m) (Int32.ofNat q) (Int32.ofNat n)) ∧ Inv (p1 (p2 (F_X9_cut (F_X8_forgetPlans (u2 (u2 I 1 1 (Int32.ofNat m)) 1 2 (Int32.ofNat n))) (u2 L 1 3 X) (Int32.ofNat r) (Int32.ofNat m) (Int32.ofNat q) (Int32.ofNat n)))) (p2 (p2 (F_X9_cut (F_X8_forgetPlans (u2 (u2 I 1 1 (Int32.ofNat m)) 1 2 (Int32.ofNat n))) (u2 L 1 3 X) (Int32.ofNat r) (Int32.ofNat m) (Int32.ofNat q) (Int32.ofNat n))))
    rw [e2]
    refine ⟨(many_bits X).symm, ?_⟩
    obtain ⟨g1, g2, g3, g4, g5⟩ := q1
    have hC3 : Cl m n := ⟨⟨by omega, by omega⟩, by omega, by omega⟩
    exact ⟨⟨m, n, ⟨hC3, rfl, rfl, rfl, rfl, rfl, hX ▸ cut_ins hC3, c7⟩, ⟨g1, g2, g3, g4, g5.1, fun q => absurd (show bz 0 = 1 from q) bz0_ne⟩, rfl, fun q => absurd (show bz 0 = 1 from q) bz0_ne⟩, k0, k1, ⟨0, by decide, rfl, rfl, fun d hd => absurd hd (by omega)⟩, h4, four h5 id id id id, h6⟩
  · have e1 : F_X8_cut I L a1 a2 a3 a4 = (-1, I, L) := by
      unfold F_X8_cut F_X8_cut_31
      rw [c1, c2, isPart_eq b2, isPart_eq b4]
      by_cases d : (0 ≤ a1.toInt ∧ a1.toInt < (h : Int)) ∧ 1 ≤ a2.toInt ∧ a2.toInt ≤ (h : Int) - a1.toInt
      · rw [if_pos d, if_neg (by decide), if_neg fun e => c ⟨d, e⟩, if_pos rfl]
      · rw [if_neg d, if_pos rfl]
    have e2 : F_X9_cut I L a1 a2 a3 a4 = (-1, I, L) := by
      unfold F_X9_cut F_X9_cut_65
      rw [c3, c4, in_eq, in_eq, in_eq, in_eq]
      by_cases d1 : 0 ≤ a1.toInt ∧ a1.toInt < (h : Int)
      · have s1 : (Int32.toInt64 (Int32.ofNat h - a1)).toInt = (h : Int) - a1.toInt := by
          rw [ti64, ti_sub] <;> rw [on_toInt (by omega)] <;> omega
        rw [s1, ti64, on_m1 (by omega), i0, i1, if_pos (show 0 ≤ a1.toInt ∧ a1.toInt ≤ (h : Int) - 1 by omega), if_neg (show ¬ (1 : Int32) = 0 by decide)]
        by_cases d2 : 1 ≤ a2.toInt ∧ a2.toInt ≤ (h : Int) - a1.toInt
        · rw [if_pos d2, if_neg (show ¬ (1 : Int32) = 0 by decide)]
          by_cases d3 : 0 ≤ a3.toInt ∧ a3.toInt < (w : Int)
          · have s2 : (Int32.toInt64 (Int32.ofNat w - a3)).toInt = (w : Int) - a3.toInt := by
              rw [ti64, ti_sub] <;> rw [on_toInt (by omega)] <;> omega
            rw [s2, ti64, on_m1 (by omega), if_pos (show 0 ≤ a3.toInt ∧ a3.toInt ≤ (w : Int) - 1 by omega), if_neg (show ¬ (1 : Int32) = 0 by decide), if_neg (show ¬ (1 ≤ a4.toInt ∧ a4.toInt ≤ (w : Int) - a3.toInt) from fun e => c ⟨⟨d1, d2⟩, d3, e⟩), if_pos rfl]
          · rw [ti64, on_m1 (by omega), if_neg (show ¬ (0 ≤ a3.toInt ∧ a3.toInt ≤ (w : Int) - 1) by omega), if_pos rfl]
        · rw [if_neg d2, if_pos rfl]
      · rw [ti64, on_m1 (by omega), i0, if_neg (show ¬ (0 ≤ a1.toInt ∧ a1.toInt ≤ (h : Int) - 1) by omega), if_pos rfl]
    rw [e1]
    show _ = p1 (F_X9_cut I L a1 a2 a3 a4) ∧ Inv (p1 (p2 (F_X9_cut I L a1 a2 a3 a4))) (p2 (p2 (F_X9_cut I L a1 a2 a3 a4)))
    rw [e2]
    exact ⟨rfl, H'⟩
/-! turned -/
theorem lsh_0 (y : Int32) : lsh 0 y = 0 := by
  apply Int64.toBitVec.inj
  show (0#64) <<< _ = 0#64
  exact BitVec.zero_shiftLeft _
theorem or_0 (x : Int64) : x ||| 0 = x := M_ext fun k _ => by
  rw [M_or]
  exact ⟨fun h => h.resolve_right M_0, .inl⟩
theorem sq_sh {x : Int64} {i : Nat} {p : Int32} : lsh (Int32.toInt64 (if mb x i then 1 else 0)) p = if (if mb x i then (1 : Int32) else 0) = 1 then lsh 1 p else 0 := by
  cases mb x i
  · show lsh 0 p = _
    rw [lsh_0]
    rfl
  · rfl
theorem sub_add {a b c : Int32} : a + b - 1 - c = a + (b - 1 - c) := by
  simp only [Int32.sub_eq_add_neg, Int32.add_assoc]
theorem it2_congr {f f' : Int32 → Int64 → Int64} {g g' : Nat → Int32 → Int64 → Int64} {h w : Nat} {x : Int64} (hf : ∀ r x, r < h → f (Int32.ofNat r) x = it (g r) w x) (hf' : ∀ r x, r < h → f' (Int32.ofNat r) x = it (g' r) w x) (hg : ∀ r c x, r < h → c < w → g r (Int32.ofNat c) x = g' r (Int32.ofNat c) x) : it f h x = it f' h x :=
  it_congr fun r x hr => by rw [hf r x hr, hf' r x hr]; exact it_congr fun c x hc => hg r c x hr hc
theorem mirror_eq {I : WI} {L : WL} {o h w : Nat} (hC : Cl h w) (e1 : I o 1 = Int32.ofNat h) (e2 : I o 2 = Int32.ofNat w) : F_X0_mirror I L o = u2 L o 3 (F_X9_mirrored (L o 3) (Int32.ofNat h) (Int32.ofNat w)) := by
  obtain ⟨⟨h1, h2⟩, h3, h4⟩ := hC
  show u2 L o 3 (p2 (fr0 (fun i x => F_X0_mirror_12_1 I L o i x) (I o 1) (fu 0 (I o 1)) 0 0)) = u2 L o 3 (p2 (fr0 (fun i x => F_X9_mirrored_12_1 (L o 3) (Int32.ofNat h) (Int32.ofNat w) i x) (Int32.ofNat h) (fu 0 (Int32.ofNat h)) 0 0))
  rw [e1, fr0_it (by omega), fr0_it (by omega)]
  congr 1
  refine it2_congr (g := fun r i x => F_X0_mirror_24_2 I L o (Int32.ofNat r) i x) (g' := fun r i x => F_X9_mirrored_21_2 (L o 3) (Int32.ofNat h) (Int32.ofNat w) (Int32.ofNat r) i x) (w := w) (fun r x hr => ?_) (fun r x hr => fr0_it (by omega)) (fun r c x hr hc => ?_)
  · show p2 (fr0 (fun i x => F_X0_mirror_24_2 I L o (Int32.ofNat r) i x) (I o 2) (fu 0 (I o 2)) 0 x) = _
    rw [e2, fr0_it (by omega)]
  · show F_X0_mirror_24_2 I L o (Int32.ofNat r) (Int32.ofNat c) x = F_X9_mirrored_21_2 (L o 3) (Int32.ofNat h) (Int32.ofNat w) (Int32.ofNat r) (Int32.ofNat c) x
    unfold F_X0_mirror_24_2 F_X9_mirrored_21_2 F_X9_mirrored_50_2 F_X9_bitOf
    rw [squareAt_eq (by omega), isDark_eq (by omega), sq_sh, e2, sub_add]
    split <;> rfl
theorem quarter_eq {I : WI} {L : WL} {o h w : Nat} (hC : Cl h w) (e1 : I o 1 = Int32.ofNat h) (e2 : I o 2 = Int32.ofNat w) : F_X0_quarterRight I L o = (u2 (u2 I o 1 (Int32.ofNat w)) o 2 (Int32.ofNat h), u2 L o 3 (F_X9_quarter (L o 3) (Int32.ofNat h) (Int32.ofNat w))) := by
  obtain ⟨⟨h1, h2⟩, h3, h4⟩ := hC
  show (u2 (u2 I o 1 (I o 2)) o 2 (I o 1), u2 L o 3 (p2 (fr0 (fun i x => F_X0_quarterRight_12_1 I L o i x) (I o 1) (fu 0 (I o 1)) 0 0))) = (_, u2 L o 3 (p2 (fr0 (fun i x => F_X9_quarter_12_1 (L o 3) (Int32.ofNat h) (Int32.ofNat w) i x) (Int32.ofNat h) (fu 0 (Int32.ofNat h)) 0 0)))
  rw [e1, e2, fr0_it (by omega), fr0_it (by omega)]
  congr 2
  refine it2_congr (g := fun r i x => F_X0_quarterRight_24_2 I L o (Int32.ofNat r) i x) (g' := fun r i x => F_X9_quarter_21_2 (L o 3) (Int32.ofNat h) (Int32.ofNat w) (Int32.ofNat r) i x) (w := w) (fun r x hr => ?_) (fun r x hr => fr0_it (by omega)) (fun r c x hr hc => ?_)
  · show p2 (fr0 (fun i x => F_X0_quarterRight_24_2 I L o (Int32.ofNat r) i x) (I o 2) (fu 0 (I o 2)) 0 x) = _
    rw [e2, fr0_it (by omega)]
  · show F_X0_quarterRight_24_2 I L o (Int32.ofNat r) (Int32.ofNat c) x = F_X9_quarter_21_2 (L o 3) (Int32.ofNat h) (Int32.ofNat w) (Int32.ofNat r) (Int32.ofNat c) x
    unfold F_X0_quarterRight_24_2 F_X9_quarter_21_2 F_X9_quarter_50_2 F_X9_bitOf
    rw [squareAt_eq (by omega), isDark_eq (by omega), sq_sh, e1, sub_add]
    split <;> rfl
theorem it2_ins {f : Int32 → Int64 → Int64} {g : Nat → Int32 → Int64 → Int64} {h w a b : Nat} {x : Int64} (hx : Ins a b x) (hf : ∀ r x, r < h → f (Int32.ofNat r) x = it (g r) w x) (hg : ∀ r c x, r < h → c < w → Ins a b x → Ins a b (g r (Int32.ofNat c) x)) : Ins a b (it f h x) :=
  it_ind (P := fun _ x => Ins a b x) hx fun r x hr hx => by
    rw [hf r x hr]
    exact it_ind (P := fun _ x => Ins a b x) hx fun c x hc hx => hg r c x hr hc hx
theorem bit_ins {a b r c : Nat} (ha : a ≤ 8) (hb : b ≤ 8) (hr : r < a) (hc : c < b) : Ins a b (F_X9_bitOf (Int32.ofNat r) (Int32.ofNat c)) := fun k hk => by
  rw [bitOf_M (by omega)] at hk
  omega
theorem zero_ins {a b : Nat} : Ins a b 0 := fun k hk => absurd hk M_0
theorem on_sub {a b : Nat} (h : b ≤ a) : Int32.ofNat a - Int32.ofNat b = Int32.ofNat (a - b) := by
  have e : Int32.ofNat a = Int32.ofNat (a - b) + Int32.ofNat b := by rw [oadd, Nat.sub_add_cancel h]
  rw [e]
  simp
theorem mirrored_ins {h w : Nat} (hC : Cl h w) {x : Int64} : Ins h w (F_X9_mirrored x (Int32.ofNat h) (Int32.ofNat w)) := by
  obtain ⟨⟨h1, h2⟩, h3, h4⟩ := hC
  show Ins h w (p2 (fr0 (fun i y => F_X9_mirrored_12_1 x (Int32.ofNat h) (Int32.ofNat w) i y) (Int32.ofNat h) (fu 0 (Int32.ofNat h)) 0 0))
  rw [fr0_it (by omega)]
  refine it2_ins (g := fun r i y => F_X9_mirrored_21_2 x (Int32.ofNat h) (Int32.ofNat w) (Int32.ofNat r) i y) (w := w) zero_ins (fun r y hr => fr0_it (by omega)) (fun r c y hr hc hy => ?_)
  show Ins h w (F_X9_mirrored_21_2 x (Int32.ofNat h) (Int32.ofNat w) (Int32.ofNat r) (Int32.ofNat c) y)
  unfold F_X9_mirrored_21_2 F_X9_mirrored_50_2
  rw [show Int32.ofNat w - 1 - Int32.ofNat c = Int32.ofNat (w - 1 - c) by rw [← on_sub (a := w - 1) (by omega), ← on_sub (a := w) (b := 1) h3]; rfl]
  split
  · exact hy.or (bit_ins h2 h4 hr (by omega))
  · exact hy.or zero_ins
theorem quarter_ins {h w : Nat} (hC : Cl h w) {x : Int64} : Ins w h (F_X9_quarter x (Int32.ofNat h) (Int32.ofNat w)) := by
  obtain ⟨⟨h1, h2⟩, h3, h4⟩ := hC
  show Ins w h (p2 (fr0 (fun i y => F_X9_quarter_12_1 x (Int32.ofNat h) (Int32.ofNat w) i y) (Int32.ofNat h) (fu 0 (Int32.ofNat h)) 0 0))
  rw [fr0_it (by omega)]
  refine it2_ins (g := fun r i y => F_X9_quarter_21_2 x (Int32.ofNat h) (Int32.ofNat w) (Int32.ofNat r) i y) (w := w) zero_ins (fun r y hr => fr0_it (by omega)) (fun r c y hr hc hy => ?_)
  show Ins w h (F_X9_quarter_21_2 x (Int32.ofNat h) (Int32.ofNat w) (Int32.ofNat r) (Int32.ofNat c) y)
  unfold F_X9_quarter_21_2 F_X9_quarter_50_2
  rw [show Int32.ofNat h - 1 - Int32.ofNat r = Int32.ofNat (h - 1 - r) by rw [← on_sub (a := h - 1) (by omega), ← on_sub (a := h) (b := 1) h1]; rfl]
  split
  · exact hy.or (bit_ins h4 h2 hc (by omega))
  · exact hy.or zero_ins
/-- quarters, one behind another -/
def qs (h w : Nat) : Nat → Int64 → Int64
  | 0, x => x
  | n + 1, x => if n % 2 = 0 then F_X9_quarter (qs h w n x) (Int32.ofNat h) (Int32.ofNat w) else F_X9_quarter (qs h w n x) (Int32.ofNat w) (Int32.ofNat h)
def od (n a b : Nat) : Nat := if n % 2 = 0 then a else b
theorem cl_od {h w n : Nat} (hC : Cl h w) : Cl (od n h w) (od n w h) := by
  unfold od
  by_cases c : n % 2 = 0
  · rw [if_pos c, if_pos c]
    exact hC
  · rw [if_neg c, if_neg c]
    exact ⟨hC.2, hC.1⟩
theorem qs_ins {h w : Nat} (hC : Cl h w) {x : Int64} (hx : Ins h w x) : ∀ n, Ins (od n h w) (od n w h) (qs h w n x) := by
  intro n
  induction n with
  | zero => exact hx
  | succ n ih =>
    unfold qs od
    unfold od at ih
    by_cases c : n % 2 = 0
    · rw [if_pos c, if_neg (by omega), if_neg (by omega)]
      exact quarter_ins hC
    · rw [if_neg c, if_pos (by omega), if_pos (by omega)]
      exact quarter_ins ⟨hC.2, hC.1⟩
theorem par4 : ∀ i, i < 4 → ((Int32.ofNat i - Int32.ofNat i / 2 * 2) = 0 ↔ i % 2 = 0) := by decide
theorem rotated_eq {h w t : Nat} (ht : t < 8) {x : Int64} : F_X9_rotated x (Int32.ofNat h) (Int32.ofNat w) (Int32.ofNat t) = qs h w (t % 4) (if t < 4 then x else F_X9_mirrored x (Int32.ofNat h) (Int32.ofNat w)) := by
  have key : ∀ y, F_X9_rotated_16 x (Int32.ofNat h) (Int32.ofNat w) (Int32.ofNat t) y = qs h w (t % 4) y := by
    intro y
    have e : ∀ t, t < 8 → Int32.ofNat t - Int32.ofNat t / 4 * 4 = Int32.ofNat (t % 4) := by decide
    show p2 (fr0 (fun i z => F_X9_rotated_30_1 x (Int32.ofNat h) (Int32.ofNat w) (Int32.ofNat t) i z) (Int32.ofNat t - Int32.ofNat t / 4 * 4) (fu 0 (Int32.ofNat t - Int32.ofNat t / 4 * 4)) 0 y) = _
    rw [e t ht, fr0_it (by omega)]
    refine it_ind (P := fun i z => z = qs h w i y) rfl fun i z hi hz => ?_
    show F_X9_rotated_30_1 x (Int32.ofNat h) (Int32.ofNat w) (Int32.ofNat t) (Int32.ofNat i) z = _
    unfold F_X9_rotated_30_1 F_X9_rotated_54_1 qs
    rw [hz]
    by_cases c : i % 2 = 0
    · rw [if_pos ((par4 i (by omega)).mpr c), if_pos c]
    · rw [if_neg fun q => c ((par4 i (by omega)).mp q), if_neg c]
  unfold F_X9_rotated
  by_cases c : t < 4
  · rw [if_pos (by first | omega | (simp (disch := omega) only [Int32.lt_iff_toInt_lt, Int32.le_iff_toInt_le, ← Int32.toInt_inj, on_toInt, on_clamp, ti64, z0, z1, z2, zm1, i0, i1, im1, zz3, zz4, zz5, zz6, zz7, zz8, zz9, zz10, zz11, zz12, zz13, zz14, zz15, zz16, zz17, zz18, zz19, zz20, zz21, zz22, zz23, zz24, zz25, zz26, zz27, zz28, zz29, zz30, zz31, zz32, zz33, zz34, zz35, zz36, zz37, zz38, zz39, zz40, zz41, zz48, zz60, zz64, zz160, zz312, zz320, zzm2, zzm3, zzm4, zzm5, zzm6, zzm7, zzm8, zzm9, zzm10]; done) | (simp (disch := omega) only [Int32.lt_iff_toInt_lt, Int32.le_iff_toInt_le, ← Int32.toInt_inj, on_toInt, on_clamp, ti64, z0, z1, z2, zm1, i0, i1, im1, zz3, zz4, zz5, zz6, zz7, zz8, zz9, zz10, zz11, zz12, zz13, zz14, zz15, zz16, zz17, zz18, zz19, zz20, zz21, zz22, zz23, zz24, zz25, zz26, zz27, zz28, zz29, zz30, zz31, zz32, zz33, zz34, zz35, zz36, zz37, zz38, zz39, zz40, zz41, zz48, zz60, zz64, zz160, zz312, zz320, zzm2, zzm3, zzm4, zzm5, zzm6, zzm7, zzm8, zzm9, zzm10]; omega)), key, if_pos c]
  · rw [if_neg (by first | omega | (simp (disch := omega) only [Int32.lt_iff_toInt_lt, Int32.le_iff_toInt_le, ← Int32.toInt_inj, on_toInt, on_clamp, ti64, z0, z1, z2, zm1, i0, i1, im1, zz3, zz4, zz5, zz6, zz7, zz8, zz9, zz10, zz11, zz12, zz13, zz14, zz15, zz16, zz17, zz18, zz19, zz20, zz21, zz22, zz23, zz24, zz25, zz26, zz27, zz28, zz29, zz30, zz31, zz32, zz33, zz34, zz35, zz36, zz37, zz38, zz39, zz40, zz41, zz48, zz60, zz64, zz160, zz312, zz320, zzm2, zzm3, zzm4, zzm5, zzm6, zzm7, zzm8, zzm9, zzm10]; done) | (simp (disch := omega) only [Int32.lt_iff_toInt_lt, Int32.le_iff_toInt_le, ← Int32.toInt_inj, on_toInt, on_clamp, ti64, z0, z1, z2, zm1, i0, i1, im1, zz3, zz4, zz5, zz6, zz7, zz8, zz9, zz10, zz11, zz12, zz13, zz14, zz15, zz16, zz17, zz18, zz19, zz20, zz21, zz22, zz23, zz24, zz25, zz26, zz27, zz28, zz29, zz30, zz31, zz32, zz33, zz34, zz35, zz36, zz37, zz38, zz39, zz40, zz41, zz48, zz60, zz64, zz160, zz312, zz320, zzm2, zzm3, zzm4, zzm5, zzm6, zzm7, zzm8, zzm9, zzm10]; omega)), key, if_neg c]
theorem rotateBy_eq {I : WI} {L : WL} {o h w t : Nat} (hC : Cl h w) (e1 : I o 1 = Int32.ofNat h) (e2 : I o 2 = Int32.ofNat w) (ht : t < 8) : ∃ I' L', F_X0_rotateBy I L o (Int32.ofNat t) = (I', L') ∧ (∀ k j, ¬ (k = o ∧ (j = 1 ∨ j = 2)) → I' k j = I k j) ∧ I' o 1 = Int32.ofNat (od t h w) ∧ I' o 2 = Int32.ofNat (od t w h) ∧ (∀ k j, ¬ (k = o ∧ j = 3) → L' k j = L k j) ∧ L' o 3 = F_X9_rotated (L o 3) (Int32.ofNat h) (Int32.ofNat w) (Int32.ofNat t) := by
  have key : ∀ L : WL, ∃ I' L', F_X0_rotateBy_9 I L o (Int32.ofNat t) = (I', L') ∧ (∀ k j, ¬ (k = o ∧ (j = 1 ∨ j = 2)) → I' k j = I k j) ∧ I' o 1 = Int32.ofNat (od t h w) ∧ I' o 2 = Int32.ofNat (od t w h) ∧ (∀ k j, ¬ (k = o ∧ j = 3) → L' k j = L k j) ∧ L' o 3 = qs h w (t % 4) (L o 3) := by
    intro L
    have e : ∀ t, t < 8 → Int32.ofNat t &&& 3 = Int32.ofNat (t % 4) := by decide
    have hI := it_ind (g := fun i x => F_X0_rotateBy_18_1 (p1 x) (p2 x) o (Int32.ofNat t) i) (s := (I, L)) (b := t % 4) (fun i (x : WI × WL) => (∀ k j, ¬ (k = o ∧ (j = 1 ∨ j = 2)) → p1 x k j = I k j) ∧ p1 x o 1 = Int32.ofNat (od i h w) ∧ p1 x o 2 = Int32.ofNat (od i w h) ∧ (∀ k j, ¬ (k = o ∧ j = 3) → p2 x k j = L k j) ∧ p2 x o 3 = qs h w i (L o 3)) ⟨fun _ _ _ => rfl, e1, e2, fun _ _ _ => rfl, rfl⟩ (fun i x hi hx => by
      obtain ⟨x1, x2, x3, x4, x5⟩ := hx
      have hq := quarter_eq (I := p1 x) (L := p2 x) (o := o) (cl_od (n := i) hC) x2 x3
      show (∀ k j, _ → p1 (F_X0_rotateBy_18_1 (p1 x) (p2 x) o (Int32.ofNat t) (Int32.ofNat i)) k j = I k j) ∧ p1 (F_X0_rotateBy_18_1 (p1 x) (p2 x) o (Int32.ofNat t) (Int32.ofNat i)) o 1 = _ ∧ p1 (F_X0_rotateBy_18_1 (p1 x) (p2 x) o (Int32.ofNat t) (Int32.ofNat i)) o 2 = _ ∧ (∀ k j, _ → p2 (F_X0_rotateBy_18_1 (p1 x) (p2 x) o (Int32.ofNat t) (Int32.ofNat i)) k j = L k j) ∧ p2 (F_X0_rotateBy_18_1 (p1 x) (p2 x) o (Int32.ofNat t) (Int32.ofNat i)) o 3 = _
      unfold F_X0_rotateBy_18_1
      rw [hq]
      refine ⟨fun k j q => ?_, ?_, ?_, fun k j q => ?_, ?_⟩
      · show u2 (u2 (p1 x) o 1 _) o 2 _ k j = _
        rw [u2_nc (by omega), u2_nc (by omega)]
        exact x1 k j q
      · show u2 (u2 (p1 x) o 1 (Int32.ofNat (od i w h))) o 2 _ o 1 = _
        rw [u2_nc (by omega), u2_at]
        unfold od
        by_cases c : i % 2 = 0
        · rw [if_pos c, if_neg (by omega)]
        · rw [if_neg c, if_pos (by omega)]
      · show u2 (u2 (p1 x) o 1 _) o 2 (Int32.ofNat (od i h w)) o 2 = _
        rw [u2_at]
        unfold od
        by_cases c : i % 2 = 0
        · rw [if_pos c, if_neg (by omega)]
        · rw [if_neg c, if_pos (by omega)]
      · show u2 (p2 x) o 3 _ k j = _
        rw [u2_nc (by omega)]
        exact x4 k j q
      · show u2 (p2 x) o 3 (F_X9_quarter (p2 x o 3) (Int32.ofNat (od i h w)) (Int32.ofNat (od i w h))) o 3 = _
        rw [u2_at, x5]
        show _ = if i % 2 = 0 then F_X9_quarter (qs h w i (L o 3)) (Int32.ofNat h) (Int32.ofNat w) else F_X9_quarter (qs h w i (L o 3)) (Int32.ofNat w) (Int32.ofNat h)
        unfold od
        by_cases c : i % 2 = 0
        · rw [if_pos c, if_pos c, if_pos c]
        · rw [if_neg c, if_neg c, if_neg c])
    refine ⟨_, _, ?_, hI.1, ?_, ?_, hI.2.2.2.1, hI.2.2.2.2⟩
    · show (p1 (p2 (fr0 (fun i x => F_X0_rotateBy_18_1 (p1 x) (p2 x) o (Int32.ofNat t) i) (Int32.ofNat t &&& 3) (fu 0 (Int32.ofNat t &&& 3)) 0 (I, L))), p2 (p2 (fr0 (fun i x => F_X0_rotateBy_18_1 (p1 x) (p2 x) o (Int32.ofNat t) i) (Int32.ofNat t &&& 3) (fu 0 (Int32.ofNat t &&& 3)) 0 (I, L)))) = _
      rw [e t ht, fr0_it (by omega)]
    · rw [hI.2.1]
      unfold od
      rw [show t % 4 % 2 = t % 2 by omega]
    · rw [hI.2.2.1]
      unfold od
      rw [show t % 4 % 2 = t % 2 by omega]
  rw [rotated_eq ht]
  unfold F_X0_rotateBy
  by_cases c : t < 4
  · rw [if_pos (by first | omega | (simp (disch := omega) only [Int32.lt_iff_toInt_lt, Int32.le_iff_toInt_le, ← Int32.toInt_inj, on_toInt, on_clamp, ti64, z0, z1, z2, zm1, i0, i1, im1, zz3, zz4, zz5, zz6, zz7, zz8, zz9, zz10, zz11, zz12, zz13, zz14, zz15, zz16, zz17, zz18, zz19, zz20, zz21, zz22, zz23, zz24, zz25, zz26, zz27, zz28, zz29, zz30, zz31, zz32, zz33, zz34, zz35, zz36, zz37, zz38, zz39, zz40, zz41, zz48, zz60, zz64, zz160, zz312, zz320, zzm2, zzm3, zzm4, zzm5, zzm6, zzm7, zzm8, zzm9, zzm10]; done) | (simp (disch := omega) only [Int32.lt_iff_toInt_lt, Int32.le_iff_toInt_le, ← Int32.toInt_inj, on_toInt, on_clamp, ti64, z0, z1, z2, zm1, i0, i1, im1, zz3, zz4, zz5, zz6, zz7, zz8, zz9, zz10, zz11, zz12, zz13, zz14, zz15, zz16, zz17, zz18, zz19, zz20, zz21, zz22, zz23, zz24, zz25, zz26, zz27, zz28, zz29, zz30, zz31, zz32, zz33, zz34, zz35, zz36, zz37, zz38, zz39, zz40, zz41, zz48, zz60, zz64, zz160, zz312, zz320, zzm2, zzm3, zzm4, zzm5, zzm6, zzm7, zzm8, zzm9, zzm10]; omega)), if_pos c]
    exact key L
  · rw [if_neg (by first | omega | (simp (disch := omega) only [Int32.lt_iff_toInt_lt, Int32.le_iff_toInt_le, ← Int32.toInt_inj, on_toInt, on_clamp, ti64, z0, z1, z2, zm1, i0, i1, im1, zz3, zz4, zz5, zz6, zz7, zz8, zz9, zz10, zz11, zz12, zz13, zz14, zz15, zz16, zz17, zz18, zz19, zz20, zz21, zz22, zz23, zz24, zz25, zz26, zz27, zz28, zz29, zz30, zz31, zz32, zz33, zz34, zz35, zz36, zz37, zz38, zz39, zz40, zz41, zz48, zz60, zz64, zz160, zz312, zz320, zzm2, zzm3, zzm4, zzm5, zzm6, zzm7, zzm8, zzm9, zzm10]; done) | (simp (disch := omega) only [Int32.lt_iff_toInt_lt, Int32.le_iff_toInt_le, ← Int32.toInt_inj, on_toInt, on_clamp, ti64, z0, z1, z2, zm1, i0, i1, im1, zz3, zz4, zz5, zz6, zz7, zz8, zz9, zz10, zz11, zz12, zz13, zz14, zz15, zz16, zz17, zz18, zz19, zz20, zz21, zz22, zz23, zz24, zz25, zz26, zz27, zz28, zz29, zz30, zz31, zz32, zz33, zz34, zz35, zz36, zz37, zz38, zz39, zz40, zz41, zz48, zz60, zz64, zz160, zz312, zz320, zzm2, zzm3, zzm4, zzm5, zzm6, zzm7, zzm8, zzm9, zzm10]; omega)), if_neg c, mirror_eq hC e1 e2]
    obtain ⟨I', L', k1, k2, k3, k4, k5, k6⟩ := key (u2 L o 3 (F_X9_mirrored (L o 3) (Int32.ofNat h) (Int32.ofNat w)))
    refine ⟨I', L', k1, k2, k3, k4, fun k j q => ?_, ?_⟩
    · rw [k5 k j q, u2_nc (by omega)]
    · rw [k6, u2_at]
theorem rotated_ins {h w t : Nat} (hC : Cl h w) (ht : t < 8) {x : Int64} (hx : Ins h w x) : Ins (od t h w) (od t w h) (F_X9_rotated x (Int32.ofNat h) (Int32.ofNat w) (Int32.ofNat t)) := by
  rw [rotated_eq ht]
  have e : ∀ a b, od t a b = od (t % 4) a b := by
    intro a b
    unfold od
    rw [show t % 4 % 2 = t % 2 by omega]
  rw [e, e]
  refine qs_ins hC ?_ (t % 4)
  by_cases c : t < 4
  · rw [if_pos c]
    exact hx
  · rw [if_neg c]
    exact mirrored_ins hC
theorem E_26 {I : WI} {L : WL} {a1 : Int32} (H : Inv I L) : (p1 (F_X8_rotate I L a1)) = (p1 (F_X9_rotate (p1 (p2 (F_X8_rotate I L a1))) (p2 (p2 (F_X8_rotate I L a1))) a1)) ∧ Inv (p1 (p2 (F_X9_rotate (p1 (p2 (F_X8_rotate I L a1))) (p2 (p2 (F_X8_rotate I L a1))) a1))) (p2 (p2 (F_X9_rotate (p1 (p2 (F_X8_rotate I L a1))) (p2 (p2 (F_X8_rotate I L a1))) a1))) := by
  have H' := H
  obtain ⟨⟨h, w, ⟨hC, c1, c2, c3, c4, c5, c6, c7⟩, ⟨⟨hp, wp, g1, g2, g3, g4⟩, q2, q3⟩⟩, k0, k1, h3, h4, h5, h6⟩ := H
  by_cases c : 0 ≤ a1.toInt ∧ a1.toInt ≤ 7
  · obtain ⟨t, rfl, ht, -⟩ := nn c.1
    rw [ht] at c
    have ht8 : t < 8 := by omega
    obtain ⟨I1, L1, r1, r2, r3, r4, r5, r6⟩ := rotateBy_eq (L := L) (t := t) hC c1 c2 ht8
    obtain ⟨I2, L2, s1, s2, s3, s4, s5, s6⟩ := rotateBy_eq (I := I1) (L := L1) (o := 2) (t := t) g1 ((r2 2 1 (by omega)).trans g2) ((r2 2 2 (by omega)).trans g3) ht8
    have e1 : F_X8_rotate I L (Int32.ofNat t) = (Int32.ofNat (od t h w), u2 I2 6 0 0, L2) := by
      unfold F_X8_rotate F_X1_clear
      rw [if_neg (by first | omega | (simp (disch := omega) only [Int32.lt_iff_toInt_lt, Int32.le_iff_toInt_le, ← Int32.toInt_inj, on_toInt, on_clamp, ti64, z0, z1, z2, zm1, i0, i1, im1, zz3, zz4, zz5, zz6, zz7, zz8, zz9, zz10, zz11, zz12, zz13, zz14, zz15, zz16, zz17, zz18, zz19, zz20, zz21, zz22, zz23, zz24, zz25, zz26, zz27, zz28, zz29, zz30, zz31, zz32, zz33, zz34, zz35, zz36, zz37, zz38, zz39, zz40, zz41, zz48, zz60, zz64, zz160, zz312, zz320, zzm2, zzm3, zzm4, zzm5, zzm6, zzm7, zzm8, zzm9, zzm10]; done) | (simp (disch := omega) only [Int32.lt_iff_toInt_lt, Int32.le_iff_toInt_le, ← Int32.toInt_inj, on_toInt, on_clamp, ti64, z0, z1, z2, zm1, i0, i1, im1, zz3, zz4, zz5, zz6, zz7, zz8, zz9, zz10, zz11, zz12, zz13, zz14, zz15, zz16, zz17, zz18, zz19, zz20, zz21, zz22, zz23, zz24, zz25, zz26, zz27, zz28, zz29, zz30, zz31, zz32, zz33, zz34, zz35, zz36, zz37, zz38, zz39, zz40, zz41, zz48, zz60, zz64, zz160, zz312, zz320, zzm2, zzm3, zzm4, zzm5, zzm6, zzm7, zzm8, zzm9, zzm10]; omega)), if_pos (by first | omega | (simp (disch := omega) only [Int32.lt_iff_toInt_lt, Int32.le_iff_toInt_le, ← Int32.toInt_inj, on_toInt, on_clamp, ti64, z0, z1, z2, zm1, i0, i1, im1, zz3, zz4, zz5, zz6, zz7, zz8, zz9, zz10, zz11, zz12, zz13, zz14, zz15, zz16, zz17, zz18, zz19, zz20, zz21, zz22, zz23, zz24, zz25, zz26, zz27, zz28, zz29, zz30, zz31, zz32, zz33, zz34, zz35, zz36, zz37, zz38, zz39, zz40, zz41, zz48, zz60, zz64, zz160, zz312, zz320, zzm2, zzm3, zzm4, zzm5, zzm6, zzm7, zzm8, zzm9, zzm10]; done) | (simp (disch := omega) only [Int32.lt_iff_toInt_lt, Int32.le_iff_toInt_le, ← Int32.toInt_inj, on_toInt, on_clamp, ti64, z0, z1, z2, zm1, i0, i1, im1, zz3, zz4, zz5, zz6, zz7, zz8, zz9, zz10, zz11, zz12, zz13, zz14, zz15, zz16, zz17, zz18, zz19, zz20, zz21, zz22, zz23, zz24, zz25, zz26, zz27, zz28, zz29, zz30, zz31, zz32, zz33, zz34, zz35, zz36, zz37, zz38, zz39, zz40, zz41, zz48, zz60, zz64, zz160, zz312, zz320, zzm2, zzm3, zzm4, zzm5, zzm6, zzm7, zzm8, zzm9, zzm10]; omega)), r1]
      show ((u2 (p1 (F_X0_rotateBy I1 L1 2 (Int32.ofNat t))) 6 0 0) 1 1, u2 (p1 (F_X0_rotateBy I1 L1 2 (Int32.ofNat t))) 6 0 0, p2 (F_X0_rotateBy I1 L1 2 (Int32.ofNat t))) = _
      rw [s1]
      show ((u2 I2 6 0 0) 1 1, _, _) = _
      rw [u2_nc (by omega), s2 1 1 (by omega), r3]
      rfl
    have i0' : (u2 I2 6 0 0) 33 0 = Int32.ofNat h := by rw [u2_nc (by omega), s2 _ _ (by omega), r2 _ _ (by omega), c3]
    have i1' : (u2 I2 6 0 0) 33 1 = Int32.ofNat w := by rw [u2_nc (by omega), s2 _ _ (by omega), r2 _ _ (by omega), c4]
    have l2' : L2 33 2 = L 1 3 := by rw [s5 _ _ (by omega), r5 _ _ (by omega), c5]
    have l3' : L2 33 3 = L 33 3 := by rw [s5 _ _ (by omega), r5 _ _ (by omega)]
    have hpar : ∀ t, t < 8 → ((Int32.ofNat t - Int32.ofNat t / 2 * 2) = 1 ↔ ¬ t % 2 = 0) := by decide
    have e2 : ∀ J : WI, J 33 0 = Int32.ofNat h → J 33 1 = Int32.ofNat w → F_X9_rotate J L2 (Int32.ofNat t) = (Int32.ofNat (od t h w), u2 (u2 (u2 J 33 0 (Int32.ofNat (od t h w))) 33 1 (Int32.ofNat (od t w h))) 33 5 0, u2 (u2 L2 33 2 (F_X9_rotated (L 1 3) (Int32.ofNat h) (Int32.ofNat w) (Int32.ofNat t))) 33 3 (F_X9_rotated (L 33 3) (Int32.ofNat h) (Int32.ofNat w) (Int32.ofNat t))) := by
      intro J j0 j1
      unfold F_X9_rotate F_X9_rotate_78 F_X9_rotate_97
      rw [in_eq, i0, ht, show (7 : Int64).toInt = 7 by decide, if_pos c, if_neg (show ¬ (1 : Int32) = 0 by decide), j0, j1, l2', u2_nc (k := 33) (j := 2) (a := 33) (b := 3) (by omega), l3']
      unfold od
      by_cases d : t % 2 = 0
      · have d' : ¬ (Int32.ofNat t - Int32.ofNat t / 2 * 2) = 1 := fun q => (hpar t ht8).mp q d
        rw [if_neg d', if_neg d', if_pos d, if_pos d, u2_nc (k := 33) (j := 0) (a := 33) (b := 1) (by omega), j1]
        rfl
      · have d' : (Int32.ofNat t - Int32.ofNat t / 2 * 2) = 1 := (hpar t ht8).mpr d
        rw [if_pos d', if_pos d', if_neg d, if_neg d]
        rfl
    rw [e1]
    show _ = p1 (F_X9_rotate (u2 I2 6 0 0) L2 (Int32.ofNat t)) ∧ Inv (p1 (p2 (F_X9_rotate (u2 I2 6 0 0) L2 (Int32.ofNat t)))) (p2 (p2 (F_X9_rotate (u2 I2 6 0 0) L2 (Int32.ofNat t))))
    rw [e2 _ i0' i1']
    refine ⟨rfl, ?_⟩
    have hI : ∀ k j, ¬ (k = 1 ∧ (j = 1 ∨ j = 2)) → ¬ (k = 2 ∧ (j = 1 ∨ j = 2)) → I2 k j = I k j := fun k j a b => (s2 k j b).trans (r2 k j a)
    have hL : ∀ k j, ¬ (k = 1 ∧ j = 3) → ¬ (k = 2 ∧ j = 3) → L2 k j = L k j := fun k j a b => (s5 k j b).trans (r5 k j a)
    -- the cells as they stand
    have hI2 : I2 = fun k j => if k = 1 ∧ (j = 1 ∨ j = 2) then I2 k j else if k = 2 ∧ (j = 1 ∨ j = 2) then I2 k j else I k j := by
      funext k j
      by_cases a : k = 1 ∧ (j = 1 ∨ j = 2)
      · rw [if_pos a]
      rw [if_neg a]
      by_cases b : k = 2 ∧ (j = 1 ∨ j = 2)
      · rw [if_pos b]
      rw [if_neg b]
      exact hI k j a b
    have hL2 : L2 = fun k j => if k = 1 ∧ j = 3 then L2 k j else if k = 2 ∧ j = 3 then L2 k j else L k j := by
      funext k j
      by_cases a : k = 1 ∧ j = 3
      · rw [if_pos a]
      rw [if_neg a]
      by_cases b : k = 2 ∧ j = 3
      · rw [if_pos b]
      rw [if_neg b]
      exact hL k j a b
    have f1 : I2 1 1 = Int32.ofNat (od t h w) := (s2 1 1 (by omega)).trans r3
    have f2 : I2 1 2 = Int32.ofNat (od t w h) := (s2 1 2 (by omega)).trans r4
    have f3 : L2 1 3 = F_X9_rotated (L 1 3) (Int32.ofNat h) (Int32.ofNat w) (Int32.ofNat t) := (s5 1 3 (by omega)).trans r6
    have f4 : L2 2 3 = F_X9_rotated (L 2 3) (Int32.ofNat hp) (Int32.ofNat wp) (Int32.ofNat t) := by rw [s6, r5 2 3 (by omega)]
    have f5 : I2 1 0 = I 1 0 := hI 1 0 (by omega) (by omega)
    have f6 : I2 2 0 = I 2 0 := hI 2 0 (by omega) (by omega)
    have f7 : I2 33 4 = I 33 4 := hI 33 4 (by omega) (by omega)
    refine ⟨⟨od t h w, od t w h, ⟨cl_od hC, f1, f2, rfl, rfl, f3.symm, ?_, ?_⟩, ⟨od t hp wp, od t wp hp, cl_od g1, s3, s4, ?_⟩, ?_, ?_⟩, ?_, ?_, ⟨0, by decide, rfl, rfl, fun d hd => absurd hd (by omega)⟩, ?_, ?_, ?_⟩
    · show Ins _ _ (L2 1 3)
      rw [f3]
      exact rotated_ins hC ht8 c6
    · show bz (I2 1 0) = 1
      rw [f5, c7]
    · show bz (I2 2 0) = 1 → _
      rw [f6]
      intro q
      obtain ⟨rfl, rfl⟩ := g4 q
      exact ⟨rfl, rfl⟩
    · show bz (I2 33 4) = bz (I2 2 0)
      rw [f6, f7, q2]
    · show bz (I2 2 0) = 1 → F_X9_rotated (L 33 3) (Int32.ofNat h) (Int32.ofNat w) (Int32.ofNat t) = L2 2 3 ∧ Ins _ _ (L2 2 3)
      rw [f6, f4]
      intro q
      obtain ⟨rfl, rfl⟩ := g4 q
      rw [(q3 q).1]
      exact ⟨rfl, rotated_ins hC ht8 (q3 q).2⟩
    · rw [hI2, hL2]
      exact k0
    · rw [hI2, hL2]
      exact k1
    · rw [hI2]
      exact h4
    · rw [hI2]
      exact four h5 id id id id
    · rw [hI2]
      exact h6
  · have e1 : F_X8_rotate I L a1 = (-1, I, L) := by
      unfold F_X8_rotate F_X8_rotate_10
      by_cases d : a1.toInt < 0
      · rw [if_pos (by first | omega | (simp (disch := omega) only [Int32.lt_iff_toInt_lt, Int32.le_iff_toInt_le, ← Int32.toInt_inj, on_toInt, on_clamp, ti64, z0, z1, z2, zm1, i0, i1, im1, zz3, zz4, zz5, zz6, zz7, zz8, zz9, zz10, zz11, zz12, zz13, zz14, zz15, zz16, zz17, zz18, zz19, zz20, zz21, zz22, zz23, zz24, zz25, zz26, zz27, zz28, zz29, zz30, zz31, zz32, zz33, zz34, zz35, zz36, zz37, zz38, zz39, zz40, zz41, zz48, zz60, zz64, zz160, zz312, zz320, zzm2, zzm3, zzm4, zzm5, zzm6, zzm7, zzm8, zzm9, zzm10]; done) | (simp (disch := omega) only [Int32.lt_iff_toInt_lt, Int32.le_iff_toInt_le, ← Int32.toInt_inj, on_toInt, on_clamp, ti64, z0, z1, z2, zm1, i0, i1, im1, zz3, zz4, zz5, zz6, zz7, zz8, zz9, zz10, zz11, zz12, zz13, zz14, zz15, zz16, zz17, zz18, zz19, zz20, zz21, zz22, zz23, zz24, zz25, zz26, zz27, zz28, zz29, zz30, zz31, zz32, zz33, zz34, zz35, zz36, zz37, zz38, zz39, zz40, zz41, zz48, zz60, zz64, zz160, zz312, zz320, zzm2, zzm3, zzm4, zzm5, zzm6, zzm7, zzm8, zzm9, zzm10]; omega))]
      · rw [if_neg (by first | omega | (simp (disch := omega) only [Int32.lt_iff_toInt_lt, Int32.le_iff_toInt_le, ← Int32.toInt_inj, on_toInt, on_clamp, ti64, z0, z1, z2, zm1, i0, i1, im1, zz3, zz4, zz5, zz6, zz7, zz8, zz9, zz10, zz11, zz12, zz13, zz14, zz15, zz16, zz17, zz18, zz19, zz20, zz21, zz22, zz23, zz24, zz25, zz26, zz27, zz28, zz29, zz30, zz31, zz32, zz33, zz34, zz35, zz36, zz37, zz38, zz39, zz40, zz41, zz48, zz60, zz64, zz160, zz312, zz320, zzm2, zzm3, zzm4, zzm5, zzm6, zzm7, zzm8, zzm9, zzm10]; done) | (simp (disch := omega) only [Int32.lt_iff_toInt_lt, Int32.le_iff_toInt_le, ← Int32.toInt_inj, on_toInt, on_clamp, ti64, z0, z1, z2, zm1, i0, i1, im1, zz3, zz4, zz5, zz6, zz7, zz8, zz9, zz10, zz11, zz12, zz13, zz14, zz15, zz16, zz17, zz18, zz19, zz20, zz21, zz22, zz23, zz24, zz25, zz26, zz27, zz28, zz29, zz30, zz31, zz32, zz33, zz34, zz35, zz36, zz37, zz38, zz39, zz40, zz41, zz48, zz60, zz64, zz160, zz312, zz320, zzm2, zzm3, zzm4, zzm5, zzm6, zzm7, zzm8, zzm9, zzm10]; omega)), if_neg (by first | omega | (simp (disch := omega) only [Int32.lt_iff_toInt_lt, Int32.le_iff_toInt_le, ← Int32.toInt_inj, on_toInt, on_clamp, ti64, z0, z1, z2, zm1, i0, i1, im1, zz3, zz4, zz5, zz6, zz7, zz8, zz9, zz10, zz11, zz12, zz13, zz14, zz15, zz16, zz17, zz18, zz19, zz20, zz21, zz22, zz23, zz24, zz25, zz26, zz27, zz28, zz29, zz30, zz31, zz32, zz33, zz34, zz35, zz36, zz37, zz38, zz39, zz40, zz41, zz48, zz60, zz64, zz160, zz312, zz320, zzm2, zzm3, zzm4, zzm5, zzm6, zzm7, zzm8, zzm9, zzm10]; done) | (simp (disch := omega) only [Int32.lt_iff_toInt_lt, Int32.le_iff_toInt_le, ← Int32.toInt_inj, on_toInt, on_clamp, ti64, z0, z1, z2, zm1, i0, i1, im1, zz3, zz4, zz5, zz6, zz7, zz8, zz9, zz10, zz11, zz12, zz13, zz14, zz15, zz16, zz17, zz18, zz19, zz20, zz21, zz22, zz23, zz24, zz25, zz26, zz27, zz28, zz29, zz30, zz31, zz32, zz33, zz34, zz35, zz36, zz37, zz38, zz39, zz40, zz41, zz48, zz60, zz64, zz160, zz312, zz320, zzm2, zzm3, zzm4, zzm5, zzm6, zzm7, zzm8, zzm9, zzm10]; omega))]
    have e2 : F_X9_rotate I L a1 = (-1, I, L) := by
      unfold F_X9_rotate
      rw [in_eq, i0, show (7 : Int64).toInt = 7 by decide, if_neg c, if_pos rfl]
    rw [e1]
    show _ = p1 (F_X9_rotate I L a1) ∧ Inv (p1 (p2 (F_X9_rotate I L a1))) (p2 (p2 (F_X9_rotate I L a1)))
    rw [e2]
    exact ⟨rfl, H'⟩
/-! sewn together -/
theorem ob_some {A B : Type} {a : A} {f : A → Option B} : (some a).bind f = f a := rfl
theorem sew_set {h w h2 w2 H W s : Nat} (hC : Cl H W) (hs : s < 64) {x y : Int64} (hx : ∀ k, M x k → k / 8 < H ∧ k % 8 < W) (hy : ∀ k, M y k → (k + s) / 8 < H ∧ (k + s) % 8 < W) : (x ||| lsh y (Int32.ofNat s)) &&& (F_X0_allSquares (cq (Int32.ofNat H) (Int32.ofNat W)) 1) = x ||| lsh y (Int32.ofNat s) := by
  refine M_ext fun k _ => ?_
  rw [M_and, all_M hC]
  constructor
  · exact fun q => q.1
  · intro q
    refine ⟨q, ?_⟩
    rw [M_or, M_lsh hs] at q
    rcases q with q | ⟨q1, q2, q3⟩
    · exact hx k q
    · have := hy _ q3
      rw [Nat.sub_add_cancel q2] at this
      exact this
theorem sew_ins {H W s : Nat} (hs : s < 64) {x y : Int64} (hx : ∀ k, M x k → k / 8 < H ∧ k % 8 < W) (hy : ∀ k, M y k → (k + s) / 8 < H ∧ (k + s) % 8 < W) : Ins H W (x ||| lsh y (Int32.ofNat s)) := by
  intro k q
  rw [M_or, M_lsh hs] at q
  rcases q with q | ⟨q1, q2, q3⟩
  · exact hx k q
  · have := hy _ q3
    rw [Nat.sub_add_cancel q2] at this
    exact this
/-- the class's sewing of one image -/
def sewB (I : WI) (L : WL) (a1 a2 : Int32) (r3 : Nat) : Int32 × WI × WL := if (bz (I r3 0)) = 0 then (F_X8_sew_54 I L a1 a2) else (if a2 = 0 then (if (I r3 1) = (I 1 1) then (F_X8_sew_57 I L a1 a2 r3) else (F_X8_sew_54 I L a1 a2)) else (if (I r3 2) = (I 1 2) then (F_X8_sew_57 I L a1 a2 r3) else (F_X8_sew_54 I L a1 a2)))
theorem sew_k {I : WI} {L : WL} {b : Int32} {k : Nat} (hk : k < 2) (H : Inv I L) (hK : InvK I L k) : ∃ w, F_X9_sew (p1 (p2 (sewB I L (Int32.ofNat k) b (3 + k)))) (p2 (p2 (sewB I L (Int32.ofNat k) b (3 + k)))) (Int32.ofNat k) b = some w ∧ p1 (sewB I L (Int32.ofNat k) b (3 + k)) = p1 w ∧ Inv (p1 (p2 w)) (p2 (p2 w)) := by
  have H' := H
  obtain ⟨⟨h, w, ⟨hC, c1, c2, c3, c4, c5, c6, c7⟩, ⟨q1, q2, q3⟩⟩, k0, k1, h3, h4, h5, h6⟩ := H
  have hC2 := hC
  obtain ⟨⟨b1, b2⟩, b3, b4⟩ := hC2
  have hkk := nin (k := k) (N := 2) hk (by decide)
  have hkc := on_clamp (n := k) (by omega)
  have hmod : ∀ J : WI, ∀ K : WL, J 36 k = I 36 k → J 37 k = I 37 k → J 33 0 = I 33 0 → J 33 1 = I 33 1 → F_X9_sew J K (Int32.ofNat k) b = if bz (I (3 + k) 0) = 0 then some (-2, J, K) else if b = 0 then (if I 36 k = I 33 0 then F_X9_sew_53 J K (Int32.ofNat k) b else some (-2, J, K)) else (if I 37 k = I 33 1 then F_X9_sew_53 J K (Int32.ofNat k) b else some (-2, J, K)) := by
    intro J K j1 j2 j3 j4
    unfold F_X9_sew F_X9_sew_50
    rw [isImage_eq, on_toInt (by omega), if_pos (show (0 : Int) ≤ (k : Int) ∧ (k : Int) ≤ 1 by omega)]
    rw [ob_some, if_neg (show ¬ (1 : Int32) = 0 by decide), kept_val hk, j1, kept_bz hK, ob_some]
    by_cases c : bz (I (3 + k) 0) = 0
    · rw [if_pos c, if_pos c]
    rw [if_neg c, if_neg c]
    by_cases d : b = 0
    · rw [if_pos d, if_pos d, if_neg hkk, hkc, j1, j3]
    · rw [if_neg d, if_neg d, if_neg hkk, hkc, j2, j4]
  have hst : ∃ w, F_X9_sew I L (Int32.ofNat k) b = some w ∧ w = (-2, I, L) → ∃ w, F_X9_sew I L (Int32.ofNat k) b = some w ∧ (-2 : Int32) = p1 w ∧ Inv (p1 (p2 w)) (p2 (p2 w)) := ⟨(-2, I, L), fun e => ⟨_, e.1, rfl, H'⟩⟩
  rcases bz01 (I (3 + k) 0) with e | e
  · have e1 : sewB I L (Int32.ofNat k) b (3 + k) = (-2, I, L) := by
      unfold sewB
      rw [if_pos e]
      rfl
    rw [e1]
    refine ⟨(-2, I, L), ?_, rfl, H'⟩
    show F_X9_sew I L (Int32.ofNat k) b = _
    rw [hmod I L rfl rfl rfl rfl, if_pos e]
  obtain ⟨h2, w2, hC', f1, f2, f3, f4, f5, f6⟩ := hK.2 e
  have hC3 := hC'
  obtain ⟨⟨d1, d2⟩, d3, d4⟩ := hC3
  have en : ¬ bz (I (3 + k) 0) = 0 := by rw [e]; decide
  by_cases hb : b = 0
  · by_cases hs : h2 = h
    · subst hs
      have eX : sewB I L (Int32.ofNat k) b (3 + k) = F_X8_sew_57 I L (Int32.ofNat k) b (3 + k) := by
        unfold sewB
        rw [if_neg en, if_pos hb, if_pos (f1.trans c1.symm)]
      have eM : ∀ J : WI, ∀ K : WL, J 36 k = I 36 k → J 37 k = I 37 k → J 33 0 = I 33 0 → J 33 1 = I 33 1 → F_X9_sew J K (Int32.ofNat k) b = F_X9_sew_82 J K (Int32.ofNat k) b (Int32.ofNat (w + w2)) := by
        intro J K j1 j2 j3 j4
        rw [hmod J K j1 j2 j3 j4, if_neg en, if_pos hb, if_pos (f3.trans c3.symm)]
        unfold F_X9_sew_53
        rw [if_pos hb, if_neg hkk, hkc, j2, j4, f4, c4, oadd]
      by_cases hf : w + w2 ≤ 8
      · have hCn : Cl h2 (w + w2) := ⟨⟨b1, b2⟩, by omega, hf⟩
        have hx : ∀ q, M (L 1 3) q → q / 8 < h2 ∧ q % 8 < w + w2 := fun q hq => by have := c6 q hq; omega
        have hy : ∀ q, M (L (3 + k) 3) q → (q + w) / 8 < h2 ∧ (q + w) % 8 < w + w2 := fun q hq => by have := f6 q hq; omega
        generalize hX : L 1 3 ||| lsh (L (3 + k) 3) (Int32.ofNat w) = X
        have e1 : sewB I L (Int32.ofNat k) b (3 + k) = (F_J13_bitCount_95d88 X, F_X8_forgetPlans (u2 (u2 I 1 1 (Int32.ofNat h2)) 1 2 (Int32.ofNat (w + w2))), u2 L 1 3 X) := by
          rw [eX]
          unfold F_X8_sew_57 F_X8_sew_83 F_X8_sew_111
          rw [if_pos hb, if_pos hb, c1, c2, f2, oadd, if_neg (by first | omega | (simp (disch := omega) only [Int32.lt_iff_toInt_lt, Int32.le_iff_toInt_le, ← Int32.toInt_inj, on_toInt, on_clamp, ti64, z0, z1, z2, zm1, i0, i1, im1, zz3, zz4, zz5, zz6, zz7, zz8, zz9, zz10, zz11, zz12, zz13, zz14, zz15, zz16, zz17, zz18, zz19, zz20, zz21, zz22, zz23, zz24, zz25, zz26, zz27, zz28, zz29, zz30, zz31, zz32, zz33, zz34, zz35, zz36, zz37, zz38, zz39, zz40, zz41, zz48, zz60, zz64, zz160, zz312, zz320, zzm2, zzm3, zzm4, zzm5, zzm6, zzm7, zzm8, zzm9, zzm10]; done) | (simp (disch := omega) only [Int32.lt_iff_toInt_lt, Int32.le_iff_toInt_le, ← Int32.toInt_inj, on_toInt, on_clamp, ti64, z0, z1, z2, zm1, i0, i1, im1, zz3, zz4, zz5, zz6, zz7, zz8, zz9, zz10, zz11, zz12, zz13, zz14, zz15, zz16, zz17, zz18, zz19, zz20, zz21, zz22, zz23, zz24, zz25, zz26, zz27, zz28, zz29, zz30, zz31, zz32, zz33, zz34, zz35, zz36, zz37, zz38, zz39, zz40, zz41, zz48, zz60, zz64, zz160, zz312, zz320, zzm2, zzm3, zzm4, zzm5, zzm6, zzm7, zzm8, zzm9, zzm10]; omega)), if_pos (by first | omega | (simp (disch := omega) only [Int32.lt_iff_toInt_lt, Int32.le_iff_toInt_le, ← Int32.toInt_inj, on_toInt, on_clamp, ti64, z0, z1, z2, zm1, i0, i1, im1, zz3, zz4, zz5, zz6, zz7, zz8, zz9, zz10, zz11, zz12, zz13, zz14, zz15, zz16, zz17, zz18, zz19, zz20, zz21, zz22, zz23, zz24, zz25, zz26, zz27, zz28, zz29, zz30, zz31, zz32, zz33, zz34, zz35, zz36, zz37, zz38, zz39, zz40, zz41, zz48, zz60, zz64, zz160, zz312, zz320, zzm2, zzm3, zzm4, zzm5, zzm6, zzm7, zzm8, zzm9, zzm10]; done) | (simp (disch := omega) only [Int32.lt_iff_toInt_lt, Int32.le_iff_toInt_le, ← Int32.toInt_inj, on_toInt, on_clamp, ti64, z0, z1, z2, zm1, i0, i1, im1, zz3, zz4, zz5, zz6, zz7, zz8, zz9, zz10, zz11, zz12, zz13, zz14, zz15, zz16, zz17, zz18, zz19, zz20, zz21, zz22, zz23, zz24, zz25, zz26, zz27, zz28, zz29, zz30, zz31, zz32, zz33, zz34, zz35, zz36, zz37, zz38, zz39, zz40, zz41, zz48, zz60, zz64, zz160, zz312, zz320, zzm2, zzm3, zzm4, zzm5, zzm6, zzm7, zzm8, zzm9, zzm10]; omega)), if_pos hb]
          unfold F_X8_sew_158 F_X0_resize
          have e3 := sew_set (h := h2) (w := w) (h2 := h2) (w2 := w2) hCn (by omega) hx hy
          rw [allSquares_cq]
          show (F_X0_darkSquares (u2 L 1 3 ((L 1 3 ||| lsh (L (3 + k) 3) (Int32.ofNat w)) &&& (F_X0_allSquares (cq (Int32.ofNat h2) (Int32.ofNat (w + w2))) 1))) 1, F_X8_forgetPlans _, u2 L 1 3 ((L 1 3 ||| lsh (L (3 + k) 3) (Int32.ofNat w)) &&& (F_X0_allSquares (cq (Int32.ofNat h2) (Int32.ofNat (w + w2))) 1))) = _
          rw [e3, hX]
          rfl
        rw [e1]
        show ∃ w_1, F_X9_sew (F_X8_forgetPlans (u2 (u2 I 1 1 (Int32.ofNat h2)) 1 2 (Int32.ofNat (w + w2)))) (u2 L 1 3 X) (Int32.ofNat k) b = some w_1 ∧ _
        rw [eM (F_X8_forgetPlans (u2 (u2 I 1 1 (Int32.ofNat h2)) 1 2 (Int32.ofNat (w + w2)))) (u2 L 1 3 X) rfl rfl rfl rfl]
        refine ⟨(F_X9_many X, F_X9_endsPattern (u2 (u2 (F_X8_forgetPlans (u2 (u2 I 1 1 (Int32.ofNat h2)) 1 2 (Int32.ofNat (w + w2)))) 33 0 (Int32.ofNat h2)) 33 1 (Int32.ofNat (w + w2))), u2 (u2 L 1 3 X) 33 2 X), ?_, (many_bits X).symm, ?_⟩
        · unfold F_X9_sew_82
          rw [if_pos (by first | omega | (simp (disch := omega) only [Int32.lt_iff_toInt_lt, Int32.le_iff_toInt_le, ← Int32.toInt_inj, on_toInt, on_clamp, ti64, z0, z1, z2, zm1, i0, i1, im1, zz3, zz4, zz5, zz6, zz7, zz8, zz9, zz10, zz11, zz12, zz13, zz14, zz15, zz16, zz17, zz18, zz19, zz20, zz21, zz22, zz23, zz24, zz25, zz26, zz27, zz28, zz29, zz30, zz31, zz32, zz33, zz34, zz35, zz36, zz37, zz38, zz39, zz40, zz41, zz48, zz60, zz64, zz160, zz312, zz320, zzm2, zzm3, zzm4, zzm5, zzm6, zzm7, zzm8, zzm9, zzm10]; done) | (simp (disch := omega) only [Int32.lt_iff_toInt_lt, Int32.le_iff_toInt_le, ← Int32.toInt_inj, on_toInt, on_clamp, ti64, z0, z1, z2, zm1, i0, i1, im1, zz3, zz4, zz5, zz6, zz7, zz8, zz9, zz10, zz11, zz12, zz13, zz14, zz15, zz16, zz17, zz18, zz19, zz20, zz21, zz22, zz23, zz24, zz25, zz26, zz27, zz28, zz29, zz30, zz31, zz32, zz33, zz34, zz35, zz36, zz37, zz38, zz39, zz40, zz41, zz48, zz60, zz64, zz160, zz312, zz320, zzm2, zzm3, zzm4, zzm5, zzm6, zzm7, zzm8, zzm9, zzm10]; omega)), if_neg hkk, if_pos hb, hkc]
          unfold F_X9_sew_119
          rw [if_pos hb]
          unfold F_X9_sew_143
          rw [if_pos hb, if_neg hkk, hkc]
          have e4 : (u2 L 1 3 X) 33 2 ||| lsh ((u2 L 1 3 X) 35 k) ((F_X8_forgetPlans (u2 (u2 I 1 1 (Int32.ofNat h2)) 1 2 (Int32.ofNat (w + w2)))) 33 1) = X := by
            rw [← hX]
            show L 33 2 ||| lsh (L 35 k) (I 33 1) = _
            rw [c5, f5, c4]
          rw [e4]
          have e5 : ((F_X8_forgetPlans (u2 (u2 I 1 1 (Int32.ofNat h2)) 1 2 (Int32.ofNat (w + w2)))) 33 0 + 0) = Int32.ofNat h2 := by
            show I 33 0 + 0 = _
            rw [c3, Int32.add_zero]
          rw [e5]
          unfold F_X9_sew_166
          have e6 : (u2 (F_X8_forgetPlans (u2 (u2 I 1 1 (Int32.ofNat h2)) 1 2 (Int32.ofNat (w + w2)))) 33 0 (Int32.ofNat h2)) 33 1 + (u2 (F_X8_forgetPlans (u2 (u2 I 1 1 (Int32.ofNat h2)) 1 2 (Int32.ofNat (w + w2)))) 33 0 (Int32.ofNat h2)) 37 k = Int32.ofNat (w + w2) := by
            show I 33 1 + I 37 k = _
            rw [c4, f4, oadd]
          rw [e6]
          rfl
        · obtain ⟨g1, g2, g3, g4, g5⟩ := q1
          exact ⟨⟨h2, w + w2, ⟨hCn, rfl, rfl, rfl, rfl, rfl, hX ▸ sew_ins (by omega) hx hy, c7⟩, ⟨g1, g2, g3, g4, g5.1, fun q => absurd (show bz 0 = 1 from q) bz0_ne⟩, rfl, fun q => absurd (show bz 0 = 1 from q) bz0_ne⟩, k0, k1, ⟨0, by decide, rfl, rfl, fun d hd => absurd hd (by omega)⟩, h4, four h5 id id id id, h6⟩
      · have e1 : sewB I L (Int32.ofNat k) b (3 + k) = (-3, I, L) := by
          rw [eX]
          unfold F_X8_sew_57 F_X8_sew_83 F_X8_sew_111 F_X8_sew_127
          rw [if_pos hb, if_pos hb, c1, c2, f2, oadd, if_neg (by first | omega | (simp (disch := omega) only [Int32.lt_iff_toInt_lt, Int32.le_iff_toInt_le, ← Int32.toInt_inj, on_toInt, on_clamp, ti64, z0, z1, z2, zm1, i0, i1, im1, zz3, zz4, zz5, zz6, zz7, zz8, zz9, zz10, zz11, zz12, zz13, zz14, zz15, zz16, zz17, zz18, zz19, zz20, zz21, zz22, zz23, zz24, zz25, zz26, zz27, zz28, zz29, zz30, zz31, zz32, zz33, zz34, zz35, zz36, zz37, zz38, zz39, zz40, zz41, zz48, zz60, zz64, zz160, zz312, zz320, zzm2, zzm3, zzm4, zzm5, zzm6, zzm7, zzm8, zzm9, zzm10]; done) | (simp (disch := omega) only [Int32.lt_iff_toInt_lt, Int32.le_iff_toInt_le, ← Int32.toInt_inj, on_toInt, on_clamp, ti64, z0, z1, z2, zm1, i0, i1, im1, zz3, zz4, zz5, zz6, zz7, zz8, zz9, zz10, zz11, zz12, zz13, zz14, zz15, zz16, zz17, zz18, zz19, zz20, zz21, zz22, zz23, zz24, zz25, zz26, zz27, zz28, zz29, zz30, zz31, zz32, zz33, zz34, zz35, zz36, zz37, zz38, zz39, zz40, zz41, zz48, zz60, zz64, zz160, zz312, zz320, zzm2, zzm3, zzm4, zzm5, zzm6, zzm7, zzm8, zzm9, zzm10]; omega)), if_neg (by first | omega | (simp (disch := omega) only [Int32.lt_iff_toInt_lt, Int32.le_iff_toInt_le, ← Int32.toInt_inj, on_toInt, on_clamp, ti64, z0, z1, z2, zm1, i0, i1, im1, zz3, zz4, zz5, zz6, zz7, zz8, zz9, zz10, zz11, zz12, zz13, zz14, zz15, zz16, zz17, zz18, zz19, zz20, zz21, zz22, zz23, zz24, zz25, zz26, zz27, zz28, zz29, zz30, zz31, zz32, zz33, zz34, zz35, zz36, zz37, zz38, zz39, zz40, zz41, zz48, zz60, zz64, zz160, zz312, zz320, zzm2, zzm3, zzm4, zzm5, zzm6, zzm7, zzm8, zzm9, zzm10]; done) | (simp (disch := omega) only [Int32.lt_iff_toInt_lt, Int32.le_iff_toInt_le, ← Int32.toInt_inj, on_toInt, on_clamp, ti64, z0, z1, z2, zm1, i0, i1, im1, zz3, zz4, zz5, zz6, zz7, zz8, zz9, zz10, zz11, zz12, zz13, zz14, zz15, zz16, zz17, zz18, zz19, zz20, zz21, zz22, zz23, zz24, zz25, zz26, zz27, zz28, zz29, zz30, zz31, zz32, zz33, zz34, zz35, zz36, zz37, zz38, zz39, zz40, zz41, zz48, zz60, zz64, zz160, zz312, zz320, zzm2, zzm3, zzm4, zzm5, zzm6, zzm7, zzm8, zzm9, zzm10]; omega))]
        rw [e1]
        refine ⟨(-3, I, L), ?_, rfl, H'⟩
        show F_X9_sew I L (Int32.ofNat k) b = _
        rw [eM I L rfl rfl rfl rfl]
        unfold F_X9_sew_82
        rw [if_neg (by first | omega | (simp (disch := omega) only [Int32.lt_iff_toInt_lt, Int32.le_iff_toInt_le, ← Int32.toInt_inj, on_toInt, on_clamp, ti64, z0, z1, z2, zm1, i0, i1, im1, zz3, zz4, zz5, zz6, zz7, zz8, zz9, zz10, zz11, zz12, zz13, zz14, zz15, zz16, zz17, zz18, zz19, zz20, zz21, zz22, zz23, zz24, zz25, zz26, zz27, zz28, zz29, zz30, zz31, zz32, zz33, zz34, zz35, zz36, zz37, zz38, zz39, zz40, zz41, zz48, zz60, zz64, zz160, zz312, zz320, zzm2, zzm3, zzm4, zzm5, zzm6, zzm7, zzm8, zzm9, zzm10]; done) | (simp (disch := omega) only [Int32.lt_iff_toInt_lt, Int32.le_iff_toInt_le, ← Int32.toInt_inj, on_toInt, on_clamp, ti64, z0, z1, z2, zm1, i0, i1, im1, zz3, zz4, zz5, zz6, zz7, zz8, zz9, zz10, zz11, zz12, zz13, zz14, zz15, zz16, zz17, zz18, zz19, zz20, zz21, zz22, zz23, zz24, zz25, zz26, zz27, zz28, zz29, zz30, zz31, zz32, zz33, zz34, zz35, zz36, zz37, zz38, zz39, zz40, zz41, zz48, zz60, zz64, zz160, zz312, zz320, zzm2, zzm3, zzm4, zzm5, zzm6, zzm7, zzm8, zzm9, zzm10]; omega))]
    · have hs1 : ¬ I (3 + k) 1 = I 1 1 := fun q => hs (on_inj (by omega) (by omega) (f1.symm.trans (q.trans c1)))
      have hs2 : ¬ I 36 k = I 33 0 := fun q => hs (on_inj (by omega) (by omega) (f3.symm.trans (q.trans c3)))
      have e1 : sewB I L (Int32.ofNat k) b (3 + k) = (-2, I, L) := by
        unfold sewB
        rw [if_neg en, if_pos hb, if_neg hs1]
        rfl
      rw [e1]
      refine ⟨(-2, I, L), ?_, rfl, H'⟩
      show F_X9_sew I L (Int32.ofNat k) b = _
      rw [hmod I L rfl rfl rfl rfl, if_neg en, if_pos hb, if_neg hs2]
  · by_cases hs : w2 = w
    · subst hs
      have eX : sewB I L (Int32.ofNat k) b (3 + k) = F_X8_sew_57 I L (Int32.ofNat k) b (3 + k) := by
        unfold sewB
        rw [if_neg en, if_neg hb, if_pos (f2.trans c2.symm)]
      have eM : ∀ J : WI, ∀ K : WL, J 36 k = I 36 k → J 37 k = I 37 k → J 33 0 = I 33 0 → J 33 1 = I 33 1 → F_X9_sew J K (Int32.ofNat k) b = F_X9_sew_82 J K (Int32.ofNat k) b (Int32.ofNat (h + h2)) := by
        intro J K j1 j2 j3 j4
        rw [hmod J K j1 j2 j3 j4, if_neg en, if_neg hb, if_pos (f4.trans c4.symm)]
        unfold F_X9_sew_53
        rw [if_neg hb, if_neg hkk, hkc, j1, j3, f3, c3, oadd]
      by_cases hf : h + h2 ≤ 8
      · have hCn : Cl (h + h2) w2 := ⟨⟨by omega, hf⟩, b3, b4⟩
        have hx : ∀ q, M (L 1 3) q → q / 8 < h + h2 ∧ q % 8 < w2 := fun q hq => by have := c6 q hq; omega
        have hy : ∀ q, M (L (3 + k) 3) q → (q + 8 * h) / 8 < h + h2 ∧ (q + 8 * h) % 8 < w2 := fun q hq => by have := f6 q hq; omega
        generalize hX : L 1 3 ||| lsh (L (3 + k) 3) (Int32.ofNat (8 * h)) = X
        have e1 : sewB I L (Int32.ofNat k) b (3 + k) = (F_J13_bitCount_95d88 X, F_X8_forgetPlans (u2 (u2 I 1 1 (Int32.ofNat (h + h2))) 1 2 (Int32.ofNat w2)), u2 L 1 3 X) := by
          rw [eX]
          unfold F_X8_sew_57 F_X8_sew_83 F_X8_sew_111
          rw [if_neg hb, if_neg hb, c1, c2, f1, oadd, if_neg (by first | omega | (simp (disch := omega) only [Int32.lt_iff_toInt_lt, Int32.le_iff_toInt_le, ← Int32.toInt_inj, on_toInt, on_clamp, ti64, z0, z1, z2, zm1, i0, i1, im1, zz3, zz4, zz5, zz6, zz7, zz8, zz9, zz10, zz11, zz12, zz13, zz14, zz15, zz16, zz17, zz18, zz19, zz20, zz21, zz22, zz23, zz24, zz25, zz26, zz27, zz28, zz29, zz30, zz31, zz32, zz33, zz34, zz35, zz36, zz37, zz38, zz39, zz40, zz41, zz48, zz60, zz64, zz160, zz312, zz320, zzm2, zzm3, zzm4, zzm5, zzm6, zzm7, zzm8, zzm9, zzm10]; done) | (simp (disch := omega) only [Int32.lt_iff_toInt_lt, Int32.le_iff_toInt_le, ← Int32.toInt_inj, on_toInt, on_clamp, ti64, z0, z1, z2, zm1, i0, i1, im1, zz3, zz4, zz5, zz6, zz7, zz8, zz9, zz10, zz11, zz12, zz13, zz14, zz15, zz16, zz17, zz18, zz19, zz20, zz21, zz22, zz23, zz24, zz25, zz26, zz27, zz28, zz29, zz30, zz31, zz32, zz33, zz34, zz35, zz36, zz37, zz38, zz39, zz40, zz41, zz48, zz60, zz64, zz160, zz312, zz320, zzm2, zzm3, zzm4, zzm5, zzm6, zzm7, zzm8, zzm9, zzm10]; omega)), if_pos (by first | omega | (simp (disch := omega) only [Int32.lt_iff_toInt_lt, Int32.le_iff_toInt_le, ← Int32.toInt_inj, on_toInt, on_clamp, ti64, z0, z1, z2, zm1, i0, i1, im1, zz3, zz4, zz5, zz6, zz7, zz8, zz9, zz10, zz11, zz12, zz13, zz14, zz15, zz16, zz17, zz18, zz19, zz20, zz21, zz22, zz23, zz24, zz25, zz26, zz27, zz28, zz29, zz30, zz31, zz32, zz33, zz34, zz35, zz36, zz37, zz38, zz39, zz40, zz41, zz48, zz60, zz64, zz160, zz312, zz320, zzm2, zzm3, zzm4, zzm5, zzm6, zzm7, zzm8, zzm9, zzm10]; done) | (simp (disch := omega) only [Int32.lt_iff_toInt_lt, Int32.le_iff_toInt_le, ← Int32.toInt_inj, on_toInt, on_clamp, ti64, z0, z1, z2, zm1, i0, i1, im1, zz3, zz4, zz5, zz6, zz7, zz8, zz9, zz10, zz11, zz12, zz13, zz14, zz15, zz16, zz17, zz18, zz19, zz20, zz21, zz22, zz23, zz24, zz25, zz26, zz27, zz28, zz29, zz30, zz31, zz32, zz33, zz34, zz35, zz36, zz37, zz38, zz39, zz40, zz41, zz48, zz60, zz64, zz160, zz312, zz320, zzm2, zzm3, zzm4, zzm5, zzm6, zzm7, zzm8, zzm9, zzm10]; omega)), if_neg hb]
          unfold F_X8_sew_158 F_X0_resize
          have e3 := sew_set (h := h) (w := w2) (h2 := h2) (w2 := w2) hCn (by omega) hx hy
          rw [allSquares_cq, lm8]
          show (F_X0_darkSquares (u2 L 1 3 ((L 1 3 ||| lsh (L (3 + k) 3) (Int32.ofNat (8 * h))) &&& (F_X0_allSquares (cq (Int32.ofNat (h + h2)) (Int32.ofNat w2)) 1))) 1, F_X8_forgetPlans _, u2 L 1 3 ((L 1 3 ||| lsh (L (3 + k) 3) (Int32.ofNat (8 * h))) &&& (F_X0_allSquares (cq (Int32.ofNat (h + h2)) (Int32.ofNat w2)) 1))) = _
          rw [e3, hX]
          rfl
        rw [e1]
        show ∃ w_1, F_X9_sew (F_X8_forgetPlans (u2 (u2 I 1 1 (Int32.ofNat (h + h2))) 1 2 (Int32.ofNat w2))) (u2 L 1 3 X) (Int32.ofNat k) b = some w_1 ∧ _
        rw [eM (F_X8_forgetPlans (u2 (u2 I 1 1 (Int32.ofNat (h + h2))) 1 2 (Int32.ofNat w2))) (u2 L 1 3 X) rfl rfl rfl rfl]
        refine ⟨(F_X9_many X, F_X9_endsPattern (u2 (u2 (F_X8_forgetPlans (u2 (u2 I 1 1 (Int32.ofNat (h + h2))) 1 2 (Int32.ofNat w2))) 33 0 (Int32.ofNat (h + h2))) 33 1 (Int32.ofNat w2)), u2 (u2 L 1 3 X) 33 2 X), ?_, (many_bits X).symm, ?_⟩
        · unfold F_X9_sew_82
          rw [if_pos (by first | omega | (simp (disch := omega) only [Int32.lt_iff_toInt_lt, Int32.le_iff_toInt_le, ← Int32.toInt_inj, on_toInt, on_clamp, ti64, z0, z1, z2, zm1, i0, i1, im1, zz3, zz4, zz5, zz6, zz7, zz8, zz9, zz10, zz11, zz12, zz13, zz14, zz15, zz16, zz17, zz18, zz19, zz20, zz21, zz22, zz23, zz24, zz25, zz26, zz27, zz28, zz29, zz30, zz31, zz32, zz33, zz34, zz35, zz36, zz37, zz38, zz39, zz40, zz41, zz48, zz60, zz64, zz160, zz312, zz320, zzm2, zzm3, zzm4, zzm5, zzm6, zzm7, zzm8, zzm9, zzm10]; done) | (simp (disch := omega) only [Int32.lt_iff_toInt_lt, Int32.le_iff_toInt_le, ← Int32.toInt_inj, on_toInt, on_clamp, ti64, z0, z1, z2, zm1, i0, i1, im1, zz3, zz4, zz5, zz6, zz7, zz8, zz9, zz10, zz11, zz12, zz13, zz14, zz15, zz16, zz17, zz18, zz19, zz20, zz21, zz22, zz23, zz24, zz25, zz26, zz27, zz28, zz29, zz30, zz31, zz32, zz33, zz34, zz35, zz36, zz37, zz38, zz39, zz40, zz41, zz48, zz60, zz64, zz160, zz312, zz320, zzm2, zzm3, zzm4, zzm5, zzm6, zzm7, zzm8, zzm9, zzm10]; omega)), if_neg hkk, if_neg hb, hkc]
          unfold F_X9_sew_119
          rw [if_neg hb, if_neg hkk, hkc]
          unfold F_X9_sew_143
          rw [if_neg hb]
          have e4 : (u2 L 1 3 X) 33 2 ||| lsh ((u2 L 1 3 X) 35 k) (8 * (F_X8_forgetPlans (u2 (u2 I 1 1 (Int32.ofNat (h + h2))) 1 2 (Int32.ofNat w2))) 33 0) = X := by
            rw [← hX]
            show L 33 2 ||| lsh (L 35 k) (8 * I 33 0) = _
            rw [c5, f5, c3, lm8]
          rw [e4]
          have e5 : ((F_X8_forgetPlans (u2 (u2 I 1 1 (Int32.ofNat (h + h2))) 1 2 (Int32.ofNat w2))) 33 0 + (F_X8_forgetPlans (u2 (u2 I 1 1 (Int32.ofNat (h + h2))) 1 2 (Int32.ofNat w2))) 36 k) = Int32.ofNat (h + h2) := by
            show I 33 0 + I 36 k = _
            rw [c3, f3, oadd]
          rw [e5]
          unfold F_X9_sew_166
          have e6 : (u2 (F_X8_forgetPlans (u2 (u2 I 1 1 (Int32.ofNat (h + h2))) 1 2 (Int32.ofNat w2))) 33 0 (Int32.ofNat (h + h2))) 33 1 + 0 = Int32.ofNat w2 := by
            show I 33 1 + 0 = _
            rw [c4, Int32.add_zero]
          rw [e6]
          rfl
        · obtain ⟨g1, g2, g3, g4, g5⟩ := q1
          exact ⟨⟨h + h2, w2, ⟨hCn, rfl, rfl, rfl, rfl, rfl, hX ▸ sew_ins (by omega) hx hy, c7⟩, ⟨g1, g2, g3, g4, g5.1, fun q => absurd (show bz 0 = 1 from q) bz0_ne⟩, rfl, fun q => absurd (show bz 0 = 1 from q) bz0_ne⟩, k0, k1, ⟨0, by decide, rfl, rfl, fun d hd => absurd hd (by omega)⟩, h4, four h5 id id id id, h6⟩
      · have e1 : sewB I L (Int32.ofNat k) b (3 + k) = (-3, I, L) := by
          rw [eX]
          unfold F_X8_sew_57 F_X8_sew_83 F_X8_sew_111 F_X8_sew_127
          rw [if_neg hb, if_neg hb, c1, c2, f1, oadd, if_pos (by first | omega | (simp (disch := omega) only [Int32.lt_iff_toInt_lt, Int32.le_iff_toInt_le, ← Int32.toInt_inj, on_toInt, on_clamp, ti64, z0, z1, z2, zm1, i0, i1, im1, zz3, zz4, zz5, zz6, zz7, zz8, zz9, zz10, zz11, zz12, zz13, zz14, zz15, zz16, zz17, zz18, zz19, zz20, zz21, zz22, zz23, zz24, zz25, zz26, zz27, zz28, zz29, zz30, zz31, zz32, zz33, zz34, zz35, zz36, zz37, zz38, zz39, zz40, zz41, zz48, zz60, zz64, zz160, zz312, zz320, zzm2, zzm3, zzm4, zzm5, zzm6, zzm7, zzm8, zzm9, zzm10]; done) | (simp (disch := omega) only [Int32.lt_iff_toInt_lt, Int32.le_iff_toInt_le, ← Int32.toInt_inj, on_toInt, on_clamp, ti64, z0, z1, z2, zm1, i0, i1, im1, zz3, zz4, zz5, zz6, zz7, zz8, zz9, zz10, zz11, zz12, zz13, zz14, zz15, zz16, zz17, zz18, zz19, zz20, zz21, zz22, zz23, zz24, zz25, zz26, zz27, zz28, zz29, zz30, zz31, zz32, zz33, zz34, zz35, zz36, zz37, zz38, zz39, zz40, zz41, zz48, zz60, zz64, zz160, zz312, zz320, zzm2, zzm3, zzm4, zzm5, zzm6, zzm7, zzm8, zzm9, zzm10]; omega))]
        rw [e1]
        refine ⟨(-3, I, L), ?_, rfl, H'⟩
        show F_X9_sew I L (Int32.ofNat k) b = _
        rw [eM I L rfl rfl rfl rfl]
        unfold F_X9_sew_82
        rw [if_neg (by first | omega | (simp (disch := omega) only [Int32.lt_iff_toInt_lt, Int32.le_iff_toInt_le, ← Int32.toInt_inj, on_toInt, on_clamp, ti64, z0, z1, z2, zm1, i0, i1, im1, zz3, zz4, zz5, zz6, zz7, zz8, zz9, zz10, zz11, zz12, zz13, zz14, zz15, zz16, zz17, zz18, zz19, zz20, zz21, zz22, zz23, zz24, zz25, zz26, zz27, zz28, zz29, zz30, zz31, zz32, zz33, zz34, zz35, zz36, zz37, zz38, zz39, zz40, zz41, zz48, zz60, zz64, zz160, zz312, zz320, zzm2, zzm3, zzm4, zzm5, zzm6, zzm7, zzm8, zzm9, zzm10]; done) | (simp (disch := omega) only [Int32.lt_iff_toInt_lt, Int32.le_iff_toInt_le, ← Int32.toInt_inj, on_toInt, on_clamp, ti64, z0, z1, z2, zm1, i0, i1, im1, zz3, zz4, zz5, zz6, zz7, zz8, zz9, zz10, zz11, zz12, zz13, zz14, zz15, zz16, zz17, zz18, zz19, zz20, zz21, zz22, zz23, zz24, zz25, zz26, zz27, zz28, zz29, zz30, zz31, zz32, zz33, zz34, zz35, zz36, zz37, zz38, zz39, zz40, zz41, zz48, zz60, zz64, zz160, zz312, zz320, zzm2, zzm3, zzm4, zzm5, zzm6, zzm7, zzm8, zzm9, zzm10]; omega))]
    · have hs1 : ¬ I (3 + k) 2 = I 1 2 := fun q => hs (on_inj (by omega) (by omega) (f2.symm.trans (q.trans c2)))
      have hs2 : ¬ I 37 k = I 33 1 := fun q => hs (on_inj (by omega) (by omega) (f4.symm.trans (q.trans c4)))
      have e1 : sewB I L (Int32.ofNat k) b (3 + k) = (-2, I, L) := by
        unfold sewB
        rw [if_neg en, if_neg hb, if_neg hs1]
        rfl
      rw [e1]
      refine ⟨(-2, I, L), ?_, rfl, H'⟩
      show F_X9_sew I L (Int32.ofNat k) b = _
      rw [hmod I L rfl rfl rfl rfl, if_neg en, if_neg hb, if_neg hs2]
theorem E_28 {I : WI} {L : WL} {a1 a2 : Int32} (H : Inv I L) : ∃ w, (F_X9_sew (p1 (p2 (F_X8_sew I L a1 (nz a2)))) (p2 (p2 (F_X8_sew I L a1 (nz a2)))) a1 (nz a2)) = some w ∧ (p1 (F_X8_sew I L a1 (nz a2))) = (p1 w) ∧ Inv (p1 (p2 w)) (p2 (p2 w)) := by
  generalize nz a2 = b
  by_cases c : 0 ≤ a1.toInt ∧ a1.toInt ≤ 1
  · rcases im_in c with rfl | rfl
    · have e : F_X8_sew I L 0 b = sewB I L (Int32.ofNat 0) b (3 + 0) := by
        unfold F_X8_sew
        rw [if_pos rfl]
        rfl
      rw [e]
      exact sew_k (by decide) H H.2.1
    · have e : F_X8_sew I L 1 b = sewB I L (Int32.ofNat 1) b (3 + 1) := by
        unfold F_X8_sew
        rw [if_neg (by decide), if_pos rfl]
        rfl
      rw [e]
      exact sew_k (by decide) H H.2.2.1
  · obtain ⟨n0, n1⟩ := im_out2 c
    have e1 : F_X8_sew I L a1 b = (-1, I, L) := by
      unfold F_X8_sew
      rw [if_neg n0, if_neg n1]
    rw [e1]
    show ∃ w, F_X9_sew I L a1 b = some w ∧ _
    unfold F_X9_sew
    rw [isImage_eq, if_neg c]
    exact ⟨_, rfl, rfl, H⟩
/-! sheets -/
def shc (k : Nat) : Prop := (19 ≤ k ∧ k ≤ 26) ∨ (42 ≤ k ∧ k ≤ 44)
theorem Inv.sheets {I J : WI} {L : WL} (H : Inv I L) (hJ : ∀ k j, ¬ shc k → J k j = I k j) (hS : ∀ k, k < 4 → InvS J k) : Inv J L := by
  obtain ⟨⟨h, w, h1, h2⟩, k0, k1, h3, h4, h5, h6⟩ := H
  have hT : J = fun k j => if ((19 ≤ k ∧ k ≤ 26) ∨ (42 ≤ k ∧ k ≤ 44)) then J k j else I k j := by
    funext k j
    by_cases c : (19 ≤ k ∧ k ≤ 26) ∨ (42 ≤ k ∧ k ≤ 44)
    · rw [if_pos c]
    · rw [if_neg c]
      exact hJ k j c
  rw [hT] at hS ⊢
  exact ⟨⟨h, w, h1, h2⟩, k0, k1, h3, h4, hS, h6⟩
theorem sid_on {k : Nat} (h : k < 2147483648) : sid (Int32.ofNat k) = 19 + 2 * k := by
  unfold sid
  rw [on_clamp h]
theorem isLane_eq (a : Int32) : F_X8_isLane a = if 0 ≤ a.toInt ∧ a.toInt ≤ 2 then 1 else 0 := by
  unfold F_X8_isLane F_X8_isLane_13 F_X8_isLane_14
  by_cases c1 : a.toInt < 0
  · rw [if_pos (by first | omega | (simp (disch := omega) only [Int32.lt_iff_toInt_lt, Int32.le_iff_toInt_le, ← Int32.toInt_inj, on_toInt, on_clamp, ti64, z0, z1, z2, zm1, i0, i1, im1, zz3, zz4, zz5, zz6, zz7, zz8, zz9, zz10, zz11, zz12, zz13, zz14, zz15, zz16, zz17, zz18, zz19, zz20, zz21, zz22, zz23, zz24, zz25, zz26, zz27, zz28, zz29, zz30, zz31, zz32, zz33, zz34, zz35, zz36, zz37, zz38, zz39, zz40, zz41, zz48, zz60, zz64, zz160, zz312, zz320, zzm2, zzm3, zzm4, zzm5, zzm6, zzm7, zzm8, zzm9, zzm10]; done) | (simp (disch := omega) only [Int32.lt_iff_toInt_lt, Int32.le_iff_toInt_le, ← Int32.toInt_inj, on_toInt, on_clamp, ti64, z0, z1, z2, zm1, i0, i1, im1, zz3, zz4, zz5, zz6, zz7, zz8, zz9, zz10, zz11, zz12, zz13, zz14, zz15, zz16, zz17, zz18, zz19, zz20, zz21, zz22, zz23, zz24, zz25, zz26, zz27, zz28, zz29, zz30, zz31, zz32, zz33, zz34, zz35, zz36, zz37, zz38, zz39, zz40, zz41, zz48, zz60, zz64, zz160, zz312, zz320, zzm2, zzm3, zzm4, zzm5, zzm6, zzm7, zzm8, zzm9, zzm10]; omega)), if_neg (by omega)]
  rw [if_neg (by first | omega | (simp (disch := omega) only [Int32.lt_iff_toInt_lt, Int32.le_iff_toInt_le, ← Int32.toInt_inj, on_toInt, on_clamp, ti64, z0, z1, z2, zm1, i0, i1, im1, zz3, zz4, zz5, zz6, zz7, zz8, zz9, zz10, zz11, zz12, zz13, zz14, zz15, zz16, zz17, zz18, zz19, zz20, zz21, zz22, zz23, zz24, zz25, zz26, zz27, zz28, zz29, zz30, zz31, zz32, zz33, zz34, zz35, zz36, zz37, zz38, zz39, zz40, zz41, zz48, zz60, zz64, zz160, zz312, zz320, zzm2, zzm3, zzm4, zzm5, zzm6, zzm7, zzm8, zzm9, zzm10]; done) | (simp (disch := omega) only [Int32.lt_iff_toInt_lt, Int32.le_iff_toInt_le, ← Int32.toInt_inj, on_toInt, on_clamp, ti64, z0, z1, z2, zm1, i0, i1, im1, zz3, zz4, zz5, zz6, zz7, zz8, zz9, zz10, zz11, zz12, zz13, zz14, zz15, zz16, zz17, zz18, zz19, zz20, zz21, zz22, zz23, zz24, zz25, zz26, zz27, zz28, zz29, zz30, zz31, zz32, zz33, zz34, zz35, zz36, zz37, zz38, zz39, zz40, zz41, zz48, zz60, zz64, zz160, zz312, zz320, zzm2, zzm3, zzm4, zzm5, zzm6, zzm7, zzm8, zzm9, zzm10]; omega))]
  by_cases c2 : 2 < a.toInt
  · rw [if_pos (by first | omega | (simp (disch := omega) only [Int32.lt_iff_toInt_lt, Int32.le_iff_toInt_le, ← Int32.toInt_inj, on_toInt, on_clamp, ti64, z0, z1, z2, zm1, i0, i1, im1, zz3, zz4, zz5, zz6, zz7, zz8, zz9, zz10, zz11, zz12, zz13, zz14, zz15, zz16, zz17, zz18, zz19, zz20, zz21, zz22, zz23, zz24, zz25, zz26, zz27, zz28, zz29, zz30, zz31, zz32, zz33, zz34, zz35, zz36, zz37, zz38, zz39, zz40, zz41, zz48, zz60, zz64, zz160, zz312, zz320, zzm2, zzm3, zzm4, zzm5, zzm6, zzm7, zzm8, zzm9, zzm10]; done) | (simp (disch := omega) only [Int32.lt_iff_toInt_lt, Int32.le_iff_toInt_le, ← Int32.toInt_inj, on_toInt, on_clamp, ti64, z0, z1, z2, zm1, i0, i1, im1, zz3, zz4, zz5, zz6, zz7, zz8, zz9, zz10, zz11, zz12, zz13, zz14, zz15, zz16, zz17, zz18, zz19, zz20, zz21, zz22, zz23, zz24, zz25, zz26, zz27, zz28, zz29, zz30, zz31, zz32, zz33, zz34, zz35, zz36, zz37, zz38, zz39, zz40, zz41, zz48, zz60, zz64, zz160, zz312, zz320, zzm2, zzm3, zzm4, zzm5, zzm6, zzm7, zzm8, zzm9, zzm10]; omega)), if_neg (by omega)]
  · rw [if_neg (by first | omega | (simp (disch := omega) only [Int32.lt_iff_toInt_lt, Int32.le_iff_toInt_le, ← Int32.toInt_inj, on_toInt, on_clamp, ti64, z0, z1, z2, zm1, i0, i1, im1, zz3, zz4, zz5, zz6, zz7, zz8, zz9, zz10, zz11, zz12, zz13, zz14, zz15, zz16, zz17, zz18, zz19, zz20, zz21, zz22, zz23, zz24, zz25, zz26, zz27, zz28, zz29, zz30, zz31, zz32, zz33, zz34, zz35, zz36, zz37, zz38, zz39, zz40, zz41, zz48, zz60, zz64, zz160, zz312, zz320, zzm2, zzm3, zzm4, zzm5, zzm6, zzm7, zzm8, zzm9, zzm10]; done) | (simp (disch := omega) only [Int32.lt_iff_toInt_lt, Int32.le_iff_toInt_le, ← Int32.toInt_inj, on_toInt, on_clamp, ti64, z0, z1, z2, zm1, i0, i1, im1, zz3, zz4, zz5, zz6, zz7, zz8, zz9, zz10, zz11, zz12, zz13, zz14, zz15, zz16, zz17, zz18, zz19, zz20, zz21, zz22, zz23, zz24, zz25, zz26, zz27, zz28, zz29, zz30, zz31, zz32, zz33, zz34, zz35, zz36, zz37, zz38, zz39, zz40, zz41, zz48, zz60, zz64, zz160, zz312, zz320, zzm2, zzm3, zzm4, zzm5, zzm6, zzm7, zzm8, zzm9, zzm10]; omega)), if_pos (by omega)]
theorem isSheet_eq (a b : Int32) : F_X9_isSheet a b = if (0 ≤ a.toInt ∧ a.toInt ≤ 3) ∧ 0 ≤ b.toInt ∧ b.toInt ≤ 2 then 1 else 0 := by
  unfold F_X9_isSheet F_X9_isSheet_28 F_X9_isSheet_29
  rw [in_eq, in_eq, i0, show (3 : Int64).toInt = 3 by decide, show (2 : Int64).toInt = 2 by decide]
  by_cases c : 0 ≤ a.toInt ∧ a.toInt ≤ 3
  · rw [if_pos c, if_neg (show ¬ (1 : Int32) = 0 by decide)]
    by_cases d : 0 ≤ b.toInt ∧ b.toInt ≤ 2
    · rw [if_pos d, if_neg (show ¬ (1 : Int32) = 0 by decide), if_pos ⟨c, d⟩]
    · rw [if_neg d, if_pos rfl, if_neg fun e => d e.2]
  · rw [if_neg c, if_pos rfl, if_neg fun e => c e.1]
theorem E_33 {I : WI} {L : WL} {a1 a2 a3 : Int32} (H : Inv I L) : ∃ v, (F_X8_sheet I a1 a2 a3) = some v ∧ ∃ w, (F_X9_sheet (p2 v) a1 a2 a3) = some w ∧ (p1 v) = (p1 w) ∧ Inv (p2 w) L := by
  by_cases c : (0 ≤ a1.toInt ∧ a1.toInt ≤ 3) ∧ 0 ≤ a2.toInt ∧ a2.toInt ≤ 2
  · obtain ⟨k, rfl, hk, -⟩ := nn c.1.1
    obtain ⟨l, rfl, hl, -⟩ := nn c.2.1
    rw [hk, hl] at c
    have hk4 : k < 4 := by omega
    have hnin := nin (k := k) (N := 4) hk4 (by decide)
    have hcl := on_clamp (n := k) (by omega)
    by_cases d1 : 40 < a3.toInt
    · refine ⟨(-1, I), ?_, (-1, I), ?_, rfl, H⟩
      · unfold F_X8_sheet F_X8_sheet_28
        rw [if_pos hnin, isLane_eq, hl, if_pos c.2, if_neg (show ¬ (1 : Int32) = 0 by decide), if_neg (by first | omega | (simp (disch := omega) only [Int32.lt_iff_toInt_lt, Int32.le_iff_toInt_le, ← Int32.toInt_inj, on_toInt, on_clamp, ti64, z0, z1, z2, zm1, i0, i1, im1, zz3, zz4, zz5, zz6, zz7, zz8, zz9, zz10, zz11, zz12, zz13, zz14, zz15, zz16, zz17, zz18, zz19, zz20, zz21, zz22, zz23, zz24, zz25, zz26, zz27, zz28, zz29, zz30, zz31, zz32, zz33, zz34, zz35, zz36, zz37, zz38, zz39, zz40, zz41, zz48, zz60, zz64, zz160, zz312, zz320, zzm2, zzm3, zzm4, zzm5, zzm6, zzm7, zzm8, zzm9, zzm10]; done) | (simp (disch := omega) only [Int32.lt_iff_toInt_lt, Int32.le_iff_toInt_le, ← Int32.toInt_inj, on_toInt, on_clamp, ti64, z0, z1, z2, zm1, i0, i1, im1, zz3, zz4, zz5, zz6, zz7, zz8, zz9, zz10, zz11, zz12, zz13, zz14, zz15, zz16, zz17, zz18, zz19, zz20, zz21, zz22, zz23, zz24, zz25, zz26, zz27, zz28, zz29, zz30, zz31, zz32, zz33, zz34, zz35, zz36, zz37, zz38, zz39, zz40, zz41, zz48, zz60, zz64, zz160, zz312, zz320, zzm2, zzm3, zzm4, zzm5, zzm6, zzm7, zzm8, zzm9, zzm10]; omega))]
      · show F_X9_sheet I _ _ _ = _
        unfold F_X9_sheet F_X9_sheet_14
        rw [isSheet_eq, hk, hl, if_pos c, if_neg (show ¬ (1 : Int32) = 0 by decide), if_neg (by first | omega | (simp (disch := omega) only [Int32.lt_iff_toInt_lt, Int32.le_iff_toInt_le, ← Int32.toInt_inj, on_toInt, on_clamp, ti64, z0, z1, z2, zm1, i0, i1, im1, zz3, zz4, zz5, zz6, zz7, zz8, zz9, zz10, zz11, zz12, zz13, zz14, zz15, zz16, zz17, zz18, zz19, zz20, zz21, zz22, zz23, zz24, zz25, zz26, zz27, zz28, zz29, zz30, zz31, zz32, zz33, zz34, zz35, zz36, zz37, zz38, zz39, zz40, zz41, zz48, zz60, zz64, zz160, zz312, zz320, zzm2, zzm3, zzm4, zzm5, zzm6, zzm7, zzm8, zzm9, zzm10]; done) | (simp (disch := omega) only [Int32.lt_iff_toInt_lt, Int32.le_iff_toInt_le, ← Int32.toInt_inj, on_toInt, on_clamp, ti64, z0, z1, z2, zm1, i0, i1, im1, zz3, zz4, zz5, zz6, zz7, zz8, zz9, zz10, zz11, zz12, zz13, zz14, zz15, zz16, zz17, zz18, zz19, zz20, zz21, zz22, zz23, zz24, zz25, zz26, zz27, zz28, zz29, zz30, zz31, zz32, zz33, zz34, zz35, zz36, zz37, zz38, zz39, zz40, zz41, zz48, zz60, zz64, zz160, zz312, zz320, zzm2, zzm3, zzm4, zzm5, zzm6, zzm7, zzm8, zzm9, zzm10]; omega))]
    by_cases d2 : a3.toInt < 0
    · refine ⟨(-14, I), ?_, (-14, I), ?_, rfl, H⟩
      · unfold F_X8_sheet
        rw [if_pos hnin, isLane_eq, hl, if_pos c.2, if_neg (show ¬ (1 : Int32) = 0 by decide), if_pos (by first | omega | (simp (disch := omega) only [Int32.lt_iff_toInt_lt, Int32.le_iff_toInt_le, ← Int32.toInt_inj, on_toInt, on_clamp, ti64, z0, z1, z2, zm1, i0, i1, im1, zz3, zz4, zz5, zz6, zz7, zz8, zz9, zz10, zz11, zz12, zz13, zz14, zz15, zz16, zz17, zz18, zz19, zz20, zz21, zz22, zz23, zz24, zz25, zz26, zz27, zz28, zz29, zz30, zz31, zz32, zz33, zz34, zz35, zz36, zz37, zz38, zz39, zz40, zz41, zz48, zz60, zz64, zz160, zz312, zz320, zzm2, zzm3, zzm4, zzm5, zzm6, zzm7, zzm8, zzm9, zzm10]; done) | (simp (disch := omega) only [Int32.lt_iff_toInt_lt, Int32.le_iff_toInt_le, ← Int32.toInt_inj, on_toInt, on_clamp, ti64, z0, z1, z2, zm1, i0, i1, im1, zz3, zz4, zz5, zz6, zz7, zz8, zz9, zz10, zz11, zz12, zz13, zz14, zz15, zz16, zz17, zz18, zz19, zz20, zz21, zz22, zz23, zz24, zz25, zz26, zz27, zz28, zz29, zz30, zz31, zz32, zz33, zz34, zz35, zz36, zz37, zz38, zz39, zz40, zz41, zz48, zz60, zz64, zz160, zz312, zz320, zzm2, zzm3, zzm4, zzm5, zzm6, zzm7, zzm8, zzm9, zzm10]; omega)), if_neg (by first | omega | (simp (disch := omega) only [Int32.lt_iff_toInt_lt, Int32.le_iff_toInt_le, ← Int32.toInt_inj, on_toInt, on_clamp, ti64, z0, z1, z2, zm1, i0, i1, im1, zz3, zz4, zz5, zz6, zz7, zz8, zz9, zz10, zz11, zz12, zz13, zz14, zz15, zz16, zz17, zz18, zz19, zz20, zz21, zz22, zz23, zz24, zz25, zz26, zz27, zz28, zz29, zz30, zz31, zz32, zz33, zz34, zz35, zz36, zz37, zz38, zz39, zz40, zz41, zz48, zz60, zz64, zz160, zz312, zz320, zzm2, zzm3, zzm4, zzm5, zzm6, zzm7, zzm8, zzm9, zzm10]; done) | (simp (disch := omega) only [Int32.lt_iff_toInt_lt, Int32.le_iff_toInt_le, ← Int32.toInt_inj, on_toInt, on_clamp, ti64, z0, z1, z2, zm1, i0, i1, im1, zz3, zz4, zz5, zz6, zz7, zz8, zz9, zz10, zz11, zz12, zz13, zz14, zz15, zz16, zz17, zz18, zz19, zz20, zz21, zz22, zz23, zz24, zz25, zz26, zz27, zz28, zz29, zz30, zz31, zz32, zz33, zz34, zz35, zz36, zz37, zz38, zz39, zz40, zz41, zz48, zz60, zz64, zz160, zz312, zz320, zzm2, zzm3, zzm4, zzm5, zzm6, zzm7, zzm8, zzm9, zzm10]; omega))]
      · show F_X9_sheet I _ _ _ = _
        unfold F_X9_sheet
        rw [isSheet_eq, hk, hl, if_pos c, if_neg (show ¬ (1 : Int32) = 0 by decide), if_pos (by first | omega | (simp (disch := omega) only [Int32.lt_iff_toInt_lt, Int32.le_iff_toInt_le, ← Int32.toInt_inj, on_toInt, on_clamp, ti64, z0, z1, z2, zm1, i0, i1, im1, zz3, zz4, zz5, zz6, zz7, zz8, zz9, zz10, zz11, zz12, zz13, zz14, zz15, zz16, zz17, zz18, zz19, zz20, zz21, zz22, zz23, zz24, zz25, zz26, zz27, zz28, zz29, zz30, zz31, zz32, zz33, zz34, zz35, zz36, zz37, zz38, zz39, zz40, zz41, zz48, zz60, zz64, zz160, zz312, zz320, zzm2, zzm3, zzm4, zzm5, zzm6, zzm7, zzm8, zzm9, zzm10]; done) | (simp (disch := omega) only [Int32.lt_iff_toInt_lt, Int32.le_iff_toInt_le, ← Int32.toInt_inj, on_toInt, on_clamp, ti64, z0, z1, z2, zm1, i0, i1, im1, zz3, zz4, zz5, zz6, zz7, zz8, zz9, zz10, zz11, zz12, zz13, zz14, zz15, zz16, zz17, zz18, zz19, zz20, zz21, zz22, zz23, zz24, zz25, zz26, zz27, zz28, zz29, zz30, zz31, zz32, zz33, zz34, zz35, zz36, zz37, zz38, zz39, zz40, zz41, zz48, zz60, zz64, zz160, zz312, zz320, zzm2, zzm3, zzm4, zzm5, zzm6, zzm7, zzm8, zzm9, zzm10]; omega)), if_neg (by first | omega | (simp (disch := omega) only [Int32.lt_iff_toInt_lt, Int32.le_iff_toInt_le, ← Int32.toInt_inj, on_toInt, on_clamp, ti64, z0, z1, z2, zm1, i0, i1, im1, zz3, zz4, zz5, zz6, zz7, zz8, zz9, zz10, zz11, zz12, zz13, zz14, zz15, zz16, zz17, zz18, zz19, zz20, zz21, zz22, zz23, zz24, zz25, zz26, zz27, zz28, zz29, zz30, zz31, zz32, zz33, zz34, zz35, zz36, zz37, zz38, zz39, zz40, zz41, zz48, zz60, zz64, zz160, zz312, zz320, zzm2, zzm3, zzm4, zzm5, zzm6, zzm7, zzm8, zzm9, zzm10]; done) | (simp (disch := omega) only [Int32.lt_iff_toInt_lt, Int32.le_iff_toInt_le, ← Int32.toInt_inj, on_toInt, on_clamp, ti64, z0, z1, z2, zm1, i0, i1, im1, zz3, zz4, zz5, zz6, zz7, zz8, zz9, zz10, zz11, zz12, zz13, zz14, zz15, zz16, zz17, zz18, zz19, zz20, zz21, zz22, zz23, zz24, zz25, zz26, zz27, zz28, zz29, zz30, zz31, zz32, zz33, zz34, zz35, zz36, zz37, zz38, zz39, zz40, zz41, zz48, zz60, zz64, zz160, zz312, zz320, zzm2, zzm3, zzm4, zzm5, zzm6, zzm7, zzm8, zzm9, zzm10]; omega))]
    obtain ⟨n, rfl, hn, -⟩ := nn (show 0 ≤ a3.toInt by omega)
    rw [hn] at d1
    -- the class
    obtain ⟨e, r1, r2⟩ := frp0_nat (g := fun i x => F_X3_renew_21_1 x (19 + 2 * k) (Int32.ofNat l) (Int32.ofNat n) i) (b := 40) (by decide) (fun i (J : WI) => (∀ a b, ¬ (a = 20 + 2 * k ∧ b < i) → J a b = (u2 (u2 I (19 + 2 * k) 1 (Int32.ofNat l)) (19 + 2 * k) 0 (Int32.ofNat n)) a b) ∧ ∀ b, b < i → J (20 + 2 * k) b = 0) (s := u2 (u2 I (19 + 2 * k) 1 (Int32.ofNat l)) (19 + 2 * k) 0 (Int32.ofNat n)) (fun i J hi hJ => by
      refine ⟨u2 J (20 + 2 * k) i 0, ?_, fun a b q => ?_, fun b q => ?_⟩
      · show F_X3_renew_21_1 J (19 + 2 * k) (Int32.ofNat l) (Int32.ofNat n) (Int32.ofNat i) = _
        unfold F_X3_renew_21_1
        rw [if_neg (nin (k := i) (by omega) (by decide)), on_clamp (n := i) (by omega), show 19 + 2 * k + 1 = 20 + 2 * k by omega]
      · rw [u2_nc (by omega)]
        exact hJ.1 a b (by omega)
      · by_cases d : b = i
        · rw [d, u2_at]
        · rw [u2_nc (by omega)]
          exact hJ.2 b (by omega)) ⟨fun _ _ _ => rfl, fun b hb => by omega⟩
    generalize hJ : p2 e = J at r2
    obtain ⟨r3, r4⟩ := r2
    have e1 : F_X8_sheet I (Int32.ofNat k) (Int32.ofNat l) (Int32.ofNat n) = some (1, J) := by
      unfold F_X8_sheet
      rw [if_pos hnin, isLane_eq, hl, if_pos c.2, if_neg (show ¬ (1 : Int32) = 0 by decide), if_pos (by first | omega | (simp (disch := omega) only [Int32.lt_iff_toInt_lt, Int32.le_iff_toInt_le, ← Int32.toInt_inj, on_toInt, on_clamp, ti64, z0, z1, z2, zm1, i0, i1, im1, zz3, zz4, zz5, zz6, zz7, zz8, zz9, zz10, zz11, zz12, zz13, zz14, zz15, zz16, zz17, zz18, zz19, zz20, zz21, zz22, zz23, zz24, zz25, zz26, zz27, zz28, zz29, zz30, zz31, zz32, zz33, zz34, zz35, zz36, zz37, zz38, zz39, zz40, zz41, zz48, zz60, zz64, zz160, zz312, zz320, zzm2, zzm3, zzm4, zzm5, zzm6, zzm7, zzm8, zzm9, zzm10]; done) | (simp (disch := omega) only [Int32.lt_iff_toInt_lt, Int32.le_iff_toInt_le, ← Int32.toInt_inj, on_toInt, on_clamp, ti64, z0, z1, z2, zm1, i0, i1, im1, zz3, zz4, zz5, zz6, zz7, zz8, zz9, zz10, zz11, zz12, zz13, zz14, zz15, zz16, zz17, zz18, zz19, zz20, zz21, zz22, zz23, zz24, zz25, zz26, zz27, zz28, zz29, zz30, zz31, zz32, zz33, zz34, zz35, zz36, zz37, zz38, zz39, zz40, zz41, zz48, zz60, zz64, zz160, zz312, zz320, zzm2, zzm3, zzm4, zzm5, zzm6, zzm7, zzm8, zzm9, zzm10]; omega)), if_pos (by first | omega | (simp (disch := omega) only [Int32.lt_iff_toInt_lt, Int32.le_iff_toInt_le, ← Int32.toInt_inj, on_toInt, on_clamp, ti64, z0, z1, z2, zm1, i0, i1, im1, zz3, zz4, zz5, zz6, zz7, zz8, zz9, zz10, zz11, zz12, zz13, zz14, zz15, zz16, zz17, zz18, zz19, zz20, zz21, zz22, zz23, zz24, zz25, zz26, zz27, zz28, zz29, zz30, zz31, zz32, zz33, zz34, zz35, zz36, zz37, zz38, zz39, zz40, zz41, zz48, zz60, zz64, zz160, zz312, zz320, zzm2, zzm3, zzm4, zzm5, zzm6, zzm7, zzm8, zzm9, zzm10]; done) | (simp (disch := omega) only [Int32.lt_iff_toInt_lt, Int32.le_iff_toInt_le, ← Int32.toInt_inj, on_toInt, on_clamp, ti64, z0, z1, z2, zm1, i0, i1, im1, zz3, zz4, zz5, zz6, zz7, zz8, zz9, zz10, zz11, zz12, zz13, zz14, zz15, zz16, zz17, zz18, zz19, zz20, zz21, zz22, zz23, zz24, zz25, zz26, zz27, zz28, zz29, zz30, zz31, zz32, zz33, zz34, zz35, zz36, zz37, zz38, zz39, zz40, zz41, zz48, zz60, zz64, zz160, zz312, zz320, zzm2, zzm3, zzm4, zzm5, zzm6, zzm7, zzm8, zzm9, zzm10]; omega)), sid_on (by omega)]
      unfold F_X3_renew F_X3_renew_12
      show Option.bind (Option.bind (frp0 (fun i x => F_X3_renew_21_1 x (19 + 2 * k) (Int32.ofNat l) (Int32.ofNat n) i) (Int32.ofNat 40) (fu 0 (Int32.ofNat 40)) 0 (u2 (u2 I (19 + 2 * k) 1 (Int32.ofNat l)) (19 + 2 * k) 0 (Int32.ofNat n))) _) _ = _
      rw [r1]
      show some (1, p2 e) = _
      rw [hJ]
    -- the reference
    obtain ⟨e', t1, t2⟩ := frp0_nat (g := fun i x => F_X9_sheet_47_1 x (Int32.ofNat k) (Int32.ofNat l) (Int32.ofNat n) i) (b := 40) (by decide) (fun i (K : WI) => (∀ a b, ¬ (a = 44 ∧ 40 * k ≤ b ∧ b < 40 * k + i) → K a b = (u2 (u2 J 42 k (Int32.ofNat l)) 43 k (Int32.ofNat n)) a b) ∧ ∀ b, b < i → K 44 (40 * k + b) = 0) (s := u2 (u2 J 42 k (Int32.ofNat l)) 43 k (Int32.ofNat n)) (fun i K hi hK => by
      refine ⟨u2 K 44 (40 * k + i) 0, ?_, fun a b q => ?_, fun b q => ?_⟩
      · show F_X9_sheet_47_1 K (Int32.ofNat k) (Int32.ofNat l) (Int32.ofNat n) (Int32.ofNat i) = _
        unfold F_X9_sheet_47_1
        rw [lm40, oadd, if_neg (nin (k := 40 * k + i) (by omega) (by decide)), on_clamp (n := 40 * k + i) (by omega)]
      · rw [u2_nc (by omega)]
        exact hK.1 a b (by omega)
      · by_cases d : b = i
        · rw [d, u2_at]
        · rw [u2_nc (by omega)]
          exact hK.2 b (by omega)) ⟨fun _ _ _ => rfl, fun b hb => by omega⟩
    generalize hK : p2 e' = K at t2
    obtain ⟨t3, t4⟩ := t2
    have e2 : F_X9_sheet J (Int32.ofNat k) (Int32.ofNat l) (Int32.ofNat n) = some (1, K) := by
      unfold F_X9_sheet
      rw [isSheet_eq, hk, hl, if_pos c, if_neg (show ¬ (1 : Int32) = 0 by decide), if_pos (by first | omega | (simp (disch := omega) only [Int32.lt_iff_toInt_lt, Int32.le_iff_toInt_le, ← Int32.toInt_inj, on_toInt, on_clamp, ti64, z0, z1, z2, zm1, i0, i1, im1, zz3, zz4, zz5, zz6, zz7, zz8, zz9, zz10, zz11, zz12, zz13, zz14, zz15, zz16, zz17, zz18, zz19, zz20, zz21, zz22, zz23, zz24, zz25, zz26, zz27, zz28, zz29, zz30, zz31, zz32, zz33, zz34, zz35, zz36, zz37, zz38, zz39, zz40, zz41, zz48, zz60, zz64, zz160, zz312, zz320, zzm2, zzm3, zzm4, zzm5, zzm6, zzm7, zzm8, zzm9, zzm10]; done) | (simp (disch := omega) only [Int32.lt_iff_toInt_lt, Int32.le_iff_toInt_le, ← Int32.toInt_inj, on_toInt, on_clamp, ti64, z0, z1, z2, zm1, i0, i1, im1, zz3, zz4, zz5, zz6, zz7, zz8, zz9, zz10, zz11, zz12, zz13, zz14, zz15, zz16, zz17, zz18, zz19, zz20, zz21, zz22, zz23, zz24, zz25, zz26, zz27, zz28, zz29, zz30, zz31, zz32, zz33, zz34, zz35, zz36, zz37, zz38, zz39, zz40, zz41, zz48, zz60, zz64, zz160, zz312, zz320, zzm2, zzm3, zzm4, zzm5, zzm6, zzm7, zzm8, zzm9, zzm10]; omega)), if_pos (by first | omega | (simp (disch := omega) only [Int32.lt_iff_toInt_lt, Int32.le_iff_toInt_le, ← Int32.toInt_inj, on_toInt, on_clamp, ti64, z0, z1, z2, zm1, i0, i1, im1, zz3, zz4, zz5, zz6, zz7, zz8, zz9, zz10, zz11, zz12, zz13, zz14, zz15, zz16, zz17, zz18, zz19, zz20, zz21, zz22, zz23, zz24, zz25, zz26, zz27, zz28, zz29, zz30, zz31, zz32, zz33, zz34, zz35, zz36, zz37, zz38, zz39, zz40, zz41, zz48, zz60, zz64, zz160, zz312, zz320, zzm2, zzm3, zzm4, zzm5, zzm6, zzm7, zzm8, zzm9, zzm10]; done) | (simp (disch := omega) only [Int32.lt_iff_toInt_lt, Int32.le_iff_toInt_le, ← Int32.toInt_inj, on_toInt, on_clamp, ti64, z0, z1, z2, zm1, i0, i1, im1, zz3, zz4, zz5, zz6, zz7, zz8, zz9, zz10, zz11, zz12, zz13, zz14, zz15, zz16, zz17, zz18, zz19, zz20, zz21, zz22, zz23, zz24, zz25, zz26, zz27, zz28, zz29, zz30, zz31, zz32, zz33, zz34, zz35, zz36, zz37, zz38, zz39, zz40, zz41, zz48, zz60, zz64, zz160, zz312, zz320, zzm2, zzm3, zzm4, zzm5, zzm6, zzm7, zzm8, zzm9, zzm10]; omega)), if_neg hnin, if_neg hnin, hcl]
      unfold F_X9_sheet_40
      show Option.bind (frp0 (fun i x => F_X9_sheet_47_1 x (Int32.ofNat k) (Int32.ofNat l) (Int32.ofNat n) i) (Int32.ofNat 40) (fu 0 (Int32.ofNat 40)) 0 (u2 (u2 J 42 k (Int32.ofNat l)) 43 k (Int32.ofNat n))) _ = _
      rw [t1]
      show some (1, p2 e') = _
      rw [hK]
    refine ⟨_, e1, _, e2, rfl, ?_⟩
    have hI : ∀ a b, ¬ (a = 44 ∧ 40 * k ≤ b ∧ b < 40 * k + 40) → ¬ (a = 42 ∧ b = k) → ¬ (a = 43 ∧ b = k) → ¬ (a = 19 + 2 * k ∧ b ≤ 1) → ¬ (a = 20 + 2 * k ∧ b < 40) → K a b = I a b := fun a b h1 h2 h3 h4 h5 => by
      rw [t3 a b h1, u2_nc h3, u2_nc h2, r3 a b h5, u2_nc (by omega), u2_nc (by omega)]
    show Inv K L
    refine H.sheets (fun a b q => ?_) (fun k' hk' => ?_)
    · unfold shc at q
      exact hI a b (by omega) (by omega) (by omega) (by omega) (by omega)
    by_cases hkk : k' = k
    · subst hkk
      refine .inr ⟨n, l, by omega, by omega, ?_, ?_, ?_, ?_, fun i hi => ?_⟩
      · rw [t3 _ _ (by omega), u2_nc (by omega), u2_nc (by omega), r3 _ _ (by omega), u2_at]
      · rw [t3 _ _ (by omega), u2_at]
      · rw [t3 _ _ (by omega), u2_nc (by omega), u2_nc (by omega), r3 _ _ (by omega), u2_nc (by omega), u2_at]
      · rw [t3 _ _ (by omega), u2_nc (by omega), u2_at]
      · rw [t4 i hi, t3 _ _ (by omega), u2_nc (by omega), u2_nc (by omega), r4 i hi]
    · have hS := H.2.2.2.2.2.1 k' hk'
      unfold InvS at hS ⊢
      rw [hI (19 + 2 * k') 0 (by omega) (by omega) (by omega) (by omega) (by omega), hI 42 k' (by omega) (by omega) (by omega) (by omega) (by omega), hI 43 k' (by omega) (by omega) (by omega) (by omega) (by omega), hI (19 + 2 * k') 1 (by omega) (by omega) (by omega) (by omega) (by omega)]
      rcases hS with hS | ⟨n', l', g1, g2, g3, g4, g5, g6, g7⟩
      · exact .inl hS
      · exact .inr ⟨n', l', g1, g2, g3, g4, g5, g6, fun i hi => by
          rw [hI (20 + 2 * k') i (by omega) (by omega) (by omega) (by omega) (by omega), hI 44 (40 * k' + i) (by omega) (by omega) (by omega) (by omega) (by omega)]
          exact g7 i hi⟩
  · refine ⟨(-1, I), ?_, (-1, I), ?_, rfl, H⟩
    · unfold F_X8_sheet F_X8_sheet_28
      by_cases d : 0 ≤ a1.toInt ∧ a1.toInt ≤ 3
      · obtain ⟨k, rfl, hk, -⟩ := nn d.1
        rw [if_pos (nin (k := k) (N := 4) (by omega) (by decide)), isLane_eq, if_neg fun e => c ⟨d, e⟩, if_pos rfl]
      · rw [if_neg]
        intro q
        rcases nsplit a1 with g | ⟨k, hk, rfl⟩
        · exact q (.inl (by first | omega | (simp (disch := omega) only [Int32.lt_iff_toInt_lt, Int32.le_iff_toInt_le, ← Int32.toInt_inj, on_toInt, on_clamp, ti64, z0, z1, z2, zm1, i0, i1, im1, zz3, zz4, zz5, zz6, zz7, zz8, zz9, zz10, zz11, zz12, zz13, zz14, zz15, zz16, zz17, zz18, zz19, zz20, zz21, zz22, zz23, zz24, zz25, zz26, zz27, zz28, zz29, zz30, zz31, zz32, zz33, zz34, zz35, zz36, zz37, zz38, zz39, zz40, zz41, zz48, zz60, zz64, zz160, zz312, zz320, zzm2, zzm3, zzm4, zzm5, zzm6, zzm7, zzm8, zzm9, zzm10]; done) | (simp (disch := omega) only [Int32.lt_iff_toInt_lt, Int32.le_iff_toInt_le, ← Int32.toInt_inj, on_toInt, on_clamp, ti64, z0, z1, z2, zm1, i0, i1, im1, zz3, zz4, zz5, zz6, zz7, zz8, zz9, zz10, zz11, zz12, zz13, zz14, zz15, zz16, zz17, zz18, zz19, zz20, zz21, zz22, zz23, zz24, zz25, zz26, zz27, zz28, zz29, zz30, zz31, zz32, zz33, zz34, zz35, zz36, zz37, zz38, zz39, zz40, zz41, zz48, zz60, zz64, zz160, zz312, zz320, zzm2, zzm3, zzm4, zzm5, zzm6, zzm7, zzm8, zzm9, zzm10]; omega)))
        · rw [on_toInt hk] at d
          exact q (.inr (by rw [on_clamp hk]; omega))
    · show F_X9_sheet I _ _ _ = _
      unfold F_X9_sheet F_X9_sheet_14
      rw [isSheet_eq, if_neg c, if_pos rfl]
theorem nin2 {k N : Nat} (h : k < N) (hN : N < 2147483648) : ¬ (Int32.ofNat k < 0 ∨ N ≤ k) := by
  have := nin h hN
  rw [on_clamp (n := k) (by omega)] at this
  exact this
/-- what is laid into a cell of this lane -/
def lane (l v : Int32) : Int32 := if l = 0 then Int8.toInt32 (Int32.toInt8 v) else if l = 1 then Int16.toInt32 (Int32.toInt16 v) else v
theorem E_34 {I : WI} {L : WL} {a1 a2 a3 : Int32} (H : Inv I L) : ∃ v, (F_X8_lay I a1 a2 a3) = some v ∧ ∃ w, (F_X9_lay (p2 v) a1 a2 a3) = some w ∧ (p1 v) = (p1 w) ∧ Inv (p2 w) L := by
  by_cases c : 0 ≤ a1.toInt ∧ a1.toInt ≤ 3
  · obtain ⟨k, rfl, hk, -⟩ := nn c.1
    rw [hk] at c
    have hk4 : k < 4 := by omega
    have hnin := nin (k := k) (N := 4) hk4 (by decide)
    have hcl := on_clamp (n := k) (by omega)
    have hnin2 := nin2 (k := k) (N := 4) hk4 (by decide)
    have hsh : F_X9_isSheet (Int32.ofNat k) 0 = 1 := by
      rw [isSheet_eq, hk, z0, if_pos ⟨c, by omega⟩]
    have hS := H.2.2.2.2.2.1 k hk4
    rcases hS with ⟨g1, g2⟩ | ⟨n, l, g1, g2, g3, g4, g5, g6, g7⟩
    · refine ⟨(-11, I), ?_, (-11, I), ?_, rfl, H⟩
      · unfold F_X8_lay F_X3_isNothing F_X3_isNothing_12
        rw [if_pos hnin, sid_on (by omega), g1, if_neg (show ¬ (0 : Int32) ≤ -1 by decide), if_neg (show ¬ (1 : Int32) = 0 by decide)]
      · show F_X9_lay I _ _ _ = _
        unfold F_X9_lay
        rw [hsh, if_neg (show ¬ (1 : Int32) = 0 by decide), if_neg hnin, hcl, g2, if_pos rfl]
    have gn : ¬ Int32.ofNat l = -4 := fun e => absurd (congrArg Int32.toInt e) (by rw [on_toInt (by omega), zzm4]; omega)
    have hno : F_X3_isNothing I (19 + 2 * k) = 0 := by
      unfold F_X3_isNothing F_X3_isNothing_12
      rw [g3, if_pos (by first | omega | (simp (disch := omega) only [Int32.lt_iff_toInt_lt, Int32.le_iff_toInt_le, ← Int32.toInt_inj, on_toInt, on_clamp, ti64, z0, z1, z2, zm1, i0, i1, im1, zz3, zz4, zz5, zz6, zz7, zz8, zz9, zz10, zz11, zz12, zz13, zz14, zz15, zz16, zz17, zz18, zz19, zz20, zz21, zz22, zz23, zz24, zz25, zz26, zz27, zz28, zz29, zz30, zz31, zz32, zz33, zz34, zz35, zz36, zz37, zz38, zz39, zz40, zz41, zz48, zz60, zz64, zz160, zz312, zz320, zzm2, zzm3, zzm4, zzm5, zzm6, zzm7, zzm8, zzm9, zzm10]; done) | (simp (disch := omega) only [Int32.lt_iff_toInt_lt, Int32.le_iff_toInt_le, ← Int32.toInt_inj, on_toInt, on_clamp, ti64, z0, z1, z2, zm1, i0, i1, im1, zz3, zz4, zz5, zz6, zz7, zz8, zz9, zz10, zz11, zz12, zz13, zz14, zz15, zz16, zz17, zz18, zz19, zz20, zz21, zz22, zz23, zz24, zz25, zz26, zz27, zz28, zz29, zz30, zz31, zz32, zz33, zz34, zz35, zz36, zz37, zz38, zz39, zz40, zz41, zz48, zz60, zz64, zz160, zz312, zz320, zzm2, zzm3, zzm4, zzm5, zzm6, zzm7, zzm8, zzm9, zzm10]; omega))]
    have hx : F_X8_lay I (Int32.ofNat k) a2 a3 = Option.bind (F_X3_put I (19 + 2 * k) a2 a3) (fun v3 => (if (p1 v3) = 0 then (F_X8_lay_44 (p2 v3) (Int32.ofNat k) a2 a3 (-12)) else (F_X8_lay_44 (p2 v3) (Int32.ofNat k) a2 a3 1))) := by
      unfold F_X8_lay
      rw [if_pos hnin, sid_on (by omega), hno, if_pos rfl]
    by_cases d : 0 ≤ a2.toInt ∧ a2.toInt < (n : Int)
    · obtain ⟨i, rfl, hi, -⟩ := nn d.1
      rw [hi] at d
      have e1 : F_X8_lay I (Int32.ofNat k) (Int32.ofNat i) a3 = some (1, u2 I (20 + 2 * k) i (lane (Int32.ofNat l) a3)) := by
        rw [hx]
        have : F_X3_put I (19 + 2 * k) (Int32.ofNat i) a3 = some (1, u2 I (20 + 2 * k) i (lane (Int32.ofNat l) a3)) := by
          unfold F_X3_put F_X3_put_60 F_X3_put_61 lane
          rw [g3, g5, if_neg (by first | omega | (simp (disch := omega) only [Int32.lt_iff_toInt_lt, Int32.le_iff_toInt_le, ← Int32.toInt_inj, on_toInt, on_clamp, ti64, z0, z1, z2, zm1, i0, i1, im1, zz3, zz4, zz5, zz6, zz7, zz8, zz9, zz10, zz11, zz12, zz13, zz14, zz15, zz16, zz17, zz18, zz19, zz20, zz21, zz22, zz23, zz24, zz25, zz26, zz27, zz28, zz29, zz30, zz31, zz32, zz33, zz34, zz35, zz36, zz37, zz38, zz39, zz40, zz41, zz48, zz60, zz64, zz160, zz312, zz320, zzm2, zzm3, zzm4, zzm5, zzm6, zzm7, zzm8, zzm9, zzm10]; done) | (simp (disch := omega) only [Int32.lt_iff_toInt_lt, Int32.le_iff_toInt_le, ← Int32.toInt_inj, on_toInt, on_clamp, ti64, z0, z1, z2, zm1, i0, i1, im1, zz3, zz4, zz5, zz6, zz7, zz8, zz9, zz10, zz11, zz12, zz13, zz14, zz15, zz16, zz17, zz18, zz19, zz20, zz21, zz22, zz23, zz24, zz25, zz26, zz27, zz28, zz29, zz30, zz31, zz32, zz33, zz34, zz35, zz36, zz37, zz38, zz39, zz40, zz41, zz48, zz60, zz64, zz160, zz312, zz320, zzm2, zzm3, zzm4, zzm5, zzm6, zzm7, zzm8, zzm9, zzm10]; omega)), if_neg (by first | omega | (simp (disch := omega) only [Int32.lt_iff_toInt_lt, Int32.le_iff_toInt_le, ← Int32.toInt_inj, on_toInt, on_clamp, ti64, z0, z1, z2, zm1, i0, i1, im1, zz3, zz4, zz5, zz6, zz7, zz8, zz9, zz10, zz11, zz12, zz13, zz14, zz15, zz16, zz17, zz18, zz19, zz20, zz21, zz22, zz23, zz24, zz25, zz26, zz27, zz28, zz29, zz30, zz31, zz32, zz33, zz34, zz35, zz36, zz37, zz38, zz39, zz40, zz41, zz48, zz60, zz64, zz160, zz312, zz320, zzm2, zzm3, zzm4, zzm5, zzm6, zzm7, zzm8, zzm9, zzm10]; done) | (simp (disch := omega) only [Int32.lt_iff_toInt_lt, Int32.le_iff_toInt_le, ← Int32.toInt_inj, on_toInt, on_clamp, ti64, z0, z1, z2, zm1, i0, i1, im1, zz3, zz4, zz5, zz6, zz7, zz8, zz9, zz10, zz11, zz12, zz13, zz14, zz15, zz16, zz17, zz18, zz19, zz20, zz21, zz22, zz23, zz24, zz25, zz26, zz27, zz28, zz29, zz30, zz31, zz32, zz33, zz34, zz35, zz36, zz37, zz38, zz39, zz40, zz41, zz48, zz60, zz64, zz160, zz312, zz320, zzm2, zzm3, zzm4, zzm5, zzm6, zzm7, zzm8, zzm9, zzm10]; omega)), if_pos (by first | omega | (simp (disch := omega) only [Int32.lt_iff_toInt_lt, Int32.le_iff_toInt_le, ← Int32.toInt_inj, on_toInt, on_clamp, ti64, z0, z1, z2, zm1, i0, i1, im1, zz3, zz4, zz5, zz6, zz7, zz8, zz9, zz10, zz11, zz12, zz13, zz14, zz15, zz16, zz17, zz18, zz19, zz20, zz21, zz22, zz23, zz24, zz25, zz26, zz27, zz28, zz29, zz30, zz31, zz32, zz33, zz34, zz35, zz36, zz37, zz38, zz39, zz40, zz41, zz48, zz60, zz64, zz160, zz312, zz320, zzm2, zzm3, zzm4, zzm5, zzm6, zzm7, zzm8, zzm9, zzm10]; done) | (simp (disch := omega) only [Int32.lt_iff_toInt_lt, Int32.le_iff_toInt_le, ← Int32.toInt_inj, on_toInt, on_clamp, ti64, z0, z1, z2, zm1, i0, i1, im1, zz3, zz4, zz5, zz6, zz7, zz8, zz9, zz10, zz11, zz12, zz13, zz14, zz15, zz16, zz17, zz18, zz19, zz20, zz21, zz22, zz23, zz24, zz25, zz26, zz27, zz28, zz29, zz30, zz31, zz32, zz33, zz34, zz35, zz36, zz37, zz38, zz39, zz40, zz41, zz48, zz60, zz64, zz160, zz312, zz320, zzm2, zzm3, zzm4, zzm5, zzm6, zzm7, zzm8, zzm9, zzm10]; omega)), if_neg (nin (k := i) (N := 40) (by omega) (by decide)), if_neg (nin (k := i) (N := 40) (by omega) (by decide)), on_clamp (n := i) (by omega), show 19 + 2 * k + 1 = 20 + 2 * k by omega]
          by_cases q0 : Int32.ofNat l = 0
          · rw [if_pos q0, if_pos q0]
          rw [if_neg q0, if_neg q0]
          by_cases q1 : Int32.ofNat l = 1
          · rw [if_pos q1, if_pos q1]
          · rw [if_neg q1, if_neg q1, if_neg (nin2 (k := i) (N := 40) (by omega) (by decide))]
        rw [this]
        rfl
      refine ⟨_, e1, (1, u2 (u2 I (20 + 2 * k) i (lane (Int32.ofNat l) a3)) 44 (40 * k + i) (lane (Int32.ofNat l) a3)), ?_, rfl, ?_⟩
      · show F_X9_lay (u2 I (20 + 2 * k) i (lane (Int32.ofNat l) a3)) _ _ _ = _
        generalize hJ : u2 I (20 + 2 * k) i (lane (Int32.ofNat l) a3) = J
        have j1 : J 42 k = Int32.ofNat l := by rw [← hJ, u2_nc (by omega), g6]
        have j2 : J 43 k = Int32.ofNat n := by rw [← hJ, u2_nc (by omega), g4]
        unfold F_X9_lay F_X9_lay_85
        rw [hsh, if_neg (show ¬ (1 : Int32) = 0 by decide), if_neg hnin, hcl, j1, j2, if_neg gn, if_neg hnin2, in_eq, i0, ti64, on_m1 (by omega), hi, if_pos (show (0 : Int) ≤ (i : Int) ∧ (i : Int) ≤ (n : Int) - 1 by omega), if_neg (show ¬ (1 : Int32) = 0 by decide), if_neg hnin2, lm40, oadd, on_clamp (n := 40 * k + i) (by omega)]
        have hn2 : ¬ (Int32.ofNat (40 * k + i) < 0 ∨ 160 ≤ 40 * k + i) := by
          have := nin (k := 40 * k + i) (N := 160) (by omega) (by decide)
          rw [on_clamp (n := 40 * k + i) (by omega)] at this
          exact this
        unfold lane
        by_cases q0 : Int32.ofNat l = 0
        · rw [if_pos q0, if_neg hn2, if_pos q0]
        rw [if_neg q0, if_neg hnin2, if_neg q0]
        by_cases q1 : Int32.ofNat l = 1
        · rw [if_pos q1, if_neg hn2, if_pos q1]
        · rw [if_neg q1, if_neg hn2, if_neg q1]
      · generalize hv : lane (Int32.ofNat l) a3 = v
        show Inv (u2 (u2 I (20 + 2 * k) i v) 44 (40 * k + i) v) L
        refine H.sheets (fun a b q => ?_) (fun k' hk' => ?_)
        · unfold shc at q
          rw [u2_nc (by omega), u2_nc (by omega)]
        have hS := H.2.2.2.2.2.1 k' hk'
        unfold InvS at hS ⊢
        rw [u2_nc (a := 19 + 2 * k') (b := 0) (by omega), u2_nc (a := 19 + 2 * k') (b := 0) (by omega), u2_nc (a := 42) (by omega), u2_nc (a := 42) (by omega), u2_nc (a := 43) (by omega), u2_nc (a := 43) (by omega), u2_nc (a := 19 + 2 * k') (b := 1) (by omega), u2_nc (a := 19 + 2 * k') (b := 1) (by omega)]
        rcases hS with hS | ⟨n', l', f1, f2, f3, f4, f5, f6, f7⟩
        · exact .inl hS
        · refine .inr ⟨n', l', f1, f2, f3, f4, f5, f6, fun j hj => ?_⟩
          rw [u2_nc (k := 44) (by omega)]
          by_cases q : k' = k ∧ j = i
          · rw [q.1, q.2, u2_at, u2_at]
          · rw [u2_nc (by omega), u2_nc (by omega), u2_nc (by omega)]
            exact f7 j hj
    · refine ⟨(-12, I), ?_, (-12, I), ?_, rfl, H⟩
      · rw [hx]
        have : F_X3_put I (19 + 2 * k) a2 a3 = some (0, I) := by
          unfold F_X3_put F_X3_put_21
          rw [g3]
          by_cases q : a2.toInt < 0
          · rw [if_pos (by first | omega | (simp (disch := omega) only [Int32.lt_iff_toInt_lt, Int32.le_iff_toInt_le, ← Int32.toInt_inj, on_toInt, on_clamp, ti64, z0, z1, z2, zm1, i0, i1, im1, zz3, zz4, zz5, zz6, zz7, zz8, zz9, zz10, zz11, zz12, zz13, zz14, zz15, zz16, zz17, zz18, zz19, zz20, zz21, zz22, zz23, zz24, zz25, zz26, zz27, zz28, zz29, zz30, zz31, zz32, zz33, zz34, zz35, zz36, zz37, zz38, zz39, zz40, zz41, zz48, zz60, zz64, zz160, zz312, zz320, zzm2, zzm3, zzm4, zzm5, zzm6, zzm7, zzm8, zzm9, zzm10]; done) | (simp (disch := omega) only [Int32.lt_iff_toInt_lt, Int32.le_iff_toInt_le, ← Int32.toInt_inj, on_toInt, on_clamp, ti64, z0, z1, z2, zm1, i0, i1, im1, zz3, zz4, zz5, zz6, zz7, zz8, zz9, zz10, zz11, zz12, zz13, zz14, zz15, zz16, zz17, zz18, zz19, zz20, zz21, zz22, zz23, zz24, zz25, zz26, zz27, zz28, zz29, zz30, zz31, zz32, zz33, zz34, zz35, zz36, zz37, zz38, zz39, zz40, zz41, zz48, zz60, zz64, zz160, zz312, zz320, zzm2, zzm3, zzm4, zzm5, zzm6, zzm7, zzm8, zzm9, zzm10]; omega))]
          · rw [if_neg (by first | omega | (simp (disch := omega) only [Int32.lt_iff_toInt_lt, Int32.le_iff_toInt_le, ← Int32.toInt_inj, on_toInt, on_clamp, ti64, z0, z1, z2, zm1, i0, i1, im1, zz3, zz4, zz5, zz6, zz7, zz8, zz9, zz10, zz11, zz12, zz13, zz14, zz15, zz16, zz17, zz18, zz19, zz20, zz21, zz22, zz23, zz24, zz25, zz26, zz27, zz28, zz29, zz30, zz31, zz32, zz33, zz34, zz35, zz36, zz37, zz38, zz39, zz40, zz41, zz48, zz60, zz64, zz160, zz312, zz320, zzm2, zzm3, zzm4, zzm5, zzm6, zzm7, zzm8, zzm9, zzm10]; done) | (simp (disch := omega) only [Int32.lt_iff_toInt_lt, Int32.le_iff_toInt_le, ← Int32.toInt_inj, on_toInt, on_clamp, ti64, z0, z1, z2, zm1, i0, i1, im1, zz3, zz4, zz5, zz6, zz7, zz8, zz9, zz10, zz11, zz12, zz13, zz14, zz15, zz16, zz17, zz18, zz19, zz20, zz21, zz22, zz23, zz24, zz25, zz26, zz27, zz28, zz29, zz30, zz31, zz32, zz33, zz34, zz35, zz36, zz37, zz38, zz39, zz40, zz41, zz48, zz60, zz64, zz160, zz312, zz320, zzm2, zzm3, zzm4, zzm5, zzm6, zzm7, zzm8, zzm9, zzm10]; omega)), if_pos (by first | omega | (simp (disch := omega) only [Int32.lt_iff_toInt_lt, Int32.le_iff_toInt_le, ← Int32.toInt_inj, on_toInt, on_clamp, ti64, z0, z1, z2, zm1, i0, i1, im1, zz3, zz4, zz5, zz6, zz7, zz8, zz9, zz10, zz11, zz12, zz13, zz14, zz15, zz16, zz17, zz18, zz19, zz20, zz21, zz22, zz23, zz24, zz25, zz26, zz27, zz28, zz29, zz30, zz31, zz32, zz33, zz34, zz35, zz36, zz37, zz38, zz39, zz40, zz41, zz48, zz60, zz64, zz160, zz312, zz320, zzm2, zzm3, zzm4, zzm5, zzm6, zzm7, zzm8, zzm9, zzm10]; done) | (simp (disch := omega) only [Int32.lt_iff_toInt_lt, Int32.le_iff_toInt_le, ← Int32.toInt_inj, on_toInt, on_clamp, ti64, z0, z1, z2, zm1, i0, i1, im1, zz3, zz4, zz5, zz6, zz7, zz8, zz9, zz10, zz11, zz12, zz13, zz14, zz15, zz16, zz17, zz18, zz19, zz20, zz21, zz22, zz23, zz24, zz25, zz26, zz27, zz28, zz29, zz30, zz31, zz32, zz33, zz34, zz35, zz36, zz37, zz38, zz39, zz40, zz41, zz48, zz60, zz64, zz160, zz312, zz320, zzm2, zzm3, zzm4, zzm5, zzm6, zzm7, zzm8, zzm9, zzm10]; omega))]
        rw [this]
        rfl
      · show F_X9_lay I _ _ _ = _
        unfold F_X9_lay
        rw [hsh, if_neg (show ¬ (1 : Int32) = 0 by decide), if_neg hnin, hcl, g6, g4, if_neg gn, if_neg hnin2, in_eq, i0, ti64, on_m1 (by omega), if_neg (show ¬ (0 ≤ a2.toInt ∧ a2.toInt ≤ (n : Int) - 1) by omega), if_pos rfl]
  · refine ⟨(-1, I), ?_, (-1, I), ?_, rfl, H⟩
    · unfold F_X8_lay
      rw [if_neg]
      intro q
      rcases nsplit a1 with g | ⟨k, hk, rfl⟩
      · exact q (.inl (by first | omega | (simp (disch := omega) only [Int32.lt_iff_toInt_lt, Int32.le_iff_toInt_le, ← Int32.toInt_inj, on_toInt, on_clamp, ti64, z0, z1, z2, zm1, i0, i1, im1, zz3, zz4, zz5, zz6, zz7, zz8, zz9, zz10, zz11, zz12, zz13, zz14, zz15, zz16, zz17, zz18, zz19, zz20, zz21, zz22, zz23, zz24, zz25, zz26, zz27, zz28, zz29, zz30, zz31, zz32, zz33, zz34, zz35, zz36, zz37, zz38, zz39, zz40, zz41, zz48, zz60, zz64, zz160, zz312, zz320, zzm2, zzm3, zzm4, zzm5, zzm6, zzm7, zzm8, zzm9, zzm10]; done) | (simp (disch := omega) only [Int32.lt_iff_toInt_lt, Int32.le_iff_toInt_le, ← Int32.toInt_inj, on_toInt, on_clamp, ti64, z0, z1, z2, zm1, i0, i1, im1, zz3, zz4, zz5, zz6, zz7, zz8, zz9, zz10, zz11, zz12, zz13, zz14, zz15, zz16, zz17, zz18, zz19, zz20, zz21, zz22, zz23, zz24, zz25, zz26, zz27, zz28, zz29, zz30, zz31, zz32, zz33, zz34, zz35, zz36, zz37, zz38, zz39, zz40, zz41, zz48, zz60, zz64, zz160, zz312, zz320, zzm2, zzm3, zzm4, zzm5, zzm6, zzm7, zzm8, zzm9, zzm10]; omega)))
      · rw [on_toInt hk] at c
        exact q (.inr (by rw [on_clamp hk]; omega))
    · show F_X9_lay I _ _ _ = _
      unfold F_X9_lay
      rw [isSheet_eq, if_neg (show ¬ ((0 ≤ a1.toInt ∧ a1.toInt ≤ 3) ∧ 0 ≤ (0 : Int32).toInt ∧ (0 : Int32).toInt ≤ 2) from fun e => c e.1), if_pos rfl]
/-! acts read of a sheet -/
theorem tl_add {a b : Int64} (h : -9223372036854775808 ≤ a.toInt + b.toInt) (h' : a.toInt + b.toInt < 9223372036854775808) : (a + b).toInt = a.toInt + b.toInt := by
  rw [Int64.toInt_add]
  exact Int.bmod_eq_of_le (by omega) (by omega)
/-- the first that is not good, of m from i on -/
def fb (g : Nat → Bool) : Nat → Nat → Option Nat
  | 0, _ => none
  | m + 1, i => if g i = true then fb g m (i + 1) else some i
theorem fr1_fb {R : Type} {f : Int32 → Unit → R ⊕ Unit} {W : Nat} (hW : W < 2147483648) (g : Nat → Bool) (r : Nat → R) (h1 : ∀ i, i < W → g i = true → f (Int32.ofNat i) () = .inr ()) (h2 : ∀ i, i < W → g i = false → f (Int32.ofNat i) () = .inl (r i)) : ∀ (m i : Nat), i + m = W → ∃ e, fr1 f (Int32.ofNat W) m (Int32.ofNat i) () = match fb g m i with
    | some j => .inl (r j)
    | none => .inr e := by
  intro m
  induction m with
  | zero => intro i hi; exact ⟨(Int32.ofNat i, ()), by rw [fr1]; rfl⟩
  | succ m ih =>
    intro i hi
    rw [fr1]
    have hl : ¬ Int32.ofNat W ≤ Int32.ofNat i := by
      rw [Int32.le_iff_toInt_le, on_toInt hW, on_toInt (by omega)]
      omega
    rw [if_neg hl]
    unfold fb
    cases hg : g i
    · rw [h2 i (by omega) hg, if_neg (by decide)]
      exact ⟨(0, ()), rfl⟩
    · rw [h1 i (by omega) hg, if_pos rfl, la1]
      exact ih (i + 1) (by omega)
theorem read_in {I : WI} {L : WL} {k lane i : Nat} {f a4 a6 : Int32} (hk : k < 4) (hi : i ≤ 20) {x s : Int32} (h42 : I 42 k = x) (h43 : I 43 k = s) (hs : x ≠ -4 → 0 ≤ s.toInt ∧ s.toInt ≤ 40) : lpp (fun y => F_X9_read_47_2 I L (Int32.ofNat k) (Int32.ofNat lane) f a4 a6 (Int32.ofNat i) (p1 y) (p2 y)) 4294967296 (0, 0) = some (if x = -4 then 1 else if x = Int32.ofNat lane then (if 0 ≤ f.toInt + 2 * i ∧ f.toInt + 2 * i + 1 < s.toInt then 0 else 2) else 3) := by
  have hnin := nin (k := k) (N := 4) hk (by decide)
  have hcl := on_clamp (n := k) (by omega)
  have f1 := f.toInt_lt
  have f2 := f.le_toInt
  have hpos : ∀ c : Nat, c < 2 → ((Int32.toInt64 f) + (Int32.toInt64 (2 * Int32.ofNat i)) + (Int32.toInt64 (Int32.ofNat c))).toInt = f.toInt + 2 * i + c := by
    intro c hc
    have e1 : (Int32.toInt64 f + Int32.toInt64 (2 * Int32.ofNat i)).toInt = f.toInt + 2 * i := by
      rw [lm2, tl_add] <;> rw [ti64, ti64, on_toInt (by omega)] <;> omega
    rw [tl_add] <;> rw [e1, ti64, on_toInt (by omega)] <;> omega
  have hlt : ∀ c : Nat, c < 2 → ∀ z : Int64, (lg_cmp ((Int32.toInt64 f) + (Int32.toInt64 (2 * Int32.ofNat i)) + (Int32.toInt64 (Int32.ofNat c))) z < 0 ↔ f.toInt + 2 * i + c < z.toInt) := by
    intro c hc z
    rw [lg_cmp_lt, Int64.lt_iff_toInt_lt, hpos c hc]
  have hend : ∀ q : Int32, ∀ y : Int32 × Int32, (2 ≤ p2 y ∨ ¬ p1 y = 0) → F_X9_read_47_2 I L (Int32.ofNat k) (Int32.ofNat lane) f a4 a6 (Int32.ofNat i) (p1 y) (p2 y) = some (.inl (p1 y)) := by
    intro q y hy
    unfold F_X9_read_47_2
    by_cases c : 2 ≤ p2 y
    · rw [if_pos c]
    · rw [if_neg c, if_neg (hy.resolve_left c)]
  have hstep : ∀ c : Nat, c < 2 → F_X9_read_47_2 I L (Int32.ofNat k) (Int32.ofNat lane) f a4 a6 (Int32.ofNat i) 0 (Int32.ofNat c) = some (.inr (if x = -4 then 1 else if x = Int32.ofNat lane then (if 0 ≤ f.toInt + 2 * i + c ∧ f.toInt + 2 * i + c < s.toInt then 0 else 2) else 3, Int32.ofNat (c + 1))) := by
    intro c hc
    unfold F_X9_read_47_2 F_X9_read_126_2 F_X9_read_121_2 F_X9_read_126_2
    rw [if_neg (by first | omega | (simp (disch := omega) only [Int32.lt_iff_toInt_lt, Int32.le_iff_toInt_le, ← Int32.toInt_inj, on_toInt, on_clamp, ti64, z0, z1, z2, zm1, i0, i1, im1, zz3, zz4, zz5, zz6, zz7, zz8, zz9, zz10, zz11, zz12, zz13, zz14, zz15, zz16, zz17, zz18, zz19, zz20, zz21, zz22, zz23, zz24, zz25, zz26, zz27, zz28, zz29, zz30, zz31, zz32, zz33, zz34, zz35, zz36, zz37, zz38, zz39, zz40, zz41, zz48, zz60, zz64, zz160, zz312, zz320, zzm2, zzm3, zzm4, zzm5, zzm6, zzm7, zzm8, zzm9, zzm10]; done) | (simp (disch := omega) only [Int32.lt_iff_toInt_lt, Int32.le_iff_toInt_le, ← Int32.toInt_inj, on_toInt, on_clamp, ti64, z0, z1, z2, zm1, i0, i1, im1, zz3, zz4, zz5, zz6, zz7, zz8, zz9, zz10, zz11, zz12, zz13, zz14, zz15, zz16, zz17, zz18, zz19, zz20, zz21, zz22, zz23, zz24, zz25, zz26, zz27, zz28, zz29, zz30, zz31, zz32, zz33, zz34, zz35, zz36, zz37, zz38, zz39, zz40, zz41, zz48, zz60, zz64, zz160, zz312, zz320, zzm2, zzm3, zzm4, zzm5, zzm6, zzm7, zzm8, zzm9, zzm10]; omega)), if_pos rfl, if_neg hnin, hcl, h42, h43, la1]
    by_cases c1 : x = -4
    · rw [if_pos c1, if_pos c1]
    rw [if_neg c1, if_neg c1, if_neg (nin2 (k := k) (N := 4) hk (by decide))]
    by_cases c2 : x = Int32.ofNat lane
    · rw [if_pos c2, if_pos c2]
      by_cases c3 : f.toInt + 2 * i + c < 0
      · rw [if_pos ((hlt c hc 0).mpr (by rw [i0]; exact c3)), if_neg (by omega)]
      · rw [if_neg fun q => c3 (by have := (hlt c hc 0).mp q; rw [i0] at this; exact this), if_neg (nin2 (k := k) (N := 4) hk (by decide))]
        by_cases c4 : f.toInt + 2 * i + c < s.toInt
        · rw [if_pos ((hlt c hc _).mpr (by rw [ti64]; exact c4)), if_pos (by omega)]
        · rw [if_neg fun q => c4 (by have := (hlt c hc _).mp q; rw [ti64] at this; exact this), if_neg (by omega)]
    · rw [if_neg c2, if_neg c2]
  have e0 := hstep 0 (by decide)
  rw [show (4294967296 : Nat) = 4294967295 + 1 from rfl, lpp_r (f := fun y => F_X9_read_47_2 I L (Int32.ofNat k) (Int32.ofNat lane) f a4 a6 (Int32.ofNat i) (p1 y) (p2 y)) (s := (0, 0)) e0]
  rw [show (4294967295 : Nat) = 4294967294 + 1 from rfl]
  by_cases c1 : x = -4
  · rw [if_pos c1, if_pos c1]
    exact lpp_l (f := fun y => F_X9_read_47_2 I L (Int32.ofNat k) (Int32.ofNat lane) f a4 a6 (Int32.ofNat i) (p1 y) (p2 y)) (s := (1, Int32.ofNat (0 + 1))) (hend 0 (1, Int32.ofNat (0 + 1)) (.inr (show ¬ (1 : Int32) = 0 by decide)))
  rw [if_neg c1, if_neg c1]
  by_cases c2 : x = Int32.ofNat lane
  · rw [if_pos c2, if_pos c2]
    have hsz := hs c1
    by_cases c3 : 0 ≤ f.toInt + 2 * i + (0 : Nat) ∧ f.toInt + 2 * i + (0 : Nat) < s.toInt
    · rw [if_pos c3]
      have e1 := hstep 1 (by decide)
      rw [if_neg c1, if_pos c2] at e1
      rw [lpp_r (f := fun y => F_X9_read_47_2 I L (Int32.ofNat k) (Int32.ofNat lane) f a4 a6 (Int32.ofNat i) (p1 y) (p2 y)) (s := (0, Int32.ofNat (0 + 1))) e1]
      rw [show (4294967294 : Nat) = 4294967293 + 1 from rfl]
      rw [lpp_l (f := fun y => F_X9_read_47_2 I L (Int32.ofNat k) (Int32.ofNat lane) f a4 a6 (Int32.ofNat i) (p1 y) (p2 y)) (hend 0 (_, Int32.ofNat (1 + 1)) (.inl (show (2 : Int32) ≤ Int32.ofNat (1 + 1) by decide)))]
      show some (if _ then (0 : Int32) else 2) = _
      by_cases c4 : 0 ≤ f.toInt + 2 * i ∧ f.toInt + 2 * i + 1 < s.toInt
      · rw [if_pos (by omega), if_pos c4]
      · rw [if_neg (by omega), if_neg c4]
    · rw [if_neg c3, if_neg (by omega)]
      exact lpp_l (f := fun y => F_X9_read_47_2 I L (Int32.ofNat k) (Int32.ofNat lane) f a4 a6 (Int32.ofNat i) (p1 y) (p2 y)) (s := (2, Int32.ofNat (0 + 1))) (hend 0 (2, Int32.ofNat (0 + 1)) (.inr (show ¬ (2 : Int32) = 0 by decide)))
  · rw [if_neg c2, if_neg c2]
    exact lpp_l (f := fun y => F_X9_read_47_2 I L (Int32.ofNat k) (Int32.ofNat lane) f a4 a6 (Int32.ofNat i) (p1 y) (p2 y)) (s := (3, Int32.ofNat (0 + 1))) (hend 0 (3, Int32.ofNat (0 + 1)) (.inr (show ¬ (3 : Int32) = 0 by decide)))
theorem cell_eq {I : WI} {o m j : Nat} (e : I o 0 = Int32.ofNat m) (hm : m ≤ 40) (hj : j < m) : F_X3_cell I o (Int32.ofNat j) = I (o + 1) j := by
  unfold F_X3_cell F_X3_cell_31
  rw [e, if_neg (by first | omega | (simp (disch := omega) only [Int32.lt_iff_toInt_lt, Int32.le_iff_toInt_le, ← Int32.toInt_inj, on_toInt, on_clamp, ti64, z0, z1, z2, zm1, i0, i1, im1, zz3, zz4, zz5, zz6, zz7, zz8, zz9, zz10, zz11, zz12, zz13, zz14, zz15, zz16, zz17, zz18, zz19, zz20, zz21, zz22, zz23, zz24, zz25, zz26, zz27, zz28, zz29, zz30, zz31, zz32, zz33, zz34, zz35, zz36, zz37, zz38, zz39, zz40, zz41, zz48, zz60, zz64, zz160, zz312, zz320, zzm2, zzm3, zzm4, zzm5, zzm6, zzm7, zzm8, zzm9, zzm10]; done) | (simp (disch := omega) only [Int32.lt_iff_toInt_lt, Int32.le_iff_toInt_le, ← Int32.toInt_inj, on_toInt, on_clamp, ti64, z0, z1, z2, zm1, i0, i1, im1, zz3, zz4, zz5, zz6, zz7, zz8, zz9, zz10, zz11, zz12, zz13, zz14, zz15, zz16, zz17, zz18, zz19, zz20, zz21, zz22, zz23, zz24, zz25, zz26, zz27, zz28, zz29, zz30, zz31, zz32, zz33, zz34, zz35, zz36, zz37, zz38, zz39, zz40, zz41, zz48, zz60, zz64, zz160, zz312, zz320, zzm2, zzm3, zzm4, zzm5, zzm6, zzm7, zzm8, zzm9, zzm10]; omega)), if_neg (by first | omega | (simp (disch := omega) only [Int32.lt_iff_toInt_lt, Int32.le_iff_toInt_le, ← Int32.toInt_inj, on_toInt, on_clamp, ti64, z0, z1, z2, zm1, i0, i1, im1, zz3, zz4, zz5, zz6, zz7, zz8, zz9, zz10, zz11, zz12, zz13, zz14, zz15, zz16, zz17, zz18, zz19, zz20, zz21, zz22, zz23, zz24, zz25, zz26, zz27, zz28, zz29, zz30, zz31, zz32, zz33, zz34, zz35, zz36, zz37, zz38, zz39, zz40, zz41, zz48, zz60, zz64, zz160, zz312, zz320, zzm2, zzm3, zzm4, zzm5, zzm6, zzm7, zzm8, zzm9, zzm10]; done) | (simp (disch := omega) only [Int32.lt_iff_toInt_lt, Int32.le_iff_toInt_le, ← Int32.toInt_inj, on_toInt, on_clamp, ti64, z0, z1, z2, zm1, i0, i1, im1, zz3, zz4, zz5, zz6, zz7, zz8, zz9, zz10, zz11, zz12, zz13, zz14, zz15, zz16, zz17, zz18, zz19, zz20, zz21, zz22, zz23, zz24, zz25, zz26, zz27, zz28, zz29, zz30, zz31, zz32, zz33, zz34, zz35, zz36, zz37, zz38, zz39, zz40, zz41, zz48, zz60, zz64, zz160, zz312, zz320, zzm2, zzm3, zzm4, zzm5, zzm6, zzm7, zzm8, zzm9, zzm10]; omega)), if_neg (by first | omega | (simp (disch := omega) only [Int32.lt_iff_toInt_lt, Int32.le_iff_toInt_le, ← Int32.toInt_inj, on_toInt, on_clamp, ti64, z0, z1, z2, zm1, i0, i1, im1, zz3, zz4, zz5, zz6, zz7, zz8, zz9, zz10, zz11, zz12, zz13, zz14, zz15, zz16, zz17, zz18, zz19, zz20, zz21, zz22, zz23, zz24, zz25, zz26, zz27, zz28, zz29, zz30, zz31, zz32, zz33, zz34, zz35, zz36, zz37, zz38, zz39, zz40, zz41, zz48, zz60, zz64, zz160, zz312, zz320, zzm2, zzm3, zzm4, zzm5, zzm6, zzm7, zzm8, zzm9, zzm10]; done) | (simp (disch := omega) only [Int32.lt_iff_toInt_lt, Int32.le_iff_toInt_le, ← Int32.toInt_inj, on_toInt, on_clamp, ti64, z0, z1, z2, zm1, i0, i1, im1, zz3, zz4, zz5, zz6, zz7, zz8, zz9, zz10, zz11, zz12, zz13, zz14, zz15, zz16, zz17, zz18, zz19, zz20, zz21, zz22, zz23, zz24, zz25, zz26, zz27, zz28, zz29, zz30, zz31, zz32, zz33, zz34, zz35, zz36, zz37, zz38, zz39, zz40, zz41, zz48, zz60, zz64, zz160, zz312, zz320, zzm2, zzm3, zzm4, zzm5, zzm6, zzm7, zzm8, zzm9, zzm10]; omega)), on_clamp (by omega)]
/-- what is known of a sheet that is read from f on, n acts of lane l: W come, RE is the fault that ends them, FD the class's own -/
def rdk (I : WI) (k l n : Nat) (f : Int32) (F W : Nat) (RE FD : Int32) : Prop :=
  W ≤ n ∧ RE ≠ 0 ∧ (0 < W → f = Int32.ofNat F) ∧ (∀ i, i < W → F + 2 * i + 1 < 40 ∧ F_X3_cell I (19 + 2 * k) (Int32.ofNat (F + 2 * i)) = I 44 (40 * k + (F + 2 * i)) ∧ F_X3_cell I (19 + 2 * k) (Int32.ofNat (F + 2 * i + 1)) = I 44 (40 * k + (F + 2 * i + 1))) ∧ (if FD = 0 then (if n ≤ W then FD else 2) else FD) = (if n ≤ W then 0 else RE) ∧ (FD ≠ 0 → W = 0) ∧ (FD = 0 → (if (F_X3_pairsFrom I (19 + 2 * k) f) < Int32.ofNat n then (F_X3_pairsFrom I (19 + 2 * k) f) else Int32.ofNat n) = Int32.ofNat W) ∧ FD = (if n = 0 then 0 else F_X3_faultOfLane I (19 + 2 * k) (Int32.ofNat l)) ∧
  ∀ (J : WI) (K : WL) (a4 a6 : Int32) (i : Nat), J 42 k = I 42 k → J 43 k = I 43 k → i < n → i ≤ W → lpp (fun y => F_X9_read_47_2 J K (Int32.ofNat k) (Int32.ofNat l) f a4 a6 (Int32.ofNat i) (p1 y) (p2 y)) 4294967296 (0, 0) = some (if i < W then 0 else RE)
theorem rdk_of {I : WI} {k l n : Nat} {f : Int32} (hk : k < 4) (hl : l ≤ 2) (hn : n ≤ 20) (hS : InvS I k) : ∃ F W RE FD, rdk I k l n f F W RE FD := by
  rcases hS with ⟨g1, g2⟩ | ⟨m, l', g1, g2, g3, g4, g5, g6, g7⟩
  · have hno : F_X3_isNothing I (19 + 2 * k) = 1 := by
      unfold F_X3_isNothing F_X3_isNothing_12
      rw [g1, if_neg (by decide)]
    have hf : F_X3_faultOfLane I (19 + 2 * k) (Int32.ofNat l) = 1 := by
      unfold F_X3_faultOfLane
      rw [hno, if_neg (by decide)]
    have hp : F_X3_pairsFrom I (19 + 2 * k) f = 0 := by
      unfold F_X3_pairsFrom F_X3_pairsFrom_23 F_X3_pairsFrom_24
      rw [g1]
      by_cases c : f.toInt < 0
      · rw [if_pos (by first | omega | (simp (disch := omega) only [Int32.lt_iff_toInt_lt, Int32.le_iff_toInt_le, ← Int32.toInt_inj, on_toInt, on_clamp, ti64, z0, z1, z2, zm1, i0, i1, im1, zz3, zz4, zz5, zz6, zz7, zz8, zz9, zz10, zz11, zz12, zz13, zz14, zz15, zz16, zz17, zz18, zz19, zz20, zz21, zz22, zz23, zz24, zz25, zz26, zz27, zz28, zz29, zz30, zz31, zz32, zz33, zz34, zz35, zz36, zz37, zz38, zz39, zz40, zz41, zz48, zz60, zz64, zz160, zz312, zz320, zzm2, zzm3, zzm4, zzm5, zzm6, zzm7, zzm8, zzm9, zzm10]; done) | (simp (disch := omega) only [Int32.lt_iff_toInt_lt, Int32.le_iff_toInt_le, ← Int32.toInt_inj, on_toInt, on_clamp, ti64, z0, z1, z2, zm1, i0, i1, im1, zz3, zz4, zz5, zz6, zz7, zz8, zz9, zz10, zz11, zz12, zz13, zz14, zz15, zz16, zz17, zz18, zz19, zz20, zz21, zz22, zz23, zz24, zz25, zz26, zz27, zz28, zz29, zz30, zz31, zz32, zz33, zz34, zz35, zz36, zz37, zz38, zz39, zz40, zz41, zz48, zz60, zz64, zz160, zz312, zz320, zzm2, zzm3, zzm4, zzm5, zzm6, zzm7, zzm8, zzm9, zzm10]; omega))]
      · rw [if_neg (by first | omega | (simp (disch := omega) only [Int32.lt_iff_toInt_lt, Int32.le_iff_toInt_le, ← Int32.toInt_inj, on_toInt, on_clamp, ti64, z0, z1, z2, zm1, i0, i1, im1, zz3, zz4, zz5, zz6, zz7, zz8, zz9, zz10, zz11, zz12, zz13, zz14, zz15, zz16, zz17, zz18, zz19, zz20, zz21, zz22, zz23, zz24, zz25, zz26, zz27, zz28, zz29, zz30, zz31, zz32, zz33, zz34, zz35, zz36, zz37, zz38, zz39, zz40, zz41, zz48, zz60, zz64, zz160, zz312, zz320, zzm2, zzm3, zzm4, zzm5, zzm6, zzm7, zzm8, zzm9, zzm10]; done) | (simp (disch := omega) only [Int32.lt_iff_toInt_lt, Int32.le_iff_toInt_le, ← Int32.toInt_inj, on_toInt, on_clamp, ti64, z0, z1, z2, zm1, i0, i1, im1, zz3, zz4, zz5, zz6, zz7, zz8, zz9, zz10, zz11, zz12, zz13, zz14, zz15, zz16, zz17, zz18, zz19, zz20, zz21, zz22, zz23, zz24, zz25, zz26, zz27, zz28, zz29, zz30, zz31, zz32, zz33, zz34, zz35, zz36, zz37, zz38, zz39, zz40, zz41, zz48, zz60, zz64, zz160, zz312, zz320, zzm2, zzm3, zzm4, zzm5, zzm6, zzm7, zzm8, zzm9, zzm10]; omega)), if_pos (by first | omega | (simp (disch := omega) only [Int32.lt_iff_toInt_lt, Int32.le_iff_toInt_le, ← Int32.toInt_inj, on_toInt, on_clamp, ti64, z0, z1, z2, zm1, i0, i1, im1, zz3, zz4, zz5, zz6, zz7, zz8, zz9, zz10, zz11, zz12, zz13, zz14, zz15, zz16, zz17, zz18, zz19, zz20, zz21, zz22, zz23, zz24, zz25, zz26, zz27, zz28, zz29, zz30, zz31, zz32, zz33, zz34, zz35, zz36, zz37, zz38, zz39, zz40, zz41, zz48, zz60, zz64, zz160, zz312, zz320, zzm2, zzm3, zzm4, zzm5, zzm6, zzm7, zzm8, zzm9, zzm10]; done) | (simp (disch := omega) only [Int32.lt_iff_toInt_lt, Int32.le_iff_toInt_le, ← Int32.toInt_inj, on_toInt, on_clamp, ti64, z0, z1, z2, zm1, i0, i1, im1, zz3, zz4, zz5, zz6, zz7, zz8, zz9, zz10, zz11, zz12, zz13, zz14, zz15, zz16, zz17, zz18, zz19, zz20, zz21, zz22, zz23, zz24, zz25, zz26, zz27, zz28, zz29, zz30, zz31, zz32, zz33, zz34, zz35, zz36, zz37, zz38, zz39, zz40, zz41, zz48, zz60, zz64, zz160, zz312, zz320, zzm2, zzm3, zzm4, zzm5, zzm6, zzm7, zzm8, zzm9, zzm10]; omega))]
    refine ⟨0, 0, 1, if n = 0 then 0 else 1, Nat.zero_le _, by decide, fun h => absurd h (by omega), fun i hi => absurd hi (by omega), ?_, fun _ => rfl, fun q => ?_, by rw [hf], fun J K a4 a6 i j1 j2 hi hW => ?_⟩
    · by_cases c : n = 0
      · rw [if_pos c, if_pos rfl, if_pos (by omega), if_pos (by omega)]
      · rw [if_neg c, if_neg (by decide), if_neg (by omega)]
    · by_cases c : n = 0
      · rw [hp, c, if_neg (by decide)]
      · rw [if_neg c] at q
        exact absurd q (by decide)
    · rw [read_in hk (by omega) (j1.trans g2) j2 (fun h => absurd rfl h), if_pos rfl, if_neg (by omega)]
  · have gn : ¬ Int32.ofNat l' = -4 := fun e => absurd (congrArg Int32.toInt e) (by rw [on_toInt (by omega), zzm4]; omega)
    have hno : F_X3_isNothing I (19 + 2 * k) = 0 := by
      unfold F_X3_isNothing F_X3_isNothing_12
      rw [g3, if_pos (by first | omega | (simp (disch := omega) only [Int32.lt_iff_toInt_lt, Int32.le_iff_toInt_le, ← Int32.toInt_inj, on_toInt, on_clamp, ti64, z0, z1, z2, zm1, i0, i1, im1, zz3, zz4, zz5, zz6, zz7, zz8, zz9, zz10, zz11, zz12, zz13, zz14, zz15, zz16, zz17, zz18, zz19, zz20, zz21, zz22, zz23, zz24, zz25, zz26, zz27, zz28, zz29, zz30, zz31, zz32, zz33, zz34, zz35, zz36, zz37, zz38, zz39, zz40, zz41, zz48, zz60, zz64, zz160, zz312, zz320, zzm2, zzm3, zzm4, zzm5, zzm6, zzm7, zzm8, zzm9, zzm10]; done) | (simp (disch := omega) only [Int32.lt_iff_toInt_lt, Int32.le_iff_toInt_le, ← Int32.toInt_inj, on_toInt, on_clamp, ti64, z0, z1, z2, zm1, i0, i1, im1, zz3, zz4, zz5, zz6, zz7, zz8, zz9, zz10, zz11, zz12, zz13, zz14, zz15, zz16, zz17, zz18, zz19, zz20, zz21, zz22, zz23, zz24, zz25, zz26, zz27, zz28, zz29, zz30, zz31, zz32, zz33, zz34, zz35, zz36, zz37, zz38, zz39, zz40, zz41, zz48, zz60, zz64, zz160, zz312, zz320, zzm2, zzm3, zzm4, zzm5, zzm6, zzm7, zzm8, zzm9, zzm10]; omega))]
    have hf : F_X3_faultOfLane I (19 + 2 * k) (Int32.ofNat l) = if l' = l then 0 else 3 := by
      unfold F_X3_faultOfLane F_X3_faultOfLane_22
      rw [hno, if_pos rfl, g5]
      by_cases c : l' = l
      · rw [if_pos (by rw [c]), if_pos c]
      · rw [if_neg fun q => c (on_inj (by omega) (by omega) q), if_neg c]
    -- how many pairs
    have hP : ∃ F P : Nat, (0 < P → f = Int32.ofNat F) ∧ F_X3_pairsFrom I (19 + 2 * k) f = Int32.ofNat P ∧ P ≤ 20 ∧ (∀ i, i < P → F + 2 * i + 1 < m) ∧ ∀ i : Nat, (0 ≤ f.toInt + 2 * i ∧ f.toInt + 2 * i + 1 < (m : Int)) → (i ≤ P → i < P) := by
      by_cases c : f.toInt < 0
      · refine ⟨0, 0, fun h => absurd h (by omega), ?_, by decide, fun i hi => absurd hi (by omega), fun i q r => by omega⟩
        unfold F_X3_pairsFrom F_X3_pairsFrom_23 F_X3_pairsFrom_24
        rw [if_pos (by first | omega | (simp (disch := omega) only [Int32.lt_iff_toInt_lt, Int32.le_iff_toInt_le, ← Int32.toInt_inj, on_toInt, on_clamp, ti64, z0, z1, z2, zm1, i0, i1, im1, zz3, zz4, zz5, zz6, zz7, zz8, zz9, zz10, zz11, zz12, zz13, zz14, zz15, zz16, zz17, zz18, zz19, zz20, zz21, zz22, zz23, zz24, zz25, zz26, zz27, zz28, zz29, zz30, zz31, zz32, zz33, zz34, zz35, zz36, zz37, zz38, zz39, zz40, zz41, zz48, zz60, zz64, zz160, zz312, zz320, zzm2, zzm3, zzm4, zzm5, zzm6, zzm7, zzm8, zzm9, zzm10]; done) | (simp (disch := omega) only [Int32.lt_iff_toInt_lt, Int32.le_iff_toInt_le, ← Int32.toInt_inj, on_toInt, on_clamp, ti64, z0, z1, z2, zm1, i0, i1, im1, zz3, zz4, zz5, zz6, zz7, zz8, zz9, zz10, zz11, zz12, zz13, zz14, zz15, zz16, zz17, zz18, zz19, zz20, zz21, zz22, zz23, zz24, zz25, zz26, zz27, zz28, zz29, zz30, zz31, zz32, zz33, zz34, zz35, zz36, zz37, zz38, zz39, zz40, zz41, zz48, zz60, zz64, zz160, zz312, zz320, zzm2, zzm3, zzm4, zzm5, zzm6, zzm7, zzm8, zzm9, zzm10]; omega))]
        rfl
      obtain ⟨F, rfl, hF, _⟩ := nn (show 0 ≤ f.toInt by omega)
      rw [hF]
      by_cases d : F < m
      · refine ⟨F, (m - F) / 2, fun _ => rfl, ?_, by omega, fun i hi => by omega, fun i q _ => by omega⟩
        unfold F_X3_pairsFrom F_X3_pairsFrom_24
        rw [g3, if_neg (by first | omega | (simp (disch := omega) only [Int32.lt_iff_toInt_lt, Int32.le_iff_toInt_le, ← Int32.toInt_inj, on_toInt, on_clamp, ti64, z0, z1, z2, zm1, i0, i1, im1, zz3, zz4, zz5, zz6, zz7, zz8, zz9, zz10, zz11, zz12, zz13, zz14, zz15, zz16, zz17, zz18, zz19, zz20, zz21, zz22, zz23, zz24, zz25, zz26, zz27, zz28, zz29, zz30, zz31, zz32, zz33, zz34, zz35, zz36, zz37, zz38, zz39, zz40, zz41, zz48, zz60, zz64, zz160, zz312, zz320, zzm2, zzm3, zzm4, zzm5, zzm6, zzm7, zzm8, zzm9, zzm10]; done) | (simp (disch := omega) only [Int32.lt_iff_toInt_lt, Int32.le_iff_toInt_le, ← Int32.toInt_inj, on_toInt, on_clamp, ti64, z0, z1, z2, zm1, i0, i1, im1, zz3, zz4, zz5, zz6, zz7, zz8, zz9, zz10, zz11, zz12, zz13, zz14, zz15, zz16, zz17, zz18, zz19, zz20, zz21, zz22, zz23, zz24, zz25, zz26, zz27, zz28, zz29, zz30, zz31, zz32, zz33, zz34, zz35, zz36, zz37, zz38, zz39, zz40, zz41, zz48, zz60, zz64, zz160, zz312, zz320, zzm2, zzm3, zzm4, zzm5, zzm6, zzm7, zzm8, zzm9, zzm10]; omega)), if_neg (by first | omega | (simp (disch := omega) only [Int32.lt_iff_toInt_lt, Int32.le_iff_toInt_le, ← Int32.toInt_inj, on_toInt, on_clamp, ti64, z0, z1, z2, zm1, i0, i1, im1, zz3, zz4, zz5, zz6, zz7, zz8, zz9, zz10, zz11, zz12, zz13, zz14, zz15, zz16, zz17, zz18, zz19, zz20, zz21, zz22, zz23, zz24, zz25, zz26, zz27, zz28, zz29, zz30, zz31, zz32, zz33, zz34, zz35, zz36, zz37, zz38, zz39, zz40, zz41, zz48, zz60, zz64, zz160, zz312, zz320, zzm2, zzm3, zzm4, zzm5, zzm6, zzm7, zzm8, zzm9, zzm10]; done) | (simp (disch := omega) only [Int32.lt_iff_toInt_lt, Int32.le_iff_toInt_le, ← Int32.toInt_inj, on_toInt, on_clamp, ti64, z0, z1, z2, zm1, i0, i1, im1, zz3, zz4, zz5, zz6, zz7, zz8, zz9, zz10, zz11, zz12, zz13, zz14, zz15, zz16, zz17, zz18, zz19, zz20, zz21, zz22, zz23, zz24, zz25, zz26, zz27, zz28, zz29, zz30, zz31, zz32, zz33, zz34, zz35, zz36, zz37, zz38, zz39, zz40, zz41, zz48, zz60, zz64, zz160, zz312, zz320, zzm2, zzm3, zzm4, zzm5, zzm6, zzm7, zzm8, zzm9, zzm10]; omega)), on_sub (by omega)]
        have hd : ∀ x, x < 41 → Int32.ofNat x / 2 = Int32.ofNat (x / 2) := by decide
        exact hd _ (by omega)
      · refine ⟨F, 0, fun h => absurd h (by omega), ?_, by decide, fun i hi => absurd hi (by omega), fun i q _ => by omega⟩
        unfold F_X3_pairsFrom F_X3_pairsFrom_23 F_X3_pairsFrom_24
        rw [g3, if_neg (by first | omega | (simp (disch := omega) only [Int32.lt_iff_toInt_lt, Int32.le_iff_toInt_le, ← Int32.toInt_inj, on_toInt, on_clamp, ti64, z0, z1, z2, zm1, i0, i1, im1, zz3, zz4, zz5, zz6, zz7, zz8, zz9, zz10, zz11, zz12, zz13, zz14, zz15, zz16, zz17, zz18, zz19, zz20, zz21, zz22, zz23, zz24, zz25, zz26, zz27, zz28, zz29, zz30, zz31, zz32, zz33, zz34, zz35, zz36, zz37, zz38, zz39, zz40, zz41, zz48, zz60, zz64, zz160, zz312, zz320, zzm2, zzm3, zzm4, zzm5, zzm6, zzm7, zzm8, zzm9, zzm10]; done) | (simp (disch := omega) only [Int32.lt_iff_toInt_lt, Int32.le_iff_toInt_le, ← Int32.toInt_inj, on_toInt, on_clamp, ti64, z0, z1, z2, zm1, i0, i1, im1, zz3, zz4, zz5, zz6, zz7, zz8, zz9, zz10, zz11, zz12, zz13, zz14, zz15, zz16, zz17, zz18, zz19, zz20, zz21, zz22, zz23, zz24, zz25, zz26, zz27, zz28, zz29, zz30, zz31, zz32, zz33, zz34, zz35, zz36, zz37, zz38, zz39, zz40, zz41, zz48, zz60, zz64, zz160, zz312, zz320, zzm2, zzm3, zzm4, zzm5, zzm6, zzm7, zzm8, zzm9, zzm10]; omega)), if_pos (by first | omega | (simp (disch := omega) only [Int32.lt_iff_toInt_lt, Int32.le_iff_toInt_le, ← Int32.toInt_inj, on_toInt, on_clamp, ti64, z0, z1, z2, zm1, i0, i1, im1, zz3, zz4, zz5, zz6, zz7, zz8, zz9, zz10, zz11, zz12, zz13, zz14, zz15, zz16, zz17, zz18, zz19, zz20, zz21, zz22, zz23, zz24, zz25, zz26, zz27, zz28, zz29, zz30, zz31, zz32, zz33, zz34, zz35, zz36, zz37, zz38, zz39, zz40, zz41, zz48, zz60, zz64, zz160, zz312, zz320, zzm2, zzm3, zzm4, zzm5, zzm6, zzm7, zzm8, zzm9, zzm10]; done) | (simp (disch := omega) only [Int32.lt_iff_toInt_lt, Int32.le_iff_toInt_le, ← Int32.toInt_inj, on_toInt, on_clamp, ti64, z0, z1, z2, zm1, i0, i1, im1, zz3, zz4, zz5, zz6, zz7, zz8, zz9, zz10, zz11, zz12, zz13, zz14, zz15, zz16, zz17, zz18, zz19, zz20, zz21, zz22, zz23, zz24, zz25, zz26, zz27, zz28, zz29, zz30, zz31, zz32, zz33, zz34, zz35, zz36, zz37, zz38, zz39, zz40, zz41, zz48, zz60, zz64, zz160, zz312, zz320, zzm2, zzm3, zzm4, zzm5, zzm6, zzm7, zzm8, zzm9, zzm10]; omega))]
        rfl
    obtain ⟨F, P, hP1, hP2, hP3, hP4, hP5⟩ := hP
    have hcell : ∀ i, i < P → F + 2 * i + 1 < 40 ∧ F_X3_cell I (19 + 2 * k) (Int32.ofNat (F + 2 * i)) = I 44 (40 * k + (F + 2 * i)) ∧ F_X3_cell I (19 + 2 * k) (Int32.ofNat (F + 2 * i + 1)) = I 44 (40 * k + (F + 2 * i + 1)) := by
      intro i hi
      have := hP4 i hi
      refine ⟨by omega, ?_, ?_⟩
      · rw [cell_eq g3 g1 (by omega), show 19 + 2 * k + 1 = 20 + 2 * k by omega, g7 _ (by omega)]
      · rw [cell_eq g3 g1 (by omega), show 19 + 2 * k + 1 = 20 + 2 * k by omega, g7 _ (by omega)]
    have hmin : (if (F_X3_pairsFrom I (19 + 2 * k) f) < Int32.ofNat n then (F_X3_pairsFrom I (19 + 2 * k) f) else Int32.ofNat n) = Int32.ofNat (if P < n then P else n) := by
      rw [hP2]
      by_cases c : P < n
      · rw [if_pos (by first | omega | (simp (disch := omega) only [Int32.lt_iff_toInt_lt, Int32.le_iff_toInt_le, ← Int32.toInt_inj, on_toInt, on_clamp, ti64, z0, z1, z2, zm1, i0, i1, im1, zz3, zz4, zz5, zz6, zz7, zz8, zz9, zz10, zz11, zz12, zz13, zz14, zz15, zz16, zz17, zz18, zz19, zz20, zz21, zz22, zz23, zz24, zz25, zz26, zz27, zz28, zz29, zz30, zz31, zz32, zz33, zz34, zz35, zz36, zz37, zz38, zz39, zz40, zz41, zz48, zz60, zz64, zz160, zz312, zz320, zzm2, zzm3, zzm4, zzm5, zzm6, zzm7, zzm8, zzm9, zzm10]; done) | (simp (disch := omega) only [Int32.lt_iff_toInt_lt, Int32.le_iff_toInt_le, ← Int32.toInt_inj, on_toInt, on_clamp, ti64, z0, z1, z2, zm1, i0, i1, im1, zz3, zz4, zz5, zz6, zz7, zz8, zz9, zz10, zz11, zz12, zz13, zz14, zz15, zz16, zz17, zz18, zz19, zz20, zz21, zz22, zz23, zz24, zz25, zz26, zz27, zz28, zz29, zz30, zz31, zz32, zz33, zz34, zz35, zz36, zz37, zz38, zz39, zz40, zz41, zz48, zz60, zz64, zz160, zz312, zz320, zzm2, zzm3, zzm4, zzm5, zzm6, zzm7, zzm8, zzm9, zzm10]; omega)), if_pos c]
      · rw [if_neg (by first | omega | (simp (disch := omega) only [Int32.lt_iff_toInt_lt, Int32.le_iff_toInt_le, ← Int32.toInt_inj, on_toInt, on_clamp, ti64, z0, z1, z2, zm1, i0, i1, im1, zz3, zz4, zz5, zz6, zz7, zz8, zz9, zz10, zz11, zz12, zz13, zz14, zz15, zz16, zz17, zz18, zz19, zz20, zz21, zz22, zz23, zz24, zz25, zz26, zz27, zz28, zz29, zz30, zz31, zz32, zz33, zz34, zz35, zz36, zz37, zz38, zz39, zz40, zz41, zz48, zz60, zz64, zz160, zz312, zz320, zzm2, zzm3, zzm4, zzm5, zzm6, zzm7, zzm8, zzm9, zzm10]; done) | (simp (disch := omega) only [Int32.lt_iff_toInt_lt, Int32.le_iff_toInt_le, ← Int32.toInt_inj, on_toInt, on_clamp, ti64, z0, z1, z2, zm1, i0, i1, im1, zz3, zz4, zz5, zz6, zz7, zz8, zz9, zz10, zz11, zz12, zz13, zz14, zz15, zz16, zz17, zz18, zz19, zz20, zz21, zz22, zz23, zz24, zz25, zz26, zz27, zz28, zz29, zz30, zz31, zz32, zz33, zz34, zz35, zz36, zz37, zz38, zz39, zz40, zz41, zz48, zz60, zz64, zz160, zz312, zz320, zzm2, zzm3, zzm4, zzm5, zzm6, zzm7, zzm8, zzm9, zzm10]; omega)), if_neg c]
    by_cases c : l' = l
    · subst c
      rw [if_pos rfl] at hf
      refine ⟨F, if P < n then P else n, 2, 0, ?_, by decide, fun h => hP1 (by split at h <;> omega), fun i hi => hcell i (by split at hi <;> omega), ?_, fun h => absurd rfl h, fun _ => hmin, by rw [hf]; split <;> rfl, fun J K a4 a6 i j1 j2 hi hW => ?_⟩
      · split <;> omega
      · rw [if_pos rfl]
      · rw [read_in hk (by omega) (j1.trans g6) (j2.trans g4) (fun _ => by rw [on_toInt (by omega)]; omega), if_neg gn, if_pos rfl, on_toInt (by omega)]
        by_cases d : i < (if P < n then P else n)
        · rw [if_pos d]
          have hiP : i < P := by split at d <;> omega
          have h0 : f = Int32.ofNat F := hP1 (by omega)
          have h1 := hP4 i hiP
          rw [h0, on_toInt (show F < 2147483648 by omega), if_pos (by omega)]
        · rw [if_neg d, if_neg]
          intro q
          have := hP5 i q (by split at hW <;> omega)
          split at d <;> omega
    · rw [if_neg c] at hf
      by_cases d : n = 0
      · refine ⟨F, 0, 3, 0, Nat.zero_le _, by decide, fun h => absurd h (by omega), fun i hi => absurd hi (by omega), ?_, fun h => absurd rfl h, fun _ => ?_, by rw [if_pos d], fun J K a4 a6 i j1 j2 hi hW => absurd hi (by omega)⟩
        · rw [if_pos rfl, if_pos (by omega), if_pos (by omega)]
        · rw [hmin, if_neg (by omega), d]
      · refine ⟨F, 0, 3, 3, Nat.zero_le _, by decide, fun h => absurd h (by omega), fun i hi => absurd hi (by omega), ?_, fun _ => rfl, fun q => absurd q (by decide), by rw [if_neg d, hf], fun J K a4 a6 i j1 j2 hi hW => ?_⟩
        · rw [if_neg (by decide), if_neg (by omega)]
        · rw [read_in hk (by omega) (j1.trans g6) (j2.trans g4) (fun _ => by rw [on_toInt (by omega)]; omega), if_neg gn, if_neg fun q => c (on_inj (by omega) (by omega) q), if_neg (by omega)]
theorem ge_on {a b : Nat} (ha : a < 2147483648) (hb : b < 2147483648) : Int32.ofNat a ≤ Int32.ofNat b ↔ a ≤ b := by
  rw [Int32.le_iff_toInt_le, on_toInt ha, on_toInt hb]
  omega
theorem E_35 {I : WI} {L : WL} {a1 a2 a3 a4 : Int32} (H : Inv I L) : ∃ w, (F_X9_read (p1 (p2 (F_X8_read I L a1 a2 a3 a4))) (p2 (p2 (F_X8_read I L a1 a2 a3 a4))) a1 a2 a3 a4) = some w ∧ (p1 (F_X8_read I L a1 a2 a3 a4)) = (p1 w) ∧ Inv (p1 (p2 w)) (p2 (p2 w)) := by
  have H' := H
  obtain ⟨⟨h, w, ⟨hC, c1, c2, c3, c4, c5, c6, c7⟩, h2⟩, k0, k1, h3, h4, h5, h6⟩ := H
  by_cases c : ((0 ≤ a1.toInt ∧ a1.toInt ≤ 3) ∧ 0 ≤ a2.toInt ∧ a2.toInt ≤ 2) ∧ 0 ≤ a4.toInt ∧ a4.toInt ≤ 20
  · obtain ⟨k, rfl, hk, -⟩ := nn c.1.1.1
    obtain ⟨l, rfl, hl, -⟩ := nn c.1.2.1
    obtain ⟨n, rfl, hn, -⟩ := nn c.2.1
    rw [hk, hl, hn] at c
    have hk4 : k < 4 := by omega
    have hnin := nin (k := k) (N := 4) hk4 (by decide)
    obtain ⟨F, W, RE, FD, w1, w2, w3, w4, w5, w6, w7, w8, w9⟩ := rdk_of (f := a3) hk4 (show l ≤ 2 by omega) (show n ≤ 20 by omega) (h5 k hk4)
    -- the acts, which are good
    generalize hA : (fun i => F_X9_actSet I (I 44 (40 * k + (F + 2 * i))) (I 44 (40 * k + (F + 2 * i + 1))) : Nat → Int64) = A
    generalize hg : (fun i => decide (0 ≤ (I 44 (40 * k + (F + 2 * i + 1))).toInt ∧ (I 44 (40 * k + (F + 2 * i + 1))).toInt < lz (I 44 (40 * k + (F + 2 * i))) h w) : Nat → Bool) = g
    have hgi : ∀ i, g i = true ↔ (0 ≤ (I 44 (40 * k + (F + 2 * i + 1))).toInt ∧ (I 44 (40 * k + (F + 2 * i + 1))).toInt < lz (I 44 (40 * k + (F + 2 * i))) h w) := by
      intro i
      rw [← hg]
      exact decide_eq_true_iff
    have hpos : ∀ i, i < W → a3 + 2 * Int32.ofNat i = Int32.ofNat (F + 2 * i) := by
      intro i hi
      rw [w3 (by omega), lm2, oadd]
    -- the class
    have e0 : F_X8_read I L (Int32.ofNat k) (Int32.ofNat l) a3 (Int32.ofNat n) = F_X8_read_73 I L (Int32.ofNat k) (Int32.ofNat l) a3 (Int32.ofNat n) (19 + 2 * k) FD (Int32.ofNat W) := by
      have hW0 : ∀ x : Int32, x = FD → F_X8_read_51 I L (Int32.ofNat k) (Int32.ofNat l) a3 (Int32.ofNat n) (19 + 2 * k) x = F_X8_read_73 I L (Int32.ofNat k) (Int32.ofNat l) a3 (Int32.ofNat n) (19 + 2 * k) FD (Int32.ofNat W) := by
        intro x hx
        subst hx
        unfold F_X8_read_51
        by_cases q : x = 0
        · rw [if_pos q, w7 q]
        · rw [if_neg q, w6 q]
          rfl
      unfold F_X8_read
      rw [if_pos hnin, isLane_eq, hl, if_pos c.1.2, if_neg (show ¬ (1 : Int32) = 0 by decide), if_neg (by first | omega | (simp (disch := omega) only [Int32.lt_iff_toInt_lt, Int32.le_iff_toInt_le, ← Int32.toInt_inj, on_toInt, on_clamp, ti64, z0, z1, z2, zm1, i0, i1, im1, zz3, zz4, zz5, zz6, zz7, zz8, zz9, zz10, zz11, zz12, zz13, zz14, zz15, zz16, zz17, zz18, zz19, zz20, zz21, zz22, zz23, zz24, zz25, zz26, zz27, zz28, zz29, zz30, zz31, zz32, zz33, zz34, zz35, zz36, zz37, zz38, zz39, zz40, zz41, zz48, zz60, zz64, zz160, zz312, zz320, zzm2, zzm3, zzm4, zzm5, zzm6, zzm7, zzm8, zzm9, zzm10]; done) | (simp (disch := omega) only [Int32.lt_iff_toInt_lt, Int32.le_iff_toInt_le, ← Int32.toInt_inj, on_toInt, on_clamp, ti64, z0, z1, z2, zm1, i0, i1, im1, zz3, zz4, zz5, zz6, zz7, zz8, zz9, zz10, zz11, zz12, zz13, zz14, zz15, zz16, zz17, zz18, zz19, zz20, zz21, zz22, zz23, zz24, zz25, zz26, zz27, zz28, zz29, zz30, zz31, zz32, zz33, zz34, zz35, zz36, zz37, zz38, zz39, zz40, zz41, zz48, zz60, zz64, zz160, zz312, zz320, zzm2, zzm3, zzm4, zzm5, zzm6, zzm7, zzm8, zzm9, zzm10]; omega)), if_pos (by first | omega | (simp (disch := omega) only [Int32.lt_iff_toInt_lt, Int32.le_iff_toInt_le, ← Int32.toInt_inj, on_toInt, on_clamp, ti64, z0, z1, z2, zm1, i0, i1, im1, zz3, zz4, zz5, zz6, zz7, zz8, zz9, zz10, zz11, zz12, zz13, zz14, zz15, zz16, zz17, zz18, zz19, zz20, zz21, zz22, zz23, zz24, zz25, zz26, zz27, zz28, zz29, zz30, zz31, zz32, zz33, zz34, zz35, zz36, zz37, zz38, zz39, zz40, zz41, zz48, zz60, zz64, zz160, zz312, zz320, zzm2, zzm3, zzm4, zzm5, zzm6, zzm7, zzm8, zzm9, zzm10]; done) | (simp (disch := omega) only [Int32.lt_iff_toInt_lt, Int32.le_iff_toInt_le, ← Int32.toInt_inj, on_toInt, on_clamp, ti64, z0, z1, z2, zm1, i0, i1, im1, zz3, zz4, zz5, zz6, zz7, zz8, zz9, zz10, zz11, zz12, zz13, zz14, zz15, zz16, zz17, zz18, zz19, zz20, zz21, zz22, zz23, zz24, zz25, zz26, zz27, zz28, zz29, zz30, zz31, zz32, zz33, zz34, zz35, zz36, zz37, zz38, zz39, zz40, zz41, zz48, zz60, zz64, zz160, zz312, zz320, zzm2, zzm3, zzm4, zzm5, zzm6, zzm7, zzm8, zzm9, zzm10]; omega)), sid_on (by omega)]
      by_cases q : n = 0
      · rw [if_pos (by rw [q]; rfl)]
        exact hW0 0 (by rw [w8, if_pos q])
      · rw [if_neg fun e => q (on_inj (by omega) (by decide) (e.trans (show (0 : Int32) = Int32.ofNat 0 from rfl)))]
        exact hW0 _ (by rw [w8, if_neg q])
    have e1 : F_X8_read_73 I L (Int32.ofNat k) (Int32.ofNat l) a3 (Int32.ofNat n) (19 + 2 * k) FD (Int32.ofNat W) = match fb g W 0 with
        | some j => (-20 - Int32.ofNat j, I, L)
        | none => (Int32.ofNat W, u2 I 0 14 (if n ≤ W then 0 else RE), u2 L 1 3 (gi A W (L 1 3))) := by
      unfold F_X8_read_73 F_X8_read_78
      obtain ⟨e, he⟩ := fr1_fb (f := fun i x => F_X8_read_85_1 I L (Int32.ofNat k) (Int32.ofNat l) a3 (Int32.ofNat n) (19 + 2 * k) FD (Int32.ofNat W) i) (W := W) (by omega) g (fun i => (-20 - Int32.ofNat i, I, L)) (fun i hi hgt => by
        show F_X8_read_85_1 I L _ _ a3 _ _ FD _ (Int32.ofNat i) = _
        unfold F_X8_read_85_1
        rw [hpos i hi, la1, (w4 i hi).2.1, (w4 i hi).2.2, line_eq hC c1 c2, if_pos ((hgi i).mp hgt), if_neg (by decide)]) (fun i hi hgf => by
        show F_X8_read_85_1 I L _ _ a3 _ _ FD _ (Int32.ofNat i) = _
        unfold F_X8_read_85_1
        rw [hpos i hi, la1, (w4 i hi).2.1, (w4 i hi).2.2, line_eq hC c1 c2, if_neg fun q => absurd ((hgi i).mpr q) (by rw [hgf]; decide), if_pos rfl]) W 0 (by omega)
      have hfu : fu 0 (Int32.ofNat W) = W := by
        unfold fu
        rw [on_toInt (by omega), z0]
        omega
      rw [hfu, show (0 : Int32) = Int32.ofNat 0 from rfl, he]
      cases hfb : fb g W 0 with
      | some j => rfl
      | none =>
        show F_X8_read_131 I L (Int32.ofNat k) (Int32.ofNat l) a3 (Int32.ofNat n) (19 + 2 * k) FD (Int32.ofNat W) = _
        unfold F_X8_read_131
        show F_X8_read_190 I (p2 (fr0 (fun i x => F_X8_read_141_2 I x (Int32.ofNat k) (Int32.ofNat l) a3 (Int32.ofNat n) (19 + 2 * k) FD (Int32.ofNat W) i) (Int32.ofNat W) (fu 0 (Int32.ofNat W)) 0 L)) (Int32.ofNat k) (Int32.ofNat l) a3 (Int32.ofNat n) FD (Int32.ofNat W) = _
        have hx : p2 (fr0 (fun i x => F_X8_read_141_2 I x (Int32.ofNat k) (Int32.ofNat l) a3 (Int32.ofNat n) (19 + 2 * k) FD (Int32.ofNat W) i) (Int32.ofNat W) (fu 0 (Int32.ofNat W)) 0 L) = u2 L 1 3 (gi A W (L 1 3)) := by
          rw [fr0_it (by omega)]
          -- all are good
          have hall : ∀ m i, fb g m i = none → ∀ j, i ≤ j → j < i + m → g j = true := by
            intro m
            induction m with
            | zero => intro i _ j h1 h2; omega
            | succ m ih =>
              intro i hi j h1 h2
              unfold fb at hi
              by_cases q : g i = true
              · rw [if_pos q] at hi
                by_cases d : j = i
                · rw [d]; exact q
                · exact ih (i + 1) hi j (by omega) (by omega)
              · rw [if_neg q] at hi
                exact absurd hi (by simp)
          refine it_ind (P := fun i s => s = u2 L 1 3 (gi A i (L 1 3))) u2_id.symm (fun i s hi hs => ?_)
          show F_X8_read_141_2 I s _ _ a3 _ _ FD _ (Int32.ofNat i) = _
          have hgt := (hgi i).mp (hall W 0 hfb i (by omega) (by omega))
          unfold F_X8_read_141_2
          rw [hpos i hi, la1, (w4 i hi).2.1, (w4 i hi).2.2, sq_eq hC c1 c2 c3 c4 (lz_kind hgt.1 hgt.2), hs, u2_u2, u2_at, ← hA]
          rfl
        rw [hx]
        show _ = (Int32.ofNat W, u2 I 0 14 (if n ≤ W then 0 else RE), u2 L 1 3 (gi A W (L 1 3)))
        unfold F_X8_read_190 F_X8_read_207 F_X8_read_209
        rw [← w5]
        by_cases q : FD = 0
        · rw [if_pos q, if_pos q]
          by_cases d : n ≤ W
          · rw [if_pos ((ge_on (by omega) (by omega)).mpr d), if_pos d]
          · rw [if_neg fun r => d ((ge_on (by omega) (by omega)).mp r), if_neg d]
        · rw [if_neg q, if_neg q]
    -- all are good
    have hall : ∀ m i, fb g m i = none → ∀ j, i ≤ j → j < i + m → g j = true := by
      intro m
      induction m with
      | zero => intro i _ j h1 h2; omega
      | succ m ih =>
        intro i hi j h1 h2
        unfold fb at hi
        by_cases q : g i = true
        · rw [if_pos q] at hi
          by_cases d : j = i
          · rw [d]; exact q
          · exact ih (i + 1) hi j (by omega) (by omega)
        · rw [if_neg q] at hi
          exact absurd hi (by simp)
    -- the reference
    have e2 : ∀ (J : WI) (K : WL), (∀ a b, ¬ (a = 0 ∧ b = 14) → J a b = I a b) → F_X9_read J K (Int32.ofNat k) (Int32.ofNat l) a3 (Int32.ofNat n) = match fb g W 0 with
        | some j => some (-20 - Int32.ofNat j, J, K)
        | none => some (Int32.ofNat W, u2 J 33 46 (if n ≤ W then 0 else RE), u2 K 33 2 (gi A W (K 33 2))) := by
      intro J K hJ
      have j42 : J 42 k = I 42 k := hJ 42 k (by omega)
      have j43 : J 43 k = I 43 k := hJ 43 k (by omega)
      have j44 : ∀ b, J 44 b = I 44 b := fun b => hJ 44 b (by omega)
      have jpos : ∀ i, i < W → (40 * Int32.ofNat k) + a3 + (2 * Int32.ofNat i) = Int32.ofNat (40 * k + (F + 2 * i)) := by
        intro i hi
        rw [w3 (by omega), lm40, lm2, oadd, oadd, show 40 * k + F + 2 * i = 40 * k + (F + 2 * i) by omega]
      have jact : ∀ a b, F_X9_isAct J a b = some (if 0 ≤ b.toInt ∧ b.toInt < lz a h w then 1 else 0) := fun a b => isAct_eq hC ((hJ 33 0 (by omega)).trans c3) ((hJ 33 1 (by omega)).trans c4)
      have hloop : ∀ (m fuel i : Nat), i + m = W → m + 2 < fuel → lpp (fun x => F_X9_read_32_1 J K (Int32.ofNat k) (Int32.ofNat l) a3 (Int32.ofNat n) (p1 x) (p1 (p2 x)) (p2 (p2 x))) fuel (0, Int32.ofNat i, Int32.ofNat i) = match fb g m i with
          | some j => some (.inl (-20 - Int32.ofNat j, J, K))
          | none => some (.inr (if n ≤ W then 0 else RE, Int32.ofNat W)) := by
        intro m
        induction m with
        | zero =>
          intro fuel i hi hf
          obtain ⟨fuel, rfl⟩ : ∃ f, fuel = f + 2 := ⟨fuel - 2, by omega⟩
          have hiW : i = W := by omega
          subst hiW
          show _ = some (Sum.inr (if n ≤ i then 0 else RE, Int32.ofNat i))
          by_cases d : n ≤ i
          · rw [if_pos d]
            refine lpp_l ?_
            show F_X9_read_32_1 J K _ _ a3 _ 0 (Int32.ofNat i) (Int32.ofNat i) = _
            unfold F_X9_read_32_1
            rw [if_pos ((ge_on (by omega) (by omega)).mpr d)]
          · rw [if_neg d]
            have hs : F_X9_read_32_1 J K (Int32.ofNat k) (Int32.ofNat l) a3 (Int32.ofNat n) 0 (Int32.ofNat i) (Int32.ofNat i) = some (.inr (RE, Int32.ofNat i, Int32.ofNat (i + 1))) := by
              unfold F_X9_read_32_1 F_X9_read_47_1
              rw [if_neg fun q => d ((ge_on (by omega) (by omega)).mp q), if_pos rfl, w9 J K _ _ i j42 j43 (by omega) (Nat.le_refl _), if_neg (Nat.lt_irrefl i), ob_some]
              unfold F_X9_read_134_1 F_X9_read_184_1
              rw [if_neg w2, la1]
            rw [lpp_r (f := fun x => F_X9_read_32_1 J K (Int32.ofNat k) (Int32.ofNat l) a3 (Int32.ofNat n) (p1 x) (p1 (p2 x)) (p2 (p2 x))) (s := (0, Int32.ofNat i, Int32.ofNat i)) hs]
            refine lpp_l ?_
            show F_X9_read_32_1 J K _ _ a3 _ RE (Int32.ofNat i) (Int32.ofNat (i + 1)) = _
            unfold F_X9_read_32_1
            by_cases d2 : Int32.ofNat n ≤ Int32.ofNat (i + 1)
            · rw [if_pos d2]
            · rw [if_neg d2, if_neg w2]
        | succ m ih =>
          intro fuel i hi hf
          obtain ⟨fuel, rfl⟩ : ∃ f, fuel = f + 1 := ⟨fuel - 1, by omega⟩
          have hb : F_X9_read_32_1 J K (Int32.ofNat k) (Int32.ofNat l) a3 (Int32.ofNat n) 0 (Int32.ofNat i) (Int32.ofNat i) = if g i = true then some (.inr (0, Int32.ofNat (i + 1), Int32.ofNat (i + 1))) else some (.inl (.inl (-20 - Int32.ofNat i, J, K))) := by
            unfold F_X9_read_32_1 F_X9_read_47_1
            rw [if_neg fun q => absurd ((ge_on (by omega) (by omega)).mp q) (by omega), if_pos rfl, w9 J K _ _ i j42 j43 (by omega) (by omega), if_pos (show i < W by omega), ob_some]
            unfold F_X9_read_134_1 F_X9_read_184_1
            have hF := (w4 i (by omega)).1
            rw [if_pos rfl, jpos i (by omega), la1, la1, if_neg (nin (k := 40 * k + (F + 2 * i)) (N := 160) (by omega) (by decide)), if_neg (nin (k := 40 * k + (F + 2 * i) + 1) (N := 160) (by omega) (by decide)), on_clamp (n := 40 * k + (F + 2 * i)) (by omega), on_clamp (n := 40 * k + (F + 2 * i) + 1) (by omega), j44, j44, jact, ob_some, show 40 * k + (F + 2 * i) + 1 = 40 * k + (F + 2 * i + 1) by omega]
            by_cases q : g i = true
            · rw [if_pos q, if_pos ((hgi i).mp q), if_neg (show ¬ (1 : Int32) = 0 by decide)]
            · rw [if_neg q, if_neg fun r => q ((hgi i).mpr r), if_pos rfl]
          unfold fb
          by_cases q : g i = true
          · rw [if_pos q] at hb
            rw [if_pos q, lpp_r (f := fun x => F_X9_read_32_1 J K (Int32.ofNat k) (Int32.ofNat l) a3 (Int32.ofNat n) (p1 x) (p1 (p2 x)) (p2 (p2 x))) (s := (0, Int32.ofNat i, Int32.ofNat i)) hb]
            exact ih fuel (i + 1) (by omega) (by omega)
          · rw [if_neg q] at hb
            rw [if_neg q]
            exact lpp_l (f := fun x => F_X9_read_32_1 J K (Int32.ofNat k) (Int32.ofNat l) a3 (Int32.ofNat n) (p1 x) (p1 (p2 x)) (p2 (p2 x))) (s := (0, Int32.ofNat i, Int32.ofNat i)) hb
      unfold F_X9_read
      rw [isSheet_eq, hk, hl, if_pos c.1, if_neg (show ¬ (1 : Int32) = 0 by decide), in_eq, i0, hn, show (20 : Int64).toInt = 20 by decide, if_pos c.2, if_neg (show ¬ (1 : Int32) = 0 by decide)]
      unfold F_X9_read_32
      have hl0 := hloop W 4294967296 0 (by omega) (by omega)
      rw [show (0 : Int32) = Int32.ofNat 0 from rfl] at hl0 ⊢
      rw [hl0]
      cases hfb : fb g W 0 with
      | some j => rfl
      | none =>
        show F_X9_read_190 J K (Int32.ofNat k) (Int32.ofNat l) a3 (Int32.ofNat n) (if n ≤ W then 0 else RE) (Int32.ofNat W) = some (Int32.ofNat W, u2 J 33 46 (if n ≤ W then 0 else RE), u2 K 33 2 (gi A W (K 33 2)))
        generalize (if n ≤ W then (0 : Int32) else RE) = T
        unfold F_X9_read_190 F_X9_read_199
        have hset : ∀ a b, F_X9_actSet (u2 J 33 46 T) a b = F_X9_actSet I a b := fun a b => by
          rw [actSet_cw, actSet_cw I, u2_nc (a := 33) (b := 0) (by omega), u2_nc (a := 33) (b := 1) (by omega), hJ 33 0 (by omega), hJ 33 1 (by omega)]
        have hAi : ∀ i, A i = F_X9_actSet I (I 44 (40 * k + (F + 2 * i))) (I 44 (40 * k + (F + 2 * i + 1))) := fun i => by rw [← hA]
        obtain ⟨e, r1, r2⟩ := frp0_nat (g := fun i x => F_X9_read_206_3 (u2 J 33 46 T) x (Int32.ofNat k) (Int32.ofNat l) a3 (Int32.ofNat n) (Int32.ofNat W) i) (b := W) (by omega) (fun i s => s = u2 K 33 2 (gi A i (K 33 2))) (s := K) (fun i s hi hs => by
          refine ⟨u2 s 33 2 (s 33 2 ^^^ A i), ?_, by rw [hs, u2_u2, u2_at]; rfl⟩
          show F_X9_read_206_3 (u2 J 33 46 T) s _ _ a3 _ _ (Int32.ofNat i) = _
          unfold F_X9_read_206_3
          have hF := (w4 i hi).1
          rw [jpos i hi, la1, if_neg (nin (k := 40 * k + (F + 2 * i)) (N := 160) (by omega) (by decide)), if_neg (nin (k := 40 * k + (F + 2 * i) + 1) (N := 160) (by omega) (by decide)), on_clamp (n := 40 * k + (F + 2 * i)) (by omega), on_clamp (n := 40 * k + (F + 2 * i) + 1) (by omega), u2_nc (a := 44) (by omega), u2_nc (a := 44) (by omega), j44, j44, hAi i, hset, show 40 * k + (F + 2 * i) + 1 = 40 * k + (F + 2 * i + 1) by omega]) u2_id.symm
        rw [r1]
        show F_X9_read_254 (u2 J 33 46 T) (p2 e) (Int32.ofNat k) (Int32.ofNat l) a3 (Int32.ofNat n) (Int32.ofNat W) = _
        rw [r2]
        rfl
    rw [e0, e1]
    cases hfb : fb g W 0 with
    | some j =>
      rw [hfb] at e2
      refine ⟨(-20 - Int32.ofNat j, I, L), e2 I L (fun _ _ _ => rfl), rfl, H'⟩
    | none =>
      rw [hfb] at e2
      generalize hT : (if n ≤ W then (0 : Int32) else RE) = T at e2
      refine ⟨(Int32.ofNat W, u2 (u2 I 0 14 T) 33 46 T, u2 (u2 L 1 3 (gi A W (L 1 3))) 33 2 (gi A W (L 33 2))), ?_, rfl, ?_⟩
      · exact e2 (u2 I 0 14 T) (u2 L 1 3 (gi A W (L 1 3))) (fun a b q => u2_nc q)
      · show Inv (u2 (u2 I 0 14 T) 33 46 T) (u2 (u2 L 1 3 (gi A W (L 1 3))) 33 2 (gi A W (L 33 2)))
        rw [c5]
        refine Inv.setC (I := u2 (u2 I 0 14 T) 33 46 T) ?_ fun h' w' hC' g1 g2 => ?_
        · exact ⟨⟨h, w, ⟨hC, c1, c2, c3, c4, c5, c6, c7⟩, h2⟩, k0, k1, h3, h4, four h5 id id id id, rfl⟩
        · obtain ⟨rfl, rfl⟩ := hC.eq hC' c1 c2 g1 g2
          refine gi_ins c6 fun i _ => ?_
          rw [← hA]
          exact set_ins hC c3 c4
  · have e1 : F_X8_read I L a1 a2 a3 a4 = (-1, I, L) := by
      unfold F_X8_read F_X8_read_34
      by_cases d : 0 ≤ a1.toInt ∧ a1.toInt ≤ 3
      · obtain ⟨k, rfl, hk, -⟩ := nn d.1
        rw [if_pos (nin (k := k) (N := 4) (by omega) (by decide)), isLane_eq]
        by_cases d2 : 0 ≤ a2.toInt ∧ a2.toInt ≤ 2
        · rw [if_pos d2, if_neg (show ¬ (1 : Int32) = 0 by decide)]
          by_cases d3 : a4.toInt < 0
          · rw [if_pos (by first | omega | (simp (disch := omega) only [Int32.lt_iff_toInt_lt, Int32.le_iff_toInt_le, ← Int32.toInt_inj, on_toInt, on_clamp, ti64, z0, z1, z2, zm1, i0, i1, im1, zz3, zz4, zz5, zz6, zz7, zz8, zz9, zz10, zz11, zz12, zz13, zz14, zz15, zz16, zz17, zz18, zz19, zz20, zz21, zz22, zz23, zz24, zz25, zz26, zz27, zz28, zz29, zz30, zz31, zz32, zz33, zz34, zz35, zz36, zz37, zz38, zz39, zz40, zz41, zz48, zz60, zz64, zz160, zz312, zz320, zzm2, zzm3, zzm4, zzm5, zzm6, zzm7, zzm8, zzm9, zzm10]; done) | (simp (disch := omega) only [Int32.lt_iff_toInt_lt, Int32.le_iff_toInt_le, ← Int32.toInt_inj, on_toInt, on_clamp, ti64, z0, z1, z2, zm1, i0, i1, im1, zz3, zz4, zz5, zz6, zz7, zz8, zz9, zz10, zz11, zz12, zz13, zz14, zz15, zz16, zz17, zz18, zz19, zz20, zz21, zz22, zz23, zz24, zz25, zz26, zz27, zz28, zz29, zz30, zz31, zz32, zz33, zz34, zz35, zz36, zz37, zz38, zz39, zz40, zz41, zz48, zz60, zz64, zz160, zz312, zz320, zzm2, zzm3, zzm4, zzm5, zzm6, zzm7, zzm8, zzm9, zzm10]; omega))]
          · have d4 : ¬ a4.toInt ≤ 20 := fun q => c ⟨⟨d, d2⟩, by omega, q⟩
            rw [if_neg (by first | omega | (simp (disch := omega) only [Int32.lt_iff_toInt_lt, Int32.le_iff_toInt_le, ← Int32.toInt_inj, on_toInt, on_clamp, ti64, z0, z1, z2, zm1, i0, i1, im1, zz3, zz4, zz5, zz6, zz7, zz8, zz9, zz10, zz11, zz12, zz13, zz14, zz15, zz16, zz17, zz18, zz19, zz20, zz21, zz22, zz23, zz24, zz25, zz26, zz27, zz28, zz29, zz30, zz31, zz32, zz33, zz34, zz35, zz36, zz37, zz38, zz39, zz40, zz41, zz48, zz60, zz64, zz160, zz312, zz320, zzm2, zzm3, zzm4, zzm5, zzm6, zzm7, zzm8, zzm9, zzm10]; done) | (simp (disch := omega) only [Int32.lt_iff_toInt_lt, Int32.le_iff_toInt_le, ← Int32.toInt_inj, on_toInt, on_clamp, ti64, z0, z1, z2, zm1, i0, i1, im1, zz3, zz4, zz5, zz6, zz7, zz8, zz9, zz10, zz11, zz12, zz13, zz14, zz15, zz16, zz17, zz18, zz19, zz20, zz21, zz22, zz23, zz24, zz25, zz26, zz27, zz28, zz29, zz30, zz31, zz32, zz33, zz34, zz35, zz36, zz37, zz38, zz39, zz40, zz41, zz48, zz60, zz64, zz160, zz312, zz320, zzm2, zzm3, zzm4, zzm5, zzm6, zzm7, zzm8, zzm9, zzm10]; omega)), if_neg (by first | omega | (simp (disch := omega) only [Int32.lt_iff_toInt_lt, Int32.le_iff_toInt_le, ← Int32.toInt_inj, on_toInt, on_clamp, ti64, z0, z1, z2, zm1, i0, i1, im1, zz3, zz4, zz5, zz6, zz7, zz8, zz9, zz10, zz11, zz12, zz13, zz14, zz15, zz16, zz17, zz18, zz19, zz20, zz21, zz22, zz23, zz24, zz25, zz26, zz27, zz28, zz29, zz30, zz31, zz32, zz33, zz34, zz35, zz36, zz37, zz38, zz39, zz40, zz41, zz48, zz60, zz64, zz160, zz312, zz320, zzm2, zzm3, zzm4, zzm5, zzm6, zzm7, zzm8, zzm9, zzm10]; done) | (simp (disch := omega) only [Int32.lt_iff_toInt_lt, Int32.le_iff_toInt_le, ← Int32.toInt_inj, on_toInt, on_clamp, ti64, z0, z1, z2, zm1, i0, i1, im1, zz3, zz4, zz5, zz6, zz7, zz8, zz9, zz10, zz11, zz12, zz13, zz14, zz15, zz16, zz17, zz18, zz19, zz20, zz21, zz22, zz23, zz24, zz25, zz26, zz27, zz28, zz29, zz30, zz31, zz32, zz33, zz34, zz35, zz36, zz37, zz38, zz39, zz40, zz41, zz48, zz60, zz64, zz160, zz312, zz320, zzm2, zzm3, zzm4, zzm5, zzm6, zzm7, zzm8, zzm9, zzm10]; omega))]
        · rw [if_neg d2, if_pos rfl]
      · rw [if_neg]
        intro q
        rcases nsplit a1 with r | ⟨k, hk, rfl⟩
        · exact q (.inl (by first | omega | (simp (disch := omega) only [Int32.lt_iff_toInt_lt, Int32.le_iff_toInt_le, ← Int32.toInt_inj, on_toInt, on_clamp, ti64, z0, z1, z2, zm1, i0, i1, im1, zz3, zz4, zz5, zz6, zz7, zz8, zz9, zz10, zz11, zz12, zz13, zz14, zz15, zz16, zz17, zz18, zz19, zz20, zz21, zz22, zz23, zz24, zz25, zz26, zz27, zz28, zz29, zz30, zz31, zz32, zz33, zz34, zz35, zz36, zz37, zz38, zz39, zz40, zz41, zz48, zz60, zz64, zz160, zz312, zz320, zzm2, zzm3, zzm4, zzm5, zzm6, zzm7, zzm8, zzm9, zzm10]; done) | (simp (disch := omega) only [Int32.lt_iff_toInt_lt, Int32.le_iff_toInt_le, ← Int32.toInt_inj, on_toInt, on_clamp, ti64, z0, z1, z2, zm1, i0, i1, im1, zz3, zz4, zz5, zz6, zz7, zz8, zz9, zz10, zz11, zz12, zz13, zz14, zz15, zz16, zz17, zz18, zz19, zz20, zz21, zz22, zz23, zz24, zz25, zz26, zz27, zz28, zz29, zz30, zz31, zz32, zz33, zz34, zz35, zz36, zz37, zz38, zz39, zz40, zz41, zz48, zz60, zz64, zz160, zz312, zz320, zzm2, zzm3, zzm4, zzm5, zzm6, zzm7, zzm8, zzm9, zzm10]; omega)))
        · rw [on_toInt hk] at d
          exact q (.inr (by rw [on_clamp hk]; omega))
    have e2 : F_X9_read I L a1 a2 a3 a4 = some (-1, I, L) := by
      unfold F_X9_read F_X9_read_21
      rw [isSheet_eq, in_eq, i0, show (20 : Int64).toInt = 20 by decide]
      by_cases d : (0 ≤ a1.toInt ∧ a1.toInt ≤ 3) ∧ 0 ≤ a2.toInt ∧ a2.toInt ≤ 2
      · rw [if_pos d, if_neg (show ¬ (1 : Int32) = 0 by decide), if_neg (show ¬ (0 ≤ a4.toInt ∧ a4.toInt ≤ 20) from fun q => c ⟨d, q⟩), if_pos rfl]
      · rw [if_neg d, if_pos rfl]
    rw [e1]
    exact ⟨_, e2, rfl, H'⟩
/-! questions leave what is kept -/
theorem Ag.ite {α : Type} {f a b : Nat → Nat → α} {c : Prop} [Decidable c] (h1 : Ag f a) (h2 : Ag f b) : Ag f (if c then a else b) := by
  by_cases q : c
  · rw [if_pos q]
    exact h1
  · rw [if_neg q]
    exact h2
theorem Ag.p1ite {α B : Type} {f : Nat → Nat → α} {a b : (Nat → Nat → α) × B} {c : Prop} [Decidable c] (h1 : Ag f (p1 a)) (h2 : Ag f (p1 b)) : Ag f (p1 (if c then a else b)) := by
  by_cases q : c
  · rw [if_pos q]
    exact h1
  · rw [if_neg q]
    exact h2
theorem Ag.p2ite {α B : Type} {f : Nat → Nat → α} {a b : B × (Nat → Nat → α)} {c : Prop} [Decidable c] (h1 : Ag f (p2 a)) (h2 : Ag f (p2 b)) : Ag f (p2 (if c then a else b)) := by
  by_cases q : c
  · rw [if_pos q]
    exact h1
  · rw [if_neg q]
    exact h2
/-- both worlds -/
def Ag2 (I : WI) (L : WL) (x : WI × WL) : Prop := Ag I (p1 x) ∧ Ag L (p2 x)
theorem Ag2.ite {I : WI} {L : WL} {a b : WI × WL} {c : Prop} [Decidable c] (h1 : Ag2 I L a) (h2 : Ag2 I L b) : Ag2 I L (if c then a else b) := by
  by_cases q : c
  · rw [if_pos q]
    exact h1
  · rw [if_neg q]
    exact h2
theorem Ag2.p2ite {B : Type} {I : WI} {L : WL} {a b : B × WI × WL} {c : Prop} [Decidable c] (h1 : Ag2 I L (p2 a)) (h2 : Ag2 I L (p2 b)) : Ag2 I L (p2 (if c then a else b)) := by
  by_cases q : c
  · rw [if_pos q]
    exact h1
  · rw [if_neg q]
    exact h2
theorem Ag2.rfl {I : WI} {L : WL} : Ag2 I L (I, L) := ⟨Ag.rfl, Ag.rfl⟩
theorem Ag2.trans {I : WI} {L : WL} {x y : WI × WL} (a : Ag2 I L x) (b : Ag2 (p1 x) (p2 x) y) : Ag2 I L y := ⟨a.1.trans b.1, a.2.trans b.2⟩
theorem lpp_ms {R S : Type} {f : S → Option (R ⊕ S)} (P : S → Prop) (Q : R → Prop) (μ : S → Nat) (h : ∀ s, P s → (∃ r, f s = some (.inl r) ∧ Q r) ∨ (∃ s', f s = some (.inr s') ∧ P s' ∧ μ s' < μ s)) : ∀ fuel s, μ s < fuel → P s → ∃ r, lpp f fuel s = some r ∧ Q r := by
  intro fuel
  induction fuel with
  | zero => intro s h1 _; omega
  | succ n ih =>
    intro s h1 hP
    rcases h s hP with ⟨r, e, q⟩ | ⟨s', e, q, m⟩
    · exact ⟨r, lpp_l e, q⟩
    · rw [lpp_r e]
      exact ih s' (by omega) q
theorem it_ag {g : Int32 → WI → WI} {I : WI} {b : Nat} (h : ∀ i x, i < b → Ag I x → Ag I (g (Int32.ofNat i) x)) : Ag I (it g b I) := it_ind (P := fun _ x => Ag I x) Ag.rfl fun i x hi hx => h i x hi hx
theorem ag_take {I : WI} {a b c : Int32} : Ag I (F_X7_take I a b c) := ((Ag.rfl.u rfl).u rfl).u rfl
theorem ag_take' {I J : WI} {a b c : Int32} (h : Ag I J) : Ag I (F_X7_take J a b c) := h.trans ag_take
theorem ag_findPlan {I : WI} {r : Nat} {x : Int64} : Ag I (F_X7_findPlan I r x) := by
  have h88 : ∀ J a, Ag I J → Ag I (F_X7_findPlan_88 J r x a) := fun J a h => h.trans ag_take
  have h16 : ∀ s, Ag I (F_X7_findPlan_16 I r x s) := by
    intro s
    have h0 : ∀ a b c, Ag I (F_X7_take (u2 I 27 0 s) a b c) := fun a b c => (Ag.rfl.u rfl).trans ag_take
    unfold F_X7_findPlan_16
    repeat' (first | refine Ag.ite ?_ ?_ | exact h88 _ _ (h0 _ _ _) | exact h0 _ _ _)
  unfold F_X7_findPlan
  exact Ag.ite (h16 1) (h16 0)
theorem ag_findPlan9 {I : WI} {x : Int64} : Ag I (p2 (F_X9_findPlan I x)) := by
  have h240 : ∀ J s, Ag I J → Ag I (p2 (F_X9_findPlan_240 J x s)) := fun J s h => h.u rfl
  have h224 : ∀ J a b s, Ag I J → Ag I (p2 (F_X9_findPlan_224 J x a b s)) := fun J a b s h => by
    unfold F_X9_findPlan_224
    exact Ag.p2ite (h240 _ _ (h.u rfl)) (h240 _ _ (h.u rfl))
  have h170 : ∀ J a b c s, Ag I J → Ag I (p2 (F_X9_findPlan_170 J x a b c s)) := fun J a b c s h => by
    unfold F_X9_findPlan_170
    exact Ag.p2ite (Ag.p2ite (h224 _ _ _ _ (h.u rfl)) (h224 _ _ _ _ (h.u rfl))) (h.u rfl)
  have h145 : ∀ J a b c d s, Ag I J → Ag I (p2 (F_X9_findPlan_145 J x a b c d s)) := fun J a b c d s h => by
    unfold F_X9_findPlan_145
    exact Ag.p2ite (h170 _ _ _ _ _ (h.u rfl)) (h170 _ _ _ _ _ (h.u rfl))
  have h123 : ∀ a b c s, Ag I (p2 (F_X9_findPlan_123 I x a b c s)) := fun a b c s => by
    unfold F_X9_findPlan_123
    exact Ag.p2ite (h145 _ _ _ _ _ _ Ag.rfl) (h145 _ _ _ _ _ _ Ag.rfl)
  have h88 : ∀ a b, Ag I (p2 (F_X9_findPlan_88 I x a b)) := fun a b => by
    unfold F_X9_findPlan_88
    exact Ag.p2ite (h123 _ _ _ _) (h123 _ _ _ _)
  unfold F_X9_findPlan
  exact Ag.p2ite (h88 _ _) Ag.rfl
theorem N_16 {I : WI} {L : WL} {a1 : Int32} (H : Inv I L) : Inv (p2 (F_X9_plan (p2 (F_X8_plan I L a1)) L a1)) L := by
  have h8 : Ag I (p2 (F_X8_plan I L a1)) := by
    have hq := ag_findPlan (I := I) (r := 1) (x := (L 1 3) ^^^ (L 2 3))
    unfold F_X8_plan F_X8_plan_9
    generalize F_X7_findPlan I 1 ((L 1 3) ^^^ (L 2 3)) = q at hq ⊢
    repeat' (first | refine Ag.p2ite ?_ ?_ | exact Ag.rfl | exact hq)
  have h9 : ∀ J, Ag J (p2 (F_X9_plan J L a1)) := by
    intro J
    have hq := ag_findPlan9 (I := J) (x := (L 33 2) ^^^ (L 33 3))
    unfold F_X9_plan F_X9_plan_50
    generalize F_X9_findPlan J ((L 33 2) ^^^ (L 33 3)) = q at hq ⊢
    repeat' (first | refine Ag.p2ite ?_ ?_ | exact Ag.rfl | exact hq)
  exact H.ag (h8.trans (h9 _)) Ag.rfl
theorem N_24 {I : WI} {L : WL} {a1 : Int32} (H : Inv I L) : Inv (p2 (F_X8_spoilt I L a1)) L := by
  have hs : ∀ x, Ag I (F_X7_findSpoilt I 1 x) := by
    intro x
    show Ag I (p2 (fr0 (fun i y => F_X7_findSpoilt_30_1 y 1 x (F_X0_formOf I 1 x) i) (Int32.ofNat 64) (fu 0 (Int32.ofNat 64)) 0 (u2 (u2 I 27 6 0) 27 7 0)))
    rw [fr0_it (by decide)]
    refine it_ind (P := fun _ y => Ag I y) ((Ag.rfl.u rfl).u rfl) fun i y _ hy => ?_
    show Ag I (F_X7_findSpoilt_30_1 y 1 x _ (Int32.ofNat i))
    unfold F_X7_findSpoilt_30_1 F_X7_findSpoilt_77_1 F_X7_findSpoilt_90_1
    repeat' (first | refine Ag.ite ?_ ?_ | exact hy | exact (hy.u rfl).u rfl)
  refine H.ag ?_ Ag.rfl
  unfold F_X8_spoilt F_X8_spoilt_9
  repeat' (first | refine Ag.p2ite ?_ ?_ | exact Ag.rfl | exact hs _)
theorem N_15 {I : WI} {L : WL} {a1 : Int32} (H : Inv I L) : ∃ w, (F_X9_alike I L a1) = some w ∧ Inv I L := by
  suffices h : ∃ w, F_X9_alike I L a1 = some w by
    obtain ⟨w, e⟩ := h
    exact ⟨w, e, H⟩
  unfold F_X9_alike
  rw [isImage_eq, ob_some]
  by_cases c : 0 ≤ a1.toInt ∧ a1.toInt ≤ 1
  · obtain ⟨k, rfl, hk, -⟩ := nn c.1
    rw [if_pos c, if_neg (show ¬ (1 : Int32) = 0 by decide), kept_val (by omega), ob_some]
    by_cases d : (I 36 k).toInt ≤ 0
    · rw [if_pos d, if_pos rfl]
      exact ⟨_, rfl⟩
    · rw [if_neg d, if_neg (show ¬ (1 : Int32) = 0 by decide), ofSize_val (by omega), ob_some, if_neg (nin (k := k) (N := 2) (by omega) (by decide))]
      repeat' split
      all_goals exact ⟨_, rfl⟩
  · rw [if_neg c, if_pos rfl]
    exact ⟨_, rfl⟩
theorem N_23 {I : WI} {L : WL} {a1 a2 : Int32} (H : Inv I L) : ∃ w, (F_X9_turned (p2 (F_X8_turned I L a1 a2)) L a1 a2) = some w ∧ Inv (p2 w) L := by
  have h8 : Ag I (p2 (F_X8_turned I L a1 a2)) := by
    have hq := ag_findPlan (I := I) (r := 1) (x := (L 1 3) ^^^ (L 3 3))
    have hq' := ag_findPlan (I := I) (r := 1) (x := (L 1 3) ^^^ (L 4 3))
    unfold F_X8_turned F_X8_turned_19 F_X8_turned_39 F_X8_turned_92
    generalize F_X7_findPlan I 1 ((L 1 3) ^^^ (L 3 3)) = q at hq ⊢
    generalize F_X7_findPlan I 1 ((L 1 3) ^^^ (L 4 3)) = q' at hq' ⊢
    repeat' (first | refine Ag.p2ite ?_ ?_ | exact Ag.rfl | exact hq | exact hq')
  generalize p2 (F_X8_turned I L a1 a2) = J at h8
  have HJ := H.ag h8 Ag.rfl
  suffices h : ∃ w, F_X9_turned J L a1 a2 = some w ∧ Ag J (p2 w) by
    obtain ⟨w, e, g⟩ := h
    exact ⟨w, e, HJ.ag g Ag.rfl⟩
  unfold F_X9_turned F_X9_turned_19 F_X9_turned_37 F_X9_turned_68
  rw [isImage_eq, ob_some]
  by_cases c : 0 ≤ a1.toInt ∧ a1.toInt ≤ 1
  · obtain ⟨k, rfl, hk, -⟩ := nn c.1
    rw [if_pos c, if_neg (show ¬ (1 : Int32) = 0 by decide), kept_val (by omega), ob_some, ofSize_val (by omega), ob_some, if_neg (nin (k := k) (N := 2) (by omega) (by decide))]
    have hq := ag_findPlan9 (I := J) (x := (L 33 2) ^^^ (L 35 (Int32.toNatClampNeg (Int32.ofNat k))))
    generalize F_X9_findPlan J ((L 33 2) ^^^ (L 35 (Int32.toNatClampNeg (Int32.ofNat k)))) = q at hq ⊢
    repeat' (first | split | exact ⟨_, rfl, Ag.rfl⟩ | exact ⟨_, rfl, hq⟩)
  · rw [if_neg c, if_pos rfl]
    exact ⟨_, rfl, Ag.rfl⟩
/-! names, nearest, blind, both: what is kept stays -/
theorem ag_become5 {I : WI} {L : WL} {r : Nat} : Ag2 I L (F_X0_become I L 5 r) := ⟨((Ag.rfl.u rfl).u rfl).u rfl, Ag.rfl.u rfl⟩
theorem ag_quarter5 {I : WI} {L : WL} : Ag2 I L (F_X0_quarterRight I L 5) := ⟨(Ag.rfl.u rfl).u rfl, Ag.rfl.u rfl⟩
theorem ag_mirror5 {I : WI} {L : WL} : Ag L (F_X0_mirror I L 5) := Ag.rfl.u rfl
theorem and3 : ∀ t, t < 8 → Int32.ofNat t &&& 3 = Int32.ofNat (t % 4) := by decide
theorem ag_rot5 {I : WI} {L : WL} {t : Nat} (ht : t < 8) : Ag2 I L (F_X0_rotateBy I L 5 (Int32.ofNat t)) := by
  have h9 : ∀ K, Ag L K → Ag2 I L (F_X0_rotateBy_9 I K 5 (Int32.ofNat t)) := by
    intro K hK
    have hl : Ag2 I L (p2 (fr0 (fun i x => F_X0_rotateBy_18_1 (p1 x) (p2 x) 5 (Int32.ofNat t) i) (Int32.ofNat t &&& 3) (fu 0 (Int32.ofNat t &&& 3)) 0 (I, K))) := by
      rw [and3 t ht, fr0_it (by omega)]
      exact it_ind (P := fun _ x => Ag2 I L x) (show Ag2 I L (I, K) from ⟨Ag.rfl, hK⟩) fun i x _ hx => hx.trans ag_quarter5
    exact hl
  unfold F_X0_rotateBy
  exact Ag2.ite (h9 L Ag.rfl) (h9 _ ag_mirror5)
theorem ag_find {I : WI} {L : WL} {o r : Nat} (ho : o = 30 ∨ o = 31) : Ag2 I L (F_X2_find I L o r 5) := by
  have hl : Ag2 I L (p2 (p2 (fr0 (fun i (x : Int32 × WI × WL) => F_X2_find_12_1 (p1 (p2 x)) (p2 (p2 x)) o r 5 i (p1 x)) (Int32.ofNat 8) (fu 0 (Int32.ofNat 8)) 0 (0, I, L)))) := by
    rw [fr0_it (by decide)]
    refine it_ind (P := fun _ x => Ag2 I L (p2 x)) Ag2.rfl fun i x hi hx => hx.trans ?_
    show Ag2 (p1 (p2 x)) (p2 (p2 x)) (p2 (F_X2_find_12_1 (p1 (p2 x)) (p2 (p2 x)) o r 5 (Int32.ofNat i) (p1 x)))
    generalize p1 (p2 x) = J
    generalize p2 (p2 x) = K
    generalize p1 x = a3
    have hR : Ag2 J K (F_X0_rotateBy (p1 (F_X0_become J K 5 r)) (p2 (F_X0_become J K 5 r)) 5 (Int32.ofNat i)) := ag_become5.trans (ag_rot5 hi)
    unfold F_X2_find_12_1
    generalize F_X0_rotateBy (p1 (F_X0_become J K 5 r)) (p2 (F_X0_become J K 5 r)) 5 (Int32.ofNat i) = R at hR ⊢
    have h58 : ∀ a b, Ag2 J K (p2 (F_X2_find_58_1 (p1 R) (p2 R) o r 5 a b)) := by
      intro a b
      rcases ho with rfl | rfl
      · exact ⟨((hR.1.u rfl).u rfl).u rfl, hR.2.u rfl⟩
      · exact ⟨((hR.1.u rfl).u rfl).u rfl, hR.2.u rfl⟩
    repeat' (first | refine Ag2.p2ite ?_ ?_ | exact hR | exact h58 _ _)
  exact hl
theorem ag_findName {I : WI} {L : WL} {x : Int64} {a b : Int32} : Ag2 I L (F_X9_findName I L x a b) := by
  have hl : Ag2 I L (p2 (fr0 (fun i (y : WI × WL) => F_X9_findName_16_1 (p1 y) (p2 y) x a b i) (Int32.ofNat 8) (fu 0 (Int32.ofNat 8)) 0 (u2 I 33 40 (-4), L))) := by
    rw [fr0_it (by decide)]
    refine it_ind (P := fun _ x => Ag2 I L x) ⟨Ag.rfl.u rfl, Ag.rfl⟩ fun i y _ hy => hy.trans ?_
    show Ag2 (p1 y) (p2 y) (F_X9_findName_16_1 (p1 y) (p2 y) x a b (Int32.ofNat i))
    generalize p1 y = J
    generalize p2 y = K
    have h92 : ∀ c d e f, Ag2 J K (F_X9_findName_92_1 J K x a b c d e f) := fun c d e f => ⟨((Ag.rfl.u rfl).u rfl).u rfl, Ag.rfl.u rfl⟩
    have h116 : ∀ c, Ag2 J K (F_X9_findName_116_1 J K x a b c) := fun c => Ag2.rfl
    have h46 : ∀ c d e, Ag2 J K (F_X9_findName_46_1 J K x a b c d e) := by
      intro c d e
      unfold F_X9_findName_46_1
      exact Ag2.ite (h116 _) (Ag2.ite (h92 _ _ _ _) (Ag2.ite (h116 _) (h92 _ _ _ _)))
    have h30 : ∀ c d, Ag2 J K (F_X9_findName_30_1 J K x a b c d) := by
      intro c d
      unfold F_X9_findName_30_1
      exact Ag2.ite (h46 _ _ _) (h46 _ _ _)
    unfold F_X9_findName_16_1
    exact Ag2.ite (h30 _ _) (h30 _ _)
  exact hl
theorem Inv.ag2 {I : WI} {L : WL} {x : WI × WL} (H : Inv I L) (h : Ag2 I L x) : Inv (p1 x) (p2 x) := H.ag h.1 h.2
theorem N_29 {I : WI} {L : WL} {a1 : Int32} (H : Inv I L) : Inv (p1 (p2 (F_X9_name (p1 (p2 (F_X8_name I L a1))) (p2 (p2 (F_X8_name I L a1))) a1))) (p2 (p2 (F_X9_name (p1 (p2 (F_X8_name I L a1))) (p2 (p2 (F_X8_name I L a1))) a1))) := by
  have h8 : Ag2 I L (p2 (F_X8_name I L a1)) := by
    have hq := ag_find (I := I) (L := L) (o := 30) (r := 1) (.inl rfl)
    unfold F_X8_name F_X8_name_9 F_X8_name_50
    generalize F_X2_find I L 30 1 5 = q at hq ⊢
    repeat' (first | refine Ag2.p2ite ?_ ?_ | exact Ag2.rfl | exact hq)
  have h9 : ∀ J K, Ag2 J K (p2 (F_X9_name J K a1)) := by
    intro J K
    have hq := ag_findName (I := J) (L := K) (x := K 33 2) (a := J 33 0) (b := J 33 1)
    unfold F_X9_name F_X9_name_46
    generalize F_X9_findName J K (K 33 2) (J 33 0) (J 33 1) = q at hq ⊢
    repeat' (first | refine Ag2.p2ite ?_ ?_ | exact Ag2.rfl | exact hq)
  exact (H.ag2 h8).ag2 (h9 _ _)
theorem N_30 {I : WI} {L : WL} {a1 : Int32} (H : Inv I L) : ∃ w, (F_X9_cousin (p1 (p2 (F_X8_cousin I L a1))) (p2 (p2 (F_X8_cousin I L a1))) a1) = some w ∧ Inv (p1 (p2 w)) (p2 (p2 w)) := by
  have h8 : Ag2 I L (p2 (F_X8_cousin I L a1)) := by
    have hq := ag_find (I := I) (L := L) (o := 30) (r := 1) (.inl rfl)
    unfold F_X8_cousin F_X8_cousin_68
    generalize F_X2_find I L 30 1 5 = q at hq ⊢
    have hq3 := hq.trans (ag_find (I := p1 q) (L := p2 q) (o := 31) (r := 3) (.inr rfl))
    have hq4 := hq.trans (ag_find (I := p1 q) (L := p2 q) (o := 31) (r := 4) (.inr rfl))
    generalize F_X2_find (p1 q) (p2 q) 31 3 5 = q3 at hq3 ⊢
    generalize F_X2_find (p1 q) (p2 q) 31 4 5 = q4 at hq4 ⊢
    repeat' (first | refine Ag2.p2ite ?_ ?_ | exact Ag2.rfl | exact hq3 | exact hq4)
  generalize p2 (F_X8_cousin I L a1) = Y at h8
  have HJ := H.ag2 h8
  suffices h : ∃ w, F_X9_cousin (p1 Y) (p2 Y) a1 = some w ∧ Ag2 (p1 Y) (p2 Y) (p2 w) by
    obtain ⟨w, e, g⟩ := h
    exact ⟨w, e, HJ.ag2 g⟩
  generalize p1 Y = J
  generalize p2 Y = K
  unfold F_X9_cousin F_X9_cousin_106 F_X9_cousin_107
  rw [isImage_eq, ob_some]
  by_cases c : 0 ≤ a1.toInt ∧ a1.toInt ≤ 1
  · obtain ⟨k, rfl, hk, -⟩ := nn c.1
    rw [if_pos c, if_neg (show ¬ (1 : Int32) = 0 by decide), kept_val (by omega), ob_some, if_neg (nin (k := k) (N := 2) (by omega) (by decide)), if_neg (nin (k := k) (N := 2) (by omega) (by decide)), if_neg (nin (k := k) (N := 2) (by omega) (by decide))]
    have hq := ag_findName (I := J) (L := K) (x := K 35 (Int32.toNatClampNeg (Int32.ofNat k))) (a := J 36 (Int32.toNatClampNeg (Int32.ofNat k))) (b := J 37 (Int32.toNatClampNeg (Int32.ofNat k)))
    generalize F_X9_findName J K (K 35 (Int32.toNatClampNeg (Int32.ofNat k))) (J 36 (Int32.toNatClampNeg (Int32.ofNat k))) (J 37 (Int32.toNatClampNeg (Int32.ofNat k))) = q at hq ⊢
    have hq2 := hq.trans (ag_findName (I := p1 q) (L := p2 q) (x := p2 q 33 2) (a := p1 q 33 0) (b := p1 q 33 1))
    generalize F_X9_findName (p1 q) (p2 q) (p2 q 33 2) (p1 q 33 0) (p1 q 33 1) = q2 at hq2 ⊢
    repeat' (first | split | exact ⟨_, rfl, Ag2.rfl⟩ | exact ⟨_, rfl, hq2⟩)
  · rw [if_neg c, if_pos rfl]
    exact ⟨_, rfl, Ag2.rfl⟩
/-! nearest, blind, both: they end, what is kept stays -/
theorem Inv.size {I : WI} {L : WL} (H : Inv I L) : ∃ h w, Cl h w ∧ I 1 1 = Int32.ofNat h ∧ I 1 2 = Int32.ofNat w ∧ I 33 0 = Int32.ofNat h ∧ I 33 1 = Int32.ofNat w := by
  obtain ⟨⟨h, w, ⟨hC, c1, c2, c3, c4, -⟩, -⟩, -⟩ := H
  exact ⟨h, w, hC, c1, c2, c3, c4⟩
theorem pow_le {h : Nat} (hh : h ≤ 8) : 1 ≤ 2 ^ h ∧ 2 ^ h ≤ 256 := ⟨Nat.one_le_two_pow, Nat.pow_le_pow_right (by decide) hh⟩
theorem shl_n : ∀ h, h < 9 → ((1 : Int32) <<< (Int32.ofNat h &&& 31)) = Int32.ofNat (2 ^ h) := by decide +kernel
theorem lt_onn {a b : Nat} (ha : a < 2147483648) (hb : b < 2147483648) : Int32.ofNat a < Int32.ofNat b ↔ a < b := by
  rw [Int32.lt_iff_toInt_lt, on_toInt ha, on_toInt hb]
  omega
theorem ag_tryRows {I : WI} {r : Nat} {a : Int32} {x : Int64} : Ag I (F_X7_tryRows I r a x) := by
  have h91 : ∀ a b c, Ag I (F_X7_tryRows_91 I r a x b c) := fun a b c => ag_take' (Ag.rfl.u rfl) |>.u rfl
  have h75 : ∀ a b c, Ag I (F_X7_tryRows_75 I r a x b c) := by
    intro a b c
    unfold F_X7_tryRows_75
    exact Ag.ite (h91 _ _ _) (Ag.ite Ag.rfl (h91 _ _ _))
  exact h75 _ _ _
theorem near8 {I : WI} {h : Nat} (hh : h ≤ 8) (e : I 1 1 = Int32.ofNat h) (x : Int64) : ∃ J, F_X7_findNearest I 1 x = some J ∧ Ag I J := by
  have hp := pow_le hh
  have hrow : ∀ J, Ag I J → F_X0_everyRow J 1 = Int32.ofNat (2 ^ h - 1) := by
    intro J hJ
    unfold F_X0_everyRow
    rw [hJ 1 1 rfl, e]
    exact every_p h (by omega)
  obtain ⟨r, e1, e2⟩ := lpp_cnt (f := fun y => F_X7_findNearest_8_1 (p2 y) 1 x (p1 y)) (m := 2 ^ h) (fun _ J => Ag I J) (fun J => Ag I J) (fun i J hi hJ => by
    refine ⟨F_X7_tryRows J 1 (Int32.ofNat i) (x ^^^ F_X0_squaresTurned J 1 (Int32.ofNat i) 0), ?_, hJ.trans ag_tryRows⟩
    show F_X7_findNearest_8_1 J 1 x (Int32.ofNat i) = _
    unfold F_X7_findNearest_8_1
    rw [hrow J hJ, if_neg fun q => absurd ((lt_onn (by omega) (by omega)).mp q) (by omega), la1]) (fun J hJ => by
    refine ⟨J, ?_, hJ⟩
    show F_X7_findNearest_8_1 J 1 x (Int32.ofNat (2 ^ h)) = _
    unfold F_X7_findNearest_8_1
    rw [hrow J hJ, if_pos ((lt_onn (by omega) (by omega)).mpr (by omega))]) 4294967296 0 (u2 I 27 0 0) (by omega) (by omega) (Ag.rfl.u rfl)
  refine ⟨r, ?_, e2⟩
  show (lpp (fun y => F_X7_findNearest_8_1 (p2 y) 1 x (p1 y)) 4294967296 (Int32.ofNat 0, u2 I 27 0 0)).bind _ = _
  rw [e1]
  rfl
theorem near9 {I : WI} {h w : Nat} (hC : Cl h w) (e3 : I 33 0 = Int32.ofNat h) (e4 : I 33 1 = Int32.ofNat w) (x : Int64) : ∃ J, F_X9_findNearest I x = some J ∧ Ag I J := by
  obtain ⟨⟨h1, h2⟩, h3, h4⟩ := hC
  have hp := pow_le h2
  have h110 : ∀ J a b c d e f g, ∃ v, F_X9_findNearest_110_2 J a b c d e f g = some v := fun _ _ _ _ _ _ _ _ => ⟨_, rfl⟩
  have h82 : ∀ J a b c d e f g k, ∃ v, F_X9_findNearest_82_2 J a b c d e f g k = some v := by
    intro J a b c d e f g k
    unfold F_X9_findNearest_82_2
    split <;> exact h110 _ _ _ _ _ _ _ _
  have h46 : ∀ J a b c d e f, ∃ v, F_X9_findNearest_46_2 J a b c d e f = some v := by
    intro J a b c d e f
    unfold F_X9_findNearest_46_2
    split <;> exact h82 _ _ _ _ _ _ _ _ _
  have h119 : ∀ J a i b c, Ag I J → ∃ K, F_X9_findNearest_119_1 J a (Int32.ofNat i) b c = some (.inr (Int32.ofNat (i + 1), K)) ∧ Ag I K := by
    intro J a i b c hJ
    unfold F_X9_findNearest_119_1 F_X9_findNearest_145_1
    rw [la1]
    split
    · exact ⟨_, rfl, hJ⟩
    · exact ⟨_, rfl, ((hJ.u rfl).u rfl).u rfl⟩
  obtain ⟨r, r1, r2⟩ := lpp_cnt (f := fun y => F_X9_findNearest_8_1 (p2 y) x (p1 y)) (m := 2 ^ h) (fun _ J => Ag I J) (fun J => Ag I J) (fun i J hi hJ => by
    have j0 : J 33 0 = Int32.ofNat h := (hJ 33 0 rfl).trans e3
    have j1 : J 33 1 = Int32.ofNat w := (hJ 33 1 rfl).trans e4
    obtain ⟨e, q1, -⟩ := frp0_nat (g := fun k y => F_X9_findNearest_46_2 J x (Int32.ofNat i) (x ^^^ (F_X9_turnSet J (Int32.ofNat i) 0)) k (p1 y) (p2 y)) (b := w) (by omega) (fun _ _ => True) (s := (0, 0)) (fun k y hk _ => by
      obtain ⟨v, hv⟩ := h46 J x (Int32.ofNat i) (x ^^^ (F_X9_turnSet J (Int32.ofNat i) 0)) (Int32.ofNat k) (p1 y) (p2 y)
      exact ⟨v, hv, trivial⟩) trivial
    obtain ⟨K, k1, k2⟩ := h119 J x i (p1 (p2 e)) (p2 (p2 e)) hJ
    refine ⟨K, ?_, k2⟩
    show F_X9_findNearest_8_1 J x (Int32.ofNat i) = _
    unfold F_X9_findNearest_8_1
    rw [j0, shl_n h (by omega), if_neg fun q => absurd ((ge_on (by omega) (by omega)).mp q) (by omega)]
    unfold F_X9_findNearest_37_1
    rw [j1, q1]
    exact k1) (fun J hJ => by
    have j0 : J 33 0 = Int32.ofNat h := (hJ 33 0 rfl).trans e3
    refine ⟨J, ?_, hJ⟩
    show F_X9_findNearest_8_1 J x (Int32.ofNat (2 ^ h)) = _
    unfold F_X9_findNearest_8_1
    rw [j0, shl_n h (by omega), if_pos ((ge_on (by omega) (by omega)).mpr (Nat.le_refl _))]) 4294967296 0 (u2 I 33 33 65) (by omega) (by omega) (Ag.rfl.u rfl)
  refine ⟨r, ?_, r2⟩
  show (lpp (fun y => F_X9_findNearest_8_1 (p2 y) x (p1 y)) 4294967296 (Int32.ofNat 0, u2 I 33 33 65)).bind _ = _
  rw [r1]
  rfl
theorem N_17 {I : WI} {L : WL} {a1 : Int32} (H : Inv I L) : ∃ v, (F_X8_nearest I L a1) = some v ∧ ∃ w, (F_X9_nearest (p2 v) L a1) = some w ∧ Inv (p2 w) L := by
  obtain ⟨h, w, hC, c1, c2, c3, c4⟩ := H.size
  have e8 : ∃ v, F_X8_nearest I L a1 = some v ∧ Ag I (p2 v) := by
    obtain ⟨J, j1, j2⟩ := near8 hC.1.2 c1 ((L 1 3) ^^^ (L 2 3))
    unfold F_X8_nearest F_X8_nearest_9
    rw [j1]
    repeat' (first | split | exact ⟨_, rfl, Ag.rfl⟩ | exact ⟨_, rfl, j2⟩)
  obtain ⟨v, v1, v2⟩ := e8
  refine ⟨v, v1, ?_⟩
  have HJ := H.ag v2 Ag.rfl
  generalize p2 v = J at v2 HJ
  suffices q : ∃ w, F_X9_nearest J L a1 = some w ∧ Ag J (p2 w) by
    obtain ⟨w, w1, w2⟩ := q
    exact ⟨w, w1, HJ.ag w2 Ag.rfl⟩
  obtain ⟨K, k1, k2⟩ := near9 hC ((v2 33 0 rfl).trans c3) ((v2 33 1 rfl).trans c4) ((L 33 2) ^^^ (L 33 3))
  unfold F_X9_nearest
  rw [k1]
  repeat' (first | split | exact ⟨_, rfl, Ag.rfl⟩ | exact ⟨_, rfl, k2⟩)
theorem N_18 {I : WI} {L : WL} {a1 : Int32} (H : Inv I L) : ∃ v, (F_X8_lightest I L a1) = some v ∧ ∃ w, (F_X9_lightest (p2 v) L a1) = some w ∧ Inv (p2 w) L := by
  obtain ⟨h, w, hC, c1, c2, c3, c4⟩ := H.size
  have e8 : ∃ v, F_X8_lightest I L a1 = some v ∧ Ag I (p2 v) := by
    obtain ⟨J, j1, j2⟩ := near8 hC.1.2 c1 (L 1 3)
    unfold F_X8_lightest F_X8_lightest_9
    rw [j1]
    repeat' (first | split | exact ⟨_, rfl, Ag.rfl⟩ | exact ⟨_, rfl, j2⟩)
  obtain ⟨v, v1, v2⟩ := e8
  refine ⟨v, v1, ?_⟩
  have HJ := H.ag v2 Ag.rfl
  generalize p2 v = J at v2 HJ
  suffices q : ∃ w, F_X9_lightest J L a1 = some w ∧ Ag J (p2 w) by
    obtain ⟨w, w1, w2⟩ := q
    exact ⟨w, w1, HJ.ag w2 Ag.rfl⟩
  obtain ⟨K, k1, k2⟩ := near9 hC ((v2 33 0 rfl).trans c3) ((v2 33 1 rfl).trans c4) (L 33 2)
  unfold F_X9_lightest
  rw [k1]
  repeat' (first | split | exact ⟨_, rfl, Ag.rfl⟩ | exact ⟨_, rfl, k2⟩)
theorem blind8 {I : WI} (x : Int64) : ∃ J, F_X7_goBlind I 1 x = some J ∧ Ag I J := by
  obtain ⟨r, e1, e2⟩ := lpp_ms (f := fun y => F_X7_goBlind_8_1 (p2 y) 1 x (p1 y)) (fun y : Int64 × WI => Ag I (p2 y) ∧ ∃ i, i ≤ 60 ∧ p2 y 27 5 = Int32.ofNat i) (fun y : Int64 × WI => Ag I (p2 y)) (fun y => 60 - (p2 y 27 5).toNatClampNeg) (fun y hy => by
    obtain ⟨h1, i, hi, h2⟩ := hy
    show (∃ r, F_X7_goBlind_8_1 (p2 y) 1 x (p1 y) = some (.inl r) ∧ Ag I (p2 r)) ∨ (∃ s', F_X7_goBlind_8_1 (p2 y) 1 x (p1 y) = some (.inr s') ∧ _)
    unfold F_X7_goBlind_8_1
    by_cases c : (lg_cmp (p1 y) 0) = 0
    · rw [if_pos c]
      exact .inl ⟨_, rfl, h1⟩
    rw [if_neg c, h2]
    by_cases d : 60 ≤ i
    · rw [if_pos (by first | omega | (simp (disch := omega) only [Int32.lt_iff_toInt_lt, Int32.le_iff_toInt_le, ← Int32.toInt_inj, on_toInt, on_clamp, ti64, z0, z1, z2, zm1, i0, i1, im1, zz3, zz4, zz5, zz6, zz7, zz8, zz9, zz10, zz11, zz12, zz13, zz14, zz15, zz16, zz17, zz18, zz19, zz20, zz21, zz22, zz23, zz24, zz25, zz26, zz27, zz28, zz29, zz30, zz31, zz32, zz33, zz34, zz35, zz36, zz37, zz38, zz39, zz40, zz41, zz48, zz60, zz64, zz160, zz312, zz320, zzm2, zzm3, zzm4, zzm5, zzm6, zzm7, zzm8, zzm9, zzm10]; done) | (simp (disch := omega) only [Int32.lt_iff_toInt_lt, Int32.le_iff_toInt_le, ← Int32.toInt_inj, on_toInt, on_clamp, ti64, z0, z1, z2, zm1, i0, i1, im1, zz3, zz4, zz5, zz6, zz7, zz8, zz9, zz10, zz11, zz12, zz13, zz14, zz15, zz16, zz17, zz18, zz19, zz20, zz21, zz22, zz23, zz24, zz25, zz26, zz27, zz28, zz29, zz30, zz31, zz32, zz33, zz34, zz35, zz36, zz37, zz38, zz39, zz40, zz41, zz48, zz60, zz64, zz160, zz312, zz320, zzm2, zzm3, zzm4, zzm5, zzm6, zzm7, zzm8, zzm9, zzm10]; omega))]
      exact .inl ⟨_, rfl, h1⟩
    · rw [if_neg (by first | omega | (simp (disch := omega) only [Int32.lt_iff_toInt_lt, Int32.le_iff_toInt_le, ← Int32.toInt_inj, on_toInt, on_clamp, ti64, z0, z1, z2, zm1, i0, i1, im1, zz3, zz4, zz5, zz6, zz7, zz8, zz9, zz10, zz11, zz12, zz13, zz14, zz15, zz16, zz17, zz18, zz19, zz20, zz21, zz22, zz23, zz24, zz25, zz26, zz27, zz28, zz29, zz30, zz31, zz32, zz33, zz34, zz35, zz36, zz37, zz38, zz39, zz40, zz41, zz48, zz60, zz64, zz160, zz312, zz320, zzm2, zzm3, zzm4, zzm5, zzm6, zzm7, zzm8, zzm9, zzm10]; done) | (simp (disch := omega) only [Int32.lt_iff_toInt_lt, Int32.le_iff_toInt_le, ← Int32.toInt_inj, on_toInt, on_clamp, ti64, z0, z1, z2, zm1, i0, i1, im1, zz3, zz4, zz5, zz6, zz7, zz8, zz9, zz10, zz11, zz12, zz13, zz14, zz15, zz16, zz17, zz18, zz19, zz20, zz21, zz22, zz23, zz24, zz25, zz26, zz27, zz28, zz29, zz30, zz31, zz32, zz33, zz34, zz35, zz36, zz37, zz38, zz39, zz40, zz41, zz48, zz60, zz64, zz160, zz312, zz320, zzm2, zzm3, zzm4, zzm5, zzm6, zzm7, zzm8, zzm9, zzm10]; omega))]
      refine .inr ⟨_, rfl, ⟨h1.u rfl, i + 1, by omega, ?_⟩, ?_⟩
      · show (u2 (p2 y) 27 5 (Int32.ofNat i + 1)) 27 5 = _
        rw [u2_at, la1]
      · show 60 - ((u2 (p2 y) 27 5 (Int32.ofNat i + 1)) 27 5).toNatClampNeg < 60 - (Int32.ofNat i).toNatClampNeg
        rw [u2_at, la1, on_clamp (n := i + 1) (by omega), on_clamp (n := i) (by omega)]
        omega) 4294967296 (x, u2 I 27 5 0) (by
      show 60 - ((u2 I 27 5 0) 27 5).toNatClampNeg < _
      omega) ⟨Ag.rfl.u rfl, 0, by decide, rfl⟩
  have h75 : ∀ J a, Ag I J → ∃ K, F_X7_goBlind_75 J 1 x a = some K ∧ Ag I K := by
    intro J a hJ
    unfold F_X7_goBlind_75 F_X7_goBlind_88
    split
    · exact ⟨_, rfl, (hJ.u rfl).u rfl⟩
    · exact ⟨_, rfl, (hJ.u rfl).u rfl⟩
  obtain ⟨K, k1, k2⟩ := h75 (p2 r) (p1 r) e2
  refine ⟨K, ?_, k2⟩
  show (lpp (fun y => F_X7_goBlind_8_1 (p2 y) 1 x (p1 y)) 4294967296 (x, u2 I 27 5 0)).bind _ = _
  rw [e1]
  exact k1
theorem most9 {I : WI} {h w : Nat} (hC : Cl h w) (e3 : I 33 0 = Int32.ofNat h) (e4 : I 33 1 = Int32.ofNat w) (x : Int64) (k : Int32) : ∃ v, F_X9_mostOf I x k = some v := by
  obtain ⟨⟨h1, h2⟩, h3, h4⟩ := hC
  have h90 : ∀ a b c d e, F_X9_mostOf_90_1 I a b c d e = some (.inr (c, e, d + 1)) := fun _ _ _ _ _ => rfl
  have h74 : ∀ a b c d e f, ∃ p q, F_X9_mostOf_74_1 I a b c d e f = some (.inr (p, q, d + 1)) := by
    intro a b c d e f
    unfold F_X9_mostOf_74_1
    split <;> exact ⟨_, _, rfl⟩
  have h43 : ∀ a b c d e f g, ∃ p q, F_X9_mostOf_43_1 I a b c d e f g = if f ≤ g then some (.inl c) else some (.inr (p, q, e + 1)) := by
    intro a b c d e f g
    unfold F_X9_mostOf_43_1
    by_cases q : f ≤ g
    · rw [if_pos q]
      exact ⟨0, 0, (if_pos q).symm⟩
    · rw [if_neg q]
      split
      · obtain ⟨p, r, e⟩ := h74 a b d e (F_X9_many (a &&& (F_X9_actSet I b e))) c
        first | exact ⟨p, r, e⟩ | exact ⟨p, r, e.trans (if_neg q).symm⟩
      · obtain ⟨p, r, e⟩ := h74 a b d e (F_X9_many (a &&& (F_X9_actSet I b e))) e
        first | exact ⟨p, r, e⟩ | exact ⟨p, r, e.trans (if_neg q).symm⟩
  have hl : ∀ a b, ∃ r, lpp (fun y => F_X9_mostOf_26_1 I x k (p1 y) (p1 (p2 y)) (p2 (p2 y))) 4294967296 (a, b, 0) = some r := by
    intro a b
    obtain ⟨m, hm, hk⟩ : ∃ m, m ≤ 8 ∧ (if k = 0 then I 33 0 else I 33 1) = Int32.ofNat m := by
      by_cases c : k = 0
      · exact ⟨h, h2, by rw [if_pos c, e3]⟩
      · exact ⟨w, h4, by rw [if_neg c, e4]⟩
    have h26 : ∀ a b c, ∃ p q, F_X9_mostOf_26_1 I x k a b c = if Int32.ofNat m ≤ c then some (.inl a) else some (.inr (p, q, c + 1)) := by
      intro a b c
      unfold F_X9_mostOf_26_1
      by_cases d : k = 0
      · rw [if_pos d] at hk ⊢
        rw [hk]
        exact h43 _ _ _ _ _ _ _
      · rw [if_neg d] at hk ⊢
        rw [hk]
        exact h43 _ _ _ _ _ _ _
    obtain ⟨r, r1, -⟩ := lpp_ms (f := fun y => F_X9_mostOf_26_1 I x k (p1 y) (p1 (p2 y)) (p2 (p2 y))) (fun y : Int32 × Int32 × Int32 => ∃ i, i ≤ m ∧ p2 (p2 y) = Int32.ofNat i) (fun _ => True) (fun y => m - (p2 (p2 y)).toNatClampNeg) (fun y hy => by
      obtain ⟨i, hi, hy⟩ := hy
      obtain ⟨p, q, e⟩ := h26 (p1 y) (p1 (p2 y)) (p2 (p2 y))
      show (∃ r, F_X9_mostOf_26_1 I x k (p1 y) (p1 (p2 y)) (p2 (p2 y)) = some (.inl r) ∧ _) ∨ (∃ s', F_X9_mostOf_26_1 I x k (p1 y) (p1 (p2 y)) (p2 (p2 y)) = some (.inr s') ∧ _)
      rw [e, hy]
      by_cases d : m ≤ i
      · rw [if_pos ((ge_on (by omega) (by omega)).mpr d)]
        exact .inl ⟨_, rfl, trivial⟩
      · rw [if_neg fun q => d ((ge_on (by omega) (by omega)).mp q)]
        refine .inr ⟨_, rfl, ⟨i + 1, by omega, ?_⟩, ?_⟩
        · show Int32.ofNat i + 1 = _
          rw [la1]
        · show m - (Int32.ofNat i + 1).toNatClampNeg < m - (Int32.ofNat i).toNatClampNeg
          rw [la1, on_clamp (n := i + 1) (by omega), on_clamp (n := i) (by omega)]
          omega) 4294967296 (a, b, 0) (by
        show m - (0 : Int32).toNatClampNeg < _
        omega) ⟨0, Nat.zero_le _, rfl⟩
    exact ⟨r, r1⟩
  have h19 : ∀ a, ∃ v, F_X9_mostOf_19 I x k (-4) a = some v := by
    intro a
    obtain ⟨r, hr⟩ := hl (-4) (a / 2)
    refine ⟨r, ?_⟩
    show (lpp (fun y => F_X9_mostOf_26_1 I x k (p1 y) (p1 (p2 y)) (p2 (p2 y))) 4294967296 (-4, a / 2, 0)).bind _ = _
    rw [hr]
    rfl
  unfold F_X9_mostOf
  split
  · exact h19 _
  · exact h19 _
theorem blind9 {I : WI} {L : WL} {a1 : Int32} {h w : Nat} (hC : Cl h w) (e3 : I 33 0 = Int32.ofNat h) (e4 : I 33 1 = Int32.ofNat w) : ∃ v, F_X9_blind I L a1 = some v := by
  have h83 : ∀ a b c d, ∃ x, F_X9_blind_83_1 I L a1 a b c d = some (.inr (x, a + 1)) := by
    intro a b c d
    unfold F_X9_blind_83_1 F_X9_blind_104_1
    split <;> exact ⟨_, rfl⟩
  have h35 : ∀ x i, ∃ y, F_X9_blind_35_1 I L a1 x i = if 60 ≤ i then some (.inl (x, i)) else if (lg_cmp x 0) = 0 then some (.inl (x, i)) else some (.inr (y, i + 1)) := by
    intro x i
    obtain ⟨u, hu⟩ := most9 hC e3 e4 x 0
    obtain ⟨v, hv⟩ := most9 hC e3 e4 x 1
    unfold F_X9_blind_35_1
    rw [hu, hv, ob_some, ob_some]
    by_cases c : 60 ≤ i
    · rw [if_pos c]
      exact ⟨0, (if_pos c).symm⟩
    rw [if_neg c]
    by_cases d : (lg_cmp x 0) = 0
    · rw [if_pos d]
      exact ⟨0, by rw [if_neg c, if_pos d]⟩
    rw [if_neg d]
    split
    · obtain ⟨y, e⟩ := h83 i v 0 x
      first | exact ⟨y, e⟩ | exact ⟨y, by rw [e, if_neg c, if_neg d]⟩
    · obtain ⟨y, e⟩ := h83 i v (F_X9_actSet I 0 u) x
      first | exact ⟨y, e⟩ | exact ⟨y, by rw [e, if_neg c, if_neg d]⟩
  have hl : ∀ x, ∃ r, lpp (fun y => F_X9_blind_35_1 I L a1 (p1 y) (p2 y)) 4294967296 (x, 0) = some r := by
    intro x
    obtain ⟨r, r1, -⟩ := lpp_ms (f := fun y => F_X9_blind_35_1 I L a1 (p1 y) (p2 y)) (fun y : Int64 × Int32 => ∃ i, i ≤ 60 ∧ p2 y = Int32.ofNat i) (fun _ => True) (fun y => 60 - (p2 y).toNatClampNeg) (fun y hy => by
      obtain ⟨i, hi, hy⟩ := hy
      obtain ⟨z, e⟩ := h35 (p1 y) (p2 y)
      show (∃ r, F_X9_blind_35_1 I L a1 (p1 y) (p2 y) = some (.inl r) ∧ _) ∨ (∃ s', F_X9_blind_35_1 I L a1 (p1 y) (p2 y) = some (.inr s') ∧ _)
      rw [e, hy]
      by_cases d : 60 ≤ i
      · rw [if_pos (by first | omega | (simp (disch := omega) only [Int32.lt_iff_toInt_lt, Int32.le_iff_toInt_le, ← Int32.toInt_inj, on_toInt, on_clamp, ti64, z0, z1, z2, zm1, i0, i1, im1, zz3, zz4, zz5, zz6, zz7, zz8, zz9, zz10, zz11, zz12, zz13, zz14, zz15, zz16, zz17, zz18, zz19, zz20, zz21, zz22, zz23, zz24, zz25, zz26, zz27, zz28, zz29, zz30, zz31, zz32, zz33, zz34, zz35, zz36, zz37, zz38, zz39, zz40, zz41, zz48, zz60, zz64, zz160, zz312, zz320, zzm2, zzm3, zzm4, zzm5, zzm6, zzm7, zzm8, zzm9, zzm10]; done) | (simp (disch := omega) only [Int32.lt_iff_toInt_lt, Int32.le_iff_toInt_le, ← Int32.toInt_inj, on_toInt, on_clamp, ti64, z0, z1, z2, zm1, i0, i1, im1, zz3, zz4, zz5, zz6, zz7, zz8, zz9, zz10, zz11, zz12, zz13, zz14, zz15, zz16, zz17, zz18, zz19, zz20, zz21, zz22, zz23, zz24, zz25, zz26, zz27, zz28, zz29, zz30, zz31, zz32, zz33, zz34, zz35, zz36, zz37, zz38, zz39, zz40, zz41, zz48, zz60, zz64, zz160, zz312, zz320, zzm2, zzm3, zzm4, zzm5, zzm6, zzm7, zzm8, zzm9, zzm10]; omega))]
        exact .inl ⟨_, rfl, trivial⟩
      rw [if_neg (by first | omega | (simp (disch := omega) only [Int32.lt_iff_toInt_lt, Int32.le_iff_toInt_le, ← Int32.toInt_inj, on_toInt, on_clamp, ti64, z0, z1, z2, zm1, i0, i1, im1, zz3, zz4, zz5, zz6, zz7, zz8, zz9, zz10, zz11, zz12, zz13, zz14, zz15, zz16, zz17, zz18, zz19, zz20, zz21, zz22, zz23, zz24, zz25, zz26, zz27, zz28, zz29, zz30, zz31, zz32, zz33, zz34, zz35, zz36, zz37, zz38, zz39, zz40, zz41, zz48, zz60, zz64, zz160, zz312, zz320, zzm2, zzm3, zzm4, zzm5, zzm6, zzm7, zzm8, zzm9, zzm10]; done) | (simp (disch := omega) only [Int32.lt_iff_toInt_lt, Int32.le_iff_toInt_le, ← Int32.toInt_inj, on_toInt, on_clamp, ti64, z0, z1, z2, zm1, i0, i1, im1, zz3, zz4, zz5, zz6, zz7, zz8, zz9, zz10, zz11, zz12, zz13, zz14, zz15, zz16, zz17, zz18, zz19, zz20, zz21, zz22, zz23, zz24, zz25, zz26, zz27, zz28, zz29, zz30, zz31, zz32, zz33, zz34, zz35, zz36, zz37, zz38, zz39, zz40, zz41, zz48, zz60, zz64, zz160, zz312, zz320, zzm2, zzm3, zzm4, zzm5, zzm6, zzm7, zzm8, zzm9, zzm10]; omega))]
      by_cases c : (lg_cmp (p1 y) 0) = 0
      · rw [if_pos c]
        exact .inl ⟨_, rfl, trivial⟩
      · rw [if_neg c]
        refine .inr ⟨_, rfl, ⟨i + 1, by omega, ?_⟩, ?_⟩
        · show Int32.ofNat i + 1 = _
          rw [la1]
        · show 60 - (Int32.ofNat i + 1).toNatClampNeg < 60 - (Int32.ofNat i).toNatClampNeg
          rw [la1, on_clamp (n := i + 1) (by omega), on_clamp (n := i) (by omega)]
          omega) 4294967296 (x, 0) (by
        show 60 - (0 : Int32).toNatClampNeg < _
        omega) ⟨0, by decide, rfl⟩
    exact ⟨r, r1⟩
  unfold F_X9_blind
  split
  · exact ⟨_, rfl⟩
  split
  · exact ⟨_, rfl⟩
  obtain ⟨r, hr⟩ := hl ((L 33 2) ^^^ (L 33 3))
  unfold F_X9_blind_35
  rw [hr, ob_some]
  unfold F_X9_blind_112 F_X9_blind_137
  repeat' (first | split | exact ⟨_, rfl⟩)
theorem N_19 {I : WI} {L : WL} {a1 : Int32} (H : Inv I L) : ∃ v, (F_X8_blind I L a1) = some v ∧ ∃ w, (F_X9_blind (p2 v) L a1) = some w ∧ Inv (p2 v) L := by
  obtain ⟨h, w, hC, c1, c2, c3, c4⟩ := H.size
  have e8 : ∃ v, F_X8_blind I L a1 = some v ∧ Ag I (p2 v) := by
    obtain ⟨J, j1, j2⟩ := blind8 (I := I) ((L 1 3) ^^^ (L 2 3))
    unfold F_X8_blind F_X8_blind_9 F_X8_blind_85
    rw [j1, ob_some]
    repeat' (first | split | exact ⟨_, rfl, Ag.rfl⟩ | exact ⟨_, rfl, j2⟩)
  obtain ⟨v, v1, v2⟩ := e8
  obtain ⟨x, hx⟩ := blind9 (L := L) (a1 := a1) hC ((v2 33 0 rfl).trans c3) ((v2 33 1 rfl).trans c4)
  exact ⟨v, v1, x, hx, H.ag v2 Ag.rfl⟩
/-! both, with slants, power, duel: they end, what is kept stays -/
theorem ag_frp {S : Type} {g : Int32 → S → Option S} {b : Nat} (hb : b < 2147483648) (P : S → Prop) {s : S} (h0 : P s) (h : ∀ i x, i < b → P x → ∃ y, g (Int32.ofNat i) x = some y ∧ P y) : ∃ e, frp0 g (Int32.ofNat b) (fu 0 (Int32.ofNat b)) 0 s = some e ∧ P (p2 e) :=
  frp0_nat hb (fun _ x => P x) h h0
theorem both8 {I : WI} {L : WL} (x : Int64) : ∃ v, F_X7_findBothSpoilt I L 1 x = some v ∧ Ag2 I L v := by
  have h82 : ∀ (J : WI) (K : WL) a b c, F_X7_pairWith_82_1 J K 1 a b c = some J := fun _ _ _ _ _ => rfl
  have h13 : ∀ (J : WI) (K : WL) a b i, i < 64 → Ag I J → ∃ N, F_X7_pairWith_13_1 J K 1 a b (Int32.ofNat i) = some N ∧ Ag I N := by
    intro J K a b i hi hJ
    unfold F_X7_pairWith_13_1 F_X7_pairWith_69_1 F_X7_pairWith_82_1
    rw [if_neg (nin (k := i) (N := 64) hi (by decide))]
    repeat' (first | split | exact ⟨_, rfl, hJ⟩ | exact ⟨_, rfl, (hJ.u rfl).u rfl⟩)
  have hpw : ∀ (J : WI) (K : WL) a b, Ag I J → ∃ N, F_X7_pairWith J K 1 a b = some N ∧ Ag I N := by
    intro J K a b hJ
    obtain ⟨e, e1, e2⟩ := ag_frp (g := fun i y => F_X7_pairWith_13_1 y K 1 a b i) (b := 64) (by decide) (fun y => Ag I y) hJ (fun i y hi hy => h13 y K a b i hi hy)
    refine ⟨p2 e, ?_, e2⟩
    show (frp0 (fun i y => F_X7_pairWith_13_1 y K 1 a b i) (Int32.ofNat 64) (fu 0 (Int32.ofNat 64)) 0 J).bind _ = _
    rw [e1]
    rfl
  have h64 : ∀ (J : WI) (K : WL) a b i, i < 64 → Ag I J → ∃ N, F_X7_findBothSpoilt_64_2 J K 1 a b (Int32.ofNat i) = some N ∧ Ag I N := by
    intro J K a b i hi hJ
    unfold F_X7_findBothSpoilt_64_2
    split
    · exact ⟨J, rfl, hJ⟩
    · rw [if_neg (nin (k := i) (N := 64) hi (by decide))]
      obtain ⟨N, n1, n2⟩ := hpw J K (Int32.ofNat i) (b ^^^ K 29 (Int32.ofNat i).toNatClampNeg) hJ
      rw [n1]
      exact ⟨N, rfl, n2⟩
  obtain ⟨e, e1, e2⟩ := ag_frp (g := fun i y => F_X7_findBothSpoilt_30_1 (u2 (u2 I 27 6 0) 27 7 0) y 1 x (F_X0_formOf (u2 (u2 I 27 6 0) 27 7 0) 1 x) i) (b := 64) (by decide) (fun y => Ag L y) Ag.rfl (fun i y hi hy => by
    refine ⟨u2 y 29 i (F_X0_formOf (u2 (u2 I 27 6 0) 27 7 0) 1 (lsh 1 (Int32.ofNat i))), ?_, hy.u rfl⟩
    show F_X7_findBothSpoilt_30_1 _ y 1 x _ (Int32.ofNat i) = _
    unfold F_X7_findBothSpoilt_30_1
    rw [if_neg (nin (k := i) (N := 64) hi (by decide)), on_clamp (n := i) (by omega)])
  obtain ⟨e', f1, f2⟩ := ag_frp (g := fun i y => F_X7_findBothSpoilt_64_2 y (p2 e) 1 x (F_X0_formOf (u2 (u2 I 27 6 0) 27 7 0) 1 x) i) (b := 64) (by decide) (fun y => Ag I y) (s := u2 (u2 I 27 6 0) 27 7 0) ((Ag.rfl.u rfl).u rfl) (fun i y hi hy => h64 y (p2 e) x _ i hi hy)
  have hf : F_X0_formOf I 1 x = F_X0_formOf (u2 (u2 I 27 6 0) 27 7 0) 1 x := rfl
  refine ⟨(p2 e', p2 e), ?_, f2, e2⟩
  show (frp0 (fun i y => F_X7_findBothSpoilt_30_1 (u2 (u2 I 27 6 0) 27 7 0) y 1 x (F_X0_formOf (u2 (u2 I 27 6 0) 27 7 0) 1 x) i) (Int32.ofNat 64) (fu 0 (Int32.ofNat 64)) 0 L).bind _ = _
  rw [e1]
  show (frp0 (fun i y => F_X7_findBothSpoilt_64_2 y (p2 e) 1 x (F_X0_formOf (u2 (u2 I 27 6 0) 27 7 0) 1 x) i) (Int32.ofNat 64) (fu 0 (Int32.ofNat 64)) 0 (u2 (u2 I 27 6 0) 27 7 0)).bind _ = _
  rw [f1]
  rfl
theorem N_25 {I : WI} {L : WL} {a1 : Int32} (H : Inv I L) : ∃ v, (F_X8_both I L a1) = some v ∧ Inv (p1 (p2 v)) (p2 (p2 v)) := by
  suffices q : ∃ v, F_X8_both I L a1 = some v ∧ Ag2 I L (p2 v) by
    obtain ⟨v, e, g⟩ := q
    exact ⟨v, e, H.ag2 g⟩
  obtain ⟨u, u1, u2'⟩ := both8 (I := I) (L := L) ((L 1 3) ^^^ (L 2 3))
  unfold F_X8_both F_X8_both_9
  rw [u1, ob_some]
  repeat' (first | split | exact ⟨_, rfl, Ag2.rfl⟩ | exact ⟨_, rfl, u2'⟩)
theorem worth_some {I : WI} {L : WL} {r s : Int32} {n : Nat} (hn : n ≤ 4) : ∃ v, F_X9_worthOf I L r (Int32.ofNat n) s = some v := by
  have h80 : ∀ a b c d e f g k l, ∃ x y z, F_X9_worthOf_80_1 I L a b c d e f g k l = some (.inr (x, y, z, f + (-1))) := by
    intro a b c d e f g k l
    unfold F_X9_worthOf_80_1 F_X9_worthOf_115_1 F_X9_worthOf_107_1 F_X9_worthOf_116_1
    repeat' (first | split | exact ⟨_, _, _, rfl⟩)
  have h43 : ∀ a b c d e f g k, ∃ x y z, F_X9_worthOf_43_1 I L a b c d e f g k = some (.inr (x, y, z, g + (-1))) := by
    intro a b c d e f g k
    unfold F_X9_worthOf_43_1 F_X9_worthOf_79_1
    repeat' (first | split | exact h80 _ _ _ _ _ _ _ _ _)
  have h17 : ∀ a b c d e f g, ∃ x y z, F_X9_worthOf_17_1 I L a b c d e f g = if g < 0 then some (.inl (d, f)) else some (.inr (x, y, z, g + (-1))) := by
    intro a b c d e f g
    unfold F_X9_worthOf_17_1
    by_cases q : g < 0
    · rw [if_pos q]
      exact ⟨0, 0, 0, (if_pos q).symm⟩
    · rw [if_neg q]
      have : ∃ x y z, (if (g - g / 2 * 2) = 0 then (F_X9_worthOf_34_1 I L a b c d e f g 1) else (F_X9_worthOf_34_1 I L a b c d e f g 0)) = some (.inr (x, y, z, g + (-1))) := by
        unfold F_X9_worthOf_34_1
        repeat' (first | split | exact h43 _ _ _ _ _ _ _ _)
      obtain ⟨x, y, z, e'⟩ := this
      exact ⟨x, y, z, e'.trans (if_neg q).symm⟩
  have hz : (Int32.ofNat n - 1).toInt = (n : Int) - 1 := on_m1 (by omega)
  obtain ⟨v, v1, -⟩ := lpp_ms (f := fun x => F_X9_worthOf_17_1 I L r (Int32.ofNat n) s (p1 x) (p1 (p2 x)) (p1 (p2 (p2 x))) (p2 (p2 (p2 x)))) (fun x : Int64 × Int32 × Int32 × Int32 => -1 ≤ (p2 (p2 (p2 x))).toInt ∧ (p2 (p2 (p2 x))).toInt ≤ 3) (fun _ => True) (fun x => ((p2 (p2 (p2 x))).toInt + 1).toNat) (fun x hx => by
    obtain ⟨a, b, c, e⟩ := h17 r (Int32.ofNat n) s (p1 x) (p1 (p2 x)) (p1 (p2 (p2 x))) (p2 (p2 (p2 x)))
    show (∃ r', F_X9_worthOf_17_1 I L r (Int32.ofNat n) s (p1 x) (p1 (p2 x)) (p1 (p2 (p2 x))) (p2 (p2 (p2 x))) = some (.inl r') ∧ _) ∨ (∃ s', F_X9_worthOf_17_1 I L r (Int32.ofNat n) s (p1 x) (p1 (p2 x)) (p1 (p2 (p2 x))) (p2 (p2 (p2 x))) = some (.inr s') ∧ _)
    rw [e]
    by_cases q : p2 (p2 (p2 x)) < 0
    · rw [if_pos q]
      exact .inl ⟨_, rfl, trivial⟩
    · rw [if_neg q]
      rw [Int32.lt_iff_toInt_lt, z0] at q
      have e2 : (p2 (p2 (p2 x)) + (-1)).toInt = (p2 (p2 (p2 x))).toInt - 1 := by
        rw [ti_add] <;> rw [zm1] <;> omega
      refine .inr ⟨_, rfl, ⟨?_, ?_⟩, ?_⟩
      · show -1 ≤ (p2 (p2 (p2 x)) + (-1)).toInt
        omega
      · show (p2 (p2 (p2 x)) + (-1)).toInt ≤ 3
        omega
      · show ((p2 (p2 (p2 x)) + (-1)).toInt + 1).toNat < ((p2 (p2 (p2 x))).toInt + 1).toNat
        omega) 4294967296 (L 33 2, r, 1, Int32.ofNat n - 1) (by
      show ((Int32.ofNat n - 1).toInt + 1).toNat < _
      omega) ⟨by show -1 ≤ (Int32.ofNat n - 1).toInt; omega, by show (Int32.ofNat n - 1).toInt ≤ 3; omega⟩
  unfold F_X9_worthOf F_X9_worthOf_17
  rw [v1, ob_some]
  unfold F_X9_worthOf_125 F_X9_worthOf_140
  split <;> exact ⟨_, rfl⟩
theorem ag_tb {I : WI} {v : Int32} {W : Nat → Int32} : Ag I (tb I v W) := fun k j q => by
  unfold tb
  by_cases c : k = 33 ∧ j = 38
  · rw [c.1, c.2] at q
    exact absurd q (by decide)
  rw [if_neg c]
  by_cases d : k = 41
  · rw [d] at q
    exact absurd q (by simp [sc])
  rw [if_neg d]
theorem lines_n {I : WI} {h w : Nat} (hC : Cl h w) (e1 : I 1 1 = Int32.ofNat h) (e2 : I 1 2 = Int32.ofNat w) (k : Int32) : ∃ m, m ≤ 15 ∧ F_X0_linesOf I 1 k = Int32.ofNat m := by
  obtain ⟨⟨h1, h2⟩, h3, h4⟩ := hC
  unfold F_X0_linesOf
  rw [e1, e2]
  split
  · exact ⟨h, by omega, rfl⟩
  split
  · exact ⟨w, by omega, rfl⟩
  split
  · exact ⟨h + w - 1, by omega, by rw [oadd]; exact on_sub (b := 1) (by omega)⟩
  · exact ⟨0, by omega, rfl⟩
theorem duel8 {I : WI} {L : WL} {a2 a3 : Int32} {h w : Nat} (hC : Cl h w) (e1 : I 1 1 = Int32.ofNat h) (e2 : I 1 2 = Int32.ofNat w) (a1 : Int32) : ∃ v, F_X8_duel I L a1 a2 a3 = some v := by
  by_cases c : a1.toInt < 1 ∨ 4 < a1.toInt
  · unfold F_X8_duel F_X8_duel_19
    rcases c with c | c
    · rw [if_pos (by first | omega | (simp (disch := omega) only [Int32.lt_iff_toInt_lt, Int32.le_iff_toInt_le, ← Int32.toInt_inj, on_toInt, on_clamp, ti64, z0, z1, z2, zm1, i0, i1, im1, zz3, zz4, zz5, zz6, zz7, zz8, zz9, zz10, zz11, zz12, zz13, zz14, zz15, zz16, zz17, zz18, zz19, zz20, zz21, zz22, zz23, zz24, zz25, zz26, zz27, zz28, zz29, zz30, zz31, zz32, zz33, zz34, zz35, zz36, zz37, zz38, zz39, zz40, zz41, zz48, zz60, zz64, zz160, zz312, zz320, zzm2, zzm3, zzm4, zzm5, zzm6, zzm7, zzm8, zzm9, zzm10]; done) | (simp (disch := omega) only [Int32.lt_iff_toInt_lt, Int32.le_iff_toInt_le, ← Int32.toInt_inj, on_toInt, on_clamp, ti64, z0, z1, z2, zm1, i0, i1, im1, zz3, zz4, zz5, zz6, zz7, zz8, zz9, zz10, zz11, zz12, zz13, zz14, zz15, zz16, zz17, zz18, zz19, zz20, zz21, zz22, zz23, zz24, zz25, zz26, zz27, zz28, zz29, zz30, zz31, zz32, zz33, zz34, zz35, zz36, zz37, zz38, zz39, zz40, zz41, zz48, zz60, zz64, zz160, zz312, zz320, zzm2, zzm3, zzm4, zzm5, zzm6, zzm7, zzm8, zzm9, zzm10]; omega))]
      exact ⟨_, rfl⟩
    · rw [if_neg (by first | omega | (simp (disch := omega) only [Int32.lt_iff_toInt_lt, Int32.le_iff_toInt_le, ← Int32.toInt_inj, on_toInt, on_clamp, ti64, z0, z1, z2, zm1, i0, i1, im1, zz3, zz4, zz5, zz6, zz7, zz8, zz9, zz10, zz11, zz12, zz13, zz14, zz15, zz16, zz17, zz18, zz19, zz20, zz21, zz22, zz23, zz24, zz25, zz26, zz27, zz28, zz29, zz30, zz31, zz32, zz33, zz34, zz35, zz36, zz37, zz38, zz39, zz40, zz41, zz48, zz60, zz64, zz160, zz312, zz320, zzm2, zzm3, zzm4, zzm5, zzm6, zzm7, zzm8, zzm9, zzm10]; done) | (simp (disch := omega) only [Int32.lt_iff_toInt_lt, Int32.le_iff_toInt_le, ← Int32.toInt_inj, on_toInt, on_clamp, ti64, z0, z1, z2, zm1, i0, i1, im1, zz3, zz4, zz5, zz6, zz7, zz8, zz9, zz10, zz11, zz12, zz13, zz14, zz15, zz16, zz17, zz18, zz19, zz20, zz21, zz22, zz23, zz24, zz25, zz26, zz27, zz28, zz29, zz30, zz31, zz32, zz33, zz34, zz35, zz36, zz37, zz38, zz39, zz40, zz41, zz48, zz60, zz64, zz160, zz312, zz320, zzm2, zzm3, zzm4, zzm5, zzm6, zzm7, zzm8, zzm9, zzm10]; omega)), if_pos (by first | omega | (simp (disch := omega) only [Int32.lt_iff_toInt_lt, Int32.le_iff_toInt_le, ← Int32.toInt_inj, on_toInt, on_clamp, ti64, z0, z1, z2, zm1, i0, i1, im1, zz3, zz4, zz5, zz6, zz7, zz8, zz9, zz10, zz11, zz12, zz13, zz14, zz15, zz16, zz17, zz18, zz19, zz20, zz21, zz22, zz23, zz24, zz25, zz26, zz27, zz28, zz29, zz30, zz31, zz32, zz33, zz34, zz35, zz36, zz37, zz38, zz39, zz40, zz41, zz48, zz60, zz64, zz160, zz312, zz320, zzm2, zzm3, zzm4, zzm5, zzm6, zzm7, zzm8, zzm9, zzm10]; done) | (simp (disch := omega) only [Int32.lt_iff_toInt_lt, Int32.le_iff_toInt_le, ← Int32.toInt_inj, on_toInt, on_clamp, ti64, z0, z1, z2, zm1, i0, i1, im1, zz3, zz4, zz5, zz6, zz7, zz8, zz9, zz10, zz11, zz12, zz13, zz14, zz15, zz16, zz17, zz18, zz19, zz20, zz21, zz22, zz23, zz24, zz25, zz26, zz27, zz28, zz29, zz30, zz31, zz32, zz33, zz34, zz35, zz36, zz37, zz38, zz39, zz40, zz41, zz48, zz60, zz64, zz160, zz312, zz320, zzm2, zzm3, zzm4, zzm5, zzm6, zzm7, zzm8, zzm9, zzm10]; omega))]
      exact ⟨_, rfl⟩
  have hd : (a1 - 1).toInt ≤ 3 := by
    rw [ti_sub] <;> rw [z1] <;> omega
  have h56 : ∀ a b x y, ∃ v, F_X8_duel_56_1 I L a1 a2 a3 a b x y = some v := by
    intro a b x y
    unfold F_X8_duel_56_1 F_X8_duel_91_1 F_X8_duel_114_1 F_X8_duel_122_1
    rw [if_pos hd, if_pos hd]
    repeat' (first | split | exact ⟨_, rfl⟩)
  have h128 : ∀ x y, ∃ v, F_X8_duel_128 I L a1 a2 a3 x y = some v := by
    intro x y
    unfold F_X8_duel_128 F_X8_duel_151 F_X8_duel_175 F_X8_duel_186
    rw [if_pos hd, if_pos hd]
    repeat' (first | split | exact ⟨_, rfl⟩)
  have h30 : ∀ k, ∃ v, F_X8_duel_30 I L a1 a2 a3 k = some v := by
    intro k
    obtain ⟨m, hm, em⟩ := lines_n hC e1 e2 k
    obtain ⟨e, q1, -⟩ := ag_frp (g := fun i x => F_X8_duel_56_1 I L a1 a2 a3 k i (p1 x) (p2 x)) (b := m) (by omega) (fun _ => True) (s := (8, 0)) trivial (fun i x _ _ => by
      obtain ⟨v, hv⟩ := h56 k (Int32.ofNat i) (p1 x) (p2 x)
      exact ⟨v, hv, trivial⟩)
    obtain ⟨v, hv⟩ := h128 (p1 (p2 e)) (p2 (p2 e))
    refine ⟨v, ?_⟩
    show (frp0 (fun i x => F_X8_duel_56_1 I L a1 a2 a3 k i (p1 x) (p2 x)) (F_X0_linesOf I 1 k) (fu 0 (F_X0_linesOf I 1 k)) 0 (8, 0)).bind _ = _
    rw [em, q1]
    exact hv
  unfold F_X8_duel F_X8_duel_19
  repeat' (first | split | exact ⟨_, rfl⟩ | exact h30 _)
theorem duel9 {I : WI} {L : WL} {a2 a3 : Int32} (a1 : Int32) : ∃ w, F_X9_duel I L a1 a2 a3 = some w ∧ Ag I (p2 w) := by
  by_cases c : (1 ≤ a1.toInt ∧ a1.toInt ≤ 4) ∧ 0 ≤ a3.toInt ∧ a3.toInt ≤ 1
  · obtain ⟨n, rfl, hn, -⟩ := nn (show 0 ≤ a1.toInt by omega)
    obtain ⟨q, rfl, hq, -⟩ := nn c.2.1
    rw [hn, hq] at c
    obtain ⟨v', e, -⟩ := duel_eq (I := I) (L := L) (a2 := a2) (n := n) (q := q) (w := fun j => (F_X9_worthOf I L (Int32.ofNat j) (Int32.ofNat n) a2).getD 0) (by omega) (by omega) (by omega) (fun v W j _ => by
      rw [worthOf_tb]
      obtain ⟨u, hu⟩ := worth_some (I := I) (L := L) (r := Int32.ofNat j) (s := a2) (show n ≤ 4 by omega)
      rw [hu]
      rfl)
    exact ⟨_, e, ag_tb⟩
  · refine ⟨(-1, I), ?_, Ag.rfl⟩
    unfold F_X9_duel F_X9_duel_22
    rw [in_eq, in_eq, i0, i1, show (4 : Int64).toInt = 4 by decide]
    by_cases d : 1 ≤ a1.toInt ∧ a1.toInt ≤ 4
    · rw [if_pos d, if_neg (show ¬ (1 : Int32) = 0 by decide), if_neg (show ¬ (0 ≤ a3.toInt ∧ a3.toInt ≤ 1) from fun e => c ⟨d, e⟩), if_pos rfl]
    · rw [if_neg d, if_pos rfl]
theorem N_22 {I : WI} {L : WL} {a1 a2 a3 : Int32} (H : Inv I L) : ∃ v, (F_X8_duel I L a1 (nz a2) a3) = some v ∧ ∃ w, (F_X9_duel I L a1 (nz a2) a3) = some w ∧ Inv (p2 w) L := by
  obtain ⟨h, w, hC, c1, c2, c3, c4⟩ := H.size
  obtain ⟨v, hv⟩ := duel8 (L := L) (a2 := nz a2) (a3 := a3) hC c1 c2 a1
  obtain ⟨u, h1, h2⟩ := duel9 (I := I) (L := L) (a2 := nz a2) (a3 := a3) a1
  exact ⟨v, hv, u, h1, H.ag h2 Ag.rfl⟩
/-! with slants, power: they end, what is kept stays -/
theorem frp1_some {R S : Type} {g : Int32 → S → Option (R ⊕ S)} {b : Nat} (hb : b < 2147483648) (h : ∀ i s, i < b → ∃ v, g (Int32.ofNat i) s = some v) : ∀ (n c : Nat) (s : S), c + n = b → ∃ v, frp1 g (Int32.ofNat b) n (Int32.ofNat c) s = some v := by
  intro n
  induction n with
  | zero => intro c s _; exact ⟨_, by rw [frp1]⟩
  | succ n ih =>
    intro c s hc
    rw [frp1]
    have hl : ¬ Int32.ofNat b ≤ Int32.ofNat c := fun q => absurd ((ge_on hb (by omega)).mp q) (by omega)
    rw [if_neg hl]
    obtain ⟨v, hv⟩ := h c s (by omega)
    rw [hv]
    cases v with
    | inl r => exact ⟨_, rfl⟩
    | inr s' =>
      rw [la1]
      exact ih (c + 1) s' (by omega)
theorem slantsMake {L : WL} (x : Int64) : ∃ v, F_X7_slantsThatMake L x = some v := by
  have h15 : ∀ i s, i < 15 → ∃ v, F_X7_slantsThatMake_15_1 L x (Int32.ofNat i) s = some v := by
    intro i s hi
    unfold F_X7_slantsThatMake_15_1 F_X7_slantsThatMake_48_1 F_X7_slantsThatMake_62_1
    rw [if_neg (nin (k := i) (N := 15) hi (by decide)), if_neg (nin (k := i) (N := 15) hi (by decide))]
    repeat' (first | split | exact ⟨_, rfl⟩)
  obtain ⟨v, hv⟩ := frp1_some (g := fun i s => F_X7_slantsThatMake_15_1 L x i s) (b := 15) (by decide) h15 15 0 0 (by decide)
  cases v with
  | inl r =>
    refine ⟨r, ?_⟩
    show (frp1 (fun i s => F_X7_slantsThatMake_15_1 L x i s) (Int32.ofNat 15) 15 (Int32.ofNat 0) 0).bind _ = _
    rw [hv]
    rfl
  | inr q =>
    refine ⟨p2 q, ?_⟩
    show (frp1 (fun i s => F_X7_slantsThatMake_15_1 L x i s) (Int32.ofNat 15) 15 (Int32.ofNat 0) 0).bind _ = _
    rw [hv]
    rfl
theorem try_ag {I J : WI} {L : WL} {a b : Int32} {x : Int64} (hJ : Ag I J) : ∃ K, F_X7_trySlants J L a b x = some K ∧ Ag I K := by
  obtain ⟨v, hv⟩ := slantsMake (L := L) x
  unfold F_X7_trySlants F_X7_trySlants_46 F_X7_trySlants_59
  rw [hv, ob_some]
  have h1 : Ag I (F_X7_take (u2 J 27 0 1) a b v) := ag_take' (hJ.u rfl)
  repeat' (first | split | exact ⟨_, rfl, hJ⟩ | exact ⟨_, rfl, h1⟩)
theorem slant8 {I : WI} {L : WL} {h w : Nat} (hC : Cl h w) (e1 : I 1 1 = Int32.ofNat h) (e2 : I 1 2 = Int32.ofNat w) (x : Int64) : ∃ v, F_X7_findSlanted I L 1 x = some v ∧ Ag2 I L v := by
  obtain ⟨⟨h1, h2⟩, h3, h4⟩ := hC
  have hph := pow_le h2
  have hpw := pow_le h4
  have hrow : ∀ J, Ag I J → F_X0_everyRow J 1 = Int32.ofNat (2 ^ h - 1) := by
    intro J hJ
    unfold F_X0_everyRow
    rw [hJ 1 1 rfl, e1]
    exact every_p h (by omega)
  have hcol : ∀ J, Ag I J → F_X0_everyColumn J 1 = Int32.ofNat (2 ^ w - 1) := by
    intro J hJ
    unfold F_X0_everyColumn
    rw [hJ 1 2 rfl, e2]
    exact every_p w (by omega)
  obtain ⟨e, f1, f2⟩ := ag_frp (g := fun i y => F_X7_findSlanted_13_1 I y 1 x i) (b := 15) (by decide) (fun y => Ag L y) Ag.rfl (fun i y hi hy => by
    refine ⟨u2 y 28 i (F_X0_squaresOf I 1 2 (Int32.ofNat i)), ?_, hy.u rfl⟩
    show F_X7_findSlanted_13_1 I y 1 x (Int32.ofNat i) = _
    unfold F_X7_findSlanted_13_1
    rw [if_neg (nin (k := i) (N := 15) hi (by decide)), on_clamp (n := i) (by omega)])
  generalize hK : p2 e = K at f2
  have hin : ∀ J i, Ag I J → ∃ N, F_X7_findSlanted_53_2 J K 1 x (Int32.ofNat i) 0 = some (.inr (Int32.ofNat (i + 1), N)) ∧ Ag I N := by
    intro J i hJ
    obtain ⟨r, r1, r2⟩ := lpp_cnt (f := fun y => F_X7_findSlanted_53_3 (p2 y) K 1 x (Int32.ofNat i) (p1 y)) (m := 2 ^ w) (fun _ N => Ag I N) (fun N => Ag I N) (fun j N hj hN => by
      obtain ⟨N', n1, n2⟩ := try_ag (L := K) (a := Int32.ofNat i) (b := Int32.ofNat j) (x := x ^^^ (F_X0_squaresTurned N 1 (Int32.ofNat i) (Int32.ofNat j))) hN
      refine ⟨N', ?_, n2⟩
      show F_X7_findSlanted_53_3 N K 1 x (Int32.ofNat i) (Int32.ofNat j) = _
      unfold F_X7_findSlanted_53_3
      rw [hcol N hN, if_neg fun q => absurd ((lt_onn (by omega) (by omega)).mp q) (by omega), n1, ob_some, la1]) (fun N hN => by
      refine ⟨N, ?_, hN⟩
      show F_X7_findSlanted_53_3 N K 1 x (Int32.ofNat i) (Int32.ofNat (2 ^ w)) = _
      unfold F_X7_findSlanted_53_3
      rw [hcol N hN, if_pos ((lt_onn (by omega) (by omega)).mpr (by omega))]) 4294967296 0 J (by omega) (by omega) hJ
    refine ⟨r, ?_, r2⟩
    show (lpp (fun y => F_X7_findSlanted_53_3 (p2 y) K 1 x (Int32.ofNat i) (p1 y)) 4294967296 (Int32.ofNat 0, J)).bind _ = _
    rw [r1, ob_some]
    unfold F_X7_findSlanted_86_2
    rw [la1]
  obtain ⟨r, r1, r2⟩ := lpp_cnt (f := fun y => F_X7_findSlanted_41_2 (p2 y) K 1 x (p1 y)) (m := 2 ^ h) (fun _ N => Ag I N) (fun N => Ag I N) (fun i N hi hN => by
    obtain ⟨N', n1, n2⟩ := hin N i hN
    refine ⟨N', ?_, n2⟩
    show F_X7_findSlanted_41_2 N K 1 x (Int32.ofNat i) = _
    unfold F_X7_findSlanted_41_2
    rw [hrow N hN, if_neg fun q => absurd ((lt_onn (by omega) (by omega)).mp q) (by omega), n1]) (fun N hN => by
    refine ⟨N, ?_, hN⟩
    show F_X7_findSlanted_41_2 N K 1 x (Int32.ofNat (2 ^ h)) = _
    unfold F_X7_findSlanted_41_2
    rw [hrow N hN, if_pos ((lt_onn (by omega) (by omega)).mpr (by omega))]) 4294967296 0 (u2 I 27 0 0) (by omega) (by omega) (Ag.rfl.u rfl)
  refine ⟨(r, K), ?_, r2, f2⟩
  show (frp0 (fun i y => F_X7_findSlanted_13_1 I y 1 x i) (Int32.ofNat 15) (fu 0 (Int32.ofNat 15)) 0 L).bind _ = _
  rw [f1, ob_some, hK]
  show (lpp (fun y => F_X7_findSlanted_41_2 (p2 y) K 1 x (p1 y)) 4294967296 (Int32.ofNat 0, u2 I 27 0 0)).bind _ = _
  rw [r1]
  rfl
theorem slant9 {I : WI} {L : WL} {a1 : Int32} {h w : Nat} (hC : Cl h w) (e3 : I 33 0 = Int32.ofNat h) (e4 : I 33 1 = Int32.ofNat w) : ∃ v, F_X9_slanted I L a1 = some v ∧ Ag I (p2 v) := by
  obtain ⟨⟨h1, h2⟩, h3, h4⟩ := hC
  have h311 : ∀ J a b c d e f g, ∃ v, F_X9_slanted_311_3 J L a b c d e f g = some v := fun _ _ _ _ _ _ _ _ => ⟨_, rfl⟩
  have h297 : ∀ J a b c d e f g k, ∃ v, F_X9_slanted_297_3 J L a b c d e f g k = some v := by
    intro J a b c d e f g k
    unfold F_X9_slanted_297_3
    split <;> exact h311 _ _ _ _ _ _ _ _
  have h284 : ∀ J a b c d e f g k l, ∃ v, F_X9_slanted_284_3 J L a b c d e f g k l = some v := by
    intro J a b c d e f g k l
    unfold F_X9_slanted_284_3
    split <;> exact h297 _ _ _ _ _ _ _ _ _
  have h272 : ∀ J a b c d e f g k l m, ∃ v, F_X9_slanted_272_3 J L a b c d e f g k l m = some v := by
    intro J a b c d e f g k l m
    unfold F_X9_slanted_272_3
    split <;> exact h284 _ _ _ _ _ _ _ _ _ _
  have h259 : ∀ J a b c d e f g k l m n, ∃ v, F_X9_slanted_259_3 J L a b c d e f g k l m n = some v := by
    intro J a b c d e f g k l m n
    unfold F_X9_slanted_259_3
    split <;> exact h272 _ _ _ _ _ _ _ _ _ _ _
  have h203 : ∀ J a b c d e f g k l, ∃ v, F_X9_slanted_203_3 J L a b c d e f g k l = some v := by
    intro J a b c d e f g k l
    unfold F_X9_slanted_203_3 F_X9_slanted_254_3
    repeat' (first | split | exact h259 _ _ _ _ _ _ _ _ _ _ _ _)
  have h151 : ∀ J a b c d e f g, ∃ v, F_X9_slanted_151_3 J L a b c d e f g = some v := by
    intro J a b c d e f g
    unfold F_X9_slanted_151_3 F_X9_slanted_176_3
    repeat' (first | split | exact h203 _ _ _ _ _ _ _ _ _ _)
  have h319 : ∀ J a b c d e i, Ag I J → ∃ v, F_X9_slanted_319_1 J L a b c d e (Int32.ofNat i) = some (.inr v) ∧ Ag I (p2 (p2 (p2 (p2 (p2 v))))) ∧ p1 (p2 (p2 (p2 (p2 v)))) = Int32.ofNat (i + 1) := by
    intro J a b c d e i hJ
    refine ⟨_, rfl, hJ, ?_⟩
    show Int32.ofNat i + 1 = _
    rw [la1]
  have h145 : ∀ J a b c d e i, Ag I J → ∃ v, F_X9_slanted_145_1 J L a b c d e (Int32.ofNat i) 0 = some (.inr v) ∧ Ag I (p2 (p2 (p2 (p2 (p2 v))))) ∧ p1 (p2 (p2 (p2 (p2 v)))) = Int32.ofNat (i + 1) := by
    intro J a b c d e i hJ
    obtain ⟨q, q1, -⟩ := ag_frp (g := fun k x => F_X9_slanted_151_3 J L a (Int32.ofNat i) k (p1 x) (p1 (p2 x)) (p1 (p2 (p2 x))) (p2 (p2 (p2 x)))) (b := 2) (by decide) (fun _ => True) (s := (b, c, d, e)) trivial (fun k x _ _ => by
      obtain ⟨v, hv⟩ := h151 J a (Int32.ofNat i) (Int32.ofNat k) (p1 x) (p1 (p2 x)) (p1 (p2 (p2 x))) (p2 (p2 (p2 x)))
      exact ⟨v, hv, trivial⟩)
    show ∃ v, (frp0 (fun k x => F_X9_slanted_151_3 J L a (Int32.ofNat i) k (p1 x) (p1 (p2 x)) (p1 (p2 (p2 x))) (p2 (p2 (p2 x)))) (Int32.ofNat 2) (fu 0 (Int32.ofNat 2)) 0 (b, c, d, e)).bind _ = _ ∧ _
    rw [q1, ob_some]
    exact h319 _ _ _ _ _ _ _ hJ
  have h133 : ∀ J a b c d e i x, Ag I J → ∃ v, F_X9_slanted_133_1 J L a b c d e (Int32.ofNat i) x = some (.inr v) ∧ Ag I (p2 (p2 (p2 (p2 (p2 v))))) ∧ p1 (p2 (p2 (p2 (p2 v)))) = Int32.ofNat (i + 1) := by
    intro J a b c d e i x hJ
    have hq := hJ.trans (ag_findPlan9 (I := J) (x := x))
    unfold F_X9_slanted_133_1
    generalize F_X9_findPlan J x = q at hq ⊢
    split
    · exact h319 _ _ _ _ _ _ _ hq
    · exact h145 _ _ _ _ _ _ _ hq
  have h325 : ∀ J a b c d e, Ag I J → ∃ v, F_X9_slanted_325 J L a b c d e = some v ∧ Ag I (p2 v) := by
    intro J a b c d e hJ
    unfold F_X9_slanted_325 F_X9_slanted_365
    repeat' (first | split | exact ⟨_, rfl, hJ⟩)
  unfold F_X9_slanted F_X9_slanted_35
  split
  · exact ⟨_, rfl, Ag.rfl⟩
  split
  · exact ⟨_, rfl, Ag.rfl⟩
  by_cases c : h + w ≤ 10
  · rw [e3, e4, oadd, if_pos (by first | omega | (simp (disch := omega) only [Int32.lt_iff_toInt_lt, Int32.le_iff_toInt_le, ← Int32.toInt_inj, on_toInt, on_clamp, ti64, z0, z1, z2, zm1, i0, i1, im1, zz3, zz4, zz5, zz6, zz7, zz8, zz9, zz10, zz11, zz12, zz13, zz14, zz15, zz16, zz17, zz18, zz19, zz20, zz21, zz22, zz23, zz24, zz25, zz26, zz27, zz28, zz29, zz30, zz31, zz32, zz33, zz34, zz35, zz36, zz37, zz38, zz39, zz40, zz41, zz48, zz60, zz64, zz160, zz312, zz320, zzm2, zzm3, zzm4, zzm5, zzm6, zzm7, zzm8, zzm9, zzm10]; done) | (simp (disch := omega) only [Int32.lt_iff_toInt_lt, Int32.le_iff_toInt_le, ← Int32.toInt_inj, on_toInt, on_clamp, ti64, z0, z1, z2, zm1, i0, i1, im1, zz3, zz4, zz5, zz6, zz7, zz8, zz9, zz10, zz11, zz12, zz13, zz14, zz15, zz16, zz17, zz18, zz19, zz20, zz21, zz22, zz23, zz24, zz25, zz26, zz27, zz28, zz29, zz30, zz31, zz32, zz33, zz34, zz35, zz36, zz37, zz38, zz39, zz40, zz41, zz48, zz60, zz64, zz160, zz312, zz320, zzm2, zzm3, zzm4, zzm5, zzm6, zzm7, zzm8, zzm9, zzm10]; omega))]
    unfold F_X9_slanted_52
    have hpn := pow_le (h := h + w - 1 - 1) (by omega)
    have hpw : 2 ^ (h + w - 1) = 2 * 2 ^ (h + w - 1 - 1) := by
      rw [show h + w - 1 = (h + w - 1 - 1) + 1 by omega, Nat.pow_succ]
      rw [show h + w - 1 - 1 + 1 - 1 = h + w - 1 - 1 by omega]
      omega
    have hshl : ∀ n, n < 10 → ((1 : Int32) <<< (Int32.ofNat n &&& 31)) = Int32.ofNat (2 ^ n) := by decide +kernel
    obtain ⟨r, r1, r2⟩ := lpp_ms (f := fun x => F_X9_slanted_52_1 (p2 (p2 (p2 (p2 (p2 x))))) L a1 (p1 x) (p1 (p2 x)) (p1 (p2 (p2 x))) (p1 (p2 (p2 (p2 x)))) (p1 (p2 (p2 (p2 (p2 x)))))) (fun x : Int32 × Int32 × Int32 × Int32 × Int32 × WI => Ag I (p2 (p2 (p2 (p2 (p2 x))))) ∧ ∃ i, i ≤ 2 ^ (h + w - 1) ∧ p1 (p2 (p2 (p2 (p2 x)))) = Int32.ofNat i) (fun x : Int32 × Int32 × Int32 × Int32 × WI => Ag I (p2 (p2 (p2 (p2 x))))) (fun x => 2 ^ (h + w - 1) - (p1 (p2 (p2 (p2 (p2 x))))).toNatClampNeg) (fun x hx => by
      obtain ⟨hJ, i, hi, hx⟩ := hx
      show (∃ r', F_X9_slanted_52_1 (p2 (p2 (p2 (p2 (p2 x))))) L a1 (p1 x) (p1 (p2 x)) (p1 (p2 (p2 x))) (p1 (p2 (p2 (p2 x)))) (p1 (p2 (p2 (p2 (p2 x))))) = some (.inl r') ∧ _) ∨ (∃ s', F_X9_slanted_52_1 (p2 (p2 (p2 (p2 (p2 x))))) L a1 (p1 x) (p1 (p2 x)) (p1 (p2 (p2 x))) (p1 (p2 (p2 (p2 x)))) (p1 (p2 (p2 (p2 (p2 x))))) = some (.inr s') ∧ _)
      rw [hx]
      generalize hJJ : p2 (p2 (p2 (p2 (p2 x)))) = J at hJ ⊢
      have j0 : J 33 0 = Int32.ofNat h := (hJ 33 0 rfl).trans e3
      have j1 : J 33 1 = Int32.ofNat w := (hJ 33 1 rfl).trans e4
      have j2 : J 33 0 + J 33 1 - 1 = Int32.ofNat (h + w - 1) := by rw [j0, j1, oadd]; exact on_sub (b := 1) (by omega)
      unfold F_X9_slanted_52_1
      rw [j2, hshl _ (by omega)]
      by_cases d : 2 ^ (h + w - 1) ≤ i
      · rw [if_pos ((ge_on (by omega) (by omega)).mpr d)]
        exact .inl ⟨_, rfl, hJ⟩
      · rw [if_neg fun q => d ((ge_on (by omega) (by omega)).mp q)]
        unfold F_X9_slanted_84_1
        rw [j2]
        obtain ⟨q, q1, -⟩ := ag_frp (g := fun k y => F_X9_slanted_100_2 J L a1 (p1 x) (p1 (p2 x)) (p1 (p2 (p2 x))) (p1 (p2 (p2 (p2 x)))) (Int32.ofNat i) k y) (b := h + w - 1) (by omega) (fun _ => True) (s := (L 33 2) ^^^ (L 33 3)) trivial (fun k y _ _ => by
          show ∃ v, F_X9_slanted_100_2 J L a1 (p1 x) (p1 (p2 x)) (p1 (p2 (p2 x))) (p1 (p2 (p2 (p2 x)))) (Int32.ofNat i) (Int32.ofNat k) y = some v ∧ True
          unfold F_X9_slanted_100_2 F_X9_slanted_124_2
          split <;> exact ⟨_, rfl, trivial⟩)
        rw [q1, ob_some]
        obtain ⟨v, v1, v2, v3⟩ := h133 J a1 (p1 x) (p1 (p2 x)) (p1 (p2 (p2 x))) (p1 (p2 (p2 (p2 x)))) i (p2 q) hJ
        refine .inr ⟨v, v1, ⟨v2, i + 1, by omega, v3⟩, ?_⟩
        show 2 ^ (h + w - 1) - (p1 (p2 (p2 (p2 (p2 v))))).toNatClampNeg < 2 ^ (h + w - 1) - (Int32.ofNat i).toNatClampNeg
        rw [v3, on_clamp (n := i + 1) (by omega), on_clamp (n := i) (by omega)]
        omega) 4294967296 (-4, 0, 0, 0, 0, I) (by
      show 2 ^ (h + w - 1) - (0 : Int32).toNatClampNeg < _
      omega) ⟨Ag.rfl, 0, Nat.zero_le _, rfl⟩
    rw [r1, ob_some]
    exact h325 _ _ _ _ _ _ r2
  · rw [e3, e4, oadd, if_neg (by first | omega | (simp (disch := omega) only [Int32.lt_iff_toInt_lt, Int32.le_iff_toInt_le, ← Int32.toInt_inj, on_toInt, on_clamp, ti64, z0, z1, z2, zm1, i0, i1, im1, zz3, zz4, zz5, zz6, zz7, zz8, zz9, zz10, zz11, zz12, zz13, zz14, zz15, zz16, zz17, zz18, zz19, zz20, zz21, zz22, zz23, zz24, zz25, zz26, zz27, zz28, zz29, zz30, zz31, zz32, zz33, zz34, zz35, zz36, zz37, zz38, zz39, zz40, zz41, zz48, zz60, zz64, zz160, zz312, zz320, zzm2, zzm3, zzm4, zzm5, zzm6, zzm7, zzm8, zzm9, zzm10]; done) | (simp (disch := omega) only [Int32.lt_iff_toInt_lt, Int32.le_iff_toInt_le, ← Int32.toInt_inj, on_toInt, on_clamp, ti64, z0, z1, z2, zm1, i0, i1, im1, zz3, zz4, zz5, zz6, zz7, zz8, zz9, zz10, zz11, zz12, zz13, zz14, zz15, zz16, zz17, zz18, zz19, zz20, zz21, zz22, zz23, zz24, zz25, zz26, zz27, zz28, zz29, zz30, zz31, zz32, zz33, zz34, zz35, zz36, zz37, zz38, zz39, zz40, zz41, zz48, zz60, zz64, zz160, zz312, zz320, zzm2, zzm3, zzm4, zzm5, zzm6, zzm7, zzm8, zzm9, zzm10]; omega))]
    exact ⟨_, rfl, Ag.rfl⟩
theorem N_20 {I : WI} {L : WL} {a1 : Int32} (H : Inv I L) : ∃ v, (F_X8_slanted I L a1) = some v ∧ ∃ w, (F_X9_slanted (p1 (p2 v)) (p2 (p2 v)) a1) = some w ∧ Inv (p2 w) (p2 (p2 v)) := by
  obtain ⟨h, w, hC, c1, c2, c3, c4⟩ := H.size
  have e8 : ∃ v, F_X8_slanted I L a1 = some v ∧ Ag2 I L (p2 v) := by
    obtain ⟨J, j1, j2⟩ := slant8 (L := L) hC c1 c2 ((L 1 3) ^^^ (L 2 3))
    unfold F_X8_slanted F_X8_slanted_9 F_X8_slanted_41 F_X8_slanted_97
    rw [j1, ob_some]
    repeat' (first | split | exact ⟨_, rfl, Ag2.rfl⟩ | exact ⟨_, rfl, j2⟩)
  obtain ⟨v, v1, v2⟩ := e8
  obtain ⟨u, u1, u2'⟩ := slant9 (I := p1 (p2 v)) (L := p2 (p2 v)) (a1 := a1) hC ((v2.1 33 0 rfl).trans c3) ((v2.1 33 1 rfl).trans c4)
  exact ⟨v, v1, u, u1, (H.ag2 v2).ag u2' Ag.rfl⟩
/-! power: it ends, what is kept stays -/
theorem indep3 {I : WI} {L K : WL} {a1 a3 a4 : Int32} {m : Nat} (hm : m ≤ 31) (x : Int64) : ∃ r, lpp (fun y => F_X8_independentLines_40_3 I K a1 a3 a4 (Int32.ofNat m) (p1 y) (p2 y)) 4294967296 (x, 0) = some r := by
  have h40 : ∀ y i, i ≤ m → ∃ z, F_X8_independentLines_40_3 I K a1 a3 a4 (Int32.ofNat m) y (Int32.ofNat i) = if m ≤ i then some (.inl y) else some (.inr (z, Int32.ofNat (i + 1))) := by
    intro y i hi
    unfold F_X8_independentLines_40_3 F_X8_independentLines_97_3
    by_cases c : m ≤ i
    · rw [if_pos ((ge_on (by omega) (by omega)).mpr c)]
      exact ⟨0, (if_pos c).symm⟩
    · rw [if_neg fun q => c ((ge_on (by omega) (by omega)).mp q), if_neg (by first | omega | (simp (disch := omega) only [Int32.lt_iff_toInt_lt, Int32.le_iff_toInt_le, ← Int32.toInt_inj, on_toInt, on_clamp, ti64, z0, z1, z2, zm1, i0, i1, im1, zz3, zz4, zz5, zz6, zz7, zz8, zz9, zz10, zz11, zz12, zz13, zz14, zz15, zz16, zz17, zz18, zz19, zz20, zz21, zz22, zz23, zz24, zz25, zz26, zz27, zz28, zz29, zz30, zz31, zz32, zz33, zz34, zz35, zz36, zz37, zz38, zz39, zz40, zz41, zz48, zz60, zz64, zz160, zz312, zz320, zzm2, zzm3, zzm4, zzm5, zzm6, zzm7, zzm8, zzm9, zzm10]; done) | (simp (disch := omega) only [Int32.lt_iff_toInt_lt, Int32.le_iff_toInt_le, ← Int32.toInt_inj, on_toInt, on_clamp, ti64, z0, z1, z2, zm1, i0, i1, im1, zz3, zz4, zz5, zz6, zz7, zz8, zz9, zz10, zz11, zz12, zz13, zz14, zz15, zz16, zz17, zz18, zz19, zz20, zz21, zz22, zz23, zz24, zz25, zz26, zz27, zz28, zz29, zz30, zz31, zz32, zz33, zz34, zz35, zz36, zz37, zz38, zz39, zz40, zz41, zz48, zz60, zz64, zz160, zz312, zz320, zzm2, zzm3, zzm4, zzm5, zzm6, zzm7, zzm8, zzm9, zzm10]; omega)), if_neg (nin (k := i) (N := 31) (by omega) (by decide)), if_neg (nin (k := i) (N := 31) (by omega) (by decide)), if_neg (nin (k := i) (N := 31) (by omega) (by decide)), la1]
      split
      · first | exact ⟨_, rfl⟩ | exact ⟨_, (if_neg c).symm⟩
      · first | exact ⟨_, rfl⟩ | exact ⟨_, (if_neg c).symm⟩
  obtain ⟨r, r1, -⟩ := lpp_ms (f := fun y => F_X8_independentLines_40_3 I K a1 a3 a4 (Int32.ofNat m) (p1 y) (p2 y)) (fun y : Int64 × Int32 => ∃ i, i ≤ m ∧ p2 y = Int32.ofNat i) (fun _ => True) (fun y => m - (p2 y).toNatClampNeg) (fun y hy => by
    obtain ⟨i, hi, hy⟩ := hy
    obtain ⟨z, e⟩ := h40 (p1 y) i hi
    show (∃ r, F_X8_independentLines_40_3 I K a1 a3 a4 (Int32.ofNat m) (p1 y) (p2 y) = some (.inl r) ∧ _) ∨ (∃ s', F_X8_independentLines_40_3 I K a1 a3 a4 (Int32.ofNat m) (p1 y) (p2 y) = some (.inr s') ∧ _)
    rw [hy, e]
    by_cases c : m ≤ i
    · rw [if_pos c]
      exact .inl ⟨_, rfl, trivial⟩
    · rw [if_neg c]
      refine .inr ⟨_, rfl, ⟨i + 1, by omega, rfl⟩, ?_⟩
      show m - (Int32.ofNat (i + 1)).toNatClampNeg < m - (Int32.ofNat i).toNatClampNeg
      rw [on_clamp (n := i + 1) (by omega), on_clamp (n := i) (by omega)]
      omega) 4294967296 (x, 0) (by
    show m - (0 : Int32).toNatClampNeg < _
    omega) ⟨0, Nat.zero_le _, rfl⟩
  exact ⟨r, r1⟩
theorem indep2 {I : WI} {L K : WL} {a1 a3 a4 : Int32} {m : Nat} (hm : m ≤ 31) (hK : Ag L K) : ∃ v, F_X8_independentLines_25_2 I K a1 a3 a4 (Int32.ofNat m) = some v ∧ Ag L (p2 v) ∧ ∃ n, n ≤ 31 ∧ p1 v = Int32.ofNat n := by
  obtain ⟨r, r1⟩ := indep3 (I := I) (L := L) (K := K) (a1 := a1) (a3 := a3) (a4 := a4) hm (F_X0_squaresOf I 1 a3 a4)
  unfold F_X8_independentLines_25_2 F_X8_independentLines_40_2
  rw [r1, ob_some]
  unfold F_X8_independentLines_106_2 F_X8_independentLines_133_2
  split
  · exact ⟨_, rfl, hK, m, hm, rfl⟩
  by_cases c : m = 31
  · rw [if_pos (by first | omega | (simp (disch := omega) only [Int32.lt_iff_toInt_lt, Int32.le_iff_toInt_le, ← Int32.toInt_inj, on_toInt, on_clamp, ti64, z0, z1, z2, zm1, i0, i1, im1, zz3, zz4, zz5, zz6, zz7, zz8, zz9, zz10, zz11, zz12, zz13, zz14, zz15, zz16, zz17, zz18, zz19, zz20, zz21, zz22, zz23, zz24, zz25, zz26, zz27, zz28, zz29, zz30, zz31, zz32, zz33, zz34, zz35, zz36, zz37, zz38, zz39, zz40, zz41, zz48, zz60, zz64, zz160, zz312, zz320, zzm2, zzm3, zzm4, zzm5, zzm6, zzm7, zzm8, zzm9, zzm10]; done) | (simp (disch := omega) only [Int32.lt_iff_toInt_lt, Int32.le_iff_toInt_le, ← Int32.toInt_inj, on_toInt, on_clamp, ti64, z0, z1, z2, zm1, i0, i1, im1, zz3, zz4, zz5, zz6, zz7, zz8, zz9, zz10, zz11, zz12, zz13, zz14, zz15, zz16, zz17, zz18, zz19, zz20, zz21, zz22, zz23, zz24, zz25, zz26, zz27, zz28, zz29, zz30, zz31, zz32, zz33, zz34, zz35, zz36, zz37, zz38, zz39, zz40, zz41, zz48, zz60, zz64, zz160, zz312, zz320, zzm2, zzm3, zzm4, zzm5, zzm6, zzm7, zzm8, zzm9, zzm10]; omega))]
    exact ⟨_, rfl, hK, m, hm, rfl⟩
  · rw [if_neg (by first | omega | (simp (disch := omega) only [Int32.lt_iff_toInt_lt, Int32.le_iff_toInt_le, ← Int32.toInt_inj, on_toInt, on_clamp, ti64, z0, z1, z2, zm1, i0, i1, im1, zz3, zz4, zz5, zz6, zz7, zz8, zz9, zz10, zz11, zz12, zz13, zz14, zz15, zz16, zz17, zz18, zz19, zz20, zz21, zz22, zz23, zz24, zz25, zz26, zz27, zz28, zz29, zz30, zz31, zz32, zz33, zz34, zz35, zz36, zz37, zz38, zz39, zz40, zz41, zz48, zz60, zz64, zz160, zz312, zz320, zzm2, zzm3, zzm4, zzm5, zzm6, zzm7, zzm8, zzm9, zzm10]; done) | (simp (disch := omega) only [Int32.lt_iff_toInt_lt, Int32.le_iff_toInt_le, ← Int32.toInt_inj, on_toInt, on_clamp, ti64, z0, z1, z2, zm1, i0, i1, im1, zz3, zz4, zz5, zz6, zz7, zz8, zz9, zz10, zz11, zz12, zz13, zz14, zz15, zz16, zz17, zz18, zz19, zz20, zz21, zz22, zz23, zz24, zz25, zz26, zz27, zz28, zz29, zz30, zz31, zz32, zz33, zz34, zz35, zz36, zz37, zz38, zz39, zz40, zz41, zz48, zz60, zz64, zz160, zz312, zz320, zzm2, zzm3, zzm4, zzm5, zzm6, zzm7, zzm8, zzm9, zzm10]; omega)), if_neg (nin (k := m) (N := 31) (by omega) (by decide)), on_clamp (n := m) (by omega), la1]
    exact ⟨_, rfl, hK.u rfl, m + 1, by omega, rfl⟩
theorem indep {I : WI} {L : WL} {h w k : Nat} (hC : Cl h w) (e1 : I 1 1 = Int32.ofNat h) (e2 : I 1 2 = Int32.ofNat w) (hk : k ≤ 2) : ∃ v, F_X8_independentLines I L (Int32.ofNat k) = some v ∧ Ag L (p2 v) := by
  have h12 : ∀ K a i m, Ag L K → m ≤ 31 → ∃ v, F_X8_independentLines_12_1 I K a (Int32.ofNat m) (Int32.ofNat i) 0 = some (.inr v) ∧ Ag L (p2 (p2 v)) ∧ (∃ n, n ≤ 31 ∧ p1 v = Int32.ofNat n) ∧ p1 (p2 v) = Int32.ofNat (i + 1) := by
    intro K a i m hK hm
    obtain ⟨t, ht, et⟩ := lines_n hC e1 e2 (Int32.ofNat i)
    obtain ⟨q, q1, q2, n, q3, q4⟩ := ag_frp (g := fun j x => F_X8_independentLines_25_2 I (p2 x) a (Int32.ofNat i) j (p1 x)) (b := t) (by omega) (fun x : Int32 × WL => Ag L (p2 x) ∧ ∃ n, n ≤ 31 ∧ p1 x = Int32.ofNat n) (s := (Int32.ofNat m, K)) ⟨hK, m, hm, rfl⟩ (fun j x _ hx => by
      obtain ⟨x1, n, x2, x3⟩ := hx
      obtain ⟨v, v1, v2, v3⟩ := indep2 (I := I) (a1 := a) (a3 := Int32.ofNat i) (a4 := Int32.ofNat j) x2 x1
      refine ⟨v, ?_, v2, v3⟩
      show F_X8_independentLines_25_2 I (p2 x) a (Int32.ofNat i) (Int32.ofNat j) (p1 x) = _
      rw [x3, v1])
    unfold F_X8_independentLines_12_1
    rw [et, q1, ob_some]
    refine ⟨_, rfl, q2, ⟨n, q3, q4⟩, ?_⟩
    show Int32.ofNat i + 1 = _
    rw [la1]
  obtain ⟨r, r1, r2⟩ := lpp_ms (f := fun x => F_X8_independentLines_4_1 I (p2 (p2 x)) (Int32.ofNat k) (p1 x) (p1 (p2 x))) (fun x : Int32 × Int32 × WL => Ag L (p2 (p2 x)) ∧ (∃ n, n ≤ 31 ∧ p1 x = Int32.ofNat n) ∧ ∃ i, i ≤ k + 1 ∧ p1 (p2 x) = Int32.ofNat i) (fun x : Int32 × WL => Ag L (p2 x)) (fun x => k + 1 - (p1 (p2 x)).toNatClampNeg) (fun x hx => by
    obtain ⟨x1, ⟨n, x2, x3⟩, i, x4, x5⟩ := hx
    show (∃ r, F_X8_independentLines_4_1 I (p2 (p2 x)) (Int32.ofNat k) (p1 x) (p1 (p2 x)) = some (.inl r) ∧ _) ∨ (∃ s', F_X8_independentLines_4_1 I (p2 (p2 x)) (Int32.ofNat k) (p1 x) (p1 (p2 x)) = some (.inr s') ∧ _)
    rw [x3, x5]
    unfold F_X8_independentLines_4_1
    by_cases c : k < i
    · rw [if_pos ((lt_onn (by omega) (by omega)).mpr c)]
      exact .inl ⟨_, rfl, x1⟩
    · rw [if_neg fun q => c ((lt_onn (by omega) (by omega)).mp q)]
      obtain ⟨v, v1, v2, v3, v4⟩ := h12 (p2 (p2 x)) (Int32.ofNat k) i n x1 x2
      refine .inr ⟨v, v1, ⟨v2, v3, i + 1, by omega, v4⟩, ?_⟩
      show k + 1 - (p1 (p2 v)).toNatClampNeg < k + 1 - (Int32.ofNat i).toNatClampNeg
      rw [v4, on_clamp (n := i + 1) (by omega), on_clamp (n := i) (by omega)]
      omega) 4294967296 (0, 0, L) (by
    show k + 1 - (0 : Int32).toNatClampNeg < _
    omega) ⟨Ag.rfl, ⟨0, by decide, rfl⟩, 0, Nat.zero_le _, rfl⟩
  refine ⟨(p1 r, p2 r), ?_, r2⟩
  unfold F_X8_independentLines F_X8_independentLines_4
  rw [r1]
  rfl
theorem power8 {I : WI} {L : WL} {a1 : Int32} {h w : Nat} (hC : Cl h w) (e1 : I 1 1 = Int32.ofNat h) (e2 : I 1 2 = Int32.ofNat w) : ∃ v, F_X8_power I L a1 = some v ∧ Ag L (p2 v) := by
  obtain ⟨v, v1, v2⟩ := indep (L := L) (k := 1) hC e1 e2 (by decide)
  obtain ⟨u, u1, u2'⟩ := indep (L := L) (k := 2) hC e1 e2 (by decide)
  unfold F_X8_power F_X8_power_24
  rw [show (1 : Int32) = Int32.ofNat 1 from rfl, show (2 : Int32) = Int32.ofNat 2 from rfl, v1, u1, ob_some, ob_some]
  repeat' (first | split | exact ⟨_, rfl, Ag.rfl⟩ | exact ⟨_, rfl, v2⟩ | exact ⟨_, rfl, u2'⟩)
theorem isNew_ag {L K : WL} (hK : Ag L K) (x : Int64) : ∃ v, F_X9_isNew K x = some v ∧ Ag L (p2 v) := by
  obtain ⟨r, r1, r2⟩ := lpp_ms (f := fun y => F_X9_isNew_6_1 K x (p1 y) (p2 y)) (fun y : Int64 × Int32 => -1 ≤ (p2 y).toInt ∧ (p2 y).toInt ≤ 63) (fun r : (Int32 × WL) ⊕ Unit => match r with
    | .inl v => Ag L (p2 v)
    | .inr _ => True) (fun y => ((p2 y).toInt + 1).toNat) (fun y hy => by
    obtain ⟨y1, y2⟩ := hy
    show (∃ r, F_X9_isNew_6_1 K x (p1 y) (p2 y) = some (.inl r) ∧ _) ∨ (∃ s', F_X9_isNew_6_1 K x (p1 y) (p2 y) = some (.inr s') ∧ _)
    unfold F_X9_isNew_6_1
    by_cases c : p2 y < 0
    · rw [if_pos c]
      exact .inl ⟨_, rfl, trivial⟩
    rw [if_neg c]
    rw [Int32.lt_iff_toInt_lt, z0] at c
    obtain ⟨i, hi, hz, _⟩ := nn (show 0 ≤ (p2 y).toInt by omega)
    have hs : ∀ z, (∃ s', F_X9_isNew_54_1 K x z (p2 y) = some (.inr s') ∧ (-1 ≤ (p2 s').toInt ∧ (p2 s').toInt ≤ 63) ∧ ((p2 s').toInt + 1).toNat < ((p2 y).toInt + 1).toNat) := by
      intro z
      have e2 : (p2 y + (-1)).toInt = (p2 y).toInt - 1 := by
        rw [ti_add] <;> rw [zm1] <;> omega
      refine ⟨_, rfl, ⟨?_, ?_⟩, ?_⟩
      · show -1 ≤ (p2 y + (-1)).toInt
        omega
      · show (p2 y + (-1)).toInt ≤ 63
        omega
      · show ((p2 y + (-1)).toInt + 1).toNat < _
        omega
    have hn : ¬ (p2 y < 0 ∨ 64 ≤ (p2 y).toNatClampNeg) := by
      rw [hi]
      exact nin (k := i) (N := 64) (by omega) (by decide)
    rw [if_neg hn, if_neg hn, if_neg hn]
    split
    · split
      · exact .inl ⟨_, rfl, hK.u rfl⟩
      · exact .inr (hs _)
    · exact .inr (hs _)) 4294967296 (x, 63) (by
    show ((63 : Int32).toInt + 1).toNat < _
    decide) ⟨show -1 ≤ (63 : Int32).toInt by decide, show (63 : Int32).toInt ≤ 63 by decide⟩
  unfold F_X9_isNew F_X9_isNew_6
  rw [r1, ob_some]
  cases r with
  | inl v => exact ⟨v, rfl, r2⟩
  | inr _ => exact ⟨(0, K), rfl, hK⟩
theorem power9 {I : WI} {L : WL} {a1 : Int32} {h w : Nat} (hC : Cl h w) (e3 : I 33 0 = Int32.ofNat h) (e4 : I 33 1 = Int32.ofNat w) : ∃ v, F_X9_power I L a1 = some v ∧ Ag L (p2 v) := by
  have hC2 := hC
  obtain ⟨⟨h1, h2⟩, h3, h4⟩ := hC2
  have hlz : ∀ a, lz a h w ≤ 15 := by
    intro a
    unfold lz
    repeat' split
    all_goals omega
  have h47 : ∀ K b i, Ag L K → ∃ v, F_X9_power_47_2 I K a1 b (Int32.ofNat i) 0 = some (.inr v) ∧ Ag L (p2 (p2 v)) ∧ p1 (p2 v) = Int32.ofNat (i + 1) := by
    intro K b i hK
    obtain ⟨r, r1, r2⟩ := lpp_ms (f := fun x => F_X9_power_47_3 I (p2 (p2 x)) a1 (Int32.ofNat i) (p1 x) (p1 (p2 x))) (fun x : Int32 × Int32 × WL => Ag L (p2 (p2 x)) ∧ ∃ j, j ≤ 15 ∧ p1 (p2 x) = Int32.ofNat j) (fun x : Int32 × WL => Ag L (p2 x)) (fun x => 15 - (p1 (p2 x)).toNatClampNeg) (fun x hx => by
      obtain ⟨x1, j, x2, x3⟩ := hx
      show (∃ r, F_X9_power_47_3 I (p2 (p2 x)) a1 (Int32.ofNat i) (p1 x) (p1 (p2 x)) = some (.inl r) ∧ _) ∨ (∃ s', F_X9_power_47_3 I (p2 (p2 x)) a1 (Int32.ofNat i) (p1 x) (p1 (p2 x)) = some (.inr s') ∧ _)
      rw [x3]
      unfold F_X9_power_47_3
      rw [isAct_eq hC e3 e4, ob_some]
      by_cases c : 0 ≤ (Int32.ofNat j).toInt ∧ (Int32.ofNat j).toInt < lz (Int32.ofNat i) h w
      · rw [if_pos c, if_neg (show ¬ (1 : Int32) = 0 by decide)]
        obtain ⟨v, v1, v2⟩ := isNew_ag x1 (F_X9_actSet I (Int32.ofNat i) (Int32.ofNat j))
        rw [v1, ob_some, la1]
        have hj : j < 15 := by
          have := hlz (Int32.ofNat i)
          rw [on_toInt (show j < 2147483648 by omega)] at c
          omega
        refine .inr ⟨_, rfl, ⟨v2, j + 1, by omega, rfl⟩, ?_⟩
        show 15 - (Int32.ofNat (j + 1)).toNatClampNeg < 15 - (Int32.ofNat j).toNatClampNeg
        rw [on_clamp (n := j + 1) (by omega), on_clamp (n := j) (by omega)]
        omega
      · rw [if_neg c, if_pos rfl]
        exact .inl ⟨_, rfl, x1⟩) 4294967296 (b, 0, K) (by
      show 15 - (0 : Int32).toNatClampNeg < _
      omega) ⟨hK, 0, by decide, rfl⟩
    unfold F_X9_power_47_2
    rw [r1, ob_some]
    refine ⟨_, rfl, r2, ?_⟩
    show Int32.ofNat i + 1 = _
    rw [la1]
  by_cases c : 0 ≤ a1.toInt ∧ a1.toInt ≤ 1
  · obtain ⟨k, rfl, hk, -⟩ := nn c.1
    rw [hk] at c
    obtain ⟨e, q1, q2⟩ := ag_frp (g := fun i y => F_X9_power_20_1 I y (Int32.ofNat k) i) (b := 64) (by decide) (fun y => Ag L y) Ag.rfl (fun i y hi hy => by
      refine ⟨u2 y 40 i 0, ?_, hy.u rfl⟩
      show F_X9_power_20_1 I y (Int32.ofNat k) (Int32.ofNat i) = _
      unfold F_X9_power_20_1
      rw [if_neg (nin (k := i) (N := 64) hi (by decide)), on_clamp (n := i) (by omega)])
    obtain ⟨r, r1, r2⟩ := lpp_ms (f := fun x => F_X9_power_37_2 I (p2 (p2 x)) (Int32.ofNat k) (p1 x) (p1 (p2 x))) (fun x : Int32 × Int32 × WL => Ag L (p2 (p2 x)) ∧ ∃ i, i ≤ k + 2 ∧ p1 (p2 x) = Int32.ofNat i) (fun x : Int32 × WL => Ag L (p2 x)) (fun x => k + 2 - (p1 (p2 x)).toNatClampNeg) (fun x hx => by
      obtain ⟨x1, i, x4, x5⟩ := hx
      show (∃ r, F_X9_power_37_2 I (p2 (p2 x)) (Int32.ofNat k) (p1 x) (p1 (p2 x)) = some (.inl r) ∧ _) ∨ (∃ s', F_X9_power_37_2 I (p2 (p2 x)) (Int32.ofNat k) (p1 x) (p1 (p2 x)) = some (.inr s') ∧ _)
      rw [x5]
      unfold F_X9_power_37_2
      rw [la1]
      by_cases d : k + 1 < i
      · rw [if_pos ((lt_onn (by omega) (by omega)).mpr d)]
        exact .inl ⟨_, rfl, x1⟩
      · rw [if_neg fun q => d ((lt_onn (by omega) (by omega)).mp q)]
        obtain ⟨v, v1, v2, v3⟩ := h47 (p2 (p2 x)) (p1 x) i x1
        refine .inr ⟨v, v1, ⟨v2, i + 1, by omega, v3⟩, ?_⟩
        show k + 2 - (p1 (p2 v)).toNatClampNeg < k + 2 - (Int32.ofNat i).toNatClampNeg
        rw [v3, on_clamp (n := i + 1) (by omega), on_clamp (n := i) (by omega)]
        omega) 4294967296 (0, 0, p2 e) (by
      show k + 2 - (0 : Int32).toNatClampNeg < _
      omega) ⟨q2, 0, Nat.zero_le _, rfl⟩
    refine ⟨(p1 r, p2 r), ?_, r2⟩
    unfold F_X9_power
    rw [in_eq, i0, i1, hk, if_pos c, if_neg (show ¬ (1 : Int32) = 0 by decide)]
    show (frp0 (fun i y => F_X9_power_20_1 I y (Int32.ofNat k) i) (Int32.ofNat 64) (fu 0 (Int32.ofNat 64)) 0 L).bind _ = _
    rw [q1, ob_some]
    unfold F_X9_power_33 F_X9_power_37
    rw [r1]
    rfl
  · unfold F_X9_power
    rw [in_eq, i0, i1, if_neg c, if_pos rfl]
    exact ⟨_, rfl, Ag.rfl⟩
theorem N_21 {I : WI} {L : WL} {a1 : Int32} (H : Inv I L) : ∃ v, (F_X8_power I L a1) = some v ∧ ∃ w, (F_X9_power I (p2 v) a1) = some w ∧ Inv I (p2 w) := by
  obtain ⟨h, w, hC, c1, c2, c3, c4⟩ := H.size
  obtain ⟨v, v1, v2⟩ := power8 (L := L) (a1 := a1) hC c1 c2
  obtain ⟨u, u1, u2'⟩ := power9 (L := p2 v) (a1 := a1) hC c3 c4
  exact ⟨v, v1, u, u1, H.ag Ag.rfl (v2.trans u2')⟩
