/-! sheets -/
def shc (k : Nat) : Prop := (19 ≤ k ∧ k ≤ 26) ∨ (42 ≤ k ∧ k ≤ 44)
theorem Inv.sheets {I J : WI} {L : WL} (H : Inv I L) (hJ : ∀ k j, ¬ shc k → J k j = I k j) (hS : ∀ k, k < 4 → InvS J k) : Inv J L := by
  obtain ⟨⟨h, w, h1, h2⟩, k0, k1, h3, h4, h5, h6⟩ := H
  have hT : J = fun k j => if ((19 ≤ k ∧ k ≤ 26) ∨ (42 ≤ k ∧ k ≤ 44)) then J k j else I k j := by
    funext k j
    by_cases c : (19 ≤ k ∧ k ≤ 26) ∨ (42 ≤ k ∧ k ≤ 44)
    · rw [if_pos c]
    · rw [if_neg c]
      exact hJ k j c
  rw [hT] at hS ⊢
  exact ⟨⟨h, w, h1, h2⟩, k0, k1, h3, h4, hS, h6⟩
theorem sid_on {k : Nat} (h : k < 2147483648) : sid (Int32.ofNat k) = 19 + 2 * k := by
  unfold sid
  rw [on_clamp h]
theorem isLane_eq (a : Int32) : F_X8_isLane a = if 0 ≤ a.toInt ∧ a.toInt ≤ 2 then 1 else 0 := by
  unfold F_X8_isLane F_X8_isLane_13 F_X8_isLane_14
  by_cases c1 : a.toInt < 0
  · rw [if_pos (by first | omega | (simp (disch := omega) only [Int32.lt_iff_toInt_lt, Int32.le_iff_toInt_le, ← Int32.toInt_inj, on_toInt, on_clamp, ti64, z0, z1, z2, zm1, i0, i1, im1, zz3, zz4, zz5, zz6, zz7, zz8, zz9, zz10, zz11, zz12, zz13, zz14, zz15, zz16, zz17, zz18, zz19, zz20, zz21, zz22, zz23, zz24, zz25, zz26, zz27, zz28, zz29, zz30, zz31, zz32, zz33, zz34, zz35, zz36, zz37, zz38, zz39, zz40, zz41, zz48, zz60, zz64, zz160, zz312, zz320, zzm2, zzm3, zzm4, zzm5, zzm6, zzm7, zzm8, zzm9, zzm10]; done) | (simp (disch := omega) only [Int32.lt_iff_toInt_lt, Int32.le_iff_toInt_le, ← Int32.toInt_inj, on_toInt, on_clamp, ti64, z0, z1, z2, zm1, i0, i1, im1, zz3, zz4, zz5, zz6, zz7, zz8, zz9, zz10, zz11, zz12, zz13, zz14, zz15, zz16, zz17, zz18, zz19, zz20, zz21, zz22, zz23, zz24, zz25, zz26, zz27, zz28, zz29, zz30, zz31, zz32, zz33, zz34, zz35, zz36, zz37, zz38, zz39, zz40, zz41, zz48, zz60, zz64, zz160, zz312, zz320, zzm2, zzm3, zzm4, zzm5, zzm6, zzm7, zzm8, zzm9, zzm10]; omega)), if_neg (by omega)]
  rw [if_neg (by first | omega | (simp (disch := omega) only [Int32.lt_iff_toInt_lt, Int32.le_iff_toInt_le, ← Int32.toInt_inj, on_toInt, on_clamp, ti64, z0, z1, z2, zm1, i0, i1, im1, zz3, zz4, zz5, zz6, zz7, zz8, zz9, zz10, zz11, zz12, zz13, zz14, zz15, zz16, zz17, zz18, zz19, zz20, zz21, zz22, zz23, zz24, zz25, zz26, zz27, zz28, zz29, zz30, zz31, zz32, zz33, zz34, zz35, zz36, zz37, zz38, zz39, zz40, zz41, zz48, zz60, zz64, zz160, zz312, zz320, zzm2, zzm3, zzm4, zzm5, zzm6, zzm7, zzm8, zzm9, zzm10]; done) | (simp (disch := omega) only [Int32.lt_iff_toInt_lt, Int32.le_iff_toInt_le, ← Int32.toInt_inj, on_toInt, on_clamp, ti64, z0, z1, z2, zm1, i0, i1, im1, zz3, zz4, zz5, zz6, zz7, zz8, zz9, zz10, zz11, zz12, zz13, zz14, zz15, zz16, zz17, zz18, zz19, zz20, zz21, zz22, zz23, zz24, zz25, zz26, zz27, zz28, zz29, zz30, zz31, zz32, zz33, zz34, zz35, zz36, zz37, zz38, zz39, zz40, zz41, zz48, zz60, zz64, zz160, zz312, zz320, zzm2, zzm3, zzm4, zzm5, zzm6, zzm7, zzm8, zzm9, zzm10]; omega))]
  by_cases c2 : 2 < a.toInt
  · rw [if_pos (by first | omega | (simp (disch := omega) only [Int32.lt_iff_toInt_lt, Int32.le_iff_toInt_le, ← Int32.toInt_inj, on_toInt, on_clamp, ti64, z0, z1, z2, zm1, i0, i1, im1, zz3, zz4, zz5, zz6, zz7, zz8, zz9, zz10, zz11, zz12, zz13, zz14, zz15, zz16, zz17, zz18, zz19, zz20, zz21, zz22, zz23, zz24, zz25, zz26, zz27, zz28, zz29, zz30, zz31, zz32, zz33, zz34, zz35, zz36, zz37, zz38, zz39, zz40, zz41, zz48, zz60, zz64, zz160, zz312, zz320, zzm2, zzm3, zzm4, zzm5, zzm6, zzm7, zzm8, zzm9, zzm10]; done) | (simp (disch := omega) only [Int32.lt_iff_toInt_lt, Int32.le_iff_toInt_le, ← Int32.toInt_inj, on_toInt, on_clamp, ti64, z0, z1, z2, zm1, i0, i1, im1, zz3, zz4, zz5, zz6, zz7, zz8, zz9, zz10, zz11, zz12, zz13, zz14, zz15, zz16, zz17, zz18, zz19, zz20, zz21, zz22, zz23, zz24, zz25, zz26, zz27, zz28, zz29, zz30, zz31, zz32, zz33, zz34, zz35, zz36, zz37, zz38, zz39, zz40, zz41, zz48, zz60, zz64, zz160, zz312, zz320, zzm2, zzm3, zzm4, zzm5, zzm6, zzm7, zzm8, zzm9, zzm10]; omega)), if_neg (by omega)]
  · rw [if_neg (by first | omega | (simp (disch := omega) only [Int32.lt_iff_toInt_lt, Int32.le_iff_toInt_le, ← Int32.toInt_inj, on_toInt, on_clamp, ti64, z0, z1, z2, zm1, i0, i1, im1, zz3, zz4, zz5, zz6, zz7, zz8, zz9, zz10, zz11, zz12, zz13, zz14, zz15, zz16, zz17, zz18, zz19, zz20, zz21, zz22, zz23, zz24, zz25, zz26, zz27, zz28, zz29, zz30, zz31, zz32, zz33, zz34, zz35, zz36, zz37, zz38, zz39, zz40, zz41, zz48, zz60, zz64, zz160, zz312, zz320, zzm2, zzm3, zzm4, zzm5, zzm6, zzm7, zzm8, zzm9, zzm10]; done) | (simp (disch := omega) only [Int32.lt_iff_toInt_lt, Int32.le_iff_toInt_le, ← Int32.toInt_inj, on_toInt, on_clamp, ti64, z0, z1, z2, zm1, i0, i1, im1, zz3, zz4, zz5, zz6, zz7, zz8, zz9, zz10, zz11, zz12, zz13, zz14, zz15, zz16, zz17, zz18, zz19, zz20, zz21, zz22, zz23, zz24, zz25, zz26, zz27, zz28, zz29, zz30, zz31, zz32, zz33, zz34, zz35, zz36, zz37, zz38, zz39, zz40, zz41, zz48, zz60, zz64, zz160, zz312, zz320, zzm2, zzm3, zzm4, zzm5, zzm6, zzm7, zzm8, zzm9, zzm10]; omega)), if_pos (by omega)]
theorem isSheet_eq (a b : Int32) : F_X9_isSheet a b = if (0 ≤ a.toInt ∧ a.toInt ≤ 3) ∧ 0 ≤ b.toInt ∧ b.toInt ≤ 2 then 1 else 0 := by
  unfold F_X9_isSheet F_X9_isSheet_28 F_X9_isSheet_29
  rw [in_eq, in_eq, i0, show (3 : Int64).toInt = 3 by decide, show (2 : Int64).toInt = 2 by decide]
  by_cases c : 0 ≤ a.toInt ∧ a.toInt ≤ 3
  · rw [if_pos c, if_neg (show ¬ (1 : Int32) = 0 by decide)]
    by_cases d : 0 ≤ b.toInt ∧ b.toInt ≤ 2
    · rw [if_pos d, if_neg (show ¬ (1 : Int32) = 0 by decide), if_pos ⟨c, d⟩]
    · rw [if_neg d, if_pos rfl, if_neg fun e => d e.2]
  · rw [if_neg c, if_pos rfl, if_neg fun e => c e.1]
theorem E_33 {I : WI} {L : WL} {a1 a2 a3 : Int32} (H : Inv I L) : ∃ v, (F_X8_sheet I a1 a2 a3) = some v ∧ ∃ w, (F_X9_sheet (p2 v) a1 a2 a3) = some w ∧ (p1 v) = (p1 w) ∧ Inv (p2 w) L := by
  by_cases c : (0 ≤ a1.toInt ∧ a1.toInt ≤ 3) ∧ 0 ≤ a2.toInt ∧ a2.toInt ≤ 2
  · obtain ⟨k, rfl, hk, -⟩ := nn c.1.1
    obtain ⟨l, rfl, hl, -⟩ := nn c.2.1
    rw [hk, hl] at c
    have hk4 : k < 4 := by omega
    have hnin := nin (k := k) (N := 4) hk4 (by decide)
    have hcl := on_clamp (n := k) (by omega)
    by_cases d1 : 40 < a3.toInt
    · refine ⟨(-1, I), ?_, (-1, I), ?_, rfl, H⟩
      · unfold F_X8_sheet F_X8_sheet_28
        rw [if_pos hnin, isLane_eq, hl, if_pos c.2, if_neg (show ¬ (1 : Int32) = 0 by decide), if_neg (by first | omega | (simp (disch := omega) only [Int32.lt_iff_toInt_lt, Int32.le_iff_toInt_le, ← Int32.toInt_inj, on_toInt, on_clamp, ti64, z0, z1, z2, zm1, i0, i1, im1, zz3, zz4, zz5, zz6, zz7, zz8, zz9, zz10, zz11, zz12, zz13, zz14, zz15, zz16, zz17, zz18, zz19, zz20, zz21, zz22, zz23, zz24, zz25, zz26, zz27, zz28, zz29, zz30, zz31, zz32, zz33, zz34, zz35, zz36, zz37, zz38, zz39, zz40, zz41, zz48, zz60, zz64, zz160, zz312, zz320, zzm2, zzm3, zzm4, zzm5, zzm6, zzm7, zzm8, zzm9, zzm10]; done) | (simp (disch := omega) only [Int32.lt_iff_toInt_lt, Int32.le_iff_toInt_le, ← Int32.toInt_inj, on_toInt, on_clamp, ti64, z0, z1, z2, zm1, i0, i1, im1, zz3, zz4, zz5, zz6, zz7, zz8, zz9, zz10, zz11, zz12, zz13, zz14, zz15, zz16, zz17, zz18, zz19, zz20, zz21, zz22, zz23, zz24, zz25, zz26, zz27, zz28, zz29, zz30, zz31, zz32, zz33, zz34, zz35, zz36, zz37, zz38, zz39, zz40, zz41, zz48, zz60, zz64, zz160, zz312, zz320, zzm2, zzm3, zzm4, zzm5, zzm6, zzm7, zzm8, zzm9, zzm10]; omega))]
      · show F_X9_sheet I _ _ _ = _
        unfold F_X9_sheet F_X9_sheet_14
        rw [isSheet_eq, hk, hl, if_pos c, if_neg (show ¬ (1 : Int32) = 0 by decide), if_neg (by first | omega | (simp (disch := omega) only [Int32.lt_iff_toInt_lt, Int32.le_iff_toInt_le, ← Int32.toInt_inj, on_toInt, on_clamp, ti64, z0, z1, z2, zm1, i0, i1, im1, zz3, zz4, zz5, zz6, zz7, zz8, zz9, zz10, zz11, zz12, zz13, zz14, zz15, zz16, zz17, zz18, zz19, zz20, zz21, zz22, zz23, zz24, zz25, zz26, zz27, zz28, zz29, zz30, zz31, zz32, zz33, zz34, zz35, zz36, zz37, zz38, zz39, zz40, zz41, zz48, zz60, zz64, zz160, zz312, zz320, zzm2, zzm3, zzm4, zzm5, zzm6, zzm7, zzm8, zzm9, zzm10]; done) | (simp (disch := omega) only [Int32.lt_iff_toInt_lt, Int32.le_iff_toInt_le, ← Int32.toInt_inj, on_toInt, on_clamp, ti64, z0, z1, z2, zm1, i0, i1, im1, zz3, zz4, zz5, zz6, zz7, zz8, zz9, zz10, zz11, zz12, zz13, zz14, zz15, zz16, zz17, zz18, zz19, zz20, zz21, zz22, zz23, zz24, zz25, zz26, zz27, zz28, zz29, zz30, zz31, zz32, zz33, zz34, zz35, zz36, zz37, zz38, zz39, zz40, zz41, zz48, zz60, zz64, zz160, zz312, zz320, zzm2, zzm3, zzm4, zzm5, zzm6, zzm7, zzm8, zzm9, zzm10]; omega))]
    by_cases d2 : a3.toInt < 0
    · refine ⟨(-14, I), ?_, (-14, I), ?_, rfl, H⟩
      · unfold F_X8_sheet
        rw [if_pos hnin, isLane_eq, hl, if_pos c.2, if_neg (show ¬ (1 : Int32) = 0 by decide), if_pos (by first | omega | (simp (disch := omega) only [Int32.lt_iff_toInt_lt, Int32.le_iff_toInt_le, ← Int32.toInt_inj, on_toInt, on_clamp, ti64, z0, z1, z2, zm1, i0, i1, im1, zz3, zz4, zz5, zz6, zz7, zz8, zz9, zz10, zz11, zz12, zz13, zz14, zz15, zz16, zz17, zz18, zz19, zz20, zz21, zz22, zz23, zz24, zz25, zz26, zz27, zz28, zz29, zz30, zz31, zz32, zz33, zz34, zz35, zz36, zz37, zz38, zz39, zz40, zz41, zz48, zz60, zz64, zz160, zz312, zz320, zzm2, zzm3, zzm4, zzm5, zzm6, zzm7, zzm8, zzm9, zzm10]; done) | (simp (disch := omega) only [Int32.lt_iff_toInt_lt, Int32.le_iff_toInt_le, ← Int32.toInt_inj, on_toInt, on_clamp, ti64, z0, z1, z2, zm1, i0, i1, im1, zz3, zz4, zz5, zz6, zz7, zz8, zz9, zz10, zz11, zz12, zz13, zz14, zz15, zz16, zz17, zz18, zz19, zz20, zz21, zz22, zz23, zz24, zz25, zz26, zz27, zz28, zz29, zz30, zz31, zz32, zz33, zz34, zz35, zz36, zz37, zz38, zz39, zz40, zz41, zz48, zz60, zz64, zz160, zz312, zz320, zzm2, zzm3, zzm4, zzm5, zzm6, zzm7, zzm8, zzm9, zzm10]; omega)), if_neg (by first | omega | (simp (disch := omega) only [Int32.lt_iff_toInt_lt, Int32.le_iff_toInt_le, ← Int32.toInt_inj, on_toInt, on_clamp, ti64, z0, z1, z2, zm1, i0, i1, im1, zz3, zz4, zz5, zz6, zz7, zz8, zz9, zz10, zz11, zz12, zz13, zz14, zz15, zz16, zz17, zz18, zz19, zz20, zz21, zz22, zz23, zz24, zz25, zz26, zz27, zz28, zz29, zz30, zz31, zz32, zz33, zz34, zz35, zz36, zz37, zz38, zz39, zz40, zz41, zz48, zz60, zz64, zz160, zz312, zz320, zzm2, zzm3, zzm4, zzm5, zzm6, zzm7, zzm8, zzm9, zzm10]; done) | (simp (disch := omega) only [Int32.lt_iff_toInt_lt, Int32.le_iff_toInt_le, ← Int32.toInt_inj, on_toInt, on_clamp, ti64, z0, z1, z2, zm1, i0, i1, im1, zz3, zz4, zz5, zz6, zz7, zz8, zz9, zz10, zz11, zz12, zz13, zz14, zz15, zz16, zz17, zz18, zz19, zz20, zz21, zz22, zz23, zz24, zz25, zz26, zz27, zz28, zz29, zz30, zz31, zz32, zz33, zz34, zz35, zz36, zz37, zz38, zz39, zz40, zz41, zz48, zz60, zz64, zz160, zz312, zz320, zzm2, zzm3, zzm4, zzm5, zzm6, zzm7, zzm8, zzm9, zzm10]; omega))]
      · show F_X9_sheet I _ _ _ = _
        unfold F_X9_sheet
        rw [isSheet_eq, hk, hl, if_pos c, if_neg (show ¬ (1 : Int32) = 0 by decide), if_pos (by first | omega | (simp (disch := omega) only [Int32.lt_iff_toInt_lt, Int32.le_iff_toInt_le, ← Int32.toInt_inj, on_toInt, on_clamp, ti64, z0, z1, z2, zm1, i0, i1, im1, zz3, zz4, zz5, zz6, zz7, zz8, zz9, zz10, zz11, zz12, zz13, zz14, zz15, zz16, zz17, zz18, zz19, zz20, zz21, zz22, zz23, zz24, zz25, zz26, zz27, zz28, zz29, zz30, zz31, zz32, zz33, zz34, zz35, zz36, zz37, zz38, zz39, zz40, zz41, zz48, zz60, zz64, zz160, zz312, zz320, zzm2, zzm3, zzm4, zzm5, zzm6, zzm7, zzm8, zzm9, zzm10]; done) | (simp (disch := omega) only [Int32.lt_iff_toInt_lt, Int32.le_iff_toInt_le, ← Int32.toInt_inj, on_toInt, on_clamp, ti64, z0, z1, z2, zm1, i0, i1, im1, zz3, zz4, zz5, zz6, zz7, zz8, zz9, zz10, zz11, zz12, zz13, zz14, zz15, zz16, zz17, zz18, zz19, zz20, zz21, zz22, zz23, zz24, zz25, zz26, zz27, zz28, zz29, zz30, zz31, zz32, zz33, zz34, zz35, zz36, zz37, zz38, zz39, zz40, zz41, zz48, zz60, zz64, zz160, zz312, zz320, zzm2, zzm3, zzm4, zzm5, zzm6, zzm7, zzm8, zzm9, zzm10]; omega)), if_neg (by first | omega | (simp (disch := omega) only [Int32.lt_iff_toInt_lt, Int32.le_iff_toInt_le, ← Int32.toInt_inj, on_toInt, on_clamp, ti64, z0, z1, z2, zm1, i0, i1, im1, zz3, zz4, zz5, zz6, zz7, zz8, zz9, zz10, zz11, zz12, zz13, zz14, zz15, zz16, zz17, zz18, zz19, zz20, zz21, zz22, zz23, zz24, zz25, zz26, zz27, zz28, zz29, zz30, zz31, zz32, zz33, zz34, zz35, zz36, zz37, zz38, zz39, zz40, zz41, zz48, zz60, zz64, zz160, zz312, zz320, zzm2, zzm3, zzm4, zzm5, zzm6, zzm7, zzm8, zzm9, zzm10]; done) | (simp (disch := omega) only [Int32.lt_iff_toInt_lt, Int32.le_iff_toInt_le, ← Int32.toInt_inj, on_toInt, on_clamp, ti64, z0, z1, z2, zm1, i0, i1, im1, zz3, zz4, zz5, zz6, zz7, zz8, zz9, zz10, zz11, zz12, zz13, zz14, zz15, zz16, zz17, zz18, zz19, zz20, zz21, zz22, zz23, zz24, zz25, zz26, zz27, zz28, zz29, zz30, zz31, zz32, zz33, zz34, zz35, zz36, zz37, zz38, zz39, zz40, zz41, zz48, zz60, zz64, zz160, zz312, zz320, zzm2, zzm3, zzm4, zzm5, zzm6, zzm7, zzm8, zzm9, zzm10]; omega))]
    obtain ⟨n, rfl, hn, -⟩ := nn (show 0 ≤ a3.toInt by omega)
    rw [hn] at d1
    -- the class
    obtain ⟨e, r1, r2⟩ := frp0_nat (g := fun i x => F_X3_renew_21_1 x (19 + 2 * k) (Int32.ofNat l) (Int32.ofNat n) i) (b := 40) (by decide) (fun i (J : WI) => (∀ a b, ¬ (a = 20 + 2 * k ∧ b < i) → J a b = (u2 (u2 I (19 + 2 * k) 1 (Int32.ofNat l)) (19 + 2 * k) 0 (Int32.ofNat n)) a b) ∧ ∀ b, b < i → J (20 + 2 * k) b = 0) (s := u2 (u2 I (19 + 2 * k) 1 (Int32.ofNat l)) (19 + 2 * k) 0 (Int32.ofNat n)) (fun i J hi hJ => by
      refine ⟨u2 J (20 + 2 * k) i 0, ?_, fun a b q => ?_, fun b q => ?_⟩
      · show F_X3_renew_21_1 J (19 + 2 * k) (Int32.ofNat l) (Int32.ofNat n) (Int32.ofNat i) = _
        unfold F_X3_renew_21_1
        rw [if_neg (nin (k := i) (by omega) (by decide)), on_clamp (n := i) (by omega), show 19 + 2 * k + 1 = 20 + 2 * k by omega]
      · rw [u2_nc (by omega)]
        exact hJ.1 a b (by omega)
      · by_cases d : b = i
        · rw [d, u2_at]
        · rw [u2_nc (by omega)]
          exact hJ.2 b (by omega)) ⟨fun _ _ _ => rfl, fun b hb => by omega⟩
    generalize hJ : p2 e = J at r2
    obtain ⟨r3, r4⟩ := r2
    have e1 : F_X8_sheet I (Int32.ofNat k) (Int32.ofNat l) (Int32.ofNat n) = some (1, J) := by
      unfold F_X8_sheet
      rw [if_pos hnin, isLane_eq, hl, if_pos c.2, if_neg (show ¬ (1 : Int32) = 0 by decide), if_pos (by first | omega | (simp (disch := omega) only [Int32.lt_iff_toInt_lt, Int32.le_iff_toInt_le, ← Int32.toInt_inj, on_toInt, on_clamp, ti64, z0, z1, z2, zm1, i0, i1, im1, zz3, zz4, zz5, zz6, zz7, zz8, zz9, zz10, zz11, zz12, zz13, zz14, zz15, zz16, zz17, zz18, zz19, zz20, zz21, zz22, zz23, zz24, zz25, zz26, zz27, zz28, zz29, zz30, zz31, zz32, zz33, zz34, zz35, zz36, zz37, zz38, zz39, zz40, zz41, zz48, zz60, zz64, zz160, zz312, zz320, zzm2, zzm3, zzm4, zzm5, zzm6, zzm7, zzm8, zzm9, zzm10]; done) | (simp (disch := omega) only [Int32.lt_iff_toInt_lt, Int32.le_iff_toInt_le, ← Int32.toInt_inj, on_toInt, on_clamp, ti64, z0, z1, z2, zm1, i0, i1, im1, zz3, zz4, zz5, zz6, zz7, zz8, zz9, zz10, zz11, zz12, zz13, zz14, zz15, zz16, zz17, zz18, zz19, zz20, zz21, zz22, zz23, zz24, zz25, zz26, zz27, zz28, zz29, zz30, zz31, zz32, zz33, zz34, zz35, zz36, zz37, zz38, zz39, zz40, zz41, zz48, zz60, zz64, zz160, zz312, zz320, zzm2, zzm3, zzm4, zzm5, zzm6, zzm7, zzm8, zzm9, zzm10]; omega)), if_pos (by first | omega | (simp (disch := omega) only [Int32.lt_iff_toInt_lt, Int32.le_iff_toInt_le, ← Int32.toInt_inj, on_toInt, on_clamp, ti64, z0, z1, z2, zm1, i0, i1, im1, zz3, zz4, zz5, zz6, zz7, zz8, zz9, zz10, zz11, zz12, zz13, zz14, zz15, zz16, zz17, zz18, zz19, zz20, zz21, zz22, zz23, zz24, zz25, zz26, zz27, zz28, zz29, zz30, zz31, zz32, zz33, zz34, zz35, zz36, zz37, zz38, zz39, zz40, zz41, zz48, zz60, zz64, zz160, zz312, zz320, zzm2, zzm3, zzm4, zzm5, zzm6, zzm7, zzm8, zzm9, zzm10]; done) | (simp (disch := omega) only [Int32.lt_iff_toInt_lt, Int32.le_iff_toInt_le, ← Int32.toInt_inj, on_toInt, on_clamp, ti64, z0, z1, z2, zm1, i0, i1, im1, zz3, zz4, zz5, zz6, zz7, zz8, zz9, zz10, zz11, zz12, zz13, zz14, zz15, zz16, zz17, zz18, zz19, zz20, zz21, zz22, zz23, zz24, zz25, zz26, zz27, zz28, zz29, zz30, zz31, zz32, zz33, zz34, zz35, zz36, zz37, zz38, zz39, zz40, zz41, zz48, zz60, zz64, zz160, zz312, zz320, zzm2, zzm3, zzm4, zzm5, zzm6, zzm7, zzm8, zzm9, zzm10]; omega)), sid_on (by omega)]
      unfold F_X3_renew F_X3_renew_12
      show Option.bind (Option.bind (frp0 (fun i x => F_X3_renew_21_1 x (19 + 2 * k) (Int32.ofNat l) (Int32.ofNat n) i) (Int32.ofNat 40) (fu 0 (Int32.ofNat 40)) 0 (u2 (u2 I (19 + 2 * k) 1 (Int32.ofNat l)) (19 + 2 * k) 0 (Int32.ofNat n))) _) _ = _
      rw [r1]
      show some (1, p2 e) = _
      rw [hJ]
    -- the reference
    obtain ⟨e', t1, t2⟩ := frp0_nat (g := fun i x => F_X9_sheet_47_1 x (Int32.ofNat k) (Int32.ofNat l) (Int32.ofNat n) i) (b := 40) (by decide) (fun i (K : WI) => (∀ a b, ¬ (a = 44 ∧ 40 * k ≤ b ∧ b < 40 * k + i) → K a b = (u2 (u2 J 42 k (Int32.ofNat l)) 43 k (Int32.ofNat n)) a b) ∧ ∀ b, b < i → K 44 (40 * k + b) = 0) (s := u2 (u2 J 42 k (Int32.ofNat l)) 43 k (Int32.ofNat n)) (fun i K hi hK => by
      refine ⟨u2 K 44 (40 * k + i) 0, ?_, fun a b q => ?_, fun b q => ?_⟩
      · show F_X9_sheet_47_1 K (Int32.ofNat k) (Int32.ofNat l) (Int32.ofNat n) (Int32.ofNat i) = _
        unfold F_X9_sheet_47_1
        rw [lm40, oadd, if_neg (nin (k := 40 * k + i) (by omega) (by decide)), on_clamp (n := 40 * k + i) (by omega)]
      · rw [u2_nc (by omega)]
        exact hK.1 a b (by omega)
      · by_cases d : b = i
        · rw [d, u2_at]
        · rw [u2_nc (by omega)]
          exact hK.2 b (by omega)) ⟨fun _ _ _ => rfl, fun b hb => by omega⟩
    generalize hK : p2 e' = K at t2
    obtain ⟨t3, t4⟩ := t2
    have e2 : F_X9_sheet J (Int32.ofNat k) (Int32.ofNat l) (Int32.ofNat n) = some (1, K) := by
      unfold F_X9_sheet
      rw [isSheet_eq, hk, hl, if_pos c, if_neg (show ¬ (1 : Int32) = 0 by decide), if_pos (by first | omega | (simp (disch := omega) only [Int32.lt_iff_toInt_lt, Int32.le_iff_toInt_le, ← Int32.toInt_inj, on_toInt, on_clamp, ti64, z0, z1, z2, zm1, i0, i1, im1, zz3, zz4, zz5, zz6, zz7, zz8, zz9, zz10, zz11, zz12, zz13, zz14, zz15, zz16, zz17, zz18, zz19, zz20, zz21, zz22, zz23, zz24, zz25, zz26, zz27, zz28, zz29, zz30, zz31, zz32, zz33, zz34, zz35, zz36, zz37, zz38, zz39, zz40, zz41, zz48, zz60, zz64, zz160, zz312, zz320, zzm2, zzm3, zzm4, zzm5, zzm6, zzm7, zzm8, zzm9, zzm10]; done) | (simp (disch := omega) only [Int32.lt_iff_toInt_lt, Int32.le_iff_toInt_le, ← Int32.toInt_inj, on_toInt, on_clamp, ti64, z0, z1, z2, zm1, i0, i1, im1, zz3, zz4, zz5, zz6, zz7, zz8, zz9, zz10, zz11, zz12, zz13, zz14, zz15, zz16, zz17, zz18, zz19, zz20, zz21, zz22, zz23, zz24, zz25, zz26, zz27, zz28, zz29, zz30, zz31, zz32, zz33, zz34, zz35, zz36, zz37, zz38, zz39, zz40, zz41, zz48, zz60, zz64, zz160, zz312, zz320, zzm2, zzm3, zzm4, zzm5, zzm6, zzm7, zzm8, zzm9, zzm10]; omega)), if_pos (by first | omega | (simp (disch := omega) only [Int32.lt_iff_toInt_lt, Int32.le_iff_toInt_le, ← Int32.toInt_inj, on_toInt, on_clamp, ti64, z0, z1, z2, zm1, i0, i1, im1, zz3, zz4, zz5, zz6, zz7, zz8, zz9, zz10, zz11, zz12, zz13, zz14, zz15, zz16, zz17, zz18, zz19, zz20, zz21, zz22, zz23, zz24, zz25, zz26, zz27, zz28, zz29, zz30, zz31, zz32, zz33, zz34, zz35, zz36, zz37, zz38, zz39, zz40, zz41, zz48, zz60, zz64, zz160, zz312, zz320, zzm2, zzm3, zzm4, zzm5, zzm6, zzm7, zzm8, zzm9, zzm10]; done) | (simp (disch := omega) only [Int32.lt_iff_toInt_lt, Int32.le_iff_toInt_le, ← Int32.toInt_inj, on_toInt, on_clamp, ti64, z0, z1, z2, zm1, i0, i1, im1, zz3, zz4, zz5, zz6, zz7, zz8, zz9, zz10, zz11, zz12, zz13, zz14, zz15, zz16, zz17, zz18, zz19, zz20, zz21, zz22, zz23, zz24, zz25, zz26, zz27, zz28, zz29, zz30, zz31, zz32, zz33, zz34, zz35, zz36, zz37, zz38, zz39, zz40, zz41, zz48, zz60, zz64, zz160, zz312, zz320, zzm2, zzm3, zzm4, zzm5, zzm6, zzm7, zzm8, zzm9, zzm10]; omega)), if_neg hnin, if_neg hnin, hcl]
      unfold F_X9_sheet_40
      show Option.bind (frp0 (fun i x => F_X9_sheet_47_1 x (Int32.ofNat k) (Int32.ofNat l) (Int32.ofNat n) i) (Int32.ofNat 40) (fu 0 (Int32.ofNat 40)) 0 (u2 (u2 J 42 k (Int32.ofNat l)) 43 k (Int32.ofNat n))) _ = _
      rw [t1]
      show some (1, p2 e') = _
      rw [hK]
    refine ⟨_, e1, _, e2, rfl, ?_⟩
    have hI : ∀ a b, ¬ (a = 44 ∧ 40 * k ≤ b ∧ b < 40 * k + 40) → ¬ (a = 42 ∧ b = k) → ¬ (a = 43 ∧ b = k) → ¬ (a = 19 + 2 * k ∧ b ≤ 1) → ¬ (a = 20 + 2 * k ∧ b < 40) → K a b = I a b := fun a b h1 h2 h3 h4 h5 => by
      rw [t3 a b h1, u2_nc h3, u2_nc h2, r3 a b h5, u2_nc (by omega), u2_nc (by omega)]
    show Inv K L
    refine H.sheets (fun a b q => ?_) (fun k' hk' => ?_)
    · unfold shc at q
      exact hI a b (by omega) (by omega) (by omega) (by omega) (by omega)
    by_cases hkk : k' = k
    · subst hkk
      refine .inr ⟨n, l, by omega, by omega, ?_, ?_, ?_, ?_, fun i hi => ?_⟩
      · rw [t3 _ _ (by omega), u2_nc (by omega), u2_nc (by omega), r3 _ _ (by omega), u2_at]
      · rw [t3 _ _ (by omega), u2_at]
      · rw [t3 _ _ (by omega), u2_nc (by omega), u2_nc (by omega), r3 _ _ (by omega), u2_nc (by omega), u2_at]
      · rw [t3 _ _ (by omega), u2_nc (by omega), u2_at]
      · rw [t4 i hi, t3 _ _ (by omega), u2_nc (by omega), u2_nc (by omega), r4 i hi]
    · have hS := H.2.2.2.2.2.1 k' hk'
      unfold InvS at hS ⊢
      rw [hI (19 + 2 * k') 0 (by omega) (by omega) (by omega) (by omega) (by omega), hI 42 k' (by omega) (by omega) (by omega) (by omega) (by omega), hI 43 k' (by omega) (by omega) (by omega) (by omega) (by omega), hI (19 + 2 * k') 1 (by omega) (by omega) (by omega) (by omega) (by omega)]
      rcases hS with hS | ⟨n', l', g1, g2, g3, g4, g5, g6, g7⟩
      · exact .inl hS
      · exact .inr ⟨n', l', g1, g2, g3, g4, g5, g6, fun i hi => by
          rw [hI (20 + 2 * k') i (by omega) (by omega) (by omega) (by omega) (by omega), hI 44 (40 * k' + i) (by omega) (by omega) (by omega) (by omega) (by omega)]
          exact g7 i hi⟩
  · refine ⟨(-1, I), ?_, (-1, I), ?_, rfl, H⟩
    · unfold F_X8_sheet F_X8_sheet_28
      by_cases d : 0 ≤ a1.toInt ∧ a1.toInt ≤ 3
      · obtain ⟨k, rfl, hk, -⟩ := nn d.1
        rw [if_pos (nin (k := k) (N := 4) (by omega) (by decide)), isLane_eq, if_neg fun e => c ⟨d, e⟩, if_pos rfl]
      · rw [if_neg]
        intro q
        rcases nsplit a1 with g | ⟨k, hk, rfl⟩
        · exact q (.inl (by first | omega | (simp (disch := omega) only [Int32.lt_iff_toInt_lt, Int32.le_iff_toInt_le, ← Int32.toInt_inj, on_toInt, on_clamp, ti64, z0, z1, z2, zm1, i0, i1, im1, zz3, zz4, zz5, zz6, zz7, zz8, zz9, zz10, zz11, zz12, zz13, zz14, zz15, zz16, zz17, zz18, zz19, zz20, zz21, zz22, zz23, zz24, zz25, zz26, zz27, zz28, zz29, zz30, zz31, zz32, zz33, zz34, zz35, zz36, zz37, zz38, zz39, zz40, zz41, zz48, zz60, zz64, zz160, zz312, zz320, zzm2, zzm3, zzm4, zzm5, zzm6, zzm7, zzm8, zzm9, zzm10]; done) | (simp (disch := omega) only [Int32.lt_iff_toInt_lt, Int32.le_iff_toInt_le, ← Int32.toInt_inj, on_toInt, on_clamp, ti64, z0, z1, z2, zm1, i0, i1, im1, zz3, zz4, zz5, zz6, zz7, zz8, zz9, zz10, zz11, zz12, zz13, zz14, zz15, zz16, zz17, zz18, zz19, zz20, zz21, zz22, zz23, zz24, zz25, zz26, zz27, zz28, zz29, zz30, zz31, zz32, zz33, zz34, zz35, zz36, zz37, zz38, zz39, zz40, zz41, zz48, zz60, zz64, zz160, zz312, zz320, zzm2, zzm3, zzm4, zzm5, zzm6, zzm7, zzm8, zzm9, zzm10]; omega)))
        · rw [on_toInt hk] at d
          exact q (.inr (by rw [on_clamp hk]; omega))
    · show F_X9_sheet I _ _ _ = _
      unfold F_X9_sheet F_X9_sheet_14
      rw [isSheet_eq, if_neg c, if_pos rfl]
theorem nin2 {k N : Nat} (h : k < N) (hN : N < 2147483648) : ¬ (Int32.ofNat k < 0 ∨ N ≤ k) := by
  have := nin h hN
  rw [on_clamp (n := k) (by omega)] at this
  exact this
/-- what is laid into a cell of this lane -/
def lane (l v : Int32) : Int32 := if l = 0 then Int8.toInt32 (Int32.toInt8 v) else if l = 1 then Int16.toInt32 (Int32.toInt16 v) else v
theorem E_34 {I : WI} {L : WL} {a1 a2 a3 : Int32} (H : Inv I L) : ∃ v, (F_X8_lay I a1 a2 a3) = some v ∧ ∃ w, (F_X9_lay (p2 v) a1 a2 a3) = some w ∧ (p1 v) = (p1 w) ∧ Inv (p2 w) L := by
  by_cases c : 0 ≤ a1.toInt ∧ a1.toInt ≤ 3
  · obtain ⟨k, rfl, hk, -⟩ := nn c.1
    rw [hk] at c
    have hk4 : k < 4 := by omega
    have hnin := nin (k := k) (N := 4) hk4 (by decide)
    have hcl := on_clamp (n := k) (by omega)
    have hnin2 := nin2 (k := k) (N := 4) hk4 (by decide)
    have hsh : F_X9_isSheet (Int32.ofNat k) 0 = 1 := by
      rw [isSheet_eq, hk, z0, if_pos ⟨c, by omega⟩]
    have hS := H.2.2.2.2.2.1 k hk4
    rcases hS with ⟨g1, g2⟩ | ⟨n, l, g1, g2, g3, g4, g5, g6, g7⟩
    · refine ⟨(-11, I), ?_, (-11, I), ?_, rfl, H⟩
      · unfold F_X8_lay F_X3_isNothing F_X3_isNothing_12
        rw [if_pos hnin, sid_on (by omega), g1, if_neg (show ¬ (0 : Int32) ≤ -1 by decide), if_neg (show ¬ (1 : Int32) = 0 by decide)]
      · show F_X9_lay I _ _ _ = _
        unfold F_X9_lay
        rw [hsh, if_neg (show ¬ (1 : Int32) = 0 by decide), if_neg hnin, hcl, g2, if_pos rfl]
    have gn : ¬ Int32.ofNat l = -4 := fun e => absurd (congrArg Int32.toInt e) (by rw [on_toInt (by omega), zzm4]; omega)
    have hno : F_X3_isNothing I (19 + 2 * k) = 0 := by
      unfold F_X3_isNothing F_X3_isNothing_12
      rw [g3, if_pos (by first | omega | (simp (disch := omega) only [Int32.lt_iff_toInt_lt, Int32.le_iff_toInt_le, ← Int32.toInt_inj, on_toInt, on_clamp, ti64, z0, z1, z2, zm1, i0, i1, im1, zz3, zz4, zz5, zz6, zz7, zz8, zz9, zz10, zz11, zz12, zz13, zz14, zz15, zz16, zz17, zz18, zz19, zz20, zz21, zz22, zz23, zz24, zz25, zz26, zz27, zz28, zz29, zz30, zz31, zz32, zz33, zz34, zz35, zz36, zz37, zz38, zz39, zz40, zz41, zz48, zz60, zz64, zz160, zz312, zz320, zzm2, zzm3, zzm4, zzm5, zzm6, zzm7, zzm8, zzm9, zzm10]; done) | (simp (disch := omega) only [Int32.lt_iff_toInt_lt, Int32.le_iff_toInt_le, ← Int32.toInt_inj, on_toInt, on_clamp, ti64, z0, z1, z2, zm1, i0, i1, im1, zz3, zz4, zz5, zz6, zz7, zz8, zz9, zz10, zz11, zz12, zz13, zz14, zz15, zz16, zz17, zz18, zz19, zz20, zz21, zz22, zz23, zz24, zz25, zz26, zz27, zz28, zz29, zz30, zz31, zz32, zz33, zz34, zz35, zz36, zz37, zz38, zz39, zz40, zz41, zz48, zz60, zz64, zz160, zz312, zz320, zzm2, zzm3, zzm4, zzm5, zzm6, zzm7, zzm8, zzm9, zzm10]; omega))]
    have hx : F_X8_lay I (Int32.ofNat k) a2 a3 = Option.bind (F_X3_put I (19 + 2 * k) a2 a3) (fun v3 => (if (p1 v3) = 0 then (F_X8_lay_44 (p2 v3) (Int32.ofNat k) a2 a3 (-12)) else (F_X8_lay_44 (p2 v3) (Int32.ofNat k) a2 a3 1))) := by
      unfold F_X8_lay
      rw [if_pos hnin, sid_on (by omega), hno, if_pos rfl]
    by_cases d : 0 ≤ a2.toInt ∧ a2.toInt < (n : Int)
    · obtain ⟨i, rfl, hi, -⟩ := nn d.1
      rw [hi] at d
      have e1 : F_X8_lay I (Int32.ofNat k) (Int32.ofNat i) a3 = some (1, u2 I (20 + 2 * k) i (lane (Int32.ofNat l) a3)) := by
        rw [hx]
        have : F_X3_put I (19 + 2 * k) (Int32.ofNat i) a3 = some (1, u2 I (20 + 2 * k) i (lane (Int32.ofNat l) a3)) := by
          unfold F_X3_put F_X3_put_60 F_X3_put_61 lane
          rw [g3, g5, if_neg (by first | omega | (simp (disch := omega) only [Int32.lt_iff_toInt_lt, Int32.le_iff_toInt_le, ← Int32.toInt_inj, on_toInt, on_clamp, ti64, z0, z1, z2, zm1, i0, i1, im1, zz3, zz4, zz5, zz6, zz7, zz8, zz9, zz10, zz11, zz12, zz13, zz14, zz15, zz16, zz17, zz18, zz19, zz20, zz21, zz22, zz23, zz24, zz25, zz26, zz27, zz28, zz29, zz30, zz31, zz32, zz33, zz34, zz35, zz36, zz37, zz38, zz39, zz40, zz41, zz48, zz60, zz64, zz160, zz312, zz320, zzm2, zzm3, zzm4, zzm5, zzm6, zzm7, zzm8, zzm9, zzm10]; done) | (simp (disch := omega) only [Int32.lt_iff_toInt_lt, Int32.le_iff_toInt_le, ← Int32.toInt_inj, on_toInt, on_clamp, ti64, z0, z1, z2, zm1, i0, i1, im1, zz3, zz4, zz5, zz6, zz7, zz8, zz9, zz10, zz11, zz12, zz13, zz14, zz15, zz16, zz17, zz18, zz19, zz20, zz21, zz22, zz23, zz24, zz25, zz26, zz27, zz28, zz29, zz30, zz31, zz32, zz33, zz34, zz35, zz36, zz37, zz38, zz39, zz40, zz41, zz48, zz60, zz64, zz160, zz312, zz320, zzm2, zzm3, zzm4, zzm5, zzm6, zzm7, zzm8, zzm9, zzm10]; omega)), if_neg (by first | omega | (simp (disch := omega) only [Int32.lt_iff_toInt_lt, Int32.le_iff_toInt_le, ← Int32.toInt_inj, on_toInt, on_clamp, ti64, z0, z1, z2, zm1, i0, i1, im1, zz3, zz4, zz5, zz6, zz7, zz8, zz9, zz10, zz11, zz12, zz13, zz14, zz15, zz16, zz17, zz18, zz19, zz20, zz21, zz22, zz23, zz24, zz25, zz26, zz27, zz28, zz29, zz30, zz31, zz32, zz33, zz34, zz35, zz36, zz37, zz38, zz39, zz40, zz41, zz48, zz60, zz64, zz160, zz312, zz320, zzm2, zzm3, zzm4, zzm5, zzm6, zzm7, zzm8, zzm9, zzm10]; done) | (simp (disch := omega) only [Int32.lt_iff_toInt_lt, Int32.le_iff_toInt_le, ← Int32.toInt_inj, on_toInt, on_clamp, ti64, z0, z1, z2, zm1, i0, i1, im1, zz3, zz4, zz5, zz6, zz7, zz8, zz9, zz10, zz11, zz12, zz13, zz14, zz15, zz16, zz17, zz18, zz19, zz20, zz21, zz22, zz23, zz24, zz25, zz26, zz27, zz28, zz29, zz30, zz31, zz32, zz33, zz34, zz35, zz36, zz37, zz38, zz39, zz40, zz41, zz48, zz60, zz64, zz160, zz312, zz320, zzm2, zzm3, zzm4, zzm5, zzm6, zzm7, zzm8, zzm9, zzm10]; omega)), if_pos (by first | omega | (simp (disch := omega) only [Int32.lt_iff_toInt_lt, Int32.le_iff_toInt_le, ← Int32.toInt_inj, on_toInt, on_clamp, ti64, z0, z1, z2, zm1, i0, i1, im1, zz3, zz4, zz5, zz6, zz7, zz8, zz9, zz10, zz11, zz12, zz13, zz14, zz15, zz16, zz17, zz18, zz19, zz20, zz21, zz22, zz23, zz24, zz25, zz26, zz27, zz28, zz29, zz30, zz31, zz32, zz33, zz34, zz35, zz36, zz37, zz38, zz39, zz40, zz41, zz48, zz60, zz64, zz160, zz312, zz320, zzm2, zzm3, zzm4, zzm5, zzm6, zzm7, zzm8, zzm9, zzm10]; done) | (simp (disch := omega) only [Int32.lt_iff_toInt_lt, Int32.le_iff_toInt_le, ← Int32.toInt_inj, on_toInt, on_clamp, ti64, z0, z1, z2, zm1, i0, i1, im1, zz3, zz4, zz5, zz6, zz7, zz8, zz9, zz10, zz11, zz12, zz13, zz14, zz15, zz16, zz17, zz18, zz19, zz20, zz21, zz22, zz23, zz24, zz25, zz26, zz27, zz28, zz29, zz30, zz31, zz32, zz33, zz34, zz35, zz36, zz37, zz38, zz39, zz40, zz41, zz48, zz60, zz64, zz160, zz312, zz320, zzm2, zzm3, zzm4, zzm5, zzm6, zzm7, zzm8, zzm9, zzm10]; omega)), if_neg (nin (k := i) (N := 40) (by omega) (by decide)), if_neg (nin (k := i) (N := 40) (by omega) (by decide)), on_clamp (n := i) (by omega), show 19 + 2 * k + 1 = 20 + 2 * k by omega]
          by_cases q0 : Int32.ofNat l = 0
          · rw [if_pos q0, if_pos q0]
          rw [if_neg q0, if_neg q0]
          by_cases q1 : Int32.ofNat l = 1
          · rw [if_pos q1, if_pos q1]
          · rw [if_neg q1, if_neg q1, if_neg (nin2 (k := i) (N := 40) (by omega) (by decide))]
        rw [this]
        rfl
      refine ⟨_, e1, (1, u2 (u2 I (20 + 2 * k) i (lane (Int32.ofNat l) a3)) 44 (40 * k + i) (lane (Int32.ofNat l) a3)), ?_, rfl, ?_⟩
      · show F_X9_lay (u2 I (20 + 2 * k) i (lane (Int32.ofNat l) a3)) _ _ _ = _
        generalize hJ : u2 I (20 + 2 * k) i (lane (Int32.ofNat l) a3) = J
        have j1 : J 42 k = Int32.ofNat l := by rw [← hJ, u2_nc (by omega), g6]
        have j2 : J 43 k = Int32.ofNat n := by rw [← hJ, u2_nc (by omega), g4]
        unfold F_X9_lay F_X9_lay_85
        rw [hsh, if_neg (show ¬ (1 : Int32) = 0 by decide), if_neg hnin, hcl, j1, j2, if_neg gn, if_neg hnin2, in_eq, i0, ti64, on_m1 (by omega), hi, if_pos (show (0 : Int) ≤ (i : Int) ∧ (i : Int) ≤ (n : Int) - 1 by omega), if_neg (show ¬ (1 : Int32) = 0 by decide), if_neg hnin2, lm40, oadd, on_clamp (n := 40 * k + i) (by omega)]
        have hn2 : ¬ (Int32.ofNat (40 * k + i) < 0 ∨ 160 ≤ 40 * k + i) := by
          have := nin (k := 40 * k + i) (N := 160) (by omega) (by decide)
          rw [on_clamp (n := 40 * k + i) (by omega)] at this
          exact this
        unfold lane
        by_cases q0 : Int32.ofNat l = 0
        · rw [if_pos q0, if_neg hn2, if_pos q0]
        rw [if_neg q0, if_neg hnin2, if_neg q0]
        by_cases q1 : Int32.ofNat l = 1
        · rw [if_pos q1, if_neg hn2, if_pos q1]
        · rw [if_neg q1, if_neg hn2, if_neg q1]
      · generalize hv : lane (Int32.ofNat l) a3 = v
        show Inv (u2 (u2 I (20 + 2 * k) i v) 44 (40 * k + i) v) L
        refine H.sheets (fun a b q => ?_) (fun k' hk' => ?_)
        · unfold shc at q
          rw [u2_nc (by omega), u2_nc (by omega)]
        have hS := H.2.2.2.2.2.1 k' hk'
        unfold InvS at hS ⊢
        rw [u2_nc (a := 19 + 2 * k') (b := 0) (by omega), u2_nc (a := 19 + 2 * k') (b := 0) (by omega), u2_nc (a := 42) (by omega), u2_nc (a := 42) (by omega), u2_nc (a := 43) (by omega), u2_nc (a := 43) (by omega), u2_nc (a := 19 + 2 * k') (b := 1) (by omega), u2_nc (a := 19 + 2 * k') (b := 1) (by omega)]
        rcases hS with hS | ⟨n', l', f1, f2, f3, f4, f5, f6, f7⟩
        · exact .inl hS
        · refine .inr ⟨n', l', f1, f2, f3, f4, f5, f6, fun j hj => ?_⟩
          rw [u2_nc (k := 44) (by omega)]
          by_cases q : k' = k ∧ j = i
          · rw [q.1, q.2, u2_at, u2_at]
          · rw [u2_nc (by omega), u2_nc (by omega), u2_nc (by omega)]
            exact f7 j hj
    · refine ⟨(-12, I), ?_, (-12, I), ?_, rfl, H⟩
      · rw [hx]
        have : F_X3_put I (19 + 2 * k) a2 a3 = some (0, I) := by
          unfold F_X3_put F_X3_put_21
          rw [g3]
          by_cases q : a2.toInt < 0
          · rw [if_pos (by first | omega | (simp (disch := omega) only [Int32.lt_iff_toInt_lt, Int32.le_iff_toInt_le, ← Int32.toInt_inj, on_toInt, on_clamp, ti64, z0, z1, z2, zm1, i0, i1, im1, zz3, zz4, zz5, zz6, zz7, zz8, zz9, zz10, zz11, zz12, zz13, zz14, zz15, zz16, zz17, zz18, zz19, zz20, zz21, zz22, zz23, zz24, zz25, zz26, zz27, zz28, zz29, zz30, zz31, zz32, zz33, zz34, zz35, zz36, zz37, zz38, zz39, zz40, zz41, zz48, zz60, zz64, zz160, zz312, zz320, zzm2, zzm3, zzm4, zzm5, zzm6, zzm7, zzm8, zzm9, zzm10]; done) | (simp (disch := omega) only [Int32.lt_iff_toInt_lt, Int32.le_iff_toInt_le, ← Int32.toInt_inj, on_toInt, on_clamp, ti64, z0, z1, z2, zm1, i0, i1, im1, zz3, zz4, zz5, zz6, zz7, zz8, zz9, zz10, zz11, zz12, zz13, zz14, zz15, zz16, zz17, zz18, zz19, zz20, zz21, zz22, zz23, zz24, zz25, zz26, zz27, zz28, zz29, zz30, zz31, zz32, zz33, zz34, zz35, zz36, zz37, zz38, zz39, zz40, zz41, zz48, zz60, zz64, zz160, zz312, zz320, zzm2, zzm3, zzm4, zzm5, zzm6, zzm7, zzm8, zzm9, zzm10]; omega))]
          · rw [if_neg (by first | omega | (simp (disch := omega) only [Int32.lt_iff_toInt_lt, Int32.le_iff_toInt_le, ← Int32.toInt_inj, on_toInt, on_clamp, ti64, z0, z1, z2, zm1, i0, i1, im1, zz3, zz4, zz5, zz6, zz7, zz8, zz9, zz10, zz11, zz12, zz13, zz14, zz15, zz16, zz17, zz18, zz19, zz20, zz21, zz22, zz23, zz24, zz25, zz26, zz27, zz28, zz29, zz30, zz31, zz32, zz33, zz34, zz35, zz36, zz37, zz38, zz39, zz40, zz41, zz48, zz60, zz64, zz160, zz312, zz320, zzm2, zzm3, zzm4, zzm5, zzm6, zzm7, zzm8, zzm9, zzm10]; done) | (simp (disch := omega) only [Int32.lt_iff_toInt_lt, Int32.le_iff_toInt_le, ← Int32.toInt_inj, on_toInt, on_clamp, ti64, z0, z1, z2, zm1, i0, i1, im1, zz3, zz4, zz5, zz6, zz7, zz8, zz9, zz10, zz11, zz12, zz13, zz14, zz15, zz16, zz17, zz18, zz19, zz20, zz21, zz22, zz23, zz24, zz25, zz26, zz27, zz28, zz29, zz30, zz31, zz32, zz33, zz34, zz35, zz36, zz37, zz38, zz39, zz40, zz41, zz48, zz60, zz64, zz160, zz312, zz320, zzm2, zzm3, zzm4, zzm5, zzm6, zzm7, zzm8, zzm9, zzm10]; omega)), if_pos (by first | omega | (simp (disch := omega) only [Int32.lt_iff_toInt_lt, Int32.le_iff_toInt_le, ← Int32.toInt_inj, on_toInt, on_clamp, ti64, z0, z1, z2, zm1, i0, i1, im1, zz3, zz4, zz5, zz6, zz7, zz8, zz9, zz10, zz11, zz12, zz13, zz14, zz15, zz16, zz17, zz18, zz19, zz20, zz21, zz22, zz23, zz24, zz25, zz26, zz27, zz28, zz29, zz30, zz31, zz32, zz33, zz34, zz35, zz36, zz37, zz38, zz39, zz40, zz41, zz48, zz60, zz64, zz160, zz312, zz320, zzm2, zzm3, zzm4, zzm5, zzm6, zzm7, zzm8, zzm9, zzm10]; done) | (simp (disch := omega) only [Int32.lt_iff_toInt_lt, Int32.le_iff_toInt_le, ← Int32.toInt_inj, on_toInt, on_clamp, ti64, z0, z1, z2, zm1, i0, i1, im1, zz3, zz4, zz5, zz6, zz7, zz8, zz9, zz10, zz11, zz12, zz13, zz14, zz15, zz16, zz17, zz18, zz19, zz20, zz21, zz22, zz23, zz24, zz25, zz26, zz27, zz28, zz29, zz30, zz31, zz32, zz33, zz34, zz35, zz36, zz37, zz38, zz39, zz40, zz41, zz48, zz60, zz64, zz160, zz312, zz320, zzm2, zzm3, zzm4, zzm5, zzm6, zzm7, zzm8, zzm9, zzm10]; omega))]
        rw [this]
        rfl
      · show F_X9_lay I _ _ _ = _
        unfold F_X9_lay
        rw [hsh, if_neg (show ¬ (1 : Int32) = 0 by decide), if_neg hnin, hcl, g6, g4, if_neg gn, if_neg hnin2, in_eq, i0, ti64, on_m1 (by omega), if_neg (show ¬ (0 ≤ a2.toInt ∧ a2.toInt ≤ (n : Int) - 1) by omega), if_pos rfl]
  · refine ⟨(-1, I), ?_, (-1, I), ?_, rfl, H⟩
    · unfold F_X8_lay
      rw [if_neg]
      intro q
      rcases nsplit a1 with g | ⟨k, hk, rfl⟩
      · exact q (.inl (by first | omega | (simp (disch := omega) only [Int32.lt_iff_toInt_lt, Int32.le_iff_toInt_le, ← Int32.toInt_inj, on_toInt, on_clamp, ti64, z0, z1, z2, zm1, i0, i1, im1, zz3, zz4, zz5, zz6, zz7, zz8, zz9, zz10, zz11, zz12, zz13, zz14, zz15, zz16, zz17, zz18, zz19, zz20, zz21, zz22, zz23, zz24, zz25, zz26, zz27, zz28, zz29, zz30, zz31, zz32, zz33, zz34, zz35, zz36, zz37, zz38, zz39, zz40, zz41, zz48, zz60, zz64, zz160, zz312, zz320, zzm2, zzm3, zzm4, zzm5, zzm6, zzm7, zzm8, zzm9, zzm10]; done) | (simp (disch := omega) only [Int32.lt_iff_toInt_lt, Int32.le_iff_toInt_le, ← Int32.toInt_inj, on_toInt, on_clamp, ti64, z0, z1, z2, zm1, i0, i1, im1, zz3, zz4, zz5, zz6, zz7, zz8, zz9, zz10, zz11, zz12, zz13, zz14, zz15, zz16, zz17, zz18, zz19, zz20, zz21, zz22, zz23, zz24, zz25, zz26, zz27, zz28, zz29, zz30, zz31, zz32, zz33, zz34, zz35, zz36, zz37, zz38, zz39, zz40, zz41, zz48, zz60, zz64, zz160, zz312, zz320, zzm2, zzm3, zzm4, zzm5, zzm6, zzm7, zzm8, zzm9, zzm10]; omega)))
      · rw [on_toInt hk] at c
        exact q (.inr (by rw [on_clamp hk]; omega))
    · show F_X9_lay I _ _ _ = _
      unfold F_X9_lay
      rw [isSheet_eq, if_neg (show ¬ ((0 ≤ a1.toInt ∧ a1.toInt ≤ 3) ∧ 0 ≤ (0 : Int32).toInt ∧ (0 : Int32).toInt ≤ 2) from fun e => c e.1), if_pos rfl]
