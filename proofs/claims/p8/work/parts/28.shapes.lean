/-! cut, sewn, turned -/
theorem isPart_eq {a b : Int32} {N : Nat} (hN : N ≤ 8) : F_X8_isPart a b (Int32.ofNat N) = if (0 ≤ a.toInt ∧ a.toInt < (N : Int)) ∧ 1 ≤ b.toInt ∧ b.toInt ≤ (N : Int) - a.toInt then 1 else 0 := by
  unfold F_X8_isPart F_X8_isPart_25 F_X8_isPart_26
  by_cases c1 : a.toInt < 0
  · rw [if_pos (by first | omega | (simp (disch := omega) only [Int32.lt_iff_toInt_lt, Int32.le_iff_toInt_le, ← Int32.toInt_inj, on_toInt, on_clamp, ti64, z0, z1, z2, zm1, i0, i1, im1, zz3, zz4, zz5, zz6, zz7, zz8, zz9, zz10, zz11, zz12, zz13, zz14, zz15, zz16, zz17, zz18, zz19, zz20, zz21, zz22, zz23, zz24, zz25, zz26, zz27, zz28, zz29, zz30, zz31, zz32, zz33, zz34, zz35, zz36, zz37, zz38, zz39, zz40, zz41, zz48, zz60, zz64, zz160, zz312, zz320, zzm2, zzm3, zzm4, zzm5, zzm6, zzm7, zzm8, zzm9, zzm10]; done) | (simp (disch := omega) only [Int32.lt_iff_toInt_lt, Int32.le_iff_toInt_le, ← Int32.toInt_inj, on_toInt, on_clamp, ti64, z0, z1, z2, zm1, i0, i1, im1, zz3, zz4, zz5, zz6, zz7, zz8, zz9, zz10, zz11, zz12, zz13, zz14, zz15, zz16, zz17, zz18, zz19, zz20, zz21, zz22, zz23, zz24, zz25, zz26, zz27, zz28, zz29, zz30, zz31, zz32, zz33, zz34, zz35, zz36, zz37, zz38, zz39, zz40, zz41, zz48, zz60, zz64, zz160, zz312, zz320, zzm2, zzm3, zzm4, zzm5, zzm6, zzm7, zzm8, zzm9, zzm10]; omega)), if_neg (by omega)]
  rw [if_neg (by first | omega | (simp (disch := omega) only [Int32.lt_iff_toInt_lt, Int32.le_iff_toInt_le, ← Int32.toInt_inj, on_toInt, on_clamp, ti64, z0, z1, z2, zm1, i0, i1, im1, zz3, zz4, zz5, zz6, zz7, zz8, zz9, zz10, zz11, zz12, zz13, zz14, zz15, zz16, zz17, zz18, zz19, zz20, zz21, zz22, zz23, zz24, zz25, zz26, zz27, zz28, zz29, zz30, zz31, zz32, zz33, zz34, zz35, zz36, zz37, zz38, zz39, zz40, zz41, zz48, zz60, zz64, zz160, zz312, zz320, zzm2, zzm3, zzm4, zzm5, zzm6, zzm7, zzm8, zzm9, zzm10]; done) | (simp (disch := omega) only [Int32.lt_iff_toInt_lt, Int32.le_iff_toInt_le, ← Int32.toInt_inj, on_toInt, on_clamp, ti64, z0, z1, z2, zm1, i0, i1, im1, zz3, zz4, zz5, zz6, zz7, zz8, zz9, zz10, zz11, zz12, zz13, zz14, zz15, zz16, zz17, zz18, zz19, zz20, zz21, zz22, zz23, zz24, zz25, zz26, zz27, zz28, zz29, zz30, zz31, zz32, zz33, zz34, zz35, zz36, zz37, zz38, zz39, zz40, zz41, zz48, zz60, zz64, zz160, zz312, zz320, zzm2, zzm3, zzm4, zzm5, zzm6, zzm7, zzm8, zzm9, zzm10]; omega))]
  by_cases c2 : (N : Int) ≤ a.toInt
  · rw [if_pos (by first | omega | (simp (disch := omega) only [Int32.lt_iff_toInt_lt, Int32.le_iff_toInt_le, ← Int32.toInt_inj, on_toInt, on_clamp, ti64, z0, z1, z2, zm1, i0, i1, im1, zz3, zz4, zz5, zz6, zz7, zz8, zz9, zz10, zz11, zz12, zz13, zz14, zz15, zz16, zz17, zz18, zz19, zz20, zz21, zz22, zz23, zz24, zz25, zz26, zz27, zz28, zz29, zz30, zz31, zz32, zz33, zz34, zz35, zz36, zz37, zz38, zz39, zz40, zz41, zz48, zz60, zz64, zz160, zz312, zz320, zzm2, zzm3, zzm4, zzm5, zzm6, zzm7, zzm8, zzm9, zzm10]; done) | (simp (disch := omega) only [Int32.lt_iff_toInt_lt, Int32.le_iff_toInt_le, ← Int32.toInt_inj, on_toInt, on_clamp, ti64, z0, z1, z2, zm1, i0, i1, im1, zz3, zz4, zz5, zz6, zz7, zz8, zz9, zz10, zz11, zz12, zz13, zz14, zz15, zz16, zz17, zz18, zz19, zz20, zz21, zz22, zz23, zz24, zz25, zz26, zz27, zz28, zz29, zz30, zz31, zz32, zz33, zz34, zz35, zz36, zz37, zz38, zz39, zz40, zz41, zz48, zz60, zz64, zz160, zz312, zz320, zzm2, zzm3, zzm4, zzm5, zzm6, zzm7, zzm8, zzm9, zzm10]; omega)), if_neg (by omega)]
  rw [if_neg (by first | omega | (simp (disch := omega) only [Int32.lt_iff_toInt_lt, Int32.le_iff_toInt_le, ← Int32.toInt_inj, on_toInt, on_clamp, ti64, z0, z1, z2, zm1, i0, i1, im1, zz3, zz4, zz5, zz6, zz7, zz8, zz9, zz10, zz11, zz12, zz13, zz14, zz15, zz16, zz17, zz18, zz19, zz20, zz21, zz22, zz23, zz24, zz25, zz26, zz27, zz28, zz29, zz30, zz31, zz32, zz33, zz34, zz35, zz36, zz37, zz38, zz39, zz40, zz41, zz48, zz60, zz64, zz160, zz312, zz320, zzm2, zzm3, zzm4, zzm5, zzm6, zzm7, zzm8, zzm9, zzm10]; done) | (simp (disch := omega) only [Int32.lt_iff_toInt_lt, Int32.le_iff_toInt_le, ← Int32.toInt_inj, on_toInt, on_clamp, ti64, z0, z1, z2, zm1, i0, i1, im1, zz3, zz4, zz5, zz6, zz7, zz8, zz9, zz10, zz11, zz12, zz13, zz14, zz15, zz16, zz17, zz18, zz19, zz20, zz21, zz22, zz23, zz24, zz25, zz26, zz27, zz28, zz29, zz30, zz31, zz32, zz33, zz34, zz35, zz36, zz37, zz38, zz39, zz40, zz41, zz48, zz60, zz64, zz160, zz312, zz320, zzm2, zzm3, zzm4, zzm5, zzm6, zzm7, zzm8, zzm9, zzm10]; omega))]
  by_cases c3 : b.toInt < 1
  · rw [if_pos (by first | omega | (simp (disch := omega) only [Int32.lt_iff_toInt_lt, Int32.le_iff_toInt_le, ← Int32.toInt_inj, on_toInt, on_clamp, ti64, z0, z1, z2, zm1, i0, i1, im1, zz3, zz4, zz5, zz6, zz7, zz8, zz9, zz10, zz11, zz12, zz13, zz14, zz15, zz16, zz17, zz18, zz19, zz20, zz21, zz22, zz23, zz24, zz25, zz26, zz27, zz28, zz29, zz30, zz31, zz32, zz33, zz34, zz35, zz36, zz37, zz38, zz39, zz40, zz41, zz48, zz60, zz64, zz160, zz312, zz320, zzm2, zzm3, zzm4, zzm5, zzm6, zzm7, zzm8, zzm9, zzm10]; done) | (simp (disch := omega) only [Int32.lt_iff_toInt_lt, Int32.le_iff_toInt_le, ← Int32.toInt_inj, on_toInt, on_clamp, ti64, z0, z1, z2, zm1, i0, i1, im1, zz3, zz4, zz5, zz6, zz7, zz8, zz9, zz10, zz11, zz12, zz13, zz14, zz15, zz16, zz17, zz18, zz19, zz20, zz21, zz22, zz23, zz24, zz25, zz26, zz27, zz28, zz29, zz30, zz31, zz32, zz33, zz34, zz35, zz36, zz37, zz38, zz39, zz40, zz41, zz48, zz60, zz64, zz160, zz312, zz320, zzm2, zzm3, zzm4, zzm5, zzm6, zzm7, zzm8, zzm9, zzm10]; omega)), if_neg (by omega)]
  rw [if_neg (by first | omega | (simp (disch := omega) only [Int32.lt_iff_toInt_lt, Int32.le_iff_toInt_le, ← Int32.toInt_inj, on_toInt, on_clamp, ti64, z0, z1, z2, zm1, i0, i1, im1, zz3, zz4, zz5, zz6, zz7, zz8, zz9, zz10, zz11, zz12, zz13, zz14, zz15, zz16, zz17, zz18, zz19, zz20, zz21, zz22, zz23, zz24, zz25, zz26, zz27, zz28, zz29, zz30, zz31, zz32, zz33, zz34, zz35, zz36, zz37, zz38, zz39, zz40, zz41, zz48, zz60, zz64, zz160, zz312, zz320, zzm2, zzm3, zzm4, zzm5, zzm6, zzm7, zzm8, zzm9, zzm10]; done) | (simp (disch := omega) only [Int32.lt_iff_toInt_lt, Int32.le_iff_toInt_le, ← Int32.toInt_inj, on_toInt, on_clamp, ti64, z0, z1, z2, zm1, i0, i1, im1, zz3, zz4, zz5, zz6, zz7, zz8, zz9, zz10, zz11, zz12, zz13, zz14, zz15, zz16, zz17, zz18, zz19, zz20, zz21, zz22, zz23, zz24, zz25, zz26, zz27, zz28, zz29, zz30, zz31, zz32, zz33, zz34, zz35, zz36, zz37, zz38, zz39, zz40, zz41, zz48, zz60, zz64, zz160, zz312, zz320, zzm2, zzm3, zzm4, zzm5, zzm6, zzm7, zzm8, zzm9, zzm10]; omega))]
  have e : (Int32.ofNat N - a).toInt = (N : Int) - a.toInt := by
    rw [ti_sub] <;> rw [on_toInt (by omega)] <;> omega
  by_cases c4 : (N : Int) - a.toInt < b.toInt
  · rw [if_pos (by rw [Int32.lt_iff_toInt_lt, e]; exact c4), if_neg (by omega)]
  · rw [if_neg (by rw [Int32.lt_iff_toInt_lt, e]; exact c4), if_pos (by omega)]
theorem cut_set {x : Int64} {h w r m c n : Nat} (hC : Cl h w) (hr : r + m ≤ h) (hm : 1 ≤ m) (hc : c + n ≤ w) (hn : 1 ≤ n) {I : WI} {L : WL} (hx : L 33 2 = x) : it (fun i y => F_X9_cut_79_1 I L (Int32.ofNat r) (Int32.ofNat m) (Int32.ofNat c) (Int32.ofNat n) i y) m 0 = (lush x (Int32.ofNat (8 * r + c))) &&& (F_X0_allSquares (cq (Int32.ofNat m) (Int32.ofNat n)) 1) := by
  obtain ⟨⟨h1, h2⟩, h3, h4⟩ := hC
  refine M_ext fun k hk => ?_
  rw [M_and, M_lush (by omega), all_M ⟨⟨hm, by omega⟩, hn, by omega⟩]
  rw [it_or2 (g := fun a i y => F_X9_cut_89_2 I L (Int32.ofNat r) (Int32.ofNat m) (Int32.ofNat c) (Int32.ofNat n) (Int32.ofNat a) i y) (w := n) (by omega) (fun a b => M x (8 * (r + a) + (c + b))) (fun a y ha => fr0_it (by omega)) (fun a b y ha hb k => ?_) (by omega)]
  · constructor
    · rintro (q | ⟨q1, q2, q3⟩)
      · exact absurd q M_0
      · rw [show 8 * (r + k / 8) + (c + k % 8) = 8 * r + c + k by omega] at q3
        exact ⟨q3, q1, q2⟩
    · rintro ⟨q1, q2, q3⟩
      refine .inr ⟨q2, q3, ?_⟩
      rw [show 8 * (r + k / 8) + (c + k % 8) = 8 * r + c + k by omega]
      exact q1
  · show M (F_X9_cut_89_2 I L _ _ _ _ (Int32.ofNat a) (Int32.ofNat b) y) k ↔ _
    have hbo := bitOf_M (r := a) (c := b) (k := k) (by omega)
    unfold F_X9_cut_89_2 F_X9_cut_121_2
    rw [oadd, oadd, hx, isDark_eq (by omega)]
    by_cases hb' : M x (8 * (r + a) + (c + b))
    · rw [show (if mb x (8 * (r + a) + (c + b)) = true then (1 : Int32) else 0) = 1 from if_pos hb', if_pos rfl, M_or, hbo]
      exact ⟨fun h => h.imp_right fun h => ⟨hb', h⟩, fun h => h.imp_right fun h => h.2⟩
    · rw [show (if mb x (8 * (r + a) + (c + b)) = true then (1 : Int32) else 0) = 0 from if_neg hb', if_neg (show ¬ (0 : Int32) = 1 by decide), M_or]
      exact ⟨fun h => .inl (h.resolve_right M_0), fun h => .inl (h.resolve_right fun h => hb' h.1)⟩
theorem cut_ins {x : Int64} {m n s : Nat} (hC : Cl m n) : Ins m n ((lush x (Int32.ofNat s)) &&& (F_X0_allSquares (cq (Int32.ofNat m) (Int32.ofNat n)) 1)) := fun k hk => (all_M hC).mp (M_and.mp hk).2
theorem E_27 {I : WI} {L : WL} {a1 a2 a3 a4 : Int32} (H : Inv I L) : (p1 (F_X8_cut I L a1 a2 a3 a4)) = (p1 (F_X9_cut (p1 (p2 (F_X8_cut I L a1 a2 a3 a4))) (p2 (p2 (F_X8_cut I L a1 a2 a3 a4))) a1 a2 a3 a4)) ∧ Inv (p1 (p2 (F_X9_cut (p1 (p2 (F_X8_cut I L a1 a2 a3 a4))) (p2 (p2 (F_X8_cut I L a1 a2 a3 a4))) a1 a2 a3 a4))) (p2 (p2 (F_X9_cut (p1 (p2 (F_X8_cut I L a1 a2 a3 a4))) (p2 (p2 (F_X8_cut I L a1 a2 a3 a4))) a1 a2 a3 a4))) := by
  have H' := H
  obtain ⟨⟨h, w, ⟨hC, c1, c2, c3, c4, c5, c6, c7⟩, ⟨q1, q2, q3⟩⟩, k0, k1, h3, h4, h5, h6⟩ := H
  have hC2 := hC
  obtain ⟨⟨b1, b2⟩, b3, b4⟩ := hC2
  by_cases c : ((0 ≤ a1.toInt ∧ a1.toInt < (h : Int)) ∧ 1 ≤ a2.toInt ∧ a2.toInt ≤ (h : Int) - a1.toInt) ∧ ((0 ≤ a3.toInt ∧ a3.toInt < (w : Int)) ∧ 1 ≤ a4.toInt ∧ a4.toInt ≤ (w : Int) - a3.toInt)
  · obtain ⟨r, rfl, hr, -⟩ := nn c.1.1.1
    obtain ⟨m, rfl, hm, -⟩ := nn (show 0 ≤ a2.toInt by omega)
    obtain ⟨q, rfl, hq, -⟩ := nn c.2.1.1
    obtain ⟨n, rfl, hn, -⟩ := nn (show 0 ≤ a4.toInt by omega)
    rw [hr, hm, hq, hn] at c
    generalize hX : (lush (L 1 3) (Int32.ofNat (8 * r + q))) &&& (F_X0_allSquares (cq (Int32.ofNat m) (Int32.ofNat n)) 1) = X
    have e1 : F_X8_cut I L (Int32.ofNat r) (Int32.ofNat m) (Int32.ofNat q) (Int32.ofNat n) = (F_J13_bitCount_95d88 X, F_X8_forgetPlans (u2 (u2 I 1 1 (Int32.ofNat m)) 1 2 (Int32.ofNat n)), u2 L 1 3 X) := by
      unfold F_X8_cut
      rw [c1, c2, isPart_eq b2, isPart_eq b4, hr, hm, hq, hn, if_pos c.1, if_neg (by decide), if_pos c.2, if_neg (by decide), pos_rc, ← hX]
      rfl
    have e2 : F_X9_cut (F_X8_forgetPlans (u2 (u2 I 1 1 (Int32.ofNat m)) 1 2 (Int32.ofNat n))) (u2 L 1 3 X) (Int32.ofNat r) (Int32.ofNat m) (Int32.ofNat q) (Int32.ofNat n) = (F_X9_many X, F_X9_endsPattern (u2 (u2 (F_X8_forgetPlans (u2 (u2 I 1 1 (Int32.ofNat m)) 1 2 (Int32.ofNat n))) 33 0 (Int32.ofNat m)) 33 1 (Int32.ofNat n)), u2 (u2 L 1 3 X) 33 2 X) := by
      generalize hJ : F_X8_forgetPlans (u2 (u2 I 1 1 (Int32.ofNat m)) 1 2 (Int32.ofNat n)) = J
      have j0 : J 33 0 = Int32.ofNat h := by rw [← hJ]; exact c3
      have j1 : J 33 1 = Int32.ofNat w := by rw [← hJ]; exact c4
      have hset := cut_set (x := L 1 3) hC (show r + m ≤ h by omega) (by omega) (show q + n ≤ w by omega) (by omega) (I := J) (L := u2 L 1 3 X) c5
      rw [hX] at hset
      have e4 : F_X9_cut_73 J (u2 L 1 3 X) (Int32.ofNat r) (Int32.ofNat m) (Int32.ofNat q) (Int32.ofNat n) 0 0 = F_X9_cut_136 J (u2 L 1 3 X) (Int32.ofNat r) (Int32.ofNat m) (Int32.ofNat q) (Int32.ofNat n) X := by
        show F_X9_cut_136 J (u2 L 1 3 X) (Int32.ofNat r) (Int32.ofNat m) (Int32.ofNat q) (Int32.ofNat n) (p2 (fr0 (fun i x => F_X9_cut_79_1 J (u2 L 1 3 X) (Int32.ofNat r) (Int32.ofNat m) (Int32.ofNat q) (Int32.ofNat n) i x) (Int32.ofNat m) (fu 0 (Int32.ofNat m)) 0 0)) = _
        rw [fr0_it (by omega), hset]
      have s1 : (Int32.toInt64 (Int32.ofNat h - Int32.ofNat r)).toInt = (h : Int) - r := by
        rw [ti64, ti_sub] <;> rw [on_toInt (by omega), on_toInt (by omega)] <;> omega
      have s2 : (Int32.toInt64 (Int32.ofNat w - Int32.ofNat q)).toInt = (w : Int) - q := by
        rw [ti64, ti_sub] <;> rw [on_toInt (by omega), on_toInt (by omega)] <;> omega
      unfold F_X9_cut
      rw [j0, j1, in_eq, in_eq, in_eq, in_eq, s1, s2, ti64, ti64, on_m1 (by omega), on_m1 (by omega), i0, i1, hr, hm, hq, hn, if_pos (show (0 : Int) ≤ (r : Int) ∧ (r : Int) ≤ (h : Int) - 1 by omega), if_neg (show ¬ (1 : Int32) = 0 by decide), if_pos (show (1 : Int) ≤ (m : Int) ∧ (m : Int) ≤ (h : Int) - r by omega), if_neg (show ¬ (1 : Int32) = 0 by decide), if_pos (show (0 : Int) ≤ (q : Int) ∧ (q : Int) ≤ (w : Int) - 1 by omega), if_neg (show ¬ (1 : Int32) = 0 by decide), if_pos (show (1 : Int) ≤ (n : Int) ∧ (n : Int) ≤ (w : Int) - q by omega), if_neg (show ¬ (1 : Int32) = 0 by decide), e4]
      rfl
    rw [e1]
    show _ = p1 (F_X9_cut (F_X8_forgetPlans (u2 (u2 I 1 1 (Int32.ofNat m)) 1 2 (Int32.ofNat n))) (u2 L 1 3 X) (Int32.ofNat r) (Int32.ofNat m) (Int32.ofNat q) (Int32.ofNat n)) ∧ Inv (p1 (p2 (F_X9_cut (F_X8_forgetPlans (u2 (u2 I 1 1 (Int32.ofNat m)) 1 2 (Int32.ofNat n))) (u2 L 1 3 X) (Int32.ofNat r) (Int32.ofNat m) (Int32.ofNat q) (Int32.ofNat n)))) (p2 (p2 (F_X9_cut (F_X8_forgetPlans (u2 (u2 I 1 1 (Int32.ofNat m)) 1 2 (Int32.ofNat n))) (u2 L 1 3 X) (Int32.ofNat r) (Int32.ofNat m) (Int32.ofNat q) (Int32.ofNat n))))
    rw [e2]
    refine ⟨(many_bits X).symm, ?_⟩
    obtain ⟨g1, g2, g3, g4, g5⟩ := q1
    have hC3 : Cl m n := ⟨⟨by omega, by omega⟩, by omega, by omega⟩
    exact ⟨⟨m, n, ⟨hC3, rfl, rfl, rfl, rfl, rfl, hX ▸ cut_ins hC3, c7⟩, ⟨g1, g2, g3, g4, g5.1, fun q => absurd (show bz 0 = 1 from q) bz0_ne⟩, rfl, fun q => absurd (show bz 0 = 1 from q) bz0_ne⟩, k0, k1, ⟨0, by decide, rfl, rfl, fun d hd => absurd hd (by omega)⟩, h4, four h5 id id id id, h6⟩
  · have e1 : F_X8_cut I L a1 a2 a3 a4 = (-1, I, L) := by
      unfold F_X8_cut F_X8_cut_31
      rw [c1, c2, isPart_eq b2, isPart_eq b4]
      by_cases d : (0 ≤ a1.toInt ∧ a1.toInt < (h : Int)) ∧ 1 ≤ a2.toInt ∧ a2.toInt ≤ (h : Int) - a1.toInt
      · rw [if_pos d, if_neg (by decide), if_neg fun e => c ⟨d, e⟩, if_pos rfl]
      · rw [if_neg d, if_pos rfl]
    have e2 : F_X9_cut I L a1 a2 a3 a4 = (-1, I, L) := by
      unfold F_X9_cut F_X9_cut_65
      rw [c3, c4, in_eq, in_eq, in_eq, in_eq]
      by_cases d1 : 0 ≤ a1.toInt ∧ a1.toInt < (h : Int)
      · have s1 : (Int32.toInt64 (Int32.ofNat h - a1)).toInt = (h : Int) - a1.toInt := by
          rw [ti64, ti_sub] <;> rw [on_toInt (by omega)] <;> omega
        rw [s1, ti64, on_m1 (by omega), i0, i1, if_pos (show 0 ≤ a1.toInt ∧ a1.toInt ≤ (h : Int) - 1 by omega), if_neg (show ¬ (1 : Int32) = 0 by decide)]
        by_cases d2 : 1 ≤ a2.toInt ∧ a2.toInt ≤ (h : Int) - a1.toInt
        · rw [if_pos d2, if_neg (show ¬ (1 : Int32) = 0 by decide)]
          by_cases d3 : 0 ≤ a3.toInt ∧ a3.toInt < (w : Int)
          · have s2 : (Int32.toInt64 (Int32.ofNat w - a3)).toInt = (w : Int) - a3.toInt := by
              rw [ti64, ti_sub] <;> rw [on_toInt (by omega)] <;> omega
            rw [s2, ti64, on_m1 (by omega), if_pos (show 0 ≤ a3.toInt ∧ a3.toInt ≤ (w : Int) - 1 by omega), if_neg (show ¬ (1 : Int32) = 0 by decide), if_neg (show ¬ (1 ≤ a4.toInt ∧ a4.toInt ≤ (w : Int) - a3.toInt) from fun e => c ⟨⟨d1, d2⟩, d3, e⟩), if_pos rfl]
          · rw [ti64, on_m1 (by omega), if_neg (show ¬ (0 ≤ a3.toInt ∧ a3.toInt ≤ (w : Int) - 1) by omega), if_pos rfl]
        · rw [if_neg d2, if_pos rfl]
      · rw [ti64, on_m1 (by omega), i0, if_neg (show ¬ (0 ≤ a1.toInt ∧ a1.toInt ≤ (h : Int) - 1) by omega), if_pos rfl]
    rw [e1]
    show _ = p1 (F_X9_cut I L a1 a2 a3 a4) ∧ Inv (p1 (p2 (F_X9_cut I L a1 a2 a3 a4))) (p2 (p2 (F_X9_cut I L a1 a2 a3 a4)))
    rw [e2]
    exact ⟨rfl, H'⟩
