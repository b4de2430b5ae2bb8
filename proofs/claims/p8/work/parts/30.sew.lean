/-! sewn together -/
theorem ob_some {A B : Type} {a : A} {f : A → Option B} : (some a).bind f = f a := rfl
theorem sew_set {h w h2 w2 H W s : Nat} (hC : Cl H W) (hs : s < 64) {x y : Int64} (hx : ∀ k, M x k → k / 8 < H ∧ k % 8 < W) (hy : ∀ k, M y k → (k + s) / 8 < H ∧ (k + s) % 8 < W) : (x ||| lsh y (Int32.ofNat s)) &&& (F_X0_allSquares (cq (Int32.ofNat H) (Int32.ofNat W)) 1) = x ||| lsh y (Int32.ofNat s) := by
  refine M_ext fun k _ => ?_
  rw [M_and, all_M hC]
  constructor
  · exact fun q => q.1
  · intro q
    refine ⟨q, ?_⟩
    rw [M_or, M_lsh hs] at q
    rcases q with q | ⟨q1, q2, q3⟩
    · exact hx k q
    · have := hy _ q3
      rw [Nat.sub_add_cancel q2] at this
      exact this
theorem sew_ins {H W s : Nat} (hs : s < 64) {x y : Int64} (hx : ∀ k, M x k → k / 8 < H ∧ k % 8 < W) (hy : ∀ k, M y k → (k + s) / 8 < H ∧ (k + s) % 8 < W) : Ins H W (x ||| lsh y (Int32.ofNat s)) := by
  intro k q
  rw [M_or, M_lsh hs] at q
  rcases q with q | ⟨q1, q2, q3⟩
  · exact hx k q
  · have := hy _ q3
    rw [Nat.sub_add_cancel q2] at this
    exact this
/-- the class's sewing of one image -/
def sewB (I : WI) (L : WL) (a1 a2 : Int32) (r3 : Nat) : Int32 × WI × WL := if (bz (I r3 0)) = 0 then (F_X8_sew_54 I L a1 a2) else (if a2 = 0 then (if (I r3 1) = (I 1 1) then (F_X8_sew_57 I L a1 a2 r3) else (F_X8_sew_54 I L a1 a2)) else (if (I r3 2) = (I 1 2) then (F_X8_sew_57 I L a1 a2 r3) else (F_X8_sew_54 I L a1 a2)))
theorem sew_k {I : WI} {L : WL} {b : Int32} {k : Nat} (hk : k < 2) (H : Inv I L) (hK : InvK I L k) : ∃ w, F_X9_sew (p1 (p2 (sewB I L (Int32.ofNat k) b (3 + k)))) (p2 (p2 (sewB I L (Int32.ofNat k) b (3 + k)))) (Int32.ofNat k) b = some w ∧ p1 (sewB I L (Int32.ofNat k) b (3 + k)) = p1 w ∧ Inv (p1 (p2 w)) (p2 (p2 w)) := by
  have H' := H
  obtain ⟨⟨h, w, ⟨hC, c1, c2, c3, c4, c5, c6, c7⟩, ⟨q1, q2, q3⟩⟩, k0, k1, h3, h4, h5, h6⟩ := H
  have hC2 := hC
  obtain ⟨⟨b1, b2⟩, b3, b4⟩ := hC2
  have hkk := nin (k := k) (N := 2) hk (by decide)
  have hkc := on_clamp (n := k) (by omega)
  have hmod : ∀ J : WI, ∀ K : WL, J 36 k = I 36 k → J 37 k = I 37 k → J 33 0 = I 33 0 → J 33 1 = I 33 1 → F_X9_sew J K (Int32.ofNat k) b = if bz (I (3 + k) 0) = 0 then some (-2, J, K) else if b = 0 then (if I 36 k = I 33 0 then F_X9_sew_53 J K (Int32.ofNat k) b else some (-2, J, K)) else (if I 37 k = I 33 1 then F_X9_sew_53 J K (Int32.ofNat k) b else some (-2, J, K)) := by
    intro J K j1 j2 j3 j4
    unfold F_X9_sew F_X9_sew_50
    rw [isImage_eq, on_toInt (by omega), if_pos (show (0 : Int) ≤ (k : Int) ∧ (k : Int) ≤ 1 by omega)]
    rw [ob_some, if_neg (show ¬ (1 : Int32) = 0 by decide), kept_val hk, j1, kept_bz hK, ob_some]
    by_cases c : bz (I (3 + k) 0) = 0
    · rw [if_pos c, if_pos c]
    rw [if_neg c, if_neg c]
    by_cases d : b = 0
    · rw [if_pos d, if_pos d, if_neg hkk, hkc, j1, j3]
    · rw [if_neg d, if_neg d, if_neg hkk, hkc, j2, j4]
  have hst : ∃ w, F_X9_sew I L (Int32.ofNat k) b = some w ∧ w = (-2, I, L) → ∃ w, F_X9_sew I L (Int32.ofNat k) b = some w ∧ (-2 : Int32) = p1 w ∧ Inv (p1 (p2 w)) (p2 (p2 w)) := ⟨(-2, I, L), fun e => ⟨_, e.1, rfl, H'⟩⟩
  rcases bz01 (I (3 + k) 0) with e | e
  · have e1 : sewB I L (Int32.ofNat k) b (3 + k) = (-2, I, L) := by
      unfold sewB
      rw [if_pos e]
      rfl
    rw [e1]
    refine ⟨(-2, I, L), ?_, rfl, H'⟩
    show F_X9_sew I L (Int32.ofNat k) b = _
    rw [hmod I L rfl rfl rfl rfl, if_pos e]
  obtain ⟨h2, w2, hC', f1, f2, f3, f4, f5, f6⟩ := hK.2 e
  have hC3 := hC'
  obtain ⟨⟨d1, d2⟩, d3, d4⟩ := hC3
  have en : ¬ bz (I (3 + k) 0) = 0 := by rw [e]; decide
  by_cases hb : b = 0
  · by_cases hs : h2 = h
    · subst hs
      have eX : sewB I L (Int32.ofNat k) b (3 + k) = F_X8_sew_57 I L (Int32.ofNat k) b (3 + k) := by
        unfold sewB
        rw [if_neg en, if_pos hb, if_pos (f1.trans c1.symm)]
      have eM : ∀ J : WI, ∀ K : WL, J 36 k = I 36 k → J 37 k = I 37 k → J 33 0 = I 33 0 → J 33 1 = I 33 1 → F_X9_sew J K (Int32.ofNat k) b = F_X9_sew_82 J K (Int32.ofNat k) b (Int32.ofNat (w + w2)) := by
        intro J K j1 j2 j3 j4
        rw [hmod J K j1 j2 j3 j4, if_neg en, if_pos hb, if_pos (f3.trans c3.symm)]
        unfold F_X9_sew_53
        rw [if_pos hb, if_neg hkk, hkc, j2, j4, f4, c4, oadd]
      by_cases hf : w + w2 ≤ 8
      · have hCn : Cl h2 (w + w2) := ⟨⟨b1, b2⟩, by omega, hf⟩
        have hx : ∀ q, M (L 1 3) q → q / 8 < h2 ∧ q % 8 < w + w2 := fun q hq => by have := c6 q hq; omega
        have hy : ∀ q, M (L (3 + k) 3) q → (q + w) / 8 < h2 ∧ (q + w) % 8 < w + w2 := fun q hq => by have := f6 q hq; omega
        generalize hX : L 1 3 ||| lsh (L (3 + k) 3) (Int32.ofNat w) = X
        have e1 : sewB I L (Int32.ofNat k) b (3 + k) = (F_J13_bitCount_95d88 X, F_X8_forgetPlans (u2 (u2 I 1 1 (Int32.ofNat h2)) 1 2 (Int32.ofNat (w + w2))), u2 L 1 3 X) := by
          rw [eX]
          unfold F_X8_sew_57 F_X8_sew_83 F_X8_sew_111
          rw [if_pos hb, if_pos hb, c1, c2, f2, oadd, if_neg (by first | omega | (simp (disch := omega) only [Int32.lt_iff_toInt_lt, Int32.le_iff_toInt_le, ← Int32.toInt_inj, on_toInt, on_clamp, ti64, z0, z1, z2, zm1, i0, i1, im1, zz3, zz4, zz5, zz6, zz7, zz8, zz9, zz10, zz11, zz12, zz13, zz14, zz15, zz16, zz17, zz18, zz19, zz20, zz21, zz22, zz23, zz24, zz25, zz26, zz27, zz28, zz29, zz30, zz31, zz32, zz33, zz34, zz35, zz36, zz37, zz38, zz39, zz40, zz41, zz48, zz60, zz64, zz160, zz312, zz320, zzm2, zzm3, zzm4, zzm5, zzm6, zzm7, zzm8, zzm9, zzm10]; done) | (simp (disch := omega) only [Int32.lt_iff_toInt_lt, Int32.le_iff_toInt_le, ← Int32.toInt_inj, on_toInt, on_clamp, ti64, z0, z1, z2, zm1, i0, i1, im1, zz3, zz4, zz5, zz6, zz7, zz8, zz9, zz10, zz11, zz12, zz13, zz14, zz15, zz16, zz17, zz18, zz19, zz20, zz21, zz22, zz23, zz24, zz25, zz26, zz27, zz28, zz29, zz30, zz31, zz32, zz33, zz34, zz35, zz36, zz37, zz38, zz39, zz40, zz41, zz48, zz60, zz64, zz160, zz312, zz320, zzm2, zzm3, zzm4, zzm5, zzm6, zzm7, zzm8, zzm9, zzm10]; omega)), if_pos (by first | omega | (simp (disch := omega) only [Int32.lt_iff_toInt_lt, Int32.le_iff_toInt_le, ← Int32.toInt_inj, on_toInt, on_clamp, ti64, z0, z1, z2, zm1, i0, i1, im1, zz3, zz4, zz5, zz6, zz7, zz8, zz9, zz10, zz11, zz12, zz13, zz14, zz15, zz16, zz17, zz18, zz19, zz20, zz21, zz22, zz23, zz24, zz25, zz26, zz27, zz28, zz29, zz30, zz31, zz32, zz33, zz34, zz35, zz36, zz37, zz38, zz39, zz40, zz41, zz48, zz60, zz64, zz160, zz312, zz320, zzm2, zzm3, zzm4, zzm5, zzm6, zzm7, zzm8, zzm9, zzm10]; done) | (simp (disch := omega) only [Int32.lt_iff_toInt_lt, Int32.le_iff_toInt_le, ← Int32.toInt_inj, on_toInt, on_clamp, ti64, z0, z1, z2, zm1, i0, i1, im1, zz3, zz4, zz5, zz6, zz7, zz8, zz9, zz10, zz11, zz12, zz13, zz14, zz15, zz16, zz17, zz18, zz19, zz20, zz21, zz22, zz23, zz24, zz25, zz26, zz27, zz28, zz29, zz30, zz31, zz32, zz33, zz34, zz35, zz36, zz37, zz38, zz39, zz40, zz41, zz48, zz60, zz64, zz160, zz312, zz320, zzm2, zzm3, zzm4, zzm5, zzm6, zzm7, zzm8, zzm9, zzm10]; omega)), if_pos hb]
          unfold F_X8_sew_158 F_X0_resize
          have e3 := sew_set (h := h2) (w := w) (h2 := h2) (w2 := w2) hCn (by omega) hx hy
          rw [allSquares_cq]
          show (F_X0_darkSquares (u2 L 1 3 ((L 1 3 ||| lsh (L (3 + k) 3) (Int32.ofNat w)) &&& (F_X0_allSquares (cq (Int32.ofNat h2) (Int32.ofNat (w + w2))) 1))) 1, F_X8_forgetPlans _, u2 L 1 3 ((L 1 3 ||| lsh (L (3 + k) 3) (Int32.ofNat w)) &&& (F_X0_allSquares (cq (Int32.ofNat h2) (Int32.ofNat (w + w2))) 1))) = _
          rw [e3, hX]
          rfl
        rw [e1]
        show ∃ w_1, F_X9_sew (F_X8_forgetPlans (u2 (u2 I 1 1 (Int32.ofNat h2)) 1 2 (Int32.ofNat (w + w2)))) (u2 L 1 3 X) (Int32.ofNat k) b = some w_1 ∧ _
        rw [eM (F_X8_forgetPlans (u2 (u2 I 1 1 (Int32.ofNat h2)) 1 2 (Int32.ofNat (w + w2)))) (u2 L 1 3 X) rfl rfl rfl rfl]
        refine ⟨(F_X9_many X, F_X9_endsPattern (u2 (u2 (F_X8_forgetPlans (u2 (u2 I 1 1 (Int32.ofNat h2)) 1 2 (Int32.ofNat (w + w2)))) 33 0 (Int32.ofNat h2)) 33 1 (Int32.ofNat (w + w2))), u2 (u2 L 1 3 X) 33 2 X), ?_, (many_bits X).symm, ?_⟩
        · unfold F_X9_sew_82
          rw [if_pos (by first | omega | (simp (disch := omega) only [Int32.lt_iff_toInt_lt, Int32.le_iff_toInt_le, ← Int32.toInt_inj, on_toInt, on_clamp, ti64, z0, z1, z2, zm1, i0, i1, im1, zz3, zz4, zz5, zz6, zz7, zz8, zz9, zz10, zz11, zz12, zz13, zz14, zz15, zz16, zz17, zz18, zz19, zz20, zz21, zz22, zz23, zz24, zz25, zz26, zz27, zz28, zz29, zz30, zz31, zz32, zz33, zz34, zz35, zz36, zz37, zz38, zz39, zz40, zz41, zz48, zz60, zz64, zz160, zz312, zz320, zzm2, zzm3, zzm4, zzm5, zzm6, zzm7, zzm8, zzm9, zzm10]; done) | (simp (disch := omega) only [Int32.lt_iff_toInt_lt, Int32.le_iff_toInt_le, ← Int32.toInt_inj, on_toInt, on_clamp, ti64, z0, z1, z2, zm1, i0, i1, im1, zz3, zz4, zz5, zz6, zz7, zz8, zz9, zz10, zz11, zz12, zz13, zz14, zz15, zz16, zz17, zz18, zz19, zz20, zz21, zz22, zz23, zz24, zz25, zz26, zz27, zz28, zz29, zz30, zz31, zz32, zz33, zz34, zz35, zz36, zz37, zz38, zz39, zz40, zz41, zz48, zz60, zz64, zz160, zz312, zz320, zzm2, zzm3, zzm4, zzm5, zzm6, zzm7, zzm8, zzm9, zzm10]; omega)), if_neg hkk, if_pos hb, hkc]
          unfold F_X9_sew_119
          rw [if_pos hb]
          unfold F_X9_sew_143
          rw [if_pos hb, if_neg hkk, hkc]
          have e4 : (u2 L 1 3 X) 33 2 ||| lsh ((u2 L 1 3 X) 35 k) ((F_X8_forgetPlans (u2 (u2 I 1 1 (Int32.ofNat h2)) 1 2 (Int32.ofNat (w + w2)))) 33 1) = X := by
            rw [← hX]
            show L 33 2 ||| lsh (L 35 k) (I 33 1) = _
            rw [c5, f5, c4]
          rw [e4]
          have e5 : ((F_X8_forgetPlans (u2 (u2 I 1 1 (Int32.ofNat h2)) 1 2 (Int32.ofNat (w + w2)))) 33 0 + 0) = Int32.ofNat h2 := by
            show I 33 0 + 0 = _
            rw [c3, Int32.add_zero]
          rw [e5]
          unfold F_X9_sew_166
          have e6 : (u2 (F_X8_forgetPlans (u2 (u2 I 1 1 (Int32.ofNat h2)) 1 2 (Int32.ofNat (w + w2)))) 33 0 (Int32.ofNat h2)) 33 1 + (u2 (F_X8_forgetPlans (u2 (u2 I 1 1 (Int32.ofNat h2)) 1 2 (Int32.ofNat (w + w2)))) 33 0 (Int32.ofNat h2)) 37 k = Int32.ofNat (w + w2) := by
            show I 33 1 + I 37 k = _
            rw [c4, f4, oadd]
          rw [e6]
          rfl
        · obtain ⟨g1, g2, g3, g4, g5⟩ := q1
          exact ⟨⟨h2, w + w2, ⟨hCn, rfl, rfl, rfl, rfl, rfl, hX ▸ sew_ins (by omega) hx hy, c7⟩, ⟨g1, g2, g3, g4, g5.1, fun q => absurd (show bz 0 = 1 from q) bz0_ne⟩, rfl, fun q => absurd (show bz 0 = 1 from q) bz0_ne⟩, k0, k1, ⟨0, by decide, rfl, rfl, fun d hd => absurd hd (by omega)⟩, h4, four h5 id id id id, h6⟩
      · have e1 : sewB I L (Int32.ofNat k) b (3 + k) = (-3, I, L) := by
          rw [eX]
          unfold F_X8_sew_57 F_X8_sew_83 F_X8_sew_111 F_X8_sew_127
          rw [if_pos hb, if_pos hb, c1, c2, f2, oadd, if_neg (by first | omega | (simp (disch := omega) only [Int32.lt_iff_toInt_lt, Int32.le_iff_toInt_le, ← Int32.toInt_inj, on_toInt, on_clamp, ti64, z0, z1, z2, zm1, i0, i1, im1, zz3, zz4, zz5, zz6, zz7, zz8, zz9, zz10, zz11, zz12, zz13, zz14, zz15, zz16, zz17, zz18, zz19, zz20, zz21, zz22, zz23, zz24, zz25, zz26, zz27, zz28, zz29, zz30, zz31, zz32, zz33, zz34, zz35, zz36, zz37, zz38, zz39, zz40, zz41, zz48, zz60, zz64, zz160, zz312, zz320, zzm2, zzm3, zzm4, zzm5, zzm6, zzm7, zzm8, zzm9, zzm10]; done) | (simp (disch := omega) only [Int32.lt_iff_toInt_lt, Int32.le_iff_toInt_le, ← Int32.toInt_inj, on_toInt, on_clamp, ti64, z0, z1, z2, zm1, i0, i1, im1, zz3, zz4, zz5, zz6, zz7, zz8, zz9, zz10, zz11, zz12, zz13, zz14, zz15, zz16, zz17, zz18, zz19, zz20, zz21, zz22, zz23, zz24, zz25, zz26, zz27, zz28, zz29, zz30, zz31, zz32, zz33, zz34, zz35, zz36, zz37, zz38, zz39, zz40, zz41, zz48, zz60, zz64, zz160, zz312, zz320, zzm2, zzm3, zzm4, zzm5, zzm6, zzm7, zzm8, zzm9, zzm10]; omega)), if_neg (by first | omega | (simp (disch := omega) only [Int32.lt_iff_toInt_lt, Int32.le_iff_toInt_le, ← Int32.toInt_inj, on_toInt, on_clamp, ti64, z0, z1, z2, zm1, i0, i1, im1, zz3, zz4, zz5, zz6, zz7, zz8, zz9, zz10, zz11, zz12, zz13, zz14, zz15, zz16, zz17, zz18, zz19, zz20, zz21, zz22, zz23, zz24, zz25, zz26, zz27, zz28, zz29, zz30, zz31, zz32, zz33, zz34, zz35, zz36, zz37, zz38, zz39, zz40, zz41, zz48, zz60, zz64, zz160, zz312, zz320, zzm2, zzm3, zzm4, zzm5, zzm6, zzm7, zzm8, zzm9, zzm10]; done) | (simp (disch := omega) only [Int32.lt_iff_toInt_lt, Int32.le_iff_toInt_le, ← Int32.toInt_inj, on_toInt, on_clamp, ti64, z0, z1, z2, zm1, i0, i1, im1, zz3, zz4, zz5, zz6, zz7, zz8, zz9, zz10, zz11, zz12, zz13, zz14, zz15, zz16, zz17, zz18, zz19, zz20, zz21, zz22, zz23, zz24, zz25, zz26, zz27, zz28, zz29, zz30, zz31, zz32, zz33, zz34, zz35, zz36, zz37, zz38, zz39, zz40, zz41, zz48, zz60, zz64, zz160, zz312, zz320, zzm2, zzm3, zzm4, zzm5, zzm6, zzm7, zzm8, zzm9, zzm10]; omega))]
        rw [e1]
        refine ⟨(-3, I, L), ?_, rfl, H'⟩
        show F_X9_sew I L (Int32.ofNat k) b = _
        rw [eM I L rfl rfl rfl rfl]
        unfold F_X9_sew_82
        rw [if_neg (by first | omega | (simp (disch := omega) only [Int32.lt_iff_toInt_lt, Int32.le_iff_toInt_le, ← Int32.toInt_inj, on_toInt, on_clamp, ti64, z0, z1, z2, zm1, i0, i1, im1, zz3, zz4, zz5, zz6, zz7, zz8, zz9, zz10, zz11, zz12, zz13, zz14, zz15, zz16, zz17, zz18, zz19, zz20, zz21, zz22, zz23, zz24, zz25, zz26, zz27, zz28, zz29, zz30, zz31, zz32, zz33, zz34, zz35, zz36, zz37, zz38, zz39, zz40, zz41, zz48, zz60, zz64, zz160, zz312, zz320, zzm2, zzm3, zzm4, zzm5, zzm6, zzm7, zzm8, zzm9, zzm10]; done) | (simp (disch := omega) only [Int32.lt_iff_toInt_lt, Int32.le_iff_toInt_le, ← Int32.toInt_inj, on_toInt, on_clamp, ti64, z0, z1, z2, zm1, i0, i1, im1, zz3, zz4, zz5, zz6, zz7, zz8, zz9, zz10, zz11, zz12, zz13, zz14, zz15, zz16, zz17, zz18, zz19, zz20, zz21, zz22, zz23, zz24, zz25, zz26, zz27, zz28, zz29, zz30, zz31, zz32, zz33, zz34, zz35, zz36, zz37, zz38, zz39, zz40, zz41, zz48, zz60, zz64, zz160, zz312, zz320, zzm2, zzm3, zzm4, zzm5, zzm6, zzm7, zzm8, zzm9, zzm10]; omega))]
    · have hs1 : ¬ I (3 + k) 1 = I 1 1 := fun q => hs (on_inj (by omega) (by omega) (f1.symm.trans (q.trans c1)))
      have hs2 : ¬ I 36 k = I 33 0 := fun q => hs (on_inj (by omega) (by omega) (f3.symm.trans (q.trans c3)))
      have e1 : sewB I L (Int32.ofNat k) b (3 + k) = (-2, I, L) := by
        unfold sewB
        rw [if_neg en, if_pos hb, if_neg hs1]
        rfl
      rw [e1]
      refine ⟨(-2, I, L), ?_, rfl, H'⟩
      show F_X9_sew I L (Int32.ofNat k) b = _
      rw [hmod I L rfl rfl rfl rfl, if_neg en, if_pos hb, if_neg hs2]
  · by_cases hs : w2 = w
    · subst hs
      have eX : sewB I L (Int32.ofNat k) b (3 + k) = F_X8_sew_57 I L (Int32.ofNat k) b (3 + k) := by
        unfold sewB
        rw [if_neg en, if_neg hb, if_pos (f2.trans c2.symm)]
      have eM : ∀ J : WI, ∀ K : WL, J 36 k = I 36 k → J 37 k = I 37 k → J 33 0 = I 33 0 → J 33 1 = I 33 1 → F_X9_sew J K (Int32.ofNat k) b = F_X9_sew_82 J K (Int32.ofNat k) b (Int32.ofNat (h + h2)) := by
        intro J K j1 j2 j3 j4
        rw [hmod J K j1 j2 j3 j4, if_neg en, if_neg hb, if_pos (f4.trans c4.symm)]
        unfold F_X9_sew_53
        rw [if_neg hb, if_neg hkk, hkc, j1, j3, f3, c3, oadd]
      by_cases hf : h + h2 ≤ 8
      · have hCn : Cl (h + h2) w2 := ⟨⟨by omega, hf⟩, b3, b4⟩
        have hx : ∀ q, M (L 1 3) q → q / 8 < h + h2 ∧ q % 8 < w2 := fun q hq => by have := c6 q hq; omega
        have hy : ∀ q, M (L (3 + k) 3) q → (q + 8 * h) / 8 < h + h2 ∧ (q + 8 * h) % 8 < w2 := fun q hq => by have := f6 q hq; omega
        generalize hX : L 1 3 ||| lsh (L (3 + k) 3) (Int32.ofNat (8 * h)) = X
        have e1 : sewB I L (Int32.ofNat k) b (3 + k) = (F_J13_bitCount_95d88 X, F_X8_forgetPlans (u2 (u2 I 1 1 (Int32.ofNat (h + h2))) 1 2 (Int32.ofNat w2)), u2 L 1 3 X) := by
          rw [eX]
          unfold F_X8_sew_57 F_X8_sew_83 F_X8_sew_111
          rw [if_neg hb, if_neg hb, c1, c2, f1, oadd, if_neg (by first | omega | (simp (disch := omega) only [Int32.lt_iff_toInt_lt, Int32.le_iff_toInt_le, ← Int32.toInt_inj, on_toInt, on_clamp, ti64, z0, z1, z2, zm1, i0, i1, im1, zz3, zz4, zz5, zz6, zz7, zz8, zz9, zz10, zz11, zz12, zz13, zz14, zz15, zz16, zz17, zz18, zz19, zz20, zz21, zz22, zz23, zz24, zz25, zz26, zz27, zz28, zz29, zz30, zz31, zz32, zz33, zz34, zz35, zz36, zz37, zz38, zz39, zz40, zz41, zz48, zz60, zz64, zz160, zz312, zz320, zzm2, zzm3, zzm4, zzm5, zzm6, zzm7, zzm8, zzm9, zzm10]; done) | (simp (disch := omega) only [Int32.lt_iff_toInt_lt, Int32.le_iff_toInt_le, ← Int32.toInt_inj, on_toInt, on_clamp, ti64, z0, z1, z2, zm1, i0, i1, im1, zz3, zz4, zz5, zz6, zz7, zz8, zz9, zz10, zz11, zz12, zz13, zz14, zz15, zz16, zz17, zz18, zz19, zz20, zz21, zz22, zz23, zz24, zz25, zz26, zz27, zz28, zz29, zz30, zz31, zz32, zz33, zz34, zz35, zz36, zz37, zz38, zz39, zz40, zz41, zz48, zz60, zz64, zz160, zz312, zz320, zzm2, zzm3, zzm4, zzm5, zzm6, zzm7, zzm8, zzm9, zzm10]; omega)), if_pos (by first | omega | (simp (disch := omega) only [Int32.lt_iff_toInt_lt, Int32.le_iff_toInt_le, ← Int32.toInt_inj, on_toInt, on_clamp, ti64, z0, z1, z2, zm1, i0, i1, im1, zz3, zz4, zz5, zz6, zz7, zz8, zz9, zz10, zz11, zz12, zz13, zz14, zz15, zz16, zz17, zz18, zz19, zz20, zz21, zz22, zz23, zz24, zz25, zz26, zz27, zz28, zz29, zz30, zz31, zz32, zz33, zz34, zz35, zz36, zz37, zz38, zz39, zz40, zz41, zz48, zz60, zz64, zz160, zz312, zz320, zzm2, zzm3, zzm4, zzm5, zzm6, zzm7, zzm8, zzm9, zzm10]; done) | (simp (disch := omega) only [Int32.lt_iff_toInt_lt, Int32.le_iff_toInt_le, ← Int32.toInt_inj, on_toInt, on_clamp, ti64, z0, z1, z2, zm1, i0, i1, im1, zz3, zz4, zz5, zz6, zz7, zz8, zz9, zz10, zz11, zz12, zz13, zz14, zz15, zz16, zz17, zz18, zz19, zz20, zz21, zz22, zz23, zz24, zz25, zz26, zz27, zz28, zz29, zz30, zz31, zz32, zz33, zz34, zz35, zz36, zz37, zz38, zz39, zz40, zz41, zz48, zz60, zz64, zz160, zz312, zz320, zzm2, zzm3, zzm4, zzm5, zzm6, zzm7, zzm8, zzm9, zzm10]; omega)), if_neg hb]
          unfold F_X8_sew_158 F_X0_resize
          have e3 := sew_set (h := h) (w := w2) (h2 := h2) (w2 := w2) hCn (by omega) hx hy
          rw [allSquares_cq, lm8]
          show (F_X0_darkSquares (u2 L 1 3 ((L 1 3 ||| lsh (L (3 + k) 3) (Int32.ofNat (8 * h))) &&& (F_X0_allSquares (cq (Int32.ofNat (h + h2)) (Int32.ofNat w2)) 1))) 1, F_X8_forgetPlans _, u2 L 1 3 ((L 1 3 ||| lsh (L (3 + k) 3) (Int32.ofNat (8 * h))) &&& (F_X0_allSquares (cq (Int32.ofNat (h + h2)) (Int32.ofNat w2)) 1))) = _
          rw [e3, hX]
          rfl
        rw [e1]
        show ∃ w_1, F_X9_sew (F_X8_forgetPlans (u2 (u2 I 1 1 (Int32.ofNat (h + h2))) 1 2 (Int32.ofNat w2))) (u2 L 1 3 X) (Int32.ofNat k) b = some w_1 ∧ _
        rw [eM (F_X8_forgetPlans (u2 (u2 I 1 1 (Int32.ofNat (h + h2))) 1 2 (Int32.ofNat w2))) (u2 L 1 3 X) rfl rfl rfl rfl]
        refine ⟨(F_X9_many X, F_X9_endsPattern (u2 (u2 (F_X8_forgetPlans (u2 (u2 I 1 1 (Int32.ofNat (h + h2))) 1 2 (Int32.ofNat w2))) 33 0 (Int32.ofNat (h + h2))) 33 1 (Int32.ofNat w2)), u2 (u2 L 1 3 X) 33 2 X), ?_, (many_bits X).symm, ?_⟩
        · unfold F_X9_sew_82
          rw [if_pos (by first | omega | (simp (disch := omega) only [Int32.lt_iff_toInt_lt, Int32.le_iff_toInt_le, ← Int32.toInt_inj, on_toInt, on_clamp, ti64, z0, z1, z2, zm1, i0, i1, im1, zz3, zz4, zz5, zz6, zz7, zz8, zz9, zz10, zz11, zz12, zz13, zz14, zz15, zz16, zz17, zz18, zz19, zz20, zz21, zz22, zz23, zz24, zz25, zz26, zz27, zz28, zz29, zz30, zz31, zz32, zz33, zz34, zz35, zz36, zz37, zz38, zz39, zz40, zz41, zz48, zz60, zz64, zz160, zz312, zz320, zzm2, zzm3, zzm4, zzm5, zzm6, zzm7, zzm8, zzm9, zzm10]; done) | (simp (disch := omega) only [Int32.lt_iff_toInt_lt, Int32.le_iff_toInt_le, ← Int32.toInt_inj, on_toInt, on_clamp, ti64, z0, z1, z2, zm1, i0, i1, im1, zz3, zz4, zz5, zz6, zz7, zz8, zz9, zz10, zz11, zz12, zz13, zz14, zz15, zz16, zz17, zz18, zz19, zz20, zz21, zz22, zz23, zz24, zz25, zz26, zz27, zz28, zz29, zz30, zz31, zz32, zz33, zz34, zz35, zz36, zz37, zz38, zz39, zz40, zz41, zz48, zz60, zz64, zz160, zz312, zz320, zzm2, zzm3, zzm4, zzm5, zzm6, zzm7, zzm8, zzm9, zzm10]; omega)), if_neg hkk, if_neg hb, hkc]
          unfold F_X9_sew_119
          rw [if_neg hb, if_neg hkk, hkc]
          unfold F_X9_sew_143
          rw [if_neg hb]
          have e4 : (u2 L 1 3 X) 33 2 ||| lsh ((u2 L 1 3 X) 35 k) (8 * (F_X8_forgetPlans (u2 (u2 I 1 1 (Int32.ofNat (h + h2))) 1 2 (Int32.ofNat w2))) 33 0) = X := by
            rw [← hX]
            show L 33 2 ||| lsh (L 35 k) (8 * I 33 0) = _
            rw [c5, f5, c3, lm8]
          rw [e4]
          have e5 : ((F_X8_forgetPlans (u2 (u2 I 1 1 (Int32.ofNat (h + h2))) 1 2 (Int32.ofNat w2))) 33 0 + (F_X8_forgetPlans (u2 (u2 I 1 1 (Int32.ofNat (h + h2))) 1 2 (Int32.ofNat w2))) 36 k) = Int32.ofNat (h + h2) := by
            show I 33 0 + I 36 k = _
            rw [c3, f3, oadd]
          rw [e5]
          unfold F_X9_sew_166
          have e6 : (u2 (F_X8_forgetPlans (u2 (u2 I 1 1 (Int32.ofNat (h + h2))) 1 2 (Int32.ofNat w2))) 33 0 (Int32.ofNat (h + h2))) 33 1 + 0 = Int32.ofNat w2 := by
            show I 33 1 + 0 = _
            rw [c4, Int32.add_zero]
          rw [e6]
          rfl
        · obtain ⟨g1, g2, g3, g4, g5⟩ := q1
          exact ⟨⟨h + h2, w2, ⟨hCn, rfl, rfl, rfl, rfl, rfl, hX ▸ sew_ins (by omega) hx hy, c7⟩, ⟨g1, g2, g3, g4, g5.1, fun q => absurd (show bz 0 = 1 from q) bz0_ne⟩, rfl, fun q => absurd (show bz 0 = 1 from q) bz0_ne⟩, k0, k1, ⟨0, by decide, rfl, rfl, fun d hd => absurd hd (by omega)⟩, h4, four h5 id id id id, h6⟩
      · have e1 : sewB I L (Int32.ofNat k) b (3 + k) = (-3, I, L) := by
          rw [eX]
          unfold F_X8_sew_57 F_X8_sew_83 F_X8_sew_111 F_X8_sew_127
          rw [if_neg hb, if_neg hb, c1, c2, f1, oadd, if_pos (by first | omega | (simp (disch := omega) only [Int32.lt_iff_toInt_lt, Int32.le_iff_toInt_le, ← Int32.toInt_inj, on_toInt, on_clamp, ti64, z0, z1, z2, zm1, i0, i1, im1, zz3, zz4, zz5, zz6, zz7, zz8, zz9, zz10, zz11, zz12, zz13, zz14, zz15, zz16, zz17, zz18, zz19, zz20, zz21, zz22, zz23, zz24, zz25, zz26, zz27, zz28, zz29, zz30, zz31, zz32, zz33, zz34, zz35, zz36, zz37, zz38, zz39, zz40, zz41, zz48, zz60, zz64, zz160, zz312, zz320, zzm2, zzm3, zzm4, zzm5, zzm6, zzm7, zzm8, zzm9, zzm10]; done) | (simp (disch := omega) only [Int32.lt_iff_toInt_lt, Int32.le_iff_toInt_le, ← Int32.toInt_inj, on_toInt, on_clamp, ti64, z0, z1, z2, zm1, i0, i1, im1, zz3, zz4, zz5, zz6, zz7, zz8, zz9, zz10, zz11, zz12, zz13, zz14, zz15, zz16, zz17, zz18, zz19, zz20, zz21, zz22, zz23, zz24, zz25, zz26, zz27, zz28, zz29, zz30, zz31, zz32, zz33, zz34, zz35, zz36, zz37, zz38, zz39, zz40, zz41, zz48, zz60, zz64, zz160, zz312, zz320, zzm2, zzm3, zzm4, zzm5, zzm6, zzm7, zzm8, zzm9, zzm10]; omega))]
        rw [e1]
        refine ⟨(-3, I, L), ?_, rfl, H'⟩
        show F_X9_sew I L (Int32.ofNat k) b = _
        rw [eM I L rfl rfl rfl rfl]
        unfold F_X9_sew_82
        rw [if_neg (by first | omega | (simp (disch := omega) only [Int32.lt_iff_toInt_lt, Int32.le_iff_toInt_le, ← Int32.toInt_inj, on_toInt, on_clamp, ti64, z0, z1, z2, zm1, i0, i1, im1, zz3, zz4, zz5, zz6, zz7, zz8, zz9, zz10, zz11, zz12, zz13, zz14, zz15, zz16, zz17, zz18, zz19, zz20, zz21, zz22, zz23, zz24, zz25, zz26, zz27, zz28, zz29, zz30, zz31, zz32, zz33, zz34, zz35, zz36, zz37, zz38, zz39, zz40, zz41, zz48, zz60, zz64, zz160, zz312, zz320, zzm2, zzm3, zzm4, zzm5, zzm6, zzm7, zzm8, zzm9, zzm10]; done) | (simp (disch := omega) only [Int32.lt_iff_toInt_lt, Int32.le_iff_toInt_le, ← Int32.toInt_inj, on_toInt, on_clamp, ti64, z0, z1, z2, zm1, i0, i1, im1, zz3, zz4, zz5, zz6, zz7, zz8, zz9, zz10, zz11, zz12, zz13, zz14, zz15, zz16, zz17, zz18, zz19, zz20, zz21, zz22, zz23, zz24, zz25, zz26, zz27, zz28, zz29, zz30, zz31, zz32, zz33, zz34, zz35, zz36, zz37, zz38, zz39, zz40, zz41, zz48, zz60, zz64, zz160, zz312, zz320, zzm2, zzm3, zzm4, zzm5, zzm6, zzm7, zzm8, zzm9, zzm10]; omega))]
    · have hs1 : ¬ I (3 + k) 2 = I 1 2 := fun q => hs (on_inj (by omega) (by omega) (f2.symm.trans (q.trans c2)))
      have hs2 : ¬ I 37 k = I 33 1 := fun q => hs (on_inj (by omega) (by omega) (f4.symm.trans (q.trans c4)))
      have e1 : sewB I L (Int32.ofNat k) b (3 + k) = (-2, I, L) := by
        unfold sewB
        rw [if_neg en, if_neg hb, if_neg hs1]
        rfl
      rw [e1]
      refine ⟨(-2, I, L), ?_, rfl, H'⟩
      show F_X9_sew I L (Int32.ofNat k) b = _
      rw [hmod I L rfl rfl rfl rfl, if_neg en, if_neg hb, if_neg hs2]
theorem E_28 {I : WI} {L : WL} {a1 a2 : Int32} (H : Inv I L) : ∃ w, (F_X9_sew (p1 (p2 (F_X8_sew I L a1 (nz a2)))) (p2 (p2 (F_X8_sew I L a1 (nz a2)))) a1 (nz a2)) = some w ∧ (p1 (F_X8_sew I L a1 (nz a2))) = (p1 w) ∧ Inv (p1 (p2 w)) (p2 (p2 w)) := by
  generalize nz a2 = b
  by_cases c : 0 ≤ a1.toInt ∧ a1.toInt ≤ 1
  · rcases im_in c with rfl | rfl
    · have e : F_X8_sew I L 0 b = sewB I L (Int32.ofNat 0) b (3 + 0) := by
        unfold F_X8_sew
        rw [if_pos rfl]
        rfl
      rw [e]
      exact sew_k (by decide) H H.2.1
    · have e : F_X8_sew I L 1 b = sewB I L (Int32.ofNat 1) b (3 + 1) := by
        unfold F_X8_sew
        rw [if_neg (by decide), if_pos rfl]
        rfl
      rw [e]
      exact sew_k (by decide) H H.2.2.1
  · obtain ⟨n0, n1⟩ := im_out2 c
    have e1 : F_X8_sew I L a1 b = (-1, I, L) := by
      unfold F_X8_sew
      rw [if_neg n0, if_neg n1]
    rw [e1]
    show ∃ w, F_X9_sew I L a1 b = some w ∧ _
    unfold F_X9_sew
    rw [isImage_eq, if_neg c]
    exact ⟨_, rfl, rfl, H⟩
