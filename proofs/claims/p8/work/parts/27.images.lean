/-! images; cut, sewn -/
theorem bz0_ne : ¬ bz 0 = 1 := by decide
theorem isImage_eq (a : Int32) : F_X9_isImage a = some (if 0 ≤ a.toInt ∧ a.toInt ≤ 1 then 1 else 0) := by
  unfold F_X9_isImage
  rw [in_eq, i0, i1]
  split <;> rfl
theorem kept_val {I : WI} {k : Nat} (hk : k < 2) : F_X9_isKept I (Int32.ofNat k) = some (if (I 36 k).toInt ≤ 0 then 0 else 1) := by
  unfold F_X9_isKept F_X9_isKept_14
  rw [if_neg (nin (k := k) hk (by decide)), on_clamp (by omega)]
  by_cases c : (I 36 k).toInt ≤ 0
  · rw [if_pos (by first | omega | (simp (disch := omega) only [Int32.lt_iff_toInt_lt, Int32.le_iff_toInt_le, ← Int32.toInt_inj, on_toInt, on_clamp, ti64, z0, z1, z2, zm1, i0, i1, im1, zz3, zz4, zz5, zz6, zz7, zz8, zz9, zz10, zz11, zz12, zz13, zz14, zz15, zz16, zz17, zz18, zz19, zz20, zz21, zz22, zz23, zz24, zz25, zz26, zz27, zz28, zz29, zz30, zz31, zz32, zz33, zz34, zz35, zz36, zz37, zz38, zz39, zz40, zz41, zz48, zz60, zz64, zz160, zz312, zz320, zzm2, zzm3, zzm4, zzm5, zzm6, zzm7, zzm8, zzm9, zzm10]; done) | (simp (disch := omega) only [Int32.lt_iff_toInt_lt, Int32.le_iff_toInt_le, ← Int32.toInt_inj, on_toInt, on_clamp, ti64, z0, z1, z2, zm1, i0, i1, im1, zz3, zz4, zz5, zz6, zz7, zz8, zz9, zz10, zz11, zz12, zz13, zz14, zz15, zz16, zz17, zz18, zz19, zz20, zz21, zz22, zz23, zz24, zz25, zz26, zz27, zz28, zz29, zz30, zz31, zz32, zz33, zz34, zz35, zz36, zz37, zz38, zz39, zz40, zz41, zz48, zz60, zz64, zz160, zz312, zz320, zzm2, zzm3, zzm4, zzm5, zzm6, zzm7, zzm8, zzm9, zzm10]; omega)), if_pos c]
  · rw [if_neg (by first | omega | (simp (disch := omega) only [Int32.lt_iff_toInt_lt, Int32.le_iff_toInt_le, ← Int32.toInt_inj, on_toInt, on_clamp, ti64, z0, z1, z2, zm1, i0, i1, im1, zz3, zz4, zz5, zz6, zz7, zz8, zz9, zz10, zz11, zz12, zz13, zz14, zz15, zz16, zz17, zz18, zz19, zz20, zz21, zz22, zz23, zz24, zz25, zz26, zz27, zz28, zz29, zz30, zz31, zz32, zz33, zz34, zz35, zz36, zz37, zz38, zz39, zz40, zz41, zz48, zz60, zz64, zz160, zz312, zz320, zzm2, zzm3, zzm4, zzm5, zzm6, zzm7, zzm8, zzm9, zzm10]; done) | (simp (disch := omega) only [Int32.lt_iff_toInt_lt, Int32.le_iff_toInt_le, ← Int32.toInt_inj, on_toInt, on_clamp, ti64, z0, z1, z2, zm1, i0, i1, im1, zz3, zz4, zz5, zz6, zz7, zz8, zz9, zz10, zz11, zz12, zz13, zz14, zz15, zz16, zz17, zz18, zz19, zz20, zz21, zz22, zz23, zz24, zz25, zz26, zz27, zz28, zz29, zz30, zz31, zz32, zz33, zz34, zz35, zz36, zz37, zz38, zz39, zz40, zz41, zz48, zz60, zz64, zz160, zz312, zz320, zzm2, zzm3, zzm4, zzm5, zzm6, zzm7, zzm8, zzm9, zzm10]; omega)), if_neg c]
theorem im_out2 {a : Int32} (h : ¬ (0 ≤ a.toInt ∧ a.toInt ≤ 1)) : a ≠ 0 ∧ a ≠ 1 := ⟨fun e => h (by rw [e, z0]; omega), fun e => h (by rw [e, z1]; omega)⟩
theorem im_in {a : Int32} (h : 0 ≤ a.toInt ∧ a.toInt ≤ 1) : a = 0 ∨ a = 1 := by
  obtain ⟨n, rfl, hn, -⟩ := nn h.1
  rcases (show n = 0 ∨ n = 1 by omega) with rfl | rfl
  · exact .inl rfl
  · exact .inr rfl
theorem flag_01 (x : Int32) (h : x = 0 ∨ x = 1) : F_X9_flag x = x := by rcases h with rfl | rfl <;> rfl
theorem kept_bz {I : WI} {L : WL} {k : Nat} (H : InvK I L k) : (if (I 36 k).toInt ≤ 0 then (0 : Int32) else 1) = bz (I (3 + k) 0) := by
  rcases bz01 (I (3 + k) 0) with e | e
  · rw [if_pos (H.1 e), e]
  · obtain ⟨h, w, ⟨⟨h1, h2⟩, h3, h4⟩, -, -, g, -⟩ := H.2 e
    rw [g, on_toInt (by omega), if_neg (by omega), e]
theorem E_31 {I : WI} {L : WL} {a1 : Int32} (H : Inv I L) : ∃ w, (F_X9_keep (p1 (p2 (F_X8_keep I L a1))) (p2 (p2 (F_X8_keep I L a1))) a1) = some w ∧ (p1 (F_X8_keep I L a1)) = (p1 w) ∧ Inv (p1 (p2 w)) (p2 (p2 w)) := by
  have H' := H
  obtain ⟨⟨h, w, ⟨hC, c1, c2, c3, c4, c5, c6, c7⟩, h2⟩, k0, k1, h3, h4, h5, h6⟩ := H
  by_cases c : 0 ≤ a1.toInt ∧ a1.toInt ≤ 1
  · rcases im_in c with rfl | rfl
    · have e1 : F_X8_keep I L 0 = (bz (I 3 0), p1 (F_X0_become I L 3 1), p2 (F_X0_become I L 3 1)) := by
        unfold F_X8_keep F_X8_keep_24
        rw [if_pos rfl]
        rcases bz01 (I 3 0) with e | e <;> rw [e] <;> rfl
      rw [e1]
      show ∃ w, F_X9_keep (p1 (F_X0_become I L 3 1)) (p2 (F_X0_become I L 3 1)) 0 = some w ∧ bz (I 3 0) = p1 w ∧ Inv (p1 (p2 w)) (p2 (p2 w))
      unfold F_X9_keep
      rw [isImage_eq, if_pos (by decide), show (0 : Int32) = Int32.ofNat 0 from rfl, kept_val (by decide), show (p1 (F_X0_become I L 3 1)) 36 0 = I 36 0 from rfl, kept_bz k0]
      refine ⟨_, rfl, (flag_01 _ (bz01 _)).symm, ?_⟩
      exact ⟨⟨h, w, ⟨hC, c1, c2, c3, c4, c5, c6, c7⟩, h2⟩, ⟨fun q => by
        have q : bz (bz (I 1 0)) = 0 := q
        rw [bz_bz, c7] at q
        exact absurd q (by decide), fun _ => ⟨h, w, hC, c1, c2, c3, c4, c5, c6⟩⟩, k1, h3, h4, four h5 id id id id, h6⟩
    · have e1 : F_X8_keep I L 1 = (bz (I 4 0), p1 (F_X0_become I L 4 1), p2 (F_X0_become I L 4 1)) := by
        unfold F_X8_keep F_X8_keep_24
        rw [if_neg (by decide), if_pos rfl]
        rcases bz01 (I 4 0) with e | e <;> rw [e] <;> rfl
      rw [e1]
      show ∃ w, F_X9_keep (p1 (F_X0_become I L 4 1)) (p2 (F_X0_become I L 4 1)) 1 = some w ∧ bz (I 4 0) = p1 w ∧ Inv (p1 (p2 w)) (p2 (p2 w))
      unfold F_X9_keep
      rw [isImage_eq, if_pos (by decide), show (1 : Int32) = Int32.ofNat 1 from rfl, kept_val (by decide), show (p1 (F_X0_become I L 4 1)) 36 1 = I 36 1 from rfl, kept_bz k1]
      refine ⟨_, rfl, (flag_01 _ (bz01 _)).symm, ?_⟩
      exact ⟨⟨h, w, ⟨hC, c1, c2, c3, c4, c5, c6, c7⟩, h2⟩, k0, ⟨fun q => by
        have q : bz (bz (I 1 0)) = 0 := q
        rw [bz_bz, c7] at q
        exact absurd q (by decide), fun _ => ⟨h, w, hC, c1, c2, c3, c4, c5, c6⟩⟩, h3, h4, four h5 id id id id, h6⟩
  · obtain ⟨n0, n1⟩ := im_out2 c
    have e1 : F_X8_keep I L a1 = (-1, I, L) := by
      unfold F_X8_keep
      rw [if_neg n0, if_neg n1]
    rw [e1]
    show ∃ w, F_X9_keep I L a1 = some w ∧ _
    unfold F_X9_keep
    rw [isImage_eq, if_neg c]
    exact ⟨_, rfl, rfl, H'⟩
theorem ofSize_val {I : WI} {k : Nat} (hk : k < 2) : F_X9_isOfSize I (Int32.ofNat k) = some (if (I 36 k) = (I 33 0) ∧ (I 37 k) = (I 33 1) then 1 else 0) := by
  unfold F_X9_isOfSize F_X9_isOfSize_30 F_X9_isOfSize_31
  rw [if_neg (nin (k := k) hk (by decide)), if_neg (nin (k := k) hk (by decide)), on_clamp (by omega)]
  by_cases c1 : I 36 k = I 33 0
  · rw [if_pos c1]
    by_cases c2 : I 37 k = I 33 1
    · rw [if_pos c2, if_pos ⟨c1, c2⟩]
    · rw [if_neg c2, if_neg fun h => c2 h.2]
  · rw [if_neg c1, if_neg fun h => c1 h.1]
theorem same_val {I : WI} {o r : Nat} : F_X0_sameSize I o r = if (I o 1) = (I r 1) ∧ (I o 2) = (I r 2) then 1 else 0 := by
  unfold F_X0_sameSize F_X0_sameSize_26 F_X0_sameSize_27
  by_cases c1 : I o 1 = I r 1
  · rw [if_pos c1]
    by_cases c2 : I o 2 = I r 2
    · rw [if_pos c2, if_pos ⟨c1, c2⟩]
    · rw [if_neg c2, if_neg fun h => c2 h.2]
  · rw [if_neg c1, if_neg fun h => c1 h.1]
theorem E_32 {I : WI} {L : WL} {a1 : Int32} (H : Inv I L) : ∃ w, (F_X9_back (p1 (p2 (F_X8_back I L a1))) (p2 (p2 (F_X8_back I L a1))) a1) = some w ∧ (p1 (F_X8_back I L a1)) = (p1 w) ∧ Inv (p1 (p2 w)) (p2 (p2 w)) := by
  have H' := H
  obtain ⟨⟨h, w, ⟨hC, c1, c2, c3, c4, c5, c6, c7⟩, h2⟩, k0, k1, h3, h4, h5, h6⟩ := H
  obtain ⟨q1, q2, q3⟩ := h2
  by_cases c : 0 ≤ a1.toInt ∧ a1.toInt ≤ 1
  · rcases im_in c with rfl | rfl
    · rcases bz01 (I 3 0) with e | e
      · have e1 : F_X8_back I L 0 = (-2, I, L) := by
          unfold F_X8_back
          rw [if_pos rfl, e, if_pos rfl]
        rw [e1]
        show ∃ w, F_X9_back I L 0 = some w ∧ _
        unfold F_X9_back
        rw [isImage_eq, if_pos (by decide), show (0 : Int32) = Int32.ofNat 0 from rfl, kept_val (by decide), kept_bz k0, show I (3 + 0) 0 = I 3 0 from rfl, e]
        exact ⟨_, rfl, rfl, H'⟩
      · obtain ⟨hh, ww, hC', f1, f2, f3, f4, f5, f6⟩ := k0.2 e
        by_cases d : I 3 1 = I 1 1 ∧ I 3 2 = I 1 2
        · have d' : I 36 0 = I 33 0 ∧ I 37 0 = I 33 1 := ⟨f3.trans (f1.symm.trans (d.1.trans (c1.trans c3.symm))), f4.trans (f2.symm.trans (d.2.trans (c2.trans c4.symm)))⟩
          have e1 : F_X8_back I L 0 = F_X8_back_37 I L 0 3 := by
            unfold F_X8_back
            rw [if_pos rfl, e, if_neg (by decide), same_val, if_pos d, if_neg (by decide)]
          rw [e1]
          show ∃ w, F_X9_back (p1 (F_X0_become I L 1 3)) (p2 (F_X0_become I L 1 3)) 0 = some w ∧ _
          unfold F_X9_back
          rw [isImage_eq, if_pos (by decide), show (0 : Int32) = Int32.ofNat 0 from rfl, kept_val (by decide), show (p1 (F_X0_become I L 1 3)) 36 0 = I 36 0 from rfl, kept_bz k0, show I (3 + 0) 0 = I 3 0 from rfl, e, ofSize_val (by decide), show (p1 (F_X0_become I L 1 3)) 36 0 = I 36 0 from rfl, show (p1 (F_X0_become I L 1 3)) 37 0 = I 37 0 from rfl, show (p1 (F_X0_become I L 1 3)) 33 0 = I 33 0 from rfl, show (p1 (F_X0_become I L 1 3)) 33 1 = I 33 1 from rfl, if_pos d']
          refine ⟨_, rfl, ?_, ?_⟩
          · show F_J13_bitCount_95d88 (L 3 3) = F_X9_many (L 35 0)
            rw [many_bits]
            exact congrArg _ f5.symm
          obtain ⟨rfl, rfl⟩ := hC.eq hC' (d.1.trans c1) (d.2.trans c2) f1 f2
          exact ⟨⟨hh, ww, ⟨hC', f1, f2, f3, f4, f5, f6, by show bz (bz (I 3 0)) = 1; rw [bz_bz, e]⟩, q1, q2, q3⟩, k0, k1, h3, h4, four h5 id id id id, h6⟩
        · have d' : ¬ (I 36 0 = I 33 0 ∧ I 37 0 = I 33 1) := fun g => d ⟨f1.trans (f3.symm.trans (g.1.trans (c3.trans c1.symm))), f2.trans (f4.symm.trans (g.2.trans (c4.trans c2.symm)))⟩
          have e1 : F_X8_back I L 0 = F_X8_back_37 (F_X8_forgetPlans I) L 0 3 := by
            unfold F_X8_back
            rw [if_pos rfl, e, if_neg (by decide), same_val, if_neg d, if_pos rfl]
          rw [e1]
          show ∃ w, F_X9_back (p1 (F_X0_become (F_X8_forgetPlans I) L 1 3)) (p2 (F_X0_become (F_X8_forgetPlans I) L 1 3)) 0 = some w ∧ _
          unfold F_X9_back
          rw [isImage_eq, if_pos (by decide), show (0 : Int32) = Int32.ofNat 0 from rfl, kept_val (by decide), show (p1 (F_X0_become (F_X8_forgetPlans I) L 1 3)) 36 0 = I 36 0 from rfl, kept_bz k0, show I (3 + 0) 0 = I 3 0 from rfl, e, ofSize_val (by decide), show (p1 (F_X0_become (F_X8_forgetPlans I) L 1 3)) 36 0 = I 36 0 from rfl, show (p1 (F_X0_become (F_X8_forgetPlans I) L 1 3)) 37 0 = I 37 0 from rfl, show (p1 (F_X0_become (F_X8_forgetPlans I) L 1 3)) 33 0 = I 33 0 from rfl, show (p1 (F_X0_become (F_X8_forgetPlans I) L 1 3)) 33 1 = I 33 1 from rfl, if_neg d']
          refine ⟨_, rfl, ?_, ?_⟩
          · show F_J13_bitCount_95d88 (L 3 3) = F_X9_many (L 35 0)
            rw [many_bits]
            exact congrArg _ f5.symm
          obtain ⟨g1, g2, g3, g4, g5⟩ := q1
          exact ⟨⟨hh, ww, ⟨hC', f1, f2, f3, f4, f5, f6, by show bz (bz (I 3 0)) = 1; rw [bz_bz, e]⟩, ⟨g1, g2, g3, g4, g5.1, fun q => absurd (show bz 0 = 1 from q) bz0_ne⟩, rfl, fun q => absurd (show bz 0 = 1 from q) bz0_ne⟩, k0, k1, ⟨0, by decide, rfl, rfl, fun d hd => absurd hd (by omega)⟩, h4, four h5 id id id id, h6⟩
    · rcases bz01 (I 4 0) with e | e
      · have e1 : F_X8_back I L 1 = (-2, I, L) := by
          unfold F_X8_back
          rw [if_neg (by decide), if_pos rfl, e, if_pos rfl]
        rw [e1]
        show ∃ w, F_X9_back I L 1 = some w ∧ _
        unfold F_X9_back
        rw [isImage_eq, if_pos (by decide), show (1 : Int32) = Int32.ofNat 1 from rfl, kept_val (by decide), kept_bz k1, show I (3 + 1) 0 = I 4 0 from rfl, e]
        exact ⟨_, rfl, rfl, H'⟩
      · obtain ⟨hh, ww, hC', f1, f2, f3, f4, f5, f6⟩ := k1.2 e
        have f1 : I 4 1 = Int32.ofNat hh := f1
        have f2 : I 4 2 = Int32.ofNat ww := f2
        by_cases d : I 4 1 = I 1 1 ∧ I 4 2 = I 1 2
        · have d' : I 36 1 = I 33 0 ∧ I 37 1 = I 33 1 := ⟨f3.trans (f1.symm.trans (d.1.trans (c1.trans c3.symm))), f4.trans (f2.symm.trans (d.2.trans (c2.trans c4.symm)))⟩
          have e1 : F_X8_back I L 1 = F_X8_back_37 I L 1 4 := by
            unfold F_X8_back
            rw [if_neg (by decide), if_pos rfl, e, if_neg (by decide), same_val, if_pos d, if_neg (by decide)]
          rw [e1]
          show ∃ w, F_X9_back (p1 (F_X0_become I L 1 4)) (p2 (F_X0_become I L 1 4)) 1 = some w ∧ _
          unfold F_X9_back
          rw [isImage_eq, if_pos (by decide), show (1 : Int32) = Int32.ofNat 1 from rfl, kept_val (by decide), show (p1 (F_X0_become I L 1 4)) 36 1 = I 36 1 from rfl, kept_bz k1, show I (3 + 1) 0 = I 4 0 from rfl, e, ofSize_val (by decide), show (p1 (F_X0_become I L 1 4)) 36 1 = I 36 1 from rfl, show (p1 (F_X0_become I L 1 4)) 37 1 = I 37 1 from rfl, show (p1 (F_X0_become I L 1 4)) 33 0 = I 33 0 from rfl, show (p1 (F_X0_become I L 1 4)) 33 1 = I 33 1 from rfl, if_pos d']
          refine ⟨_, rfl, ?_, ?_⟩
          · show F_J13_bitCount_95d88 (L 4 3) = F_X9_many (L 35 1)
            rw [many_bits]
            exact congrArg _ f5.symm
          obtain ⟨rfl, rfl⟩ := hC.eq hC' (d.1.trans c1) (d.2.trans c2) f1 f2
          exact ⟨⟨hh, ww, ⟨hC', f1, f2, f3, f4, f5, f6, by show bz (bz (I 4 0)) = 1; rw [bz_bz, e]⟩, q1, q2, q3⟩, k0, k1, h3, h4, four h5 id id id id, h6⟩
        · have d' : ¬ (I 36 1 = I 33 0 ∧ I 37 1 = I 33 1) := fun g => d ⟨f1.trans (f3.symm.trans (g.1.trans (c3.trans c1.symm))), f2.trans (f4.symm.trans (g.2.trans (c4.trans c2.symm)))⟩
          have e1 : F_X8_back I L 1 = F_X8_back_37 (F_X8_forgetPlans I) L 1 4 := by
            unfold F_X8_back
            rw [if_neg (by decide), if_pos rfl, e, if_neg (by decide), same_val, if_neg d, if_pos rfl]
          rw [e1]
          show ∃ w, F_X9_back (p1 (F_X0_become (F_X8_forgetPlans I) L 1 4)) (p2 (F_X0_become (F_X8_forgetPlans I) L 1 4)) 1 = some w ∧ _
          unfold F_X9_back
          rw [isImage_eq, if_pos (by decide), show (1 : Int32) = Int32.ofNat 1 from rfl, kept_val (by decide), show (p1 (F_X0_become (F_X8_forgetPlans I) L 1 4)) 36 1 = I 36 1 from rfl, kept_bz k1, show I (3 + 1) 0 = I 4 0 from rfl, e, ofSize_val (by decide), show (p1 (F_X0_become (F_X8_forgetPlans I) L 1 4)) 36 1 = I 36 1 from rfl, show (p1 (F_X0_become (F_X8_forgetPlans I) L 1 4)) 37 1 = I 37 1 from rfl, show (p1 (F_X0_become (F_X8_forgetPlans I) L 1 4)) 33 0 = I 33 0 from rfl, show (p1 (F_X0_become (F_X8_forgetPlans I) L 1 4)) 33 1 = I 33 1 from rfl, if_neg d']
          refine ⟨_, rfl, ?_, ?_⟩
          · show F_J13_bitCount_95d88 (L 4 3) = F_X9_many (L 35 1)
            rw [many_bits]
            exact congrArg _ f5.symm
          obtain ⟨g1, g2, g3, g4, g5⟩ := q1
          exact ⟨⟨hh, ww, ⟨hC', f1, f2, f3, f4, f5, f6, by show bz (bz (I 4 0)) = 1; rw [bz_bz, e]⟩, ⟨g1, g2, g3, g4, g5.1, fun q => absurd (show bz 0 = 1 from q) bz0_ne⟩, rfl, fun q => absurd (show bz 0 = 1 from q) bz0_ne⟩, k0, k1, ⟨0, by decide, rfl, rfl, fun d hd => absurd hd (by omega)⟩, h4, four h5 id id id id, h6⟩
  · obtain ⟨n0, n1⟩ := im_out2 c
    have e1 : F_X8_back I L a1 = (-1, I, L) := by
      unfold F_X8_back
      rw [if_neg n0, if_neg n1]
    rw [e1]
    show ∃ w, F_X9_back I L a1 = some w ∧ _
    unfold F_X9_back
    rw [isImage_eq, if_neg c]
    exact ⟨_, rfl, rfl, H'⟩
