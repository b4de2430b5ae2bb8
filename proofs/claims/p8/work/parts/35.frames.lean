/-! nearest, blind, both: they end, what is kept stays -/
theorem Inv.size {I : WI} {L : WL} (H : Inv I L) : ∃ h w, Cl h w ∧ I 1 1 = Int32.ofNat h ∧ I 1 2 = Int32.ofNat w ∧ I 33 0 = Int32.ofNat h ∧ I 33 1 = Int32.ofNat w := by
  obtain ⟨⟨h, w, ⟨hC, c1, c2, c3, c4, -⟩, -⟩, -⟩ := H
  exact ⟨h, w, hC, c1, c2, c3, c4⟩
theorem pow_le {h : Nat} (hh : h ≤ 8) : 1 ≤ 2 ^ h ∧ 2 ^ h ≤ 256 := ⟨Nat.one_le_two_pow, Nat.pow_le_pow_right (by decide) hh⟩
theorem shl_n : ∀ h, h < 9 → ((1 : Int32) <<< (Int32.ofNat h &&& 31)) = Int32.ofNat (2 ^ h) := by decide +kernel
theorem lt_onn {a b : Nat} (ha : a < 2147483648) (hb : b < 2147483648) : Int32.ofNat a < Int32.ofNat b ↔ a < b := by
  rw [Int32.lt_iff_toInt_lt, on_toInt ha, on_toInt hb]
  omega
theorem ag_tryRows {I : WI} {r : Nat} {a : Int32} {x : Int64} : Ag I (F_X7_tryRows I r a x) := by
  have h91 : ∀ a b c, Ag I (F_X7_tryRows_91 I r a x b c) := fun a b c => ag_take' (Ag.rfl.u rfl) |>.u rfl
  have h75 : ∀ a b c, Ag I (F_X7_tryRows_75 I r a x b c) := by
    intro a b c
    unfold F_X7_tryRows_75
    exact Ag.ite (h91 _ _ _) (Ag.ite Ag.rfl (h91 _ _ _))
  exact h75 _ _ _
theorem near8 {I : WI} {h : Nat} (hh : h ≤ 8) (e : I 1 1 = Int32.ofNat h) (x : Int64) : ∃ J, F_X7_findNearest I 1 x = some J ∧ Ag I J := by
  have hp := pow_le hh
  have hrow : ∀ J, Ag I J → F_X0_everyRow J 1 = Int32.ofNat (2 ^ h - 1) := by
    intro J hJ
    unfold F_X0_everyRow
    rw [hJ 1 1 rfl, e]
    exact every_p h (by omega)
  obtain ⟨r, e1, e2⟩ := lpp_cnt (f := fun y => F_X7_findNearest_8_1 (p2 y) 1 x (p1 y)) (m := 2 ^ h) (fun _ J => Ag I J) (fun J => Ag I J) (fun i J hi hJ => by
    refine ⟨F_X7_tryRows J 1 (Int32.ofNat i) (x ^^^ F_X0_squaresTurned J 1 (Int32.ofNat i) 0), ?_, hJ.trans ag_tryRows⟩
    show F_X7_findNearest_8_1 J 1 x (Int32.ofNat i) = _
    unfold F_X7_findNearest_8_1
    rw [hrow J hJ, if_neg fun q => absurd ((lt_onn (by omega) (by omega)).mp q) (by omega), la1]) (fun J hJ => by
    refine ⟨J, ?_, hJ⟩
    show F_X7_findNearest_8_1 J 1 x (Int32.ofNat (2 ^ h)) = _
    unfold F_X7_findNearest_8_1
    rw [hrow J hJ, if_pos ((lt_onn (by omega) (by omega)).mpr (by omega))]) 4294967296 0 (u2 I 27 0 0) (by omega) (by omega) (Ag.rfl.u rfl)
  refine ⟨r, ?_, e2⟩
  show (lpp (fun y => F_X7_findNearest_8_1 (p2 y) 1 x (p1 y)) 4294967296 (Int32.ofNat 0, u2 I 27 0 0)).bind _ = _
  rw [e1]
  rfl
theorem near9 {I : WI} {h w : Nat} (hC : Cl h w) (e3 : I 33 0 = Int32.ofNat h) (e4 : I 33 1 = Int32.ofNat w) (x : Int64) : ∃ J, F_X9_findNearest I x = some J ∧ Ag I J := by
  obtain ⟨⟨h1, h2⟩, h3, h4⟩ := hC
  have hp := pow_le h2
  have h110 : ∀ J a b c d e f g, ∃ v, F_X9_findNearest_110_2 J a b c d e f g = some v := fun _ _ _ _ _ _ _ _ => ⟨_, rfl⟩
  have h82 : ∀ J a b c d e f g k, ∃ v, F_X9_findNearest_82_2 J a b c d e f g k = some v := by
    intro J a b c d e f g k
    unfold F_X9_findNearest_82_2
    split <;> exact h110 _ _ _ _ _ _ _ _
  have h46 : ∀ J a b c d e f, ∃ v, F_X9_findNearest_46_2 J a b c d e f = some v := by
    intro J a b c d e f
    unfold F_X9_findNearest_46_2
    split <;> exact h82 _ _ _ _ _ _ _ _ _
  have h119 : ∀ J a i b c, Ag I J → ∃ K, F_X9_findNearest_119_1 J a (Int32.ofNat i) b c = some (.inr (Int32.ofNat (i + 1), K)) ∧ Ag I K := by
    intro J a i b c hJ
    unfold F_X9_findNearest_119_1 F_X9_findNearest_145_1
    rw [la1]
    split
    · exact ⟨_, rfl, hJ⟩
    · exact ⟨_, rfl, ((hJ.u rfl).u rfl).u rfl⟩
  obtain ⟨r, r1, r2⟩ := lpp_cnt (f := fun y => F_X9_findNearest_8_1 (p2 y) x (p1 y)) (m := 2 ^ h) (fun _ J => Ag I J) (fun J => Ag I J) (fun i J hi hJ => by
    have j0 : J 33 0 = Int32.ofNat h := (hJ 33 0 rfl).trans e3
    have j1 : J 33 1 = Int32.ofNat w := (hJ 33 1 rfl).trans e4
    obtain ⟨e, q1, -⟩ := frp0_nat (g := fun k y => F_X9_findNearest_46_2 J x (Int32.ofNat i) (x ^^^ (F_X9_turnSet J (Int32.ofNat i) 0)) k (p1 y) (p2 y)) (b := w) (by omega) (fun _ _ => True) (s := (0, 0)) (fun k y hk _ => by
      obtain ⟨v, hv⟩ := h46 J x (Int32.ofNat i) (x ^^^ (F_X9_turnSet J (Int32.ofNat i) 0)) (Int32.ofNat k) (p1 y) (p2 y)
      exact ⟨v, hv, trivial⟩) trivial
    obtain ⟨K, k1, k2⟩ := h119 J x i (p1 (p2 e)) (p2 (p2 e)) hJ
    refine ⟨K, ?_, k2⟩
    show F_X9_findNearest_8_1 J x (Int32.ofNat i) = _
    unfold F_X9_findNearest_8_1
    rw [j0, shl_n h (by omega), if_neg fun q => absurd ((ge_on (by omega) (by omega)).mp q) (by omega)]
    unfold F_X9_findNearest_37_1
    rw [j1, q1]
    exact k1) (fun J hJ => by
    have j0 : J 33 0 = Int32.ofNat h := (hJ 33 0 rfl).trans e3
    refine ⟨J, ?_, hJ⟩
    show F_X9_findNearest_8_1 J x (Int32.ofNat (2 ^ h)) = _
    unfold F_X9_findNearest_8_1
    rw [j0, shl_n h (by omega), if_pos ((ge_on (by omega) (by omega)).mpr (Nat.le_refl _))]) 4294967296 0 (u2 I 33 33 65) (by omega) (by omega) (Ag.rfl.u rfl)
  refine ⟨r, ?_, r2⟩
  show (lpp (fun y => F_X9_findNearest_8_1 (p2 y) x (p1 y)) 4294967296 (Int32.ofNat 0, u2 I 33 33 65)).bind _ = _
  rw [r1]
  rfl
theorem N_17 {I : WI} {L : WL} {a1 : Int32} (H : Inv I L) : ∃ v, (F_X8_nearest I L a1) = some v ∧ ∃ w, (F_X9_nearest (p2 v) L a1) = some w ∧ Inv (p2 w) L := by
  obtain ⟨h, w, hC, c1, c2, c3, c4⟩ := H.size
  have e8 : ∃ v, F_X8_nearest I L a1 = some v ∧ Ag I (p2 v) := by
    obtain ⟨J, j1, j2⟩ := near8 hC.1.2 c1 ((L 1 3) ^^^ (L 2 3))
    unfold F_X8_nearest F_X8_nearest_9
    rw [j1]
    repeat' (first | split | exact ⟨_, rfl, Ag.rfl⟩ | exact ⟨_, rfl, j2⟩)
  obtain ⟨v, v1, v2⟩ := e8
  refine ⟨v, v1, ?_⟩
  have HJ := H.ag v2 Ag.rfl
  generalize p2 v = J at v2 HJ
  suffices q : ∃ w, F_X9_nearest J L a1 = some w ∧ Ag J (p2 w) by
    obtain ⟨w, w1, w2⟩ := q
    exact ⟨w, w1, HJ.ag w2 Ag.rfl⟩
  obtain ⟨K, k1, k2⟩ := near9 hC ((v2 33 0 rfl).trans c3) ((v2 33 1 rfl).trans c4) ((L 33 2) ^^^ (L 33 3))
  unfold F_X9_nearest
  rw [k1]
  repeat' (first | split | exact ⟨_, rfl, Ag.rfl⟩ | exact ⟨_, rfl, k2⟩)
theorem N_18 {I : WI} {L : WL} {a1 : Int32} (H : Inv I L) : ∃ v, (F_X8_lightest I L a1) = some v ∧ ∃ w, (F_X9_lightest (p2 v) L a1) = some w ∧ Inv (p2 w) L := by
  obtain ⟨h, w, hC, c1, c2, c3, c4⟩ := H.size
  have e8 : ∃ v, F_X8_lightest I L a1 = some v ∧ Ag I (p2 v) := by
    obtain ⟨J, j1, j2⟩ := near8 hC.1.2 c1 (L 1 3)
    unfold F_X8_lightest F_X8_lightest_9
    rw [j1]
    repeat' (first | split | exact ⟨_, rfl, Ag.rfl⟩ | exact ⟨_, rfl, j2⟩)
  obtain ⟨v, v1, v2⟩ := e8
  refine ⟨v, v1, ?_⟩
  have HJ := H.ag v2 Ag.rfl
  generalize p2 v = J at v2 HJ
  suffices q : ∃ w, F_X9_lightest J L a1 = some w ∧ Ag J (p2 w) by
    obtain ⟨w, w1, w2⟩ := q
    exact ⟨w, w1, HJ.ag w2 Ag.rfl⟩
  obtain ⟨K, k1, k2⟩ := near9 hC ((v2 33 0 rfl).trans c3) ((v2 33 1 rfl).trans c4) (L 33 2)
  unfold F_X9_lightest
  rw [k1]
  repeat' (first | split | exact ⟨_, rfl, Ag.rfl⟩ | exact ⟨_, rfl, k2⟩)
theorem blind8 {I : WI} (x : Int64) : ∃ J, F_X7_goBlind I 1 x = some J ∧ Ag I J := by
  obtain ⟨r, e1, e2⟩ := lpp_ms (f := fun y => F_X7_goBlind_8_1 (p2 y) 1 x (p1 y)) (fun y : Int64 × WI => Ag I (p2 y) ∧ ∃ i, i ≤ 60 ∧ p2 y 27 5 = Int32.ofNat i) (fun y : Int64 × WI => Ag I (p2 y)) (fun y => 60 - (p2 y 27 5).toNatClampNeg) (fun y hy => by
    obtain ⟨h1, i, hi, h2⟩ := hy
    show (∃ r, F_X7_goBlind_8_1 (p2 y) 1 x (p1 y) = some (.inl r) ∧ Ag I (p2 r)) ∨ (∃ s', F_X7_goBlind_8_1 (p2 y) 1 x (p1 y) = some (.inr s') ∧ _)
    unfold F_X7_goBlind_8_1
    by_cases c : (lg_cmp (p1 y) 0) = 0
    · rw [if_pos c]
      exact .inl ⟨_, rfl, h1⟩
    rw [if_neg c, h2]
    by_cases d : 60 ≤ i
    · rw [if_pos (by first | omega | (simp (disch := omega) only [Int32.lt_iff_toInt_lt, Int32.le_iff_toInt_le, ← Int32.toInt_inj, on_toInt, on_clamp, ti64, z0, z1, z2, zm1, i0, i1, im1, zz3, zz4, zz5, zz6, zz7, zz8, zz9, zz10, zz11, zz12, zz13, zz14, zz15, zz16, zz17, zz18, zz19, zz20, zz21, zz22, zz23, zz24, zz25, zz26, zz27, zz28, zz29, zz30, zz31, zz32, zz33, zz34, zz35, zz36, zz37, zz38, zz39, zz40, zz41, zz48, zz60, zz64, zz160, zz312, zz320, zzm2, zzm3, zzm4, zzm5, zzm6, zzm7, zzm8, zzm9, zzm10]; done) | (simp (disch := omega) only [Int32.lt_iff_toInt_lt, Int32.le_iff_toInt_le, ← Int32.toInt_inj, on_toInt, on_clamp, ti64, z0, z1, z2, zm1, i0, i1, im1, zz3, zz4, zz5, zz6, zz7, zz8, zz9, zz10, zz11, zz12, zz13, zz14, zz15, zz16, zz17, zz18, zz19, zz20, zz21, zz22, zz23, zz24, zz25, zz26, zz27, zz28, zz29, zz30, zz31, zz32, zz33, zz34, zz35, zz36, zz37, zz38, zz39, zz40, zz41, zz48, zz60, zz64, zz160, zz312, zz320, zzm2, zzm3, zzm4, zzm5, zzm6, zzm7, zzm8, zzm9, zzm10]; omega))]
      exact .inl ⟨_, rfl, h1⟩
    · rw [if_neg (by first | omega | (simp (disch := omega) only [Int32.lt_iff_toInt_lt, Int32.le_iff_toInt_le, ← Int32.toInt_inj, on_toInt, on_clamp, ti64, z0, z1, z2, zm1, i0, i1, im1, zz3, zz4, zz5, zz6, zz7, zz8, zz9, zz10, zz11, zz12, zz13, zz14, zz15, zz16, zz17, zz18, zz19, zz20, zz21, zz22, zz23, zz24, zz25, zz26, zz27, zz28, zz29, zz30, zz31, zz32, zz33, zz34, zz35, zz36, zz37, zz38, zz39, zz40, zz41, zz48, zz60, zz64, zz160, zz312, zz320, zzm2, zzm3, zzm4, zzm5, zzm6, zzm7, zzm8, zzm9, zzm10]; done) | (simp (disch := omega) only [Int32.lt_iff_toInt_lt, Int32.le_iff_toInt_le, ← Int32.toInt_inj, on_toInt, on_clamp, ti64, z0, z1, z2, zm1, i0, i1, im1, zz3, zz4, zz5, zz6, zz7, zz8, zz9, zz10, zz11, zz12, zz13, zz14, zz15, zz16, zz17, zz18, zz19, zz20, zz21, zz22, zz23, zz24, zz25, zz26, zz27, zz28, zz29, zz30, zz31, zz32, zz33, zz34, zz35, zz36, zz37, zz38, zz39, zz40, zz41, zz48, zz60, zz64, zz160, zz312, zz320, zzm2, zzm3, zzm4, zzm5, zzm6, zzm7, zzm8, zzm9, zzm10]; omega))]
      refine .inr ⟨_, rfl, ⟨h1.u rfl, i + 1, by omega, ?_⟩, ?_⟩
      · show (u2 (p2 y) 27 5 (Int32.ofNat i + 1)) 27 5 = _
        rw [u2_at, la1]
      · show 60 - ((u2 (p2 y) 27 5 (Int32.ofNat i + 1)) 27 5).toNatClampNeg < 60 - (Int32.ofNat i).toNatClampNeg
        rw [u2_at, la1, on_clamp (n := i + 1) (by omega), on_clamp (n := i) (by omega)]
        omega) 4294967296 (x, u2 I 27 5 0) (by
      show 60 - ((u2 I 27 5 0) 27 5).toNatClampNeg < _
      omega) ⟨Ag.rfl.u rfl, 0, by decide, rfl⟩
  have h75 : ∀ J a, Ag I J → ∃ K, F_X7_goBlind_75 J 1 x a = some K ∧ Ag I K := by
    intro J a hJ
    unfold F_X7_goBlind_75 F_X7_goBlind_88
    split
    · exact ⟨_, rfl, (hJ.u rfl).u rfl⟩
    · exact ⟨_, rfl, (hJ.u rfl).u rfl⟩
  obtain ⟨K, k1, k2⟩ := h75 (p2 r) (p1 r) e2
  refine ⟨K, ?_, k2⟩
  show (lpp (fun y => F_X7_goBlind_8_1 (p2 y) 1 x (p1 y)) 4294967296 (x, u2 I 27 5 0)).bind _ = _
  rw [e1]
  exact k1
theorem most9 {I : WI} {h w : Nat} (hC : Cl h w) (e3 : I 33 0 = Int32.ofNat h) (e4 : I 33 1 = Int32.ofNat w) (x : Int64) (k : Int32) : ∃ v, F_X9_mostOf I x k = some v := by
  obtain ⟨⟨h1, h2⟩, h3, h4⟩ := hC
  have h90 : ∀ a b c d e, F_X9_mostOf_90_1 I a b c d e = some (.inr (c, e, d + 1)) := fun _ _ _ _ _ => rfl
  have h74 : ∀ a b c d e f, ∃ p q, F_X9_mostOf_74_1 I a b c d e f = some (.inr (p, q, d + 1)) := by
    intro a b c d e f
    unfold F_X9_mostOf_74_1
    split <;> exact ⟨_, _, rfl⟩
  have h43 : ∀ a b c d e f g, ∃ p q, F_X9_mostOf_43_1 I a b c d e f g = if f ≤ g then some (.inl c) else some (.inr (p, q, e + 1)) := by
    intro a b c d e f g
    unfold F_X9_mostOf_43_1
    by_cases q : f ≤ g
    · rw [if_pos q]
      exact ⟨0, 0, (if_pos q).symm⟩
    · rw [if_neg q]
      split
      · obtain ⟨p, r, e⟩ := h74 a b d e (F_X9_many (a &&& (F_X9_actSet I b e))) c
        first | exact ⟨p, r, e⟩ | exact ⟨p, r, e.trans (if_neg q).symm⟩
      · obtain ⟨p, r, e⟩ := h74 a b d e (F_X9_many (a &&& (F_X9_actSet I b e))) e
        first | exact ⟨p, r, e⟩ | exact ⟨p, r, e.trans (if_neg q).symm⟩
  have hl : ∀ a b, ∃ r, lpp (fun y => F_X9_mostOf_26_1 I x k (p1 y) (p1 (p2 y)) (p2 (p2 y))) 4294967296 (a, b, 0) = some r := by
    intro a b
    obtain ⟨m, hm, hk⟩ : ∃ m, m ≤ 8 ∧ (if k = 0 then I 33 0 else I 33 1) = Int32.ofNat m := by
      by_cases c : k = 0
      · exact ⟨h, h2, by rw [if_pos c, e3]⟩
      · exact ⟨w, h4, by rw [if_neg c, e4]⟩
    have h26 : ∀ a b c, ∃ p q, F_X9_mostOf_26_1 I x k a b c = if Int32.ofNat m ≤ c then some (.inl a) else some (.inr (p, q, c + 1)) := by
      intro a b c
      unfold F_X9_mostOf_26_1
      by_cases d : k = 0
      · rw [if_pos d] at hk ⊢
        rw [hk]
        exact h43 _ _ _ _ _ _ _
      · rw [if_neg d] at hk ⊢
        rw [hk]
        exact h43 _ _ _ _ _ _ _
    obtain ⟨r, r1, -⟩ := lpp_ms (f := fun y => F_X9_mostOf_26_1 I x k (p1 y) (p1 (p2 y)) (p2 (p2 y))) (fun y : Int32 × Int32 × Int32 => ∃ i, i ≤ m ∧ p2 (p2 y) = Int32.ofNat i) (fun _ => True) (fun y => m - (p2 (p2 y)).toNatClampNeg) (fun y hy => by
      obtain ⟨i, hi, hy⟩ := hy
      obtain ⟨p, q, e⟩ := h26 (p1 y) (p1 (p2 y)) (p2 (p2 y))
      show (∃ r, F_X9_mostOf_26_1 I x k (p1 y) (p1 (p2 y)) (p2 (p2 y)) = some (.inl r) ∧ _) ∨ (∃ s', F_X9_mostOf_26_1 I x k (p1 y) (p1 (p2 y)) (p2 (p2 y)) = some (.inr s') ∧ _)
      rw [e, hy]
      by_cases d : m ≤ i
      · rw [if_pos ((ge_on (by omega) (by omega)).mpr d)]
        exact .inl ⟨_, rfl, trivial⟩
      · rw [if_neg fun q => d ((ge_on (by omega) (by omega)).mp q)]
        refine .inr ⟨_, rfl, ⟨i + 1, by omega, ?_⟩, ?_⟩
        · show Int32.ofNat i + 1 = _
          rw [la1]
        · show m - (Int32.ofNat i + 1).toNatClampNeg < m - (Int32.ofNat i).toNatClampNeg
          rw [la1, on_clamp (n := i + 1) (by omega), on_clamp (n := i) (by omega)]
          omega) 4294967296 (a, b, 0) (by
        show m - (0 : Int32).toNatClampNeg < _
        omega) ⟨0, Nat.zero_le _, rfl⟩
    exact ⟨r, r1⟩
  have h19 : ∀ a, ∃ v, F_X9_mostOf_19 I x k (-4) a = some v := by
    intro a
    obtain ⟨r, hr⟩ := hl (-4) (a / 2)
    refine ⟨r, ?_⟩
    show (lpp (fun y => F_X9_mostOf_26_1 I x k (p1 y) (p1 (p2 y)) (p2 (p2 y))) 4294967296 (-4, a / 2, 0)).bind _ = _
    rw [hr]
    rfl
  unfold F_X9_mostOf
  split
  · exact h19 _
  · exact h19 _
theorem blind9 {I : WI} {L : WL} {a1 : Int32} {h w : Nat} (hC : Cl h w) (e3 : I 33 0 = Int32.ofNat h) (e4 : I 33 1 = Int32.ofNat w) : ∃ v, F_X9_blind I L a1 = some v := by
  have h83 : ∀ a b c d, ∃ x, F_X9_blind_83_1 I L a1 a b c d = some (.inr (x, a + 1)) := by
    intro a b c d
    unfold F_X9_blind_83_1 F_X9_blind_104_1
    split <;> exact ⟨_, rfl⟩
  have h35 : ∀ x i, ∃ y, F_X9_blind_35_1 I L a1 x i = if 60 ≤ i then some (.inl (x, i)) else if (lg_cmp x 0) = 0 then some (.inl (x, i)) else some (.inr (y, i + 1)) := by
    intro x i
    obtain ⟨u, hu⟩ := most9 hC e3 e4 x 0
    obtain ⟨v, hv⟩ := most9 hC e3 e4 x 1
    unfold F_X9_blind_35_1
    rw [hu, hv, ob_some, ob_some]
    by_cases c : 60 ≤ i
    · rw [if_pos c]
      exact ⟨0, (if_pos c).symm⟩
    rw [if_neg c]
    by_cases d : (lg_cmp x 0) = 0
    · rw [if_pos d]
      exact ⟨0, by rw [if_neg c, if_pos d]⟩
    rw [if_neg d]
    split
    · obtain ⟨y, e⟩ := h83 i v 0 x
      first | exact ⟨y, e⟩ | exact ⟨y, by rw [e, if_neg c, if_neg d]⟩
    · obtain ⟨y, e⟩ := h83 i v (F_X9_actSet I 0 u) x
      first | exact ⟨y, e⟩ | exact ⟨y, by rw [e, if_neg c, if_neg d]⟩
  have hl : ∀ x, ∃ r, lpp (fun y => F_X9_blind_35_1 I L a1 (p1 y) (p2 y)) 4294967296 (x, 0) = some r := by
    intro x
    obtain ⟨r, r1, -⟩ := lpp_ms (f := fun y => F_X9_blind_35_1 I L a1 (p1 y) (p2 y)) (fun y : Int64 × Int32 => ∃ i, i ≤ 60 ∧ p2 y = Int32.ofNat i) (fun _ => True) (fun y => 60 - (p2 y).toNatClampNeg) (fun y hy => by
      obtain ⟨i, hi, hy⟩ := hy
      obtain ⟨z, e⟩ := h35 (p1 y) (p2 y)
      show (∃ r, F_X9_blind_35_1 I L a1 (p1 y) (p2 y) = some (.inl r) ∧ _) ∨ (∃ s', F_X9_blind_35_1 I L a1 (p1 y) (p2 y) = some (.inr s') ∧ _)
      rw [e, hy]
      by_cases d : 60 ≤ i
      · rw [if_pos (by first | omega | (simp (disch := omega) only [Int32.lt_iff_toInt_lt, Int32.le_iff_toInt_le, ← Int32.toInt_inj, on_toInt, on_clamp, ti64, z0, z1, z2, zm1, i0, i1, im1, zz3, zz4, zz5, zz6, zz7, zz8, zz9, zz10, zz11, zz12, zz13, zz14, zz15, zz16, zz17, zz18, zz19, zz20, zz21, zz22, zz23, zz24, zz25, zz26, zz27, zz28, zz29, zz30, zz31, zz32, zz33, zz34, zz35, zz36, zz37, zz38, zz39, zz40, zz41, zz48, zz60, zz64, zz160, zz312, zz320, zzm2, zzm3, zzm4, zzm5, zzm6, zzm7, zzm8, zzm9, zzm10]; done) | (simp (disch := omega) only [Int32.lt_iff_toInt_lt, Int32.le_iff_toInt_le, ← Int32.toInt_inj, on_toInt, on_clamp, ti64, z0, z1, z2, zm1, i0, i1, im1, zz3, zz4, zz5, zz6, zz7, zz8, zz9, zz10, zz11, zz12, zz13, zz14, zz15, zz16, zz17, zz18, zz19, zz20, zz21, zz22, zz23, zz24, zz25, zz26, zz27, zz28, zz29, zz30, zz31, zz32, zz33, zz34, zz35, zz36, zz37, zz38, zz39, zz40, zz41, zz48, zz60, zz64, zz160, zz312, zz320, zzm2, zzm3, zzm4, zzm5, zzm6, zzm7, zzm8, zzm9, zzm10]; omega))]
        exact .inl ⟨_, rfl, trivial⟩
      rw [if_neg (by first | omega | (simp (disch := omega) only [Int32.lt_iff_toInt_lt, Int32.le_iff_toInt_le, ← Int32.toInt_inj, on_toInt, on_clamp, ti64, z0, z1, z2, zm1, i0, i1, im1, zz3, zz4, zz5, zz6, zz7, zz8, zz9, zz10, zz11, zz12, zz13, zz14, zz15, zz16, zz17, zz18, zz19, zz20, zz21, zz22, zz23, zz24, zz25, zz26, zz27, zz28, zz29, zz30, zz31, zz32, zz33, zz34, zz35, zz36, zz37, zz38, zz39, zz40, zz41, zz48, zz60, zz64, zz160, zz312, zz320, zzm2, zzm3, zzm4, zzm5, zzm6, zzm7, zzm8, zzm9, zzm10]; done) | (simp (disch := omega) only [Int32.lt_iff_toInt_lt, Int32.le_iff_toInt_le, ← Int32.toInt_inj, on_toInt, on_clamp, ti64, z0, z1, z2, zm1, i0, i1, im1, zz3, zz4, zz5, zz6, zz7, zz8, zz9, zz10, zz11, zz12, zz13, zz14, zz15, zz16, zz17, zz18, zz19, zz20, zz21, zz22, zz23, zz24, zz25, zz26, zz27, zz28, zz29, zz30, zz31, zz32, zz33, zz34, zz35, zz36, zz37, zz38, zz39, zz40, zz41, zz48, zz60, zz64, zz160, zz312, zz320, zzm2, zzm3, zzm4, zzm5, zzm6, zzm7, zzm8, zzm9, zzm10]; omega))]
      by_cases c : (lg_cmp (p1 y) 0) = 0
      · rw [if_pos c]
        exact .inl ⟨_, rfl, trivial⟩
      · rw [if_neg c]
        refine .inr ⟨_, rfl, ⟨i + 1, by omega, ?_⟩, ?_⟩
        · show Int32.ofNat i + 1 = _
          rw [la1]
        · show 60 - (Int32.ofNat i + 1).toNatClampNeg < 60 - (Int32.ofNat i).toNatClampNeg
          rw [la1, on_clamp (n := i + 1) (by omega), on_clamp (n := i) (by omega)]
          omega) 4294967296 (x, 0) (by
        show 60 - (0 : Int32).toNatClampNeg < _
        omega) ⟨0, by decide, rfl⟩
    exact ⟨r, r1⟩
  unfold F_X9_blind
  split
  · exact ⟨_, rfl⟩
  split
  · exact ⟨_, rfl⟩
  obtain ⟨r, hr⟩ := hl ((L 33 2) ^^^ (L 33 3))
  unfold F_X9_blind_35
  rw [hr, ob_some]
  unfold F_X9_blind_112 F_X9_blind_137
  repeat' (first | split | exact ⟨_, rfl⟩)
theorem N_19 {I : WI} {L : WL} {a1 : Int32} (H : Inv I L) : ∃ v, (F_X8_blind I L a1) = some v ∧ ∃ w, (F_X9_blind (p2 v) L a1) = some w ∧ Inv (p2 v) L := by
  obtain ⟨h, w, hC, c1, c2, c3, c4⟩ := H.size
  have e8 : ∃ v, F_X8_blind I L a1 = some v ∧ Ag I (p2 v) := by
    obtain ⟨J, j1, j2⟩ := blind8 (I := I) ((L 1 3) ^^^ (L 2 3))
    unfold F_X8_blind F_X8_blind_9 F_X8_blind_85
    rw [j1, ob_some]
    repeat' (first | split | exact ⟨_, rfl, Ag.rfl⟩ | exact ⟨_, rfl, j2⟩)
  obtain ⟨v, v1, v2⟩ := e8
  obtain ⟨x, hx⟩ := blind9 (L := L) (a1 := a1) hC ((v2 33 0 rfl).trans c3) ((v2 33 1 rfl).trans c4)
  exact ⟨v, v1, x, hx, H.ag v2 Ag.rfl⟩
