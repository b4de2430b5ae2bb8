/-! both, with slants, power, duel: they end, what is kept stays -/
theorem ag_frp {S : Type} {g : Int32 → S → Option S} {b : Nat} (hb : b < 2147483648) (P : S → Prop) {s : S} (h0 : P s) (h : ∀ i x, i < b → P x → ∃ y, g (Int32.ofNat i) x = some y ∧ P y) : ∃ e, frp0 g (Int32.ofNat b) (fu 0 (Int32.ofNat b)) 0 s = some e ∧ P (p2 e) :=
  frp0_nat hb (fun _ x => P x) h h0
theorem both8 {I : WI} {L : WL} (x : Int64) : ∃ v, F_X7_findBothSpoilt I L 1 x = some v ∧ Ag2 I L v := by
  have h82 : ∀ (J : WI) (K : WL) a b c, F_X7_pairWith_82_1 J K 1 a b c = some J := fun _ _ _ _ _ => rfl
  have h13 : ∀ (J : WI) (K : WL) a b i, i < 64 → Ag I J → ∃ N, F_X7_pairWith_13_1 J K 1 a b (Int32.ofNat i) = some N ∧ Ag I N := by
    intro J K a b i hi hJ
    unfold F_X7_pairWith_13_1 F_X7_pairWith_69_1 F_X7_pairWith_82_1
    rw [if_neg (nin (k := i) (N := 64) hi (by decide))]
    repeat' (first | split | exact ⟨_, rfl, hJ⟩ | exact ⟨_, rfl, (hJ.u rfl).u rfl⟩)
  have hpw : ∀ (J : WI) (K : WL) a b, Ag I J → ∃ N, F_X7_pairWith J K 1 a b = some N ∧ Ag I N := by
    intro J K a b hJ
    obtain ⟨e, e1, e2⟩ := ag_frp (g := fun i y => F_X7_pairWith_13_1 y K 1 a b i) (b := 64) (by decide) (fun y => Ag I y) hJ (fun i y hi hy => h13 y K a b i hi hy)
    refine ⟨p2 e, ?_, e2⟩
    show (frp0 (fun i y => F_X7_pairWith_13_1 y K 1 a b i) (Int32.ofNat 64) (fu 0 (Int32.ofNat 64)) 0 J).bind _ = _
    rw [e1]
    rfl
  have h64 : ∀ (J : WI) (K : WL) a b i, i < 64 → Ag I J → ∃ N, F_X7_findBothSpoilt_64_2 J K 1 a b (Int32.ofNat i) = some N ∧ Ag I N := by
    intro J K a b i hi hJ
    unfold F_X7_findBothSpoilt_64_2
    split
    · exact ⟨J, rfl, hJ⟩
    · rw [if_neg (nin (k := i) (N := 64) hi (by decide))]
      obtain ⟨N, n1, n2⟩ := hpw J K (Int32.ofNat i) (b ^^^ K 29 (Int32.ofNat i).toNatClampNeg) hJ
      rw [n1]
      exact ⟨N, rfl, n2⟩
  obtain ⟨e, e1, e2⟩ := ag_frp (g := fun i y => F_X7_findBothSpoilt_30_1 (u2 (u2 I 27 6 0) 27 7 0) y 1 x (F_X0_formOf (u2 (u2 I 27 6 0) 27 7 0) 1 x) i) (b := 64) (by decide) (fun y => Ag L y) Ag.rfl (fun i y hi hy => by
    refine ⟨u2 y 29 i (F_X0_formOf (u2 (u2 I 27 6 0) 27 7 0) 1 (lsh 1 (Int32.ofNat i))), ?_, hy.u rfl⟩
    show F_X7_findBothSpoilt_30_1 _ y 1 x _ (Int32.ofNat i) = _
    unfold F_X7_findBothSpoilt_30_1
    rw [if_neg (nin (k := i) (N := 64) hi (by decide)), on_clamp (n := i) (by omega)])
  obtain ⟨e', f1, f2⟩ := ag_frp (g := fun i y => F_X7_findBothSpoilt_64_2 y (p2 e) 1 x (F_X0_formOf (u2 (u2 I 27 6 0) 27 7 0) 1 x) i) (b := 64) (by decide) (fun y => Ag I y) (s := u2 (u2 I 27 6 0) 27 7 0) ((Ag.rfl.u rfl).u rfl) (fun i y hi hy => h64 y (p2 e) x _ i hi hy)
  have hf : F_X0_formOf I 1 x = F_X0_formOf (u2 (u2 I 27 6 0) 27 7 0) 1 x := rfl
  refine ⟨(p2 e', p2 e), ?_, f2, e2⟩
  show (frp0 (fun i y => F_X7_findBothSpoilt_30_1 (u2 (u2 I 27 6 0) 27 7 0) y 1 x (F_X0_formOf (u2 (u2 I 27 6 0) 27 7 0) 1 x) i) (Int32.ofNat 64) (fu 0 (Int32.ofNat 64)) 0 L).bind _ = _
  rw [e1]
  show (frp0 (fun i y => F_X7_findBothSpoilt_64_2 y (p2 e) 1 x (F_X0_formOf (u2 (u2 I 27 6 0) 27 7 0) 1 x) i) (Int32.ofNat 64) (fu 0 (Int32.ofNat 64)) 0 (u2 (u2 I 27 6 0) 27 7 0)).bind _ = _
  rw [f1]
  rfl
theorem N_25 {I : WI} {L : WL} {a1 : Int32} (H : Inv I L) : ∃ v, (F_X8_both I L a1) = some v ∧ Inv (p1 (p2 v)) (p2 (p2 v)) := by
  suffices q : ∃ v, F_X8_both I L a1 = some v ∧ Ag2 I L (p2 v) by
    obtain ⟨v, e, g⟩ := q
    exact ⟨v, e, H.ag2 g⟩
  obtain ⟨u, u1, u2'⟩ := both8 (I := I) (L := L) ((L 1 3) ^^^ (L 2 3))
  unfold F_X8_both F_X8_both_9
  rw [u1, ob_some]
  repeat' (first | split | exact ⟨_, rfl, Ag2.rfl⟩ | exact ⟨_, rfl, u2'⟩)
theorem worth_some {I : WI} {L : WL} {r s : Int32} {n : Nat} (hn : n ≤ 4) : ∃ v, F_X9_worthOf I L r (Int32.ofNat n) s = some v := by
  have h80 : ∀ a b c d e f g k l, ∃ x y z, F_X9_worthOf_80_1 I L a b c d e f g k l = some (.inr (x, y, z, f + (-1))) := by
    intro a b c d e f g k l
    unfold F_X9_worthOf_80_1 F_X9_worthOf_115_1 F_X9_worthOf_107_1 F_X9_worthOf_116_1
    repeat' (first | split | exact ⟨_, _, _, rfl⟩)
  have h43 : ∀ a b c d e f g k, ∃ x y z, F_X9_worthOf_43_1 I L a b c d e f g k = some (.inr (x, y, z, g + (-1))) := by
    intro a b c d e f g k
    unfold F_X9_worthOf_43_1 F_X9_worthOf_79_1
    repeat' (first | split | exact h80 _ _ _ _ _ _ _ _ _)
  have h17 : ∀ a b c d e f g, ∃ x y z, F_X9_worthOf_17_1 I L a b c d e f g = if g < 0 then some (.inl (d, f)) else some (.inr (x, y, z, g + (-1))) := by
    intro a b c d e f g
    unfold F_X9_worthOf_17_1
    by_cases q : g < 0
    · rw [if_pos q]
      exact ⟨0, 0, 0, (if_pos q).symm⟩
    · rw [if_neg q]
      have : ∃ x y z, (if (g - g / 2 * 2) = 0 then (F_X9_worthOf_34_1 I L a b c d e f g 1) else (F_X9_worthOf_34_1 I L a b c d e f g 0)) = some (.inr (x, y, z, g + (-1))) := by
        unfold F_X9_worthOf_34_1
        repeat' (first | split | exact h43 _ _ _ _ _ _ _ _)
      obtain ⟨x, y, z, e'⟩ := this
      exact ⟨x, y, z, e'.trans (if_neg q).symm⟩
  have hz : (Int32.ofNat n - 1).toInt = (n : Int) - 1 := on_m1 (by omega)
  obtain ⟨v, v1, -⟩ := lpp_ms (f := fun x => F_X9_worthOf_17_1 I L r (Int32.ofNat n) s (p1 x) (p1 (p2 x)) (p1 (p2 (p2 x))) (p2 (p2 (p2 x)))) (fun x : Int64 × Int32 × Int32 × Int32 => -1 ≤ (p2 (p2 (p2 x))).toInt ∧ (p2 (p2 (p2 x))).toInt ≤ 3) (fun _ => True) (fun x => ((p2 (p2 (p2 x))).toInt + 1).toNat) (fun x hx => by
    obtain ⟨a, b, c, e⟩ := h17 r (Int32.ofNat n) s (p1 x) (p1 (p2 x)) (p1 (p2 (p2 x))) (p2 (p2 (p2 x)))
    show (∃ r', F_X9_worthOf_17_1 I L r (Int32.ofNat n) s (p1 x) (p1 (p2 x)) (p1 (p2 (p2 x))) (p2 (p2 (p2 x))) = some (.inl r') ∧ _) ∨ (∃ s', F_X9_worthOf_17_1 I L r (Int32.ofNat n) s (p1 x) (p1 (p2 x)) (p1 (p2 (p2 x))) (p2 (p2 (p2 x))) = some (.inr s') ∧ _)
    rw [e]
    by_cases q : p2 (p2 (p2 x)) < 0
    · rw [if_pos q]
      exact .inl ⟨_, rfl, trivial⟩
    · rw [if_neg q]
      rw [Int32.lt_iff_toInt_lt, z0] at q
      have e2 : (p2 (p2 (p2 x)) + (-1)).toInt = (p2 (p2 (p2 x))).toInt - 1 := by
        rw [ti_add] <;> rw [zm1] <;> omega
      refine .inr ⟨_, rfl, ⟨?_, ?_⟩, ?_⟩
      · show -1 ≤ (p2 (p2 (p2 x)) + (-1)).toInt
        omega
      · show (p2 (p2 (p2 x)) + (-1)).toInt ≤ 3
        omega
      · show ((p2 (p2 (p2 x)) + (-1)).toInt + 1).toNat < ((p2 (p2 (p2 x))).toInt + 1).toNat
        omega) 4294967296 (L 33 2, r, 1, Int32.ofNat n - 1) (by
      show ((Int32.ofNat n - 1).toInt + 1).toNat < _
      omega) ⟨by show -1 ≤ (Int32.ofNat n - 1).toInt; omega, by show (Int32.ofNat n - 1).toInt ≤ 3; omega⟩
  unfold F_X9_worthOf F_X9_worthOf_17
  rw [v1, ob_some]
  unfold F_X9_worthOf_125 F_X9_worthOf_140
  split <;> exact ⟨_, rfl⟩
theorem ag_tb {I : WI} {v : Int32} {W : Nat → Int32} : Ag I (tb I v W) := fun k j q => by
  unfold tb
  by_cases c : k = 33 ∧ j = 38
  · rw [c.1, c.2] at q
    exact absurd q (by decide)
  rw [if_neg c]
  by_cases d : k = 41
  · rw [d] at q
    exact absurd q (by simp [sc])
  rw [if_neg d]
theorem lines_n {I : WI} {h w : Nat} (hC : Cl h w) (e1 : I 1 1 = Int32.ofNat h) (e2 : I 1 2 = Int32.ofNat w) (k : Int32) : ∃ m, m ≤ 15 ∧ F_X0_linesOf I 1 k = Int32.ofNat m := by
  obtain ⟨⟨h1, h2⟩, h3, h4⟩ := hC
  unfold F_X0_linesOf
  rw [e1, e2]
  split
  · exact ⟨h, by omega, rfl⟩
  split
  · exact ⟨w, by omega, rfl⟩
  split
  · exact ⟨h + w - 1, by omega, by rw [oadd]; exact on_sub (b := 1) (by omega)⟩
  · exact ⟨0, by omega, rfl⟩
theorem duel8 {I : WI} {L : WL} {a2 a3 : Int32} {h w : Nat} (hC : Cl h w) (e1 : I 1 1 = Int32.ofNat h) (e2 : I 1 2 = Int32.ofNat w) (a1 : Int32) : ∃ v, F_X8_duel I L a1 a2 a3 = some v := by
  by_cases c : a1.toInt < 1 ∨ 4 < a1.toInt
  · unfold F_X8_duel F_X8_duel_19
    rcases c with c | c
    · rw [if_pos (by first | omega | (simp (disch := omega) only [Int32.lt_iff_toInt_lt, Int32.le_iff_toInt_le, ← Int32.toInt_inj, on_toInt, on_clamp, ti64, z0, z1, z2, zm1, i0, i1, im1, zz3, zz4, zz5, zz6, zz7, zz8, zz9, zz10, zz11, zz12, zz13, zz14, zz15, zz16, zz17, zz18, zz19, zz20, zz21, zz22, zz23, zz24, zz25, zz26, zz27, zz28, zz29, zz30, zz31, zz32, zz33, zz34, zz35, zz36, zz37, zz38, zz39, zz40, zz41, zz48, zz60, zz64, zz160, zz312, zz320, zzm2, zzm3, zzm4, zzm5, zzm6, zzm7, zzm8, zzm9, zzm10]; done) | (simp (disch := omega) only [Int32.lt_iff_toInt_lt, Int32.le_iff_toInt_le, ← Int32.toInt_inj, on_toInt, on_clamp, ti64, z0, z1, z2, zm1, i0, i1, im1, zz3, zz4, zz5, zz6, zz7, zz8, zz9, zz10, zz11, zz12, zz13, zz14, zz15, zz16, zz17, zz18, zz19, zz20, zz21, zz22, zz23, zz24, zz25, zz26, zz27, zz28, zz29, zz30, zz31, zz32, zz33, zz34, zz35, zz36, zz37, zz38, zz39, zz40, zz41, zz48, zz60, zz64, zz160, zz312, zz320, zzm2, zzm3, zzm4, zzm5, zzm6, zzm7, zzm8, zzm9, zzm10]; omega))]
      exact ⟨_, rfl⟩
    · rw [if_neg (by first | omega | (simp (disch := omega) only [Int32.lt_iff_toInt_lt, Int32.le_iff_toInt_le, ← Int32.toInt_inj, on_toInt, on_clamp, ti64, z0, z1, z2, zm1, i0, i1, im1, zz3, zz4, zz5, zz6, zz7, zz8, zz9, zz10, zz11, zz12, zz13, zz14, zz15, zz16, zz17, zz18, zz19, zz20, zz21, zz22, zz23, zz24, zz25, zz26, zz27, zz28, zz29, zz30, zz31, zz32, zz33, zz34, zz35, zz36, zz37, zz38, zz39, zz40, zz41, zz48, zz60, zz64, zz160, zz312, zz320, zzm2, zzm3, zzm4, zzm5, zzm6, zzm7, zzm8, zzm9, zzm10]; done) | (simp (disch := omega) only [Int32.lt_iff_toInt_lt, Int32.le_iff_toInt_le, ← Int32.toInt_inj, on_toInt, on_clamp, ti64, z0, z1, z2, zm1, i0, i1, im1, zz3, zz4, zz5, zz6, zz7, zz8, zz9, zz10, zz11, zz12, zz13, zz14, zz15, zz16, zz17, zz18, zz19, zz20, zz21, zz22, zz23, zz24, zz25, zz26, zz27, zz28, zz29, zz30, zz31, zz32, zz33, zz34, zz35, zz36, zz37, zz38, zz39, zz40, zz41, zz48, zz60, zz64, zz160, zz312, zz320, zzm2, zzm3, zzm4, zzm5, zzm6, zzm7, zzm8, zzm9, zzm10]; omega)), if_pos (by first | omega | (simp (disch := omega) only [Int32.lt_iff_toInt_lt, Int32.le_iff_toInt_le, ← Int32.toInt_inj, on_toInt, on_clamp, ti64, z0, z1, z2, zm1, i0, i1, im1, zz3, zz4, zz5, zz6, zz7, zz8, zz9, zz10, zz11, zz12, zz13, zz14, zz15, zz16, zz17, zz18, zz19, zz20, zz21, zz22, zz23, zz24, zz25, zz26, zz27, zz28, zz29, zz30, zz31, zz32, zz33, zz34, zz35, zz36, zz37, zz38, zz39, zz40, zz41, zz48, zz60, zz64, zz160, zz312, zz320, zzm2, zzm3, zzm4, zzm5, zzm6, zzm7, zzm8, zzm9, zzm10]; done) | (simp (disch := omega) only [Int32.lt_iff_toInt_lt, Int32.le_iff_toInt_le, ← Int32.toInt_inj, on_toInt, on_clamp, ti64, z0, z1, z2, zm1, i0, i1, im1, zz3, zz4, zz5, zz6, zz7, zz8, zz9, zz10, zz11, zz12, zz13, zz14, zz15, zz16, zz17, zz18, zz19, zz20, zz21, zz22, zz23, zz24, zz25, zz26, zz27, zz28, zz29, zz30, zz31, zz32, zz33, zz34, zz35, zz36, zz37, zz38, zz39, zz40, zz41, zz48, zz60, zz64, zz160, zz312, zz320, zzm2, zzm3, zzm4, zzm5, zzm6, zzm7, zzm8, zzm9, zzm10]; omega))]
      exact ⟨_, rfl⟩
  have hd : (a1 - 1).toInt ≤ 3 := by
    rw [ti_sub] <;> rw [z1] <;> omega
  have h56 : ∀ a b x y, ∃ v, F_X8_duel_56_1 I L a1 a2 a3 a b x y = some v := by
    intro a b x y
    unfold F_X8_duel_56_1 F_X8_duel_91_1 F_X8_duel_114_1 F_X8_duel_122_1
    rw [if_pos hd, if_pos hd]
    repeat' (first | split | exact ⟨_, rfl⟩)
  have h128 : ∀ x y, ∃ v, F_X8_duel_128 I L a1 a2 a3 x y = some v := by
    intro x y
    unfold F_X8_duel_128 F_X8_duel_151 F_X8_duel_175 F_X8_duel_186
    rw [if_pos hd, if_pos hd]
    repeat' (first | split | exact ⟨_, rfl⟩)
  have h30 : ∀ k, ∃ v, F_X8_duel_30 I L a1 a2 a3 k = some v := by
    intro k
    obtain ⟨m, hm, em⟩ := lines_n hC e1 e2 k
    obtain ⟨e, q1, -⟩ := ag_frp (g := fun i x => F_X8_duel_56_1 I L a1 a2 a3 k i (p1 x) (p2 x)) (b := m) (by omega) (fun _ => True) (s := (8, 0)) trivial (fun i x _ _ => by
      obtain ⟨v, hv⟩ := h56 k (Int32.ofNat i) (p1 x) (p2 x)
      exact ⟨v, hv, trivial⟩)
    obtain ⟨v, hv⟩ := h128 (p1 (p2 e)) (p2 (p2 e))
    refine ⟨v, ?_⟩
    show (frp0 (fun i x => F_X8_duel_56_1 I L a1 a2 a3 k i (p1 x) (p2 x)) (F_X0_linesOf I 1 k) (fu 0 (F_X0_linesOf I 1 k)) 0 (8, 0)).bind _ = _
    rw [em, q1]
    exact hv
  unfold F_X8_duel F_X8_duel_19
  repeat' (first | split | exact ⟨_, rfl⟩ | exact h30 _)
theorem duel9 {I : WI} {L : WL} {a2 a3 : Int32} (a1 : Int32) : ∃ w, F_X9_duel I L a1 a2 a3 = some w ∧ Ag I (p2 w) := by
  by_cases c : (1 ≤ a1.toInt ∧ a1.toInt ≤ 4) ∧ 0 ≤ a3.toInt ∧ a3.toInt ≤ 1
  · obtain ⟨n, rfl, hn, -⟩ := nn (show 0 ≤ a1.toInt by omega)
    obtain ⟨q, rfl, hq, -⟩ := nn c.2.1
    rw [hn, hq] at c
    obtain ⟨v', e, -⟩ := duel_eq (I := I) (L := L) (a2 := a2) (n := n) (q := q) (w := fun j => (F_X9_worthOf I L (Int32.ofNat j) (Int32.ofNat n) a2).getD 0) (by omega) (by omega) (by omega) (fun v W j _ => by
      rw [worthOf_tb]
      obtain ⟨u, hu⟩ := worth_some (I := I) (L := L) (r := Int32.ofNat j) (s := a2) (show n ≤ 4 by omega)
      rw [hu]
      rfl)
    exact ⟨_, e, ag_tb⟩
  · refine ⟨(-1, I), ?_, Ag.rfl⟩
    unfold F_X9_duel F_X9_duel_22
    rw [in_eq, in_eq, i0, i1, show (4 : Int64).toInt = 4 by decide]
    by_cases d : 1 ≤ a1.toInt ∧ a1.toInt ≤ 4
    · rw [if_pos d, if_neg (show ¬ (1 : Int32) = 0 by decide), if_neg (show ¬ (0 ≤ a3.toInt ∧ a3.toInt ≤ 1) from fun e => c ⟨d, e⟩), if_pos rfl]
    · rw [if_neg d, if_pos rfl]
theorem N_22 {I : WI} {L : WL} {a1 a2 a3 : Int32} (H : Inv I L) : ∃ v, (F_X8_duel I L a1 (nz a2) a3) = some v ∧ ∃ w, (F_X9_duel I L a1 (nz a2) a3) = some w ∧ Inv (p2 w) L := by
  obtain ⟨h, w, hC, c1, c2, c3, c4⟩ := H.size
  obtain ⟨v, hv⟩ := duel8 (L := L) (a2 := nz a2) (a3 := a3) hC c1 c2 a1
  obtain ⟨u, h1, h2⟩ := duel9 (I := I) (L := L) (a2 := nz a2) (a3 := a3) a1
  exact ⟨v, hv, u, h1, H.ag h2 Ag.rfl⟩
