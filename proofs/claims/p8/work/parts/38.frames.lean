/-! power: it ends, what is kept stays -/
theorem indep3 {I : WI} {L K : WL} {a1 a3 a4 : Int32} {m : Nat} (hm : m ≤ 31) (x : Int64) : ∃ r, lpp (fun y => F_X8_independentLines_40_3 I K a1 a3 a4 (Int32.ofNat m) (p1 y) (p2 y)) 4294967296 (x, 0) = some r := by
  have h40 : ∀ y i, i ≤ m → ∃ z, F_X8_independentLines_40_3 I K a1 a3 a4 (Int32.ofNat m) y (Int32.ofNat i) = if m ≤ i then some (.inl y) else some (.inr (z, Int32.ofNat (i + 1))) := by
    intro y i hi
    unfold F_X8_independentLines_40_3 F_X8_independentLines_97_3
    by_cases c : m ≤ i
    · rw [if_pos ((ge_on (by omega) (by omega)).mpr c)]
      exact ⟨0, (if_pos c).symm⟩
    · rw [if_neg fun q => c ((ge_on (by omega) (by omega)).mp q), if_neg (by first | omega | (simp (disch := omega) only [Int32.lt_iff_toInt_lt, Int32.le_iff_toInt_le, ← Int32.toInt_inj, on_toInt, on_clamp, ti64, z0, z1, z2, zm1, i0, i1, im1, zz3, zz4, zz5, zz6, zz7, zz8, zz9, zz10, zz11, zz12, zz13, zz14, zz15, zz16, zz17, zz18, zz19, zz20, zz21, zz22, zz23, zz24, zz25, zz26, zz27, zz28, zz29, zz30, zz31, zz32, zz33, zz34, zz35, zz36, zz37, zz38, zz39, zz40, zz41, zz48, zz60, zz64, zz160, zz312, zz320, zzm2, zzm3, zzm4, zzm5, zzm6, zzm7, zzm8, zzm9, zzm10]; done) | (simp (disch := omega) only [Int32.lt_iff_toInt_lt, Int32.le_iff_toInt_le, ← Int32.toInt_inj, on_toInt, on_clamp, ti64, z0, z1, z2, zm1, i0, i1, im1, zz3, zz4, zz5, zz6, zz7, zz8, zz9, zz10, zz11, zz12, zz13, zz14, zz15, zz16, zz17, zz18, zz19, zz20, zz21, zz22, zz23, zz24, zz25, zz26, zz27, zz28, zz29, zz30, zz31, zz32, zz33, zz34, zz35, zz36, zz37, zz38, zz39, zz40, zz41, zz48, zz60, zz64, zz160, zz312, zz320, zzm2, zzm3, zzm4, zzm5, zzm6, zzm7, zzm8, zzm9, zzm10]; omega)), if_neg (nin (k := i) (N := 31) (by omega) (by decide)), if_neg (nin (k := i) (N := 31) (by omega) (by decide)), if_neg (nin (k := i) (N := 31) (by omega) (by decide)), la1]
      split
      · first | exact ⟨_, rfl⟩ | exact ⟨_, (if_neg c).symm⟩
      · first | exact ⟨_, rfl⟩ | exact ⟨_, (if_neg c).symm⟩
  obtain ⟨r, r1, -⟩ := lpp_ms (f := fun y => F_X8_independentLines_40_3 I K a1 a3 a4 (Int32.ofNat m) (p1 y) (p2 y)) (fun y : Int64 × Int32 => ∃ i, i ≤ m ∧ p2 y = Int32.ofNat i) (fun _ => True) (fun y => m - (p2 y).toNatClampNeg) (fun y hy => by
    obtain ⟨i, hi, hy⟩ := hy
    obtain ⟨z, e⟩ := h40 (p1 y) i hi
    show (∃ r, F_X8_independentLines_40_3 I K a1 a3 a4 (Int32.ofNat m) (p1 y) (p2 y) = some (.inl r) ∧ _) ∨ (∃ s', F_X8_independentLines_40_3 I K a1 a3 a4 (Int32.ofNat m) (p1 y) (p2 y) = some (.inr s') ∧ _)
    rw [hy, e]
    by_cases c : m ≤ i
    · rw [if_pos c]
      exact .inl ⟨_, rfl, trivial⟩
    · rw [if_neg c]
      refine .inr ⟨_, rfl, ⟨i + 1, by omega, rfl⟩, ?_⟩
      show m - (Int32.ofNat (i + 1)).toNatClampNeg < m - (Int32.ofNat i).toNatClampNeg
      rw [on_clamp (n := i + 1) (by omega), on_clamp (n := i) (by omega)]
      omega) 4294967296 (x, 0) (by
    show m - (0 : Int32).toNatClampNeg < _
    omega) ⟨0, Nat.zero_le _, rfl⟩
  exact ⟨r, r1⟩
theorem indep2 {I : WI} {L K : WL} {a1 a3 a4 : Int32} {m : Nat} (hm : m ≤ 31) (hK : Ag L K) : ∃ v, F_X8_independentLines_25_2 I K a1 a3 a4 (Int32.ofNat m) = some v ∧ Ag L (p2 v) ∧ ∃ n, n ≤ 31 ∧ p1 v = Int32.ofNat n := by
  obtain ⟨r, r1⟩ := indep3 (I := I) (L := L) (K := K) (a1 := a1) (a3 := a3) (a4 := a4) hm (F_X0_squaresOf I 1 a3 a4)
  unfold F_X8_independentLines_25_2 F_X8_independentLines_40_2
  rw [r1, ob_some]
  unfold F_X8_independentLines_106_2 F_X8_independentLines_133_2
  split
  · exact ⟨_, rfl, hK, m, hm, rfl⟩
  by_cases c : m = 31
  · rw [if_pos (by first | omega | (simp (disch := omega) only [Int32.lt_iff_toInt_lt, Int32.le_iff_toInt_le, ← Int32.toInt_inj, on_toInt, on_clamp, ti64, z0, z1, z2, zm1, i0, i1, im1, zz3, zz4, zz5, zz6, zz7, zz8, zz9, zz10, zz11, zz12, zz13, zz14, zz15, zz16, zz17, zz18, zz19, zz20, zz21, zz22, zz23, zz24, zz25, zz26, zz27, zz28, zz29, zz30, zz31, zz32, zz33, zz34, zz35, zz36, zz37, zz38, zz39, zz40, zz41, zz48, zz60, zz64, zz160, zz312, zz320, zzm2, zzm3, zzm4, zzm5, zzm6, zzm7, zzm8, zzm9, zzm10]; done) | (simp (disch := omega) only [Int32.lt_iff_toInt_lt, Int32.le_iff_toInt_le, ← Int32.toInt_inj, on_toInt, on_clamp, ti64, z0, z1, z2, zm1, i0, i1, im1, zz3, zz4, zz5, zz6, zz7, zz8, zz9, zz10, zz11, zz12, zz13, zz14, zz15, zz16, zz17, zz18, zz19, zz20, zz21, zz22, zz23, zz24, zz25, zz26, zz27, zz28, zz29, zz30, zz31, zz32, zz33, zz34, zz35, zz36, zz37, zz38, zz39, zz40, zz41, zz48, zz60, zz64, zz160, zz312, zz320, zzm2, zzm3, zzm4, zzm5, zzm6, zzm7, zzm8, zzm9, zzm10]; omega))]
    exact ⟨_, rfl, hK, m, hm, rfl⟩
  · rw [if_neg (by first | omega | (simp (disch := omega) only [Int32.lt_iff_toInt_lt, Int32.le_iff_toInt_le, ← Int32.toInt_inj, on_toInt, on_clamp, ti64, z0, z1, z2, zm1, i0, i1, im1, zz3, zz4, zz5, zz6, zz7, zz8, zz9, zz10, zz11, zz12, zz13, zz14, zz15, zz16, zz17, zz18, zz19, zz20, zz21, zz22, zz23, zz24, zz25, zz26, zz27, zz28, zz29, zz30, zz31, zz32, zz33, zz34, zz35, zz36, zz37, zz38, zz39, zz40, zz41, zz48, zz60, zz64, zz160, zz312, zz320, zzm2, zzm3, zzm4, zzm5, zzm6, zzm7, zzm8, zzm9, zzm10]; done) | (simp (disch := omega) only [Int32.lt_iff_toInt_lt, Int32.le_iff_toInt_le, ← Int32.toInt_inj, on_toInt, on_clamp, ti64, z0, z1, z2, zm1, i0, i1, im1, zz3, zz4, zz5, zz6, zz7, zz8, zz9, zz10, zz11, zz12, zz13, zz14, zz15, zz16, zz17, zz18, zz19, zz20, zz21, zz22, zz23, zz24, zz25, zz26, zz27, zz28, zz29, zz30, zz31, zz32, zz33, zz34, zz35, zz36, zz37, zz38, zz39, zz40, zz41, zz48, zz60, zz64, zz160, zz312, zz320, zzm2, zzm3, zzm4, zzm5, zzm6, zzm7, zzm8, zzm9, zzm10]; omega)), if_neg (nin (k := m) (N := 31) (by omega) (by decide)), on_clamp (n := m) (by omega), la1]
    exact ⟨_, rfl, hK.u rfl, m + 1, by omega, rfl⟩
theorem indep {I : WI} {L : WL} {h w k : Nat} (hC : Cl h w) (e1 : I 1 1 = Int32.ofNat h) (e2 : I 1 2 = Int32.ofNat w) (hk : k ≤ 2) : ∃ v, F_X8_independentLines I L (Int32.ofNat k) = some v ∧ Ag L (p2 v) := by
  have h12 : ∀ K a i m, Ag L K → m ≤ 31 → ∃ v, F_X8_independentLines_12_1 I K a (Int32.ofNat m) (Int32.ofNat i) 0 = some (.inr v) ∧ Ag L (p2 (p2 v)) ∧ (∃ n, n ≤ 31 ∧ p1 v = Int32.ofNat n) ∧ p1 (p2 v) = Int32.ofNat (i + 1) := by
    intro K a i m hK hm
    obtain ⟨t, ht, et⟩ := lines_n hC e1 e2 (Int32.ofNat i)
    obtain ⟨q, q1, q2, n, q3, q4⟩ := ag_frp (g := fun j x => F_X8_independentLines_25_2 I (p2 x) a (Int32.ofNat i) j (p1 x)) (b := t) (by omega) (fun x : Int32 × WL => Ag L (p2 x) ∧ ∃ n, n ≤ 31 ∧ p1 x = Int32.ofNat n) (s := (Int32.ofNat m, K)) ⟨hK, m, hm, rfl⟩ (fun j x _ hx => by
      obtain ⟨x1, n, x2, x3⟩ := hx
      obtain ⟨v, v1, v2, v3⟩ := indep2 (I := I) (a1 := a) (a3 := Int32.ofNat i) (a4 := Int32.ofNat j) x2 x1
      refine ⟨v, ?_, v2, v3⟩
      show F_X8_independentLines_25_2 I (p2 x) a (Int32.ofNat i) (Int32.ofNat j) (p1 x) = _
      rw [x3, v1])
    unfold F_X8_independentLines_12_1
    rw [et, q1, ob_some]
    refine ⟨_, rfl, q2, ⟨n, q3, q4⟩, ?_⟩
    show Int32.ofNat i + 1 = _
    rw [la1]
  obtain ⟨r, r1, r2⟩ := lpp_ms (f := fun x => F_X8_independentLines_4_1 I (p2 (p2 x)) (Int32.ofNat k) (p1 x) (p1 (p2 x))) (fun x : Int32 × Int32 × WL => Ag L (p2 (p2 x)) ∧ (∃ n, n ≤ 31 ∧ p1 x = Int32.ofNat n) ∧ ∃ i, i ≤ k + 1 ∧ p1 (p2 x) = Int32.ofNat i) (fun x : Int32 × WL => Ag L (p2 x)) (fun x => k + 1 - (p1 (p2 x)).toNatClampNeg) (fun x hx => by
    obtain ⟨x1, ⟨n, x2, x3⟩, i, x4, x5⟩ := hx
    show (∃ r, F_X8_independentLines_4_1 I (p2 (p2 x)) (Int32.ofNat k) (p1 x) (p1 (p2 x)) = some (.inl r) ∧ _) ∨ (∃ s', F_X8_independentLines_4_1 I (p2 (p2 x)) (Int32.ofNat k) (p1 x) (p1 (p2 x)) = some (.inr s') ∧ _)
    rw [x3, x5]
    unfold F_X8_independentLines_4_1
    by_cases c : k < i
    · rw [if_pos ((lt_onn (by omega) (by omega)).mpr c)]
      exact .inl ⟨_, rfl, x1⟩
    · rw [if_neg fun q => c ((lt_onn (by omega) (by omega)).mp q)]
      obtain ⟨v, v1, v2, v3, v4⟩ := h12 (p2 (p2 x)) (Int32.ofNat k) i n x1 x2
      refine .inr ⟨v, v1, ⟨v2, v3, i + 1, by omega, v4⟩, ?_⟩
      show k + 1 - (p1 (p2 v)).toNatClampNeg < k + 1 - (Int32.ofNat i).toNatClampNeg
      rw [v4, on_clamp (n := i + 1) (by omega), on_clamp (n := i) (by omega)]
      omega) 4294967296 (0, 0, L) (by
    show k + 1 - (0 : Int32).toNatClampNeg < _
    omega) ⟨Ag.rfl, ⟨0, by decide, rfl⟩, 0, Nat.zero_le _, rfl⟩
  refine ⟨(p1 r, p2 r), ?_, r2⟩
  unfold F_X8_independentLines F_X8_independentLines_4
  rw [r1]
  rfl
theorem power8 {I : WI} {L : WL} {a1 : Int32} {h w : Nat} (hC : Cl h w) (e1 : I 1 1 = Int32.ofNat h) (e2 : I 1 2 = Int32.ofNat w) : ∃ v, F_X8_power I L a1 = some v ∧ Ag L (p2 v) := by
  obtain ⟨v, v1, v2⟩ := indep (L := L) (k := 1) hC e1 e2 (by decide)
  obtain ⟨u, u1, u2'⟩ := indep (L := L) (k := 2) hC e1 e2 (by decide)
  unfold F_X8_power F_X8_power_24
  rw [show (1 : Int32) = Int32.ofNat 1 from rfl, show (2 : Int32) = Int32.ofNat 2 from rfl, v1, u1, ob_some, ob_some]
  repeat' (first | split | exact ⟨_, rfl, Ag.rfl⟩ | exact ⟨_, rfl, v2⟩ | exact ⟨_, rfl, u2'⟩)
theorem isNew_ag {L K : WL} (hK : Ag L K) (x : Int64) : ∃ v, F_X9_isNew K x = some v ∧ Ag L (p2 v) := by
  obtain ⟨r, r1, r2⟩ := lpp_ms (f := fun y => F_X9_isNew_6_1 K x (p1 y) (p2 y)) (fun y : Int64 × Int32 => -1 ≤ (p2 y).toInt ∧ (p2 y).toInt ≤ 63) (fun r : (Int32 × WL) ⊕ Unit => match r with
    | .inl v => Ag L (p2 v)
    | .inr _ => True) (fun y => ((p2 y).toInt + 1).toNat) (fun y hy => by
    obtain ⟨y1, y2⟩ := hy
    show (∃ r, F_X9_isNew_6_1 K x (p1 y) (p2 y) = some (.inl r) ∧ _) ∨ (∃ s', F_X9_isNew_6_1 K x (p1 y) (p2 y) = some (.inr s') ∧ _)
    unfold F_X9_isNew_6_1
    by_cases c : p2 y < 0
    · rw [if_pos c]
      exact .inl ⟨_, rfl, trivial⟩
    rw [if_neg c]
    rw [Int32.lt_iff_toInt_lt, z0] at c
    obtain ⟨i, hi, hz, _⟩ := nn (show 0 ≤ (p2 y).toInt by omega)
    have hs : ∀ z, (∃ s', F_X9_isNew_54_1 K x z (p2 y) = some (.inr s') ∧ (-1 ≤ (p2 s').toInt ∧ (p2 s').toInt ≤ 63) ∧ ((p2 s').toInt + 1).toNat < ((p2 y).toInt + 1).toNat) := by
      intro z
      have e2 : (p2 y + (-1)).toInt = (p2 y).toInt - 1 := by
        rw [ti_add] <;> rw [zm1] <;> omega
      refine ⟨_, rfl, ⟨?_, ?_⟩, ?_⟩
      · show -1 ≤ (p2 y + (-1)).toInt
        omega
      · show (p2 y + (-1)).toInt ≤ 63
        omega
      · show ((p2 y + (-1)).toInt + 1).toNat < _
        omega
    have hn : ¬ (p2 y < 0 ∨ 64 ≤ (p2 y).toNatClampNeg) := by
      rw [hi]
      exact nin (k := i) (N := 64) (by omega) (by decide)
    rw [if_neg hn, if_neg hn, if_neg hn]
    split
    · split
      · exact .inl ⟨_, rfl, hK.u rfl⟩
      · exact .inr (hs _)
    · exact .inr (hs _)) 4294967296 (x, 63) (by
    show ((63 : Int32).toInt + 1).toNat < _
    decide) ⟨show -1 ≤ (63 : Int32).toInt by decide, show (63 : Int32).toInt ≤ 63 by decide⟩
  unfold F_X9_isNew F_X9_isNew_6
  rw [r1, ob_some]
  cases r with
  | inl v => exact ⟨v, rfl, r2⟩
  | inr _ => exact ⟨(0, K), rfl, hK⟩
theorem power9 {I : WI} {L : WL} {a1 : Int32} {h w : Nat} (hC : Cl h w) (e3 : I 33 0 = Int32.ofNat h) (e4 : I 33 1 = Int32.ofNat w) : ∃ v, F_X9_power I L a1 = some v ∧ Ag L (p2 v) := by
  have hC2 := hC
  obtain ⟨⟨h1, h2⟩, h3, h4⟩ := hC2
  have hlz : ∀ a, lz a h w ≤ 15 := by
    intro a
    unfold lz
    repeat' split
    all_goals omega
  have h47 : ∀ K b i, Ag L K → ∃ v, F_X9_power_47_2 I K a1 b (Int32.ofNat i) 0 = some (.inr v) ∧ Ag L (p2 (p2 v)) ∧ p1 (p2 v) = Int32.ofNat (i + 1) := by
    intro K b i hK
    obtain ⟨r, r1, r2⟩ := lpp_ms (f := fun x => F_X9_power_47_3 I (p2 (p2 x)) a1 (Int32.ofNat i) (p1 x) (p1 (p2 x))) (fun x : Int32 × Int32 × WL => Ag L (p2 (p2 x)) ∧ ∃ j, j ≤ 15 ∧ p1 (p2 x) = Int32.ofNat j) (fun x : Int32 × WL => Ag L (p2 x)) (fun x => 15 - (p1 (p2 x)).toNatClampNeg) (fun x hx => by
      obtain ⟨x1, j, x2, x3⟩ := hx
      show (∃ r, F_X9_power_47_3 I (p2 (p2 x)) a1 (Int32.ofNat i) (p1 x) (p1 (p2 x)) = some (.inl r) ∧ _) ∨ (∃ s', F_X9_power_47_3 I (p2 (p2 x)) a1 (Int32.ofNat i) (p1 x) (p1 (p2 x)) = some (.inr s') ∧ _)
      rw [x3]
      unfold F_X9_power_47_3
      rw [isAct_eq hC e3 e4, ob_some]
      by_cases c : 0 ≤ (Int32.ofNat j).toInt ∧ (Int32.ofNat j).toInt < lz (Int32.ofNat i) h w
      · rw [if_pos c, if_neg (show ¬ (1 : Int32) = 0 by decide)]
        obtain ⟨v, v1, v2⟩ := isNew_ag x1 (F_X9_actSet I (Int32.ofNat i) (Int32.ofNat j))
        rw [v1, ob_some, la1]
        have hj : j < 15 := by
          have := hlz (Int32.ofNat i)
          rw [on_toInt (show j < 2147483648 by omega)] at c
          omega
        refine .inr ⟨_, rfl, ⟨v2, j + 1, by omega, rfl⟩, ?_⟩
        show 15 - (Int32.ofNat (j + 1)).toNatClampNeg < 15 - (Int32.ofNat j).toNatClampNeg
        rw [on_clamp (n := j + 1) (by omega), on_clamp (n := j) (by omega)]
        omega
      · rw [if_neg c, if_pos rfl]
        exact .inl ⟨_, rfl, x1⟩) 4294967296 (b, 0, K) (by
      show 15 - (0 : Int32).toNatClampNeg < _
      omega) ⟨hK, 0, by decide, rfl⟩
    unfold F_X9_power_47_2
    rw [r1, ob_some]
    refine ⟨_, rfl, r2, ?_⟩
    show Int32.ofNat i + 1 = _
    rw [la1]
  by_cases c : 0 ≤ a1.toInt ∧ a1.toInt ≤ 1
  · obtain ⟨k, rfl, hk, -⟩ := nn c.1
    rw [hk] at c
    obtain ⟨e, q1, q2⟩ := ag_frp (g := fun i y => F_X9_power_20_1 I y (Int32.ofNat k) i) (b := 64) (by decide) (fun y => Ag L y) Ag.rfl (fun i y hi hy => by
      refine ⟨u2 y 40 i 0, ?_, hy.u rfl⟩
      show F_X9_power_20_1 I y (Int32.ofNat k) (Int32.ofNat i) = _
      unfold F_X9_power_20_1
      rw [if_neg (nin (k := i) (N := 64) hi (by decide)), on_clamp (n := i) (by omega)])
    obtain ⟨r, r1, r2⟩ := lpp_ms (f := fun x => F_X9_power_37_2 I (p2 (p2 x)) (Int32.ofNat k) (p1 x) (p1 (p2 x))) (fun x : Int32 × Int32 × WL => Ag L (p2 (p2 x)) ∧ ∃ i, i ≤ k + 2 ∧ p1 (p2 x) = Int32.ofNat i) (fun x : Int32 × WL => Ag L (p2 x)) (fun x => k + 2 - (p1 (p2 x)).toNatClampNeg) (fun x hx => by
      obtain ⟨x1, i, x4, x5⟩ := hx
      show (∃ r, F_X9_power_37_2 I (p2 (p2 x)) (Int32.ofNat k) (p1 x) (p1 (p2 x)) = some (.inl r) ∧ _) ∨ (∃ s', F_X9_power_37_2 I (p2 (p2 x)) (Int32.ofNat k) (p1 x) (p1 (p2 x)) = some (.inr s') ∧ _)
      rw [x5]
      unfold F_X9_power_37_2
      rw [la1]
      by_cases d : k + 1 < i
      · rw [if_pos ((lt_onn (by omega) (by omega)).mpr d)]
        exact .inl ⟨_, rfl, x1⟩
      · rw [if_neg fun q => d ((lt_onn (by omega) (by omega)).mp q)]
        obtain ⟨v, v1, v2, v3⟩ := h47 (p2 (p2 x)) (p1 x) i x1
        refine .inr ⟨v, v1, ⟨v2, i + 1, by omega, v3⟩, ?_⟩
        show k + 2 - (p1 (p2 v)).toNatClampNeg < k + 2 - (Int32.ofNat i).toNatClampNeg
        rw [v3, on_clamp (n := i + 1) (by omega), on_clamp (n := i) (by omega)]
        omega) 4294967296 (0, 0, p2 e) (by
      show k + 2 - (0 : Int32).toNatClampNeg < _
      omega) ⟨q2, 0, Nat.zero_le _, rfl⟩
    refine ⟨(p1 r, p2 r), ?_, r2⟩
    unfold F_X9_power
    rw [in_eq, i0, i1, hk, if_pos c, if_neg (show ¬ (1 : Int32) = 0 by decide)]
    show (frp0 (fun i y => F_X9_power_20_1 I y (Int32.ofNat k) i) (Int32.ofNat 64) (fu 0 (Int32.ofNat 64)) 0 L).bind _ = _
    rw [q1, ob_some]
    unfold F_X9_power_33 F_X9_power_37
    rw [r1]
    rfl
  · unfold F_X9_power
    rw [in_eq, i0, i1, if_neg c, if_pos rfl]
    exact ⟨_, rfl, Ag.rfl⟩
theorem N_21 {I : WI} {L : WL} {a1 : Int32} (H : Inv I L) : ∃ v, (F_X8_power I L a1) = some v ∧ ∃ w, (F_X9_power I (p2 v) a1) = some w ∧ Inv I (p2 w) := by
  obtain ⟨h, w, hC, c1, c2, c3, c4⟩ := H.size
  obtain ⟨v, v1, v2⟩ := power8 (L := L) (a1 := a1) hC c1 c2
  obtain ⟨u, u1, u2'⟩ := power9 (L := p2 v) (a1 := a1) hC c3 c4
  exact ⟨v, v1, u, u1, H.ag Ag.rfl (v2.trans u2')⟩
