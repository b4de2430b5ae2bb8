/-! with slants, power: they end, what is kept stays -/
theorem frp1_some {R S : Type} {g : Int32 → S → Option (R ⊕ S)} {b : Nat} (hb : b < 2147483648) (h : ∀ i s, i < b → ∃ v, g (Int32.ofNat i) s = some v) : ∀ (n c : Nat) (s : S), c + n = b → ∃ v, frp1 g (Int32.ofNat b) n (Int32.ofNat c) s = some v := by
  intro n
  induction n with
  | zero => intro c s _; exact ⟨_, by rw [frp1]⟩
  | succ n ih =>
    intro c s hc
    rw [frp1]
    have hl : ¬ Int32.ofNat b ≤ Int32.ofNat c := fun q => absurd ((ge_on hb (by omega)).mp q) (by omega)
    rw [if_neg hl]
    obtain ⟨v, hv⟩ := h c s (by omega)
    rw [hv]
    cases v with
    | inl r => exact ⟨_, rfl⟩
    | inr s' =>
      rw [la1]
      exact ih (c + 1) s' (by omega)
theorem slantsMake {L : WL} (x : Int64) : ∃ v, F_X7_slantsThatMake L x = some v := by
  have h15 : ∀ i s, i < 15 → ∃ v, F_X7_slantsThatMake_15_1 L x (Int32.ofNat i) s = some v := by
    intro i s hi
    unfold F_X7_slantsThatMake_15_1 F_X7_slantsThatMake_48_1 F_X7_slantsThatMake_62_1
    rw [if_neg (nin (k := i) (N := 15) hi (by decide)), if_neg (nin (k := i) (N := 15) hi (by decide))]
    repeat' (first | split | exact ⟨_, rfl⟩)
  obtain ⟨v, hv⟩ := frp1_some (g := fun i s => F_X7_slantsThatMake_15_1 L x i s) (b := 15) (by decide) h15 15 0 0 (by decide)
  cases v with
  | inl r =>
    refine ⟨r, ?_⟩
    show (frp1 (fun i s => F_X7_slantsThatMake_15_1 L x i s) (Int32.ofNat 15) 15 (Int32.ofNat 0) 0).bind _ = _
    rw [hv]
    rfl
  | inr q =>
    refine ⟨p2 q, ?_⟩
    show (frp1 (fun i s => F_X7_slantsThatMake_15_1 L x i s) (Int32.ofNat 15) 15 (Int32.ofNat 0) 0).bind _ = _
    rw [hv]
    rfl
theorem try_ag {I J : WI} {L : WL} {a b : Int32} {x : Int64} (hJ : Ag I J) : ∃ K, F_X7_trySlants J L a b x = some K ∧ Ag I K := by
  obtain ⟨v, hv⟩ := slantsMake (L := L) x
  unfold F_X7_trySlants F_X7_trySlants_46 F_X7_trySlants_59
  rw [hv, ob_some]
  have h1 : Ag I (F_X7_take (u2 J 27 0 1) a b v) := ag_take' (hJ.u rfl)
  repeat' (first | split | exact ⟨_, rfl, hJ⟩ | exact ⟨_, rfl, h1⟩)
theorem slant8 {I : WI} {L : WL} {h w : Nat} (hC : Cl h w) (e1 : I 1 1 = Int32.ofNat h) (e2 : I 1 2 = Int32.ofNat w) (x : Int64) : ∃ v, F_X7_findSlanted I L 1 x = some v ∧ Ag2 I L v := by
  obtain ⟨⟨h1, h2⟩, h3, h4⟩ := hC
  have hph := pow_le h2
  have hpw := pow_le h4
  have hrow : ∀ J, Ag I J → F_X0_everyRow J 1 = Int32.ofNat (2 ^ h - 1) := by
    intro J hJ
    unfold F_X0_everyRow
    rw [hJ 1 1 rfl, e1]
    exact every_p h (by omega)
  have hcol : ∀ J, Ag I J → F_X0_everyColumn J 1 = Int32.ofNat (2 ^ w - 1) := by
    intro J hJ
    unfold F_X0_everyColumn
    rw [hJ 1 2 rfl, e2]
    exact every_p w (by omega)
  obtain ⟨e, f1, f2⟩ := ag_frp (g := fun i y => F_X7_findSlanted_13_1 I y 1 x i) (b := 15) (by decide) (fun y => Ag L y) Ag.rfl (fun i y hi hy => by
    refine ⟨u2 y 28 i (F_X0_squaresOf I 1 2 (Int32.ofNat i)), ?_, hy.u rfl⟩
    show F_X7_findSlanted_13_1 I y 1 x (Int32.ofNat i) = _
    unfold F_X7_findSlanted_13_1
    rw [if_neg (nin (k := i) (N := 15) hi (by decide)), on_clamp (n := i) (by omega)])
  generalize hK : p2 e = K at f2
  have hin : ∀ J i, Ag I J → ∃ N, F_X7_findSlanted_53_2 J K 1 x (Int32.ofNat i) 0 = some (.inr (Int32.ofNat (i + 1), N)) ∧ Ag I N := by
    intro J i hJ
    obtain ⟨r, r1, r2⟩ := lpp_cnt (f := fun y => F_X7_findSlanted_53_3 (p2 y) K 1 x (Int32.ofNat i) (p1 y)) (m := 2 ^ w) (fun _ N => Ag I N) (fun N => Ag I N) (fun j N hj hN => by
      obtain ⟨N', n1, n2⟩ := try_ag (L := K) (a := Int32.ofNat i) (b := Int32.ofNat j) (x := x ^^^ (F_X0_squaresTurned N 1 (Int32.ofNat i) (Int32.ofNat j))) hN
      refine ⟨N', ?_, n2⟩
      show F_X7_findSlanted_53_3 N K 1 x (Int32.ofNat i) (Int32.ofNat j) = _
      unfold F_X7_findSlanted_53_3
      rw [hcol N hN, if_neg fun q => absurd ((lt_onn (by omega) (by omega)).mp q) (by omega), n1, ob_some, la1]) (fun N hN => by
      refine ⟨N, ?_, hN⟩
      show F_X7_findSlanted_53_3 N K 1 x (Int32.ofNat i) (Int32.ofNat (2 ^ w)) = _
      unfold F_X7_findSlanted_53_3
      rw [hcol N hN, if_pos ((lt_onn (by omega) (by omega)).mpr (by omega))]) 4294967296 0 J (by omega) (by omega) hJ
    refine ⟨r, ?_, r2⟩
    show (lpp (fun y => F_X7_findSlanted_53_3 (p2 y) K 1 x (Int32.ofNat i) (p1 y)) 4294967296 (Int32.ofNat 0, J)).bind _ = _
    rw [r1, ob_some]
    unfold F_X7_findSlanted_86_2
    rw [la1]
  obtain ⟨r, r1, r2⟩ := lpp_cnt (f := fun y => F_X7_findSlanted_41_2 (p2 y) K 1 x (p1 y)) (m := 2 ^ h) (fun _ N => Ag I N) (fun N => Ag I N) (fun i N hi hN => by
    obtain ⟨N', n1, n2⟩ := hin N i hN
    refine ⟨N', ?_, n2⟩
    show F_X7_findSlanted_41_2 N K 1 x (Int32.ofNat i) = _
    unfold F_X7_findSlanted_41_2
    rw [hrow N hN, if_neg fun q => absurd ((lt_onn (by omega) (by omega)).mp q) (by omega), n1]) (fun N hN => by
    refine ⟨N, ?_, hN⟩
    show F_X7_findSlanted_41_2 N K 1 x (Int32.ofNat (2 ^ h)) = _
    unfold F_X7_findSlanted_41_2
    rw [hrow N hN, if_pos ((lt_onn (by omega) (by omega)).mpr (by omega))]) 4294967296 0 (u2 I 27 0 0) (by omega) (by omega) (Ag.rfl.u rfl)
  refine ⟨(r, K), ?_, r2, f2⟩
  show (frp0 (fun i y => F_X7_findSlanted_13_1 I y 1 x i) (Int32.ofNat 15) (fu 0 (Int32.ofNat 15)) 0 L).bind _ = _
  rw [f1, ob_some, hK]
  show (lpp (fun y => F_X7_findSlanted_41_2 (p2 y) K 1 x (p1 y)) 4294967296 (Int32.ofNat 0, u2 I 27 0 0)).bind _ = _
  rw [r1]
  rfl
theorem slant9 {I : WI} {L : WL} {a1 : Int32} {h w : Nat} (hC : Cl h w) (e3 : I 33 0 = Int32.ofNat h) (e4 : I 33 1 = Int32.ofNat w) : ∃ v, F_X9_slanted I L a1 = some v ∧ Ag I (p2 v) := by
  obtain ⟨⟨h1, h2⟩, h3, h4⟩ := hC
  have h311 : ∀ J a b c d e f g, ∃ v, F_X9_slanted_311_3 J L a b c d e f g = some v := fun _ _ _ _ _ _ _ _ => ⟨_, rfl⟩
  have h297 : ∀ J a b c d e f g k, ∃ v, F_X9_slanted_297_3 J L a b c d e f g k = some v := by
    intro J a b c d e f g k
    unfold F_X9_slanted_297_3
    split <;> exact h311 _ _ _ _ _ _ _ _
  have h284 : ∀ J a b c d e f g k l, ∃ v, F_X9_slanted_284_3 J L a b c d e f g k l = some v := by
    intro J a b c d e f g k l
    unfold F_X9_slanted_284_3
    split <;> exact h297 _ _ _ _ _ _ _ _ _
  have h272 : ∀ J a b c d e f g k l m, ∃ v, F_X9_slanted_272_3 J L a b c d e f g k l m = some v := by
    intro J a b c d e f g k l m
    unfold F_X9_slanted_272_3
    split <;> exact h284 _ _ _ _ _ _ _ _ _ _
  have h259 : ∀ J a b c d e f g k l m n, ∃ v, F_X9_slanted_259_3 J L a b c d e f g k l m n = some v := by
    intro J a b c d e f g k l m n
    unfold F_X9_slanted_259_3
    split <;> exact h272 _ _ _ _ _ _ _ _ _ _ _
  have h203 : ∀ J a b c d e f g k l, ∃ v, F_X9_slanted_203_3 J L a b c d e f g k l = some v := by
    intro J a b c d e f g k l
    unfold F_X9_slanted_203_3 F_X9_slanted_254_3
    repeat' (first | split | exact h259 _ _ _ _ _ _ _ _ _ _ _ _)
  have h151 : ∀ J a b c d e f g, ∃ v, F_X9_slanted_151_3 J L a b c d e f g = some v := by
    intro J a b c d e f g
    unfold F_X9_slanted_151_3 F_X9_slanted_176_3
    repeat' (first | split | exact h203 _ _ _ _ _ _ _ _ _ _)
  have h319 : ∀ J a b c d e i, Ag I J → ∃ v, F_X9_slanted_319_1 J L a b c d e (Int32.ofNat i) = some (.inr v) ∧ Ag I (p2 (p2 (p2 (p2 (p2 v))))) ∧ p1 (p2 (p2 (p2 (p2 v)))) = Int32.ofNat (i + 1) := by
    intro J a b c d e i hJ
    refine ⟨_, rfl, hJ, ?_⟩
    show Int32.ofNat i + 1 = _
    rw [la1]
  have h145 : ∀ J a b c d e i, Ag I J → ∃ v, F_X9_slanted_145_1 J L a b c d e (Int32.ofNat i) 0 = some (.inr v) ∧ Ag I (p2 (p2 (p2 (p2 (p2 v))))) ∧ p1 (p2 (p2 (p2 (p2 v)))) = Int32.ofNat (i + 1) := by
    intro J a b c d e i hJ
    obtain ⟨q, q1, -⟩ := ag_frp (g := fun k x => F_X9_slanted_151_3 J L a (Int32.ofNat i) k (p1 x) (p1 (p2 x)) (p1 (p2 (p2 x))) (p2 (p2 (p2 x)))) (b := 2) (by decide) (fun _ => True) (s := (b, c, d, e)) trivial (fun k x _ _ => by
      obtain ⟨v, hv⟩ := h151 J a (Int32.ofNat i) (Int32.ofNat k) (p1 x) (p1 (p2 x)) (p1 (p2 (p2 x))) (p2 (p2 (p2 x)))
      exact ⟨v, hv, trivial⟩)
    show ∃ v, (frp0 (fun k x => F_X9_slanted_151_3 J L a (Int32.ofNat i) k (p1 x) (p1 (p2 x)) (p1 (p2 (p2 x))) (p2 (p2 (p2 x)))) (Int32.ofNat 2) (fu 0 (Int32.ofNat 2)) 0 (b, c, d, e)).bind _ = _ ∧ _
    rw [q1, ob_some]
    exact h319 _ _ _ _ _ _ _ hJ
  have h133 : ∀ J a b c d e i x, Ag I J → ∃ v, F_X9_slanted_133_1 J L a b c d e (Int32.ofNat i) x = some (.inr v) ∧ Ag I (p2 (p2 (p2 (p2 (p2 v))))) ∧ p1 (p2 (p2 (p2 (p2 v)))) = Int32.ofNat (i + 1) := by
    intro J a b c d e i x hJ
    have hq := hJ.trans (ag_findPlan9 (I := J) (x := x))
    unfold F_X9_slanted_133_1
    generalize F_X9_findPlan J x = q at hq ⊢
    split
    · exact h319 _ _ _ _ _ _ _ hq
    · exact h145 _ _ _ _ _ _ _ hq
  have h325 : ∀ J a b c d e, Ag I J → ∃ v, F_X9_slanted_325 J L a b c d e = some v ∧ Ag I (p2 v) := by
    intro J a b c d e hJ
    unfold F_X9_slanted_325 F_X9_slanted_365
    repeat' (first | split | exact ⟨_, rfl, hJ⟩)
  unfold F_X9_slanted F_X9_slanted_35
  split
  · exact ⟨_, rfl, Ag.rfl⟩
  split
  · exact ⟨_, rfl, Ag.rfl⟩
  by_cases c : h + w ≤ 10
  · rw [e3, e4, oadd, if_pos (by first | omega | (simp (disch := omega) only [Int32.lt_iff_toInt_lt, Int32.le_iff_toInt_le, ← Int32.toInt_inj, on_toInt, on_clamp, ti64, z0, z1, z2, zm1, i0, i1, im1, zz3, zz4, zz5, zz6, zz7, zz8, zz9, zz10, zz11, zz12, zz13, zz14, zz15, zz16, zz17, zz18, zz19, zz20, zz21, zz22, zz23, zz24, zz25, zz26, zz27, zz28, zz29, zz30, zz31, zz32, zz33, zz34, zz35, zz36, zz37, zz38, zz39, zz40, zz41, zz48, zz60, zz64, zz160, zz312, zz320, zzm2, zzm3, zzm4, zzm5, zzm6, zzm7, zzm8, zzm9, zzm10]; done) | (simp (disch := omega) only [Int32.lt_iff_toInt_lt, Int32.le_iff_toInt_le, ← Int32.toInt_inj, on_toInt, on_clamp, ti64, z0, z1, z2, zm1, i0, i1, im1, zz3, zz4, zz5, zz6, zz7, zz8, zz9, zz10, zz11, zz12, zz13, zz14, zz15, zz16, zz17, zz18, zz19, zz20, zz21, zz22, zz23, zz24, zz25, zz26, zz27, zz28, zz29, zz30, zz31, zz32, zz33, zz34, zz35, zz36, zz37, zz38, zz39, zz40, zz41, zz48, zz60, zz64, zz160, zz312, zz320, zzm2, zzm3, zzm4, zzm5, zzm6, zzm7, zzm8, zzm9, zzm10]; omega))]
    unfold F_X9_slanted_52
    have hpn := pow_le (h := h + w - 1 - 1) (by omega)
    have hpw : 2 ^ (h + w - 1) = 2 * 2 ^ (h + w - 1 - 1) := by
      rw [show h + w - 1 = (h + w - 1 - 1) + 1 by omega, Nat.pow_succ]
      rw [show h + w - 1 - 1 + 1 - 1 = h + w - 1 - 1 by omega]
      omega
    have hshl : ∀ n, n < 10 → ((1 : Int32) <<< (Int32.ofNat n &&& 31)) = Int32.ofNat (2 ^ n) := by decide +kernel
    obtain ⟨r, r1, r2⟩ := lpp_ms (f := fun x => F_X9_slanted_52_1 (p2 (p2 (p2 (p2 (p2 x))))) L a1 (p1 x) (p1 (p2 x)) (p1 (p2 (p2 x))) (p1 (p2 (p2 (p2 x)))) (p1 (p2 (p2 (p2 (p2 x)))))) (fun x : Int32 × Int32 × Int32 × Int32 × Int32 × WI => Ag I (p2 (p2 (p2 (p2 (p2 x))))) ∧ ∃ i, i ≤ 2 ^ (h + w - 1) ∧ p1 (p2 (p2 (p2 (p2 x)))) = Int32.ofNat i) (fun x : Int32 × Int32 × Int32 × Int32 × WI => Ag I (p2 (p2 (p2 (p2 x))))) (fun x => 2 ^ (h + w - 1) - (p1 (p2 (p2 (p2 (p2 x))))).toNatClampNeg) (fun x hx => by
      obtain ⟨hJ, i, hi, hx⟩ := hx
      show (∃ r', F_X9_slanted_52_1 (p2 (p2 (p2 (p2 (p2 x))))) L a1 (p1 x) (p1 (p2 x)) (p1 (p2 (p2 x))) (p1 (p2 (p2 (p2 x)))) (p1 (p2 (p2 (p2 (p2 x))))) = some (.inl r') ∧ _) ∨ (∃ s', F_X9_slanted_52_1 (p2 (p2 (p2 (p2 (p2 x))))) L a1 (p1 x) (p1 (p2 x)) (p1 (p2 (p2 x))) (p1 (p2 (p2 (p2 x)))) (p1 (p2 (p2 (p2 (p2 x))))) = some (.inr s') ∧ _)
      rw [hx]
      generalize hJJ : p2 (p2 (p2 (p2 (p2 x)))) = J at hJ ⊢
      have j0 : J 33 0 = Int32.ofNat h := (hJ 33 0 rfl).trans e3
      have j1 : J 33 1 = Int32.ofNat w := (hJ 33 1 rfl).trans e4
      have j2 : J 33 0 + J 33 1 - 1 = Int32.ofNat (h + w - 1) := by rw [j0, j1, oadd]; exact on_sub (b := 1) (by omega)
      unfold F_X9_slanted_52_1
      rw [j2, hshl _ (by omega)]
      by_cases d : 2 ^ (h + w - 1) ≤ i
      · rw [if_pos ((ge_on (by omega) (by omega)).mpr d)]
        exact .inl ⟨_, rfl, hJ⟩
      · rw [if_neg fun q => d ((ge_on (by omega) (by omega)).mp q)]
        unfold F_X9_slanted_84_1
        rw [j2]
        obtain ⟨q, q1, -⟩ := ag_frp (g := fun k y => F_X9_slanted_100_2 J L a1 (p1 x) (p1 (p2 x)) (p1 (p2 (p2 x))) (p1 (p2 (p2 (p2 x)))) (Int32.ofNat i) k y) (b := h + w - 1) (by omega) (fun _ => True) (s := (L 33 2) ^^^ (L 33 3)) trivial (fun k y _ _ => by
          show ∃ v, F_X9_slanted_100_2 J L a1 (p1 x) (p1 (p2 x)) (p1 (p2 (p2 x))) (p1 (p2 (p2 (p2 x)))) (Int32.ofNat i) (Int32.ofNat k) y = some v ∧ True
          unfold F_X9_slanted_100_2 F_X9_slanted_124_2
          split <;> exact ⟨_, rfl, trivial⟩)
        rw [q1, ob_some]
        obtain ⟨v, v1, v2, v3⟩ := h133 J a1 (p1 x) (p1 (p2 x)) (p1 (p2 (p2 x))) (p1 (p2 (p2 (p2 x)))) i (p2 q) hJ
        refine .inr ⟨v, v1, ⟨v2, i + 1, by omega, v3⟩, ?_⟩
        show 2 ^ (h + w - 1) - (p1 (p2 (p2 (p2 (p2 v))))).toNatClampNeg < 2 ^ (h + w - 1) - (Int32.ofNat i).toNatClampNeg
        rw [v3, on_clamp (n := i + 1) (by omega), on_clamp (n := i) (by omega)]
        omega) 4294967296 (-4, 0, 0, 0, 0, I) (by
      show 2 ^ (h + w - 1) - (0 : Int32).toNatClampNeg < _
      omega) ⟨Ag.rfl, 0, Nat.zero_le _, rfl⟩
    rw [r1, ob_some]
    exact h325 _ _ _ _ _ _ r2
  · rw [e3, e4, oadd, if_neg (by first | omega | (simp (disch := omega) only [Int32.lt_iff_toInt_lt, Int32.le_iff_toInt_le, ← Int32.toInt_inj, on_toInt, on_clamp, ti64, z0, z1, z2, zm1, i0, i1, im1, zz3, zz4, zz5, zz6, zz7, zz8, zz9, zz10, zz11, zz12, zz13, zz14, zz15, zz16, zz17, zz18, zz19, zz20, zz21, zz22, zz23, zz24, zz25, zz26, zz27, zz28, zz29, zz30, zz31, zz32, zz33, zz34, zz35, zz36, zz37, zz38, zz39, zz40, zz41, zz48, zz60, zz64, zz160, zz312, zz320, zzm2, zzm3, zzm4, zzm5, zzm6, zzm7, zzm8, zzm9, zzm10]; done) | (simp (disch := omega) only [Int32.lt_iff_toInt_lt, Int32.le_iff_toInt_le, ← Int32.toInt_inj, on_toInt, on_clamp, ti64, z0, z1, z2, zm1, i0, i1, im1, zz3, zz4, zz5, zz6, zz7, zz8, zz9, zz10, zz11, zz12, zz13, zz14, zz15, zz16, zz17, zz18, zz19, zz20, zz21, zz22, zz23, zz24, zz25, zz26, zz27, zz28, zz29, zz30, zz31, zz32, zz33, zz34, zz35, zz36, zz37, zz38, zz39, zz40, zz41, zz48, zz60, zz64, zz160, zz312, zz320, zzm2, zzm3, zzm4, zzm5, zzm6, zzm7, zzm8, zzm9, zzm10]; omega))]
    exact ⟨_, rfl, Ag.rfl⟩
theorem N_20 {I : WI} {L : WL} {a1 : Int32} (H : Inv I L) : ∃ v, (F_X8_slanted I L a1) = some v ∧ ∃ w, (F_X9_slanted (p1 (p2 v)) (p2 (p2 v)) a1) = some w ∧ Inv (p2 w) (p2 (p2 v)) := by
  obtain ⟨h, w, hC, c1, c2, c3, c4⟩ := H.size
  have e8 : ∃ v, F_X8_slanted I L a1 = some v ∧ Ag2 I L (p2 v) := by
    obtain ⟨J, j1, j2⟩ := slant8 (L := L) hC c1 c2 ((L 1 3) ^^^ (L 2 3))
    unfold F_X8_slanted F_X8_slanted_9 F_X8_slanted_41 F_X8_slanted_97
    rw [j1, ob_some]
    repeat' (first | split | exact ⟨_, rfl, Ag2.rfl⟩ | exact ⟨_, rfl, j2⟩)
  obtain ⟨v, v1, v2⟩ := e8
  obtain ⟨u, u1, u2'⟩ := slant9 (I := p1 (p2 v)) (L := p2 (p2 v)) (a1 := a1) hC ((v2.1 33 0 rfl).trans c3) ((v2.1 33 1 rfl).trans c4)
  exact ⟨v, v1, u, u1, (H.ag2 v2).ag u2' Ag.rfl⟩
