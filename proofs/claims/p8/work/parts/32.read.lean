/-! acts read of a sheet -/
theorem tl_add {a b : Int64} (h : -9223372036854775808 ≤ a.toInt + b.toInt) (h' : a.toInt + b.toInt < 9223372036854775808) : (a + b).toInt = a.toInt + b.toInt := by
  rw [Int64.toInt_add]
  exact Int.bmod_eq_of_le (by omega) (by omega)
/-- the first that is not good, of m from i on -/
def fb (g : Nat → Bool) : Nat → Nat → Option Nat
  | 0, _ => none
  | m + 1, i => if g i = true then fb g m (i + 1) else some i
theorem fr1_fb {R : Type} {f : Int32 → Unit → R ⊕ Unit} {W : Nat} (hW : W < 2147483648) (g : Nat → Bool) (r : Nat → R) (h1 : ∀ i, i < W → g i = true → f (Int32.ofNat i) () = .inr ()) (h2 : ∀ i, i < W → g i = false → f (Int32.ofNat i) () = .inl (r i)) : ∀ (m i : Nat), i + m = W → ∃ e, fr1 f (Int32.ofNat W) m (Int32.ofNat i) () = match fb g m i with
    | some j => .inl (r j)
    | none => .inr e := by
  intro m
  induction m with
  | zero => intro i hi; exact ⟨(Int32.ofNat i, ()), by rw [fr1]; rfl⟩
  | succ m ih =>
    intro i hi
    rw [fr1]
    have hl : ¬ Int32.ofNat W ≤ Int32.ofNat i := by
      rw [Int32.le_iff_toInt_le, on_toInt hW, on_toInt (by omega)]
      omega
    rw [if_neg hl]
    unfold fb
    cases hg : g i
    · rw [h2 i (by omega) hg, if_neg (by decide)]
      exact ⟨(0, ()), rfl⟩
    · rw [h1 i (by omega) hg, if_pos rfl, la1]
      exact ih (i + 1) (by omega)
theorem read_in {I : WI} {L : WL} {k lane i : Nat} {f a4 a6 : Int32} (hk : k < 4) (hi : i ≤ 20) {x s : Int32} (h42 : I 42 k = x) (h43 : I 43 k = s) (hs : x ≠ -4 → 0 ≤ s.toInt ∧ s.toInt ≤ 40) : lpp (fun y => F_X9_read_47_2 I L (Int32.ofNat k) (Int32.ofNat lane) f a4 a6 (Int32.ofNat i) (p1 y) (p2 y)) 4294967296 (0, 0) = some (if x = -4 then 1 else if x = Int32.ofNat lane then (if 0 ≤ f.toInt + 2 * i ∧ f.toInt + 2 * i + 1 < s.toInt then 0 else 2) else 3) := by
  have hnin := nin (k := k) (N := 4) hk (by decide)
  have hcl := on_clamp (n := k) (by omega)
  have f1 := f.toInt_lt
  have f2 := f.le_toInt
  have hpos : ∀ c : Nat, c < 2 → ((Int32.toInt64 f) + (Int32.toInt64 (2 * Int32.ofNat i)) + (Int32.toInt64 (Int32.ofNat c))).toInt = f.toInt + 2 * i + c := by
    intro c hc
    have e1 : (Int32.toInt64 f + Int32.toInt64 (2 * Int32.ofNat i)).toInt = f.toInt + 2 * i := by
      rw [lm2, tl_add] <;> rw [ti64, ti64, on_toInt (by omega)] <;> omega
    rw [tl_add] <;> rw [e1, ti64, on_toInt (by omega)] <;> omega
  have hlt : ∀ c : Nat, c < 2 → ∀ z : Int64, (lg_cmp ((Int32.toInt64 f) + (Int32.toInt64 (2 * Int32.ofNat i)) + (Int32.toInt64 (Int32.ofNat c))) z < 0 ↔ f.toInt + 2 * i + c < z.toInt) := by
    intro c hc z
    rw [lg_cmp_lt, Int64.lt_iff_toInt_lt, hpos c hc]
  have hend : ∀ q : Int32, ∀ y : Int32 × Int32, (2 ≤ p2 y ∨ ¬ p1 y = 0) → F_X9_read_47_2 I L (Int32.ofNat k) (Int32.ofNat lane) f a4 a6 (Int32.ofNat i) (p1 y) (p2 y) = some (.inl (p1 y)) := by
    intro q y hy
    unfold F_X9_read_47_2
    by_cases c : 2 ≤ p2 y
    · rw [if_pos c]
    · rw [if_neg c, if_neg (hy.resolve_left c)]
  have hstep : ∀ c : Nat, c < 2 → F_X9_read_47_2 I L (Int32.ofNat k) (Int32.ofNat lane) f a4 a6 (Int32.ofNat i) 0 (Int32.ofNat c) = some (.inr (if x = -4 then 1 else if x = Int32.ofNat lane then (if 0 ≤ f.toInt + 2 * i + c ∧ f.toInt + 2 * i + c < s.toInt then 0 else 2) else 3, Int32.ofNat (c + 1))) := by
    intro c hc
    unfold F_X9_read_47_2 F_X9_read_126_2 F_X9_read_121_2 F_X9_read_126_2
    rw [if_neg (by first | omega | (simp (disch := omega) only [Int32.lt_iff_toInt_lt, Int32.le_iff_toInt_le, ← Int32.toInt_inj, on_toInt, on_clamp, ti64, z0, z1, z2, zm1, i0, i1, im1, zz3, zz4, zz5, zz6, zz7, zz8, zz9, zz10, zz11, zz12, zz13, zz14, zz15, zz16, zz17, zz18, zz19, zz20, zz21, zz22, zz23, zz24, zz25, zz26, zz27, zz28, zz29, zz30, zz31, zz32, zz33, zz34, zz35, zz36, zz37, zz38, zz39, zz40, zz41, zz48, zz60, zz64, zz160, zz312, zz320, zzm2, zzm3, zzm4, zzm5, zzm6, zzm7, zzm8, zzm9, zzm10]; done) | (simp (disch := omega) only [Int32.lt_iff_toInt_lt, Int32.le_iff_toInt_le, ← Int32.toInt_inj, on_toInt, on_clamp, ti64, z0, z1, z2, zm1, i0, i1, im1, zz3, zz4, zz5, zz6, zz7, zz8, zz9, zz10, zz11, zz12, zz13, zz14, zz15, zz16, zz17, zz18, zz19, zz20, zz21, zz22, zz23, zz24, zz25, zz26, zz27, zz28, zz29, zz30, zz31, zz32, zz33, zz34, zz35, zz36, zz37, zz38, zz39, zz40, zz41, zz48, zz60, zz64, zz160, zz312, zz320, zzm2, zzm3, zzm4, zzm5, zzm6, zzm7, zzm8, zzm9, zzm10]; omega)), if_pos rfl, if_neg hnin, hcl, h42, h43, la1]
    by_cases c1 : x = -4
    · rw [if_pos c1, if_pos c1]
    rw [if_neg c1, if_neg c1, if_neg (nin2 (k := k) (N := 4) hk (by decide))]
    by_cases c2 : x = Int32.ofNat lane
    · rw [if_pos c2, if_pos c2]
      by_cases c3 : f.toInt + 2 * i + c < 0
      · rw [if_pos ((hlt c hc 0).mpr (by rw [i0]; exact c3)), if_neg (by omega)]
      · rw [if_neg fun q => c3 (by have := (hlt c hc 0).mp q; rw [i0] at this; exact this), if_neg (nin2 (k := k) (N := 4) hk (by decide))]
        by_cases c4 : f.toInt + 2 * i + c < s.toInt
        · rw [if_pos ((hlt c hc _).mpr (by rw [ti64]; exact c4)), if_pos (by omega)]
        · rw [if_neg fun q => c4 (by have := (hlt c hc _).mp q; rw [ti64] at this; exact this), if_neg (by omega)]
    · rw [if_neg c2, if_neg c2]
  have e0 := hstep 0 (by decide)
  rw [show (4294967296 : Nat) = 4294967295 + 1 from rfl, lpp_r (f := fun y => F_X9_read_47_2 I L (Int32.ofNat k) (Int32.ofNat lane) f a4 a6 (Int32.ofNat i) (p1 y) (p2 y)) (s := (0, 0)) e0]
  rw [show (4294967295 : Nat) = 4294967294 + 1 from rfl]
  by_cases c1 : x = -4
  · rw [if_pos c1, if_pos c1]
    exact lpp_l (f := fun y => F_X9_read_47_2 I L (Int32.ofNat k) (Int32.ofNat lane) f a4 a6 (Int32.ofNat i) (p1 y) (p2 y)) (s := (1, Int32.ofNat (0 + 1))) (hend 0 (1, Int32.ofNat (0 + 1)) (.inr (show ¬ (1 : Int32) = 0 by decide)))
  rw [if_neg c1, if_neg c1]
  by_cases c2 : x = Int32.ofNat lane
  · rw [if_pos c2, if_pos c2]
    have hsz := hs c1
    by_cases c3 : 0 ≤ f.toInt + 2 * i + (0 : Nat) ∧ f.toInt + 2 * i + (0 : Nat) < s.toInt
    · rw [if_pos c3]
      have e1 := hstep 1 (by decide)
      rw [if_neg c1, if_pos c2] at e1
      rw [lpp_r (f := fun y => F_X9_read_47_2 I L (Int32.ofNat k) (Int32.ofNat lane) f a4 a6 (Int32.ofNat i) (p1 y) (p2 y)) (s := (0, Int32.ofNat (0 + 1))) e1]
      rw [show (4294967294 : Nat) = 4294967293 + 1 from rfl]
      rw [lpp_l (f := fun y => F_X9_read_47_2 I L (Int32.ofNat k) (Int32.ofNat lane) f a4 a6 (Int32.ofNat i) (p1 y) (p2 y)) (hend 0 (_, Int32.ofNat (1 + 1)) (.inl (show (2 : Int32) ≤ Int32.ofNat (1 + 1) by decide)))]
      show some (if _ then (0 : Int32) else 2) = _
      by_cases c4 : 0 ≤ f.toInt + 2 * i ∧ f.toInt + 2 * i + 1 < s.toInt
      · rw [if_pos (by omega), if_pos c4]
      · rw [if_neg (by omega), if_neg c4]
    · rw [if_neg c3, if_neg (by omega)]
      exact lpp_l (f := fun y => F_X9_read_47_2 I L (Int32.ofNat k) (Int32.ofNat lane) f a4 a6 (Int32.ofNat i) (p1 y) (p2 y)) (s := (2, Int32.ofNat (0 + 1))) (hend 0 (2, Int32.ofNat (0 + 1)) (.inr (show ¬ (2 : Int32) = 0 by decide)))
  · rw [if_neg c2, if_neg c2]
    exact lpp_l (f := fun y => F_X9_read_47_2 I L (Int32.ofNat k) (Int32.ofNat lane) f a4 a6 (Int32.ofNat i) (p1 y) (p2 y)) (s := (3, Int32.ofNat (0 + 1))) (hend 0 (3, Int32.ofNat (0 + 1)) (.inr (show ¬ (3 : Int32) = 0 by decide)))
theorem cell_eq {I : WI} {o m j : Nat} (e : I o 0 = Int32.ofNat m) (hm : m ≤ 40) (hj : j < m) : F_X3_cell I o (Int32.ofNat j) = I (o + 1) j := by
  unfold F_X3_cell F_X3_cell_31
  rw [e, if_neg (by first | omega | (simp (disch := omega) only [Int32.lt_iff_toInt_lt, Int32.le_iff_toInt_le, ← Int32.toInt_inj, on_toInt, on_clamp, ti64, z0, z1, z2, zm1, i0, i1, im1, zz3, zz4, zz5, zz6, zz7, zz8, zz9, zz10, zz11, zz12, zz13, zz14, zz15, zz16, zz17, zz18, zz19, zz20, zz21, zz22, zz23, zz24, zz25, zz26, zz27, zz28, zz29, zz30, zz31, zz32, zz33, zz34, zz35, zz36, zz37, zz38, zz39, zz40, zz41, zz48, zz60, zz64, zz160, zz312, zz320, zzm2, zzm3, zzm4, zzm5, zzm6, zzm7, zzm8, zzm9, zzm10]; done) | (simp (disch := omega) only [Int32.lt_iff_toInt_lt, Int32.le_iff_toInt_le, ← Int32.toInt_inj, on_toInt, on_clamp, ti64, z0, z1, z2, zm1, i0, i1, im1, zz3, zz4, zz5, zz6, zz7, zz8, zz9, zz10, zz11, zz12, zz13, zz14, zz15, zz16, zz17, zz18, zz19, zz20, zz21, zz22, zz23, zz24, zz25, zz26, zz27, zz28, zz29, zz30, zz31, zz32, zz33, zz34, zz35, zz36, zz37, zz38, zz39, zz40, zz41, zz48, zz60, zz64, zz160, zz312, zz320, zzm2, zzm3, zzm4, zzm5, zzm6, zzm7, zzm8, zzm9, zzm10]; omega)), if_neg (by first | omega | (simp (disch := omega) only [Int32.lt_iff_toInt_lt, Int32.le_iff_toInt_le, ← Int32.toInt_inj, on_toInt, on_clamp, ti64, z0, z1, z2, zm1, i0, i1, im1, zz3, zz4, zz5, zz6, zz7, zz8, zz9, zz10, zz11, zz12, zz13, zz14, zz15, zz16, zz17, zz18, zz19, zz20, zz21, zz22, zz23, zz24, zz25, zz26, zz27, zz28, zz29, zz30, zz31, zz32, zz33, zz34, zz35, zz36, zz37, zz38, zz39, zz40, zz41, zz48, zz60, zz64, zz160, zz312, zz320, zzm2, zzm3, zzm4, zzm5, zzm6, zzm7, zzm8, zzm9, zzm10]; done) | (simp (disch := omega) only [Int32.lt_iff_toInt_lt, Int32.le_iff_toInt_le, ← Int32.toInt_inj, on_toInt, on_clamp, ti64, z0, z1, z2, zm1, i0, i1, im1, zz3, zz4, zz5, zz6, zz7, zz8, zz9, zz10, zz11, zz12, zz13, zz14, zz15, zz16, zz17, zz18, zz19, zz20, zz21, zz22, zz23, zz24, zz25, zz26, zz27, zz28, zz29, zz30, zz31, zz32, zz33, zz34, zz35, zz36, zz37, zz38, zz39, zz40, zz41, zz48, zz60, zz64, zz160, zz312, zz320, zzm2, zzm3, zzm4, zzm5, zzm6, zzm7, zzm8, zzm9, zzm10]; omega)), if_neg (by first | omega | (simp (disch := omega) only [Int32.lt_iff_toInt_lt, Int32.le_iff_toInt_le, ← Int32.toInt_inj, on_toInt, on_clamp, ti64, z0, z1, z2, zm1, i0, i1, im1, zz3, zz4, zz5, zz6, zz7, zz8, zz9, zz10, zz11, zz12, zz13, zz14, zz15, zz16, zz17, zz18, zz19, zz20, zz21, zz22, zz23, zz24, zz25, zz26, zz27, zz28, zz29, zz30, zz31, zz32, zz33, zz34, zz35, zz36, zz37, zz38, zz39, zz40, zz41, zz48, zz60, zz64, zz160, zz312, zz320, zzm2, zzm3, zzm4, zzm5, zzm6, zzm7, zzm8, zzm9, zzm10]; done) | (simp (disch := omega) only [Int32.lt_iff_toInt_lt, Int32.le_iff_toInt_le, ← Int32.toInt_inj, on_toInt, on_clamp, ti64, z0, z1, z2, zm1, i0, i1, im1, zz3, zz4, zz5, zz6, zz7, zz8, zz9, zz10, zz11, zz12, zz13, zz14, zz15, zz16, zz17, zz18, zz19, zz20, zz21, zz22, zz23, zz24, zz25, zz26, zz27, zz28, zz29, zz30, zz31, zz32, zz33, zz34, zz35, zz36, zz37, zz38, zz39, zz40, zz41, zz48, zz60, zz64, zz160, zz312, zz320, zzm2, zzm3, zzm4, zzm5, zzm6, zzm7, zzm8, zzm9, zzm10]; omega)), on_clamp (by omega)]
/-- what is known of a sheet that is read from f on, n acts of lane l: W come, RE is the fault that ends them, FD the class's own -/
def rdk (I : WI) (k l n : Nat) (f : Int32) (F W : Nat) (RE FD : Int32) : Prop :=
  W ≤ n ∧ RE ≠ 0 ∧ (0 < W → f = Int32.ofNat F) ∧ (∀ i, i < W → F + 2 * i + 1 < 40 ∧ F_X3_cell I (19 + 2 * k) (Int32.ofNat (F + 2 * i)) = I 44 (40 * k + (F + 2 * i)) ∧ F_X3_cell I (19 + 2 * k) (Int32.ofNat (F + 2 * i + 1)) = I 44 (40 * k + (F + 2 * i + 1))) ∧ (if FD = 0 then (if n ≤ W then FD else 2) else FD) = (if n ≤ W then 0 else RE) ∧ (FD ≠ 0 → W = 0) ∧ (FD = 0 → (if (F_X3_pairsFrom I (19 + 2 * k) f) < Int32.ofNat n then (F_X3_pairsFrom I (19 + 2 * k) f) else Int32.ofNat n) = Int32.ofNat W) ∧ FD = (if n = 0 then 0 else F_X3_faultOfLane I (19 + 2 * k) (Int32.ofNat l)) ∧
  ∀ (J : WI) (K : WL) (a4 a6 : Int32) (i : Nat), J 42 k = I 42 k → J 43 k = I 43 k → i < n → i ≤ W → lpp (fun y => F_X9_read_47_2 J K (Int32.ofNat k) (Int32.ofNat l) f a4 a6 (Int32.ofNat i) (p1 y) (p2 y)) 4294967296 (0, 0) = some (if i < W then 0 else RE)
theorem rdk_of {I : WI} {k l n : Nat} {f : Int32} (hk : k < 4) (hl : l ≤ 2) (hn : n ≤ 20) (hS : InvS I k) : ∃ F W RE FD, rdk I k l n f F W RE FD := by
  rcases hS with ⟨g1, g2⟩ | ⟨m, l', g1, g2, g3, g4, g5, g6, g7⟩
  · have hno : F_X3_isNothing I (19 + 2 * k) = 1 := by
      unfold F_X3_isNothing F_X3_isNothing_12
      rw [g1, if_neg (by decide)]
    have hf : F_X3_faultOfLane I (19 + 2 * k) (Int32.ofNat l) = 1 := by
      unfold F_X3_faultOfLane
      rw [hno, if_neg (by decide)]
    have hp : F_X3_pairsFrom I (19 + 2 * k) f = 0 := by
      unfold F_X3_pairsFrom F_X3_pairsFrom_23 F_X3_pairsFrom_24
      rw [g1]
      by_cases c : f.toInt < 0
      · rw [if_pos (by first | omega | (simp (disch := omega) only [Int32.lt_iff_toInt_lt, Int32.le_iff_toInt_le, ← Int32.toInt_inj, on_toInt, on_clamp, ti64, z0, z1, z2, zm1, i0, i1, im1, zz3, zz4, zz5, zz6, zz7, zz8, zz9, zz10, zz11, zz12, zz13, zz14, zz15, zz16, zz17, zz18, zz19, zz20, zz21, zz22, zz23, zz24, zz25, zz26, zz27, zz28, zz29, zz30, zz31, zz32, zz33, zz34, zz35, zz36, zz37, zz38, zz39, zz40, zz41, zz48, zz60, zz64, zz160, zz312, zz320, zzm2, zzm3, zzm4, zzm5, zzm6, zzm7, zzm8, zzm9, zzm10]; done) | (simp (disch := omega) only [Int32.lt_iff_toInt_lt, Int32.le_iff_toInt_le, ← Int32.toInt_inj, on_toInt, on_clamp, ti64, z0, z1, z2, zm1, i0, i1, im1, zz3, zz4, zz5, zz6, zz7, zz8, zz9, zz10, zz11, zz12, zz13, zz14, zz15, zz16, zz17, zz18, zz19, zz20, zz21, zz22, zz23, zz24, zz25, zz26, zz27, zz28, zz29, zz30, zz31, zz32, zz33, zz34, zz35, zz36, zz37, zz38, zz39, zz40, zz41, zz48, zz60, zz64, zz160, zz312, zz320, zzm2, zzm3, zzm4, zzm5, zzm6, zzm7, zzm8, zzm9, zzm10]; omega))]
      · rw [if_neg (by first | omega | (simp (disch := omega) only [Int32.lt_iff_toInt_lt, Int32.le_iff_toInt_le, ← Int32.toInt_inj, on_toInt, on_clamp, ti64, z0, z1, z2, zm1, i0, i1, im1, zz3, zz4, zz5, zz6, zz7, zz8, zz9, zz10, zz11, zz12, zz13, zz14, zz15, zz16, zz17, zz18, zz19, zz20, zz21, zz22, zz23, zz24, zz25, zz26, zz27, zz28, zz29, zz30, zz31, zz32, zz33, zz34, zz35, zz36, zz37, zz38, zz39, zz40, zz41, zz48, zz60, zz64, zz160, zz312, zz320, zzm2, zzm3, zzm4, zzm5, zzm6, zzm7, zzm8, zzm9, zzm10]; done) | (simp (disch := omega) only [Int32.lt_iff_toInt_lt, Int32.le_iff_toInt_le, ← Int32.toInt_inj, on_toInt, on_clamp, ti64, z0, z1, z2, zm1, i0, i1, im1, zz3, zz4, zz5, zz6, zz7, zz8, zz9, zz10, zz11, zz12, zz13, zz14, zz15, zz16, zz17, zz18, zz19, zz20, zz21, zz22, zz23, zz24, zz25, zz26, zz27, zz28, zz29, zz30, zz31, zz32, zz33, zz34, zz35, zz36, zz37, zz38, zz39, zz40, zz41, zz48, zz60, zz64, zz160, zz312, zz320, zzm2, zzm3, zzm4, zzm5, zzm6, zzm7, zzm8, zzm9, zzm10]; omega)), if_pos (by first | omega | (simp (disch := omega) only [Int32.lt_iff_toInt_lt, Int32.le_iff_toInt_le, ← Int32.toInt_inj, on_toInt, on_clamp, ti64, z0, z1, z2, zm1, i0, i1, im1, zz3, zz4, zz5, zz6, zz7, zz8, zz9, zz10, zz11, zz12, zz13, zz14, zz15, zz16, zz17, zz18, zz19, zz20, zz21, zz22, zz23, zz24, zz25, zz26, zz27, zz28, zz29, zz30, zz31, zz32, zz33, zz34, zz35, zz36, zz37, zz38, zz39, zz40, zz41, zz48, zz60, zz64, zz160, zz312, zz320, zzm2, zzm3, zzm4, zzm5, zzm6, zzm7, zzm8, zzm9, zzm10]; done) | (simp (disch := omega) only [Int32.lt_iff_toInt_lt, Int32.le_iff_toInt_le, ← Int32.toInt_inj, on_toInt, on_clamp, ti64, z0, z1, z2, zm1, i0, i1, im1, zz3, zz4, zz5, zz6, zz7, zz8, zz9, zz10, zz11, zz12, zz13, zz14, zz15, zz16, zz17, zz18, zz19, zz20, zz21, zz22, zz23, zz24, zz25, zz26, zz27, zz28, zz29, zz30, zz31, zz32, zz33, zz34, zz35, zz36, zz37, zz38, zz39, zz40, zz41, zz48, zz60, zz64, zz160, zz312, zz320, zzm2, zzm3, zzm4, zzm5, zzm6, zzm7, zzm8, zzm9, zzm10]; omega))]
    refine ⟨0, 0, 1, if n = 0 then 0 else 1, Nat.zero_le _, by decide, fun h => absurd h (by omega), fun i hi => absurd hi (by omega), ?_, fun _ => rfl, fun q => ?_, by rw [hf], fun J K a4 a6 i j1 j2 hi hW => ?_⟩
    · by_cases c : n = 0
      · rw [if_pos c, if_pos rfl, if_pos (by omega), if_pos (by omega)]
      · rw [if_neg c, if_neg (by decide), if_neg (by omega)]
    · by_cases c : n = 0
      · rw [hp, c, if_neg (by decide)]
      · rw [if_neg c] at q
        exact absurd q (by decide)
    · rw [read_in hk (by omega) (j1.trans g2) j2 (fun h => absurd rfl h), if_pos rfl, if_neg (by omega)]
  · have gn : ¬ Int32.ofNat l' = -4 := fun e => absurd (congrArg Int32.toInt e) (by rw [on_toInt (by omega), zzm4]; omega)
    have hno : F_X3_isNothing I (19 + 2 * k) = 0 := by
      unfold F_X3_isNothing F_X3_isNothing_12
      rw [g3, if_pos (by first | omega | (simp (disch := omega) only [Int32.lt_iff_toInt_lt, Int32.le_iff_toInt_le, ← Int32.toInt_inj, on_toInt, on_clamp, ti64, z0, z1, z2, zm1, i0, i1, im1, zz3, zz4, zz5, zz6, zz7, zz8, zz9, zz10, zz11, zz12, zz13, zz14, zz15, zz16, zz17, zz18, zz19, zz20, zz21, zz22, zz23, zz24, zz25, zz26, zz27, zz28, zz29, zz30, zz31, zz32, zz33, zz34, zz35, zz36, zz37, zz38, zz39, zz40, zz41, zz48, zz60, zz64, zz160, zz312, zz320, zzm2, zzm3, zzm4, zzm5, zzm6, zzm7, zzm8, zzm9, zzm10]; done) | (simp (disch := omega) only [Int32.lt_iff_toInt_lt, Int32.le_iff_toInt_le, ← Int32.toInt_inj, on_toInt, on_clamp, ti64, z0, z1, z2, zm1, i0, i1, im1, zz3, zz4, zz5, zz6, zz7, zz8, zz9, zz10, zz11, zz12, zz13, zz14, zz15, zz16, zz17, zz18, zz19, zz20, zz21, zz22, zz23, zz24, zz25, zz26, zz27, zz28, zz29, zz30, zz31, zz32, zz33, zz34, zz35, zz36, zz37, zz38, zz39, zz40, zz41, zz48, zz60, zz64, zz160, zz312, zz320, zzm2, zzm3, zzm4, zzm5, zzm6, zzm7, zzm8, zzm9, zzm10]; omega))]
    have hf : F_X3_faultOfLane I (19 + 2 * k) (Int32.ofNat l) = if l' = l then 0 else 3 := by
      unfold F_X3_faultOfLane F_X3_faultOfLane_22
      rw [hno, if_pos rfl, g5]
      by_cases c : l' = l
      · rw [if_pos (by rw [c]), if_pos c]
      · rw [if_neg fun q => c (on_inj (by omega) (by omega) q), if_neg c]
    -- how many pairs
    have hP : ∃ F P : Nat, (0 < P → f = Int32.ofNat F) ∧ F_X3_pairsFrom I (19 + 2 * k) f = Int32.ofNat P ∧ P ≤ 20 ∧ (∀ i, i < P → F + 2 * i + 1 < m) ∧ ∀ i : Nat, (0 ≤ f.toInt + 2 * i ∧ f.toInt + 2 * i + 1 < (m : Int)) → (i ≤ P → i < P) := by
      by_cases c : f.toInt < 0
      · refine ⟨0, 0, fun h => absurd h (by omega), ?_, by decide, fun i hi => absurd hi (by omega), fun i q r => by omega⟩
        unfold F_X3_pairsFrom F_X3_pairsFrom_23 F_X3_pairsFrom_24
        rw [if_pos (by first | omega | (simp (disch := omega) only [Int32.lt_iff_toInt_lt, Int32.le_iff_toInt_le, ← Int32.toInt_inj, on_toInt, on_clamp, ti64, z0, z1, z2, zm1, i0, i1, im1, zz3, zz4, zz5, zz6, zz7, zz8, zz9, zz10, zz11, zz12, zz13, zz14, zz15, zz16, zz17, zz18, zz19, zz20, zz21, zz22, zz23, zz24, zz25, zz26, zz27, zz28, zz29, zz30, zz31, zz32, zz33, zz34, zz35, zz36, zz37, zz38, zz39, zz40, zz41, zz48, zz60, zz64, zz160, zz312, zz320, zzm2, zzm3, zzm4, zzm5, zzm6, zzm7, zzm8, zzm9, zzm10]; done) | (simp (disch := omega) only [Int32.lt_iff_toInt_lt, Int32.le_iff_toInt_le, ← Int32.toInt_inj, on_toInt, on_clamp, ti64, z0, z1, z2, zm1, i0, i1, im1, zz3, zz4, zz5, zz6, zz7, zz8, zz9, zz10, zz11, zz12, zz13, zz14, zz15, zz16, zz17, zz18, zz19, zz20, zz21, zz22, zz23, zz24, zz25, zz26, zz27, zz28, zz29, zz30, zz31, zz32, zz33, zz34, zz35, zz36, zz37, zz38, zz39, zz40, zz41, zz48, zz60, zz64, zz160, zz312, zz320, zzm2, zzm3, zzm4, zzm5, zzm6, zzm7, zzm8, zzm9, zzm10]; omega))]
        rfl
      obtain ⟨F, rfl, hF, _⟩ := nn (show 0 ≤ f.toInt by omega)
      rw [hF]
      by_cases d : F < m
      · refine ⟨F, (m - F) / 2, fun _ => rfl, ?_, by omega, fun i hi => by omega, fun i q _ => by omega⟩
        unfold F_X3_pairsFrom F_X3_pairsFrom_24
        rw [g3, if_neg (by first | omega | (simp (disch := omega) only [Int32.lt_iff_toInt_lt, Int32.le_iff_toInt_le, ← Int32.toInt_inj, on_toInt, on_clamp, ti64, z0, z1, z2, zm1, i0, i1, im1, zz3, zz4, zz5, zz6, zz7, zz8, zz9, zz10, zz11, zz12, zz13, zz14, zz15, zz16, zz17, zz18, zz19, zz20, zz21, zz22, zz23, zz24, zz25, zz26, zz27, zz28, zz29, zz30, zz31, zz32, zz33, zz34, zz35, zz36, zz37, zz38, zz39, zz40, zz41, zz48, zz60, zz64, zz160, zz312, zz320, zzm2, zzm3, zzm4, zzm5, zzm6, zzm7, zzm8, zzm9, zzm10]; done) | (simp (disch := omega) only [Int32.lt_iff_toInt_lt, Int32.le_iff_toInt_le, ← Int32.toInt_inj, on_toInt, on_clamp, ti64, z0, z1, z2, zm1, i0, i1, im1, zz3, zz4, zz5, zz6, zz7, zz8, zz9, zz10, zz11, zz12, zz13, zz14, zz15, zz16, zz17, zz18, zz19, zz20, zz21, zz22, zz23, zz24, zz25, zz26, zz27, zz28, zz29, zz30, zz31, zz32, zz33, zz34, zz35, zz36, zz37, zz38, zz39, zz40, zz41, zz48, zz60, zz64, zz160, zz312, zz320, zzm2, zzm3, zzm4, zzm5, zzm6, zzm7, zzm8, zzm9, zzm10]; omega)), if_neg (by first | omega | (simp (disch := omega) only [Int32.lt_iff_toInt_lt, Int32.le_iff_toInt_le, ← Int32.toInt_inj, on_toInt, on_clamp, ti64, z0, z1, z2, zm1, i0, i1, im1, zz3, zz4, zz5, zz6, zz7, zz8, zz9, zz10, zz11, zz12, zz13, zz14, zz15, zz16, zz17, zz18, zz19, zz20, zz21, zz22, zz23, zz24, zz25, zz26, zz27, zz28, zz29, zz30, zz31, zz32, zz33, zz34, zz35, zz36, zz37, zz38, zz39, zz40, zz41, zz48, zz60, zz64, zz160, zz312, zz320, zzm2, zzm3, zzm4, zzm5, zzm6, zzm7, zzm8, zzm9, zzm10]; done) | (simp (disch := omega) only [Int32.lt_iff_toInt_lt, Int32.le_iff_toInt_le, ← Int32.toInt_inj, on_toInt, on_clamp, ti64, z0, z1, z2, zm1, i0, i1, im1, zz3, zz4, zz5, zz6, zz7, zz8, zz9, zz10, zz11, zz12, zz13, zz14, zz15, zz16, zz17, zz18, zz19, zz20, zz21, zz22, zz23, zz24, zz25, zz26, zz27, zz28, zz29, zz30, zz31, zz32, zz33, zz34, zz35, zz36, zz37, zz38, zz39, zz40, zz41, zz48, zz60, zz64, zz160, zz312, zz320, zzm2, zzm3, zzm4, zzm5, zzm6, zzm7, zzm8, zzm9, zzm10]; omega)), on_sub (by omega)]
        have hd : ∀ x, x < 41 → Int32.ofNat x / 2 = Int32.ofNat (x / 2) := by decide
        exact hd _ (by omega)
      · refine ⟨F, 0, fun h => absurd h (by omega), ?_, by decide, fun i hi => absurd hi (by omega), fun i q _ => by omega⟩
        unfold F_X3_pairsFrom F_X3_pairsFrom_23 F_X3_pairsFrom_24
        rw [g3, if_neg (by first | omega | (simp (disch := omega) only [Int32.lt_iff_toInt_lt, Int32.le_iff_toInt_le, ← Int32.toInt_inj, on_toInt, on_clamp, ti64, z0, z1, z2, zm1, i0, i1, im1, zz3, zz4, zz5, zz6, zz7, zz8, zz9, zz10, zz11, zz12, zz13, zz14, zz15, zz16, zz17, zz18, zz19, zz20, zz21, zz22, zz23, zz24, zz25, zz26, zz27, zz28, zz29, zz30, zz31, zz32, zz33, zz34, zz35, zz36, zz37, zz38, zz39, zz40, zz41, zz48, zz60, zz64, zz160, zz312, zz320, zzm2, zzm3, zzm4, zzm5, zzm6, zzm7, zzm8, zzm9, zzm10]; done) | (simp (disch := omega) only [Int32.lt_iff_toInt_lt, Int32.le_iff_toInt_le, ← Int32.toInt_inj, on_toInt, on_clamp, ti64, z0, z1, z2, zm1, i0, i1, im1, zz3, zz4, zz5, zz6, zz7, zz8, zz9, zz10, zz11, zz12, zz13, zz14, zz15, zz16, zz17, zz18, zz19, zz20, zz21, zz22, zz23, zz24, zz25, zz26, zz27, zz28, zz29, zz30, zz31, zz32, zz33, zz34, zz35, zz36, zz37, zz38, zz39, zz40, zz41, zz48, zz60, zz64, zz160, zz312, zz320, zzm2, zzm3, zzm4, zzm5, zzm6, zzm7, zzm8, zzm9, zzm10]; omega)), if_pos (by first | omega | (simp (disch := omega) only [Int32.lt_iff_toInt_lt, Int32.le_iff_toInt_le, ← Int32.toInt_inj, on_toInt, on_clamp, ti64, z0, z1, z2, zm1, i0, i1, im1, zz3, zz4, zz5, zz6, zz7, zz8, zz9, zz10, zz11, zz12, zz13, zz14, zz15, zz16, zz17, zz18, zz19, zz20, zz21, zz22, zz23, zz24, zz25, zz26, zz27, zz28, zz29, zz30, zz31, zz32, zz33, zz34, zz35, zz36, zz37, zz38, zz39, zz40, zz41, zz48, zz60, zz64, zz160, zz312, zz320, zzm2, zzm3, zzm4, zzm5, zzm6, zzm7, zzm8, zzm9, zzm10]; done) | (simp (disch := omega) only [Int32.lt_iff_toInt_lt, Int32.le_iff_toInt_le, ← Int32.toInt_inj, on_toInt, on_clamp, ti64, z0, z1, z2, zm1, i0, i1, im1, zz3, zz4, zz5, zz6, zz7, zz8, zz9, zz10, zz11, zz12, zz13, zz14, zz15, zz16, zz17, zz18, zz19, zz20, zz21, zz22, zz23, zz24, zz25, zz26, zz27, zz28, zz29, zz30, zz31, zz32, zz33, zz34, zz35, zz36, zz37, zz38, zz39, zz40, zz41, zz48, zz60, zz64, zz160, zz312, zz320, zzm2, zzm3, zzm4, zzm5, zzm6, zzm7, zzm8, zzm9, zzm10]; omega))]
        rfl
    obtain ⟨F, P, hP1, hP2, hP3, hP4, hP5⟩ := hP
    have hcell : ∀ i, i < P → F + 2 * i + 1 < 40 ∧ F_X3_cell I (19 + 2 * k) (Int32.ofNat (F + 2 * i)) = I 44 (40 * k + (F + 2 * i)) ∧ F_X3_cell I (19 + 2 * k) (Int32.ofNat (F + 2 * i + 1)) = I 44 (40 * k + (F + 2 * i + 1)) := by
      intro i hi
      have := hP4 i hi
      refine ⟨by omega, ?_, ?_⟩
      · rw [cell_eq g3 g1 (by omega), show 19 + 2 * k + 1 = 20 + 2 * k by omega, g7 _ (by omega)]
      · rw [cell_eq g3 g1 (by omega), show 19 + 2 * k + 1 = 20 + 2 * k by omega, g7 _ (by omega)]
    have hmin : (if (F_X3_pairsFrom I (19 + 2 * k) f) < Int32.ofNat n then (F_X3_pairsFrom I (19 + 2 * k) f) else Int32.ofNat n) = Int32.ofNat (if P < n then P else n) := by
      rw [hP2]
      by_cases c : P < n
      · rw [if_pos (by first | omega | (simp (disch := omega) only [Int32.lt_iff_toInt_lt, Int32.le_iff_toInt_le, ← Int32.toInt_inj, on_toInt, on_clamp, ti64, z0, z1, z2, zm1, i0, i1, im1, zz3, zz4, zz5, zz6, zz7, zz8, zz9, zz10, zz11, zz12, zz13, zz14, zz15, zz16, zz17, zz18, zz19, zz20, zz21, zz22, zz23, zz24, zz25, zz26, zz27, zz28, zz29, zz30, zz31, zz32, zz33, zz34, zz35, zz36, zz37, zz38, zz39, zz40, zz41, zz48, zz60, zz64, zz160, zz312, zz320, zzm2, zzm3, zzm4, zzm5, zzm6, zzm7, zzm8, zzm9, zzm10]; done) | (simp (disch := omega) only [Int32.lt_iff_toInt_lt, Int32.le_iff_toInt_le, ← Int32.toInt_inj, on_toInt, on_clamp, ti64, z0, z1, z2, zm1, i0, i1, im1, zz3, zz4, zz5, zz6, zz7, zz8, zz9, zz10, zz11, zz12, zz13, zz14, zz15, zz16, zz17, zz18, zz19, zz20, zz21, zz22, zz23, zz24, zz25, zz26, zz27, zz28, zz29, zz30, zz31, zz32, zz33, zz34, zz35, zz36, zz37, zz38, zz39, zz40, zz41, zz48, zz60, zz64, zz160, zz312, zz320, zzm2, zzm3, zzm4, zzm5, zzm6, zzm7, zzm8, zzm9, zzm10]; omega)), if_pos c]
      · rw [if_neg (by first | omega | (simp (disch := omega) only [Int32.lt_iff_toInt_lt, Int32.le_iff_toInt_le, ← Int32.toInt_inj, on_toInt, on_clamp, ti64, z0, z1, z2, zm1, i0, i1, im1, zz3, zz4, zz5, zz6, zz7, zz8, zz9, zz10, zz11, zz12, zz13, zz14, zz15, zz16, zz17, zz18, zz19, zz20, zz21, zz22, zz23, zz24, zz25, zz26, zz27, zz28, zz29, zz30, zz31, zz32, zz33, zz34, zz35, zz36, zz37, zz38, zz39, zz40, zz41, zz48, zz60, zz64, zz160, zz312, zz320, zzm2, zzm3, zzm4, zzm5, zzm6, zzm7, zzm8, zzm9, zzm10]; done) | (simp (disch := omega) only [Int32.lt_iff_toInt_lt, Int32.le_iff_toInt_le, ← Int32.toInt_inj, on_toInt, on_clamp, ti64, z0, z1, z2, zm1, i0, i1, im1, zz3, zz4, zz5, zz6, zz7, zz8, zz9, zz10, zz11, zz12, zz13, zz14, zz15, zz16, zz17, zz18, zz19, zz20, zz21, zz22, zz23, zz24, zz25, zz26, zz27, zz28, zz29, zz30, zz31, zz32, zz33, zz34, zz35, zz36, zz37, zz38, zz39, zz40, zz41, zz48, zz60, zz64, zz160, zz312, zz320, zzm2, zzm3, zzm4, zzm5, zzm6, zzm7, zzm8, zzm9, zzm10]; omega)), if_neg c]
    by_cases c : l' = l
    · subst c
      rw [if_pos rfl] at hf
      refine ⟨F, if P < n then P else n, 2, 0, ?_, by decide, fun h => hP1 (by split at h <;> omega), fun i hi => hcell i (by split at hi <;> omega), ?_, fun h => absurd rfl h, fun _ => hmin, by rw [hf]; split <;> rfl, fun J K a4 a6 i j1 j2 hi hW => ?_⟩
      · split <;> omega
      · rw [if_pos rfl]
      · rw [read_in hk (by omega) (j1.trans g6) (j2.trans g4) (fun _ => by rw [on_toInt (by omega)]; omega), if_neg gn, if_pos rfl, on_toInt (by omega)]
        by_cases d : i < (if P < n then P else n)
        · rw [if_pos d]
          have hiP : i < P := by split at d <;> omega
          have h0 : f = Int32.ofNat F := hP1 (by omega)
          have h1 := hP4 i hiP
          rw [h0, on_toInt (show F < 2147483648 by omega), if_pos (by omega)]
        · rw [if_neg d, if_neg]
          intro q
          have := hP5 i q (by split at hW <;> omega)
          split at d <;> omega
    · rw [if_neg c] at hf
      by_cases d : n = 0
      · refine ⟨F, 0, 3, 0, Nat.zero_le _, by decide, fun h => absurd h (by omega), fun i hi => absurd hi (by omega), ?_, fun h => absurd rfl h, fun _ => ?_, by rw [if_pos d], fun J K a4 a6 i j1 j2 hi hW => absurd hi (by omega)⟩
        · rw [if_pos rfl, if_pos (by omega), if_pos (by omega)]
        · rw [hmin, if_neg (by omega), d]
      · refine ⟨F, 0, 3, 3, Nat.zero_le _, by decide, fun h => absurd h (by omega), fun i hi => absurd hi (by omega), ?_, fun _ => rfl, fun q => absurd q (by decide), by rw [if_neg d, hf], fun J K a4 a6 i j1 j2 hi hW => ?_⟩
        · rw [if_neg (by decide), if_neg (by omega)]
        · rw [read_in hk (by omega) (j1.trans g6) (j2.trans g4) (fun _ => by rw [on_toInt (by omega)]; omega), if_neg gn, if_neg fun q => c (on_inj (by omega) (by omega) q), if_neg (by omega)]
theorem ge_on {a b : Nat} (ha : a < 2147483648) (hb : b < 2147483648) : Int32.ofNat a ≤ Int32.ofNat b ↔ a ≤ b := by
  rw [Int32.le_iff_toInt_le, on_toInt ha, on_toInt hb]
  omega
theorem E_35 {I : WI} {L : WL} {a1 a2 a3 a4 : Int32} (H : Inv I L) : ∃ w, (F_X9_read (p1 (p2 (F_X8_read I L a1 a2 a3 a4))) (p2 (p2 (F_X8_read I L a1 a2 a3 a4))) a1 a2 a3 a4) = some w ∧ (p1 (F_X8_read I L a1 a2 a3 a4)) = (p1 w) ∧ Inv (p1 (p2 w)) (p2 (p2 w)) := by
  have H' := H
  obtain ⟨⟨h, w, ⟨hC, c1, c2, c3, c4, c5, c6, c7⟩, h2⟩, k0, k1, h3, h4, h5, h6⟩ := H
  by_cases c : ((0 ≤ a1.toInt ∧ a1.toInt ≤ 3) ∧ 0 ≤ a2.toInt ∧ a2.toInt ≤ 2) ∧ 0 ≤ a4.toInt ∧ a4.toInt ≤ 20
  · obtain ⟨k, rfl, hk, -⟩ := nn c.1.1.1
    obtain ⟨l, rfl, hl, -⟩ := nn c.1.2.1
    obtain ⟨n, rfl, hn, -⟩ := nn c.2.1
    rw [hk, hl, hn] at c
    have hk4 : k < 4 := by omega
    have hnin := nin (k := k) (N := 4) hk4 (by decide)
    obtain ⟨F, W, RE, FD, w1, w2, w3, w4, w5, w6, w7, w8, w9⟩ := rdk_of (f := a3) hk4 (show l ≤ 2 by omega) (show n ≤ 20 by omega) (h5 k hk4)
    -- the acts, which are good
    generalize hA : (fun i => F_X9_actSet I (I 44 (40 * k + (F + 2 * i))) (I 44 (40 * k + (F + 2 * i + 1))) : Nat → Int64) = A
    generalize hg : (fun i => decide (0 ≤ (I 44 (40 * k + (F + 2 * i + 1))).toInt ∧ (I 44 (40 * k + (F + 2 * i + 1))).toInt < lz (I 44 (40 * k + (F + 2 * i))) h w) : Nat → Bool) = g
    have hgi : ∀ i, g i = true ↔ (0 ≤ (I 44 (40 * k + (F + 2 * i + 1))).toInt ∧ (I 44 (40 * k + (F + 2 * i + 1))).toInt < lz (I 44 (40 * k + (F + 2 * i))) h w) := by
      intro i
      rw [← hg]
      exact decide_eq_true_iff
    have hpos : ∀ i, i < W → a3 + 2 * Int32.ofNat i = Int32.ofNat (F + 2 * i) := by
      intro i hi
      rw [w3 (by omega), lm2, oadd]
    -- the class
    have e0 : F_X8_read I L (Int32.ofNat k) (Int32.ofNat l) a3 (Int32.ofNat n) = F_X8_read_73 I L (Int32.ofNat k) (Int32.ofNat l) a3 (Int32.ofNat n) (19 + 2 * k) FD (Int32.ofNat W) := by
      have hW0 : ∀ x : Int32, x = FD → F_X8_read_51 I L (Int32.ofNat k) (Int32.ofNat l) a3 (Int32.ofNat n) (19 + 2 * k) x = F_X8_read_73 I L (Int32.ofNat k) (Int32.ofNat l) a3 (Int32.ofNat n) (19 + 2 * k) FD (Int32.ofNat W) := by
        intro x hx
        subst hx
        unfold F_X8_read_51
        by_cases q : x = 0
        · rw [if_pos q, w7 q]
        · rw [if_neg q, w6 q]
          rfl
      unfold F_X8_read
      rw [if_pos hnin, isLane_eq, hl, if_pos c.1.2, if_neg (show ¬ (1 : Int32) = 0 by decide), if_neg (by first | omega | (simp (disch := omega) only [Int32.lt_iff_toInt_lt, Int32.le_iff_toInt_le, ← Int32.toInt_inj, on_toInt, on_clamp, ti64, z0, z1, z2, zm1, i0, i1, im1, zz3, zz4, zz5, zz6, zz7, zz8, zz9, zz10, zz11, zz12, zz13, zz14, zz15, zz16, zz17, zz18, zz19, zz20, zz21, zz22, zz23, zz24, zz25, zz26, zz27, zz28, zz29, zz30, zz31, zz32, zz33, zz34, zz35, zz36, zz37, zz38, zz39, zz40, zz41, zz48, zz60, zz64, zz160, zz312, zz320, zzm2, zzm3, zzm4, zzm5, zzm6, zzm7, zzm8, zzm9, zzm10]; done) | (simp (disch := omega) only [Int32.lt_iff_toInt_lt, Int32.le_iff_toInt_le, ← Int32.toInt_inj, on_toInt, on_clamp, ti64, z0, z1, z2, zm1, i0, i1, im1, zz3, zz4, zz5, zz6, zz7, zz8, zz9, zz10, zz11, zz12, zz13, zz14, zz15, zz16, zz17, zz18, zz19, zz20, zz21, zz22, zz23, zz24, zz25, zz26, zz27, zz28, zz29, zz30, zz31, zz32, zz33, zz34, zz35, zz36, zz37, zz38, zz39, zz40, zz41, zz48, zz60, zz64, zz160, zz312, zz320, zzm2, zzm3, zzm4, zzm5, zzm6, zzm7, zzm8, zzm9, zzm10]; omega)), if_pos (by first | omega | (simp (disch := omega) only [Int32.lt_iff_toInt_lt, Int32.le_iff_toInt_le, ← Int32.toInt_inj, on_toInt, on_clamp, ti64, z0, z1, z2, zm1, i0, i1, im1, zz3, zz4, zz5, zz6, zz7, zz8, zz9, zz10, zz11, zz12, zz13, zz14, zz15, zz16, zz17, zz18, zz19, zz20, zz21, zz22, zz23, zz24, zz25, zz26, zz27, zz28, zz29, zz30, zz31, zz32, zz33, zz34, zz35, zz36, zz37, zz38, zz39, zz40, zz41, zz48, zz60, zz64, zz160, zz312, zz320, zzm2, zzm3, zzm4, zzm5, zzm6, zzm7, zzm8, zzm9, zzm10]; done) | (simp (disch := omega) only [Int32.lt_iff_toInt_lt, Int32.le_iff_toInt_le, ← Int32.toInt_inj, on_toInt, on_clamp, ti64, z0, z1, z2, zm1, i0, i1, im1, zz3, zz4, zz5, zz6, zz7, zz8, zz9, zz10, zz11, zz12, zz13, zz14, zz15, zz16, zz17, zz18, zz19, zz20, zz21, zz22, zz23, zz24, zz25, zz26, zz27, zz28, zz29, zz30, zz31, zz32, zz33, zz34, zz35, zz36, zz37, zz38, zz39, zz40, zz41, zz48, zz60, zz64, zz160, zz312, zz320, zzm2, zzm3, zzm4, zzm5, zzm6, zzm7, zzm8, zzm9, zzm10]; omega)), sid_on (by omega)]
      by_cases q : n = 0
      · rw [if_pos (by rw [q]; rfl)]
        exact hW0 0 (by rw [w8, if_pos q])
      · rw [if_neg fun e => q (on_inj (by omega) (by decide) (e.trans (show (0 : Int32) = Int32.ofNat 0 from rfl)))]
        exact hW0 _ (by rw [w8, if_neg q])
    have e1 : F_X8_read_73 I L (Int32.ofNat k) (Int32.ofNat l) a3 (Int32.ofNat n) (19 + 2 * k) FD (Int32.ofNat W) = match fb g W 0 with
        | some j => (-20 - Int32.ofNat j, I, L)
        | none => (Int32.ofNat W, u2 I 0 14 (if n ≤ W then 0 else RE), u2 L 1 3 (gi A W (L 1 3))) := by
      unfold F_X8_read_73 F_X8_read_78
      obtain ⟨e, he⟩ := fr1_fb (f := fun i x => F_X8_read_85_1 I L (Int32.ofNat k) (Int32.ofNat l) a3 (Int32.ofNat n) (19 + 2 * k) FD (Int32.ofNat W) i) (W := W) (by omega) g (fun i => (-20 - Int32.ofNat i, I, L)) (fun i hi hgt => by
        show F_X8_read_85_1 I L _ _ a3 _ _ FD _ (Int32.ofNat i) = _
        unfold F_X8_read_85_1
        rw [hpos i hi, la1, (w4 i hi).2.1, (w4 i hi).2.2, line_eq hC c1 c2, if_pos ((hgi i).mp hgt), if_neg (by decide)]) (fun i hi hgf => by
        show F_X8_read_85_1 I L _ _ a3 _ _ FD _ (Int32.ofNat i) = _
        unfold F_X8_read_85_1
        rw [hpos i hi, la1, (w4 i hi).2.1, (w4 i hi).2.2, line_eq hC c1 c2, if_neg fun q => absurd ((hgi i).mpr q) (by rw [hgf]; decide), if_pos rfl]) W 0 (by omega)
      have hfu : fu 0 (Int32.ofNat W) = W := by
        unfold fu
        rw [on_toInt (by omega), z0]
        omega
      rw [hfu, show (0 : Int32) = Int32.ofNat 0 from rfl, he]
      cases hfb : fb g W 0 with
      | some j => rfl
      | none =>
        show F_X8_read_131 I L (Int32.ofNat k) (Int32.ofNat l) a3 (Int32.ofNat n) (19 + 2 * k) FD (Int32.ofNat W) = _
        unfold F_X8_read_131
        show F_X8_read_190 I (p2 (fr0 (fun i x => F_X8_read_141_2 I x (Int32.ofNat k) (Int32.ofNat l) a3 (Int32.ofNat n) (19 + 2 * k) FD (Int32.ofNat W) i) (Int32.ofNat W) (fu 0 (Int32.ofNat W)) 0 L)) (Int32.ofNat k) (Int32.ofNat l) a3 (Int32.ofNat n) FD (Int32.ofNat W) = _
        have hx : p2 (fr0 (fun i x => F_X8_read_141_2 I x (Int32.ofNat k) (Int32.ofNat l) a3 (Int32.ofNat n) (19 + 2 * k) FD (Int32.ofNat W) i) (Int32.ofNat W) (fu 0 (Int32.ofNat W)) 0 L) = u2 L 1 3 (gi A W (L 1 3)) := by
          rw [fr0_it (by omega)]
          -- all are good
          have hall : ∀ m i, fb g m i = none → ∀ j, i ≤ j → j < i + m → g j = true := by
            intro m
            induction m with
            | zero => intro i _ j h1 h2; omega
            | succ m ih =>
              intro i hi j h1 h2
              unfold fb at hi
              by_cases q : g i = true
              · rw [if_pos q] at hi
                by_cases d : j = i
                · rw [d]; exact q
                · exact ih (i + 1) hi j (by omega) (by omega)
              · rw [if_neg q] at hi
                exact absurd hi (by simp)
          refine it_ind (P := fun i s => s = u2 L 1 3 (gi A i (L 1 3))) u2_id.symm (fun i s hi hs => ?_)
          show F_X8_read_141_2 I s _ _ a3 _ _ FD _ (Int32.ofNat i) = _
          have hgt := (hgi i).mp (hall W 0 hfb i (by omega) (by omega))
          unfold F_X8_read_141_2
          rw [hpos i hi, la1, (w4 i hi).2.1, (w4 i hi).2.2, sq_eq hC c1 c2 c3 c4 (lz_kind hgt.1 hgt.2), hs, u2_u2, u2_at, ← hA]
          rfl
        rw [hx]
        show _ = (Int32.ofNat W, u2 I 0 14 (if n ≤ W then 0 else RE), u2 L 1 3 (gi A W (L 1 3)))
        unfold F_X8_read_190 F_X8_read_207 F_X8_read_209
        rw [← w5]
        by_cases q : FD = 0
        · rw [if_pos q, if_pos q]
          by_cases d : n ≤ W
          · rw [if_pos ((ge_on (by omega) (by omega)).mpr d), if_pos d]
          · rw [if_neg fun r => d ((ge_on (by omega) (by omega)).mp r), if_neg d]
        · rw [if_neg q, if_neg q]
    -- all are good
    have hall : ∀ m i, fb g m i = none → ∀ j, i ≤ j → j < i + m → g j = true := by
      intro m
      induction m with
      | zero => intro i _ j h1 h2; omega
      | succ m ih =>
        intro i hi j h1 h2
        unfold fb at hi
        by_cases q : g i = true
        · rw [if_pos q] at hi
          by_cases d : j = i
          · rw [d]; exact q
          · exact ih (i + 1) hi j (by omega) (by omega)
        · rw [if_neg q] at hi
          exact absurd hi (by simp)
    -- the reference
    have e2 : ∀ (J : WI) (K : WL), (∀ a b, ¬ (a = 0 ∧ b = 14) → J a b = I a b) → F_X9_read J K (Int32.ofNat k) (Int32.ofNat l) a3 (Int32.ofNat n) = match fb g W 0 with
        | some j => some (-20 - Int32.ofNat j, J, K)
        | none => some (Int32.ofNat W, u2 J 33 46 (if n ≤ W then 0 else RE), u2 K 33 2 (gi A W (K 33 2))) := by
      intro J K hJ
      have j42 : J 42 k = I 42 k := hJ 42 k (by omega)
      have j43 : J 43 k = I 43 k := hJ 43 k (by omega)
      have j44 : ∀ b, J 44 b = I 44 b := fun b => hJ 44 b (by omega)
      have jpos : ∀ i, i < W → (40 * Int32.ofNat k) + a3 + (2 * Int32.ofNat i) = Int32.ofNat (40 * k + (F + 2 * i)) := by
        intro i hi
        rw [w3 (by omega), lm40, lm2, oadd, oadd, show 40 * k + F + 2 * i = 40 * k + (F + 2 * i) by omega]
      have jact : ∀ a b, F_X9_isAct J a b = some (if 0 ≤ b.toInt ∧ b.toInt < lz a h w then 1 else 0) := fun a b => isAct_eq hC ((hJ 33 0 (by omega)).trans c3) ((hJ 33 1 (by omega)).trans c4)
      have hloop : ∀ (m fuel i : Nat), i + m = W → m + 2 < fuel → lpp (fun x => F_X9_read_32_1 J K (Int32.ofNat k) (Int32.ofNat l) a3 (Int32.ofNat n) (p1 x) (p1 (p2 x)) (p2 (p2 x))) fuel (0, Int32.ofNat i, Int32.ofNat i) = match fb g m i with
          | some j => some (.inl (-20 - Int32.ofNat j, J, K))
          | none => some (.inr (if n ≤ W then 0 else RE, Int32.ofNat W)) := by
        intro m
        induction m with
        | zero =>
          intro fuel i hi hf
          obtain ⟨fuel, rfl⟩ : ∃ f, fuel = f + 2 := ⟨fuel - 2, by omega⟩
          have hiW : i = W := by omega
          subst hiW
          show _ = some (Sum.inr (if n ≤ i then 0 else RE, Int32.ofNat i))
          by_cases d : n ≤ i
          · rw [if_pos d]
            refine lpp_l ?_
            show F_X9_read_32_1 J K _ _ a3 _ 0 (Int32.ofNat i) (Int32.ofNat i) = _
            unfold F_X9_read_32_1
            rw [if_pos ((ge_on (by omega) (by omega)).mpr d)]
          · rw [if_neg d]
            have hs : F_X9_read_32_1 J K (Int32.ofNat k) (Int32.ofNat l) a3 (Int32.ofNat n) 0 (Int32.ofNat i) (Int32.ofNat i) = some (.inr (RE, Int32.ofNat i, Int32.ofNat (i + 1))) := by
              unfold F_X9_read_32_1 F_X9_read_47_1
              rw [if_neg fun q => d ((ge_on (by omega) (by omega)).mp q), if_pos rfl, w9 J K _ _ i j42 j43 (by omega) (Nat.le_refl _), if_neg (Nat.lt_irrefl i), ob_some]
              unfold F_X9_read_134_1 F_X9_read_184_1
              rw [if_neg w2, la1]
            rw [lpp_r (f := fun x => F_X9_read_32_1 J K (Int32.ofNat k) (Int32.ofNat l) a3 (Int32.ofNat n) (p1 x) (p1 (p2 x)) (p2 (p2 x))) (s := (0, Int32.ofNat i, Int32.ofNat i)) hs]
            refine lpp_l ?_
            show F_X9_read_32_1 J K _ _ a3 _ RE (Int32.ofNat i) (Int32.ofNat (i + 1)) = _
            unfold F_X9_read_32_1
            by_cases d2 : Int32.ofNat n ≤ Int32.ofNat (i + 1)
            · rw [if_pos d2]
            · rw [if_neg d2, if_neg w2]
        | succ m ih =>
          intro fuel i hi hf
          obtain ⟨fuel, rfl⟩ : ∃ f, fuel = f + 1 := ⟨fuel - 1, by omega⟩
          have hb : F_X9_read_32_1 J K (Int32.ofNat k) (Int32.ofNat l) a3 (Int32.ofNat n) 0 (Int32.ofNat i) (Int32.ofNat i) = if g i = true then some (.inr (0, Int32.ofNat (i + 1), Int32.ofNat (i + 1))) else some (.inl (.inl (-20 - Int32.ofNat i, J, K))) := by
            unfold F_X9_read_32_1 F_X9_read_47_1
            rw [if_neg fun q => absurd ((ge_on (by omega) (by omega)).mp q) (by omega), if_pos rfl, w9 J K _ _ i j42 j43 (by omega) (by omega), if_pos (show i < W by omega), ob_some]
            unfold F_X9_read_134_1 F_X9_read_184_1
            have hF := (w4 i (by omega)).1
            rw [if_pos rfl, jpos i (by omega), la1, la1, if_neg (nin (k := 40 * k + (F + 2 * i)) (N := 160) (by omega) (by decide)), if_neg (nin (k := 40 * k + (F + 2 * i) + 1) (N := 160) (by omega) (by decide)), on_clamp (n := 40 * k + (F + 2 * i)) (by omega), on_clamp (n := 40 * k + (F + 2 * i) + 1) (by omega), j44, j44, jact, ob_some, show 40 * k + (F + 2 * i) + 1 = 40 * k + (F + 2 * i + 1) by omega]
            by_cases q : g i = true
            · rw [if_pos q, if_pos ((hgi i).mp q), if_neg (show ¬ (1 : Int32) = 0 by decide)]
            · rw [if_neg q, if_neg fun r => q ((hgi i).mpr r), if_pos rfl]
          unfold fb
          by_cases q : g i = true
          · rw [if_pos q] at hb
            rw [if_pos q, lpp_r (f := fun x => F_X9_read_32_1 J K (Int32.ofNat k) (Int32.ofNat l) a3 (Int32.ofNat n) (p1 x) (p1 (p2 x)) (p2 (p2 x))) (s := (0, Int32.ofNat i, Int32.ofNat i)) hb]
            exact ih fuel (i + 1) (by omega) (by omega)
          · rw [if_neg q] at hb
            rw [if_neg q]
            exact lpp_l (f := fun x => F_X9_read_32_1 J K (Int32.ofNat k) (Int32.ofNat l) a3 (Int32.ofNat n) (p1 x) (p1 (p2 x)) (p2 (p2 x))) (s := (0, Int32.ofNat i, Int32.ofNat i)) hb
      unfold F_X9_read
      rw [isSheet_eq, hk, hl, if_pos c.1, if_neg (show ¬ (1 : Int32) = 0 by decide), in_eq, i0, hn, show (20 : Int64).toInt = 20 by decide, if_pos c.2, if_neg (show ¬ (1 : Int32) = 0 by decide)]
      unfold F_X9_read_32
      have hl0 := hloop W 4294967296 0 (by omega) (by omega)
      rw [show (0 : Int32) = Int32.ofNat 0 from rfl] at hl0 ⊢
      rw [hl0]
      cases hfb : fb g W 0 with
      | some j => rfl
      | none =>
        show F_X9_read_190 J K (Int32.ofNat k) (Int32.ofNat l) a3 (Int32.ofNat n) (if n ≤ W then 0 else RE) (Int32.ofNat W) = some (Int32.ofNat W, u2 J 33 46 (if n ≤ W then 0 else RE), u2 K 33 2 (gi A W (K 33 2)))
        generalize (if n ≤ W then (0 : Int32) else RE) = T
        unfold F_X9_read_190 F_X9_read_199
        have hset : ∀ a b, F_X9_actSet (u2 J 33 46 T) a b = F_X9_actSet I a b := fun a b => by
          rw [actSet_cw, actSet_cw I, u2_nc (a := 33) (b := 0) (by omega), u2_nc (a := 33) (b := 1) (by omega), hJ 33 0 (by omega), hJ 33 1 (by omega)]
        have hAi : ∀ i, A i = F_X9_actSet I (I 44 (40 * k + (F + 2 * i))) (I 44 (40 * k + (F + 2 * i + 1))) := fun i => by rw [← hA]
        obtain ⟨e, r1, r2⟩ := frp0_nat (g := fun i x => F_X9_read_206_3 (u2 J 33 46 T) x (Int32.ofNat k) (Int32.ofNat l) a3 (Int32.ofNat n) (Int32.ofNat W) i) (b := W) (by omega) (fun i s => s = u2 K 33 2 (gi A i (K 33 2))) (s := K) (fun i s hi hs => by
          refine ⟨u2 s 33 2 (s 33 2 ^^^ A i), ?_, by rw [hs, u2_u2, u2_at]; rfl⟩
          show F_X9_read_206_3 (u2 J 33 46 T) s _ _ a3 _ _ (Int32.ofNat i) = _
          unfold F_X9_read_206_3
          have hF := (w4 i hi).1
          rw [jpos i hi, la1, if_neg (nin (k := 40 * k + (F + 2 * i)) (N := 160) (by omega) (by decide)), if_neg (nin (k := 40 * k + (F + 2 * i) + 1) (N := 160) (by omega) (by decide)), on_clamp (n := 40 * k + (F + 2 * i)) (by omega), on_clamp (n := 40 * k + (F + 2 * i) + 1) (by omega), u2_nc (a := 44) (by omega), u2_nc (a := 44) (by omega), j44, j44, hAi i, hset, show 40 * k + (F + 2 * i) + 1 = 40 * k + (F + 2 * i + 1) by omega]) u2_id.symm
        rw [r1]
        show F_X9_read_254 (u2 J 33 46 T) (p2 e) (Int32.ofNat k) (Int32.ofNat l) a3 (Int32.ofNat n) (Int32.ofNat W) = _
        rw [r2]
        rfl
    rw [e0, e1]
    cases hfb : fb g W 0 with
    | some j =>
      rw [hfb] at e2
      refine ⟨(-20 - Int32.ofNat j, I, L), e2 I L (fun _ _ _ => rfl), rfl, H'⟩
    | none =>
      rw [hfb] at e2
      generalize hT : (if n ≤ W then (0 : Int32) else RE) = T at e2
      refine ⟨(Int32.ofNat W, u2 (u2 I 0 14 T) 33 46 T, u2 (u2 L 1 3 (gi A W (L 1 3))) 33 2 (gi A W (L 33 2))), ?_, rfl, ?_⟩
      · exact e2 (u2 I 0 14 T) (u2 L 1 3 (gi A W (L 1 3))) (fun a b q => u2_nc q)
      · show Inv (u2 (u2 I 0 14 T) 33 46 T) (u2 (u2 L 1 3 (gi A W (L 1 3))) 33 2 (gi A W (L 33 2)))
        rw [c5]
        refine Inv.setC (I := u2 (u2 I 0 14 T) 33 46 T) ?_ fun h' w' hC' g1 g2 => ?_
        · exact ⟨⟨h, w, ⟨hC, c1, c2, c3, c4, c5, c6, c7⟩, h2⟩, k0, k1, h3, h4, four h5 id id id id, rfl⟩
        · obtain ⟨rfl, rfl⟩ := hC.eq hC' c1 c2 g1 g2
          refine gi_ins c6 fun i _ => ?_
          rw [← hA]
          exact set_ins hC c3 c4
  · have e1 : F_X8_read I L a1 a2 a3 a4 = (-1, I, L) := by
      unfold F_X8_read F_X8_read_34
      by_cases d : 0 ≤ a1.toInt ∧ a1.toInt ≤ 3
      · obtain ⟨k, rfl, hk, -⟩ := nn d.1
        rw [if_pos (nin (k := k) (N := 4) (by omega) (by decide)), isLane_eq]
        by_cases d2 : 0 ≤ a2.toInt ∧ a2.toInt ≤ 2
        · rw [if_pos d2, if_neg (show ¬ (1 : Int32) = 0 by decide)]
          by_cases d3 : a4.toInt < 0
          · rw [if_pos (by first | omega | (simp (disch := omega) only [Int32.lt_iff_toInt_lt, Int32.le_iff_toInt_le, ← Int32.toInt_inj, on_toInt, on_clamp, ti64, z0, z1, z2, zm1, i0, i1, im1, zz3, zz4, zz5, zz6, zz7, zz8, zz9, zz10, zz11, zz12, zz13, zz14, zz15, zz16, zz17, zz18, zz19, zz20, zz21, zz22, zz23, zz24, zz25, zz26, zz27, zz28, zz29, zz30, zz31, zz32, zz33, zz34, zz35, zz36, zz37, zz38, zz39, zz40, zz41, zz48, zz60, zz64, zz160, zz312, zz320, zzm2, zzm3, zzm4, zzm5, zzm6, zzm7, zzm8, zzm9, zzm10]; done) | (simp (disch := omega) only [Int32.lt_iff_toInt_lt, Int32.le_iff_toInt_le, ← Int32.toInt_inj, on_toInt, on_clamp, ti64, z0, z1, z2, zm1, i0, i1, im1, zz3, zz4, zz5, zz6, zz7, zz8, zz9, zz10, zz11, zz12, zz13, zz14, zz15, zz16, zz17, zz18, zz19, zz20, zz21, zz22, zz23, zz24, zz25, zz26, zz27, zz28, zz29, zz30, zz31, zz32, zz33, zz34, zz35, zz36, zz37, zz38, zz39, zz40, zz41, zz48, zz60, zz64, zz160, zz312, zz320, zzm2, zzm3, zzm4, zzm5, zzm6, zzm7, zzm8, zzm9, zzm10]; omega))]
          · have d4 : ¬ a4.toInt ≤ 20 := fun q => c ⟨⟨d, d2⟩, by omega, q⟩
            rw [if_neg (by first | omega | (simp (disch := omega) only [Int32.lt_iff_toInt_lt, Int32.le_iff_toInt_le, ← Int32.toInt_inj, on_toInt, on_clamp, ti64, z0, z1, z2, zm1, i0, i1, im1, zz3, zz4, zz5, zz6, zz7, zz8, zz9, zz10, zz11, zz12, zz13, zz14, zz15, zz16, zz17, zz18, zz19, zz20, zz21, zz22, zz23, zz24, zz25, zz26, zz27, zz28, zz29, zz30, zz31, zz32, zz33, zz34, zz35, zz36, zz37, zz38, zz39, zz40, zz41, zz48, zz60, zz64, zz160, zz312, zz320, zzm2, zzm3, zzm4, zzm5, zzm6, zzm7, zzm8, zzm9, zzm10]; done) | (simp (disch := omega) only [Int32.lt_iff_toInt_lt, Int32.le_iff_toInt_le, ← Int32.toInt_inj, on_toInt, on_clamp, ti64, z0, z1, z2, zm1, i0, i1, im1, zz3, zz4, zz5, zz6, zz7, zz8, zz9, zz10, zz11, zz12, zz13, zz14, zz15, zz16, zz17, zz18, zz19, zz20, zz21, zz22, zz23, zz24, zz25, zz26, zz27, zz28, zz29, zz30, zz31, zz32, zz33, zz34, zz35, zz36, zz37, zz38, zz39, zz40, zz41, zz48, zz60, zz64, zz160, zz312, zz320, zzm2, zzm3, zzm4, zzm5, zzm6, zzm7, zzm8, zzm9, zzm10]; omega)), if_neg (by first | omega | (simp (disch := omega) only [Int32.lt_iff_toInt_lt, Int32.le_iff_toInt_le, ← Int32.toInt_inj, on_toInt, on_clamp, ti64, z0, z1, z2, zm1, i0, i1, im1, zz3, zz4, zz5, zz6, zz7, zz8, zz9, zz10, zz11, zz12, zz13, zz14, zz15, zz16, zz17, zz18, zz19, zz20, zz21, zz22, zz23, zz24, zz25, zz26, zz27, zz28, zz29, zz30, zz31, zz32, zz33, zz34, zz35, zz36, zz37, zz38, zz39, zz40, zz41, zz48, zz60, zz64, zz160, zz312, zz320, zzm2, zzm3, zzm4, zzm5, zzm6, zzm7, zzm8, zzm9, zzm10]; done) | (simp (disch := omega) only [Int32.lt_iff_toInt_lt, Int32.le_iff_toInt_le, ← Int32.toInt_inj, on_toInt, on_clamp, ti64, z0, z1, z2, zm1, i0, i1, im1, zz3, zz4, zz5, zz6, zz7, zz8, zz9, zz10, zz11, zz12, zz13, zz14, zz15, zz16, zz17, zz18, zz19, zz20, zz21, zz22, zz23, zz24, zz25, zz26, zz27, zz28, zz29, zz30, zz31, zz32, zz33, zz34, zz35, zz36, zz37, zz38, zz39, zz40, zz41, zz48, zz60, zz64, zz160, zz312, zz320, zzm2, zzm3, zzm4, zzm5, zzm6, zzm7, zzm8, zzm9, zzm10]; omega))]
        · rw [if_neg d2, if_pos rfl]
      · rw [if_neg]
        intro q
        rcases nsplit a1 with r | ⟨k, hk, rfl⟩
        · exact q (.inl (by first | omega | (simp (disch := omega) only [Int32.lt_iff_toInt_lt, Int32.le_iff_toInt_le, ← Int32.toInt_inj, on_toInt, on_clamp, ti64, z0, z1, z2, zm1, i0, i1, im1, zz3, zz4, zz5, zz6, zz7, zz8, zz9, zz10, zz11, zz12, zz13, zz14, zz15, zz16, zz17, zz18, zz19, zz20, zz21, zz22, zz23, zz24, zz25, zz26, zz27, zz28, zz29, zz30, zz31, zz32, zz33, zz34, zz35, zz36, zz37, zz38, zz39, zz40, zz41, zz48, zz60, zz64, zz160, zz312, zz320, zzm2, zzm3, zzm4, zzm5, zzm6, zzm7, zzm8, zzm9, zzm10]; done) | (simp (disch := omega) only [Int32.lt_iff_toInt_lt, Int32.le_iff_toInt_le, ← Int32.toInt_inj, on_toInt, on_clamp, ti64, z0, z1, z2, zm1, i0, i1, im1, zz3, zz4, zz5, zz6, zz7, zz8, zz9, zz10, zz11, zz12, zz13, zz14, zz15, zz16, zz17, zz18, zz19, zz20, zz21, zz22, zz23, zz24, zz25, zz26, zz27, zz28, zz29, zz30, zz31, zz32, zz33, zz34, zz35, zz36, zz37, zz38, zz39, zz40, zz41, zz48, zz60, zz64, zz160, zz312, zz320, zzm2, zzm3, zzm4, zzm5, zzm6, zzm7, zzm8, zzm9, zzm10]; omega)))
        · rw [on_toInt hk] at d
          exact q (.inr (by rw [on_clamp hk]; omega))
    have e2 : F_X9_read I L a1 a2 a3 a4 = some (-1, I, L) := by
      unfold F_X9_read F_X9_read_21
      rw [isSheet_eq, in_eq, i0, show (20 : Int64).toInt = 20 by decide]
      by_cases d : (0 ≤ a1.toInt ∧ a1.toInt ≤ 3) ∧ 0 ≤ a2.toInt ∧ a2.toInt ≤ 2
      · rw [if_pos d, if_neg (show ¬ (1 : Int32) = 0 by decide), if_neg (show ¬ (0 ≤ a4.toInt ∧ a4.toInt ≤ 20) from fun q => c ⟨d, q⟩), if_pos rfl]
      · rw [if_neg d, if_pos rfl]
    rw [e1]
    exact ⟨_, e2, rfl, H'⟩
