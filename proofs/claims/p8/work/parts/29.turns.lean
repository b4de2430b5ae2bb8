/-! turned -/
theorem lsh_0 (y : Int32) : lsh 0 y = 0 := by
  apply Int64.toBitVec.inj
  show (0#64) <<< _ = 0#64
  exact BitVec.zero_shiftLeft _
theorem or_0 (x : Int64) : x ||| 0 = x := M_ext fun k _ => by
  rw [M_or]
  exact ⟨fun h => h.resolve_right M_0, .inl⟩
theorem sq_sh {x : Int64} {i : Nat} {p : Int32} : lsh (Int32.toInt64 (if mb x i then 1 else 0)) p = if (if mb x i then (1 : Int32) else 0) = 1 then lsh 1 p else 0 := by
  cases mb x i
  · show lsh 0 p = _
    rw [lsh_0]
    rfl
  · rfl
theorem sub_add {a b c : Int32} : a + b - 1 - c = a + (b - 1 - c) := by
  simp only [Int32.sub_eq_add_neg, Int32.add_assoc]
theorem it2_congr {f f' : Int32 → Int64 → Int64} {g g' : Nat → Int32 → Int64 → Int64} {h w : Nat} {x : Int64} (hf : ∀ r x, r < h → f (Int32.ofNat r) x = it (g r) w x) (hf' : ∀ r x, r < h → f' (Int32.ofNat r) x = it (g' r) w x) (hg : ∀ r c x, r < h → c < w → g r (Int32.ofNat c) x = g' r (Int32.ofNat c) x) : it f h x = it f' h x :=
  it_congr fun r x hr => by rw [hf r x hr, hf' r x hr]; exact it_congr fun c x hc => hg r c x hr hc
theorem mirror_eq {I : WI} {L : WL} {o h w : Nat} (hC : Cl h w) (e1 : I o 1 = Int32.ofNat h) (e2 : I o 2 = Int32.ofNat w) : F_X0_mirror I L o = u2 L o 3 (F_X9_mirrored (L o 3) (Int32.ofNat h) (Int32.ofNat w)) := by
  obtain ⟨⟨h1, h2⟩, h3, h4⟩ := hC
  show u2 L o 3 (p2 (fr0 (fun i x => F_X0_mirror_12_1 I L o i x) (I o 1) (fu 0 (I o 1)) 0 0)) = u2 L o 3 (p2 (fr0 (fun i x => F_X9_mirrored_12_1 (L o 3) (Int32.ofNat h) (Int32.ofNat w) i x) (Int32.ofNat h) (fu 0 (Int32.ofNat h)) 0 0))
  rw [e1, fr0_it (by omega), fr0_it (by omega)]
  congr 1
  refine it2_congr (g := fun r i x => F_X0_mirror_24_2 I L o (Int32.ofNat r) i x) (g' := fun r i x => F_X9_mirrored_21_2 (L o 3) (Int32.ofNat h) (Int32.ofNat w) (Int32.ofNat r) i x) (w := w) (fun r x hr => ?_) (fun r x hr => fr0_it (by omega)) (fun r c x hr hc => ?_)
  · show p2 (fr0 (fun i x => F_X0_mirror_24_2 I L o (Int32.ofNat r) i x) (I o 2) (fu 0 (I o 2)) 0 x) = _
    rw [e2, fr0_it (by omega)]
  · show F_X0_mirror_24_2 I L o (Int32.ofNat r) (Int32.ofNat c) x = F_X9_mirrored_21_2 (L o 3) (Int32.ofNat h) (Int32.ofNat w) (Int32.ofNat r) (Int32.ofNat c) x
    unfold F_X0_mirror_24_2 F_X9_mirrored_21_2 F_X9_mirrored_50_2 F_X9_bitOf
    rw [squareAt_eq (by omega), isDark_eq (by omega), sq_sh, e2, sub_add]
    split <;> rfl
theorem quarter_eq {I : WI} {L : WL} {o h w : Nat} (hC : Cl h w) (e1 : I o 1 = Int32.ofNat h) (e2 : I o 2 = Int32.ofNat w) : F_X0_quarterRight I L o = (u2 (u2 I o 1 (Int32.ofNat w)) o 2 (Int32.ofNat h), u2 L o 3 (F_X9_quarter (L o 3) (Int32.ofNat h) (Int32.ofNat w))) := by
  obtain ⟨⟨h1, h2⟩, h3, h4⟩ := hC
  show (u2 (u2 I o 1 (I o 2)) o 2 (I o 1), u2 L o 3 (p2 (fr0 (fun i x => F_X0_quarterRight_12_1 I L o i x) (I o 1) (fu 0 (I o 1)) 0 0))) = (_, u2 L o 3 (p2 (fr0 (fun i x => F_X9_quarter_12_1 (L o 3) (Int32.ofNat h) (Int32.ofNat w) i x) (Int32.ofNat h) (fu 0 (Int32.ofNat h)) 0 0)))
  rw [e1, e2, fr0_it (by omega), fr0_it (by omega)]
  congr 2
  refine it2_congr (g := fun r i x => F_X0_quarterRight_24_2 I L o (Int32.ofNat r) i x) (g' := fun r i x => F_X9_quarter_21_2 (L o 3) (Int32.ofNat h) (Int32.ofNat w) (Int32.ofNat r) i x) (w := w) (fun r x hr => ?_) (fun r x hr => fr0_it (by omega)) (fun r c x hr hc => ?_)
  · show p2 (fr0 (fun i x => F_X0_quarterRight_24_2 I L o (Int32.ofNat r) i x) (I o 2) (fu 0 (I o 2)) 0 x) = _
    rw [e2, fr0_it (by omega)]
  · show F_X0_quarterRight_24_2 I L o (Int32.ofNat r) (Int32.ofNat c) x = F_X9_quarter_21_2 (L o 3) (Int32.ofNat h) (Int32.ofNat w) (Int32.ofNat r) (Int32.ofNat c) x
    unfold F_X0_quarterRight_24_2 F_X9_quarter_21_2 F_X9_quarter_50_2 F_X9_bitOf
    rw [squareAt_eq (by omega), isDark_eq (by omega), sq_sh, e1, sub_add]
    split <;> rfl
theorem it2_ins {f : Int32 → Int64 → Int64} {g : Nat → Int32 → Int64 → Int64} {h w a b : Nat} {x : Int64} (hx : Ins a b x) (hf : ∀ r x, r < h → f (Int32.ofNat r) x = it (g r) w x) (hg : ∀ r c x, r < h → c < w → Ins a b x → Ins a b (g r (Int32.ofNat c) x)) : Ins a b (it f h x) :=
  it_ind (P := fun _ x => Ins a b x) hx fun r x hr hx => by
    rw [hf r x hr]
    exact it_ind (P := fun _ x => Ins a b x) hx fun c x hc hx => hg r c x hr hc hx
theorem bit_ins {a b r c : Nat} (ha : a ≤ 8) (hb : b ≤ 8) (hr : r < a) (hc : c < b) : Ins a b (F_X9_bitOf (Int32.ofNat r) (Int32.ofNat c)) := fun k hk => by
  rw [bitOf_M (by omega)] at hk
  omega
theorem zero_ins {a b : Nat} : Ins a b 0 := fun k hk => absurd hk M_0
theorem on_sub {a b : Nat} (h : b ≤ a) : Int32.ofNat a - Int32.ofNat b = Int32.ofNat (a - b) := by
  have e : Int32.ofNat a = Int32.ofNat (a - b) + Int32.ofNat b := by rw [oadd, Nat.sub_add_cancel h]
  rw [e]
  simp
theorem mirrored_ins {h w : Nat} (hC : Cl h w) {x : Int64} : Ins h w (F_X9_mirrored x (Int32.ofNat h) (Int32.ofNat w)) := by
  obtain ⟨⟨h1, h2⟩, h3, h4⟩ := hC
  show Ins h w (p2 (fr0 (fun i y => F_X9_mirrored_12_1 x (Int32.ofNat h) (Int32.ofNat w) i y) (Int32.ofNat h) (fu 0 (Int32.ofNat h)) 0 0))
  rw [fr0_it (by omega)]
  refine it2_ins (g := fun r i y => F_X9_mirrored_21_2 x (Int32.ofNat h) (Int32.ofNat w) (Int32.ofNat r) i y) (w := w) zero_ins (fun r y hr => fr0_it (by omega)) (fun r c y hr hc hy => ?_)
  show Ins h w (F_X9_mirrored_21_2 x (Int32.ofNat h) (Int32.ofNat w) (Int32.ofNat r) (Int32.ofNat c) y)
  unfold F_X9_mirrored_21_2 F_X9_mirrored_50_2
  rw [show Int32.ofNat w - 1 - Int32.ofNat c = Int32.ofNat (w - 1 - c) by rw [← on_sub (a := w - 1) (by omega), ← on_sub (a := w) (b := 1) h3]; rfl]
  split
  · exact hy.or (bit_ins h2 h4 hr (by omega))
  · exact hy.or zero_ins
theorem quarter_ins {h w : Nat} (hC : Cl h w) {x : Int64} : Ins w h (F_X9_quarter x (Int32.ofNat h) (Int32.ofNat w)) := by
  obtain ⟨⟨h1, h2⟩, h3, h4⟩ := hC
  show Ins w h (p2 (fr0 (fun i y => F_X9_quarter_12_1 x (Int32.ofNat h) (Int32.ofNat w) i y) (Int32.ofNat h) (fu 0 (Int32.ofNat h)) 0 0))
  rw [fr0_it (by omega)]
  refine it2_ins (g := fun r i y => F_X9_quarter_21_2 x (Int32.ofNat h) (Int32.ofNat w) (Int32.ofNat r) i y) (w := w) zero_ins (fun r y hr => fr0_it (by omega)) (fun r c y hr hc hy => ?_)
  show Ins w h (F_X9_quarter_21_2 x (Int32.ofNat h) (Int32.ofNat w) (Int32.ofNat r) (Int32.ofNat c) y)
  unfold F_X9_quarter_21_2 F_X9_quarter_50_2
  rw [show Int32.ofNat h - 1 - Int32.ofNat r = Int32.ofNat (h - 1 - r) by rw [← on_sub (a := h - 1) (by omega), ← on_sub (a := h) (b := 1) h1]; rfl]
  split
  · exact hy.or (bit_ins h4 h2 hc (by omega))
  · exact hy.or zero_ins
/-- quarters, one behind another -/
def qs (h w : Nat) : Nat → Int64 → Int64
  | 0, x => x
  | n + 1, x => if n % 2 = 0 then F_X9_quarter (qs h w n x) (Int32.ofNat h) (Int32.ofNat w) else F_X9_quarter (qs h w n x) (Int32.ofNat w) (Int32.ofNat h)
def od (n a b : Nat) : Nat := if n % 2 = 0 then a else b
theorem cl_od {h w n : Nat} (hC : Cl h w) : Cl (od n h w) (od n w h) := by
  unfold od
  by_cases c : n % 2 = 0
  · rw [if_pos c, if_pos c]
    exact hC
  · rw [if_neg c, if_neg c]
    exact ⟨hC.2, hC.1⟩
theorem qs_ins {h w : Nat} (hC : Cl h w) {x : Int64} (hx : Ins h w x) : ∀ n, Ins (od n h w) (od n w h) (qs h w n x) := by
  intro n
  induction n with
  | zero => exact hx
  | succ n ih =>
    unfold qs od
    unfold od at ih
    by_cases c : n % 2 = 0
    · rw [if_pos c, if_neg (by omega), if_neg (by omega)]
      exact quarter_ins hC
    · rw [if_neg c, if_pos (by omega), if_pos (by omega)]
      exact quarter_ins ⟨hC.2, hC.1⟩
theorem par4 : ∀ i, i < 4 → ((Int32.ofNat i - Int32.ofNat i / 2 * 2) = 0 ↔ i % 2 = 0) := by decide
theorem rotated_eq {h w t : Nat} (ht : t < 8) {x : Int64} : F_X9_rotated x (Int32.ofNat h) (Int32.ofNat w) (Int32.ofNat t) = qs h w (t % 4) (if t < 4 then x else F_X9_mirrored x (Int32.ofNat h) (Int32.ofNat w)) := by
  have key : ∀ y, F_X9_rotated_16 x (Int32.ofNat h) (Int32.ofNat w) (Int32.ofNat t) y = qs h w (t % 4) y := by
    intro y
    have e : ∀ t, t < 8 → Int32.ofNat t - Int32.ofNat t / 4 * 4 = Int32.ofNat (t % 4) := by decide
    show p2 (fr0 (fun i z => F_X9_rotated_30_1 x (Int32.ofNat h) (Int32.ofNat w) (Int32.ofNat t) i z) (Int32.ofNat t - Int32.ofNat t / 4 * 4) (fu 0 (Int32.ofNat t - Int32.ofNat t / 4 * 4)) 0 y) = _
    rw [e t ht, fr0_it (by omega)]
    refine it_ind (P := fun i z => z = qs h w i y) rfl fun i z hi hz => ?_
    show F_X9_rotated_30_1 x (Int32.ofNat h) (Int32.ofNat w) (Int32.ofNat t) (Int32.ofNat i) z = _
    unfold F_X9_rotated_30_1 F_X9_rotated_54_1 qs
    rw [hz]
    by_cases c : i % 2 = 0
    · rw [if_pos ((par4 i (by omega)).mpr c), if_pos c]
    · rw [if_neg fun q => c ((par4 i (by omega)).mp q), if_neg c]
  unfold F_X9_rotated
  by_cases c : t < 4
  · rw [if_pos (by first | omega | (simp (disch := omega) only [Int32.lt_iff_toInt_lt, Int32.le_iff_toInt_le, ← Int32.toInt_inj, on_toInt, on_clamp, ti64, z0, z1, z2, zm1, i0, i1, im1, zz3, zz4, zz5, zz6, zz7, zz8, zz9, zz10, zz11, zz12, zz13, zz14, zz15, zz16, zz17, zz18, zz19, zz20, zz21, zz22, zz23, zz24, zz25, zz26, zz27, zz28, zz29, zz30, zz31, zz32, zz33, zz34, zz35, zz36, zz37, zz38, zz39, zz40, zz41, zz48, zz60, zz64, zz160, zz312, zz320, zzm2, zzm3, zzm4, zzm5, zzm6, zzm7, zzm8, zzm9, zzm10]; done) | (simp (disch := omega) only [Int32.lt_iff_toInt_lt, Int32.le_iff_toInt_le, ← Int32.toInt_inj, on_toInt, on_clamp, ti64, z0, z1, z2, zm1, i0, i1, im1, zz3, zz4, zz5, zz6, zz7, zz8, zz9, zz10, zz11, zz12, zz13, zz14, zz15, zz16, zz17, zz18, zz19, zz20, zz21, zz22, zz23, zz24, zz25, zz26, zz27, zz28, zz29, zz30, zz31, zz32, zz33, zz34, zz35, zz36, zz37, zz38, zz39, zz40, zz41, zz48, zz60, zz64, zz160, zz312, zz320, zzm2, zzm3, zzm4, zzm5, zzm6, zzm7, zzm8, zzm9, zzm10]; omega)), key, if_pos c]
  · rw [if_neg (by first | omega | (simp (disch := omega) only [Int32.lt_iff_toInt_lt, Int32.le_iff_toInt_le, ← Int32.toInt_inj, on_toInt, on_clamp, ti64, z0, z1, z2, zm1, i0, i1, im1, zz3, zz4, zz5, zz6, zz7, zz8, zz9, zz10, zz11, zz12, zz13, zz14, zz15, zz16, zz17, zz18, zz19, zz20, zz21, zz22, zz23, zz24, zz25, zz26, zz27, zz28, zz29, zz30, zz31, zz32, zz33, zz34, zz35, zz36, zz37, zz38, zz39, zz40, zz41, zz48, zz60, zz64, zz160, zz312, zz320, zzm2, zzm3, zzm4, zzm5, zzm6, zzm7, zzm8, zzm9, zzm10]; done) | (simp (disch := omega) only [Int32.lt_iff_toInt_lt, Int32.le_iff_toInt_le, ← Int32.toInt_inj, on_toInt, on_clamp, ti64, z0, z1, z2, zm1, i0, i1, im1, zz3, zz4, zz5, zz6, zz7, zz8, zz9, zz10, zz11, zz12, zz13, zz14, zz15, zz16, zz17, zz18, zz19, zz20, zz21, zz22, zz23, zz24, zz25, zz26, zz27, zz28, zz29, zz30, zz31, zz32, zz33, zz34, zz35, zz36, zz37, zz38, zz39, zz40, zz41, zz48, zz60, zz64, zz160, zz312, zz320, zzm2, zzm3, zzm4, zzm5, zzm6, zzm7, zzm8, zzm9, zzm10]; omega)), key, if_neg c]
theorem rotateBy_eq {I : WI} {L : WL} {o h w t : Nat} (hC : Cl h w) (e1 : I o 1 = Int32.ofNat h) (e2 : I o 2 = Int32.ofNat w) (ht : t < 8) : ∃ I' L', F_X0_rotateBy I L o (Int32.ofNat t) = (I', L') ∧ (∀ k j, ¬ (k = o ∧ (j = 1 ∨ j = 2)) → I' k j = I k j) ∧ I' o 1 = Int32.ofNat (od t h w) ∧ I' o 2 = Int32.ofNat (od t w h) ∧ (∀ k j, ¬ (k = o ∧ j = 3) → L' k j = L k j) ∧ L' o 3 = F_X9_rotated (L o 3) (Int32.ofNat h) (Int32.ofNat w) (Int32.ofNat t) := by
  have key : ∀ L : WL, ∃ I' L', F_X0_rotateBy_9 I L o (Int32.ofNat t) = (I', L') ∧ (∀ k j, ¬ (k = o ∧ (j = 1 ∨ j = 2)) → I' k j = I k j) ∧ I' o 1 = Int32.ofNat (od t h w) ∧ I' o 2 = Int32.ofNat (od t w h) ∧ (∀ k j, ¬ (k = o ∧ j = 3) → L' k j = L k j) ∧ L' o 3 = qs h w (t % 4) (L o 3) := by
    intro L
    have e : ∀ t, t < 8 → Int32.ofNat t &&& 3 = Int32.ofNat (t % 4) := by decide
    have hI := it_ind (g := fun i x => F_X0_rotateBy_18_1 (p1 x) (p2 x) o (Int32.ofNat t) i) (s := (I, L)) (b := t % 4) (fun i (x : WI × WL) => (∀ k j, ¬ (k = o ∧ (j = 1 ∨ j = 2)) → p1 x k j = I k j) ∧ p1 x o 1 = Int32.ofNat (od i h w) ∧ p1 x o 2 = Int32.ofNat (od i w h) ∧ (∀ k j, ¬ (k = o ∧ j = 3) → p2 x k j = L k j) ∧ p2 x o 3 = qs h w i (L o 3)) ⟨fun _ _ _ => rfl, e1, e2, fun _ _ _ => rfl, rfl⟩ (fun i x hi hx => by
      obtain ⟨x1, x2, x3, x4, x5⟩ := hx
      have hq := quarter_eq (I := p1 x) (L := p2 x) (o := o) (cl_od (n := i) hC) x2 x3
      show (∀ k j, _ → p1 (F_X0_rotateBy_18_1 (p1 x) (p2 x) o (Int32.ofNat t) (Int32.ofNat i)) k j = I k j) ∧ p1 (F_X0_rotateBy_18_1 (p1 x) (p2 x) o (Int32.ofNat t) (Int32.ofNat i)) o 1 = _ ∧ p1 (F_X0_rotateBy_18_1 (p1 x) (p2 x) o (Int32.ofNat t) (Int32.ofNat i)) o 2 = _ ∧ (∀ k j, _ → p2 (F_X0_rotateBy_18_1 (p1 x) (p2 x) o (Int32.ofNat t) (Int32.ofNat i)) k j = L k j) ∧ p2 (F_X0_rotateBy_18_1 (p1 x) (p2 x) o (Int32.ofNat t) (Int32.ofNat i)) o 3 = _
      unfold F_X0_rotateBy_18_1
      rw [hq]
      refine ⟨fun k j q => ?_, ?_, ?_, fun k j q => ?_, ?_⟩
      · show u2 (u2 (p1 x) o 1 _) o 2 _ k j = _
        rw [u2_nc (by omega), u2_nc (by omega)]
        exact x1 k j q
      · show u2 (u2 (p1 x) o 1 (Int32.ofNat (od i w h))) o 2 _ o 1 = _
        rw [u2_nc (by omega), u2_at]
        unfold od
        by_cases c : i % 2 = 0
        · rw [if_pos c, if_neg (by omega)]
        · rw [if_neg c, if_pos (by omega)]
      · show u2 (u2 (p1 x) o 1 _) o 2 (Int32.ofNat (od i h w)) o 2 = _
        rw [u2_at]
        unfold od
        by_cases c : i % 2 = 0
        · rw [if_pos c, if_neg (by omega)]
        · rw [if_neg c, if_pos (by omega)]
      · show u2 (p2 x) o 3 _ k j = _
        rw [u2_nc (by omega)]
        exact x4 k j q
      · show u2 (p2 x) o 3 (F_X9_quarter (p2 x o 3) (Int32.ofNat (od i h w)) (Int32.ofNat (od i w h))) o 3 = _
        rw [u2_at, x5]
        show _ = if i % 2 = 0 then F_X9_quarter (qs h w i (L o 3)) (Int32.ofNat h) (Int32.ofNat w) else F_X9_quarter (qs h w i (L o 3)) (Int32.ofNat w) (Int32.ofNat h)
        unfold od
        by_cases c : i % 2 = 0
        · rw [if_pos c, if_pos c, if_pos c]
        · rw [if_neg c, if_neg c, if_neg c])
    refine ⟨_, _, ?_, hI.1, ?_, ?_, hI.2.2.2.1, hI.2.2.2.2⟩
    · show (p1 (p2 (fr0 (fun i x => F_X0_rotateBy_18_1 (p1 x) (p2 x) o (Int32.ofNat t) i) (Int32.ofNat t &&& 3) (fu 0 (Int32.ofNat t &&& 3)) 0 (I, L))), p2 (p2 (fr0 (fun i x => F_X0_rotateBy_18_1 (p1 x) (p2 x) o (Int32.ofNat t) i) (Int32.ofNat t &&& 3) (fu 0 (Int32.ofNat t &&& 3)) 0 (I, L)))) = _
      rw [e t ht, fr0_it (by omega)]
    · rw [hI.2.1]
      unfold od
      rw [show t % 4 % 2 = t % 2 by omega]
    · rw [hI.2.2.1]
      unfold od
      rw [show t % 4 % 2 = t % 2 by omega]
  rw [rotated_eq ht]
  unfold F_X0_rotateBy
  by_cases c : t < 4
  · rw [if_pos (by first | omega | (simp (disch := omega) only [Int32.lt_iff_toInt_lt, Int32.le_iff_toInt_le, ← Int32.toInt_inj, on_toInt, on_clamp, ti64, z0, z1, z2, zm1, i0, i1, im1, zz3, zz4, zz5, zz6, zz7, zz8, zz9, zz10, zz11, zz12, zz13, zz14, zz15, zz16, zz17, zz18, zz19, zz20, zz21, zz22, zz23, zz24, zz25, zz26, zz27, zz28, zz29, zz30, zz31, zz32, zz33, zz34, zz35, zz36, zz37, zz38, zz39, zz40, zz41, zz48, zz60, zz64, zz160, zz312, zz320, zzm2, zzm3, zzm4, zzm5, zzm6, zzm7, zzm8, zzm9, zzm10]; done) | (simp (disch := omega) only [Int32.lt_iff_toInt_lt, Int32.le_iff_toInt_le, ← Int32.toInt_inj, on_toInt, on_clamp, ti64, z0, z1, z2, zm1, i0, i1, im1, zz3, zz4, zz5, zz6, zz7, zz8, zz9, zz10, zz11, zz12, zz13, zz14, zz15, zz16, zz17, zz18, zz19, zz20, zz21, zz22, zz23, zz24, zz25, zz26, zz27, zz28, zz29, zz30, zz31, zz32, zz33, zz34, zz35, zz36, zz37, zz38, zz39, zz40, zz41, zz48, zz60, zz64, zz160, zz312, zz320, zzm2, zzm3, zzm4, zzm5, zzm6, zzm7, zzm8, zzm9, zzm10]; omega)), if_pos c]
    exact key L
  · rw [if_neg (by first | omega | (simp (disch := omega) only [Int32.lt_iff_toInt_lt, Int32.le_iff_toInt_le, ← Int32.toInt_inj, on_toInt, on_clamp, ti64, z0, z1, z2, zm1, i0, i1, im1, zz3, zz4, zz5, zz6, zz7, zz8, zz9, zz10, zz11, zz12, zz13, zz14, zz15, zz16, zz17, zz18, zz19, zz20, zz21, zz22, zz23, zz24, zz25, zz26, zz27, zz28, zz29, zz30, zz31, zz32, zz33, zz34, zz35, zz36, zz37, zz38, zz39, zz40, zz41, zz48, zz60, zz64, zz160, zz312, zz320, zzm2, zzm3, zzm4, zzm5, zzm6, zzm7, zzm8, zzm9, zzm10]; done) | (simp (disch := omega) only [Int32.lt_iff_toInt_lt, Int32.le_iff_toInt_le, ← Int32.toInt_inj, on_toInt, on_clamp, ti64, z0, z1, z2, zm1, i0, i1, im1, zz3, zz4, zz5, zz6, zz7, zz8, zz9, zz10, zz11, zz12, zz13, zz14, zz15, zz16, zz17, zz18, zz19, zz20, zz21, zz22, zz23, zz24, zz25, zz26, zz27, zz28, zz29, zz30, zz31, zz32, zz33, zz34, zz35, zz36, zz37, zz38, zz39, zz40, zz41, zz48, zz60, zz64, zz160, zz312, zz320, zzm2, zzm3, zzm4, zzm5, zzm6, zzm7, zzm8, zzm9, zzm10]; omega)), if_neg c, mirror_eq hC e1 e2]
    obtain ⟨I', L', k1, k2, k3, k4, k5, k6⟩ := key (u2 L o 3 (F_X9_mirrored (L o 3) (Int32.ofNat h) (Int32.ofNat w)))
    refine ⟨I', L', k1, k2, k3, k4, fun k j q => ?_, ?_⟩
    · rw [k5 k j q, u2_nc (by omega)]
    · rw [k6, u2_at]
theorem rotated_ins {h w t : Nat} (hC : Cl h w) (ht : t < 8) {x : Int64} (hx : Ins h w x) : Ins (od t h w) (od t w h) (F_X9_rotated x (Int32.ofNat h) (Int32.ofNat w) (Int32.ofNat t)) := by
  rw [rotated_eq ht]
  have e : ∀ a b, od t a b = od (t % 4) a b := by
    intro a b
    unfold od
    rw [show t % 4 % 2 = t % 2 by omega]
  rw [e, e]
  refine qs_ins hC ?_ (t % 4)
  by_cases c : t < 4
  · rw [if_pos c]
    exact hx
  · rw [if_neg c]
    exact mirrored_ins hC
theorem E_26 {I : WI} {L : WL} {a1 : Int32} (H : Inv I L) : (p1 (F_X8_rotate I L a1)) = (p1 (F_X9_rotate (p1 (p2 (F_X8_rotate I L a1))) (p2 (p2 (F_X8_rotate I L a1))) a1)) ∧ Inv (p1 (p2 (F_X9_rotate (p1 (p2 (F_X8_rotate I L a1))) (p2 (p2 (F_X8_rotate I L a1))) a1))) (p2 (p2 (F_X9_rotate (p1 (p2 (F_X8_rotate I L a1))) (p2 (p2 (F_X8_rotate I L a1))) a1))) := by
  have H' := H
  obtain ⟨⟨h, w, ⟨hC, c1, c2, c3, c4, c5, c6, c7⟩, ⟨⟨hp, wp, g1, g2, g3, g4⟩, q2, q3⟩⟩, k0, k1, h3, h4, h5, h6⟩ := H
  by_cases c : 0 ≤ a1.toInt ∧ a1.toInt ≤ 7
  · obtain ⟨t, rfl, ht, -⟩ := nn c.1
    rw [ht] at c
    have ht8 : t < 8 := by omega
    obtain ⟨I1, L1, r1, r2, r3, r4, r5, r6⟩ := rotateBy_eq (L := L) (t := t) hC c1 c2 ht8
    obtain ⟨I2, L2, s1, s2, s3, s4, s5, s6⟩ := rotateBy_eq (I := I1) (L := L1) (o := 2) (t := t) g1 ((r2 2 1 (by omega)).trans g2) ((r2 2 2 (by omega)).trans g3) ht8
    have e1 : F_X8_rotate I L (Int32.ofNat t) = (Int32.ofNat (od t h w), u2 I2 6 0 0, L2) := by
      unfold F_X8_rotate F_X1_clear
      rw [if_neg (by first | omega | (simp (disch := omega) only [Int32.lt_iff_toInt_lt, Int32.le_iff_toInt_le, ← Int32.toInt_inj, on_toInt, on_clamp, ti64, z0, z1, z2, zm1, i0, i1, im1, zz3, zz4, zz5, zz6, zz7, zz8, zz9, zz10, zz11, zz12, zz13, zz14, zz15, zz16, zz17, zz18, zz19, zz20, zz21, zz22, zz23, zz24, zz25, zz26, zz27, zz28, zz29, zz30, zz31, zz32, zz33, zz34, zz35, zz36, zz37, zz38, zz39, zz40, zz41, zz48, zz60, zz64, zz160, zz312, zz320, zzm2, zzm3, zzm4, zzm5, zzm6, zzm7, zzm8, zzm9, zzm10]; done) | (simp (disch := omega) only [Int32.lt_iff_toInt_lt, Int32.le_iff_toInt_le, ← Int32.toInt_inj, on_toInt, on_clamp, ti64, z0, z1, z2, zm1, i0, i1, im1, zz3, zz4, zz5, zz6, zz7, zz8, zz9, zz10, zz11, zz12, zz13, zz14, zz15, zz16, zz17, zz18, zz19, zz20, zz21, zz22, zz23, zz24, zz25, zz26, zz27, zz28, zz29, zz30, zz31, zz32, zz33, zz34, zz35, zz36, zz37, zz38, zz39, zz40, zz41, zz48, zz60, zz64, zz160, zz312, zz320, zzm2, zzm3, zzm4, zzm5, zzm6, zzm7, zzm8, zzm9, zzm10]; omega)), if_pos (by first | omega | (simp (disch := omega) only [Int32.lt_iff_toInt_lt, Int32.le_iff_toInt_le, ← Int32.toInt_inj, on_toInt, on_clamp, ti64, z0, z1, z2, zm1, i0, i1, im1, zz3, zz4, zz5, zz6, zz7, zz8, zz9, zz10, zz11, zz12, zz13, zz14, zz15, zz16, zz17, zz18, zz19, zz20, zz21, zz22, zz23, zz24, zz25, zz26, zz27, zz28, zz29, zz30, zz31, zz32, zz33, zz34, zz35, zz36, zz37, zz38, zz39, zz40, zz41, zz48, zz60, zz64, zz160, zz312, zz320, zzm2, zzm3, zzm4, zzm5, zzm6, zzm7, zzm8, zzm9, zzm10]; done) | (simp (disch := omega) only [Int32.lt_iff_toInt_lt, Int32.le_iff_toInt_le, ← Int32.toInt_inj, on_toInt, on_clamp, ti64, z0, z1, z2, zm1, i0, i1, im1, zz3, zz4, zz5, zz6, zz7, zz8, zz9, zz10, zz11, zz12, zz13, zz14, zz15, zz16, zz17, zz18, zz19, zz20, zz21, zz22, zz23, zz24, zz25, zz26, zz27, zz28, zz29, zz30, zz31, zz32, zz33, zz34, zz35, zz36, zz37, zz38, zz39, zz40, zz41, zz48, zz60, zz64, zz160, zz312, zz320, zzm2, zzm3, zzm4, zzm5, zzm6, zzm7, zzm8, zzm9, zzm10]; omega)), r1]
      show ((u2 (p1 (F_X0_rotateBy I1 L1 2 (Int32.ofNat t))) 6 0 0) 1 1, u2 (p1 (F_X0_rotateBy I1 L1 2 (Int32.ofNat t))) 6 0 0, p2 (F_X0_rotateBy I1 L1 2 (Int32.ofNat t))) = _
      rw [s1]
      show ((u2 I2 6 0 0) 1 1, _, _) = _
      rw [u2_nc (by omega), s2 1 1 (by omega), r3]
      rfl
    have i0' : (u2 I2 6 0 0) 33 0 = Int32.ofNat h := by rw [u2_nc (by omega), s2 _ _ (by omega), r2 _ _ (by omega), c3]
    have i1' : (u2 I2 6 0 0) 33 1 = Int32.ofNat w := by rw [u2_nc (by omega), s2 _ _ (by omega), r2 _ _ (by omega), c4]
    have l2' : L2 33 2 = L 1 3 := by rw [s5 _ _ (by omega), r5 _ _ (by omega), c5]
    have l3' : L2 33 3 = L 33 3 := by rw [s5 _ _ (by omega), r5 _ _ (by omega)]
    have hpar : ∀ t, t < 8 → ((Int32.ofNat t - Int32.ofNat t / 2 * 2) = 1 ↔ ¬ t % 2 = 0) := by decide
    have e2 : ∀ J : WI, J 33 0 = Int32.ofNat h → J 33 1 = Int32.ofNat w → F_X9_rotate J L2 (Int32.ofNat t) = (Int32.ofNat (od t h w), u2 (u2 (u2 J 33 0 (Int32.ofNat (od t h w))) 33 1 (Int32.ofNat (od t w h))) 33 5 0, u2 (u2 L2 33 2 (F_X9_rotated (L 1 3) (Int32.ofNat h) (Int32.ofNat w) (Int32.ofNat t))) 33 3 (F_X9_rotated (L 33 3) (Int32.ofNat h) (Int32.ofNat w) (Int32.ofNat t))) := by
      intro J j0 j1
      unfold F_X9_rotate F_X9_rotate_78 F_X9_rotate_97
      rw [in_eq, i0, ht, show (7 : Int64).toInt = 7 by decide, if_pos c, if_neg (show ¬ (1 : Int32) = 0 by decide), j0, j1, l2', u2_nc (k := 33) (j := 2) (a := 33) (b := 3) (by omega), l3']
      unfold od
      by_cases d : t % 2 = 0
      · have d' : ¬ (Int32.ofNat t - Int32.ofNat t / 2 * 2) = 1 := fun q => (hpar t ht8).mp q d
        rw [if_neg d', if_neg d', if_pos d, if_pos d, u2_nc (k := 33) (j := 0) (a := 33) (b := 1) (by omega), j1]
        rfl
      · have d' : (Int32.ofNat t - Int32.ofNat t / 2 * 2) = 1 := (hpar t ht8).mpr d
        rw [if_pos d', if_pos d', if_neg d, if_neg d]
        rfl
    rw [e1]
    show _ = p1 (F_X9_rotate (u2 I2 6 0 0) L2 (Int32.ofNat t)) ∧ Inv (p1 (p2 (F_X9_rotate (u2 I2 6 0 0) L2 (Int32.ofNat t)))) (p2 (p2 (F_X9_rotate (u2 I2 6 0 0) L2 (Int32.ofNat t))))
    rw [e2 _ i0' i1']
    refine ⟨rfl, ?_⟩
    have hI : ∀ k j, ¬ (k = 1 ∧ (j = 1 ∨ j = 2)) → ¬ (k = 2 ∧ (j = 1 ∨ j = 2)) → I2 k j = I k j := fun k j a b => (s2 k j b).trans (r2 k j a)
    have hL : ∀ k j, ¬ (k = 1 ∧ j = 3) → ¬ (k = 2 ∧ j = 3) → L2 k j = L k j := fun k j a b => (s5 k j b).trans (r5 k j a)
    -- the cells as they stand
    have hI2 : I2 = fun k j => if k = 1 ∧ (j = 1 ∨ j = 2) then I2 k j else if k = 2 ∧ (j = 1 ∨ j = 2) then I2 k j else I k j := by
      funext k j
      by_cases a : k = 1 ∧ (j = 1 ∨ j = 2)
      · rw [if_pos a]
      rw [if_neg a]
      by_cases b : k = 2 ∧ (j = 1 ∨ j = 2)
      · rw [if_pos b]
      rw [if_neg b]
      exact hI k j a b
    have hL2 : L2 = fun k j => if k = 1 ∧ j = 3 then L2 k j else if k = 2 ∧ j = 3 then L2 k j else L k j := by
      funext k j
      by_cases a : k = 1 ∧ j = 3
      · rw [if_pos a]
      rw [if_neg a]
      by_cases b : k = 2 ∧ j = 3
      · rw [if_pos b]
      rw [if_neg b]
      exact hL k j a b
    have f1 : I2 1 1 = Int32.ofNat (od t h w) := (s2 1 1 (by omega)).trans r3
    have f2 : I2 1 2 = Int32.ofNat (od t w h) := (s2 1 2 (by omega)).trans r4
    have f3 : L2 1 3 = F_X9_rotated (L 1 3) (Int32.ofNat h) (Int32.ofNat w) (Int32.ofNat t) := (s5 1 3 (by omega)).trans r6
    have f4 : L2 2 3 = F_X9_rotated (L 2 3) (Int32.ofNat hp) (Int32.ofNat wp) (Int32.ofNat t) := by rw [s6, r5 2 3 (by omega)]
    have f5 : I2 1 0 = I 1 0 := hI 1 0 (by omega) (by omega)
    have f6 : I2 2 0 = I 2 0 := hI 2 0 (by omega) (by omega)
    have f7 : I2 33 4 = I 33 4 := hI 33 4 (by omega) (by omega)
    refine ⟨⟨od t h w, od t w h, ⟨cl_od hC, f1, f2, rfl, rfl, f3.symm, ?_, ?_⟩, ⟨od t hp wp, od t wp hp, cl_od g1, s3, s4, ?_⟩, ?_, ?_⟩, ?_, ?_, ⟨0, by decide, rfl, rfl, fun d hd => absurd hd (by omega)⟩, ?_, ?_, ?_⟩
    · show Ins _ _ (L2 1 3)
      rw [f3]
      exact rotated_ins hC ht8 c6
    · show bz (I2 1 0) = 1
      rw [f5, c7]
    · show bz (I2 2 0) = 1 → _
      rw [f6]
      intro q
      obtain ⟨rfl, rfl⟩ := g4 q
      exact ⟨rfl, rfl⟩
    · show bz (I2 33 4) = bz (I2 2 0)
      rw [f6, f7, q2]
    · show bz (I2 2 0) = 1 → F_X9_rotated (L 33 3) (Int32.ofNat h) (Int32.ofNat w) (Int32.ofNat t) = L2 2 3 ∧ Ins _ _ (L2 2 3)
      rw [f6, f4]
      intro q
      obtain ⟨rfl, rfl⟩ := g4 q
      rw [(q3 q).1]
      exact ⟨rfl, rotated_ins hC ht8 (q3 q).2⟩
    · rw [hI2, hL2]
      exact k0
    · rw [hI2, hL2]
      exact k1
    · rw [hI2]
      exact h4
    · rw [hI2]
      exact four h5 id id id id
    · rw [hI2]
      exact h6
  · have e1 : F_X8_rotate I L a1 = (-1, I, L) := by
      unfold F_X8_rotate F_X8_rotate_10
      by_cases d : a1.toInt < 0
      · rw [if_pos (by first | omega | (simp (disch := omega) only [Int32.lt_iff_toInt_lt, Int32.le_iff_toInt_le, ← Int32.toInt_inj, on_toInt, on_clamp, ti64, z0, z1, z2, zm1, i0, i1, im1, zz3, zz4, zz5, zz6, zz7, zz8, zz9, zz10, zz11, zz12, zz13, zz14, zz15, zz16, zz17, zz18, zz19, zz20, zz21, zz22, zz23, zz24, zz25, zz26, zz27, zz28, zz29, zz30, zz31, zz32, zz33, zz34, zz35, zz36, zz37, zz38, zz39, zz40, zz41, zz48, zz60, zz64, zz160, zz312, zz320, zzm2, zzm3, zzm4, zzm5, zzm6, zzm7, zzm8, zzm9, zzm10]; done) | (simp (disch := omega) only [Int32.lt_iff_toInt_lt, Int32.le_iff_toInt_le, ← Int32.toInt_inj, on_toInt, on_clamp, ti64, z0, z1, z2, zm1, i0, i1, im1, zz3, zz4, zz5, zz6, zz7, zz8, zz9, zz10, zz11, zz12, zz13, zz14, zz15, zz16, zz17, zz18, zz19, zz20, zz21, zz22, zz23, zz24, zz25, zz26, zz27, zz28, zz29, zz30, zz31, zz32, zz33, zz34, zz35, zz36, zz37, zz38, zz39, zz40, zz41, zz48, zz60, zz64, zz160, zz312, zz320, zzm2, zzm3, zzm4, zzm5, zzm6, zzm7, zzm8, zzm9, zzm10]; omega))]
      · rw [if_neg (by first | omega | (simp (disch := omega) only [Int32.lt_iff_toInt_lt, Int32.le_iff_toInt_le, ← Int32.toInt_inj, on_toInt, on_clamp, ti64, z0, z1, z2, zm1, i0, i1, im1, zz3, zz4, zz5, zz6, zz7, zz8, zz9, zz10, zz11, zz12, zz13, zz14, zz15, zz16, zz17, zz18, zz19, zz20, zz21, zz22, zz23, zz24, zz25, zz26, zz27, zz28, zz29, zz30, zz31, zz32, zz33, zz34, zz35, zz36, zz37, zz38, zz39, zz40, zz41, zz48, zz60, zz64, zz160, zz312, zz320, zzm2, zzm3, zzm4, zzm5, zzm6, zzm7, zzm8, zzm9, zzm10]; done) | (simp (disch := omega) only [Int32.lt_iff_toInt_lt, Int32.le_iff_toInt_le, ← Int32.toInt_inj, on_toInt, on_clamp, ti64, z0, z1, z2, zm1, i0, i1, im1, zz3, zz4, zz5, zz6, zz7, zz8, zz9, zz10, zz11, zz12, zz13, zz14, zz15, zz16, zz17, zz18, zz19, zz20, zz21, zz22, zz23, zz24, zz25, zz26, zz27, zz28, zz29, zz30, zz31, zz32, zz33, zz34, zz35, zz36, zz37, zz38, zz39, zz40, zz41, zz48, zz60, zz64, zz160, zz312, zz320, zzm2, zzm3, zzm4, zzm5, zzm6, zzm7, zzm8, zzm9, zzm10]; omega)), if_neg (by first | omega | (simp (disch := omega) only [Int32.lt_iff_toInt_lt, Int32.le_iff_toInt_le, ← Int32.toInt_inj, on_toInt, on_clamp, ti64, z0, z1, z2, zm1, i0, i1, im1, zz3, zz4, zz5, zz6, zz7, zz8, zz9, zz10, zz11, zz12, zz13, zz14, zz15, zz16, zz17, zz18, zz19, zz20, zz21, zz22, zz23, zz24, zz25, zz26, zz27, zz28, zz29, zz30, zz31, zz32, zz33, zz34, zz35, zz36, zz37, zz38, zz39, zz40, zz41, zz48, zz60, zz64, zz160, zz312, zz320, zzm2, zzm3, zzm4, zzm5, zzm6, zzm7, zzm8, zzm9, zzm10]; done) | (simp (disch := omega) only [Int32.lt_iff_toInt_lt, Int32.le_iff_toInt_le, ← Int32.toInt_inj, on_toInt, on_clamp, ti64, z0, z1, z2, zm1, i0, i1, im1, zz3, zz4, zz5, zz6, zz7, zz8, zz9, zz10, zz11, zz12, zz13, zz14, zz15, zz16, zz17, zz18, zz19, zz20, zz21, zz22, zz23, zz24, zz25, zz26, zz27, zz28, zz29, zz30, zz31, zz32, zz33, zz34, zz35, zz36, zz37, zz38, zz39, zz40, zz41, zz48, zz60, zz64, zz160, zz312, zz320, zzm2, zzm3, zzm4, zzm5, zzm6, zzm7, zzm8, zzm9, zzm10]; omega))]
    have e2 : F_X9_rotate I L a1 = (-1, I, L) := by
      unfold F_X9_rotate
      rw [in_eq, i0, show (7 : Int64).toInt = 7 by decide, if_neg c, if_pos rfl]
    rw [e1]
    show _ = p1 (F_X9_rotate I L a1) ∧ Inv (p1 (p2 (F_X9_rotate I L a1))) (p2 (p2 (F_X9_rotate I L a1)))
    rw [e2]
    exact ⟨rfl, H'⟩
