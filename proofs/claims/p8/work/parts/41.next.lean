/-! the reference's next -/
/-- the reference's cells agree but for where it reads -/
def Fn (I J : WI) : Prop := ∀ k j, ¬ (k = 33 ∧ 22 ≤ j ∧ j ≤ 27) → J k j = I k j
theorem Fn.rfl {I : WI} : Fn I I := fun _ _ _ => Eq.refl _
theorem Fn.trans {I J K : WI} (a : Fn I J) (b : Fn J K) : Fn I K := fun k j h => (b k j h).trans (a k j h)
theorem Fn.u {I J : WI} {j : Nat} {x : Int32} (a : Fn I J) (h : 22 ≤ j) (h' : j ≤ 27) : Fn I (u2 J 33 j x) := fun k j' q => (u2_nc (by omega)).trans (a k j' q)
theorem Fn.tap {I J : WI} {B : Nat → Nat} {n : Nat} (a : Fn I J) (T : TapM B n I) : TapM B n J := T.ag fun k j h => a k j (by omega)
def nvm (B : Nat → Nat) (f : Nat) : Nat → Int32
  | 0 => 0
  | k + 1 => if 2 ≤ k then nvm B f k else 10 * nvm B f k + Int32.ofNat (B (f + k)) - 48
theorem tv_m {B : Nat → Nat} {n q : Nat} (hq : q < n) (h : isFg (B q) = true) (h2 : tfe B n q - q ≤ 2) : nvm B q (tfe B n q - q) = Int32.ofNat (tv B n q) := by
  have h1 := (tv_b hq h h2).1
  have a1 := fg_b h
  have t1 := two_t (B q) a1.2 a1.1
  unfold tv
  by_cases c : tfe B n q - q ≤ 1
  · rw [if_pos c]
    rw [show tfe B n q - q = 1 by omega]
    exact t1.2.1
  · rw [if_neg c]
    have hb : isFg (B (q + 1)) = true := scan_in (P := fun j => isFg (B j)) (n := n) (n - q) q (q + 1) (by omega) (by unfold tfe at c; omega)
    have a2 := fg_b hb
    rw [show tfe B n q - q = 2 by omega]
    show 10 * (10 * (0 : Int32) + Int32.ofNat (B (q + 0)) - 48) + Int32.ofNat (B (q + 1)) - 48 = _
    rw [Nat.add_zero, t1.2.1]
    exact (t1.2.2 (B (q + 1)) a2.2 a2.1).2
/-- what next does -/
def StepM (B : Nat → Nat) (n p : Nat) (I I' : WI) : Prop := Fn I I' ∧ (tk B n (tf B n p) ≠ 4 → I' 33 23 = Int32.ofNat (tf B n p) ∧ I' 33 24 = Int32.ofNat (tk B n (tf B n p)) ∧ I' 33 22 = Int32.ofNat (te B n (tf B n p)) ∧ I' 33 26 = 0 ∧ (tk B n (tf B n p) = 2 → I' 33 25 = Int32.ofNat (tv B n (tf B n p)))) ∧ (tk B n (tf B n p) = 4 → I' 33 26 = 1 ∧ I' 33 27 = Int32.ofNat (tf B n p))
theorem needs_1 {I : WI} {c : Int32} : F_X9_needs I 1 c = I := by
  unfold F_X9_needs F_X9_needs_24
  rw [if_neg (by decide)]
theorem needs_0 {I : WI} {c : Int32} (h : I 33 26 = 0) : F_X9_needs I 0 c = u2 (u2 I 33 26 c) 33 27 (I 33 23) := by
  unfold F_X9_needs F_X9_needs_24
  rw [if_pos rfl, if_pos h]
  rfl
theorem needs_f {I : WI} {a c : Int32} (h : ¬ I 33 26 = 0) : F_X9_needs I a c = I := by
  unfold F_X9_needs F_X9_needs_24
  rw [if_neg h]
  split <;> rfl
theorem next_f {I : WI} (h : 0 < (I 33 26).toInt) : F_X9_next I = some I := by
  unfold F_X9_next
  rw [if_neg (by first | omega | (simp (disch := omega) only [Int32.lt_iff_toInt_lt, Int32.le_iff_toInt_le, ← Int32.toInt_inj, on_toInt, on_clamp, ti64, z0, z1, z2, zm1, i0, i1, im1, zz3, zz4, zz5, zz6, zz7, zz8, zz9, zz10, zz11, zz12, zz13, zz14, zz15, zz16, zz17, zz18, zz19, zz20, zz21, zz22, zz23, zz24, zz25, zz26, zz27, zz28, zz29, zz30, zz31, zz32, zz33, zz34, zz35, zz36, zz37, zz38, zz39, zz40, zz41, zz48, zz60, zz64, zz160, zz312, zz320, zzm2, zzm3, zzm4, zzm5, zzm6, zzm7, zzm8, zzm9, zzm10]; done) | (simp (disch := omega) only [Int32.lt_iff_toInt_lt, Int32.le_iff_toInt_le, ← Int32.toInt_inj, on_toInt, on_clamp, ti64, z0, z1, z2, zm1, i0, i1, im1, zz3, zz4, zz5, zz6, zz7, zz8, zz9, zz10, zz11, zz12, zz13, zz14, zz15, zz16, zz17, zz18, zz19, zz20, zz21, zz22, zz23, zz24, zz25, zz26, zz27, zz28, zz29, zz30, zz31, zz32, zz33, zz34, zz35, zz36, zz37, zz38, zz39, zz40, zz41, zz48, zz60, zz64, zz160, zz312, zz320, zzm2, zzm3, zzm4, zzm5, zzm6, zzm7, zzm8, zzm9, zzm10]; omega))]
theorem next_M {B : Nat → Nat} {n p : Nat} {I : WI} (T : TapM B n I) (hp : p ≤ n) (e8 : I 33 22 = Int32.ofNat p) (e3 : I 33 26 = 0) : ∃ I', F_X9_next I = some I' ∧ StepM B n p I I' := by
  have hn : n ≤ 320 := T.1
  obtain ⟨m1, m2, m3, m4⟩ := um_t
  obtain ⟨r, r1, r2, r3, r4⟩ := lpp_scanP (f := fun x => F_X9_next_8_1 x) (P := fun j => isSp (B j)) (n := n) (fun q (s : WI) => Fn I s ∧ s 33 22 = Int32.ofNat q ∧ s 33 26 = 0) (n - p) p I (by omega) ⟨Fn.rfl, e8, e3⟩ (fun q s h1 h2 hs => by
    obtain ⟨s1, s2, s3⟩ := hs
    have Ts := s1.tap T
    show if q < n ∧ isSp (B q) = true then ∃ s', F_X9_next_8_1 s = some (.inr s') ∧ _ else F_X9_next_8_1 s = some (.inl s)
    unfold F_X9_next_8_1
    rw [s2, look_eq Ts (by omega), ob_some]
    by_cases c : q < n
    · have hb := (ub_t (B q) (Ts.2.2.2 q c).1).1
      rw [if_pos c]
      by_cases d : isSp (B q) = true
      · rw [if_pos ⟨c, d⟩, if_pos (hb.mpr d), la1]
        refine ⟨_, rfl, s1.u (by decide) (by decide), u2_at, ?_⟩
        rw [u2_nc (by omega), s3]
      · rw [if_neg fun g => d g.2, if_neg fun g => d (hb.mp g)]
    · rw [if_neg c, if_neg fun g => c g.1, if_neg m1]) 4294967296 (by omega)
  have hq : tf B n p = scan (fun j => isSp (B j)) n (n - p) p := rfl
  rw [← hq] at r3
  have hqn : tf B n p ≤ n := (scan_le (n - p) p).2 hp
  generalize hf : tf B n p = f at r3 hqn
  have q1 : Fn I (u2 r 33 23 (Int32.ofNat f)) := r2.u (by decide) (by decide)
  have Tr := q1.tap T
  suffices hs : ∃ I', F_X9_next_34 r = some I' ∧ StepM B n p I I' by
    obtain ⟨I', g1, g2⟩ := hs
    refine ⟨I', ?_, g2⟩
    unfold F_X9_next F_X9_next_8
    rw [e3, if_pos (by decide), r1]
    exact g1
  unfold StepM
  rw [hf]
  unfold F_X9_next_34
  rw [r3]
  generalize hS : u2 r 33 23 (Int32.ofNat f) = s at q1 Tr ⊢
  have s7 : s 33 23 = Int32.ofNat f := by rw [← hS, u2_at]
  have s8 : s 33 22 = Int32.ofNat f := by rw [← hS, u2_nc (by omega), r3]
  have s3 : s 33 26 = 0 := by rw [← hS, u2_nc (by omega), r4]
  rw [s8, look_eq Tr (by omega), ob_some]
  by_cases c : f < n
  · obtain ⟨b1, b2, b3, b4, -⟩ := ub_t (B f) (Tr.2.2.2 f c).1
    have hb := (Tr.2.2.2 f c).1
    rw [if_pos c, if_pos (by first | omega | (simp (disch := omega) only [Int32.lt_iff_toInt_lt, Int32.le_iff_toInt_le, ← Int32.toInt_inj, on_toInt, on_clamp, ti64, z0, z1, z2, zm1, i0, i1, im1, zz3, zz4, zz5, zz6, zz7, zz8, zz9, zz10, zz11, zz12, zz13, zz14, zz15, zz16, zz17, zz18, zz19, zz20, zz21, zz22, zz23, zz24, zz25, zz26, zz27, zz28, zz29, zz30, zz31, zz32, zz33, zz34, zz35, zz36, zz37, zz38, zz39, zz40, zz41, zz48, zz60, zz64, zz160, zz312, zz320, zzm2, zzm3, zzm4, zzm5, zzm6, zzm7, zzm8, zzm9, zzm10]; done) | (simp (disch := omega) only [Int32.lt_iff_toInt_lt, Int32.le_iff_toInt_le, ← Int32.toInt_inj, on_toInt, on_clamp, ti64, z0, z1, z2, zm1, i0, i1, im1, zz3, zz4, zz5, zz6, zz7, zz8, zz9, zz10, zz11, zz12, zz13, zz14, zz15, zz16, zz17, zz18, zz19, zz20, zz21, zz22, zz23, zz24, zz25, zz26, zz27, zz28, zz29, zz30, zz31, zz32, zz33, zz34, zz35, zz36, zz37, zz38, zz39, zz40, zz41, zz48, zz60, zz64, zz160, zz312, zz320, zzm2, zzm3, zzm4, zzm5, zzm6, zzm7, zzm8, zzm9, zzm10]; omega)), b3]
    by_cases d2 : isLt (B f) = true
    · have d1 : ¬ B f = 59 := fun g => by rw [g] at d2; exact absurd d2 (by decide)
      have hk : tk B n f = 1 := by unfold tk; rw [if_neg (by omega), if_neg d1, if_pos d2]
      have he : te B n f = tle B n f := by unfold te; rw [if_neg (by omega), if_neg d1, if_pos d2]
      rw [if_pos d2, if_neg (show ¬ (1 : Int32) = 0 by decide), hk, he]
      obtain ⟨t, t1, t2, t3, t4, t5, t6⟩ := lpp_scanP (f := fun x => F_X9_next_82_3 x) (P := fun j => isLt (B j)) (n := n) (fun q (x : WI) => Fn I x ∧ x 33 22 = Int32.ofNat q ∧ x 33 26 = 0 ∧ x 33 23 = Int32.ofNat f ∧ x 33 24 = 1) (n - f) f (u2 s 33 24 1) (by omega) ⟨q1.u (by decide) (by decide), by rw [u2_nc (by omega), s8], by rw [u2_nc (by omega), s3], by rw [u2_nc (by omega), s7], u2_at⟩ (fun q x h1 h2 hx => by
        obtain ⟨x1, x2, x3, x4, x5⟩ := hx
        have Tx := x1.tap T
        show if q < n ∧ isLt (B q) = true then ∃ s', F_X9_next_82_3 x = some (.inr s') ∧ _ else F_X9_next_82_3 x = some (.inl x)
        unfold F_X9_next_82_3
        rw [x2, look_eq Tx (by omega), ob_some]
        by_cases c' : q < n
        · have hb := (ub_t (B q) (Tx.2.2.2 q c').1).2.2.1
          rw [if_pos c', hb]
          by_cases d : isLt (B q) = true
          · rw [if_pos ⟨c', d⟩, if_pos d, if_neg (show ¬ (1 : Int32) = 0 by decide), la1]
            exact ⟨_, rfl, x1.u (by decide) (by decide), u2_at, by rw [u2_nc (by omega), x3], by rw [u2_nc (by omega), x4], by rw [u2_nc (by omega), x5]⟩
          · rw [if_neg fun g => d g.2, if_neg d, if_pos rfl]
        · rw [if_neg c', if_neg fun g => c' g.1, m2, if_pos rfl]) 4294967296 (by omega)
      refine ⟨t, ?_, t2, fun _ => ⟨t5, t6, t3, t4, fun g => absurd g (by decide)⟩, fun g => absurd g (by decide)⟩
      unfold F_X9_next_82
      rw [t1]
      rfl
    rw [if_neg d2, if_pos rfl, b4]
    by_cases d3 : isFg (B f) = true
    · have d1 : ¬ B f = 59 := fun g => by rw [g] at d3; exact absurd d3 (by decide)
      rw [if_pos d3, if_neg (show ¬ (1 : Int32) = 0 by decide)]
      have he : te B n f = tfe B n f := by unfold te; rw [if_neg (by omega), if_neg d1, if_neg d2]
      obtain ⟨t, t1, t2, t3, t4, t5, t6, t7⟩ := lpp_scanP (f := fun x => F_X9_next_140_2 x) (P := fun j => isFg (B j)) (n := n) (fun q (x : WI) => Fn I x ∧ x 33 22 = Int32.ofNat q ∧ x 33 26 = 0 ∧ x 33 23 = Int32.ofNat f ∧ x 33 24 = 2 ∧ x 33 25 = nvm B f (q - f)) (n - f) f (u2 (u2 s 33 24 2) 33 25 0) (by omega) ⟨(q1.u (by decide) (by decide)).u (by decide) (by decide), by rw [u2_nc (by omega), u2_nc (by omega), s8], by rw [u2_nc (by omega), u2_nc (by omega), s3], by rw [u2_nc (by omega), u2_nc (by omega), s7], by rw [u2_nc (by omega), u2_at], by rw [u2_at, Nat.sub_self]; rfl⟩ (fun q x h1 h2 hx => by
        obtain ⟨x1, x2, x3, x4, x5, x6⟩ := hx
        have Tx := x1.tap T
        show if q < n ∧ isFg (B q) = true then ∃ s', F_X9_next_140_2 x = some (.inr s') ∧ _ else F_X9_next_140_2 x = some (.inl x)
        unfold F_X9_next_140_2
        rw [x2, look_eq Tx (by omega), ob_some]
        by_cases c' : q < n
        · have hb := (ub_t (B q) (Tx.2.2.2 q c').1).2.2.2.1
          rw [if_pos c', hb]
          by_cases d : isFg (B q) = true
          · rw [if_pos ⟨c', d⟩, if_pos d, if_neg (show ¬ (1 : Int32) = 0 by decide), x4, on_sub h1]
            by_cases g : 2 ≤ q - f
            · rw [if_pos (by first | omega | (simp (disch := omega) only [Int32.lt_iff_toInt_lt, Int32.le_iff_toInt_le, ← Int32.toInt_inj, on_toInt, on_clamp, ti64, z0, z1, z2, zm1, i0, i1, im1, zz3, zz4, zz5, zz6, zz7, zz8, zz9, zz10, zz11, zz12, zz13, zz14, zz15, zz16, zz17, zz18, zz19, zz20, zz21, zz22, zz23, zz24, zz25, zz26, zz27, zz28, zz29, zz30, zz31, zz32, zz33, zz34, zz35, zz36, zz37, zz38, zz39, zz40, zz41, zz48, zz60, zz64, zz160, zz312, zz320, zzm2, zzm3, zzm4, zzm5, zzm6, zzm7, zzm8, zzm9, zzm10]; done) | (simp (disch := omega) only [Int32.lt_iff_toInt_lt, Int32.le_iff_toInt_le, ← Int32.toInt_inj, on_toInt, on_clamp, ti64, z0, z1, z2, zm1, i0, i1, im1, zz3, zz4, zz5, zz6, zz7, zz8, zz9, zz10, zz11, zz12, zz13, zz14, zz15, zz16, zz17, zz18, zz19, zz20, zz21, zz22, zz23, zz24, zz25, zz26, zz27, zz28, zz29, zz30, zz31, zz32, zz33, zz34, zz35, zz36, zz37, zz38, zz39, zz40, zz41, zz48, zz60, zz64, zz160, zz312, zz320, zzm2, zzm3, zzm4, zzm5, zzm6, zzm7, zzm8, zzm9, zzm10]; omega))]
              refine ⟨_, rfl, (x1.u (by decide) (by decide)).u (by decide) (by decide), ?_, ?_, ?_, ?_, ?_⟩
              · rw [u2_at, u2_nc (by omega), x2, la1]
              · rw [u2_nc (by omega), u2_nc (by omega), x3]
              · rw [u2_nc (by omega), u2_nc (by omega), x4]
              · rw [u2_nc (by omega), u2_nc (by omega), x5]
              · rw [u2_nc (by omega), u2_at, x6, show q + 1 - f = (q - f) + 1 by omega]
                show _ = if 2 ≤ q - f then nvm B f (q - f) else _
                rw [if_pos g]
            · rw [if_neg (by first | omega | (simp (disch := omega) only [Int32.lt_iff_toInt_lt, Int32.le_iff_toInt_le, ← Int32.toInt_inj, on_toInt, on_clamp, ti64, z0, z1, z2, zm1, i0, i1, im1, zz3, zz4, zz5, zz6, zz7, zz8, zz9, zz10, zz11, zz12, zz13, zz14, zz15, zz16, zz17, zz18, zz19, zz20, zz21, zz22, zz23, zz24, zz25, zz26, zz27, zz28, zz29, zz30, zz31, zz32, zz33, zz34, zz35, zz36, zz37, zz38, zz39, zz40, zz41, zz48, zz60, zz64, zz160, zz312, zz320, zzm2, zzm3, zzm4, zzm5, zzm6, zzm7, zzm8, zzm9, zzm10]; done) | (simp (disch := omega) only [Int32.lt_iff_toInt_lt, Int32.le_iff_toInt_le, ← Int32.toInt_inj, on_toInt, on_clamp, ti64, z0, z1, z2, zm1, i0, i1, im1, zz3, zz4, zz5, zz6, zz7, zz8, zz9, zz10, zz11, zz12, zz13, zz14, zz15, zz16, zz17, zz18, zz19, zz20, zz21, zz22, zz23, zz24, zz25, zz26, zz27, zz28, zz29, zz30, zz31, zz32, zz33, zz34, zz35, zz36, zz37, zz38, zz39, zz40, zz41, zz48, zz60, zz64, zz160, zz312, zz320, zzm2, zzm3, zzm4, zzm5, zzm6, zzm7, zzm8, zzm9, zzm10]; omega)), ob_some]
              refine ⟨_, rfl, (x1.u (by decide) (by decide)).u (by decide) (by decide), ?_, ?_, ?_, ?_, ?_⟩
              · rw [u2_at, u2_nc (by omega), x2, la1]
              · rw [u2_nc (by omega), u2_nc (by omega), x3]
              · rw [u2_nc (by omega), u2_nc (by omega), x4]
              · rw [u2_nc (by omega), u2_nc (by omega), x5]
              · rw [u2_nc (by omega), u2_at, x6, show q + 1 - f = (q - f) + 1 by omega]
                show _ = if 2 ≤ q - f then nvm B f (q - f) else 10 * nvm B f (q - f) + Int32.ofNat (B (f + (q - f))) - 48
                rw [if_neg g, show f + (q - f) = q by omega]
          · rw [if_neg fun g => d g.2, if_neg d, if_pos rfl]
        · rw [if_neg c', if_neg fun g => c' g.1, m3, if_pos rfl]) 4294967296 (by omega)
      have hlen : f ≤ tfe B n f ∧ tfe B n f ≤ n := ⟨(scan_le (n - f) f).1, (scan_le (n - f) f).2 (by omega)⟩
      have t3 : t 33 22 = Int32.ofNat (tfe B n f) := t3
      have t7 : t 33 25 = nvm B f (tfe B n f - f) := t7
      suffices hs : ∃ I', F_X9_next_217 t = some I' ∧ (Fn I I' ∧ (tk B n f ≠ 4 → I' 33 23 = Int32.ofNat f ∧ I' 33 24 = Int32.ofNat (tk B n f) ∧ I' 33 22 = Int32.ofNat (te B n f) ∧ I' 33 26 = 0 ∧ (tk B n f = 2 → I' 33 25 = Int32.ofNat (tv B n f))) ∧ (tk B n f = 4 → I' 33 26 = 1 ∧ I' 33 27 = Int32.ofNat f)) by
        obtain ⟨I', g1, g2⟩ := hs
        refine ⟨I', ?_, g2⟩
        unfold F_X9_next_140
        rw [t1, ob_some, g1]
      unfold F_X9_next_217 F_X9_next_236 F_X9_next_274
      rw [t3, t5, on_sub hlen.1]
      by_cases d4 : tfe B n f - f ≤ 2
      · have hk : tk B n f = 2 := by unfold tk; rw [if_neg (by omega), if_neg d1, if_neg d2, if_pos ⟨d3, d4⟩]
        rw [if_neg (by first | omega | (simp (disch := omega) only [Int32.lt_iff_toInt_lt, Int32.le_iff_toInt_le, ← Int32.toInt_inj, on_toInt, on_clamp, ti64, z0, z1, z2, zm1, i0, i1, im1, zz3, zz4, zz5, zz6, zz7, zz8, zz9, zz10, zz11, zz12, zz13, zz14, zz15, zz16, zz17, zz18, zz19, zz20, zz21, zz22, zz23, zz24, zz25, zz26, zz27, zz28, zz29, zz30, zz31, zz32, zz33, zz34, zz35, zz36, zz37, zz38, zz39, zz40, zz41, zz48, zz60, zz64, zz160, zz312, zz320, zzm2, zzm3, zzm4, zzm5, zzm6, zzm7, zzm8, zzm9, zzm10]; done) | (simp (disch := omega) only [Int32.lt_iff_toInt_lt, Int32.le_iff_toInt_le, ← Int32.toInt_inj, on_toInt, on_clamp, ti64, z0, z1, z2, zm1, i0, i1, im1, zz3, zz4, zz5, zz6, zz7, zz8, zz9, zz10, zz11, zz12, zz13, zz14, zz15, zz16, zz17, zz18, zz19, zz20, zz21, zz22, zz23, zz24, zz25, zz26, zz27, zz28, zz29, zz30, zz31, zz32, zz33, zz34, zz35, zz36, zz37, zz38, zz39, zz40, zz41, zz48, zz60, zz64, zz160, zz312, zz320, zzm2, zzm3, zzm4, zzm5, zzm6, zzm7, zzm8, zzm9, zzm10]; omega)), hk, he, needs_1]
        exact ⟨t, rfl, t2, fun _ => ⟨t5, t6, t3, t4, fun _ => by rw [t7]; exact tv_m c d3 d4⟩, fun g => absurd g (by decide)⟩
      · have hk : tk B n f = 4 := by unfold tk; rw [if_neg (by omega), if_neg d1, if_neg d2, if_neg fun g => d4 g.2]
        rw [if_pos (by first | omega | (simp (disch := omega) only [Int32.lt_iff_toInt_lt, Int32.le_iff_toInt_le, ← Int32.toInt_inj, on_toInt, on_clamp, ti64, z0, z1, z2, zm1, i0, i1, im1, zz3, zz4, zz5, zz6, zz7, zz8, zz9, zz10, zz11, zz12, zz13, zz14, zz15, zz16, zz17, zz18, zz19, zz20, zz21, zz22, zz23, zz24, zz25, zz26, zz27, zz28, zz29, zz30, zz31, zz32, zz33, zz34, zz35, zz36, zz37, zz38, zz39, zz40, zz41, zz48, zz60, zz64, zz160, zz312, zz320, zzm2, zzm3, zzm4, zzm5, zzm6, zzm7, zzm8, zzm9, zzm10]; done) | (simp (disch := omega) only [Int32.lt_iff_toInt_lt, Int32.le_iff_toInt_le, ← Int32.toInt_inj, on_toInt, on_clamp, ti64, z0, z1, z2, zm1, i0, i1, im1, zz3, zz4, zz5, zz6, zz7, zz8, zz9, zz10, zz11, zz12, zz13, zz14, zz15, zz16, zz17, zz18, zz19, zz20, zz21, zz22, zz23, zz24, zz25, zz26, zz27, zz28, zz29, zz30, zz31, zz32, zz33, zz34, zz35, zz36, zz37, zz38, zz39, zz40, zz41, zz48, zz60, zz64, zz160, zz312, zz320, zzm2, zzm3, zzm4, zzm5, zzm6, zzm7, zzm8, zzm9, zzm10]; omega)), hk, needs_0 t4]
        refine ⟨_, rfl, (t2.u (by decide) (by decide)).u (by decide) (by decide), fun g => absurd rfl g, fun _ => ⟨?_, ?_⟩⟩
        · rw [u2_nc (by omega), u2_at]
        · rw [u2_at, t5]
    · rw [if_neg d3, if_pos rfl]
      unfold F_X9_next_260 F_X9_next_274
      by_cases d1 : B f = 59
      · have hk : tk B n f = 3 := by unfold tk; rw [if_neg (by omega), if_pos d1]
        have he : te B n f = f + 1 := by unfold te; rw [if_neg (by omega), if_pos d1]
        rw [if_pos (b2.mpr d1), hk, he, needs_1]
        refine ⟨_, rfl, (q1.u (by decide) (by decide)).u (by decide) (by decide), fun _ => ⟨?_, ?_, ?_, ?_, fun g => absurd g (by decide)⟩, fun g => absurd g (by decide)⟩
        · rw [u2_nc (by omega), u2_nc (by omega), s7]
        · rw [u2_nc (by omega), u2_at]
          rfl
        · rw [u2_at, u2_nc (by omega), s8, la1]
        · rw [u2_nc (by omega), u2_nc (by omega), s3]
      · have hk : tk B n f = 4 := by unfold tk; rw [if_neg (by omega), if_neg d1, if_neg d2, if_neg fun g => d3 g.1]
        rw [if_neg fun g => d1 (b2.mp g), hk, needs_0 (by rw [u2_nc (by omega), s3])]
        refine ⟨_, rfl, (((q1.u (by decide) (by decide)).u (by decide) (by decide)).u (by decide) (by decide)).u (by decide) (by decide), fun g => absurd rfl g, fun _ => ⟨?_, ?_⟩⟩
        · rw [u2_nc (by omega), u2_nc (by omega), u2_at]
        · rw [u2_nc (by omega), u2_at, u2_nc (by omega), s7]
  · have hk : tk B n f = 0 := by unfold tk; rw [if_pos (by omega)]
    have he : te B n f = f := by unfold te; rw [if_pos (by omega)]
    rw [if_neg c, if_neg m4, hk, he]
    refine ⟨_, rfl, q1.u (by decide) (by decide), fun _ => ⟨?_, ?_, ?_, ?_, fun g => absurd g (by decide)⟩, fun g => absurd g (by decide)⟩
    · rw [u2_nc (by omega), s7]
    · rw [u2_at]
      rfl
    · rw [u2_nc (by omega), s8]
    · rw [u2_nc (by omega), s3]
