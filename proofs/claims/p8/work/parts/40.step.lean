/-! the class's step -/
theorem lpp_scanP {S : Type} {f : S → Option (S ⊕ S)} {P : Nat → Bool} {n : Nat} (R : Nat → S → Prop) : ∀ (m p : Nat) (s : S), n = p + m → R p s → (∀ q s, p ≤ q → q ≤ n → R q s → if q < n ∧ P q = true then ∃ s', f s = some (.inr s') ∧ R (q + 1) s' else f s = some (.inl s)) → ∀ fuel, m < fuel → ∃ r, lpp f fuel s = some r ∧ R (scan P n m p) r := by
  intro m
  induction m with
  | zero =>
    intro p s hn hR h fuel hf
    obtain ⟨f', rfl⟩ : ∃ g, fuel = g + 1 := ⟨fuel - 1, by omega⟩
    have e := h p s (Nat.le_refl _) (by omega) hR
    rw [if_neg (by omega)] at e
    exact ⟨s, lpp_l e, hR⟩
  | succ m ih =>
    intro p s hn hR h fuel hf
    obtain ⟨f', rfl⟩ : ∃ g, fuel = g + 1 := ⟨fuel - 1, by omega⟩
    have e := h p s (Nat.le_refl _) (by omega) hR
    unfold scan
    by_cases c : p < n ∧ P p = true
    · rw [if_pos c] at e
      obtain ⟨s', e1, e2⟩ := e
      rw [if_pos c, lpp_r e1]
      exact ih (p + 1) s' (by omega) e2 (fun q t h1 h2 => h q t (by omega) h2) f' (by omega)
    · rw [if_neg c] at e
      rw [if_neg c]
      exact ⟨s, lpp_l e, hR⟩
/-- the class's cells agree but for the teller's own -/
def Ft (I J : WI) : Prop := ∀ k j, k ≠ 11 → J k j = I k j
theorem Ft.rfl {I : WI} : Ft I I := fun _ _ _ => Eq.refl _
theorem Ft.trans {I J K : WI} (a : Ft I J) (b : Ft J K) : Ft I K := fun k j h => (b k j h).trans (a k j h)
theorem Ft.u {I J : WI} {j : Nat} {x : Int32} (a : Ft I J) : Ft I (u2 J 11 j x) := fun k j' h => (u2_nc (by omega)).trans (a k j' h)
theorem Ft.tap {I J : WI} {B : Nat → Nat} {n : Nat} (a : Ft I J) (T : Tap B n I) : Tap B n J := T.ag fun k j h => a k j (by omega)
def nvs (B : Nat → Nat) (f : Nat) : Nat → Int32
  | 0 => 0
  | k + 1 => 10 * nvs B f k + sby (B (f + k)) - 48
theorem two_t : ∀ a, a < 58 → 48 ≤ a → 10 * (0 : Int32) + sby a - 48 = Int32.ofNat (a - 48) ∧ 10 * (0 : Int32) + Int32.ofNat a - 48 = Int32.ofNat (a - 48) ∧ ∀ b, b < 58 → 48 ≤ b → 10 * Int32.ofNat (a - 48) + sby b - 48 = Int32.ofNat (10 * (a - 48) + (b - 48)) ∧ 10 * Int32.ofNat (a - 48) + Int32.ofNat b - 48 = Int32.ofNat (10 * (a - 48) + (b - 48)) := by decide +kernel
theorem fg_b {b : Nat} (h : isFg b = true) : 48 ≤ b ∧ b < 58 := by
  unfold isFg at h
  rw [Bool.and_eq_true, decide_eq_true_eq, decide_eq_true_eq] at h
  omega
theorem tv_b {B : Nat → Nat} {n q : Nat} (hq : q < n) (h : isFg (B q) = true) (h2 : tfe B n q - q ≤ 2) : q + 1 ≤ tfe B n q ∧ tv B n q ≤ 99 ∧ nvs B q (tfe B n q - q) = Int32.ofNat (tv B n q) := by
  have h1 : q + 1 ≤ tfe B n q := by
    have hle := scan_le (P := fun j => isFg (B j)) (n := n) (n - q) q
    refine Classical.byContradiction fun c => ?_
    have hx : tfe B n q = q := by unfold tfe at c ⊢; omega
    have := scan_end (P := fun j => isFg (B j)) (n := n) (n - q) q (by omega)
    unfold tfe at hx
    rw [hx] at this
    exact this ⟨hq, h⟩
  have a1 := fg_b h
  have t1 := two_t (B q) a1.2 a1.1
  refine ⟨h1, ?_⟩
  unfold tv
  by_cases c : tfe B n q - q ≤ 1
  · rw [if_pos c]
    rw [show tfe B n q - q = 1 by omega]
    exact ⟨by omega, t1.1⟩
  · rw [if_neg c]
    have hb : isFg (B (q + 1)) = true := scan_in (P := fun j => isFg (B j)) (n := n) (n - q) q (q + 1) (by omega) (by unfold tfe at c; omega)
    have a2 := fg_b hb
    rw [show tfe B n q - q = 2 by omega]
    refine ⟨by omega, ?_⟩
    show 10 * (10 * (0 : Int32) + sby (B (q + 0)) - 48) + sby (B (q + 1)) - 48 = _
    rw [Nat.add_zero, t1.1]
    exact (t1.2.2 (B (q + 1)) a2.2 a2.1).1
/-- what a step of the class does -/
def StepC (B : Nat → Nat) (n p : Nat) (I I' : WI) : Prop := Ft I I' ∧ I' 11 7 = Int32.ofNat (tf B n p) ∧ (tk B n (tf B n p) ≠ 4 → I' 11 6 = Int32.ofNat (tk B n (tf B n p)) ∧ I' 11 8 = Int32.ofNat (te B n (tf B n p)) ∧ I' 11 3 = 0 ∧ (tk B n (tf B n p) = 2 → I' 11 9 = Int32.ofNat (tv B n (tf B n p)))) ∧ (tk B n (tf B n p) = 4 → I' 11 6 = 4 ∧ I' 11 3 = 1 ∧ I' 11 5 = Int32.ofNat (tf B n p))
theorem refuse_0 {I : WI} {c : Int32} (h : I 11 3 = 0) : F_X6_refuse I c = (0, u2 (u2 I 11 3 c) 11 5 (I 11 7)) := by
  unfold F_X6_refuse F_X6_refuse_20
  rw [if_pos h]
  rfl
theorem refuse_1 {I : WI} {c : Int32} (h : ¬ I 11 3 = 0) : F_X6_refuse I c = (0, I) := by
  unfold F_X6_refuse F_X6_refuse_20
  rw [if_neg h]
theorem step_C {B : Nat → Nat} {n p : Nat} {I : WI} (T : Tap B n I) (hp : p ≤ n) (e8 : I 11 8 = Int32.ofNat p) (e3 : I 11 3 = 0) : ∃ I', F_X6_step I = some I' ∧ StepC B n p I I' := by
  have hn : n ≤ 320 := T.1
  -- blanks
  obtain ⟨r, r1, r2, r3, r4⟩ := lpp_scanP (f := fun x => F_X6_step_0_1 x) (P := fun j => isSp (B j)) (n := n) (fun q (s : WI) => Ft I s ∧ s 11 8 = Int32.ofNat q ∧ s 11 3 = 0) (n - p) p I (by omega) ⟨Ft.rfl, e8, e3⟩ (fun q s h1 h2 hs => by
    obtain ⟨s1, s2, s3⟩ := hs
    have Ts := s1.tap T
    show if q < n ∧ isSp (B q) = true then ∃ s', F_X6_step_0_1 s = some (.inr s') ∧ _ else F_X6_step_0_1 s = some (.inl s)
    unfold F_X6_step_0_1
    rw [Ts.2.1, s2]
    by_cases c : q < n
    · have hb := (sb_t (B q) (Ts.2.2.2 q c).1).1
      rw [if_neg fun g => absurd ((ge_on (by omega) (by omega)).mp g) (by omega), byteAt_eq Ts c]
      by_cases d : isSp (B q) = true
      · rw [if_pos ⟨c, d⟩, if_pos (hb.mpr d), la1]
        refine ⟨_, rfl, s1.u, u2_at, ?_⟩
        rw [u2_nc (by omega), s3]
      · rw [if_neg fun g => d g.2, if_neg fun g => d (hb.mp g)]
    · rw [if_neg fun g => c g.1, if_pos ((ge_on (by omega) (by omega)).mpr (by omega))]) 4294967296 (by omega)
  have hq : tf B n p = scan (fun j => isSp (B j)) n (n - p) p := rfl
  rw [← hq] at r3
  have hqn : tf B n p ≤ n := (scan_le (n - p) p).2 hp
  generalize hf : tf B n p = f at r3 hqn
  -- the state ahead of the token
  have q1 : Ft I (u2 r 11 7 (Int32.ofNat f)) := r2.u
  have Tr := q1.tap T
  suffices hs : ∃ I', F_X6_step_43 r = some I' ∧ StepC B n p I I' by
    obtain ⟨I', g1, g2⟩ := hs
    refine ⟨I', ?_, g2⟩
    unfold F_X6_step
    rw [r1]
    exact g1
  unfold StepC
  rw [hf]
  unfold F_X6_step_43
  rw [r3]
  generalize hS : u2 r 11 7 (Int32.ofNat f) = s at q1 Tr ⊢
  have s7 : s 11 7 = Int32.ofNat f := by rw [← hS, u2_at]
  have s8 : s 11 8 = Int32.ofNat f := by rw [← hS, u2_nc (by omega), r3]
  have s3 : s 11 3 = 0 := by rw [← hS, u2_nc (by omega), r4]
  rw [s7, Tr.2.1]
  by_cases c : f < n
  · rw [if_pos ((lt_onn (by omega) (by omega)).mpr c), byteAt_eq Tr c]
    obtain ⟨b1, b2, b3, b4, b5, -⟩ := sb_t (B f) (Tr.2.2.2 f c).1
    by_cases d1 : B f = 59
    · rw [if_pos (b2.mpr d1)]
      have hk : tk B n f = 3 := by unfold tk; rw [if_neg (by omega), if_pos d1]
      have he : te B n f = f + 1 := by unfold te; rw [if_neg (by omega), if_pos d1]
      rw [hk, he]
      refine ⟨_, rfl, q1.u.u, ?_, fun _ => ⟨?_, ?_, ?_, fun g => absurd g (by decide)⟩, fun g => absurd g (by decide)⟩
      · rw [u2_nc (by omega), u2_nc (by omega), s7]
      · rw [u2_nc (by omega), u2_at]
        rfl
      · rw [u2_at, u2_nc (by omega), s8, la1]
      · rw [u2_nc (by omega), u2_nc (by omega), s3]
    rw [if_neg fun g => d1 (b2.mp g), b3]
    by_cases d2 : isLt (B f) = true
    · have hk : tk B n f = 1 := by unfold tk; rw [if_neg (by omega), if_neg d1, if_pos d2]
      have he : te B n f = tle B n f := by unfold te; rw [if_neg (by omega), if_neg d1, if_pos d2]
      rw [if_pos d2, if_neg (show ¬ (1 : Int32) = 0 by decide), hk, he]
      obtain ⟨t, t1, t2, t3, t4, t5, t6⟩ := lpp_scanP (f := fun x => F_X6_step_129_2 x) (P := fun j => isLt (B j)) (n := n) (fun q (x : WI) => Ft I x ∧ x 11 8 = Int32.ofNat q ∧ x 11 3 = 0 ∧ x 11 7 = Int32.ofNat f ∧ x 11 6 = 1) (n - f) f (u2 s 11 6 1) (by omega) ⟨q1.u, by rw [u2_nc (by omega), s8], by rw [u2_nc (by omega), s3], by rw [u2_nc (by omega), s7], u2_at⟩ (fun q x h1 h2 hx => by
        obtain ⟨x1, x2, x3, x4, x5⟩ := hx
        have Tx := x1.tap T
        show if q < n ∧ isLt (B q) = true then ∃ s', F_X6_step_129_2 x = some (.inr s') ∧ _ else F_X6_step_129_2 x = some (.inl x)
        unfold F_X6_step_129_2
        rw [Tx.2.1, x2]
        by_cases c' : q < n
        · have hb := (sb_t (B q) (Tx.2.2.2 q c').1).2.2.1
          rw [if_neg fun g => absurd ((ge_on (by omega) (by omega)).mp g) (by omega), byteAt_eq Tx c', hb]
          by_cases d : isLt (B q) = true
          · rw [if_pos ⟨c', d⟩, if_pos d, if_neg (show ¬ (1 : Int32) = 0 by decide), la1]
            exact ⟨_, rfl, x1.u, u2_at, by rw [u2_nc (by omega), x3], by rw [u2_nc (by omega), x4], by rw [u2_nc (by omega), x5]⟩
          · rw [if_neg fun g => d g.2, if_neg d, if_pos rfl]
        · rw [if_neg fun g => c' g.1, if_pos ((ge_on (by omega) (by omega)).mpr (by omega))]) 4294967296 (by omega)
      refine ⟨t, ?_, t2, t5, fun _ => ⟨t6, t3, t4, fun g => absurd g (by decide)⟩, fun g => absurd g (by decide)⟩
      unfold F_X6_step_129
      rw [t1]
      rfl
    rw [if_neg d2, if_pos rfl, b4]
    by_cases d3 : isFg (B f) = true
    · rw [if_pos d3, if_neg (show ¬ (1 : Int32) = 0 by decide)]
      have he : te B n f = tfe B n f := by unfold te; rw [if_neg (by omega), if_neg d1, if_neg d2]
      obtain ⟨t, t1, t2, t3, t4, t5, t6, t7⟩ := lpp_scanP (f := fun x => F_X6_stepNumber_10_1 x) (P := fun j => isFg (B j)) (n := n) (fun q (x : WI) => Ft I x ∧ x 11 8 = Int32.ofNat q ∧ x 11 3 = 0 ∧ x 11 7 = Int32.ofNat f ∧ x 11 6 = 2 ∧ x 11 9 = nvs B f (q - f)) (n - f) f (u2 (u2 s 11 6 2) 11 9 0) (by omega) ⟨q1.u.u, by rw [u2_nc (by omega), u2_nc (by omega), s8], by rw [u2_nc (by omega), u2_nc (by omega), s3], by rw [u2_nc (by omega), u2_nc (by omega), s7], by rw [u2_nc (by omega), u2_at], by rw [u2_at, Nat.sub_self]; rfl⟩ (fun q x h1 h2 hx => by
        obtain ⟨x1, x2, x3, x4, x5, x6⟩ := hx
        have Tx := x1.tap T
        show if q < n ∧ isFg (B q) = true then ∃ s', F_X6_stepNumber_10_1 x = some (.inr s') ∧ _ else F_X6_stepNumber_10_1 x = some (.inl x)
        unfold F_X6_stepNumber_10_1
        rw [Tx.2.1, x2]
        by_cases c' : q < n
        · have hb := (sb_t (B q) (Tx.2.2.2 q c').1).2.2.2.1
          rw [if_neg fun g => absurd ((ge_on (by omega) (by omega)).mp g) (by omega), byteAt_eq Tx c', hb]
          by_cases d : isFg (B q) = true
          · rw [if_pos ⟨c', d⟩, if_pos d, if_neg (show ¬ (1 : Int32) = 0 by decide)]
            refine ⟨_, rfl, x1.u.u, ?_, ?_, ?_, ?_, ?_⟩
            · rw [u2_at, u2_nc (by omega), x2, la1]
            · rw [u2_nc (by omega), u2_nc (by omega), x3]
            · rw [u2_nc (by omega), u2_nc (by omega), x4]
            · rw [u2_nc (by omega), u2_nc (by omega), x5]
            · rw [u2_nc (by omega), u2_at, x6, show q + 1 - f = (q - f) + 1 by omega]
              show _ = 10 * nvs B f (q - f) + sby (B (f + (q - f))) - 48
              rw [show f + (q - f) = q by omega]
          · rw [if_neg fun g => d g.2, if_neg d, if_pos rfl]
        · rw [if_neg fun g => c' g.1, if_pos ((ge_on (by omega) (by omega)).mpr (by omega))]) 4294967296 (by omega)
      have hlen : f ≤ tfe B n f ∧ tfe B n f ≤ n := ⟨(scan_le (n - f) f).1, (scan_le (n - f) f).2 (by omega)⟩
      have t3 : t 11 8 = Int32.ofNat (tfe B n f) := t3
      have t7 : t 11 9 = nvs B f (tfe B n f - f) := t7
      suffices hs : ∃ I', F_X6_stepNumber_80 t = some I' ∧ (Ft I I' ∧ I' 11 7 = Int32.ofNat f ∧ (tk B n f ≠ 4 → I' 11 6 = Int32.ofNat (tk B n f) ∧ I' 11 8 = Int32.ofNat (te B n f) ∧ I' 11 3 = 0 ∧ (tk B n f = 2 → I' 11 9 = Int32.ofNat (tv B n f))) ∧ (tk B n f = 4 → I' 11 6 = 4 ∧ I' 11 3 = 1 ∧ I' 11 5 = Int32.ofNat f)) by
        obtain ⟨I', g1, g2⟩ := hs
        refine ⟨I', ?_, g2⟩
        unfold F_X6_stepNumber F_X6_stepNumber_10
        rw [t1, ob_some, g1]
        rfl
      unfold F_X6_stepNumber_80
      rw [t3, t5, on_sub hlen.1]
      by_cases d4 : tfe B n f - f ≤ 2
      · have hk : tk B n f = 2 := by unfold tk; rw [if_neg (by omega), if_neg d1, if_neg d2, if_pos ⟨d3, d4⟩]
        rw [if_pos (by first | omega | (simp (disch := omega) only [Int32.lt_iff_toInt_lt, Int32.le_iff_toInt_le, ← Int32.toInt_inj, on_toInt, on_clamp, ti64, z0, z1, z2, zm1, i0, i1, im1, zz3, zz4, zz5, zz6, zz7, zz8, zz9, zz10, zz11, zz12, zz13, zz14, zz15, zz16, zz17, zz18, zz19, zz20, zz21, zz22, zz23, zz24, zz25, zz26, zz27, zz28, zz29, zz30, zz31, zz32, zz33, zz34, zz35, zz36, zz37, zz38, zz39, zz40, zz41, zz48, zz60, zz64, zz160, zz312, zz320, zzm2, zzm3, zzm4, zzm5, zzm6, zzm7, zzm8, zzm9, zzm10]; done) | (simp (disch := omega) only [Int32.lt_iff_toInt_lt, Int32.le_iff_toInt_le, ← Int32.toInt_inj, on_toInt, on_clamp, ti64, z0, z1, z2, zm1, i0, i1, im1, zz3, zz4, zz5, zz6, zz7, zz8, zz9, zz10, zz11, zz12, zz13, zz14, zz15, zz16, zz17, zz18, zz19, zz20, zz21, zz22, zz23, zz24, zz25, zz26, zz27, zz28, zz29, zz30, zz31, zz32, zz33, zz34, zz35, zz36, zz37, zz38, zz39, zz40, zz41, zz48, zz60, zz64, zz160, zz312, zz320, zzm2, zzm3, zzm4, zzm5, zzm6, zzm7, zzm8, zzm9, zzm10]; omega)), hk, he]
        exact ⟨t, rfl, t2, t5, fun _ => ⟨t6, t3, t4, fun _ => by rw [t7]; exact (tv_b c d3 d4).2.2⟩, fun g => absurd g (by decide)⟩
      · have hk : tk B n f = 4 := by unfold tk; rw [if_neg (by omega), if_neg d1, if_neg d2, if_neg fun g => d4 g.2]
        rw [if_neg (by first | omega | (simp (disch := omega) only [Int32.lt_iff_toInt_lt, Int32.le_iff_toInt_le, ← Int32.toInt_inj, on_toInt, on_clamp, ti64, z0, z1, z2, zm1, i0, i1, im1, zz3, zz4, zz5, zz6, zz7, zz8, zz9, zz10, zz11, zz12, zz13, zz14, zz15, zz16, zz17, zz18, zz19, zz20, zz21, zz22, zz23, zz24, zz25, zz26, zz27, zz28, zz29, zz30, zz31, zz32, zz33, zz34, zz35, zz36, zz37, zz38, zz39, zz40, zz41, zz48, zz60, zz64, zz160, zz312, zz320, zzm2, zzm3, zzm4, zzm5, zzm6, zzm7, zzm8, zzm9, zzm10]; done) | (simp (disch := omega) only [Int32.lt_iff_toInt_lt, Int32.le_iff_toInt_le, ← Int32.toInt_inj, on_toInt, on_clamp, ti64, z0, z1, z2, zm1, i0, i1, im1, zz3, zz4, zz5, zz6, zz7, zz8, zz9, zz10, zz11, zz12, zz13, zz14, zz15, zz16, zz17, zz18, zz19, zz20, zz21, zz22, zz23, zz24, zz25, zz26, zz27, zz28, zz29, zz30, zz31, zz32, zz33, zz34, zz35, zz36, zz37, zz38, zz39, zz40, zz41, zz48, zz60, zz64, zz160, zz312, zz320, zzm2, zzm3, zzm4, zzm5, zzm6, zzm7, zzm8, zzm9, zzm10]; omega)), hk, refuse_0 (by rw [u2_nc (by omega), t4])]
        refine ⟨_, rfl, t2.u.u.u, ?_, fun g => absurd rfl g, fun _ => ⟨?_, ?_, ?_⟩⟩
        · show u2 (u2 (u2 t 11 6 4) 11 3 1) 11 5 ((u2 t 11 6 4) 11 7) 11 7 = _
          rw [u2_nc (by omega), u2_nc (by omega), u2_nc (by omega), t5]
        · show u2 (u2 (u2 t 11 6 4) 11 3 1) 11 5 ((u2 t 11 6 4) 11 7) 11 6 = _
          rw [u2_nc (by omega), u2_nc (by omega), u2_at]
        · show u2 (u2 (u2 t 11 6 4) 11 3 1) 11 5 ((u2 t 11 6 4) 11 7) 11 3 = _
          rw [u2_nc (by omega), u2_at]
        · show u2 (u2 (u2 t 11 6 4) 11 3 1) 11 5 ((u2 t 11 6 4) 11 7) 11 5 = _
          rw [u2_at, u2_nc (by omega), t5]
    · rw [if_neg d3, if_pos rfl, refuse_0 (by rw [u2_nc (by omega), s3])]
      have hk : tk B n f = 4 := by unfold tk; rw [if_neg (by omega), if_neg d1, if_neg d2, if_neg fun g => d3 g.1]
      rw [hk]
      refine ⟨_, rfl, q1.u.u.u, ?_, fun g => absurd rfl g, fun _ => ⟨?_, ?_, ?_⟩⟩
      · show u2 (u2 (u2 s 11 6 4) 11 3 1) 11 5 ((u2 s 11 6 4) 11 7) 11 7 = _
        rw [u2_nc (by omega), u2_nc (by omega), u2_nc (by omega), s7]
      · show u2 (u2 (u2 s 11 6 4) 11 3 1) 11 5 ((u2 s 11 6 4) 11 7) 11 6 = _
        rw [u2_nc (by omega), u2_nc (by omega), u2_at]
      · show u2 (u2 (u2 s 11 6 4) 11 3 1) 11 5 ((u2 s 11 6 4) 11 7) 11 3 = _
        rw [u2_nc (by omega), u2_at]
      · show u2 (u2 (u2 s 11 6 4) 11 3 1) 11 5 ((u2 s 11 6 4) 11 7) 11 5 = _
        rw [u2_at, u2_nc (by omega), s7]
  · have hk : tk B n f = 0 := by unfold tk; rw [if_pos (by omega)]
    have he : te B n f = f := by unfold te; rw [if_pos (by omega)]
    rw [if_neg fun g => c ((lt_onn (by omega) (by omega)).mp g), hk, he]
    refine ⟨_, rfl, q1.u, ?_, fun _ => ⟨?_, ?_, ?_, fun g => absurd g (by decide)⟩, fun g => absurd g (by decide)⟩
    · rw [u2_nc (by omega), s7]
    · rw [u2_at]
      rfl
    · rw [u2_nc (by omega), s8]
    · rw [u2_nc (by omega), s3]
