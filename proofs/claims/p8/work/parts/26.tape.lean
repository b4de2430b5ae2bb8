/-! go; end; feed -/
theorem four {P Q : Nat → Prop} (h : ∀ k, k < 4 → P k) (h0 : P 0 → Q 0) (h1 : P 1 → Q 1) (h2 : P 2 → Q 2) (h3 : P 3 → Q 3) : ∀ k, k < 4 → Q k := by
  intro k hk
  rcases (show k = 0 ∨ k = 1 ∨ k = 2 ∨ k = 3 by omega) with rfl | rfl | rfl | rfl
  · exact h0 (h 0 (by decide))
  · exact h1 (h 1 (by decide))
  · exact h2 (h 2 (by decide))
  · exact h3 (h 3 (by decide))
theorem lpp_cnt {R S : Type} {f : Int32 × S → Option (R ⊕ (Int32 × S))} {m : Nat} (P : Nat → S → Prop) (Q : R → Prop) (hs : ∀ i s, i < m → P i s → ∃ s', f (Int32.ofNat i, s) = some (.inr (Int32.ofNat (i + 1), s')) ∧ P (i + 1) s') (he : ∀ s, P m s → ∃ r, f (Int32.ofNat m, s) = some (.inl r) ∧ Q r) : ∀ (fuel i : Nat) (s : S), m < fuel + i → i ≤ m → P i s → ∃ r, lpp f fuel (Int32.ofNat i, s) = some r ∧ Q r := by
  intro fuel
  induction fuel with
  | zero => intro i s h1 h2 _; omega
  | succ n ih =>
    intro i s h1 h2 hP
    by_cases c : i = m
    · subst c
      obtain ⟨r, e, q⟩ := he s hP
      exact ⟨r, lpp_l e, q⟩
    · obtain ⟨s', e, q⟩ := hs i s (by omega) hP
      rw [lpp_r e]
      exact ih (i + 1) s' (by omega) (by omega) q
/-- sets joined by turning, one behind another -/
def gi (A : Nat → Int64) : Nat → Int64 → Int64
  | 0, x => x
  | n + 1, x => gi A n x ^^^ A n
def gx (A : Nat → Nat → Int64) (m : Nat → Nat) : Nat → Int64 → Int64
  | 0, x => x
  | n + 1, x => gi (A n) (m n) (gx A m n x)
theorem gi_ins {h w : Nat} {A : Nat → Int64} : ∀ {n : Nat} {x : Int64}, Ins h w x → (∀ i, i < n → Ins h w (A i)) → Ins h w (gi A n x) := by
  intro n
  induction n with
  | zero => intro x hx _; exact hx
  | succ n ih => intro x hx h; exact (ih hx fun i hi => h i (by omega)).xor (h n (by omega))
theorem gx_ins {h w : Nat} {A : Nat → Nat → Int64} {m : Nat → Nat} : ∀ {n : Nat} {x : Int64}, Ins h w x → (∀ d i, d < n → i < m d → Ins h w (A d i)) → Ins h w (gx A m n x) := by
  intro n
  induction n with
  | zero => intro x hx _; exact hx
  | succ n ih => intro x hx h; exact gi_ins (ih hx fun d i hd hi => h d i (by omega) hi) fun i hi => h n i (by omega) hi
theorem u2_u2 {α : Type} {f : Nat → Nat → α} {k j : Nat} {x y : α} : u2 (u2 f k j x) k j y = u2 f k j y := by
  funext a b
  unfold u2
  by_cases c : a = k ∧ b = j
  · rw [if_pos c, if_pos c]
  · rw [if_neg c, if_neg c, if_neg c]
theorem u2_at {α : Type} {f : Nat → Nat → α} {k j : Nat} {x : α} : u2 f k j x k j = x := if_pos ⟨rfl, rfl⟩
theorem u2_id {α : Type} {f : Nat → Nat → α} {k j : Nat} : u2 f k j (f k j) = f := u2_same rfl
theorem k20 : ∀ c, c < 60 → Int32.ofNat c / 20 = Int32.ofNat (c / 20) ∧ (Int32.ofNat c - Int32.ofNat c / 20 * 20) = Int32.ofNat (c % 20) := by decide +kernel
theorem kd3 {c : Nat} (h : c < 60) : Int32.ofNat (c / 20) = 0 ∨ Int32.ofNat (c / 20) = 1 ∨ Int32.ofNat (c / 20) = 2 := by
  rcases (show c / 20 = 0 ∨ c / 20 = 1 ∨ c / 20 = 2 by omega) with e | e | e <;> rw [e]
  · exact .inl rfl
  · exact .inr (.inl rfl)
  · exact .inr (.inr rfl)
theorem E_12 {I : WI} {L : WL} {a1 : Int32} (H : Inv I L) : ∃ w, (F_X9_go I (p2 (F_X8_go I L a1)) a1) = some w ∧ (p1 (F_X8_go I L a1)) = (p1 w) ∧ Inv I (p2 w) := by
  have H' := H
  obtain ⟨⟨h, w, ⟨hC, c1, c2, c3, c4, c5, c6, -⟩, -⟩, -, -, ⟨n, hn, d1, d2, d3⟩, -⟩ := H
  by_cases c : 0 ≤ a1.toInt ∧ a1.toInt ≤ (n : Int)
  · obtain ⟨N, rfl, hN, -⟩ := nn c.1
    rw [hN] at c
    -- how many acts, which
    have hm : ∃ m : Nat → Nat, ∀ d, d < n → m d ≤ 3 ∧ I 7 d = Int32.ofNat (m d) ∧ I 34 (4 * d) = Int32.ofNat (m d) ∧ ∀ i, i < m d → ∃ c, c < 60 ∧ I 8 (3 * d + i) = Int32.ofNat c ∧ I 34 (4 * d + 1 + i) = Int32.ofNat c := by
      refine ⟨fun d => (I 7 d).toNatClampNeg, fun d hd => ?_⟩
      obtain ⟨m, g1, g2, g3, g4⟩ := d3 d hd
      have : (I 7 d).toNatClampNeg = m := by rw [g2, on_clamp (by omega)]
      simp only [this]
      exact ⟨g1, g2, g3, g4⟩
    obtain ⟨m, hm⟩ := hm
    generalize hA : (fun d i => F_X9_actSet I ((I 34 (4 * d + 1 + i)) / 20) ((I 34 (4 * d + 1 + i)) - (I 34 (4 * d + 1 + i)) / 20 * 20) : Nat → Nat → Int64) = A
    have e1 : F_X8_go I L (Int32.ofNat N) = (F_J13_bitCount_95d88 (gx A m N (L 1 3)), u2 L 1 3 (gx A m N (L 1 3))) := by
      have hin : ∀ d x, d < N → F_X8_go_24_1 I x (Int32.ofNat N) (Int32.ofNat d) = u2 x 1 3 (gi (A d) (m d) (x 1 3)) := by
        intro d x hd
        obtain ⟨g1, g2, g3, g4⟩ := hm d (by omega)
        have ha : F_X1_actsOf I 6 (Int32.ofNat d) = Int32.ofNat (m d) := acts_eq hn d1 (by omega) g2
        have hi : ∀ i y, i < m d → F_X8_go_38_2 I y (Int32.ofNat N) (Int32.ofNat d) (Int32.ofNat i) = u2 y 1 3 (y 1 3 ^^^ A d i) := by
          intro i y hi
          obtain ⟨c, f1, f2, f3⟩ := g4 i hi
          have hc := code_eq hn d1 (show d < n by omega) g1 g2 hi f2
          unfold F_X8_go_38_2 F_X1_kindOf F_X1_numberOf
          rw [hc, ← hA]
          show _ = u2 y 1 3 (y 1 3 ^^^ F_X9_actSet I ((I 34 (4 * d + 1 + i)) / 20) ((I 34 (4 * d + 1 + i)) - (I 34 (4 * d + 1 + i)) / 20 * 20))
          rw [f3, (k20 c f1).1, sq_eq hC c1 c2 c3 c4 (kd3 f1)]
        show p2 (fr0 (fun i x => F_X8_go_38_2 I x (Int32.ofNat N) (Int32.ofNat d) i) (F_X1_actsOf I 6 (Int32.ofNat d)) (fu 0 (F_X1_actsOf I 6 (Int32.ofNat d))) 0 x) = _
        rw [ha, fr0_it (by omega)]
        refine it_ind (P := fun i s => s = u2 x 1 3 (gi (A d) i (x 1 3))) ?_ (fun i s hi' hs => ?_)
        · exact u2_id.symm
        · show F_X8_go_38_2 I s (Int32.ofNat N) (Int32.ofNat d) (Int32.ofNat i) = _
          rw [hi i s hi', hs, u2_u2, u2_at]
          rfl
      have hout : p2 (fr0 (fun i x => F_X8_go_24_1 I x (Int32.ofNat N) i) (Int32.ofNat N) (fu 0 (Int32.ofNat N)) 0 L) = u2 L 1 3 (gx A m N (L 1 3)) := by
        rw [fr0_it (by omega)]
        refine it_ind (P := fun i s => s = u2 L 1 3 (gx A m i (L 1 3))) u2_id.symm (fun i s hi' hs => ?_)
        show F_X8_go_24_1 I s (Int32.ofNat N) (Int32.ofNat i) = _
        rw [hin i s hi', hs, u2_u2, u2_at]
        rfl
      unfold F_X8_go
      rw [d1, if_neg (by first | omega | (simp (disch := omega) only [Int32.lt_iff_toInt_lt, Int32.le_iff_toInt_le, ← Int32.toInt_inj, on_toInt, on_clamp, ti64, z0, z1, z2, zm1, i0, i1, im1, zz3, zz4, zz5, zz6, zz7, zz8, zz9, zz10, zz11, zz12, zz13, zz14, zz15, zz16, zz17, zz18, zz19, zz20, zz21, zz22, zz23, zz24, zz25, zz26, zz27, zz28, zz29, zz30, zz31, zz32, zz33, zz34, zz35, zz36, zz37, zz38, zz39, zz40, zz41, zz48, zz60, zz64, zz160, zz312, zz320, zzm2, zzm3, zzm4, zzm5, zzm6, zzm7, zzm8, zzm9, zzm10]; done) | (simp (disch := omega) only [Int32.lt_iff_toInt_lt, Int32.le_iff_toInt_le, ← Int32.toInt_inj, on_toInt, on_clamp, ti64, z0, z1, z2, zm1, i0, i1, im1, zz3, zz4, zz5, zz6, zz7, zz8, zz9, zz10, zz11, zz12, zz13, zz14, zz15, zz16, zz17, zz18, zz19, zz20, zz21, zz22, zz23, zz24, zz25, zz26, zz27, zz28, zz29, zz30, zz31, zz32, zz33, zz34, zz35, zz36, zz37, zz38, zz39, zz40, zz41, zz48, zz60, zz64, zz160, zz312, zz320, zzm2, zzm3, zzm4, zzm5, zzm6, zzm7, zzm8, zzm9, zzm10]; omega)), if_pos (by first | omega | (simp (disch := omega) only [Int32.lt_iff_toInt_lt, Int32.le_iff_toInt_le, ← Int32.toInt_inj, on_toInt, on_clamp, ti64, z0, z1, z2, zm1, i0, i1, im1, zz3, zz4, zz5, zz6, zz7, zz8, zz9, zz10, zz11, zz12, zz13, zz14, zz15, zz16, zz17, zz18, zz19, zz20, zz21, zz22, zz23, zz24, zz25, zz26, zz27, zz28, zz29, zz30, zz31, zz32, zz33, zz34, zz35, zz36, zz37, zz38, zz39, zz40, zz41, zz48, zz60, zz64, zz160, zz312, zz320, zzm2, zzm3, zzm4, zzm5, zzm6, zzm7, zzm8, zzm9, zzm10]; done) | (simp (disch := omega) only [Int32.lt_iff_toInt_lt, Int32.le_iff_toInt_le, ← Int32.toInt_inj, on_toInt, on_clamp, ti64, z0, z1, z2, zm1, i0, i1, im1, zz3, zz4, zz5, zz6, zz7, zz8, zz9, zz10, zz11, zz12, zz13, zz14, zz15, zz16, zz17, zz18, zz19, zz20, zz21, zz22, zz23, zz24, zz25, zz26, zz27, zz28, zz29, zz30, zz31, zz32, zz33, zz34, zz35, zz36, zz37, zz38, zz39, zz40, zz41, zz48, zz60, zz64, zz160, zz312, zz320, zzm2, zzm3, zzm4, zzm5, zzm6, zzm7, zzm8, zzm9, zzm10]; omega))]
      show F_X8_go_87 I (p2 (fr0 (fun i x => F_X8_go_24_1 I x (Int32.ofNat N) i) (Int32.ofNat N) (fu 0 (Int32.ofNat N)) 0 L)) (Int32.ofNat N) = _
      rw [hout]
      rfl
    have e2 : ∀ L : WL, F_X9_go I L (Int32.ofNat N) = some (F_X9_many (gx A m N (L 33 2)), u2 L 33 2 (gx A m N (L 33 2))) := by
      intro L
      have hin : ∀ d x, d < N → F_X9_go_23_1 I x (Int32.ofNat N) (Int32.ofNat d) = some (u2 x 33 2 (gi (A d) (m d) (x 33 2))) := by
        intro d x hd
        obtain ⟨g1, g2, g3, g4⟩ := hm d (by omega)
        obtain ⟨r, r1, r2⟩ := lpp_cnt (f := fun x => F_X9_go_25_2 I (p2 x) (Int32.ofNat N) (Int32.ofNat d) (p1 x)) (m := m d + 1) (fun i s => s = u2 x 33 2 (gi (A d) (i - 1) (x 33 2)) ∧ 1 ≤ i) (fun r => r = u2 x 33 2 (gi (A d) (m d) (x 33 2))) (fun i s hi hs => by
            obtain ⟨hs, hi1⟩ := hs
            have hA' : A d (i - 1) = F_X9_actSet I ((I 34 (4 * d + i)) / 20) ((I 34 (4 * d + i)) - (I 34 (4 * d + i)) / 20 * 20) := by
              rw [← hA]
              show F_X9_actSet I ((I 34 (4 * d + 1 + (i - 1))) / 20) ((I 34 (4 * d + 1 + (i - 1))) - (I 34 (4 * d + 1 + (i - 1))) / 20 * 20) = _
              rw [show 4 * d + 1 + (i - 1) = 4 * d + i by omega]
            refine ⟨u2 s 33 2 (s 33 2 ^^^ A d (i - 1)), ?_, ?_, by omega⟩
            · show F_X9_go_25_2 I s (Int32.ofNat N) (Int32.ofNat d) (Int32.ofNat i) = _
              unfold F_X9_go_25_2
              rw [lm4, if_neg (nin (k := 4 * d) (by omega) (by decide)), on_clamp (n := 4 * d) (by omega), g3, if_neg (by first | omega | (simp (disch := omega) only [Int32.lt_iff_toInt_lt, Int32.le_iff_toInt_le, ← Int32.toInt_inj, on_toInt, on_clamp, ti64, z0, z1, z2, zm1, i0, i1, im1, zz3, zz4, zz5, zz6, zz7, zz8, zz9, zz10, zz11, zz12, zz13, zz14, zz15, zz16, zz17, zz18, zz19, zz20, zz21, zz22, zz23, zz24, zz25, zz26, zz27, zz28, zz29, zz30, zz31, zz32, zz33, zz34, zz35, zz36, zz37, zz38, zz39, zz40, zz41, zz48, zz60, zz64, zz160, zz312, zz320, zzm2, zzm3, zzm4, zzm5, zzm6, zzm7, zzm8, zzm9, zzm10]; done) | (simp (disch := omega) only [Int32.lt_iff_toInt_lt, Int32.le_iff_toInt_le, ← Int32.toInt_inj, on_toInt, on_clamp, ti64, z0, z1, z2, zm1, i0, i1, im1, zz3, zz4, zz5, zz6, zz7, zz8, zz9, zz10, zz11, zz12, zz13, zz14, zz15, zz16, zz17, zz18, zz19, zz20, zz21, zz22, zz23, zz24, zz25, zz26, zz27, zz28, zz29, zz30, zz31, zz32, zz33, zz34, zz35, zz36, zz37, zz38, zz39, zz40, zz41, zz48, zz60, zz64, zz160, zz312, zz320, zzm2, zzm3, zzm4, zzm5, zzm6, zzm7, zzm8, zzm9, zzm10]; omega)), oadd, if_neg (nin (k := 4 * d + i) (by omega) (by decide)), if_neg (nin (k := 4 * d + i) (by omega) (by decide)), la1, on_clamp (n := 4 * d + i) (by omega), hA']
            · rw [hs, u2_u2, u2_at, show i + 1 - 1 = (i - 1) + 1 by omega]
              rfl) (fun s hs => ⟨_, by
            show F_X9_go_25_2 I s (Int32.ofNat N) (Int32.ofNat d) (Int32.ofNat (m d + 1)) = _
            unfold F_X9_go_25_2
            rw [lm4, if_neg (nin (k := 4 * d) (by omega) (by decide)), on_clamp (n := 4 * d) (by omega), g3, if_pos (by first | omega | (simp (disch := omega) only [Int32.lt_iff_toInt_lt, Int32.le_iff_toInt_le, ← Int32.toInt_inj, on_toInt, on_clamp, ti64, z0, z1, z2, zm1, i0, i1, im1, zz3, zz4, zz5, zz6, zz7, zz8, zz9, zz10, zz11, zz12, zz13, zz14, zz15, zz16, zz17, zz18, zz19, zz20, zz21, zz22, zz23, zz24, zz25, zz26, zz27, zz28, zz29, zz30, zz31, zz32, zz33, zz34, zz35, zz36, zz37, zz38, zz39, zz40, zz41, zz48, zz60, zz64, zz160, zz312, zz320, zzm2, zzm3, zzm4, zzm5, zzm6, zzm7, zzm8, zzm9, zzm10]; done) | (simp (disch := omega) only [Int32.lt_iff_toInt_lt, Int32.le_iff_toInt_le, ← Int32.toInt_inj, on_toInt, on_clamp, ti64, z0, z1, z2, zm1, i0, i1, im1, zz3, zz4, zz5, zz6, zz7, zz8, zz9, zz10, zz11, zz12, zz13, zz14, zz15, zz16, zz17, zz18, zz19, zz20, zz21, zz22, zz23, zz24, zz25, zz26, zz27, zz28, zz29, zz30, zz31, zz32, zz33, zz34, zz35, zz36, zz37, zz38, zz39, zz40, zz41, zz48, zz60, zz64, zz160, zz312, zz320, zzm2, zzm3, zzm4, zzm5, zzm6, zzm7, zzm8, zzm9, zzm10]; omega))], hs.1⟩) 4294967296 1 x (by omega) (by omega) ⟨u2_id.symm, by omega⟩
        show (lpp (fun x => F_X9_go_25_2 I (p2 x) (Int32.ofNat N) (Int32.ofNat d) (p1 x)) 4294967296 (Int32.ofNat 1, x)).bind _ = _
        rw [r1, r2]
        rfl
      obtain ⟨e, r1, r2⟩ := frp0_nat (g := fun i x => F_X9_go_23_1 I x (Int32.ofNat N) i) (b := N) (by omega) (fun i s => s = u2 L 33 2 (gx A m i (L 33 2))) (s := L) (fun i s hi hs => ⟨_, hin i s hi, by rw [hs, u2_u2, u2_at]; rfl⟩) u2_id.symm
      unfold F_X9_go
      rw [d2, in_eq, ti64, on_toInt (by omega), on_toInt (by omega), i0, if_pos (show (0 : Int) ≤ (N : Int) ∧ (N : Int) ≤ (n : Int) by omega), if_neg (show ¬ (1 : Int32) = 0 by decide)]
      show (frp0 (fun i x => F_X9_go_23_1 I x (Int32.ofNat N) i) (Int32.ofNat N) (fu 0 (Int32.ofNat N)) 0 L).bind _ = _
      rw [r1]
      show F_X9_go_88 I (p2 e) (Int32.ofNat N) = _
      rw [r2]
      rfl
    rw [e1, e2]
    refine ⟨_, rfl, ?_, ?_⟩
    · show F_J13_bitCount_95d88 (gx A m N (L 1 3)) = F_X9_many (gx A m N (L 33 2))
      rw [many_bits, c5]
    · show Inv I (u2 (u2 L 1 3 (gx A m N (L 1 3))) 33 2 (gx A m N (L 33 2)))
      rw [c5]
      refine H'.setC fun h' w' hC' g1 g2 => ?_
      obtain ⟨rfl, rfl⟩ := hC.eq hC' c1 c2 g1 g2
      refine gx_ins c6 fun d i _ _ => ?_
      rw [← hA]
      exact set_ins hC c3 c4
  · have e1 : F_X8_go I L a1 = (-1, L) := by
      unfold F_X8_go F_X8_go_15
      rw [d1]
      by_cases q : a1.toInt < 0
      · rw [if_pos (by first | omega | (simp (disch := omega) only [Int32.lt_iff_toInt_lt, Int32.le_iff_toInt_le, ← Int32.toInt_inj, on_toInt, on_clamp, ti64, z0, z1, z2, zm1, i0, i1, im1, zz3, zz4, zz5, zz6, zz7, zz8, zz9, zz10, zz11, zz12, zz13, zz14, zz15, zz16, zz17, zz18, zz19, zz20, zz21, zz22, zz23, zz24, zz25, zz26, zz27, zz28, zz29, zz30, zz31, zz32, zz33, zz34, zz35, zz36, zz37, zz38, zz39, zz40, zz41, zz48, zz60, zz64, zz160, zz312, zz320, zzm2, zzm3, zzm4, zzm5, zzm6, zzm7, zzm8, zzm9, zzm10]; done) | (simp (disch := omega) only [Int32.lt_iff_toInt_lt, Int32.le_iff_toInt_le, ← Int32.toInt_inj, on_toInt, on_clamp, ti64, z0, z1, z2, zm1, i0, i1, im1, zz3, zz4, zz5, zz6, zz7, zz8, zz9, zz10, zz11, zz12, zz13, zz14, zz15, zz16, zz17, zz18, zz19, zz20, zz21, zz22, zz23, zz24, zz25, zz26, zz27, zz28, zz29, zz30, zz31, zz32, zz33, zz34, zz35, zz36, zz37, zz38, zz39, zz40, zz41, zz48, zz60, zz64, zz160, zz312, zz320, zzm2, zzm3, zzm4, zzm5, zzm6, zzm7, zzm8, zzm9, zzm10]; omega))]
      · rw [if_neg (by first | omega | (simp (disch := omega) only [Int32.lt_iff_toInt_lt, Int32.le_iff_toInt_le, ← Int32.toInt_inj, on_toInt, on_clamp, ti64, z0, z1, z2, zm1, i0, i1, im1, zz3, zz4, zz5, zz6, zz7, zz8, zz9, zz10, zz11, zz12, zz13, zz14, zz15, zz16, zz17, zz18, zz19, zz20, zz21, zz22, zz23, zz24, zz25, zz26, zz27, zz28, zz29, zz30, zz31, zz32, zz33, zz34, zz35, zz36, zz37, zz38, zz39, zz40, zz41, zz48, zz60, zz64, zz160, zz312, zz320, zzm2, zzm3, zzm4, zzm5, zzm6, zzm7, zzm8, zzm9, zzm10]; done) | (simp (disch := omega) only [Int32.lt_iff_toInt_lt, Int32.le_iff_toInt_le, ← Int32.toInt_inj, on_toInt, on_clamp, ti64, z0, z1, z2, zm1, i0, i1, im1, zz3, zz4, zz5, zz6, zz7, zz8, zz9, zz10, zz11, zz12, zz13, zz14, zz15, zz16, zz17, zz18, zz19, zz20, zz21, zz22, zz23, zz24, zz25, zz26, zz27, zz28, zz29, zz30, zz31, zz32, zz33, zz34, zz35, zz36, zz37, zz38, zz39, zz40, zz41, zz48, zz60, zz64, zz160, zz312, zz320, zzm2, zzm3, zzm4, zzm5, zzm6, zzm7, zzm8, zzm9, zzm10]; omega)), if_neg (by first | omega | (simp (disch := omega) only [Int32.lt_iff_toInt_lt, Int32.le_iff_toInt_le, ← Int32.toInt_inj, on_toInt, on_clamp, ti64, z0, z1, z2, zm1, i0, i1, im1, zz3, zz4, zz5, zz6, zz7, zz8, zz9, zz10, zz11, zz12, zz13, zz14, zz15, zz16, zz17, zz18, zz19, zz20, zz21, zz22, zz23, zz24, zz25, zz26, zz27, zz28, zz29, zz30, zz31, zz32, zz33, zz34, zz35, zz36, zz37, zz38, zz39, zz40, zz41, zz48, zz60, zz64, zz160, zz312, zz320, zzm2, zzm3, zzm4, zzm5, zzm6, zzm7, zzm8, zzm9, zzm10]; done) | (simp (disch := omega) only [Int32.lt_iff_toInt_lt, Int32.le_iff_toInt_le, ← Int32.toInt_inj, on_toInt, on_clamp, ti64, z0, z1, z2, zm1, i0, i1, im1, zz3, zz4, zz5, zz6, zz7, zz8, zz9, zz10, zz11, zz12, zz13, zz14, zz15, zz16, zz17, zz18, zz19, zz20, zz21, zz22, zz23, zz24, zz25, zz26, zz27, zz28, zz29, zz30, zz31, zz32, zz33, zz34, zz35, zz36, zz37, zz38, zz39, zz40, zz41, zz48, zz60, zz64, zz160, zz312, zz320, zzm2, zzm3, zzm4, zzm5, zzm6, zzm7, zzm8, zzm9, zzm10]; omega))]
    rw [e1]
    show ∃ w, F_X9_go I L a1 = some w ∧ _
    unfold F_X9_go
    rw [d2, in_eq, ti64, on_toInt (by omega), i0, if_neg c, if_pos rfl]
    exact ⟨_, rfl, rfl, H'⟩
theorem E_1 {I : WI} {L : WL} {a1 : Int32} (H : Inv I L) : (p1 (F_X8_end I a1)) = (p1 (F_X9_end (p2 (F_X8_end I a1)) a1)) ∧ Inv (p2 (F_X9_end (p2 (F_X8_end I a1)) a1)) L := by
  have H' := H
  obtain ⟨⟨h, w, h1, h2⟩, k0, k1, h3, ⟨n, hn, t1, t2, t3⟩, h5, h6⟩ := H
  by_cases c : 0 ≤ a1.toInt ∧ a1.toInt ≤ (n : Int)
  · obtain ⟨N, rfl, hN, -⟩ := nn c.1
    have e1 : F_X8_end I (Int32.ofNat N) = (Int32.ofNat n, u2 I 9 0 (Int32.ofNat N)) := by
      unfold F_X8_end
      rw [t1, if_neg (by first | omega | (simp (disch := omega) only [Int32.lt_iff_toInt_lt, Int32.le_iff_toInt_le, ← Int32.toInt_inj, on_toInt, on_clamp, ti64, z0, z1, z2, zm1, i0, i1, im1, zz3, zz4, zz5, zz6, zz7, zz8, zz9, zz10, zz11, zz12, zz13, zz14, zz15, zz16, zz17, zz18, zz19, zz20, zz21, zz22, zz23, zz24, zz25, zz26, zz27, zz28, zz29, zz30, zz31, zz32, zz33, zz34, zz35, zz36, zz37, zz38, zz39, zz40, zz41, zz48, zz60, zz64, zz160, zz312, zz320, zzm2, zzm3, zzm4, zzm5, zzm6, zzm7, zzm8, zzm9, zzm10]; done) | (simp (disch := omega) only [Int32.lt_iff_toInt_lt, Int32.le_iff_toInt_le, ← Int32.toInt_inj, on_toInt, on_clamp, ti64, z0, z1, z2, zm1, i0, i1, im1, zz3, zz4, zz5, zz6, zz7, zz8, zz9, zz10, zz11, zz12, zz13, zz14, zz15, zz16, zz17, zz18, zz19, zz20, zz21, zz22, zz23, zz24, zz25, zz26, zz27, zz28, zz29, zz30, zz31, zz32, zz33, zz34, zz35, zz36, zz37, zz38, zz39, zz40, zz41, zz48, zz60, zz64, zz160, zz312, zz320, zzm2, zzm3, zzm4, zzm5, zzm6, zzm7, zzm8, zzm9, zzm10]; omega)), if_pos (by first | omega | (simp (disch := omega) only [Int32.lt_iff_toInt_lt, Int32.le_iff_toInt_le, ← Int32.toInt_inj, on_toInt, on_clamp, ti64, z0, z1, z2, zm1, i0, i1, im1, zz3, zz4, zz5, zz6, zz7, zz8, zz9, zz10, zz11, zz12, zz13, zz14, zz15, zz16, zz17, zz18, zz19, zz20, zz21, zz22, zz23, zz24, zz25, zz26, zz27, zz28, zz29, zz30, zz31, zz32, zz33, zz34, zz35, zz36, zz37, zz38, zz39, zz40, zz41, zz48, zz60, zz64, zz160, zz312, zz320, zzm2, zzm3, zzm4, zzm5, zzm6, zzm7, zzm8, zzm9, zzm10]; done) | (simp (disch := omega) only [Int32.lt_iff_toInt_lt, Int32.le_iff_toInt_le, ← Int32.toInt_inj, on_toInt, on_clamp, ti64, z0, z1, z2, zm1, i0, i1, im1, zz3, zz4, zz5, zz6, zz7, zz8, zz9, zz10, zz11, zz12, zz13, zz14, zz15, zz16, zz17, zz18, zz19, zz20, zz21, zz22, zz23, zz24, zz25, zz26, zz27, zz28, zz29, zz30, zz31, zz32, zz33, zz34, zz35, zz36, zz37, zz38, zz39, zz40, zz41, zz48, zz60, zz64, zz160, zz312, zz320, zzm2, zzm3, zzm4, zzm5, zzm6, zzm7, zzm8, zzm9, zzm10]; omega))]
    have e2 : F_X9_end (u2 I 9 0 (Int32.ofNat N)) (Int32.ofNat N) = (Int32.ofNat n, u2 (u2 I 9 0 (Int32.ofNat N)) 33 21 (Int32.ofNat N)) := by
      unfold F_X9_end
      rw [show (u2 I 9 0 (Int32.ofNat N)) 33 21 = Int32.ofNat n from t2, in_eq, ti64, on_toInt (show n < 2147483648 by omega), i0, if_pos c, if_neg (by decide)]
    rw [e1]
    show Int32.ofNat n = p1 (F_X9_end (u2 I 9 0 (Int32.ofNat N)) (Int32.ofNat N)) ∧ Inv (p2 (F_X9_end (u2 I 9 0 (Int32.ofNat N)) (Int32.ofNat N))) L
    rw [e2]
    exact ⟨rfl, ⟨h, w, h1, h2⟩, k0, k1, h3, ⟨N, by omega, rfl, rfl, fun j hj => t3 j (by omega)⟩, four h5 id id id id, h6⟩
  · have e1 : F_X8_end I a1 = (-1, I) := by
      unfold F_X8_end F_X8_end_15
      rw [t1]
      by_cases q : a1.toInt < 0
      · rw [if_pos (by first | omega | (simp (disch := omega) only [Int32.lt_iff_toInt_lt, Int32.le_iff_toInt_le, ← Int32.toInt_inj, on_toInt, on_clamp, ti64, z0, z1, z2, zm1, i0, i1, im1, zz3, zz4, zz5, zz6, zz7, zz8, zz9, zz10, zz11, zz12, zz13, zz14, zz15, zz16, zz17, zz18, zz19, zz20, zz21, zz22, zz23, zz24, zz25, zz26, zz27, zz28, zz29, zz30, zz31, zz32, zz33, zz34, zz35, zz36, zz37, zz38, zz39, zz40, zz41, zz48, zz60, zz64, zz160, zz312, zz320, zzm2, zzm3, zzm4, zzm5, zzm6, zzm7, zzm8, zzm9, zzm10]; done) | (simp (disch := omega) only [Int32.lt_iff_toInt_lt, Int32.le_iff_toInt_le, ← Int32.toInt_inj, on_toInt, on_clamp, ti64, z0, z1, z2, zm1, i0, i1, im1, zz3, zz4, zz5, zz6, zz7, zz8, zz9, zz10, zz11, zz12, zz13, zz14, zz15, zz16, zz17, zz18, zz19, zz20, zz21, zz22, zz23, zz24, zz25, zz26, zz27, zz28, zz29, zz30, zz31, zz32, zz33, zz34, zz35, zz36, zz37, zz38, zz39, zz40, zz41, zz48, zz60, zz64, zz160, zz312, zz320, zzm2, zzm3, zzm4, zzm5, zzm6, zzm7, zzm8, zzm9, zzm10]; omega))]
      · rw [if_neg (by first | omega | (simp (disch := omega) only [Int32.lt_iff_toInt_lt, Int32.le_iff_toInt_le, ← Int32.toInt_inj, on_toInt, on_clamp, ti64, z0, z1, z2, zm1, i0, i1, im1, zz3, zz4, zz5, zz6, zz7, zz8, zz9, zz10, zz11, zz12, zz13, zz14, zz15, zz16, zz17, zz18, zz19, zz20, zz21, zz22, zz23, zz24, zz25, zz26, zz27, zz28, zz29, zz30, zz31, zz32, zz33, zz34, zz35, zz36, zz37, zz38, zz39, zz40, zz41, zz48, zz60, zz64, zz160, zz312, zz320, zzm2, zzm3, zzm4, zzm5, zzm6, zzm7, zzm8, zzm9, zzm10]; done) | (simp (disch := omega) only [Int32.lt_iff_toInt_lt, Int32.le_iff_toInt_le, ← Int32.toInt_inj, on_toInt, on_clamp, ti64, z0, z1, z2, zm1, i0, i1, im1, zz3, zz4, zz5, zz6, zz7, zz8, zz9, zz10, zz11, zz12, zz13, zz14, zz15, zz16, zz17, zz18, zz19, zz20, zz21, zz22, zz23, zz24, zz25, zz26, zz27, zz28, zz29, zz30, zz31, zz32, zz33, zz34, zz35, zz36, zz37, zz38, zz39, zz40, zz41, zz48, zz60, zz64, zz160, zz312, zz320, zzm2, zzm3, zzm4, zzm5, zzm6, zzm7, zzm8, zzm9, zzm10]; omega)), if_neg (by first | omega | (simp (disch := omega) only [Int32.lt_iff_toInt_lt, Int32.le_iff_toInt_le, ← Int32.toInt_inj, on_toInt, on_clamp, ti64, z0, z1, z2, zm1, i0, i1, im1, zz3, zz4, zz5, zz6, zz7, zz8, zz9, zz10, zz11, zz12, zz13, zz14, zz15, zz16, zz17, zz18, zz19, zz20, zz21, zz22, zz23, zz24, zz25, zz26, zz27, zz28, zz29, zz30, zz31, zz32, zz33, zz34, zz35, zz36, zz37, zz38, zz39, zz40, zz41, zz48, zz60, zz64, zz160, zz312, zz320, zzm2, zzm3, zzm4, zzm5, zzm6, zzm7, zzm8, zzm9, zzm10]; done) | (simp (disch := omega) only [Int32.lt_iff_toInt_lt, Int32.le_iff_toInt_le, ← Int32.toInt_inj, on_toInt, on_clamp, ti64, z0, z1, z2, zm1, i0, i1, im1, zz3, zz4, zz5, zz6, zz7, zz8, zz9, zz10, zz11, zz12, zz13, zz14, zz15, zz16, zz17, zz18, zz19, zz20, zz21, zz22, zz23, zz24, zz25, zz26, zz27, zz28, zz29, zz30, zz31, zz32, zz33, zz34, zz35, zz36, zz37, zz38, zz39, zz40, zz41, zz48, zz60, zz64, zz160, zz312, zz320, zzm2, zzm3, zzm4, zzm5, zzm6, zzm7, zzm8, zzm9, zzm10]; omega))]
    have e2 : F_X9_end I a1 = (-1, I) := by
      unfold F_X9_end
      rw [t2, in_eq, ti64, on_toInt (by omega), i0, if_neg c, if_pos rfl]
    rw [e1]
    show _ = p1 (F_X9_end I a1) ∧ Inv (p2 (F_X9_end I a1)) L
    rw [e2]
    exact ⟨rfl, H'⟩
/-! bytes -/
theorem sby_t : ∀ b, b < 256 → (BitVec.ofNat 8 b).signExtend 32 = (sby b).toBitVec := by decide +kernel
theorem byte_8 (y : Int32) : Int8.toInt32 (Int32.toInt8 y) = sby (y.toBitVec.toNat % 256) := by
  apply Int32.toBitVec.inj
  show (y.toBitVec.signExtend 8).signExtend 32 = _
  have e : y.toBitVec.signExtend 8 = y.toBitVec.setWidth 8 := BitVec.signExtend_eq_setWidth_of_le _ (by decide)
  rw [← sby_t _ (Nat.mod_lt _ (by decide)), e]
  congr 1
  apply BitVec.eq_of_toNat_eq
  rw [BitVec.toNat_setWidth, BitVec.toNat_ofNat]
  omega
theorem byte_88 (y : Int32) : Int8.toInt32 (Int32.toInt8 (Int8.toInt32 (Int32.toInt8 y))) = Int8.toInt32 (Int32.toInt8 y) := by
  apply Int32.toBitVec.inj
  show (((y.toBitVec.signExtend 8).signExtend 32).signExtend 8).signExtend 32 = (y.toBitVec.signExtend 8).signExtend 32
  congr 1
  rw [BitVec.signExtend_eq_setWidth_of_le _ (show 8 ≤ 32 by decide)]
  apply BitVec.eq_of_getLsbD_eq
  intro i hi
  rw [BitVec.getLsbD_setWidth, BitVec.getLsbD_signExtend]
  simp [hi, (show i < 32 by omega)]
theorem byte_255 (x : Int64) : Int64.toInt32 (x &&& 255) = Int32.ofNat (x.toBitVec.toNat % 256) := by
  apply Int32.toBitVec.inj
  show (x.toBitVec &&& 255#64).signExtend 32 = BitVec.ofNat 32 _
  rw [BitVec.signExtend_eq_setWidth_of_le _ (by decide)]
  apply BitVec.eq_of_toNat_eq
  rw [BitVec.toNat_setWidth, BitVec.toNat_and, BitVec.toNat_ofNat, BitVec.toNat_ofNat]
  show (x.toBitVec.toNat &&& (2 ^ 8 - 1)) % 2 ^ 32 = _
  rw [Nat.and_two_pow_sub_one_eq_mod]
theorem byte_32 (x : Int64) : (Int64.toInt32 x).toBitVec.toNat % 256 = x.toBitVec.toNat % 256 := by
  show (x.toBitVec.signExtend 32).toNat % 256 = _
  rw [BitVec.signExtend_eq_setWidth_of_le _ (by decide), BitVec.toNat_setWidth]
  omega
theorem s56 : ∀ i, i < 8 → (56 : Int32) - Int32.ofNat (8 * i) = Int32.ofNat (56 - 8 * i) := by decide
theorem u2_nc {α : Type} {f : Nat → Nat → α} {k j a b : Nat} {x : α} (h : ¬ (a = k ∧ b = j)) : u2 f k j x a b = f a b := if_neg h
theorem E_0 {I : WI} {L : WL} {v : Int64} (H : Inv I L) : ∃ w, (F_X9_feed (p2 (F_X8_feed I v)) v) = some w ∧ (p1 (F_X8_feed I v)) = (p1 w) ∧ Inv (p2 w) L := by
  have H' := H
  obtain ⟨⟨h, w, h1, h2⟩, k0, k1, h3, ⟨n, hn, t1, t2, t3⟩, h5, h6⟩ := H
  by_cases c : n + 8 ≤ 320
  · -- the class
    let B : Nat → Nat := fun i => (lsr v (Int32.ofNat (56 - 8 * i))).toBitVec.toNat % 256
    have hB : ∀ i, B i < 256 := fun i => Nat.mod_lt _ (by decide)
    have e1 : ∃ J : WI, F_X5_add I v = (1, u2 J 9 0 (Int32.ofNat (n + 8))) ∧ (∀ k j, ¬ (k = 10 ∧ n ≤ j ∧ j < n + 8) → J k j = I k j) ∧ ∀ i, i < 8 → J 10 (n + i) = sby (B i) := by
      have hl : ∃ J : WI, p2 (fr0 (fun i x => F_X5_add_27_1 x v i) (Int32.ofNat 8) (fu 0 (Int32.ofNat 8)) 0 I) = J ∧ (∀ k j, ¬ (k = 10 ∧ n ≤ j ∧ j < n + 8) → J k j = I k j) ∧ ∀ i, i < 8 → J 10 (n + i) = sby (B i) := by
        refine ⟨_, rfl, ?_⟩
        rw [fr0_it (by decide)]
        refine it_ind (P := fun q (J : WI) => (∀ k j, ¬ (k = 10 ∧ n ≤ j ∧ j < n + q) → J k j = I k j) ∧ ∀ i, i < q → J 10 (n + i) = sby (B i)) ⟨fun _ _ _ => rfl, fun i hi => by omega⟩ (fun q J hq hJ => ?_)
        show (∀ k j, _ → F_X5_add_27_1 J v (Int32.ofNat q) k j = I k j) ∧ ∀ i, i < q + 1 → F_X5_add_27_1 J v (Int32.ofNat q) 10 (n + i) = sby (B i)
        have e9 : J 9 0 = Int32.ofNat n := (hJ.1 9 0 (by omega)).trans t1
        have e : F_X5_add_27_1 J v (Int32.ofNat q) = u2 J 10 (n + q) (sby (B q)) := by
          unfold F_X5_add_27_1 F_X5_add_68_1
          rw [e9, oadd, if_neg (by first | omega | (simp (disch := omega) only [Int32.lt_iff_toInt_lt, Int32.le_iff_toInt_le, ← Int32.toInt_inj, on_toInt, on_clamp, ti64, z0, z1, z2, zm1, i0, i1, im1, zz3, zz4, zz5, zz6, zz7, zz8, zz9, zz10, zz11, zz12, zz13, zz14, zz15, zz16, zz17, zz18, zz19, zz20, zz21, zz22, zz23, zz24, zz25, zz26, zz27, zz28, zz29, zz30, zz31, zz32, zz33, zz34, zz35, zz36, zz37, zz38, zz39, zz40, zz41, zz48, zz60, zz64, zz160, zz312, zz320, zzm2, zzm3, zzm4, zzm5, zzm6, zzm7, zzm8, zzm9, zzm10]; done) | (simp (disch := omega) only [Int32.lt_iff_toInt_lt, Int32.le_iff_toInt_le, ← Int32.toInt_inj, on_toInt, on_clamp, ti64, z0, z1, z2, zm1, i0, i1, im1, zz3, zz4, zz5, zz6, zz7, zz8, zz9, zz10, zz11, zz12, zz13, zz14, zz15, zz16, zz17, zz18, zz19, zz20, zz21, zz22, zz23, zz24, zz25, zz26, zz27, zz28, zz29, zz30, zz31, zz32, zz33, zz34, zz35, zz36, zz37, zz38, zz39, zz40, zz41, zz48, zz60, zz64, zz160, zz312, zz320, zzm2, zzm3, zzm4, zzm5, zzm6, zzm7, zzm8, zzm9, zzm10]; omega)), if_neg (by first | omega | (simp (disch := omega) only [Int32.lt_iff_toInt_lt, Int32.le_iff_toInt_le, ← Int32.toInt_inj, on_toInt, on_clamp, ti64, z0, z1, z2, zm1, i0, i1, im1, zz3, zz4, zz5, zz6, zz7, zz8, zz9, zz10, zz11, zz12, zz13, zz14, zz15, zz16, zz17, zz18, zz19, zz20, zz21, zz22, zz23, zz24, zz25, zz26, zz27, zz28, zz29, zz30, zz31, zz32, zz33, zz34, zz35, zz36, zz37, zz38, zz39, zz40, zz41, zz48, zz60, zz64, zz160, zz312, zz320, zzm2, zzm3, zzm4, zzm5, zzm6, zzm7, zzm8, zzm9, zzm10]; done) | (simp (disch := omega) only [Int32.lt_iff_toInt_lt, Int32.le_iff_toInt_le, ← Int32.toInt_inj, on_toInt, on_clamp, ti64, z0, z1, z2, zm1, i0, i1, im1, zz3, zz4, zz5, zz6, zz7, zz8, zz9, zz10, zz11, zz12, zz13, zz14, zz15, zz16, zz17, zz18, zz19, zz20, zz21, zz22, zz23, zz24, zz25, zz26, zz27, zz28, zz29, zz30, zz31, zz32, zz33, zz34, zz35, zz36, zz37, zz38, zz39, zz40, zz41, zz48, zz60, zz64, zz160, zz312, zz320, zzm2, zzm3, zzm4, zzm5, zzm6, zzm7, zzm8, zzm9, zzm10]; omega)), on_clamp (n := n + q) (by omega), byte_88, byte_8, lm8, s56 q hq, byte_32]
        rw [e]
        refine ⟨fun k j hkj => ?_, fun i hi => ?_⟩
        · rw [u2_nc (by omega)]
          exact hJ.1 k j (by omega)
        · by_cases d : i = q
          · rw [d, u2_at]
          · rw [u2_nc (by omega)]
            exact hJ.2 i (by omega)
      obtain ⟨J, g1, g2, g3⟩ := hl
      refine ⟨J, ?_, g2, g3⟩
      unfold F_X5_add
      rw [t1, if_neg (by first | omega | (simp (disch := omega) only [Int32.lt_iff_toInt_lt, Int32.le_iff_toInt_le, ← Int32.toInt_inj, on_toInt, on_clamp, ti64, z0, z1, z2, zm1, i0, i1, im1, zz3, zz4, zz5, zz6, zz7, zz8, zz9, zz10, zz11, zz12, zz13, zz14, zz15, zz16, zz17, zz18, zz19, zz20, zz21, zz22, zz23, zz24, zz25, zz26, zz27, zz28, zz29, zz30, zz31, zz32, zz33, zz34, zz35, zz36, zz37, zz38, zz39, zz40, zz41, zz48, zz60, zz64, zz160, zz312, zz320, zzm2, zzm3, zzm4, zzm5, zzm6, zzm7, zzm8, zzm9, zzm10]; done) | (simp (disch := omega) only [Int32.lt_iff_toInt_lt, Int32.le_iff_toInt_le, ← Int32.toInt_inj, on_toInt, on_clamp, ti64, z0, z1, z2, zm1, i0, i1, im1, zz3, zz4, zz5, zz6, zz7, zz8, zz9, zz10, zz11, zz12, zz13, zz14, zz15, zz16, zz17, zz18, zz19, zz20, zz21, zz22, zz23, zz24, zz25, zz26, zz27, zz28, zz29, zz30, zz31, zz32, zz33, zz34, zz35, zz36, zz37, zz38, zz39, zz40, zz41, zz48, zz60, zz64, zz160, zz312, zz320, zzm2, zzm3, zzm4, zzm5, zzm6, zzm7, zzm8, zzm9, zzm10]; omega)), if_pos (by first | omega | (simp (disch := omega) only [Int32.lt_iff_toInt_lt, Int32.le_iff_toInt_le, ← Int32.toInt_inj, on_toInt, on_clamp, ti64, z0, z1, z2, zm1, i0, i1, im1, zz3, zz4, zz5, zz6, zz7, zz8, zz9, zz10, zz11, zz12, zz13, zz14, zz15, zz16, zz17, zz18, zz19, zz20, zz21, zz22, zz23, zz24, zz25, zz26, zz27, zz28, zz29, zz30, zz31, zz32, zz33, zz34, zz35, zz36, zz37, zz38, zz39, zz40, zz41, zz48, zz60, zz64, zz160, zz312, zz320, zzm2, zzm3, zzm4, zzm5, zzm6, zzm7, zzm8, zzm9, zzm10]; done) | (simp (disch := omega) only [Int32.lt_iff_toInt_lt, Int32.le_iff_toInt_le, ← Int32.toInt_inj, on_toInt, on_clamp, ti64, z0, z1, z2, zm1, i0, i1, im1, zz3, zz4, zz5, zz6, zz7, zz8, zz9, zz10, zz11, zz12, zz13, zz14, zz15, zz16, zz17, zz18, zz19, zz20, zz21, zz22, zz23, zz24, zz25, zz26, zz27, zz28, zz29, zz30, zz31, zz32, zz33, zz34, zz35, zz36, zz37, zz38, zz39, zz40, zz41, zz48, zz60, zz64, zz160, zz312, zz320, zzm2, zzm3, zzm4, zzm5, zzm6, zzm7, zzm8, zzm9, zzm10]; omega))]
      show F_X5_add_74 (p2 (fr0 (fun i x => F_X5_add_27_1 x v i) (Int32.ofNat 8) (fu 0 (Int32.ofNat 8)) 0 I)) v = _
      rw [g1]
      unfold F_X5_add_74
      rw [show J 9 0 = Int32.ofNat n from (g2 9 0 (by omega)).trans t1, show Int32.ofNat n + 8 = Int32.ofNat (n + 8) from oadd n 8]
    obtain ⟨J, f1, f2, f3⟩ := e1
    have e2 : F_X8_feed I v = (Int32.ofNat (n + 8), u2 J 9 0 (Int32.ofNat (n + 8))) := by
      unfold F_X8_feed F_X8_feed_23
      rw [f1]
      rfl
    rw [e2]
    generalize hK : u2 J 9 0 (Int32.ofNat (n + 8)) = K
    have hK1 : ∀ k j, ¬ (k = 10 ∧ n ≤ j ∧ j < n + 8) → ¬ (k = 9 ∧ j = 0) → K k j = I k j := fun k j q1 q2 => by
      rw [← hK, u2_nc q2, f2 k j q1]
    have hK2 : K 9 0 = Int32.ofNat (n + 8) := by rw [← hK, u2_at]
    have hK3 : ∀ i, i < 8 → K 10 (n + i) = sby (B i) := fun i hi => by
      rw [← hK, u2_nc (by omega)]
      exact f3 i hi
    -- the reference
    have e3 : ∃ r, F_X9_feed K v = some r ∧ p1 r = Int32.ofNat (n + 8) ∧ (∀ k j, ¬ (k = 39 ∧ n ≤ j ∧ j < n + 8) → ¬ (k = 33 ∧ j = 21) → p2 r k j = K k j) ∧ p2 r 33 21 = Int32.ofNat (n + 8) ∧ ∀ i, i < 8 → p2 r 39 (n + i) = Int32.ofNat (B i) := by
      have hstep : ∀ (fuel q : Nat) (s : WI), q ≤ 8 → 9 ≤ fuel + q → ((∀ k j, ¬ (k = 39 ∧ n ≤ j ∧ j < n + q) → ¬ (k = 33 ∧ j = 21) → s k j = K k j) ∧ s 33 21 = Int32.ofNat (n + q) ∧ ∀ i, i < q → s 39 (n + i) = Int32.ofNat (B i)) → ∃ r, lpp (fun x => F_X9_feed_19_1 (p2 x) v (p1 x)) fuel (if q = 8 then -8 else Int32.ofNat (56 - 8 * q), s) = some r ∧ ((∀ k j, ¬ (k = 39 ∧ n ≤ j ∧ j < n + 8) → ¬ (k = 33 ∧ j = 21) → r k j = K k j) ∧ r 33 21 = Int32.ofNat (n + 8) ∧ ∀ i, i < 8 → r 39 (n + i) = Int32.ofNat (B i)) := by
        intro fuel
        induction fuel with
        | zero => intro q s g1 g2 _; omega
        | succ fuel ih =>
          intro q s g1 g2 g3
          by_cases d : q = 8
          · subst d
            refine ⟨s, ?_, g3⟩
            refine lpp_l ?_
            show F_X9_feed_19_1 s v (-8) = _
            unfold F_X9_feed_19_1
            rw [if_pos (by decide)]
          · rw [if_neg d]
            have hx : F_X9_feed_19_1 s v (Int32.ofNat (56 - 8 * q)) = some (.inr (if q + 1 = 8 then -8 else Int32.ofNat (56 - 8 * (q + 1)), u2 (u2 s 39 (n + q) (Int32.ofNat (B q))) 33 21 (Int32.ofNat (n + (q + 1))))) := by
              unfold F_X9_feed_19_1
              rw [if_neg (by first | omega | (simp (disch := omega) only [Int32.lt_iff_toInt_lt, Int32.le_iff_toInt_le, ← Int32.toInt_inj, on_toInt, on_clamp, ti64, z0, z1, z2, zm1, i0, i1, im1, zz3, zz4, zz5, zz6, zz7, zz8, zz9, zz10, zz11, zz12, zz13, zz14, zz15, zz16, zz17, zz18, zz19, zz20, zz21, zz22, zz23, zz24, zz25, zz26, zz27, zz28, zz29, zz30, zz31, zz32, zz33, zz34, zz35, zz36, zz37, zz38, zz39, zz40, zz41, zz48, zz60, zz64, zz160, zz312, zz320, zzm2, zzm3, zzm4, zzm5, zzm6, zzm7, zzm8, zzm9, zzm10]; done) | (simp (disch := omega) only [Int32.lt_iff_toInt_lt, Int32.le_iff_toInt_le, ← Int32.toInt_inj, on_toInt, on_clamp, ti64, z0, z1, z2, zm1, i0, i1, im1, zz3, zz4, zz5, zz6, zz7, zz8, zz9, zz10, zz11, zz12, zz13, zz14, zz15, zz16, zz17, zz18, zz19, zz20, zz21, zz22, zz23, zz24, zz25, zz26, zz27, zz28, zz29, zz30, zz31, zz32, zz33, zz34, zz35, zz36, zz37, zz38, zz39, zz40, zz41, zz48, zz60, zz64, zz160, zz312, zz320, zzm2, zzm3, zzm4, zzm5, zzm6, zzm7, zzm8, zzm9, zzm10]; omega)), g3.2.1, if_neg (nin (k := n + q) (by omega) (by decide)), on_clamp (n := n + q) (by omega), byte_255]
              rw [show (u2 s 39 (n + q) (Int32.ofNat ((lsr v (Int32.ofNat (56 - 8 * q))).toBitVec.toNat % 256))) 33 21 = Int32.ofNat (n + q) from g3.2.1, la1]
              rw [show ∀ q, q < 8 → Int32.ofNat (56 - 8 * q) + -8 = (if q + 1 = 8 then -8 else Int32.ofNat (56 - 8 * (q + 1))) from by decide]
              · rfl
              · omega
            rw [lpp_r (f := fun x => F_X9_feed_19_1 (p2 x) v (p1 x)) (s := (Int32.ofNat (56 - 8 * q), s)) hx]
            refine ih (q + 1) _ (by omega) (by omega) ⟨fun k j q1 q2 => ?_, u2_at, fun i hi => ?_⟩
            · rw [u2_nc q2, u2_nc (by omega)]
              exact g3.1 k j (by omega) q2
            · rw [u2_nc (by omega)]
              by_cases d2 : i = q
              · rw [d2, u2_at]
              · rw [u2_nc (by omega)]
                exact g3.2.2 i (by omega)
      obtain ⟨r, r1, r2, r3, r4⟩ := hstep 4294967296 0 K (by omega) (by omega) ⟨fun _ _ _ _ => rfl, (hK1 33 21 (by omega) (by omega)).trans t2, fun i hi => by omega⟩
      refine ⟨(r 33 21, r), ?_, r3, r2, r3, r4⟩
      unfold F_X9_feed
      rw [(hK1 33 21 (by omega) (by omega)).trans t2, show Int32.ofNat n + 8 = Int32.ofNat (n + 8) from oadd n 8, if_pos (by first | omega | (simp (disch := omega) only [Int32.lt_iff_toInt_lt, Int32.le_iff_toInt_le, ← Int32.toInt_inj, on_toInt, on_clamp, ti64, z0, z1, z2, zm1, i0, i1, im1, zz3, zz4, zz5, zz6, zz7, zz8, zz9, zz10, zz11, zz12, zz13, zz14, zz15, zz16, zz17, zz18, zz19, zz20, zz21, zz22, zz23, zz24, zz25, zz26, zz27, zz28, zz29, zz30, zz31, zz32, zz33, zz34, zz35, zz36, zz37, zz38, zz39, zz40, zz41, zz48, zz60, zz64, zz160, zz312, zz320, zzm2, zzm3, zzm4, zzm5, zzm6, zzm7, zzm8, zzm9, zzm10]; done) | (simp (disch := omega) only [Int32.lt_iff_toInt_lt, Int32.le_iff_toInt_le, ← Int32.toInt_inj, on_toInt, on_clamp, ti64, z0, z1, z2, zm1, i0, i1, im1, zz3, zz4, zz5, zz6, zz7, zz8, zz9, zz10, zz11, zz12, zz13, zz14, zz15, zz16, zz17, zz18, zz19, zz20, zz21, zz22, zz23, zz24, zz25, zz26, zz27, zz28, zz29, zz30, zz31, zz32, zz33, zz34, zz35, zz36, zz37, zz38, zz39, zz40, zz41, zz48, zz60, zz64, zz160, zz312, zz320, zzm2, zzm3, zzm4, zzm5, zzm6, zzm7, zzm8, zzm9, zzm10]; omega))]
      show (lpp (fun x => F_X9_feed_19_1 (p2 x) v (p1 x)) 4294967296 (if 0 = 8 then -8 else Int32.ofNat (56 - 8 * 0), K)).bind _ = _
      rw [r1]
      rfl
    obtain ⟨r, r1, r2, r3, r4, r5⟩ := e3
    refine ⟨r, r1, r2.symm, ?_⟩
    -- what is kept
    have hR : ∀ k j, ¬ (k = 39) → ¬ (k = 10) → ¬ (k = 33 ∧ j = 21) → ¬ (k = 9 ∧ j = 0) → p2 r k j = I k j := fun k j q1 q2 q3 q4 => (r3 k j (by omega) q3).trans (hK1 k j (by omega) q4)
    let I1 : WI := fun k j => if k = 39 ∨ k = 10 ∨ (k = 33 ∧ j = 21) ∨ (k = 9 ∧ j = 0) then p2 r k j else I k j
    have hI1 : p2 r = I1 := by
      funext k j
      show _ = if _ then _ else _
      by_cases d : k = 39 ∨ k = 10 ∨ (k = 33 ∧ j = 21) ∨ (k = 9 ∧ j = 0)
      · rw [if_pos d]
      · rw [if_neg d]
        exact hR k j (by omega) (by omega) (by omega) (by omega)
    have hT : InvT (p2 r) := by
      refine ⟨n + 8, c, (r3 9 0 (by omega) (by omega)).trans hK2, r4, fun j hj => ?_⟩
      by_cases d : j < n
      · obtain ⟨b, b1, b2, b3⟩ := t3 j d
        exact ⟨b, b1, (r3 39 j (by omega) (by omega)).trans ((hK1 39 j (by omega) (by omega)).trans b2), (r3 10 j (by omega) (by omega)).trans ((hK1 10 j (by omega) (by omega)).trans b3)⟩
      · obtain ⟨i, rfl⟩ : ∃ i, j = n + i := ⟨j - n, by omega⟩
        exact ⟨B i, hB i, r5 i (by omega), (r3 10 (n + i) (by omega) (by omega)).trans (hK3 i (by omega))⟩
    rw [hI1] at hT ⊢
    exact ⟨⟨h, w, h1, h2⟩, k0, k1, h3, hT, four h5 id id id id, h6⟩
  · have e1 : F_X5_add I v = (0, I) := by
      unfold F_X5_add F_X5_add_17
      rw [t1, if_neg (by first | omega | (simp (disch := omega) only [Int32.lt_iff_toInt_lt, Int32.le_iff_toInt_le, ← Int32.toInt_inj, on_toInt, on_clamp, ti64, z0, z1, z2, zm1, i0, i1, im1, zz3, zz4, zz5, zz6, zz7, zz8, zz9, zz10, zz11, zz12, zz13, zz14, zz15, zz16, zz17, zz18, zz19, zz20, zz21, zz22, zz23, zz24, zz25, zz26, zz27, zz28, zz29, zz30, zz31, zz32, zz33, zz34, zz35, zz36, zz37, zz38, zz39, zz40, zz41, zz48, zz60, zz64, zz160, zz312, zz320, zzm2, zzm3, zzm4, zzm5, zzm6, zzm7, zzm8, zzm9, zzm10]; done) | (simp (disch := omega) only [Int32.lt_iff_toInt_lt, Int32.le_iff_toInt_le, ← Int32.toInt_inj, on_toInt, on_clamp, ti64, z0, z1, z2, zm1, i0, i1, im1, zz3, zz4, zz5, zz6, zz7, zz8, zz9, zz10, zz11, zz12, zz13, zz14, zz15, zz16, zz17, zz18, zz19, zz20, zz21, zz22, zz23, zz24, zz25, zz26, zz27, zz28, zz29, zz30, zz31, zz32, zz33, zz34, zz35, zz36, zz37, zz38, zz39, zz40, zz41, zz48, zz60, zz64, zz160, zz312, zz320, zzm2, zzm3, zzm4, zzm5, zzm6, zzm7, zzm8, zzm9, zzm10]; omega)), if_neg (by first | omega | (simp (disch := omega) only [Int32.lt_iff_toInt_lt, Int32.le_iff_toInt_le, ← Int32.toInt_inj, on_toInt, on_clamp, ti64, z0, z1, z2, zm1, i0, i1, im1, zz3, zz4, zz5, zz6, zz7, zz8, zz9, zz10, zz11, zz12, zz13, zz14, zz15, zz16, zz17, zz18, zz19, zz20, zz21, zz22, zz23, zz24, zz25, zz26, zz27, zz28, zz29, zz30, zz31, zz32, zz33, zz34, zz35, zz36, zz37, zz38, zz39, zz40, zz41, zz48, zz60, zz64, zz160, zz312, zz320, zzm2, zzm3, zzm4, zzm5, zzm6, zzm7, zzm8, zzm9, zzm10]; done) | (simp (disch := omega) only [Int32.lt_iff_toInt_lt, Int32.le_iff_toInt_le, ← Int32.toInt_inj, on_toInt, on_clamp, ti64, z0, z1, z2, zm1, i0, i1, im1, zz3, zz4, zz5, zz6, zz7, zz8, zz9, zz10, zz11, zz12, zz13, zz14, zz15, zz16, zz17, zz18, zz19, zz20, zz21, zz22, zz23, zz24, zz25, zz26, zz27, zz28, zz29, zz30, zz31, zz32, zz33, zz34, zz35, zz36, zz37, zz38, zz39, zz40, zz41, zz48, zz60, zz64, zz160, zz312, zz320, zzm2, zzm3, zzm4, zzm5, zzm6, zzm7, zzm8, zzm9, zzm10]; omega))]
    have e2 : F_X8_feed I v = (-3, I) := by
      unfold F_X8_feed F_X8_feed_23
      rw [e1]
      rfl
    rw [e2]
    show ∃ w, F_X9_feed I v = some w ∧ _
    unfold F_X9_feed
    rw [t2, show Int32.ofNat n + 8 = Int32.ofNat (n + 8) from oadd n 8, if_neg (by first | omega | (simp (disch := omega) only [Int32.lt_iff_toInt_lt, Int32.le_iff_toInt_le, ← Int32.toInt_inj, on_toInt, on_clamp, ti64, z0, z1, z2, zm1, i0, i1, im1, zz3, zz4, zz5, zz6, zz7, zz8, zz9, zz10, zz11, zz12, zz13, zz14, zz15, zz16, zz17, zz18, zz19, zz20, zz21, zz22, zz23, zz24, zz25, zz26, zz27, zz28, zz29, zz30, zz31, zz32, zz33, zz34, zz35, zz36, zz37, zz38, zz39, zz40, zz41, zz48, zz60, zz64, zz160, zz312, zz320, zzm2, zzm3, zzm4, zzm5, zzm6, zzm7, zzm8, zzm9, zzm10]; done) | (simp (disch := omega) only [Int32.lt_iff_toInt_lt, Int32.le_iff_toInt_le, ← Int32.toInt_inj, on_toInt, on_clamp, ti64, z0, z1, z2, zm1, i0, i1, im1, zz3, zz4, zz5, zz6, zz7, zz8, zz9, zz10, zz11, zz12, zz13, zz14, zz15, zz16, zz17, zz18, zz19, zz20, zz21, zz22, zz23, zz24, zz25, zz26, zz27, zz28, zz29, zz30, zz31, zz32, zz33, zz34, zz35, zz36, zz37, zz38, zz39, zz40, zz41, zz48, zz60, zz64, zz160, zz312, zz320, zzm2, zzm3, zzm4, zzm5, zzm6, zzm7, zzm8, zzm9, zzm10]; omega))]
    exact ⟨_, rfl, rfl, H'⟩
