/-! calls that change the cloth, the pattern -/
theorem Ins.xor {h w : Nat} {x y : Int64} (hx : Ins h w x) (hy : Ins h w y) : Ins h w (x ^^^ y) := fun k hk => by
  by_cases c : M x k
  · exact hx k c
  · refine hy k (Classical.byContradiction fun d => ?_)
    rw [M_xor] at hk
    exact hk ⟨fun e => absurd e c, fun e => absurd e d⟩
theorem Ins.and {h w : Nat} {x y : Int64} (hx : Ins h w x) : Ins h w (x &&& y) := fun k hk => hx k (M_and.mp hk).1
theorem Ins.or {h w : Nat} {x y : Int64} (hx : Ins h w x) (hy : Ins h w y) : Ins h w (x ||| y) := fun k hk => (M_or.mp hk).elim (hx k) (hy k)
theorem Inv.setC {I : WI} {L : WL} {X : Int64} (H : Inv I L) (hX : ∀ h w, Cl h w → I 1 1 = Int32.ofNat h → I 1 2 = Int32.ofNat w → Ins h w X) : Inv I (u2 (u2 L 1 3 X) 33 2 X) := by
  obtain ⟨⟨h, w, ⟨hC, c1, c2, c3, c4, c5, c6, c7⟩, h2⟩, k0, k1, h3, h4, h5, h6⟩ := H
  exact ⟨⟨h, w, ⟨hC, c1, c2, c3, c4, rfl, hX h w hC c1 c2, c7⟩, h2⟩, k0, k1, h3, h4, h5, h6⟩
theorem Inv.setP {I : WI} {L : WL} {X : Int64} (H : Inv I L) (hX : ∀ h w, Cl h w → I 1 1 = Int32.ofNat h → I 1 2 = Int32.ofNat w → Ins h w X) : Inv I (u2 (u2 L 2 3 X) 33 3 X) := by
  obtain ⟨⟨h, w, ⟨hC, c1, c2, c3, c4, c5, c6, c7⟩, q1, q2, q3⟩, k0, k1, h3, h4, h5, h6⟩ := H
  exact ⟨⟨h, w, ⟨hC, c1, c2, c3, c4, c5, c6, c7⟩, q1, q2, fun _ => ⟨rfl, hX h w hC c1 c2⟩⟩, k0, k1, h3, h4, h5, h6⟩
def pset (x : Int64) (a b s : Int32) : Int64 := if s = 0 then x &&& ((lsh 1 ((8 * a) + b)) ^^^ (-1)) else x ||| (lsh 1 ((8 * a) + b))
theorem pset_ins {h w r c : Nat} (hw : w ≤ 8) (hh : h ≤ 8) (hr : r < h) (hc : c < w) {x : Int64} {s : Int32} (hx : Ins h w x) : Ins h w (pset x (Int32.ofNat r) (Int32.ofNat c) s) := by
  unfold pset
  split
  · exact hx.and
  · refine hx.or fun k hk => ?_
    rw [pos_rc, M_bit (by omega)] at hk
    omega
theorem colour_eq {L : WL} {o : Nat} {a b s : Int32} : F_X0_colour L o a b s = (F_X0_squareAt L o a b, u2 L o 3 (pset (L o 3) a b s)) := by
  unfold F_X0_colour F_X0_colour_44 pset
  by_cases c : s = 0
  · rw [if_pos c, if_pos c]
  · rw [if_neg c, if_neg c]
theorem E_8 {I : WI} {L : WL} {a1 a2 a3 : Int32} (H : Inv I L) : (p1 (F_X8_paint I L a1 a2 (nz a3))) = (p1 (F_X9_paint I (p2 (F_X8_paint I L a1 a2 (nz a3))) a1 a2 (nz a3))) ∧ Inv I (p2 (F_X9_paint I (p2 (F_X8_paint I L a1 a2 (nz a3))) a1 a2 (nz a3))) := by
  have H' := H
  obtain ⟨⟨h, w, ⟨hC, c1, c2, c3, c4, c5, c6, -⟩, -⟩, -⟩ := H
  generalize nz a3 = s
  by_cases c : (0 ≤ a1.toInt ∧ a1.toInt < h) ∧ 0 ≤ a2.toInt ∧ a2.toInt < w
  · obtain ⟨r, rfl, hr, -⟩ := nn c.1.1
    obtain ⟨q, rfl, hq, -⟩ := nn c.2.1
    have hC2 := hC
    obtain ⟨⟨h1, h2⟩, h3, h4⟩ := hC2
    have e1 : F_X8_paint I L (Int32.ofNat r) (Int32.ofNat q) s = (F_X0_squareAt L 1 (Int32.ofNat r) (Int32.ofNat q), u2 L 1 3 (pset (L 1 3) (Int32.ofNat r) (Int32.ofNat q) s)) := by
      unfold F_X8_paint F_X8_paint_26
      rw [hasSq_eq hC c1 c2, if_pos c, if_neg (by decide), colour_eq]
      rfl
    have e2 : ∀ L, F_X9_paint I L (Int32.ofNat r) (Int32.ofNat q) s = (F_X9_isDark (L 33 2) (Int32.ofNat r) (Int32.ofNat q), u2 L 33 2 (pset (L 33 2) (Int32.ofNat r) (Int32.ofNat q) s)) := by
      intro L
      unfold F_X9_paint F_X9_paint_54 F_X9_bitOf pset
      rw [isSq_eq hC c3 c4, if_pos c, if_neg (by decide)]
      by_cases cs : s = 0
      · rw [if_pos cs, if_pos cs]
      · rw [if_neg cs, if_neg cs]
    rw [e1, e2]
    have e3 : (u2 L 1 3 (pset (L 1 3) (Int32.ofNat r) (Int32.ofNat q) s)) 33 2 = L 1 3 := c5
    refine ⟨?_, ?_⟩
    · show F_X0_squareAt L 1 (Int32.ofNat r) (Int32.ofNat q) = F_X9_isDark ((u2 L 1 3 (pset (L 1 3) (Int32.ofNat r) (Int32.ofNat q) s)) 33 2) (Int32.ofNat r) (Int32.ofNat q)
      rw [e3]
      exact dark_eq rfl (by omega)
    · show Inv I (u2 (u2 L 1 3 (pset (L 1 3) (Int32.ofNat r) (Int32.ofNat q) s)) 33 2 (pset ((u2 L 1 3 (pset (L 1 3) (Int32.ofNat r) (Int32.ofNat q) s)) 33 2) (Int32.ofNat r) (Int32.ofNat q) s))
      rw [e3]
      refine H'.setC fun h' w' hC' g1 g2 => ?_
      have q1 : h' = h := by
        have := congrArg Int32.toInt (g1.symm.trans c1)
        rw [on_toInt (by have := hC'.1.2; omega), on_toInt (by omega)] at this
        omega
      have q2 : w' = w := by
        have := congrArg Int32.toInt (g2.symm.trans c2)
        rw [on_toInt (by have := hC'.2.2; omega), on_toInt (by omega)] at this
        omega
      rw [q1, q2]
      exact pset_ins h4 h2 (by omega) (by omega) c6
  · have e1 : F_X8_paint I L a1 a2 s = (-1, L) := by
      unfold F_X8_paint F_X8_paint_26
      rw [hasSq_eq hC c1 c2, if_neg c, if_pos rfl]
    have e2 : F_X9_paint I L a1 a2 s = (-1, L) := by
      unfold F_X9_paint
      rw [isSq_eq hC c3 c4, if_neg c, if_pos rfl]
    rw [e1]
    show _ = p1 (F_X9_paint I L a1 a2 s) ∧ Inv I (p2 (F_X9_paint I L a1 a2 s))
    rw [e2]
    exact ⟨rfl, H'⟩
/-- the size is one -/
theorem on_inj {a b : Nat} (ha : a < 2147483648) (hb : b < 2147483648) (h : Int32.ofNat a = Int32.ofNat b) : a = b := by
  have := congrArg Int32.toInt h
  rw [on_toInt ha, on_toInt hb] at this
  omega
theorem Cl.eq {h w h' w' : Nat} (a : Cl h w) (b : Cl h' w') {x y : Int32} (e1 : x = Int32.ofNat h) (e2 : y = Int32.ofNat w) (f1 : x = Int32.ofNat h') (f2 : y = Int32.ofNat w') : h' = h ∧ w' = w := by
  obtain ⟨⟨-, a2⟩, -, a4⟩ := a
  obtain ⟨⟨-, b2⟩, -, b4⟩ := b
  exact ⟨on_inj (by omega) (by omega) (f1.symm.trans e1), on_inj (by omega) (by omega) (f2.symm.trans e2)⟩
theorem E_9 {I : WI} {L : WL} {a1 a2 a3 : Int32} (H : Inv I L) : (p1 (F_X8_wish I L a1 a2 (nz a3))) = (p1 (F_X9_wish I (p2 (F_X8_wish I L a1 a2 (nz a3))) a1 a2 (nz a3))) ∧ Inv I (p2 (F_X9_wish I (p2 (F_X8_wish I L a1 a2 (nz a3))) a1 a2 (nz a3))) := by
  have H' := H
  obtain ⟨⟨h, w, ⟨hC, c1, c2, c3, c4, c5, c6, -⟩, -, p2', p3'⟩, -⟩ := H
  generalize nz a3 = s
  by_cases c : (0 ≤ a1.toInt ∧ a1.toInt < h) ∧ 0 ≤ a2.toInt ∧ a2.toInt < w
  · rcases bz01 (I 2 0) with e | e
    · have e1 : F_X8_wish I L a1 a2 s = (-2, L) := by
        unfold F_X8_wish F_X8_wish_39
        rw [hasSq_eq hC c1 c2, if_pos c, if_neg (by decide), e, if_pos rfl]
      have e2 : F_X9_wish I L a1 a2 s = (-2, L) := by
        unfold F_X9_wish
        rw [isSq_eq hC c3 c4, if_pos c, if_neg (by decide), p2', e, if_pos rfl]
      rw [e1]
      show _ = p1 (F_X9_wish I L a1 a2 s) ∧ Inv I (p2 (F_X9_wish I L a1 a2 s))
      rw [e2]
      exact ⟨rfl, H'⟩
    obtain ⟨q5, q6⟩ := p3' e
    obtain ⟨r, rfl, hr, -⟩ := nn c.1.1
    obtain ⟨q, rfl, hq, -⟩ := nn c.2.1
    have hC2 := hC
    obtain ⟨⟨h1, h2⟩, h3, h4⟩ := hC2
    have e1 : F_X8_wish I L (Int32.ofNat r) (Int32.ofNat q) s = (F_X0_squareAt L 2 (Int32.ofNat r) (Int32.ofNat q), u2 L 2 3 (pset (L 2 3) (Int32.ofNat r) (Int32.ofNat q) s)) := by
      unfold F_X8_wish F_X8_wish_39
      rw [hasSq_eq hC c1 c2, if_pos c, if_neg (by decide), e, if_neg (by decide), colour_eq]
      rfl
    have e2 : ∀ L, F_X9_wish I L (Int32.ofNat r) (Int32.ofNat q) s = (F_X9_isDark (L 33 3) (Int32.ofNat r) (Int32.ofNat q), u2 L 33 3 (pset (L 33 3) (Int32.ofNat r) (Int32.ofNat q) s)) := by
      intro L
      unfold F_X9_wish F_X9_wish_64 F_X9_bitOf pset
      rw [isSq_eq hC c3 c4, if_pos c, if_neg (by decide), p2', e, if_neg (by decide)]
      by_cases cs : s = 0
      · rw [if_pos cs, if_pos cs]
      · rw [if_neg cs, if_neg cs]
    rw [e1, e2]
    have e3 : (u2 L 2 3 (pset (L 2 3) (Int32.ofNat r) (Int32.ofNat q) s)) 33 3 = L 2 3 := q5
    refine ⟨?_, ?_⟩
    · show F_X0_squareAt L 2 (Int32.ofNat r) (Int32.ofNat q) = F_X9_isDark ((u2 L 2 3 (pset (L 2 3) (Int32.ofNat r) (Int32.ofNat q) s)) 33 3) (Int32.ofNat r) (Int32.ofNat q)
      rw [e3]
      exact dark_eq rfl (by omega)
    · show Inv I (u2 (u2 L 2 3 (pset (L 2 3) (Int32.ofNat r) (Int32.ofNat q) s)) 33 3 (pset ((u2 L 2 3 (pset (L 2 3) (Int32.ofNat r) (Int32.ofNat q) s)) 33 3) (Int32.ofNat r) (Int32.ofNat q) s))
      rw [e3]
      refine H'.setP fun h' w' hC' g1 g2 => ?_
      obtain ⟨rfl, rfl⟩ := hC.eq hC' c1 c2 g1 g2
      exact pset_ins h4 h2 (by omega) (by omega) q6
  · have e1 : F_X8_wish I L a1 a2 s = (-1, L) := by
      unfold F_X8_wish
      rw [hasSq_eq hC c1 c2, if_neg c, if_pos rfl]
    have e2 : F_X9_wish I L a1 a2 s = (-1, L) := by
      unfold F_X9_wish
      rw [isSq_eq hC c3 c4, if_neg c, if_pos rfl]
    rw [e1]
    show _ = p1 (F_X9_wish I L a1 a2 s) ∧ Inv I (p2 (F_X9_wish I L a1 a2 s))
    rw [e2]
    exact ⟨rfl, H'⟩
/-- the lines there are -/
theorem isActOf_eq {h w : Nat} (hC : Cl h w) {a b : Int32} : F_X9_isActOf a b (Int32.ofNat h) (Int32.ofNat w) = if 0 ≤ b.toInt ∧ b.toInt < lz a h w then 1 else 0 := by
  obtain ⟨⟨h1, h2⟩, h3, h4⟩ := hC
  have e3 : (Int32.ofNat h + Int32.ofNat w - 2).toInt = h + w - 2 := by
    rw [oadd, ti_sub] <;> rw [on_toInt (by omega), z2] <;> omega
  unfold F_X9_isActOf F_X9_isActOf_44 F_X9_isActOf_54 F_X9_isActOf_55
  rw [in_eq, in_eq, in_eq, in_eq, ti64, ti64, ti64, on_m1 (by omega), on_m1 (by omega), e3, i0, show (2 : Int64).toInt = 2 by decide]
  unfold lz
  by_cases c0 : a = 0
  · rw [if_pos (show 0 ≤ a.toInt ∧ a.toInt ≤ 2 by rw [c0, z0]; omega), if_neg (show ¬ (1 : Int32) = 0 by decide), if_pos c0, if_pos c0]
    by_cases c : 0 ≤ b.toInt ∧ b.toInt < h
    · rw [if_pos (show 0 ≤ b.toInt ∧ b.toInt ≤ (h : Int) - 1 by omega), if_neg (by decide), if_pos c]
    · rw [if_neg (show ¬ (0 ≤ b.toInt ∧ b.toInt ≤ (h : Int) - 1) by omega), if_pos rfl, if_neg c]
  rw [if_neg c0, if_neg c0]
  by_cases c1 : a = 1
  · rw [if_pos (show 0 ≤ a.toInt ∧ a.toInt ≤ 2 by rw [c1, z1]; omega), if_neg (show ¬ (1 : Int32) = 0 by decide), if_pos c1, if_pos c1]
    by_cases c : 0 ≤ b.toInt ∧ b.toInt < w
    · rw [if_pos (show 0 ≤ b.toInt ∧ b.toInt ≤ (w : Int) - 1 by omega), if_neg (by decide), if_pos c]
    · rw [if_neg (show ¬ (0 ≤ b.toInt ∧ b.toInt ≤ (w : Int) - 1) by omega), if_pos rfl, if_neg c]
  rw [if_neg c1, if_neg c1]
  by_cases c2 : a = 2
  · rw [if_pos (show 0 ≤ a.toInt ∧ a.toInt ≤ 2 by rw [c2, z2]; omega), if_neg (show ¬ (1 : Int32) = 0 by decide), if_pos c2]
    by_cases c : 0 ≤ b.toInt ∧ b.toInt < h + w - 1
    · rw [if_pos (show 0 ≤ b.toInt ∧ b.toInt ≤ (h : Int) + w - 2 by omega), if_neg (by decide), if_pos c]
    · rw [if_neg (show ¬ (0 ≤ b.toInt ∧ b.toInt ≤ (h : Int) + w - 2) by omega), if_pos rfl, if_neg c]
  have n0 : ¬ a.toInt = 0 := fun q => c0 (Int32.toInt_inj.mp (q.trans z0.symm))
  have n1 : ¬ a.toInt = 1 := fun q => c1 (Int32.toInt_inj.mp (q.trans z1.symm))
  have n2 : ¬ a.toInt = 2 := fun q => c2 (Int32.toInt_inj.mp (q.trans z2.symm))
  rw [if_neg (show ¬ (0 ≤ a.toInt ∧ a.toInt ≤ 2) by omega), if_pos rfl, if_neg c2, if_neg (by omega)]
theorem isAct_eq {I : WI} {h w : Nat} (hC : Cl h w) (e1 : I 33 0 = Int32.ofNat h) (e2 : I 33 1 = Int32.ofNat w) {a b : Int32} : F_X9_isAct I a b = some (if 0 ≤ b.toInt ∧ b.toInt < lz a h w then 1 else 0) := by
  unfold F_X9_isAct
  rw [e1, e2, isActOf_eq hC]
  split <;> rfl
theorem line_eq {I : WI} {o h w : Nat} (hC : Cl h w) (e1 : I o 1 = Int32.ofNat h) (e2 : I o 2 = Int32.ofNat w) {a b : Int32} : F_X0_hasLine I o a b = if 0 ≤ b.toInt ∧ b.toInt < lz a h w then 1 else 0 := by
  rw [hasLine_cq, e1, e2]
  exact hasLine_eq hC
theorem lz_kind {a : Int32} {h w : Nat} {x : Int} (h0 : 0 ≤ x) (h1 : x < lz a h w) : a = 0 ∨ a = 1 ∨ a = 2 := by
  unfold lz at h1
  by_cases c0 : a = 0
  · exact .inl c0
  by_cases c1 : a = 1
  · exact .inr (.inl c1)
  by_cases c2 : a = 2
  · exact .inr (.inr c2)
  rw [if_neg c0, if_neg c1, if_neg c2] at h1
  omega
theorem sq_eq {I : WI} {o h w : Nat} (hC : Cl h w) (e1 : I o 1 = Int32.ofNat h) (e2 : I o 2 = Int32.ofNat w) (e3 : I 33 0 = Int32.ofNat h) (e4 : I 33 1 = Int32.ofNat w) {a b : Int32} (ha : a = 0 ∨ a = 1 ∨ a = 2) : F_X0_squaresOf I o a b = F_X9_actSet I a b := by
  rw [squaresOf_cq, actSet_cw, e1, e2, e3, e4]
  exact sq_act hC ha
theorem set_ins {I : WI} {h w : Nat} (hC : Cl h w) (e3 : I 33 0 = Int32.ofNat h) (e4 : I 33 1 = Int32.ofNat w) {a b : Int32} : Ins h w (F_X9_actSet I a b) := by
  rw [actSet_cw, e3, e4]
  exact act_ins hC
theorem E_10 {I : WI} {L : WL} {a1 a2 : Int32} (H : Inv I L) : ∃ w, (F_X9_act I (p2 (F_X8_act I L a1 a2)) a1 a2) = some w ∧ (p1 (F_X8_act I L a1 a2)) = (p1 w) ∧ Inv I (p2 w) := by
  have H' := H
  obtain ⟨⟨h, w, ⟨hC, c1, c2, c3, c4, c5, c6, -⟩, -⟩, -⟩ := H
  unfold F_X9_act F_X8_act
  rw [isAct_eq hC c3 c4, line_eq hC c1 c2]
  by_cases c : 0 ≤ a2.toInt ∧ a2.toInt < lz a1 h w
  · rw [if_pos c, if_neg (by decide), sq_eq hC c1 c2 c3 c4 (lz_kind c.1 c.2)]
    refine ⟨_, rfl, ?_, ?_⟩
    · show F_J13_bitCount_95d88 _ = F_X9_many (_ ^^^ _)
      rw [many_bits]
      exact congrArg (fun x => F_J13_bitCount_95d88 (x ^^^ _)) c5.symm
    · show Inv I (u2 (u2 L 1 3 (L 1 3 ^^^ F_X9_actSet I a1 a2)) 33 2 (L 33 2 ^^^ F_X9_actSet I a1 a2))
      rw [c5]
      refine H'.setC fun h' w' hC' g1 g2 => ?_
      obtain ⟨rfl, rfl⟩ := hC.eq hC' c1 c2 g1 g2
      exact c6.xor (set_ins hC c3 c4)
  · rw [if_neg c, if_pos rfl]
    exact ⟨_, rfl, rfl, H'⟩
theorem every_p : ∀ h, h < 9 → ((1 : Int32) <<< (Int32.ofNat h &&& 31)) - 1 = Int32.ofNat (2 ^ h - 1) := by decide +kernel
theorem E_11 {I : WI} {L : WL} {a1 a2 : Int32} (H : Inv I L) : (p1 (F_X8_turn I L a1 a2)) = (p1 (F_X9_turn I (p2 (F_X8_turn I L a1 a2)) a1 a2)) ∧ Inv I (p2 (F_X9_turn I (p2 (F_X8_turn I L a1 a2)) a1 a2)) := by
  have H' := H
  obtain ⟨⟨h, w, ⟨hC, c1, c2, c3, c4, c5, c6, -⟩, -⟩, -⟩ := H
  have hC2 := hC
  obtain ⟨⟨h1, h2⟩, h3, h4⟩ := hC2
  have q1 : 2 ^ h ≤ 2 ^ 8 := Nat.pow_le_pow_right (by decide) h2
  have q2 : 2 ^ w ≤ 2 ^ 8 := Nat.pow_le_pow_right (by decide) h4
  have q3 : 1 ≤ 2 ^ h := Nat.one_le_two_pow
  have q4 : 1 ≤ 2 ^ w := Nat.one_le_two_pow
  have r1 : F_X0_everyRow I 1 = Int32.ofNat (2 ^ h - 1) := by
    unfold F_X0_everyRow
    rw [c1]
    exact every_p h (by omega)
  have r2 : F_X0_everyColumn I 1 = Int32.ofNat (2 ^ w - 1) := by
    unfold F_X0_everyColumn
    rw [c2]
    exact every_p w (by omega)
  by_cases c : (0 ≤ a1.toInt ∧ a1.toInt < (2 ^ h : Nat)) ∧ 0 ≤ a2.toInt ∧ a2.toInt < (2 ^ w : Nat)
  · have e1 : F_X8_turn I L a1 a2 = ((F_X0_darkSquares (u2 L 1 3 ((L 1 3) ^^^ (F_X0_squaresTurned I 1 a1 a2))) 1), (u2 L 1 3 ((L 1 3) ^^^ (F_X0_squaresTurned I 1 a1 a2)))) := by
      unfold F_X8_turn
      rw [r1, r2, if_neg (by first | omega | (simp (disch := omega) only [Int32.lt_iff_toInt_lt, Int32.le_iff_toInt_le, ← Int32.toInt_inj, on_toInt, on_clamp, ti64, z0, z1, z2, zm1, i0, i1, im1, zz3, zz4, zz5, zz6, zz7, zz8, zz9, zz10, zz11, zz12, zz13, zz14, zz15, zz16, zz17, zz18, zz19, zz20, zz21, zz22, zz23, zz24, zz25, zz26, zz27, zz28, zz29, zz30, zz31, zz32, zz33, zz34, zz35, zz36, zz37, zz38, zz39, zz40, zz41, zz48, zz60, zz64, zz160, zz312, zz320, zzm2, zzm3, zzm4, zzm5, zzm6, zzm7, zzm8, zzm9, zzm10]; done) | (simp (disch := omega) only [Int32.lt_iff_toInt_lt, Int32.le_iff_toInt_le, ← Int32.toInt_inj, on_toInt, on_clamp, ti64, z0, z1, z2, zm1, i0, i1, im1, zz3, zz4, zz5, zz6, zz7, zz8, zz9, zz10, zz11, zz12, zz13, zz14, zz15, zz16, zz17, zz18, zz19, zz20, zz21, zz22, zz23, zz24, zz25, zz26, zz27, zz28, zz29, zz30, zz31, zz32, zz33, zz34, zz35, zz36, zz37, zz38, zz39, zz40, zz41, zz48, zz60, zz64, zz160, zz312, zz320, zzm2, zzm3, zzm4, zzm5, zzm6, zzm7, zzm8, zzm9, zzm10]; omega)), if_neg (by first | omega | (simp (disch := omega) only [Int32.lt_iff_toInt_lt, Int32.le_iff_toInt_le, ← Int32.toInt_inj, on_toInt, on_clamp, ti64, z0, z1, z2, zm1, i0, i1, im1, zz3, zz4, zz5, zz6, zz7, zz8, zz9, zz10, zz11, zz12, zz13, zz14, zz15, zz16, zz17, zz18, zz19, zz20, zz21, zz22, zz23, zz24, zz25, zz26, zz27, zz28, zz29, zz30, zz31, zz32, zz33, zz34, zz35, zz36, zz37, zz38, zz39, zz40, zz41, zz48, zz60, zz64, zz160, zz312, zz320, zzm2, zzm3, zzm4, zzm5, zzm6, zzm7, zzm8, zzm9, zzm10]; done) | (simp (disch := omega) only [Int32.lt_iff_toInt_lt, Int32.le_iff_toInt_le, ← Int32.toInt_inj, on_toInt, on_clamp, ti64, z0, z1, z2, zm1, i0, i1, im1, zz3, zz4, zz5, zz6, zz7, zz8, zz9, zz10, zz11, zz12, zz13, zz14, zz15, zz16, zz17, zz18, zz19, zz20, zz21, zz22, zz23, zz24, zz25, zz26, zz27, zz28, zz29, zz30, zz31, zz32, zz33, zz34, zz35, zz36, zz37, zz38, zz39, zz40, zz41, zz48, zz60, zz64, zz160, zz312, zz320, zzm2, zzm3, zzm4, zzm5, zzm6, zzm7, zzm8, zzm9, zzm10]; omega)), if_neg (by first | omega | (simp (disch := omega) only [Int32.lt_iff_toInt_lt, Int32.le_iff_toInt_le, ← Int32.toInt_inj, on_toInt, on_clamp, ti64, z0, z1, z2, zm1, i0, i1, im1, zz3, zz4, zz5, zz6, zz7, zz8, zz9, zz10, zz11, zz12, zz13, zz14, zz15, zz16, zz17, zz18, zz19, zz20, zz21, zz22, zz23, zz24, zz25, zz26, zz27, zz28, zz29, zz30, zz31, zz32, zz33, zz34, zz35, zz36, zz37, zz38, zz39, zz40, zz41, zz48, zz60, zz64, zz160, zz312, zz320, zzm2, zzm3, zzm4, zzm5, zzm6, zzm7, zzm8, zzm9, zzm10]; done) | (simp (disch := omega) only [Int32.lt_iff_toInt_lt, Int32.le_iff_toInt_le, ← Int32.toInt_inj, on_toInt, on_clamp, ti64, z0, z1, z2, zm1, i0, i1, im1, zz3, zz4, zz5, zz6, zz7, zz8, zz9, zz10, zz11, zz12, zz13, zz14, zz15, zz16, zz17, zz18, zz19, zz20, zz21, zz22, zz23, zz24, zz25, zz26, zz27, zz28, zz29, zz30, zz31, zz32, zz33, zz34, zz35, zz36, zz37, zz38, zz39, zz40, zz41, zz48, zz60, zz64, zz160, zz312, zz320, zzm2, zzm3, zzm4, zzm5, zzm6, zzm7, zzm8, zzm9, zzm10]; omega)), if_pos (by first | omega | (simp (disch := omega) only [Int32.lt_iff_toInt_lt, Int32.le_iff_toInt_le, ← Int32.toInt_inj, on_toInt, on_clamp, ti64, z0, z1, z2, zm1, i0, i1, im1, zz3, zz4, zz5, zz6, zz7, zz8, zz9, zz10, zz11, zz12, zz13, zz14, zz15, zz16, zz17, zz18, zz19, zz20, zz21, zz22, zz23, zz24, zz25, zz26, zz27, zz28, zz29, zz30, zz31, zz32, zz33, zz34, zz35, zz36, zz37, zz38, zz39, zz40, zz41, zz48, zz60, zz64, zz160, zz312, zz320, zzm2, zzm3, zzm4, zzm5, zzm6, zzm7, zzm8, zzm9, zzm10]; done) | (simp (disch := omega) only [Int32.lt_iff_toInt_lt, Int32.le_iff_toInt_le, ← Int32.toInt_inj, on_toInt, on_clamp, ti64, z0, z1, z2, zm1, i0, i1, im1, zz3, zz4, zz5, zz6, zz7, zz8, zz9, zz10, zz11, zz12, zz13, zz14, zz15, zz16, zz17, zz18, zz19, zz20, zz21, zz22, zz23, zz24, zz25, zz26, zz27, zz28, zz29, zz30, zz31, zz32, zz33, zz34, zz35, zz36, zz37, zz38, zz39, zz40, zz41, zz48, zz60, zz64, zz160, zz312, zz320, zzm2, zzm3, zzm4, zzm5, zzm6, zzm7, zzm8, zzm9, zzm10]; omega))]
    have e2 : ∀ L, F_X9_turn I L a1 a2 = ((F_X9_many ((u2 L 33 2 ((L 33 2) ^^^ (F_X9_turnSet I a1 a2))) 33 2)), (u2 L 33 2 ((L 33 2) ^^^ (F_X9_turnSet I a1 a2)))) := by
      intro L
      unfold F_X9_turn
      rw [c3, c4, every_p h (by omega), every_p w (by omega), in_eq, in_eq, ti64, ti64, on_toInt (by omega), on_toInt (by omega), i0, if_pos (show 0 ≤ a1.toInt ∧ a1.toInt ≤ ((2 ^ h - 1 : Nat) : Int) by omega), if_neg (show ¬ (1 : Int32) = 0 by decide), if_pos (show 0 ≤ a2.toInt ∧ a2.toInt ≤ ((2 ^ w - 1 : Nat) : Int) by omega), if_neg (show ¬ (1 : Int32) = 0 by decide)]
    have e3 : F_X0_squaresTurned I 1 a1 a2 = F_X9_turnSet I a1 a2 := by
      obtain ⟨r, rfl, hr, -⟩ := nn c.1.1
      obtain ⟨q, rfl, hq, -⟩ := nn c.2.1
      rw [squaresTurned_cq, turnSet_cw, c1, c2, c3, c4]
      exact turned_eq hC (by omega) (by omega)
    have e4 : Ins h w (F_X9_turnSet I a1 a2) := by
      obtain ⟨r, rfl, hr, -⟩ := nn c.1.1
      obtain ⟨q, rfl, hq, -⟩ := nn c.2.1
      rw [turnSet_cw, c3, c4]
      intro k hk
      have := (turn_M hC (by omega) (by omega)).mp hk
      exact ⟨this.1, this.2.1⟩
    rw [e1, e2, e3]
    refine ⟨?_, ?_⟩
    · show F_J13_bitCount_95d88 _ = F_X9_many (_ ^^^ _)
      rw [many_bits]
      exact congrArg (fun x => F_J13_bitCount_95d88 (x ^^^ _)) c5.symm
    · show Inv I (u2 (u2 L 1 3 (L 1 3 ^^^ F_X9_turnSet I a1 a2)) 33 2 (L 33 2 ^^^ F_X9_turnSet I a1 a2))
      rw [c5]
      refine H'.setC fun h' w' hC' g1 g2 => ?_
      obtain ⟨rfl, rfl⟩ := hC.eq hC' c1 c2 g1 g2
      exact c6.xor e4
  · have e1 : F_X8_turn I L a1 a2 = (-1, L) := by
      unfold F_X8_turn F_X8_turn_30
      rw [r1, r2]
      by_cases d1 : a1.toInt < 0
      · rw [if_pos (by first | omega | (simp (disch := omega) only [Int32.lt_iff_toInt_lt, Int32.le_iff_toInt_le, ← Int32.toInt_inj, on_toInt, on_clamp, ti64, z0, z1, z2, zm1, i0, i1, im1, zz3, zz4, zz5, zz6, zz7, zz8, zz9, zz10, zz11, zz12, zz13, zz14, zz15, zz16, zz17, zz18, zz19, zz20, zz21, zz22, zz23, zz24, zz25, zz26, zz27, zz28, zz29, zz30, zz31, zz32, zz33, zz34, zz35, zz36, zz37, zz38, zz39, zz40, zz41, zz48, zz60, zz64, zz160, zz312, zz320, zzm2, zzm3, zzm4, zzm5, zzm6, zzm7, zzm8, zzm9, zzm10]; done) | (simp (disch := omega) only [Int32.lt_iff_toInt_lt, Int32.le_iff_toInt_le, ← Int32.toInt_inj, on_toInt, on_clamp, ti64, z0, z1, z2, zm1, i0, i1, im1, zz3, zz4, zz5, zz6, zz7, zz8, zz9, zz10, zz11, zz12, zz13, zz14, zz15, zz16, zz17, zz18, zz19, zz20, zz21, zz22, zz23, zz24, zz25, zz26, zz27, zz28, zz29, zz30, zz31, zz32, zz33, zz34, zz35, zz36, zz37, zz38, zz39, zz40, zz41, zz48, zz60, zz64, zz160, zz312, zz320, zzm2, zzm3, zzm4, zzm5, zzm6, zzm7, zzm8, zzm9, zzm10]; omega))]
      rw [if_neg (by first | omega | (simp (disch := omega) only [Int32.lt_iff_toInt_lt, Int32.le_iff_toInt_le, ← Int32.toInt_inj, on_toInt, on_clamp, ti64, z0, z1, z2, zm1, i0, i1, im1, zz3, zz4, zz5, zz6, zz7, zz8, zz9, zz10, zz11, zz12, zz13, zz14, zz15, zz16, zz17, zz18, zz19, zz20, zz21, zz22, zz23, zz24, zz25, zz26, zz27, zz28, zz29, zz30, zz31, zz32, zz33, zz34, zz35, zz36, zz37, zz38, zz39, zz40, zz41, zz48, zz60, zz64, zz160, zz312, zz320, zzm2, zzm3, zzm4, zzm5, zzm6, zzm7, zzm8, zzm9, zzm10]; done) | (simp (disch := omega) only [Int32.lt_iff_toInt_lt, Int32.le_iff_toInt_le, ← Int32.toInt_inj, on_toInt, on_clamp, ti64, z0, z1, z2, zm1, i0, i1, im1, zz3, zz4, zz5, zz6, zz7, zz8, zz9, zz10, zz11, zz12, zz13, zz14, zz15, zz16, zz17, zz18, zz19, zz20, zz21, zz22, zz23, zz24, zz25, zz26, zz27, zz28, zz29, zz30, zz31, zz32, zz33, zz34, zz35, zz36, zz37, zz38, zz39, zz40, zz41, zz48, zz60, zz64, zz160, zz312, zz320, zzm2, zzm3, zzm4, zzm5, zzm6, zzm7, zzm8, zzm9, zzm10]; omega))]
      by_cases d2 : (2 ^ h : Nat) ≤ a1.toInt
      · rw [if_pos (by first | omega | (simp (disch := omega) only [Int32.lt_iff_toInt_lt, Int32.le_iff_toInt_le, ← Int32.toInt_inj, on_toInt, on_clamp, ti64, z0, z1, z2, zm1, i0, i1, im1, zz3, zz4, zz5, zz6, zz7, zz8, zz9, zz10, zz11, zz12, zz13, zz14, zz15, zz16, zz17, zz18, zz19, zz20, zz21, zz22, zz23, zz24, zz25, zz26, zz27, zz28, zz29, zz30, zz31, zz32, zz33, zz34, zz35, zz36, zz37, zz38, zz39, zz40, zz41, zz48, zz60, zz64, zz160, zz312, zz320, zzm2, zzm3, zzm4, zzm5, zzm6, zzm7, zzm8, zzm9, zzm10]; done) | (simp (disch := omega) only [Int32.lt_iff_toInt_lt, Int32.le_iff_toInt_le, ← Int32.toInt_inj, on_toInt, on_clamp, ti64, z0, z1, z2, zm1, i0, i1, im1, zz3, zz4, zz5, zz6, zz7, zz8, zz9, zz10, zz11, zz12, zz13, zz14, zz15, zz16, zz17, zz18, zz19, zz20, zz21, zz22, zz23, zz24, zz25, zz26, zz27, zz28, zz29, zz30, zz31, zz32, zz33, zz34, zz35, zz36, zz37, zz38, zz39, zz40, zz41, zz48, zz60, zz64, zz160, zz312, zz320, zzm2, zzm3, zzm4, zzm5, zzm6, zzm7, zzm8, zzm9, zzm10]; omega))]
      rw [if_neg (by first | omega | (simp (disch := omega) only [Int32.lt_iff_toInt_lt, Int32.le_iff_toInt_le, ← Int32.toInt_inj, on_toInt, on_clamp, ti64, z0, z1, z2, zm1, i0, i1, im1, zz3, zz4, zz5, zz6, zz7, zz8, zz9, zz10, zz11, zz12, zz13, zz14, zz15, zz16, zz17, zz18, zz19, zz20, zz21, zz22, zz23, zz24, zz25, zz26, zz27, zz28, zz29, zz30, zz31, zz32, zz33, zz34, zz35, zz36, zz37, zz38, zz39, zz40, zz41, zz48, zz60, zz64, zz160, zz312, zz320, zzm2, zzm3, zzm4, zzm5, zzm6, zzm7, zzm8, zzm9, zzm10]; done) | (simp (disch := omega) only [Int32.lt_iff_toInt_lt, Int32.le_iff_toInt_le, ← Int32.toInt_inj, on_toInt, on_clamp, ti64, z0, z1, z2, zm1, i0, i1, im1, zz3, zz4, zz5, zz6, zz7, zz8, zz9, zz10, zz11, zz12, zz13, zz14, zz15, zz16, zz17, zz18, zz19, zz20, zz21, zz22, zz23, zz24, zz25, zz26, zz27, zz28, zz29, zz30, zz31, zz32, zz33, zz34, zz35, zz36, zz37, zz38, zz39, zz40, zz41, zz48, zz60, zz64, zz160, zz312, zz320, zzm2, zzm3, zzm4, zzm5, zzm6, zzm7, zzm8, zzm9, zzm10]; omega))]
      by_cases d3 : a2.toInt < 0
      · rw [if_pos (by first | omega | (simp (disch := omega) only [Int32.lt_iff_toInt_lt, Int32.le_iff_toInt_le, ← Int32.toInt_inj, on_toInt, on_clamp, ti64, z0, z1, z2, zm1, i0, i1, im1, zz3, zz4, zz5, zz6, zz7, zz8, zz9, zz10, zz11, zz12, zz13, zz14, zz15, zz16, zz17, zz18, zz19, zz20, zz21, zz22, zz23, zz24, zz25, zz26, zz27, zz28, zz29, zz30, zz31, zz32, zz33, zz34, zz35, zz36, zz37, zz38, zz39, zz40, zz41, zz48, zz60, zz64, zz160, zz312, zz320, zzm2, zzm3, zzm4, zzm5, zzm6, zzm7, zzm8, zzm9, zzm10]; done) | (simp (disch := omega) only [Int32.lt_iff_toInt_lt, Int32.le_iff_toInt_le, ← Int32.toInt_inj, on_toInt, on_clamp, ti64, z0, z1, z2, zm1, i0, i1, im1, zz3, zz4, zz5, zz6, zz7, zz8, zz9, zz10, zz11, zz12, zz13, zz14, zz15, zz16, zz17, zz18, zz19, zz20, zz21, zz22, zz23, zz24, zz25, zz26, zz27, zz28, zz29, zz30, zz31, zz32, zz33, zz34, zz35, zz36, zz37, zz38, zz39, zz40, zz41, zz48, zz60, zz64, zz160, zz312, zz320, zzm2, zzm3, zzm4, zzm5, zzm6, zzm7, zzm8, zzm9, zzm10]; omega))]
      rw [if_neg (by first | omega | (simp (disch := omega) only [Int32.lt_iff_toInt_lt, Int32.le_iff_toInt_le, ← Int32.toInt_inj, on_toInt, on_clamp, ti64, z0, z1, z2, zm1, i0, i1, im1, zz3, zz4, zz5, zz6, zz7, zz8, zz9, zz10, zz11, zz12, zz13, zz14, zz15, zz16, zz17, zz18, zz19, zz20, zz21, zz22, zz23, zz24, zz25, zz26, zz27, zz28, zz29, zz30, zz31, zz32, zz33, zz34, zz35, zz36, zz37, zz38, zz39, zz40, zz41, zz48, zz60, zz64, zz160, zz312, zz320, zzm2, zzm3, zzm4, zzm5, zzm6, zzm7, zzm8, zzm9, zzm10]; done) | (simp (disch := omega) only [Int32.lt_iff_toInt_lt, Int32.le_iff_toInt_le, ← Int32.toInt_inj, on_toInt, on_clamp, ti64, z0, z1, z2, zm1, i0, i1, im1, zz3, zz4, zz5, zz6, zz7, zz8, zz9, zz10, zz11, zz12, zz13, zz14, zz15, zz16, zz17, zz18, zz19, zz20, zz21, zz22, zz23, zz24, zz25, zz26, zz27, zz28, zz29, zz30, zz31, zz32, zz33, zz34, zz35, zz36, zz37, zz38, zz39, zz40, zz41, zz48, zz60, zz64, zz160, zz312, zz320, zzm2, zzm3, zzm4, zzm5, zzm6, zzm7, zzm8, zzm9, zzm10]; omega)), if_neg (by first | omega | (simp (disch := omega) only [Int32.lt_iff_toInt_lt, Int32.le_iff_toInt_le, ← Int32.toInt_inj, on_toInt, on_clamp, ti64, z0, z1, z2, zm1, i0, i1, im1, zz3, zz4, zz5, zz6, zz7, zz8, zz9, zz10, zz11, zz12, zz13, zz14, zz15, zz16, zz17, zz18, zz19, zz20, zz21, zz22, zz23, zz24, zz25, zz26, zz27, zz28, zz29, zz30, zz31, zz32, zz33, zz34, zz35, zz36, zz37, zz38, zz39, zz40, zz41, zz48, zz60, zz64, zz160, zz312, zz320, zzm2, zzm3, zzm4, zzm5, zzm6, zzm7, zzm8, zzm9, zzm10]; done) | (simp (disch := omega) only [Int32.lt_iff_toInt_lt, Int32.le_iff_toInt_le, ← Int32.toInt_inj, on_toInt, on_clamp, ti64, z0, z1, z2, zm1, i0, i1, im1, zz3, zz4, zz5, zz6, zz7, zz8, zz9, zz10, zz11, zz12, zz13, zz14, zz15, zz16, zz17, zz18, zz19, zz20, zz21, zz22, zz23, zz24, zz25, zz26, zz27, zz28, zz29, zz30, zz31, zz32, zz33, zz34, zz35, zz36, zz37, zz38, zz39, zz40, zz41, zz48, zz60, zz64, zz160, zz312, zz320, zzm2, zzm3, zzm4, zzm5, zzm6, zzm7, zzm8, zzm9, zzm10]; omega))]
    have e2 : F_X9_turn I L a1 a2 = (-1, L) := by
      unfold F_X9_turn F_X9_turn_36
      rw [c3, c4, every_p h (by omega), every_p w (by omega), in_eq, in_eq, ti64, ti64, on_toInt (by omega), on_toInt (by omega), i0]
      by_cases d1 : 0 ≤ a1.toInt ∧ a1.toInt < (2 ^ h : Nat)
      · rw [if_pos (show 0 ≤ a1.toInt ∧ a1.toInt ≤ ((2 ^ h - 1 : Nat) : Int) by omega), if_neg (show ¬ (1 : Int32) = 0 by decide), if_neg (show ¬ (0 ≤ a2.toInt ∧ a2.toInt ≤ ((2 ^ w - 1 : Nat) : Int)) by omega), if_pos rfl]
      · rw [if_neg (show ¬ (0 ≤ a1.toInt ∧ a1.toInt ≤ ((2 ^ h - 1 : Nat) : Int)) by omega), if_pos rfl]
    rw [e1]
    show _ = p1 (F_X9_turn I L a1 a2) ∧ Inv I (p2 (F_X9_turn I L a1 a2))
    rw [e2]
    exact ⟨rfl, H'⟩
