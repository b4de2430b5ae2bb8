/-! both: class and reference -/
/-- the class's inner loop against the reference's -/
theorem pair_both {h w i : Nat} (hC : Cl h w) (hi : i < 64) (gi : i / 8 < h ∧ i % 8 < w) {I J s : WI} {L K : WL} {x : Int64} {a : Int32} {q : Int32 × Int32} {n0 : Nat} (hn : n0 < 10000) (hx : Ins h w x) (i1 : I 1 1 = Int32.ofNat h) (i2 : I 1 2 = Int32.ofNat w) (j1 : J 33 0 = Int32.ofNat h) (j2 : J 33 1 = Int32.ofNat w) (l : (L 33 2) ^^^ (L 33 3) = x) (hK : ∀ j, j < 64 → K 29 j = F_X0_formOf I 1 (lsh 1 (Int32.ofNat j))) (hs : Cnt I n0 s q) : ∃ s', F_X7_pairWith s K 1 (Int32.ofNat i) ((F_X9_formOf x (Int32.ofNat h) (Int32.ofNat w)) ^^^ (K 29 i)) = some s' ∧ Cnt I (n0 + 64) s' (F_X9_both_43_1 J L a (Int32.ofNat i) (p1 q) (p2 q) (Int32.ofNat (i + 1))) := by
  have e9 : F_X9_both_43_1 J L a (Int32.ofNat i) (p1 q) (p2 q) (Int32.ofNat (i + 1)) = it (fun j y => if j < Int32.ofNat (i + 1) then y else F_X9_both_50_2 J L a (Int32.ofNat i) j (p1 y) (p2 y)) 64 q := by
    show p2 (fr0 (fun j y => F_X9_both_50_2 J L a (Int32.ofNat i) j (p1 y) (p2 y)) (Int32.ofNat 64) (fu (Int32.ofNat (i + 1)) (Int32.ofNat 64)) (Int32.ofNat (i + 1)) (p1 q, p2 q)) = _
    rw [fr0_skip (by decide) (by omega)]
    rfl
  rw [e9]
  have hbi : F_X0_formOf I 1 (lsh 1 (Int32.ofNat i)) = F_X9_formOf (lsh 1 (Int32.ofNat i)) (Int32.ofNat h) (Int32.ofNat w) := by
    rw [formOf_cq, i1, i2, form_eq hC (bit_in hi gi)]
  obtain ⟨e, r1, r2⟩ := frp0_nat (g := fun j y => F_X7_pairWith_13_1 y K 1 (Int32.ofNat i) ((F_X9_formOf x (Int32.ofNat h) (Int32.ofNat w)) ^^^ (K 29 i)) j) (b := 64) (by decide) (fun j y => Cnt I (n0 + j) y (it (fun j y => if j < Int32.ofNat (i + 1) then y else F_X9_both_50_2 J L a (Int32.ofNat i) j (p1 y) (p2 y)) j q)) (s := s) (fun j y hj hy => by
    show ∃ s', F_X7_pairWith_13_1 y K 1 (Int32.ofNat i) ((F_X9_formOf x (Int32.ofNat h) (Int32.ofNat w)) ^^^ (K 29 i)) (Int32.ofNat j) = some s' ∧ Cnt I (n0 + (j + 1)) s' (if Int32.ofNat j < Int32.ofNat (i + 1) then (it (fun j y => if j < Int32.ofNat (i + 1) then y else F_X9_both_50_2 J L a (Int32.ofNat i) j (p1 y) (p2 y)) j q) else F_X9_both_50_2 J L a (Int32.ofNat i) (Int32.ofNat j) (p1 (it (fun j y => if j < Int32.ofNat (i + 1) then y else F_X9_both_50_2 J L a (Int32.ofNat i) j (p1 y) (p2 y)) j q)) (p2 (it (fun j y => if j < Int32.ofNat (i + 1) then y else F_X9_both_50_2 J L a (Int32.ofNat i) j (p1 y) (p2 y)) j q)))
    generalize it (fun j y => if j < Int32.ofNat (i + 1) then y else F_X9_both_50_2 J L a (Int32.ofNat i) j (p1 y) (p2 y)) j q = u at hy ⊢
    have hy' := hy
    obtain ⟨n, a1, a2, a3, a4, a5, a6⟩ := hy
    have s1 : y 1 1 = Int32.ofNat h := (a6 1 1 (by omega)).trans i1
    have s2 : y 1 2 = Int32.ofNat w := (a6 1 2 (by omega)).trans i2
    unfold F_X7_pairWith_13_1 F_X7_pairWith_69_1 F_X7_pairWith_82_1
    by_cases c : j ≤ i
    · rw [if_pos (show Int32.ofNat j ≤ Int32.ofNat i from (ge_on (by omega) (by omega)).mpr c), if_pos (show Int32.ofNat j < Int32.ofNat (i + 1) from (lt_onn (by omega) (by omega)).mpr (by omega))]
      exact ⟨y, rfl, hy'.up (by omega)⟩
    · rw [if_neg (show ¬ Int32.ofNat j ≤ Int32.ofNat i from fun z => c ((ge_on (by omega) (by omega)).mp z)), if_neg (show ¬ Int32.ofNat j < Int32.ofNat (i + 1) from fun z => absurd ((lt_onn (by omega) (by omega)).mp z) (by omega)), sq_0 hC hj s1 s2]
      unfold F_X9_both_50_2 F_X9_both_88_2 F_X9_both_89_2 F_X9_both_140_2 F_X9_both_144_2 F_X9_formNow
      rw [sq_9 hC hi j1 j2, sq_9 hC hj j1 j2, if_pos gi, if_neg (show ¬ (1 : Int32) = 0 by decide), j1, j2, l]
      by_cases g : j / 8 < h ∧ j % 8 < w
      · rw [if_pos g, if_neg (show ¬ (1 : Int32) = 0 by decide), if_neg (show ¬ (1 : Int32) = 0 by decide), if_neg (show ¬ (1 : Int32) = 0 by decide), if_neg (nin (k := j) (N := 64) hj (by decide)), on_clamp (by omega), hK j hj, hK i hi, hbi]
        have hbj : F_X0_formOf I 1 (lsh 1 (Int32.ofNat j)) = F_X9_formOf (lsh 1 (Int32.ofNat j)) (Int32.ofNat h) (Int32.ofNat w) := by
          rw [formOf_cq, i1, i2, form_eq hC (bit_in hj g)]
        have hq : lg_cmp (F_X0_formOf I 1 (lsh 1 (Int32.ofNat j))) ((F_X9_formOf x (Int32.ofNat h) (Int32.ofNat w)) ^^^ (F_X9_formOf (lsh 1 (Int32.ofNat i)) (Int32.ofNat h) (Int32.ofNat w))) = 0 ↔ lg_cmp (F_X9_formOf ((x ^^^ lsh 1 (Int32.ofNat i)) ^^^ lsh 1 (Int32.ofNat j)) (Int32.ofNat h) (Int32.ofNat w)) 0 = 0 := by
          rw [cmp_eq, cmp_eq, hbj, form_xor hC, xor_0, form_xor hC]
          exact eq_comm
        by_cases g2 : lg_cmp (F_X9_formOf ((x ^^^ lsh 1 (Int32.ofNat i)) ^^^ lsh 1 (Int32.ofNat j)) (Int32.ofNat h) (Int32.ofNat w)) 0 = 0
        · rw [if_pos g2, if_pos (hq.mpr g2)]
          have := hy'.hit (v := 64 * Int32.ofNat i + Int32.ofNat j) (by omega)
          have e2 : (if p1 u = 0 then (p1 u + 1, 64 * Int32.ofNat i + Int32.ofNat j) else (p1 u + 1, p2 u)) = (p1 u + 1, if p1 u = 0 then 64 * Int32.ofNat i + Int32.ofNat j else p2 u) := by split <;> rfl
          rw [e2]
          by_cases z : y 27 6 = 0
          · rw [if_pos z] at this ⊢
            exact ⟨_, rfl, this⟩
          · rw [if_neg z] at this ⊢
            exact ⟨_, rfl, this⟩
        · rw [if_neg g2, if_neg (fun z => g2 (hq.mp z))]
          exact ⟨y, rfl, hy'.up (by omega)⟩
      · rw [if_neg g, if_pos rfl, if_pos rfl, if_pos rfl]
        exact ⟨y, rfl, hy'.up (by omega)⟩) hs
  refine ⟨p2 e, ?_, r2⟩
  unfold F_X7_pairWith F_X7_pairWith_3 F_X7_pairWith_88
  show (frp0 (fun j y => F_X7_pairWith_13_1 y K 1 (Int32.ofNat i) ((F_X9_formOf x (Int32.ofNat h) (Int32.ofNat w)) ^^^ (K 29 i)) j) (Int32.ofNat 64) (fu 0 (Int32.ofNat 64)) 0 s).bind _ = _
  rw [r1]
  rfl
theorem both_both {h w : Nat} (hC : Cl h w) {I J : WI} {L L' : WL} {x : Int64} {a : Int32} (hx : Ins h w x) (i1 : I 1 1 = Int32.ofNat h) (i2 : I 1 2 = Int32.ofNat w) (j1 : J 33 0 = Int32.ofNat h) (j2 : J 33 1 = Int32.ofNat w) (l : (L' 33 2) ^^^ (L' 33 3) = x) {v : WI × WL} (hv : F_X7_findBothSpoilt I L 1 x = some v) : F_X8_spoiltTold (p1 v) a = F_X9_both_30 J L' a 0 (-4) 0 := by
  have hf0 : ∀ y, F_X0_formOf (u2 (u2 I 27 6 0) 27 7 0) 1 y = F_X0_formOf I 1 y := fun y => by
    rw [formOf_cq, formOf_cq I, u2_nc (by omega), u2_nc (by omega), u2_nc (by omega), u2_nc (by omega)]
  have hfx : F_X0_formOf I 1 x = F_X9_formOf x (Int32.ofNat h) (Int32.ofNat w) := by rw [formOf_cq, i1, i2, form_eq hC hx]
  obtain ⟨e, r1, r2⟩ := frp0_nat (g := fun i y => F_X7_findBothSpoilt_30_1 (u2 (u2 I 27 6 0) 27 7 0) y 1 x (F_X0_formOf I 1 x) i) (b := 64) (by decide) (fun i y => ∀ j, j < i → y 29 j = F_X0_formOf I 1 (lsh 1 (Int32.ofNat j))) (s := L) (fun i y hi hy => by
    refine ⟨u2 y 29 i (F_X0_formOf I 1 (lsh 1 (Int32.ofNat i))), ?_, fun j hj => ?_⟩
    · show F_X7_findBothSpoilt_30_1 (u2 (u2 I 27 6 0) 27 7 0) y 1 x (F_X0_formOf I 1 x) (Int32.ofNat i) = _
      unfold F_X7_findBothSpoilt_30_1
      rw [if_neg (nin (k := i) (N := 64) hi (by decide)), on_clamp (by omega), hf0]
    · by_cases c : j = i
      · rw [c, u2_at]
      · rw [u2_nc (by omega)]
        exact hy j (by omega)) (fun j hj => absurd hj (Nat.not_lt_zero _))
  obtain ⟨f, k1, k2⟩ := frp0_nat (g := fun i y => F_X7_findBothSpoilt_64_2 y (p2 e) 1 x (F_X0_formOf I 1 x) i) (b := 64) (by decide) (fun i y => Cnt I (64 * i) y (it (fun i y => F_X9_both_37_1 J L' a i (p1 y) (p2 y)) i (0, -4))) (s := u2 (u2 I 27 6 0) 27 7 0) (fun i y hi hy => by
    show ∃ s', F_X7_findBothSpoilt_64_2 y (p2 e) 1 x (F_X0_formOf I 1 x) (Int32.ofNat i) = some s' ∧ Cnt I (64 * (i + 1)) s' (F_X9_both_37_1 J L' a (Int32.ofNat i) (p1 (it (fun i y => F_X9_both_37_1 J L' a i (p1 y) (p2 y)) i (0, -4))) (p2 (it (fun i y => F_X9_both_37_1 J L' a i (p1 y) (p2 y)) i (0, -4))))
    generalize it (fun i y => F_X9_both_37_1 J L' a i (p1 y) (p2 y)) i (0, -4) = q at hy ⊢
    have hy' := hy
    obtain ⟨n, a1, a2, a3, a4, a5, a6⟩ := hy
    have s1 : y 1 1 = Int32.ofNat h := (a6 1 1 (by omega)).trans i1
    have s2 : y 1 2 = Int32.ofNat w := (a6 1 2 (by omega)).trans i2
    unfold F_X7_findBothSpoilt_64_2 F_X7_findBothSpoilt_97_2 F_X9_both_37_1
    rw [sq_0 hC hi s1 s2, la1]
    by_cases g : i / 8 < h ∧ i % 8 < w
    · rw [if_pos g, if_neg (show ¬ (1 : Int32) = 0 by decide), if_neg (nin (k := i) (N := 64) hi (by decide)), on_clamp (by omega), hfx]
      obtain ⟨s', t1, t2⟩ := pair_both (a := a) hC hi g (n0 := 64 * i) (by omega) hx i1 i2 j1 j2 l r2 hy'
      rw [t1, ob_some]
      exact ⟨s', rfl, t2.up (by omega)⟩
    · rw [if_neg g, if_pos rfl]
      refine ⟨y, rfl, ?_⟩
      have e9 : F_X9_both_43_1 J L' a (Int32.ofNat i) (p1 q) (p2 q) (Int32.ofNat (i + 1)) = q := by
        show p2 (fr0 (fun j y => F_X9_both_50_2 J L' a (Int32.ofNat i) j (p1 y) (p2 y)) (Int32.ofNat 64) (fu (Int32.ofNat (i + 1)) (Int32.ofNat 64)) (Int32.ofNat (i + 1)) (p1 q, p2 q)) = _
        rw [fr0_skip (by decide) (by omega)]
        refine it_ind (P := fun _ z => z = q) rfl (fun j z hj hz => ?_)
        show (if Int32.ofNat j < Int32.ofNat (i + 1) then z else F_X9_both_50_2 J L' a (Int32.ofNat i) (Int32.ofNat j) (p1 z) (p2 z)) = q
        unfold F_X9_both_50_2 F_X9_both_88_2 F_X9_both_89_2 F_X9_both_144_2
        rw [sq_9 hC hi j1 j2, if_neg g, if_pos (show (0 : Int32) = 0 from rfl), if_pos (show (0 : Int32) = 0 from rfl), hz]
        split <;> rfl
      rw [e9]
      exact hy'.up (by omega)) Cnt.start
  have hv' : v = (p2 f, p2 e) := by
    unfold F_X7_findBothSpoilt F_X7_findBothSpoilt_20 F_X7_findBothSpoilt_51 F_X7_findBothSpoilt_54 F_X7_findBothSpoilt_103 at hv
    have hv2 : (frp0 (fun i y => F_X7_findBothSpoilt_30_1 (u2 (u2 I 27 6 0) 27 7 0) y 1 x (F_X0_formOf I 1 x) i) (Int32.ofNat 64) (fu 0 (Int32.ofNat 64)) 0 L).bind (fun q => (frp0 (fun i y => F_X7_findBothSpoilt_64_2 y (p2 q) 1 x (F_X0_formOf I 1 x) i) (Int32.ofNat 64) (fu 0 (Int32.ofNat 64)) 0 (u2 (u2 I 27 6 0) 27 7 0)).bind (fun z => some (p2 z, p2 q))) = some v := hv
    rw [r1, ob_some, k1, ob_some] at hv2
    exact (Option.some.inj hv2).symm
  rw [hv', show p1 (p2 f, p2 e) = p2 f from rfl, k2.told (by decide)]
  have e : F_X9_both_30 J L' a 0 (-4) 0 = F_X9_both_156 J L' a (p1 (it (fun i y => F_X9_both_37_1 J L' a i (p1 y) (p2 y)) 64 (0, -4))) (p2 (it (fun i y => F_X9_both_37_1 J L' a i (p1 y) (p2 y)) 64 (0, -4))) := by
    unfold F_X9_both_30
    show F_X9_both_156 J L' a (p1 (p2 (fr0 (fun i y => F_X9_both_37_1 J L' a i (p1 y) (p2 y)) (Int32.ofNat 64) (fu 0 (Int32.ofNat 64)) 0 (0, -4)))) (p2 (p2 (fr0 (fun i y => F_X9_both_37_1 J L' a i (p1 y) (p2 y)) (Int32.ofNat 64) (fu 0 (Int32.ofNat 64)) 0 (0, -4)))) = _
    rw [fr0_it (by decide)]
  rw [e]
  unfold F_X9_both_156 F_X9_both_165
  rfl
theorem E_25 {I : WI} {L : WL} {a1 : Int32} (H : Inv I L) : ∃ v, (F_X8_both I L a1) = some v ∧ (p1 v) = (F_X9_both (p1 (p2 v)) (p2 (p2 v)) a1) ∧ Inv (p1 (p2 v)) (p2 (p2 v)) := by
  obtain ⟨v, e, g⟩ := N_25 (a1 := a1) H
  refine ⟨v, e, ?_, g⟩
  have hag : Ag2 I L (p2 v) := by
    obtain ⟨u, u1, u2'⟩ := both8 (I := I) (L := L) ((L 1 3) ^^^ (L 2 3))
    have q : ∃ v', F_X8_both I L a1 = some v' ∧ Ag2 I L (p2 v') := by
      unfold F_X8_both F_X8_both_9
      rw [u1, ob_some]
      repeat' (first | exact ⟨_, rfl, Ag2.rfl⟩ | exact ⟨_, rfl, u2'⟩ | split)
    obtain ⟨v', q1, q2⟩ := q
    rw [e] at q1
    rw [Option.some.inj q1]
    exact q2
  obtain ⟨hI, hL⟩ := hag
  obtain ⟨⟨h, w, ⟨hC, i11, i12, i330, i331, l332, hIns, i10⟩, ⟨h2, w2, hC2, j1, j2, j3⟩, j4, j5⟩, -⟩ := H
  unfold F_X8_both F_X8_both_9 at e
  unfold F_X9_both
  rw [hI 33 4 rfl, j4]
  rcases in0 (a := a1) 1 (by decide) with ⟨q1, q2⟩ | ⟨q1, q2, q3, k, hk, rfl⟩
  · rw [if_pos (show F_X9_in (Int32.toInt64 a1) 0 1 = 0 from q1)]
    by_cases q : a1 < 0
    · rw [if_pos q] at e
      rw [← Option.some.inj e]
      rfl
    · rw [if_neg q, if_neg (show ¬ a1 ≤ 1 from q2.resolve_left q)] at e
      rw [← Option.some.inj e]
      rfl
  · rw [if_neg q2, if_pos (show Int32.ofNat k ≤ 1 from q3)] at e
    rw [if_neg (show ¬ F_X9_in (Int32.toInt64 (Int32.ofNat k)) 0 1 = 0 from fun z => by rw [show F_X9_in (Int32.toInt64 (Int32.ofNat k)) 0 1 = 1 from q1] at z; exact absurd z (by decide))]
    rcases bz01 (I 2 0) with z | z
    · rw [if_pos z] at e ⊢
      rw [← Option.some.inj e]
      rfl
    · have z' : ¬ bz (I 2 0) = 0 := fun q => by rw [z] at q; exact absurd q (by decide)
      obtain ⟨rfl, rfl⟩ := j3 z
      obtain ⟨l333, hI2⟩ := j5 z
      rw [if_neg z'] at e ⊢
      cases hf : F_X7_findBothSpoilt I L 1 ((L 1 3) ^^^ (L 2 3)) with
      | none =>
        rw [hf] at e
        cases e
      | some u =>
        rw [hf, ob_some] at e
        have ev := Option.some.inj e
        rw [← ev]
        have hJ0 : (p1 u) 33 0 = Int32.ofNat h2 := by
          have := hI 33 0 rfl
          rw [← ev] at this
          exact this.trans i330
        have hJ1 : (p1 u) 33 1 = Int32.ofNat w2 := by
          have := hI 33 1 rfl
          rw [← ev] at this
          exact this.trans i331
        have hL2 : (p2 u) 33 2 = L 33 2 := by
          have := hL 33 2 rfl
          rw [← ev] at this
          exact this
        have hL3 : (p2 u) 33 3 = L 33 3 := by
          have := hL 33 3 rfl
          rw [← ev] at this
          exact this
        exact both_both hC (hIns.xor hI2) i11 i12 hJ0 hJ1 (by show (p2 u) 33 2 ^^^ (p2 u) 33 3 = _; rw [hL2, hL3, l332, l333]) hf
