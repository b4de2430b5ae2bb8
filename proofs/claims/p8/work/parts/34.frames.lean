/-! names, nearest, blind, both: what is kept stays -/
theorem ag_become5 {I : WI} {L : WL} {r : Nat} : Ag2 I L (F_X0_become I L 5 r) := ⟨((Ag.rfl.u rfl).u rfl).u rfl, Ag.rfl.u rfl⟩
theorem ag_quarter5 {I : WI} {L : WL} : Ag2 I L (F_X0_quarterRight I L 5) := ⟨(Ag.rfl.u rfl).u rfl, Ag.rfl.u rfl⟩
theorem ag_mirror5 {I : WI} {L : WL} : Ag L (F_X0_mirror I L 5) := Ag.rfl.u rfl
theorem and3 : ∀ t, t < 8 → Int32.ofNat t &&& 3 = Int32.ofNat (t % 4) := by decide
theorem ag_rot5 {I : WI} {L : WL} {t : Nat} (ht : t < 8) : Ag2 I L (F_X0_rotateBy I L 5 (Int32.ofNat t)) := by
  have h9 : ∀ K, Ag L K → Ag2 I L (F_X0_rotateBy_9 I K 5 (Int32.ofNat t)) := by
    intro K hK
    have hl : Ag2 I L (p2 (fr0 (fun i x => F_X0_rotateBy_18_1 (p1 x) (p2 x) 5 (Int32.ofNat t) i) (Int32.ofNat t &&& 3) (fu 0 (Int32.ofNat t &&& 3)) 0 (I, K))) := by
      rw [and3 t ht, fr0_it (by omega)]
      exact it_ind (P := fun _ x => Ag2 I L x) (show Ag2 I L (I, K) from ⟨Ag.rfl, hK⟩) fun i x _ hx => hx.trans ag_quarter5
    exact hl
  unfold F_X0_rotateBy
  exact Ag2.ite (h9 L Ag.rfl) (h9 _ ag_mirror5)
theorem ag_find {I : WI} {L : WL} {o r : Nat} (ho : o = 30 ∨ o = 31) : Ag2 I L (F_X2_find I L o r 5) := by
  have hl : Ag2 I L (p2 (p2 (fr0 (fun i (x : Int32 × WI × WL) => F_X2_find_12_1 (p1 (p2 x)) (p2 (p2 x)) o r 5 i (p1 x)) (Int32.ofNat 8) (fu 0 (Int32.ofNat 8)) 0 (0, I, L)))) := by
    rw [fr0_it (by decide)]
    refine it_ind (P := fun _ x => Ag2 I L (p2 x)) Ag2.rfl fun i x hi hx => hx.trans ?_
    show Ag2 (p1 (p2 x)) (p2 (p2 x)) (p2 (F_X2_find_12_1 (p1 (p2 x)) (p2 (p2 x)) o r 5 (Int32.ofNat i) (p1 x)))
    generalize p1 (p2 x) = J
    generalize p2 (p2 x) = K
    generalize p1 x = a3
    have hR : Ag2 J K (F_X0_rotateBy (p1 (F_X0_become J K 5 r)) (p2 (F_X0_become J K 5 r)) 5 (Int32.ofNat i)) := ag_become5.trans (ag_rot5 hi)
    unfold F_X2_find_12_1
    generalize F_X0_rotateBy (p1 (F_X0_become J K 5 r)) (p2 (F_X0_become J K 5 r)) 5 (Int32.ofNat i) = R at hR ⊢
    have h58 : ∀ a b, Ag2 J K (p2 (F_X2_find_58_1 (p1 R) (p2 R) o r 5 a b)) := by
      intro a b
      rcases ho with rfl | rfl
      · exact ⟨((hR.1.u rfl).u rfl).u rfl, hR.2.u rfl⟩
      · exact ⟨((hR.1.u rfl).u rfl).u rfl, hR.2.u rfl⟩
    repeat' (first | refine Ag2.p2ite ?_ ?_ | exact hR | exact h58 _ _)
  exact hl
theorem ag_findName {I : WI} {L : WL} {x : Int64} {a b : Int32} : Ag2 I L (F_X9_findName I L x a b) := by
  have hl : Ag2 I L (p2 (fr0 (fun i (y : WI × WL) => F_X9_findName_16_1 (p1 y) (p2 y) x a b i) (Int32.ofNat 8) (fu 0 (Int32.ofNat 8)) 0 (u2 I 33 40 (-4), L))) := by
    rw [fr0_it (by decide)]
    refine it_ind (P := fun _ x => Ag2 I L x) ⟨Ag.rfl.u rfl, Ag.rfl⟩ fun i y _ hy => hy.trans ?_
    show Ag2 (p1 y) (p2 y) (F_X9_findName_16_1 (p1 y) (p2 y) x a b (Int32.ofNat i))
    generalize p1 y = J
    generalize p2 y = K
    have h92 : ∀ c d e f, Ag2 J K (F_X9_findName_92_1 J K x a b c d e f) := fun c d e f => ⟨((Ag.rfl.u rfl).u rfl).u rfl, Ag.rfl.u rfl⟩
    have h116 : ∀ c, Ag2 J K (F_X9_findName_116_1 J K x a b c) := fun c => Ag2.rfl
    have h46 : ∀ c d e, Ag2 J K (F_X9_findName_46_1 J K x a b c d e) := by
      intro c d e
      unfold F_X9_findName_46_1
      exact Ag2.ite (h116 _) (Ag2.ite (h92 _ _ _ _) (Ag2.ite (h116 _) (h92 _ _ _ _)))
    have h30 : ∀ c d, Ag2 J K (F_X9_findName_30_1 J K x a b c d) := by
      intro c d
      unfold F_X9_findName_30_1
      exact Ag2.ite (h46 _ _ _) (h46 _ _ _)
    unfold F_X9_findName_16_1
    exact Ag2.ite (h30 _ _) (h30 _ _)
  exact hl
theorem Inv.ag2 {I : WI} {L : WL} {x : WI × WL} (H : Inv I L) (h : Ag2 I L x) : Inv (p1 x) (p2 x) := H.ag h.1 h.2
theorem N_29 {I : WI} {L : WL} {a1 : Int32} (H : Inv I L) : Inv (p1 (p2 (F_X9_name (p1 (p2 (F_X8_name I L a1))) (p2 (p2 (F_X8_name I L a1))) a1))) (p2 (p2 (F_X9_name (p1 (p2 (F_X8_name I L a1))) (p2 (p2 (F_X8_name I L a1))) a1))) := by
  have h8 : Ag2 I L (p2 (F_X8_name I L a1)) := by
    have hq := ag_find (I := I) (L := L) (o := 30) (r := 1) (.inl rfl)
    unfold F_X8_name F_X8_name_9 F_X8_name_50
    generalize F_X2_find I L 30 1 5 = q at hq ⊢
    repeat' (first | refine Ag2.p2ite ?_ ?_ | exact Ag2.rfl | exact hq)
  have h9 : ∀ J K, Ag2 J K (p2 (F_X9_name J K a1)) := by
    intro J K
    have hq := ag_findName (I := J) (L := K) (x := K 33 2) (a := J 33 0) (b := J 33 1)
    unfold F_X9_name F_X9_name_46
    generalize F_X9_findName J K (K 33 2) (J 33 0) (J 33 1) = q at hq ⊢
    repeat' (first | refine Ag2.p2ite ?_ ?_ | exact Ag2.rfl | exact hq)
  exact (H.ag2 h8).ag2 (h9 _ _)
theorem N_30 {I : WI} {L : WL} {a1 : Int32} (H : Inv I L) : ∃ w, (F_X9_cousin (p1 (p2 (F_X8_cousin I L a1))) (p2 (p2 (F_X8_cousin I L a1))) a1) = some w ∧ Inv (p1 (p2 w)) (p2 (p2 w)) := by
  have h8 : Ag2 I L (p2 (F_X8_cousin I L a1)) := by
    have hq := ag_find (I := I) (L := L) (o := 30) (r := 1) (.inl rfl)
    unfold F_X8_cousin F_X8_cousin_68
    generalize F_X2_find I L 30 1 5 = q at hq ⊢
    have hq3 := hq.trans (ag_find (I := p1 q) (L := p2 q) (o := 31) (r := 3) (.inr rfl))
    have hq4 := hq.trans (ag_find (I := p1 q) (L := p2 q) (o := 31) (r := 4) (.inr rfl))
    generalize F_X2_find (p1 q) (p2 q) 31 3 5 = q3 at hq3 ⊢
    generalize F_X2_find (p1 q) (p2 q) 31 4 5 = q4 at hq4 ⊢
    repeat' (first | refine Ag2.p2ite ?_ ?_ | exact Ag2.rfl | exact hq3 | exact hq4)
  generalize p2 (F_X8_cousin I L a1) = Y at h8
  have HJ := H.ag2 h8
  suffices h : ∃ w, F_X9_cousin (p1 Y) (p2 Y) a1 = some w ∧ Ag2 (p1 Y) (p2 Y) (p2 w) by
    obtain ⟨w, e, g⟩ := h
    exact ⟨w, e, HJ.ag2 g⟩
  generalize p1 Y = J
  generalize p2 Y = K
  unfold F_X9_cousin F_X9_cousin_106 F_X9_cousin_107
  rw [isImage_eq, ob_some]
  by_cases c : 0 ≤ a1.toInt ∧ a1.toInt ≤ 1
  · obtain ⟨k, rfl, hk, -⟩ := nn c.1
    rw [if_pos c, if_neg (show ¬ (1 : Int32) = 0 by decide), kept_val (by omega), ob_some, if_neg (nin (k := k) (N := 2) (by omega) (by decide)), if_neg (nin (k := k) (N := 2) (by omega) (by decide)), if_neg (nin (k := k) (N := 2) (by omega) (by decide))]
    have hq := ag_findName (I := J) (L := K) (x := K 35 (Int32.toNatClampNeg (Int32.ofNat k))) (a := J 36 (Int32.toNatClampNeg (Int32.ofNat k))) (b := J 37 (Int32.toNatClampNeg (Int32.ofNat k)))
    generalize F_X9_findName J K (K 35 (Int32.toNatClampNeg (Int32.ofNat k))) (J 36 (Int32.toNatClampNeg (Int32.ofNat k))) (J 37 (Int32.toNatClampNeg (Int32.ofNat k))) = q at hq ⊢
    have hq2 := hq.trans (ag_findName (I := p1 q) (L := p2 q) (x := p2 q 33 2) (a := p1 q 33 0) (b := p1 q 33 1))
    generalize F_X9_findName (p1 q) (p2 q) (p2 q 33 2) (p1 q 33 0) (p1 q 33 1) = q2 at hq2 ⊢
    repeat' (first | split | exact ⟨_, rfl, Ag2.rfl⟩ | exact ⟨_, rfl, hq2⟩)
  · rw [if_neg c, if_pos rfl]
    exact ⟨_, rfl, Ag2.rfl⟩
