/-! questions leave what is kept -/
theorem Ag.ite {α : Type} {f a b : Nat → Nat → α} {c : Prop} [Decidable c] (h1 : Ag f a) (h2 : Ag f b) : Ag f (if c then a else b) := by
  by_cases q : c
  · rw [if_pos q]
    exact h1
  · rw [if_neg q]
    exact h2
theorem Ag.p1ite {α B : Type} {f : Nat → Nat → α} {a b : (Nat → Nat → α) × B} {c : Prop} [Decidable c] (h1 : Ag f (p1 a)) (h2 : Ag f (p1 b)) : Ag f (p1 (if c then a else b)) := by
  by_cases q : c
  · rw [if_pos q]
    exact h1
  · rw [if_neg q]
    exact h2
theorem Ag.p2ite {α B : Type} {f : Nat → Nat → α} {a b : B × (Nat → Nat → α)} {c : Prop} [Decidable c] (h1 : Ag f (p2 a)) (h2 : Ag f (p2 b)) : Ag f (p2 (if c then a else b)) := by
  by_cases q : c
  · rw [if_pos q]
    exact h1
  · rw [if_neg q]
    exact h2
/-- both worlds -/
def Ag2 (I : WI) (L : WL) (x : WI × WL) : Prop := Ag I (p1 x) ∧ Ag L (p2 x)
theorem Ag2.ite {I : WI} {L : WL} {a b : WI × WL} {c : Prop} [Decidable c] (h1 : Ag2 I L a) (h2 : Ag2 I L b) : Ag2 I L (if c then a else b) := by
  by_cases q : c
  · rw [if_pos q]
    exact h1
  · rw [if_neg q]
    exact h2
theorem Ag2.p2ite {B : Type} {I : WI} {L : WL} {a b : B × WI × WL} {c : Prop} [Decidable c] (h1 : Ag2 I L (p2 a)) (h2 : Ag2 I L (p2 b)) : Ag2 I L (p2 (if c then a else b)) := by
  by_cases q : c
  · rw [if_pos q]
    exact h1
  · rw [if_neg q]
    exact h2
theorem Ag2.rfl {I : WI} {L : WL} : Ag2 I L (I, L) := ⟨Ag.rfl, Ag.rfl⟩
theorem Ag2.trans {I : WI} {L : WL} {x y : WI × WL} (a : Ag2 I L x) (b : Ag2 (p1 x) (p2 x) y) : Ag2 I L y := ⟨a.1.trans b.1, a.2.trans b.2⟩
theorem lpp_ms {R S : Type} {f : S → Option (R ⊕ S)} (P : S → Prop) (Q : R → Prop) (μ : S → Nat) (h : ∀ s, P s → (∃ r, f s = some (.inl r) ∧ Q r) ∨ (∃ s', f s = some (.inr s') ∧ P s' ∧ μ s' < μ s)) : ∀ fuel s, μ s < fuel → P s → ∃ r, lpp f fuel s = some r ∧ Q r := by
  intro fuel
  induction fuel with
  | zero => intro s h1 _; omega
  | succ n ih =>
    intro s h1 hP
    rcases h s hP with ⟨r, e, q⟩ | ⟨s', e, q, m⟩
    · exact ⟨r, lpp_l e, q⟩
    · rw [lpp_r e]
      exact ih s' (by omega) q
theorem it_ag {g : Int32 → WI → WI} {I : WI} {b : Nat} (h : ∀ i x, i < b → Ag I x → Ag I (g (Int32.ofNat i) x)) : Ag I (it g b I) := it_ind (P := fun _ x => Ag I x) Ag.rfl fun i x hi hx => h i x hi hx
theorem ag_take {I : WI} {a b c : Int32} : Ag I (F_X7_take I a b c) := ((Ag.rfl.u rfl).u rfl).u rfl
theorem ag_take' {I J : WI} {a b c : Int32} (h : Ag I J) : Ag I (F_X7_take J a b c) := h.trans ag_take
theorem ag_findPlan {I : WI} {r : Nat} {x : Int64} : Ag I (F_X7_findPlan I r x) := by
  have h88 : ∀ J a, Ag I J → Ag I (F_X7_findPlan_88 J r x a) := fun J a h => h.trans ag_take
  have h16 : ∀ s, Ag I (F_X7_findPlan_16 I r x s) := by
    intro s
    have h0 : ∀ a b c, Ag I (F_X7_take (u2 I 27 0 s) a b c) := fun a b c => (Ag.rfl.u rfl).trans ag_take
    unfold F_X7_findPlan_16
    repeat' (first | refine Ag.ite ?_ ?_ | exact h88 _ _ (h0 _ _ _) | exact h0 _ _ _)
  unfold F_X7_findPlan
  exact Ag.ite (h16 1) (h16 0)
theorem ag_findPlan9 {I : WI} {x : Int64} : Ag I (p2 (F_X9_findPlan I x)) := by
  have h240 : ∀ J s, Ag I J → Ag I (p2 (F_X9_findPlan_240 J x s)) := fun J s h => h.u rfl
  have h224 : ∀ J a b s, Ag I J → Ag I (p2 (F_X9_findPlan_224 J x a b s)) := fun J a b s h => by
    unfold F_X9_findPlan_224
    exact Ag.p2ite (h240 _ _ (h.u rfl)) (h240 _ _ (h.u rfl))
  have h170 : ∀ J a b c s, Ag I J → Ag I (p2 (F_X9_findPlan_170 J x a b c s)) := fun J a b c s h => by
    unfold F_X9_findPlan_170
    exact Ag.p2ite (Ag.p2ite (h224 _ _ _ _ (h.u rfl)) (h224 _ _ _ _ (h.u rfl))) (h.u rfl)
  have h145 : ∀ J a b c d s, Ag I J → Ag I (p2 (F_X9_findPlan_145 J x a b c d s)) := fun J a b c d s h => by
    unfold F_X9_findPlan_145
    exact Ag.p2ite (h170 _ _ _ _ _ (h.u rfl)) (h170 _ _ _ _ _ (h.u rfl))
  have h123 : ∀ a b c s, Ag I (p2 (F_X9_findPlan_123 I x a b c s)) := fun a b c s => by
    unfold F_X9_findPlan_123
    exact Ag.p2ite (h145 _ _ _ _ _ _ Ag.rfl) (h145 _ _ _ _ _ _ Ag.rfl)
  have h88 : ∀ a b, Ag I (p2 (F_X9_findPlan_88 I x a b)) := fun a b => by
    unfold F_X9_findPlan_88
    exact Ag.p2ite (h123 _ _ _ _) (h123 _ _ _ _)
  unfold F_X9_findPlan
  exact Ag.p2ite (h88 _ _) Ag.rfl
theorem N_16 {I : WI} {L : WL} {a1 : Int32} (H : Inv I L) : Inv (p2 (F_X9_plan (p2 (F_X8_plan I L a1)) L a1)) L := by
  have h8 : Ag I (p2 (F_X8_plan I L a1)) := by
    have hq := ag_findPlan (I := I) (r := 1) (x := (L 1 3) ^^^ (L 2 3))
    unfold F_X8_plan F_X8_plan_9
    generalize F_X7_findPlan I 1 ((L 1 3) ^^^ (L 2 3)) = q at hq ⊢
    repeat' (first | refine Ag.p2ite ?_ ?_ | exact Ag.rfl | exact hq)
  have h9 : ∀ J, Ag J (p2 (F_X9_plan J L a1)) := by
    intro J
    have hq := ag_findPlan9 (I := J) (x := (L 33 2) ^^^ (L 33 3))
    unfold F_X9_plan F_X9_plan_50
    generalize F_X9_findPlan J ((L 33 2) ^^^ (L 33 3)) = q at hq ⊢
    repeat' (first | refine Ag.p2ite ?_ ?_ | exact Ag.rfl | exact hq)
  exact H.ag (h8.trans (h9 _)) Ag.rfl
theorem N_24 {I : WI} {L : WL} {a1 : Int32} (H : Inv I L) : Inv (p2 (F_X8_spoilt I L a1)) L := by
  have hs : ∀ x, Ag I (F_X7_findSpoilt I 1 x) := by
    intro x
    show Ag I (p2 (fr0 (fun i y => F_X7_findSpoilt_30_1 y 1 x (F_X0_formOf I 1 x) i) (Int32.ofNat 64) (fu 0 (Int32.ofNat 64)) 0 (u2 (u2 I 27 6 0) 27 7 0)))
    rw [fr0_it (by decide)]
    refine it_ind (P := fun _ y => Ag I y) ((Ag.rfl.u rfl).u rfl) fun i y _ hy => ?_
    show Ag I (F_X7_findSpoilt_30_1 y 1 x _ (Int32.ofNat i))
    unfold F_X7_findSpoilt_30_1 F_X7_findSpoilt_77_1 F_X7_findSpoilt_90_1
    repeat' (first | refine Ag.ite ?_ ?_ | exact hy | exact (hy.u rfl).u rfl)
  refine H.ag ?_ Ag.rfl
  unfold F_X8_spoilt F_X8_spoilt_9
  repeat' (first | refine Ag.p2ite ?_ ?_ | exact Ag.rfl | exact hs _)
theorem N_15 {I : WI} {L : WL} {a1 : Int32} (H : Inv I L) : ∃ w, (F_X9_alike I L a1) = some w ∧ Inv I L := by
  suffices h : ∃ w, F_X9_alike I L a1 = some w by
    obtain ⟨w, e⟩ := h
    exact ⟨w, e, H⟩
  unfold F_X9_alike
  rw [isImage_eq, ob_some]
  by_cases c : 0 ≤ a1.toInt ∧ a1.toInt ≤ 1
  · obtain ⟨k, rfl, hk, -⟩ := nn c.1
    rw [if_pos c, if_neg (show ¬ (1 : Int32) = 0 by decide), kept_val (by omega), ob_some]
    by_cases d : (I 36 k).toInt ≤ 0
    · rw [if_pos d, if_pos rfl]
      exact ⟨_, rfl⟩
    · rw [if_neg d, if_neg (show ¬ (1 : Int32) = 0 by decide), ofSize_val (by omega), ob_some, if_neg (nin (k := k) (N := 2) (by omega) (by decide))]
      repeat' split
      all_goals exact ⟨_, rfl⟩
  · rw [if_neg c, if_pos rfl]
    exact ⟨_, rfl⟩
theorem N_23 {I : WI} {L : WL} {a1 a2 : Int32} (H : Inv I L) : ∃ w, (F_X9_turned (p2 (F_X8_turned I L a1 a2)) L a1 a2) = some w ∧ Inv (p2 w) L := by
  have h8 : Ag I (p2 (F_X8_turned I L a1 a2)) := by
    have hq := ag_findPlan (I := I) (r := 1) (x := (L 1 3) ^^^ (L 3 3))
    have hq' := ag_findPlan (I := I) (r := 1) (x := (L 1 3) ^^^ (L 4 3))
    unfold F_X8_turned F_X8_turned_19 F_X8_turned_39 F_X8_turned_92
    generalize F_X7_findPlan I 1 ((L 1 3) ^^^ (L 3 3)) = q at hq ⊢
    generalize F_X7_findPlan I 1 ((L 1 3) ^^^ (L 4 3)) = q' at hq' ⊢
    repeat' (first | refine Ag.p2ite ?_ ?_ | exact Ag.rfl | exact hq | exact hq')
  generalize p2 (F_X8_turned I L a1 a2) = J at h8
  have HJ := H.ag h8 Ag.rfl
  suffices h : ∃ w, F_X9_turned J L a1 a2 = some w ∧ Ag J (p2 w) by
    obtain ⟨w, e, g⟩ := h
    exact ⟨w, e, HJ.ag g Ag.rfl⟩
  unfold F_X9_turned F_X9_turned_19 F_X9_turned_37 F_X9_turned_68
  rw [isImage_eq, ob_some]
  by_cases c : 0 ≤ a1.toInt ∧ a1.toInt ≤ 1
  · obtain ⟨k, rfl, hk, -⟩ := nn c.1
    rw [if_pos c, if_neg (show ¬ (1 : Int32) = 0 by decide), kept_val (by omega), ob_some, ofSize_val (by omega), ob_some, if_neg (nin (k := k) (N := 2) (by omega) (by decide))]
    have hq := ag_findPlan9 (I := J) (x := (L 33 2) ^^^ (L 35 (Int32.toNatClampNeg (Int32.ofNat k))))
    generalize F_X9_findPlan J ((L 33 2) ^^^ (L 35 (Int32.toNatClampNeg (Int32.ofNat k)))) = q at hq ⊢
    repeat' (first | split | exact ⟨_, rfl, Ag.rfl⟩ | exact ⟨_, rfl, hq⟩)
  · rw [if_neg c, if_pos rfl]
    exact ⟨_, rfl, Ag.rfl⟩
