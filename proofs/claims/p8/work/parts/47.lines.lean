/-! the class's line and lines -/
theorem actsS_ok {B : Nat → Nat} {n : Nat} : ∀ (u : Nat) (l : List Nat) (p : Nat) (r : Nat × List Nat), p ≤ n → l.length ≤ 3 → (∀ j, j < l.length → l.getD j 0 < 60) → actsS B n u l p = .inr r → p < p1 r ∧ p1 r ≤ n ∧ 1 ≤ (p2 r).length ∧ (p2 r).length ≤ 3 ∧ ∀ j, j < (p2 r).length → (p2 r).getD j 0 < 60 := by
  intro u
  induction u with
  | zero => intro l p r _ _ _ h; exact absurd h (by simp [actsS])
  | succ u ih =>
    intro l p r hp h1 h2 h
    have hf := tf_le (B := B) hp
    obtain ⟨e1, e2, e3, e4, -⟩ := te_le (B := B) (f := tf B n p) hf.2
    unfold actsS at h
    by_cases c : 0 < l.length ∧ tk B n (tf B n p) = 3
    · rw [if_pos c] at h
      have hr : r = (te B n (tf B n p), l) := (Sum.inr.inj h).symm
      have := e4 c.2
      rw [hr]
      exact ⟨by show p < te B n (tf B n p); omega, e2, c.1, h1, h2⟩
    rw [if_neg c] at h
    by_cases d : tk B n (tf B n p) = 1 ∧ kdS B (tf B n p) (te B n (tf B n p)) < 3 ∧ l.length < 3
    · rw [if_pos d] at h
      have hlt := e3 d.1
      have hf2 := tf_le (B := B) e2
      obtain ⟨g1, g2, -⟩ := te_le (B := B) (f := tf B n (te B n (tf B n p))) hf2.2
      by_cases o : okNum B n (kdS B (tf B n p) (te B n (tf B n p))) (tf B n (te B n (tf B n p))) = true
      · rw [if_pos o] at h
        unfold okNum at o
        rw [Bool.and_eq_true, decide_eq_true_eq] at o
        have hv : tv B n (tf B n (te B n (tf B n p))) ≤ 14 := by
          have := o.2
          split at this <;> omega
        have hlen : (l ++ [20 * kdS B (tf B n p) (te B n (tf B n p)) + tv B n (tf B n (te B n (tf B n p)))]).length = l.length + 1 := List.length_append
        have := ih (l ++ [20 * kdS B (tf B n p) (te B n (tf B n p)) + tv B n (tf B n (te B n (tf B n p)))]) _ r g2 (by rw [hlen]; omega) (fun j hj => by
          rw [hlen] at hj
          by_cases q : j = l.length
          · rw [q, List.getD_eq_getElem?_getD, List.getElem?_append_right (Nat.le_refl _), Nat.sub_self]
            show 20 * kdS B (tf B n p) (te B n (tf B n p)) + tv B n (tf B n (te B n (tf B n p))) < 60
            omega
          · have := h2 j (by omega)
            rw [List.getD_eq_getElem?_getD] at this
            rw [List.getD_eq_getElem?_getD, List.getElem?_append_left (by omega)]
            exact this) h
        exact ⟨by omega, this.2⟩
      · rw [if_neg o] at h
        exact absurd h (by simp)
    · rw [if_neg d] at h
      exact absurd h (by simp)
theorem takeDay_C {B : Nat → Nat} {n f N : Nat} {I : WI} (T : Tap B n I) (hf : f ≤ n) (e8 : I 11 8 = Int32.ofNat (te B n f)) (e3 : I 11 3 = 0) (e7 : I 11 7 = Int32.ofNat f) (hN : I 14 0 = Int32.ofNat N) (hN' : N ≤ 12) : ∃ v I', F_X6_takeDay I = some (v, I') ∧ (∀ k j, k ≠ 11 → ¬ (k = 14 ∧ j = 0) → ¬ (k = 15 ∧ j = N) → ¬ (k = 16 ∧ 3 * N ≤ j) → I' k j = I k j) ∧ match (if N < 12 then actsS B n 4 [] (te B n f) else .inl f : Nat ⊕ (Nat × List Nat)) with
  | .inl g => v = 0 ∧ Fa g I'
  | .inr r => v = 1 ∧ I' 11 3 = 0 ∧ I' 11 8 = Int32.ofNat (p1 r) ∧ DayC N (p2 r) I' := by
  have hte := te_le (B := B) hf
  unfold F_X6_takeDay
  rw [hN]
  by_cases g : N < 12
  · rw [if_pos (show Int32.ofNat N < 12 from (lt_onn (b := 12) (by omega) (by decide)).mpr g), if_pos g]
    have hb : F_X1_begin I 14 = u2 (u2 I 15 N 0) 14 0 (Int32.ofNat (N + 1)) := by
      unfold F_X1_begin F_X1_begin_39
      rw [hN, if_neg (show ¬ Int32.ofNat N < 0 from fun q => absurd ((lt_onn (b := 0) (by omega) (by decide)).mp q) (by omega)), if_neg (show ¬ (12 : Int32) ≤ Int32.ofNat N from fun q => absurd ((ge_on (a := 12) (by decide) (by omega)).mp q) (by omega)), on_clamp (by omega)]
      show u2 (u2 I 15 N 0) 14 0 (u2 I 15 N 0 14 0 + 1) = _
      rw [u2_nc (by omega), hN, la1]
    rw [hb]
    have hfr : ∀ k j, ¬ (k = 14 ∧ j = 0) → ¬ (k = 15 ∧ j = N) → (u2 (u2 I 15 N 0) 14 0 (Int32.ofNat (N + 1))) k j = I k j := fun k j q1 q2 => by rw [u2_nc q1, u2_nc q2]
    obtain ⟨v, I', r1, r2, r3⟩ := acts_C (B := B) (n := n) g 4 [] (u2 (u2 I 15 N 0) 14 0 (Int32.ofNat (N + 1))) (te B n f) 4294967296 rfl (by decide) (T.ag fun k j q => hfr k j (by omega) (by omega)) hte.2.1 ((hfr 11 8 (by omega) (by omega)).trans e8) ((hfr 11 3 (by omega) (by omega)).trans e3) ⟨u2_at, by rw [u2_nc (by omega), u2_at]; rfl, fun j hj => absurd hj (Nat.not_lt_zero _)⟩ (by decide)
    refine ⟨v, I', ?_, fun k j q1 q2 q3 q4 => (r2 k j q1 q3 q4).trans (hfr k j q2 q3), r3⟩
    unfold F_X6_takeDay_27
    show (lpp (fun x => F_X6_takeDay_27_1 (p2 x) (p1 x)) 4294967296 (Int32.ofNat ([] : List Nat).length, u2 (u2 I 15 N 0) 14 0 (Int32.ofNat (N + 1)))).bind _ = _
    rw [r1]
    rfl
  · rw [if_neg (show ¬ Int32.ofNat N < 12 from fun q => g ((lt_onn (b := 12) (by omega) (by decide)).mp q)), if_neg g]
    obtain ⟨J, j1, j2, j3⟩ := refuse_at (f := f) (c := 5) (.inl ⟨e3, e7⟩) (by decide)
    rw [j1]
    refine ⟨0, J, ?_, fun k j q1 _ _ _ => j2 k j q1, rfl, j3⟩
    show (if bz (0 : Int32) = 0 then some ((0 : Int32), J) else none) = _
    rw [if_pos (by decide)]
theorem ImR.ag {o : Nat} {c : Nat × Nat × Nat × Int64} {I J : WI} {L K : WL} (R : ImR o c I L) (h1 : ∀ j, J o j = I o j) (h2 : K o 3 = L o 3) : ImR o c J K := ⟨(h1 0).trans R.1, (h1 1).trans R.2.1, (h1 2).trans R.2.2.1, h2.trans R.2.2.2⟩
theorem DayR.ag {N : Nat} {l : List Nat} {I J : WI} (R : DayR N l I) (h1 : J 15 N = I 15 N) (h2 : ∀ j, j < l.length → J 16 (3 * N + j) = I 16 (3 * N + j)) : DayR N l J := ⟨h1.trans R.1, fun j hj => (h2 j hj).trans (R.2 j hj)⟩
theorem getD_end {l : List (List Nat)} {x : List Nat} : (l ++ [x]).getD l.length [] = x := by
  rw [List.getD_eq_getElem?_getD, List.getElem?_append_right (Nat.le_refl _), Nat.sub_self]
  rfl
theorem getD_in {l : List (List Nat)} {x : List Nat} {N : Nat} (h : N < l.length) : (l ++ [x]).getD N [] = l.getD N [] := by
  rw [List.getD_eq_getElem?_getD, List.getD_eq_getElem?_getD, List.getElem?_append_left h]
theorem lineS_ok {B : Nat → Nat} {n f : Nat} {c q : Nat × Nat × Nat × Int64} {ds : List (List Nat)} {r : Nat × (Nat × Nat × Nat × Int64) × (Nat × Nat × Nat × Int64) × List (List Nat)} (hf : f ≤ n) (hc : ImOk c) (hq : ImOk q) (hd : DsOk ds) (h : lineS B n c q ds f = .inr r) : f + 2 ≤ p1 r ∧ p1 r ≤ n ∧ ImOk (p1 (p2 r)) ∧ ImOk (p1 (p2 (p2 r))) ∧ DsOk (p2 (p2 (p2 r))) := by
  have hte := te_le (B := B) hf
  unfold lineS at h
  by_cases c0 : tk B n f = 1 ∧ nmb B f (te B n f) 0 = true
  · rw [if_pos c0] at h
    have hlt := hte.2.2.1 c0.1
    cases hr : imgS B n (p1 c) f with
    | inl x => rw [hr] at h; exact absurd h (by simp)
    | inr x =>
      rw [hr] at h
      have e : r = (p1 x, p2 x, q, ds) := (Sum.inr.inj h).symm
      obtain ⟨a1, a2, a3⟩ := imgS_ok hf hr
      rw [e]
      exact ⟨by show f + 2 ≤ p1 x; omega, a2, a3, hq, hd⟩
  rw [if_neg c0] at h
  by_cases c1 : tk B n f = 1 ∧ nmb B f (te B n f) 1 = true
  · rw [if_pos c1] at h
    have hlt := hte.2.2.1 c1.1
    cases hr : imgS B n (p1 q) f with
    | inl x => rw [hr] at h; exact absurd h (by simp)
    | inr x =>
      rw [hr] at h
      have e : r = (p1 x, c, p2 x, ds) := (Sum.inr.inj h).symm
      obtain ⟨a1, a2, a3⟩ := imgS_ok hf hr
      rw [e]
      exact ⟨by show f + 2 ≤ p1 x; omega, a2, hc, a3, hd⟩
  rw [if_neg c1] at h
  by_cases c2 : tk B n f = 1 ∧ nmb B f (te B n f) 2 = true
  · rw [if_pos c2] at h
    have hlt := hte.2.2.1 c2.1
    by_cases g : ds.length < 12
    · rw [if_pos g] at h
      cases hr : actsS B n 4 [] (te B n f) with
      | inl x => rw [hr] at h; exact absurd h (by simp)
      | inr x =>
        rw [hr] at h
        have e : r = (p1 x, c, q, ds ++ [p2 x]) := (Sum.inr.inj h).symm
        obtain ⟨a1, a2, a3, a4, a5⟩ := actsS_ok 4 [] _ x hte.2.1 (by decide) (fun j hj => absurd hj (Nat.not_lt_zero _)) hr
        rw [e]
        have hlen : (ds ++ [p2 x]).length = ds.length + 1 := List.length_append
        refine ⟨by show f + 2 ≤ p1 x; omega, a2, hc, hq, ?_, fun N hN => ?_⟩
        · show (ds ++ [p2 x]).length ≤ 12
          omega
        · have hN' : N < ds.length + 1 := by rw [← hlen]; exact hN
          show 1 ≤ ((ds ++ [p2 x]).getD N []).length ∧ ((ds ++ [p2 x]).getD N []).length ≤ 3 ∧ ∀ j, j < ((ds ++ [p2 x]).getD N []).length → ((ds ++ [p2 x]).getD N []).getD j 0 < 60
          by_cases y : N = ds.length
          · rw [y, getD_end]
            exact ⟨a3, a4, a5⟩
          · rw [getD_in (by omega)]
            exact hd.2 N (by omega)
    · rw [if_neg g] at h
      exact absurd h (by simp)
  · rw [if_neg c2] at h
    exact absurd h (by simp)
/-- the class's line -/
def LineEnd (I : WI) (L : WL) (x : Nat ⊕ (Nat × (Nat × Nat × Nat × Int64) × (Nat × Nat × Nat × Int64) × List (List Nat))) (v : Int32) (I' : WI) (L' : WL) : Prop := Fp I I' ∧ FpL L L' ∧ match x with
  | .inl g => v = 0 ∧ Fa g I'
  | .inr r => v = 1 ∧ I' 11 3 = 0 ∧ I' 11 8 = Int32.ofNat (p1 r) ∧ DraftC (p1 (p2 r)) (p1 (p2 (p2 r))) (p2 (p2 (p2 r))) I' L'
theorem takeLine_C {B : Nat → Nat} {n p : Nat} {I : WI} {L : WL} {c q : Nat × Nat × Nat × Int64} {ds : List (List Nat)} (T : Tap B n I) (hp : p ≤ n) (e8 : I 11 8 = Int32.ofNat p) (e3 : I 11 3 = 0) (hc : ImOk c) (hq : ImOk q) (hd : DsOk ds) (D : DraftC c q ds I L) : ∃ v I' L', F_X6_takeLine I L = some (v, I', L') ∧ if tk B n (tf B n p) = 0 then v = 0 ∧ L' = L ∧ Ft I I' ∧ I' 11 3 = 0 ∧ I' 11 7 = Int32.ofNat n else LineEnd I L (lineS B n c q ds (tf B n p)) v I' L' := by
  obtain ⟨J, j1, S⟩ := step_C T hp e8 e3
  have TJ := S.1.tap T
  have hf := tf_le (B := B) hp
  have hte := te_le (B := B) (f := tf B n p) hf.2
  have hFS := step_FS S
  obtain ⟨D1, D2, D3, D4⟩ := D
  have R1 : ImR 12 c J L := D1.ag (fun j => S.1 12 j (by decide)) rfl
  have R2 : ImR 13 q J L := D2.ag (fun j => S.1 13 j (by decide)) rfl
  have R3 : J 14 0 = Int32.ofNat ds.length := (S.1 14 0 (by decide)).trans D3
  have R4 : ∀ N, N < ds.length → DayR N (ds.getD N []) J := fun N hN => (D4 N hN).ag (S.1 15 N (by decide)) (fun j _ => S.1 16 _ (by decide))
  have hbad : ∃ I', F_X6_takeLine_70 (p2 (F_X6_refuse J 2)) L (p1 (F_X6_refuse J 2)) = some (0, I', L) ∧ Ft J I' ∧ Fa (tf B n p) I' := by
    obtain ⟨I', r1, r2, r3⟩ := refuse_at hFS (by decide : (2 : Int32) ≠ 0)
    refine ⟨I', ?_, r2, r3⟩
    rw [r1]
    show (if bz (0 : Int32) = 0 then some ((0 : Int32), I', L) else none) = _
    rw [if_pos (by decide)]
  unfold F_X6_takeLine
  rw [j1, ob_some]
  by_cases c4 : tk B n (tf B n p) = 4
  · rw [(S.2.2.2 c4).1, if_neg (show ¬ (4 : Int32) = 0 by decide)]
    have hn : ∀ t, F_X6_isNamed J t = some 0 := fun t => by
      unfold F_X6_isNamed
      rw [(S.2.2.2 c4).1, if_neg (show ¬ (4 : Int32) = 1 by decide)]
      rfl
    obtain ⟨I', r1, r2, r3⟩ := hbad
    rw [hn, hn, hn, ob_some, ob_some, ob_some, if_pos rfl, if_pos rfl, if_pos rfl, r1]
    refine ⟨0, I', L, rfl, ?_⟩
    rw [if_neg (by omega)]
    unfold lineS
    rw [if_neg (show ¬ (tk B n (tf B n p) = 1 ∧ _) from fun q => by have := q.1; omega), if_neg (show ¬ (tk B n (tf B n p) = 1 ∧ _) from fun q => by have := q.1; omega), if_neg (show ¬ (tk B n (tf B n p) = 1 ∧ _) from fun q => by have := q.1; omega)]
    exact ⟨(S.1.trans r2).fp, FpL.rfl, rfl, r3⟩
  have hA := step_At hp S c4
  obtain ⟨s1, s2, s3, -⟩ := S.2.2.1 c4
  by_cases c0 : tk B n (tf B n p) = 0
  · rw [s1, c0, if_pos (show Int32.ofNat 0 = 0 from rfl)]
    refine ⟨0, J, L, rfl, ?_⟩
    rw [if_pos rfl]
    refine ⟨rfl, rfl, S.1, s3, ?_⟩
    have : tf B n p = n := by
      refine Nat.le_antisymm hf.2 (Classical.byContradiction fun g => ?_)
      have hb : ¬ n ≤ tf B n p := by omega
      unfold tk at c0
      rw [if_neg hb] at c0
      split at c0
      · omega
      split at c0
      · omega
      split at c0 <;> omega
    rw [S.2.1, this]
  simp only [if_neg c0]
  rw [s1, if_neg (show ¬ Int32.ofNat (tk B n (tf B n p)) = 0 from fun q => c0 (on_inj (b := 0) (by omega) (by decide) q)), named_C TJ hA hte.2.2.2.2.2.1 (by decide : 0 < 6), named_C TJ hA hte.2.2.2.2.2.1 (by decide : 1 < 6), named_C TJ hA hte.2.2.2.2.2.1 (by decide : 2 < 6), ob_some, ob_some, ob_some]
  unfold lineS
  by_cases n0 : tk B n (tf B n p) = 1 ∧ nmb B (tf B n p) (te B n (tf B n p)) 0 = true
  · rw [if_pos n0, if_pos n0, if_neg (show ¬ (1 : Int32) = 0 by decide)]
    obtain ⟨v, I', L', r1, r2, r3, r4⟩ := takeRows_C (o := 12) (.inl rfl) TJ hf.2 s2 s3 S.2.1 hc R1
    rw [r1, ob_some]
    have hfp : Fp I I' := S.1.fp.trans fun k j h => r2 k j (by omega) (by omega)
    have hfl : FpL L L' := r3.fp (.inl rfl)
    cases hx : imgS B n (p1 c) (tf B n p) with
    | inl g =>
      rw [hx] at r4
      refine ⟨0, I', L', ?_, hfp, hfl, rfl, r4.2⟩
      rw [r4.1]
      show (if bz (0 : Int32) = 0 then some ((0 : Int32), I', L') else none) = _
      rw [if_pos (by decide)]
    | inr r =>
      rw [hx] at r4
      obtain ⟨a1, a2, a3, a4⟩ := r4
      refine ⟨1, I', L', ?_, hfp, hfl, rfl, a2, a3, a4, ?_, ?_, fun N hN => ?_⟩
      · rw [a1]
        show (if bz (1 : Int32) = 1 then some ((1 : Int32), I', L') else none) = _
        rw [if_pos (by decide)]
      · exact R2.ag (fun j => r2 13 j (by decide) (by decide)) (r3 13 3 (by decide))
      · exact (r2 14 0 (by decide) (by decide)).trans R3
      · exact (R4 N hN).ag (r2 15 N (by decide) (by decide)) (fun j _ => r2 16 _ (by decide) (by decide))
  rw [if_neg n0, if_neg n0, if_pos rfl]
  by_cases n1 : tk B n (tf B n p) = 1 ∧ nmb B (tf B n p) (te B n (tf B n p)) 1 = true
  · rw [if_pos n1, if_pos n1, if_neg (show ¬ (1 : Int32) = 0 by decide)]
    obtain ⟨v, I', L', r1, r2, r3, r4⟩ := takeRows_C (o := 13) (.inr rfl) TJ hf.2 s2 s3 S.2.1 hq R2
    rw [r1, ob_some]
    have hfp : Fp I I' := S.1.fp.trans fun k j h => r2 k j (by omega) (by omega)
    have hfl : FpL L L' := r3.fp (.inr rfl)
    cases hx : imgS B n (p1 q) (tf B n p) with
    | inl g =>
      rw [hx] at r4
      refine ⟨0, I', L', ?_, hfp, hfl, rfl, r4.2⟩
      rw [r4.1]
      show (if bz (0 : Int32) = 0 then some ((0 : Int32), I', L') else none) = _
      rw [if_pos (by decide)]
    | inr r =>
      rw [hx] at r4
      obtain ⟨a1, a2, a3, a4⟩ := r4
      refine ⟨1, I', L', ?_, hfp, hfl, rfl, a2, a3, ?_, a4, ?_, fun N hN => ?_⟩
      · rw [a1]
        show (if bz (1 : Int32) = 1 then some ((1 : Int32), I', L') else none) = _
        rw [if_pos (by decide)]
      · exact R1.ag (fun j => r2 12 j (by decide) (by decide)) (r3 12 3 (by decide))
      · exact (r2 14 0 (by decide) (by decide)).trans R3
      · exact (R4 N hN).ag (r2 15 N (by decide) (by decide)) (fun j _ => r2 16 _ (by decide) (by decide))
  rw [if_neg n1, if_neg n1, if_pos rfl]
  by_cases n2 : tk B n (tf B n p) = 1 ∧ nmb B (tf B n p) (te B n (tf B n p)) 2 = true
  · rw [if_pos n2, if_pos n2, if_neg (show ¬ (1 : Int32) = 0 by decide)]
    obtain ⟨v, I', r1, r2, r4⟩ := takeDay_C TJ hf.2 s2 s3 S.2.1 R3 hd.1
    rw [r1, ob_some]
    have hfp : Fp I I' := S.1.fp.trans fun k j h => r2 k j (by omega) (by omega) (by omega) (by omega)
    have hev : ∀ v : Int32, bz v = v → F_X6_takeLine_70 I' L v = some (v, I', L) := fun v h => by
      unfold F_X6_takeLine_70
      rw [if_pos h]
    have key : ∀ x : Nat ⊕ (Nat × List Nat), (match x with
      | .inl g => v = 0 ∧ Fa g I'
      | .inr r => v = 1 ∧ I' 11 3 = 0 ∧ I' 11 8 = Int32.ofNat (p1 r) ∧ DayC ds.length (p2 r) I') → ∃ v' I'' L', F_X6_takeLine_70 (p2 (v, I')) L (p1 (v, I')) = some (v', I'', L') ∧ LineEnd I L (Sum.elim .inl (fun r => .inr (p1 r, c, q, ds ++ [p2 r])) x) v' I'' L' := by
      intro x r4
      cases x with
      | inl g => exact ⟨0, I', L, by rw [r4.1]; exact hev 0 (by decide), hfp, FpL.rfl, rfl, r4.2⟩
      | inr r =>
        obtain ⟨a1, a2, a3, a4⟩ := r4
        have hlen : (ds ++ [p2 r]).length = ds.length + 1 := List.length_append
        refine ⟨1, I', L, by rw [a1]; exact hev 1 (by decide), hfp, FpL.rfl, rfl, a2, a3, ?_, ?_, ?_, fun N hN => ?_⟩
        · exact R1.ag (fun j => r2 12 j (by decide) (by omega) (by omega) (by omega)) rfl
        · exact R2.ag (fun j => r2 13 j (by decide) (by omega) (by omega) (by omega)) rfl
        · show I' 14 0 = Int32.ofNat (ds ++ [p2 r]).length
          rw [hlen, a4.1]
        · have hN' : N < ds.length + 1 := by rw [← hlen]; exact hN
          show DayR N ((ds ++ [p2 r]).getD N []) I'
          by_cases y : N = ds.length
          · rw [y, getD_end]
            exact ⟨a4.2.1, a4.2.2⟩
          · rw [getD_in (by omega)]
            have h3 := (hd.2 N (by omega)).2.1
            exact (R4 N (by omega)).ag (r2 15 N (by decide) (by omega) (by omega) (by omega)) (fun j hj => r2 16 _ (by decide) (by omega) (by omega) (by omega))
    have := key _ r4
    by_cases g : ds.length < 12
    · rw [if_pos g] at this ⊢
      exact this
    · rw [if_neg g] at this ⊢
      exact this
  · rw [if_neg n2, if_neg n2, if_pos rfl]
    obtain ⟨I', r1, r2, r3⟩ := hbad
    rw [r1]
    exact ⟨0, I', L, rfl, (S.1.trans r2).fp, FpL.rfl, rfl, r3⟩
