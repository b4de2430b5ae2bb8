/-! rows of the text, as they are read: the reference -/
/-- a fault at g -/
def Fm (g : Nat) (I : WI) : Prop := 0 < (I 33 26).toInt ∧ I 33 27 = Int32.ofNat g
/-- the reference stands at the token behind p -/
def MAt (B : Nat → Nat) (n p : Nat) (I : WI) : Prop := (tk B n (tf B n p) ≠ 4 → AtM n I (tk B n (tf B n p)) (tf B n p) (te B n (tf B n p)) ∧ I 33 26 = 0 ∧ (tk B n (tf B n p) = 2 → I 33 25 = Int32.ofNat (tv B n (tf B n p)))) ∧ (tk B n (tf B n p) = 4 → Fm (tf B n p) I)
theorem StepM.at {B : Nat → Nat} {n p : Nat} {I J : WI} (hp : p ≤ n) (S : StepM B n p I J) : MAt B n p J := by
  obtain ⟨-, s1, s2⟩ := S
  have hf := tf_le (B := B) hp
  have he := te_le (B := B) (f := tf B n p) hf.2
  refine ⟨fun h => ?_, fun h => ?_⟩
  · obtain ⟨a1, a2, a3, a4, a5⟩ := s1 h
    exact ⟨⟨a2, a1, a3, he.1, he.2.1⟩, a4, a5⟩
  · obtain ⟨b1, b2⟩ := s2 h
    exact ⟨by rw [b1]; decide, b2⟩
theorem Fm.ne {g : Nat} {I : WI} (h : Fm g I) : ¬ I 33 26 = 0 := fun q => by
  have := h.1
  rw [q] at this
  exact absurd this (by decide)
theorem Fm.needs {g : Nat} {I : WI} {a c : Int32} (h : Fm g I) : F_X9_needs I a c = I := needs_f h.ne
theorem Fm.next {g : Nat} {I : WI} (h : Fm g I) : F_X9_next I = some I := next_f h.1
theorem needs_at {g : Nat} {I : WI} {c : Int32} (h : I 33 26 = 0) (h23 : I 33 23 = Int32.ofNat g) (hc : 0 < c.toInt) : Fm g (F_X9_needs I 0 c) ∧ Fn I (F_X9_needs I 0 c) := by
  rw [needs_0 h]
  refine ⟨⟨?_, ?_⟩, (Fn.rfl.u (by decide) (by decide)).u (by decide) (by decide)⟩
  · rw [u2_nc (by omega), u2_at]
    exact hc
  · rw [u2_at, h23]
theorem bad93 {g : Nat} {I : WI} {L : WL} {a s : Int32} (h : Fm g (F_X9_needs I s 3)) : ∃ x, F_X9_readRows_93_1 I L a s = some (.inr (x, F_X9_needs I s 3, L)) := by
  unfold F_X9_readRows_93_1 F_X9_readRows_168_1 F_X9_readRows_185_1
  rw [if_neg h.ne, h.next, ob_some]
  by_cases c : F_X9_needs I s 3 33 24 = 1
  · rw [if_pos c]; exact ⟨1, rfl⟩
  · rw [if_neg c]; exact ⟨0, rfl⟩
theorem bad52 {g : Nat} {I : WI} {L : WL} {s : Int32} (h : Fm g (F_X9_needs I s 5)) : ∃ x, F_X9_readRows_52_1 I L s = some (.inr (x, F_X9_needs I s 5, L)) := by
  unfold F_X9_readRows_52_1 F_X9_readRows_92_1 F_X9_readRows_88_1
  have key : ∀ a t, ∃ x, F_X9_readRows_93_1 (F_X9_needs I s 5) L a t = some (.inr (x, F_X9_needs I s 5, L)) := fun a t => by
    have e : F_X9_needs (F_X9_needs I s 5) t 3 = F_X9_needs I s 5 := h.needs
    obtain ⟨x, hx⟩ := bad93 (I := F_X9_needs I s 5) (L := L) (a := a) (s := t) (g := g) (by rw [e]; exact h)
    rw [e] at hx
    exact ⟨x, hx⟩
  split
  · exact key _ _
  split
  · exact key _ _
  split
  · exact key _ _
  · exact key _ _
/-- what may change while rows are read -/
def Fq (I J : WI) : Prop := ∀ k j, ¬ (k = 33 ∧ 22 ≤ j ∧ j ≤ 29) → J k j = I k j
def FqL (L K : WL) : Prop := ∀ k j, ¬ (k = 33 ∧ j = 30) → K k j = L k j
theorem Fq.rfl {I : WI} : Fq I I := fun _ _ _ => Eq.refl _
theorem FqL.rfl {L : WL} : FqL L L := fun _ _ _ => Eq.refl _
theorem Fq.trans {I J K : WI} (a : Fq I J) (b : Fq J K) : Fq I K := fun k j p => (b k j p).trans (a k j p)
theorem FqL.trans {I J K : WL} (a : FqL I J) (b : FqL J K) : FqL I K := fun k j p => (b k j p).trans (a k j p)
theorem Fn.fq {I J : WI} (h : Fn I J) : Fq I J := fun k j a => h k j (by omega)
theorem Fq.u {I J : WI} {j : Nat} {x : Int32} (a : Fq I J) (h : 22 ≤ j) (h' : j ≤ 29) : Fq I (u2 J 33 j x) := fun k' j' q => (u2_nc (by omega)).trans (a k' j' q)
theorem FqL.u {L K : WL} {x : Int64} (a : FqL L K) : FqL L (u2 K 33 30 x) := fun k j q => (u2_nc q).trans (a k j q)
theorem Fq.tap {I J : WI} {B : Nat → Nat} {n : Nat} (a : Fq I J) (T : TapM B n I) : TapM B n J := T.ag fun k j h => a k j (by omega)
/-- how the reference ends with rows -/
def RowsM (B : Nat → Nat) (n : Nat) (I : WI) (L : WL) (x : Nat ⊕ (Nat × Nat × Nat × Int64)) (I' : WI) (L' : WL) : Prop := Fq I I' ∧ FqL L L' ∧ ((∃ g, x = .inl g ∧ Fm g I') ∨ ∃ p m wd, p ≤ n ∧ MAt B n p I' ∧ tk B n (tf B n p) ≠ 4 ∧ (if tk B n (tf B n p) = 3 then x = .inr (te B n (tf B n p), m, wd, L' 33 30) else x = .inl (tf B n p)) ∧ I' 33 28 = Int32.ofNat m ∧ I' 33 29 = Int32.ofNat wd)
theorem rows_M {B : Nat → Nat} {n : Nat} : ∀ (u m wd : Nat) (a : Int32) (I : WI) (L : WL) (p fuel : Nat), u + m = 9 → u + 1 < fuel → TapM B n I → p ≤ n → MAt B n p I → (tk B n (tf B n p) ≠ 4 → a = if m = 0 ∨ tk B n (tf B n p) = 1 then 1 else 0) → I 33 28 = Int32.ofNat m → I 33 29 = Int32.ofNat wd → wd ≤ 8 → 1 ≤ u → ∃ I' L', lpp (fun x => F_X9_readRows_17_1 (p1 (p2 x)) (p2 (p2 x)) (p1 x)) fuel (a, I, L) = some (I', L') ∧ RowsM B n I L (rowsS B n u m wd (L 33 30) p) I' L' := by
  intro u
  induction u with
  | zero => intro m wd a I L p fuel _ _ _ _ _ _ _ _ _ h; omega
  | succ u ih =>
    intro m wd a I L p fuel hu hf T hp A ha e1 e2 hwd _
    obtain ⟨fuel, rfl⟩ : ∃ g, fuel = g + 1 := ⟨fuel - 1, by omega⟩
    have hn : n ≤ 320 := T.1
    have hfp := tf_le (B := B) hp
    have hte := te_le (B := B) (f := tf B n p) hfp.2
    have hl : ∀ r a I L k, F_X9_readRows_17_1 I L a = some (.inl r) → lpp (fun x : Int32 × WI × WL => F_X9_readRows_17_1 (p1 (p2 x)) (p2 (p2 x)) (p1 x)) (k + 1) (a, I, L) = some r := fun r a I L k h => lpp_l (f := (fun x : Int32 × WI × WL => F_X9_readRows_17_1 (p1 (p2 x)) (p2 (p2 x)) (p1 x))) (s := (a, I, L)) h
    have hr : ∀ s a I L k, F_X9_readRows_17_1 I L a = some (.inr s) → lpp (fun x : Int32 × WI × WL => F_X9_readRows_17_1 (p1 (p2 x)) (p2 (p2 x)) (p1 x)) (k + 1) (a, I, L) = lpp (fun x : Int32 × WI × WL => F_X9_readRows_17_1 (p1 (p2 x)) (p2 (p2 x)) (p1 x)) k s := fun s a I L k h => lpp_r (f := (fun x : Int32 × WI × WL => F_X9_readRows_17_1 (p1 (p2 x)) (p2 (p2 x)) (p1 x))) (s := (a, I, L)) h
    have hfa : ∀ g a J K, Fm g J → F_X9_readRows_17_1 J K a = some (.inl (J, K)) := fun g a J K h => by
      unfold F_X9_readRows_17_1
      rw [if_neg h.ne]
    unfold rowsS
    by_cases c4 : tk B n (tf B n p) = 4
    · have hF := A.2 c4
      rw [hl _ _ _ _ _ (hfa _ a I L hF), if_neg (show ¬ (0 < m ∧ tk B n (tf B n p) = 3) from fun q => by have := q.2; omega), if_neg (show ¬ goodRow B n m wd (tf B n p) = true from fun q => by have := (goodRow_iff.mp q).1; omega)]
      exact ⟨I, L, rfl, Fq.rfl, FqL.rfl, .inl ⟨_, rfl, hF⟩⟩
    obtain ⟨hA, h26, hv⟩ := A.1 c4
    have ha := ha c4
    by_cases c0 : m = 0 ∨ tk B n (tf B n p) = 1
    · rw [if_pos c0] at ha
      -- the row's name is asked for
      have h17 : F_X9_readRows_17_1 I L a = Option.bind (F_X9_isRowName I) (fun v3 => (if 8 ≤ ((F_X9_needs I v3 2) 33 28) then (F_X9_readRows_52_1 (F_X9_needs I v3 2) L 0) else (F_X9_readRows_52_1 (F_X9_needs I v3 2) L 1))) := by
        unfold F_X9_readRows_17_1
        rw [if_pos h26, ha, if_neg (show ¬ (1 : Int32) = 0 by decide)]
      rw [rowName_M T hA hte.2.2.2.2.2.1, ob_some] at h17
      have hbad : ∀ x J, Fm (tf B n p) J → Fn I J → F_X9_readRows_17_1 I L a = some (.inr (x, J, L)) → ¬ goodRow B n m wd (tf B n p) = true → ¬ (0 < m ∧ tk B n (tf B n p) = 3) → ∃ I' L', lpp (fun x => F_X9_readRows_17_1 (p1 (p2 x)) (p2 (p2 x)) (p1 x)) (fuel + 1) (a, I, L) = some (I', L') ∧ RowsM B n I L (if 0 < m ∧ tk B n (tf B n p) = 3 then .inr (te B n (tf B n p), m, wd, L 33 30) else if goodRow B n m wd (tf B n p) = true then rowsS B n u (m + 1) (te B n (tf B n p) - tf B n p) (rs B (tf B n p) m (te B n (tf B n p) - tf B n p) (L 33 30)) (te B n (tf B n p)) else .inl (tf B n p)) I' L' := by
        intro x J hF hN hx hg h3
        obtain ⟨k, rfl⟩ : ∃ g, fuel = g + 1 := ⟨fuel - 1, by omega⟩
        rw [hr _ _ _ _ _ hx, hl _ _ _ _ _ (hfa _ x J L hF), if_neg h3, if_neg hg]
        exact ⟨J, L, rfl, hN.fq, FqL.rfl, .inl ⟨_, rfl, hF⟩⟩
      have h3 : ¬ (0 < m ∧ tk B n (tf B n p) = 3) := fun q => by omega
      obtain ⟨a1, a2, a3, a4, a5⟩ := hA
      by_cases d1 : tk B n (tf B n p) = 1 ∧ rwb B (tf B n p) (te B n (tf B n p)) = true
      · rw [if_pos d1, needs_1, e1] at h17
        by_cases d8 : m < 8
        · rw [if_neg (show ¬ (8 : Int32) ≤ Int32.ofNat m from fun q => absurd ((ge_on (a := 8) (by decide) (by omega)).mp q) (by omega))] at h17
          unfold F_X9_readRows_52_1 F_X9_readRows_92_1 F_X9_readRows_88_1 at h17
          rw [needs_1, a3, a2, on_sub hte.1, e1, e2] at h17
          by_cases dg : goodRow B n m wd (tf B n p) = true
          · -- a row
            obtain ⟨-, -, g8, gw, -⟩ := goodRow_iff.mp dg
            rw [if_neg h3, if_pos dg]
            generalize hln : te B n (tf B n p) - tf B n p = ln at *
            have h93 : F_X9_readRows_17_1 I L a = F_X9_readRows_93_1 I L (Int32.ofNat ln) 1 := by
              rw [h17, if_neg (show ¬ (8 : Int32) < Int32.ofNat ln from fun q => absurd ((lt_onn (a := 8) (by decide) (by omega)).mp q) (by omega))]
              by_cases g0 : m = 0
              · rw [if_pos (show Int32.ofNat m = 0 by rw [g0]; rfl)]
              · rw [if_neg (show ¬ Int32.ofNat m = 0 from fun q => g0 (on_inj (b := 0) (by omega) (by decide) q)), if_pos (show Int32.ofNat ln = Int32.ofNat wd by rw [gw.resolve_left g0])]
            have T2 : TapM B n (u2 I 33 29 (Int32.ofNat ln)) := (Fq.rfl.u (by decide) (by decide)).tap T
            obtain ⟨x, x1, x2⟩ := frp0_nat (g := fun i y => F_X9_readRows_116_2 (u2 I 33 29 (Int32.ofNat ln)) y (Int32.ofNat ln) i) (b := ln) (by omega) (fun i y => y = u2 L 33 30 (rs B (tf B n p) m i (L 33 30))) (s := L) (fun i y hi hy => by
              refine ⟨u2 L 33 30 (rs B (tf B n p) m (i + 1) (L 33 30)), ?_, rfl⟩
              show F_X9_readRows_116_2 (u2 I 33 29 (Int32.ofNat ln)) y (Int32.ofNat ln) (Int32.ofNat i) = _
              have hb := (ub_t (B (tf B n p + i)) (T.2.2.2 (tf B n p + i) (by omega)).1).2.2.2.2.1
              unfold F_X9_readRows_116_2 F_X9_readRows_148_2 F_X9_bitOf
              rw [u2_nc (by omega), a2, oadd, look_in T2 (by omega), ob_some, u2_nc (by omega), e1, lm8, oadd, hy, u2_at]
              show _ = some (u2 L 33 30 (rs B (tf B n p) m i (L 33 30) ||| (if B (tf B n p + i) = 100 then lsh 1 (Int32.ofNat (8 * m + i)) else 0)))
              by_cases q : B (tf B n p + i) = 100
              · rw [if_pos (hb.mpr q), if_pos q, u2_u2]
              · rw [if_neg fun r => q (hb.mp r), if_neg q, u2_u2]) u2_id.symm
            obtain ⟨V, v1, S⟩ := next_M (B := B) (n := n) (p := te B n (tf B n p)) (I := u2 (u2 I 33 29 (Int32.ofNat ln)) 33 28 (Int32.ofNat (m + 1))) ((((Fq.rfl.u (by decide) (by decide)).u (by decide) (by decide)) : Fq I _).tap T) hte.2.1 (by rw [u2_nc (by omega), u2_nc (by omega), a3]) (by rw [u2_nc (by omega), u2_nc (by omega), h26])
            have hV : F_X9_readRows_17_1 I L a = some (.inr (if V 33 24 = 1 then 1 else 0, V, u2 L 33 30 (rs B (tf B n p) m ln (L 33 30)))) := by
              rw [h93]
              unfold F_X9_readRows_93_1 F_X9_readRows_111_1 F_X9_readRows_158_1 F_X9_readRows_168_1 F_X9_readRows_185_1
              rw [needs_1, if_pos h26, x1, ob_some, x2, u2_nc (k := 33) (j := 29) (by omega), e1, la1, v1, ob_some]
              by_cases q : V 33 24 = 1
              · rw [if_pos q, if_pos q]
              · rw [if_neg q, if_neg q]
            rw [hr _ _ _ _ _ hV]
            have hfV : Fq I V := ((Fq.rfl.u (by decide) (by decide)).u (by decide) (by decide)).trans S.1.fq
            have hf2 := tf_le (B := B) hte.2.1
            have hte2 := te_le (B := B) (f := tf B n (te B n (tf B n p))) hf2.2
            obtain ⟨I', L', r1, r2, r3, r4⟩ := ih (m + 1) ln (if V 33 24 = 1 then 1 else 0) V (u2 L 33 30 (rs B (tf B n p) m ln (L 33 30))) (te B n (tf B n p)) fuel (by omega) (by omega) (hfV.tap T) hte.2.1 (S.at hte.2.1) (fun q4 => by
              rw [(S.2.1 q4).2.1]
              by_cases q : tk B n (tf B n (te B n (tf B n p))) = 1
              · rw [if_pos (by rw [q]; rfl), if_pos (.inr q)]
              · rw [if_neg (show ¬ Int32.ofNat (tk B n (tf B n (te B n (tf B n p)))) = 1 from fun r => q (on_inj (b := 1) (by omega) (by decide) r)), if_neg fun r => r.elim (by omega) q]) ((S.1 33 28 (by omega)).trans u2_at) ((S.1 33 29 (by omega)).trans (by rw [u2_nc (by omega), u2_at])) g8 (by omega)
            rw [u2_at] at r4
            exact ⟨I', L', r1, hfV.trans r2, FqL.rfl.u.trans r3, r4⟩
          · -- not as wide, or too wide
            have hx : ∃ x, F_X9_readRows_17_1 I L a = some (.inr (x, F_X9_needs I 0 3, L)) := by
              obtain ⟨x, hx⟩ := bad93 (I := I) (L := L) (a := Int32.ofNat (te B n (tf B n p) - tf B n p)) (s := 0) (needs_at (c := 3) h26 a2 (by decide)).1
              refine ⟨x, ?_⟩
              rw [h17]
              by_cases g8 : te B n (tf B n p) - tf B n p ≤ 8
              · rw [if_neg (show ¬ (8 : Int32) < Int32.ofNat (te B n (tf B n p) - tf B n p) from fun q => absurd ((lt_onn (a := 8) (by decide) (by omega)).mp q) (by omega))]
                have g0 : ¬ m = 0 := fun q => dg (goodRow_iff.mpr ⟨d1.1, d1.2, g8, .inl q, d8⟩)
                have gw : ¬ te B n (tf B n p) - tf B n p = wd := fun q => dg (goodRow_iff.mpr ⟨d1.1, d1.2, g8, .inr q, d8⟩)
                rw [if_neg (show ¬ Int32.ofNat m = 0 from fun q => g0 (on_inj (b := 0) (by omega) (by decide) q)), if_neg (show ¬ Int32.ofNat (te B n (tf B n p) - tf B n p) = Int32.ofNat wd from fun q => gw (on_inj (by omega) (by omega) q))]
                exact hx
              · rw [if_pos (show (8 : Int32) < Int32.ofNat (te B n (tf B n p) - tf B n p) from (lt_onn (a := 8) (by decide) (by omega)).mpr (by omega))]
                exact hx
            obtain ⟨x, hx⟩ := hx
            obtain ⟨hF, hN⟩ := needs_at (c := 3) h26 a2 (by decide)
            exact hbad x _ hF hN hx dg h3
        · rw [if_pos (show (8 : Int32) ≤ Int32.ofNat m from (ge_on (a := 8) (by decide) (by omega)).mpr (by omega))] at h17
          obtain ⟨hF, hN⟩ := needs_at (c := 5) h26 a2 (by decide)
          obtain ⟨x, hx⟩ := bad52 (I := I) (L := L) (s := 0) hF
          exact hbad x _ hF hN (h17.trans hx) (fun q => d8 (goodRow_iff.mp q).2.2.2.2) h3
      · rw [if_neg d1] at h17
        obtain ⟨hF, hN⟩ := needs_at (c := 2) h26 a2 (by decide)
        have hx : ∃ x, F_X9_readRows_17_1 I L a = some (.inr (x, F_X9_needs I 0 2, L)) := by
          have key : ∀ s, ∃ x, F_X9_readRows_52_1 (F_X9_needs I 0 2) L s = some (.inr (x, F_X9_needs I 0 2, L)) := fun s => by
            have e : F_X9_needs (F_X9_needs I 0 2) s 5 = F_X9_needs I 0 2 := hF.needs
            obtain ⟨x, hx⟩ := bad52 (I := F_X9_needs I 0 2) (L := L) (s := s) (g := tf B n p) (by rw [e]; exact hF)
            rw [e] at hx
            exact ⟨x, hx⟩
          rw [h17]
          split
          · exact key _
          · exact key _
        obtain ⟨x, hx⟩ := hx
        exact hbad x _ hF hN hx (fun q => d1 ⟨(goodRow_iff.mp q).1, (goodRow_iff.mp q).2.1⟩) h3
    · rw [if_neg c0] at ha
      have h17 : F_X9_readRows_17_1 I L a = some (.inl (I, L)) := by
        unfold F_X9_readRows_17_1
        rw [if_pos h26, ha, if_pos rfl]
      rw [hl _ _ _ _ _ h17, if_neg (show ¬ goodRow B n m wd (tf B n p) = true from fun q => c0 (.inr (goodRow_iff.mp q).1))]
      refine ⟨I, L, rfl, Fq.rfl, FqL.rfl, .inr ⟨p, m, wd, hp, A, c4, ?_, e1, e2⟩⟩
      by_cases d : tk B n (tf B n p) = 3
      · rw [if_pos d, if_pos ⟨by omega, d⟩]
      · rw [if_neg d, if_neg (show ¬ (0 < m ∧ tk B n (tf B n p) = 3) from fun q => d q.2)]
