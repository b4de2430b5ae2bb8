/-! an act of the text, as it is read: the reference -/
def Fda (N : Nat) (I J : WI) : Prop := ∀ k j, ¬ (k = 33 ∧ 22 ≤ j ∧ j ≤ 27) → ¬ (k = 38 ∧ 4 * N ≤ j) → J k j = I k j
theorem Fda.rfl {N : Nat} {I : WI} : Fda N I I := fun _ _ _ _ => Eq.refl _
theorem Fda.trans {N : Nat} {I J K : WI} (a : Fda N I J) (b : Fda N J K) : Fda N I K := fun k j p q => (b k j p q).trans (a k j p q)
theorem Fn.fda {N : Nat} {I J : WI} (h : Fn I J) : Fda N I J := fun k j a _ => h k j a
theorem Fda.tap {N : Nat} {I J : WI} {B : Nat → Nat} {n : Nat} (a : Fda N I J) (T : TapM B n I) : TapM B n J := T.ag fun k j h => a k j (by omega) (by omega)
theorem rest113 {g : Nat} {J : WI} {a b : Int32} (h : Fm g J) : F_X9_readAct_113 J a b = some J := by
  unfold F_X9_readAct_113 F_X9_readAct_144
  rw [if_neg h.ne, h.next, ob_some]
theorem rest78 {g : Nat} {J : WI} {a b : Int32} (h : Fm g J) : F_X9_readAct_78 J a b = some J := by
  unfold F_X9_readAct_78
  rw [if_neg h.ne, rest113 h]
theorem rest45 {g : Nat} {I : WI} {a b s : Int32} (h : Fm g (F_X9_needs I s 5)) : F_X9_readAct_45 I a b s = some (F_X9_needs I s 5) := by
  unfold F_X9_readAct_45
  rw [h.next, ob_some, if_neg h.ne, rest78 h]
theorem rest30 {g : Nat} {I : WI} {a b s : Int32} (h : Fm g (F_X9_needs I s 2)) : F_X9_readAct_30 I a b s = some (F_X9_needs I s 2) := by
  unfold F_X9_readAct_30
  have key : ∀ t, F_X9_readAct_45 (F_X9_needs I s 2) a b t = some (F_X9_needs I s 2) := fun t => by
    have e : F_X9_needs (F_X9_needs I s 2) t 5 = F_X9_needs I s 2 := h.needs
    have := rest45 (I := F_X9_needs I s 2) (a := a) (b := b) (s := t) (g := g) (by rw [e]; exact h)
    rw [e] at this
    exact this
  split
  · exact key _
  · exact key _
theorem in_t : ∀ v, v < 100 → F_X9_in (Int32.toInt64 (Int32.ofNat v)) 0 14 = (if v ≤ 14 then 1 else 0) ∧ F_X9_in (Int32.toInt64 (Int32.ofNat v)) 0 7 = (if v ≤ 7 then 1 else 0) := by decide +kernel
theorem actNow_k {B : Nat → Nat} {n f e : Nat} {I : WI} (T : TapM B n I) (A : AtM n I 1 f e) : F_X9_actNow I = some (if kdS B f e < 3 then Int32.ofNat (kdS B f e) else -4) := by
  rw [actNow_M T A]
  unfold kdS
  by_cases c3 : nmb B f e 3 = true
  · rw [if_pos c3, if_pos c3]; rfl
  rw [if_neg c3, if_neg c3]
  by_cases c4 : nmb B f e 4 = true
  · rw [if_pos c4, if_pos c4]; rfl
  rw [if_neg c4, if_neg c4]
  by_cases c5 : nmb B f e 5 = true
  · rw [if_pos c5, if_pos c5]; rfl
  · rw [if_neg c5, if_neg c5]; rfl
theorem act_M {B : Nat → Nat} {n p N : Nat} {l : List Nat} {I : WI} (T : TapM B n I) (hp : p ≤ n) (A : MAt B n p I) (c4 : tk B n (tf B n p) ≠ 4) (hN : N < 12) (h18 : I 33 18 = Int32.ofNat N) (hl : l.length ≤ 3) : if tk B n (tf B n p) = 1 ∧ kdS B (tf B n p) (te B n (tf B n p)) < 3 ∧ l.length < 3 then (if okNum B n (kdS B (tf B n p) (te B n (tf B n p))) (tf B n (te B n (tf B n p))) = true then ∃ I', F_X9_readAct I (Int32.ofNat l.length) = some I' ∧ Fda N I I' ∧ MAt B n (te B n (tf B n (te B n (tf B n p)))) I' ∧ I' 38 (4 * N + 1 + l.length) = Int32.ofNat (20 * kdS B (tf B n p) (te B n (tf B n p)) + tv B n (tf B n (te B n (tf B n p)))) ∧ ∀ j, j ≠ 4 * N + 1 + l.length → I' 38 j = I 38 j else ∃ I', F_X9_readAct I (Int32.ofNat l.length) = some I' ∧ Fda N I I' ∧ Fm (tf B n (te B n (tf B n p))) I') else ∃ I', F_X9_readAct I (Int32.ofNat l.length) = some I' ∧ Fda N I I' ∧ Fm (tf B n p) I' := by
  have hn : n ≤ 320 := T.1
  have hfp := tf_le (B := B) hp
  have hte := te_le (B := B) (f := tf B n p) hfp.2
  obtain ⟨hA, h26, -⟩ := A.1 c4
  obtain ⟨a1, a2, a3, a4, a5⟩ := hA
  have hbad : F_X9_readAct I (Int32.ofNat l.length) = F_X9_readAct_17 I (Int32.ofNat l.length) (-4) → ∃ I', F_X9_readAct I (Int32.ofNat l.length) = some I' ∧ Fda N I I' ∧ Fm (tf B n p) I' := fun h => by
    obtain ⟨hF, hNn⟩ := needs_at (c := 2) h26 a2 (by decide)
    refine ⟨_, ?_, hNn.fda, hF⟩
    rw [h]
    unfold F_X9_readAct_17
    rw [if_pos rfl, rest30 hF]
  by_cases c1 : tk B n (tf B n p) = 1
  · have hact := actNow_k T (show AtM n I 1 (tf B n p) (te B n (tf B n p)) from ⟨by rw [a1, c1], a2, a3, a4, a5⟩)
    have h0 : F_X9_readAct I (Int32.ofNat l.length) = F_X9_readAct_17 I (Int32.ofNat l.length) (if kdS B (tf B n p) (te B n (tf B n p)) < 3 then Int32.ofNat (kdS B (tf B n p) (te B n (tf B n p))) else -4) := by
      unfold F_X9_readAct
      rw [if_pos (show I 33 24 = 1 by rw [a1, c1]; rfl), hact, ob_some]
    by_cases ck : kdS B (tf B n p) (te B n (tf B n p)) < 3
    · rw [if_pos ck] at h0
      generalize kdS B (tf B n p) (te B n (tf B n p)) = kd at *
      have hne : ¬ Int32.ofNat kd = -4 := (by decide : ∀ k, k < 3 → ¬ Int32.ofNat k = -4) kd ck
      unfold F_X9_readAct_17 F_X9_readAct_30 at h0
      rw [if_neg hne, needs_1] at h0
      by_cases cl : l.length < 3
      · rw [if_pos (show tk B n (tf B n p) = 1 ∧ kd < 3 ∧ l.length < 3 from ⟨c1, ck, cl⟩)]
        rw [if_neg (show ¬ (3 : Int32) ≤ Int32.ofNat l.length from fun q => absurd ((ge_on (a := 3) (by decide) (by omega)).mp q) (by omega))] at h0
        obtain ⟨V, v1, S⟩ := next_M T hte.2.1 a3 h26
        have hMV := S.at hte.2.1
        have TV := S.1.tap T
        have hf2 := tf_le (B := B) hte.2.1
        have hte2 := te_le (B := B) (f := tf B n (te B n (tf B n p))) hf2.2
        unfold F_X9_readAct_45 at h0
        rw [needs_1, v1, ob_some] at h0
        have hnok : ∀ J, Fm (tf B n (te B n (tf B n p))) J → Fn V J → F_X9_readAct I (Int32.ofNat l.length) = some J → ¬ okNum B n kd (tf B n (te B n (tf B n p))) = true → (if okNum B n kd (tf B n (te B n (tf B n p))) = true then ∃ I', F_X9_readAct I (Int32.ofNat l.length) = some I' ∧ Fda N I I' ∧ MAt B n (te B n (tf B n (te B n (tf B n p)))) I' ∧ I' 38 (4 * N + 1 + l.length) = Int32.ofNat (20 * kd + tv B n (tf B n (te B n (tf B n p)))) ∧ ∀ j, j ≠ 4 * N + 1 + l.length → I' 38 j = I 38 j else ∃ I', F_X9_readAct I (Int32.ofNat l.length) = some I' ∧ Fda N I I' ∧ Fm (tf B n (te B n (tf B n p))) I') := fun J hF hJ h hno => by
          rw [if_neg hno]
          exact ⟨J, h, S.1.fda.trans hJ.fda, hF⟩
        have hok : okNum B n kd (tf B n (te B n (tf B n p))) = true ↔ tk B n (tf B n (te B n (tf B n p))) = 2 ∧ tv B n (tf B n (te B n (tf B n p))) ≤ if kd = 2 then 14 else 7 := by
          unfold okNum
          rw [Bool.and_eq_true, beq_iff_eq, decide_eq_true_eq]
        by_cases d4 : tk B n (tf B n (te B n (tf B n p))) = 4
        · have hF := hMV.2 d4
          rw [if_neg hF.ne, rest78 hF] at h0
          exact hnok V hF Fn.rfl h0 (fun q => by have := (hok.mp q).1; omega)
        obtain ⟨hB, g26, gv⟩ := hMV.1 d4
        obtain ⟨b1, b2, b3, b4, b5⟩ := hB
        rw [if_pos g26, b1] at h0
        by_cases d2 : tk B n (tf B n (te B n (tf B n p))) = 2
        · rw [if_pos (show Int32.ofNat (tk B n (tf B n (te B n (tf B n p)))) = 2 by rw [d2]; rfl)] at h0
          have gv := gv d2
          have hv : tv B n (tf B n (te B n (tf B n p))) ≤ 99 := by
            have hq := hte2.2.2.2.2.2.2 (by omega)
            unfold tk at d2
            rw [if_neg (show ¬ n ≤ tf B n (te B n (tf B n p)) by omega)] at d2
            by_cases e1 : B (tf B n (te B n (tf B n p))) = 59
            · rw [if_pos e1] at d2; omega
            rw [if_neg e1] at d2
            by_cases e2 : isLt (B (tf B n (te B n (tf B n p)))) = true
            · rw [if_pos e2] at d2; omega
            rw [if_neg e2] at d2
            by_cases e3 : isFg (B (tf B n (te B n (tf B n p)))) = true ∧ tfe B n (tf B n (te B n (tf B n p))) - tf B n (te B n (tf B n p)) ≤ 2
            · exact (tv_b hq e3.1 e3.2).2.1
            · rw [if_neg e3] at d2; omega
          obtain ⟨t14, t7⟩ := in_t _ (show tv B n (tf B n (te B n (tf B n p))) < 100 by omega)
          unfold F_X9_readAct_74 F_X9_readAct_78 F_X9_readAct_106 at h0
          rw [needs_1, if_pos g26, gv, t14, t7] at h0
          have h113 : F_X9_readAct I (Int32.ofNat l.length) = F_X9_readAct_113 (F_X9_needs V (if tv B n (tf B n (te B n (tf B n p))) ≤ (if kd = 2 then 14 else 7) then 1 else 0) 3) (Int32.ofNat l.length) (Int32.ofNat kd) := by
            rw [h0]
            by_cases k2 : kd = 2
            · rw [if_pos (show Int32.ofNat kd = 2 by rw [k2]; rfl), if_pos k2]
            · rw [if_neg (show ¬ Int32.ofNat kd = 2 from fun q => k2 (on_inj (b := 2) (by omega) (by decide) q)), if_neg k2]
          by_cases o : tv B n (tf B n (te B n (tf B n p))) ≤ (if kd = 2 then 14 else 7)
          · rw [if_pos (hok.mpr ⟨d2, o⟩)]
            rw [if_pos o, needs_1] at h113
            unfold F_X9_readAct_113 F_X9_readAct_144 at h113
            have h18' : V 33 18 = Int32.ofNat N := (S.1 33 18 (by omega)).trans h18
            have h20 : (20 : Int32) * Int32.ofNat kd + Int32.ofNat (tv B n (tf B n (te B n (tf B n p)))) = Int32.ofNat (20 * kd + tv B n (tf B n (te B n (tf B n p)))) := by rw [← oadd]; exact congrArg (· + Int32.ofNat (tv B n (tf B n (te B n (tf B n p))))) (Int32.ofNat_mul 20 kd).symm
            rw [if_pos g26, h18', lm4, la1, oadd, if_neg (nin (k := 4 * N + 1 + l.length) (N := 48) (by omega) (by decide)), on_clamp (by omega), gv, h20] at h113
            obtain ⟨W, w1, SW⟩ := next_M (B := B) (n := n) (p := te B n (tf B n (te B n (tf B n p)))) (I := u2 V 38 (4 * N + 1 + l.length) (Int32.ofNat (20 * kd + tv B n (tf B n (te B n (tf B n p)))))) (TV.ag fun k j q => u2_nc (by omega)) hte2.2.1 (by rw [u2_nc (by omega), b3]) (by rw [u2_nc (by omega), g26])
            rw [w1, ob_some] at h113
            refine ⟨W, h113, fun k j q1 q2 => ?_, SW.at hte2.2.1, ?_, fun j hj => ?_⟩
            · rw [SW.1 k j q1, u2_nc (by omega), S.1 k j q1]
            · rw [SW.1 38 _ (by omega), u2_at]
            · rw [SW.1 38 _ (by omega), u2_nc (by omega), S.1 38 _ (by omega)]
          · rw [if_neg o] at h113
            obtain ⟨hF, hNn⟩ := needs_at (c := 3) g26 b2 (by decide)
            rw [rest113 hF] at h113
            exact hnok _ hF hNn h113 (fun q => o (hok.mp q).2)
        · rw [if_neg (show ¬ Int32.ofNat (tk B n (tf B n (te B n (tf B n p)))) = 2 from fun q => d2 (on_inj (b := 2) (by omega) (by decide) q))] at h0
          obtain ⟨hF, hNn⟩ := needs_at (c := 2) g26 b2 (by decide)
          unfold F_X9_readAct_74 at h0
          rw [rest78 hF] at h0
          exact hnok _ hF hNn h0 (fun q => d2 (hok.mp q).1)
      · rw [if_neg (show ¬ (tk B n (tf B n p) = 1 ∧ kd < 3 ∧ l.length < 3) from fun q => cl q.2.2)]
        rw [if_pos (show (3 : Int32) ≤ Int32.ofNat l.length from (ge_on (a := 3) (by decide) (by omega)).mpr (by omega))] at h0
        obtain ⟨hF, hNn⟩ := needs_at (c := 5) h26 a2 (by decide)
        rw [rest45 hF] at h0
        exact ⟨_, h0, hNn.fda, hF⟩
    · rw [if_neg ck] at h0
      rw [if_neg (show ¬ (tk B n (tf B n p) = 1 ∧ kdS B (tf B n p) (te B n (tf B n p)) < 3 ∧ l.length < 3) from fun q => ck q.2.1)]
      exact hbad h0
  · rw [if_neg (show ¬ (tk B n (tf B n p) = 1 ∧ kdS B (tf B n p) (te B n (tf B n p)) < 3 ∧ l.length < 3) from fun q => c1 q.1)]
    refine hbad ?_
    unfold F_X9_readAct
    rw [a1, if_neg (show ¬ Int32.ofNat (tk B n (tf B n p)) = 1 from fun q => c1 (on_inj (b := 1) (by omega) (by decide) q))]
