/-! name, cousin: class and reference -/
theorem par8 : ∀ i, i < 8 → ((Int32.ofNat i - Int32.ofNat i / 2 * 2) = 1 ↔ ¬ i % 2 = 0) := by decide
/-- where both stand after some turns -/
def Nm (h w o : Nat) (I J : WI) (L K : WL) (i : Nat) (A : Int32 × WI × WL) (B : WI × WL) : Prop := (∀ k j, k ≠ 5 → k ≠ o → p1 (p2 A) k j = I k j) ∧ (∀ k j, k ≠ 5 → k ≠ o → p2 (p2 A) k j = L k j) ∧ (∀ k j, ¬ (k = 33 ∧ 40 ≤ j ∧ j ≤ 42) → p1 B k j = J k j) ∧ (∀ k j, ¬ (k = 33 ∧ j = 39) → p2 B k j = K k j) ∧ ((p1 A = 0 ∧ p1 B 33 40 = -4 ∧ (i = 0 ∨ (i = 1 ∧ w < h))) ∨ (p1 A = 1 ∧ p1 B 33 40 ≠ -4 ∧ p1 (p2 A) o 3 = p1 B 33 40 ∧ p1 (p2 A) o 0 = p1 B 33 41 ∧ p1 (p2 A) o 1 = p1 B 33 42 ∧ p2 (p2 A) o 2 = p2 B 33 39))
theorem find_both {h w o r1 : Nat} (hC : Cl h w) (ho : o = 30 ∨ o = 31) (hr : r1 = 1 ∨ r1 = 3 ∨ r1 = 4) {I J : WI} {L K : WL} {x : Int64} (hx : Ins h w x) (i1 : I r1 1 = Int32.ofNat h) (i2 : I r1 2 = Int32.ofNat w) (lx : L r1 3 = x) : (∀ k j, k ≠ 5 → k ≠ o → p1 (F_X2_find I L o r1 5) k j = I k j) ∧ (∀ k j, k ≠ 5 → k ≠ o → p2 (F_X2_find I L o r1 5) k j = L k j) ∧ (∀ k j, ¬ (k = 33 ∧ 40 ≤ j ∧ j ≤ 42) → p1 (F_X9_findName J K x (Int32.ofNat h) (Int32.ofNat w)) k j = J k j) ∧ (∀ k j, ¬ (k = 33 ∧ j = 39) → p2 (F_X9_findName J K x (Int32.ofNat h) (Int32.ofNat w)) k j = K k j) ∧ p1 (F_X2_find I L o r1 5) o 3 = p1 (F_X9_findName J K x (Int32.ofNat h) (Int32.ofNat w)) 33 40 ∧ p1 (F_X2_find I L o r1 5) o 0 = p1 (F_X9_findName J K x (Int32.ofNat h) (Int32.ofNat w)) 33 41 ∧ p1 (F_X2_find I L o r1 5) o 1 = p1 (F_X9_findName J K x (Int32.ofNat h) (Int32.ofNat w)) 33 42 ∧ p2 (F_X2_find I L o r1 5) o 2 = p2 (F_X9_findName J K x (Int32.ofNat h) (Int32.ofNat w)) 33 39 := by
  have hC8 : (1 ≤ h ∧ h ≤ 8) ∧ 1 ≤ w ∧ w ≤ 8 := hC
  have e0 : F_X2_find I L o r1 5 = (p1 (p2 (it (fun i z => F_X2_find_12_1 (p1 (p2 z)) (p2 (p2 z)) o r1 5 i (p1 z)) 8 (0, I, L))), p2 (p2 (it (fun i z => F_X2_find_12_1 (p1 (p2 z)) (p2 (p2 z)) o r1 5 i (p1 z)) 8 (0, I, L)))) := by
    unfold F_X2_find F_X2_find_5 F_X2_find_94
    show (p1 (p2 (p2 (fr0 (fun i z => F_X2_find_12_1 (p1 (p2 z)) (p2 (p2 z)) o r1 5 i (p1 z)) (Int32.ofNat 8) (fu 0 (Int32.ofNat 8)) 0 (0, I, L)))), p2 (p2 (p2 (fr0 (fun i z => F_X2_find_12_1 (p1 (p2 z)) (p2 (p2 z)) o r1 5 i (p1 z)) (Int32.ofNat 8) (fu 0 (Int32.ofNat 8)) 0 (0, I, L))))) = _
    rw [fr0_it (by decide)]
  have e9 : F_X9_findName J K x (Int32.ofNat h) (Int32.ofNat w) = (p1 (it (fun i z => F_X9_findName_16_1 (p1 z) (p2 z) x (Int32.ofNat h) (Int32.ofNat w) i) 8 (u2 J 33 40 (-4), K)), p2 (it (fun i z => F_X9_findName_16_1 (p1 z) (p2 z) x (Int32.ofNat h) (Int32.ofNat w) i) 8 (u2 J 33 40 (-4), K))) := by
    unfold F_X9_findName F_X9_findName_9 F_X9_findName_122
    show (p1 (p2 (fr0 (fun i z => F_X9_findName_16_1 (p1 z) (p2 z) x (Int32.ofNat h) (Int32.ofNat w) i) (Int32.ofNat 8) (fu 0 (Int32.ofNat 8)) 0 (u2 J 33 40 (-4), K))), p2 (p2 (fr0 (fun i z => F_X9_findName_16_1 (p1 z) (p2 z) x (Int32.ofNat h) (Int32.ofNat w) i) (Int32.ofNat 8) (fu 0 (Int32.ofNat 8)) 0 (u2 J 33 40 (-4), K)))) = _
    rw [fr0_it (by decide)]
  have key : Nm h w o I J L K 8 (it (fun i z => F_X2_find_12_1 (p1 (p2 z)) (p2 (p2 z)) o r1 5 i (p1 z)) 8 (0, I, L)) (it (fun i z => F_X9_findName_16_1 (p1 z) (p2 z) x (Int32.ofNat h) (Int32.ofNat w) i) 8 (u2 J 33 40 (-4), K)) := by
    refine it_ind (P := fun i A => Nm h w o I J L K i A (it (fun i z => F_X9_findName_16_1 (p1 z) (p2 z) x (Int32.ofNat h) (Int32.ofNat w) i) i (u2 J 33 40 (-4), K))) ?_ (fun i A hi hA => ?_)
    · exact ⟨fun _ _ _ _ => rfl, fun _ _ _ _ => rfl, fun k j q => by show (u2 J 33 40 (-4)) k j = J k j; rw [u2_nc (by omega)], fun _ _ _ => rfl, .inl ⟨rfl, (show (u2 J 33 40 (-4)) 33 40 = -4 from u2_at), .inl rfl⟩⟩
    · show Nm h w o I J L K (i + 1) (F_X2_find_12_1 (p1 (p2 A)) (p2 (p2 A)) o r1 5 (Int32.ofNat i) (p1 A)) (F_X9_findName_16_1 (p1 (it (fun i z => F_X9_findName_16_1 (p1 z) (p2 z) x (Int32.ofNat h) (Int32.ofNat w) i) i (u2 J 33 40 (-4), K))) (p2 (it (fun i z => F_X9_findName_16_1 (p1 z) (p2 z) x (Int32.ofNat h) (Int32.ofNat w) i) i (u2 J 33 40 (-4), K))) x (Int32.ofNat h) (Int32.ofNat w) (Int32.ofNat i))
      generalize it (fun i z => F_X9_findName_16_1 (p1 z) (p2 z) x (Int32.ofNat h) (Int32.ofNat w) i) i (u2 J 33 40 (-4), K) = B at hA ⊢
      obtain ⟨a, s, S⟩ := A
      obtain ⟨t, T⟩ := B
      obtain ⟨f1, f2, f3, f4, f5⟩ := hA
      show Nm h w o I J L K (i + 1) (F_X2_find_12_1 s S o r1 5 (Int32.ofNat i) a) (F_X9_findName_16_1 t T x (Int32.ofNat h) (Int32.ofNat w) (Int32.ofNat i))
      have f1 : ∀ k j, k ≠ 5 → k ≠ o → s k j = I k j := f1
      have f2 : ∀ k j, k ≠ 5 → k ≠ o → S k j = L k j := f2
      have f3 : ∀ k j, ¬ (k = 33 ∧ 40 ≤ j ∧ j ≤ 42) → t k j = J k j := f3
      have f4 : ∀ k j, ¬ (k = 33 ∧ j = 39) → T k j = K k j := f4
      have f5 : (a = 0 ∧ t 33 40 = -4 ∧ (i = 0 ∨ (i = 1 ∧ w < h))) ∨ (a = 1 ∧ t 33 40 ≠ -4 ∧ s o 3 = t 33 40 ∧ s o 0 = t 33 41 ∧ s o 1 = t 33 42 ∧ S o 2 = T 33 39) := f5
      have b1 : (p1 (F_X0_become s S 5 r1)) 5 1 = Int32.ofNat h := by
        unfold F_X0_become
        show (u2 (u2 (u2 s 5 0 (bz (s r1 0))) 5 1 ((u2 s 5 0 (bz (s r1 0))) r1 1)) 5 2 ((u2 (u2 s 5 0 (bz (s r1 0))) 5 1 ((u2 s 5 0 (bz (s r1 0))) r1 1)) r1 2)) 5 1 = _
        rw [u2_nc (by omega), u2_at, u2_nc (by omega), f1 r1 1 (by omega) (by omega), i1]
      have b2 : (p1 (F_X0_become s S 5 r1)) 5 2 = Int32.ofNat w := by
        unfold F_X0_become
        show (u2 (u2 (u2 s 5 0 (bz (s r1 0))) 5 1 ((u2 s 5 0 (bz (s r1 0))) r1 1)) 5 2 ((u2 (u2 s 5 0 (bz (s r1 0))) 5 1 ((u2 s 5 0 (bz (s r1 0))) r1 1)) r1 2)) 5 2 = _
        rw [u2_at, u2_nc (by omega), u2_nc (by omega), f1 r1 2 (by omega) (by omega), i2]
      have b3 : (p2 (F_X0_become s S 5 r1)) 5 3 = x := by
        unfold F_X0_become
        show (u2 S 5 3 (S r1 3)) 5 3 = _
        rw [u2_at, f2 r1 3 (by omega) (by omega), lx]
      have b4 : ∀ k j, k ≠ 5 → (p1 (F_X0_become s S 5 r1)) k j = s k j := fun k j q => by
        unfold F_X0_become
        show (u2 (u2 (u2 s 5 0 (bz (s r1 0))) 5 1 ((u2 s 5 0 (bz (s r1 0))) r1 1)) 5 2 ((u2 (u2 s 5 0 (bz (s r1 0))) 5 1 ((u2 s 5 0 (bz (s r1 0))) r1 1)) r1 2)) k j = _
        rw [u2_nc (by omega), u2_nc (by omega), u2_nc (by omega)]
      have b5 : ∀ k j, k ≠ 5 → (p2 (F_X0_become s S 5 r1)) k j = S k j := fun k j q => by
        unfold F_X0_become
        show (u2 S 5 3 (S r1 3)) k j = _
        rw [u2_nc (by omega)]
      obtain ⟨I1, L1, q1, q2, q3, q4, q5, q6⟩ := rotateBy_eq (I := p1 (F_X0_become s S 5 r1)) (L := p2 (F_X0_become s S 5 r1)) (o := 5) (t := i) hC b1 b2 hi
      rw [b3] at q6
      have g1 : ∀ k j, k ≠ 5 → I1 k j = s k j := fun k j q => (q2 k j (by omega)).trans (b4 k j q)
      have g2 : ∀ k j, k ≠ 5 → L1 k j = S k j := fun k j q => (q5 k j (by omega)).trans (b5 k j q)
      have hod := cl_od (n := i) hC
      have hodn : (1 ≤ od i h w ∧ od i h w ≤ 8) ∧ 1 ≤ od i w h ∧ od i w h ≤ 8 := hod
      have hfo : F_X0_formOf I1 5 (L1 5 3) = F_X9_formOf (F_X9_rotated x (Int32.ofNat h) (Int32.ofNat w) (Int32.ofNat i)) (Int32.ofNat (od i h w)) (Int32.ofNat (od i w h)) := by
        rw [formOf_cq, q3, q4, q6, form_eq hod (rotated_ins hC hi hx)]
      have hm : F_X9_findName_16_1 t T x (Int32.ofNat h) (Int32.ofNat w) (Int32.ofNat i) = F_X9_findName_46_1 t T x (Int32.ofNat h) (Int32.ofNat w) (Int32.ofNat i) (Int32.ofNat (od i h w)) (Int32.ofNat (od i w h)) := by
        unfold F_X9_findName_16_1 F_X9_findName_30_1 od
        by_cases c : i % 2 = 0
        · have c' : ¬ (Int32.ofNat i - Int32.ofNat i / 2 * 2) = 1 := fun z => (par8 i hi).mp z c
          rw [if_neg c', if_neg c', if_pos c, if_pos c]
        · have c' : (Int32.ofNat i - Int32.ofNat i / 2 * 2) = 1 := (par8 i hi).mpr c
          rw [if_pos c', if_pos c', if_neg c, if_neg c]
      rw [hm]
      unfold F_X2_find_12_1 F_X2_find_88_1 F_X9_findName_46_1 F_X9_findName_116_1
      rw [q1]
      show Nm h w o I J L K (i + 1) (if I1 5 2 < I1 5 1 then (a, I1, L1) else (if a = 0 then F_X2_find_58_1 I1 L1 o r1 5 (Int32.ofNat i) (F_X0_formOf I1 5 (L1 5 3)) else (if 0 ≤ (lg_cmp (F_X0_formOf I1 5 (L1 5 3)) (L1 o 2)) then (a, I1, L1) else F_X2_find_58_1 I1 L1 o r1 5 (Int32.ofNat i) (F_X0_formOf I1 5 (L1 5 3))))) _
      rw [hfo, q3, q4, g2 o 2 (by omega)]
      generalize F_X9_formOf (F_X9_rotated x (Int32.ofNat h) (Int32.ofNat w) (Int32.ofNat i)) (Int32.ofNat (od i h w)) (Int32.ofNat (od i w h)) = fo
      -- kept as it was
      have hkeep : ¬ (a = 0 ∧ ¬ (od i w h < od i h w)) → Nm h w o I J L K (i + 1) (a, I1, L1) (t, T) := fun hz => by
        refine ⟨fun k j u v => (g1 k j u).trans (f1 k j u v), fun k j u v => (g2 k j u).trans (f2 k j u v), f3, f4, ?_⟩
        rcases f5 with ⟨z1, z2, z3⟩ | ⟨z1, z2, z3, z4, z5, z6⟩
        · refine .inl ⟨z1, z2, ?_⟩
          have hlt : od i w h < od i h w := Classical.byContradiction fun q => hz ⟨z1, q⟩
          unfold od at hlt
          rcases z3 with rfl | ⟨rfl, z3⟩
          · exact .inr ⟨rfl, hlt⟩
          · exact absurd hlt (by simp; omega)
        · refine .inr ⟨z1, z2, ?_, ?_, ?_, ?_⟩
          · exact (g1 o 3 (by omega)).trans z3
          · exact (g1 o 0 (by omega)).trans z4
          · exact (g1 o 1 (by omega)).trans z5
          · exact (g2 o 2 (by omega)).trans z6
      -- a new best
      have hnew : Nm h w o I J L K (i + 1) (F_X2_find_58_1 I1 L1 o r1 5 (Int32.ofNat i) fo) (F_X9_findName_92_1 t T x (Int32.ofNat h) (Int32.ofNat w) (Int32.ofNat i) (Int32.ofNat (od i h w)) (Int32.ofNat (od i w h)) fo) := by
        unfold F_X2_find_58_1 F_X2_find_88_1 F_X9_findName_92_1 F_X9_findName_116_1
        refine ⟨fun k j u v => ?_, fun k j u v => ?_, fun k j u => ?_, fun k j u => ?_, .inr ⟨rfl, ?_, ?_, ?_, ?_, ?_⟩⟩
        · show (u2 (u2 (u2 I1 o 3 (Int32.ofNat i)) o 0 ((u2 I1 o 3 (Int32.ofNat i)) 5 1)) o 1 ((u2 (u2 I1 o 3 (Int32.ofNat i)) o 0 ((u2 I1 o 3 (Int32.ofNat i)) 5 1)) 5 2)) k j = I k j
          rw [u2_nc (by omega), u2_nc (by omega), u2_nc (by omega)]
          exact (g1 k j u).trans (f1 k j u v)
        · show (u2 L1 o 2 fo) k j = L k j
          rw [u2_nc (by omega)]
          exact (g2 k j u).trans (f2 k j u v)
        · show (u2 (u2 (u2 t 33 40 (Int32.ofNat i)) 33 41 (Int32.ofNat (od i h w))) 33 42 (Int32.ofNat (od i w h))) k j = J k j
          rw [u2_nc (by omega), u2_nc (by omega), u2_nc (by omega)]
          exact f3 k j u
        · show (u2 T 33 39 fo) k j = K k j
          rw [u2_nc (by omega)]
          exact f4 k j u
        · show (u2 (u2 (u2 t 33 40 (Int32.ofNat i)) 33 41 (Int32.ofNat (od i h w))) 33 42 (Int32.ofNat (od i w h))) 33 40 ≠ -4
          rw [u2_nc (by omega), u2_nc (by omega), u2_at]
          intro z
          have := congrArg Int32.toInt z
          rw [on_toInt (by omega), show (-4 : Int32).toInt = -4 by decide] at this
          omega
        · show (u2 (u2 (u2 I1 o 3 (Int32.ofNat i)) o 0 ((u2 I1 o 3 (Int32.ofNat i)) 5 1)) o 1 ((u2 (u2 I1 o 3 (Int32.ofNat i)) o 0 ((u2 I1 o 3 (Int32.ofNat i)) 5 1)) 5 2)) o 3 = (u2 (u2 (u2 t 33 40 (Int32.ofNat i)) 33 41 (Int32.ofNat (od i h w))) 33 42 (Int32.ofNat (od i w h))) 33 40
          rw [u2_nc (by omega), u2_nc (by omega), u2_at, u2_nc (by omega), u2_nc (by omega), u2_at]
        · show (u2 (u2 (u2 I1 o 3 (Int32.ofNat i)) o 0 ((u2 I1 o 3 (Int32.ofNat i)) 5 1)) o 1 ((u2 (u2 I1 o 3 (Int32.ofNat i)) o 0 ((u2 I1 o 3 (Int32.ofNat i)) 5 1)) 5 2)) o 0 = (u2 (u2 (u2 t 33 40 (Int32.ofNat i)) 33 41 (Int32.ofNat (od i h w))) 33 42 (Int32.ofNat (od i w h))) 33 41
          rw [u2_nc (by omega), u2_at, u2_nc (by omega), u2_nc (by omega), u2_at, q3]
        · show (u2 (u2 (u2 I1 o 3 (Int32.ofNat i)) o 0 ((u2 I1 o 3 (Int32.ofNat i)) 5 1)) o 1 ((u2 (u2 I1 o 3 (Int32.ofNat i)) o 0 ((u2 I1 o 3 (Int32.ofNat i)) 5 1)) 5 2)) o 1 = (u2 (u2 (u2 t 33 40 (Int32.ofNat i)) 33 41 (Int32.ofNat (od i h w))) 33 42 (Int32.ofNat (od i w h))) 33 42
          rw [u2_at, u2_nc (by omega), u2_nc (by omega), u2_at, q4]
        · show (u2 L1 o 2 fo) o 2 = (u2 T 33 39 fo) 33 39
          rw [u2_at, u2_at]
      by_cases c1 : od i w h < od i h w
      · have c1' : Int32.ofNat (od i w h) < Int32.ofNat (od i h w) := (lt_onn (by omega) (by omega)).mpr c1
        rw [if_pos c1', if_pos c1']
        exact hkeep fun z => z.2 c1
      · have c1' : ¬ Int32.ofNat (od i w h) < Int32.ofNat (od i h w) := fun z => c1 ((lt_onn (by omega) (by omega)).mp z)
        rw [if_neg c1', if_neg c1']
        rcases f5 with ⟨z1, z2, z3⟩ | ⟨z1, z2, z3, z4, z5, z6⟩
        · rw [if_pos z1, if_pos z2]
          exact hnew
        · rw [if_neg (show ¬ a = 0 from fun z => by rw [z1] at z; exact absurd z (by decide)), if_neg z2, z6]
          by_cases c2 : 0 ≤ lg_cmp fo (T 33 39)
          · rw [if_pos c2, if_pos c2]
            exact hkeep fun z => by rw [z1] at z; exact absurd z.1 (by decide)
          · rw [if_neg c2, if_neg c2]
            exact hnew
  obtain ⟨k1, k2, k3, k4, k5⟩ := key
  rw [e0, e9]
  rcases k5 with ⟨-, -, z3⟩ | ⟨-, -, z3, z4, z5, z6⟩
  · exact absurd z3 (by omega)
  · exact ⟨k1, k2, k3, k4, z3, z4, z5, z6⟩
theorem E_29 {I : WI} {L : WL} {a1 : Int32} (H : Inv I L) : (p1 (F_X8_name I L a1)) = (p1 (F_X9_name (p1 (p2 (F_X8_name I L a1))) (p2 (p2 (F_X8_name I L a1))) a1)) ∧ Inv (p1 (p2 (F_X9_name (p1 (p2 (F_X8_name I L a1))) (p2 (p2 (F_X8_name I L a1))) a1))) (p2 (p2 (F_X9_name (p1 (p2 (F_X8_name I L a1))) (p2 (p2 (F_X8_name I L a1))) a1))) := by
  refine ⟨?_, N_29 H⟩
  obtain ⟨⟨h, w, ⟨hC, i11, i12, i330, i331, l332, hIns, i10⟩, -⟩, -⟩ := H
  unfold F_X8_name F_X8_name_9 F_X8_name_50
  rcases in0 (a := a1) 1 (by decide) with ⟨q1, q2⟩ | ⟨q1, q2, q3, k, hk, rfl⟩
  · have e : (if a1 < 0 then ((-1 : Int64), I, L) else if a1 ≤ 1 then (if a1 = 0 then ((p2 (F_X2_find I L 30 1 5)) 30 2, p1 (F_X2_find I L 30 1 5), p2 (F_X2_find I L 30 1 5)) else (Int32.toInt64 ((p1 (F_X2_find I L 30 1 5)) 30 3), p1 (F_X2_find I L 30 1 5), p2 (F_X2_find I L 30 1 5))) else ((-1 : Int64), I, L)) = (-1, I, L) := by
      by_cases q : a1 < 0
      · rw [if_pos q]
      · rw [if_neg q, if_neg (show ¬ a1 ≤ 1 from q2.resolve_left q)]
    rw [e]
    unfold F_X9_name
    rw [if_pos (show F_X9_in (Int32.toInt64 a1) 0 1 = 0 from q1)]
    rfl
  · rw [if_neg q2, if_pos (show Int32.ofNat k ≤ 1 from q3)]
    generalize hA : F_X2_find I L 30 1 5 = A
    have hin : ¬ F_X9_in (Int32.toInt64 (Int32.ofNat k)) 0 1 = 0 := fun z => by rw [show F_X9_in (Int32.toInt64 (Int32.ofNat k)) 0 1 = 1 from q1] at z; exact absurd z (by decide)
    obtain ⟨a1', a2', -, -, a3', -, -, a6'⟩ := find_both (J := p1 A) (K := p2 A) hC (.inl rfl) (.inl rfl) hIns i11 i12 rfl
    rw [hA] at a1' a2' a3' a6'
    have k0 : (p1 A) 33 0 = Int32.ofNat h := (a1' 33 0 (by decide) (by decide)).trans i330
    have k1 : (p1 A) 33 1 = Int32.ofNat w := (a1' 33 1 (by decide) (by decide)).trans i331
    have k2 : (p2 A) 33 2 = L 1 3 := (a2' 33 2 (by decide) (by decide)).trans l332
    unfold F_X9_name F_X9_name_46
    rw [if_neg hin]
    rcases (show k = 0 ∨ k = 1 by omega) with rfl | rfl
    · rw [if_pos (show Int32.ofNat 0 = 0 from rfl), if_pos (show Int32.ofNat 0 = 0 from rfl)]
      show (p2 A) 30 2 = (p2 (F_X9_findName (p1 A) (p2 A) ((p2 A) 33 2) ((p1 A) 33 0) ((p1 A) 33 1))) 33 39
      rw [k0, k1, k2]
      exact a6'
    · rw [if_neg (show ¬ Int32.ofNat 1 = 0 by decide), if_neg (show ¬ Int32.ofNat 1 = 0 by decide)]
      show Int32.toInt64 ((p1 A) 30 3) = Int32.toInt64 ((p1 (F_X9_findName (p1 A) (p2 A) ((p2 A) 33 2) ((p1 A) 33 0) ((p1 A) 33 1))) 33 40)
      rw [k0, k1, k2, a3']
theorem cousin_k {I : WI} {L : WL} {k : Nat} (hk : k < 2) : F_X8_cousin I L (Int32.ofNat k) = if bz (I (3 + k) 0) = 0 then (-2, I, L) else (if F_X2_sameAs (p1 (F_X2_find (p1 (F_X2_find I L 30 1 5)) (p2 (F_X2_find I L 30 1 5)) 31 (3 + k) 5)) (p2 (F_X2_find (p1 (F_X2_find I L 30 1 5)) (p2 (F_X2_find I L 30 1 5)) 31 (3 + k) 5)) 30 31 = 0 then 0 else 1, p1 (F_X2_find (p1 (F_X2_find I L 30 1 5)) (p2 (F_X2_find I L 30 1 5)) 31 (3 + k) 5), p2 (F_X2_find (p1 (F_X2_find I L 30 1 5)) (p2 (F_X2_find I L 30 1 5)) 31 (3 + k) 5)) := by
  rcases (show k = 0 ∨ k = 1 by omega) with rfl | rfl
  · unfold F_X8_cousin F_X8_cousin_68
    rw [if_pos (show Int32.ofNat 0 = 0 from rfl)]
    show (if bz (I 3 0) = 0 then _ else _) = (if bz (I 3 0) = 0 then _ else _)
    split
    · rfl
    · split <;> rfl
  · unfold F_X8_cousin F_X8_cousin_68
    rw [if_neg (show ¬ Int32.ofNat 1 = 0 by decide), if_pos (show Int32.ofNat 1 = 1 from rfl)]
    show (if bz (I 4 0) = 0 then _ else _) = (if bz (I 4 0) = 0 then _ else _)
    split
    · rfl
    · split <;> rfl
theorem cousin9 {J : WI} {K : WL} {k : Nat} (hk : k < 2) (hp : ¬ (J 36 k).toInt ≤ 0) : ∀ P Q, F_X9_findName J K (K 35 k) (J 36 k) (J 37 k) = P → F_X9_findName (p1 P) (p2 P) ((p2 P) 33 2) ((p1 P) 33 0) ((p1 P) 33 1) = Q → F_X9_cousin J K (Int32.ofNat k) = some (if lg_cmp ((p2 P) 33 39) ((p2 Q) 33 39) = 0 ∧ (p1 P) 33 41 = (p1 Q) 33 41 ∧ (p1 P) 33 42 = (p1 Q) 33 42 then 1 else 0, p1 Q, p2 Q) := by
  intro P Q hP hQ
  have hn : ¬ (Int32.ofNat k < 0 ∨ 2 ≤ Int32.toNatClampNeg (Int32.ofNat k)) := nin (k := k) (N := 2) hk (by decide)
  have hc : 0 ≤ (Int32.ofNat k).toInt ∧ (Int32.ofNat k).toInt ≤ 1 := by
    rw [on_toInt (by omega)]
    omega
  unfold F_X9_cousin F_X9_cousin_106 F_X9_cousin_107
  rw [isImage_eq, ob_some, if_pos hc, if_neg (show ¬ (1 : Int32) = 0 by decide), kept_val hk, ob_some, if_neg hp, if_neg (show ¬ (1 : Int32) = 0 by decide), if_neg hn, if_neg hn, if_neg hn, on_clamp (by omega), hP, hQ]
  by_cases c1 : lg_cmp ((p2 P) 33 39) ((p2 Q) 33 39) = 0
  · by_cases c2 : (p1 P) 33 41 = (p1 Q) 33 41
    · by_cases c3 : (p1 P) 33 42 = (p1 Q) 33 42
      · rw [if_pos c1, if_pos c2, if_pos c3, if_pos ⟨c1, c2, c3⟩, flag_t.2]
      · rw [if_pos c1, if_pos c2, if_neg c3, if_neg (fun z => c3 z.2.2), flag_t.1]
    · rw [if_pos c1, if_neg c2, if_neg (fun z => c2 z.2.1), flag_t.1]
  · rw [if_neg c1, if_neg (fun z => c1 z.1), flag_t.1]
theorem E_30 {I : WI} {L : WL} {a1 : Int32} (H : Inv I L) : ∃ w, (F_X9_cousin (p1 (p2 (F_X8_cousin I L a1))) (p2 (p2 (F_X8_cousin I L a1))) a1) = some w ∧ (p1 (F_X8_cousin I L a1)) = (p1 w) ∧ Inv (p1 (p2 w)) (p2 (p2 w)) := by
  obtain ⟨v, e, g⟩ := N_30 (a1 := a1) H
  refine ⟨v, e, ?_, g⟩
  obtain ⟨⟨h, w, ⟨hC, i11, i12, i330, i331, l332, hIns, i10⟩, -⟩, k0, k1, -⟩ := H
  by_cases c : 0 ≤ a1.toInt ∧ a1.toInt ≤ 1
  · obtain ⟨k, rfl, hk, -⟩ := nn c.1
    have hk2 : k < 2 := by omega
    have iK : InvK I L k := by
      rcases (show k = 0 ∨ k = 1 by omega) with rfl | rfl
      · exact k0
      · exact k1
    rw [cousin_k hk2] at e ⊢
    rcases bz01 (I (3 + k) 0) with z | z
    · rw [if_pos z] at e ⊢
      have e2 : F_X9_cousin I L (Int32.ofNat k) = some v := e
      unfold F_X9_cousin at e2
      rw [isImage_eq, ob_some, if_pos c, if_neg (show ¬ (1 : Int32) = 0 by decide), kept_val hk2, kept_bz iK, z, ob_some, if_pos rfl] at e2
      rw [← Option.some.inj e2]
    · have z' : ¬ bz (I (3 + k) 0) = 0 := fun q => by rw [z] at q; exact absurd q (by decide)
      obtain ⟨hh, ww, hC', m1, m2, m3, m4, m5, m6⟩ := iK.2 z
      rw [if_neg z'] at e ⊢
      generalize hA : F_X2_find I L 30 1 5 = A at e ⊢
      generalize hB : F_X2_find (p1 A) (p2 A) 31 (3 + k) 5 = B at e ⊢
      have hr : (3 + k = 1) ∨ (3 + k = 3) ∨ (3 + k = 4) := by omega
      obtain ⟨a1', a2', -⟩ := find_both (J := I) (K := L) hC (.inl rfl) (.inl rfl) hIns i11 i12 rfl
      rw [hA] at a1' a2'
      have n1 : (p1 A) (3 + k) 1 = Int32.ofNat hh := (a1' _ _ (by omega) (by omega)).trans m1
      have n2 : (p1 A) (3 + k) 2 = Int32.ofNat ww := (a1' _ _ (by omega) (by omega)).trans m2
      have n3 : (p2 A) (3 + k) 3 = L (3 + k) 3 := a2' _ _ (by omega) (by omega)
      obtain ⟨b1', b2', -⟩ := find_both (J := I) (K := L) hC' (.inr rfl) hr m6 n1 n2 n3
      rw [hB] at b1' b2'
      have fI : ∀ a b, a ≠ 5 → a ≠ 30 → a ≠ 31 → (p1 B) a b = I a b := fun a b u v x => (b1' a b u x).trans (a1' a b u v)
      have fL : ∀ a b, a ≠ 5 → a ≠ 30 → a ≠ 31 → (p2 B) a b = L a b := fun a b u v x => (b2' a b u x).trans (a2' a b u v)
      -- the reference's two searches
      obtain ⟨-, -, c3, c4, -, c6, c7, c8⟩ := find_both (J := p1 B) (K := p2 B) hC' (.inr rfl) hr m6 n1 n2 n3
      rw [hB] at c6 c7 c8
      generalize hP : F_X9_findName (p1 B) (p2 B) (L (3 + k) 3) (Int32.ofNat hh) (Int32.ofNat ww) = P at c3 c4 c6 c7 c8
      obtain ⟨-, -, -, -, -, d6, d7, d8⟩ := find_both (J := p1 P) (K := p2 P) hC (.inl rfl) (.inl rfl) hIns i11 i12 rfl
      rw [hA] at d6 d7 d8
      have hPA : F_X9_findName (p1 B) (p2 B) ((p2 B) 35 k) ((p1 B) 36 k) ((p1 B) 37 k) = P := by
        rw [fL 35 k (by decide) (by decide) (by decide), fI 36 k (by decide) (by decide) (by decide), fI 37 k (by decide) (by decide) (by decide), m3, m4, m5, hP]
      have hQ : F_X9_findName (p1 P) (p2 P) ((p2 P) 33 2) ((p1 P) 33 0) ((p1 P) 33 1) = F_X9_findName (p1 P) (p2 P) (L 1 3) (Int32.ofNat h) (Int32.ofNat w) := by
        rw [c4 33 2 (by omega), c3 33 0 (by omega), c3 33 1 (by omega), fL 33 2 (by decide) (by decide) (by decide), fI 33 0 (by decide) (by decide) (by decide), fI 33 1 (by decide) (by decide) (by decide), l332, i330, i331]
      generalize hQQ : F_X9_findName (p1 P) (p2 P) (L 1 3) (Int32.ofNat h) (Int32.ofNat w) = Q at d6 d7 d8 hQ
      have hp : ¬ ((p1 B) 36 k).toInt ≤ 0 := fun q => by
        rw [fI 36 k (by decide) (by decide) (by decide)] at q
        have := kept_bz iK
        rw [if_pos q, z] at this
        exact absurd this (by decide)
      have e2 : F_X9_cousin (p1 B) (p2 B) (Int32.ofNat k) = some v := e
      rw [cousin9 hk2 hp P Q hPA hQ] at e2
      rw [← Option.some.inj e2]
      show (if F_X2_sameAs (p1 B) (p2 B) 30 31 = 0 then (0 : Int32) else 1) = (if lg_cmp ((p2 P) 33 39) ((p2 Q) 33 39) = 0 ∧ (p1 P) 33 41 = (p1 Q) 33 41 ∧ (p1 P) 33 42 = (p1 Q) 33 42 then 1 else 0)
      have x0 : (p1 B) 30 0 = (p1 Q) 33 41 := (b1' 30 0 (by decide) (by decide)).trans d6
      have x1 : (p1 B) 30 1 = (p1 Q) 33 42 := (b1' 30 1 (by decide) (by decide)).trans d7
      have x2 : (p2 B) 30 2 = (p2 Q) 33 39 := (b2' 30 2 (by decide) (by decide)).trans d8
      unfold F_X2_sameAs F_X2_sameAs_38 F_X2_sameAs_39
      rw [x0, x1, x2, c6, c7, c8]
      by_cases y1 : (p1 Q) 33 41 = (p1 P) 33 41
      · by_cases y2 : (p1 Q) 33 42 = (p1 P) 33 42
        · by_cases y3 : lg_cmp ((p2 Q) 33 39) ((p2 P) 33 39) = 0
          · rw [if_pos y1, if_pos y2, if_pos y3, if_neg (show ¬ (1 : Int32) = 0 by decide), if_pos ⟨cmp_eq.mpr (cmp_eq.mp y3).symm, y1.symm, y2.symm⟩]
          · rw [if_pos y1, if_pos y2, if_neg y3, if_pos rfl, if_neg (fun q => y3 (cmp_eq.mpr (cmp_eq.mp q.1).symm))]
        · rw [if_pos y1, if_neg y2, if_pos rfl, if_neg (fun q => y2 q.2.2.symm)]
      · rw [if_neg y1, if_pos rfl, if_neg (fun q => y1 q.2.1.symm)]
  · unfold F_X9_cousin at e
    rw [isImage_eq, ob_some, if_neg c, if_pos rfl] at e
    rw [← Option.some.inj e]
    unfold F_X8_cousin
    rw [if_neg (fun z => c (by rw [z]; decide)), if_neg (fun z => c (by rw [z]; decide))]
    rfl
