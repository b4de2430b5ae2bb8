/-! alike, plan, turned: class and reference -/
theorem cmp_0 {x : Int64} : lg_cmp x 0 = 0 ↔ x = 0 := by
  unfold lg_cmp
  by_cases q : x > 0
  · rw [if_pos q]
    refine ⟨fun z => absurd z (by decide), fun z => ?_⟩
    rw [z] at q
    exact absurd q (by decide)
  · rw [if_neg q]
    by_cases q' : x = 0
    · rw [if_pos q']
      exact ⟨fun _ => q', fun _ => rfl⟩
    · rw [if_neg q']
      exact ⟨fun z => absurd z (by decide), fun z => absurd z q'⟩
/-- what both find of a plan -/
theorem plan_both {h w : Nat} (hC : Cl h w) {I J : WI} {x : Int64} (hx : Ins h w x) (i1 : I 1 1 = Int32.ofNat h) (i2 : I 1 2 = Int32.ofNat w) (j1 : J 33 0 = Int32.ofNat h) (j2 : J 33 1 = Int32.ofNat w) : ∃ r c, r < 256 ∧ c < 256 ∧ (F_X7_findPlan I 1 x) 27 0 = p1 (F_X9_findPlan J x) ∧ (F_X7_findPlan I 1 x) 27 1 = Int32.ofNat r ∧ (F_X7_findPlan I 1 x) 27 2 = Int32.ofNat c ∧ (F_X7_findPlan I 1 x) 27 3 = 0 ∧ ((p1 (F_X9_findPlan J x) = 0 ∧ F_X9_formOf x (Int32.ofNat h) (Int32.ofNat w) ≠ 0) ∨ (p1 (F_X9_findPlan J x) = 1 ∧ F_X9_formOf x (Int32.ofNat h) (Int32.ofNat w) = 0 ∧ (p2 (F_X9_findPlan J x)) 33 31 = Int32.ofNat r ∧ (p2 (F_X9_findPlan J x)) 33 32 = Int32.ofNat c)) := by
  obtain ⟨r, r1, r2, r3⟩ := rows_n hC (x := x)
  obtain ⟨c, c1, c2, c3⟩ := cols_n hC (x := x)
  have hp : 2 ^ h ≤ 2 ^ 8 := Nat.pow_le_pow_right (by decide) hC.1.2
  have hp' : 2 ^ w ≤ 2 ^ 8 := Nat.pow_le_pow_right (by decide) hC.2.2
  obtain ⟨l1, l2⟩ := planR_lt (r := r) (c := c) hC (by omega) (by omega)
  refine ⟨p1 (planR h w r c), p2 (planR h w r c), l1, l2, ?_⟩
  have hf : F_X0_formOf I 1 x = F_X9_formOf x (Int32.ofNat h) (Int32.ofNat w) := by rw [formOf_cq, i1, i2, form_eq hC hx]
  unfold F_X7_findPlan F_X9_findPlan F_X9_formNow
  rw [hf, j1, j2]
  by_cases q : lg_cmp (F_X9_formOf x (Int32.ofNat h) (Int32.ofNat w)) 0 = 0
  · rw [if_pos q, if_pos q]
    obtain ⟨a1, a2, a3, a4⟩ := plan16 (s0 := 1) hC i1 i2 r2 c2 r1 c1
    obtain ⟨b1, b2, b3⟩ := plan9 hC j1 j2 r1 c1 r3 c3
    exact ⟨a1.trans b1.symm, a2, a3, a4, .inr ⟨b1, cmp_0.mp q, b2, b3⟩⟩
  · rw [if_neg q, if_neg q]
    obtain ⟨a1, a2, a3, a4⟩ := plan16 (s0 := 0) hC i1 i2 r2 c2 r1 c1
    exact ⟨a1, a2, a3, a4, .inl ⟨rfl, fun z => q (cmp_0.mpr z)⟩⟩
theorem told_plan {I J : WI} {a : Int32} {r c : Nat} (hr : r < 256) (hc : c < 256) (e1 : I 27 1 = Int32.ofNat r) (e2 : I 27 2 = Int32.ofNat c) (e3 : I 27 3 = 0) (f1 : J 33 31 = Int32.ofNat r) (f2 : J 33 32 = Int32.ofNat c) (ha : a = 0 ∨ a = 1 ∨ a = 2) : F_X8_toldOf I a (F_X7_acts I) = F_X9_planTold J a := by
  obtain ⟨b1, b2, -⟩ := bc_t r hr
  obtain ⟨b3, b4, -⟩ := bc_t c hc
  unfold F_X8_toldOf F_X9_planTold F_X9_planTold_62 F_X7_acts
  rw [e1, e2, e3, f1, f2, b1, b2, b3, b4, show F_J6_bitCount_0f7a4 0 = Int32.ofNat 0 by decide +kernel, oadd, oadd, Nat.add_zero]
  rcases ha with rfl | rfl | rfl
  · rw [if_pos rfl, if_pos rfl]
  · rw [if_neg (by decide), if_pos rfl, if_neg (by decide), if_pos rfl]
  · rw [if_neg (by decide), if_neg (by decide), if_pos rfl, if_neg (by decide), if_neg (by decide), if_pos rfl]
theorem days_plan {I J : WI} {r c : Nat} (hr : r < 256) (hc : c < 256) (e1 : I 27 1 = Int32.ofNat r) (e2 : I 27 2 = Int32.ofNat c) (f1 : J 33 31 = Int32.ofNat r) (f2 : J 33 32 = Int32.ofNat c) : (if (F_J6_bitCount_0f7a4 (I 27 1)) < (F_J6_bitCount_0f7a4 (I 27 2)) then (F_J6_bitCount_0f7a4 (I 27 2)) else (F_J6_bitCount_0f7a4 (I 27 1))) = F_X9_planTold J 3 := by
  obtain ⟨b1, b2, b5⟩ := bc_t r hr
  obtain ⟨b3, b4, b6⟩ := bc_t c hc
  unfold F_X9_planTold F_X9_planTold_62
  rw [e1, e2, f1, f2, b1, b2, b3, b4, if_neg (show ¬ (3 : Int32) = 0 by decide), if_neg (show ¬ (3 : Int32) = 1 by decide), if_neg (show ¬ (3 : Int32) = 2 by decide)]
  by_cases q : pc8 r < pc8 c
  · rw [if_pos (show Int32.ofNat (pc8 r) < Int32.ofNat (pc8 c) from (lt_onn (by omega) (by omega)).mpr q), if_pos (show Int32.ofNat (pc8 r) ≤ Int32.ofNat (pc8 c) from (ge_on (by omega) (by omega)).mpr (by omega))]
  · rw [if_neg (show ¬ Int32.ofNat (pc8 r) < Int32.ofNat (pc8 c) from fun z => q ((lt_onn (by omega) (by omega)).mp z))]
    by_cases q' : pc8 r ≤ pc8 c
    · rw [if_pos (show Int32.ofNat (pc8 r) ≤ Int32.ofNat (pc8 c) from (ge_on (by omega) (by omega)).mpr q'), show pc8 r = pc8 c by omega]
    · rw [if_neg (show ¬ Int32.ofNat (pc8 r) ≤ Int32.ofNat (pc8 c) from fun z => q' ((ge_on (by omega) (by omega)).mp z))]
/-- a number in a range that begins at 0 -/
theorem in0 {a : Int32} (n : Nat) (hn : n < 1000) : (F_X9_in (Int32.toInt64 a) 0 (Int64.ofNat n) = 0 ∧ (a < 0 ∨ ¬ a ≤ Int32.ofNat n)) ∨ (F_X9_in (Int32.toInt64 a) 0 (Int64.ofNat n) = 1 ∧ ¬ a < 0 ∧ a ≤ Int32.ofNat n ∧ ∃ k, k ≤ n ∧ a = Int32.ofNat k) := by
  rw [in_eq]
  have e0 : (0 : Int64).toInt = 0 := by decide
  have en : (Int64.ofNat n).toInt = (n : Int) := Int64.toInt_ofNat_of_lt (by omega)
  have hB : (Int32.ofNat n).toInt = (n : Int) := on_toInt (by omega)
  rw [e0, en]
  by_cases q : (0 : Int) ≤ a.toInt ∧ a.toInt ≤ (n : Int)
  · rw [if_pos q]
    refine .inr ⟨rfl, fun z => ?_, ?_, ?_⟩
    · rw [Int32.lt_iff_toInt_lt, z0] at z
      omega
    · rw [Int32.le_iff_toInt_le, hB]
      exact q.2
    · obtain ⟨k, k1, k2, -⟩ := nn q.1
      exact ⟨k, by omega, k1⟩
  · rw [if_neg q]
    refine .inl ⟨rfl, ?_⟩
    by_cases q' : a.toInt < 0
    · exact .inl (by rw [Int32.lt_iff_toInt_lt, z0]; exact q')
    · exact .inr fun z => by
        rw [Int32.le_iff_toInt_le, hB] at z
        omega
theorem E_16 {I : WI} {L : WL} {a1 : Int32} (H : Inv I L) : (p1 (F_X8_plan I L a1)) = (p1 (F_X9_plan (p2 (F_X8_plan I L a1)) L a1)) ∧ Inv (p2 (F_X9_plan (p2 (F_X8_plan I L a1)) L a1)) L := by
  refine ⟨?_, N_16 H⟩
  have hag : Ag I (p2 (F_X8_plan I L a1)) := by
    have hq := ag_findPlan (I := I) (r := 1) (x := (L 1 3) ^^^ (L 2 3))
    unfold F_X8_plan F_X8_plan_9
    generalize F_X7_findPlan I 1 ((L 1 3) ^^^ (L 2 3)) = q at hq ⊢
    repeat' (first | exact Ag.rfl | exact hq | refine Ag.p2ite ?_ ?_)
  generalize p2 (F_X8_plan I L a1) = J at hag
  obtain ⟨⟨h, w, ⟨hC, i11, i12, i330, i331, l332, hIns, i10⟩, ⟨h2, w2, hC2, j1, j2, j3⟩, j4, j5⟩, -⟩ := H
  have k4 : J 33 4 = I 33 4 := hag 33 4 rfl
  have k0 : J 33 0 = Int32.ofNat h := (hag 33 0 rfl).trans i330
  have k1 : J 33 1 = Int32.ofNat w := (hag 33 1 rfl).trans i331
  unfold F_X8_plan F_X9_plan F_X8_plan_9 F_X9_plan_50
  rw [k4, j4]
  rcases in0 (a := a1) 3 (by decide) with ⟨q1, q2⟩ | ⟨q1, q2, q3, k, hk, rfl⟩
  · rw [if_pos (show F_X9_in (Int32.toInt64 a1) 0 3 = 0 from q1)]
    by_cases q : a1 < 0
    · rw [if_pos q]
      rfl
    · rw [if_neg q, if_neg (show ¬ a1 ≤ 3 from q2.resolve_left q)]
      rfl
  · rw [if_neg q2, if_pos (show Int32.ofNat k ≤ 3 from q3), if_neg (show ¬ F_X9_in (Int32.toInt64 (Int32.ofNat k)) 0 3 = 0 from fun z => by rw [show F_X9_in (Int32.toInt64 (Int32.ofNat k)) 0 3 = 1 from q1] at z; exact absurd z (by decide))]
    rcases bz01 (I 2 0) with z | z
    · rw [if_pos z, if_pos z]
      rfl
    · have z' : ¬ bz (I 2 0) = 0 := fun q => by rw [z] at q; exact absurd q (by decide)
      obtain ⟨rfl, rfl⟩ := j3 z
      obtain ⟨l333, hI2⟩ := j5 z
      rw [if_neg z', if_neg z', l332, l333]
      obtain ⟨r, c, hr, hc, e0, e1, e2, e3, e4⟩ := plan_both hC (hIns.xor hI2) i11 i12 k0 k1
      rcases e4 with ⟨e4, -⟩ | ⟨e4, -, f1, f2⟩
      · rw [e0, e4, if_pos (show bz (0 : Int32) = 0 by decide), if_pos rfl]
        rfl
      · rw [e0, e4, if_neg (show ¬ bz (1 : Int32) = 0 by decide), if_neg (show ¬ (1 : Int32) = 0 by decide)]
        by_cases q : Int32.ofNat k = 3
        · rw [if_pos q, q]
          exact days_plan hr hc e1 e2 f1 f2
        · rw [if_neg q]
          refine told_plan hr hc e1 e2 e3 f1 f2 ?_
          rcases (show k = 0 ∨ k = 1 ∨ k = 2 ∨ k = 3 by omega) with rfl | rfl | rfl | rfl
          · exact .inl rfl
          · exact .inr (.inl rfl)
          · exact .inr (.inr rfl)
          · exact absurd rfl q
theorem flag_t : F_X9_flag 0 = 0 ∧ F_X9_flag 1 = 1 := by decide +kernel
/-- an image that is there: its size, as both ask for it -/
theorem same_both {I : WI} {L : WL} {h w k : Nat} (iC : InvC I L h w) (iK : InvK I L k) (z : bz (I (3 + k) 0) = 1) : (I (3 + k) 1 = I 1 1 ∧ I (3 + k) 2 = I 1 2 ∧ I 36 k = I 33 0 ∧ I 37 k = I 33 1 ∧ L 35 k = L (3 + k) 3 ∧ Ins h w (L (3 + k) 3)) ∨ (¬ (I (3 + k) 1 = I 1 1 ∧ I (3 + k) 2 = I 1 2) ∧ ¬ (I 36 k = I 33 0 ∧ I 37 k = I 33 1)) := by
  obtain ⟨hC, c1, c2, c3, c4, c5, c6, c7⟩ := iC
  obtain ⟨hh, ww, hC', f1, f2, f3, f4, f5, f6⟩ := iK.2 z
  rw [f1, f2, f3, f4, c1, c2, c3, c4]
  unfold Cl at hC hC'
  by_cases q : Int32.ofNat hh = Int32.ofNat h ∧ Int32.ofNat ww = Int32.ofNat w
  · have e1 := on_inj (by omega) (by omega) q.1
    have e2 := on_inj (by omega) (by omega) q.2
    rw [e1, e2] at f6
    exact .inl ⟨q.1, q.2, q.1, q.2, f5, f6⟩
  · exact .inr ⟨q, q⟩
theorem alike_k {I : WI} {L : WL} {k : Nat} (hk : k < 2) : F_X8_alike I L (Int32.ofNat k) = if bz (I (3 + k) 0) = 0 then -2 else if F_X0_sameSize I (3 + k) 1 = 0 then 0 else if lg_cmp (F_X0_formOf I 1 ((L 1 3) ^^^ (L (3 + k) 3))) 0 = 0 then 1 else 0 := by
  rcases (show k = 0 ∨ k = 1 by omega) with rfl | rfl
  · unfold F_X8_alike F_X8_alike_61 F_X8_alike_62
    rw [if_pos (show Int32.ofNat 0 = 0 from rfl)]
  · unfold F_X8_alike F_X8_alike_61 F_X8_alike_62
    rw [if_neg (show ¬ Int32.ofNat 1 = 0 by decide), if_pos (show Int32.ofNat 1 = 1 from rfl)]
theorem E_15 {I : WI} {L : WL} {a1 : Int32} (H : Inv I L) : ∃ w, (F_X9_alike I L a1) = some w ∧ (F_X8_alike I L a1) = w ∧ Inv I L := by
  suffices h : F_X9_alike I L a1 = some (F_X8_alike I L a1) from ⟨_, h, rfl, H⟩
  obtain ⟨⟨h, w, iC, -⟩, k0, k1, -⟩ := H
  unfold F_X9_alike F_X9_alike_52 F_X9_alike_53
  rw [isImage_eq, ob_some]
  by_cases c : 0 ≤ a1.toInt ∧ a1.toInt ≤ 1
  · obtain ⟨k, rfl, hk, -⟩ := nn c.1
    have hk2 : k < 2 := by omega
    have iK : InvK I L k := by
      rcases (show k = 0 ∨ k = 1 by omega) with rfl | rfl
      · exact k0
      · exact k1
    rw [if_pos c, if_neg (show ¬ (1 : Int32) = 0 by decide), kept_val hk2, kept_bz iK, ob_some, alike_k hk2]
    rcases bz01 (I (3 + k) 0) with z | z
    · rw [if_pos z, if_pos z]
    · have z' : ¬ bz (I (3 + k) 0) = 0 := fun q => by rw [z] at q; exact absurd q (by decide)
      rw [if_neg z', if_neg z', ofSize_val hk2, ob_some, same_val, if_neg (nin (k := k) (N := 2) hk2 (by decide)), on_clamp (by omega)]
      rcases same_both iC iK z with ⟨s1, s2, s3, s4, s5, s6⟩ | ⟨s1, s2⟩
      · obtain ⟨hC, c1, c2, c3, c4, c5, c6, c7⟩ := iC
        rw [if_pos (show I (3 + k) 1 = I 1 1 ∧ I (3 + k) 2 = I 1 2 from ⟨s1, s2⟩), if_pos (show I 36 k = I 33 0 ∧ I 37 k = I 33 1 from ⟨s3, s4⟩), if_neg (show ¬ (1 : Int32) = 0 by decide), if_neg (show ¬ (1 : Int32) = 0 by decide)]
        unfold F_X9_formNow
        rw [s5, c5, c3, c4, formOf_cq, c1, c2, form_eq hC (c6.xor s6)]
        by_cases q : lg_cmp (F_X9_formOf (L 1 3 ^^^ L (3 + k) 3) (Int32.ofNat h) (Int32.ofNat w)) 0 = 0
        · rw [if_pos q, if_pos q, flag_t.2]
        · rw [if_neg q, if_neg q, flag_t.1]
      · rw [if_neg s1, if_neg s2, if_pos rfl, if_pos rfl, flag_t.1]
  · rw [if_neg c, if_pos rfl]
    unfold F_X8_alike
    rw [if_neg (fun z => c (by rw [z]; decide)), if_neg (fun z => c (by rw [z]; decide))]
theorem turned_k {I : WI} {L : WL} {k : Nat} {a2 : Int32} (hk : k < 2) : F_X8_turned I L (Int32.ofNat k) a2 = if a2 < 0 then (-1, I) else if a2 ≤ 2 then (if bz (I (3 + k) 0) = 0 then (-2, I) else if F_X0_sameSize I (3 + k) 1 = 0 then (-2, I) else if bz ((F_X7_findPlan I 1 ((L 1 3) ^^^ (L (3 + k) 3))) 27 0) = 0 then (-4, F_X7_findPlan I 1 ((L 1 3) ^^^ (L (3 + k) 3))) else (F_X8_toldOf (F_X7_findPlan I 1 ((L 1 3) ^^^ (L (3 + k) 3))) a2 (F_X7_acts (F_X7_findPlan I 1 ((L 1 3) ^^^ (L (3 + k) 3)))), F_X7_findPlan I 1 ((L 1 3) ^^^ (L (3 + k) 3)))) else (-1, I) := by
  rcases (show k = 0 ∨ k = 1 by omega) with rfl | rfl
  · unfold F_X8_turned F_X8_turned_19 F_X8_turned_39 F_X8_turned_92
    rw [if_pos (show Int32.ofNat 0 = 0 from rfl)]
  · unfold F_X8_turned F_X8_turned_19 F_X8_turned_39 F_X8_turned_92
    rw [if_neg (show ¬ Int32.ofNat 1 = 0 by decide), if_pos (show Int32.ofNat 1 = 1 from rfl)]
theorem E_23 {I : WI} {L : WL} {a1 a2 : Int32} (H : Inv I L) : ∃ w, (F_X9_turned (p2 (F_X8_turned I L a1 a2)) L a1 a2) = some w ∧ (p1 (F_X8_turned I L a1 a2)) = (p1 w) ∧ Inv (p2 w) L := by
  obtain ⟨v, e, g⟩ := N_23 (a1 := a1) (a2 := a2) H
  refine ⟨v, e, ?_, g⟩
  have hag : Ag I (p2 (F_X8_turned I L a1 a2)) := by
    have hq := ag_findPlan (I := I) (r := 1) (x := (L 1 3) ^^^ (L 3 3))
    have hq' := ag_findPlan (I := I) (r := 1) (x := (L 1 3) ^^^ (L 4 3))
    unfold F_X8_turned F_X8_turned_19 F_X8_turned_39 F_X8_turned_92
    generalize F_X7_findPlan I 1 ((L 1 3) ^^^ (L 3 3)) = q at hq ⊢
    generalize F_X7_findPlan I 1 ((L 1 3) ^^^ (L 4 3)) = q' at hq' ⊢
    repeat' (first | exact Ag.rfl | exact hq | exact hq' | refine Ag.p2ite ?_ ?_)
  generalize p2 (F_X8_turned I L a1 a2) = J at hag e
  have hJ := H.ag hag Ag.rfl
  obtain ⟨⟨h, w, iC, -⟩, k0, k1, -⟩ := H
  unfold F_X9_turned F_X9_turned_19 F_X9_turned_37 F_X9_turned_68 at e
  rw [isImage_eq, ob_some] at e
  by_cases c : 0 ≤ a1.toInt ∧ a1.toInt ≤ 1
  · obtain ⟨k, rfl, hk, -⟩ := nn c.1
    have hk2 : k < 2 := by omega
    have iK : InvK I L k := by
      rcases (show k = 0 ∨ k = 1 by omega) with rfl | rfl
      · exact k0
      · exact k1
    have jK : (if (J 36 k).toInt ≤ 0 then (0 : Int32) else 1) = bz (I (3 + k) 0) := by
      rw [hag 36 k rfl]
      exact kept_bz iK
    rw [if_pos c, if_neg (show ¬ (1 : Int32) = 0 by decide), kept_val hk2, jK, ob_some, ofSize_val hk2, ob_some, if_neg (nin (k := k) (N := 2) hk2 (by decide)), on_clamp (by omega), hag 36 k rfl, hag 37 k rfl, hag 33 0 rfl, hag 33 1 rfl] at e
    rw [turned_k hk2]
    rcases in0 (a := a2) 2 (by decide) with ⟨q1, q2⟩ | ⟨q1, q2, q3, m, hm, rfl⟩
    · rw [if_pos (show F_X9_in (Int32.toInt64 a2) 0 2 = 0 from q1)] at e
      have ev := Option.some.inj e
      rw [← ev]
      by_cases q : a2 < 0
      · rw [if_pos q]
        rfl
      · rw [if_neg q, if_neg (show ¬ a2 ≤ 2 from q2.resolve_left q)]
        rfl
    · rw [if_neg (show ¬ F_X9_in (Int32.toInt64 (Int32.ofNat m)) 0 2 = 0 from fun z => by rw [show F_X9_in (Int32.toInt64 (Int32.ofNat m)) 0 2 = 1 from q1] at z; exact absurd z (by decide))] at e
      rw [if_neg q2, if_pos (show Int32.ofNat m ≤ 2 from q3)]
      rcases bz01 (I (3 + k) 0) with z | z
      · rw [if_pos z] at e ⊢
        rw [← Option.some.inj e]
        rfl
      · have z' : ¬ bz (I (3 + k) 0) = 0 := fun q => by rw [z] at q; exact absurd q (by decide)
        rw [if_neg z'] at e ⊢
        rw [same_val]
        rcases same_both iC iK z with ⟨s1, s2, s3, s4, s5, s6⟩ | ⟨s1, s2⟩
        · obtain ⟨hC, c1, c2, c3, c4, c5, c6, c7⟩ := iC
          rw [if_pos (show I 36 k = I 33 0 ∧ I 37 k = I 33 1 from ⟨s3, s4⟩), if_neg (show ¬ (1 : Int32) = 0 by decide), s5, c5] at e
          rw [if_pos (show I (3 + k) 1 = I 1 1 ∧ I (3 + k) 2 = I 1 2 from ⟨s1, s2⟩), if_neg (show ¬ (1 : Int32) = 0 by decide)]
          obtain ⟨r, cc, hr, hc, e0, e1, e2, e3, e4⟩ := plan_both hC (c6.xor s6) c1 c2 ((hag 33 0 rfl).trans c3) ((hag 33 1 rfl).trans c4)
          rcases e4 with ⟨e4, -⟩ | ⟨e4, -, f1, f2⟩
          · rw [e4, if_pos rfl] at e
            rw [e0, e4, if_pos (show bz (0 : Int32) = 0 by decide), ← Option.some.inj e]
            rfl
          · rw [e4, if_neg (show ¬ (1 : Int32) = 0 by decide)] at e
            rw [e0, e4, if_neg (show ¬ bz (1 : Int32) = 0 by decide), ← Option.some.inj e]
            refine told_plan hr hc e1 e2 e3 f1 f2 ?_
            rcases (show m = 0 ∨ m = 1 ∨ m = 2 by omega) with rfl | rfl | rfl
            · exact .inl rfl
            · exact .inr (.inl rfl)
            · exact .inr (.inr rfl)
        · rw [if_neg s2, if_pos rfl] at e
          rw [if_neg s1, if_pos rfl, ← Option.some.inj e]
          rfl
  · rw [if_neg c, if_pos rfl] at e
    rw [← Option.some.inj e]
    unfold F_X8_turned F_X8_turned_19
    rw [if_neg (fun z => c (by rw [z]; decide)), if_neg (fun z => c (by rw [z]; decide))]
    rfl
