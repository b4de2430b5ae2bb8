/-! a day of the text, as it is read: the reference -/
def ActsM (B : Nat → Nat) (n N : Nat) (I : WI) (x : Nat ⊕ (Nat × List Nat)) (c : Int32) (I' : WI) : Prop := Fda N I I' ∧ ((∃ g, x = .inl g ∧ Fm g I') ∨ ∃ p l, p ≤ n ∧ MAt B n p I' ∧ tk B n (tf B n p) ≠ 4 ∧ (if tk B n (tf B n p) = 3 then x = .inr (te B n (tf B n p), l) else x = .inl (tf B n p)) ∧ c = Int32.ofNat l.length ∧ l.length ≤ 3 ∧ ∀ j, j < l.length → I' 38 (4 * N + 1 + j) = Int32.ofNat (l.getD j 0))
theorem acts_M {B : Nat → Nat} {n N : Nat} (hN : N < 12) : ∀ (u : Nat) (l : List Nat) (a : Int32) (I : WI) (p fuel : Nat), u + l.length = 4 → u + 1 < fuel → TapM B n I → p ≤ n → MAt B n p I → (tk B n (tf B n p) ≠ 4 → a = if l.length = 0 ∨ tk B n (tf B n p) = 1 then 1 else 0) → I 33 18 = Int32.ofNat N → (∀ j, j < l.length → I 38 (4 * N + 1 + j) = Int32.ofNat (l.getD j 0)) → 1 ≤ u → ∃ c I', lpp (fun x => F_X9_readDay_4_1 (p2 (p2 x)) (p1 x) (p1 (p2 x))) fuel (Int32.ofNat l.length, a, I) = some (c, I') ∧ ActsM B n N I (actsS B n u l p) c I' := by
  intro u
  induction u with
  | zero => intro l a I p fuel _ _ _ _ _ _ _ _ h; omega
  | succ u ih =>
    intro l a I p fuel hu hf T hp A ha h18 h38 _
    obtain ⟨fuel, rfl⟩ : ∃ g, fuel = g + 1 := ⟨fuel - 1, by omega⟩
    have hn : n ≤ 320 := T.1
    have hfp := tf_le (B := B) hp
    have hte := te_le (B := B) (f := tf B n p) hfp.2
    have hl : ∀ r c a I k, F_X9_readDay_4_1 I c a = some (.inl r) → lpp (fun x : Int32 × Int32 × WI => F_X9_readDay_4_1 (p2 (p2 x)) (p1 x) (p1 (p2 x))) (k + 1) (c, a, I) = some r := fun r c a I k h => lpp_l (f := (fun x : Int32 × Int32 × WI => F_X9_readDay_4_1 (p2 (p2 x)) (p1 x) (p1 (p2 x)))) (s := (c, a, I)) h
    have hr : ∀ s c a I k, F_X9_readDay_4_1 I c a = some (.inr s) → lpp (fun x : Int32 × Int32 × WI => F_X9_readDay_4_1 (p2 (p2 x)) (p1 x) (p1 (p2 x))) (k + 1) (c, a, I) = lpp (fun x : Int32 × Int32 × WI => F_X9_readDay_4_1 (p2 (p2 x)) (p1 x) (p1 (p2 x))) k s := fun s c a I k h => lpp_r (f := (fun x : Int32 × Int32 × WI => F_X9_readDay_4_1 (p2 (p2 x)) (p1 x) (p1 (p2 x)))) (s := (c, a, I)) h
    have hfa : ∀ g c a J, Fm g J → F_X9_readDay_4_1 J c a = some (.inl (c, J)) := fun g c a J h => by
      unfold F_X9_readDay_4_1
      rw [if_neg h.ne]
    have hon : ∀ J, F_X9_readAct I (Int32.ofNat l.length) = some J → I 33 26 = 0 → a = 1 → F_X9_readDay_4_1 I (Int32.ofNat l.length) a = some (.inr (Int32.ofNat (l.length + 1), if J 33 24 = 1 then 1 else 0, J)) := fun J h h26 h1 => by
      unfold F_X9_readDay_4_1 F_X9_readDay_36_1
      rw [if_pos h26, h1, if_neg (show ¬ (1 : Int32) = 0 by decide), h, ob_some, la1]
      by_cases q : J 33 24 = 1
      · rw [if_pos q, if_pos q]
      · rw [if_neg q, if_neg q]
    unfold actsS
    by_cases c4 : tk B n (tf B n p) = 4
    · have hF := A.2 c4
      rw [hl _ _ _ _ _ (hfa _ _ a I hF), if_neg (show ¬ (0 < l.length ∧ tk B n (tf B n p) = 3) from fun q => by have := q.2; omega), if_neg (show ¬ (tk B n (tf B n p) = 1 ∧ kdS B (tf B n p) (te B n (tf B n p)) < 3 ∧ l.length < 3) from fun q => by have := q.1; omega)]
      exact ⟨_, I, rfl, Fda.rfl, .inl ⟨_, rfl, hF⟩⟩
    obtain ⟨hA, h26, -⟩ := A.1 c4
    have ha := ha c4
    by_cases c0 : l.length = 0 ∨ tk B n (tf B n p) = 1
    · rw [if_pos c0] at ha
      have h3 : ¬ (0 < l.length ∧ tk B n (tf B n p) = 3) := fun q => by omega
      rw [if_neg h3]
      have hact := act_M T hp A c4 hN h18 (show l.length ≤ 3 by omega)
      have hbad : ∀ g J, F_X9_readAct I (Int32.ofNat l.length) = some J → Fda N I J → Fm g J → ∃ c I', lpp (fun x => F_X9_readDay_4_1 (p2 (p2 x)) (p1 x) (p1 (p2 x))) (fuel + 1) (Int32.ofNat l.length, a, I) = some (c, I') ∧ ActsM B n N I (.inl g) c I' := fun g J h hJ hF => by
        obtain ⟨k, rfl⟩ : ∃ g, fuel = g + 1 := ⟨fuel - 1, by omega⟩
        rw [hr _ _ _ _ _ (hon J h h26 ha), hl _ _ _ _ _ (hfa _ _ _ J hF)]
        exact ⟨_, J, rfl, hJ, .inl ⟨_, rfl, hF⟩⟩
      by_cases d : tk B n (tf B n p) = 1 ∧ kdS B (tf B n p) (te B n (tf B n p)) < 3 ∧ l.length < 3
      · rw [if_pos d] at hact ⊢
        by_cases o : okNum B n (kdS B (tf B n p) (te B n (tf B n p))) (tf B n (te B n (tf B n p))) = true
        · rw [if_pos o] at hact ⊢
          obtain ⟨J, j1, j2, j3, j4, j5⟩ := hact
          rw [hr _ _ _ _ _ (hon J j1 h26 ha)]
          have hf2 := tf_le (B := B) hte.2.1
          have hte2 := te_le (B := B) (f := tf B n (te B n (tf B n p))) hf2.2
          have hlen : (l ++ [20 * kdS B (tf B n p) (te B n (tf B n p)) + tv B n (tf B n (te B n (tf B n p)))]).length = l.length + 1 := List.length_append
          obtain ⟨c, I', r1, r2, r3⟩ := ih (l ++ [20 * kdS B (tf B n p) (te B n (tf B n p)) + tv B n (tf B n (te B n (tf B n p)))]) (if J 33 24 = 1 then 1 else 0) J (te B n (tf B n (te B n (tf B n p)))) fuel (by rw [hlen]; omega) (by omega) (j2.tap T) hte2.2.1 j3 (fun q4 => by
            rw [(j3.1 q4).1.1, hlen]
            by_cases q : tk B n (tf B n (te B n (tf B n (te B n (tf B n p))))) = 1
            · rw [if_pos (by rw [q]; rfl), if_pos (.inr q)]
            · have hk5 := (te_le (B := B) (f := tf B n (te B n (tf B n (te B n (tf B n p))))) (tf_le (B := B) hte2.2.1).2).2.2.2.2.2.1
              rw [if_neg (show ¬ Int32.ofNat (tk B n (tf B n (te B n (tf B n (te B n (tf B n p)))))) = 1 from fun r => q (on_inj (b := 1) (by omega) (by decide) r)), if_neg fun r => r.elim (by omega) q]) ((j2 33 18 (by omega) (by omega)).trans h18) (fun j hj => by
            rw [hlen] at hj
            by_cases q : j = l.length
            · rw [q, j4, List.getD_eq_getElem?_getD, List.getElem?_append_right (Nat.le_refl _), Nat.sub_self]
              rfl
            · rw [j5 _ (by omega), h38 j (by omega), List.getD_eq_getElem?_getD, List.getD_eq_getElem?_getD, List.getElem?_append_left (by omega)]) (by omega)
          rw [hlen] at r1
          exact ⟨c, I', r1, j2.trans r2, r3⟩
        · rw [if_neg o] at hact ⊢
          obtain ⟨J, j1, j2, j3⟩ := hact
          exact hbad _ J j1 j2 j3
      · rw [if_neg d] at hact ⊢
        obtain ⟨J, j1, j2, j3⟩ := hact
        exact hbad _ J j1 j2 j3
    · rw [if_neg c0] at ha
      have h41 : F_X9_readDay_4_1 I (Int32.ofNat l.length) a = some (.inl (Int32.ofNat l.length, I)) := by
        unfold F_X9_readDay_4_1
        rw [if_pos h26, ha, if_pos rfl]
      rw [hl _ _ _ _ _ h41, if_neg (show ¬ (tk B n (tf B n p) = 1 ∧ kdS B (tf B n p) (te B n (tf B n p)) < 3 ∧ l.length < 3) from fun q => c0 (.inr q.1))]
      refine ⟨_, I, rfl, Fda.rfl, .inr ⟨p, l, hp, A, c4, ?_, rfl, by omega, h38⟩⟩
      by_cases d : tk B n (tf B n p) = 3
      · rw [if_pos d, if_pos ⟨by omega, d⟩]
      · rw [if_neg d, if_neg (show ¬ (0 < l.length ∧ tk B n (tf B n p) = 3) from fun q => d q.2)]
