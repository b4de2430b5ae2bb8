/-! the whole text: the reference -/
theorem not_le_f {g : Nat} {I : WI} (h : Fm g I) : ¬ (I 33 26) ≤ 0 := fun q => by
  have := h.1
  rw [Int32.le_iff_toInt_le] at q
  have : (0 : Int32).toInt = 0 := by decide
  omega
def LinesM (n : Nat) (I : WI) (L : WL) (x : Nat ⊕ (Nat × (Nat × Nat × Nat × Int64) × (Nat × Nat × Nat × Int64) × List (List Nat))) (a : Int32) (I' : WI) (L' : WL) : Prop := Fli I I' ∧ FliL L L' ∧ match x with
  | .inl g => Fm g I'
  | .inr r => a = Int32.ofNat (p1 r) ∧ I' 33 26 = 0 ∧ I' 33 23 = Int32.ofNat n ∧ DraftM (p1 (p2 r)) (p1 (p2 (p2 r))) (p2 (p2 (p2 r))) I' L' ∧ ImOk (p1 (p2 r)) ∧ ImOk (p1 (p2 (p2 r))) ∧ DsOk (p2 (p2 (p2 r)))
theorem lines_M {B : Nat → Nat} {n : Nat} : ∀ (u a : Nat) (c q : Nat × Nat × Nat × Int64) (ds : List (List Nat)) (p : Nat) (I : WI) (L : WL) (fuel : Nat), n < u + p → u + 1 < fuel → TapM B n I → p ≤ n → MAt B n p I → ImOk c → ImOk q → DsOk ds → DraftM c q ds I L → ∃ a' I' L', lpp (fun x => F_X9_text_20_1 (p1 (p2 x)) (p2 (p2 x)) (p1 x)) fuel (Int32.ofNat a, I, L) = some (a', I', L') ∧ LinesM n I L (linesC B n u a c q ds p) a' I' L' := by
  intro u
  induction u with
  | zero => intro a c q ds p I L fuel h1 _ _ h2; omega
  | succ u ih =>
    intro a c q ds p I L fuel hu hf T hp A hc hq hd D
    obtain ⟨fuel, rfl⟩ : ∃ g, fuel = g + 1 := ⟨fuel - 1, by omega⟩
    have hn : n ≤ 320 := T.1
    have hfp := tf_le (B := B) hp
    have hte := te_le (B := B) (f := tf B n p) hfp.2
    have hl : ∀ r a I L k, F_X9_text_20_1 I L a = some (.inl r) → lpp (fun x : Int32 × WI × WL => F_X9_text_20_1 (p1 (p2 x)) (p2 (p2 x)) (p1 x)) (k + 1) (a, I, L) = some r := fun r a I L k h => lpp_l (f := (fun x : Int32 × WI × WL => F_X9_text_20_1 (p1 (p2 x)) (p2 (p2 x)) (p1 x))) (s := (a, I, L)) h
    have hr : ∀ s a I L k, F_X9_text_20_1 I L a = some (.inr s) → lpp (fun x : Int32 × WI × WL => F_X9_text_20_1 (p1 (p2 x)) (p2 (p2 x)) (p1 x)) (k + 1) (a, I, L) = lpp (fun x : Int32 × WI × WL => F_X9_text_20_1 (p1 (p2 x)) (p2 (p2 x)) (p1 x)) k s := fun s a I L k h => lpp_r (f := (fun x : Int32 × WI × WL => F_X9_text_20_1 (p1 (p2 x)) (p2 (p2 x)) (p1 x))) (s := (a, I, L)) h
    have hfa : ∀ g a J K, Fm g J → F_X9_text_20_1 J K a = some (.inl (a, J, K)) := fun g a J K h => by
      unfold F_X9_text_20_1
      rw [if_neg h.ne]
    unfold linesC
    by_cases c4 : tk B n (tf B n p) = 4
    · have hF := A.2 c4
      rw [hl _ _ _ _ _ (hfa _ _ I L hF), if_neg (show ¬ tk B n (tf B n p) = 0 from fun z => by omega)]
      have hx : lineS B n c q ds (tf B n p) = .inl (tf B n p) := by
        unfold lineS
        rw [if_neg (fun z => by have := z.1; omega), if_neg (fun z => by have := z.1; omega), if_neg (fun z => by have := z.1; omega)]
      rw [hx]
      exact ⟨_, I, L, rfl, Fli.rfl, FliL.rfl, hF⟩
    obtain ⟨⟨a1, a2, a3, a4, a5⟩, h26, -⟩ := A.1 c4
    by_cases c0 : tk B n (tf B n p) = 0
    · rw [if_pos c0]
      have h20 : F_X9_text_20_1 I L (Int32.ofNat a) = some (.inl (Int32.ofNat a, I, L)) := by
        unfold F_X9_text_20_1
        rw [if_pos h26, a1, if_pos (show Int32.ofNat (tk B n (tf B n p)) = 0 by rw [c0]; rfl)]
      rw [hl _ _ _ _ _ h20]
      refine ⟨_, I, L, rfl, Fli.rfl, FliL.rfl, rfl, h26, ?_, D, hc, hq, hd⟩
      have : tf B n p = n := by
        unfold tk at c0
        by_cases z : n ≤ tf B n p
        · omega
        · rw [if_neg z] at c0
          by_cases z1 : B (tf B n p) = 59
          · rw [if_pos z1] at c0; omega
          rw [if_neg z1] at c0
          by_cases z2 : isLt (B (tf B n p)) = true
          · rw [if_pos z2] at c0; omega
          rw [if_neg z2] at c0
          split at c0 <;> omega
      rw [a2, this]
    · rw [if_neg c0]
      obtain ⟨J, K, j1, j2, j3, j4⟩ := line_M T hp A c4 hc hq hd D
      have h20 : F_X9_text_20_1 I L (Int32.ofNat a) = some (.inr (Int32.ofNat (a + 1), J, K)) := by
        unfold F_X9_text_20_1
        rw [if_pos h26, a1, if_neg (show ¬ Int32.ofNat (tk B n (tf B n p)) = 0 from fun z => c0 (on_inj (b := 0) (by omega) (by decide) z)), j1, ob_some, la1]
        rfl
      rw [hr _ _ _ _ _ h20]
      cases hx : lineS B n c q ds (tf B n p) with
      | inl g =>
        rw [hx] at j4
        obtain ⟨k, rfl⟩ : ∃ g, fuel = g + 1 := ⟨fuel - 1, by omega⟩
        rw [hl _ _ _ _ _ (hfa _ _ J K j4)]
        exact ⟨_, J, K, rfl, j2, j3, j4⟩
      | inr r =>
        rw [hx] at j4
        obtain ⟨o1, o2, o3, o4, o5⟩ := lineS_ok hfp.2 hc hq hd hx
        obtain ⟨a', I', L', r1, r2, r3, r4⟩ := ih (a + 1) _ _ _ (p1 r) J K fuel (by omega) (by omega) (j2.tap T) o2 j4.1 o3 o4 o5 j4.2
        exact ⟨a', I', L', r1, j2.trans r2, j3.trans r3, r4⟩
/-- an act that the draft's cloth has -/
theorem isAct_t : ∀ x, x < 60 → ∀ m, m < 9 → ∀ w, w < 9 → 1 ≤ m → 1 ≤ w → F_X9_isActOf (Int32.ofNat x / 20) (Int32.ofNat x - Int32.ofNat x / 20 * 20) (Int32.ofNat m) (Int32.ofNat w) = if legal m w x = true then 1 else 0 := by decide +kernel
theorem actsMl {f : Int32 × Int32 → Option (Int32 ⊕ (Int32 × Int32))} {g : Nat → Bool} {N : Nat} (h1 : ∀ j (b : Bool), j < N → f (if b = true then 1 else 0, Int32.ofNat (j + 1)) = some (.inr (if (b && g j) = true then 1 else 0, Int32.ofNat (j + 2)))) (h2 : ∀ b : Bool, f (if b = true then 1 else 0, Int32.ofNat (N + 1)) = some (.inl (if b = true then 1 else 0))) : ∀ (m j : Nat) (b : Bool) (fuel : Nat), j + m = N → m < fuel → lpp f fuel (if b = true then 1 else 0, Int32.ofNat (j + 1)) = some (if ab g m j b = true then 1 else 0) := by
  intro m
  induction m with
  | zero =>
    intro j b fuel hj hf
    obtain ⟨fuel, rfl⟩ : ∃ g, fuel = g + 1 := ⟨fuel - 1, by omega⟩
    rw [show j = N by omega]
    exact lpp_l (h2 b)
  | succ m ih =>
    intro j b fuel hj hf
    obtain ⟨fuel, rfl⟩ : ∃ g, fuel = g + 1 := ⟨fuel - 1, by omega⟩
    rw [lpp_r (h1 j b (by omega))]
    exact ih (j + 1) (b && g j) fuel (by omega) (by omega)
theorem dayActs_M {c q : Nat × Nat × Nat × Int64} {ds : List (List Nat)} {I : WI} {L : WL} {N : Nat} (D : DraftM c q ds I L) (hc : ImOk c) (hd : DsOk ds) (hN : N < ds.length) (b : Bool) : F_X9_areActs_12_1 I (Int32.ofNat N) (if b = true then 1 else 0) = some (if (b && dayB c (ds.getD N [])) = true then 1 else 0) := by
  obtain ⟨o1, o2, o3⟩ := hd.2 N hN
  have hM := hd.1
  have hcl := hc.2.1
  unfold Cl at hcl
  obtain ⟨R1, R2⟩ := D.2.2.2 N hN
  have h := actsMl (f := fun x => F_X9_areActs_14_2 I (Int32.ofNat N) (p1 x) (p2 x)) (g := fun j => legal (p1 (p2 c)) (p1 (p2 (p2 c))) ((ds.getD N []).getD j 0)) (N := (ds.getD N []).length) (fun j b hj => by
    show F_X9_areActs_14_2 I (Int32.ofNat N) (if b = true then 1 else 0) (Int32.ofNat (j + 1)) = some (.inr (_, Int32.ofNat (j + 1 + 1)))
    have ht := isAct_t _ (o3 j hj) (p1 (p2 c)) (by omega) (p1 (p2 (p2 c))) (by omega) hcl.1.1 (by omega)
    unfold F_X9_areActs_14_2 F_X9_areActs_74_2 F_X9_areActs_75_2
    rw [lm4, if_neg (nin (k := 4 * N) (N := 48) (by omega) (by decide)), on_clamp (by omega), R1, if_neg (show ¬ Int32.ofNat (ds.getD N []).length < Int32.ofNat (j + 1) from fun z => absurd ((lt_onn (by omega) (by omega)).mp z) (by omega)), oadd, show 4 * N + (j + 1) = 4 * N + 1 + j by omega, if_neg (nin (k := 4 * N + 1 + j) (N := 48) (by omega) (by decide)), if_neg (nin (k := 4 * N + 1 + j) (N := 48) (by omega) (by decide)), on_clamp (by omega), R2 j hj, D.1.2.1, D.1.2.2.1, ht, la1]
    cases b with
    | false =>
      rw [if_neg (show ¬ false = true by decide), if_pos rfl, Bool.false_and]
      rfl
    | true =>
      rw [if_pos rfl, if_neg (show ¬ (1 : Int32) = 0 by decide), Bool.true_and]
      by_cases g : legal (p1 (p2 c)) (p1 (p2 (p2 c))) ((ds.getD N []).getD j 0) = true
      · rw [if_pos g, if_neg (show ¬ (1 : Int32) = 0 by decide)]
      · rw [if_neg g, if_pos rfl]) (fun b => by
    show F_X9_areActs_14_2 I (Int32.ofNat N) (if b = true then 1 else 0) (Int32.ofNat ((ds.getD N []).length + 1)) = _
    unfold F_X9_areActs_14_2
    rw [lm4, if_neg (nin (k := 4 * N) (N := 48) (by omega) (by decide)), on_clamp (by omega), R1, if_pos (show Int32.ofNat (ds.getD N []).length < Int32.ofNat ((ds.getD N []).length + 1) from (lt_onn (by omega) (by omega)).mpr (by omega))]) (ds.getD N []).length 0 b 4294967296 (by omega) (by omega)
  unfold F_X9_areActs_12_1 F_X9_areActs_14_1 F_X9_areActs_82_1 dayB
  show (lpp (fun x => F_X9_areActs_14_2 I (Int32.ofNat N) (p1 x) (p2 x)) 4294967296 (if b = true then 1 else 0, Int32.ofNat (0 + 1))).bind _ = _
  rw [h, ob_some, ab_and]
theorem areActs_M {c q : Nat × Nat × Nat × Int64} {ds : List (List Nat)} {I : WI} {L : WL} (D : DraftM c q ds I L) (hc : ImOk c) (hd : DsOk ds) : F_X9_areActs I = some (if ab (fun N => dayB c (ds.getD N [])) ds.length 0 true = true then 1 else 0) := by
  have hM := hd.1
  have key : ∀ m i b, ab (fun N => dayB c (ds.getD N [])) (m + 1) i b = (ab (fun N => dayB c (ds.getD N [])) m i b && dayB c (ds.getD (i + m) [])) := by
    intro m
    induction m with
    | zero => intro i b; rfl
    | succ m ih =>
      intro i b
      have e : ab (fun N => dayB c (ds.getD N [])) (m + 1 + 1) i b = ab (fun N => dayB c (ds.getD N [])) (m + 1) (i + 1) (b && dayB c (ds.getD i [])) := rfl
      rw [e, ih, show i + 1 + m = i + (m + 1) by omega]
      rfl
  obtain ⟨e, r1, r2⟩ := frp0_nat (g := fun i x => F_X9_areActs_12_1 I i x) (b := ds.length) (by omega) (fun i x => x = if ab (fun N => dayB c (ds.getD N [])) i 0 true = true then 1 else 0) (s := 1) (fun i x hi hx => by
    refine ⟨_, ?_, rfl⟩
    show F_X9_areActs_12_1 I (Int32.ofNat i) x = _
    rw [hx, dayActs_M D hc hd hi, key, Nat.zero_add]) rfl
  unfold F_X9_areActs F_X9_areActs_4 F_X9_areActs_88
  rw [D.2.2.1, r1, ob_some, r2, if_pos (by split <;> decide)]
/-- the draft, kept -/
theorem keepDraft_M {c q : Nat × Nat × Nat × Int64} {ds : List (List Nat)} {I : WI} {L : WL} (D : DraftM c q ds I L) (hq : ImOk q) : ∃ J, F_X9_keepDraft I L = some (J, u2 (u2 L 33 2 (p2 (p2 (p2 c)))) 33 3 (p2 (p2 (p2 q)))) ∧ J 33 0 = Int32.ofNat (p1 (p2 c)) ∧ J 33 1 = Int32.ofNat (p1 (p2 (p2 c))) ∧ J 33 4 = Int32.ofNat (p1 q) ∧ J 33 5 = Int32.ofNat ds.length ∧ J 36 0 = 0 ∧ J 36 1 = 0 ∧ (∀ j, j < 48 → J 34 j = I 38 j) ∧ ∀ k j, ¬ (k = 33 ∧ (j = 0 ∨ j = 1 ∨ j = 4 ∨ j = 5)) → k ≠ 34 → k ≠ 36 → J k j = I k j := by
  obtain ⟨⟨d1, d2, d3, d4⟩, ⟨e1, e2, e3⟩, f1, -⟩ := D
  have hb : bz (I 33 17) = Int32.ofNat (p1 q) := by
    rw [e1]
    have := hq.1
    rcases (show p1 q = 0 ∨ p1 q = 1 by omega) with e | e <;> rw [e] <;> decide
  unfold F_X9_keepDraft F_X9_keepDraft_50
  rw [u2_nc (a := 33) (b := 11) (by omega), u2_nc (a := 33) (b := 17) (by omega), u2_nc (a := 33) (b := 17) (by omega), u2_nc (a := 33) (b := 18) (by omega), u2_nc (a := 33) (b := 18) (by omega), u2_nc (a := 33) (b := 18) (by omega), u2_nc (a := 33) (b := 15) (by omega), hb, d2, d3, f1, d4, e3]
  generalize hZ : (u2 (u2 (u2 (u2 I 33 0 (Int32.ofNat (p1 (p2 c)))) 33 1 (Int32.ofNat (p1 (p2 (p2 c))))) 33 4 (Int32.ofNat (p1 q))) 33 5 (Int32.ofNat ds.length)) = Z
  have zf : ∀ k j, ¬ (k = 33 ∧ (j = 0 ∨ j = 1 ∨ j = 4 ∨ j = 5)) → Z k j = I k j := fun k j z => by
    rw [← hZ, u2_nc (by omega), u2_nc (by omega), u2_nc (by omega), u2_nc (by omega)]
  obtain ⟨e, r1, r2, r3⟩ := frp0_nat (g := fun i x => F_X9_keepDraft_56_1 x (u2 (u2 L 33 2 (p2 (p2 (p2 c)))) 33 3 (p2 (p2 (p2 q)))) i) (b := 48) (by decide) (fun i x => (∀ j, j < i → x 34 j = I 38 j) ∧ ∀ k j, k ≠ 34 → x k j = Z k j) (s := Z) (fun i x hi hx => by
    refine ⟨u2 x 34 i (I 38 i), ?_, fun j hj => ?_, fun k j hk => ?_⟩
    · show F_X9_keepDraft_56_1 x _ (Int32.ofNat i) = _
      unfold F_X9_keepDraft_56_1
      rw [if_neg (nin (k := i) (N := 48) hi (by decide)), if_neg (nin (k := i) (N := 48) hi (by decide)), on_clamp (by omega), hx.2 38 i (by decide), zf 38 i (by omega)]
    · by_cases z : j = i
      · rw [z, u2_at]
      · rw [u2_nc (by omega)]
        exact hx.1 j (by omega)
    · rw [u2_nc (by omega)]
      exact hx.2 k j hk) ⟨fun j hj => absurd hj (Nat.not_lt_zero _), fun _ _ _ => rfl⟩
  rw [show (48 : Int32) = Int32.ofNat 48 from rfl, r1, ob_some]
  unfold F_X9_keepDraft_74
  rw [show Int32.toNatClampNeg 0 = 0 from rfl, show Int32.toNatClampNeg 1 = 1 from rfl]
  refine ⟨_, rfl, ?_, ?_, ?_, ?_, ?_, u2_at, fun j hj => ?_, fun k j a b c => ?_⟩
  · rw [u2_nc (by omega), u2_nc (by omega), r3 33 0 (by decide), ← hZ, u2_nc (by omega), u2_nc (by omega), u2_nc (by omega), u2_at]
  · rw [u2_nc (by omega), u2_nc (by omega), r3 33 1 (by decide), ← hZ, u2_nc (by omega), u2_nc (by omega), u2_at]
  · rw [u2_nc (by omega), u2_nc (by omega), r3 33 4 (by decide), ← hZ, u2_nc (by omega), u2_at]
  · rw [u2_nc (by omega), u2_nc (by omega), r3 33 5 (by decide), ← hZ, u2_at]
  · rw [u2_nc (by omega), u2_at]
  · rw [u2_nc (by omega), u2_nc (by omega)]
    exact r2 j hj
  · rw [u2_nc (by omega), u2_nc (by omega), r3 k j b]
    exact zf k j a
/-- what the reference keeps of a text -/
def KeptM (c q : Nat × Nat × Nat × Int64) (ds : List (List Nat)) (I : WI) (L : WL) : Prop := (I 33 0 = Int32.ofNat (p1 (p2 c)) ∧ I 33 1 = Int32.ofNat (p1 (p2 (p2 c))) ∧ L 33 2 = p2 (p2 (p2 c))) ∧ (I 33 4 = Int32.ofNat (p1 q) ∧ L 33 3 = p2 (p2 (p2 q))) ∧ I 36 0 = 0 ∧ I 36 1 = 0 ∧ I 33 5 = Int32.ofNat ds.length ∧ ∀ N, N < ds.length → I 34 (4 * N) = Int32.ofNat (ds.getD N []).length ∧ ∀ j, j < (ds.getD N []).length → I 34 (4 * N + 1 + j) = Int32.ofNat ((ds.getD N []).getD j 0)
def FaceM (I : WI) (L : WL) (x : Nat ⊕ (Nat × (Nat × Nat × Nat × Int64) × (Nat × Nat × Nat × Int64) × List (List Nat))) (v : Int32) (I' : WI) (L' : WL) : Prop := I' 33 21 = 0 ∧ (∀ k j, k ≠ 33 → k ≠ 34 → k ≠ 36 → k ≠ 38 → I' k j = I k j) ∧ I' 33 46 = I 33 46 ∧ (∀ k j, k ≠ 33 → L' k j = L k j) ∧ match x with
  | .inl g => v = -10 - Int32.ofNat g ∧ (∀ k j, k ≠ 33 → k ≠ 38 → I' k j = I k j) ∧ (∀ j, j < 6 → I' 33 j = I 33 j) ∧ ∀ j, j < 4 → L' 33 j = L 33 j
  | .inr r => v = Int32.ofNat (p1 r) ∧ KeptM (p1 (p2 r)) (p1 (p2 (p2 r))) (p2 (p2 (p2 r))) I' L'
theorem text_M {B : Nat → Nat} {n : Nat} {I : WI} {L : WL} (T : TapM B n I) : ∃ v I' L', F_X9_text I L = some (v, I', L') ∧ FaceM I L (textS B n) v I' L' := by
  have hn : n ≤ 320 := T.1
  unfold F_X9_text F_X9_firstDraft
  simp only [p1, p2]
  generalize hZ : (u2 (u2 (u2 (u2 (u2 (u2 (u2 I 33 26 0) 33 22 0) 33 10 4) 33 11 4) 33 16 0) 33 17 0) 33 18 0) = Z
  generalize hK : (u2 (u2 L 33 12 0) 33 15 0) = K
  have zf : Fli I Z := fun k j a b c => by
    rw [← hZ, u2_nc (by omega), u2_nc (by omega), u2_nc (by omega), u2_nc (by omega), u2_nc (by omega), u2_nc (by omega), u2_nc (by omega)]
  have lf : FliL L K := fun k j a => by
    rw [← hK, u2_nc (by omega), u2_nc (by omega)]
  have D : DraftM c0 c0 [] Z K := by
    refine ⟨⟨?_, ?_, ?_, ?_⟩, ⟨?_, fun z => absurd z (by decide), ?_⟩, ?_, fun N hN => absurd hN (Nat.not_lt_zero _)⟩ <;> first | rw [← hZ] | rw [← hK]
    all_goals rfl
  obtain ⟨V, v1, S⟩ := next_M (p := 0) (zf.tap T) (Nat.zero_le _) (show Z 33 22 = Int32.ofNat 0 by rw [← hZ]; rfl) (by rw [← hZ]; rfl)
  have DV : DraftM c0 c0 [] V K := D.ag fun k j a => S.1 k j (by omega)
  have hV : Fli I V := zf.trans S.1.fli
  obtain ⟨a', I1, L1, r1, r2, r3, r4⟩ := lines_M (n + 1) 0 c0 c0 [] 0 V K 4294967296 (by omega) (by omega) (hV.tap T) (Nat.zero_le _) (S.at (Nat.zero_le _)) c0_ok c0_ok ⟨by decide, fun N hN => absurd hN (Nat.not_lt_zero _)⟩ DV
  have hI1 : Fli I I1 := hV.trans r2
  have hL1 : FliL L L1 := lf.trans r3
  rw [v1, ob_some]
  have h20 : ∀ r, F_X9_text_44 I1 L1 a' = r → F_X9_text_20 V K 0 = r := fun r h => by
    unfold F_X9_text_20
    show (lpp (fun x => F_X9_text_20_1 (p1 (p2 x)) (p2 (p2 x)) (p1 x)) 4294967296 (Int32.ofNat 0, V, K)).bind _ = _
    rw [r1]
    exact h
  suffices hs : ∃ v I' L', F_X9_text_44 I1 L1 a' = some (v, I', L') ∧ FaceM I L (textS B n) v I' L' by
    obtain ⟨v, I', L', g1, g2⟩ := hs
    exact ⟨v, I', L', h20 _ g1, g2⟩
  -- a fault ends it
  have hfault : ∀ g J, Fm g J → Fli I J → ∃ v I' L', F_X9_text_101 J L1 a' = some (v, I', L') ∧ FaceM I L (.inl g) v I' L' := fun g J hF hJ => by
    have h26 : ¬ (u2 J 33 21 0) 33 26 ≤ 0 := by
      rw [u2_nc (by omega)]
      exact not_le_f hF
    unfold F_X9_text_101
    rw [if_neg h26, u2_nc (by omega), hF.2]
    refine ⟨_, _, _, rfl, u2_at, fun k j a b c d => ?_, ?_, fun k j a => hL1 k j (by omega), rfl, fun k j a b => ?_, fun j hj => ?_, fun j hj => hL1 33 j (by omega)⟩
    · rw [u2_nc (by omega)]
      exact hJ k j (by omega) (by omega) d
    · rw [u2_nc (by omega)]
      exact hJ 33 46 (by omega) (by omega) (by decide)
    · rw [u2_nc (by omega)]
      exact hJ k j (by omega) (by omega) b
    · rw [u2_nc (by omega)]
      exact hJ 33 j (by omega) (by omega) (by decide)
  unfold textS
  cases hx : linesC B n (n + 1) 0 c0 c0 [] 0 with
  | inl g =>
    rw [hx] at r4
    unfold F_X9_text_44
    rw [if_neg r4.ne]
    exact hfault g I1 r4 hI1
  | inr r =>
    rw [hx] at r4
    obtain ⟨a1, h26, h23, DD, oc, oq, od⟩ := r4
    show ∃ v I' L', _ = _ ∧ FaceM I L (if wholeB (p1 (p2 r)) (p1 (p2 (p2 r))) (p2 (p2 (p2 r))) = true then .inr r else .inl n) v I' L'
    have hcl := oc.2.1
    have hql := oq.2.1
    unfold Cl at hcl hql
    have hss : F_X9_text_44 I1 L1 a' = F_X9_text_86 I1 L1 a' (if sameB (p1 (p2 r)) (p1 (p2 (p2 r))) = true then 1 else 0) := by
      unfold F_X9_text_44 F_X9_text_81 F_X9_text_85 sameB
      rw [if_pos h26, DD.2.1.1]
      by_cases g : p1 (p1 (p2 (p2 r))) = 0
      · rw [g, if_pos (by decide)]
        rfl
      · have g1 : p1 (p1 (p2 (p2 r))) = 1 := by have := oq.1; omega
        obtain ⟨w1, w2⟩ := DD.2.1.2.1 g1
        rw [g1, if_neg (by decide), w1, w2, DD.1.2.1, DD.1.2.2.1, show ((1 : Nat) == 0) = false from rfl, Bool.false_or]
        by_cases y1 : p1 (p2 (p1 (p2 (p2 r)))) = p1 (p2 (p1 (p2 r)))
        · rw [if_pos (by rw [y1])]
          by_cases y2 : p1 (p2 (p2 (p1 (p2 (p2 r))))) = p1 (p2 (p2 (p1 (p2 r))))
          · rw [if_pos (by rw [y2]), if_pos (by rw [Bool.and_eq_true, beq_iff_eq, beq_iff_eq]; exact ⟨y1, y2⟩)]
          · rw [if_neg (fun z => y2 (on_inj (by omega) (by omega) z)), if_neg (fun z => by rw [Bool.and_eq_true, beq_iff_eq, beq_iff_eq] at z; exact y2 z.2)]
        · rw [if_neg (fun z => y1 (on_inj (by omega) (by omega) z)), if_neg (fun z => by rw [Bool.and_eq_true, beq_iff_eq, beq_iff_eq] at z; exact y1 z.1)]
    rw [hss]
    unfold F_X9_text_86 wholeB
    by_cases s : sameB (p1 (p2 r)) (p1 (p2 (p2 r))) = true
    · rw [if_pos s, s, needs_1, areActs_M DD oc od, ob_some]
      by_cases w : ab (fun N => dayB (p1 (p2 r)) ((p2 (p2 (p2 r))).getD N [])) (p2 (p2 (p2 r))).length 0 true = true
      · rw [if_pos w, needs_1]
        simp only [if_pos w]
        unfold F_X9_text_101
        have D2 : DraftM (p1 (p2 r)) (p1 (p2 (p2 r))) (p2 (p2 (p2 r))) (u2 I1 33 21 0) L1 := by
          have e : ∀ j, j ≠ 21 → (u2 I1 33 21 0) 33 j = I1 33 j := fun j hj => u2_nc (by omega)
          have e' : ∀ j, (u2 I1 33 21 0) 38 j = I1 38 j := fun j => u2_nc (by omega)
          unfold DraftM DayM at DD ⊢
          rw [e 16 (by decide), e 10 (by decide), e 11 (by decide), e 17 (by decide), e 13 (by decide), e 14 (by decide), e 18 (by decide)]
          simp only [e']
          exact DD
        obtain ⟨J, j1, j2, j3, j4, j5, j6, j7, j8, j9⟩ := keepDraft_M D2 oq
        rw [if_pos (show (u2 I1 33 21 0) 33 26 ≤ 0 by rw [u2_nc (by omega), h26]; decide), j1, ob_some]
        refine ⟨a', J, (u2 (u2 L1 33 2 (p2 (p2 (p2 (p1 (p2 r)))))) 33 3 (p2 (p2 (p2 (p1 (p2 (p2 r))))))), rfl, ?_, fun k j a b c d => ?_, ?_, fun k j a => ?_, a1, ⟨j2, j3, ?_⟩, ⟨j4, u2_at⟩, j6, j7, j5, fun N hN => ?_⟩
        · exact (j9 33 21 (by omega) (by decide) (by decide)).trans u2_at
        · rw [j9 k j (by omega) b c, u2_nc (by omega)]
          exact hI1 k j (by omega) (by omega) d
        · rw [j9 33 46 (by omega) (by decide) (by decide), u2_nc (by omega)]
          exact hI1 33 46 (by omega) (by omega) (by decide)
        · rw [u2_nc (by omega), u2_nc (by omega)]
          exact hL1 k j (by omega)
        · rw [u2_nc (by omega), u2_at]
        · obtain ⟨q1, q2, q3⟩ := od.2 N hN
          have hM := od.1
          obtain ⟨R1, R2⟩ := DD.2.2.2 N hN
          refine ⟨?_, fun j hj => ?_⟩
          · rw [j8 _ (by omega), u2_nc (by omega)]
            exact R1
          · rw [j8 _ (by omega), u2_nc (by omega)]
            exact R2 j hj
      · rw [if_neg w]
        simp only [if_neg w]
        obtain ⟨hF, hN⟩ := needs_at (c := 7) h26 h23 (by decide)
        exact hfault n _ hF (hI1.trans hN.fli)
    · have s' : sameB (p1 (p2 r)) (p1 (p2 (p2 r))) = false := by rw [Bool.not_eq_true] at s; exact s
      obtain ⟨hF, hN⟩ := needs_at (c := 6) h26 h23 (by decide)
      rw [if_neg s, s', areActs_M (DD.ag fun k j a => hN k j (by omega)) oc od, ob_some, hF.needs, ab_and _ _ false, Bool.false_and, if_neg (show ¬ false = true by decide)]
      exact hfault n _ hF (hI1.trans hN.fli)
