/-! a line of the text, whole: the reference -/
theorem Fm.ag {g : Nat} {I J : WI} (h : Fm g I) (hJ : ∀ j, 22 ≤ j → j ≤ 27 → J 33 j = I 33 j) : Fm g J := by
  unfold Fm at h ⊢
  rw [hJ 26 (by decide) (by decide), hJ 27 (by decide) (by decide)]
  exact h
theorem MAt.ag {B : Nat → Nat} {n p : Nat} {I J : WI} (A : MAt B n p I) (hJ : ∀ j, 22 ≤ j → j ≤ 27 → J 33 j = I 33 j) : MAt B n p J := by
  unfold MAt AtM Fm at A ⊢
  rw [hJ 24 (by decide) (by decide), hJ 23 (by decide) (by decide), hJ 22 (by decide) (by decide), hJ 26 (by decide) (by decide), hJ 25 (by decide) (by decide), hJ 27 (by decide) (by decide)]
  exact A
theorem blame91 {g : Nat} {I : WI} {L : WL} {a s : Int32} (h : Fm g (F_X9_needs I s 4)) : F_X9_readLine_91 I L a s = some (F_X9_needs I s 4, L) := by
  unfold F_X9_readLine_91
  rw [h.next, ob_some, if_neg (show ¬ (F_X9_needs I s 4 33 26) ≤ 0 from fun q => by
    have := h.1
    rw [Int32.le_iff_toInt_le] at q
    have : (0 : Int32).toInt = 0 := by decide
    omega)]
theorem rest91 {g : Nat} {J : WI} {L : WL} {a s : Int32} (h : Fm g J) : F_X9_readLine_91 J L a s = some (J, L) := by
  have e : F_X9_needs J s 4 = J := h.needs
  have := blame91 (I := J) (L := L) (a := a) (s := s) (g := g) (by rw [e]; exact h)
  rw [e] at this
  exact this
theorem rest73 {g : Nat} {J : WI} {L : WL} {a : Int32} (h : Fm g J) : F_X9_readLine_73 J L a = some (J, L) := by
  unfold F_X9_readLine_73 F_X9_readLine_86 F_X9_readLine_90
  rw [rest91 h, rest91 h]
  split
  · split <;> rfl
  · rfl
theorem blame55 {g : Nat} {I : WI} {L : WL} {a s : Int32} (h : Fm g (F_X9_needs I s 5)) : F_X9_readLine_55 I L a s = some (F_X9_needs I s 5, L) := by
  unfold F_X9_readLine_55 F_X9_readLine_90
  rw [rest91 h, rest73 h]
  split
  · split <;> rfl
  · rfl
theorem blame30 {g : Nat} {I : WI} {L : WL} {a s : Int32} (h : Fm g (F_X9_needs I s 2)) : F_X9_readLine_30 I L a s = some (F_X9_needs I s 2, L) := by
  have key : ∀ t, F_X9_readLine_55 (F_X9_needs I s 2) L a t = some (F_X9_needs I s 2, L) := fun t => by
    have e : F_X9_needs (F_X9_needs I s 2) t 5 = F_X9_needs I s 2 := h.needs
    have := blame55 (I := F_X9_needs I s 2) (L := L) (a := a) (s := t) (g := g) (by rw [e]; exact h)
    rw [e] at this
    exact this
  unfold F_X9_readLine_30 F_X9_readLine_50
  rw [key, key]
  split
  · split <;> rfl
  · rfl
/-- a day as the reference drafts it -/
def DayM (N : Nat) (l : List Nat) (I : WI) : Prop := I 38 (4 * N) = Int32.ofNat l.length ∧ ∀ j, j < l.length → I 38 (4 * N + 1 + j) = Int32.ofNat (l.getD j 0)
def DraftM (c q : Nat × Nat × Nat × Int64) (ds : List (List Nat)) (I : WI) (L : WL) : Prop := (I 33 16 = Int32.ofNat (p1 c) ∧ I 33 10 = Int32.ofNat (p1 (p2 c)) ∧ I 33 11 = Int32.ofNat (p1 (p2 (p2 c))) ∧ L 33 12 = p2 (p2 (p2 c))) ∧ (I 33 17 = Int32.ofNat (p1 q) ∧ (p1 q = 1 → I 33 13 = Int32.ofNat (p1 (p2 q)) ∧ I 33 14 = Int32.ofNat (p1 (p2 (p2 q)))) ∧ L 33 15 = p2 (p2 (p2 q))) ∧ I 33 18 = Int32.ofNat ds.length ∧ ∀ N, N < ds.length → DayM N (ds.getD N []) I
theorem DraftM.ag {c q : Nat × Nat × Nat × Int64} {ds : List (List Nat)} {I J : WI} {L : WL} (D : DraftM c q ds I L) (hJ : ∀ k j, ¬ (k = 33 ∧ 22 ≤ j ∧ j ≤ 29) → J k j = I k j) : DraftM c q ds J L := by
  unfold DraftM DayM at D ⊢
  rw [hJ 33 16 (by omega), hJ 33 10 (by omega), hJ 33 11 (by omega), hJ 33 17 (by omega), hJ 33 13 (by omega), hJ 33 14 (by omega), hJ 33 18 (by omega)]
  refine ⟨D.1, D.2.1, D.2.2.1, fun N hN => ?_⟩
  rw [hJ 38 _ (by omega)]
  refine ⟨(D.2.2.2 N hN).1, fun j hj => ?_⟩
  rw [hJ 38 _ (by omega)]
  exact (D.2.2.2 N hN).2 j hj
/-- what may change while a line is read -/
def Fli (I J : WI) : Prop := ∀ k j, ¬ (k = 33 ∧ 10 ≤ j ∧ j ≤ 18) → ¬ (k = 33 ∧ 22 ≤ j ∧ j ≤ 29) → k ≠ 38 → J k j = I k j
def FliL (L K : WL) : Prop := ∀ k j, ¬ (k = 33 ∧ (j = 12 ∨ j = 15 ∨ j = 30)) → K k j = L k j
theorem Fli.rfl {I : WI} : Fli I I := fun _ _ _ _ _ => Eq.refl _
theorem FliL.rfl {L : WL} : FliL L L := fun _ _ _ => Eq.refl _
theorem Fli.trans {I J K : WI} (a : Fli I J) (b : Fli J K) : Fli I K := fun k j p q r => (b k j p q r).trans (a k j p q r)
theorem FliL.trans {I J K : WL} (a : FliL I J) (b : FliL J K) : FliL I K := fun k j p => (b k j p).trans (a k j p)
theorem Fn.fli {I J : WI} (h : Fn I J) : Fli I J := fun k j _ a _ => h k j (by omega)
theorem Fli.tap {I J : WI} {B : Nat → Nat} {n : Nat} (a : Fli I J) (T : TapM B n I) : TapM B n J := T.ag fun k j h => a k j (by omega) (by omega) (by omega)
/-- rows, kept as an image of the draft, and the line's end -/
theorem img_M {B : Nat → Nat} {n p t h w s : Nat} {I : WI} {L : WL} (ht : t ≤ 18 ∧ h ≤ 18 ∧ w ≤ 18 ∧ t ≠ h ∧ t ≠ w ∧ h ≠ w) (hs : s ≠ 30) (T : TapM B n I) (hp : p ≤ n) (A : MAt B n p I) : ∃ I' L', Option.bind (F_X9_readRows I L) (fun v17 => F_X9_readLine_191 (u2 (u2 (u2 (p1 v17) 33 t 1) 33 h ((u2 (p1 v17) 33 t 1) 33 28)) 33 w ((u2 (u2 (p1 v17) 33 t 1) 33 h ((u2 (p1 v17) 33 t 1) 33 28)) 33 29)) (u2 (p2 v17) 33 s ((p2 v17) 33 30))) = some (I', L') ∧ (∀ k j, ¬ (k = 33 ∧ 22 ≤ j ∧ j ≤ 29) → ¬ (k = 33 ∧ (j = t ∨ j = h ∨ j = w)) → I' k j = I k j) ∧ (∀ k j, ¬ (k = 33 ∧ (j = s ∨ j = 30)) → L' k j = L k j) ∧ match rowsS B n 9 0 0 0 p with
  | .inl g => Fm g I'
  | .inr r => MAt B n (p1 r) I' ∧ I' 33 t = 1 ∧ I' 33 h = Int32.ofNat (p1 (p2 r)) ∧ I' 33 w = Int32.ofNat (p1 (p2 (p2 r))) ∧ L' 33 s = p2 (p2 (p2 r)) := by
  obtain ⟨W, K, r1, r2, r3, r4⟩ := readRows_M (L := L) T hp A
  rw [r1, ob_some]
  show ∃ I' L', F_X9_readLine_191 (u2 (u2 (u2 W 33 t 1) 33 h ((u2 W 33 t 1) 33 28)) 33 w ((u2 (u2 W 33 t 1) 33 h ((u2 W 33 t 1) 33 28)) 33 29)) (u2 K 33 s (K 33 30)) = some (I', L') ∧ _
  rw [u2_nc (a := 33) (b := 28) (by omega), u2_nc (a := 33) (b := 29) (by omega), u2_nc (a := 33) (b := 29) (by omega)]
  generalize hZ : (u2 (u2 (u2 W 33 t 1) 33 h (W 33 28)) 33 w (W 33 29)) = Z
  have z1 : ∀ k j, ¬ (k = 33 ∧ (j = t ∨ j = h ∨ j = w)) → Z k j = W k j := fun k j q => by
    rw [← hZ, u2_nc (by omega), u2_nc (by omega), u2_nc (by omega)]
  have zt : Z 33 t = 1 := by rw [← hZ, u2_nc (by omega), u2_nc (by omega), u2_at]
  have zh : Z 33 h = W 33 28 := by rw [← hZ, u2_nc (by omega), u2_at]
  have zw : Z 33 w = W 33 29 := by rw [← hZ, u2_at]
  have zf : ∀ k j, ¬ (k = 33 ∧ 22 ≤ j ∧ j ≤ 29) → ¬ (k = 33 ∧ (j = t ∨ j = h ∨ j = w)) → Z k j = I k j := fun k j a b => (z1 k j b).trans (r2 k j a)
  have lf : ∀ k j, ¬ (k = 33 ∧ (j = s ∨ j = 30)) → (u2 K 33 s (K 33 30)) k j = L k j := fun k j q => by
    rw [u2_nc (by omega)]
    exact r3 k j (by omega)
  have TZ : TapM B n Z := T.ag fun k j q => zf k j (by omega) (by omega)
  rcases r4 with ⟨g, g1, g2⟩ | ⟨p', m, wd, q1, q2, q3, q4, q5, q6⟩
  · have hF : Fm g Z := g2.ag fun j a b => z1 33 j (by omega)
    rw [tail_f hF, g1]
    exact ⟨Z, _, rfl, zf, lf, hF⟩
  · have hA : MAt B n p' Z := q2.ag fun j a b => z1 33 j (by omega)
    obtain ⟨V, v1, v2, v3⟩ := tail_M (L := u2 K 33 s (K 33 30)) TZ q1 hA q3
    have hfr : ∀ k j, ¬ (k = 33 ∧ 22 ≤ j ∧ j ≤ 29) → ¬ (k = 33 ∧ (j = t ∨ j = h ∨ j = w)) → V k j = I k j := fun k j a b => (v2 k j (by omega)).trans (zf k j a b)
    refine ⟨V, _, v1, hfr, lf, ?_⟩
    by_cases d : tk B n (tf B n p') = 3
    · rw [if_pos d] at v3 q4
      rw [q4]
      refine ⟨v3, ?_, ?_, ?_, u2_at⟩
      · exact (v2 33 t (by omega)).trans zt
      · exact (v2 33 h (by omega)).trans (zh.trans q5)
      · exact (v2 33 w (by omega)).trans (zw.trans q6)
    · rw [if_neg d] at v3 q4
      rw [q4]
      exact v3
/-- a day and the line's end -/
theorem day_M {B : Nat → Nat} {n p N : Nat} {I : WI} {L : WL} (hN : N < 12) (T : TapM B n I) (hp : p ≤ n) (A : MAt B n p I) (h18 : I 33 18 = Int32.ofNat N) : ∃ I', Option.bind (F_X9_readDay I) (fun v13 => F_X9_readLine_191 v13 L) = some (I', L) ∧ (∀ k j, ¬ (k = 33 ∧ 22 ≤ j ∧ j ≤ 29) → ¬ (k = 33 ∧ j = 18) → ¬ (k = 38 ∧ 4 * N ≤ j) → I' k j = I k j) ∧ match actsS B n 4 [] p with
  | .inl g => Fm g I'
  | .inr r => MAt B n (p1 r) I' ∧ I' 33 18 = Int32.ofNat (N + 1) ∧ DayM N (p2 r) I' := by
  obtain ⟨W, r1, r2, r3⟩ := readDay_M hN T hp A h18
  rw [r1, ob_some]
  have TW : TapM B n W := T.ag fun k j q => r2 k j (by omega) (by omega) (by omega)
  rcases r3 with ⟨g, g1, g2⟩ | ⟨p', l, q1, q2, q3, q4, q5, q6, q7, q8⟩
  · rw [tail_f g2, g1]
    exact ⟨W, rfl, fun k j a b c => r2 k j (by omega) b c, g2⟩
  · obtain ⟨V, v1, v2, v3⟩ := tail_M (L := L) TW q1 q2 q3
    refine ⟨V, v1, fun k j a b c => (v2 k j (by omega)).trans (r2 k j (by omega) b c), ?_⟩
    by_cases d : tk B n (tf B n p') = 3
    · rw [if_pos d] at v3 q4
      rw [q4]
      refine ⟨v3, (v2 33 18 (by omega)).trans q5, (v2 38 (4 * N) (by omega)).trans q6, fun j hj => ?_⟩
      exact (v2 38 _ (by omega)).trans (q8 j hj)
    · rw [if_neg d] at v3 q4
      rw [q4]
      exact v3
theorem rowsS_4 {B : Nat → Nat} {n p : Nat} (h : tk B n (tf B n p) = 4) : rowsS B n 9 0 0 0 p = .inl (tf B n p) := by
  unfold rowsS
  rw [if_neg (show ¬ (0 < 0 ∧ tk B n (tf B n p) = 3) from fun q => absurd q.1 (by decide)), if_neg (show ¬ goodRow B n 0 0 (tf B n p) = true from fun q => by have := (goodRow_iff.mp q).1; omega)]
theorem actsS_4 {B : Nat → Nat} {n p : Nat} (h : tk B n (tf B n p) = 4) : actsS B n 4 [] p = .inl (tf B n p) := by
  unfold actsS
  rw [if_neg (show ¬ (0 < ([] : List Nat).length ∧ tk B n (tf B n p) = 3) from fun q => absurd q.1 (by decide)), if_neg (show ¬ (tk B n (tf B n p) = 1 ∧ kdS B (tf B n p) (te B n (tf B n p)) < 3 ∧ ([] : List Nat).length < 3) from fun q => by have := q.1; omega)]
def LineM (B : Nat → Nat) (n : Nat) (I : WI) (L : WL) (x : Nat ⊕ (Nat × (Nat × Nat × Nat × Int64) × (Nat × Nat × Nat × Int64) × List (List Nat))) (I' : WI) (L' : WL) : Prop := Fli I I' ∧ FliL L L' ∧ match x with
  | .inl g => Fm g I'
  | .inr r => MAt B n (p1 r) I' ∧ DraftM (p1 (p2 r)) (p1 (p2 (p2 r))) (p2 (p2 (p2 r))) I' L'
theorem line_M {B : Nat → Nat} {n p : Nat} {I : WI} {L : WL} {c q : Nat × Nat × Nat × Int64} {ds : List (List Nat)} (T : TapM B n I) (hp : p ≤ n) (A : MAt B n p I) (c4 : tk B n (tf B n p) ≠ 4) (hc : ImOk c) (hq : ImOk q) (hd : DsOk ds) (D : DraftM c q ds I L) : ∃ I' L', F_X9_readLine I L = some (I', L') ∧ LineM B n I L (lineS B n c q ds (tf B n p)) I' L' := by
  have hfp := tf_le (B := B) hp
  have hte := te_le (B := B) (f := tf B n p) hfp.2
  obtain ⟨⟨a1, a2, a3, a4, a5⟩, h26, -⟩ := A.1 c4
  generalize hf : tf B n p = f at *
  obtain ⟨D1, D2, D3, D4⟩ := D
  obtain ⟨d1, d2, d3, d4⟩ := D1
  obtain ⟨e1, e2, e3⟩ := D2
  have hbad : ∀ cc : Int32, 0 < cc.toInt → LineM B n I L (.inl f) (F_X9_needs I 0 cc) L := fun cc hcc => by
    obtain ⟨hF, hN⟩ := needs_at (c := cc) h26 a2 hcc
    exact ⟨hN.fli, FliL.rfl, hF⟩
  have hneg : tk B n f ≠ 1 ∨ ¬ (nmb B f (te B n f) 0 = true ∨ nmb B f (te B n f) 1 = true ∨ nmb B f (te B n f) 2 = true) → F_X9_readLine I L = F_X9_readLine_17 I L (-4) := fun h => by
    unfold F_X9_readLine
    rw [a1]
    by_cases k : tk B n f = 1
    · have h' := h.resolve_left (fun z => z k)
      rw [if_pos (show Int32.ofNat (tk B n f) = 1 by rw [k]; rfl), lineNow_M T ⟨by rw [a1, k], a2, a3, a4, a5⟩, ob_some, if_neg (fun z => h' (.inl z)), if_neg (fun z => h' (.inr (.inl z))), if_neg (fun z => h' (.inr (.inr z)))]
    · rw [if_neg (show ¬ Int32.ofNat (tk B n f) = 1 from fun z => k (on_inj (b := 1) (by omega) (by decide) z))]
  have hpos : ∀ a, tk B n f = 1 → (if nmb B f (te B n f) 0 = true then (10 : Int32) else if nmb B f (te B n f) 1 = true then 11 else if nmb B f (te B n f) 2 = true then 12 else -4) = a → F_X9_readLine I L = F_X9_readLine_17 I L a := fun a k h => by
    unfold F_X9_readLine
    rw [a1, if_pos (show Int32.ofNat (tk B n f) = 1 by rw [k]; rfl), lineNow_M T ⟨by rw [a1, k], a2, a3, a4, a5⟩, ob_some, h]
  obtain ⟨V, v1, S⟩ := next_M (p := te B n f) T hte.2.1 a3 h26
  have AV := S.at hte.2.1
  have TV := S.1.tap T
  have h91 : ∀ a, tk B n (tf B n (te B n f)) = 4 → F_X9_readLine_91 I L a 1 = some (V, L) := fun a k => by
    have hF := AV.2 k
    unfold F_X9_readLine_91
    rw [needs_1, v1, ob_some, if_neg (show ¬ (V 33 26) ≤ 0 from fun q => by
      have := hF.1
      rw [Int32.le_iff_toInt_le] at q
      have : (0 : Int32).toInt = 0 := by decide
      omega)]
  have h91' : ∀ a, tk B n (tf B n (te B n f)) ≠ 4 → F_X9_readLine_91 I L a 1 = (if a = 12 then (Option.bind (F_X9_readDay V) (fun v13 => (F_X9_readLine_191 v13 L))) else (Option.bind (F_X9_readRows V L) (fun v17 => (if a = 10 then (F_X9_readLine_191 (u2 (u2 (u2 (p1 v17) 33 16 1) 33 10 ((u2 (p1 v17) 33 16 1) 33 28)) 33 11 ((u2 (u2 (p1 v17) 33 16 1) 33 10 ((u2 (p1 v17) 33 16 1) 33 28)) 33 29)) (u2 (p2 v17) 33 12 ((p2 v17) 33 30))) else (F_X9_readLine_191 (u2 (u2 (u2 (p1 v17) 33 17 1) 33 13 ((u2 (p1 v17) 33 17 1) 33 28)) 33 14 ((u2 (u2 (p1 v17) 33 17 1) 33 13 ((u2 (p1 v17) 33 17 1) 33 28)) 33 29)) (u2 (p2 v17) 33 15 ((p2 v17) 33 30))))))) := fun a k => by
    unfold F_X9_readLine_91
    rw [needs_1, v1, ob_some, if_pos (show (V 33 26) ≤ 0 by rw [(AV.1 k).2.1]; decide)]
  have hb0 : bz (0 : Int32) = 0 := by decide
  have hb1 : ¬ bz (1 : Int32) = 0 := by decide
  unfold lineS
  by_cases k1 : tk B n f = 1
  · by_cases n0 : nmb B f (te B n f) 0 = true
    · -- cloth
      rw [if_pos ⟨k1, n0⟩, hpos 10 k1 (by rw [if_pos n0])]
      unfold F_X9_readLine_17 F_X9_readLine_30 F_X9_readLine_50 F_X9_readLine_55 F_X9_readLine_90
      rw [if_neg (show ¬ (10 : Int32) = -4 by decide), if_neg (show ¬ (10 : Int32) = 12 by decide), needs_1, needs_1, if_pos rfl, d1]
      unfold imgS
      by_cases g : p1 c = 0
      · rw [if_pos g, g, if_pos (show bz (Int32.ofNat 0) = 0 from hb0)]
        unfold F_X9_readLine_73 F_X9_readLine_86
        rw [if_neg (show ¬ (10 : Int32) = 11 by decide)]
        by_cases k4 : tk B n (tf B n (te B n f)) = 4
        · rw [h91 _ k4, rowsS_4 k4]
          exact ⟨V, L, rfl, S.1.fli, FliL.rfl, AV.2 k4⟩
        · rw [h91' _ k4, if_neg (show ¬ (10 : Int32) = 12 by decide)]
          simp only [if_pos (show (10 : Int32) = 10 from rfl)]
          obtain ⟨I', L', r1, r2, r3, r4⟩ := img_M (t := 16) (h := 10) (w := 11) (s := 12) (L := L) (by decide) (by decide) TV hte.2.1 AV
          refine ⟨I', L', r1, fun k j x y z => (r2 k j y (by omega)).trans (S.1 k j (by omega)), fun k j x => r3 k j (by omega), ?_⟩
          cases hr : rowsS B n 9 0 0 0 (te B n f) with
          | inl x =>
            rw [hr] at r4
            exact r4
          | inr x =>
            rw [hr] at r4
            obtain ⟨b1, b2, b3, b4, b5⟩ := r4
            have hh : ∀ k j, ¬ (k = 33 ∧ 22 ≤ j ∧ j ≤ 29) → ¬ (k = 33 ∧ (j = 16 ∨ j = 10 ∨ j = 11)) → I' k j = I k j := fun k j y z => (r2 k j y z).trans (S.1 k j (by omega))
            refine ⟨b1, ⟨b2, b3, b4, b5⟩, ⟨?_, fun z => ⟨?_, ?_⟩, ?_⟩, ?_, fun N hN => ⟨?_, fun j hj => ?_⟩⟩
            · exact (hh 33 17 (by omega) (by omega)).trans e1
            · exact (hh 33 13 (by omega) (by omega)).trans (e2 z).1
            · exact (hh 33 14 (by omega) (by omega)).trans (e2 z).2
            · exact (r3 33 15 (by omega)).trans e3
            · exact (hh 33 18 (by omega) (by omega)).trans D3
            · exact (hh 38 _ (by omega) (by omega)).trans (D4 N hN).1
            · exact (hh 38 _ (by omega) (by omega)).trans ((D4 N hN).2 j hj)
      · have g1 : p1 c = 1 := by have := hc.1; omega
        rw [if_neg g, g1, if_neg (show ¬ bz (Int32.ofNat 1) = 0 from hb1), blame91 (needs_at (c := 4) h26 a2 (by decide)).1]
        exact ⟨_, L, rfl, hbad 4 (by decide)⟩
    by_cases n1 : nmb B f (te B n f) 1 = true
    · -- pattern
      rw [if_neg (fun z => n0 z.2), if_pos ⟨k1, n1⟩, hpos 11 k1 (by rw [if_neg n0, if_pos n1])]
      unfold F_X9_readLine_17 F_X9_readLine_30 F_X9_readLine_50 F_X9_readLine_55 F_X9_readLine_73 F_X9_readLine_90 F_X9_readLine_86
      rw [if_neg (show ¬ (11 : Int32) = -4 by decide), if_neg (show ¬ (11 : Int32) = 12 by decide), needs_1, needs_1, if_neg (show ¬ (11 : Int32) = 10 by decide), if_pos rfl, e1]
      unfold imgS
      by_cases g : p1 q = 0
      · rw [if_pos g, g, if_pos (show bz (Int32.ofNat 0) = 0 from hb0)]
        by_cases k4 : tk B n (tf B n (te B n f)) = 4
        · rw [h91 _ k4, rowsS_4 k4]
          exact ⟨V, L, rfl, S.1.fli, FliL.rfl, AV.2 k4⟩
        · rw [h91' _ k4, if_neg (show ¬ (11 : Int32) = 12 by decide)]
          simp only [if_neg (show ¬ (11 : Int32) = 10 by decide)]
          obtain ⟨I', L', r1, r2, r3, r4⟩ := img_M (t := 17) (h := 13) (w := 14) (s := 15) (L := L) (by decide) (by decide) TV hte.2.1 AV
          refine ⟨I', L', r1, fun k j x y z => (r2 k j y (by omega)).trans (S.1 k j (by omega)), fun k j x => r3 k j (by omega), ?_⟩
          cases hr : rowsS B n 9 0 0 0 (te B n f) with
          | inl x =>
            rw [hr] at r4
            exact r4
          | inr x =>
            rw [hr] at r4
            obtain ⟨b1, b2, b3, b4, b5⟩ := r4
            have hh : ∀ k j, ¬ (k = 33 ∧ 22 ≤ j ∧ j ≤ 29) → ¬ (k = 33 ∧ (j = 17 ∨ j = 13 ∨ j = 14)) → I' k j = I k j := fun k j y z => (r2 k j y z).trans (S.1 k j (by omega))
            refine ⟨b1, ⟨?_, ?_, ?_, ?_⟩, ⟨b2, fun _ => ⟨b3, b4⟩, b5⟩, ?_, fun N hN => ⟨?_, fun j hj => ?_⟩⟩
            · exact (hh 33 16 (by omega) (by omega)).trans d1
            · exact (hh 33 10 (by omega) (by omega)).trans d2
            · exact (hh 33 11 (by omega) (by omega)).trans d3
            · exact (r3 33 12 (by omega)).trans d4
            · exact (hh 33 18 (by omega) (by omega)).trans D3
            · exact (hh 38 _ (by omega) (by omega)).trans (D4 N hN).1
            · exact (hh 38 _ (by omega) (by omega)).trans ((D4 N hN).2 j hj)
      · have g1 : p1 q = 1 := by have := hq.1; omega
        rw [if_neg g, g1, if_neg (show ¬ bz (Int32.ofNat 1) = 0 from hb1), blame91 (needs_at (c := 4) h26 a2 (by decide)).1]
        exact ⟨_, L, rfl, hbad 4 (by decide)⟩
    by_cases n2 : nmb B f (te B n f) 2 = true
    · -- day
      rw [if_neg (fun z => n0 z.2), if_neg (fun z => n1 z.2), if_pos ⟨k1, n2⟩, hpos 12 k1 (by rw [if_neg n0, if_neg n1, if_pos n2])]
      unfold F_X9_readLine_17 F_X9_readLine_30 F_X9_readLine_50
      rw [if_neg (show ¬ (12 : Int32) = -4 by decide), if_pos (show (12 : Int32) = 12 from rfl), needs_1, D3]
      have hdl := hd.1
      by_cases g : ds.length < 12
      · rw [if_pos g, if_neg (show ¬ (12 : Int32) ≤ Int32.ofNat ds.length from fun z => absurd ((ge_on (a := 12) (by decide) (by omega)).mp z) (by omega))]
        unfold F_X9_readLine_55 F_X9_readLine_73 F_X9_readLine_86
        rw [needs_1, if_neg (show ¬ (12 : Int32) = 10 by decide), if_neg (show ¬ (12 : Int32) = 11 by decide)]
        by_cases k4 : tk B n (tf B n (te B n f)) = 4
        · rw [h91 _ k4, actsS_4 k4]
          exact ⟨V, L, rfl, S.1.fli, FliL.rfl, AV.2 k4⟩
        · rw [h91' _ k4, if_pos (show (12 : Int32) = 12 from rfl)]
          obtain ⟨I', r1, r2, r3⟩ := day_M (L := L) g TV hte.2.1 AV ((S.1 33 18 (by omega)).trans D3)
          have hh : ∀ k j, ¬ (k = 33 ∧ 22 ≤ j ∧ j ≤ 29) → ¬ (k = 33 ∧ j = 18) → ¬ (k = 38 ∧ 4 * ds.length ≤ j) → I' k j = I k j := fun k j x y z => (r2 k j x y z).trans (S.1 k j (by omega))
          refine ⟨I', L, r1, fun k j x y z => hh k j y (by omega) (by omega), FliL.rfl, ?_⟩
          cases hr : actsS B n 4 [] (te B n f) with
          | inl x =>
            rw [hr] at r3
            exact r3
          | inr x =>
            rw [hr] at r3
            obtain ⟨b1, b2, b3⟩ := r3
            refine ⟨b1, ⟨?_, ?_, ?_, d4⟩, ⟨?_, fun z => ⟨?_, ?_⟩, e3⟩, ?_, fun N hN => ?_⟩
            · exact (hh 33 16 (by omega) (by omega) (by omega)).trans d1
            · exact (hh 33 10 (by omega) (by omega) (by omega)).trans d2
            · exact (hh 33 11 (by omega) (by omega) (by omega)).trans d3
            · exact (hh 33 17 (by omega) (by omega) (by omega)).trans e1
            · exact (hh 33 13 (by omega) (by omega) (by omega)).trans (e2 z).1
            · exact (hh 33 14 (by omega) (by omega) (by omega)).trans (e2 z).2
            · show I' 33 18 = Int32.ofNat (ds ++ [p2 x]).length
              rw [List.length_append]
              exact b2
            · show DayM N ((ds ++ [p2 x]).getD N []) I'
              have hN' : N < ds.length + 1 := by
                have : N < (ds ++ [p2 x]).length := hN
                rwa [List.length_append] at this
              by_cases e : N = ds.length
              · rw [e, show (ds ++ [p2 x]).getD ds.length [] = p2 x by simp [List.getD_eq_getElem?_getD]]
                exact b3
              · have hl : (ds ++ [p2 x]).getD N [] = ds.getD N [] := by
                  rw [List.getD_eq_getElem?_getD, List.getD_eq_getElem?_getD, List.getElem?_append_left (by omega)]
                have o := hd.2 N (by omega)
                rw [hl]
                refine ⟨(hh 38 _ (by omega) (by omega) (by omega)).trans (D4 N (by omega)).1, fun j hj => ?_⟩
                exact (hh 38 _ (by omega) (by omega) (by omega)).trans ((D4 N (by omega)).2 j hj)
      · rw [if_neg g, if_pos (show (12 : Int32) ≤ Int32.ofNat ds.length from (ge_on (a := 12) (by decide) (by omega)).mpr (by omega)), blame55 (needs_at (c := 5) h26 a2 (by decide)).1]
        exact ⟨_, L, rfl, hbad 5 (by decide)⟩
    · rw [if_neg (fun z => n0 z.2), if_neg (fun z => n1 z.2), if_neg (fun z => n2 z.2), hneg (.inr (fun z => z.elim n0 (fun z => z.elim n1 n2)))]
      unfold F_X9_readLine_17
      rw [if_pos rfl, blame30 (needs_at (c := 2) h26 a2 (by decide)).1]
      exact ⟨_, L, rfl, hbad 2 (by decide)⟩
  · rw [if_neg (fun z => k1 z.1), if_neg (fun z => k1 z.1), if_neg (fun z => k1 z.1), hneg (.inl k1)]
    unfold F_X9_readLine_17
    rw [if_pos rfl, blame30 (needs_at (c := 2) h26 a2 (by decide)).1]
    exact ⟨_, L, rfl, hbad 2 (by decide)⟩
