theorem lpp_r {R S : Type} {f : S → Option (R ⊕ S)} {n : Nat} {s s' : S} (h : f s = some (.inr s')) : lpp f (n + 1) s = lpp f n s' := by rw [lpp, h]
theorem lpp_l {R S : Type} {f : S → Option (R ⊕ S)} {n : Nat} {s : S} {r : R} (h : f s = some (.inl r)) : lpp f (n + 1) s = some r := by rw [lpp, h]
theorem fr0_inv {S : Type} {g : Int32 → S → S} {B : Int32} (P : S → Prop) (h : ∀ i s, P s → P (g i s)) : ∀ (n : Nat) (i : Int32) (s : S), P s → P (p2 (fr0 g B n i s)) := by
  intro n
  induction n with
  | zero => intro i s hs; rw [fr0]; exact hs
  | succ n ih =>
    intro i s hs
    rw [fr0]
    split
    · exact hs
    · exact ih _ _ (h _ _ hs)
theorem ad74 (s : WI) (X : Int64) (h : s 9 0 = 0) : p2 (F_X5_add_74 s X) 9 0 = 8 := by
  show u2 s 9 0 ((s 9 0) + 8) 9 0 = 8
  rw [h]
  rfl
theorem ad74b (s : WI) (X : Int64) (h : s 33 21 = 0) : p2 (F_X5_add_74 s X) 33 21 = 0 := by
  show u2 s 9 0 ((s 9 0) + 8) 33 21 = 0
  rw [u2_ne (by decide)]
  exact h
theorem fx_add (X : Int64) : p1 (F_X8_feed I0 X) = 8 := by
  have h1 : p1 (F_X5_add I0 X) = 1 ∧ p2 (F_X5_add I0 X) 9 0 = 8 := by
    have e : F_X5_add I0 X = F_X5_add_21 I0 X 0 := by
      unfold F_X5_add
      rw [if_neg (by decide), if_pos (by decide)]
    rw [e]
    show p1 (F_X5_add_74 _ X) = 1 ∧ p2 (F_X5_add_74 (p2 (fr0 (fun i x => F_X5_add_27_1 x X i) 8 (fu 0 8) 0 I0)) X) 9 0 = 8
    refine ⟨rfl, ?_⟩
    have hi := fr0_inv (B := 8) (g := fun i x => F_X5_add_27_1 x X i) (fun s : WI => s 9 0 = 0) (fun i s hs => by
      show F_X5_add_27_1 s X i 9 0 = 0
      unfold F_X5_add_27_1
      split
      · exact hs
      · split
        · exact hs
        · show u2 s 10 _ _ 9 0 = 0
          rw [u2_ne (by decide)]
          exact hs) (fu 0 8) 0 I0 (by decide)
    exact ad74 _ X hi
  unfold F_X8_feed
  rw [if_neg (by rw [h1.1]; decide)]
  exact h1.2
theorem fm_step (X : Int64) (k : Nat) (hk : k < 8) (c c' : Int32) (hc : c = 56 - 8 * Int32.ofNat k) (hc' : c' = 56 - 8 * Int32.ofNat (k + 1)) (I : WI) (hI : I 33 21 = Int32.ofNat k) : ∃ I', F_X9_feed_19_1 I X c = some (.inr (c', I')) ∧ I' 33 21 = Int32.ofNat (k + 1) := by
  have h1 : ∀ k, k < 8 → ¬ (56 - 8 * Int32.ofNat k) < 0 ∧ ¬ (Int32.ofNat k < 0 ∨ 320 ≤ Int32.toNatClampNeg (Int32.ofNat k)) ∧ (56 - 8 * Int32.ofNat k) + (-8) = 56 - 8 * Int32.ofNat (k + 1) ∧ Int32.ofNat k + 1 = Int32.ofNat (k + 1) := by decide +kernel
  obtain ⟨b1, b2, b3, b4⟩ := h1 k hk
  subst hc
  subst hc'
  unfold F_X9_feed_19_1
  rw [if_neg b1, if_neg (by rw [hI]; exact b2), b3]
  refine ⟨_, rfl, ?_⟩
  show (u2 I 39 _ _ 33 21) + 1 = _
  rw [u2_ne (by decide), hI, b4]
theorem fm_add (X : Int64) (I : WI) (hI : I 33 21 = 0) : ∃ w, F_X9_feed I X = some w ∧ p1 w = 8 := by
  obtain ⟨I1, s1, h1⟩ := fm_step X 0 (by decide) 56 48 (by decide) (by decide) I hI
  obtain ⟨I2, s2, h2⟩ := fm_step X 1 (by decide) 48 40 (by decide) (by decide) I1 h1
  obtain ⟨I3, s3, h3⟩ := fm_step X 2 (by decide) 40 32 (by decide) (by decide) I2 h2
  obtain ⟨I4, s4, h4⟩ := fm_step X 3 (by decide) 32 24 (by decide) (by decide) I3 h3
  obtain ⟨I5, s5, h5⟩ := fm_step X 4 (by decide) 24 16 (by decide) (by decide) I4 h4
  obtain ⟨I6, s6, h6⟩ := fm_step X 5 (by decide) 16 8 (by decide) (by decide) I5 h5
  obtain ⟨I7, s7, h7⟩ := fm_step X 6 (by decide) 8 0 (by decide) (by decide) I6 h6
  obtain ⟨I8', s8, h8⟩ := fm_step X 7 (by decide) 0 (-8) (by decide) (by decide) I7 h7
  have s9 : F_X9_feed_19_1 I8' X (-8) = some (.inl I8') := by
    unfold F_X9_feed_19_1
    rw [if_pos (by decide)]
  have e : lpp (fun x => F_X9_feed_19_1 (p2 x) X (p1 x)) 4294967296 (56, I) = some I8' :=
    (lpp_r (n := 4294967295) (s' := (48, I1)) s1).trans <| (lpp_r (n := 4294967294) (s' := (40, I2)) s2).trans <| (lpp_r (n := 4294967293) (s' := (32, I3)) s3).trans <| (lpp_r (n := 4294967292) (s' := (24, I4)) s4).trans <| (lpp_r (n := 4294967291) (s' := (16, I5)) s5).trans <| (lpp_r (n := 4294967290) (s' := (8, I6)) s6).trans <| (lpp_r (n := 4294967289) (s' := (0, I7)) s7).trans <| (lpp_r (n := 4294967288) (s' := (-8, I8')) s8).trans (lpp_l (n := 4294967287) s9)
  unfold F_X9_feed
  rw [hI, if_pos (by decide)]
  unfold F_X9_feed_19
  rw [e]
  exact ⟨_, rfl, h8⟩
theorem f27 (s : WI) (X : Int64) (i : Int32) (hs : s 33 21 = 0) : F_X5_add_27_1 s X i 33 21 = 0 := by
  unfold F_X5_add_27_1
  split
  · exact hs
  · split
    · exact hs
    · unfold F_X5_add_68_1
      rw [u2_ne (by decide)]
      exact hs
theorem f_21b (X : Int64) (I : WI) (h0 : I 33 21 = 0) : p2 (F_X5_add_21 I X 0) 33 21 = 0 := by
  have hi := fr0_inv (B := 8) (g := fun i x => F_X5_add_27_1 x X i) (fun s : WI => s 33 21 = 0) (fun i s hs => f27 s X i hs) (fu 0 8) 0 I h0
  unfold F_X5_add_21
  exact ad74b _ X hi
theorem f_21c (q : Int32 × WI) (X : Int64) (h2 : p2 q 33 21 = 0) : p2 (if p1 q = 0 then F_X8_feed_23 (p2 q) X (-3) else F_X8_feed_23 (p2 q) X ((p2 q) 9 0)) 33 21 = 0 := by
  by_cases c : p1 q = 0
  · rw [if_pos c]
    exact h2
  · rw [if_neg c]
    exact h2
theorem f_21d (X : Int64) : F_X5_add I0 X = F_X5_add_21 I0 X 0 := by
  unfold F_X5_add
  rw [if_neg (by decide), if_pos (by decide)]
theorem i021 : I0 33 21 = 0 := by decide +kernel
theorem f_21e (X : Int64) : p2 (F_X5_add I0 X) 33 21 = 0 := by
  rw [f_21d]
  exact f_21b X I0 i021
theorem f_21 (X : Int64) : p2 (F_X8_feed I0 X) 33 21 = 0 := by
  have h2 := f_21e X
  unfold F_X8_feed
  exact f_21c (F_X5_add I0 X) X h2
theorem s_0 (a1 a2 a3 a4 : Int32) : S_0 (fun _ _ => True) I0 L8 a1 a2 a3 a4 := by
  unfold S_0
  generalize ((lsh (Int32.toInt64 a1) 32) ||| ((Int32.toInt64 a2) &&& 4294967295)) = X
  obtain ⟨w, hw, h8⟩ := fm_add X (p2 (F_X8_feed I0 X)) (f_21 X)
  exact ⟨w, hw, (fx_add X).trans h8.symm, trivial⟩
theorem r78 (a1 a2 a3 a4 a6 : Int32) (r : Nat) : ∃ x, F_X8_read_78 I0 L8 a1 a2 a3 a4 r a6 0 0 = (0, u2 I0 0 14 x, L8) := by
  unfold F_X8_read_78
  rw [show fu 0 0 = 0 by decide, fr1]
  show ∃ x, F_X8_read_131 I0 L8 a1 a2 a3 a4 r a6 0 = _
  unfold F_X8_read_131 F_X8_read_134
  rw [show fu 0 0 = 0 by decide, fr0]
  show ∃ x, F_X8_read_190 I0 L8 a1 a2 a3 a4 a6 0 = _
  unfold F_X8_read_190
  split
  · split
    · exact ⟨_, rfl⟩
    · exact ⟨_, rfl⟩
  · exact ⟨_, rfl⟩
theorem fl_in : ∀ a ∈ rg 3, ∀ b : Int32, F_X3_faultOfLane I0 (sid a) b = 1 := by
  intro a ha b
  unfold F_X3_faultOfLane
  rw [if_neg (no_in a ha).1]
theorem pf_in : ∀ a ∈ rg 3, ∀ b : Int32, F_X3_pairsFrom I0 (sid a) b = 0 := by
  intro a ha b
  unfold F_X3_pairsFrom
  rw [(no_in a ha).2.2]
  by_cases c : b < 0
  · rw [if_pos c]
    rfl
  · have d : -1 ≤ b := by
      simp only [Int32.le_iff_toInt_le, Int32.lt_iff_toInt_lt] at c ⊢
      have e0 : (0 : Int32).toInt = 0 := by decide
      have e1 : (-1 : Int32).toInt = -1 := by decide
      omega
    rw [if_neg c, if_pos d]
    rfl
theorem rx_in {a1 a2 a3 a4 : Int32} (h1 : 0 ≤ a1 ∧ a1 ≤ 3) (h2 : 0 ≤ a2 ∧ a2 ≤ 2) (h4 : 0 ≤ a4 ∧ a4 ≤ 20) : ∃ x, F_X8_read I0 L8 a1 a2 a3 a4 = (0, u2 I0 0 14 x, L8) := by
  have m1 := mem_rg (m := 3) (by decide) h1.1 h1.2
  have c : ¬ a4 < 0 := by
    have := h4.1
    simp only [Int32.le_iff_toInt_le, Int32.lt_iff_toInt_lt] at this ⊢
    omega
  unfold F_X8_read
  rw [if_pos (ix_in h1), if_neg (la_in a2 (mem_rg (m := 2) (by decide) h2.1 h2.2)), if_neg c, if_pos h4.2]
  by_cases z : a4 = 0
  · rw [if_pos z]
    unfold F_X8_read_51
    rw [if_pos rfl, pf_in a1 m1]
    subst z
    exact r78 a1 a2 a3 0 0 (sid a1)
  · rw [if_neg z, fl_in a1 m1]
    exact r78 a1 a2 a3 a4 1 (sid a1)
theorem r190 (I : WI) (a1 a2 a3 a4 a5 : Int32) : ∃ w, F_X9_read_190 I L8 a1 a2 a3 a4 a5 0 = some w ∧ p1 w = 0 := by
  unfold F_X9_read_190 F_X9_read_199
  rw [show fu 0 0 = 0 by decide, frp0]
  exact ⟨_, rfl, rfl⟩
theorem r47 (I : WI) (a1 a2 a3 a4 : Int32) (h1 : 0 ≤ a1 ∧ a1 ≤ 3) (h42 : I 42 (Int32.toNatClampNeg a1) = -4) : F_X9_read_47_1 I L8 a1 a2 a3 a4 0 0 0 0 = some (.inr (1, 0, 1)) := by
  have s1 : F_X9_read_47_2 I L8 a1 a2 a3 a4 0 0 0 0 = some (.inr (1, 1)) := by
    unfold F_X9_read_47_2
    rw [if_neg (by decide), if_pos rfl, if_neg (ix_in h1), if_pos h42]
    rfl
  have s2 : F_X9_read_47_2 I L8 a1 a2 a3 a4 0 0 1 1 = some (.inl 1) := rfl
  unfold F_X9_read_47_1
  have e : lpp (fun x => F_X9_read_47_2 I L8 a1 a2 a3 a4 0 0 (p1 x) (p2 x)) 4294967296 (0, 0) = some 1 := (lpp_r (n := 4294967295) (s' := (1, 1)) s1).trans (lpp_l (n := 4294967294) s2)
  rw [e]
  rfl
theorem in20 : ∀ a ∈ rg 20, ¬ F_X9_in (Int32.toInt64 a) 0 20 = 0 := by decide +kernel
theorem rm_in {I : WI} {a1 a2 a3 a4 : Int32} (h1 : 0 ≤ a1 ∧ a1 ≤ 3) (h2 : 0 ≤ a2 ∧ a2 ≤ 2) (h4 : 0 ≤ a4 ∧ a4 ≤ 20) (h42 : I 42 (Int32.toNatClampNeg a1) = -4) : ∃ w, F_X9_read I L8 a1 a2 a3 a4 = some w ∧ p1 w = 0 := by
  unfold F_X9_read
  rw [if_neg (sh_in a1 (mem_rg (m := 3) (by decide) h1.1 h1.2) a2 (mem_rg (m := 2) (by decide) h2.1 h2.2)), if_neg (in20 a4 (mem_rg (m := 20) (by decide) h4.1 h4.2))]
  unfold F_X9_read_32
  by_cases z : a4 ≤ 0
  · have s1 : F_X9_read_32_1 I L8 a1 a2 a3 a4 0 0 0 = some (.inl (.inr (0, 0))) := by
      unfold F_X9_read_32_1
      rw [if_pos z]
    have e : lpp (fun x => F_X9_read_32_1 I L8 a1 a2 a3 a4 (p1 x) (p1 (p2 x)) (p2 (p2 x))) 4294967296 (0, 0, 0) = some (.inr (0, 0)) := lpp_l (n := 4294967295) s1
    rw [e]
    exact r190 I a1 a2 a3 a4 0
  · have s1 : F_X9_read_32_1 I L8 a1 a2 a3 a4 0 0 0 = some (.inr (1, 0, 1)) := by
      unfold F_X9_read_32_1
      rw [if_neg z, if_pos rfl]
      exact r47 I a1 a2 a3 a4 h1 h42
    have s2 : F_X9_read_32_1 I L8 a1 a2 a3 a4 1 0 1 = some (.inl (.inr (1, 0))) := by
      unfold F_X9_read_32_1
      split
      · rfl
      · rfl
    have e : lpp (fun x => F_X9_read_32_1 I L8 a1 a2 a3 a4 (p1 x) (p1 (p2 x)) (p2 (p2 x))) 4294967296 (0, 0, 0) = some (.inr (1, 0)) := (lpp_r (n := 4294967295) (s' := (1, 0, 1)) s1).trans (lpp_l (n := 4294967294) s2)
    rw [e]
    exact r190 I a1 a2 a3 a4 1
theorem s_35 (a1 a2 a3 a4 : Int32) : S_35 (fun _ _ => True) I0 L8 a1 a2 a3 a4 := by
  by_cases h1 : 0 ≤ a1 ∧ a1 ≤ 3
  · by_cases h2 : 0 ≤ a2 ∧ a2 ≤ 2
    · by_cases h4 : 0 ≤ a4 ∧ a4 ≤ 20
      · obtain ⟨x, hx⟩ := rx_in (a3 := a3) h1 h2 h4
        unfold S_35
        rw [hx]
        obtain ⟨w, hw, h0⟩ := rm_in (I := u2 I0 0 14 x) (a3 := a3) h1 h2 h4 (by rw [u2_ne (by decide)]; exact (no_in a1 (mem_rg (m := 3) (by decide) h1.1 h1.2)).2.1)
        exact ⟨w, hw, h0.symm, trivial⟩
      · have hx : F_X8_read I0 L8 a1 a2 a3 a4 = ((-1), I0, L8) := by
          unfold F_X8_read
          rw [if_pos (ix_in h1), if_neg (la_in a2 (mem_rg (m := 2) (by decide) h2.1 h2.2))]
          rcases out_c h4 with c | ⟨c, d⟩
          · rw [if_pos c]
            rfl
          · rw [if_neg c, if_neg d]
            rfl
        have hm : F_X9_read I0 L8 a1 a2 a3 a4 = some ((-1), I0, L8) := by
          unfold F_X9_read
          rw [in_out (lo := 0) (hi := 20) rfl rfl h4]
          split <;> rfl
        unfold S_35
        rw [hx]
        exact ⟨_, hm, rfl, trivial⟩
    · have hx : F_X8_read I0 L8 a1 a2 a3 a4 = ((-1), I0, L8) := by
        unfold F_X8_read
        rw [if_pos (ix_in h1), if_pos (la_out h2)]
        rfl
      have hm : F_X9_read I0 L8 a1 a2 a3 a4 = some ((-1), I0, L8) := by
        unfold F_X9_read
        rw [if_pos (sh_out2 h2)]
        rfl
      unfold S_35
      rw [hx]
      exact ⟨_, hm, rfl, trivial⟩
  · have hx : F_X8_read I0 L8 a1 a2 a3 a4 = ((-1), I0, L8) := by
      unfold F_X8_read
      rw [if_neg (fun c => c (ix_out h1))]
      rfl
    have hm : F_X9_read I0 L8 a1 a2 a3 a4 = some ((-1), I0, L8) := by
      unfold F_X9_read
      rw [if_pos (sh_out1 h1)]
      rfl
    unfold S_35
    rw [hx]
    exact ⟨_, hm, rfl, trivial⟩
