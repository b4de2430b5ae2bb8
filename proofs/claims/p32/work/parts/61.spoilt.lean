/-! spoilt, both: class and reference -/
theorem xor_0 {x y : Int64} : x ^^^ y = 0 ↔ x = y := by
  constructor
  · intro h
    refine M_ext fun k _ => ?_
    have : ¬ M (x ^^^ y) k := by rw [h]; exact M_0
    rw [M_xor] at this
    exact Classical.byContradiction this
  · intro h
    rw [h]
    refine M_ext fun k _ => ⟨fun z => absurd Iff.rfl (M_xor.mp z), fun z => absurd z M_0⟩
theorem cmp_eq {x y : Int64} : lg_cmp x y = 0 ↔ x = y := by
  unfold lg_cmp
  by_cases q : x > y
  · rw [if_pos q]
    refine ⟨fun z => absurd z (by decide), fun z => ?_⟩
    rw [z] at q
    exact absurd q (by rw [GT.gt, Int64.lt_iff_toInt_lt]; omega)
  · rw [if_neg q]
    by_cases q' : x = y
    · rw [if_pos q']
      exact ⟨fun _ => q', fun _ => rfl⟩
    · rw [if_neg q']
      exact ⟨fun z => absurd z (by decide), fun z => absurd z q'⟩
theorem form_xor {h w : Nat} (hC : Cl h w) {x y : Int64} : F_X9_formOf (x ^^^ y) (Int32.ofNat h) (Int32.ofNat w) = F_X9_formOf x (Int32.ofNat h) (Int32.ofNat w) ^^^ F_X9_formOf y (Int32.ofNat h) (Int32.ofNat w) := by
  refine M_ext fun k _ => ?_
  rw [form9_M hC, M_xor, form9_M hC, form9_M hC]
  unfold xq
  rw [mb_xor, mb_xor, mb_xor, mb_xor]
  have hall : ∀ a b c d e f g i : Bool, ((((a != b) != (c != d)) != (e != f)) != (g != i)) = ((((a != c) != e) != g) != (((b != d) != f) != i)) := by decide
  rw [hall]
  generalize (((mb x (8 * (k / 8) + k % 8) != mb x (8 * (k / 8))) != mb x (k % 8)) != mb x 0) = p
  generalize (((mb y (8 * (k / 8) + k % 8) != mb y (8 * (k / 8))) != mb y (k % 8)) != mb y 0) = q
  by_cases z : k / 8 < h ∧ k % 8 < w
  · cases p <;> cases q <;> simp [z]
  · constructor
    · rintro ⟨a, b, _⟩
      exact absurd ⟨a, b⟩ z
    · intro u
      exact absurd ⟨fun v => absurd ⟨v.1, v.2.1⟩ z, fun v => absurd ⟨v.1, v.2.1⟩ z⟩ u
/-- the squares of a size -/
theorem sq_t : ∀ h, h < 8 → ∀ w, w < 8 → ∀ i, i < 64 → F_X0_hasSquare (cq (Int32.ofNat (h + 1)) (Int32.ofNat (w + 1))) 1 (Int32.ofNat i >>> (3 &&& 31)) (Int32.ofNat i &&& 7) = (if i / 8 < h + 1 ∧ i % 8 < w + 1 then 1 else 0) ∧ F_X9_isSquare (cw (Int32.ofNat (h + 1)) (Int32.ofNat (w + 1))) (Int32.ofNat i / 8) (Int32.ofNat i - Int32.ofNat i / 8 * 8) = (if i / 8 < h + 1 ∧ i % 8 < w + 1 then 1 else 0) := by decide +kernel
theorem sq_0 {h w i : Nat} (hC : Cl h w) (hi : i < 64) {I : WI} (i1 : I 1 1 = Int32.ofNat h) (i2 : I 1 2 = Int32.ofNat w) : F_X0_hasSquare I 1 (Int32.ofNat i >>> (3 &&& 31)) (Int32.ofNat i &&& 7) = if i / 8 < h ∧ i % 8 < w then 1 else 0 := by
  obtain ⟨⟨h1, h2⟩, h3, h4⟩ := hC
  have := (sq_t (h - 1) (by omega) (w - 1) (by omega) i hi).1
  rw [show h - 1 + 1 = h by omega, show w - 1 + 1 = w by omega] at this
  have e : F_X0_hasSquare I 1 (Int32.ofNat i >>> (3 &&& 31)) (Int32.ofNat i &&& 7) = F_X0_hasSquare (cq (I 1 1) (I 1 2)) 1 (Int32.ofNat i >>> (3 &&& 31)) (Int32.ofNat i &&& 7) := rfl
  rw [e, i1, i2, this]
theorem sq_9 {h w i : Nat} (hC : Cl h w) (hi : i < 64) {I : WI} (i1 : I 33 0 = Int32.ofNat h) (i2 : I 33 1 = Int32.ofNat w) : F_X9_isSquare I (Int32.ofNat i / 8) (Int32.ofNat i - Int32.ofNat i / 8 * 8) = if i / 8 < h ∧ i % 8 < w then 1 else 0 := by
  obtain ⟨⟨h1, h2⟩, h3, h4⟩ := hC
  have := (sq_t (h - 1) (by omega) (w - 1) (by omega) i hi).2
  rw [show h - 1 + 1 = h by omega, show w - 1 + 1 = w by omega] at this
  have e : F_X9_isSquare I (Int32.ofNat i / 8) (Int32.ofNat i - Int32.ofNat i / 8 * 8) = F_X9_isSquare (cw (I 33 0) (I 33 1)) (Int32.ofNat i / 8) (Int32.ofNat i - Int32.ofNat i / 8 * 8) := rfl
  rw [e, i1, i2, this]
theorem bit_in {h w i : Nat} (hi : i < 64) (hs : i / 8 < h ∧ i % 8 < w) : Ins h w (lsh 1 (Int32.ofNat i)) := fun k hk => by
  rw [(M_bit hi).mp hk]
  exact hs
/-- what was counted, and the first of it -/
def Cnt (I : WI) (n0 : Nat) (s : WI) (q : Int32 × Int32) : Prop := ∃ n, n ≤ n0 ∧ p1 q = Int32.ofNat n ∧ s 27 6 = Int32.ofNat n ∧ (n = 0 → p2 q = -4) ∧ (n ≠ 0 → s 27 7 = p2 q) ∧ ∀ k j, ¬ (k = 27 ∧ (j = 6 ∨ j = 7)) → s k j = I k j
theorem Cnt.up {I : WI} {n0 n1 : Nat} {s : WI} {q : Int32 × Int32} (h : Cnt I n0 s q) (hn : n0 ≤ n1) : Cnt I n1 s q := by
  obtain ⟨n, a, b⟩ := h
  exact ⟨n, by omega, b⟩
theorem Cnt.hit {I : WI} {n0 : Nat} {s : WI} {q : Int32 × Int32} {v : Int32} (h : Cnt I n0 s q) (hn : n0 < 100000) : Cnt I (n0 + 1) (if s 27 6 = 0 then u2 (u2 s 27 7 v) 27 6 (((u2 s 27 7 v) 27 6) + 1) else u2 (u2 s 27 7 (s 27 7)) 27 6 (((u2 s 27 7 (s 27 7)) 27 6) + 1)) (p1 q + 1, if p1 q = 0 then v else p2 q) := by
  obtain ⟨n, a1, a2, a3, a4, a5, a6⟩ := h
  have hf : ∀ y k j, ¬ (k = 27 ∧ (j = 6 ∨ j = 7)) → (u2 (u2 s 27 7 y) 27 6 (((u2 s 27 7 y) 27 6) + 1)) k j = I k j := fun y k j z => by
    rw [u2_nc (by omega), u2_nc (by omega)]
    exact a6 k j z
  have h6 : ∀ y, (u2 (u2 s 27 7 y) 27 6 (((u2 s 27 7 y) 27 6) + 1)) 27 6 = Int32.ofNat (n + 1) := fun y => by
    rw [u2_at, u2_nc (by omega), a3, la1]
  have h7 : ∀ y, (u2 (u2 s 27 7 y) 27 6 (((u2 s 27 7 y) 27 6) + 1)) 27 7 = y := fun y => by
    rw [u2_nc (by omega), u2_at]
  show Cnt I (n0 + 1) _ (p1 q + 1, if p1 q = 0 then v else p2 q)
  refine ⟨n + 1, by omega, ?_, ?_, fun z => absurd z (by omega), fun _ => ?_, ?_⟩
  · show p1 q + 1 = _
    rw [a2, la1]
  · rw [a3]
    by_cases z : n = 0
    · rw [if_pos (show Int32.ofNat n = 0 by rw [z]; rfl)]
      exact h6 v
    · rw [if_neg (show ¬ Int32.ofNat n = 0 from fun y => z (on_inj (b := 0) (by omega) (by decide) y))]
      exact h6 _
  · show _ = if p1 q = 0 then v else p2 q
    rw [a3, a2]
    by_cases z : n = 0
    · rw [if_pos (show Int32.ofNat n = 0 by rw [z]; rfl), if_pos (show Int32.ofNat n = 0 by rw [z]; rfl)]
      exact h7 v
    · rw [if_neg (show ¬ Int32.ofNat n = 0 from fun y => z (on_inj (b := 0) (by omega) (by decide) y)), if_neg (show ¬ Int32.ofNat n = 0 from fun y => z (on_inj (b := 0) (by omega) (by decide) y))]
      rw [h7]
      exact a5 z
  · rw [a3]
    by_cases z : n = 0
    · rw [if_pos (show Int32.ofNat n = 0 by rw [z]; rfl)]
      exact hf v
    · rw [if_neg (show ¬ Int32.ofNat n = 0 from fun y => z (on_inj (b := 0) (by omega) (by decide) y))]
      exact hf _
theorem Cnt.start {I : WI} : Cnt I 0 (u2 (u2 I 27 6 0) 27 7 0) (0, -4) := ⟨0, Nat.le_refl _, rfl, by rw [u2_nc (by omega), u2_at]; rfl, fun _ => rfl, fun z => absurd rfl z, fun k j z => by rw [u2_nc (by omega), u2_nc (by omega)]⟩
theorem Cnt.told {I : WI} {n0 : Nat} {s : WI} {q : Int32 × Int32} {a : Int32} (h : Cnt I n0 s q) (hn : n0 < 100000) : F_X8_spoiltTold s a = if a = 0 then p1 q else p2 q := by
  obtain ⟨n, a1, a2, a3, a4, a5, a6⟩ := h
  unfold F_X8_spoiltTold F_X8_spoiltTold_34
  rw [a3, a2]
  by_cases z : n = 0
  · rw [if_pos (show Int32.ofNat n = 0 by rw [z]; rfl), a4 z]
  · rw [if_neg (show ¬ Int32.ofNat n = 0 from fun y => z (on_inj (b := 0) (by omega) (by decide) y)), a5 z]
theorem spoilt_both {h w : Nat} (hC : Cl h w) {I J : WI} {L : WL} {x : Int64} {a : Int32} (hx : Ins h w x) (i1 : I 1 1 = Int32.ofNat h) (i2 : I 1 2 = Int32.ofNat w) (j1 : J 33 0 = Int32.ofNat h) (j2 : J 33 1 = Int32.ofNat w) (l : (L 33 2) ^^^ (L 33 3) = x) : F_X8_spoiltTold (F_X7_findSpoilt I 1 x) a = F_X9_spoilt_30 J L a 0 (-4) 0 := by
  have hc : ∃ n0, n0 < 100000 ∧ Cnt I n0 (F_X7_findSpoilt I 1 x) (it (fun i y => F_X9_spoilt_37_1 J L a i (p1 y) (p2 y)) 64 (0, -4)) := by
    have e : F_X7_findSpoilt I 1 x = it (fun i y => F_X7_findSpoilt_30_1 y 1 x (F_X0_formOf I 1 x) i) 64 (u2 (u2 I 27 6 0) 27 7 0) := fr0_it (b := 64) (by decide)
    refine ⟨64, by decide, ?_⟩
    rw [e]
    refine it_ind (P := fun i s => Cnt I i s (it (fun i y => F_X9_spoilt_37_1 J L a i (p1 y) (p2 y)) i (0, -4))) Cnt.start (fun i s hi hs => ?_)
    show Cnt I (i + 1) (F_X7_findSpoilt_30_1 s 1 x (F_X0_formOf I 1 x) (Int32.ofNat i)) (F_X9_spoilt_37_1 J L a (Int32.ofNat i) (p1 (it (fun i y => F_X9_spoilt_37_1 J L a i (p1 y) (p2 y)) i (0, -4))) (p2 (it (fun i y => F_X9_spoilt_37_1 J L a i (p1 y) (p2 y)) i (0, -4))))
    generalize it (fun i y => F_X9_spoilt_37_1 J L a i (p1 y) (p2 y)) i (0, -4) = q at hs ⊢
    have hs' := hs
    obtain ⟨n, a1, a2, a3, a4, a5, a6⟩ := hs
    have s1 : s 1 1 = Int32.ofNat h := (a6 1 1 (by omega)).trans i1
    have s2 : s 1 2 = Int32.ofNat w := (a6 1 2 (by omega)).trans i2
    unfold F_X7_findSpoilt_30_1 F_X7_findSpoilt_77_1 F_X7_findSpoilt_90_1 F_X9_spoilt_37_1 F_X9_spoilt_87_1 F_X9_spoilt_91_1 F_X9_formNow
    rw [sq_0 hC hi s1 s2, sq_9 hC hi j1 j2, j1, j2, l]
    by_cases g : i / 8 < h ∧ i % 8 < w
    · rw [if_pos g, if_neg (show ¬ (1 : Int32) = 0 by decide), if_neg (show ¬ (1 : Int32) = 0 by decide)]
      have hb := bit_in (h := h) (w := w) hi g
      have hq : lg_cmp (F_X0_formOf s 1 (lsh 1 (Int32.ofNat i))) (F_X0_formOf I 1 x) = 0 ↔ lg_cmp (F_X9_formOf (x ^^^ lsh 1 (Int32.ofNat i)) (Int32.ofNat h) (Int32.ofNat w)) 0 = 0 := by
        rw [cmp_eq, cmp_eq, formOf_cq, formOf_cq I, s1, s2, i1, i2, form_eq hC hb, form_eq hC hx, form_xor hC, xor_0]
        exact eq_comm
      by_cases g2 : lg_cmp (F_X9_formOf (x ^^^ lsh 1 (Int32.ofNat i)) (Int32.ofNat h) (Int32.ofNat w)) 0 = 0
      · rw [if_pos g2, if_pos (hq.mpr g2)]
        have := hs'.hit (v := Int32.ofNat i) (by omega)
        have e2 : (if p1 q = 0 then (p1 q + 1, Int32.ofNat i) else (p1 q + 1, p2 q)) = (p1 q + 1, if p1 q = 0 then Int32.ofNat i else p2 q) := by split <;> rfl
        rw [e2]
        exact this
      · rw [if_neg g2, if_neg (fun z => g2 (hq.mp z))]
        exact hs'.up (by omega)
    · rw [if_neg g, if_pos rfl, if_pos rfl]
      exact hs'.up (by omega)
  obtain ⟨n0, hn, hc⟩ := hc
  rw [hc.told hn]
  have e : F_X9_spoilt_30 J L a 0 (-4) 0 = F_X9_spoilt_97 J L a (p1 (it (fun i y => F_X9_spoilt_37_1 J L a i (p1 y) (p2 y)) 64 (0, -4))) (p2 (it (fun i y => F_X9_spoilt_37_1 J L a i (p1 y) (p2 y)) 64 (0, -4))) := by
    unfold F_X9_spoilt_30
    show F_X9_spoilt_97 J L a (p1 (p2 (fr0 (fun i y => F_X9_spoilt_37_1 J L a i (p1 y) (p2 y)) (Int32.ofNat 64) (fu 0 (Int32.ofNat 64)) 0 (0, -4)))) (p2 (p2 (fr0 (fun i y => F_X9_spoilt_37_1 J L a i (p1 y) (p2 y)) (Int32.ofNat 64) (fu 0 (Int32.ofNat 64)) 0 (0, -4)))) = _
    rw [fr0_it (by decide)]
  rw [e]
  unfold F_X9_spoilt_97 F_X9_spoilt_106
  rfl
theorem E_24 {I : WI} {L : WL} {a1 : Int32} (H : Inv I L) : (p1 (F_X8_spoilt I L a1)) = (F_X9_spoilt (p2 (F_X8_spoilt I L a1)) L a1) ∧ Inv (p2 (F_X8_spoilt I L a1)) L := by
  refine ⟨?_, N_24 H⟩
  have hag : Ag I (p2 (F_X8_spoilt I L a1)) := by
    have hs : ∀ x, Ag I (F_X7_findSpoilt I 1 x) := by
      intro x
      show Ag I (p2 (fr0 (fun i y => F_X7_findSpoilt_30_1 y 1 x (F_X0_formOf I 1 x) i) (Int32.ofNat 64) (fu 0 (Int32.ofNat 64)) 0 (u2 (u2 I 27 6 0) 27 7 0)))
      rw [fr0_it (by decide)]
      refine it_ind (P := fun _ y => Ag I y) ((Ag.rfl.u rfl).u rfl) fun i y _ hy => ?_
      show Ag I (F_X7_findSpoilt_30_1 y 1 x _ (Int32.ofNat i))
      unfold F_X7_findSpoilt_30_1 F_X7_findSpoilt_77_1 F_X7_findSpoilt_90_1
      repeat' (first | exact hy | exact (hy.u rfl).u rfl | refine Ag.ite ?_ ?_)
    unfold F_X8_spoilt F_X8_spoilt_9
    repeat' (first | exact Ag.rfl | exact hs _ | refine Ag.p2ite ?_ ?_)
  generalize p2 (F_X8_spoilt I L a1) = J at hag
  obtain ⟨⟨h, w, ⟨hC, i11, i12, i330, i331, l332, hIns, i10⟩, ⟨h2, w2, hC2, j1, j2, j3⟩, j4, j5⟩, -⟩ := H
  unfold F_X8_spoilt F_X9_spoilt F_X8_spoilt_9
  rw [hag 33 4 rfl, j4]
  rcases in0 (a := a1) 1 (by decide) with ⟨q1, q2⟩ | ⟨q1, q2, q3, k, hk, rfl⟩
  · rw [if_pos (show F_X9_in (Int32.toInt64 a1) 0 1 = 0 from q1)]
    by_cases q : a1 < 0
    · rw [if_pos q]
      rfl
    · rw [if_neg q, if_neg (show ¬ a1 ≤ 1 from q2.resolve_left q)]
      rfl
  · rw [if_neg q2, if_pos (show Int32.ofNat k ≤ 1 from q3), if_neg (show ¬ F_X9_in (Int32.toInt64 (Int32.ofNat k)) 0 1 = 0 from fun z => by rw [show F_X9_in (Int32.toInt64 (Int32.ofNat k)) 0 1 = 1 from q1] at z; exact absurd z (by decide))]
    rcases bz01 (I 2 0) with z | z
    · rw [if_pos z, if_pos z]
      rfl
    · have z' : ¬ bz (I 2 0) = 0 := fun q => by rw [z] at q; exact absurd q (by decide)
      obtain ⟨rfl, rfl⟩ := j3 z
      obtain ⟨l333, hI2⟩ := j5 z
      rw [if_neg z', if_neg z']
      exact spoilt_both hC (hIns.xor hI2) i11 i12 ((hag 33 0 rfl).trans i330) ((hag 33 1 rfl).trans i331) (by rw [l332, l333])
/-- a loop that begins further on -/
theorem fr0_skip {S : Type} {g : Int32 → S → S} {b c : Nat} {s : S} (hb : b < 2147483648) (hc : c ≤ b) : p2 (fr0 g (Int32.ofNat b) (fu (Int32.ofNat c) (Int32.ofNat b)) (Int32.ofNat c) s) = it (fun i x => if i < Int32.ofNat c then x else g i x) b s := by
  have hB : (Int32.ofNat b).toInt = (b : Int) := on_toInt hb
  have hCc : (Int32.ofNat c).toInt = (c : Int) := on_toInt (by omega)
  have e0 : fu (Int32.ofNat c) (Int32.ofNat b) = b - c := by
    unfold fu
    rw [hB, hCc]
    omega
  rw [e0]
  have key : ∀ n d x, d + n = b → c ≤ d → x = it (fun i x => if i < Int32.ofNat c then x else g i x) d s → p2 (fr0 g (Int32.ofNat b) n (Int32.ofNat d) x) = it (fun i x => if i < Int32.ofNat c then x else g i x) b s := by
    intro n
    induction n with
    | zero =>
      intro d x hd hcd hx
      rw [fr0]
      show x = _
      rw [hx, show d = b by omega]
    | succ n ih =>
      intro d x hd hcd hx
      rw [fr0, if_neg (show ¬ Int32.ofNat b ≤ Int32.ofNat d from fun z => absurd ((ge_on (by omega) (by omega)).mp z) (by omega)), la1]
      refine ih (d + 1) _ (by omega) (by omega) ?_
      show g (Int32.ofNat d) x = if Int32.ofNat d < Int32.ofNat c then it (fun i x => if i < Int32.ofNat c then x else g i x) d s else g (Int32.ofNat d) (it (fun i x => if i < Int32.ofNat c then x else g i x) d s)
      rw [if_neg (show ¬ Int32.ofNat d < Int32.ofNat c from fun z => absurd ((lt_onn (by omega) (by omega)).mp z) (by omega)), hx]
  refine key (b - c) c s (by omega) (Nat.le_refl _) ?_
  refine (it_ind (P := fun i x => i ≤ c → x = s) (fun _ => rfl) (fun i x hi hx hic => ?_) (Nat.le_refl c)).symm
  show (if Int32.ofNat i < Int32.ofNat c then x else g (Int32.ofNat i) x) = s
  rw [if_pos (show Int32.ofNat i < Int32.ofNat c from (lt_onn (by omega) (by omega)).mpr (by omega))]
  exact hx (by omega)
