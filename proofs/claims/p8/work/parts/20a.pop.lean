/-! how many bits: the JDK's sum in parallel is the reference's loop -/
theorem fr0_nat {S : Type} {g : Int32 → S → S} {b : Nat} (hb : b < 2147483648) (P : Nat → S → Prop) {s : S} (h : ∀ i s, i < b → P i s → P (i + 1) (g (Int32.ofNat i) s)) (h0 : P 0 s) : P b (p2 (fr0 g (Int32.ofNat b) (fu 0 (Int32.ofNat b)) 0 s)) := by
  have key : ∀ (n c : Nat) (s : S), c + n = b → P c s → P b (p2 (fr0 g (Int32.ofNat b) n (Int32.ofNat c) s)) := by
    intro n
    induction n with
    | zero => intro c s hc hP; rw [fr0]; exact (show c = b by omega) ▸ hP
    | succ n ih =>
      intro c s hc hP
      rw [fr0]
      have hl : ¬ Int32.ofNat b ≤ Int32.ofNat c := by
        rw [Int32.le_iff_toInt_le, on_toInt hb, on_toInt (by omega)]
        omega
      rw [if_neg hl]
      have e : Int32.ofNat c + 1 = Int32.ofNat (c + 1) := (Int32.ofNat_add c 1).symm
      rw [e]
      exact ih (c + 1) _ (by omega) (h c s (by omega) hP)
  have hf : fu 0 (Int32.ofNat b) = b := by
    unfold fu
    rw [on_toInt hb, show (0 : Int32).toInt = 0 by decide]
    omega
  rw [hf]
  exact key b 0 s (by omega) h0
theorem lsr_bv {x : Int64} {i : Nat} (h : i < 64) : (lsr x (Int32.ofNat i)).toBitVec = x.toBitVec.sshiftRight i := by
  have hk : ∀ i, i < 64 → (((Int32.ofNat i).toInt64 &&& 63).toBitVec.smod 64#64).toNat = i := by decide +kernel
  show x.toBitVec.sshiftRight' (((Int32.ofNat i).toInt64 &&& 63).toBitVec.smod 64#64) = _
  rw [BitVec.sshiftRight', hk i h]
theorem lsh_bv {x : Int64} {i : Nat} (h : i < 64) : (lsh x (Int32.ofNat i)).toBitVec = x.toBitVec <<< i := by
  have hk : ∀ i, i < 64 → (((Int32.ofNat i).toInt64 &&& 63).toBitVec.smod 64#64).toNat = i := by decide +kernel
  show x.toBitVec <<< (((Int32.ofNat i).toInt64 &&& 63).toBitVec.smod 64#64).toNat = _
  rw [hk i h]
theorem lush_bv {x : Int64} {i : Nat} (h : i < 64) : (lush x (Int32.ofNat i)).toBitVec = x.toBitVec >>> i := by
  have hk : ∀ i, i < 64 → ((((Int32.ofNat i).toInt64.toUInt64 &&& Int64.toUInt64 63).toBitVec % 64#64)).toNat = i := by decide +kernel
  show x.toBitVec >>> ((((Int32.ofNat i).toInt64.toUInt64 &&& Int64.toUInt64 63).toBitVec % 64#64)).toNat = _
  rw [hk i h]
def popc : Nat → Nat → Nat
  | 0, _ => 0
  | k + 1, n => popc k n + n / 2 ^ k % 2
theorem lsr_1 {x : Int64} {i : Nat} (h : i < 64) : (lsr x (Int32.ofNat i)) &&& 1 = if x.toBitVec.getLsbD i then 1 else 0 := by
  apply Int64.toBitVec.inj
  show (lsr x (Int32.ofNat i)).toBitVec &&& 1#64 = _
  rw [lsr_bv h]
  have h0 : (x.toBitVec.sshiftRight i).getLsbD 0 = x.toBitVec.getLsbD i := by
    rw [BitVec.getLsbD_sshiftRight]
    simp [h]
  apply BitVec.eq_of_getLsbD_eq
  intro j hj
  rw [BitVec.getLsbD_and]
  by_cases c : j = 0
  · subst c
    rw [h0]
    cases x.toBitVec.getLsbD i <;> decide
  · have h1 : (1#64).getLsbD j = false := by
      rw [BitVec.getLsbD_one]
      simp [c]
    rw [h1, Bool.and_false]
    cases x.toBitVec.getLsbD i
    · show false = (0#64).getLsbD j
      simp
    · exact h1.symm
theorem lsr_d {x : Int64} {i : Nat} (h : i < 64) : Int64.toInt32 ((lsr x (Int32.ofNat i)) &&& 1) = Int32.ofNat (x.toBitVec.toNat / 2 ^ i % 2) := by
  rw [lsr_1 h, ← BitVec.testBit_toNat, ← Nat.toNat_testBit]
  cases x.toBitVec.toNat.testBit i <;> decide
theorem popc_le : ∀ k n, popc k n ≤ k := by
  intro k
  induction k with
  | zero => intro n; exact Nat.le_refl _
  | succ k ih =>
    intro n
    have := ih n
    show popc k n + n / 2 ^ k % 2 ≤ k + 1
    omega
theorem many_eq (x : Int64) : F_X9_many x = Int32.ofNat (popc 64 x.toBitVec.toNat) := by
  have h := fr0_nat (g := fun i s => F_X9_many_10_1 x i s) (b := 64) (by decide) (fun i s => s = Int32.ofNat (popc i x.toBitVec.toNat)) (s := 0) (fun i s hi hs => by
    subst hs
    show F_X9_many_10_1 x (Int32.ofNat i) _ = _
    unfold F_X9_many_10_1
    rw [lsr_d hi, ← Int32.ofNat_add]
    rfl) rfl
  exact h
