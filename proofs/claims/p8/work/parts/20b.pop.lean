/-! bytes -/
def mk (c : Nat) : Nat → Nat
  | 0 => 0
  | k + 1 => 256 * mk c k + c
theorem and_256 {a b c d : Nat} (hb : b < 256) (hd : d < 256) : (256 * a + b) &&& (256 * c + d) = 256 * (a &&& c) + (b &&& d) := by
  have hbd : (b &&& d) < 2 ^ 8 := Nat.lt_of_le_of_lt Nat.and_le_left hb
  apply Nat.eq_of_testBit_eq
  intro i
  rw [Nat.testBit_and, show 256 * a + b = 2 ^ 8 * a + b from rfl, show 256 * c + d = 2 ^ 8 * c + d from rfl, show 256 * (a &&& c) + (b &&& d) = 2 ^ 8 * (a &&& c) + (b &&& d) from rfl, Nat.testBit_two_pow_mul_add a hb, Nat.testBit_two_pow_mul_add c hd, Nat.testBit_two_pow_mul_add _ hbd]
  split <;> rw [Nat.testBit_and]
def g1 (n k : Nat) : Nat := n - ((n / 2) &&& mk 85 k)
def g2 (n k : Nat) : Nat := (n &&& mk 51 k) + ((n / 4) &&& mk 51 k)
def g3 (n k : Nat) : Nat := (n + n / 16) &&& mk 15 k
theorem t1 : ∀ r, r < 256 → ∀ t, t < 2 → (128 * t + r / 2) &&& 85 = (r / 2) &&& 85 := by decide +kernel
theorem t2 : ∀ r, r < 256 → ∀ t, t < 4 → (64 * t + r / 4) &&& 51 = (r / 4) &&& 51 := by decide +kernel
theorem t3 : ∀ r, r < 69 → ∀ t, t < 5 → (r + (16 * t + r / 16)) &&& 15 = (r + r / 16) &&& 15 := by decide +kernel
theorem t4 : ∀ r, r < 256 → g1 r 1 < 256 ∧ g2 (g1 r 1) 1 < 69 ∧ g2 (g1 r 1) 1 % 16 < 5 ∧ g3 (g2 (g1 r 1) 1) 1 = popc 8 r := by decide +kernel
theorem g1_s {q r k : Nat} (hr : r < 256) : g1 (256 * q + r) (k + 1) = 256 * g1 q k + g1 r 1 := by
  unfold g1
  rw [show (256 * q + r) / 2 = 256 * (q / 2) + (128 * (q % 2) + r / 2) by omega]
  rw [show mk 85 (k + 1) = 256 * mk 85 k + 85 from rfl, and_256 (by omega) (by decide), t1 r hr (q % 2) (by omega)]
  rw [show mk 85 1 = 85 from rfl]
  have h1 : (q / 2) &&& mk 85 k ≤ q / 2 := Nat.and_le_left
  have h2 : (r / 2) &&& 85 ≤ r / 2 := Nat.and_le_left
  omega
theorem g2_s {q r k : Nat} (hr : r < 256) : g2 (256 * q + r) (k + 1) = 256 * g2 q k + g2 r 1 := by
  unfold g2
  rw [show (256 * q + r) / 4 = 256 * (q / 4) + (64 * (q % 4) + r / 4) by omega]
  rw [show mk 51 (k + 1) = 256 * mk 51 k + 51 from rfl, and_256 (by omega) (by decide), and_256 (by omega) (by decide), t2 r hr (q % 4) (by omega)]
  rw [show mk 51 1 = 51 from rfl]
  omega
theorem g3_s {q r k : Nat} (hr : r < 69) (hq : q % 16 < 5) : g3 (256 * q + r) (k + 1) = 256 * g3 q k + g3 r 1 := by
  unfold g3
  rw [show 256 * q + r + (256 * q + r) / 16 = 256 * (q + q / 16) + (r + (16 * (q % 16) + r / 16)) by omega]
  rw [show mk 15 (k + 1) = 256 * mk 15 k + 15 from rfl, and_256 (by omega) (by decide), t3 r hr (q % 16) hq]
  rfl
def sB : Nat → Nat → Nat
  | 0, _ => 0
  | k + 1, n => 256 * sB k (n / 256) + popc 8 (n % 256)
theorem sB_eq : ∀ k n, n < 256 ^ k → g2 (g1 n k) k % 16 < 5 ∧ g3 (g2 (g1 n k) k) k = sB k n := by
  intro k
  induction k with
  | zero =>
    intro n hn
    have : n = 0 := by omega
    subst this
    decide
  | succ k ih =>
    intro n hn
    have hq : n / 256 < 256 ^ k := by
      rw [Nat.pow_succ] at hn
      omega
    obtain ⟨i1, i2⟩ := ih (n / 256) hq
    obtain ⟨h1, h2, h3, h4⟩ := t4 (n % 256) (by omega)
    have e : n = 256 * (n / 256) + n % 256 := by omega
    have e1 : g1 n (k + 1) = 256 * g1 (n / 256) k + g1 (n % 256) 1 := by
      conv => lhs; rw [e]
      exact g1_s (by omega)
    rw [e1, g2_s h1, g3_s h2 i1, i2, h4]
    exact ⟨by omega, rfl⟩
theorem popc_m (n : Nat) : ∀ k, k ≤ 8 → popc k n = popc k (n % 256) := by
  intro k
  induction k with
  | zero => intro _; rfl
  | succ k ih =>
    intro h
    show popc k n + n / 2 ^ k % 2 = popc k (n % 256) + n % 256 / 2 ^ k % 2
    rw [ih (by omega), ← Nat.toNat_testBit, ← Nat.toNat_testBit (x := n % 256), show 256 = 2 ^ 8 from rfl, Nat.testBit_mod_two_pow]
    rw [decide_eq_true (show k < 8 by omega), Bool.true_and]
theorem popc_8 (n : Nat) : popc 8 n = popc 8 (n % 256) := popc_m n 8 (Nat.le_refl _)
theorem popc_s (n : Nat) : ∀ m, popc (8 + m) n = popc 8 (n % 256) + popc m (n / 256) := by
  intro m
  induction m with
  | zero => exact popc_8 n
  | succ m ih =>
    show popc (8 + m) n + n / 2 ^ (8 + m) % 2 = popc 8 (n % 256) + (popc m (n / 256) + n / 256 / 2 ^ m % 2)
    rw [ih, Nat.pow_add, ← Nat.div_div_eq_div_mul]
    exact Nat.add_assoc _ _ _
