theorem ad {x x' u y y' v : Nat} (h1 : x = 256 * x' + u) (h2 : y = 256 * y' + v) : x + y = 256 * (x' + y') + (u + v) := by omega
theorem dv {x x' u m : Nat} (h : x = 256 * x' + u) (hu : u ≤ m) (hm : m < 256) : x / 256 = x' := by omega
theorem ub {q q' a m : Nat} (h : q = 256 * q' + a) (h1 : q' ≤ m) (h2 : a ≤ 8) : q ≤ 256 * m + 8 := by omega
theorem le2 {a b : Nat} {m n : Nat} (h1 : a ≤ m) (h2 : b ≤ n) : a + b ≤ m + n := Nat.add_le_add h1 h2
theorem big {x y z w : Nat} (hx : x ≤ 578721382704613384) (hy : y = x + x / 256) (hz : z = y + y / 65536) (hw : w = z + z / 4294967296) : x < 9223372036854775808 ∧ y < 9223372036854775808 ∧ z < 9223372036854775808 ∧ w < 9223372036854775808 := by
  have h1 := Nat.div_le_self x 256
  have h2 := Nat.div_le_self y 65536
  have h3 := Nat.div_le_self z 4294967296
  generalize x / 256 = q at *
  generalize y / 65536 = q' at *
  generalize z / 4294967296 = q'' at *
  omega
theorem m128 {w s t m : Nat} (h : w = 256 * s + t) (ht : t ≤ m) (hm : m < 128) : w % 128 = t := by omega
theorem asc (a b c d e f g h : Nat) : a + b + (c + d) + (e + f + (g + h)) = a + (b + (c + (d + (e + (f + (g + h)))))) := by omega
theorem fold8 {a b c d e f g h : Nat} (ha : a ≤ 8) (hb : b ≤ 8) (hc : c ≤ 8) (hd : d ≤ 8) (he : e ≤ 8) (hf : f ≤ 8) (hg : g ≤ 8) (hh : h ≤ 8) (x y z w : Nat) (hx : x = 256 * (256 * (256 * (256 * (256 * (256 * (256 * (256 * 0 + h) + g) + f) + e) + d) + c) + b) + a) (hy : y = x + x / 256) (hz : z = y + y / 65536) (hw : w = z + z / 4294967296) : (x < 9223372036854775808 ∧ y < 9223372036854775808 ∧ z < 9223372036854775808 ∧ w < 9223372036854775808) ∧ w % 128 = a + (b + (c + (d + (e + (f + (g + h)))))) := by
  obtain ⟨q7, E7⟩ : ∃ q, q = 256 * 0 + h := ⟨_, rfl⟩
  rw [← E7] at hx
  obtain ⟨q6, E6⟩ : ∃ q, q = 256 * q7 + g := ⟨_, rfl⟩
  rw [← E6] at hx
  obtain ⟨q5, E5⟩ : ∃ q, q = 256 * q6 + f := ⟨_, rfl⟩
  rw [← E5] at hx
  obtain ⟨q4, E4⟩ : ∃ q, q = 256 * q5 + e := ⟨_, rfl⟩
  rw [← E4] at hx
  obtain ⟨q3, E3⟩ : ∃ q, q = 256 * q4 + d := ⟨_, rfl⟩
  rw [← E3] at hx
  obtain ⟨q2, E2⟩ : ∃ q, q = 256 * q3 + c := ⟨_, rfl⟩
  rw [← E2] at hx
  obtain ⟨q1, E1⟩ : ∃ q, q = 256 * q2 + b := ⟨_, rfl⟩
  rw [← E1] at hx
  have hb0 := ub hx (ub E1 (ub E2 (ub E3 (ub E4 (ub E5 (ub E6 (ub E7 (Nat.le_refl 0) hh) hg) hf) he) hd) hc) hb) ha
  refine ⟨big (Nat.le_trans hb0 (by decide)) hy hz hw, ?_⟩
  have Y0 := ad hx E1
  have Y1 := ad E1 E2
  have Y2 := ad E2 E3
  have Y3 := ad E3 E4
  have Y4 := ad E4 E5
  have Y5 := ad E5 E6
  have Y6 := ad E6 E7
  have Z0 := ad Y0 Y2
  have Z1 := ad Y1 Y3
  have Z2 := ad Y2 Y4
  have Z3 := ad Y3 Y5
  have Z4 := ad Y4 Y6
  have W0 := ad Z0 Z4
  have g1 : x / 256 = q1 := dv hx ha (by decide)
  rw [g1] at hy
  have g2 : y / 65536 = q2 + q3 := by
    rw [show 65536 = 256 * 256 from rfl, ← Nat.div_div_eq_div_mul, hy, dv Y0 (le2 ha hb) (by decide), dv Y1 (le2 hb hc) (by decide)]
  rw [g2, hy] at hz
  have g3 : z / 4294967296 = q4 + q5 + (q6 + q7) := by
    rw [show 4294967296 = 256 * 256 * 256 * 256 from rfl, ← Nat.div_div_eq_div_mul, ← Nat.div_div_eq_div_mul, ← Nat.div_div_eq_div_mul, hz, dv Z0 (le2 (le2 ha hb) (le2 hc hd)) (by decide), dv Z1 (le2 (le2 hb hc) (le2 hd he)) (by decide), dv Z2 (le2 (le2 hc hd) (le2 he hf)) (by decide), dv Z3 (le2 (le2 hd he) (le2 hf hg)) (by decide)]
  rw [g3, hz] at hw
  rw [hw, m128 W0 (le2 (le2 (le2 ha hb) (le2 hc hd)) (le2 (le2 he hf) (le2 hg hh))) (by decide)]
  exact asc a b c d e f g h
