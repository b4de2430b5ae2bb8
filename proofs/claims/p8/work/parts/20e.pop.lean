theorem popc_64 (n : Nat) : popc 64 n = popc 8 (n % 256) + (popc 8 (n / 256 % 256) + (popc 8 (n / 256 / 256 % 256) + (popc 8 (n / 256 / 256 / 256 % 256) + (popc 8 (n / 256 / 256 / 256 / 256 % 256) + (popc 8 (n / 256 / 256 / 256 / 256 / 256 % 256) + (popc 8 (n / 256 / 256 / 256 / 256 / 256 / 256 % 256) + popc 8 (n / 256 / 256 / 256 / 256 / 256 / 256 / 256 % 256))))))) := by
  have e0 : popc 64 (n) = popc 8 (n % 256) + popc 56 (n / 256) := popc_s (n) 56
  have e1 : popc 56 (n / 256) = popc 8 (n / 256 % 256) + popc 48 (n / 256 / 256) := popc_s (n / 256) 48
  have e2 : popc 48 (n / 256 / 256) = popc 8 (n / 256 / 256 % 256) + popc 40 (n / 256 / 256 / 256) := popc_s (n / 256 / 256) 40
  have e3 : popc 40 (n / 256 / 256 / 256) = popc 8 (n / 256 / 256 / 256 % 256) + popc 32 (n / 256 / 256 / 256 / 256) := popc_s (n / 256 / 256 / 256) 32
  have e4 : popc 32 (n / 256 / 256 / 256 / 256) = popc 8 (n / 256 / 256 / 256 / 256 % 256) + popc 24 (n / 256 / 256 / 256 / 256 / 256) := popc_s (n / 256 / 256 / 256 / 256) 24
  have e5 : popc 24 (n / 256 / 256 / 256 / 256 / 256) = popc 8 (n / 256 / 256 / 256 / 256 / 256 % 256) + popc 16 (n / 256 / 256 / 256 / 256 / 256 / 256) := popc_s (n / 256 / 256 / 256 / 256 / 256) 16
  have e6 : popc 16 (n / 256 / 256 / 256 / 256 / 256 / 256) = popc 8 (n / 256 / 256 / 256 / 256 / 256 / 256 % 256) + popc 8 (n / 256 / 256 / 256 / 256 / 256 / 256 / 256) := popc_s (n / 256 / 256 / 256 / 256 / 256 / 256) 8
  rw [e0, e1, e2, e3, e4, e5, e6, popc_8 (n / 256 / 256 / 256 / 256 / 256 / 256 / 256)]
theorem bitCount_eq (x : Int64) : F_J13_bitCount_95d88 x = Int32.ofNat (popc 64 x.toBitVec.toNat) := by
  have hn : x.toBitVec.toNat < 256 ^ 8 := x.toBitVec.isLt
  unfold F_J13_bitCount_95d88
  generalize ha : (x - ((lush x 1) &&& 6148914691236517205)) = a
  have ea : a.toBitVec.toNat = g1 x.toBitVec.toNat 8 := by
    rw [← ha]
    show (x.toBitVec - ((lush x (Int32.ofNat 1)).toBitVec &&& 6148914691236517205#64)).toNat = _
    have h1 : ((lush x (Int32.ofNat 1)).toBitVec &&& 6148914691236517205#64).toNat = (x.toBitVec.toNat / 2) &&& mk 85 8 := by
      rw [BitVec.toNat_and, lush_n (by decide)]
      rfl
    have h2 : (x.toBitVec.toNat / 2) &&& mk 85 8 ≤ x.toBitVec.toNat / 2 := Nat.and_le_left
    rw [BitVec.toNat_sub, h1]
    unfold g1
    omega
  unfold F_J13_bitCount_95d88_10
  generalize hb : ((a &&& 3689348814741910323) + ((lush a 2) &&& 3689348814741910323)) = b
  have hm : mk 51 8 = 3689348814741910323 := by decide
  have eb : b.toBitVec.toNat = g2 (g1 x.toBitVec.toNat 8) 8 := by
    rw [← hb, ← ea]
    show ((a.toBitVec &&& 3689348814741910323#64) + ((lush a (Int32.ofNat 2)).toBitVec &&& 3689348814741910323#64)).toNat = _
    rw [BitVec.toNat_add, BitVec.toNat_and, BitVec.toNat_and, lush_n (by decide)]
    have h1 : (a.toBitVec.toNat &&& mk 51 8) ≤ mk 51 8 := Nat.and_le_right
    have h2 : ((a.toBitVec.toNat / 4) &&& mk 51 8) ≤ mk 51 8 := Nat.and_le_right
    show ((a.toBitVec.toNat &&& 3689348814741910323) + (a.toBitVec.toNat / 4 &&& 3689348814741910323)) % 2 ^ 64 = _
    rw [hm] at h1 h2
    unfold g2
    rw [hm]
    exact Nat.mod_eq_of_lt (by omega)
  unfold F_J13_bitCount_95d88_24
  generalize hc : ((b + (lush b 4)) &&& 1085102592571150095) = c
  have hb2 : b.toBitVec.toNat ≤ 2 * mk 51 8 := by
    rw [eb]
    have h1 : ((g1 x.toBitVec.toNat 8) &&& mk 51 8) ≤ mk 51 8 := Nat.and_le_right
    have h2 : ((g1 x.toBitVec.toNat 8 / 4) &&& mk 51 8) ≤ mk 51 8 := Nat.and_le_right
    unfold g2
    omega
  rw [hm] at hb2
  have ec : c.toBitVec.toNat = sB 8 x.toBitVec.toNat := by
    rw [← hc, ← (sB_eq 8 _ hn).2, ← eb]
    show ((b + lush b (Int32.ofNat 4)).toBitVec &&& 1085102592571150095#64).toNat = _
    rw [BitVec.toNat_and, add_sh (by decide) (by omega)]
    rfl
  have hp : ∀ n, popc 8 n ≤ 8 := fun n => popc_le 8 n
  have hsum : popc 64 x.toBitVec.toNat = popc 8 (x.toBitVec.toNat % 256) + (popc 8 (x.toBitVec.toNat / 256 % 256) + (popc 8 (x.toBitVec.toNat / 256 / 256 % 256) + (popc 8 (x.toBitVec.toNat / 256 / 256 / 256 % 256) + (popc 8 (x.toBitVec.toNat / 256 / 256 / 256 / 256 % 256) + (popc 8 (x.toBitVec.toNat / 256 / 256 / 256 / 256 / 256 % 256) + (popc 8 (x.toBitVec.toNat / 256 / 256 / 256 / 256 / 256 / 256 % 256) + popc 8 (x.toBitVec.toNat / 256 / 256 / 256 / 256 / 256 / 256 / 256 % 256))))))) := by
    exact popc_64 _
  obtain ⟨⟨hx, hy, hz, hw⟩, hr⟩ := fold8 (hp (x.toBitVec.toNat % 256)) (hp (x.toBitVec.toNat / 256 % 256)) (hp (x.toBitVec.toNat / 256 / 256 % 256)) (hp (x.toBitVec.toNat / 256 / 256 / 256 % 256)) (hp (x.toBitVec.toNat / 256 / 256 / 256 / 256 % 256)) (hp (x.toBitVec.toNat / 256 / 256 / 256 / 256 / 256 % 256)) (hp (x.toBitVec.toNat / 256 / 256 / 256 / 256 / 256 / 256 % 256)) (hp (x.toBitVec.toNat / 256 / 256 / 256 / 256 / 256 / 256 / 256 % 256)) c.toBitVec.toNat _ _ _ ec rfl rfl rfl
  unfold F_J13_bitCount_95d88_34
  generalize hd : c + lush c 8 = d
  have ed : d.toBitVec.toNat = c.toBitVec.toNat + c.toBitVec.toNat / 256 := by
    rw [← hd]
    exact add_sh (i := 8) (by decide) (by omega)
  unfold F_J13_bitCount_95d88_41
  generalize he : d + lush d 16 = e
  have ee : e.toBitVec.toNat = d.toBitVec.toNat + d.toBitVec.toNat / 65536 := by
    rw [← he]
    exact add_sh (i := 16) (by decide) (by omega)
  unfold F_J13_bitCount_95d88_48
  generalize hf : e + lush e 32 = f
  have ef : f.toBitVec.toNat = e.toBitVec.toNat + e.toBitVec.toNat / 4294967296 := by
    rw [← hf]
    exact add_sh (i := 32) (by decide) (by omega)
  unfold F_J13_bitCount_95d88_55
  rw [← ed, ← ee, ← ef] at hw hr
  rw [bc_end hw, hr, hsum]
theorem many_bits (x : Int64) : F_X9_many x = F_J13_bitCount_95d88 x := (many_eq x).trans (bitCount_eq x).symm
