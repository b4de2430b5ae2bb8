/-! the two methods that answer a cell or null -/
def sid (a : Int32) : Nat := 19 + 2 * Int32.toNatClampNeg a
theorem clamp_lt {a : Int32} {n : Nat} (c : vp_in a n) : Int32.toNatClampNeg a < n := Nat.not_le.mp fun q => c (Or.inr q)
theorem isX3_sid {a : Int32} (c : vp_in a 4) : isX3 (sid a) := by
  have h := clamp_lt c
  unfold sid
  generalize Int32.toNatClampNeg a = j at h
  rcases (show j = 0 ∨ j = 1 ∨ j = 2 ∨ j = 3 by omega) with rfl | rfl | rfl | rfl <;> exact ⟨rfl, rfl, rfl⟩
theorem R0_sid {a : Int32} (c : vp_in a 4) : R0 18 (Int32.toNatClampNeg a) = some (sid a) := by
  have h := clamp_lt c
  unfold sid
  generalize Int32.toNatClampNeg a = j at h ⊢
  rcases (show j = 0 ∨ j = 1 ∨ j = 2 ∨ j = 3 by omega) with rfl | rfl | rfl | rfl <;> rfl
theorem ct_at1 (I : WI) (L : WL) (a1 : Int32) (c : vp_in a1 4) : Ct x_X4_at 1 [.ref 17, .int a1] ly0 I L R0 0 0 (some (.ref (sid a1)), ly0, I, L, R0) :=
  Ct_of_V mo_X4_at.1 (Nat.le_of_ble_eq_true rfl) (V_iload_n (tat ok_X4_at_0 (i := 0) (q := 1) rfl rfl) 1 rfl rfl <|
    V_if_lt (tat ok_X4_at_0 (i := 1) (q := 4) rfl rfl) rfl (fun c1 => absurd (Or.inl c1) c) (fun c1 => V_iload_n (tat ok_X4_at_0 (i := 2) (q := 5) rfl rfl) 1 rfl rfl <|
    V_aload_n (tat ok_X4_at_0 (i := 3) (q := 6) rfl rfl) 0 rfl rfl <|
    V_getR (tat ok_X4_at_0 (i := 4) (q := 9) rfl rfl) fk_X4_11 rfl rfl <|
    V_alen (tat ok_X4_at_0 (i := 5) (q := 10) rfl rfl) rfl ⟨by decide, by decide⟩ nl_4 <|
    V_icmp_ge (tat ok_X4_at_0 (i := 6) (q := 13) rfl rfl) rfl (fun c2 => absurd (by
      have h := (vp_in_iff.mp c).2
      have h2 := Int32.le_iff_toInt_le.mp c2
      have h4 : (4 : Int32).toInt = 4 := rfl
      omega : False) id) (fun c2 => V_aload_n (tat ok_X4_at_0 (i := 7) (q := 14) rfl rfl) 0 rfl rfl <|
    V_getR (tat ok_X4_at_0 (i := 8) (q := 17) rfl rfl) fk_X4_11 rfl rfl <|
    V_iload_n (tat ok_X4_at_0 (i := 9) (q := 18) rfl rfl) 1 rfl rfl <|
    V_aald (tat ok_X4_at_0 (i := 10) (q := 19) rfl rfl) rfl c (R0_sid c) (isX3_lt (isX3_sid c)) <|
    V_goto (tat ok_X4_at_0 (i := 11) (q := 22) rfl rfl) rfl <|
    V_aret (C := "RowsColumns$Sheet") (tat ok_X4_at_0 (i := 13) (q := 24) rfl rfl) rfl rfl ⟨Nat.le_refl _, Nat.le_refl _⟩)))
theorem ct_atN (I : WI) (L : WL) (a1 : Int32) (c : ¬ vp_in a1 4) : Ct x_X4_at 1 [.ref 17, .int a1] ly0 I L R0 0 0 (some .null, ly0, I, L, R0) :=
  Ct_of_V mo_X4_at.1 (Nat.le_of_ble_eq_true rfl) (V_iload_n (tat ok_X4_at_0 (i := 0) (q := 1) rfl rfl) 1 rfl rfl <|
    V_if_lt (tat ok_X4_at_0 (i := 1) (q := 4) rfl rfl) rfl (fun c1 => V_null (tat ok_X4_at_0 (i := 12) (q := 23) rfl rfl) <|
      V_aretN (C := "RowsColumns$Sheet") (tat ok_X4_at_0 (i := 13) (q := 24) rfl rfl) rfl rfl ⟨Nat.le_refl _, Nat.le_refl _⟩) (fun c1 => V_iload_n (tat ok_X4_at_0 (i := 2) (q := 5) rfl rfl) 1 rfl rfl <|
    V_aload_n (tat ok_X4_at_0 (i := 3) (q := 6) rfl rfl) 0 rfl rfl <|
    V_getR (tat ok_X4_at_0 (i := 4) (q := 9) rfl rfl) fk_X4_11 rfl rfl <|
    V_alen (tat ok_X4_at_0 (i := 5) (q := 10) rfl rfl) rfl ⟨by decide, by decide⟩ nl_4 <|
    V_icmp_ge (tat ok_X4_at_0 (i := 6) (q := 13) rfl rfl) rfl (fun c2 => V_null (tat ok_X4_at_0 (i := 12) (q := 23) rfl rfl) <|
      V_aretN (C := "RowsColumns$Sheet") (tat ok_X4_at_0 (i := 13) (q := 24) rfl rfl) rfl rfl ⟨Nat.le_refl _, Nat.le_refl _⟩) (fun c2 => absurd (vpin ti_4 c1 c2) c)))
theorem ct_img0 (I : WI) (L : WL) (a1 : Int32) (c : a1 = 0) : Ct x_X8_imageOf 1 [.ref 0, .int a1] ly0 I L R0 0 0 (some (.ref 3), ly0, I, L, R0) :=
  Ct_of_V mo_X8_imageOf.1 (Nat.le_of_ble_eq_true rfl) (V_iload_n (tat ok_X8_imageOf_0 (i := 0) (q := 1) rfl rfl) 1 rfl rfl <|
    V_if_ne (tat ok_X8_imageOf_0 (i := 1) (q := 4) rfl rfl) rfl (fun c1 => absurd c c1) (fun c1 => V_aload_n (tat ok_X8_imageOf_0 (i := 2) (q := 5) rfl rfl) 0 rfl rfl <|
    V_getR (tat ok_X8_imageOf_0 (i := 3) (q := 8) rfl rfl) fk_X8_21 rfl rfl <|
    V_aret (C := "RowsColumns$Cloth") (tat ok_X8_imageOf_0 (i := 4) (q := 9) rfl rfl) rfl rfl ⟨Nat.le_refl _, Nat.le_refl _⟩))
theorem ct_img1 (I : WI) (L : WL) (a1 : Int32) (c : a1 = 1) : Ct x_X8_imageOf 1 [.ref 0, .int a1] ly0 I L R0 0 0 (some (.ref 4), ly0, I, L, R0) :=
  Ct_of_V mo_X8_imageOf.1 (Nat.le_of_ble_eq_true rfl) (V_iload_n (tat ok_X8_imageOf_0 (i := 0) (q := 1) rfl rfl) 1 rfl rfl <|
    V_if_ne (tat ok_X8_imageOf_0 (i := 1) (q := 4) rfl rfl) rfl (fun c1 => V_iload_n (tat ok_X8_imageOf_0 (i := 5) (q := 10) rfl rfl) 1 rfl rfl <|
    V_iconst (tat ok_X8_imageOf_0 (i := 6) (q := 11) rfl rfl) ic_1 <|
    V_icmp_ne (tat ok_X8_imageOf_0 (i := 7) (q := 14) rfl rfl) rfl (fun c2 => absurd c c2) (fun c2 => V_aload_n (tat ok_X8_imageOf_0 (i := 8) (q := 15) rfl rfl) 0 rfl rfl <|
    V_getR (tat ok_X8_imageOf_0 (i := 9) (q := 18) rfl rfl) fk_X8_24 rfl rfl <|
    V_goto (tat ok_X8_imageOf_0 (i := 10) (q := 21) rfl rfl) rfl <|
    V_aret (C := "RowsColumns$Cloth") (tat ok_X8_imageOf_0 (i := 12) (q := 23) rfl rfl) rfl rfl ⟨Nat.le_refl _, Nat.le_refl _⟩)) (fun c1 => absurd (c1.symm.trans c) (by decide)))
theorem ct_imgN (I : WI) (L : WL) (a1 : Int32) (c : ¬ a1 = 0) (d : ¬ a1 = 1) : Ct x_X8_imageOf 1 [.ref 0, .int a1] ly0 I L R0 0 0 (some .null, ly0, I, L, R0) :=
  Ct_of_V mo_X8_imageOf.1 (Nat.le_of_ble_eq_true rfl) (V_iload_n (tat ok_X8_imageOf_0 (i := 0) (q := 1) rfl rfl) 1 rfl rfl <|
    V_if_ne (tat ok_X8_imageOf_0 (i := 1) (q := 4) rfl rfl) rfl (fun c1 => V_iload_n (tat ok_X8_imageOf_0 (i := 5) (q := 10) rfl rfl) 1 rfl rfl <|
    V_iconst (tat ok_X8_imageOf_0 (i := 6) (q := 11) rfl rfl) ic_1 <|
    V_icmp_ne (tat ok_X8_imageOf_0 (i := 7) (q := 14) rfl rfl) rfl (fun c2 => V_null (tat ok_X8_imageOf_0 (i := 11) (q := 22) rfl rfl) <|
    V_aretN (C := "RowsColumns$Cloth") (tat ok_X8_imageOf_0 (i := 12) (q := 23) rfl rfl) rfl rfl ⟨Nat.le_refl _, Nat.le_refl _⟩) (fun c2 => absurd c2 d)) (fun c1 => absurd c1 c))
