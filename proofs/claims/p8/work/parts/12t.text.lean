/-! the constant texts: length, charAt -/
def slen (i : Nat) : Int32 := Int32.ofNat (s_len.getD i 0)
def chr (i : Nat) (j : Int32) : Int32 := ((((s_byt.getD i []).getD j.toNatClampNeg 0) &&& 255).toUInt32 % 65536).toInt32
theorem ct_coder (I : WI) (L : WL) (t1 : Nat) (ht : t1 < 6) : Ct x_J0_coder_7d493 1 [.ref (1000 + t1)] ly0 I L R0 0 0 (some (.int 0), ly0, I, L, R0) :=
  Ct_of_V mo_J0_coder_7d493.1 (Nat.le_of_ble_eq_true rfl) (V_getstC (tat ok_J0_coder_7d493_0 (i := 0) (q := 3) rfl rfl) (gw_in fl_J0_38 rfl) <|
    V_if_eq (tat ok_J0_coder_7d493_0 (i := 1) (q := 6) rfl rfl) rfl (fun c => absurd c (by decide)) (fun _ => V_aload_n (tat ok_J0_coder_7d493_0 (i := 2) (q := 7) rfl rfl) 0 rfl rfl <|
    V_sgetC (tat ok_J0_coder_7d493_0 (i := 3) (q := 10) rfl rfl) ht (gw_in fl_J0_15 rfl) <|
    V_goto (tat ok_J0_coder_7d493_0 (i := 4) (q := 13) rfl rfl) rfl <|
    V_iret (tat ok_J0_coder_7d493_0 (i := 6) (q := 15) rfl rfl) _ rfl rfl rfl ⟨Nat.le_refl _, Nat.le_refl _⟩))
theorem ct_latin (I : WI) (L : WL) (t1 : Nat) (ht : t1 < 6) : Ct x_J0_isLatin1_aae02 1 [.ref (1000 + t1)] ly0 I L R0 0 0 (some (.int 1), ly0, I, L, R0) :=
  Ct_of_V mo_J0_isLatin1_aae02.1 (Nat.le_of_ble_eq_true rfl) (V_getstC (tat ok_J0_isLatin1_aae02_0 (i := 0) (q := 3) rfl rfl) (gw_in fl_J0_38 rfl) <|
    V_if_eq (tat ok_J0_isLatin1_aae02_0 (i := 1) (q := 6) rfl rfl) rfl (fun c => absurd c (by decide)) (fun _ => V_aload_n (tat ok_J0_isLatin1_aae02_0 (i := 2) (q := 7) rfl rfl) 0 rfl rfl <|
    V_sgetC (tat ok_J0_isLatin1_aae02_0 (i := 3) (q := 10) rfl rfl) ht (gw_in fl_J0_15 rfl) <|
    V_if_ne (tat ok_J0_isLatin1_aae02_0 (i := 4) (q := 13) rfl rfl) rfl (fun c => absurd rfl c) (fun _ => V_iconst (tat ok_J0_isLatin1_aae02_0 (i := 5) (q := 14) rfl rfl) ic_1 <|
    V_goto (tat ok_J0_isLatin1_aae02_0 (i := 6) (q := 17) rfl rfl) rfl <|
    V_iret (tat ok_J0_isLatin1_aae02_0 (i := 8) (q := 19) rfl rfl) _ rfl rfl rfl ⟨Nat.le_refl _, Nat.le_refl _⟩)))
theorem ct_slen (I : WI) (L : WL) (t1 : Nat) (ht : t1 < 6) : Ct x_J0_length_8abf5 2 [.ref (1000 + t1)] ly0 I L R0 0 0 (some (.int (slen t1)), ly0, I, L, R0) :=
  Ct_of_V mo_J0_length_8abf5.1 (Nat.le_of_ble_eq_true rfl) (V_aload_n (tat ok_J0_length_8abf5_0 (i := 0) (q := 1) rfl rfl) 0 rfl rfl <|
    V_sgetV (tat ok_J0_length_8abf5_0 (i := 1) (q := 4) rfl rfl) ht (gw_in fl_J0_9 rfl) <|
    V_salen (v := slen t1) (tat ok_J0_length_8abf5_0 (i := 2) (q := 5) rfl rfl) ht rfl <|
    V_aload_n (tat ok_J0_length_8abf5_0 (i := 3) (q := 6) rfl rfl) 0 rfl rfl <|
    V_callT (As := []) (ct_coder I L t1 ht) mo_J0_coder_7d493 (tat ok_J0_length_8abf5_0 (i := 4) (q := 9) rfl rfl) ml_J0_335 rfl ht rfl ⟨Nat.le_of_ble_eq_true rfl, Nat.le_of_ble_eq_true rfl⟩ ⟨Nat.le_refl _, Nat.le_refl _⟩ (Nat.le_of_ble_eq_true rfl) rfl <|
    V_ishr (x := slen t1) (y1 := 0) (st := []) (tat ok_J0_length_8abf5_0 (i := 5) (q := 10) rfl rfl) <|
    V_iret (tat ok_J0_length_8abf5_0 (i := 6) (q := 11) rfl rfl) _ rfl (nar_int _) (by rw [sb_shr0]) ⟨Nat.le_refl _, Nat.le_refl _⟩)
theorem ct_pre (I : WI) (L : WL) (j n : Int32) (h0 : ¬ j < 0) (h1 : j < n) : Ct x_J3_checkIndex_8e157 1 [.int j, .int n, .ref 3000] ly0 I L R0 0 0 (some (.int j), ly0, I, L, R0) :=
  Ct_of_V mo_J3_checkIndex_8e157.1 (Nat.le_of_ble_eq_true rfl) (V_iload_n (tat ok_J3_checkIndex_8e157_0 (i := 0) (q := 1) rfl rfl) 0 rfl rfl <|
    V_if_lt (tat ok_J3_checkIndex_8e157_0 (i := 1) (q := 4) rfl rfl) rfl (fun c => absurd c h0) (fun _ => V_iload_n (tat ok_J3_checkIndex_8e157_0 (i := 2) (q := 5) rfl rfl) 0 rfl rfl <|
    V_iload_n (tat ok_J3_checkIndex_8e157_0 (i := 3) (q := 6) rfl rfl) 1 rfl rfl <|
    V_icmp_lt (tat ok_J3_checkIndex_8e157_0 (i := 4) (q := 9) rfl rfl) rfl (fun _ => V_iload_n (tat ok_J3_checkIndex_8e157_0 (i := 10) (q := 17) rfl rfl) 0 rfl rfl <|
    V_iret (tat ok_J3_checkIndex_8e157_0 (i := 11) (q := 18) rfl rfl) _ rfl (nar_int _) rfl ⟨Nat.le_refl _, Nat.le_refl _⟩) (fun c => absurd h1 c)))
theorem ct_chk (I : WI) (L : WL) (j n : Int32) (h0 : ¬ j < 0) (h1 : j < n) : Ct x_J0_checkIndex_df160 2 [.int j, .int n] ly0 I L R0 0 0 (none, ly0, I, L, R0) :=
  Ct_of_V mo_J0_checkIndex_df160.1 (Nat.le_of_ble_eq_true rfl) (V_iload_n (tat ok_J0_checkIndex_df160_0 (i := 0) (q := 1) rfl rfl) 0 rfl rfl <|
    V_iload_n (tat ok_J0_checkIndex_df160_0 (i := 1) (q := 2) rfl rfl) 1 rfl rfl <|
    V_getstF (tat ok_J0_checkIndex_df160_0 (i := 2) (q := 5) rfl rfl) (gw_in fl_J0_1053 rfl) <|
    V_cs3 (ct_pre I L j n h0 h1) mo_J3_checkIndex_8e157 (tat ok_J0_checkIndex_df160_0 (i := 3) (q := 8) rfl rfl) ml_J0_1059 ⟨Nat.le_of_ble_eq_true rfl, Nat.le_of_ble_eq_true rfl⟩ ⟨Nat.le_refl _, Nat.le_refl _⟩ (Nat.le_of_ble_eq_true rfl) <|
    V_pop (tat ok_J0_checkIndex_df160_0 (i := 4) (q := 9) rfl rfl) rfl <|
    V_vret (tat ok_J0_checkIndex_df160_0 (i := 5) (q := 10) rfl rfl) rfl rfl ⟨Nat.le_refl _, Nat.le_refl _⟩)
theorem s_len_small {t1 : Nat} (ht : t1 < 6) : s_len.getD t1 0 < 2 ^ 31 := by
  rcases (show t1 = 0 ∨ t1 = 1 ∨ t1 = 2 ∨ t1 = 3 ∨ t1 = 4 ∨ t1 = 5 by omega) with rfl | rfl | rfl | rfl | rfl | rfl <;> decide
theorem in_slen {t1 : Nat} (ht : t1 < 6) {j : Int32} (c : vp_in j (s_len.getD t1 0)) : ¬ j < 0 ∧ j < slen t1 := by
  refine ⟨fun z => c (Or.inl z), ?_⟩
  rw [Int32.lt_iff_toInt_lt]
  have h := (vp_in_iff.mp c).2
  have h2 := nI_toInt (s_len_small ht)
  unfold nI at h2
  unfold slen
  omega
theorem ct_chr1 (I : WI) (L : WL) (t1 : Nat) (j : Int32) (ht : t1 < 6) (c : vp_in j (s_len.getD t1 0)) : Ct x_J1_charAt_3b067 3 [.ref (2000 + t1), .int j] ly0 I L R0 0 0 (some (.int (chr t1 j)), ly0, I, L, R0) :=
  Ct_of_V mo_J1_charAt_3b067.1 (Nat.le_of_ble_eq_true rfl) (V_iload_n (tat ok_J1_charAt_3b067_0 (i := 0) (q := 1) rfl rfl) 1 rfl rfl <|
    V_aload_n (tat ok_J1_charAt_3b067_0 (i := 1) (q := 2) rfl rfl) 0 rfl rfl <|
    V_salen (v := slen t1) (tat ok_J1_charAt_3b067_0 (i := 2) (q := 3) rfl rfl) ht rfl <|
    V_cs2v (ct_chk I L j (slen t1) (in_slen ht c).1 (in_slen ht c).2) mo_J0_checkIndex_df160 (tat ok_J1_charAt_3b067_0 (i := 3) (q := 6) rfl rfl) ml_J1_9 ⟨Nat.le_of_ble_eq_true rfl, Nat.le_of_ble_eq_true rfl⟩ ⟨Nat.le_refl _, Nat.le_refl _⟩ (Nat.le_of_ble_eq_true rfl) <|
    V_aload_n (tat ok_J1_charAt_3b067_0 (i := 4) (q := 7) rfl rfl) 0 rfl rfl <|
    V_iload_n (tat ok_J1_charAt_3b067_0 (i := 5) (q := 8) rfl rfl) 1 rfl rfl <|
    V_sbald (tat ok_J1_charAt_3b067_0 (i := 6) (q := 9) rfl rfl) ht c rfl <|
    V_sipush (v := 255) (tat ok_J1_charAt_3b067_0 (i := 7) (q := 12) rfl rfl) (by decide) <|
    V_iand (tat ok_J1_charAt_3b067_0 (i := 8) (q := 13) rfl rfl) <|
    V_i2c (tat ok_J1_charAt_3b067_0 (i := 9) (q := 14) rfl rfl) <|
    V_iret (tat ok_J1_charAt_3b067_0 (i := 10) (q := 15) rfl rfl) .char rfl (pk_nc _) rfl ⟨Nat.le_refl _, Nat.le_refl _⟩)
theorem ct_chr (I : WI) (L : WL) (t1 : Nat) (j : Int32) (ht : t1 < 6) (c : vp_in j (s_len.getD t1 0)) : Ct x_J0_charAt_5068e 4 [.ref (1000 + t1), .int j] ly0 I L R0 0 0 (some (.int (chr t1 j)), ly0, I, L, R0) :=
  Ct_of_V mo_J0_charAt_5068e.1 (Nat.le_of_ble_eq_true rfl) (V_aload_n (tat ok_J0_charAt_5068e_0 (i := 0) (q := 1) rfl rfl) 0 rfl rfl <|
    V_callT (As := []) (ct_latin I L t1 ht) mo_J0_isLatin1_aae02 (tat ok_J0_charAt_5068e_0 (i := 1) (q := 4) rfl rfl) ml_J0_492 rfl ht rfl ⟨Nat.le_of_ble_eq_true rfl, Nat.le_of_ble_eq_true rfl⟩ ⟨Nat.le_refl _, Nat.le_refl _⟩ (Nat.le_of_ble_eq_true rfl) rfl <|
    V_if_eq (x := 1) (st := []) (tat ok_J0_charAt_5068e_0 (i := 2) (q := 7) rfl rfl) rfl (fun c => absurd c (by decide)) (fun _ => V_aload_n (tat ok_J0_charAt_5068e_0 (i := 3) (q := 8) rfl rfl) 0 rfl rfl <|
    V_sgetV (tat ok_J0_charAt_5068e_0 (i := 4) (q := 11) rfl rfl) ht (gw_in fl_J0_9 rfl) <|
    V_iload_n (tat ok_J0_charAt_5068e_0 (i := 5) (q := 12) rfl rfl) 1 rfl rfl <|
    V_cs2 (ct_chr1 I L t1 j ht c) mo_J1_charAt_3b067 (tat ok_J0_charAt_5068e_0 (i := 6) (q := 15) rfl rfl) ml_J0_495 ⟨Nat.le_of_ble_eq_true rfl, Nat.le_of_ble_eq_true rfl⟩ ⟨Nat.le_refl _, Nat.le_refl _⟩ (Nat.le_of_ble_eq_true rfl) <|
    V_iret (tat ok_J0_charAt_5068e_0 (i := 7) (q := 16) rfl rfl) .char rfl (pk_nc _) rfl ⟨Nat.le_refl _, Nat.le_refl _⟩))
