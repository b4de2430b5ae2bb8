def nz (a : Int32) : Int32 := if a = 0 then 0 else 1
section LawRows
variable {Z : Cx} {pc q : Nat} {lv : List (Nat × Value)} {st : List Value} {y : Ly} {I : WI} {L : WL} {R : WR} {kc ks : Nat}
theorem V_xa {n : Nat} {xs : Nat → Int32} {i a : Int32} (h : At Z.1.2.1 pc .iaload 1 q) (hz : Z.2.2.2 = some (n, xs)) (hin : vp_in i n) (e : xs i.toNatClampNeg = a) (k : V Z q lv (.int a :: st) y I L R kc ks) : V Z pc lv (.int i :: .ref 2999 :: st) y I L R kc ks := by
  subst e
  exact V_xald h hz hin k
theorem V_nz {a : Int32} {q1 q2 q3 q4 : Nat} {o1 o2 : Int} (h0 : At Z.1.2.1 pc (.ifCond .eq o1) 3 q1) (t0 : (pc : Int) + o1 = (q3 : Int)) (h1 : At Z.1.2.1 q1 (.iconst 1) 1 q2) (h2 : At Z.1.2.1 q2 (.goto o2) 3 q3) (t2 : (q2 : Int) + o2 = (q4 : Int)) (h3 : At Z.1.2.1 q3 (.iconst 0) 1 q4) (k : V Z q4 lv (.int (nz a) :: st) y I L R kc ks) : V Z pc lv (.int a :: st) y I L R kc ks :=
  V_if_eq h0 t0 (fun c => V_iconst h3 ic_0 (by rw [show nz a = 0 from if_pos c] at k; exact k)) (fun c => V_iconst h1 ic_1 (V_goto h2 t2 (by rw [show nz a = 1 from if_neg c] at k; exact k)))
theorem V_pop2L {v : Int64} (h : At Z.1.2.1 pc (.pop2) 1 q) (k : V Z q lv (st) y I L R kc ks) : V Z pc lv (.long v :: st) y I L R kc ks := by
  obtain ⟨h, rfl⟩ := h
  intro E p l e s m args below meth c H locs ls F D N S hl
  exact lv_pop2_2 F.1 F.2.1 h ((gv_cat E (.long v)).trans rfl) (k E p l e s m args below meth c H locs ls F D N S hl)
end LawRows
theorem sw_out {x : Int32} (h : ∀ k : Nat, k < 38 → ¬ x = Int32.ofNat k) : ∀ m : Int, (37 : Int) = m → x.toInt < 0 ∨ m < x.toInt := by
  intro m hm
  subst hm
  refine Classical.byContradiction fun hc => ?_
  have h0 : 0 ≤ x.toInt := by omega
  have h1 : x.toInt ≤ 37 := by omega
  refine h x.toInt.toNat (by omega) (Int32.toInt_inj.mp ?_)
  rw [Int32.toInt_ofNat_of_lt (by omega)]
  omega
theorem sw_at {x : Int32} (k : Nat) (hk : k < 38) (h : x = Int32.ofNat k) : x.toInt = (k : Int) + 0 := by
  rw [h, Int32.toInt_ofNat_of_lt (by omega)]
  omega

def S_0 (J : WI → WL → Prop) (I : WI) (L : WL) (a1 a2 a3 a4 : Int32) : Prop := ∃ w, (F_X9_feed (p2 (F_X8_feed I ((lsh (Int32.toInt64 a1) 32) ||| ((Int32.toInt64 a2) &&& 4294967295)))) ((lsh (Int32.toInt64 a1) 32) ||| ((Int32.toInt64 a2) &&& 4294967295))) = some w ∧ J (p2 w) L
theorem V_case_0 {n : Nat} {xs : Nat → Int32} {J : WI → WL → Prop} {I : WI} {L : WL} {i a1 a2 a3 a4 : Int32} (b1 : vp_in (i + 1) n) (b2 : vp_in (i + 2) n) (b3 : vp_in (i + 3) n) (b4 : vp_in (i + 4) n) (e1 : xs (Int32.toNatClampNeg (i + 1)) = a1) (e2 : xs (Int32.toNatClampNeg (i + 2)) = a2) (e3 : xs (Int32.toNatClampNeg (i + 3)) = a3) (e4 : xs (Int32.toNatClampNeg (i + 4)) = a4) (hk : ∀ I L, J I L → V (ZL n xs) 1348 [(3, .int i), (2, .ref 33), (1, .ref 0), (0, .ref 2999)] [] ly0 I L R0 45 8044) (h : S_0 J I L a1 a2 a3 a4) : V (ZL n xs) 200 [(3, .int i), (2, .ref 33), (1, .ref 0), (0, .ref 2999)] [] ly0 I L R0 45 8044 := by
  obtain ⟨w, ew, hJ⟩ := h
  exact V_aload_n (tat ok_L_law_0 (i := 22) (q := 201) rfl rfl) 2 rfl rfl <|
    V_aload_n (tat ok_L_law_0 (i := 23) (q := 202) rfl rfl) 3 rfl rfl <|
    V_iload_n (tat ok_L_law_0 (i := 24) (q := 203) rfl rfl) 0 rfl rfl <|
    V_iconst (tat ok_L_law_0 (i := 25) (q := 204) rfl rfl) ic_1 <|
    V_iadd (tat ok_L_law_0 (i := 26) (q := 205) rfl rfl) <|
    V_xa (tat ok_L_law_0 (i := 27) (q := 206) rfl rfl) rfl b1 e1 <|
    V_i2l (tat ok_L_law_0 (i := 28) (q := 207) rfl rfl) <|
    V_bipush (tat ok_L_law_0 (i := 29) (q := 209) rfl rfl) bp_32 <|
    V_lshl (tat ok_L_law_0 (i := 30) (q := 210) rfl rfl) <|
    V_aload_n (tat ok_L_law_0 (i := 31) (q := 211) rfl rfl) 3 rfl rfl <|
    V_iload_n (tat ok_L_law_0 (i := 32) (q := 212) rfl rfl) 0 rfl rfl <|
    V_iconst (tat ok_L_law_0 (i := 33) (q := 213) rfl rfl) ic_2 <|
    V_iadd (tat ok_L_law_0 (i := 34) (q := 214) rfl rfl) <|
    V_xa (tat ok_L_law_0 (i := 35) (q := 215) rfl rfl) rfl b2 e2 <|
    V_i2l (tat ok_L_law_0 (i := 36) (q := 216) rfl rfl) <|
    V_ldc2 (v := 4294967295) (tat ok_L_law_0 (i := 37) (q := 219) rfl rfl) (gw_in kl_L_13 rfl) <|
    V_land (tat ok_L_law_0 (i := 38) (q := 220) rfl rfl) <|
    V_lor (tat ok_L_law_0 (i := 39) (q := 221) rfl rfl) <|
    V_cv1 (ct_X8_feed I L ((lsh (Int32.toInt64 a1) 32) ||| ((Int32.toInt64 a2) &&& 4294967295))) mo_X8_feed (tat ok_L_law_1 (i := 0) (q := 224) rfl rfl) ml_L_15 rfl ⟨by decide, _, rfl, rfl⟩ ⟨(Nat.le_of_ble_eq_true rfl), (Nat.le_of_ble_eq_true rfl)⟩ ⟨(Nat.le_of_ble_eq_true rfl), (Nat.le_of_ble_eq_true rfl)⟩ (Nat.le_of_ble_eq_true rfl) <|
    V_pop (tat ok_L_law_1 (i := 1) (q := 225) rfl rfl) rfl <|
    V_aload_n (tat ok_L_law_1 (i := 2) (q := 226) rfl rfl) 1 rfl rfl <|
    V_aload_n (tat ok_L_law_1 (i := 3) (q := 227) rfl rfl) 3 rfl rfl <|
    V_iload_n (tat ok_L_law_1 (i := 4) (q := 228) rfl rfl) 0 rfl rfl <|
    V_iconst (tat ok_L_law_1 (i := 5) (q := 229) rfl rfl) ic_1 <|
    V_iadd (tat ok_L_law_1 (i := 6) (q := 230) rfl rfl) <|
    V_xa (tat ok_L_law_1 (i := 7) (q := 231) rfl rfl) rfl b1 e1 <|
    V_i2l (tat ok_L_law_1 (i := 8) (q := 232) rfl rfl) <|
    V_bipush (tat ok_L_law_1 (i := 9) (q := 234) rfl rfl) bp_32 <|
    V_lshl (tat ok_L_law_1 (i := 10) (q := 235) rfl rfl) <|
    V_aload_n (tat ok_L_law_1 (i := 11) (q := 236) rfl rfl) 3 rfl rfl <|
    V_iload_n (tat ok_L_law_1 (i := 12) (q := 237) rfl rfl) 0 rfl rfl <|
    V_iconst (tat ok_L_law_1 (i := 13) (q := 238) rfl rfl) ic_2 <|
    V_iadd (tat ok_L_law_1 (i := 14) (q := 239) rfl rfl) <|
    V_xa (tat ok_L_law_1 (i := 15) (q := 240) rfl rfl) rfl b2 e2 <|
    V_i2l (tat ok_L_law_1 (i := 16) (q := 241) rfl rfl) <|
    V_ldc2 (v := 4294967295) (tat ok_L_law_1 (i := 17) (q := 244) rfl rfl) (gw_in kl_L_13 rfl) <|
    V_land (tat ok_L_law_1 (i := 18) (q := 245) rfl rfl) <|
    V_lor (tat ok_L_law_1 (i := 19) (q := 246) rfl rfl) <|
    V_cv1 (ct_X9_feed (p2 (F_X8_feed I ((lsh (Int32.toInt64 a1) 32) ||| ((Int32.toInt64 a2) &&& 4294967295)))) L ((lsh (Int32.toInt64 a1) 32) ||| ((Int32.toInt64 a2) &&& 4294967295)) ew) mo_X9_feed (tat ok_L_law_1 (i := 20) (q := 249) rfl rfl) ml_L_19 rfl ⟨by decide, _, rfl, rfl⟩ ⟨(Nat.le_of_ble_eq_true rfl), (Nat.le_of_ble_eq_true rfl)⟩ ⟨(Nat.le_of_ble_eq_true rfl), (Nat.le_of_ble_eq_true rfl)⟩ (Nat.le_of_ble_eq_true rfl) <|
    V_pop (tat ok_L_law_1 (i := 21) (q := 250) rfl rfl) rfl <|
    V_goto (tat ok_L_law_1 (i := 22) (q := 253) rfl rfl) rfl <|
    hk _ _ hJ
def S_1 (J : WI → WL → Prop) (I : WI) (L : WL) (a1 a2 a3 a4 : Int32) : Prop := J (p2 (F_X9_end (p2 (F_X8_end I a1)) a1)) L
theorem V_case_1 {n : Nat} {xs : Nat → Int32} {J : WI → WL → Prop} {I : WI} {L : WL} {i a1 a2 a3 a4 : Int32} (b1 : vp_in (i + 1) n) (b2 : vp_in (i + 2) n) (b3 : vp_in (i + 3) n) (b4 : vp_in (i + 4) n) (e1 : xs (Int32.toNatClampNeg (i + 1)) = a1) (e2 : xs (Int32.toNatClampNeg (i + 2)) = a2) (e3 : xs (Int32.toNatClampNeg (i + 3)) = a3) (e4 : xs (Int32.toNatClampNeg (i + 4)) = a4) (hk : ∀ I L, J I L → V (ZL n xs) 1348 [(3, .int i), (2, .ref 33), (1, .ref 0), (0, .ref 2999)] [] ly0 I L R0 45 8044) (h : S_1 J I L a1 a2 a3 a4) : V (ZL n xs) 253 [(3, .int i), (2, .ref 33), (1, .ref 0), (0, .ref 2999)] [] ly0 I L R0 45 8044 := by
  have hJ := h
  exact V_aload_n (tat ok_L_law_1 (i := 23) (q := 254) rfl rfl) 2 rfl rfl <|
    V_aload_n (tat ok_L_law_1 (i := 24) (q := 255) rfl rfl) 3 rfl rfl <|
    V_iload_n (tat ok_L_law_1 (i := 25) (q := 256) rfl rfl) 0 rfl rfl <|
    V_iconst (tat ok_L_law_1 (i := 26) (q := 257) rfl rfl) ic_1 <|
    V_iadd (tat ok_L_law_1 (i := 27) (q := 258) rfl rfl) <|
    V_xa (tat ok_L_law_1 (i := 28) (q := 259) rfl rfl) rfl b1 e1 <|
    V_cv1 (ct_X8_end I L a1) mo_X8_end (tat ok_L_law_1 (i := 29) (q := 262) rfl rfl) ml_L_20 rfl ⟨by decide, _, rfl, rfl⟩ ⟨(Nat.le_of_ble_eq_true rfl), (Nat.le_of_ble_eq_true rfl)⟩ ⟨(Nat.le_of_ble_eq_true rfl), (Nat.le_of_ble_eq_true rfl)⟩ (Nat.le_of_ble_eq_true rfl) <|
    V_pop (tat ok_L_law_1 (i := 30) (q := 263) rfl rfl) rfl <|
    V_aload_n (tat ok_L_law_1 (i := 31) (q := 264) rfl rfl) 1 rfl rfl <|
    V_aload_n (tat ok_L_law_1 (i := 32) (q := 265) rfl rfl) 3 rfl rfl <|
    V_iload_n (tat ok_L_law_1 (i := 33) (q := 266) rfl rfl) 0 rfl rfl <|
    V_iconst (tat ok_L_law_1 (i := 34) (q := 267) rfl rfl) ic_1 <|
    V_iadd (tat ok_L_law_1 (i := 35) (q := 268) rfl rfl) <|
    V_xa (tat ok_L_law_1 (i := 36) (q := 269) rfl rfl) rfl b1 e1 <|
    V_cv1 (ct_X9_end (p2 (F_X8_end I a1)) L a1) mo_X9_end (tat ok_L_law_1 (i := 37) (q := 272) rfl rfl) ml_L_24 rfl ⟨by decide, _, rfl, rfl⟩ ⟨(Nat.le_of_ble_eq_true rfl), (Nat.le_of_ble_eq_true rfl)⟩ ⟨(Nat.le_of_ble_eq_true rfl), (Nat.le_of_ble_eq_true rfl)⟩ (Nat.le_of_ble_eq_true rfl) <|
    V_pop (tat ok_L_law_1 (i := 38) (q := 273) rfl rfl) rfl <|
    V_goto (tat ok_L_law_1 (i := 39) (q := 276) rfl rfl) rfl <|
    hk _ _ hJ
def S_2 (J : WI → WL → Prop) (I : WI) (L : WL) (a1 a2 a3 a4 : Int32) : Prop := ∃ v, (F_X8_text I L) = some v ∧ ∃ w, (F_X9_text (p1 (p2 v)) (p2 (p2 v))) = some w ∧ J (p1 (p2 w)) (p2 (p2 w))
theorem V_case_2 {n : Nat} {xs : Nat → Int32} {J : WI → WL → Prop} {I : WI} {L : WL} {i a1 a2 a3 a4 : Int32} (b1 : vp_in (i + 1) n) (b2 : vp_in (i + 2) n) (b3 : vp_in (i + 3) n) (b4 : vp_in (i + 4) n) (e1 : xs (Int32.toNatClampNeg (i + 1)) = a1) (e2 : xs (Int32.toNatClampNeg (i + 2)) = a2) (e3 : xs (Int32.toNatClampNeg (i + 3)) = a3) (e4 : xs (Int32.toNatClampNeg (i + 4)) = a4) (hk : ∀ I L, J I L → V (ZL n xs) 1348 [(3, .int i), (2, .ref 33), (1, .ref 0), (0, .ref 2999)] [] ly0 I L R0 45 8044) (h : S_2 J I L a1 a2 a3 a4) : V (ZL n xs) 276 [(3, .int i), (2, .ref 33), (1, .ref 0), (0, .ref 2999)] [] ly0 I L R0 45 8044 := by
  obtain ⟨v, ev, w, ew, hJ⟩ := h
  exact V_aload_n (tat ok_L_law_2 (i := 0) (q := 277) rfl rfl) 2 rfl rfl <|
    V_cv0 (ct_X8_text I L ev) mo_X8_text (tat ok_L_law_2 (i := 1) (q := 280) rfl rfl) ml_L_25 rfl ⟨by decide, _, rfl, rfl⟩ ⟨(Nat.le_of_ble_eq_true rfl), (Nat.le_of_ble_eq_true rfl)⟩ ⟨(Nat.le_of_ble_eq_true rfl), (Nat.le_of_ble_eq_true rfl)⟩ (Nat.le_of_ble_eq_true rfl) <|
    V_pop (tat ok_L_law_2 (i := 2) (q := 281) rfl rfl) rfl <|
    V_aload_n (tat ok_L_law_2 (i := 3) (q := 282) rfl rfl) 1 rfl rfl <|
    V_cv0 (ct_X9_text (p1 (p2 v)) (p2 (p2 v)) ew) mo_X9_text (tat ok_L_law_2 (i := 4) (q := 285) rfl rfl) ml_L_29 rfl ⟨by decide, _, rfl, rfl⟩ ⟨(Nat.le_of_ble_eq_true rfl), (Nat.le_of_ble_eq_true rfl)⟩ ⟨(Nat.le_of_ble_eq_true rfl), (Nat.le_of_ble_eq_true rfl)⟩ (Nat.le_of_ble_eq_true rfl) <|
    V_pop (tat ok_L_law_2 (i := 5) (q := 286) rfl rfl) rfl <|
    V_goto (tat ok_L_law_2 (i := 6) (q := 289) rfl rfl) rfl <|
    hk _ _ hJ
def S_3 (J : WI → WL → Prop) (I : WI) (L : WL) (a1 a2 a3 a4 : Int32) : Prop := J I L
theorem V_case_3 {n : Nat} {xs : Nat → Int32} {J : WI → WL → Prop} {I : WI} {L : WL} {i a1 a2 a3 a4 : Int32} (b1 : vp_in (i + 1) n) (b2 : vp_in (i + 2) n) (b3 : vp_in (i + 3) n) (b4 : vp_in (i + 4) n) (e1 : xs (Int32.toNatClampNeg (i + 1)) = a1) (e2 : xs (Int32.toNatClampNeg (i + 2)) = a2) (e3 : xs (Int32.toNatClampNeg (i + 3)) = a3) (e4 : xs (Int32.toNatClampNeg (i + 4)) = a4) (hk : ∀ I L, J I L → V (ZL n xs) 1348 [(3, .int i), (2, .ref 33), (1, .ref 0), (0, .ref 2999)] [] ly0 I L R0 45 8044) (h : S_3 J I L a1 a2 a3 a4) : V (ZL n xs) 289 [(3, .int i), (2, .ref 33), (1, .ref 0), (0, .ref 2999)] [] ly0 I L R0 45 8044 := by
  have hJ := h
  exact V_aload_n (tat ok_L_law_2 (i := 7) (q := 290) rfl rfl) 2 rfl rfl <|
    V_cv0 (ct_X8_fault I L ) mo_X8_fault (tat ok_L_law_2 (i := 8) (q := 293) rfl rfl) ml_L_30 rfl ⟨by decide, _, rfl, rfl⟩ ⟨(Nat.le_of_ble_eq_true rfl), (Nat.le_of_ble_eq_true rfl)⟩ ⟨(Nat.le_of_ble_eq_true rfl), (Nat.le_of_ble_eq_true rfl)⟩ (Nat.le_of_ble_eq_true rfl) <|
    V_pop (tat ok_L_law_2 (i := 9) (q := 294) rfl rfl) rfl <|
    V_aload_n (tat ok_L_law_2 (i := 10) (q := 295) rfl rfl) 1 rfl rfl <|
    V_cv0 (ct_X9_fault I L ) mo_X9_fault (tat ok_L_law_2 (i := 11) (q := 298) rfl rfl) ml_L_33 rfl ⟨by decide, _, rfl, rfl⟩ ⟨(Nat.le_of_ble_eq_true rfl), (Nat.le_of_ble_eq_true rfl)⟩ ⟨(Nat.le_of_ble_eq_true rfl), (Nat.le_of_ble_eq_true rfl)⟩ (Nat.le_of_ble_eq_true rfl) <|
    V_pop (tat ok_L_law_2 (i := 12) (q := 299) rfl rfl) rfl <|
    V_goto (tat ok_L_law_2 (i := 13) (q := 302) rfl rfl) rfl <|
    hk _ _ hJ
def S_4 (J : WI → WL → Prop) (I : WI) (L : WL) (a1 a2 a3 a4 : Int32) : Prop := J I L
theorem V_case_4 {n : Nat} {xs : Nat → Int32} {J : WI → WL → Prop} {I : WI} {L : WL} {i a1 a2 a3 a4 : Int32} (b1 : vp_in (i + 1) n) (b2 : vp_in (i + 2) n) (b3 : vp_in (i + 3) n) (b4 : vp_in (i + 4) n) (e1 : xs (Int32.toNatClampNeg (i + 1)) = a1) (e2 : xs (Int32.toNatClampNeg (i + 2)) = a2) (e3 : xs (Int32.toNatClampNeg (i + 3)) = a3) (e4 : xs (Int32.toNatClampNeg (i + 4)) = a4) (hk : ∀ I L, J I L → V (ZL n xs) 1348 [(3, .int i), (2, .ref 33), (1, .ref 0), (0, .ref 2999)] [] ly0 I L R0 45 8044) (h : S_4 J I L a1 a2 a3 a4) : V (ZL n xs) 302 [(3, .int i), (2, .ref 33), (1, .ref 0), (0, .ref 2999)] [] ly0 I L R0 45 8044 := by
  have hJ := h
  exact V_aload_n (tat ok_L_law_2 (i := 14) (q := 303) rfl rfl) 2 rfl rfl <|
    V_aload_n (tat ok_L_law_2 (i := 15) (q := 304) rfl rfl) 3 rfl rfl <|
    V_iload_n (tat ok_L_law_2 (i := 16) (q := 305) rfl rfl) 0 rfl rfl <|
    V_iconst (tat ok_L_law_2 (i := 17) (q := 306) rfl rfl) ic_1 <|
    V_iadd (tat ok_L_law_2 (i := 18) (q := 307) rfl rfl) <|
    V_xa (tat ok_L_law_2 (i := 19) (q := 308) rfl rfl) rfl b1 e1 <|
    V_cv1 (ct_X8_rule I L a1) mo_X8_rule (tat ok_L_law_2 (i := 20) (q := 311) rfl rfl) ml_L_34 rfl ⟨by decide, _, rfl, rfl⟩ ⟨(Nat.le_of_ble_eq_true rfl), (Nat.le_of_ble_eq_true rfl)⟩ ⟨(Nat.le_of_ble_eq_true rfl), (Nat.le_of_ble_eq_true rfl)⟩ (Nat.le_of_ble_eq_true rfl) <|
    V_pop (tat ok_L_law_2 (i := 21) (q := 312) rfl rfl) rfl <|
    V_aload_n (tat ok_L_law_2 (i := 22) (q := 313) rfl rfl) 1 rfl rfl <|
    V_aload_n (tat ok_L_law_2 (i := 23) (q := 314) rfl rfl) 3 rfl rfl <|
    V_iload_n (tat ok_L_law_2 (i := 24) (q := 315) rfl rfl) 0 rfl rfl <|
    V_iconst (tat ok_L_law_2 (i := 25) (q := 316) rfl rfl) ic_1 <|
    V_iadd (tat ok_L_law_2 (i := 26) (q := 317) rfl rfl) <|
    V_xa (tat ok_L_law_2 (i := 27) (q := 318) rfl rfl) rfl b1 e1 <|
    V_cv1 (ct_X9_rule I L a1) mo_X9_rule (tat ok_L_law_2 (i := 28) (q := 321) rfl rfl) ml_L_37 rfl ⟨by decide, _, rfl, rfl⟩ ⟨(Nat.le_of_ble_eq_true rfl), (Nat.le_of_ble_eq_true rfl)⟩ ⟨(Nat.le_of_ble_eq_true rfl), (Nat.le_of_ble_eq_true rfl)⟩ (Nat.le_of_ble_eq_true rfl) <|
    V_pop (tat ok_L_law_2 (i := 29) (q := 322) rfl rfl) rfl <|
    V_goto (tat ok_L_law_2 (i := 30) (q := 325) rfl rfl) rfl <|
    hk _ _ hJ
def S_5 (J : WI → WL → Prop) (I : WI) (L : WL) (a1 a2 a3 a4 : Int32) : Prop := ∃ w, (F_X9_day I a1 a2) = some w ∧ J I L
theorem V_case_5 {n : Nat} {xs : Nat → Int32} {J : WI → WL → Prop} {I : WI} {L : WL} {i a1 a2 a3 a4 : Int32} (b1 : vp_in (i + 1) n) (b2 : vp_in (i + 2) n) (b3 : vp_in (i + 3) n) (b4 : vp_in (i + 4) n) (e1 : xs (Int32.toNatClampNeg (i + 1)) = a1) (e2 : xs (Int32.toNatClampNeg (i + 2)) = a2) (e3 : xs (Int32.toNatClampNeg (i + 3)) = a3) (e4 : xs (Int32.toNatClampNeg (i + 4)) = a4) (hk : ∀ I L, J I L → V (ZL n xs) 1348 [(3, .int i), (2, .ref 33), (1, .ref 0), (0, .ref 2999)] [] ly0 I L R0 45 8044) (h : S_5 J I L a1 a2 a3 a4) : V (ZL n xs) 325 [(3, .int i), (2, .ref 33), (1, .ref 0), (0, .ref 2999)] [] ly0 I L R0 45 8044 := by
  obtain ⟨w, ew, hJ⟩ := h
  exact V_aload_n (tat ok_L_law_2 (i := 31) (q := 326) rfl rfl) 2 rfl rfl <|
    V_aload_n (tat ok_L_law_2 (i := 32) (q := 327) rfl rfl) 3 rfl rfl <|
    V_iload_n (tat ok_L_law_2 (i := 33) (q := 328) rfl rfl) 0 rfl rfl <|
    V_iconst (tat ok_L_law_2 (i := 34) (q := 329) rfl rfl) ic_1 <|
    V_iadd (tat ok_L_law_2 (i := 35) (q := 330) rfl rfl) <|
    V_xa (tat ok_L_law_2 (i := 36) (q := 331) rfl rfl) rfl b1 e1 <|
    V_aload_n (tat ok_L_law_2 (i := 37) (q := 332) rfl rfl) 3 rfl rfl <|
    V_iload_n (tat ok_L_law_2 (i := 38) (q := 333) rfl rfl) 0 rfl rfl <|
    V_iconst (tat ok_L_law_2 (i := 39) (q := 334) rfl rfl) ic_2 <|
    V_iadd (tat ok_L_law_3 (i := 0) (q := 335) rfl rfl) <|
    V_xa (tat ok_L_law_3 (i := 1) (q := 336) rfl rfl) rfl b2 e2 <|
    V_cv2 (ct_X8_day I L a1 a2) mo_X8_day (tat ok_L_law_3 (i := 2) (q := 339) rfl rfl) ml_L_38 rfl ⟨by decide, _, rfl, rfl⟩ ⟨(Nat.le_of_ble_eq_true rfl), (Nat.le_of_ble_eq_true rfl)⟩ ⟨(Nat.le_of_ble_eq_true rfl), (Nat.le_of_ble_eq_true rfl)⟩ (Nat.le_of_ble_eq_true rfl) <|
    V_pop (tat ok_L_law_3 (i := 3) (q := 340) rfl rfl) rfl <|
    V_aload_n (tat ok_L_law_3 (i := 4) (q := 341) rfl rfl) 1 rfl rfl <|
    V_aload_n (tat ok_L_law_3 (i := 5) (q := 342) rfl rfl) 3 rfl rfl <|
    V_iload_n (tat ok_L_law_3 (i := 6) (q := 343) rfl rfl) 0 rfl rfl <|
    V_iconst (tat ok_L_law_3 (i := 7) (q := 344) rfl rfl) ic_1 <|
    V_iadd (tat ok_L_law_3 (i := 8) (q := 345) rfl rfl) <|
    V_xa (tat ok_L_law_3 (i := 9) (q := 346) rfl rfl) rfl b1 e1 <|
    V_aload_n (tat ok_L_law_3 (i := 10) (q := 347) rfl rfl) 3 rfl rfl <|
    V_iload_n (tat ok_L_law_3 (i := 11) (q := 348) rfl rfl) 0 rfl rfl <|
    V_iconst (tat ok_L_law_3 (i := 12) (q := 349) rfl rfl) ic_2 <|
    V_iadd (tat ok_L_law_3 (i := 13) (q := 350) rfl rfl) <|
    V_xa (tat ok_L_law_3 (i := 14) (q := 351) rfl rfl) rfl b2 e2 <|
    V_cv2 (ct_X9_day I L a1 a2 ew) mo_X9_day (tat ok_L_law_3 (i := 15) (q := 354) rfl rfl) ml_L_42 rfl ⟨by decide, _, rfl, rfl⟩ ⟨(Nat.le_of_ble_eq_true rfl), (Nat.le_of_ble_eq_true rfl)⟩ ⟨(Nat.le_of_ble_eq_true rfl), (Nat.le_of_ble_eq_true rfl)⟩ (Nat.le_of_ble_eq_true rfl) <|
    V_pop (tat ok_L_law_3 (i := 16) (q := 355) rfl rfl) rfl <|
    V_goto (tat ok_L_law_3 (i := 17) (q := 358) rfl rfl) rfl <|
    hk _ _ hJ
def S_6 (J : WI → WL → Prop) (I : WI) (L : WL) (a1 a2 a3 a4 : Int32) : Prop := J I L
theorem V_case_6 {n : Nat} {xs : Nat → Int32} {J : WI → WL → Prop} {I : WI} {L : WL} {i a1 a2 a3 a4 : Int32} (b1 : vp_in (i + 1) n) (b2 : vp_in (i + 2) n) (b3 : vp_in (i + 3) n) (b4 : vp_in (i + 4) n) (e1 : xs (Int32.toNatClampNeg (i + 1)) = a1) (e2 : xs (Int32.toNatClampNeg (i + 2)) = a2) (e3 : xs (Int32.toNatClampNeg (i + 3)) = a3) (e4 : xs (Int32.toNatClampNeg (i + 4)) = a4) (hk : ∀ I L, J I L → V (ZL n xs) 1348 [(3, .int i), (2, .ref 33), (1, .ref 0), (0, .ref 2999)] [] ly0 I L R0 45 8044) (h : S_6 J I L a1 a2 a3 a4) : V (ZL n xs) 358 [(3, .int i), (2, .ref 33), (1, .ref 0), (0, .ref 2999)] [] ly0 I L R0 45 8044 := by
  have hJ := h
  exact V_aload_n (tat ok_L_law_3 (i := 18) (q := 359) rfl rfl) 2 rfl rfl <|
    V_aload_n (tat ok_L_law_3 (i := 19) (q := 360) rfl rfl) 3 rfl rfl <|
    V_iload_n (tat ok_L_law_3 (i := 20) (q := 361) rfl rfl) 0 rfl rfl <|
    V_iconst (tat ok_L_law_3 (i := 21) (q := 362) rfl rfl) ic_1 <|
    V_iadd (tat ok_L_law_3 (i := 22) (q := 363) rfl rfl) <|
    V_xa (tat ok_L_law_3 (i := 23) (q := 364) rfl rfl) rfl b1 e1 <|
    V_cv1 (ct_X8_cloth I L a1) mo_X8_cloth (tat ok_L_law_3 (i := 24) (q := 367) rfl rfl) ml_L_43 rfl ⟨by decide, _, rfl, rfl⟩ ⟨(Nat.le_of_ble_eq_true rfl), (Nat.le_of_ble_eq_true rfl)⟩ ⟨(Nat.le_of_ble_eq_true rfl), (Nat.le_of_ble_eq_true rfl)⟩ (Nat.le_of_ble_eq_true rfl) <|
    V_pop2L (tat ok_L_law_3 (i := 25) (q := 368) rfl rfl) <|
    V_aload_n (tat ok_L_law_3 (i := 26) (q := 369) rfl rfl) 1 rfl rfl <|
    V_aload_n (tat ok_L_law_3 (i := 27) (q := 370) rfl rfl) 3 rfl rfl <|
    V_iload_n (tat ok_L_law_3 (i := 28) (q := 371) rfl rfl) 0 rfl rfl <|
    V_iconst (tat ok_L_law_3 (i := 29) (q := 372) rfl rfl) ic_1 <|
    V_iadd (tat ok_L_law_3 (i := 30) (q := 373) rfl rfl) <|
    V_xa (tat ok_L_law_3 (i := 31) (q := 374) rfl rfl) rfl b1 e1 <|
    V_cv1 (ct_X9_cloth I L a1) mo_X9_cloth (tat ok_L_law_3 (i := 32) (q := 377) rfl rfl) ml_L_47 rfl ⟨by decide, _, rfl, rfl⟩ ⟨(Nat.le_of_ble_eq_true rfl), (Nat.le_of_ble_eq_true rfl)⟩ ⟨(Nat.le_of_ble_eq_true rfl), (Nat.le_of_ble_eq_true rfl)⟩ (Nat.le_of_ble_eq_true rfl) <|
    V_pop2L (tat ok_L_law_3 (i := 33) (q := 378) rfl rfl) <|
    V_goto (tat ok_L_law_3 (i := 34) (q := 381) rfl rfl) rfl <|
    hk _ _ hJ
def S_7 (J : WI → WL → Prop) (I : WI) (L : WL) (a1 a2 a3 a4 : Int32) : Prop := J I L
theorem V_case_7 {n : Nat} {xs : Nat → Int32} {J : WI → WL → Prop} {I : WI} {L : WL} {i a1 a2 a3 a4 : Int32} (b1 : vp_in (i + 1) n) (b2 : vp_in (i + 2) n) (b3 : vp_in (i + 3) n) (b4 : vp_in (i + 4) n) (e1 : xs (Int32.toNatClampNeg (i + 1)) = a1) (e2 : xs (Int32.toNatClampNeg (i + 2)) = a2) (e3 : xs (Int32.toNatClampNeg (i + 3)) = a3) (e4 : xs (Int32.toNatClampNeg (i + 4)) = a4) (hk : ∀ I L, J I L → V (ZL n xs) 1348 [(3, .int i), (2, .ref 33), (1, .ref 0), (0, .ref 2999)] [] ly0 I L R0 45 8044) (h : S_7 J I L a1 a2 a3 a4) : V (ZL n xs) 381 [(3, .int i), (2, .ref 33), (1, .ref 0), (0, .ref 2999)] [] ly0 I L R0 45 8044 := by
  have hJ := h
  exact V_aload_n (tat ok_L_law_3 (i := 35) (q := 382) rfl rfl) 2 rfl rfl <|
    V_aload_n (tat ok_L_law_3 (i := 36) (q := 383) rfl rfl) 3 rfl rfl <|
    V_iload_n (tat ok_L_law_3 (i := 37) (q := 384) rfl rfl) 0 rfl rfl <|
    V_iconst (tat ok_L_law_3 (i := 38) (q := 385) rfl rfl) ic_1 <|
    V_iadd (tat ok_L_law_3 (i := 39) (q := 386) rfl rfl) <|
    V_xa (tat ok_L_law_4 (i := 0) (q := 387) rfl rfl) rfl b1 e1 <|
    V_aload_n (tat ok_L_law_4 (i := 1) (q := 388) rfl rfl) 3 rfl rfl <|
    V_iload_n (tat ok_L_law_4 (i := 2) (q := 389) rfl rfl) 0 rfl rfl <|
    V_iconst (tat ok_L_law_4 (i := 3) (q := 390) rfl rfl) ic_2 <|
    V_iadd (tat ok_L_law_4 (i := 4) (q := 391) rfl rfl) <|
    V_xa (tat ok_L_law_4 (i := 5) (q := 392) rfl rfl) rfl b2 e2 <|
    V_cv2 (ct_X8_square I L a1 a2) mo_X8_square (tat ok_L_law_4 (i := 6) (q := 395) rfl rfl) ml_L_48 rfl ⟨by decide, _, rfl, rfl⟩ ⟨(Nat.le_of_ble_eq_true rfl), (Nat.le_of_ble_eq_true rfl)⟩ ⟨(Nat.le_of_ble_eq_true rfl), (Nat.le_of_ble_eq_true rfl)⟩ (Nat.le_of_ble_eq_true rfl) <|
    V_pop (tat ok_L_law_4 (i := 7) (q := 396) rfl rfl) rfl <|
    V_aload_n (tat ok_L_law_4 (i := 8) (q := 397) rfl rfl) 1 rfl rfl <|
    V_aload_n (tat ok_L_law_4 (i := 9) (q := 398) rfl rfl) 3 rfl rfl <|
    V_iload_n (tat ok_L_law_4 (i := 10) (q := 399) rfl rfl) 0 rfl rfl <|
    V_iconst (tat ok_L_law_4 (i := 11) (q := 400) rfl rfl) ic_1 <|
    V_iadd (tat ok_L_law_4 (i := 12) (q := 401) rfl rfl) <|
    V_xa (tat ok_L_law_4 (i := 13) (q := 402) rfl rfl) rfl b1 e1 <|
    V_aload_n (tat ok_L_law_4 (i := 14) (q := 403) rfl rfl) 3 rfl rfl <|
    V_iload_n (tat ok_L_law_4 (i := 15) (q := 404) rfl rfl) 0 rfl rfl <|
    V_iconst (tat ok_L_law_4 (i := 16) (q := 405) rfl rfl) ic_2 <|
    V_iadd (tat ok_L_law_4 (i := 17) (q := 406) rfl rfl) <|
    V_xa (tat ok_L_law_4 (i := 18) (q := 407) rfl rfl) rfl b2 e2 <|
    V_cv2 (ct_X9_square I L a1 a2) mo_X9_square (tat ok_L_law_4 (i := 19) (q := 410) rfl rfl) ml_L_51 rfl ⟨by decide, _, rfl, rfl⟩ ⟨(Nat.le_of_ble_eq_true rfl), (Nat.le_of_ble_eq_true rfl)⟩ ⟨(Nat.le_of_ble_eq_true rfl), (Nat.le_of_ble_eq_true rfl)⟩ (Nat.le_of_ble_eq_true rfl) <|
    V_pop (tat ok_L_law_4 (i := 20) (q := 411) rfl rfl) rfl <|
    V_goto (tat ok_L_law_4 (i := 21) (q := 414) rfl rfl) rfl <|
    hk _ _ hJ
def S_8 (J : WI → WL → Prop) (I : WI) (L : WL) (a1 a2 a3 a4 : Int32) : Prop := J I (p2 (F_X9_paint I (p2 (F_X8_paint I L a1 a2 (nz a3))) a1 a2 (nz a3)))
theorem V_case_8 {n : Nat} {xs : Nat → Int32} {J : WI → WL → Prop} {I : WI} {L : WL} {i a1 a2 a3 a4 : Int32} (b1 : vp_in (i + 1) n) (b2 : vp_in (i + 2) n) (b3 : vp_in (i + 3) n) (b4 : vp_in (i + 4) n) (e1 : xs (Int32.toNatClampNeg (i + 1)) = a1) (e2 : xs (Int32.toNatClampNeg (i + 2)) = a2) (e3 : xs (Int32.toNatClampNeg (i + 3)) = a3) (e4 : xs (Int32.toNatClampNeg (i + 4)) = a4) (hk : ∀ I L, J I L → V (ZL n xs) 1348 [(3, .int i), (2, .ref 33), (1, .ref 0), (0, .ref 2999)] [] ly0 I L R0 45 8044) (h : S_8 J I L a1 a2 a3 a4) : V (ZL n xs) 414 [(3, .int i), (2, .ref 33), (1, .ref 0), (0, .ref 2999)] [] ly0 I L R0 45 8044 := by
  have hJ := h
  exact V_aload_n (tat ok_L_law_4 (i := 22) (q := 415) rfl rfl) 2 rfl rfl <|
    V_aload_n (tat ok_L_law_4 (i := 23) (q := 416) rfl rfl) 3 rfl rfl <|
    V_iload_n (tat ok_L_law_4 (i := 24) (q := 417) rfl rfl) 0 rfl rfl <|
    V_iconst (tat ok_L_law_4 (i := 25) (q := 418) rfl rfl) ic_1 <|
    V_iadd (tat ok_L_law_4 (i := 26) (q := 419) rfl rfl) <|
    V_xa (tat ok_L_law_4 (i := 27) (q := 420) rfl rfl) rfl b1 e1 <|
    V_aload_n (tat ok_L_law_4 (i := 28) (q := 421) rfl rfl) 3 rfl rfl <|
    V_iload_n (tat ok_L_law_4 (i := 29) (q := 422) rfl rfl) 0 rfl rfl <|
    V_iconst (tat ok_L_law_4 (i := 30) (q := 423) rfl rfl) ic_2 <|
    V_iadd (tat ok_L_law_4 (i := 31) (q := 424) rfl rfl) <|
    V_xa (tat ok_L_law_4 (i := 32) (q := 425) rfl rfl) rfl b2 e2 <|
    V_aload_n (tat ok_L_law_4 (i := 33) (q := 426) rfl rfl) 3 rfl rfl <|
    V_iload_n (tat ok_L_law_4 (i := 34) (q := 427) rfl rfl) 0 rfl rfl <|
    V_iconst (tat ok_L_law_4 (i := 35) (q := 428) rfl rfl) ic_3 <|
    V_iadd (tat ok_L_law_4 (i := 36) (q := 429) rfl rfl) <|
    V_xa (tat ok_L_law_4 (i := 37) (q := 430) rfl rfl) rfl b3 e3 <|
    V_nz (tat ok_L_law_4 (i := 38) (q := 433) rfl rfl) rfl (tat ok_L_law_4 (i := 39) (q := 434) rfl rfl) (tat ok_L_law_5 (i := 0) (q := 437) rfl rfl) rfl (tat ok_L_law_5 (i := 1) (q := 438) rfl rfl) <|
    V_cv3 (ct_X8_paint I L a1 a2 (nz a3)) mo_X8_paint (tat ok_L_law_5 (i := 2) (q := 441) rfl rfl) ml_L_52 rfl ⟨by decide, _, rfl, rfl⟩ ⟨(Nat.le_of_ble_eq_true rfl), (Nat.le_of_ble_eq_true rfl)⟩ ⟨(Nat.le_of_ble_eq_true rfl), (Nat.le_of_ble_eq_true rfl)⟩ (Nat.le_of_ble_eq_true rfl) <|
    V_pop (tat ok_L_law_5 (i := 3) (q := 442) rfl rfl) rfl <|
    V_aload_n (tat ok_L_law_5 (i := 4) (q := 443) rfl rfl) 1 rfl rfl <|
    V_aload_n (tat ok_L_law_5 (i := 5) (q := 444) rfl rfl) 3 rfl rfl <|
    V_iload_n (tat ok_L_law_5 (i := 6) (q := 445) rfl rfl) 0 rfl rfl <|
    V_iconst (tat ok_L_law_5 (i := 7) (q := 446) rfl rfl) ic_1 <|
    V_iadd (tat ok_L_law_5 (i := 8) (q := 447) rfl rfl) <|
    V_xa (tat ok_L_law_5 (i := 9) (q := 448) rfl rfl) rfl b1 e1 <|
    V_aload_n (tat ok_L_law_5 (i := 10) (q := 449) rfl rfl) 3 rfl rfl <|
    V_iload_n (tat ok_L_law_5 (i := 11) (q := 450) rfl rfl) 0 rfl rfl <|
    V_iconst (tat ok_L_law_5 (i := 12) (q := 451) rfl rfl) ic_2 <|
    V_iadd (tat ok_L_law_5 (i := 13) (q := 452) rfl rfl) <|
    V_xa (tat ok_L_law_5 (i := 14) (q := 453) rfl rfl) rfl b2 e2 <|
    V_aload_n (tat ok_L_law_5 (i := 15) (q := 454) rfl rfl) 3 rfl rfl <|
    V_iload_n (tat ok_L_law_5 (i := 16) (q := 455) rfl rfl) 0 rfl rfl <|
    V_iconst (tat ok_L_law_5 (i := 17) (q := 456) rfl rfl) ic_3 <|
    V_iadd (tat ok_L_law_5 (i := 18) (q := 457) rfl rfl) <|
    V_xa (tat ok_L_law_5 (i := 19) (q := 458) rfl rfl) rfl b3 e3 <|
    V_nz (tat ok_L_law_5 (i := 20) (q := 461) rfl rfl) rfl (tat ok_L_law_5 (i := 21) (q := 462) rfl rfl) (tat ok_L_law_5 (i := 22) (q := 465) rfl rfl) rfl (tat ok_L_law_5 (i := 23) (q := 466) rfl rfl) <|
    V_cv3 (ct_X9_paint I (p2 (F_X8_paint I L a1 a2 (nz a3))) a1 a2 (nz a3)) mo_X9_paint (tat ok_L_law_5 (i := 24) (q := 469) rfl rfl) ml_L_56 rfl ⟨by decide, _, rfl, rfl⟩ ⟨(Nat.le_of_ble_eq_true rfl), (Nat.le_of_ble_eq_true rfl)⟩ ⟨(Nat.le_of_ble_eq_true rfl), (Nat.le_of_ble_eq_true rfl)⟩ (Nat.le_of_ble_eq_true rfl) <|
    V_pop (tat ok_L_law_5 (i := 25) (q := 470) rfl rfl) rfl <|
    V_goto (tat ok_L_law_5 (i := 26) (q := 473) rfl rfl) rfl <|
    hk _ _ hJ
def S_9 (J : WI → WL → Prop) (I : WI) (L : WL) (a1 a2 a3 a4 : Int32) : Prop := J I (p2 (F_X9_wish I (p2 (F_X8_wish I L a1 a2 (nz a3))) a1 a2 (nz a3)))
theorem V_case_9 {n : Nat} {xs : Nat → Int32} {J : WI → WL → Prop} {I : WI} {L : WL} {i a1 a2 a3 a4 : Int32} (b1 : vp_in (i + 1) n) (b2 : vp_in (i + 2) n) (b3 : vp_in (i + 3) n) (b4 : vp_in (i + 4) n) (e1 : xs (Int32.toNatClampNeg (i + 1)) = a1) (e2 : xs (Int32.toNatClampNeg (i + 2)) = a2) (e3 : xs (Int32.toNatClampNeg (i + 3)) = a3) (e4 : xs (Int32.toNatClampNeg (i + 4)) = a4) (hk : ∀ I L, J I L → V (ZL n xs) 1348 [(3, .int i), (2, .ref 33), (1, .ref 0), (0, .ref 2999)] [] ly0 I L R0 45 8044) (h : S_9 J I L a1 a2 a3 a4) : V (ZL n xs) 473 [(3, .int i), (2, .ref 33), (1, .ref 0), (0, .ref 2999)] [] ly0 I L R0 45 8044 := by
  have hJ := h
  exact V_aload_n (tat ok_L_law_5 (i := 27) (q := 474) rfl rfl) 2 rfl rfl <|
    V_aload_n (tat ok_L_law_5 (i := 28) (q := 475) rfl rfl) 3 rfl rfl <|
    V_iload_n (tat ok_L_law_5 (i := 29) (q := 476) rfl rfl) 0 rfl rfl <|
    V_iconst (tat ok_L_law_5 (i := 30) (q := 477) rfl rfl) ic_1 <|
    V_iadd (tat ok_L_law_5 (i := 31) (q := 478) rfl rfl) <|
    V_xa (tat ok_L_law_5 (i := 32) (q := 479) rfl rfl) rfl b1 e1 <|
    V_aload_n (tat ok_L_law_5 (i := 33) (q := 480) rfl rfl) 3 rfl rfl <|
    V_iload_n (tat ok_L_law_5 (i := 34) (q := 481) rfl rfl) 0 rfl rfl <|
    V_iconst (tat ok_L_law_5 (i := 35) (q := 482) rfl rfl) ic_2 <|
    V_iadd (tat ok_L_law_5 (i := 36) (q := 483) rfl rfl) <|
    V_xa (tat ok_L_law_5 (i := 37) (q := 484) rfl rfl) rfl b2 e2 <|
    V_aload_n (tat ok_L_law_5 (i := 38) (q := 485) rfl rfl) 3 rfl rfl <|
    V_iload_n (tat ok_L_law_5 (i := 39) (q := 486) rfl rfl) 0 rfl rfl <|
    V_iconst (tat ok_L_law_6 (i := 0) (q := 487) rfl rfl) ic_3 <|
    V_iadd (tat ok_L_law_6 (i := 1) (q := 488) rfl rfl) <|
    V_xa (tat ok_L_law_6 (i := 2) (q := 489) rfl rfl) rfl b3 e3 <|
    V_nz (tat ok_L_law_6 (i := 3) (q := 492) rfl rfl) rfl (tat ok_L_law_6 (i := 4) (q := 493) rfl rfl) (tat ok_L_law_6 (i := 5) (q := 496) rfl rfl) rfl (tat ok_L_law_6 (i := 6) (q := 497) rfl rfl) <|
    V_cv3 (ct_X8_wish I L a1 a2 (nz a3)) mo_X8_wish (tat ok_L_law_6 (i := 7) (q := 500) rfl rfl) ml_L_57 rfl ⟨by decide, _, rfl, rfl⟩ ⟨(Nat.le_of_ble_eq_true rfl), (Nat.le_of_ble_eq_true rfl)⟩ ⟨(Nat.le_of_ble_eq_true rfl), (Nat.le_of_ble_eq_true rfl)⟩ (Nat.le_of_ble_eq_true rfl) <|
    V_pop (tat ok_L_law_6 (i := 8) (q := 501) rfl rfl) rfl <|
    V_aload_n (tat ok_L_law_6 (i := 9) (q := 502) rfl rfl) 1 rfl rfl <|
    V_aload_n (tat ok_L_law_6 (i := 10) (q := 503) rfl rfl) 3 rfl rfl <|
    V_iload_n (tat ok_L_law_6 (i := 11) (q := 504) rfl rfl) 0 rfl rfl <|
    V_iconst (tat ok_L_law_6 (i := 12) (q := 505) rfl rfl) ic_1 <|
    V_iadd (tat ok_L_law_6 (i := 13) (q := 506) rfl rfl) <|
    V_xa (tat ok_L_law_6 (i := 14) (q := 507) rfl rfl) rfl b1 e1 <|
    V_aload_n (tat ok_L_law_6 (i := 15) (q := 508) rfl rfl) 3 rfl rfl <|
    V_iload_n (tat ok_L_law_6 (i := 16) (q := 509) rfl rfl) 0 rfl rfl <|
    V_iconst (tat ok_L_law_6 (i := 17) (q := 510) rfl rfl) ic_2 <|
    V_iadd (tat ok_L_law_6 (i := 18) (q := 511) rfl rfl) <|
    V_xa (tat ok_L_law_6 (i := 19) (q := 512) rfl rfl) rfl b2 e2 <|
    V_aload_n (tat ok_L_law_6 (i := 20) (q := 513) rfl rfl) 3 rfl rfl <|
    V_iload_n (tat ok_L_law_6 (i := 21) (q := 514) rfl rfl) 0 rfl rfl <|
    V_iconst (tat ok_L_law_6 (i := 22) (q := 515) rfl rfl) ic_3 <|
    V_iadd (tat ok_L_law_6 (i := 23) (q := 516) rfl rfl) <|
    V_xa (tat ok_L_law_6 (i := 24) (q := 517) rfl rfl) rfl b3 e3 <|
    V_nz (tat ok_L_law_6 (i := 25) (q := 520) rfl rfl) rfl (tat ok_L_law_6 (i := 26) (q := 521) rfl rfl) (tat ok_L_law_6 (i := 27) (q := 524) rfl rfl) rfl (tat ok_L_law_6 (i := 28) (q := 525) rfl rfl) <|
    V_cv3 (ct_X9_wish I (p2 (F_X8_wish I L a1 a2 (nz a3))) a1 a2 (nz a3)) mo_X9_wish (tat ok_L_law_6 (i := 29) (q := 528) rfl rfl) ml_L_60 rfl ⟨by decide, _, rfl, rfl⟩ ⟨(Nat.le_of_ble_eq_true rfl), (Nat.le_of_ble_eq_true rfl)⟩ ⟨(Nat.le_of_ble_eq_true rfl), (Nat.le_of_ble_eq_true rfl)⟩ (Nat.le_of_ble_eq_true rfl) <|
    V_pop (tat ok_L_law_6 (i := 30) (q := 529) rfl rfl) rfl <|
    V_goto (tat ok_L_law_6 (i := 31) (q := 532) rfl rfl) rfl <|
    hk _ _ hJ
def S_10 (J : WI → WL → Prop) (I : WI) (L : WL) (a1 a2 a3 a4 : Int32) : Prop := ∃ w, (F_X9_act I (p2 (F_X8_act I L a1 a2)) a1 a2) = some w ∧ J I (p2 w)
theorem V_case_10 {n : Nat} {xs : Nat → Int32} {J : WI → WL → Prop} {I : WI} {L : WL} {i a1 a2 a3 a4 : Int32} (b1 : vp_in (i + 1) n) (b2 : vp_in (i + 2) n) (b3 : vp_in (i + 3) n) (b4 : vp_in (i + 4) n) (e1 : xs (Int32.toNatClampNeg (i + 1)) = a1) (e2 : xs (Int32.toNatClampNeg (i + 2)) = a2) (e3 : xs (Int32.toNatClampNeg (i + 3)) = a3) (e4 : xs (Int32.toNatClampNeg (i + 4)) = a4) (hk : ∀ I L, J I L → V (ZL n xs) 1348 [(3, .int i), (2, .ref 33), (1, .ref 0), (0, .ref 2999)] [] ly0 I L R0 45 8044) (h : S_10 J I L a1 a2 a3 a4) : V (ZL n xs) 532 [(3, .int i), (2, .ref 33), (1, .ref 0), (0, .ref 2999)] [] ly0 I L R0 45 8044 := by
  obtain ⟨w, ew, hJ⟩ := h
  exact V_aload_n (tat ok_L_law_6 (i := 32) (q := 533) rfl rfl) 2 rfl rfl <|
    V_aload_n (tat ok_L_law_6 (i := 33) (q := 534) rfl rfl) 3 rfl rfl <|
    V_iload_n (tat ok_L_law_6 (i := 34) (q := 535) rfl rfl) 0 rfl rfl <|
    V_iconst (tat ok_L_law_6 (i := 35) (q := 536) rfl rfl) ic_1 <|
    V_iadd (tat ok_L_law_6 (i := 36) (q := 537) rfl rfl) <|
    V_xa (tat ok_L_law_6 (i := 37) (q := 538) rfl rfl) rfl b1 e1 <|
    V_aload_n (tat ok_L_law_6 (i := 38) (q := 539) rfl rfl) 3 rfl rfl <|
    V_iload_n (tat ok_L_law_6 (i := 39) (q := 540) rfl rfl) 0 rfl rfl <|
    V_iconst (tat ok_L_law_7 (i := 0) (q := 541) rfl rfl) ic_2 <|
    V_iadd (tat ok_L_law_7 (i := 1) (q := 542) rfl rfl) <|
    V_xa (tat ok_L_law_7 (i := 2) (q := 543) rfl rfl) rfl b2 e2 <|
    V_cv2 (ct_X8_act I L a1 a2) mo_X8_act (tat ok_L_law_7 (i := 3) (q := 546) rfl rfl) ml_L_61 rfl ⟨by decide, _, rfl, rfl⟩ ⟨(Nat.le_of_ble_eq_true rfl), (Nat.le_of_ble_eq_true rfl)⟩ ⟨(Nat.le_of_ble_eq_true rfl), (Nat.le_of_ble_eq_true rfl)⟩ (Nat.le_of_ble_eq_true rfl) <|
    V_pop (tat ok_L_law_7 (i := 4) (q := 547) rfl rfl) rfl <|
    V_aload_n (tat ok_L_law_7 (i := 5) (q := 548) rfl rfl) 1 rfl rfl <|
    V_aload_n (tat ok_L_law_7 (i := 6) (q := 549) rfl rfl) 3 rfl rfl <|
    V_iload_n (tat ok_L_law_7 (i := 7) (q := 550) rfl rfl) 0 rfl rfl <|
    V_iconst (tat ok_L_law_7 (i := 8) (q := 551) rfl rfl) ic_1 <|
    V_iadd (tat ok_L_law_7 (i := 9) (q := 552) rfl rfl) <|
    V_xa (tat ok_L_law_7 (i := 10) (q := 553) rfl rfl) rfl b1 e1 <|
    V_aload_n (tat ok_L_law_7 (i := 11) (q := 554) rfl rfl) 3 rfl rfl <|
    V_iload_n (tat ok_L_law_7 (i := 12) (q := 555) rfl rfl) 0 rfl rfl <|
    V_iconst (tat ok_L_law_7 (i := 13) (q := 556) rfl rfl) ic_2 <|
    V_iadd (tat ok_L_law_7 (i := 14) (q := 557) rfl rfl) <|
    V_xa (tat ok_L_law_7 (i := 15) (q := 558) rfl rfl) rfl b2 e2 <|
    V_cv2 (ct_X9_act I (p2 (F_X8_act I L a1 a2)) a1 a2 ew) mo_X9_act (tat ok_L_law_7 (i := 16) (q := 561) rfl rfl) ml_L_64 rfl ⟨by decide, _, rfl, rfl⟩ ⟨(Nat.le_of_ble_eq_true rfl), (Nat.le_of_ble_eq_true rfl)⟩ ⟨(Nat.le_of_ble_eq_true rfl), (Nat.le_of_ble_eq_true rfl)⟩ (Nat.le_of_ble_eq_true rfl) <|
    V_pop (tat ok_L_law_7 (i := 17) (q := 562) rfl rfl) rfl <|
    V_goto (tat ok_L_law_7 (i := 18) (q := 565) rfl rfl) rfl <|
    hk _ _ hJ
def S_11 (J : WI → WL → Prop) (I : WI) (L : WL) (a1 a2 a3 a4 : Int32) : Prop := J I (p2 (F_X9_turn I (p2 (F_X8_turn I L a1 a2)) a1 a2))
theorem V_case_11 {n : Nat} {xs : Nat → Int32} {J : WI → WL → Prop} {I : WI} {L : WL} {i a1 a2 a3 a4 : Int32} (b1 : vp_in (i + 1) n) (b2 : vp_in (i + 2) n) (b3 : vp_in (i + 3) n) (b4 : vp_in (i + 4) n) (e1 : xs (Int32.toNatClampNeg (i + 1)) = a1) (e2 : xs (Int32.toNatClampNeg (i + 2)) = a2) (e3 : xs (Int32.toNatClampNeg (i + 3)) = a3) (e4 : xs (Int32.toNatClampNeg (i + 4)) = a4) (hk : ∀ I L, J I L → V (ZL n xs) 1348 [(3, .int i), (2, .ref 33), (1, .ref 0), (0, .ref 2999)] [] ly0 I L R0 45 8044) (h : S_11 J I L a1 a2 a3 a4) : V (ZL n xs) 565 [(3, .int i), (2, .ref 33), (1, .ref 0), (0, .ref 2999)] [] ly0 I L R0 45 8044 := by
  have hJ := h
  exact V_aload_n (tat ok_L_law_7 (i := 19) (q := 566) rfl rfl) 2 rfl rfl <|
    V_aload_n (tat ok_L_law_7 (i := 20) (q := 567) rfl rfl) 3 rfl rfl <|
    V_iload_n (tat ok_L_law_7 (i := 21) (q := 568) rfl rfl) 0 rfl rfl <|
    V_iconst (tat ok_L_law_7 (i := 22) (q := 569) rfl rfl) ic_1 <|
    V_iadd (tat ok_L_law_7 (i := 23) (q := 570) rfl rfl) <|
    V_xa (tat ok_L_law_7 (i := 24) (q := 571) rfl rfl) rfl b1 e1 <|
    V_aload_n (tat ok_L_law_7 (i := 25) (q := 572) rfl rfl) 3 rfl rfl <|
    V_iload_n (tat ok_L_law_7 (i := 26) (q := 573) rfl rfl) 0 rfl rfl <|
    V_iconst (tat ok_L_law_7 (i := 27) (q := 574) rfl rfl) ic_2 <|
    V_iadd (tat ok_L_law_7 (i := 28) (q := 575) rfl rfl) <|
    V_xa (tat ok_L_law_7 (i := 29) (q := 576) rfl rfl) rfl b2 e2 <|
    V_cv2 (ct_X8_turn I L a1 a2) mo_X8_turn (tat ok_L_law_7 (i := 30) (q := 579) rfl rfl) ml_L_65 rfl ⟨by decide, _, rfl, rfl⟩ ⟨(Nat.le_of_ble_eq_true rfl), (Nat.le_of_ble_eq_true rfl)⟩ ⟨(Nat.le_of_ble_eq_true rfl), (Nat.le_of_ble_eq_true rfl)⟩ (Nat.le_of_ble_eq_true rfl) <|
    V_pop (tat ok_L_law_7 (i := 31) (q := 580) rfl rfl) rfl <|
    V_aload_n (tat ok_L_law_7 (i := 32) (q := 581) rfl rfl) 1 rfl rfl <|
    V_aload_n (tat ok_L_law_7 (i := 33) (q := 582) rfl rfl) 3 rfl rfl <|
    V_iload_n (tat ok_L_law_7 (i := 34) (q := 583) rfl rfl) 0 rfl rfl <|
    V_iconst (tat ok_L_law_7 (i := 35) (q := 584) rfl rfl) ic_1 <|
    V_iadd (tat ok_L_law_7 (i := 36) (q := 585) rfl rfl) <|
    V_xa (tat ok_L_law_7 (i := 37) (q := 586) rfl rfl) rfl b1 e1 <|
    V_aload_n (tat ok_L_law_7 (i := 38) (q := 587) rfl rfl) 3 rfl rfl <|
    V_iload_n (tat ok_L_law_7 (i := 39) (q := 588) rfl rfl) 0 rfl rfl <|
    V_iconst (tat ok_L_law_8 (i := 0) (q := 589) rfl rfl) ic_2 <|
    V_iadd (tat ok_L_law_8 (i := 1) (q := 590) rfl rfl) <|
    V_xa (tat ok_L_law_8 (i := 2) (q := 591) rfl rfl) rfl b2 e2 <|
    V_cv2 (ct_X9_turn I (p2 (F_X8_turn I L a1 a2)) a1 a2) mo_X9_turn (tat ok_L_law_8 (i := 3) (q := 594) rfl rfl) ml_L_68 rfl ⟨by decide, _, rfl, rfl⟩ ⟨(Nat.le_of_ble_eq_true rfl), (Nat.le_of_ble_eq_true rfl)⟩ ⟨(Nat.le_of_ble_eq_true rfl), (Nat.le_of_ble_eq_true rfl)⟩ (Nat.le_of_ble_eq_true rfl) <|
    V_pop (tat ok_L_law_8 (i := 4) (q := 595) rfl rfl) rfl <|
    V_goto (tat ok_L_law_8 (i := 5) (q := 598) rfl rfl) rfl <|
    hk _ _ hJ
def S_12 (J : WI → WL → Prop) (I : WI) (L : WL) (a1 a2 a3 a4 : Int32) : Prop := ∃ w, (F_X9_go I (p2 (F_X8_go I L a1)) a1) = some w ∧ J I (p2 w)
theorem V_case_12 {n : Nat} {xs : Nat → Int32} {J : WI → WL → Prop} {I : WI} {L : WL} {i a1 a2 a3 a4 : Int32} (b1 : vp_in (i + 1) n) (b2 : vp_in (i + 2) n) (b3 : vp_in (i + 3) n) (b4 : vp_in (i + 4) n) (e1 : xs (Int32.toNatClampNeg (i + 1)) = a1) (e2 : xs (Int32.toNatClampNeg (i + 2)) = a2) (e3 : xs (Int32.toNatClampNeg (i + 3)) = a3) (e4 : xs (Int32.toNatClampNeg (i + 4)) = a4) (hk : ∀ I L, J I L → V (ZL n xs) 1348 [(3, .int i), (2, .ref 33), (1, .ref 0), (0, .ref 2999)] [] ly0 I L R0 45 8044) (h : S_12 J I L a1 a2 a3 a4) : V (ZL n xs) 598 [(3, .int i), (2, .ref 33), (1, .ref 0), (0, .ref 2999)] [] ly0 I L R0 45 8044 := by
  obtain ⟨w, ew, hJ⟩ := h
  exact V_aload_n (tat ok_L_law_8 (i := 6) (q := 599) rfl rfl) 2 rfl rfl <|
    V_aload_n (tat ok_L_law_8 (i := 7) (q := 600) rfl rfl) 3 rfl rfl <|
    V_iload_n (tat ok_L_law_8 (i := 8) (q := 601) rfl rfl) 0 rfl rfl <|
    V_iconst (tat ok_L_law_8 (i := 9) (q := 602) rfl rfl) ic_1 <|
    V_iadd (tat ok_L_law_8 (i := 10) (q := 603) rfl rfl) <|
    V_xa (tat ok_L_law_8 (i := 11) (q := 604) rfl rfl) rfl b1 e1 <|
    V_cv1 (ct_X8_go I L a1) mo_X8_go (tat ok_L_law_8 (i := 12) (q := 607) rfl rfl) ml_L_69 rfl ⟨by decide, _, rfl, rfl⟩ ⟨(Nat.le_of_ble_eq_true rfl), (Nat.le_of_ble_eq_true rfl)⟩ ⟨(Nat.le_of_ble_eq_true rfl), (Nat.le_of_ble_eq_true rfl)⟩ (Nat.le_of_ble_eq_true rfl) <|
    V_pop (tat ok_L_law_8 (i := 13) (q := 608) rfl rfl) rfl <|
    V_aload_n (tat ok_L_law_8 (i := 14) (q := 609) rfl rfl) 1 rfl rfl <|
    V_aload_n (tat ok_L_law_8 (i := 15) (q := 610) rfl rfl) 3 rfl rfl <|
    V_iload_n (tat ok_L_law_8 (i := 16) (q := 611) rfl rfl) 0 rfl rfl <|
    V_iconst (tat ok_L_law_8 (i := 17) (q := 612) rfl rfl) ic_1 <|
    V_iadd (tat ok_L_law_8 (i := 18) (q := 613) rfl rfl) <|
    V_xa (tat ok_L_law_8 (i := 19) (q := 614) rfl rfl) rfl b1 e1 <|
    V_cv1 (ct_X9_go I (p2 (F_X8_go I L a1)) a1 ew) mo_X9_go (tat ok_L_law_8 (i := 20) (q := 617) rfl rfl) ml_L_72 rfl ⟨by decide, _, rfl, rfl⟩ ⟨(Nat.le_of_ble_eq_true rfl), (Nat.le_of_ble_eq_true rfl)⟩ ⟨(Nat.le_of_ble_eq_true rfl), (Nat.le_of_ble_eq_true rfl)⟩ (Nat.le_of_ble_eq_true rfl) <|
    V_pop (tat ok_L_law_8 (i := 21) (q := 618) rfl rfl) rfl <|
    V_goto (tat ok_L_law_8 (i := 22) (q := 621) rfl rfl) rfl <|
    hk _ _ hJ
def S_13 (J : WI → WL → Prop) (I : WI) (L : WL) (a1 a2 a3 a4 : Int32) : Prop := J I L
theorem V_case_13 {n : Nat} {xs : Nat → Int32} {J : WI → WL → Prop} {I : WI} {L : WL} {i a1 a2 a3 a4 : Int32} (b1 : vp_in (i + 1) n) (b2 : vp_in (i + 2) n) (b3 : vp_in (i + 3) n) (b4 : vp_in (i + 4) n) (e1 : xs (Int32.toNatClampNeg (i + 1)) = a1) (e2 : xs (Int32.toNatClampNeg (i + 2)) = a2) (e3 : xs (Int32.toNatClampNeg (i + 3)) = a3) (e4 : xs (Int32.toNatClampNeg (i + 4)) = a4) (hk : ∀ I L, J I L → V (ZL n xs) 1348 [(3, .int i), (2, .ref 33), (1, .ref 0), (0, .ref 2999)] [] ly0 I L R0 45 8044) (h : S_13 J I L a1 a2 a3 a4) : V (ZL n xs) 621 [(3, .int i), (2, .ref 33), (1, .ref 0), (0, .ref 2999)] [] ly0 I L R0 45 8044 := by
  have hJ := h
  exact V_aload_n (tat ok_L_law_8 (i := 23) (q := 622) rfl rfl) 2 rfl rfl <|
    V_aload_n (tat ok_L_law_8 (i := 24) (q := 623) rfl rfl) 3 rfl rfl <|
    V_iload_n (tat ok_L_law_8 (i := 25) (q := 624) rfl rfl) 0 rfl rfl <|
    V_iconst (tat ok_L_law_8 (i := 26) (q := 625) rfl rfl) ic_1 <|
    V_iadd (tat ok_L_law_8 (i := 27) (q := 626) rfl rfl) <|
    V_xa (tat ok_L_law_8 (i := 28) (q := 627) rfl rfl) rfl b1 e1 <|
    V_cv1 (ct_X8_form I L a1) mo_X8_form (tat ok_L_law_8 (i := 29) (q := 630) rfl rfl) ml_L_73 rfl ⟨by decide, _, rfl, rfl⟩ ⟨(Nat.le_of_ble_eq_true rfl), (Nat.le_of_ble_eq_true rfl)⟩ ⟨(Nat.le_of_ble_eq_true rfl), (Nat.le_of_ble_eq_true rfl)⟩ (Nat.le_of_ble_eq_true rfl) <|
    V_pop2L (tat ok_L_law_8 (i := 30) (q := 631) rfl rfl) <|
    V_aload_n (tat ok_L_law_8 (i := 31) (q := 632) rfl rfl) 1 rfl rfl <|
    V_aload_n (tat ok_L_law_8 (i := 32) (q := 633) rfl rfl) 3 rfl rfl <|
    V_iload_n (tat ok_L_law_8 (i := 33) (q := 634) rfl rfl) 0 rfl rfl <|
    V_iconst (tat ok_L_law_8 (i := 34) (q := 635) rfl rfl) ic_1 <|
    V_iadd (tat ok_L_law_8 (i := 35) (q := 636) rfl rfl) <|
    V_xa (tat ok_L_law_8 (i := 36) (q := 637) rfl rfl) rfl b1 e1 <|
    V_cv1 (ct_X9_form I L a1) mo_X9_form (tat ok_L_law_8 (i := 37) (q := 640) rfl rfl) ml_L_76 rfl ⟨by decide, _, rfl, rfl⟩ ⟨(Nat.le_of_ble_eq_true rfl), (Nat.le_of_ble_eq_true rfl)⟩ ⟨(Nat.le_of_ble_eq_true rfl), (Nat.le_of_ble_eq_true rfl)⟩ (Nat.le_of_ble_eq_true rfl) <|
    V_pop2L (tat ok_L_law_8 (i := 38) (q := 641) rfl rfl) <|
    V_goto (tat ok_L_law_8 (i := 39) (q := 644) rfl rfl) rfl <|
    hk _ _ hJ
def S_14 (J : WI → WL → Prop) (I : WI) (L : WL) (a1 a2 a3 a4 : Int32) : Prop := J I L
theorem V_case_14 {n : Nat} {xs : Nat → Int32} {J : WI → WL → Prop} {I : WI} {L : WL} {i a1 a2 a3 a4 : Int32} (b1 : vp_in (i + 1) n) (b2 : vp_in (i + 2) n) (b3 : vp_in (i + 3) n) (b4 : vp_in (i + 4) n) (e1 : xs (Int32.toNatClampNeg (i + 1)) = a1) (e2 : xs (Int32.toNatClampNeg (i + 2)) = a2) (e3 : xs (Int32.toNatClampNeg (i + 3)) = a3) (e4 : xs (Int32.toNatClampNeg (i + 4)) = a4) (hk : ∀ I L, J I L → V (ZL n xs) 1348 [(3, .int i), (2, .ref 33), (1, .ref 0), (0, .ref 2999)] [] ly0 I L R0 45 8044) (h : S_14 J I L a1 a2 a3 a4) : V (ZL n xs) 644 [(3, .int i), (2, .ref 33), (1, .ref 0), (0, .ref 2999)] [] ly0 I L R0 45 8044 := by
  have hJ := h
  exact V_aload_n (tat ok_L_law_9 (i := 0) (q := 645) rfl rfl) 2 rfl rfl <|
    V_cv0 (ct_X8_forms I L ) mo_X8_forms (tat ok_L_law_9 (i := 1) (q := 648) rfl rfl) ml_L_77 rfl ⟨by decide, _, rfl, rfl⟩ ⟨(Nat.le_of_ble_eq_true rfl), (Nat.le_of_ble_eq_true rfl)⟩ ⟨(Nat.le_of_ble_eq_true rfl), (Nat.le_of_ble_eq_true rfl)⟩ (Nat.le_of_ble_eq_true rfl) <|
    V_pop2L (tat ok_L_law_9 (i := 2) (q := 649) rfl rfl) <|
    V_aload_n (tat ok_L_law_9 (i := 3) (q := 650) rfl rfl) 1 rfl rfl <|
    V_cv0 (ct_X9_forms I L ) mo_X9_forms (tat ok_L_law_9 (i := 4) (q := 653) rfl rfl) ml_L_81 rfl ⟨by decide, _, rfl, rfl⟩ ⟨(Nat.le_of_ble_eq_true rfl), (Nat.le_of_ble_eq_true rfl)⟩ ⟨(Nat.le_of_ble_eq_true rfl), (Nat.le_of_ble_eq_true rfl)⟩ (Nat.le_of_ble_eq_true rfl) <|
    V_pop2L (tat ok_L_law_9 (i := 5) (q := 654) rfl rfl) <|
    V_goto (tat ok_L_law_9 (i := 6) (q := 657) rfl rfl) rfl <|
    hk _ _ hJ
def S_15 (J : WI → WL → Prop) (I : WI) (L : WL) (a1 a2 a3 a4 : Int32) : Prop := ∃ w, (F_X9_alike I L a1) = some w ∧ J I L
theorem V_case_15 {n : Nat} {xs : Nat → Int32} {J : WI → WL → Prop} {I : WI} {L : WL} {i a1 a2 a3 a4 : Int32} (b1 : vp_in (i + 1) n) (b2 : vp_in (i + 2) n) (b3 : vp_in (i + 3) n) (b4 : vp_in (i + 4) n) (e1 : xs (Int32.toNatClampNeg (i + 1)) = a1) (e2 : xs (Int32.toNatClampNeg (i + 2)) = a2) (e3 : xs (Int32.toNatClampNeg (i + 3)) = a3) (e4 : xs (Int32.toNatClampNeg (i + 4)) = a4) (hk : ∀ I L, J I L → V (ZL n xs) 1348 [(3, .int i), (2, .ref 33), (1, .ref 0), (0, .ref 2999)] [] ly0 I L R0 45 8044) (h : S_15 J I L a1 a2 a3 a4) : V (ZL n xs) 657 [(3, .int i), (2, .ref 33), (1, .ref 0), (0, .ref 2999)] [] ly0 I L R0 45 8044 := by
  obtain ⟨w, ew, hJ⟩ := h
  exact V_aload_n (tat ok_L_law_9 (i := 7) (q := 658) rfl rfl) 2 rfl rfl <|
    V_aload_n (tat ok_L_law_9 (i := 8) (q := 659) rfl rfl) 3 rfl rfl <|
    V_iload_n (tat ok_L_law_9 (i := 9) (q := 660) rfl rfl) 0 rfl rfl <|
    V_iconst (tat ok_L_law_9 (i := 10) (q := 661) rfl rfl) ic_1 <|
    V_iadd (tat ok_L_law_9 (i := 11) (q := 662) rfl rfl) <|
    V_xa (tat ok_L_law_9 (i := 12) (q := 663) rfl rfl) rfl b1 e1 <|
    V_cv1 (ct_X8_alike I L a1) mo_X8_alike (tat ok_L_law_9 (i := 13) (q := 666) rfl rfl) ml_L_82 rfl ⟨by decide, _, rfl, rfl⟩ ⟨(Nat.le_of_ble_eq_true rfl), (Nat.le_of_ble_eq_true rfl)⟩ ⟨(Nat.le_of_ble_eq_true rfl), (Nat.le_of_ble_eq_true rfl)⟩ (Nat.le_of_ble_eq_true rfl) <|
    V_pop (tat ok_L_law_9 (i := 14) (q := 667) rfl rfl) rfl <|
    V_aload_n (tat ok_L_law_9 (i := 15) (q := 668) rfl rfl) 1 rfl rfl <|
    V_aload_n (tat ok_L_law_9 (i := 16) (q := 669) rfl rfl) 3 rfl rfl <|
    V_iload_n (tat ok_L_law_9 (i := 17) (q := 670) rfl rfl) 0 rfl rfl <|
    V_iconst (tat ok_L_law_9 (i := 18) (q := 671) rfl rfl) ic_1 <|
    V_iadd (tat ok_L_law_9 (i := 19) (q := 672) rfl rfl) <|
    V_xa (tat ok_L_law_9 (i := 20) (q := 673) rfl rfl) rfl b1 e1 <|
    V_cv1 (ct_X9_alike I L a1 ew) mo_X9_alike (tat ok_L_law_9 (i := 21) (q := 676) rfl rfl) ml_L_85 rfl ⟨by decide, _, rfl, rfl⟩ ⟨(Nat.le_of_ble_eq_true rfl), (Nat.le_of_ble_eq_true rfl)⟩ ⟨(Nat.le_of_ble_eq_true rfl), (Nat.le_of_ble_eq_true rfl)⟩ (Nat.le_of_ble_eq_true rfl) <|
    V_pop (tat ok_L_law_9 (i := 22) (q := 677) rfl rfl) rfl <|
    V_goto (tat ok_L_law_9 (i := 23) (q := 680) rfl rfl) rfl <|
    hk _ _ hJ
def S_16 (J : WI → WL → Prop) (I : WI) (L : WL) (a1 a2 a3 a4 : Int32) : Prop := J (p2 (F_X9_plan (p2 (F_X8_plan I L a1)) L a1)) L
theorem V_case_16 {n : Nat} {xs : Nat → Int32} {J : WI → WL → Prop} {I : WI} {L : WL} {i a1 a2 a3 a4 : Int32} (b1 : vp_in (i + 1) n) (b2 : vp_in (i + 2) n) (b3 : vp_in (i + 3) n) (b4 : vp_in (i + 4) n) (e1 : xs (Int32.toNatClampNeg (i + 1)) = a1) (e2 : xs (Int32.toNatClampNeg (i + 2)) = a2) (e3 : xs (Int32.toNatClampNeg (i + 3)) = a3) (e4 : xs (Int32.toNatClampNeg (i + 4)) = a4) (hk : ∀ I L, J I L → V (ZL n xs) 1348 [(3, .int i), (2, .ref 33), (1, .ref 0), (0, .ref 2999)] [] ly0 I L R0 45 8044) (h : S_16 J I L a1 a2 a3 a4) : V (ZL n xs) 680 [(3, .int i), (2, .ref 33), (1, .ref 0), (0, .ref 2999)] [] ly0 I L R0 45 8044 := by
  have hJ := h
  exact V_aload_n (tat ok_L_law_9 (i := 24) (q := 681) rfl rfl) 2 rfl rfl <|
    V_aload_n (tat ok_L_law_9 (i := 25) (q := 682) rfl rfl) 3 rfl rfl <|
    V_iload_n (tat ok_L_law_9 (i := 26) (q := 683) rfl rfl) 0 rfl rfl <|
    V_iconst (tat ok_L_law_9 (i := 27) (q := 684) rfl rfl) ic_1 <|
    V_iadd (tat ok_L_law_9 (i := 28) (q := 685) rfl rfl) <|
    V_xa (tat ok_L_law_9 (i := 29) (q := 686) rfl rfl) rfl b1 e1 <|
    V_cv1 (ct_X8_plan I L a1) mo_X8_plan (tat ok_L_law_9 (i := 30) (q := 689) rfl rfl) ml_L_86 rfl ⟨by decide, _, rfl, rfl⟩ ⟨(Nat.le_of_ble_eq_true rfl), (Nat.le_of_ble_eq_true rfl)⟩ ⟨(Nat.le_of_ble_eq_true rfl), (Nat.le_of_ble_eq_true rfl)⟩ (Nat.le_of_ble_eq_true rfl) <|
    V_pop (tat ok_L_law_9 (i := 31) (q := 690) rfl rfl) rfl <|
    V_aload_n (tat ok_L_law_9 (i := 32) (q := 691) rfl rfl) 1 rfl rfl <|
    V_aload_n (tat ok_L_law_9 (i := 33) (q := 692) rfl rfl) 3 rfl rfl <|
    V_iload_n (tat ok_L_law_9 (i := 34) (q := 693) rfl rfl) 0 rfl rfl <|
    V_iconst (tat ok_L_law_9 (i := 35) (q := 694) rfl rfl) ic_1 <|
    V_iadd (tat ok_L_law_9 (i := 36) (q := 695) rfl rfl) <|
    V_xa (tat ok_L_law_9 (i := 37) (q := 696) rfl rfl) rfl b1 e1 <|
    V_cv1 (ct_X9_plan (p2 (F_X8_plan I L a1)) L a1) mo_X9_plan (tat ok_L_law_9 (i := 38) (q := 699) rfl rfl) ml_L_89 rfl ⟨by decide, _, rfl, rfl⟩ ⟨(Nat.le_of_ble_eq_true rfl), (Nat.le_of_ble_eq_true rfl)⟩ ⟨(Nat.le_of_ble_eq_true rfl), (Nat.le_of_ble_eq_true rfl)⟩ (Nat.le_of_ble_eq_true rfl) <|
    V_pop (tat ok_L_law_9 (i := 39) (q := 700) rfl rfl) rfl <|
    V_goto (tat ok_L_law_10 (i := 0) (q := 703) rfl rfl) rfl <|
    hk _ _ hJ
def S_17 (J : WI → WL → Prop) (I : WI) (L : WL) (a1 a2 a3 a4 : Int32) : Prop := ∃ v, (F_X8_nearest I L a1) = some v ∧ ∃ w, (F_X9_nearest (p2 v) L a1) = some w ∧ J (p2 w) L
theorem V_case_17 {n : Nat} {xs : Nat → Int32} {J : WI → WL → Prop} {I : WI} {L : WL} {i a1 a2 a3 a4 : Int32} (b1 : vp_in (i + 1) n) (b2 : vp_in (i + 2) n) (b3 : vp_in (i + 3) n) (b4 : vp_in (i + 4) n) (e1 : xs (Int32.toNatClampNeg (i + 1)) = a1) (e2 : xs (Int32.toNatClampNeg (i + 2)) = a2) (e3 : xs (Int32.toNatClampNeg (i + 3)) = a3) (e4 : xs (Int32.toNatClampNeg (i + 4)) = a4) (hk : ∀ I L, J I L → V (ZL n xs) 1348 [(3, .int i), (2, .ref 33), (1, .ref 0), (0, .ref 2999)] [] ly0 I L R0 45 8044) (h : S_17 J I L a1 a2 a3 a4) : V (ZL n xs) 703 [(3, .int i), (2, .ref 33), (1, .ref 0), (0, .ref 2999)] [] ly0 I L R0 45 8044 := by
  obtain ⟨v, ev, w, ew, hJ⟩ := h
  exact V_aload_n (tat ok_L_law_10 (i := 1) (q := 704) rfl rfl) 2 rfl rfl <|
    V_aload_n (tat ok_L_law_10 (i := 2) (q := 705) rfl rfl) 3 rfl rfl <|
    V_iload_n (tat ok_L_law_10 (i := 3) (q := 706) rfl rfl) 0 rfl rfl <|
    V_iconst (tat ok_L_law_10 (i := 4) (q := 707) rfl rfl) ic_1 <|
    V_iadd (tat ok_L_law_10 (i := 5) (q := 708) rfl rfl) <|
    V_xa (tat ok_L_law_10 (i := 6) (q := 709) rfl rfl) rfl b1 e1 <|
    V_cv1 (ct_X8_nearest I L a1 ev) mo_X8_nearest (tat ok_L_law_10 (i := 7) (q := 712) rfl rfl) ml_L_90 rfl ⟨by decide, _, rfl, rfl⟩ ⟨(Nat.le_of_ble_eq_true rfl), (Nat.le_of_ble_eq_true rfl)⟩ ⟨(Nat.le_of_ble_eq_true rfl), (Nat.le_of_ble_eq_true rfl)⟩ (Nat.le_of_ble_eq_true rfl) <|
    V_pop (tat ok_L_law_10 (i := 8) (q := 713) rfl rfl) rfl <|
    V_aload_n (tat ok_L_law_10 (i := 9) (q := 714) rfl rfl) 1 rfl rfl <|
    V_aload_n (tat ok_L_law_10 (i := 10) (q := 715) rfl rfl) 3 rfl rfl <|
    V_iload_n (tat ok_L_law_10 (i := 11) (q := 716) rfl rfl) 0 rfl rfl <|
    V_iconst (tat ok_L_law_10 (i := 12) (q := 717) rfl rfl) ic_1 <|
    V_iadd (tat ok_L_law_10 (i := 13) (q := 718) rfl rfl) <|
    V_xa (tat ok_L_law_10 (i := 14) (q := 719) rfl rfl) rfl b1 e1 <|
    V_cv1 (ct_X9_nearest (p2 v) L a1 ew) mo_X9_nearest (tat ok_L_law_10 (i := 15) (q := 722) rfl rfl) ml_L_93 rfl ⟨by decide, _, rfl, rfl⟩ ⟨(Nat.le_of_ble_eq_true rfl), (Nat.le_of_ble_eq_true rfl)⟩ ⟨(Nat.le_of_ble_eq_true rfl), (Nat.le_of_ble_eq_true rfl)⟩ (Nat.le_of_ble_eq_true rfl) <|
    V_pop (tat ok_L_law_10 (i := 16) (q := 723) rfl rfl) rfl <|
    V_goto (tat ok_L_law_10 (i := 17) (q := 726) rfl rfl) rfl <|
    hk _ _ hJ
def S_18 (J : WI → WL → Prop) (I : WI) (L : WL) (a1 a2 a3 a4 : Int32) : Prop := ∃ v, (F_X8_lightest I L a1) = some v ∧ ∃ w, (F_X9_lightest (p2 v) L a1) = some w ∧ J (p2 w) L
theorem V_case_18 {n : Nat} {xs : Nat → Int32} {J : WI → WL → Prop} {I : WI} {L : WL} {i a1 a2 a3 a4 : Int32} (b1 : vp_in (i + 1) n) (b2 : vp_in (i + 2) n) (b3 : vp_in (i + 3) n) (b4 : vp_in (i + 4) n) (e1 : xs (Int32.toNatClampNeg (i + 1)) = a1) (e2 : xs (Int32.toNatClampNeg (i + 2)) = a2) (e3 : xs (Int32.toNatClampNeg (i + 3)) = a3) (e4 : xs (Int32.toNatClampNeg (i + 4)) = a4) (hk : ∀ I L, J I L → V (ZL n xs) 1348 [(3, .int i), (2, .ref 33), (1, .ref 0), (0, .ref 2999)] [] ly0 I L R0 45 8044) (h : S_18 J I L a1 a2 a3 a4) : V (ZL n xs) 726 [(3, .int i), (2, .ref 33), (1, .ref 0), (0, .ref 2999)] [] ly0 I L R0 45 8044 := by
  obtain ⟨v, ev, w, ew, hJ⟩ := h
  exact V_aload_n (tat ok_L_law_10 (i := 18) (q := 727) rfl rfl) 2 rfl rfl <|
    V_aload_n (tat ok_L_law_10 (i := 19) (q := 728) rfl rfl) 3 rfl rfl <|
    V_iload_n (tat ok_L_law_10 (i := 20) (q := 729) rfl rfl) 0 rfl rfl <|
    V_iconst (tat ok_L_law_10 (i := 21) (q := 730) rfl rfl) ic_1 <|
    V_iadd (tat ok_L_law_10 (i := 22) (q := 731) rfl rfl) <|
    V_xa (tat ok_L_law_10 (i := 23) (q := 732) rfl rfl) rfl b1 e1 <|
    V_cv1 (ct_X8_lightest I L a1 ev) mo_X8_lightest (tat ok_L_law_10 (i := 24) (q := 735) rfl rfl) ml_L_94 rfl ⟨by decide, _, rfl, rfl⟩ ⟨(Nat.le_of_ble_eq_true rfl), (Nat.le_of_ble_eq_true rfl)⟩ ⟨(Nat.le_of_ble_eq_true rfl), (Nat.le_of_ble_eq_true rfl)⟩ (Nat.le_of_ble_eq_true rfl) <|
    V_pop (tat ok_L_law_10 (i := 25) (q := 736) rfl rfl) rfl <|
    V_aload_n (tat ok_L_law_10 (i := 26) (q := 737) rfl rfl) 1 rfl rfl <|
    V_aload_n (tat ok_L_law_10 (i := 27) (q := 738) rfl rfl) 3 rfl rfl <|
    V_iload_n (tat ok_L_law_10 (i := 28) (q := 739) rfl rfl) 0 rfl rfl <|
    V_iconst (tat ok_L_law_10 (i := 29) (q := 740) rfl rfl) ic_1 <|
    V_iadd (tat ok_L_law_10 (i := 30) (q := 741) rfl rfl) <|
    V_xa (tat ok_L_law_10 (i := 31) (q := 742) rfl rfl) rfl b1 e1 <|
    V_cv1 (ct_X9_lightest (p2 v) L a1 ew) mo_X9_lightest (tat ok_L_law_10 (i := 32) (q := 745) rfl rfl) ml_L_97 rfl ⟨by decide, _, rfl, rfl⟩ ⟨(Nat.le_of_ble_eq_true rfl), (Nat.le_of_ble_eq_true rfl)⟩ ⟨(Nat.le_of_ble_eq_true rfl), (Nat.le_of_ble_eq_true rfl)⟩ (Nat.le_of_ble_eq_true rfl) <|
    V_pop (tat ok_L_law_10 (i := 33) (q := 746) rfl rfl) rfl <|
    V_goto (tat ok_L_law_10 (i := 34) (q := 749) rfl rfl) rfl <|
    hk _ _ hJ
def S_19 (J : WI → WL → Prop) (I : WI) (L : WL) (a1 a2 a3 a4 : Int32) : Prop := ∃ v, (F_X8_blind I L a1) = some v ∧ ∃ w, (F_X9_blind (p2 v) L a1) = some w ∧ J (p2 v) L
theorem V_case_19 {n : Nat} {xs : Nat → Int32} {J : WI → WL → Prop} {I : WI} {L : WL} {i a1 a2 a3 a4 : Int32} (b1 : vp_in (i + 1) n) (b2 : vp_in (i + 2) n) (b3 : vp_in (i + 3) n) (b4 : vp_in (i + 4) n) (e1 : xs (Int32.toNatClampNeg (i + 1)) = a1) (e2 : xs (Int32.toNatClampNeg (i + 2)) = a2) (e3 : xs (Int32.toNatClampNeg (i + 3)) = a3) (e4 : xs (Int32.toNatClampNeg (i + 4)) = a4) (hk : ∀ I L, J I L → V (ZL n xs) 1348 [(3, .int i), (2, .ref 33), (1, .ref 0), (0, .ref 2999)] [] ly0 I L R0 45 8044) (h : S_19 J I L a1 a2 a3 a4) : V (ZL n xs) 749 [(3, .int i), (2, .ref 33), (1, .ref 0), (0, .ref 2999)] [] ly0 I L R0 45 8044 := by
  obtain ⟨v, ev, w, ew, hJ⟩ := h
  exact V_aload_n (tat ok_L_law_10 (i := 35) (q := 750) rfl rfl) 2 rfl rfl <|
    V_aload_n (tat ok_L_law_10 (i := 36) (q := 751) rfl rfl) 3 rfl rfl <|
    V_iload_n (tat ok_L_law_10 (i := 37) (q := 752) rfl rfl) 0 rfl rfl <|
    V_iconst (tat ok_L_law_10 (i := 38) (q := 753) rfl rfl) ic_1 <|
    V_iadd (tat ok_L_law_10 (i := 39) (q := 754) rfl rfl) <|
    V_xa (tat ok_L_law_11 (i := 0) (q := 755) rfl rfl) rfl b1 e1 <|
    V_cv1 (ct_X8_blind I L a1 ev) mo_X8_blind (tat ok_L_law_11 (i := 1) (q := 758) rfl rfl) ml_L_98 rfl ⟨by decide, _, rfl, rfl⟩ ⟨(Nat.le_of_ble_eq_true rfl), (Nat.le_of_ble_eq_true rfl)⟩ ⟨(Nat.le_of_ble_eq_true rfl), (Nat.le_of_ble_eq_true rfl)⟩ (Nat.le_of_ble_eq_true rfl) <|
    V_pop (tat ok_L_law_11 (i := 2) (q := 759) rfl rfl) rfl <|
    V_aload_n (tat ok_L_law_11 (i := 3) (q := 760) rfl rfl) 1 rfl rfl <|
    V_aload_n (tat ok_L_law_11 (i := 4) (q := 761) rfl rfl) 3 rfl rfl <|
    V_iload_n (tat ok_L_law_11 (i := 5) (q := 762) rfl rfl) 0 rfl rfl <|
    V_iconst (tat ok_L_law_11 (i := 6) (q := 763) rfl rfl) ic_1 <|
    V_iadd (tat ok_L_law_11 (i := 7) (q := 764) rfl rfl) <|
    V_xa (tat ok_L_law_11 (i := 8) (q := 765) rfl rfl) rfl b1 e1 <|
    V_cv1 (ct_X9_blind (p2 v) L a1 ew) mo_X9_blind (tat ok_L_law_11 (i := 9) (q := 768) rfl rfl) ml_L_101 rfl ⟨by decide, _, rfl, rfl⟩ ⟨(Nat.le_of_ble_eq_true rfl), (Nat.le_of_ble_eq_true rfl)⟩ ⟨(Nat.le_of_ble_eq_true rfl), (Nat.le_of_ble_eq_true rfl)⟩ (Nat.le_of_ble_eq_true rfl) <|
    V_pop (tat ok_L_law_11 (i := 10) (q := 769) rfl rfl) rfl <|
    V_goto (tat ok_L_law_11 (i := 11) (q := 772) rfl rfl) rfl <|
    hk _ _ hJ
def S_20 (J : WI → WL → Prop) (I : WI) (L : WL) (a1 a2 a3 a4 : Int32) : Prop := ∃ v, (F_X8_slanted I L a1) = some v ∧ ∃ w, (F_X9_slanted (p1 (p2 v)) (p2 (p2 v)) a1) = some w ∧ J (p2 w) (p2 (p2 v))
theorem V_case_20 {n : Nat} {xs : Nat → Int32} {J : WI → WL → Prop} {I : WI} {L : WL} {i a1 a2 a3 a4 : Int32} (b1 : vp_in (i + 1) n) (b2 : vp_in (i + 2) n) (b3 : vp_in (i + 3) n) (b4 : vp_in (i + 4) n) (e1 : xs (Int32.toNatClampNeg (i + 1)) = a1) (e2 : xs (Int32.toNatClampNeg (i + 2)) = a2) (e3 : xs (Int32.toNatClampNeg (i + 3)) = a3) (e4 : xs (Int32.toNatClampNeg (i + 4)) = a4) (hk : ∀ I L, J I L → V (ZL n xs) 1348 [(3, .int i), (2, .ref 33), (1, .ref 0), (0, .ref 2999)] [] ly0 I L R0 45 8044) (h : S_20 J I L a1 a2 a3 a4) : V (ZL n xs) 772 [(3, .int i), (2, .ref 33), (1, .ref 0), (0, .ref 2999)] [] ly0 I L R0 45 8044 := by
  obtain ⟨v, ev, w, ew, hJ⟩ := h
  exact V_aload_n (tat ok_L_law_11 (i := 12) (q := 773) rfl rfl) 2 rfl rfl <|
    V_aload_n (tat ok_L_law_11 (i := 13) (q := 774) rfl rfl) 3 rfl rfl <|
    V_iload_n (tat ok_L_law_11 (i := 14) (q := 775) rfl rfl) 0 rfl rfl <|
    V_iconst (tat ok_L_law_11 (i := 15) (q := 776) rfl rfl) ic_1 <|
    V_iadd (tat ok_L_law_11 (i := 16) (q := 777) rfl rfl) <|
    V_xa (tat ok_L_law_11 (i := 17) (q := 778) rfl rfl) rfl b1 e1 <|
    V_cv1 (ct_X8_slanted I L a1 ev) mo_X8_slanted (tat ok_L_law_11 (i := 18) (q := 781) rfl rfl) ml_L_102 rfl ⟨by decide, _, rfl, rfl⟩ ⟨(Nat.le_of_ble_eq_true rfl), (Nat.le_of_ble_eq_true rfl)⟩ ⟨(Nat.le_of_ble_eq_true rfl), (Nat.le_of_ble_eq_true rfl)⟩ (Nat.le_of_ble_eq_true rfl) <|
    V_pop (tat ok_L_law_11 (i := 19) (q := 782) rfl rfl) rfl <|
    V_aload_n (tat ok_L_law_11 (i := 20) (q := 783) rfl rfl) 1 rfl rfl <|
    V_aload_n (tat ok_L_law_11 (i := 21) (q := 784) rfl rfl) 3 rfl rfl <|
    V_iload_n (tat ok_L_law_11 (i := 22) (q := 785) rfl rfl) 0 rfl rfl <|
    V_iconst (tat ok_L_law_11 (i := 23) (q := 786) rfl rfl) ic_1 <|
    V_iadd (tat ok_L_law_11 (i := 24) (q := 787) rfl rfl) <|
    V_xa (tat ok_L_law_11 (i := 25) (q := 788) rfl rfl) rfl b1 e1 <|
    V_cv1 (ct_X9_slanted (p1 (p2 v)) (p2 (p2 v)) a1 ew) mo_X9_slanted (tat ok_L_law_11 (i := 26) (q := 791) rfl rfl) ml_L_105 rfl ⟨by decide, _, rfl, rfl⟩ ⟨(Nat.le_of_ble_eq_true rfl), (Nat.le_of_ble_eq_true rfl)⟩ ⟨(Nat.le_of_ble_eq_true rfl), (Nat.le_of_ble_eq_true rfl)⟩ (Nat.le_of_ble_eq_true rfl) <|
    V_pop (tat ok_L_law_11 (i := 27) (q := 792) rfl rfl) rfl <|
    V_goto (tat ok_L_law_11 (i := 28) (q := 795) rfl rfl) rfl <|
    hk _ _ hJ
def S_21 (J : WI → WL → Prop) (I : WI) (L : WL) (a1 a2 a3 a4 : Int32) : Prop := ∃ v, (F_X8_power I L a1) = some v ∧ ∃ w, (F_X9_power I (p2 v) a1) = some w ∧ J I (p2 w)
theorem V_case_21 {n : Nat} {xs : Nat → Int32} {J : WI → WL → Prop} {I : WI} {L : WL} {i a1 a2 a3 a4 : Int32} (b1 : vp_in (i + 1) n) (b2 : vp_in (i + 2) n) (b3 : vp_in (i + 3) n) (b4 : vp_in (i + 4) n) (e1 : xs (Int32.toNatClampNeg (i + 1)) = a1) (e2 : xs (Int32.toNatClampNeg (i + 2)) = a2) (e3 : xs (Int32.toNatClampNeg (i + 3)) = a3) (e4 : xs (Int32.toNatClampNeg (i + 4)) = a4) (hk : ∀ I L, J I L → V (ZL n xs) 1348 [(3, .int i), (2, .ref 33), (1, .ref 0), (0, .ref 2999)] [] ly0 I L R0 45 8044) (h : S_21 J I L a1 a2 a3 a4) : V (ZL n xs) 795 [(3, .int i), (2, .ref 33), (1, .ref 0), (0, .ref 2999)] [] ly0 I L R0 45 8044 := by
  obtain ⟨v, ev, w, ew, hJ⟩ := h
  exact V_aload_n (tat ok_L_law_11 (i := 29) (q := 796) rfl rfl) 2 rfl rfl <|
    V_aload_n (tat ok_L_law_11 (i := 30) (q := 797) rfl rfl) 3 rfl rfl <|
    V_iload_n (tat ok_L_law_11 (i := 31) (q := 798) rfl rfl) 0 rfl rfl <|
    V_iconst (tat ok_L_law_11 (i := 32) (q := 799) rfl rfl) ic_1 <|
    V_iadd (tat ok_L_law_11 (i := 33) (q := 800) rfl rfl) <|
    V_xa (tat ok_L_law_11 (i := 34) (q := 801) rfl rfl) rfl b1 e1 <|
    V_cv1 (ct_X8_power I L a1 ev) mo_X8_power (tat ok_L_law_11 (i := 35) (q := 804) rfl rfl) ml_L_106 rfl ⟨by decide, _, rfl, rfl⟩ ⟨(Nat.le_of_ble_eq_true rfl), (Nat.le_of_ble_eq_true rfl)⟩ ⟨(Nat.le_of_ble_eq_true rfl), (Nat.le_of_ble_eq_true rfl)⟩ (Nat.le_of_ble_eq_true rfl) <|
    V_pop (tat ok_L_law_11 (i := 36) (q := 805) rfl rfl) rfl <|
    V_aload_n (tat ok_L_law_11 (i := 37) (q := 806) rfl rfl) 1 rfl rfl <|
    V_aload_n (tat ok_L_law_11 (i := 38) (q := 807) rfl rfl) 3 rfl rfl <|
    V_iload_n (tat ok_L_law_11 (i := 39) (q := 808) rfl rfl) 0 rfl rfl <|
    V_iconst (tat ok_L_law_12 (i := 0) (q := 809) rfl rfl) ic_1 <|
    V_iadd (tat ok_L_law_12 (i := 1) (q := 810) rfl rfl) <|
    V_xa (tat ok_L_law_12 (i := 2) (q := 811) rfl rfl) rfl b1 e1 <|
    V_cv1 (ct_X9_power I (p2 v) a1 ew) mo_X9_power (tat ok_L_law_12 (i := 3) (q := 814) rfl rfl) ml_L_109 rfl ⟨by decide, _, rfl, rfl⟩ ⟨(Nat.le_of_ble_eq_true rfl), (Nat.le_of_ble_eq_true rfl)⟩ ⟨(Nat.le_of_ble_eq_true rfl), (Nat.le_of_ble_eq_true rfl)⟩ (Nat.le_of_ble_eq_true rfl) <|
    V_pop (tat ok_L_law_12 (i := 4) (q := 815) rfl rfl) rfl <|
    V_goto (tat ok_L_law_12 (i := 5) (q := 818) rfl rfl) rfl <|
    hk _ _ hJ
def S_22 (J : WI → WL → Prop) (I : WI) (L : WL) (a1 a2 a3 a4 : Int32) : Prop := ∃ v, (F_X8_duel I L a1 (nz a2) a3) = some v ∧ ∃ w, (F_X9_duel I L a1 (nz a2) a3) = some w ∧ J (p2 w) L
theorem V_case_22 {n : Nat} {xs : Nat → Int32} {J : WI → WL → Prop} {I : WI} {L : WL} {i a1 a2 a3 a4 : Int32} (b1 : vp_in (i + 1) n) (b2 : vp_in (i + 2) n) (b3 : vp_in (i + 3) n) (b4 : vp_in (i + 4) n) (e1 : xs (Int32.toNatClampNeg (i + 1)) = a1) (e2 : xs (Int32.toNatClampNeg (i + 2)) = a2) (e3 : xs (Int32.toNatClampNeg (i + 3)) = a3) (e4 : xs (Int32.toNatClampNeg (i + 4)) = a4) (hk : ∀ I L, J I L → V (ZL n xs) 1348 [(3, .int i), (2, .ref 33), (1, .ref 0), (0, .ref 2999)] [] ly0 I L R0 45 8044) (h : S_22 J I L a1 a2 a3 a4) : V (ZL n xs) 818 [(3, .int i), (2, .ref 33), (1, .ref 0), (0, .ref 2999)] [] ly0 I L R0 45 8044 := by
  obtain ⟨v, ev, w, ew, hJ⟩ := h
  exact V_aload_n (tat ok_L_law_12 (i := 6) (q := 819) rfl rfl) 2 rfl rfl <|
    V_aload_n (tat ok_L_law_12 (i := 7) (q := 820) rfl rfl) 3 rfl rfl <|
    V_iload_n (tat ok_L_law_12 (i := 8) (q := 821) rfl rfl) 0 rfl rfl <|
    V_iconst (tat ok_L_law_12 (i := 9) (q := 822) rfl rfl) ic_1 <|
    V_iadd (tat ok_L_law_12 (i := 10) (q := 823) rfl rfl) <|
    V_xa (tat ok_L_law_12 (i := 11) (q := 824) rfl rfl) rfl b1 e1 <|
    V_aload_n (tat ok_L_law_12 (i := 12) (q := 825) rfl rfl) 3 rfl rfl <|
    V_iload_n (tat ok_L_law_12 (i := 13) (q := 826) rfl rfl) 0 rfl rfl <|
    V_iconst (tat ok_L_law_12 (i := 14) (q := 827) rfl rfl) ic_2 <|
    V_iadd (tat ok_L_law_12 (i := 15) (q := 828) rfl rfl) <|
    V_xa (tat ok_L_law_12 (i := 16) (q := 829) rfl rfl) rfl b2 e2 <|
    V_nz (tat ok_L_law_12 (i := 17) (q := 832) rfl rfl) rfl (tat ok_L_law_12 (i := 18) (q := 833) rfl rfl) (tat ok_L_law_12 (i := 19) (q := 836) rfl rfl) rfl (tat ok_L_law_12 (i := 20) (q := 837) rfl rfl) <|
    V_aload_n (tat ok_L_law_12 (i := 21) (q := 838) rfl rfl) 3 rfl rfl <|
    V_iload_n (tat ok_L_law_12 (i := 22) (q := 839) rfl rfl) 0 rfl rfl <|
    V_iconst (tat ok_L_law_12 (i := 23) (q := 840) rfl rfl) ic_3 <|
    V_iadd (tat ok_L_law_12 (i := 24) (q := 841) rfl rfl) <|
    V_xa (tat ok_L_law_12 (i := 25) (q := 842) rfl rfl) rfl b3 e3 <|
    V_cv3 (ct_X8_duel I L a1 (nz a2) a3 ev) mo_X8_duel (tat ok_L_law_12 (i := 26) (q := 845) rfl rfl) ml_L_110 rfl ⟨by decide, _, rfl, rfl⟩ ⟨(Nat.le_of_ble_eq_true rfl), (Nat.le_of_ble_eq_true rfl)⟩ ⟨(Nat.le_of_ble_eq_true rfl), (Nat.le_of_ble_eq_true rfl)⟩ (Nat.le_of_ble_eq_true rfl) <|
    V_pop (tat ok_L_law_12 (i := 27) (q := 846) rfl rfl) rfl <|
    V_aload_n (tat ok_L_law_12 (i := 28) (q := 847) rfl rfl) 1 rfl rfl <|
    V_aload_n (tat ok_L_law_12 (i := 29) (q := 848) rfl rfl) 3 rfl rfl <|
    V_iload_n (tat ok_L_law_12 (i := 30) (q := 849) rfl rfl) 0 rfl rfl <|
    V_iconst (tat ok_L_law_12 (i := 31) (q := 850) rfl rfl) ic_1 <|
    V_iadd (tat ok_L_law_12 (i := 32) (q := 851) rfl rfl) <|
    V_xa (tat ok_L_law_12 (i := 33) (q := 852) rfl rfl) rfl b1 e1 <|
    V_aload_n (tat ok_L_law_12 (i := 34) (q := 853) rfl rfl) 3 rfl rfl <|
    V_iload_n (tat ok_L_law_12 (i := 35) (q := 854) rfl rfl) 0 rfl rfl <|
    V_iconst (tat ok_L_law_12 (i := 36) (q := 855) rfl rfl) ic_2 <|
    V_iadd (tat ok_L_law_12 (i := 37) (q := 856) rfl rfl) <|
    V_xa (tat ok_L_law_12 (i := 38) (q := 857) rfl rfl) rfl b2 e2 <|
    V_nz (tat ok_L_law_12 (i := 39) (q := 860) rfl rfl) rfl (tat ok_L_law_13 (i := 0) (q := 861) rfl rfl) (tat ok_L_law_13 (i := 1) (q := 864) rfl rfl) rfl (tat ok_L_law_13 (i := 2) (q := 865) rfl rfl) <|
    V_aload_n (tat ok_L_law_13 (i := 3) (q := 866) rfl rfl) 3 rfl rfl <|
    V_iload_n (tat ok_L_law_13 (i := 4) (q := 867) rfl rfl) 0 rfl rfl <|
    V_iconst (tat ok_L_law_13 (i := 5) (q := 868) rfl rfl) ic_3 <|
    V_iadd (tat ok_L_law_13 (i := 6) (q := 869) rfl rfl) <|
    V_xa (tat ok_L_law_13 (i := 7) (q := 870) rfl rfl) rfl b3 e3 <|
    V_cv3 (ct_X9_duel I L a1 (nz a2) a3 ew) mo_X9_duel (tat ok_L_law_13 (i := 8) (q := 873) rfl rfl) ml_L_114 rfl ⟨by decide, _, rfl, rfl⟩ ⟨(Nat.le_of_ble_eq_true rfl), (Nat.le_of_ble_eq_true rfl)⟩ ⟨(Nat.le_of_ble_eq_true rfl), (Nat.le_of_ble_eq_true rfl)⟩ (Nat.le_of_ble_eq_true rfl) <|
    V_pop (tat ok_L_law_13 (i := 9) (q := 874) rfl rfl) rfl <|
    V_goto (tat ok_L_law_13 (i := 10) (q := 877) rfl rfl) rfl <|
    hk _ _ hJ
def S_23 (J : WI → WL → Prop) (I : WI) (L : WL) (a1 a2 a3 a4 : Int32) : Prop := ∃ w, (F_X9_turned (p2 (F_X8_turned I L a1 a2)) L a1 a2) = some w ∧ J (p2 w) L
theorem V_case_23 {n : Nat} {xs : Nat → Int32} {J : WI → WL → Prop} {I : WI} {L : WL} {i a1 a2 a3 a4 : Int32} (b1 : vp_in (i + 1) n) (b2 : vp_in (i + 2) n) (b3 : vp_in (i + 3) n) (b4 : vp_in (i + 4) n) (e1 : xs (Int32.toNatClampNeg (i + 1)) = a1) (e2 : xs (Int32.toNatClampNeg (i + 2)) = a2) (e3 : xs (Int32.toNatClampNeg (i + 3)) = a3) (e4 : xs (Int32.toNatClampNeg (i + 4)) = a4) (hk : ∀ I L, J I L → V (ZL n xs) 1348 [(3, .int i), (2, .ref 33), (1, .ref 0), (0, .ref 2999)] [] ly0 I L R0 45 8044) (h : S_23 J I L a1 a2 a3 a4) : V (ZL n xs) 877 [(3, .int i), (2, .ref 33), (1, .ref 0), (0, .ref 2999)] [] ly0 I L R0 45 8044 := by
  obtain ⟨w, ew, hJ⟩ := h
  exact V_aload_n (tat ok_L_law_13 (i := 11) (q := 878) rfl rfl) 2 rfl rfl <|
    V_aload_n (tat ok_L_law_13 (i := 12) (q := 879) rfl rfl) 3 rfl rfl <|
    V_iload_n (tat ok_L_law_13 (i := 13) (q := 880) rfl rfl) 0 rfl rfl <|
    V_iconst (tat ok_L_law_13 (i := 14) (q := 881) rfl rfl) ic_1 <|
    V_iadd (tat ok_L_law_13 (i := 15) (q := 882) rfl rfl) <|
    V_xa (tat ok_L_law_13 (i := 16) (q := 883) rfl rfl) rfl b1 e1 <|
    V_aload_n (tat ok_L_law_13 (i := 17) (q := 884) rfl rfl) 3 rfl rfl <|
    V_iload_n (tat ok_L_law_13 (i := 18) (q := 885) rfl rfl) 0 rfl rfl <|
    V_iconst (tat ok_L_law_13 (i := 19) (q := 886) rfl rfl) ic_2 <|
    V_iadd (tat ok_L_law_13 (i := 20) (q := 887) rfl rfl) <|
    V_xa (tat ok_L_law_13 (i := 21) (q := 888) rfl rfl) rfl b2 e2 <|
    V_cv2 (ct_X8_turned I L a1 a2) mo_X8_turned (tat ok_L_law_13 (i := 22) (q := 891) rfl rfl) ml_L_115 rfl ⟨by decide, _, rfl, rfl⟩ ⟨(Nat.le_of_ble_eq_true rfl), (Nat.le_of_ble_eq_true rfl)⟩ ⟨(Nat.le_of_ble_eq_true rfl), (Nat.le_of_ble_eq_true rfl)⟩ (Nat.le_of_ble_eq_true rfl) <|
    V_pop (tat ok_L_law_13 (i := 23) (q := 892) rfl rfl) rfl <|
    V_aload_n (tat ok_L_law_13 (i := 24) (q := 893) rfl rfl) 1 rfl rfl <|
    V_aload_n (tat ok_L_law_13 (i := 25) (q := 894) rfl rfl) 3 rfl rfl <|
    V_iload_n (tat ok_L_law_13 (i := 26) (q := 895) rfl rfl) 0 rfl rfl <|
    V_iconst (tat ok_L_law_13 (i := 27) (q := 896) rfl rfl) ic_1 <|
    V_iadd (tat ok_L_law_13 (i := 28) (q := 897) rfl rfl) <|
    V_xa (tat ok_L_law_13 (i := 29) (q := 898) rfl rfl) rfl b1 e1 <|
    V_aload_n (tat ok_L_law_13 (i := 30) (q := 899) rfl rfl) 3 rfl rfl <|
    V_iload_n (tat ok_L_law_13 (i := 31) (q := 900) rfl rfl) 0 rfl rfl <|
    V_iconst (tat ok_L_law_13 (i := 32) (q := 901) rfl rfl) ic_2 <|
    V_iadd (tat ok_L_law_13 (i := 33) (q := 902) rfl rfl) <|
    V_xa (tat ok_L_law_13 (i := 34) (q := 903) rfl rfl) rfl b2 e2 <|
    V_cv2 (ct_X9_turned (p2 (F_X8_turned I L a1 a2)) L a1 a2 ew) mo_X9_turned (tat ok_L_law_13 (i := 35) (q := 906) rfl rfl) ml_L_118 rfl ⟨by decide, _, rfl, rfl⟩ ⟨(Nat.le_of_ble_eq_true rfl), (Nat.le_of_ble_eq_true rfl)⟩ ⟨(Nat.le_of_ble_eq_true rfl), (Nat.le_of_ble_eq_true rfl)⟩ (Nat.le_of_ble_eq_true rfl) <|
    V_pop (tat ok_L_law_13 (i := 36) (q := 907) rfl rfl) rfl <|
    V_goto (tat ok_L_law_13 (i := 37) (q := 910) rfl rfl) rfl <|
    hk _ _ hJ
def S_24 (J : WI → WL → Prop) (I : WI) (L : WL) (a1 a2 a3 a4 : Int32) : Prop := J (p2 (F_X8_spoilt I L a1)) L
theorem V_case_24 {n : Nat} {xs : Nat → Int32} {J : WI → WL → Prop} {I : WI} {L : WL} {i a1 a2 a3 a4 : Int32} (b1 : vp_in (i + 1) n) (b2 : vp_in (i + 2) n) (b3 : vp_in (i + 3) n) (b4 : vp_in (i + 4) n) (e1 : xs (Int32.toNatClampNeg (i + 1)) = a1) (e2 : xs (Int32.toNatClampNeg (i + 2)) = a2) (e3 : xs (Int32.toNatClampNeg (i + 3)) = a3) (e4 : xs (Int32.toNatClampNeg (i + 4)) = a4) (hk : ∀ I L, J I L → V (ZL n xs) 1348 [(3, .int i), (2, .ref 33), (1, .ref 0), (0, .ref 2999)] [] ly0 I L R0 45 8044) (h : S_24 J I L a1 a2 a3 a4) : V (ZL n xs) 910 [(3, .int i), (2, .ref 33), (1, .ref 0), (0, .ref 2999)] [] ly0 I L R0 45 8044 := by
  have hJ := h
  exact V_aload_n (tat ok_L_law_13 (i := 38) (q := 911) rfl rfl) 2 rfl rfl <|
    V_aload_n (tat ok_L_law_13 (i := 39) (q := 912) rfl rfl) 3 rfl rfl <|
    V_iload_n (tat ok_L_law_14 (i := 0) (q := 913) rfl rfl) 0 rfl rfl <|
    V_iconst (tat ok_L_law_14 (i := 1) (q := 914) rfl rfl) ic_1 <|
    V_iadd (tat ok_L_law_14 (i := 2) (q := 915) rfl rfl) <|
    V_xa (tat ok_L_law_14 (i := 3) (q := 916) rfl rfl) rfl b1 e1 <|
    V_cv1 (ct_X8_spoilt I L a1) mo_X8_spoilt (tat ok_L_law_14 (i := 4) (q := 919) rfl rfl) ml_L_119 rfl ⟨by decide, _, rfl, rfl⟩ ⟨(Nat.le_of_ble_eq_true rfl), (Nat.le_of_ble_eq_true rfl)⟩ ⟨(Nat.le_of_ble_eq_true rfl), (Nat.le_of_ble_eq_true rfl)⟩ (Nat.le_of_ble_eq_true rfl) <|
    V_pop (tat ok_L_law_14 (i := 5) (q := 920) rfl rfl) rfl <|
    V_aload_n (tat ok_L_law_14 (i := 6) (q := 921) rfl rfl) 1 rfl rfl <|
    V_aload_n (tat ok_L_law_14 (i := 7) (q := 922) rfl rfl) 3 rfl rfl <|
    V_iload_n (tat ok_L_law_14 (i := 8) (q := 923) rfl rfl) 0 rfl rfl <|
    V_iconst (tat ok_L_law_14 (i := 9) (q := 924) rfl rfl) ic_1 <|
    V_iadd (tat ok_L_law_14 (i := 10) (q := 925) rfl rfl) <|
    V_xa (tat ok_L_law_14 (i := 11) (q := 926) rfl rfl) rfl b1 e1 <|
    V_cv1 (ct_X9_spoilt (p2 (F_X8_spoilt I L a1)) L a1) mo_X9_spoilt (tat ok_L_law_14 (i := 12) (q := 929) rfl rfl) ml_L_122 rfl ⟨by decide, _, rfl, rfl⟩ ⟨(Nat.le_of_ble_eq_true rfl), (Nat.le_of_ble_eq_true rfl)⟩ ⟨(Nat.le_of_ble_eq_true rfl), (Nat.le_of_ble_eq_true rfl)⟩ (Nat.le_of_ble_eq_true rfl) <|
    V_pop (tat ok_L_law_14 (i := 13) (q := 930) rfl rfl) rfl <|
    V_goto (tat ok_L_law_14 (i := 14) (q := 933) rfl rfl) rfl <|
    hk _ _ hJ
def S_25 (J : WI → WL → Prop) (I : WI) (L : WL) (a1 a2 a3 a4 : Int32) : Prop := ∃ v, (F_X8_both I L a1) = some v ∧ J (p1 (p2 v)) (p2 (p2 v))
theorem V_case_25 {n : Nat} {xs : Nat → Int32} {J : WI → WL → Prop} {I : WI} {L : WL} {i a1 a2 a3 a4 : Int32} (b1 : vp_in (i + 1) n) (b2 : vp_in (i + 2) n) (b3 : vp_in (i + 3) n) (b4 : vp_in (i + 4) n) (e1 : xs (Int32.toNatClampNeg (i + 1)) = a1) (e2 : xs (Int32.toNatClampNeg (i + 2)) = a2) (e3 : xs (Int32.toNatClampNeg (i + 3)) = a3) (e4 : xs (Int32.toNatClampNeg (i + 4)) = a4) (hk : ∀ I L, J I L → V (ZL n xs) 1348 [(3, .int i), (2, .ref 33), (1, .ref 0), (0, .ref 2999)] [] ly0 I L R0 45 8044) (h : S_25 J I L a1 a2 a3 a4) : V (ZL n xs) 933 [(3, .int i), (2, .ref 33), (1, .ref 0), (0, .ref 2999)] [] ly0 I L R0 45 8044 := by
  obtain ⟨v, ev, hJ⟩ := h
  exact V_aload_n (tat ok_L_law_14 (i := 15) (q := 934) rfl rfl) 2 rfl rfl <|
    V_aload_n (tat ok_L_law_14 (i := 16) (q := 935) rfl rfl) 3 rfl rfl <|
    V_iload_n (tat ok_L_law_14 (i := 17) (q := 936) rfl rfl) 0 rfl rfl <|
    V_iconst (tat ok_L_law_14 (i := 18) (q := 937) rfl rfl) ic_1 <|
    V_iadd (tat ok_L_law_14 (i := 19) (q := 938) rfl rfl) <|
    V_xa (tat ok_L_law_14 (i := 20) (q := 939) rfl rfl) rfl b1 e1 <|
    V_cv1 (ct_X8_both I L a1 ev) mo_X8_both (tat ok_L_law_14 (i := 21) (q := 942) rfl rfl) ml_L_123 rfl ⟨by decide, _, rfl, rfl⟩ ⟨(Nat.le_of_ble_eq_true rfl), (Nat.le_of_ble_eq_true rfl)⟩ ⟨(Nat.le_of_ble_eq_true rfl), (Nat.le_of_ble_eq_true rfl)⟩ (Nat.le_of_ble_eq_true rfl) <|
    V_pop (tat ok_L_law_14 (i := 22) (q := 943) rfl rfl) rfl <|
    V_aload_n (tat ok_L_law_14 (i := 23) (q := 944) rfl rfl) 1 rfl rfl <|
    V_aload_n (tat ok_L_law_14 (i := 24) (q := 945) rfl rfl) 3 rfl rfl <|
    V_iload_n (tat ok_L_law_14 (i := 25) (q := 946) rfl rfl) 0 rfl rfl <|
    V_iconst (tat ok_L_law_14 (i := 26) (q := 947) rfl rfl) ic_1 <|
    V_iadd (tat ok_L_law_14 (i := 27) (q := 948) rfl rfl) <|
    V_xa (tat ok_L_law_14 (i := 28) (q := 949) rfl rfl) rfl b1 e1 <|
    V_cv1 (ct_X9_both (p1 (p2 v)) (p2 (p2 v)) a1) mo_X9_both (tat ok_L_law_14 (i := 29) (q := 952) rfl rfl) ml_L_126 rfl ⟨by decide, _, rfl, rfl⟩ ⟨(Nat.le_of_ble_eq_true rfl), (Nat.le_of_ble_eq_true rfl)⟩ ⟨(Nat.le_of_ble_eq_true rfl), (Nat.le_of_ble_eq_true rfl)⟩ (Nat.le_of_ble_eq_true rfl) <|
    V_pop (tat ok_L_law_14 (i := 30) (q := 953) rfl rfl) rfl <|
    V_goto (tat ok_L_law_14 (i := 31) (q := 956) rfl rfl) rfl <|
    hk _ _ hJ
def S_26 (J : WI → WL → Prop) (I : WI) (L : WL) (a1 a2 a3 a4 : Int32) : Prop := J (p1 (p2 (F_X9_rotate (p1 (p2 (F_X8_rotate I L a1))) (p2 (p2 (F_X8_rotate I L a1))) a1))) (p2 (p2 (F_X9_rotate (p1 (p2 (F_X8_rotate I L a1))) (p2 (p2 (F_X8_rotate I L a1))) a1)))
theorem V_case_26 {n : Nat} {xs : Nat → Int32} {J : WI → WL → Prop} {I : WI} {L : WL} {i a1 a2 a3 a4 : Int32} (b1 : vp_in (i + 1) n) (b2 : vp_in (i + 2) n) (b3 : vp_in (i + 3) n) (b4 : vp_in (i + 4) n) (e1 : xs (Int32.toNatClampNeg (i + 1)) = a1) (e2 : xs (Int32.toNatClampNeg (i + 2)) = a2) (e3 : xs (Int32.toNatClampNeg (i + 3)) = a3) (e4 : xs (Int32.toNatClampNeg (i + 4)) = a4) (hk : ∀ I L, J I L → V (ZL n xs) 1348 [(3, .int i), (2, .ref 33), (1, .ref 0), (0, .ref 2999)] [] ly0 I L R0 45 8044) (h : S_26 J I L a1 a2 a3 a4) : V (ZL n xs) 956 [(3, .int i), (2, .ref 33), (1, .ref 0), (0, .ref 2999)] [] ly0 I L R0 45 8044 := by
  have hJ := h
  exact V_aload_n (tat ok_L_law_14 (i := 32) (q := 957) rfl rfl) 2 rfl rfl <|
    V_aload_n (tat ok_L_law_14 (i := 33) (q := 958) rfl rfl) 3 rfl rfl <|
    V_iload_n (tat ok_L_law_14 (i := 34) (q := 959) rfl rfl) 0 rfl rfl <|
    V_iconst (tat ok_L_law_14 (i := 35) (q := 960) rfl rfl) ic_1 <|
    V_iadd (tat ok_L_law_14 (i := 36) (q := 961) rfl rfl) <|
    V_xa (tat ok_L_law_14 (i := 37) (q := 962) rfl rfl) rfl b1 e1 <|
    V_cv1 (ct_X8_rotate I L a1) mo_X8_rotate (tat ok_L_law_14 (i := 38) (q := 965) rfl rfl) ml_L_127 rfl ⟨by decide, _, rfl, rfl⟩ ⟨(Nat.le_of_ble_eq_true rfl), (Nat.le_of_ble_eq_true rfl)⟩ ⟨(Nat.le_of_ble_eq_true rfl), (Nat.le_of_ble_eq_true rfl)⟩ (Nat.le_of_ble_eq_true rfl) <|
    V_pop (tat ok_L_law_14 (i := 39) (q := 966) rfl rfl) rfl <|
    V_aload_n (tat ok_L_law_15 (i := 0) (q := 967) rfl rfl) 1 rfl rfl <|
    V_aload_n (tat ok_L_law_15 (i := 1) (q := 968) rfl rfl) 3 rfl rfl <|
    V_iload_n (tat ok_L_law_15 (i := 2) (q := 969) rfl rfl) 0 rfl rfl <|
    V_iconst (tat ok_L_law_15 (i := 3) (q := 970) rfl rfl) ic_1 <|
    V_iadd (tat ok_L_law_15 (i := 4) (q := 971) rfl rfl) <|
    V_xa (tat ok_L_law_15 (i := 5) (q := 972) rfl rfl) rfl b1 e1 <|
    V_cv1 (ct_X9_rotate (p1 (p2 (F_X8_rotate I L a1))) (p2 (p2 (F_X8_rotate I L a1))) a1) mo_X9_rotate (tat ok_L_law_15 (i := 6) (q := 975) rfl rfl) ml_L_130 rfl ⟨by decide, _, rfl, rfl⟩ ⟨(Nat.le_of_ble_eq_true rfl), (Nat.le_of_ble_eq_true rfl)⟩ ⟨(Nat.le_of_ble_eq_true rfl), (Nat.le_of_ble_eq_true rfl)⟩ (Nat.le_of_ble_eq_true rfl) <|
    V_pop (tat ok_L_law_15 (i := 7) (q := 976) rfl rfl) rfl <|
    V_goto (tat ok_L_law_15 (i := 8) (q := 979) rfl rfl) rfl <|
    hk _ _ hJ
def S_27 (J : WI → WL → Prop) (I : WI) (L : WL) (a1 a2 a3 a4 : Int32) : Prop := J (p1 (p2 (F_X9_cut (p1 (p2 (F_X8_cut I L a1 a2 a3 a4))) (p2 (p2 (F_X8_cut I L a1 a2 a3 a4))) a1 a2 a3 a4))) (p2 (p2 (F_X9_cut (p1 (p2 (F_X8_cut I L a1 a2 a3 a4))) (p2 (p2 (F_X8_cut I L a1 a2 a3 a4))) a1 a2 a3 a4)))
theorem V_case_27 {n : Nat} {xs : Nat → Int32} {J : WI → WL → Prop} {I : WI} {L : WL} {i a1 a2 a3 a4 : Int32} (b1 : vp_in (i + 1) n) (b2 : vp_in (i + 2) n) (b3 : vp_in (i + 3) n) (b4 : vp_in (i + 4) n) (e1 : xs (Int32.toNatClampNeg (i + 1)) = a1) (e2 : xs (Int32.toNatClampNeg (i + 2)) = a2) (e3 : xs (Int32.toNatClampNeg (i + 3)) = a3) (e4 : xs (Int32.toNatClampNeg (i + 4)) = a4) (hk : ∀ I L, J I L → V (ZL n xs) 1348 [(3, .int i), (2, .ref 33), (1, .ref 0), (0, .ref 2999)] [] ly0 I L R0 45 8044) (h : S_27 J I L a1 a2 a3 a4) : V (ZL n xs) 979 [(3, .int i), (2, .ref 33), (1, .ref 0), (0, .ref 2999)] [] ly0 I L R0 45 8044 := by
  have hJ := h
  exact V_aload_n (tat ok_L_law_15 (i := 9) (q := 980) rfl rfl) 2 rfl rfl <|
    V_aload_n (tat ok_L_law_15 (i := 10) (q := 981) rfl rfl) 3 rfl rfl <|
    V_iload_n (tat ok_L_law_15 (i := 11) (q := 982) rfl rfl) 0 rfl rfl <|
    V_iconst (tat ok_L_law_15 (i := 12) (q := 983) rfl rfl) ic_1 <|
    V_iadd (tat ok_L_law_15 (i := 13) (q := 984) rfl rfl) <|
    V_xa (tat ok_L_law_15 (i := 14) (q := 985) rfl rfl) rfl b1 e1 <|
    V_aload_n (tat ok_L_law_15 (i := 15) (q := 986) rfl rfl) 3 rfl rfl <|
    V_iload_n (tat ok_L_law_15 (i := 16) (q := 987) rfl rfl) 0 rfl rfl <|
    V_iconst (tat ok_L_law_15 (i := 17) (q := 988) rfl rfl) ic_2 <|
    V_iadd (tat ok_L_law_15 (i := 18) (q := 989) rfl rfl) <|
    V_xa (tat ok_L_law_15 (i := 19) (q := 990) rfl rfl) rfl b2 e2 <|
    V_aload_n (tat ok_L_law_15 (i := 20) (q := 991) rfl rfl) 3 rfl rfl <|
    V_iload_n (tat ok_L_law_15 (i := 21) (q := 992) rfl rfl) 0 rfl rfl <|
    V_iconst (tat ok_L_law_15 (i := 22) (q := 993) rfl rfl) ic_3 <|
    V_iadd (tat ok_L_law_15 (i := 23) (q := 994) rfl rfl) <|
    V_xa (tat ok_L_law_15 (i := 24) (q := 995) rfl rfl) rfl b3 e3 <|
    V_aload_n (tat ok_L_law_15 (i := 25) (q := 996) rfl rfl) 3 rfl rfl <|
    V_iload_n (tat ok_L_law_15 (i := 26) (q := 997) rfl rfl) 0 rfl rfl <|
    V_iconst (tat ok_L_law_15 (i := 27) (q := 998) rfl rfl) ic_4 <|
    V_iadd (tat ok_L_law_15 (i := 28) (q := 999) rfl rfl) <|
    V_xa (tat ok_L_law_15 (i := 29) (q := 1000) rfl rfl) rfl b4 e4 <|
    V_cv4 (ct_X8_cut I L a1 a2 a3 a4) mo_X8_cut (tat ok_L_law_15 (i := 30) (q := 1003) rfl rfl) ml_L_131 rfl ⟨by decide, _, rfl, rfl⟩ ⟨(Nat.le_of_ble_eq_true rfl), (Nat.le_of_ble_eq_true rfl)⟩ ⟨(Nat.le_of_ble_eq_true rfl), (Nat.le_of_ble_eq_true rfl)⟩ (Nat.le_of_ble_eq_true rfl) <|
    V_pop (tat ok_L_law_15 (i := 31) (q := 1004) rfl rfl) rfl <|
    V_aload_n (tat ok_L_law_15 (i := 32) (q := 1005) rfl rfl) 1 rfl rfl <|
    V_aload_n (tat ok_L_law_15 (i := 33) (q := 1006) rfl rfl) 3 rfl rfl <|
    V_iload_n (tat ok_L_law_15 (i := 34) (q := 1007) rfl rfl) 0 rfl rfl <|
    V_iconst (tat ok_L_law_15 (i := 35) (q := 1008) rfl rfl) ic_1 <|
    V_iadd (tat ok_L_law_15 (i := 36) (q := 1009) rfl rfl) <|
    V_xa (tat ok_L_law_15 (i := 37) (q := 1010) rfl rfl) rfl b1 e1 <|
    V_aload_n (tat ok_L_law_15 (i := 38) (q := 1011) rfl rfl) 3 rfl rfl <|
    V_iload_n (tat ok_L_law_15 (i := 39) (q := 1012) rfl rfl) 0 rfl rfl <|
    V_iconst (tat ok_L_law_16 (i := 0) (q := 1013) rfl rfl) ic_2 <|
    V_iadd (tat ok_L_law_16 (i := 1) (q := 1014) rfl rfl) <|
    V_xa (tat ok_L_law_16 (i := 2) (q := 1015) rfl rfl) rfl b2 e2 <|
    V_aload_n (tat ok_L_law_16 (i := 3) (q := 1016) rfl rfl) 3 rfl rfl <|
    V_iload_n (tat ok_L_law_16 (i := 4) (q := 1017) rfl rfl) 0 rfl rfl <|
    V_iconst (tat ok_L_law_16 (i := 5) (q := 1018) rfl rfl) ic_3 <|
    V_iadd (tat ok_L_law_16 (i := 6) (q := 1019) rfl rfl) <|
    V_xa (tat ok_L_law_16 (i := 7) (q := 1020) rfl rfl) rfl b3 e3 <|
    V_aload_n (tat ok_L_law_16 (i := 8) (q := 1021) rfl rfl) 3 rfl rfl <|
    V_iload_n (tat ok_L_law_16 (i := 9) (q := 1022) rfl rfl) 0 rfl rfl <|
    V_iconst (tat ok_L_law_16 (i := 10) (q := 1023) rfl rfl) ic_4 <|
    V_iadd (tat ok_L_law_16 (i := 11) (q := 1024) rfl rfl) <|
    V_xa (tat ok_L_law_16 (i := 12) (q := 1025) rfl rfl) rfl b4 e4 <|
    V_cv4 (ct_X9_cut (p1 (p2 (F_X8_cut I L a1 a2 a3 a4))) (p2 (p2 (F_X8_cut I L a1 a2 a3 a4))) a1 a2 a3 a4) mo_X9_cut (tat ok_L_law_16 (i := 13) (q := 1028) rfl rfl) ml_L_135 rfl ⟨by decide, _, rfl, rfl⟩ ⟨(Nat.le_of_ble_eq_true rfl), (Nat.le_of_ble_eq_true rfl)⟩ ⟨(Nat.le_of_ble_eq_true rfl), (Nat.le_of_ble_eq_true rfl)⟩ (Nat.le_of_ble_eq_true rfl) <|
    V_pop (tat ok_L_law_16 (i := 14) (q := 1029) rfl rfl) rfl <|
    V_goto (tat ok_L_law_16 (i := 15) (q := 1032) rfl rfl) rfl <|
    hk _ _ hJ
def S_28 (J : WI → WL → Prop) (I : WI) (L : WL) (a1 a2 a3 a4 : Int32) : Prop := ∃ w, (F_X9_sew (p1 (p2 (F_X8_sew I L a1 (nz a2)))) (p2 (p2 (F_X8_sew I L a1 (nz a2)))) a1 (nz a2)) = some w ∧ J (p1 (p2 w)) (p2 (p2 w))
theorem V_case_28 {n : Nat} {xs : Nat → Int32} {J : WI → WL → Prop} {I : WI} {L : WL} {i a1 a2 a3 a4 : Int32} (b1 : vp_in (i + 1) n) (b2 : vp_in (i + 2) n) (b3 : vp_in (i + 3) n) (b4 : vp_in (i + 4) n) (e1 : xs (Int32.toNatClampNeg (i + 1)) = a1) (e2 : xs (Int32.toNatClampNeg (i + 2)) = a2) (e3 : xs (Int32.toNatClampNeg (i + 3)) = a3) (e4 : xs (Int32.toNatClampNeg (i + 4)) = a4) (hk : ∀ I L, J I L → V (ZL n xs) 1348 [(3, .int i), (2, .ref 33), (1, .ref 0), (0, .ref 2999)] [] ly0 I L R0 45 8044) (h : S_28 J I L a1 a2 a3 a4) : V (ZL n xs) 1032 [(3, .int i), (2, .ref 33), (1, .ref 0), (0, .ref 2999)] [] ly0 I L R0 45 8044 := by
  obtain ⟨w, ew, hJ⟩ := h
  exact V_aload_n (tat ok_L_law_16 (i := 16) (q := 1033) rfl rfl) 2 rfl rfl <|
    V_aload_n (tat ok_L_law_16 (i := 17) (q := 1034) rfl rfl) 3 rfl rfl <|
    V_iload_n (tat ok_L_law_16 (i := 18) (q := 1035) rfl rfl) 0 rfl rfl <|
    V_iconst (tat ok_L_law_16 (i := 19) (q := 1036) rfl rfl) ic_1 <|
    V_iadd (tat ok_L_law_16 (i := 20) (q := 1037) rfl rfl) <|
    V_xa (tat ok_L_law_16 (i := 21) (q := 1038) rfl rfl) rfl b1 e1 <|
    V_aload_n (tat ok_L_law_16 (i := 22) (q := 1039) rfl rfl) 3 rfl rfl <|
    V_iload_n (tat ok_L_law_16 (i := 23) (q := 1040) rfl rfl) 0 rfl rfl <|
    V_iconst (tat ok_L_law_16 (i := 24) (q := 1041) rfl rfl) ic_2 <|
    V_iadd (tat ok_L_law_16 (i := 25) (q := 1042) rfl rfl) <|
    V_xa (tat ok_L_law_16 (i := 26) (q := 1043) rfl rfl) rfl b2 e2 <|
    V_nz (tat ok_L_law_16 (i := 27) (q := 1046) rfl rfl) rfl (tat ok_L_law_16 (i := 28) (q := 1047) rfl rfl) (tat ok_L_law_16 (i := 29) (q := 1050) rfl rfl) rfl (tat ok_L_law_16 (i := 30) (q := 1051) rfl rfl) <|
    V_cv2 (ct_X8_sew I L a1 (nz a2)) mo_X8_sew (tat ok_L_law_16 (i := 31) (q := 1054) rfl rfl) ml_L_136 rfl ⟨by decide, _, rfl, rfl⟩ ⟨(Nat.le_of_ble_eq_true rfl), (Nat.le_of_ble_eq_true rfl)⟩ ⟨(Nat.le_of_ble_eq_true rfl), (Nat.le_of_ble_eq_true rfl)⟩ (Nat.le_of_ble_eq_true rfl) <|
    V_pop (tat ok_L_law_16 (i := 32) (q := 1055) rfl rfl) rfl <|
    V_aload_n (tat ok_L_law_16 (i := 33) (q := 1056) rfl rfl) 1 rfl rfl <|
    V_aload_n (tat ok_L_law_16 (i := 34) (q := 1057) rfl rfl) 3 rfl rfl <|
    V_iload_n (tat ok_L_law_16 (i := 35) (q := 1058) rfl rfl) 0 rfl rfl <|
    V_iconst (tat ok_L_law_16 (i := 36) (q := 1059) rfl rfl) ic_1 <|
    V_iadd (tat ok_L_law_16 (i := 37) (q := 1060) rfl rfl) <|
    V_xa (tat ok_L_law_16 (i := 38) (q := 1061) rfl rfl) rfl b1 e1 <|
    V_aload_n (tat ok_L_law_16 (i := 39) (q := 1062) rfl rfl) 3 rfl rfl <|
    V_iload_n (tat ok_L_law_17 (i := 0) (q := 1063) rfl rfl) 0 rfl rfl <|
    V_iconst (tat ok_L_law_17 (i := 1) (q := 1064) rfl rfl) ic_2 <|
    V_iadd (tat ok_L_law_17 (i := 2) (q := 1065) rfl rfl) <|
    V_xa (tat ok_L_law_17 (i := 3) (q := 1066) rfl rfl) rfl b2 e2 <|
    V_nz (tat ok_L_law_17 (i := 4) (q := 1069) rfl rfl) rfl (tat ok_L_law_17 (i := 5) (q := 1070) rfl rfl) (tat ok_L_law_17 (i := 6) (q := 1073) rfl rfl) rfl (tat ok_L_law_17 (i := 7) (q := 1074) rfl rfl) <|
    V_cv2 (ct_X9_sew (p1 (p2 (F_X8_sew I L a1 (nz a2)))) (p2 (p2 (F_X8_sew I L a1 (nz a2)))) a1 (nz a2) ew) mo_X9_sew (tat ok_L_law_17 (i := 8) (q := 1077) rfl rfl) ml_L_140 rfl ⟨by decide, _, rfl, rfl⟩ ⟨(Nat.le_of_ble_eq_true rfl), (Nat.le_of_ble_eq_true rfl)⟩ ⟨(Nat.le_of_ble_eq_true rfl), (Nat.le_of_ble_eq_true rfl)⟩ (Nat.le_of_ble_eq_true rfl) <|
    V_pop (tat ok_L_law_17 (i := 9) (q := 1078) rfl rfl) rfl <|
    V_goto (tat ok_L_law_17 (i := 10) (q := 1081) rfl rfl) rfl <|
    hk _ _ hJ
def S_29 (J : WI → WL → Prop) (I : WI) (L : WL) (a1 a2 a3 a4 : Int32) : Prop := J (p1 (p2 (F_X9_name (p1 (p2 (F_X8_name I L a1))) (p2 (p2 (F_X8_name I L a1))) a1))) (p2 (p2 (F_X9_name (p1 (p2 (F_X8_name I L a1))) (p2 (p2 (F_X8_name I L a1))) a1)))
theorem V_case_29 {n : Nat} {xs : Nat → Int32} {J : WI → WL → Prop} {I : WI} {L : WL} {i a1 a2 a3 a4 : Int32} (b1 : vp_in (i + 1) n) (b2 : vp_in (i + 2) n) (b3 : vp_in (i + 3) n) (b4 : vp_in (i + 4) n) (e1 : xs (Int32.toNatClampNeg (i + 1)) = a1) (e2 : xs (Int32.toNatClampNeg (i + 2)) = a2) (e3 : xs (Int32.toNatClampNeg (i + 3)) = a3) (e4 : xs (Int32.toNatClampNeg (i + 4)) = a4) (hk : ∀ I L, J I L → V (ZL n xs) 1348 [(3, .int i), (2, .ref 33), (1, .ref 0), (0, .ref 2999)] [] ly0 I L R0 45 8044) (h : S_29 J I L a1 a2 a3 a4) : V (ZL n xs) 1081 [(3, .int i), (2, .ref 33), (1, .ref 0), (0, .ref 2999)] [] ly0 I L R0 45 8044 := by
  have hJ := h
  exact V_aload_n (tat ok_L_law_17 (i := 11) (q := 1082) rfl rfl) 2 rfl rfl <|
    V_aload_n (tat ok_L_law_17 (i := 12) (q := 1083) rfl rfl) 3 rfl rfl <|
    V_iload_n (tat ok_L_law_17 (i := 13) (q := 1084) rfl rfl) 0 rfl rfl <|
    V_iconst (tat ok_L_law_17 (i := 14) (q := 1085) rfl rfl) ic_1 <|
    V_iadd (tat ok_L_law_17 (i := 15) (q := 1086) rfl rfl) <|
    V_xa (tat ok_L_law_17 (i := 16) (q := 1087) rfl rfl) rfl b1 e1 <|
    V_cv1 (ct_X8_name I L a1) mo_X8_name (tat ok_L_law_17 (i := 17) (q := 1090) rfl rfl) ml_L_141 rfl ⟨by decide, _, rfl, rfl⟩ ⟨(Nat.le_of_ble_eq_true rfl), (Nat.le_of_ble_eq_true rfl)⟩ ⟨(Nat.le_of_ble_eq_true rfl), (Nat.le_of_ble_eq_true rfl)⟩ (Nat.le_of_ble_eq_true rfl) <|
    V_pop2L (tat ok_L_law_17 (i := 18) (q := 1091) rfl rfl) <|
    V_aload_n (tat ok_L_law_17 (i := 19) (q := 1092) rfl rfl) 1 rfl rfl <|
    V_aload_n (tat ok_L_law_17 (i := 20) (q := 1093) rfl rfl) 3 rfl rfl <|
    V_iload_n (tat ok_L_law_17 (i := 21) (q := 1094) rfl rfl) 0 rfl rfl <|
    V_iconst (tat ok_L_law_17 (i := 22) (q := 1095) rfl rfl) ic_1 <|
    V_iadd (tat ok_L_law_17 (i := 23) (q := 1096) rfl rfl) <|
    V_xa (tat ok_L_law_17 (i := 24) (q := 1097) rfl rfl) rfl b1 e1 <|
    V_cv1 (ct_X9_name (p1 (p2 (F_X8_name I L a1))) (p2 (p2 (F_X8_name I L a1))) a1) mo_X9_name (tat ok_L_law_17 (i := 25) (q := 1100) rfl rfl) ml_L_144 rfl ⟨by decide, _, rfl, rfl⟩ ⟨(Nat.le_of_ble_eq_true rfl), (Nat.le_of_ble_eq_true rfl)⟩ ⟨(Nat.le_of_ble_eq_true rfl), (Nat.le_of_ble_eq_true rfl)⟩ (Nat.le_of_ble_eq_true rfl) <|
    V_pop2L (tat ok_L_law_17 (i := 26) (q := 1101) rfl rfl) <|
    V_goto (tat ok_L_law_17 (i := 27) (q := 1104) rfl rfl) rfl <|
    hk _ _ hJ
def S_30 (J : WI → WL → Prop) (I : WI) (L : WL) (a1 a2 a3 a4 : Int32) : Prop := ∃ w, (F_X9_cousin (p1 (p2 (F_X8_cousin I L a1))) (p2 (p2 (F_X8_cousin I L a1))) a1) = some w ∧ J (p1 (p2 w)) (p2 (p2 w))
theorem V_case_30 {n : Nat} {xs : Nat → Int32} {J : WI → WL → Prop} {I : WI} {L : WL} {i a1 a2 a3 a4 : Int32} (b1 : vp_in (i + 1) n) (b2 : vp_in (i + 2) n) (b3 : vp_in (i + 3) n) (b4 : vp_in (i + 4) n) (e1 : xs (Int32.toNatClampNeg (i + 1)) = a1) (e2 : xs (Int32.toNatClampNeg (i + 2)) = a2) (e3 : xs (Int32.toNatClampNeg (i + 3)) = a3) (e4 : xs (Int32.toNatClampNeg (i + 4)) = a4) (hk : ∀ I L, J I L → V (ZL n xs) 1348 [(3, .int i), (2, .ref 33), (1, .ref 0), (0, .ref 2999)] [] ly0 I L R0 45 8044) (h : S_30 J I L a1 a2 a3 a4) : V (ZL n xs) 1104 [(3, .int i), (2, .ref 33), (1, .ref 0), (0, .ref 2999)] [] ly0 I L R0 45 8044 := by
  obtain ⟨w, ew, hJ⟩ := h
  exact V_aload_n (tat ok_L_law_17 (i := 28) (q := 1105) rfl rfl) 2 rfl rfl <|
    V_aload_n (tat ok_L_law_17 (i := 29) (q := 1106) rfl rfl) 3 rfl rfl <|
    V_iload_n (tat ok_L_law_17 (i := 30) (q := 1107) rfl rfl) 0 rfl rfl <|
    V_iconst (tat ok_L_law_17 (i := 31) (q := 1108) rfl rfl) ic_1 <|
    V_iadd (tat ok_L_law_17 (i := 32) (q := 1109) rfl rfl) <|
    V_xa (tat ok_L_law_17 (i := 33) (q := 1110) rfl rfl) rfl b1 e1 <|
    V_cv1 (ct_X8_cousin I L a1) mo_X8_cousin (tat ok_L_law_17 (i := 34) (q := 1113) rfl rfl) ml_L_145 rfl ⟨by decide, _, rfl, rfl⟩ ⟨(Nat.le_of_ble_eq_true rfl), (Nat.le_of_ble_eq_true rfl)⟩ ⟨(Nat.le_of_ble_eq_true rfl), (Nat.le_of_ble_eq_true rfl)⟩ (Nat.le_of_ble_eq_true rfl) <|
    V_pop (tat ok_L_law_17 (i := 35) (q := 1114) rfl rfl) rfl <|
    V_aload_n (tat ok_L_law_17 (i := 36) (q := 1115) rfl rfl) 1 rfl rfl <|
    V_aload_n (tat ok_L_law_17 (i := 37) (q := 1116) rfl rfl) 3 rfl rfl <|
    V_iload_n (tat ok_L_law_17 (i := 38) (q := 1117) rfl rfl) 0 rfl rfl <|
    V_iconst (tat ok_L_law_17 (i := 39) (q := 1118) rfl rfl) ic_1 <|
    V_iadd (tat ok_L_law_18 (i := 0) (q := 1119) rfl rfl) <|
    V_xa (tat ok_L_law_18 (i := 1) (q := 1120) rfl rfl) rfl b1 e1 <|
    V_cv1 (ct_X9_cousin (p1 (p2 (F_X8_cousin I L a1))) (p2 (p2 (F_X8_cousin I L a1))) a1 ew) mo_X9_cousin (tat ok_L_law_18 (i := 2) (q := 1123) rfl rfl) ml_L_148 rfl ⟨by decide, _, rfl, rfl⟩ ⟨(Nat.le_of_ble_eq_true rfl), (Nat.le_of_ble_eq_true rfl)⟩ ⟨(Nat.le_of_ble_eq_true rfl), (Nat.le_of_ble_eq_true rfl)⟩ (Nat.le_of_ble_eq_true rfl) <|
    V_pop (tat ok_L_law_18 (i := 3) (q := 1124) rfl rfl) rfl <|
    V_goto (tat ok_L_law_18 (i := 4) (q := 1127) rfl rfl) rfl <|
    hk _ _ hJ
def S_31 (J : WI → WL → Prop) (I : WI) (L : WL) (a1 a2 a3 a4 : Int32) : Prop := ∃ w, (F_X9_keep (p1 (p2 (F_X8_keep I L a1))) (p2 (p2 (F_X8_keep I L a1))) a1) = some w ∧ J (p1 (p2 w)) (p2 (p2 w))
theorem V_case_31 {n : Nat} {xs : Nat → Int32} {J : WI → WL → Prop} {I : WI} {L : WL} {i a1 a2 a3 a4 : Int32} (b1 : vp_in (i + 1) n) (b2 : vp_in (i + 2) n) (b3 : vp_in (i + 3) n) (b4 : vp_in (i + 4) n) (e1 : xs (Int32.toNatClampNeg (i + 1)) = a1) (e2 : xs (Int32.toNatClampNeg (i + 2)) = a2) (e3 : xs (Int32.toNatClampNeg (i + 3)) = a3) (e4 : xs (Int32.toNatClampNeg (i + 4)) = a4) (hk : ∀ I L, J I L → V (ZL n xs) 1348 [(3, .int i), (2, .ref 33), (1, .ref 0), (0, .ref 2999)] [] ly0 I L R0 45 8044) (h : S_31 J I L a1 a2 a3 a4) : V (ZL n xs) 1127 [(3, .int i), (2, .ref 33), (1, .ref 0), (0, .ref 2999)] [] ly0 I L R0 45 8044 := by
  obtain ⟨w, ew, hJ⟩ := h
  exact V_aload_n (tat ok_L_law_18 (i := 5) (q := 1128) rfl rfl) 2 rfl rfl <|
    V_aload_n (tat ok_L_law_18 (i := 6) (q := 1129) rfl rfl) 3 rfl rfl <|
    V_iload_n (tat ok_L_law_18 (i := 7) (q := 1130) rfl rfl) 0 rfl rfl <|
    V_iconst (tat ok_L_law_18 (i := 8) (q := 1131) rfl rfl) ic_1 <|
    V_iadd (tat ok_L_law_18 (i := 9) (q := 1132) rfl rfl) <|
    V_xa (tat ok_L_law_18 (i := 10) (q := 1133) rfl rfl) rfl b1 e1 <|
    V_cv1 (ct_X8_keep I L a1) mo_X8_keep (tat ok_L_law_18 (i := 11) (q := 1136) rfl rfl) ml_L_149 rfl ⟨by decide, _, rfl, rfl⟩ ⟨(Nat.le_of_ble_eq_true rfl), (Nat.le_of_ble_eq_true rfl)⟩ ⟨(Nat.le_of_ble_eq_true rfl), (Nat.le_of_ble_eq_true rfl)⟩ (Nat.le_of_ble_eq_true rfl) <|
    V_pop (tat ok_L_law_18 (i := 12) (q := 1137) rfl rfl) rfl <|
    V_aload_n (tat ok_L_law_18 (i := 13) (q := 1138) rfl rfl) 1 rfl rfl <|
    V_aload_n (tat ok_L_law_18 (i := 14) (q := 1139) rfl rfl) 3 rfl rfl <|
    V_iload_n (tat ok_L_law_18 (i := 15) (q := 1140) rfl rfl) 0 rfl rfl <|
    V_iconst (tat ok_L_law_18 (i := 16) (q := 1141) rfl rfl) ic_1 <|
    V_iadd (tat ok_L_law_18 (i := 17) (q := 1142) rfl rfl) <|
    V_xa (tat ok_L_law_18 (i := 18) (q := 1143) rfl rfl) rfl b1 e1 <|
    V_cv1 (ct_X9_keep (p1 (p2 (F_X8_keep I L a1))) (p2 (p2 (F_X8_keep I L a1))) a1 ew) mo_X9_keep (tat ok_L_law_18 (i := 19) (q := 1146) rfl rfl) ml_L_152 rfl ⟨by decide, _, rfl, rfl⟩ ⟨(Nat.le_of_ble_eq_true rfl), (Nat.le_of_ble_eq_true rfl)⟩ ⟨(Nat.le_of_ble_eq_true rfl), (Nat.le_of_ble_eq_true rfl)⟩ (Nat.le_of_ble_eq_true rfl) <|
    V_pop (tat ok_L_law_18 (i := 20) (q := 1147) rfl rfl) rfl <|
    V_goto (tat ok_L_law_18 (i := 21) (q := 1150) rfl rfl) rfl <|
    hk _ _ hJ
def S_32 (J : WI → WL → Prop) (I : WI) (L : WL) (a1 a2 a3 a4 : Int32) : Prop := ∃ w, (F_X9_back (p1 (p2 (F_X8_back I L a1))) (p2 (p2 (F_X8_back I L a1))) a1) = some w ∧ J (p1 (p2 w)) (p2 (p2 w))
theorem V_case_32 {n : Nat} {xs : Nat → Int32} {J : WI → WL → Prop} {I : WI} {L : WL} {i a1 a2 a3 a4 : Int32} (b1 : vp_in (i + 1) n) (b2 : vp_in (i + 2) n) (b3 : vp_in (i + 3) n) (b4 : vp_in (i + 4) n) (e1 : xs (Int32.toNatClampNeg (i + 1)) = a1) (e2 : xs (Int32.toNatClampNeg (i + 2)) = a2) (e3 : xs (Int32.toNatClampNeg (i + 3)) = a3) (e4 : xs (Int32.toNatClampNeg (i + 4)) = a4) (hk : ∀ I L, J I L → V (ZL n xs) 1348 [(3, .int i), (2, .ref 33), (1, .ref 0), (0, .ref 2999)] [] ly0 I L R0 45 8044) (h : S_32 J I L a1 a2 a3 a4) : V (ZL n xs) 1150 [(3, .int i), (2, .ref 33), (1, .ref 0), (0, .ref 2999)] [] ly0 I L R0 45 8044 := by
  obtain ⟨w, ew, hJ⟩ := h
  exact V_aload_n (tat ok_L_law_18 (i := 22) (q := 1151) rfl rfl) 2 rfl rfl <|
    V_aload_n (tat ok_L_law_18 (i := 23) (q := 1152) rfl rfl) 3 rfl rfl <|
    V_iload_n (tat ok_L_law_18 (i := 24) (q := 1153) rfl rfl) 0 rfl rfl <|
    V_iconst (tat ok_L_law_18 (i := 25) (q := 1154) rfl rfl) ic_1 <|
    V_iadd (tat ok_L_law_18 (i := 26) (q := 1155) rfl rfl) <|
    V_xa (tat ok_L_law_18 (i := 27) (q := 1156) rfl rfl) rfl b1 e1 <|
    V_cv1 (ct_X8_back I L a1) mo_X8_back (tat ok_L_law_18 (i := 28) (q := 1159) rfl rfl) ml_L_153 rfl ⟨by decide, _, rfl, rfl⟩ ⟨(Nat.le_of_ble_eq_true rfl), (Nat.le_of_ble_eq_true rfl)⟩ ⟨(Nat.le_of_ble_eq_true rfl), (Nat.le_of_ble_eq_true rfl)⟩ (Nat.le_of_ble_eq_true rfl) <|
    V_pop (tat ok_L_law_18 (i := 29) (q := 1160) rfl rfl) rfl <|
    V_aload_n (tat ok_L_law_18 (i := 30) (q := 1161) rfl rfl) 1 rfl rfl <|
    V_aload_n (tat ok_L_law_18 (i := 31) (q := 1162) rfl rfl) 3 rfl rfl <|
    V_iload_n (tat ok_L_law_18 (i := 32) (q := 1163) rfl rfl) 0 rfl rfl <|
    V_iconst (tat ok_L_law_18 (i := 33) (q := 1164) rfl rfl) ic_1 <|
    V_iadd (tat ok_L_law_18 (i := 34) (q := 1165) rfl rfl) <|
    V_xa (tat ok_L_law_18 (i := 35) (q := 1166) rfl rfl) rfl b1 e1 <|
    V_cv1 (ct_X9_back (p1 (p2 (F_X8_back I L a1))) (p2 (p2 (F_X8_back I L a1))) a1 ew) mo_X9_back (tat ok_L_law_18 (i := 36) (q := 1169) rfl rfl) ml_L_156 rfl ⟨by decide, _, rfl, rfl⟩ ⟨(Nat.le_of_ble_eq_true rfl), (Nat.le_of_ble_eq_true rfl)⟩ ⟨(Nat.le_of_ble_eq_true rfl), (Nat.le_of_ble_eq_true rfl)⟩ (Nat.le_of_ble_eq_true rfl) <|
    V_pop (tat ok_L_law_18 (i := 37) (q := 1170) rfl rfl) rfl <|
    V_goto (tat ok_L_law_18 (i := 38) (q := 1173) rfl rfl) rfl <|
    hk _ _ hJ
def S_33 (J : WI → WL → Prop) (I : WI) (L : WL) (a1 a2 a3 a4 : Int32) : Prop := ∃ v, (F_X8_sheet I a1 a2 a3) = some v ∧ ∃ w, (F_X9_sheet (p2 v) a1 a2 a3) = some w ∧ J (p2 w) L
theorem V_case_33 {n : Nat} {xs : Nat → Int32} {J : WI → WL → Prop} {I : WI} {L : WL} {i a1 a2 a3 a4 : Int32} (b1 : vp_in (i + 1) n) (b2 : vp_in (i + 2) n) (b3 : vp_in (i + 3) n) (b4 : vp_in (i + 4) n) (e1 : xs (Int32.toNatClampNeg (i + 1)) = a1) (e2 : xs (Int32.toNatClampNeg (i + 2)) = a2) (e3 : xs (Int32.toNatClampNeg (i + 3)) = a3) (e4 : xs (Int32.toNatClampNeg (i + 4)) = a4) (hk : ∀ I L, J I L → V (ZL n xs) 1348 [(3, .int i), (2, .ref 33), (1, .ref 0), (0, .ref 2999)] [] ly0 I L R0 45 8044) (h : S_33 J I L a1 a2 a3 a4) : V (ZL n xs) 1173 [(3, .int i), (2, .ref 33), (1, .ref 0), (0, .ref 2999)] [] ly0 I L R0 45 8044 := by
  obtain ⟨v, ev, w, ew, hJ⟩ := h
  exact V_aload_n (tat ok_L_law_18 (i := 39) (q := 1174) rfl rfl) 2 rfl rfl <|
    V_aload_n (tat ok_L_law_19 (i := 0) (q := 1175) rfl rfl) 3 rfl rfl <|
    V_iload_n (tat ok_L_law_19 (i := 1) (q := 1176) rfl rfl) 0 rfl rfl <|
    V_iconst (tat ok_L_law_19 (i := 2) (q := 1177) rfl rfl) ic_1 <|
    V_iadd (tat ok_L_law_19 (i := 3) (q := 1178) rfl rfl) <|
    V_xa (tat ok_L_law_19 (i := 4) (q := 1179) rfl rfl) rfl b1 e1 <|
    V_aload_n (tat ok_L_law_19 (i := 5) (q := 1180) rfl rfl) 3 rfl rfl <|
    V_iload_n (tat ok_L_law_19 (i := 6) (q := 1181) rfl rfl) 0 rfl rfl <|
    V_iconst (tat ok_L_law_19 (i := 7) (q := 1182) rfl rfl) ic_2 <|
    V_iadd (tat ok_L_law_19 (i := 8) (q := 1183) rfl rfl) <|
    V_xa (tat ok_L_law_19 (i := 9) (q := 1184) rfl rfl) rfl b2 e2 <|
    V_aload_n (tat ok_L_law_19 (i := 10) (q := 1185) rfl rfl) 3 rfl rfl <|
    V_iload_n (tat ok_L_law_19 (i := 11) (q := 1186) rfl rfl) 0 rfl rfl <|
    V_iconst (tat ok_L_law_19 (i := 12) (q := 1187) rfl rfl) ic_3 <|
    V_iadd (tat ok_L_law_19 (i := 13) (q := 1188) rfl rfl) <|
    V_xa (tat ok_L_law_19 (i := 14) (q := 1189) rfl rfl) rfl b3 e3 <|
    V_cv3 (ct_X8_sheet I L a1 a2 a3 ev) mo_X8_sheet (tat ok_L_law_19 (i := 15) (q := 1192) rfl rfl) ml_L_157 rfl ⟨by decide, _, rfl, rfl⟩ ⟨(Nat.le_of_ble_eq_true rfl), (Nat.le_of_ble_eq_true rfl)⟩ ⟨(Nat.le_of_ble_eq_true rfl), (Nat.le_of_ble_eq_true rfl)⟩ (Nat.le_of_ble_eq_true rfl) <|
    V_pop (tat ok_L_law_19 (i := 16) (q := 1193) rfl rfl) rfl <|
    V_aload_n (tat ok_L_law_19 (i := 17) (q := 1194) rfl rfl) 1 rfl rfl <|
    V_aload_n (tat ok_L_law_19 (i := 18) (q := 1195) rfl rfl) 3 rfl rfl <|
    V_iload_n (tat ok_L_law_19 (i := 19) (q := 1196) rfl rfl) 0 rfl rfl <|
    V_iconst (tat ok_L_law_19 (i := 20) (q := 1197) rfl rfl) ic_1 <|
    V_iadd (tat ok_L_law_19 (i := 21) (q := 1198) rfl rfl) <|
    V_xa (tat ok_L_law_19 (i := 22) (q := 1199) rfl rfl) rfl b1 e1 <|
    V_aload_n (tat ok_L_law_19 (i := 23) (q := 1200) rfl rfl) 3 rfl rfl <|
    V_iload_n (tat ok_L_law_19 (i := 24) (q := 1201) rfl rfl) 0 rfl rfl <|
    V_iconst (tat ok_L_law_19 (i := 25) (q := 1202) rfl rfl) ic_2 <|
    V_iadd (tat ok_L_law_19 (i := 26) (q := 1203) rfl rfl) <|
    V_xa (tat ok_L_law_19 (i := 27) (q := 1204) rfl rfl) rfl b2 e2 <|
    V_aload_n (tat ok_L_law_19 (i := 28) (q := 1205) rfl rfl) 3 rfl rfl <|
    V_iload_n (tat ok_L_law_19 (i := 29) (q := 1206) rfl rfl) 0 rfl rfl <|
    V_iconst (tat ok_L_law_19 (i := 30) (q := 1207) rfl rfl) ic_3 <|
    V_iadd (tat ok_L_law_19 (i := 31) (q := 1208) rfl rfl) <|
    V_xa (tat ok_L_law_19 (i := 32) (q := 1209) rfl rfl) rfl b3 e3 <|
    V_cv3 (ct_X9_sheet (p2 v) L a1 a2 a3 ew) mo_X9_sheet (tat ok_L_law_19 (i := 33) (q := 1212) rfl rfl) ml_L_161 rfl ⟨by decide, _, rfl, rfl⟩ ⟨(Nat.le_of_ble_eq_true rfl), (Nat.le_of_ble_eq_true rfl)⟩ ⟨(Nat.le_of_ble_eq_true rfl), (Nat.le_of_ble_eq_true rfl)⟩ (Nat.le_of_ble_eq_true rfl) <|
    V_pop (tat ok_L_law_19 (i := 34) (q := 1213) rfl rfl) rfl <|
    V_goto (tat ok_L_law_19 (i := 35) (q := 1216) rfl rfl) rfl <|
    hk _ _ hJ
def S_34 (J : WI → WL → Prop) (I : WI) (L : WL) (a1 a2 a3 a4 : Int32) : Prop := ∃ v, (F_X8_lay I a1 a2 a3) = some v ∧ ∃ w, (F_X9_lay (p2 v) a1 a2 a3) = some w ∧ J (p2 w) L
theorem V_case_34 {n : Nat} {xs : Nat → Int32} {J : WI → WL → Prop} {I : WI} {L : WL} {i a1 a2 a3 a4 : Int32} (b1 : vp_in (i + 1) n) (b2 : vp_in (i + 2) n) (b3 : vp_in (i + 3) n) (b4 : vp_in (i + 4) n) (e1 : xs (Int32.toNatClampNeg (i + 1)) = a1) (e2 : xs (Int32.toNatClampNeg (i + 2)) = a2) (e3 : xs (Int32.toNatClampNeg (i + 3)) = a3) (e4 : xs (Int32.toNatClampNeg (i + 4)) = a4) (hk : ∀ I L, J I L → V (ZL n xs) 1348 [(3, .int i), (2, .ref 33), (1, .ref 0), (0, .ref 2999)] [] ly0 I L R0 45 8044) (h : S_34 J I L a1 a2 a3 a4) : V (ZL n xs) 1216 [(3, .int i), (2, .ref 33), (1, .ref 0), (0, .ref 2999)] [] ly0 I L R0 45 8044 := by
  obtain ⟨v, ev, w, ew, hJ⟩ := h
  exact V_aload_n (tat ok_L_law_19 (i := 36) (q := 1217) rfl rfl) 2 rfl rfl <|
    V_aload_n (tat ok_L_law_19 (i := 37) (q := 1218) rfl rfl) 3 rfl rfl <|
    V_iload_n (tat ok_L_law_19 (i := 38) (q := 1219) rfl rfl) 0 rfl rfl <|
    V_iconst (tat ok_L_law_19 (i := 39) (q := 1220) rfl rfl) ic_1 <|
    V_iadd (tat ok_L_law_20 (i := 0) (q := 1221) rfl rfl) <|
    V_xa (tat ok_L_law_20 (i := 1) (q := 1222) rfl rfl) rfl b1 e1 <|
    V_aload_n (tat ok_L_law_20 (i := 2) (q := 1223) rfl rfl) 3 rfl rfl <|
    V_iload_n (tat ok_L_law_20 (i := 3) (q := 1224) rfl rfl) 0 rfl rfl <|
    V_iconst (tat ok_L_law_20 (i := 4) (q := 1225) rfl rfl) ic_2 <|
    V_iadd (tat ok_L_law_20 (i := 5) (q := 1226) rfl rfl) <|
    V_xa (tat ok_L_law_20 (i := 6) (q := 1227) rfl rfl) rfl b2 e2 <|
    V_aload_n (tat ok_L_law_20 (i := 7) (q := 1228) rfl rfl) 3 rfl rfl <|
    V_iload_n (tat ok_L_law_20 (i := 8) (q := 1229) rfl rfl) 0 rfl rfl <|
    V_iconst (tat ok_L_law_20 (i := 9) (q := 1230) rfl rfl) ic_3 <|
    V_iadd (tat ok_L_law_20 (i := 10) (q := 1231) rfl rfl) <|
    V_xa (tat ok_L_law_20 (i := 11) (q := 1232) rfl rfl) rfl b3 e3 <|
    V_cv3 (ct_X8_lay I L a1 a2 a3 ev) mo_X8_lay (tat ok_L_law_20 (i := 12) (q := 1235) rfl rfl) ml_L_162 rfl ⟨by decide, _, rfl, rfl⟩ ⟨(Nat.le_of_ble_eq_true rfl), (Nat.le_of_ble_eq_true rfl)⟩ ⟨(Nat.le_of_ble_eq_true rfl), (Nat.le_of_ble_eq_true rfl)⟩ (Nat.le_of_ble_eq_true rfl) <|
    V_pop (tat ok_L_law_20 (i := 13) (q := 1236) rfl rfl) rfl <|
    V_aload_n (tat ok_L_law_20 (i := 14) (q := 1237) rfl rfl) 1 rfl rfl <|
    V_aload_n (tat ok_L_law_20 (i := 15) (q := 1238) rfl rfl) 3 rfl rfl <|
    V_iload_n (tat ok_L_law_20 (i := 16) (q := 1239) rfl rfl) 0 rfl rfl <|
    V_iconst (tat ok_L_law_20 (i := 17) (q := 1240) rfl rfl) ic_1 <|
    V_iadd (tat ok_L_law_20 (i := 18) (q := 1241) rfl rfl) <|
    V_xa (tat ok_L_law_20 (i := 19) (q := 1242) rfl rfl) rfl b1 e1 <|
    V_aload_n (tat ok_L_law_20 (i := 20) (q := 1243) rfl rfl) 3 rfl rfl <|
    V_iload_n (tat ok_L_law_20 (i := 21) (q := 1244) rfl rfl) 0 rfl rfl <|
    V_iconst (tat ok_L_law_20 (i := 22) (q := 1245) rfl rfl) ic_2 <|
    V_iadd (tat ok_L_law_20 (i := 23) (q := 1246) rfl rfl) <|
    V_xa (tat ok_L_law_20 (i := 24) (q := 1247) rfl rfl) rfl b2 e2 <|
    V_aload_n (tat ok_L_law_20 (i := 25) (q := 1248) rfl rfl) 3 rfl rfl <|
    V_iload_n (tat ok_L_law_20 (i := 26) (q := 1249) rfl rfl) 0 rfl rfl <|
    V_iconst (tat ok_L_law_20 (i := 27) (q := 1250) rfl rfl) ic_3 <|
    V_iadd (tat ok_L_law_20 (i := 28) (q := 1251) rfl rfl) <|
    V_xa (tat ok_L_law_20 (i := 29) (q := 1252) rfl rfl) rfl b3 e3 <|
    V_cv3 (ct_X9_lay (p2 v) L a1 a2 a3 ew) mo_X9_lay (tat ok_L_law_20 (i := 30) (q := 1255) rfl rfl) ml_L_165 rfl ⟨by decide, _, rfl, rfl⟩ ⟨(Nat.le_of_ble_eq_true rfl), (Nat.le_of_ble_eq_true rfl)⟩ ⟨(Nat.le_of_ble_eq_true rfl), (Nat.le_of_ble_eq_true rfl)⟩ (Nat.le_of_ble_eq_true rfl) <|
    V_pop (tat ok_L_law_20 (i := 31) (q := 1256) rfl rfl) rfl <|
    V_goto (tat ok_L_law_20 (i := 32) (q := 1259) rfl rfl) rfl <|
    hk _ _ hJ
def S_35 (J : WI → WL → Prop) (I : WI) (L : WL) (a1 a2 a3 a4 : Int32) : Prop := ∃ w, (F_X9_read (p1 (p2 (F_X8_read I L a1 a2 a3 a4))) (p2 (p2 (F_X8_read I L a1 a2 a3 a4))) a1 a2 a3 a4) = some w ∧ J (p1 (p2 w)) (p2 (p2 w))
theorem V_case_35 {n : Nat} {xs : Nat → Int32} {J : WI → WL → Prop} {I : WI} {L : WL} {i a1 a2 a3 a4 : Int32} (b1 : vp_in (i + 1) n) (b2 : vp_in (i + 2) n) (b3 : vp_in (i + 3) n) (b4 : vp_in (i + 4) n) (e1 : xs (Int32.toNatClampNeg (i + 1)) = a1) (e2 : xs (Int32.toNatClampNeg (i + 2)) = a2) (e3 : xs (Int32.toNatClampNeg (i + 3)) = a3) (e4 : xs (Int32.toNatClampNeg (i + 4)) = a4) (hk : ∀ I L, J I L → V (ZL n xs) 1348 [(3, .int i), (2, .ref 33), (1, .ref 0), (0, .ref 2999)] [] ly0 I L R0 45 8044) (h : S_35 J I L a1 a2 a3 a4) : V (ZL n xs) 1259 [(3, .int i), (2, .ref 33), (1, .ref 0), (0, .ref 2999)] [] ly0 I L R0 45 8044 := by
  obtain ⟨w, ew, hJ⟩ := h
  exact V_aload_n (tat ok_L_law_20 (i := 33) (q := 1260) rfl rfl) 2 rfl rfl <|
    V_aload_n (tat ok_L_law_20 (i := 34) (q := 1261) rfl rfl) 3 rfl rfl <|
    V_iload_n (tat ok_L_law_20 (i := 35) (q := 1262) rfl rfl) 0 rfl rfl <|
    V_iconst (tat ok_L_law_20 (i := 36) (q := 1263) rfl rfl) ic_1 <|
    V_iadd (tat ok_L_law_20 (i := 37) (q := 1264) rfl rfl) <|
    V_xa (tat ok_L_law_20 (i := 38) (q := 1265) rfl rfl) rfl b1 e1 <|
    V_aload_n (tat ok_L_law_20 (i := 39) (q := 1266) rfl rfl) 3 rfl rfl <|
    V_iload_n (tat ok_L_law_21 (i := 0) (q := 1267) rfl rfl) 0 rfl rfl <|
    V_iconst (tat ok_L_law_21 (i := 1) (q := 1268) rfl rfl) ic_2 <|
    V_iadd (tat ok_L_law_21 (i := 2) (q := 1269) rfl rfl) <|
    V_xa (tat ok_L_law_21 (i := 3) (q := 1270) rfl rfl) rfl b2 e2 <|
    V_aload_n (tat ok_L_law_21 (i := 4) (q := 1271) rfl rfl) 3 rfl rfl <|
    V_iload_n (tat ok_L_law_21 (i := 5) (q := 1272) rfl rfl) 0 rfl rfl <|
    V_iconst (tat ok_L_law_21 (i := 6) (q := 1273) rfl rfl) ic_3 <|
    V_iadd (tat ok_L_law_21 (i := 7) (q := 1274) rfl rfl) <|
    V_xa (tat ok_L_law_21 (i := 8) (q := 1275) rfl rfl) rfl b3 e3 <|
    V_aload_n (tat ok_L_law_21 (i := 9) (q := 1276) rfl rfl) 3 rfl rfl <|
    V_iload_n (tat ok_L_law_21 (i := 10) (q := 1277) rfl rfl) 0 rfl rfl <|
    V_iconst (tat ok_L_law_21 (i := 11) (q := 1278) rfl rfl) ic_4 <|
    V_iadd (tat ok_L_law_21 (i := 12) (q := 1279) rfl rfl) <|
    V_xa (tat ok_L_law_21 (i := 13) (q := 1280) rfl rfl) rfl b4 e4 <|
    V_cv4 (ct_X8_read I L a1 a2 a3 a4) mo_X8_read (tat ok_L_law_21 (i := 14) (q := 1283) rfl rfl) ml_L_166 rfl ⟨by decide, _, rfl, rfl⟩ ⟨(Nat.le_of_ble_eq_true rfl), (Nat.le_of_ble_eq_true rfl)⟩ ⟨(Nat.le_of_ble_eq_true rfl), (Nat.le_of_ble_eq_true rfl)⟩ (Nat.le_of_ble_eq_true rfl) <|
    V_pop (tat ok_L_law_21 (i := 15) (q := 1284) rfl rfl) rfl <|
    V_aload_n (tat ok_L_law_21 (i := 16) (q := 1285) rfl rfl) 1 rfl rfl <|
    V_aload_n (tat ok_L_law_21 (i := 17) (q := 1286) rfl rfl) 3 rfl rfl <|
    V_iload_n (tat ok_L_law_21 (i := 18) (q := 1287) rfl rfl) 0 rfl rfl <|
    V_iconst (tat ok_L_law_21 (i := 19) (q := 1288) rfl rfl) ic_1 <|
    V_iadd (tat ok_L_law_21 (i := 20) (q := 1289) rfl rfl) <|
    V_xa (tat ok_L_law_21 (i := 21) (q := 1290) rfl rfl) rfl b1 e1 <|
    V_aload_n (tat ok_L_law_21 (i := 22) (q := 1291) rfl rfl) 3 rfl rfl <|
    V_iload_n (tat ok_L_law_21 (i := 23) (q := 1292) rfl rfl) 0 rfl rfl <|
    V_iconst (tat ok_L_law_21 (i := 24) (q := 1293) rfl rfl) ic_2 <|
    V_iadd (tat ok_L_law_21 (i := 25) (q := 1294) rfl rfl) <|
    V_xa (tat ok_L_law_21 (i := 26) (q := 1295) rfl rfl) rfl b2 e2 <|
    V_aload_n (tat ok_L_law_21 (i := 27) (q := 1296) rfl rfl) 3 rfl rfl <|
    V_iload_n (tat ok_L_law_21 (i := 28) (q := 1297) rfl rfl) 0 rfl rfl <|
    V_iconst (tat ok_L_law_21 (i := 29) (q := 1298) rfl rfl) ic_3 <|
    V_iadd (tat ok_L_law_21 (i := 30) (q := 1299) rfl rfl) <|
    V_xa (tat ok_L_law_21 (i := 31) (q := 1300) rfl rfl) rfl b3 e3 <|
    V_aload_n (tat ok_L_law_21 (i := 32) (q := 1301) rfl rfl) 3 rfl rfl <|
    V_iload_n (tat ok_L_law_21 (i := 33) (q := 1302) rfl rfl) 0 rfl rfl <|
    V_iconst (tat ok_L_law_21 (i := 34) (q := 1303) rfl rfl) ic_4 <|
    V_iadd (tat ok_L_law_21 (i := 35) (q := 1304) rfl rfl) <|
    V_xa (tat ok_L_law_21 (i := 36) (q := 1305) rfl rfl) rfl b4 e4 <|
    V_cv4 (ct_X9_read (p1 (p2 (F_X8_read I L a1 a2 a3 a4))) (p2 (p2 (F_X8_read I L a1 a2 a3 a4))) a1 a2 a3 a4 ew) mo_X9_read (tat ok_L_law_21 (i := 37) (q := 1308) rfl rfl) ml_L_169 rfl ⟨by decide, _, rfl, rfl⟩ ⟨(Nat.le_of_ble_eq_true rfl), (Nat.le_of_ble_eq_true rfl)⟩ ⟨(Nat.le_of_ble_eq_true rfl), (Nat.le_of_ble_eq_true rfl)⟩ (Nat.le_of_ble_eq_true rfl) <|
    V_pop (tat ok_L_law_21 (i := 38) (q := 1309) rfl rfl) rfl <|
    V_goto (tat ok_L_law_21 (i := 39) (q := 1312) rfl rfl) rfl <|
    hk _ _ hJ
def S_36 (J : WI → WL → Prop) (I : WI) (L : WL) (a1 a2 a3 a4 : Int32) : Prop := J I L
theorem V_case_36 {n : Nat} {xs : Nat → Int32} {J : WI → WL → Prop} {I : WI} {L : WL} {i a1 a2 a3 a4 : Int32} (b1 : vp_in (i + 1) n) (b2 : vp_in (i + 2) n) (b3 : vp_in (i + 3) n) (b4 : vp_in (i + 4) n) (e1 : xs (Int32.toNatClampNeg (i + 1)) = a1) (e2 : xs (Int32.toNatClampNeg (i + 2)) = a2) (e3 : xs (Int32.toNatClampNeg (i + 3)) = a3) (e4 : xs (Int32.toNatClampNeg (i + 4)) = a4) (hk : ∀ I L, J I L → V (ZL n xs) 1348 [(3, .int i), (2, .ref 33), (1, .ref 0), (0, .ref 2999)] [] ly0 I L R0 45 8044) (h : S_36 J I L a1 a2 a3 a4) : V (ZL n xs) 1312 [(3, .int i), (2, .ref 33), (1, .ref 0), (0, .ref 2999)] [] ly0 I L R0 45 8044 := by
  have hJ := h
  exact V_aload_n (tat ok_L_law_22 (i := 0) (q := 1313) rfl rfl) 2 rfl rfl <|
    V_cv0 (ct_X8_torn I L ) mo_X8_torn (tat ok_L_law_22 (i := 1) (q := 1316) rfl rfl) ml_L_170 rfl ⟨by decide, _, rfl, rfl⟩ ⟨(Nat.le_of_ble_eq_true rfl), (Nat.le_of_ble_eq_true rfl)⟩ ⟨(Nat.le_of_ble_eq_true rfl), (Nat.le_of_ble_eq_true rfl)⟩ (Nat.le_of_ble_eq_true rfl) <|
    V_pop (tat ok_L_law_22 (i := 2) (q := 1317) rfl rfl) rfl <|
    V_aload_n (tat ok_L_law_22 (i := 3) (q := 1318) rfl rfl) 1 rfl rfl <|
    V_cv0 (ct_X9_torn I L ) mo_X9_torn (tat ok_L_law_22 (i := 4) (q := 1321) rfl rfl) ml_L_173 rfl ⟨by decide, _, rfl, rfl⟩ ⟨(Nat.le_of_ble_eq_true rfl), (Nat.le_of_ble_eq_true rfl)⟩ ⟨(Nat.le_of_ble_eq_true rfl), (Nat.le_of_ble_eq_true rfl)⟩ (Nat.le_of_ble_eq_true rfl) <|
    V_pop (tat ok_L_law_22 (i := 5) (q := 1322) rfl rfl) rfl <|
    V_goto (tat ok_L_law_22 (i := 6) (q := 1325) rfl rfl) rfl <|
    hk _ _ hJ
def S_37 (J : WI → WL → Prop) (I : WI) (L : WL) (a1 a2 a3 a4 : Int32) : Prop := ∃ w, (F_X9_count I L a1) = some w ∧ (F_X8_count I L a1) = w ∧ J I L
theorem V_case_37 {n : Nat} {xs : Nat → Int32} {J : WI → WL → Prop} {I : WI} {L : WL} {i a1 a2 a3 a4 : Int32} (b1 : vp_in (i + 1) n) (b2 : vp_in (i + 2) n) (b3 : vp_in (i + 3) n) (b4 : vp_in (i + 4) n) (e1 : xs (Int32.toNatClampNeg (i + 1)) = a1) (e2 : xs (Int32.toNatClampNeg (i + 2)) = a2) (e3 : xs (Int32.toNatClampNeg (i + 3)) = a3) (e4 : xs (Int32.toNatClampNeg (i + 4)) = a4) (hk : ∀ I L, J I L → V (ZL n xs) 1348 [(3, .int i), (2, .ref 33), (1, .ref 0), (0, .ref 2999)] [] ly0 I L R0 45 8044) (h : S_37 J I L a1 a2 a3 a4) : V (ZL n xs) 1325 [(3, .int i), (2, .ref 33), (1, .ref 0), (0, .ref 2999)] [] ly0 I L R0 45 8044 := by
  obtain ⟨w, ew, hq, hJ⟩ := h
  exact V_aload_n (tat ok_L_law_22 (i := 7) (q := 1326) rfl rfl) 2 rfl rfl <|
    V_aload_n (tat ok_L_law_22 (i := 8) (q := 1327) rfl rfl) 3 rfl rfl <|
    V_iload_n (tat ok_L_law_22 (i := 9) (q := 1328) rfl rfl) 0 rfl rfl <|
    V_iconst (tat ok_L_law_22 (i := 10) (q := 1329) rfl rfl) ic_1 <|
    V_iadd (tat ok_L_law_22 (i := 11) (q := 1330) rfl rfl) <|
    V_xa (tat ok_L_law_22 (i := 12) (q := 1331) rfl rfl) rfl b1 e1 <|
    V_cv1 (ct_X8_count I L a1) mo_X8_count (tat ok_L_law_22 (i := 13) (q := 1334) rfl rfl) ml_L_174 rfl ⟨by decide, _, rfl, rfl⟩ ⟨(Nat.le_of_ble_eq_true rfl), (Nat.le_of_ble_eq_true rfl)⟩ ⟨(Nat.le_of_ble_eq_true rfl), (Nat.le_of_ble_eq_true rfl)⟩ (Nat.le_of_ble_eq_true rfl) <|
    V_aload_n (tat ok_L_law_22 (i := 14) (q := 1335) rfl rfl) 1 rfl rfl <|
    V_aload_n (tat ok_L_law_22 (i := 15) (q := 1336) rfl rfl) 3 rfl rfl <|
    V_iload_n (tat ok_L_law_22 (i := 16) (q := 1337) rfl rfl) 0 rfl rfl <|
    V_iconst (tat ok_L_law_22 (i := 17) (q := 1338) rfl rfl) ic_1 <|
    V_iadd (tat ok_L_law_22 (i := 18) (q := 1339) rfl rfl) <|
    V_xa (tat ok_L_law_22 (i := 19) (q := 1340) rfl rfl) rfl b1 e1 <|
    V_cv1 (ct_X9_count I L a1 ew) mo_X9_count (tat ok_L_law_22 (i := 20) (q := 1343) rfl rfl) ml_L_177 rfl ⟨by decide, _, rfl, rfl⟩ ⟨(Nat.le_of_ble_eq_true rfl), (Nat.le_of_ble_eq_true rfl)⟩ ⟨(Nat.le_of_ble_eq_true rfl), (Nat.le_of_ble_eq_true rfl)⟩ (Nat.le_of_ble_eq_true rfl) <|
    V_icmp_eq (tat ok_L_law_22 (i := 21) (q := 1346) rfl rfl) rfl (fun _ => hk _ _ hJ) (fun c => absurd hq c)
def SW (J : WI → WL → Prop) (I : WI) (L : WL) (a0 a1 a2 a3 a4 : Int32) : Prop := (a0 &&& 63 = Int32.ofNat 0 → S_0 J I L a1 a2 a3 a4) ∧ (a0 &&& 63 = Int32.ofNat 1 → S_1 J I L a1 a2 a3 a4) ∧ (a0 &&& 63 = Int32.ofNat 2 → S_2 J I L a1 a2 a3 a4) ∧ (a0 &&& 63 = Int32.ofNat 3 → S_3 J I L a1 a2 a3 a4) ∧ (a0 &&& 63 = Int32.ofNat 4 → S_4 J I L a1 a2 a3 a4) ∧ (a0 &&& 63 = Int32.ofNat 5 → S_5 J I L a1 a2 a3 a4) ∧ (a0 &&& 63 = Int32.ofNat 6 → S_6 J I L a1 a2 a3 a4) ∧ (a0 &&& 63 = Int32.ofNat 7 → S_7 J I L a1 a2 a3 a4) ∧ (a0 &&& 63 = Int32.ofNat 8 → S_8 J I L a1 a2 a3 a4) ∧ (a0 &&& 63 = Int32.ofNat 9 → S_9 J I L a1 a2 a3 a4) ∧ (a0 &&& 63 = Int32.ofNat 10 → S_10 J I L a1 a2 a3 a4) ∧ (a0 &&& 63 = Int32.ofNat 11 → S_11 J I L a1 a2 a3 a4) ∧ (a0 &&& 63 = Int32.ofNat 12 → S_12 J I L a1 a2 a3 a4) ∧ (a0 &&& 63 = Int32.ofNat 13 → S_13 J I L a1 a2 a3 a4) ∧ (a0 &&& 63 = Int32.ofNat 14 → S_14 J I L a1 a2 a3 a4) ∧ (a0 &&& 63 = Int32.ofNat 15 → S_15 J I L a1 a2 a3 a4) ∧ (a0 &&& 63 = Int32.ofNat 16 → S_16 J I L a1 a2 a3 a4) ∧ (a0 &&& 63 = Int32.ofNat 17 → S_17 J I L a1 a2 a3 a4) ∧ (a0 &&& 63 = Int32.ofNat 18 → S_18 J I L a1 a2 a3 a4) ∧ (a0 &&& 63 = Int32.ofNat 19 → S_19 J I L a1 a2 a3 a4) ∧ (a0 &&& 63 = Int32.ofNat 20 → S_20 J I L a1 a2 a3 a4) ∧ (a0 &&& 63 = Int32.ofNat 21 → S_21 J I L a1 a2 a3 a4) ∧ (a0 &&& 63 = Int32.ofNat 22 → S_22 J I L a1 a2 a3 a4) ∧ (a0 &&& 63 = Int32.ofNat 23 → S_23 J I L a1 a2 a3 a4) ∧ (a0 &&& 63 = Int32.ofNat 24 → S_24 J I L a1 a2 a3 a4) ∧ (a0 &&& 63 = Int32.ofNat 25 → S_25 J I L a1 a2 a3 a4) ∧ (a0 &&& 63 = Int32.ofNat 26 → S_26 J I L a1 a2 a3 a4) ∧ (a0 &&& 63 = Int32.ofNat 27 → S_27 J I L a1 a2 a3 a4) ∧ (a0 &&& 63 = Int32.ofNat 28 → S_28 J I L a1 a2 a3 a4) ∧ (a0 &&& 63 = Int32.ofNat 29 → S_29 J I L a1 a2 a3 a4) ∧ (a0 &&& 63 = Int32.ofNat 30 → S_30 J I L a1 a2 a3 a4) ∧ (a0 &&& 63 = Int32.ofNat 31 → S_31 J I L a1 a2 a3 a4) ∧ (a0 &&& 63 = Int32.ofNat 32 → S_32 J I L a1 a2 a3 a4) ∧ (a0 &&& 63 = Int32.ofNat 33 → S_33 J I L a1 a2 a3 a4) ∧ (a0 &&& 63 = Int32.ofNat 34 → S_34 J I L a1 a2 a3 a4) ∧ (a0 &&& 63 = Int32.ofNat 35 → S_35 J I L a1 a2 a3 a4) ∧ (a0 &&& 63 = Int32.ofNat 36 → S_36 J I L a1 a2 a3 a4) ∧ (a0 &&& 63 = Int32.ofNat 37 → S_37 J I L a1 a2 a3 a4) ∧ ((∀ k : Nat, k < 38 → ¬ a0 &&& 63 = Int32.ofNat k) → J I L)
theorem V_sw {n : Nat} {xs : Nat → Int32} {J : WI → WL → Prop} {I : WI} {L : WL} {i a0 a1 a2 a3 a4 : Int32} (b1 : vp_in (i + 1) n) (b2 : vp_in (i + 2) n) (b3 : vp_in (i + 3) n) (b4 : vp_in (i + 4) n) (e1 : xs (Int32.toNatClampNeg (i + 1)) = a1) (e2 : xs (Int32.toNatClampNeg (i + 2)) = a2) (e3 : xs (Int32.toNatClampNeg (i + 3)) = a3) (e4 : xs (Int32.toNatClampNeg (i + 4)) = a4) (hk : ∀ I L, J I L → V (ZL n xs) 1348 [(3, .int i), (2, .ref 33), (1, .ref 0), (0, .ref 2999)] [] ly0 I L R0 45 8044) (h : SW J I L a0 a1 a2 a3 a4) : V (ZL n xs) 32 [(3, .int i), (2, .ref 33), (1, .ref 0), (0, .ref 2999)] [.int (a0 &&& 63)] ly0 I L R0 45 8044 := by
  obtain ⟨h0, h1, h2, h3, h4, h5, h6, h7, h8, h9, h10, h11, h12, h13, h14, h15, h16, h17, h18, h19, h20, h21, h22, h23, h24, h25, h26, h27, h28, h29, h30, h31, h32, h33, h34, h35, h36, h37, hd⟩ := h
  by_cases c0 : a0 &&& 63 = Int32.ofNat 0
  · exact V_tswJ (tgt := 200) (off := 168) 0 (tat ok_L_law_0 (i := 21) (q := 200) rfl rfl) (sw_at 0 (by decide) c0) ⟨rfl, by decide⟩ rfl (V_case_0 b1 b2 b3 b4 e1 e2 e3 e4 hk (h0 c0))
  by_cases c1 : a0 &&& 63 = Int32.ofNat 1
  · exact V_tswJ (tgt := 253) (off := 221) 1 (tat ok_L_law_0 (i := 21) (q := 200) rfl rfl) (sw_at 1 (by decide) c1) ⟨rfl, by decide⟩ rfl (V_case_1 b1 b2 b3 b4 e1 e2 e3 e4 hk (h1 c1))
  by_cases c2 : a0 &&& 63 = Int32.ofNat 2
  · exact V_tswJ (tgt := 276) (off := 244) 2 (tat ok_L_law_0 (i := 21) (q := 200) rfl rfl) (sw_at 2 (by decide) c2) ⟨rfl, by decide⟩ rfl (V_case_2 b1 b2 b3 b4 e1 e2 e3 e4 hk (h2 c2))
  by_cases c3 : a0 &&& 63 = Int32.ofNat 3
  · exact V_tswJ (tgt := 289) (off := 257) 3 (tat ok_L_law_0 (i := 21) (q := 200) rfl rfl) (sw_at 3 (by decide) c3) ⟨rfl, by decide⟩ rfl (V_case_3 b1 b2 b3 b4 e1 e2 e3 e4 hk (h3 c3))
  by_cases c4 : a0 &&& 63 = Int32.ofNat 4
  · exact V_tswJ (tgt := 302) (off := 270) 4 (tat ok_L_law_0 (i := 21) (q := 200) rfl rfl) (sw_at 4 (by decide) c4) ⟨rfl, by decide⟩ rfl (V_case_4 b1 b2 b3 b4 e1 e2 e3 e4 hk (h4 c4))
  by_cases c5 : a0 &&& 63 = Int32.ofNat 5
  · exact V_tswJ (tgt := 325) (off := 293) 5 (tat ok_L_law_0 (i := 21) (q := 200) rfl rfl) (sw_at 5 (by decide) c5) ⟨rfl, by decide⟩ rfl (V_case_5 b1 b2 b3 b4 e1 e2 e3 e4 hk (h5 c5))
  by_cases c6 : a0 &&& 63 = Int32.ofNat 6
  · exact V_tswJ (tgt := 358) (off := 326) 6 (tat ok_L_law_0 (i := 21) (q := 200) rfl rfl) (sw_at 6 (by decide) c6) ⟨rfl, by decide⟩ rfl (V_case_6 b1 b2 b3 b4 e1 e2 e3 e4 hk (h6 c6))
  by_cases c7 : a0 &&& 63 = Int32.ofNat 7
  · exact V_tswJ (tgt := 381) (off := 349) 7 (tat ok_L_law_0 (i := 21) (q := 200) rfl rfl) (sw_at 7 (by decide) c7) ⟨rfl, by decide⟩ rfl (V_case_7 b1 b2 b3 b4 e1 e2 e3 e4 hk (h7 c7))
  by_cases c8 : a0 &&& 63 = Int32.ofNat 8
  · exact V_tswJ (tgt := 414) (off := 382) 8 (tat ok_L_law_0 (i := 21) (q := 200) rfl rfl) (sw_at 8 (by decide) c8) ⟨rfl, by decide⟩ rfl (V_case_8 b1 b2 b3 b4 e1 e2 e3 e4 hk (h8 c8))
  by_cases c9 : a0 &&& 63 = Int32.ofNat 9
  · exact V_tswJ (tgt := 473) (off := 441) 9 (tat ok_L_law_0 (i := 21) (q := 200) rfl rfl) (sw_at 9 (by decide) c9) ⟨rfl, by decide⟩ rfl (V_case_9 b1 b2 b3 b4 e1 e2 e3 e4 hk (h9 c9))
  by_cases c10 : a0 &&& 63 = Int32.ofNat 10
  · exact V_tswJ (tgt := 532) (off := 500) 10 (tat ok_L_law_0 (i := 21) (q := 200) rfl rfl) (sw_at 10 (by decide) c10) ⟨rfl, by decide⟩ rfl (V_case_10 b1 b2 b3 b4 e1 e2 e3 e4 hk (h10 c10))
  by_cases c11 : a0 &&& 63 = Int32.ofNat 11
  · exact V_tswJ (tgt := 565) (off := 533) 11 (tat ok_L_law_0 (i := 21) (q := 200) rfl rfl) (sw_at 11 (by decide) c11) ⟨rfl, by decide⟩ rfl (V_case_11 b1 b2 b3 b4 e1 e2 e3 e4 hk (h11 c11))
  by_cases c12 : a0 &&& 63 = Int32.ofNat 12
  · exact V_tswJ (tgt := 598) (off := 566) 12 (tat ok_L_law_0 (i := 21) (q := 200) rfl rfl) (sw_at 12 (by decide) c12) ⟨rfl, by decide⟩ rfl (V_case_12 b1 b2 b3 b4 e1 e2 e3 e4 hk (h12 c12))
  by_cases c13 : a0 &&& 63 = Int32.ofNat 13
  · exact V_tswJ (tgt := 621) (off := 589) 13 (tat ok_L_law_0 (i := 21) (q := 200) rfl rfl) (sw_at 13 (by decide) c13) ⟨rfl, by decide⟩ rfl (V_case_13 b1 b2 b3 b4 e1 e2 e3 e4 hk (h13 c13))
  by_cases c14 : a0 &&& 63 = Int32.ofNat 14
  · exact V_tswJ (tgt := 644) (off := 612) 14 (tat ok_L_law_0 (i := 21) (q := 200) rfl rfl) (sw_at 14 (by decide) c14) ⟨rfl, by decide⟩ rfl (V_case_14 b1 b2 b3 b4 e1 e2 e3 e4 hk (h14 c14))
  by_cases c15 : a0 &&& 63 = Int32.ofNat 15
  · exact V_tswJ (tgt := 657) (off := 625) 15 (tat ok_L_law_0 (i := 21) (q := 200) rfl rfl) (sw_at 15 (by decide) c15) ⟨rfl, by decide⟩ rfl (V_case_15 b1 b2 b3 b4 e1 e2 e3 e4 hk (h15 c15))
  by_cases c16 : a0 &&& 63 = Int32.ofNat 16
  · exact V_tswJ (tgt := 680) (off := 648) 16 (tat ok_L_law_0 (i := 21) (q := 200) rfl rfl) (sw_at 16 (by decide) c16) ⟨rfl, by decide⟩ rfl (V_case_16 b1 b2 b3 b4 e1 e2 e3 e4 hk (h16 c16))
  by_cases c17 : a0 &&& 63 = Int32.ofNat 17
  · exact V_tswJ (tgt := 703) (off := 671) 17 (tat ok_L_law_0 (i := 21) (q := 200) rfl rfl) (sw_at 17 (by decide) c17) ⟨rfl, by decide⟩ rfl (V_case_17 b1 b2 b3 b4 e1 e2 e3 e4 hk (h17 c17))
  by_cases c18 : a0 &&& 63 = Int32.ofNat 18
  · exact V_tswJ (tgt := 726) (off := 694) 18 (tat ok_L_law_0 (i := 21) (q := 200) rfl rfl) (sw_at 18 (by decide) c18) ⟨rfl, by decide⟩ rfl (V_case_18 b1 b2 b3 b4 e1 e2 e3 e4 hk (h18 c18))
  by_cases c19 : a0 &&& 63 = Int32.ofNat 19
  · exact V_tswJ (tgt := 749) (off := 717) 19 (tat ok_L_law_0 (i := 21) (q := 200) rfl rfl) (sw_at 19 (by decide) c19) ⟨rfl, by decide⟩ rfl (V_case_19 b1 b2 b3 b4 e1 e2 e3 e4 hk (h19 c19))
  by_cases c20 : a0 &&& 63 = Int32.ofNat 20
  · exact V_tswJ (tgt := 772) (off := 740) 20 (tat ok_L_law_0 (i := 21) (q := 200) rfl rfl) (sw_at 20 (by decide) c20) ⟨rfl, by decide⟩ rfl (V_case_20 b1 b2 b3 b4 e1 e2 e3 e4 hk (h20 c20))
  by_cases c21 : a0 &&& 63 = Int32.ofNat 21
  · exact V_tswJ (tgt := 795) (off := 763) 21 (tat ok_L_law_0 (i := 21) (q := 200) rfl rfl) (sw_at 21 (by decide) c21) ⟨rfl, by decide⟩ rfl (V_case_21 b1 b2 b3 b4 e1 e2 e3 e4 hk (h21 c21))
  by_cases c22 : a0 &&& 63 = Int32.ofNat 22
  · exact V_tswJ (tgt := 818) (off := 786) 22 (tat ok_L_law_0 (i := 21) (q := 200) rfl rfl) (sw_at 22 (by decide) c22) ⟨rfl, by decide⟩ rfl (V_case_22 b1 b2 b3 b4 e1 e2 e3 e4 hk (h22 c22))
  by_cases c23 : a0 &&& 63 = Int32.ofNat 23
  · exact V_tswJ (tgt := 877) (off := 845) 23 (tat ok_L_law_0 (i := 21) (q := 200) rfl rfl) (sw_at 23 (by decide) c23) ⟨rfl, by decide⟩ rfl (V_case_23 b1 b2 b3 b4 e1 e2 e3 e4 hk (h23 c23))
  by_cases c24 : a0 &&& 63 = Int32.ofNat 24
  · exact V_tswJ (tgt := 910) (off := 878) 24 (tat ok_L_law_0 (i := 21) (q := 200) rfl rfl) (sw_at 24 (by decide) c24) ⟨rfl, by decide⟩ rfl (V_case_24 b1 b2 b3 b4 e1 e2 e3 e4 hk (h24 c24))
  by_cases c25 : a0 &&& 63 = Int32.ofNat 25
  · exact V_tswJ (tgt := 933) (off := 901) 25 (tat ok_L_law_0 (i := 21) (q := 200) rfl rfl) (sw_at 25 (by decide) c25) ⟨rfl, by decide⟩ rfl (V_case_25 b1 b2 b3 b4 e1 e2 e3 e4 hk (h25 c25))
  by_cases c26 : a0 &&& 63 = Int32.ofNat 26
  · exact V_tswJ (tgt := 956) (off := 924) 26 (tat ok_L_law_0 (i := 21) (q := 200) rfl rfl) (sw_at 26 (by decide) c26) ⟨rfl, by decide⟩ rfl (V_case_26 b1 b2 b3 b4 e1 e2 e3 e4 hk (h26 c26))
  by_cases c27 : a0 &&& 63 = Int32.ofNat 27
  · exact V_tswJ (tgt := 979) (off := 947) 27 (tat ok_L_law_0 (i := 21) (q := 200) rfl rfl) (sw_at 27 (by decide) c27) ⟨rfl, by decide⟩ rfl (V_case_27 b1 b2 b3 b4 e1 e2 e3 e4 hk (h27 c27))
  by_cases c28 : a0 &&& 63 = Int32.ofNat 28
  · exact V_tswJ (tgt := 1032) (off := 1000) 28 (tat ok_L_law_0 (i := 21) (q := 200) rfl rfl) (sw_at 28 (by decide) c28) ⟨rfl, by decide⟩ rfl (V_case_28 b1 b2 b3 b4 e1 e2 e3 e4 hk (h28 c28))
  by_cases c29 : a0 &&& 63 = Int32.ofNat 29
  · exact V_tswJ (tgt := 1081) (off := 1049) 29 (tat ok_L_law_0 (i := 21) (q := 200) rfl rfl) (sw_at 29 (by decide) c29) ⟨rfl, by decide⟩ rfl (V_case_29 b1 b2 b3 b4 e1 e2 e3 e4 hk (h29 c29))
  by_cases c30 : a0 &&& 63 = Int32.ofNat 30
  · exact V_tswJ (tgt := 1104) (off := 1072) 30 (tat ok_L_law_0 (i := 21) (q := 200) rfl rfl) (sw_at 30 (by decide) c30) ⟨rfl, by decide⟩ rfl (V_case_30 b1 b2 b3 b4 e1 e2 e3 e4 hk (h30 c30))
  by_cases c31 : a0 &&& 63 = Int32.ofNat 31
  · exact V_tswJ (tgt := 1127) (off := 1095) 31 (tat ok_L_law_0 (i := 21) (q := 200) rfl rfl) (sw_at 31 (by decide) c31) ⟨rfl, by decide⟩ rfl (V_case_31 b1 b2 b3 b4 e1 e2 e3 e4 hk (h31 c31))
  by_cases c32 : a0 &&& 63 = Int32.ofNat 32
  · exact V_tswJ (tgt := 1150) (off := 1118) 32 (tat ok_L_law_0 (i := 21) (q := 200) rfl rfl) (sw_at 32 (by decide) c32) ⟨rfl, by decide⟩ rfl (V_case_32 b1 b2 b3 b4 e1 e2 e3 e4 hk (h32 c32))
  by_cases c33 : a0 &&& 63 = Int32.ofNat 33
  · exact V_tswJ (tgt := 1173) (off := 1141) 33 (tat ok_L_law_0 (i := 21) (q := 200) rfl rfl) (sw_at 33 (by decide) c33) ⟨rfl, by decide⟩ rfl (V_case_33 b1 b2 b3 b4 e1 e2 e3 e4 hk (h33 c33))
  by_cases c34 : a0 &&& 63 = Int32.ofNat 34
  · exact V_tswJ (tgt := 1216) (off := 1184) 34 (tat ok_L_law_0 (i := 21) (q := 200) rfl rfl) (sw_at 34 (by decide) c34) ⟨rfl, by decide⟩ rfl (V_case_34 b1 b2 b3 b4 e1 e2 e3 e4 hk (h34 c34))
  by_cases c35 : a0 &&& 63 = Int32.ofNat 35
  · exact V_tswJ (tgt := 1259) (off := 1227) 35 (tat ok_L_law_0 (i := 21) (q := 200) rfl rfl) (sw_at 35 (by decide) c35) ⟨rfl, by decide⟩ rfl (V_case_35 b1 b2 b3 b4 e1 e2 e3 e4 hk (h35 c35))
  by_cases c36 : a0 &&& 63 = Int32.ofNat 36
  · exact V_tswJ (tgt := 1312) (off := 1280) 36 (tat ok_L_law_0 (i := 21) (q := 200) rfl rfl) (sw_at 36 (by decide) c36) ⟨rfl, by decide⟩ rfl (V_case_36 b1 b2 b3 b4 e1 e2 e3 e4 hk (h36 c36))
  by_cases c37 : a0 &&& 63 = Int32.ofNat 37
  · exact V_tswJ (tgt := 1325) (off := 1293) 37 (tat ok_L_law_0 (i := 21) (q := 200) rfl rfl) (sw_at 37 (by decide) c37) ⟨rfl, by decide⟩ rfl (V_case_37 b1 b2 b3 b4 e1 e2 e3 e4 hk (h37 c37))
  have hz : ∀ k : Nat, k < 38 → ¬ a0 &&& 63 = Int32.ofNat k := fun k hk => match k, hk with
    | 0, _ => c0
    | 1, _ => c1
    | 2, _ => c2
    | 3, _ => c3
    | 4, _ => c4
    | 5, _ => c5
    | 6, _ => c6
    | 7, _ => c7
    | 8, _ => c8
    | 9, _ => c9
    | 10, _ => c10
    | 11, _ => c11
    | 12, _ => c12
    | 13, _ => c13
    | 14, _ => c14
    | 15, _ => c15
    | 16, _ => c16
    | 17, _ => c17
    | 18, _ => c18
    | 19, _ => c19
    | 20, _ => c20
    | 21, _ => c21
    | 22, _ => c22
    | 23, _ => c23
    | 24, _ => c24
    | 25, _ => c25
    | 26, _ => c26
    | 27, _ => c27
    | 28, _ => c28
    | 29, _ => c29
    | 30, _ => c30
    | 31, _ => c31
    | 32, _ => c32
    | 33, _ => c33
    | 34, _ => c34
    | 35, _ => c35
    | 36, _ => c36
    | 37, _ => c37
    | k + 38, hk => absurd hk (by omega)
  exact V_tswD (tgt := 1348) (tat ok_L_law_0 (i := 21) (q := 200) rfl rfl) (sw_out hz) rfl (hk _ _ (hd hz))

theorem on_add (j k : Nat) : Int32.ofNat j + Int32.ofNat k = Int32.ofNat (j + k) := (Int32.ofNat_add j k).symm
theorem on_nat {j : Nat} (h : j < 2147483648) : Int32.toNatClampNeg (Int32.ofNat j) = j := Int32.toNatClampNeg_ofNat_of_lt h
theorem on_in {j n : Nat} (h : j < 2147483648) (hn : j < n) : vp_in (Int32.ofNat j) n := by
  intro hc
  rcases hc with hc | hc
  · rw [Int32.lt_iff_toInt_lt, Int32.toInt_ofNat_of_lt h] at hc
    have : (0 : Int32).toInt = 0 := by decide
    omega
  · rw [on_nat h] at hc
    omega
theorem on_lt {j n : Nat} (h : j < 2147483600) (hn : n < 2147483600) : Int32.ofNat n - 5 < Int32.ofNat j ↔ n < j + 5 := by
  have e : Int32.ofNat n = (Int32.ofNat n - 5) + 5 := by simp
  have h5 : (Int32.ofNat n - 5).toInt = (n : Int) - 5 := by
    rw [Int32.toInt_sub, Int32.toInt_ofNat_of_lt (by omega)]
    have : (5 : Int32).toInt = 5 := by decide
    rw [this]
    exact Int.bmod_eq_of_le (by omega) (by omega)
  rw [Int32.lt_iff_toInt_lt, h5, Int32.toInt_ofNat_of_lt (by omega)]
  omega
theorem V_loop {n : Nat} {xs : Nat → Int32} (hn : n < 2147480000) (J : Nat → WI → WL → Prop) (hs : ∀ j I L, J j I L → j + 5 ≤ n → SW (J (j + 5)) I L (xs j) (xs (j + 1)) (xs (j + 2)) (xs (j + 3)) (xs (j + 4))) : ∀ (f j : Nat) (I : WI) (L : WL), n ≤ j + f → j ≤ n → J j I L → V (ZL n xs) 18 [(3, .int (Int32.ofNat j)), (2, .ref 33), (1, .ref 0), (0, .ref 2999)] [] ly0 I L R0 45 8044 := by
  intro f
  induction f using Nat.strongRecOn with
  | ind f ih =>
    intro j I L hf hj hJ
    refine V_iload_n (tat ok_L_law_0 (i := 10) (q := 19) rfl rfl) 0 rfl rfl <|
      V_aload_n (tat ok_L_law_0 (i := 11) (q := 20) rfl rfl) 3 rfl rfl <|
      V_xlen (tat ok_L_law_0 (i := 12) (q := 21) rfl rfl) rfl <|
      V_iconst (tat ok_L_law_0 (i := 13) (q := 22) rfl rfl) ic_5 <|
      V_isub (tat ok_L_law_0 (i := 14) (q := 23) rfl rfl) <|
      V_icmp_gt (tat ok_L_law_0 (i := 15) (q := 26) rfl rfl) rfl (fun _ => V_iconst (tat ok_L_law_22 (i := 26) (q := 1355) rfl rfl) ic_1 <| V_lend (tat ok_L_law_22 (i := 27) (q := 1356) rfl rfl) ⟨(Nat.le_of_ble_eq_true rfl), (Nat.le_of_ble_eq_true rfl)⟩) (fun c => ?_)
    have hc : j + 5 ≤ n := by
      have := mt (on_lt (j := j) (n := n) (by omega) (by omega)).mpr c
      omega
    have hb : ∀ k, k < 5 → vp_in (Int32.ofNat j + Int32.ofNat k) n := fun k hk => by
      rw [on_add]
      exact on_in (by omega) (by omega)
    have he : ∀ k, k < 5 → xs (Int32.toNatClampNeg (Int32.ofNat j + Int32.ofNat k)) = xs (j + k) := fun k hk => by
      rw [on_add, on_nat (by omega)]
    refine V_aload_n (tat ok_L_law_0 (i := 16) (q := 27) rfl rfl) 3 rfl rfl <|
      V_iload_n (tat ok_L_law_0 (i := 17) (q := 28) rfl rfl) 0 rfl rfl <|
      V_xa (a := xs j) (tat ok_L_law_0 (i := 18) (q := 29) rfl rfl) rfl (on_in (by omega) (by omega)) (by rw [on_nat (by omega)]) <|
      V_bipush (tat ok_L_law_0 (i := 19) (q := 31) rfl rfl) bp_63 <|
      V_iand (tat ok_L_law_0 (i := 20) (q := 32) rfl rfl) <|
      V_sw (J := J (j + 5)) (hb 1 (by decide)) (hb 2 (by decide)) (hb 3 (by decide)) (hb 4 (by decide)) (he 1 (by decide)) (he 2 (by decide)) (he 3 (by decide)) (he 4 (by decide)) (fun I L hJ => ?_) (hs j I L hJ hc)
    refine V_iinc (v := Int32.ofNat (j + 5)) (lv' := [(3, .int (Int32.ofNat (j + 5))), (2, .ref 33), (1, .ref 0), (0, .ref 2999)]) (tat ok_L_law_22 (i := 24) (q := 1351) rfl rfl) 0 rfl (on_add j 5) (Nat.le_of_ble_eq_true rfl) rfl <|
      V_goto (tat ok_L_law_22 (i := 25) (q := 1354) rfl rfl) rfl <|
      ih (f - 5) (by omega) (j + 5) I L (by omega) (by omega) hJ

theorem Zr_z : Zr 0 (fun _ _ => 0) L8 (fun _ _ => none) := fun _ _ _ => ⟨rfl, rfl, rfl⟩
theorem V_head {n : Nat} {xs : Nat → Int32} {v : WI × WL} (hv : F_X9_keepDraft (p1 (F_X9_firstDraft I9 L8)) (p2 (F_X9_firstDraft I9 L8)) = some v) (k : V (ZL n xs) 18 [(3, .int 0), (2, .ref 33), (1, .ref 0), (0, .ref 2999)] [] ly0 (p1 v) (p2 v) R0 45 8044) : V (ZL n xs) 0 [(0, .ref 2999)] [] [] (fun _ _ => 0) L8 (fun _ _ => none) 0 0 :=
  V_newN 0 (yp 1) rfl rfl cf_X8 (tat ok_L_law_0 (i := 0) (q := 3) rfl rfl) (gw_in cl_L_7 rfl) (gw_in is_X8 rfl) (gw_in ii_X8 rfl) ⟨(Nat.le_of_ble_eq_true rfl), (Nat.le_of_ble_eq_true rfl)⟩ (by decide) Zr_z (by decide +kernel) <|
    V_dup (tat ok_L_law_0 (i := 1) (q := 4) rfl rfl) rfl <|
    V_callIN (As := []) ci_8 mo_X8_init rfl (tat ok_L_law_0 (i := 2) (q := 7) rfl rfl) (Or.inl ml_L_9) rfl rfl ⟨(Nat.le_of_ble_eq_true rfl), (Nat.le_of_ble_eq_true rfl)⟩ ⟨(Nat.le_of_ble_eq_true rfl), (Nat.le_of_ble_eq_true rfl)⟩ (Nat.le_of_ble_eq_true rfl) rfl <|
    V_astore_n (lv' := [(1, .ref 0), (0, .ref 2999)]) (tat ok_L_law_0 (i := 3) (q := 8) rfl rfl) rfl (by decide) (Nat.le_of_ble_eq_true rfl) rfl <|
    V_newN 33 (yp 34) rfl rfl cf_X9 (tat ok_L_law_0 (i := 4) (q := 11) rfl rfl) (gw_in cl_L_10 rfl) (gw_in is_X9 rfl) (gw_in ii_X9 rfl) ⟨(Nat.le_of_ble_eq_true rfl), (Nat.le_of_ble_eq_true rfl)⟩ (by decide) z8 (by decide +kernel) <|
    V_dup (tat ok_L_law_0 (i := 5) (q := 12) rfl rfl) rfl <|
    V_callIN (As := []) (ci_9 hv) mo_X9_init rfl (tat ok_L_law_0 (i := 6) (q := 15) rfl rfl) (Or.inl ml_L_12) rfl rfl ⟨(Nat.le_of_ble_eq_true rfl), (Nat.le_of_ble_eq_true rfl)⟩ ⟨(Nat.le_of_ble_eq_true rfl), (Nat.le_of_ble_eq_true rfl)⟩ (Nat.le_of_ble_eq_true rfl) rfl <|
    V_astore_n (lv' := [(2, .ref 33), (1, .ref 0), (0, .ref 2999)]) (tat ok_L_law_0 (i := 7) (q := 16) rfl rfl) rfl (by decide) (Nat.le_of_ble_eq_true rfl) rfl <|
    V_iconst (tat ok_L_law_0 (i := 8) (q := 17) rfl rfl) ic_0 <|
    V_istore_n (lv' := [(3, .int 0), (2, .ref 33), (1, .ref 0), (0, .ref 2999)]) (tat ok_L_law_0 (i := 9) (q := 18) rfl rfl) rfl (Nat.le_of_ble_eq_true rfl) rfl k
